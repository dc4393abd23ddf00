set_option maxHeartbeats 4000000 in
set_option maxRecDepth 100000 in
theorem c_X9_begin (l : Launch) (D : va_G) (cI : ClassId) (cB : ClassId) (cL : ClassId) (cZ : ClassId) (cG : ClassId) (TO : Nat) (TA : Nat) (aTO : Nat → Nat) (TO_kind : Int32) (TO_place : Int32) (TO_behind : Int32) (TO_word : Int64) (TO_value : Int32) (aTA : Nat → Nat) (TA_size : Int32) (TA_bytes : Nat → Int32) (TO_own : Nat → Int64) (aS : Nat) (vS : Nat) (sz : Nat) (b_TO_behind : zB TO_behind 0 1600) (b_TA_size : zB TA_size 0 1600) : Met l yX9_begin wsX9_begin ({ frames := 6, cells := 0, slots := 0, locals := 131 }) (xpT D [(cI, .int), (cB, .byte), (cL, .long), (cZ, .boolean), (cG, .array .int)] [(TO, .inr (9, oX9 TA aTO TO_kind TO_place TO_behind TO_word TO_value)), (TA, .inr (8, oX8 aTA TA_size)), ((aTA 0), .inl (cB, 1600, .inl TA_bytes)), ((aTO 1), .inl (cL, 17, .inr (.inl TO_own)))] sz aS vS [.ref TO]) (va_Qv (fun _ : Unit => True) (fun (_ : Unit) (t : State) => ∃ (nTO_kind : Int32), ∃ (nTO_place : Int32), ∃ (nTO_behind : Int32), ∃ (nTO_word : Int64), ∃ (nTO_value : Int32), zB nTO_kind 0 4 ∧ zB nTO_place 0 1600 ∧ zB nTO_behind 0 1600 ∧ xB D (va_A [(TO, .inr (9, oX9 TA aTO TO_kind TO_place TO_behind TO_word TO_value)), (TA, .inr (8, oX8 aTA TA_size)), ((aTA 0), .inl (cB, 1600, .inl TA_bytes)), ((aTO 1), .inl (cL, 17, .inr (.inl TO_own)))] sz) [(TO, .inr (9, oX9 TA aTO nTO_kind nTO_place nTO_behind nTO_word nTO_value)), (TA, .inr (8, oX8 aTA TA_size)), ((aTA 0), .inl (cB, 1600, .inl TA_bytes)), ((aTO 1), .inl (cL, 17, .inr (.inl TO_own)))] t) (va_A [(TO, .inr (9, oX9 TA aTO TO_kind TO_place TO_behind TO_word TO_value)), (TA, .inr (8, oX8 aTA TA_size)), ((aTA 0), .inl (cB, 1600, .inl TA_bytes)), ((aTO 1), .inl (cL, 17, .inr (.inl TO_own)))] sz)) 0 0 (va_A [(TO, .inr (9, oX9 TA aTO TO_kind TO_place TO_behind TO_word TO_value)), (TA, .inr (8, oX8 aTA TA_size)), ((aTA 0), .inl (cB, 1600, .inl TA_bytes)), ((aTO 1), .inl (cL, 17, .inr (.inl TO_own)))] sz) := by
  refine Met.ofW (cc := cX9_begin) (maxL := 1) (ret := none) (by decide) rfl ?_
  intro p e s m args below meth c s₁ B hml hv
  obtain ⟨rfl, hsz, hP, hK, hD0, hStr⟩ := hv
  have hNw := hsz
  have hx := B.exec
  have hb := B.bytes
  have hr := B.returns
  have hts := atoms_spec (ws := wsX9_begin) B.pre
  have hown : s.vm.findClass RX9 = some m.cls := findClass_of_methodNamed B.named
  have hlocks := B.notSynchronized
  clear B
  subst hsz
  have hD := hD0.self (sz := s.heap.size)
  clear hD0 hNw
  generalize hAe : va_A [(TO, .inr (9, oX9 TA aTO TO_kind TO_place TO_behind TO_word TO_value)), (TA, .inr (8, oX8 aTA TA_size)), ((aTA 0), .inl (cB, 1600, .inl TA_bytes)), ((aTO 1), .inl (cL, 17, .inr (.inl TO_own)))] s.heap.size = A at hD hStr ⊢
  have hA : ∀ q : Nat, s.heap.size ≤ q → A q := fun q h => by rw [← hAe]; exact Or.inr h
  have hS : va_S A s.heap s.heap [] := va_S.rf
  clear hAe
  obtain ⟨H, hH⟩ : ∃ H : Heap, H = s.heap := ⟨_, rfl⟩
  obtain ⟨locs, hlocs⟩ : ∃ L : List Loc, L = [] := ⟨_, rfl⟩
  replace hP : va_P D classes [(TO, .inr (9, oX9 TA aTO TO_kind TO_place TO_behind TO_word TO_value)), (TA, .inr (8, oX8 aTA TA_size)), ((aTA 0), .inl (cB, 1600, .inl TA_bytes)), ((aTO 1), .inl (cL, 17, .inr (.inl TO_own)))] H := by rw [hH]; exact hP
  replace hS : va_S A s.heap H locs := by rw [hH, hlocs]; exact hS
  rw [← hH, ← hlocs]
  clear hlocs hH
  have hl := lv_entry ([.ref TO]) (n := 1) (Nat.le_of_ble_eq_true rfl)
  rw [lg_entry_eq]
  generalize (lg_sl ([.ref TO]) ++ List.replicate (1 - (lg_sl ([.ref TO])).length) Slot.unset).toArray = ls at hl ⊢
  replace hl : lv_has ls 1 [(0, .ref TO)] := hl
  refine lv_aload_n hx hb dX9_begin_0 rfl (lv_at hl 0 rfl) ?_
  refine lv_iconst (v := 0) hx hb dX9_begin_1 (by decide) ?_
  refine va_put (D := D) (ci := 9) (v := .int 0) (ty := tyX9 4) (C := RX9) (T := TX9) (N := 7) hx hb hts iw_X9_begin_X9 tyX9 tyX9_ok nmX9 hown hK hP hD hS 0 rfl rfl 4 (by decide) (hts (.fieldLink RX9 35 "SoldHouse$Tokens" "behind" "I") (List.mem_of_getElem? (i := 1) rfl)) (fun _ h9 => h9) rfl (by decide +kernel) rfl rfl (Nat.le_of_ble_eq_true rfl) dX9_begin_2 (fun H locs hP hD hS => ?_)
  replace hP : va_P D classes [(TO, .inr (9, oX9 TA aTO TO_kind TO_place 0 TO_word TO_value)), (TA, .inr (8, oX8 aTA TA_size)), ((aTA 0), .inl (cB, 1600, .inl TA_bytes)), ((aTO 1), .inl (cL, 17, .inr (.inl TO_own)))] H := hP
  replace hD : va_D A [(TO, .inr (9, oX9 TA aTO TO_kind TO_place 0 TO_word TO_value)), (TA, .inr (8, oX8 aTA TA_size)), ((aTA 0), .inl (cB, 1600, .inl TA_bytes)), ((aTO 1), .inl (cL, 17, .inr (.inl TO_own)))] := hD
  refine lv_aload_n hx hb dX9_begin_5 rfl (lv_at hl 0 rfl) ?_
  have hPc := hP.sub (ws' := [(TO, .inr (9, oX9 TA aTO TO_kind TO_place 0 TO_word TO_value)), (TA, .inr (8, oX8 aTA TA_size)), ((aTA 0), .inl (cB, 1600, .inl TA_bytes)), ((aTO 1), .inl (cL, 17, .inr (.inl TO_own)))]) [0, 1, 2, 3] rfl
  have hDc := hD.sub (ws' := [(TO, .inr (9, oX9 TA aTO TO_kind TO_place 0 TO_word TO_value)), (TA, .inr (8, oX8 aTA TA_size)), ((aTA 0), .inl (cB, 1600, .inl TA_bytes)), ((aTO 1), .inl (cL, 17, .inr (.inl TO_own)))]) [0, 1, 2, 3] (by decide) rfl
  have hFc := va_free (wc := [(TO, .inr (9, oX9 TA aTO TO_kind TO_place 0 TO_word TO_value)), (TA, .inr (8, oX8 aTA TA_size)), ((aTA 0), .inl (cB, 1600, .inl TA_bytes)), ((aTO 1), .inl (cL, 17, .inr (.inl TO_own)))]) hD hS hA [0, 1, 2, 3] rfl
  refine va_callv (va_runV (As := []) (rest := []) ⟨hx, hb, hml, hown, hts⟩ (c_X9_advance l D cI cB cL cZ cG TO TA aTO TO_kind TO_place 0 TO_word TO_value aTA TA_size TA_bytes aS vS TO_own H.size (zB_w (show zB 0 0 0 from ⟨by decide, by decide⟩) (by decide) (by decide)) b_TA_size) (cwV 0 hts gX9_begin_X9_advance rfl rfl rfl (by decide +kernel) ⟨Nat.le_of_ble_eq_true rfl, Nat.le_of_ble_eq_true rfl⟩) ⟨xpT_blind, va_recv hK hP (ci := 9) (q0 := 0) rfl rfl, fun U hU hW => xpT_mk hU hW hPc hK hDc hStr hS hFc⟩ rfl rfl hl.1 rfl (lv_room (Nat.le_of_ble_eq_true rfl)) dX9_begin_6 ⟨Nat.le_of_ble_eq_true rfl, Nat.le_of_ble_eq_true rfl⟩) hS (fun q _ h => hFc q h) hFc (fun u9 t9 H1 locs ht9 hvm9 hr6 hB9 hz9 hk9 hS => ?_)
  obtain ⟨o6_nTO_kind, o6_nTO_place, o6_nTO_behind, o6_nTO_word, o6_nTO_value, bo6_nTO_kind, bo6_nTO_place, bo6_nTO_behind, hP1, hD1⟩ := hB9
  rw [ht9] at hP1
  obtain ⟨hP, hD⟩ := va_join (wr := []) (w1 := [(TO, .inr (9, oX9 TA aTO o6_nTO_kind o6_nTO_place o6_nTO_behind o6_nTO_word o6_nTO_value)), (TA, .inr (8, oX8 aTA TA_size)), ((aTA 0), .inl (cB, 1600, .inl TA_bytes)), ((aTO 1), .inl (cL, 17, .inr (.inl TO_own)))]) hP hD [0, 1, 2, 3] [] rfl rfl (by decide) (by decide) hk9 hFc hP1 hD1
  clear hz9 hPc hDc hP1 hD1 hk9 hFc ht9 hvm9 u9 t9
  generalize H1 = H at hP hS ⊢
  replace hP : va_P D classes [(TO, .inr (9, oX9 TA aTO o6_nTO_kind o6_nTO_place o6_nTO_behind o6_nTO_word o6_nTO_value)), (TA, .inr (8, oX8 aTA TA_size)), ((aTA 0), .inl (cB, 1600, .inl TA_bytes)), ((aTO 1), .inl (cL, 17, .inr (.inl TO_own)))] H := hP
  replace hD : va_D A [(TO, .inr (9, oX9 TA aTO o6_nTO_kind o6_nTO_place o6_nTO_behind o6_nTO_word o6_nTO_value)), (TA, .inr (8, oX8 aTA TA_size)), ((aTA 0), .inl (cB, 1600, .inl TA_bytes)), ((aTO 1), .inl (cL, 17, .inr (.inl TO_own)))] := hD
  exact W.vret hx hb hr (fun t ht hW => ⟨⟨(), rfl, trivial, ⟨o6_nTO_kind, o6_nTO_place, o6_nTO_behind, o6_nTO_word, o6_nTO_value, bo6_nTO_kind, bo6_nTO_place, bo6_nTO_behind, by rw [ht]; exact hP, hD⟩⟩, hS.F ht⟩) hS.2.2 dX9_begin_9
set_option maxHeartbeats 4000000 in
set_option maxRecDepth 100000 in
theorem c_X3_keepAct (l : Launch) (D : va_G) (cI : ClassId) (cB : ClassId) (cL : ClassId) (cZ : ClassId) (cG : ClassId) (ME : Nat) (FL : Nat) (aME : Nat → Nat) (ME_oldest : Int32) (ME_done : Int32) (ME_undone : Int32) (ME_kept : Nat → Option Nat) (KRr : Nat → Nat) (ME_now : Nat → Int32) (KRf : Nat → Nat → Int32) (sz : Nat) (b_ME_oldest : zB ME_oldest 0 40) (b_ME_done : zB ME_done 0 40) (b_ME_undone : zB ME_undone 0 40) (k_ME_kept : ∀ j, j < 41 → ME_kept j = some (KRr j)) (s_ME_now_0 : zA ME_now 0 12 0 7) (w_KR : ∀ j, j < 41 → zA (KRf j) 0 12 0 7) : Met l yX3_keepAct wsX3_keepAct ({ frames := 1, cells := 0, slots := 0, locals := 40 }) (xp D [(cI, .int), (cB, .byte), (cL, .long), (cZ, .boolean), (cG, .array .int)] ([(ME, .inr (3, oX3 FL aME ME_oldest ME_done ME_undone)), ((aME 3), .inl (cG, 41, .inr (.inr (.inr (.inr ME_kept))))), ((aME 1), .inl (cI, 32, .inl ME_now))] ++ rw41 cI KRr KRf) sz [] [.ref ME]) (va_Qv (fun _ : Unit => True) (fun (_ : Unit) (t : State) => ∃ (nME_oldest : Int32), ∃ (nME_done : Int32), ∃ (nME_undone : Int32), ∃ (nKRf : Nat → Nat → Int32), zB nME_oldest 0 40 ∧ zB nME_done 1 40 ∧ zB nME_undone 0 0 ∧ (∀ j, j < 41 → zA (nKRf j) 0 12 0 7) ∧ xB D (va_A ([(ME, .inr (3, oX3 FL aME ME_oldest ME_done ME_undone)), ((aME 3), .inl (cG, 41, .inr (.inr (.inr (.inr ME_kept))))), ((aME 1), .inl (cI, 32, .inl ME_now))] ++ rw41 cI KRr KRf) sz) ([(ME, .inr (3, oX3 FL aME nME_oldest nME_done nME_undone)), ((aME 3), .inl (cG, 41, .inr (.inr (.inr (.inr ME_kept))))), ((aME 1), .inl (cI, 32, .inl ME_now))] ++ rw41 cI KRr nKRf) t) (va_A ([(ME, .inr (3, oX3 FL aME ME_oldest ME_done ME_undone)), ((aME 3), .inl (cG, 41, .inr (.inr (.inr (.inr ME_kept))))), ((aME 1), .inl (cI, 32, .inl ME_now))] ++ rw41 cI KRr KRf) sz)) 0 0 (va_A ([(ME, .inr (3, oX3 FL aME ME_oldest ME_done ME_undone)), ((aME 3), .inl (cG, 41, .inr (.inr (.inr (.inr ME_kept))))), ((aME 1), .inl (cI, 32, .inl ME_now))] ++ rw41 cI KRr KRf) sz) := by
  refine Met.ofW (cc := cX3_keepAct) (maxL := 1) (ret := none) (by decide) rfl ?_
  intro p e s m args below meth c s₁ B hml hv
  obtain ⟨rfl, hsz, hP, hK, hD0, hNw⟩ := hv
  have hx := B.exec
  have hb := B.bytes
  have hr := B.returns
  have hts := atoms_spec (ws := wsX3_keepAct) B.pre
  have hown : s.vm.findClass RX3 = some m.cls := findClass_of_methodNamed B.named
  have hlocks := B.notSynchronized
  clear B
  subst hsz
  have hD := hD0.self (sz := s.heap.size)
  clear hD0 hNw
  generalize hAe : va_A ([(ME, .inr (3, oX3 FL aME ME_oldest ME_done ME_undone)), ((aME 3), .inl (cG, 41, .inr (.inr (.inr (.inr ME_kept))))), ((aME 1), .inl (cI, 32, .inl ME_now))] ++ rw41 cI KRr KRf) s.heap.size = A at hD ⊢
  have hA : ∀ q : Nat, s.heap.size ≤ q → A q := fun q h => by rw [← hAe]; exact Or.inr h
  have hS : va_S A s.heap s.heap [] := va_S.rf
  clear hAe
  obtain ⟨H, hH⟩ : ∃ H : Heap, H = s.heap := ⟨_, rfl⟩
  obtain ⟨locs, hlocs⟩ : ∃ L : List Loc, L = [] := ⟨_, rfl⟩
  replace hP : va_P D classes ([(ME, .inr (3, oX3 FL aME ME_oldest ME_done ME_undone)), ((aME 3), .inl (cG, 41, .inr (.inr (.inr (.inr ME_kept))))), ((aME 1), .inl (cI, 32, .inl ME_now))] ++ rw41 cI KRr KRf) H := by rw [hH]; exact hP
  replace hS : va_S A s.heap H locs := by rw [hH, hlocs]; exact hS
  rw [← hH, ← hlocs]
  clear hlocs hH
  have hl := lv_entry ([.ref ME]) (n := 1) (Nat.le_of_ble_eq_true rfl)
  rw [lg_entry_eq]
  generalize (lg_sl ([.ref ME]) ++ List.replicate (1 - (lg_sl ([.ref ME])).length) Slot.unset).toArray = ls at hl ⊢
  replace hl : lv_has ls 1 [(0, .ref ME)] := hl
  refine zz_abs (R := ({ frames := 1, cells := 0, slots := 0, locals := 40 } : Room)) (fun Q up => ?_)
  refine lv_aload_n hx hb dX3_keepAct_0 rfl (lv_at hl 0 rfl) ?_
  refine lv_iconst (v := 0) hx hb dX3_keepAct_1 (by decide) ?_
  refine va_put (D := D) (ci := 3) (v := .int 0) (ty := tyX3 6) (C := RX3) (T := TX3) (N := 9) hx hb hts iw_X3_keepAct_X3 tyX3 tyX3_ok nmX3 hown hK hP hD hS 0 rfl rfl 6 (by decide) (hts (.fieldLink RX3 128 "SoldHouse$Memory" "undone" "I") (List.mem_of_getElem? (i := 1) rfl)) (fun _ h9 => h9) rfl (by decide +kernel) rfl rfl (Nat.le_of_ble_eq_true rfl) dX3_keepAct_2 (fun H locs hP hD hS => ?_)
  replace hP : va_P D classes ([(ME, .inr (3, oX3 FL aME ME_oldest ME_done 0)), ((aME 3), .inl (cG, 41, .inr (.inr (.inr (.inr ME_kept))))), ((aME 1), .inl (cI, 32, .inl ME_now))] ++ rw41 cI KRr KRf) H := hP
  replace hD : va_D A ([(ME, .inr (3, oX3 FL aME ME_oldest ME_done 0)), ((aME 3), .inl (cG, 41, .inr (.inr (.inr (.inr ME_kept))))), ((aME 1), .inl (cI, 32, .inl ME_now))] ++ rw41 cI KRr KRf) := hD
  refine lv_aload_n hx hb dX3_keepAct_5 rfl (lv_at hl 0 rfl) ?_
  refine va_get (D := D) (ci := 3) (v := .int ME_done) (C := RX3) (T := TX3) (N := 9) hx hb hts iw_X3_keepAct_X3 hown hK hP 0 rfl rfl 5 (by decide) (hts (.fieldLink RX3 131 "SoldHouse$Memory" "done" "I") (List.mem_of_getElem? (i := 2) rfl)) (fun _ h9 => h9) rfl dX3_keepAct_6 ?_
  refine lv_bipush (v := 40) hx hb dX3_keepAct_9 (by decide) ?_
  have j40 : ∀ (H : Heap) (locs : List Loc) (ls : Array Slot) (w40_ME_4 : Int32) (w40_ME_5 : Int32), zB w40_ME_4 0 40 → zB w40_ME_5 1 40 → zA ME_now 0 12 0 7 → va_P D classes ([(ME, .inr (3, oX3 FL aME w40_ME_4 w40_ME_5 0)), ((aME 3), .inl (cG, 41, .inr (.inr (.inr (.inr ME_kept))))), ((aME 1), .inl (cI, 32, .inl ME_now))] ++ rw41 cI KRr KRf) H → va_D A ([(ME, .inr (3, oX3 FL aME w40_ME_4 w40_ME_5 0)), ((aME 3), .inl (cG, 41, .inr (.inr (.inr (.inr ME_kept))))), ((aME 1), .inl (cI, 32, .inl ME_now))] ++ rw41 cI KRr KRf) → va_S A s.heap H locs → lv_has ls 1 [(0, .ref ME)] → W p l e ({ frames := 1, cells := 0, slots := 0, locals := 40 } : Room) s m ([.ref ME] : List Value).toArray below meth c H locs 0 0 Q (F0 m 40 ls []) := by
    intro H locs ls w40_ME_4 w40_ME_5 bw40_ME_4_k40 bw40_ME_5_k40 sME_now_0_k40 hP hD hS hl
    refine lv_aload_n hx hb dX3_keepAct_40 rfl (lv_at hl 0 rfl) ?_
    refine va_get (D := D) (ci := 3) (v := .ref (aME 1)) (C := RX3) (T := TX3) (N := 9) hx hb hts iw_X3_keepAct_X3 hown hK hP 0 rfl rfl 1 (by decide) (hts (.fieldLink RX3 11 "SoldHouse$Memory" "now" "[I") (List.mem_of_getElem? (i := 4) rfl)) (fun _ h9 => h9) rfl dX3_keepAct_41 ?_
    refine lv_iconst (v := 0) hx hb dX3_keepAct_44 (by decide) ?_
    refine lv_aload_n hx hb dX3_keepAct_45 rfl (lv_at hl 0 rfl) ?_
    refine va_get (D := D) (ci := 3) (v := .ref (aME 3)) (C := RX3) (T := TX3) (N := 9) hx hb hts iw_X3_keepAct_X3 hown hK hP 0 rfl rfl 3 (by decide) (hts (.fieldLink RX3 20 "SoldHouse$Memory" "kept" "[[I") (List.mem_of_getElem? (i := 5) rfl)) (fun _ h9 => h9) rfl dX3_keepAct_46 ?_
    refine lv_aload_n hx hb dX3_keepAct_49 rfl (lv_at hl 0 rfl) ?_
    refine va_get (D := D) (ci := 3) (v := .int w40_ME_4) (C := RX3) (T := TX3) (N := 9) hx hb hts iw_X3_keepAct_X3 hown hK hP 0 rfl rfl 4 (by decide) (hts (.fieldLink RX3 134 "SoldHouse$Memory" "oldest" "I") (List.mem_of_getElem? (i := 3) rfl)) (fun _ h9 => h9) rfl dX3_keepAct_50 ?_
    refine lv_aload_n hx hb dX3_keepAct_53 rfl (lv_at hl 0 rfl) ?_
    refine va_get (D := D) (ci := 3) (v := .int w40_ME_5) (C := RX3) (T := TX3) (N := 9) hx hb hts iw_X3_keepAct_X3 hown hK hP 0 rfl rfl 5 (by decide) (hts (.fieldLink RX3 131 "SoldHouse$Memory" "done" "I") (List.mem_of_getElem? (i := 2) rfl)) (fun _ h9 => h9) rfl dX3_keepAct_54 ?_
    refine lv_iadd hx hb dX3_keepAct_57 ?_
    refine zi_top (a := 1) (b := 80) (zB_add bw40_ME_4_k40 bw40_ME_5_k40 (by decide) (by decide) (by decide) (by decide)) (fun y57 by57 => ?_)
    refine lv_bipush (v := 41) hx hb dX3_keepAct_58 (by decide) ?_
    refine lv_irem hx hb dX3_keepAct_60 (by decide) ?_
    refine zi_top (a := 0) (b := 40) (zB_rem by57 (show zB 41 41 41 from ⟨by decide, by decide⟩) (by decide) (by decide) (by decide)) (fun y60 by60 => ?_)
    rcases zsp_41 by60 with rfl | rfl | rfl | rfl | rfl | rfl | rfl | rfl | rfl | rfl | rfl | rfl | rfl | rfl | rfl | rfl | rfl | rfl | rfl | rfl | rfl | rfl | rfl | rfl | rfl | rfl | rfl | rfl | rfl | rfl | rfl | rfl | rfl | rfl | rfl | rfl | rfl | rfl | rfl | rfl | rfl
    · refine zz_alda (v := (KRr 0)) hx hb hK hP 1 4 rfl rfl (zB_in (show zB 0 0 0 from ⟨by decide, by decide⟩) (by decide) (by decide)) (k_ME_kept 0 (by decide)) dX3_keepAct_61 ?_
      refine lv_iconst (v := 0) hx hb dX3_keepAct_62 (by decide) ?_
      refine lv_bipush (v := 32) hx hb dX3_keepAct_63 (by decide) ?_
      refine zi_copy hx hb (by rw [hml]; exact hl.1.symm) hown (hts (.methodLink RX3 115 arraycopyName) (List.mem_of_getElem? (i := 6) rfl)) (hts (.native arraycopyName) (List.mem_of_getElem? (i := 7) rfl)) (hts (.static arraycopyName) (List.mem_of_getElem? (i := 8) rfl)) (hts (.initialized "java/lang/System") (List.mem_of_getElem? (i := 9) rfl)) hK hP hD hS 2 3 rfl rfl rfl (Nat.le_of_ble_eq_true rfl) (Nat.le_of_ble_eq_true rfl) dX3_keepAct_65 (fun H locs g65 e65 hP hD hS => ?_)
      have sg65 := zA_cpy e65 sME_now_0_k40
      replace hP : va_P D classes ([(ME, .inr (3, oX3 FL aME w40_ME_4 w40_ME_5 0)), ((aME 3), .inl (cG, 41, .inr (.inr (.inr (.inr ME_kept))))), ((aME 1), .inl (cI, 32, .inl ME_now))] ++ rw41 cI KRr (rup KRf 0 g65)) H := hP
      replace hD : va_D A ([(ME, .inr (3, oX3 FL aME w40_ME_4 w40_ME_5 0)), ((aME 3), .inl (cG, 41, .inr (.inr (.inr (.inr ME_kept))))), ((aME 1), .inl (cI, 32, .inl ME_now))] ++ rw41 cI KRr (rup KRf 0 g65)) := hD
      clear e65
      exact up _ _ _ (W.vret hx hb hr (fun t ht hW => ⟨⟨(), rfl, trivial, ⟨w40_ME_4, w40_ME_5, 0, (rup KRf 0 g65), bw40_ME_4_k40, bw40_ME_5_k40, (show zB 0 0 0 from ⟨by decide, by decide⟩), (rup_ok w_KR sg65), by rw [ht]; exact hP, hD⟩⟩, hS.F ht⟩) hS.2.2 dX3_keepAct_68)
    · refine zz_alda (v := (KRr 1)) hx hb hK hP 1 4 rfl rfl (zB_in (show zB 1 1 1 from ⟨by decide, by decide⟩) (by decide) (by decide)) (k_ME_kept 1 (by decide)) dX3_keepAct_61 ?_
      refine lv_iconst (v := 0) hx hb dX3_keepAct_62 (by decide) ?_
      refine lv_bipush (v := 32) hx hb dX3_keepAct_63 (by decide) ?_
      refine zi_copy hx hb (by rw [hml]; exact hl.1.symm) hown (hts (.methodLink RX3 115 arraycopyName) (List.mem_of_getElem? (i := 6) rfl)) (hts (.native arraycopyName) (List.mem_of_getElem? (i := 7) rfl)) (hts (.static arraycopyName) (List.mem_of_getElem? (i := 8) rfl)) (hts (.initialized "java/lang/System") (List.mem_of_getElem? (i := 9) rfl)) hK hP hD hS 2 4 rfl rfl rfl (Nat.le_of_ble_eq_true rfl) (Nat.le_of_ble_eq_true rfl) dX3_keepAct_65 (fun H locs g65 e65 hP hD hS => ?_)
      have sg65 := zA_cpy e65 sME_now_0_k40
      replace hP : va_P D classes ([(ME, .inr (3, oX3 FL aME w40_ME_4 w40_ME_5 0)), ((aME 3), .inl (cG, 41, .inr (.inr (.inr (.inr ME_kept))))), ((aME 1), .inl (cI, 32, .inl ME_now))] ++ rw41 cI KRr (rup KRf 1 g65)) H := hP
      replace hD : va_D A ([(ME, .inr (3, oX3 FL aME w40_ME_4 w40_ME_5 0)), ((aME 3), .inl (cG, 41, .inr (.inr (.inr (.inr ME_kept))))), ((aME 1), .inl (cI, 32, .inl ME_now))] ++ rw41 cI KRr (rup KRf 1 g65)) := hD
      clear e65
      exact up _ _ _ (W.vret hx hb hr (fun t ht hW => ⟨⟨(), rfl, trivial, ⟨w40_ME_4, w40_ME_5, 0, (rup KRf 1 g65), bw40_ME_4_k40, bw40_ME_5_k40, (show zB 0 0 0 from ⟨by decide, by decide⟩), (rup_ok w_KR sg65), by rw [ht]; exact hP, hD⟩⟩, hS.F ht⟩) hS.2.2 dX3_keepAct_68)
    · refine zz_alda (v := (KRr 2)) hx hb hK hP 1 4 rfl rfl (zB_in (show zB 2 2 2 from ⟨by decide, by decide⟩) (by decide) (by decide)) (k_ME_kept 2 (by decide)) dX3_keepAct_61 ?_
      refine lv_iconst (v := 0) hx hb dX3_keepAct_62 (by decide) ?_
      refine lv_bipush (v := 32) hx hb dX3_keepAct_63 (by decide) ?_
      refine zi_copy hx hb (by rw [hml]; exact hl.1.symm) hown (hts (.methodLink RX3 115 arraycopyName) (List.mem_of_getElem? (i := 6) rfl)) (hts (.native arraycopyName) (List.mem_of_getElem? (i := 7) rfl)) (hts (.static arraycopyName) (List.mem_of_getElem? (i := 8) rfl)) (hts (.initialized "java/lang/System") (List.mem_of_getElem? (i := 9) rfl)) hK hP hD hS 2 5 rfl rfl rfl (Nat.le_of_ble_eq_true rfl) (Nat.le_of_ble_eq_true rfl) dX3_keepAct_65 (fun H locs g65 e65 hP hD hS => ?_)
      have sg65 := zA_cpy e65 sME_now_0_k40
      replace hP : va_P D classes ([(ME, .inr (3, oX3 FL aME w40_ME_4 w40_ME_5 0)), ((aME 3), .inl (cG, 41, .inr (.inr (.inr (.inr ME_kept))))), ((aME 1), .inl (cI, 32, .inl ME_now))] ++ rw41 cI KRr (rup KRf 2 g65)) H := hP
      replace hD : va_D A ([(ME, .inr (3, oX3 FL aME w40_ME_4 w40_ME_5 0)), ((aME 3), .inl (cG, 41, .inr (.inr (.inr (.inr ME_kept))))), ((aME 1), .inl (cI, 32, .inl ME_now))] ++ rw41 cI KRr (rup KRf 2 g65)) := hD
      clear e65
      exact up _ _ _ (W.vret hx hb hr (fun t ht hW => ⟨⟨(), rfl, trivial, ⟨w40_ME_4, w40_ME_5, 0, (rup KRf 2 g65), bw40_ME_4_k40, bw40_ME_5_k40, (show zB 0 0 0 from ⟨by decide, by decide⟩), (rup_ok w_KR sg65), by rw [ht]; exact hP, hD⟩⟩, hS.F ht⟩) hS.2.2 dX3_keepAct_68)
    · refine zz_alda (v := (KRr 3)) hx hb hK hP 1 4 rfl rfl (zB_in (show zB 3 3 3 from ⟨by decide, by decide⟩) (by decide) (by decide)) (k_ME_kept 3 (by decide)) dX3_keepAct_61 ?_
      refine lv_iconst (v := 0) hx hb dX3_keepAct_62 (by decide) ?_
      refine lv_bipush (v := 32) hx hb dX3_keepAct_63 (by decide) ?_
      refine zi_copy hx hb (by rw [hml]; exact hl.1.symm) hown (hts (.methodLink RX3 115 arraycopyName) (List.mem_of_getElem? (i := 6) rfl)) (hts (.native arraycopyName) (List.mem_of_getElem? (i := 7) rfl)) (hts (.static arraycopyName) (List.mem_of_getElem? (i := 8) rfl)) (hts (.initialized "java/lang/System") (List.mem_of_getElem? (i := 9) rfl)) hK hP hD hS 2 6 rfl rfl rfl (Nat.le_of_ble_eq_true rfl) (Nat.le_of_ble_eq_true rfl) dX3_keepAct_65 (fun H locs g65 e65 hP hD hS => ?_)
      have sg65 := zA_cpy e65 sME_now_0_k40
      replace hP : va_P D classes ([(ME, .inr (3, oX3 FL aME w40_ME_4 w40_ME_5 0)), ((aME 3), .inl (cG, 41, .inr (.inr (.inr (.inr ME_kept))))), ((aME 1), .inl (cI, 32, .inl ME_now))] ++ rw41 cI KRr (rup KRf 3 g65)) H := hP
      replace hD : va_D A ([(ME, .inr (3, oX3 FL aME w40_ME_4 w40_ME_5 0)), ((aME 3), .inl (cG, 41, .inr (.inr (.inr (.inr ME_kept))))), ((aME 1), .inl (cI, 32, .inl ME_now))] ++ rw41 cI KRr (rup KRf 3 g65)) := hD
      clear e65
      exact up _ _ _ (W.vret hx hb hr (fun t ht hW => ⟨⟨(), rfl, trivial, ⟨w40_ME_4, w40_ME_5, 0, (rup KRf 3 g65), bw40_ME_4_k40, bw40_ME_5_k40, (show zB 0 0 0 from ⟨by decide, by decide⟩), (rup_ok w_KR sg65), by rw [ht]; exact hP, hD⟩⟩, hS.F ht⟩) hS.2.2 dX3_keepAct_68)
    · refine zz_alda (v := (KRr 4)) hx hb hK hP 1 4 rfl rfl (zB_in (show zB 4 4 4 from ⟨by decide, by decide⟩) (by decide) (by decide)) (k_ME_kept 4 (by decide)) dX3_keepAct_61 ?_
      refine lv_iconst (v := 0) hx hb dX3_keepAct_62 (by decide) ?_
      refine lv_bipush (v := 32) hx hb dX3_keepAct_63 (by decide) ?_
      refine zi_copy hx hb (by rw [hml]; exact hl.1.symm) hown (hts (.methodLink RX3 115 arraycopyName) (List.mem_of_getElem? (i := 6) rfl)) (hts (.native arraycopyName) (List.mem_of_getElem? (i := 7) rfl)) (hts (.static arraycopyName) (List.mem_of_getElem? (i := 8) rfl)) (hts (.initialized "java/lang/System") (List.mem_of_getElem? (i := 9) rfl)) hK hP hD hS 2 7 rfl rfl rfl (Nat.le_of_ble_eq_true rfl) (Nat.le_of_ble_eq_true rfl) dX3_keepAct_65 (fun H locs g65 e65 hP hD hS => ?_)
      have sg65 := zA_cpy e65 sME_now_0_k40
      replace hP : va_P D classes ([(ME, .inr (3, oX3 FL aME w40_ME_4 w40_ME_5 0)), ((aME 3), .inl (cG, 41, .inr (.inr (.inr (.inr ME_kept))))), ((aME 1), .inl (cI, 32, .inl ME_now))] ++ rw41 cI KRr (rup KRf 4 g65)) H := hP
      replace hD : va_D A ([(ME, .inr (3, oX3 FL aME w40_ME_4 w40_ME_5 0)), ((aME 3), .inl (cG, 41, .inr (.inr (.inr (.inr ME_kept))))), ((aME 1), .inl (cI, 32, .inl ME_now))] ++ rw41 cI KRr (rup KRf 4 g65)) := hD
      clear e65
      exact up _ _ _ (W.vret hx hb hr (fun t ht hW => ⟨⟨(), rfl, trivial, ⟨w40_ME_4, w40_ME_5, 0, (rup KRf 4 g65), bw40_ME_4_k40, bw40_ME_5_k40, (show zB 0 0 0 from ⟨by decide, by decide⟩), (rup_ok w_KR sg65), by rw [ht]; exact hP, hD⟩⟩, hS.F ht⟩) hS.2.2 dX3_keepAct_68)
    · refine zz_alda (v := (KRr 5)) hx hb hK hP 1 4 rfl rfl (zB_in (show zB 5 5 5 from ⟨by decide, by decide⟩) (by decide) (by decide)) (k_ME_kept 5 (by decide)) dX3_keepAct_61 ?_
      refine lv_iconst (v := 0) hx hb dX3_keepAct_62 (by decide) ?_
      refine lv_bipush (v := 32) hx hb dX3_keepAct_63 (by decide) ?_
      refine zi_copy hx hb (by rw [hml]; exact hl.1.symm) hown (hts (.methodLink RX3 115 arraycopyName) (List.mem_of_getElem? (i := 6) rfl)) (hts (.native arraycopyName) (List.mem_of_getElem? (i := 7) rfl)) (hts (.static arraycopyName) (List.mem_of_getElem? (i := 8) rfl)) (hts (.initialized "java/lang/System") (List.mem_of_getElem? (i := 9) rfl)) hK hP hD hS 2 8 rfl rfl rfl (Nat.le_of_ble_eq_true rfl) (Nat.le_of_ble_eq_true rfl) dX3_keepAct_65 (fun H locs g65 e65 hP hD hS => ?_)
      have sg65 := zA_cpy e65 sME_now_0_k40
      replace hP : va_P D classes ([(ME, .inr (3, oX3 FL aME w40_ME_4 w40_ME_5 0)), ((aME 3), .inl (cG, 41, .inr (.inr (.inr (.inr ME_kept))))), ((aME 1), .inl (cI, 32, .inl ME_now))] ++ rw41 cI KRr (rup KRf 5 g65)) H := hP
      replace hD : va_D A ([(ME, .inr (3, oX3 FL aME w40_ME_4 w40_ME_5 0)), ((aME 3), .inl (cG, 41, .inr (.inr (.inr (.inr ME_kept))))), ((aME 1), .inl (cI, 32, .inl ME_now))] ++ rw41 cI KRr (rup KRf 5 g65)) := hD
      clear e65
      exact up _ _ _ (W.vret hx hb hr (fun t ht hW => ⟨⟨(), rfl, trivial, ⟨w40_ME_4, w40_ME_5, 0, (rup KRf 5 g65), bw40_ME_4_k40, bw40_ME_5_k40, (show zB 0 0 0 from ⟨by decide, by decide⟩), (rup_ok w_KR sg65), by rw [ht]; exact hP, hD⟩⟩, hS.F ht⟩) hS.2.2 dX3_keepAct_68)
    · refine zz_alda (v := (KRr 6)) hx hb hK hP 1 4 rfl rfl (zB_in (show zB 6 6 6 from ⟨by decide, by decide⟩) (by decide) (by decide)) (k_ME_kept 6 (by decide)) dX3_keepAct_61 ?_
      refine lv_iconst (v := 0) hx hb dX3_keepAct_62 (by decide) ?_
      refine lv_bipush (v := 32) hx hb dX3_keepAct_63 (by decide) ?_
      refine zi_copy hx hb (by rw [hml]; exact hl.1.symm) hown (hts (.methodLink RX3 115 arraycopyName) (List.mem_of_getElem? (i := 6) rfl)) (hts (.native arraycopyName) (List.mem_of_getElem? (i := 7) rfl)) (hts (.static arraycopyName) (List.mem_of_getElem? (i := 8) rfl)) (hts (.initialized "java/lang/System") (List.mem_of_getElem? (i := 9) rfl)) hK hP hD hS 2 9 rfl rfl rfl (Nat.le_of_ble_eq_true rfl) (Nat.le_of_ble_eq_true rfl) dX3_keepAct_65 (fun H locs g65 e65 hP hD hS => ?_)
      have sg65 := zA_cpy e65 sME_now_0_k40
      replace hP : va_P D classes ([(ME, .inr (3, oX3 FL aME w40_ME_4 w40_ME_5 0)), ((aME 3), .inl (cG, 41, .inr (.inr (.inr (.inr ME_kept))))), ((aME 1), .inl (cI, 32, .inl ME_now))] ++ rw41 cI KRr (rup KRf 6 g65)) H := hP
      replace hD : va_D A ([(ME, .inr (3, oX3 FL aME w40_ME_4 w40_ME_5 0)), ((aME 3), .inl (cG, 41, .inr (.inr (.inr (.inr ME_kept))))), ((aME 1), .inl (cI, 32, .inl ME_now))] ++ rw41 cI KRr (rup KRf 6 g65)) := hD
      clear e65
      exact up _ _ _ (W.vret hx hb hr (fun t ht hW => ⟨⟨(), rfl, trivial, ⟨w40_ME_4, w40_ME_5, 0, (rup KRf 6 g65), bw40_ME_4_k40, bw40_ME_5_k40, (show zB 0 0 0 from ⟨by decide, by decide⟩), (rup_ok w_KR sg65), by rw [ht]; exact hP, hD⟩⟩, hS.F ht⟩) hS.2.2 dX3_keepAct_68)
    · refine zz_alda (v := (KRr 7)) hx hb hK hP 1 4 rfl rfl (zB_in (show zB 7 7 7 from ⟨by decide, by decide⟩) (by decide) (by decide)) (k_ME_kept 7 (by decide)) dX3_keepAct_61 ?_
      refine lv_iconst (v := 0) hx hb dX3_keepAct_62 (by decide) ?_
      refine lv_bipush (v := 32) hx hb dX3_keepAct_63 (by decide) ?_
      refine zi_copy hx hb (by rw [hml]; exact hl.1.symm) hown (hts (.methodLink RX3 115 arraycopyName) (List.mem_of_getElem? (i := 6) rfl)) (hts (.native arraycopyName) (List.mem_of_getElem? (i := 7) rfl)) (hts (.static arraycopyName) (List.mem_of_getElem? (i := 8) rfl)) (hts (.initialized "java/lang/System") (List.mem_of_getElem? (i := 9) rfl)) hK hP hD hS 2 10 rfl rfl rfl (Nat.le_of_ble_eq_true rfl) (Nat.le_of_ble_eq_true rfl) dX3_keepAct_65 (fun H locs g65 e65 hP hD hS => ?_)
      have sg65 := zA_cpy e65 sME_now_0_k40
      replace hP : va_P D classes ([(ME, .inr (3, oX3 FL aME w40_ME_4 w40_ME_5 0)), ((aME 3), .inl (cG, 41, .inr (.inr (.inr (.inr ME_kept))))), ((aME 1), .inl (cI, 32, .inl ME_now))] ++ rw41 cI KRr (rup KRf 7 g65)) H := hP
      replace hD : va_D A ([(ME, .inr (3, oX3 FL aME w40_ME_4 w40_ME_5 0)), ((aME 3), .inl (cG, 41, .inr (.inr (.inr (.inr ME_kept))))), ((aME 1), .inl (cI, 32, .inl ME_now))] ++ rw41 cI KRr (rup KRf 7 g65)) := hD
      clear e65
      exact up _ _ _ (W.vret hx hb hr (fun t ht hW => ⟨⟨(), rfl, trivial, ⟨w40_ME_4, w40_ME_5, 0, (rup KRf 7 g65), bw40_ME_4_k40, bw40_ME_5_k40, (show zB 0 0 0 from ⟨by decide, by decide⟩), (rup_ok w_KR sg65), by rw [ht]; exact hP, hD⟩⟩, hS.F ht⟩) hS.2.2 dX3_keepAct_68)
    · refine zz_alda (v := (KRr 8)) hx hb hK hP 1 4 rfl rfl (zB_in (show zB 8 8 8 from ⟨by decide, by decide⟩) (by decide) (by decide)) (k_ME_kept 8 (by decide)) dX3_keepAct_61 ?_
      refine lv_iconst (v := 0) hx hb dX3_keepAct_62 (by decide) ?_
      refine lv_bipush (v := 32) hx hb dX3_keepAct_63 (by decide) ?_
      refine zi_copy hx hb (by rw [hml]; exact hl.1.symm) hown (hts (.methodLink RX3 115 arraycopyName) (List.mem_of_getElem? (i := 6) rfl)) (hts (.native arraycopyName) (List.mem_of_getElem? (i := 7) rfl)) (hts (.static arraycopyName) (List.mem_of_getElem? (i := 8) rfl)) (hts (.initialized "java/lang/System") (List.mem_of_getElem? (i := 9) rfl)) hK hP hD hS 2 11 rfl rfl rfl (Nat.le_of_ble_eq_true rfl) (Nat.le_of_ble_eq_true rfl) dX3_keepAct_65 (fun H locs g65 e65 hP hD hS => ?_)
      have sg65 := zA_cpy e65 sME_now_0_k40
      replace hP : va_P D classes ([(ME, .inr (3, oX3 FL aME w40_ME_4 w40_ME_5 0)), ((aME 3), .inl (cG, 41, .inr (.inr (.inr (.inr ME_kept))))), ((aME 1), .inl (cI, 32, .inl ME_now))] ++ rw41 cI KRr (rup KRf 8 g65)) H := hP
      replace hD : va_D A ([(ME, .inr (3, oX3 FL aME w40_ME_4 w40_ME_5 0)), ((aME 3), .inl (cG, 41, .inr (.inr (.inr (.inr ME_kept))))), ((aME 1), .inl (cI, 32, .inl ME_now))] ++ rw41 cI KRr (rup KRf 8 g65)) := hD
      clear e65
      exact up _ _ _ (W.vret hx hb hr (fun t ht hW => ⟨⟨(), rfl, trivial, ⟨w40_ME_4, w40_ME_5, 0, (rup KRf 8 g65), bw40_ME_4_k40, bw40_ME_5_k40, (show zB 0 0 0 from ⟨by decide, by decide⟩), (rup_ok w_KR sg65), by rw [ht]; exact hP, hD⟩⟩, hS.F ht⟩) hS.2.2 dX3_keepAct_68)
    · refine zz_alda (v := (KRr 9)) hx hb hK hP 1 4 rfl rfl (zB_in (show zB 9 9 9 from ⟨by decide, by decide⟩) (by decide) (by decide)) (k_ME_kept 9 (by decide)) dX3_keepAct_61 ?_
      refine lv_iconst (v := 0) hx hb dX3_keepAct_62 (by decide) ?_
      refine lv_bipush (v := 32) hx hb dX3_keepAct_63 (by decide) ?_
      refine zi_copy hx hb (by rw [hml]; exact hl.1.symm) hown (hts (.methodLink RX3 115 arraycopyName) (List.mem_of_getElem? (i := 6) rfl)) (hts (.native arraycopyName) (List.mem_of_getElem? (i := 7) rfl)) (hts (.static arraycopyName) (List.mem_of_getElem? (i := 8) rfl)) (hts (.initialized "java/lang/System") (List.mem_of_getElem? (i := 9) rfl)) hK hP hD hS 2 12 rfl rfl rfl (Nat.le_of_ble_eq_true rfl) (Nat.le_of_ble_eq_true rfl) dX3_keepAct_65 (fun H locs g65 e65 hP hD hS => ?_)
      have sg65 := zA_cpy e65 sME_now_0_k40
      replace hP : va_P D classes ([(ME, .inr (3, oX3 FL aME w40_ME_4 w40_ME_5 0)), ((aME 3), .inl (cG, 41, .inr (.inr (.inr (.inr ME_kept))))), ((aME 1), .inl (cI, 32, .inl ME_now))] ++ rw41 cI KRr (rup KRf 9 g65)) H := hP
      replace hD : va_D A ([(ME, .inr (3, oX3 FL aME w40_ME_4 w40_ME_5 0)), ((aME 3), .inl (cG, 41, .inr (.inr (.inr (.inr ME_kept))))), ((aME 1), .inl (cI, 32, .inl ME_now))] ++ rw41 cI KRr (rup KRf 9 g65)) := hD
      clear e65
      exact up _ _ _ (W.vret hx hb hr (fun t ht hW => ⟨⟨(), rfl, trivial, ⟨w40_ME_4, w40_ME_5, 0, (rup KRf 9 g65), bw40_ME_4_k40, bw40_ME_5_k40, (show zB 0 0 0 from ⟨by decide, by decide⟩), (rup_ok w_KR sg65), by rw [ht]; exact hP, hD⟩⟩, hS.F ht⟩) hS.2.2 dX3_keepAct_68)
    · refine zz_alda (v := (KRr 10)) hx hb hK hP 1 4 rfl rfl (zB_in (show zB 10 10 10 from ⟨by decide, by decide⟩) (by decide) (by decide)) (k_ME_kept 10 (by decide)) dX3_keepAct_61 ?_
      refine lv_iconst (v := 0) hx hb dX3_keepAct_62 (by decide) ?_
      refine lv_bipush (v := 32) hx hb dX3_keepAct_63 (by decide) ?_
      refine zi_copy hx hb (by rw [hml]; exact hl.1.symm) hown (hts (.methodLink RX3 115 arraycopyName) (List.mem_of_getElem? (i := 6) rfl)) (hts (.native arraycopyName) (List.mem_of_getElem? (i := 7) rfl)) (hts (.static arraycopyName) (List.mem_of_getElem? (i := 8) rfl)) (hts (.initialized "java/lang/System") (List.mem_of_getElem? (i := 9) rfl)) hK hP hD hS 2 13 rfl rfl rfl (Nat.le_of_ble_eq_true rfl) (Nat.le_of_ble_eq_true rfl) dX3_keepAct_65 (fun H locs g65 e65 hP hD hS => ?_)
      have sg65 := zA_cpy e65 sME_now_0_k40
      replace hP : va_P D classes ([(ME, .inr (3, oX3 FL aME w40_ME_4 w40_ME_5 0)), ((aME 3), .inl (cG, 41, .inr (.inr (.inr (.inr ME_kept))))), ((aME 1), .inl (cI, 32, .inl ME_now))] ++ rw41 cI KRr (rup KRf 10 g65)) H := hP
      replace hD : va_D A ([(ME, .inr (3, oX3 FL aME w40_ME_4 w40_ME_5 0)), ((aME 3), .inl (cG, 41, .inr (.inr (.inr (.inr ME_kept))))), ((aME 1), .inl (cI, 32, .inl ME_now))] ++ rw41 cI KRr (rup KRf 10 g65)) := hD
      clear e65
      exact up _ _ _ (W.vret hx hb hr (fun t ht hW => ⟨⟨(), rfl, trivial, ⟨w40_ME_4, w40_ME_5, 0, (rup KRf 10 g65), bw40_ME_4_k40, bw40_ME_5_k40, (show zB 0 0 0 from ⟨by decide, by decide⟩), (rup_ok w_KR sg65), by rw [ht]; exact hP, hD⟩⟩, hS.F ht⟩) hS.2.2 dX3_keepAct_68)
    · refine zz_alda (v := (KRr 11)) hx hb hK hP 1 4 rfl rfl (zB_in (show zB 11 11 11 from ⟨by decide, by decide⟩) (by decide) (by decide)) (k_ME_kept 11 (by decide)) dX3_keepAct_61 ?_
      refine lv_iconst (v := 0) hx hb dX3_keepAct_62 (by decide) ?_
      refine lv_bipush (v := 32) hx hb dX3_keepAct_63 (by decide) ?_
      refine zi_copy hx hb (by rw [hml]; exact hl.1.symm) hown (hts (.methodLink RX3 115 arraycopyName) (List.mem_of_getElem? (i := 6) rfl)) (hts (.native arraycopyName) (List.mem_of_getElem? (i := 7) rfl)) (hts (.static arraycopyName) (List.mem_of_getElem? (i := 8) rfl)) (hts (.initialized "java/lang/System") (List.mem_of_getElem? (i := 9) rfl)) hK hP hD hS 2 14 rfl rfl rfl (Nat.le_of_ble_eq_true rfl) (Nat.le_of_ble_eq_true rfl) dX3_keepAct_65 (fun H locs g65 e65 hP hD hS => ?_)
      have sg65 := zA_cpy e65 sME_now_0_k40
      replace hP : va_P D classes ([(ME, .inr (3, oX3 FL aME w40_ME_4 w40_ME_5 0)), ((aME 3), .inl (cG, 41, .inr (.inr (.inr (.inr ME_kept))))), ((aME 1), .inl (cI, 32, .inl ME_now))] ++ rw41 cI KRr (rup KRf 11 g65)) H := hP
      replace hD : va_D A ([(ME, .inr (3, oX3 FL aME w40_ME_4 w40_ME_5 0)), ((aME 3), .inl (cG, 41, .inr (.inr (.inr (.inr ME_kept))))), ((aME 1), .inl (cI, 32, .inl ME_now))] ++ rw41 cI KRr (rup KRf 11 g65)) := hD
      clear e65
      exact up _ _ _ (W.vret hx hb hr (fun t ht hW => ⟨⟨(), rfl, trivial, ⟨w40_ME_4, w40_ME_5, 0, (rup KRf 11 g65), bw40_ME_4_k40, bw40_ME_5_k40, (show zB 0 0 0 from ⟨by decide, by decide⟩), (rup_ok w_KR sg65), by rw [ht]; exact hP, hD⟩⟩, hS.F ht⟩) hS.2.2 dX3_keepAct_68)
    · refine zz_alda (v := (KRr 12)) hx hb hK hP 1 4 rfl rfl (zB_in (show zB 12 12 12 from ⟨by decide, by decide⟩) (by decide) (by decide)) (k_ME_kept 12 (by decide)) dX3_keepAct_61 ?_
      refine lv_iconst (v := 0) hx hb dX3_keepAct_62 (by decide) ?_
      refine lv_bipush (v := 32) hx hb dX3_keepAct_63 (by decide) ?_
      refine zi_copy hx hb (by rw [hml]; exact hl.1.symm) hown (hts (.methodLink RX3 115 arraycopyName) (List.mem_of_getElem? (i := 6) rfl)) (hts (.native arraycopyName) (List.mem_of_getElem? (i := 7) rfl)) (hts (.static arraycopyName) (List.mem_of_getElem? (i := 8) rfl)) (hts (.initialized "java/lang/System") (List.mem_of_getElem? (i := 9) rfl)) hK hP hD hS 2 15 rfl rfl rfl (Nat.le_of_ble_eq_true rfl) (Nat.le_of_ble_eq_true rfl) dX3_keepAct_65 (fun H locs g65 e65 hP hD hS => ?_)
      have sg65 := zA_cpy e65 sME_now_0_k40
      replace hP : va_P D classes ([(ME, .inr (3, oX3 FL aME w40_ME_4 w40_ME_5 0)), ((aME 3), .inl (cG, 41, .inr (.inr (.inr (.inr ME_kept))))), ((aME 1), .inl (cI, 32, .inl ME_now))] ++ rw41 cI KRr (rup KRf 12 g65)) H := hP
      replace hD : va_D A ([(ME, .inr (3, oX3 FL aME w40_ME_4 w40_ME_5 0)), ((aME 3), .inl (cG, 41, .inr (.inr (.inr (.inr ME_kept))))), ((aME 1), .inl (cI, 32, .inl ME_now))] ++ rw41 cI KRr (rup KRf 12 g65)) := hD
      clear e65
      exact up _ _ _ (W.vret hx hb hr (fun t ht hW => ⟨⟨(), rfl, trivial, ⟨w40_ME_4, w40_ME_5, 0, (rup KRf 12 g65), bw40_ME_4_k40, bw40_ME_5_k40, (show zB 0 0 0 from ⟨by decide, by decide⟩), (rup_ok w_KR sg65), by rw [ht]; exact hP, hD⟩⟩, hS.F ht⟩) hS.2.2 dX3_keepAct_68)
    · refine zz_alda (v := (KRr 13)) hx hb hK hP 1 4 rfl rfl (zB_in (show zB 13 13 13 from ⟨by decide, by decide⟩) (by decide) (by decide)) (k_ME_kept 13 (by decide)) dX3_keepAct_61 ?_
      refine lv_iconst (v := 0) hx hb dX3_keepAct_62 (by decide) ?_
      refine lv_bipush (v := 32) hx hb dX3_keepAct_63 (by decide) ?_
      refine zi_copy hx hb (by rw [hml]; exact hl.1.symm) hown (hts (.methodLink RX3 115 arraycopyName) (List.mem_of_getElem? (i := 6) rfl)) (hts (.native arraycopyName) (List.mem_of_getElem? (i := 7) rfl)) (hts (.static arraycopyName) (List.mem_of_getElem? (i := 8) rfl)) (hts (.initialized "java/lang/System") (List.mem_of_getElem? (i := 9) rfl)) hK hP hD hS 2 16 rfl rfl rfl (Nat.le_of_ble_eq_true rfl) (Nat.le_of_ble_eq_true rfl) dX3_keepAct_65 (fun H locs g65 e65 hP hD hS => ?_)
      have sg65 := zA_cpy e65 sME_now_0_k40
      replace hP : va_P D classes ([(ME, .inr (3, oX3 FL aME w40_ME_4 w40_ME_5 0)), ((aME 3), .inl (cG, 41, .inr (.inr (.inr (.inr ME_kept))))), ((aME 1), .inl (cI, 32, .inl ME_now))] ++ rw41 cI KRr (rup KRf 13 g65)) H := hP
      replace hD : va_D A ([(ME, .inr (3, oX3 FL aME w40_ME_4 w40_ME_5 0)), ((aME 3), .inl (cG, 41, .inr (.inr (.inr (.inr ME_kept))))), ((aME 1), .inl (cI, 32, .inl ME_now))] ++ rw41 cI KRr (rup KRf 13 g65)) := hD
      clear e65
      exact up _ _ _ (W.vret hx hb hr (fun t ht hW => ⟨⟨(), rfl, trivial, ⟨w40_ME_4, w40_ME_5, 0, (rup KRf 13 g65), bw40_ME_4_k40, bw40_ME_5_k40, (show zB 0 0 0 from ⟨by decide, by decide⟩), (rup_ok w_KR sg65), by rw [ht]; exact hP, hD⟩⟩, hS.F ht⟩) hS.2.2 dX3_keepAct_68)
    · refine zz_alda (v := (KRr 14)) hx hb hK hP 1 4 rfl rfl (zB_in (show zB 14 14 14 from ⟨by decide, by decide⟩) (by decide) (by decide)) (k_ME_kept 14 (by decide)) dX3_keepAct_61 ?_
      refine lv_iconst (v := 0) hx hb dX3_keepAct_62 (by decide) ?_
      refine lv_bipush (v := 32) hx hb dX3_keepAct_63 (by decide) ?_
      refine zi_copy hx hb (by rw [hml]; exact hl.1.symm) hown (hts (.methodLink RX3 115 arraycopyName) (List.mem_of_getElem? (i := 6) rfl)) (hts (.native arraycopyName) (List.mem_of_getElem? (i := 7) rfl)) (hts (.static arraycopyName) (List.mem_of_getElem? (i := 8) rfl)) (hts (.initialized "java/lang/System") (List.mem_of_getElem? (i := 9) rfl)) hK hP hD hS 2 17 rfl rfl rfl (Nat.le_of_ble_eq_true rfl) (Nat.le_of_ble_eq_true rfl) dX3_keepAct_65 (fun H locs g65 e65 hP hD hS => ?_)
      have sg65 := zA_cpy e65 sME_now_0_k40
      replace hP : va_P D classes ([(ME, .inr (3, oX3 FL aME w40_ME_4 w40_ME_5 0)), ((aME 3), .inl (cG, 41, .inr (.inr (.inr (.inr ME_kept))))), ((aME 1), .inl (cI, 32, .inl ME_now))] ++ rw41 cI KRr (rup KRf 14 g65)) H := hP
      replace hD : va_D A ([(ME, .inr (3, oX3 FL aME w40_ME_4 w40_ME_5 0)), ((aME 3), .inl (cG, 41, .inr (.inr (.inr (.inr ME_kept))))), ((aME 1), .inl (cI, 32, .inl ME_now))] ++ rw41 cI KRr (rup KRf 14 g65)) := hD
      clear e65
      exact up _ _ _ (W.vret hx hb hr (fun t ht hW => ⟨⟨(), rfl, trivial, ⟨w40_ME_4, w40_ME_5, 0, (rup KRf 14 g65), bw40_ME_4_k40, bw40_ME_5_k40, (show zB 0 0 0 from ⟨by decide, by decide⟩), (rup_ok w_KR sg65), by rw [ht]; exact hP, hD⟩⟩, hS.F ht⟩) hS.2.2 dX3_keepAct_68)
    · refine zz_alda (v := (KRr 15)) hx hb hK hP 1 4 rfl rfl (zB_in (show zB 15 15 15 from ⟨by decide, by decide⟩) (by decide) (by decide)) (k_ME_kept 15 (by decide)) dX3_keepAct_61 ?_
      refine lv_iconst (v := 0) hx hb dX3_keepAct_62 (by decide) ?_
      refine lv_bipush (v := 32) hx hb dX3_keepAct_63 (by decide) ?_
      refine zi_copy hx hb (by rw [hml]; exact hl.1.symm) hown (hts (.methodLink RX3 115 arraycopyName) (List.mem_of_getElem? (i := 6) rfl)) (hts (.native arraycopyName) (List.mem_of_getElem? (i := 7) rfl)) (hts (.static arraycopyName) (List.mem_of_getElem? (i := 8) rfl)) (hts (.initialized "java/lang/System") (List.mem_of_getElem? (i := 9) rfl)) hK hP hD hS 2 18 rfl rfl rfl (Nat.le_of_ble_eq_true rfl) (Nat.le_of_ble_eq_true rfl) dX3_keepAct_65 (fun H locs g65 e65 hP hD hS => ?_)
      have sg65 := zA_cpy e65 sME_now_0_k40
      replace hP : va_P D classes ([(ME, .inr (3, oX3 FL aME w40_ME_4 w40_ME_5 0)), ((aME 3), .inl (cG, 41, .inr (.inr (.inr (.inr ME_kept))))), ((aME 1), .inl (cI, 32, .inl ME_now))] ++ rw41 cI KRr (rup KRf 15 g65)) H := hP
      replace hD : va_D A ([(ME, .inr (3, oX3 FL aME w40_ME_4 w40_ME_5 0)), ((aME 3), .inl (cG, 41, .inr (.inr (.inr (.inr ME_kept))))), ((aME 1), .inl (cI, 32, .inl ME_now))] ++ rw41 cI KRr (rup KRf 15 g65)) := hD
      clear e65
      exact up _ _ _ (W.vret hx hb hr (fun t ht hW => ⟨⟨(), rfl, trivial, ⟨w40_ME_4, w40_ME_5, 0, (rup KRf 15 g65), bw40_ME_4_k40, bw40_ME_5_k40, (show zB 0 0 0 from ⟨by decide, by decide⟩), (rup_ok w_KR sg65), by rw [ht]; exact hP, hD⟩⟩, hS.F ht⟩) hS.2.2 dX3_keepAct_68)
    · refine zz_alda (v := (KRr 16)) hx hb hK hP 1 4 rfl rfl (zB_in (show zB 16 16 16 from ⟨by decide, by decide⟩) (by decide) (by decide)) (k_ME_kept 16 (by decide)) dX3_keepAct_61 ?_
      refine lv_iconst (v := 0) hx hb dX3_keepAct_62 (by decide) ?_
      refine lv_bipush (v := 32) hx hb dX3_keepAct_63 (by decide) ?_
      refine zi_copy hx hb (by rw [hml]; exact hl.1.symm) hown (hts (.methodLink RX3 115 arraycopyName) (List.mem_of_getElem? (i := 6) rfl)) (hts (.native arraycopyName) (List.mem_of_getElem? (i := 7) rfl)) (hts (.static arraycopyName) (List.mem_of_getElem? (i := 8) rfl)) (hts (.initialized "java/lang/System") (List.mem_of_getElem? (i := 9) rfl)) hK hP hD hS 2 19 rfl rfl rfl (Nat.le_of_ble_eq_true rfl) (Nat.le_of_ble_eq_true rfl) dX3_keepAct_65 (fun H locs g65 e65 hP hD hS => ?_)
      have sg65 := zA_cpy e65 sME_now_0_k40
      replace hP : va_P D classes ([(ME, .inr (3, oX3 FL aME w40_ME_4 w40_ME_5 0)), ((aME 3), .inl (cG, 41, .inr (.inr (.inr (.inr ME_kept))))), ((aME 1), .inl (cI, 32, .inl ME_now))] ++ rw41 cI KRr (rup KRf 16 g65)) H := hP
      replace hD : va_D A ([(ME, .inr (3, oX3 FL aME w40_ME_4 w40_ME_5 0)), ((aME 3), .inl (cG, 41, .inr (.inr (.inr (.inr ME_kept))))), ((aME 1), .inl (cI, 32, .inl ME_now))] ++ rw41 cI KRr (rup KRf 16 g65)) := hD
      clear e65
      exact up _ _ _ (W.vret hx hb hr (fun t ht hW => ⟨⟨(), rfl, trivial, ⟨w40_ME_4, w40_ME_5, 0, (rup KRf 16 g65), bw40_ME_4_k40, bw40_ME_5_k40, (show zB 0 0 0 from ⟨by decide, by decide⟩), (rup_ok w_KR sg65), by rw [ht]; exact hP, hD⟩⟩, hS.F ht⟩) hS.2.2 dX3_keepAct_68)
    · refine zz_alda (v := (KRr 17)) hx hb hK hP 1 4 rfl rfl (zB_in (show zB 17 17 17 from ⟨by decide, by decide⟩) (by decide) (by decide)) (k_ME_kept 17 (by decide)) dX3_keepAct_61 ?_
      refine lv_iconst (v := 0) hx hb dX3_keepAct_62 (by decide) ?_
      refine lv_bipush (v := 32) hx hb dX3_keepAct_63 (by decide) ?_
      refine zi_copy hx hb (by rw [hml]; exact hl.1.symm) hown (hts (.methodLink RX3 115 arraycopyName) (List.mem_of_getElem? (i := 6) rfl)) (hts (.native arraycopyName) (List.mem_of_getElem? (i := 7) rfl)) (hts (.static arraycopyName) (List.mem_of_getElem? (i := 8) rfl)) (hts (.initialized "java/lang/System") (List.mem_of_getElem? (i := 9) rfl)) hK hP hD hS 2 20 rfl rfl rfl (Nat.le_of_ble_eq_true rfl) (Nat.le_of_ble_eq_true rfl) dX3_keepAct_65 (fun H locs g65 e65 hP hD hS => ?_)
      have sg65 := zA_cpy e65 sME_now_0_k40
      replace hP : va_P D classes ([(ME, .inr (3, oX3 FL aME w40_ME_4 w40_ME_5 0)), ((aME 3), .inl (cG, 41, .inr (.inr (.inr (.inr ME_kept))))), ((aME 1), .inl (cI, 32, .inl ME_now))] ++ rw41 cI KRr (rup KRf 17 g65)) H := hP
      replace hD : va_D A ([(ME, .inr (3, oX3 FL aME w40_ME_4 w40_ME_5 0)), ((aME 3), .inl (cG, 41, .inr (.inr (.inr (.inr ME_kept))))), ((aME 1), .inl (cI, 32, .inl ME_now))] ++ rw41 cI KRr (rup KRf 17 g65)) := hD
      clear e65
      exact up _ _ _ (W.vret hx hb hr (fun t ht hW => ⟨⟨(), rfl, trivial, ⟨w40_ME_4, w40_ME_5, 0, (rup KRf 17 g65), bw40_ME_4_k40, bw40_ME_5_k40, (show zB 0 0 0 from ⟨by decide, by decide⟩), (rup_ok w_KR sg65), by rw [ht]; exact hP, hD⟩⟩, hS.F ht⟩) hS.2.2 dX3_keepAct_68)
    · refine zz_alda (v := (KRr 18)) hx hb hK hP 1 4 rfl rfl (zB_in (show zB 18 18 18 from ⟨by decide, by decide⟩) (by decide) (by decide)) (k_ME_kept 18 (by decide)) dX3_keepAct_61 ?_
      refine lv_iconst (v := 0) hx hb dX3_keepAct_62 (by decide) ?_
      refine lv_bipush (v := 32) hx hb dX3_keepAct_63 (by decide) ?_
      refine zi_copy hx hb (by rw [hml]; exact hl.1.symm) hown (hts (.methodLink RX3 115 arraycopyName) (List.mem_of_getElem? (i := 6) rfl)) (hts (.native arraycopyName) (List.mem_of_getElem? (i := 7) rfl)) (hts (.static arraycopyName) (List.mem_of_getElem? (i := 8) rfl)) (hts (.initialized "java/lang/System") (List.mem_of_getElem? (i := 9) rfl)) hK hP hD hS 2 21 rfl rfl rfl (Nat.le_of_ble_eq_true rfl) (Nat.le_of_ble_eq_true rfl) dX3_keepAct_65 (fun H locs g65 e65 hP hD hS => ?_)
      have sg65 := zA_cpy e65 sME_now_0_k40
      replace hP : va_P D classes ([(ME, .inr (3, oX3 FL aME w40_ME_4 w40_ME_5 0)), ((aME 3), .inl (cG, 41, .inr (.inr (.inr (.inr ME_kept))))), ((aME 1), .inl (cI, 32, .inl ME_now))] ++ rw41 cI KRr (rup KRf 18 g65)) H := hP
      replace hD : va_D A ([(ME, .inr (3, oX3 FL aME w40_ME_4 w40_ME_5 0)), ((aME 3), .inl (cG, 41, .inr (.inr (.inr (.inr ME_kept))))), ((aME 1), .inl (cI, 32, .inl ME_now))] ++ rw41 cI KRr (rup KRf 18 g65)) := hD
      clear e65
      exact up _ _ _ (W.vret hx hb hr (fun t ht hW => ⟨⟨(), rfl, trivial, ⟨w40_ME_4, w40_ME_5, 0, (rup KRf 18 g65), bw40_ME_4_k40, bw40_ME_5_k40, (show zB 0 0 0 from ⟨by decide, by decide⟩), (rup_ok w_KR sg65), by rw [ht]; exact hP, hD⟩⟩, hS.F ht⟩) hS.2.2 dX3_keepAct_68)
    · refine zz_alda (v := (KRr 19)) hx hb hK hP 1 4 rfl rfl (zB_in (show zB 19 19 19 from ⟨by decide, by decide⟩) (by decide) (by decide)) (k_ME_kept 19 (by decide)) dX3_keepAct_61 ?_
      refine lv_iconst (v := 0) hx hb dX3_keepAct_62 (by decide) ?_
      refine lv_bipush (v := 32) hx hb dX3_keepAct_63 (by decide) ?_
      refine zi_copy hx hb (by rw [hml]; exact hl.1.symm) hown (hts (.methodLink RX3 115 arraycopyName) (List.mem_of_getElem? (i := 6) rfl)) (hts (.native arraycopyName) (List.mem_of_getElem? (i := 7) rfl)) (hts (.static arraycopyName) (List.mem_of_getElem? (i := 8) rfl)) (hts (.initialized "java/lang/System") (List.mem_of_getElem? (i := 9) rfl)) hK hP hD hS 2 22 rfl rfl rfl (Nat.le_of_ble_eq_true rfl) (Nat.le_of_ble_eq_true rfl) dX3_keepAct_65 (fun H locs g65 e65 hP hD hS => ?_)
      have sg65 := zA_cpy e65 sME_now_0_k40
      replace hP : va_P D classes ([(ME, .inr (3, oX3 FL aME w40_ME_4 w40_ME_5 0)), ((aME 3), .inl (cG, 41, .inr (.inr (.inr (.inr ME_kept))))), ((aME 1), .inl (cI, 32, .inl ME_now))] ++ rw41 cI KRr (rup KRf 19 g65)) H := hP
      replace hD : va_D A ([(ME, .inr (3, oX3 FL aME w40_ME_4 w40_ME_5 0)), ((aME 3), .inl (cG, 41, .inr (.inr (.inr (.inr ME_kept))))), ((aME 1), .inl (cI, 32, .inl ME_now))] ++ rw41 cI KRr (rup KRf 19 g65)) := hD
      clear e65
      exact up _ _ _ (W.vret hx hb hr (fun t ht hW => ⟨⟨(), rfl, trivial, ⟨w40_ME_4, w40_ME_5, 0, (rup KRf 19 g65), bw40_ME_4_k40, bw40_ME_5_k40, (show zB 0 0 0 from ⟨by decide, by decide⟩), (rup_ok w_KR sg65), by rw [ht]; exact hP, hD⟩⟩, hS.F ht⟩) hS.2.2 dX3_keepAct_68)
    · refine zz_alda (v := (KRr 20)) hx hb hK hP 1 4 rfl rfl (zB_in (show zB 20 20 20 from ⟨by decide, by decide⟩) (by decide) (by decide)) (k_ME_kept 20 (by decide)) dX3_keepAct_61 ?_
      refine lv_iconst (v := 0) hx hb dX3_keepAct_62 (by decide) ?_
      refine lv_bipush (v := 32) hx hb dX3_keepAct_63 (by decide) ?_
      refine zi_copy hx hb (by rw [hml]; exact hl.1.symm) hown (hts (.methodLink RX3 115 arraycopyName) (List.mem_of_getElem? (i := 6) rfl)) (hts (.native arraycopyName) (List.mem_of_getElem? (i := 7) rfl)) (hts (.static arraycopyName) (List.mem_of_getElem? (i := 8) rfl)) (hts (.initialized "java/lang/System") (List.mem_of_getElem? (i := 9) rfl)) hK hP hD hS 2 23 rfl rfl rfl (Nat.le_of_ble_eq_true rfl) (Nat.le_of_ble_eq_true rfl) dX3_keepAct_65 (fun H locs g65 e65 hP hD hS => ?_)
      have sg65 := zA_cpy e65 sME_now_0_k40
      replace hP : va_P D classes ([(ME, .inr (3, oX3 FL aME w40_ME_4 w40_ME_5 0)), ((aME 3), .inl (cG, 41, .inr (.inr (.inr (.inr ME_kept))))), ((aME 1), .inl (cI, 32, .inl ME_now))] ++ rw41 cI KRr (rup KRf 20 g65)) H := hP
      replace hD : va_D A ([(ME, .inr (3, oX3 FL aME w40_ME_4 w40_ME_5 0)), ((aME 3), .inl (cG, 41, .inr (.inr (.inr (.inr ME_kept))))), ((aME 1), .inl (cI, 32, .inl ME_now))] ++ rw41 cI KRr (rup KRf 20 g65)) := hD
      clear e65
      exact up _ _ _ (W.vret hx hb hr (fun t ht hW => ⟨⟨(), rfl, trivial, ⟨w40_ME_4, w40_ME_5, 0, (rup KRf 20 g65), bw40_ME_4_k40, bw40_ME_5_k40, (show zB 0 0 0 from ⟨by decide, by decide⟩), (rup_ok w_KR sg65), by rw [ht]; exact hP, hD⟩⟩, hS.F ht⟩) hS.2.2 dX3_keepAct_68)
    · refine zz_alda (v := (KRr 21)) hx hb hK hP 1 4 rfl rfl (zB_in (show zB 21 21 21 from ⟨by decide, by decide⟩) (by decide) (by decide)) (k_ME_kept 21 (by decide)) dX3_keepAct_61 ?_
      refine lv_iconst (v := 0) hx hb dX3_keepAct_62 (by decide) ?_
      refine lv_bipush (v := 32) hx hb dX3_keepAct_63 (by decide) ?_
      refine zi_copy hx hb (by rw [hml]; exact hl.1.symm) hown (hts (.methodLink RX3 115 arraycopyName) (List.mem_of_getElem? (i := 6) rfl)) (hts (.native arraycopyName) (List.mem_of_getElem? (i := 7) rfl)) (hts (.static arraycopyName) (List.mem_of_getElem? (i := 8) rfl)) (hts (.initialized "java/lang/System") (List.mem_of_getElem? (i := 9) rfl)) hK hP hD hS 2 24 rfl rfl rfl (Nat.le_of_ble_eq_true rfl) (Nat.le_of_ble_eq_true rfl) dX3_keepAct_65 (fun H locs g65 e65 hP hD hS => ?_)
      have sg65 := zA_cpy e65 sME_now_0_k40
      replace hP : va_P D classes ([(ME, .inr (3, oX3 FL aME w40_ME_4 w40_ME_5 0)), ((aME 3), .inl (cG, 41, .inr (.inr (.inr (.inr ME_kept))))), ((aME 1), .inl (cI, 32, .inl ME_now))] ++ rw41 cI KRr (rup KRf 21 g65)) H := hP
      replace hD : va_D A ([(ME, .inr (3, oX3 FL aME w40_ME_4 w40_ME_5 0)), ((aME 3), .inl (cG, 41, .inr (.inr (.inr (.inr ME_kept))))), ((aME 1), .inl (cI, 32, .inl ME_now))] ++ rw41 cI KRr (rup KRf 21 g65)) := hD
      clear e65
      exact up _ _ _ (W.vret hx hb hr (fun t ht hW => ⟨⟨(), rfl, trivial, ⟨w40_ME_4, w40_ME_5, 0, (rup KRf 21 g65), bw40_ME_4_k40, bw40_ME_5_k40, (show zB 0 0 0 from ⟨by decide, by decide⟩), (rup_ok w_KR sg65), by rw [ht]; exact hP, hD⟩⟩, hS.F ht⟩) hS.2.2 dX3_keepAct_68)
    · refine zz_alda (v := (KRr 22)) hx hb hK hP 1 4 rfl rfl (zB_in (show zB 22 22 22 from ⟨by decide, by decide⟩) (by decide) (by decide)) (k_ME_kept 22 (by decide)) dX3_keepAct_61 ?_
      refine lv_iconst (v := 0) hx hb dX3_keepAct_62 (by decide) ?_
      refine lv_bipush (v := 32) hx hb dX3_keepAct_63 (by decide) ?_
      refine zi_copy hx hb (by rw [hml]; exact hl.1.symm) hown (hts (.methodLink RX3 115 arraycopyName) (List.mem_of_getElem? (i := 6) rfl)) (hts (.native arraycopyName) (List.mem_of_getElem? (i := 7) rfl)) (hts (.static arraycopyName) (List.mem_of_getElem? (i := 8) rfl)) (hts (.initialized "java/lang/System") (List.mem_of_getElem? (i := 9) rfl)) hK hP hD hS 2 25 rfl rfl rfl (Nat.le_of_ble_eq_true rfl) (Nat.le_of_ble_eq_true rfl) dX3_keepAct_65 (fun H locs g65 e65 hP hD hS => ?_)
      have sg65 := zA_cpy e65 sME_now_0_k40
      replace hP : va_P D classes ([(ME, .inr (3, oX3 FL aME w40_ME_4 w40_ME_5 0)), ((aME 3), .inl (cG, 41, .inr (.inr (.inr (.inr ME_kept))))), ((aME 1), .inl (cI, 32, .inl ME_now))] ++ rw41 cI KRr (rup KRf 22 g65)) H := hP
      replace hD : va_D A ([(ME, .inr (3, oX3 FL aME w40_ME_4 w40_ME_5 0)), ((aME 3), .inl (cG, 41, .inr (.inr (.inr (.inr ME_kept))))), ((aME 1), .inl (cI, 32, .inl ME_now))] ++ rw41 cI KRr (rup KRf 22 g65)) := hD
      clear e65
      exact up _ _ _ (W.vret hx hb hr (fun t ht hW => ⟨⟨(), rfl, trivial, ⟨w40_ME_4, w40_ME_5, 0, (rup KRf 22 g65), bw40_ME_4_k40, bw40_ME_5_k40, (show zB 0 0 0 from ⟨by decide, by decide⟩), (rup_ok w_KR sg65), by rw [ht]; exact hP, hD⟩⟩, hS.F ht⟩) hS.2.2 dX3_keepAct_68)
    · refine zz_alda (v := (KRr 23)) hx hb hK hP 1 4 rfl rfl (zB_in (show zB 23 23 23 from ⟨by decide, by decide⟩) (by decide) (by decide)) (k_ME_kept 23 (by decide)) dX3_keepAct_61 ?_
      refine lv_iconst (v := 0) hx hb dX3_keepAct_62 (by decide) ?_
      refine lv_bipush (v := 32) hx hb dX3_keepAct_63 (by decide) ?_
      refine zi_copy hx hb (by rw [hml]; exact hl.1.symm) hown (hts (.methodLink RX3 115 arraycopyName) (List.mem_of_getElem? (i := 6) rfl)) (hts (.native arraycopyName) (List.mem_of_getElem? (i := 7) rfl)) (hts (.static arraycopyName) (List.mem_of_getElem? (i := 8) rfl)) (hts (.initialized "java/lang/System") (List.mem_of_getElem? (i := 9) rfl)) hK hP hD hS 2 26 rfl rfl rfl (Nat.le_of_ble_eq_true rfl) (Nat.le_of_ble_eq_true rfl) dX3_keepAct_65 (fun H locs g65 e65 hP hD hS => ?_)
      have sg65 := zA_cpy e65 sME_now_0_k40
      replace hP : va_P D classes ([(ME, .inr (3, oX3 FL aME w40_ME_4 w40_ME_5 0)), ((aME 3), .inl (cG, 41, .inr (.inr (.inr (.inr ME_kept))))), ((aME 1), .inl (cI, 32, .inl ME_now))] ++ rw41 cI KRr (rup KRf 23 g65)) H := hP
      replace hD : va_D A ([(ME, .inr (3, oX3 FL aME w40_ME_4 w40_ME_5 0)), ((aME 3), .inl (cG, 41, .inr (.inr (.inr (.inr ME_kept))))), ((aME 1), .inl (cI, 32, .inl ME_now))] ++ rw41 cI KRr (rup KRf 23 g65)) := hD
      clear e65
      exact up _ _ _ (W.vret hx hb hr (fun t ht hW => ⟨⟨(), rfl, trivial, ⟨w40_ME_4, w40_ME_5, 0, (rup KRf 23 g65), bw40_ME_4_k40, bw40_ME_5_k40, (show zB 0 0 0 from ⟨by decide, by decide⟩), (rup_ok w_KR sg65), by rw [ht]; exact hP, hD⟩⟩, hS.F ht⟩) hS.2.2 dX3_keepAct_68)
    · refine zz_alda (v := (KRr 24)) hx hb hK hP 1 4 rfl rfl (zB_in (show zB 24 24 24 from ⟨by decide, by decide⟩) (by decide) (by decide)) (k_ME_kept 24 (by decide)) dX3_keepAct_61 ?_
      refine lv_iconst (v := 0) hx hb dX3_keepAct_62 (by decide) ?_
      refine lv_bipush (v := 32) hx hb dX3_keepAct_63 (by decide) ?_
      refine zi_copy hx hb (by rw [hml]; exact hl.1.symm) hown (hts (.methodLink RX3 115 arraycopyName) (List.mem_of_getElem? (i := 6) rfl)) (hts (.native arraycopyName) (List.mem_of_getElem? (i := 7) rfl)) (hts (.static arraycopyName) (List.mem_of_getElem? (i := 8) rfl)) (hts (.initialized "java/lang/System") (List.mem_of_getElem? (i := 9) rfl)) hK hP hD hS 2 27 rfl rfl rfl (Nat.le_of_ble_eq_true rfl) (Nat.le_of_ble_eq_true rfl) dX3_keepAct_65 (fun H locs g65 e65 hP hD hS => ?_)
      have sg65 := zA_cpy e65 sME_now_0_k40
      replace hP : va_P D classes ([(ME, .inr (3, oX3 FL aME w40_ME_4 w40_ME_5 0)), ((aME 3), .inl (cG, 41, .inr (.inr (.inr (.inr ME_kept))))), ((aME 1), .inl (cI, 32, .inl ME_now))] ++ rw41 cI KRr (rup KRf 24 g65)) H := hP
      replace hD : va_D A ([(ME, .inr (3, oX3 FL aME w40_ME_4 w40_ME_5 0)), ((aME 3), .inl (cG, 41, .inr (.inr (.inr (.inr ME_kept))))), ((aME 1), .inl (cI, 32, .inl ME_now))] ++ rw41 cI KRr (rup KRf 24 g65)) := hD
      clear e65
      exact up _ _ _ (W.vret hx hb hr (fun t ht hW => ⟨⟨(), rfl, trivial, ⟨w40_ME_4, w40_ME_5, 0, (rup KRf 24 g65), bw40_ME_4_k40, bw40_ME_5_k40, (show zB 0 0 0 from ⟨by decide, by decide⟩), (rup_ok w_KR sg65), by rw [ht]; exact hP, hD⟩⟩, hS.F ht⟩) hS.2.2 dX3_keepAct_68)
    · refine zz_alda (v := (KRr 25)) hx hb hK hP 1 4 rfl rfl (zB_in (show zB 25 25 25 from ⟨by decide, by decide⟩) (by decide) (by decide)) (k_ME_kept 25 (by decide)) dX3_keepAct_61 ?_
      refine lv_iconst (v := 0) hx hb dX3_keepAct_62 (by decide) ?_
      refine lv_bipush (v := 32) hx hb dX3_keepAct_63 (by decide) ?_
      refine zi_copy hx hb (by rw [hml]; exact hl.1.symm) hown (hts (.methodLink RX3 115 arraycopyName) (List.mem_of_getElem? (i := 6) rfl)) (hts (.native arraycopyName) (List.mem_of_getElem? (i := 7) rfl)) (hts (.static arraycopyName) (List.mem_of_getElem? (i := 8) rfl)) (hts (.initialized "java/lang/System") (List.mem_of_getElem? (i := 9) rfl)) hK hP hD hS 2 28 rfl rfl rfl (Nat.le_of_ble_eq_true rfl) (Nat.le_of_ble_eq_true rfl) dX3_keepAct_65 (fun H locs g65 e65 hP hD hS => ?_)
      have sg65 := zA_cpy e65 sME_now_0_k40
      replace hP : va_P D classes ([(ME, .inr (3, oX3 FL aME w40_ME_4 w40_ME_5 0)), ((aME 3), .inl (cG, 41, .inr (.inr (.inr (.inr ME_kept))))), ((aME 1), .inl (cI, 32, .inl ME_now))] ++ rw41 cI KRr (rup KRf 25 g65)) H := hP
      replace hD : va_D A ([(ME, .inr (3, oX3 FL aME w40_ME_4 w40_ME_5 0)), ((aME 3), .inl (cG, 41, .inr (.inr (.inr (.inr ME_kept))))), ((aME 1), .inl (cI, 32, .inl ME_now))] ++ rw41 cI KRr (rup KRf 25 g65)) := hD
      clear e65
      exact up _ _ _ (W.vret hx hb hr (fun t ht hW => ⟨⟨(), rfl, trivial, ⟨w40_ME_4, w40_ME_5, 0, (rup KRf 25 g65), bw40_ME_4_k40, bw40_ME_5_k40, (show zB 0 0 0 from ⟨by decide, by decide⟩), (rup_ok w_KR sg65), by rw [ht]; exact hP, hD⟩⟩, hS.F ht⟩) hS.2.2 dX3_keepAct_68)
    · refine zz_alda (v := (KRr 26)) hx hb hK hP 1 4 rfl rfl (zB_in (show zB 26 26 26 from ⟨by decide, by decide⟩) (by decide) (by decide)) (k_ME_kept 26 (by decide)) dX3_keepAct_61 ?_
      refine lv_iconst (v := 0) hx hb dX3_keepAct_62 (by decide) ?_
      refine lv_bipush (v := 32) hx hb dX3_keepAct_63 (by decide) ?_
      refine zi_copy hx hb (by rw [hml]; exact hl.1.symm) hown (hts (.methodLink RX3 115 arraycopyName) (List.mem_of_getElem? (i := 6) rfl)) (hts (.native arraycopyName) (List.mem_of_getElem? (i := 7) rfl)) (hts (.static arraycopyName) (List.mem_of_getElem? (i := 8) rfl)) (hts (.initialized "java/lang/System") (List.mem_of_getElem? (i := 9) rfl)) hK hP hD hS 2 29 rfl rfl rfl (Nat.le_of_ble_eq_true rfl) (Nat.le_of_ble_eq_true rfl) dX3_keepAct_65 (fun H locs g65 e65 hP hD hS => ?_)
      have sg65 := zA_cpy e65 sME_now_0_k40
      replace hP : va_P D classes ([(ME, .inr (3, oX3 FL aME w40_ME_4 w40_ME_5 0)), ((aME 3), .inl (cG, 41, .inr (.inr (.inr (.inr ME_kept))))), ((aME 1), .inl (cI, 32, .inl ME_now))] ++ rw41 cI KRr (rup KRf 26 g65)) H := hP
      replace hD : va_D A ([(ME, .inr (3, oX3 FL aME w40_ME_4 w40_ME_5 0)), ((aME 3), .inl (cG, 41, .inr (.inr (.inr (.inr ME_kept))))), ((aME 1), .inl (cI, 32, .inl ME_now))] ++ rw41 cI KRr (rup KRf 26 g65)) := hD
      clear e65
      exact up _ _ _ (W.vret hx hb hr (fun t ht hW => ⟨⟨(), rfl, trivial, ⟨w40_ME_4, w40_ME_5, 0, (rup KRf 26 g65), bw40_ME_4_k40, bw40_ME_5_k40, (show zB 0 0 0 from ⟨by decide, by decide⟩), (rup_ok w_KR sg65), by rw [ht]; exact hP, hD⟩⟩, hS.F ht⟩) hS.2.2 dX3_keepAct_68)
    · refine zz_alda (v := (KRr 27)) hx hb hK hP 1 4 rfl rfl (zB_in (show zB 27 27 27 from ⟨by decide, by decide⟩) (by decide) (by decide)) (k_ME_kept 27 (by decide)) dX3_keepAct_61 ?_
      refine lv_iconst (v := 0) hx hb dX3_keepAct_62 (by decide) ?_
      refine lv_bipush (v := 32) hx hb dX3_keepAct_63 (by decide) ?_
      refine zi_copy hx hb (by rw [hml]; exact hl.1.symm) hown (hts (.methodLink RX3 115 arraycopyName) (List.mem_of_getElem? (i := 6) rfl)) (hts (.native arraycopyName) (List.mem_of_getElem? (i := 7) rfl)) (hts (.static arraycopyName) (List.mem_of_getElem? (i := 8) rfl)) (hts (.initialized "java/lang/System") (List.mem_of_getElem? (i := 9) rfl)) hK hP hD hS 2 30 rfl rfl rfl (Nat.le_of_ble_eq_true rfl) (Nat.le_of_ble_eq_true rfl) dX3_keepAct_65 (fun H locs g65 e65 hP hD hS => ?_)
      have sg65 := zA_cpy e65 sME_now_0_k40
      replace hP : va_P D classes ([(ME, .inr (3, oX3 FL aME w40_ME_4 w40_ME_5 0)), ((aME 3), .inl (cG, 41, .inr (.inr (.inr (.inr ME_kept))))), ((aME 1), .inl (cI, 32, .inl ME_now))] ++ rw41 cI KRr (rup KRf 27 g65)) H := hP
      replace hD : va_D A ([(ME, .inr (3, oX3 FL aME w40_ME_4 w40_ME_5 0)), ((aME 3), .inl (cG, 41, .inr (.inr (.inr (.inr ME_kept))))), ((aME 1), .inl (cI, 32, .inl ME_now))] ++ rw41 cI KRr (rup KRf 27 g65)) := hD
      clear e65
      exact up _ _ _ (W.vret hx hb hr (fun t ht hW => ⟨⟨(), rfl, trivial, ⟨w40_ME_4, w40_ME_5, 0, (rup KRf 27 g65), bw40_ME_4_k40, bw40_ME_5_k40, (show zB 0 0 0 from ⟨by decide, by decide⟩), (rup_ok w_KR sg65), by rw [ht]; exact hP, hD⟩⟩, hS.F ht⟩) hS.2.2 dX3_keepAct_68)
    · refine zz_alda (v := (KRr 28)) hx hb hK hP 1 4 rfl rfl (zB_in (show zB 28 28 28 from ⟨by decide, by decide⟩) (by decide) (by decide)) (k_ME_kept 28 (by decide)) dX3_keepAct_61 ?_
      refine lv_iconst (v := 0) hx hb dX3_keepAct_62 (by decide) ?_
      refine lv_bipush (v := 32) hx hb dX3_keepAct_63 (by decide) ?_
      refine zi_copy hx hb (by rw [hml]; exact hl.1.symm) hown (hts (.methodLink RX3 115 arraycopyName) (List.mem_of_getElem? (i := 6) rfl)) (hts (.native arraycopyName) (List.mem_of_getElem? (i := 7) rfl)) (hts (.static arraycopyName) (List.mem_of_getElem? (i := 8) rfl)) (hts (.initialized "java/lang/System") (List.mem_of_getElem? (i := 9) rfl)) hK hP hD hS 2 31 rfl rfl rfl (Nat.le_of_ble_eq_true rfl) (Nat.le_of_ble_eq_true rfl) dX3_keepAct_65 (fun H locs g65 e65 hP hD hS => ?_)
      have sg65 := zA_cpy e65 sME_now_0_k40
      replace hP : va_P D classes ([(ME, .inr (3, oX3 FL aME w40_ME_4 w40_ME_5 0)), ((aME 3), .inl (cG, 41, .inr (.inr (.inr (.inr ME_kept))))), ((aME 1), .inl (cI, 32, .inl ME_now))] ++ rw41 cI KRr (rup KRf 28 g65)) H := hP
      replace hD : va_D A ([(ME, .inr (3, oX3 FL aME w40_ME_4 w40_ME_5 0)), ((aME 3), .inl (cG, 41, .inr (.inr (.inr (.inr ME_kept))))), ((aME 1), .inl (cI, 32, .inl ME_now))] ++ rw41 cI KRr (rup KRf 28 g65)) := hD
      clear e65
      exact up _ _ _ (W.vret hx hb hr (fun t ht hW => ⟨⟨(), rfl, trivial, ⟨w40_ME_4, w40_ME_5, 0, (rup KRf 28 g65), bw40_ME_4_k40, bw40_ME_5_k40, (show zB 0 0 0 from ⟨by decide, by decide⟩), (rup_ok w_KR sg65), by rw [ht]; exact hP, hD⟩⟩, hS.F ht⟩) hS.2.2 dX3_keepAct_68)
    · refine zz_alda (v := (KRr 29)) hx hb hK hP 1 4 rfl rfl (zB_in (show zB 29 29 29 from ⟨by decide, by decide⟩) (by decide) (by decide)) (k_ME_kept 29 (by decide)) dX3_keepAct_61 ?_
      refine lv_iconst (v := 0) hx hb dX3_keepAct_62 (by decide) ?_
      refine lv_bipush (v := 32) hx hb dX3_keepAct_63 (by decide) ?_
      refine zi_copy hx hb (by rw [hml]; exact hl.1.symm) hown (hts (.methodLink RX3 115 arraycopyName) (List.mem_of_getElem? (i := 6) rfl)) (hts (.native arraycopyName) (List.mem_of_getElem? (i := 7) rfl)) (hts (.static arraycopyName) (List.mem_of_getElem? (i := 8) rfl)) (hts (.initialized "java/lang/System") (List.mem_of_getElem? (i := 9) rfl)) hK hP hD hS 2 32 rfl rfl rfl (Nat.le_of_ble_eq_true rfl) (Nat.le_of_ble_eq_true rfl) dX3_keepAct_65 (fun H locs g65 e65 hP hD hS => ?_)
      have sg65 := zA_cpy e65 sME_now_0_k40
      replace hP : va_P D classes ([(ME, .inr (3, oX3 FL aME w40_ME_4 w40_ME_5 0)), ((aME 3), .inl (cG, 41, .inr (.inr (.inr (.inr ME_kept))))), ((aME 1), .inl (cI, 32, .inl ME_now))] ++ rw41 cI KRr (rup KRf 29 g65)) H := hP
      replace hD : va_D A ([(ME, .inr (3, oX3 FL aME w40_ME_4 w40_ME_5 0)), ((aME 3), .inl (cG, 41, .inr (.inr (.inr (.inr ME_kept))))), ((aME 1), .inl (cI, 32, .inl ME_now))] ++ rw41 cI KRr (rup KRf 29 g65)) := hD
      clear e65
      exact up _ _ _ (W.vret hx hb hr (fun t ht hW => ⟨⟨(), rfl, trivial, ⟨w40_ME_4, w40_ME_5, 0, (rup KRf 29 g65), bw40_ME_4_k40, bw40_ME_5_k40, (show zB 0 0 0 from ⟨by decide, by decide⟩), (rup_ok w_KR sg65), by rw [ht]; exact hP, hD⟩⟩, hS.F ht⟩) hS.2.2 dX3_keepAct_68)
    · refine zz_alda (v := (KRr 30)) hx hb hK hP 1 4 rfl rfl (zB_in (show zB 30 30 30 from ⟨by decide, by decide⟩) (by decide) (by decide)) (k_ME_kept 30 (by decide)) dX3_keepAct_61 ?_
      refine lv_iconst (v := 0) hx hb dX3_keepAct_62 (by decide) ?_
      refine lv_bipush (v := 32) hx hb dX3_keepAct_63 (by decide) ?_
      refine zi_copy hx hb (by rw [hml]; exact hl.1.symm) hown (hts (.methodLink RX3 115 arraycopyName) (List.mem_of_getElem? (i := 6) rfl)) (hts (.native arraycopyName) (List.mem_of_getElem? (i := 7) rfl)) (hts (.static arraycopyName) (List.mem_of_getElem? (i := 8) rfl)) (hts (.initialized "java/lang/System") (List.mem_of_getElem? (i := 9) rfl)) hK hP hD hS 2 33 rfl rfl rfl (Nat.le_of_ble_eq_true rfl) (Nat.le_of_ble_eq_true rfl) dX3_keepAct_65 (fun H locs g65 e65 hP hD hS => ?_)
      have sg65 := zA_cpy e65 sME_now_0_k40
      replace hP : va_P D classes ([(ME, .inr (3, oX3 FL aME w40_ME_4 w40_ME_5 0)), ((aME 3), .inl (cG, 41, .inr (.inr (.inr (.inr ME_kept))))), ((aME 1), .inl (cI, 32, .inl ME_now))] ++ rw41 cI KRr (rup KRf 30 g65)) H := hP
      replace hD : va_D A ([(ME, .inr (3, oX3 FL aME w40_ME_4 w40_ME_5 0)), ((aME 3), .inl (cG, 41, .inr (.inr (.inr (.inr ME_kept))))), ((aME 1), .inl (cI, 32, .inl ME_now))] ++ rw41 cI KRr (rup KRf 30 g65)) := hD
      clear e65
      exact up _ _ _ (W.vret hx hb hr (fun t ht hW => ⟨⟨(), rfl, trivial, ⟨w40_ME_4, w40_ME_5, 0, (rup KRf 30 g65), bw40_ME_4_k40, bw40_ME_5_k40, (show zB 0 0 0 from ⟨by decide, by decide⟩), (rup_ok w_KR sg65), by rw [ht]; exact hP, hD⟩⟩, hS.F ht⟩) hS.2.2 dX3_keepAct_68)
    · refine zz_alda (v := (KRr 31)) hx hb hK hP 1 4 rfl rfl (zB_in (show zB 31 31 31 from ⟨by decide, by decide⟩) (by decide) (by decide)) (k_ME_kept 31 (by decide)) dX3_keepAct_61 ?_
      refine lv_iconst (v := 0) hx hb dX3_keepAct_62 (by decide) ?_
      refine lv_bipush (v := 32) hx hb dX3_keepAct_63 (by decide) ?_
      refine zi_copy hx hb (by rw [hml]; exact hl.1.symm) hown (hts (.methodLink RX3 115 arraycopyName) (List.mem_of_getElem? (i := 6) rfl)) (hts (.native arraycopyName) (List.mem_of_getElem? (i := 7) rfl)) (hts (.static arraycopyName) (List.mem_of_getElem? (i := 8) rfl)) (hts (.initialized "java/lang/System") (List.mem_of_getElem? (i := 9) rfl)) hK hP hD hS 2 34 rfl rfl rfl (Nat.le_of_ble_eq_true rfl) (Nat.le_of_ble_eq_true rfl) dX3_keepAct_65 (fun H locs g65 e65 hP hD hS => ?_)
      have sg65 := zA_cpy e65 sME_now_0_k40
      replace hP : va_P D classes ([(ME, .inr (3, oX3 FL aME w40_ME_4 w40_ME_5 0)), ((aME 3), .inl (cG, 41, .inr (.inr (.inr (.inr ME_kept))))), ((aME 1), .inl (cI, 32, .inl ME_now))] ++ rw41 cI KRr (rup KRf 31 g65)) H := hP
      replace hD : va_D A ([(ME, .inr (3, oX3 FL aME w40_ME_4 w40_ME_5 0)), ((aME 3), .inl (cG, 41, .inr (.inr (.inr (.inr ME_kept))))), ((aME 1), .inl (cI, 32, .inl ME_now))] ++ rw41 cI KRr (rup KRf 31 g65)) := hD
      clear e65
      exact up _ _ _ (W.vret hx hb hr (fun t ht hW => ⟨⟨(), rfl, trivial, ⟨w40_ME_4, w40_ME_5, 0, (rup KRf 31 g65), bw40_ME_4_k40, bw40_ME_5_k40, (show zB 0 0 0 from ⟨by decide, by decide⟩), (rup_ok w_KR sg65), by rw [ht]; exact hP, hD⟩⟩, hS.F ht⟩) hS.2.2 dX3_keepAct_68)
    · refine zz_alda (v := (KRr 32)) hx hb hK hP 1 4 rfl rfl (zB_in (show zB 32 32 32 from ⟨by decide, by decide⟩) (by decide) (by decide)) (k_ME_kept 32 (by decide)) dX3_keepAct_61 ?_
      refine lv_iconst (v := 0) hx hb dX3_keepAct_62 (by decide) ?_
      refine lv_bipush (v := 32) hx hb dX3_keepAct_63 (by decide) ?_
      refine zi_copy hx hb (by rw [hml]; exact hl.1.symm) hown (hts (.methodLink RX3 115 arraycopyName) (List.mem_of_getElem? (i := 6) rfl)) (hts (.native arraycopyName) (List.mem_of_getElem? (i := 7) rfl)) (hts (.static arraycopyName) (List.mem_of_getElem? (i := 8) rfl)) (hts (.initialized "java/lang/System") (List.mem_of_getElem? (i := 9) rfl)) hK hP hD hS 2 35 rfl rfl rfl (Nat.le_of_ble_eq_true rfl) (Nat.le_of_ble_eq_true rfl) dX3_keepAct_65 (fun H locs g65 e65 hP hD hS => ?_)
      have sg65 := zA_cpy e65 sME_now_0_k40
      replace hP : va_P D classes ([(ME, .inr (3, oX3 FL aME w40_ME_4 w40_ME_5 0)), ((aME 3), .inl (cG, 41, .inr (.inr (.inr (.inr ME_kept))))), ((aME 1), .inl (cI, 32, .inl ME_now))] ++ rw41 cI KRr (rup KRf 32 g65)) H := hP
      replace hD : va_D A ([(ME, .inr (3, oX3 FL aME w40_ME_4 w40_ME_5 0)), ((aME 3), .inl (cG, 41, .inr (.inr (.inr (.inr ME_kept))))), ((aME 1), .inl (cI, 32, .inl ME_now))] ++ rw41 cI KRr (rup KRf 32 g65)) := hD
      clear e65
      exact up _ _ _ (W.vret hx hb hr (fun t ht hW => ⟨⟨(), rfl, trivial, ⟨w40_ME_4, w40_ME_5, 0, (rup KRf 32 g65), bw40_ME_4_k40, bw40_ME_5_k40, (show zB 0 0 0 from ⟨by decide, by decide⟩), (rup_ok w_KR sg65), by rw [ht]; exact hP, hD⟩⟩, hS.F ht⟩) hS.2.2 dX3_keepAct_68)
    · refine zz_alda (v := (KRr 33)) hx hb hK hP 1 4 rfl rfl (zB_in (show zB 33 33 33 from ⟨by decide, by decide⟩) (by decide) (by decide)) (k_ME_kept 33 (by decide)) dX3_keepAct_61 ?_
      refine lv_iconst (v := 0) hx hb dX3_keepAct_62 (by decide) ?_
      refine lv_bipush (v := 32) hx hb dX3_keepAct_63 (by decide) ?_
      refine zi_copy hx hb (by rw [hml]; exact hl.1.symm) hown (hts (.methodLink RX3 115 arraycopyName) (List.mem_of_getElem? (i := 6) rfl)) (hts (.native arraycopyName) (List.mem_of_getElem? (i := 7) rfl)) (hts (.static arraycopyName) (List.mem_of_getElem? (i := 8) rfl)) (hts (.initialized "java/lang/System") (List.mem_of_getElem? (i := 9) rfl)) hK hP hD hS 2 36 rfl rfl rfl (Nat.le_of_ble_eq_true rfl) (Nat.le_of_ble_eq_true rfl) dX3_keepAct_65 (fun H locs g65 e65 hP hD hS => ?_)
      have sg65 := zA_cpy e65 sME_now_0_k40
      replace hP : va_P D classes ([(ME, .inr (3, oX3 FL aME w40_ME_4 w40_ME_5 0)), ((aME 3), .inl (cG, 41, .inr (.inr (.inr (.inr ME_kept))))), ((aME 1), .inl (cI, 32, .inl ME_now))] ++ rw41 cI KRr (rup KRf 33 g65)) H := hP
      replace hD : va_D A ([(ME, .inr (3, oX3 FL aME w40_ME_4 w40_ME_5 0)), ((aME 3), .inl (cG, 41, .inr (.inr (.inr (.inr ME_kept))))), ((aME 1), .inl (cI, 32, .inl ME_now))] ++ rw41 cI KRr (rup KRf 33 g65)) := hD
      clear e65
      exact up _ _ _ (W.vret hx hb hr (fun t ht hW => ⟨⟨(), rfl, trivial, ⟨w40_ME_4, w40_ME_5, 0, (rup KRf 33 g65), bw40_ME_4_k40, bw40_ME_5_k40, (show zB 0 0 0 from ⟨by decide, by decide⟩), (rup_ok w_KR sg65), by rw [ht]; exact hP, hD⟩⟩, hS.F ht⟩) hS.2.2 dX3_keepAct_68)
    · refine zz_alda (v := (KRr 34)) hx hb hK hP 1 4 rfl rfl (zB_in (show zB 34 34 34 from ⟨by decide, by decide⟩) (by decide) (by decide)) (k_ME_kept 34 (by decide)) dX3_keepAct_61 ?_
      refine lv_iconst (v := 0) hx hb dX3_keepAct_62 (by decide) ?_
      refine lv_bipush (v := 32) hx hb dX3_keepAct_63 (by decide) ?_
      refine zi_copy hx hb (by rw [hml]; exact hl.1.symm) hown (hts (.methodLink RX3 115 arraycopyName) (List.mem_of_getElem? (i := 6) rfl)) (hts (.native arraycopyName) (List.mem_of_getElem? (i := 7) rfl)) (hts (.static arraycopyName) (List.mem_of_getElem? (i := 8) rfl)) (hts (.initialized "java/lang/System") (List.mem_of_getElem? (i := 9) rfl)) hK hP hD hS 2 37 rfl rfl rfl (Nat.le_of_ble_eq_true rfl) (Nat.le_of_ble_eq_true rfl) dX3_keepAct_65 (fun H locs g65 e65 hP hD hS => ?_)
      have sg65 := zA_cpy e65 sME_now_0_k40
      replace hP : va_P D classes ([(ME, .inr (3, oX3 FL aME w40_ME_4 w40_ME_5 0)), ((aME 3), .inl (cG, 41, .inr (.inr (.inr (.inr ME_kept))))), ((aME 1), .inl (cI, 32, .inl ME_now))] ++ rw41 cI KRr (rup KRf 34 g65)) H := hP
      replace hD : va_D A ([(ME, .inr (3, oX3 FL aME w40_ME_4 w40_ME_5 0)), ((aME 3), .inl (cG, 41, .inr (.inr (.inr (.inr ME_kept))))), ((aME 1), .inl (cI, 32, .inl ME_now))] ++ rw41 cI KRr (rup KRf 34 g65)) := hD
      clear e65
      exact up _ _ _ (W.vret hx hb hr (fun t ht hW => ⟨⟨(), rfl, trivial, ⟨w40_ME_4, w40_ME_5, 0, (rup KRf 34 g65), bw40_ME_4_k40, bw40_ME_5_k40, (show zB 0 0 0 from ⟨by decide, by decide⟩), (rup_ok w_KR sg65), by rw [ht]; exact hP, hD⟩⟩, hS.F ht⟩) hS.2.2 dX3_keepAct_68)
    · refine zz_alda (v := (KRr 35)) hx hb hK hP 1 4 rfl rfl (zB_in (show zB 35 35 35 from ⟨by decide, by decide⟩) (by decide) (by decide)) (k_ME_kept 35 (by decide)) dX3_keepAct_61 ?_
      refine lv_iconst (v := 0) hx hb dX3_keepAct_62 (by decide) ?_
      refine lv_bipush (v := 32) hx hb dX3_keepAct_63 (by decide) ?_
      refine zi_copy hx hb (by rw [hml]; exact hl.1.symm) hown (hts (.methodLink RX3 115 arraycopyName) (List.mem_of_getElem? (i := 6) rfl)) (hts (.native arraycopyName) (List.mem_of_getElem? (i := 7) rfl)) (hts (.static arraycopyName) (List.mem_of_getElem? (i := 8) rfl)) (hts (.initialized "java/lang/System") (List.mem_of_getElem? (i := 9) rfl)) hK hP hD hS 2 38 rfl rfl rfl (Nat.le_of_ble_eq_true rfl) (Nat.le_of_ble_eq_true rfl) dX3_keepAct_65 (fun H locs g65 e65 hP hD hS => ?_)
      have sg65 := zA_cpy e65 sME_now_0_k40
      replace hP : va_P D classes ([(ME, .inr (3, oX3 FL aME w40_ME_4 w40_ME_5 0)), ((aME 3), .inl (cG, 41, .inr (.inr (.inr (.inr ME_kept))))), ((aME 1), .inl (cI, 32, .inl ME_now))] ++ rw41 cI KRr (rup KRf 35 g65)) H := hP
      replace hD : va_D A ([(ME, .inr (3, oX3 FL aME w40_ME_4 w40_ME_5 0)), ((aME 3), .inl (cG, 41, .inr (.inr (.inr (.inr ME_kept))))), ((aME 1), .inl (cI, 32, .inl ME_now))] ++ rw41 cI KRr (rup KRf 35 g65)) := hD
      clear e65
      exact up _ _ _ (W.vret hx hb hr (fun t ht hW => ⟨⟨(), rfl, trivial, ⟨w40_ME_4, w40_ME_5, 0, (rup KRf 35 g65), bw40_ME_4_k40, bw40_ME_5_k40, (show zB 0 0 0 from ⟨by decide, by decide⟩), (rup_ok w_KR sg65), by rw [ht]; exact hP, hD⟩⟩, hS.F ht⟩) hS.2.2 dX3_keepAct_68)
    · refine zz_alda (v := (KRr 36)) hx hb hK hP 1 4 rfl rfl (zB_in (show zB 36 36 36 from ⟨by decide, by decide⟩) (by decide) (by decide)) (k_ME_kept 36 (by decide)) dX3_keepAct_61 ?_
      refine lv_iconst (v := 0) hx hb dX3_keepAct_62 (by decide) ?_
      refine lv_bipush (v := 32) hx hb dX3_keepAct_63 (by decide) ?_
      refine zi_copy hx hb (by rw [hml]; exact hl.1.symm) hown (hts (.methodLink RX3 115 arraycopyName) (List.mem_of_getElem? (i := 6) rfl)) (hts (.native arraycopyName) (List.mem_of_getElem? (i := 7) rfl)) (hts (.static arraycopyName) (List.mem_of_getElem? (i := 8) rfl)) (hts (.initialized "java/lang/System") (List.mem_of_getElem? (i := 9) rfl)) hK hP hD hS 2 39 rfl rfl rfl (Nat.le_of_ble_eq_true rfl) (Nat.le_of_ble_eq_true rfl) dX3_keepAct_65 (fun H locs g65 e65 hP hD hS => ?_)
      have sg65 := zA_cpy e65 sME_now_0_k40
      replace hP : va_P D classes ([(ME, .inr (3, oX3 FL aME w40_ME_4 w40_ME_5 0)), ((aME 3), .inl (cG, 41, .inr (.inr (.inr (.inr ME_kept))))), ((aME 1), .inl (cI, 32, .inl ME_now))] ++ rw41 cI KRr (rup KRf 36 g65)) H := hP
      replace hD : va_D A ([(ME, .inr (3, oX3 FL aME w40_ME_4 w40_ME_5 0)), ((aME 3), .inl (cG, 41, .inr (.inr (.inr (.inr ME_kept))))), ((aME 1), .inl (cI, 32, .inl ME_now))] ++ rw41 cI KRr (rup KRf 36 g65)) := hD
      clear e65
      exact up _ _ _ (W.vret hx hb hr (fun t ht hW => ⟨⟨(), rfl, trivial, ⟨w40_ME_4, w40_ME_5, 0, (rup KRf 36 g65), bw40_ME_4_k40, bw40_ME_5_k40, (show zB 0 0 0 from ⟨by decide, by decide⟩), (rup_ok w_KR sg65), by rw [ht]; exact hP, hD⟩⟩, hS.F ht⟩) hS.2.2 dX3_keepAct_68)
    · refine zz_alda (v := (KRr 37)) hx hb hK hP 1 4 rfl rfl (zB_in (show zB 37 37 37 from ⟨by decide, by decide⟩) (by decide) (by decide)) (k_ME_kept 37 (by decide)) dX3_keepAct_61 ?_
      refine lv_iconst (v := 0) hx hb dX3_keepAct_62 (by decide) ?_
      refine lv_bipush (v := 32) hx hb dX3_keepAct_63 (by decide) ?_
      refine zi_copy hx hb (by rw [hml]; exact hl.1.symm) hown (hts (.methodLink RX3 115 arraycopyName) (List.mem_of_getElem? (i := 6) rfl)) (hts (.native arraycopyName) (List.mem_of_getElem? (i := 7) rfl)) (hts (.static arraycopyName) (List.mem_of_getElem? (i := 8) rfl)) (hts (.initialized "java/lang/System") (List.mem_of_getElem? (i := 9) rfl)) hK hP hD hS 2 40 rfl rfl rfl (Nat.le_of_ble_eq_true rfl) (Nat.le_of_ble_eq_true rfl) dX3_keepAct_65 (fun H locs g65 e65 hP hD hS => ?_)
      have sg65 := zA_cpy e65 sME_now_0_k40
      replace hP : va_P D classes ([(ME, .inr (3, oX3 FL aME w40_ME_4 w40_ME_5 0)), ((aME 3), .inl (cG, 41, .inr (.inr (.inr (.inr ME_kept))))), ((aME 1), .inl (cI, 32, .inl ME_now))] ++ rw41 cI KRr (rup KRf 37 g65)) H := hP
      replace hD : va_D A ([(ME, .inr (3, oX3 FL aME w40_ME_4 w40_ME_5 0)), ((aME 3), .inl (cG, 41, .inr (.inr (.inr (.inr ME_kept))))), ((aME 1), .inl (cI, 32, .inl ME_now))] ++ rw41 cI KRr (rup KRf 37 g65)) := hD
      clear e65
      exact up _ _ _ (W.vret hx hb hr (fun t ht hW => ⟨⟨(), rfl, trivial, ⟨w40_ME_4, w40_ME_5, 0, (rup KRf 37 g65), bw40_ME_4_k40, bw40_ME_5_k40, (show zB 0 0 0 from ⟨by decide, by decide⟩), (rup_ok w_KR sg65), by rw [ht]; exact hP, hD⟩⟩, hS.F ht⟩) hS.2.2 dX3_keepAct_68)
    · refine zz_alda (v := (KRr 38)) hx hb hK hP 1 4 rfl rfl (zB_in (show zB 38 38 38 from ⟨by decide, by decide⟩) (by decide) (by decide)) (k_ME_kept 38 (by decide)) dX3_keepAct_61 ?_
      refine lv_iconst (v := 0) hx hb dX3_keepAct_62 (by decide) ?_
      refine lv_bipush (v := 32) hx hb dX3_keepAct_63 (by decide) ?_
      refine zi_copy hx hb (by rw [hml]; exact hl.1.symm) hown (hts (.methodLink RX3 115 arraycopyName) (List.mem_of_getElem? (i := 6) rfl)) (hts (.native arraycopyName) (List.mem_of_getElem? (i := 7) rfl)) (hts (.static arraycopyName) (List.mem_of_getElem? (i := 8) rfl)) (hts (.initialized "java/lang/System") (List.mem_of_getElem? (i := 9) rfl)) hK hP hD hS 2 41 rfl rfl rfl (Nat.le_of_ble_eq_true rfl) (Nat.le_of_ble_eq_true rfl) dX3_keepAct_65 (fun H locs g65 e65 hP hD hS => ?_)
      have sg65 := zA_cpy e65 sME_now_0_k40
      replace hP : va_P D classes ([(ME, .inr (3, oX3 FL aME w40_ME_4 w40_ME_5 0)), ((aME 3), .inl (cG, 41, .inr (.inr (.inr (.inr ME_kept))))), ((aME 1), .inl (cI, 32, .inl ME_now))] ++ rw41 cI KRr (rup KRf 38 g65)) H := hP
      replace hD : va_D A ([(ME, .inr (3, oX3 FL aME w40_ME_4 w40_ME_5 0)), ((aME 3), .inl (cG, 41, .inr (.inr (.inr (.inr ME_kept))))), ((aME 1), .inl (cI, 32, .inl ME_now))] ++ rw41 cI KRr (rup KRf 38 g65)) := hD
      clear e65
      exact up _ _ _ (W.vret hx hb hr (fun t ht hW => ⟨⟨(), rfl, trivial, ⟨w40_ME_4, w40_ME_5, 0, (rup KRf 38 g65), bw40_ME_4_k40, bw40_ME_5_k40, (show zB 0 0 0 from ⟨by decide, by decide⟩), (rup_ok w_KR sg65), by rw [ht]; exact hP, hD⟩⟩, hS.F ht⟩) hS.2.2 dX3_keepAct_68)
    · refine zz_alda (v := (KRr 39)) hx hb hK hP 1 4 rfl rfl (zB_in (show zB 39 39 39 from ⟨by decide, by decide⟩) (by decide) (by decide)) (k_ME_kept 39 (by decide)) dX3_keepAct_61 ?_
      refine lv_iconst (v := 0) hx hb dX3_keepAct_62 (by decide) ?_
      refine lv_bipush (v := 32) hx hb dX3_keepAct_63 (by decide) ?_
      refine zi_copy hx hb (by rw [hml]; exact hl.1.symm) hown (hts (.methodLink RX3 115 arraycopyName) (List.mem_of_getElem? (i := 6) rfl)) (hts (.native arraycopyName) (List.mem_of_getElem? (i := 7) rfl)) (hts (.static arraycopyName) (List.mem_of_getElem? (i := 8) rfl)) (hts (.initialized "java/lang/System") (List.mem_of_getElem? (i := 9) rfl)) hK hP hD hS 2 42 rfl rfl rfl (Nat.le_of_ble_eq_true rfl) (Nat.le_of_ble_eq_true rfl) dX3_keepAct_65 (fun H locs g65 e65 hP hD hS => ?_)
      have sg65 := zA_cpy e65 sME_now_0_k40
      replace hP : va_P D classes ([(ME, .inr (3, oX3 FL aME w40_ME_4 w40_ME_5 0)), ((aME 3), .inl (cG, 41, .inr (.inr (.inr (.inr ME_kept))))), ((aME 1), .inl (cI, 32, .inl ME_now))] ++ rw41 cI KRr (rup KRf 39 g65)) H := hP
      replace hD : va_D A ([(ME, .inr (3, oX3 FL aME w40_ME_4 w40_ME_5 0)), ((aME 3), .inl (cG, 41, .inr (.inr (.inr (.inr ME_kept))))), ((aME 1), .inl (cI, 32, .inl ME_now))] ++ rw41 cI KRr (rup KRf 39 g65)) := hD
      clear e65
      exact up _ _ _ (W.vret hx hb hr (fun t ht hW => ⟨⟨(), rfl, trivial, ⟨w40_ME_4, w40_ME_5, 0, (rup KRf 39 g65), bw40_ME_4_k40, bw40_ME_5_k40, (show zB 0 0 0 from ⟨by decide, by decide⟩), (rup_ok w_KR sg65), by rw [ht]; exact hP, hD⟩⟩, hS.F ht⟩) hS.2.2 dX3_keepAct_68)
    · refine zz_alda (v := (KRr 40)) hx hb hK hP 1 4 rfl rfl (zB_in (show zB 40 40 40 from ⟨by decide, by decide⟩) (by decide) (by decide)) (k_ME_kept 40 (by decide)) dX3_keepAct_61 ?_
      refine lv_iconst (v := 0) hx hb dX3_keepAct_62 (by decide) ?_
      refine lv_bipush (v := 32) hx hb dX3_keepAct_63 (by decide) ?_
      refine zi_copy hx hb (by rw [hml]; exact hl.1.symm) hown (hts (.methodLink RX3 115 arraycopyName) (List.mem_of_getElem? (i := 6) rfl)) (hts (.native arraycopyName) (List.mem_of_getElem? (i := 7) rfl)) (hts (.static arraycopyName) (List.mem_of_getElem? (i := 8) rfl)) (hts (.initialized "java/lang/System") (List.mem_of_getElem? (i := 9) rfl)) hK hP hD hS 2 43 rfl rfl rfl (Nat.le_of_ble_eq_true rfl) (Nat.le_of_ble_eq_true rfl) dX3_keepAct_65 (fun H locs g65 e65 hP hD hS => ?_)
      have sg65 := zA_cpy e65 sME_now_0_k40
      replace hP : va_P D classes ([(ME, .inr (3, oX3 FL aME w40_ME_4 w40_ME_5 0)), ((aME 3), .inl (cG, 41, .inr (.inr (.inr (.inr ME_kept))))), ((aME 1), .inl (cI, 32, .inl ME_now))] ++ rw41 cI KRr (rup KRf 40 g65)) H := hP
      replace hD : va_D A ([(ME, .inr (3, oX3 FL aME w40_ME_4 w40_ME_5 0)), ((aME 3), .inl (cG, 41, .inr (.inr (.inr (.inr ME_kept))))), ((aME 1), .inl (cI, 32, .inl ME_now))] ++ rw41 cI KRr (rup KRf 40 g65)) := hD
      clear e65
      exact up _ _ _ (W.vret hx hb hr (fun t ht hW => ⟨⟨(), rfl, trivial, ⟨w40_ME_4, w40_ME_5, 0, (rup KRf 40 g65), bw40_ME_4_k40, bw40_ME_5_k40, (show zB 0 0 0 from ⟨by decide, by decide⟩), (rup_ok w_KR sg65), by rw [ht]; exact hP, hD⟩⟩, hS.F ht⟩) hS.2.2 dX3_keepAct_68)
  refine lv_icmp_ge (tgt := 27) hx hb dX3_keepAct_11 (by decide) (fun c11 => ?_) (fun c11 => ?_)
  · have by11t_ME_done : zB ME_done 40 40 := zB_lev (ze c11) (show zB 40 40 40 from ⟨by decide, by decide⟩) b_ME_done (by decide)
    refine lv_aload_n hx hb dX3_keepAct_27 rfl (lv_at hl 0 rfl) ?_
    refine lv_aload_n hx hb dX3_keepAct_28 rfl (lv_at hl 0 rfl) ?_
    refine va_get (D := D) (ci := 3) (v := .int ME_oldest) (C := RX3) (T := TX3) (N := 9) hx hb hts iw_X3_keepAct_X3 hown hK hP 0 rfl rfl 4 (by decide) (hts (.fieldLink RX3 134 "SoldHouse$Memory" "oldest" "I") (List.mem_of_getElem? (i := 3) rfl)) (fun _ h9 => h9) rfl dX3_keepAct_29 ?_
    refine lv_iconst (v := 1) hx hb dX3_keepAct_32 (by decide) ?_
    refine lv_iadd hx hb dX3_keepAct_33 ?_
    refine zi_top2 (P := fun y => y.toInt = ME_oldest.toInt + 1) (a := 1) (b := 41) (zB_add b_ME_oldest (show zB 1 1 1 from ⟨by decide, by decide⟩) (by decide) (by decide) (by decide) (by decide)) (zR_addc b_ME_oldest (by decide) (by decide) (by decide)) (fun y33 by33 ry33 => ?_)
    refine lv_bipush (v := 41) hx hb dX3_keepAct_34 (by decide) ?_
    refine lv_irem hx hb dX3_keepAct_36 (by decide) ?_
    refine zi_top (a := 0) (b := 40) (zB_rem by33 (show zB 41 41 41 from ⟨by decide, by decide⟩) (by decide) (by decide) (by decide)) (fun y36 by36 => ?_)
    refine va_put (D := D) (ci := 3) (v := .int y36) (ty := tyX3 4) (C := RX3) (T := TX3) (N := 9) hx hb hts iw_X3_keepAct_X3 tyX3 tyX3_ok nmX3 hown hK hP hD hS 0 rfl rfl 4 (by decide) (hts (.fieldLink RX3 134 "SoldHouse$Memory" "oldest" "I") (List.mem_of_getElem? (i := 3) rfl)) (fun _ h9 => h9) rfl (by decide +kernel) rfl rfl (Nat.le_of_ble_eq_true rfl) dX3_keepAct_37 (fun H locs hP hD hS => ?_)
    replace hP : va_P D classes ([(ME, .inr (3, oX3 FL aME y36 ME_done 0)), ((aME 3), .inl (cG, 41, .inr (.inr (.inr (.inr ME_kept))))), ((aME 1), .inl (cI, 32, .inl ME_now))] ++ rw41 cI KRr KRf) H := hP
    replace hD : va_D A ([(ME, .inr (3, oX3 FL aME y36 ME_done 0)), ((aME 3), .inl (cG, 41, .inr (.inr (.inr (.inr ME_kept))))), ((aME 1), .inl (cI, 32, .inl ME_now))] ++ rw41 cI KRr KRf) := hD
    exact j40 H locs ls y36 ME_done by36 (zB_w by11t_ME_done (by decide) (by decide)) s_ME_now_0 hP hD hS (lv_sub hl [0] rfl)
  · have bx11f_ME_done : zB ME_done 0 39 := zB_ltu (zf c11) b_ME_done (show zB 40 40 40 from ⟨by decide, by decide⟩) (by decide)
    refine lv_aload_n hx hb dX3_keepAct_14 rfl (lv_at hl 0 rfl) ?_
    refine lv_dup hx hb dX3_keepAct_15 rfl ?_
    refine va_get (D := D) (ci := 3) (v := .int ME_done) (C := RX3) (T := TX3) (N := 9) hx hb hts iw_X3_keepAct_X3 hown hK hP 0 rfl rfl 5 (by decide) (hts (.fieldLink RX3 131 "SoldHouse$Memory" "done" "I") (List.mem_of_getElem? (i := 2) rfl)) (fun _ h9 => h9) rfl dX3_keepAct_16 ?_
    refine lv_iconst (v := 1) hx hb dX3_keepAct_19 (by decide) ?_
    refine lv_iadd hx hb dX3_keepAct_20 ?_
    refine zi_top2 (P := fun y => y.toInt = ME_done.toInt + 1) (a := 1) (b := 40) (zB_add bx11f_ME_done (show zB 1 1 1 from ⟨by decide, by decide⟩) (by decide) (by decide) (by decide) (by decide)) (zR_addc bx11f_ME_done (by decide) (by decide) (by decide)) (fun y20 by20 ry20 => ?_)
    refine va_put (D := D) (ci := 3) (v := .int y20) (ty := tyX3 5) (C := RX3) (T := TX3) (N := 9) hx hb hts iw_X3_keepAct_X3 tyX3 tyX3_ok nmX3 hown hK hP hD hS 0 rfl rfl 5 (by decide) (hts (.fieldLink RX3 131 "SoldHouse$Memory" "done" "I") (List.mem_of_getElem? (i := 2) rfl)) (fun _ h9 => h9) rfl (by decide +kernel) rfl rfl (Nat.le_of_ble_eq_true rfl) dX3_keepAct_21 (fun H locs hP hD hS => ?_)
    replace hP : va_P D classes ([(ME, .inr (3, oX3 FL aME ME_oldest y20 0)), ((aME 3), .inl (cG, 41, .inr (.inr (.inr (.inr ME_kept))))), ((aME 1), .inl (cI, 32, .inl ME_now))] ++ rw41 cI KRr KRf) H := hP
    replace hD : va_D A ([(ME, .inr (3, oX3 FL aME ME_oldest y20 0)), ((aME 3), .inl (cG, 41, .inr (.inr (.inr (.inr ME_kept))))), ((aME 1), .inl (cI, 32, .inl ME_now))] ++ rw41 cI KRr KRf) := hD
    refine lv_goto (tgt := 40) hx hb dX3_keepAct_24 (by decide) ?_
    exact j40 H locs ls ME_oldest y20 b_ME_oldest by20 s_ME_now_0 hP hD hS (lv_sub hl [0] rfl)
set_option maxHeartbeats 4000000 in
set_option maxRecDepth 100000 in
theorem c_X3_stepBack (l : Launch) (D : va_G) (cI : ClassId) (cB : ClassId) (cL : ClassId) (cZ : ClassId) (cG : ClassId) (ME : Nat) (FL : Nat) (aME : Nat → Nat) (ME_oldest : Int32) (ME_done : Int32) (ME_undone : Int32) (ME_kept : Nat → Option Nat) (KRr : Nat → Nat) (KRf : Nat → Nat → Int32) (ME_now : Nat → Int32) (sz : Nat) (q_ME : ME_done.toInt + ME_undone.toInt ≤ 40) (b_ME_oldest : zB ME_oldest 0 40) (b_ME_done : zB ME_done 0 40) (b_ME_undone : zB ME_undone 0 40) (k_ME_kept : ∀ j, j < 41 → ME_kept j = some (KRr j)) (s_ME_now_0 : zA ME_now 0 12 0 7) (w_KR : ∀ j, j < 41 → zA (KRf j) 0 12 0 7) : Met l yX3_stepBack wsX3_stepBack ({ frames := 1, cells := 0, slots := 0, locals := 40 }) (xp D [(cI, .int), (cB, .byte), (cL, .long), (cZ, .boolean), (cG, .array .int)] ([(ME, .inr (3, oX3 FL aME ME_oldest ME_done ME_undone)), ((aME 3), .inl (cG, 41, .inr (.inr (.inr (.inr ME_kept))))), ((aME 1), .inl (cI, 32, .inl ME_now))] ++ rw41 cI KRr KRf) sz [] [.ref ME]) (va_Qi (fun (r : Int32) (_ : Unit) => zB r 0 1) (fun (_ : Unit) (t : State) => ∃ (nME_done : Int32), ∃ (nME_undone : Int32), ∃ (nMEnow : Nat → Int32), zB nME_done 0 39 ∧ zB nME_undone 0 40 ∧ zA nMEnow 0 12 0 7 ∧ nME_done.toInt + nME_undone.toInt ≤ 40 ∧ xB D (va_A ([(ME, .inr (3, oX3 FL aME ME_oldest ME_done ME_undone)), ((aME 3), .inl (cG, 41, .inr (.inr (.inr (.inr ME_kept))))), ((aME 1), .inl (cI, 32, .inl ME_now))] ++ rw41 cI KRr KRf) sz) ([(ME, .inr (3, oX3 FL aME ME_oldest nME_done nME_undone)), ((aME 3), .inl (cG, 41, .inr (.inr (.inr (.inr ME_kept))))), ((aME 1), .inl (cI, 32, .inl nMEnow))] ++ rw41 cI KRr KRf) t) (va_A ([(ME, .inr (3, oX3 FL aME ME_oldest ME_done ME_undone)), ((aME 3), .inl (cG, 41, .inr (.inr (.inr (.inr ME_kept))))), ((aME 1), .inl (cI, 32, .inl ME_now))] ++ rw41 cI KRr KRf) sz)) 0 0 (va_A ([(ME, .inr (3, oX3 FL aME ME_oldest ME_done ME_undone)), ((aME 3), .inl (cG, 41, .inr (.inr (.inr (.inr ME_kept))))), ((aME 1), .inl (cI, 32, .inl ME_now))] ++ rw41 cI KRr KRf) sz) := by
  refine Met.ofW (cc := cX3_stepBack) (maxL := 1) (ret := (some .boolean)) (by decide) rfl ?_
  intro p e s m args below meth c s₁ B hml hv
  obtain ⟨rfl, hsz, hP, hK, hD0, hNw⟩ := hv
  have hx := B.exec
  have hb := B.bytes
  have hr := B.returns
  have hts := atoms_spec (ws := wsX3_stepBack) B.pre
  have hown : s.vm.findClass RX3 = some m.cls := findClass_of_methodNamed B.named
  have hlocks := B.notSynchronized
  clear B
  subst hsz
  have hD := hD0.self (sz := s.heap.size)
  clear hD0 hNw
  generalize hAe : va_A ([(ME, .inr (3, oX3 FL aME ME_oldest ME_done ME_undone)), ((aME 3), .inl (cG, 41, .inr (.inr (.inr (.inr ME_kept))))), ((aME 1), .inl (cI, 32, .inl ME_now))] ++ rw41 cI KRr KRf) s.heap.size = A at hD ⊢
  have hA : ∀ q : Nat, s.heap.size ≤ q → A q := fun q h => by rw [← hAe]; exact Or.inr h
  have hS : va_S A s.heap s.heap [] := va_S.rf
  clear hAe
  obtain ⟨H, hH⟩ : ∃ H : Heap, H = s.heap := ⟨_, rfl⟩
  obtain ⟨locs, hlocs⟩ : ∃ L : List Loc, L = [] := ⟨_, rfl⟩
  replace hP : va_P D classes ([(ME, .inr (3, oX3 FL aME ME_oldest ME_done ME_undone)), ((aME 3), .inl (cG, 41, .inr (.inr (.inr (.inr ME_kept))))), ((aME 1), .inl (cI, 32, .inl ME_now))] ++ rw41 cI KRr KRf) H := by rw [hH]; exact hP
  replace hS : va_S A s.heap H locs := by rw [hH, hlocs]; exact hS
  rw [← hH, ← hlocs]
  clear hlocs hH
  have hl := lv_entry ([.ref ME]) (n := 1) (Nat.le_of_ble_eq_true rfl)
  rw [lg_entry_eq]
  generalize (lg_sl ([.ref ME]) ++ List.replicate (1 - (lg_sl ([.ref ME])).length) Slot.unset).toArray = ls at hl ⊢
  replace hl : lv_has ls 1 [(0, .ref ME)] := hl
  refine lv_aload_n hx hb dX3_stepBack_0 rfl (lv_at hl 0 rfl) ?_
  refine va_get (D := D) (ci := 3) (v := .int ME_done) (C := RX3) (T := TX3) (N := 9) hx hb hts iw_X3_stepBack_X3 hown hK hP 0 rfl rfl 5 (by decide) (hts (.fieldLink RX3 131 "SoldHouse$Memory" "done" "I") (List.mem_of_getElem? (i := 1) rfl)) (fun _ h9 => h9) rfl dX3_stepBack_1 ?_
  refine lv_if_ne (tgt := 9) hx hb dX3_stepBack_4 (by decide) (fun c4 => ?_) (fun c4 => ?_)
  · have bn4t_ME_done : zB ME_done 1 40 := zB_neL c4 b_ME_done (show zB 0 0 0 from ⟨by decide, by decide⟩) (by decide)
    have bhk_ME_undone : zB ME_undone 0 39 := ⟨(b_ME_undone).1, by have h1 := q_ME; have h2 := (bn4t_ME_done).1; omega⟩
    refine lv_aload_n hx hb dX3_stepBack_9 rfl (lv_at hl 0 rfl) ?_
    refine lv_dup hx hb dX3_stepBack_10 rfl ?_
    refine va_get (D := D) (ci := 3) (v := .int ME_done) (C := RX3) (T := TX3) (N := 9) hx hb hts iw_X3_stepBack_X3 hown hK hP 0 rfl rfl 5 (by decide) (hts (.fieldLink RX3 131 "SoldHouse$Memory" "done" "I") (List.mem_of_getElem? (i := 1) rfl)) (fun _ h9 => h9) rfl dX3_stepBack_11 ?_
    refine lv_iconst (v := 1) hx hb dX3_stepBack_14 (by decide) ?_
    refine lv_isub hx hb dX3_stepBack_15 ?_
    refine zi_top2 (P := fun y => y.toInt = ME_done.toInt + (-1)) (a := 0) (b := 39) (zB_sub bn4t_ME_done (show zB 1 1 1 from ⟨by decide, by decide⟩) (by decide) (by decide) (by decide) (by decide)) (zR_subc bn4t_ME_done (by decide) (by decide) (by decide)) (fun y15 by15 ry15 => ?_)
    refine va_put (D := D) (ci := 3) (v := .int y15) (ty := tyX3 5) (C := RX3) (T := TX3) (N := 9) hx hb hts iw_X3_stepBack_X3 tyX3 tyX3_ok nmX3 hown hK hP hD hS 0 rfl rfl 5 (by decide) (hts (.fieldLink RX3 131 "SoldHouse$Memory" "done" "I") (List.mem_of_getElem? (i := 1) rfl)) (fun _ h9 => h9) rfl (by decide +kernel) rfl rfl (Nat.le_of_ble_eq_true rfl) dX3_stepBack_16 (fun H locs hP hD hS => ?_)
    replace hP : va_P D classes ([(ME, .inr (3, oX3 FL aME ME_oldest y15 ME_undone)), ((aME 3), .inl (cG, 41, .inr (.inr (.inr (.inr ME_kept))))), ((aME 1), .inl (cI, 32, .inl ME_now))] ++ rw41 cI KRr KRf) H := hP
    replace hD : va_D A ([(ME, .inr (3, oX3 FL aME ME_oldest y15 ME_undone)), ((aME 3), .inl (cG, 41, .inr (.inr (.inr (.inr ME_kept))))), ((aME 1), .inl (cI, 32, .inl ME_now))] ++ rw41 cI KRr KRf) := hD
    refine lv_aload_n hx hb dX3_stepBack_19 rfl (lv_at hl 0 rfl) ?_
    refine lv_dup hx hb dX3_stepBack_20 rfl ?_
    refine va_get (D := D) (ci := 3) (v := .int ME_undone) (C := RX3) (T := TX3) (N := 9) hx hb hts iw_X3_stepBack_X3 hown hK hP 0 rfl rfl 6 (by decide) (hts (.fieldLink RX3 128 "SoldHouse$Memory" "undone" "I") (List.mem_of_getElem? (i := 2) rfl)) (fun _ h9 => h9) rfl dX3_stepBack_21 ?_
    refine lv_iconst (v := 1) hx hb dX3_stepBack_24 (by decide) ?_
    refine lv_iadd hx hb dX3_stepBack_25 ?_
    refine zi_top2 (P := fun y => y.toInt = ME_undone.toInt + 1) (a := 1) (b := 40) (zB_add bhk_ME_undone (show zB 1 1 1 from ⟨by decide, by decide⟩) (by decide) (by decide) (by decide) (by decide)) (zR_addc bhk_ME_undone (by decide) (by decide) (by decide)) (fun y25 by25 ry25 => ?_)
    refine va_put (D := D) (ci := 3) (v := .int y25) (ty := tyX3 6) (C := RX3) (T := TX3) (N := 9) hx hb hts iw_X3_stepBack_X3 tyX3 tyX3_ok nmX3 hown hK hP hD hS 0 rfl rfl 6 (by decide) (hts (.fieldLink RX3 128 "SoldHouse$Memory" "undone" "I") (List.mem_of_getElem? (i := 2) rfl)) (fun _ h9 => h9) rfl (by decide +kernel) rfl rfl (Nat.le_of_ble_eq_true rfl) dX3_stepBack_26 (fun H locs hP hD hS => ?_)
    replace hP : va_P D classes ([(ME, .inr (3, oX3 FL aME ME_oldest y15 y25)), ((aME 3), .inl (cG, 41, .inr (.inr (.inr (.inr ME_kept))))), ((aME 1), .inl (cI, 32, .inl ME_now))] ++ rw41 cI KRr KRf) H := hP
    replace hD : va_D A ([(ME, .inr (3, oX3 FL aME ME_oldest y15 y25)), ((aME 3), .inl (cG, 41, .inr (.inr (.inr (.inr ME_kept))))), ((aME 1), .inl (cI, 32, .inl ME_now))] ++ rw41 cI KRr KRf) := hD
    refine lv_aload_n hx hb dX3_stepBack_29 rfl (lv_at hl 0 rfl) ?_
    refine va_get (D := D) (ci := 3) (v := .ref (aME 3)) (C := RX3) (T := TX3) (N := 9) hx hb hts iw_X3_stepBack_X3 hown hK hP 0 rfl rfl 3 (by decide) (hts (.fieldLink RX3 20 "SoldHouse$Memory" "kept" "[[I") (List.mem_of_getElem? (i := 3) rfl)) (fun _ h9 => h9) rfl dX3_stepBack_30 ?_
    refine lv_aload_n hx hb dX3_stepBack_33 rfl (lv_at hl 0 rfl) ?_
    refine va_get (D := D) (ci := 3) (v := .int ME_oldest) (C := RX3) (T := TX3) (N := 9) hx hb hts iw_X3_stepBack_X3 hown hK hP 0 rfl rfl 4 (by decide) (hts (.fieldLink RX3 134 "SoldHouse$Memory" "oldest" "I") (List.mem_of_getElem? (i := 4) rfl)) (fun _ h9 => h9) rfl dX3_stepBack_34 ?_
    refine lv_aload_n hx hb dX3_stepBack_37 rfl (lv_at hl 0 rfl) ?_
    refine va_get (D := D) (ci := 3) (v := .int y15) (C := RX3) (T := TX3) (N := 9) hx hb hts iw_X3_stepBack_X3 hown hK hP 0 rfl rfl 5 (by decide) (hts (.fieldLink RX3 131 "SoldHouse$Memory" "done" "I") (List.mem_of_getElem? (i := 1) rfl)) (fun _ h9 => h9) rfl dX3_stepBack_38 ?_
    refine lv_iadd hx hb dX3_stepBack_41 ?_
    refine zi_top (a := 0) (b := 79) (zB_add b_ME_oldest by15 (by decide) (by decide) (by decide) (by decide)) (fun y41 by41 => ?_)
    refine lv_bipush (v := 41) hx hb dX3_stepBack_42 (by decide) ?_
    refine lv_irem hx hb dX3_stepBack_44 (by decide) ?_
    refine zi_top (a := 0) (b := 40) (zB_rem by41 (show zB 41 41 41 from ⟨by decide, by decide⟩) (by decide) (by decide) (by decide)) (fun y44 by44 => ?_)
    rcases zsp_41 by44 with rfl | rfl | rfl | rfl | rfl | rfl | rfl | rfl | rfl | rfl | rfl | rfl | rfl | rfl | rfl | rfl | rfl | rfl | rfl | rfl | rfl | rfl | rfl | rfl | rfl | rfl | rfl | rfl | rfl | rfl | rfl | rfl | rfl | rfl | rfl | rfl | rfl | rfl | rfl | rfl | rfl
    · refine zz_alda (v := (KRr 0)) hx hb hK hP 1 4 rfl rfl (zB_in (show zB 0 0 0 from ⟨by decide, by decide⟩) (by decide) (by decide)) (k_ME_kept 0 (by decide)) dX3_stepBack_45 ?_
      refine lv_iconst (v := 0) hx hb dX3_stepBack_46 (by decide) ?_
      refine lv_aload_n hx hb dX3_stepBack_47 rfl (lv_at hl 0 rfl) ?_
      refine va_get (D := D) (ci := 3) (v := .ref (aME 1)) (C := RX3) (T := TX3) (N := 9) hx hb hts iw_X3_stepBack_X3 hown hK hP 0 rfl rfl 1 (by decide) (hts (.fieldLink RX3 11 "SoldHouse$Memory" "now" "[I") (List.mem_of_getElem? (i := 5) rfl)) (fun _ h9 => h9) rfl dX3_stepBack_48 ?_
      refine lv_iconst (v := 0) hx hb dX3_stepBack_51 (by decide) ?_
      refine lv_bipush (v := 32) hx hb dX3_stepBack_52 (by decide) ?_
      refine zi_copy hx hb (by rw [hml]; exact hl.1.symm) hown (hts (.methodLink RX3 115 arraycopyName) (List.mem_of_getElem? (i := 6) rfl)) (hts (.native arraycopyName) (List.mem_of_getElem? (i := 7) rfl)) (hts (.static arraycopyName) (List.mem_of_getElem? (i := 8) rfl)) (hts (.initialized "java/lang/System") (List.mem_of_getElem? (i := 9) rfl)) hK hP hD hS 3 2 rfl rfl rfl (Nat.le_of_ble_eq_true rfl) (Nat.le_of_ble_eq_true rfl) dX3_stepBack_54 (fun H locs g54 e54 hP hD hS => ?_)
      have sg54 := zA_cpy e54 (w_KR 0 (by decide))
      replace hP : va_P D classes ([(ME, .inr (3, oX3 FL aME ME_oldest y15 y25)), ((aME 3), .inl (cG, 41, .inr (.inr (.inr (.inr ME_kept))))), ((aME 1), .inl (cI, 32, .inl g54))] ++ rw41 cI KRr KRf) H := hP
      replace hD : va_D A ([(ME, .inr (3, oX3 FL aME ME_oldest y15 y25)), ((aME 3), .inl (cG, 41, .inr (.inr (.inr (.inr ME_kept))))), ((aME 1), .inl (cI, 32, .inl g54))] ++ rw41 cI KRr KRf) := hD
      clear e54
      refine lv_iconst (v := 1) hx hb dX3_stepBack_57 (by decide) ?_
      exact W.zret (v := 1) (ty := .boolean) hx hb hr (by decide) (fun t ht hW => ⟨⟨1, (), rfl, (zB_w (show zB 1 1 1 from ⟨by decide, by decide⟩) (by decide) (by decide)), ⟨y15, y25, g54, by15, (zB_w by25 (by decide) (by decide)), sg54, (by have h9_0 := (by15).1; have h9_1 := (by15).2; have h9_2 := ry15; have h9_3 := (bn4t_ME_done).1; have h9_4 := (bn4t_ME_done).2; have h9_5 := (by25).1; have h9_6 := (by25).2; have h9_7 := ry25; have h9_8 := (bhk_ME_undone).1; have h9_9 := (bhk_ME_undone).2; have h9_10 := q_ME; omega), by rw [ht]; exact hP, hD⟩⟩, hS.F ht⟩) hS.2.2 dX3_stepBack_58
    · refine zz_alda (v := (KRr 1)) hx hb hK hP 1 4 rfl rfl (zB_in (show zB 1 1 1 from ⟨by decide, by decide⟩) (by decide) (by decide)) (k_ME_kept 1 (by decide)) dX3_stepBack_45 ?_
      refine lv_iconst (v := 0) hx hb dX3_stepBack_46 (by decide) ?_
      refine lv_aload_n hx hb dX3_stepBack_47 rfl (lv_at hl 0 rfl) ?_
      refine va_get (D := D) (ci := 3) (v := .ref (aME 1)) (C := RX3) (T := TX3) (N := 9) hx hb hts iw_X3_stepBack_X3 hown hK hP 0 rfl rfl 1 (by decide) (hts (.fieldLink RX3 11 "SoldHouse$Memory" "now" "[I") (List.mem_of_getElem? (i := 5) rfl)) (fun _ h9 => h9) rfl dX3_stepBack_48 ?_
      refine lv_iconst (v := 0) hx hb dX3_stepBack_51 (by decide) ?_
      refine lv_bipush (v := 32) hx hb dX3_stepBack_52 (by decide) ?_
      refine zi_copy hx hb (by rw [hml]; exact hl.1.symm) hown (hts (.methodLink RX3 115 arraycopyName) (List.mem_of_getElem? (i := 6) rfl)) (hts (.native arraycopyName) (List.mem_of_getElem? (i := 7) rfl)) (hts (.static arraycopyName) (List.mem_of_getElem? (i := 8) rfl)) (hts (.initialized "java/lang/System") (List.mem_of_getElem? (i := 9) rfl)) hK hP hD hS 4 2 rfl rfl rfl (Nat.le_of_ble_eq_true rfl) (Nat.le_of_ble_eq_true rfl) dX3_stepBack_54 (fun H locs g54 e54 hP hD hS => ?_)
      have sg54 := zA_cpy e54 (w_KR 1 (by decide))
      replace hP : va_P D classes ([(ME, .inr (3, oX3 FL aME ME_oldest y15 y25)), ((aME 3), .inl (cG, 41, .inr (.inr (.inr (.inr ME_kept))))), ((aME 1), .inl (cI, 32, .inl g54))] ++ rw41 cI KRr KRf) H := hP
      replace hD : va_D A ([(ME, .inr (3, oX3 FL aME ME_oldest y15 y25)), ((aME 3), .inl (cG, 41, .inr (.inr (.inr (.inr ME_kept))))), ((aME 1), .inl (cI, 32, .inl g54))] ++ rw41 cI KRr KRf) := hD
      clear e54
      refine lv_iconst (v := 1) hx hb dX3_stepBack_57 (by decide) ?_
      exact W.zret (v := 1) (ty := .boolean) hx hb hr (by decide) (fun t ht hW => ⟨⟨1, (), rfl, (zB_w (show zB 1 1 1 from ⟨by decide, by decide⟩) (by decide) (by decide)), ⟨y15, y25, g54, by15, (zB_w by25 (by decide) (by decide)), sg54, (by have h9_0 := (by15).1; have h9_1 := (by15).2; have h9_2 := ry15; have h9_3 := (bn4t_ME_done).1; have h9_4 := (bn4t_ME_done).2; have h9_5 := (by25).1; have h9_6 := (by25).2; have h9_7 := ry25; have h9_8 := (bhk_ME_undone).1; have h9_9 := (bhk_ME_undone).2; have h9_10 := q_ME; omega), by rw [ht]; exact hP, hD⟩⟩, hS.F ht⟩) hS.2.2 dX3_stepBack_58
    · refine zz_alda (v := (KRr 2)) hx hb hK hP 1 4 rfl rfl (zB_in (show zB 2 2 2 from ⟨by decide, by decide⟩) (by decide) (by decide)) (k_ME_kept 2 (by decide)) dX3_stepBack_45 ?_
      refine lv_iconst (v := 0) hx hb dX3_stepBack_46 (by decide) ?_
      refine lv_aload_n hx hb dX3_stepBack_47 rfl (lv_at hl 0 rfl) ?_
      refine va_get (D := D) (ci := 3) (v := .ref (aME 1)) (C := RX3) (T := TX3) (N := 9) hx hb hts iw_X3_stepBack_X3 hown hK hP 0 rfl rfl 1 (by decide) (hts (.fieldLink RX3 11 "SoldHouse$Memory" "now" "[I") (List.mem_of_getElem? (i := 5) rfl)) (fun _ h9 => h9) rfl dX3_stepBack_48 ?_
      refine lv_iconst (v := 0) hx hb dX3_stepBack_51 (by decide) ?_
      refine lv_bipush (v := 32) hx hb dX3_stepBack_52 (by decide) ?_
      refine zi_copy hx hb (by rw [hml]; exact hl.1.symm) hown (hts (.methodLink RX3 115 arraycopyName) (List.mem_of_getElem? (i := 6) rfl)) (hts (.native arraycopyName) (List.mem_of_getElem? (i := 7) rfl)) (hts (.static arraycopyName) (List.mem_of_getElem? (i := 8) rfl)) (hts (.initialized "java/lang/System") (List.mem_of_getElem? (i := 9) rfl)) hK hP hD hS 5 2 rfl rfl rfl (Nat.le_of_ble_eq_true rfl) (Nat.le_of_ble_eq_true rfl) dX3_stepBack_54 (fun H locs g54 e54 hP hD hS => ?_)
      have sg54 := zA_cpy e54 (w_KR 2 (by decide))
      replace hP : va_P D classes ([(ME, .inr (3, oX3 FL aME ME_oldest y15 y25)), ((aME 3), .inl (cG, 41, .inr (.inr (.inr (.inr ME_kept))))), ((aME 1), .inl (cI, 32, .inl g54))] ++ rw41 cI KRr KRf) H := hP
      replace hD : va_D A ([(ME, .inr (3, oX3 FL aME ME_oldest y15 y25)), ((aME 3), .inl (cG, 41, .inr (.inr (.inr (.inr ME_kept))))), ((aME 1), .inl (cI, 32, .inl g54))] ++ rw41 cI KRr KRf) := hD
      clear e54
      refine lv_iconst (v := 1) hx hb dX3_stepBack_57 (by decide) ?_
      exact W.zret (v := 1) (ty := .boolean) hx hb hr (by decide) (fun t ht hW => ⟨⟨1, (), rfl, (zB_w (show zB 1 1 1 from ⟨by decide, by decide⟩) (by decide) (by decide)), ⟨y15, y25, g54, by15, (zB_w by25 (by decide) (by decide)), sg54, (by have h9_0 := (by15).1; have h9_1 := (by15).2; have h9_2 := ry15; have h9_3 := (bn4t_ME_done).1; have h9_4 := (bn4t_ME_done).2; have h9_5 := (by25).1; have h9_6 := (by25).2; have h9_7 := ry25; have h9_8 := (bhk_ME_undone).1; have h9_9 := (bhk_ME_undone).2; have h9_10 := q_ME; omega), by rw [ht]; exact hP, hD⟩⟩, hS.F ht⟩) hS.2.2 dX3_stepBack_58
    · refine zz_alda (v := (KRr 3)) hx hb hK hP 1 4 rfl rfl (zB_in (show zB 3 3 3 from ⟨by decide, by decide⟩) (by decide) (by decide)) (k_ME_kept 3 (by decide)) dX3_stepBack_45 ?_
      refine lv_iconst (v := 0) hx hb dX3_stepBack_46 (by decide) ?_
      refine lv_aload_n hx hb dX3_stepBack_47 rfl (lv_at hl 0 rfl) ?_
      refine va_get (D := D) (ci := 3) (v := .ref (aME 1)) (C := RX3) (T := TX3) (N := 9) hx hb hts iw_X3_stepBack_X3 hown hK hP 0 rfl rfl 1 (by decide) (hts (.fieldLink RX3 11 "SoldHouse$Memory" "now" "[I") (List.mem_of_getElem? (i := 5) rfl)) (fun _ h9 => h9) rfl dX3_stepBack_48 ?_
      refine lv_iconst (v := 0) hx hb dX3_stepBack_51 (by decide) ?_
      refine lv_bipush (v := 32) hx hb dX3_stepBack_52 (by decide) ?_
      refine zi_copy hx hb (by rw [hml]; exact hl.1.symm) hown (hts (.methodLink RX3 115 arraycopyName) (List.mem_of_getElem? (i := 6) rfl)) (hts (.native arraycopyName) (List.mem_of_getElem? (i := 7) rfl)) (hts (.static arraycopyName) (List.mem_of_getElem? (i := 8) rfl)) (hts (.initialized "java/lang/System") (List.mem_of_getElem? (i := 9) rfl)) hK hP hD hS 6 2 rfl rfl rfl (Nat.le_of_ble_eq_true rfl) (Nat.le_of_ble_eq_true rfl) dX3_stepBack_54 (fun H locs g54 e54 hP hD hS => ?_)
      have sg54 := zA_cpy e54 (w_KR 3 (by decide))
      replace hP : va_P D classes ([(ME, .inr (3, oX3 FL aME ME_oldest y15 y25)), ((aME 3), .inl (cG, 41, .inr (.inr (.inr (.inr ME_kept))))), ((aME 1), .inl (cI, 32, .inl g54))] ++ rw41 cI KRr KRf) H := hP
      replace hD : va_D A ([(ME, .inr (3, oX3 FL aME ME_oldest y15 y25)), ((aME 3), .inl (cG, 41, .inr (.inr (.inr (.inr ME_kept))))), ((aME 1), .inl (cI, 32, .inl g54))] ++ rw41 cI KRr KRf) := hD
      clear e54
      refine lv_iconst (v := 1) hx hb dX3_stepBack_57 (by decide) ?_
      exact W.zret (v := 1) (ty := .boolean) hx hb hr (by decide) (fun t ht hW => ⟨⟨1, (), rfl, (zB_w (show zB 1 1 1 from ⟨by decide, by decide⟩) (by decide) (by decide)), ⟨y15, y25, g54, by15, (zB_w by25 (by decide) (by decide)), sg54, (by have h9_0 := (by15).1; have h9_1 := (by15).2; have h9_2 := ry15; have h9_3 := (bn4t_ME_done).1; have h9_4 := (bn4t_ME_done).2; have h9_5 := (by25).1; have h9_6 := (by25).2; have h9_7 := ry25; have h9_8 := (bhk_ME_undone).1; have h9_9 := (bhk_ME_undone).2; have h9_10 := q_ME; omega), by rw [ht]; exact hP, hD⟩⟩, hS.F ht⟩) hS.2.2 dX3_stepBack_58
    · refine zz_alda (v := (KRr 4)) hx hb hK hP 1 4 rfl rfl (zB_in (show zB 4 4 4 from ⟨by decide, by decide⟩) (by decide) (by decide)) (k_ME_kept 4 (by decide)) dX3_stepBack_45 ?_
      refine lv_iconst (v := 0) hx hb dX3_stepBack_46 (by decide) ?_
      refine lv_aload_n hx hb dX3_stepBack_47 rfl (lv_at hl 0 rfl) ?_
      refine va_get (D := D) (ci := 3) (v := .ref (aME 1)) (C := RX3) (T := TX3) (N := 9) hx hb hts iw_X3_stepBack_X3 hown hK hP 0 rfl rfl 1 (by decide) (hts (.fieldLink RX3 11 "SoldHouse$Memory" "now" "[I") (List.mem_of_getElem? (i := 5) rfl)) (fun _ h9 => h9) rfl dX3_stepBack_48 ?_
      refine lv_iconst (v := 0) hx hb dX3_stepBack_51 (by decide) ?_
      refine lv_bipush (v := 32) hx hb dX3_stepBack_52 (by decide) ?_
      refine zi_copy hx hb (by rw [hml]; exact hl.1.symm) hown (hts (.methodLink RX3 115 arraycopyName) (List.mem_of_getElem? (i := 6) rfl)) (hts (.native arraycopyName) (List.mem_of_getElem? (i := 7) rfl)) (hts (.static arraycopyName) (List.mem_of_getElem? (i := 8) rfl)) (hts (.initialized "java/lang/System") (List.mem_of_getElem? (i := 9) rfl)) hK hP hD hS 7 2 rfl rfl rfl (Nat.le_of_ble_eq_true rfl) (Nat.le_of_ble_eq_true rfl) dX3_stepBack_54 (fun H locs g54 e54 hP hD hS => ?_)
      have sg54 := zA_cpy e54 (w_KR 4 (by decide))
      replace hP : va_P D classes ([(ME, .inr (3, oX3 FL aME ME_oldest y15 y25)), ((aME 3), .inl (cG, 41, .inr (.inr (.inr (.inr ME_kept))))), ((aME 1), .inl (cI, 32, .inl g54))] ++ rw41 cI KRr KRf) H := hP
      replace hD : va_D A ([(ME, .inr (3, oX3 FL aME ME_oldest y15 y25)), ((aME 3), .inl (cG, 41, .inr (.inr (.inr (.inr ME_kept))))), ((aME 1), .inl (cI, 32, .inl g54))] ++ rw41 cI KRr KRf) := hD
      clear e54
      refine lv_iconst (v := 1) hx hb dX3_stepBack_57 (by decide) ?_
      exact W.zret (v := 1) (ty := .boolean) hx hb hr (by decide) (fun t ht hW => ⟨⟨1, (), rfl, (zB_w (show zB 1 1 1 from ⟨by decide, by decide⟩) (by decide) (by decide)), ⟨y15, y25, g54, by15, (zB_w by25 (by decide) (by decide)), sg54, (by have h9_0 := (by15).1; have h9_1 := (by15).2; have h9_2 := ry15; have h9_3 := (bn4t_ME_done).1; have h9_4 := (bn4t_ME_done).2; have h9_5 := (by25).1; have h9_6 := (by25).2; have h9_7 := ry25; have h9_8 := (bhk_ME_undone).1; have h9_9 := (bhk_ME_undone).2; have h9_10 := q_ME; omega), by rw [ht]; exact hP, hD⟩⟩, hS.F ht⟩) hS.2.2 dX3_stepBack_58
    · refine zz_alda (v := (KRr 5)) hx hb hK hP 1 4 rfl rfl (zB_in (show zB 5 5 5 from ⟨by decide, by decide⟩) (by decide) (by decide)) (k_ME_kept 5 (by decide)) dX3_stepBack_45 ?_
      refine lv_iconst (v := 0) hx hb dX3_stepBack_46 (by decide) ?_
      refine lv_aload_n hx hb dX3_stepBack_47 rfl (lv_at hl 0 rfl) ?_
      refine va_get (D := D) (ci := 3) (v := .ref (aME 1)) (C := RX3) (T := TX3) (N := 9) hx hb hts iw_X3_stepBack_X3 hown hK hP 0 rfl rfl 1 (by decide) (hts (.fieldLink RX3 11 "SoldHouse$Memory" "now" "[I") (List.mem_of_getElem? (i := 5) rfl)) (fun _ h9 => h9) rfl dX3_stepBack_48 ?_
      refine lv_iconst (v := 0) hx hb dX3_stepBack_51 (by decide) ?_
      refine lv_bipush (v := 32) hx hb dX3_stepBack_52 (by decide) ?_
      refine zi_copy hx hb (by rw [hml]; exact hl.1.symm) hown (hts (.methodLink RX3 115 arraycopyName) (List.mem_of_getElem? (i := 6) rfl)) (hts (.native arraycopyName) (List.mem_of_getElem? (i := 7) rfl)) (hts (.static arraycopyName) (List.mem_of_getElem? (i := 8) rfl)) (hts (.initialized "java/lang/System") (List.mem_of_getElem? (i := 9) rfl)) hK hP hD hS 8 2 rfl rfl rfl (Nat.le_of_ble_eq_true rfl) (Nat.le_of_ble_eq_true rfl) dX3_stepBack_54 (fun H locs g54 e54 hP hD hS => ?_)
      have sg54 := zA_cpy e54 (w_KR 5 (by decide))
      replace hP : va_P D classes ([(ME, .inr (3, oX3 FL aME ME_oldest y15 y25)), ((aME 3), .inl (cG, 41, .inr (.inr (.inr (.inr ME_kept))))), ((aME 1), .inl (cI, 32, .inl g54))] ++ rw41 cI KRr KRf) H := hP
      replace hD : va_D A ([(ME, .inr (3, oX3 FL aME ME_oldest y15 y25)), ((aME 3), .inl (cG, 41, .inr (.inr (.inr (.inr ME_kept))))), ((aME 1), .inl (cI, 32, .inl g54))] ++ rw41 cI KRr KRf) := hD
      clear e54
      refine lv_iconst (v := 1) hx hb dX3_stepBack_57 (by decide) ?_
      exact W.zret (v := 1) (ty := .boolean) hx hb hr (by decide) (fun t ht hW => ⟨⟨1, (), rfl, (zB_w (show zB 1 1 1 from ⟨by decide, by decide⟩) (by decide) (by decide)), ⟨y15, y25, g54, by15, (zB_w by25 (by decide) (by decide)), sg54, (by have h9_0 := (by15).1; have h9_1 := (by15).2; have h9_2 := ry15; have h9_3 := (bn4t_ME_done).1; have h9_4 := (bn4t_ME_done).2; have h9_5 := (by25).1; have h9_6 := (by25).2; have h9_7 := ry25; have h9_8 := (bhk_ME_undone).1; have h9_9 := (bhk_ME_undone).2; have h9_10 := q_ME; omega), by rw [ht]; exact hP, hD⟩⟩, hS.F ht⟩) hS.2.2 dX3_stepBack_58
    · refine zz_alda (v := (KRr 6)) hx hb hK hP 1 4 rfl rfl (zB_in (show zB 6 6 6 from ⟨by decide, by decide⟩) (by decide) (by decide)) (k_ME_kept 6 (by decide)) dX3_stepBack_45 ?_
      refine lv_iconst (v := 0) hx hb dX3_stepBack_46 (by decide) ?_
      refine lv_aload_n hx hb dX3_stepBack_47 rfl (lv_at hl 0 rfl) ?_
      refine va_get (D := D) (ci := 3) (v := .ref (aME 1)) (C := RX3) (T := TX3) (N := 9) hx hb hts iw_X3_stepBack_X3 hown hK hP 0 rfl rfl 1 (by decide) (hts (.fieldLink RX3 11 "SoldHouse$Memory" "now" "[I") (List.mem_of_getElem? (i := 5) rfl)) (fun _ h9 => h9) rfl dX3_stepBack_48 ?_
      refine lv_iconst (v := 0) hx hb dX3_stepBack_51 (by decide) ?_
      refine lv_bipush (v := 32) hx hb dX3_stepBack_52 (by decide) ?_
      refine zi_copy hx hb (by rw [hml]; exact hl.1.symm) hown (hts (.methodLink RX3 115 arraycopyName) (List.mem_of_getElem? (i := 6) rfl)) (hts (.native arraycopyName) (List.mem_of_getElem? (i := 7) rfl)) (hts (.static arraycopyName) (List.mem_of_getElem? (i := 8) rfl)) (hts (.initialized "java/lang/System") (List.mem_of_getElem? (i := 9) rfl)) hK hP hD hS 9 2 rfl rfl rfl (Nat.le_of_ble_eq_true rfl) (Nat.le_of_ble_eq_true rfl) dX3_stepBack_54 (fun H locs g54 e54 hP hD hS => ?_)
      have sg54 := zA_cpy e54 (w_KR 6 (by decide))
      replace hP : va_P D classes ([(ME, .inr (3, oX3 FL aME ME_oldest y15 y25)), ((aME 3), .inl (cG, 41, .inr (.inr (.inr (.inr ME_kept))))), ((aME 1), .inl (cI, 32, .inl g54))] ++ rw41 cI KRr KRf) H := hP
      replace hD : va_D A ([(ME, .inr (3, oX3 FL aME ME_oldest y15 y25)), ((aME 3), .inl (cG, 41, .inr (.inr (.inr (.inr ME_kept))))), ((aME 1), .inl (cI, 32, .inl g54))] ++ rw41 cI KRr KRf) := hD
      clear e54
      refine lv_iconst (v := 1) hx hb dX3_stepBack_57 (by decide) ?_
      exact W.zret (v := 1) (ty := .boolean) hx hb hr (by decide) (fun t ht hW => ⟨⟨1, (), rfl, (zB_w (show zB 1 1 1 from ⟨by decide, by decide⟩) (by decide) (by decide)), ⟨y15, y25, g54, by15, (zB_w by25 (by decide) (by decide)), sg54, (by have h9_0 := (by15).1; have h9_1 := (by15).2; have h9_2 := ry15; have h9_3 := (bn4t_ME_done).1; have h9_4 := (bn4t_ME_done).2; have h9_5 := (by25).1; have h9_6 := (by25).2; have h9_7 := ry25; have h9_8 := (bhk_ME_undone).1; have h9_9 := (bhk_ME_undone).2; have h9_10 := q_ME; omega), by rw [ht]; exact hP, hD⟩⟩, hS.F ht⟩) hS.2.2 dX3_stepBack_58
    · refine zz_alda (v := (KRr 7)) hx hb hK hP 1 4 rfl rfl (zB_in (show zB 7 7 7 from ⟨by decide, by decide⟩) (by decide) (by decide)) (k_ME_kept 7 (by decide)) dX3_stepBack_45 ?_
      refine lv_iconst (v := 0) hx hb dX3_stepBack_46 (by decide) ?_
      refine lv_aload_n hx hb dX3_stepBack_47 rfl (lv_at hl 0 rfl) ?_
      refine va_get (D := D) (ci := 3) (v := .ref (aME 1)) (C := RX3) (T := TX3) (N := 9) hx hb hts iw_X3_stepBack_X3 hown hK hP 0 rfl rfl 1 (by decide) (hts (.fieldLink RX3 11 "SoldHouse$Memory" "now" "[I") (List.mem_of_getElem? (i := 5) rfl)) (fun _ h9 => h9) rfl dX3_stepBack_48 ?_
      refine lv_iconst (v := 0) hx hb dX3_stepBack_51 (by decide) ?_
      refine lv_bipush (v := 32) hx hb dX3_stepBack_52 (by decide) ?_
      refine zi_copy hx hb (by rw [hml]; exact hl.1.symm) hown (hts (.methodLink RX3 115 arraycopyName) (List.mem_of_getElem? (i := 6) rfl)) (hts (.native arraycopyName) (List.mem_of_getElem? (i := 7) rfl)) (hts (.static arraycopyName) (List.mem_of_getElem? (i := 8) rfl)) (hts (.initialized "java/lang/System") (List.mem_of_getElem? (i := 9) rfl)) hK hP hD hS 10 2 rfl rfl rfl (Nat.le_of_ble_eq_true rfl) (Nat.le_of_ble_eq_true rfl) dX3_stepBack_54 (fun H locs g54 e54 hP hD hS => ?_)
      have sg54 := zA_cpy e54 (w_KR 7 (by decide))
      replace hP : va_P D classes ([(ME, .inr (3, oX3 FL aME ME_oldest y15 y25)), ((aME 3), .inl (cG, 41, .inr (.inr (.inr (.inr ME_kept))))), ((aME 1), .inl (cI, 32, .inl g54))] ++ rw41 cI KRr KRf) H := hP
      replace hD : va_D A ([(ME, .inr (3, oX3 FL aME ME_oldest y15 y25)), ((aME 3), .inl (cG, 41, .inr (.inr (.inr (.inr ME_kept))))), ((aME 1), .inl (cI, 32, .inl g54))] ++ rw41 cI KRr KRf) := hD
      clear e54
      refine lv_iconst (v := 1) hx hb dX3_stepBack_57 (by decide) ?_
      exact W.zret (v := 1) (ty := .boolean) hx hb hr (by decide) (fun t ht hW => ⟨⟨1, (), rfl, (zB_w (show zB 1 1 1 from ⟨by decide, by decide⟩) (by decide) (by decide)), ⟨y15, y25, g54, by15, (zB_w by25 (by decide) (by decide)), sg54, (by have h9_0 := (by15).1; have h9_1 := (by15).2; have h9_2 := ry15; have h9_3 := (bn4t_ME_done).1; have h9_4 := (bn4t_ME_done).2; have h9_5 := (by25).1; have h9_6 := (by25).2; have h9_7 := ry25; have h9_8 := (bhk_ME_undone).1; have h9_9 := (bhk_ME_undone).2; have h9_10 := q_ME; omega), by rw [ht]; exact hP, hD⟩⟩, hS.F ht⟩) hS.2.2 dX3_stepBack_58
    · refine zz_alda (v := (KRr 8)) hx hb hK hP 1 4 rfl rfl (zB_in (show zB 8 8 8 from ⟨by decide, by decide⟩) (by decide) (by decide)) (k_ME_kept 8 (by decide)) dX3_stepBack_45 ?_
      refine lv_iconst (v := 0) hx hb dX3_stepBack_46 (by decide) ?_
      refine lv_aload_n hx hb dX3_stepBack_47 rfl (lv_at hl 0 rfl) ?_
      refine va_get (D := D) (ci := 3) (v := .ref (aME 1)) (C := RX3) (T := TX3) (N := 9) hx hb hts iw_X3_stepBack_X3 hown hK hP 0 rfl rfl 1 (by decide) (hts (.fieldLink RX3 11 "SoldHouse$Memory" "now" "[I") (List.mem_of_getElem? (i := 5) rfl)) (fun _ h9 => h9) rfl dX3_stepBack_48 ?_
      refine lv_iconst (v := 0) hx hb dX3_stepBack_51 (by decide) ?_
      refine lv_bipush (v := 32) hx hb dX3_stepBack_52 (by decide) ?_
      refine zi_copy hx hb (by rw [hml]; exact hl.1.symm) hown (hts (.methodLink RX3 115 arraycopyName) (List.mem_of_getElem? (i := 6) rfl)) (hts (.native arraycopyName) (List.mem_of_getElem? (i := 7) rfl)) (hts (.static arraycopyName) (List.mem_of_getElem? (i := 8) rfl)) (hts (.initialized "java/lang/System") (List.mem_of_getElem? (i := 9) rfl)) hK hP hD hS 11 2 rfl rfl rfl (Nat.le_of_ble_eq_true rfl) (Nat.le_of_ble_eq_true rfl) dX3_stepBack_54 (fun H locs g54 e54 hP hD hS => ?_)
      have sg54 := zA_cpy e54 (w_KR 8 (by decide))
      replace hP : va_P D classes ([(ME, .inr (3, oX3 FL aME ME_oldest y15 y25)), ((aME 3), .inl (cG, 41, .inr (.inr (.inr (.inr ME_kept))))), ((aME 1), .inl (cI, 32, .inl g54))] ++ rw41 cI KRr KRf) H := hP
      replace hD : va_D A ([(ME, .inr (3, oX3 FL aME ME_oldest y15 y25)), ((aME 3), .inl (cG, 41, .inr (.inr (.inr (.inr ME_kept))))), ((aME 1), .inl (cI, 32, .inl g54))] ++ rw41 cI KRr KRf) := hD
      clear e54
      refine lv_iconst (v := 1) hx hb dX3_stepBack_57 (by decide) ?_
      exact W.zret (v := 1) (ty := .boolean) hx hb hr (by decide) (fun t ht hW => ⟨⟨1, (), rfl, (zB_w (show zB 1 1 1 from ⟨by decide, by decide⟩) (by decide) (by decide)), ⟨y15, y25, g54, by15, (zB_w by25 (by decide) (by decide)), sg54, (by have h9_0 := (by15).1; have h9_1 := (by15).2; have h9_2 := ry15; have h9_3 := (bn4t_ME_done).1; have h9_4 := (bn4t_ME_done).2; have h9_5 := (by25).1; have h9_6 := (by25).2; have h9_7 := ry25; have h9_8 := (bhk_ME_undone).1; have h9_9 := (bhk_ME_undone).2; have h9_10 := q_ME; omega), by rw [ht]; exact hP, hD⟩⟩, hS.F ht⟩) hS.2.2 dX3_stepBack_58
    · refine zz_alda (v := (KRr 9)) hx hb hK hP 1 4 rfl rfl (zB_in (show zB 9 9 9 from ⟨by decide, by decide⟩) (by decide) (by decide)) (k_ME_kept 9 (by decide)) dX3_stepBack_45 ?_
      refine lv_iconst (v := 0) hx hb dX3_stepBack_46 (by decide) ?_
      refine lv_aload_n hx hb dX3_stepBack_47 rfl (lv_at hl 0 rfl) ?_
      refine va_get (D := D) (ci := 3) (v := .ref (aME 1)) (C := RX3) (T := TX3) (N := 9) hx hb hts iw_X3_stepBack_X3 hown hK hP 0 rfl rfl 1 (by decide) (hts (.fieldLink RX3 11 "SoldHouse$Memory" "now" "[I") (List.mem_of_getElem? (i := 5) rfl)) (fun _ h9 => h9) rfl dX3_stepBack_48 ?_
      refine lv_iconst (v := 0) hx hb dX3_stepBack_51 (by decide) ?_
      refine lv_bipush (v := 32) hx hb dX3_stepBack_52 (by decide) ?_
      refine zi_copy hx hb (by rw [hml]; exact hl.1.symm) hown (hts (.methodLink RX3 115 arraycopyName) (List.mem_of_getElem? (i := 6) rfl)) (hts (.native arraycopyName) (List.mem_of_getElem? (i := 7) rfl)) (hts (.static arraycopyName) (List.mem_of_getElem? (i := 8) rfl)) (hts (.initialized "java/lang/System") (List.mem_of_getElem? (i := 9) rfl)) hK hP hD hS 12 2 rfl rfl rfl (Nat.le_of_ble_eq_true rfl) (Nat.le_of_ble_eq_true rfl) dX3_stepBack_54 (fun H locs g54 e54 hP hD hS => ?_)
      have sg54 := zA_cpy e54 (w_KR 9 (by decide))
      replace hP : va_P D classes ([(ME, .inr (3, oX3 FL aME ME_oldest y15 y25)), ((aME 3), .inl (cG, 41, .inr (.inr (.inr (.inr ME_kept))))), ((aME 1), .inl (cI, 32, .inl g54))] ++ rw41 cI KRr KRf) H := hP
      replace hD : va_D A ([(ME, .inr (3, oX3 FL aME ME_oldest y15 y25)), ((aME 3), .inl (cG, 41, .inr (.inr (.inr (.inr ME_kept))))), ((aME 1), .inl (cI, 32, .inl g54))] ++ rw41 cI KRr KRf) := hD
      clear e54
      refine lv_iconst (v := 1) hx hb dX3_stepBack_57 (by decide) ?_
      exact W.zret (v := 1) (ty := .boolean) hx hb hr (by decide) (fun t ht hW => ⟨⟨1, (), rfl, (zB_w (show zB 1 1 1 from ⟨by decide, by decide⟩) (by decide) (by decide)), ⟨y15, y25, g54, by15, (zB_w by25 (by decide) (by decide)), sg54, (by have h9_0 := (by15).1; have h9_1 := (by15).2; have h9_2 := ry15; have h9_3 := (bn4t_ME_done).1; have h9_4 := (bn4t_ME_done).2; have h9_5 := (by25).1; have h9_6 := (by25).2; have h9_7 := ry25; have h9_8 := (bhk_ME_undone).1; have h9_9 := (bhk_ME_undone).2; have h9_10 := q_ME; omega), by rw [ht]; exact hP, hD⟩⟩, hS.F ht⟩) hS.2.2 dX3_stepBack_58
    · refine zz_alda (v := (KRr 10)) hx hb hK hP 1 4 rfl rfl (zB_in (show zB 10 10 10 from ⟨by decide, by decide⟩) (by decide) (by decide)) (k_ME_kept 10 (by decide)) dX3_stepBack_45 ?_
      refine lv_iconst (v := 0) hx hb dX3_stepBack_46 (by decide) ?_
      refine lv_aload_n hx hb dX3_stepBack_47 rfl (lv_at hl 0 rfl) ?_
      refine va_get (D := D) (ci := 3) (v := .ref (aME 1)) (C := RX3) (T := TX3) (N := 9) hx hb hts iw_X3_stepBack_X3 hown hK hP 0 rfl rfl 1 (by decide) (hts (.fieldLink RX3 11 "SoldHouse$Memory" "now" "[I") (List.mem_of_getElem? (i := 5) rfl)) (fun _ h9 => h9) rfl dX3_stepBack_48 ?_
      refine lv_iconst (v := 0) hx hb dX3_stepBack_51 (by decide) ?_
      refine lv_bipush (v := 32) hx hb dX3_stepBack_52 (by decide) ?_
      refine zi_copy hx hb (by rw [hml]; exact hl.1.symm) hown (hts (.methodLink RX3 115 arraycopyName) (List.mem_of_getElem? (i := 6) rfl)) (hts (.native arraycopyName) (List.mem_of_getElem? (i := 7) rfl)) (hts (.static arraycopyName) (List.mem_of_getElem? (i := 8) rfl)) (hts (.initialized "java/lang/System") (List.mem_of_getElem? (i := 9) rfl)) hK hP hD hS 13 2 rfl rfl rfl (Nat.le_of_ble_eq_true rfl) (Nat.le_of_ble_eq_true rfl) dX3_stepBack_54 (fun H locs g54 e54 hP hD hS => ?_)
      have sg54 := zA_cpy e54 (w_KR 10 (by decide))
      replace hP : va_P D classes ([(ME, .inr (3, oX3 FL aME ME_oldest y15 y25)), ((aME 3), .inl (cG, 41, .inr (.inr (.inr (.inr ME_kept))))), ((aME 1), .inl (cI, 32, .inl g54))] ++ rw41 cI KRr KRf) H := hP
      replace hD : va_D A ([(ME, .inr (3, oX3 FL aME ME_oldest y15 y25)), ((aME 3), .inl (cG, 41, .inr (.inr (.inr (.inr ME_kept))))), ((aME 1), .inl (cI, 32, .inl g54))] ++ rw41 cI KRr KRf) := hD
      clear e54
      refine lv_iconst (v := 1) hx hb dX3_stepBack_57 (by decide) ?_
      exact W.zret (v := 1) (ty := .boolean) hx hb hr (by decide) (fun t ht hW => ⟨⟨1, (), rfl, (zB_w (show zB 1 1 1 from ⟨by decide, by decide⟩) (by decide) (by decide)), ⟨y15, y25, g54, by15, (zB_w by25 (by decide) (by decide)), sg54, (by have h9_0 := (by15).1; have h9_1 := (by15).2; have h9_2 := ry15; have h9_3 := (bn4t_ME_done).1; have h9_4 := (bn4t_ME_done).2; have h9_5 := (by25).1; have h9_6 := (by25).2; have h9_7 := ry25; have h9_8 := (bhk_ME_undone).1; have h9_9 := (bhk_ME_undone).2; have h9_10 := q_ME; omega), by rw [ht]; exact hP, hD⟩⟩, hS.F ht⟩) hS.2.2 dX3_stepBack_58
    · refine zz_alda (v := (KRr 11)) hx hb hK hP 1 4 rfl rfl (zB_in (show zB 11 11 11 from ⟨by decide, by decide⟩) (by decide) (by decide)) (k_ME_kept 11 (by decide)) dX3_stepBack_45 ?_
      refine lv_iconst (v := 0) hx hb dX3_stepBack_46 (by decide) ?_
      refine lv_aload_n hx hb dX3_stepBack_47 rfl (lv_at hl 0 rfl) ?_
      refine va_get (D := D) (ci := 3) (v := .ref (aME 1)) (C := RX3) (T := TX3) (N := 9) hx hb hts iw_X3_stepBack_X3 hown hK hP 0 rfl rfl 1 (by decide) (hts (.fieldLink RX3 11 "SoldHouse$Memory" "now" "[I") (List.mem_of_getElem? (i := 5) rfl)) (fun _ h9 => h9) rfl dX3_stepBack_48 ?_
      refine lv_iconst (v := 0) hx hb dX3_stepBack_51 (by decide) ?_
      refine lv_bipush (v := 32) hx hb dX3_stepBack_52 (by decide) ?_
      refine zi_copy hx hb (by rw [hml]; exact hl.1.symm) hown (hts (.methodLink RX3 115 arraycopyName) (List.mem_of_getElem? (i := 6) rfl)) (hts (.native arraycopyName) (List.mem_of_getElem? (i := 7) rfl)) (hts (.static arraycopyName) (List.mem_of_getElem? (i := 8) rfl)) (hts (.initialized "java/lang/System") (List.mem_of_getElem? (i := 9) rfl)) hK hP hD hS 14 2 rfl rfl rfl (Nat.le_of_ble_eq_true rfl) (Nat.le_of_ble_eq_true rfl) dX3_stepBack_54 (fun H locs g54 e54 hP hD hS => ?_)
      have sg54 := zA_cpy e54 (w_KR 11 (by decide))
      replace hP : va_P D classes ([(ME, .inr (3, oX3 FL aME ME_oldest y15 y25)), ((aME 3), .inl (cG, 41, .inr (.inr (.inr (.inr ME_kept))))), ((aME 1), .inl (cI, 32, .inl g54))] ++ rw41 cI KRr KRf) H := hP
      replace hD : va_D A ([(ME, .inr (3, oX3 FL aME ME_oldest y15 y25)), ((aME 3), .inl (cG, 41, .inr (.inr (.inr (.inr ME_kept))))), ((aME 1), .inl (cI, 32, .inl g54))] ++ rw41 cI KRr KRf) := hD
      clear e54
      refine lv_iconst (v := 1) hx hb dX3_stepBack_57 (by decide) ?_
      exact W.zret (v := 1) (ty := .boolean) hx hb hr (by decide) (fun t ht hW => ⟨⟨1, (), rfl, (zB_w (show zB 1 1 1 from ⟨by decide, by decide⟩) (by decide) (by decide)), ⟨y15, y25, g54, by15, (zB_w by25 (by decide) (by decide)), sg54, (by have h9_0 := (by15).1; have h9_1 := (by15).2; have h9_2 := ry15; have h9_3 := (bn4t_ME_done).1; have h9_4 := (bn4t_ME_done).2; have h9_5 := (by25).1; have h9_6 := (by25).2; have h9_7 := ry25; have h9_8 := (bhk_ME_undone).1; have h9_9 := (bhk_ME_undone).2; have h9_10 := q_ME; omega), by rw [ht]; exact hP, hD⟩⟩, hS.F ht⟩) hS.2.2 dX3_stepBack_58
    · refine zz_alda (v := (KRr 12)) hx hb hK hP 1 4 rfl rfl (zB_in (show zB 12 12 12 from ⟨by decide, by decide⟩) (by decide) (by decide)) (k_ME_kept 12 (by decide)) dX3_stepBack_45 ?_
      refine lv_iconst (v := 0) hx hb dX3_stepBack_46 (by decide) ?_
      refine lv_aload_n hx hb dX3_stepBack_47 rfl (lv_at hl 0 rfl) ?_
      refine va_get (D := D) (ci := 3) (v := .ref (aME 1)) (C := RX3) (T := TX3) (N := 9) hx hb hts iw_X3_stepBack_X3 hown hK hP 0 rfl rfl 1 (by decide) (hts (.fieldLink RX3 11 "SoldHouse$Memory" "now" "[I") (List.mem_of_getElem? (i := 5) rfl)) (fun _ h9 => h9) rfl dX3_stepBack_48 ?_
      refine lv_iconst (v := 0) hx hb dX3_stepBack_51 (by decide) ?_
      refine lv_bipush (v := 32) hx hb dX3_stepBack_52 (by decide) ?_
      refine zi_copy hx hb (by rw [hml]; exact hl.1.symm) hown (hts (.methodLink RX3 115 arraycopyName) (List.mem_of_getElem? (i := 6) rfl)) (hts (.native arraycopyName) (List.mem_of_getElem? (i := 7) rfl)) (hts (.static arraycopyName) (List.mem_of_getElem? (i := 8) rfl)) (hts (.initialized "java/lang/System") (List.mem_of_getElem? (i := 9) rfl)) hK hP hD hS 15 2 rfl rfl rfl (Nat.le_of_ble_eq_true rfl) (Nat.le_of_ble_eq_true rfl) dX3_stepBack_54 (fun H locs g54 e54 hP hD hS => ?_)
      have sg54 := zA_cpy e54 (w_KR 12 (by decide))
      replace hP : va_P D classes ([(ME, .inr (3, oX3 FL aME ME_oldest y15 y25)), ((aME 3), .inl (cG, 41, .inr (.inr (.inr (.inr ME_kept))))), ((aME 1), .inl (cI, 32, .inl g54))] ++ rw41 cI KRr KRf) H := hP
      replace hD : va_D A ([(ME, .inr (3, oX3 FL aME ME_oldest y15 y25)), ((aME 3), .inl (cG, 41, .inr (.inr (.inr (.inr ME_kept))))), ((aME 1), .inl (cI, 32, .inl g54))] ++ rw41 cI KRr KRf) := hD
      clear e54
      refine lv_iconst (v := 1) hx hb dX3_stepBack_57 (by decide) ?_
      exact W.zret (v := 1) (ty := .boolean) hx hb hr (by decide) (fun t ht hW => ⟨⟨1, (), rfl, (zB_w (show zB 1 1 1 from ⟨by decide, by decide⟩) (by decide) (by decide)), ⟨y15, y25, g54, by15, (zB_w by25 (by decide) (by decide)), sg54, (by have h9_0 := (by15).1; have h9_1 := (by15).2; have h9_2 := ry15; have h9_3 := (bn4t_ME_done).1; have h9_4 := (bn4t_ME_done).2; have h9_5 := (by25).1; have h9_6 := (by25).2; have h9_7 := ry25; have h9_8 := (bhk_ME_undone).1; have h9_9 := (bhk_ME_undone).2; have h9_10 := q_ME; omega), by rw [ht]; exact hP, hD⟩⟩, hS.F ht⟩) hS.2.2 dX3_stepBack_58
    · refine zz_alda (v := (KRr 13)) hx hb hK hP 1 4 rfl rfl (zB_in (show zB 13 13 13 from ⟨by decide, by decide⟩) (by decide) (by decide)) (k_ME_kept 13 (by decide)) dX3_stepBack_45 ?_
      refine lv_iconst (v := 0) hx hb dX3_stepBack_46 (by decide) ?_
      refine lv_aload_n hx hb dX3_stepBack_47 rfl (lv_at hl 0 rfl) ?_
      refine va_get (D := D) (ci := 3) (v := .ref (aME 1)) (C := RX3) (T := TX3) (N := 9) hx hb hts iw_X3_stepBack_X3 hown hK hP 0 rfl rfl 1 (by decide) (hts (.fieldLink RX3 11 "SoldHouse$Memory" "now" "[I") (List.mem_of_getElem? (i := 5) rfl)) (fun _ h9 => h9) rfl dX3_stepBack_48 ?_
      refine lv_iconst (v := 0) hx hb dX3_stepBack_51 (by decide) ?_
      refine lv_bipush (v := 32) hx hb dX3_stepBack_52 (by decide) ?_
      refine zi_copy hx hb (by rw [hml]; exact hl.1.symm) hown (hts (.methodLink RX3 115 arraycopyName) (List.mem_of_getElem? (i := 6) rfl)) (hts (.native arraycopyName) (List.mem_of_getElem? (i := 7) rfl)) (hts (.static arraycopyName) (List.mem_of_getElem? (i := 8) rfl)) (hts (.initialized "java/lang/System") (List.mem_of_getElem? (i := 9) rfl)) hK hP hD hS 16 2 rfl rfl rfl (Nat.le_of_ble_eq_true rfl) (Nat.le_of_ble_eq_true rfl) dX3_stepBack_54 (fun H locs g54 e54 hP hD hS => ?_)
      have sg54 := zA_cpy e54 (w_KR 13 (by decide))
      replace hP : va_P D classes ([(ME, .inr (3, oX3 FL aME ME_oldest y15 y25)), ((aME 3), .inl (cG, 41, .inr (.inr (.inr (.inr ME_kept))))), ((aME 1), .inl (cI, 32, .inl g54))] ++ rw41 cI KRr KRf) H := hP
      replace hD : va_D A ([(ME, .inr (3, oX3 FL aME ME_oldest y15 y25)), ((aME 3), .inl (cG, 41, .inr (.inr (.inr (.inr ME_kept))))), ((aME 1), .inl (cI, 32, .inl g54))] ++ rw41 cI KRr KRf) := hD
      clear e54
      refine lv_iconst (v := 1) hx hb dX3_stepBack_57 (by decide) ?_
      exact W.zret (v := 1) (ty := .boolean) hx hb hr (by decide) (fun t ht hW => ⟨⟨1, (), rfl, (zB_w (show zB 1 1 1 from ⟨by decide, by decide⟩) (by decide) (by decide)), ⟨y15, y25, g54, by15, (zB_w by25 (by decide) (by decide)), sg54, (by have h9_0 := (by15).1; have h9_1 := (by15).2; have h9_2 := ry15; have h9_3 := (bn4t_ME_done).1; have h9_4 := (bn4t_ME_done).2; have h9_5 := (by25).1; have h9_6 := (by25).2; have h9_7 := ry25; have h9_8 := (bhk_ME_undone).1; have h9_9 := (bhk_ME_undone).2; have h9_10 := q_ME; omega), by rw [ht]; exact hP, hD⟩⟩, hS.F ht⟩) hS.2.2 dX3_stepBack_58
    · refine zz_alda (v := (KRr 14)) hx hb hK hP 1 4 rfl rfl (zB_in (show zB 14 14 14 from ⟨by decide, by decide⟩) (by decide) (by decide)) (k_ME_kept 14 (by decide)) dX3_stepBack_45 ?_
      refine lv_iconst (v := 0) hx hb dX3_stepBack_46 (by decide) ?_
      refine lv_aload_n hx hb dX3_stepBack_47 rfl (lv_at hl 0 rfl) ?_
      refine va_get (D := D) (ci := 3) (v := .ref (aME 1)) (C := RX3) (T := TX3) (N := 9) hx hb hts iw_X3_stepBack_X3 hown hK hP 0 rfl rfl 1 (by decide) (hts (.fieldLink RX3 11 "SoldHouse$Memory" "now" "[I") (List.mem_of_getElem? (i := 5) rfl)) (fun _ h9 => h9) rfl dX3_stepBack_48 ?_
      refine lv_iconst (v := 0) hx hb dX3_stepBack_51 (by decide) ?_
      refine lv_bipush (v := 32) hx hb dX3_stepBack_52 (by decide) ?_
      refine zi_copy hx hb (by rw [hml]; exact hl.1.symm) hown (hts (.methodLink RX3 115 arraycopyName) (List.mem_of_getElem? (i := 6) rfl)) (hts (.native arraycopyName) (List.mem_of_getElem? (i := 7) rfl)) (hts (.static arraycopyName) (List.mem_of_getElem? (i := 8) rfl)) (hts (.initialized "java/lang/System") (List.mem_of_getElem? (i := 9) rfl)) hK hP hD hS 17 2 rfl rfl rfl (Nat.le_of_ble_eq_true rfl) (Nat.le_of_ble_eq_true rfl) dX3_stepBack_54 (fun H locs g54 e54 hP hD hS => ?_)
      have sg54 := zA_cpy e54 (w_KR 14 (by decide))
      replace hP : va_P D classes ([(ME, .inr (3, oX3 FL aME ME_oldest y15 y25)), ((aME 3), .inl (cG, 41, .inr (.inr (.inr (.inr ME_kept))))), ((aME 1), .inl (cI, 32, .inl g54))] ++ rw41 cI KRr KRf) H := hP
      replace hD : va_D A ([(ME, .inr (3, oX3 FL aME ME_oldest y15 y25)), ((aME 3), .inl (cG, 41, .inr (.inr (.inr (.inr ME_kept))))), ((aME 1), .inl (cI, 32, .inl g54))] ++ rw41 cI KRr KRf) := hD
      clear e54
      refine lv_iconst (v := 1) hx hb dX3_stepBack_57 (by decide) ?_
      exact W.zret (v := 1) (ty := .boolean) hx hb hr (by decide) (fun t ht hW => ⟨⟨1, (), rfl, (zB_w (show zB 1 1 1 from ⟨by decide, by decide⟩) (by decide) (by decide)), ⟨y15, y25, g54, by15, (zB_w by25 (by decide) (by decide)), sg54, (by have h9_0 := (by15).1; have h9_1 := (by15).2; have h9_2 := ry15; have h9_3 := (bn4t_ME_done).1; have h9_4 := (bn4t_ME_done).2; have h9_5 := (by25).1; have h9_6 := (by25).2; have h9_7 := ry25; have h9_8 := (bhk_ME_undone).1; have h9_9 := (bhk_ME_undone).2; have h9_10 := q_ME; omega), by rw [ht]; exact hP, hD⟩⟩, hS.F ht⟩) hS.2.2 dX3_stepBack_58
    · refine zz_alda (v := (KRr 15)) hx hb hK hP 1 4 rfl rfl (zB_in (show zB 15 15 15 from ⟨by decide, by decide⟩) (by decide) (by decide)) (k_ME_kept 15 (by decide)) dX3_stepBack_45 ?_
      refine lv_iconst (v := 0) hx hb dX3_stepBack_46 (by decide) ?_
      refine lv_aload_n hx hb dX3_stepBack_47 rfl (lv_at hl 0 rfl) ?_
      refine va_get (D := D) (ci := 3) (v := .ref (aME 1)) (C := RX3) (T := TX3) (N := 9) hx hb hts iw_X3_stepBack_X3 hown hK hP 0 rfl rfl 1 (by decide) (hts (.fieldLink RX3 11 "SoldHouse$Memory" "now" "[I") (List.mem_of_getElem? (i := 5) rfl)) (fun _ h9 => h9) rfl dX3_stepBack_48 ?_
      refine lv_iconst (v := 0) hx hb dX3_stepBack_51 (by decide) ?_
      refine lv_bipush (v := 32) hx hb dX3_stepBack_52 (by decide) ?_
      refine zi_copy hx hb (by rw [hml]; exact hl.1.symm) hown (hts (.methodLink RX3 115 arraycopyName) (List.mem_of_getElem? (i := 6) rfl)) (hts (.native arraycopyName) (List.mem_of_getElem? (i := 7) rfl)) (hts (.static arraycopyName) (List.mem_of_getElem? (i := 8) rfl)) (hts (.initialized "java/lang/System") (List.mem_of_getElem? (i := 9) rfl)) hK hP hD hS 18 2 rfl rfl rfl (Nat.le_of_ble_eq_true rfl) (Nat.le_of_ble_eq_true rfl) dX3_stepBack_54 (fun H locs g54 e54 hP hD hS => ?_)
      have sg54 := zA_cpy e54 (w_KR 15 (by decide))
      replace hP : va_P D classes ([(ME, .inr (3, oX3 FL aME ME_oldest y15 y25)), ((aME 3), .inl (cG, 41, .inr (.inr (.inr (.inr ME_kept))))), ((aME 1), .inl (cI, 32, .inl g54))] ++ rw41 cI KRr KRf) H := hP
      replace hD : va_D A ([(ME, .inr (3, oX3 FL aME ME_oldest y15 y25)), ((aME 3), .inl (cG, 41, .inr (.inr (.inr (.inr ME_kept))))), ((aME 1), .inl (cI, 32, .inl g54))] ++ rw41 cI KRr KRf) := hD
      clear e54
      refine lv_iconst (v := 1) hx hb dX3_stepBack_57 (by decide) ?_
      exact W.zret (v := 1) (ty := .boolean) hx hb hr (by decide) (fun t ht hW => ⟨⟨1, (), rfl, (zB_w (show zB 1 1 1 from ⟨by decide, by decide⟩) (by decide) (by decide)), ⟨y15, y25, g54, by15, (zB_w by25 (by decide) (by decide)), sg54, (by have h9_0 := (by15).1; have h9_1 := (by15).2; have h9_2 := ry15; have h9_3 := (bn4t_ME_done).1; have h9_4 := (bn4t_ME_done).2; have h9_5 := (by25).1; have h9_6 := (by25).2; have h9_7 := ry25; have h9_8 := (bhk_ME_undone).1; have h9_9 := (bhk_ME_undone).2; have h9_10 := q_ME; omega), by rw [ht]; exact hP, hD⟩⟩, hS.F ht⟩) hS.2.2 dX3_stepBack_58
    · refine zz_alda (v := (KRr 16)) hx hb hK hP 1 4 rfl rfl (zB_in (show zB 16 16 16 from ⟨by decide, by decide⟩) (by decide) (by decide)) (k_ME_kept 16 (by decide)) dX3_stepBack_45 ?_
      refine lv_iconst (v := 0) hx hb dX3_stepBack_46 (by decide) ?_
      refine lv_aload_n hx hb dX3_stepBack_47 rfl (lv_at hl 0 rfl) ?_
      refine va_get (D := D) (ci := 3) (v := .ref (aME 1)) (C := RX3) (T := TX3) (N := 9) hx hb hts iw_X3_stepBack_X3 hown hK hP 0 rfl rfl 1 (by decide) (hts (.fieldLink RX3 11 "SoldHouse$Memory" "now" "[I") (List.mem_of_getElem? (i := 5) rfl)) (fun _ h9 => h9) rfl dX3_stepBack_48 ?_
      refine lv_iconst (v := 0) hx hb dX3_stepBack_51 (by decide) ?_
      refine lv_bipush (v := 32) hx hb dX3_stepBack_52 (by decide) ?_
      refine zi_copy hx hb (by rw [hml]; exact hl.1.symm) hown (hts (.methodLink RX3 115 arraycopyName) (List.mem_of_getElem? (i := 6) rfl)) (hts (.native arraycopyName) (List.mem_of_getElem? (i := 7) rfl)) (hts (.static arraycopyName) (List.mem_of_getElem? (i := 8) rfl)) (hts (.initialized "java/lang/System") (List.mem_of_getElem? (i := 9) rfl)) hK hP hD hS 19 2 rfl rfl rfl (Nat.le_of_ble_eq_true rfl) (Nat.le_of_ble_eq_true rfl) dX3_stepBack_54 (fun H locs g54 e54 hP hD hS => ?_)
      have sg54 := zA_cpy e54 (w_KR 16 (by decide))
      replace hP : va_P D classes ([(ME, .inr (3, oX3 FL aME ME_oldest y15 y25)), ((aME 3), .inl (cG, 41, .inr (.inr (.inr (.inr ME_kept))))), ((aME 1), .inl (cI, 32, .inl g54))] ++ rw41 cI KRr KRf) H := hP
      replace hD : va_D A ([(ME, .inr (3, oX3 FL aME ME_oldest y15 y25)), ((aME 3), .inl (cG, 41, .inr (.inr (.inr (.inr ME_kept))))), ((aME 1), .inl (cI, 32, .inl g54))] ++ rw41 cI KRr KRf) := hD
      clear e54
      refine lv_iconst (v := 1) hx hb dX3_stepBack_57 (by decide) ?_
      exact W.zret (v := 1) (ty := .boolean) hx hb hr (by decide) (fun t ht hW => ⟨⟨1, (), rfl, (zB_w (show zB 1 1 1 from ⟨by decide, by decide⟩) (by decide) (by decide)), ⟨y15, y25, g54, by15, (zB_w by25 (by decide) (by decide)), sg54, (by have h9_0 := (by15).1; have h9_1 := (by15).2; have h9_2 := ry15; have h9_3 := (bn4t_ME_done).1; have h9_4 := (bn4t_ME_done).2; have h9_5 := (by25).1; have h9_6 := (by25).2; have h9_7 := ry25; have h9_8 := (bhk_ME_undone).1; have h9_9 := (bhk_ME_undone).2; have h9_10 := q_ME; omega), by rw [ht]; exact hP, hD⟩⟩, hS.F ht⟩) hS.2.2 dX3_stepBack_58
    · refine zz_alda (v := (KRr 17)) hx hb hK hP 1 4 rfl rfl (zB_in (show zB 17 17 17 from ⟨by decide, by decide⟩) (by decide) (by decide)) (k_ME_kept 17 (by decide)) dX3_stepBack_45 ?_
      refine lv_iconst (v := 0) hx hb dX3_stepBack_46 (by decide) ?_
      refine lv_aload_n hx hb dX3_stepBack_47 rfl (lv_at hl 0 rfl) ?_
      refine va_get (D := D) (ci := 3) (v := .ref (aME 1)) (C := RX3) (T := TX3) (N := 9) hx hb hts iw_X3_stepBack_X3 hown hK hP 0 rfl rfl 1 (by decide) (hts (.fieldLink RX3 11 "SoldHouse$Memory" "now" "[I") (List.mem_of_getElem? (i := 5) rfl)) (fun _ h9 => h9) rfl dX3_stepBack_48 ?_
      refine lv_iconst (v := 0) hx hb dX3_stepBack_51 (by decide) ?_
      refine lv_bipush (v := 32) hx hb dX3_stepBack_52 (by decide) ?_
      refine zi_copy hx hb (by rw [hml]; exact hl.1.symm) hown (hts (.methodLink RX3 115 arraycopyName) (List.mem_of_getElem? (i := 6) rfl)) (hts (.native arraycopyName) (List.mem_of_getElem? (i := 7) rfl)) (hts (.static arraycopyName) (List.mem_of_getElem? (i := 8) rfl)) (hts (.initialized "java/lang/System") (List.mem_of_getElem? (i := 9) rfl)) hK hP hD hS 20 2 rfl rfl rfl (Nat.le_of_ble_eq_true rfl) (Nat.le_of_ble_eq_true rfl) dX3_stepBack_54 (fun H locs g54 e54 hP hD hS => ?_)
      have sg54 := zA_cpy e54 (w_KR 17 (by decide))
      replace hP : va_P D classes ([(ME, .inr (3, oX3 FL aME ME_oldest y15 y25)), ((aME 3), .inl (cG, 41, .inr (.inr (.inr (.inr ME_kept))))), ((aME 1), .inl (cI, 32, .inl g54))] ++ rw41 cI KRr KRf) H := hP
      replace hD : va_D A ([(ME, .inr (3, oX3 FL aME ME_oldest y15 y25)), ((aME 3), .inl (cG, 41, .inr (.inr (.inr (.inr ME_kept))))), ((aME 1), .inl (cI, 32, .inl g54))] ++ rw41 cI KRr KRf) := hD
      clear e54
      refine lv_iconst (v := 1) hx hb dX3_stepBack_57 (by decide) ?_
      exact W.zret (v := 1) (ty := .boolean) hx hb hr (by decide) (fun t ht hW => ⟨⟨1, (), rfl, (zB_w (show zB 1 1 1 from ⟨by decide, by decide⟩) (by decide) (by decide)), ⟨y15, y25, g54, by15, (zB_w by25 (by decide) (by decide)), sg54, (by have h9_0 := (by15).1; have h9_1 := (by15).2; have h9_2 := ry15; have h9_3 := (bn4t_ME_done).1; have h9_4 := (bn4t_ME_done).2; have h9_5 := (by25).1; have h9_6 := (by25).2; have h9_7 := ry25; have h9_8 := (bhk_ME_undone).1; have h9_9 := (bhk_ME_undone).2; have h9_10 := q_ME; omega), by rw [ht]; exact hP, hD⟩⟩, hS.F ht⟩) hS.2.2 dX3_stepBack_58
    · refine zz_alda (v := (KRr 18)) hx hb hK hP 1 4 rfl rfl (zB_in (show zB 18 18 18 from ⟨by decide, by decide⟩) (by decide) (by decide)) (k_ME_kept 18 (by decide)) dX3_stepBack_45 ?_
      refine lv_iconst (v := 0) hx hb dX3_stepBack_46 (by decide) ?_
      refine lv_aload_n hx hb dX3_stepBack_47 rfl (lv_at hl 0 rfl) ?_
      refine va_get (D := D) (ci := 3) (v := .ref (aME 1)) (C := RX3) (T := TX3) (N := 9) hx hb hts iw_X3_stepBack_X3 hown hK hP 0 rfl rfl 1 (by decide) (hts (.fieldLink RX3 11 "SoldHouse$Memory" "now" "[I") (List.mem_of_getElem? (i := 5) rfl)) (fun _ h9 => h9) rfl dX3_stepBack_48 ?_
      refine lv_iconst (v := 0) hx hb dX3_stepBack_51 (by decide) ?_
      refine lv_bipush (v := 32) hx hb dX3_stepBack_52 (by decide) ?_
      refine zi_copy hx hb (by rw [hml]; exact hl.1.symm) hown (hts (.methodLink RX3 115 arraycopyName) (List.mem_of_getElem? (i := 6) rfl)) (hts (.native arraycopyName) (List.mem_of_getElem? (i := 7) rfl)) (hts (.static arraycopyName) (List.mem_of_getElem? (i := 8) rfl)) (hts (.initialized "java/lang/System") (List.mem_of_getElem? (i := 9) rfl)) hK hP hD hS 21 2 rfl rfl rfl (Nat.le_of_ble_eq_true rfl) (Nat.le_of_ble_eq_true rfl) dX3_stepBack_54 (fun H locs g54 e54 hP hD hS => ?_)
      have sg54 := zA_cpy e54 (w_KR 18 (by decide))
      replace hP : va_P D classes ([(ME, .inr (3, oX3 FL aME ME_oldest y15 y25)), ((aME 3), .inl (cG, 41, .inr (.inr (.inr (.inr ME_kept))))), ((aME 1), .inl (cI, 32, .inl g54))] ++ rw41 cI KRr KRf) H := hP
      replace hD : va_D A ([(ME, .inr (3, oX3 FL aME ME_oldest y15 y25)), ((aME 3), .inl (cG, 41, .inr (.inr (.inr (.inr ME_kept))))), ((aME 1), .inl (cI, 32, .inl g54))] ++ rw41 cI KRr KRf) := hD
      clear e54
      refine lv_iconst (v := 1) hx hb dX3_stepBack_57 (by decide) ?_
      exact W.zret (v := 1) (ty := .boolean) hx hb hr (by decide) (fun t ht hW => ⟨⟨1, (), rfl, (zB_w (show zB 1 1 1 from ⟨by decide, by decide⟩) (by decide) (by decide)), ⟨y15, y25, g54, by15, (zB_w by25 (by decide) (by decide)), sg54, (by have h9_0 := (by15).1; have h9_1 := (by15).2; have h9_2 := ry15; have h9_3 := (bn4t_ME_done).1; have h9_4 := (bn4t_ME_done).2; have h9_5 := (by25).1; have h9_6 := (by25).2; have h9_7 := ry25; have h9_8 := (bhk_ME_undone).1; have h9_9 := (bhk_ME_undone).2; have h9_10 := q_ME; omega), by rw [ht]; exact hP, hD⟩⟩, hS.F ht⟩) hS.2.2 dX3_stepBack_58
    · refine zz_alda (v := (KRr 19)) hx hb hK hP 1 4 rfl rfl (zB_in (show zB 19 19 19 from ⟨by decide, by decide⟩) (by decide) (by decide)) (k_ME_kept 19 (by decide)) dX3_stepBack_45 ?_
      refine lv_iconst (v := 0) hx hb dX3_stepBack_46 (by decide) ?_
      refine lv_aload_n hx hb dX3_stepBack_47 rfl (lv_at hl 0 rfl) ?_
      refine va_get (D := D) (ci := 3) (v := .ref (aME 1)) (C := RX3) (T := TX3) (N := 9) hx hb hts iw_X3_stepBack_X3 hown hK hP 0 rfl rfl 1 (by decide) (hts (.fieldLink RX3 11 "SoldHouse$Memory" "now" "[I") (List.mem_of_getElem? (i := 5) rfl)) (fun _ h9 => h9) rfl dX3_stepBack_48 ?_
      refine lv_iconst (v := 0) hx hb dX3_stepBack_51 (by decide) ?_
      refine lv_bipush (v := 32) hx hb dX3_stepBack_52 (by decide) ?_
      refine zi_copy hx hb (by rw [hml]; exact hl.1.symm) hown (hts (.methodLink RX3 115 arraycopyName) (List.mem_of_getElem? (i := 6) rfl)) (hts (.native arraycopyName) (List.mem_of_getElem? (i := 7) rfl)) (hts (.static arraycopyName) (List.mem_of_getElem? (i := 8) rfl)) (hts (.initialized "java/lang/System") (List.mem_of_getElem? (i := 9) rfl)) hK hP hD hS 22 2 rfl rfl rfl (Nat.le_of_ble_eq_true rfl) (Nat.le_of_ble_eq_true rfl) dX3_stepBack_54 (fun H locs g54 e54 hP hD hS => ?_)
      have sg54 := zA_cpy e54 (w_KR 19 (by decide))
      replace hP : va_P D classes ([(ME, .inr (3, oX3 FL aME ME_oldest y15 y25)), ((aME 3), .inl (cG, 41, .inr (.inr (.inr (.inr ME_kept))))), ((aME 1), .inl (cI, 32, .inl g54))] ++ rw41 cI KRr KRf) H := hP
      replace hD : va_D A ([(ME, .inr (3, oX3 FL aME ME_oldest y15 y25)), ((aME 3), .inl (cG, 41, .inr (.inr (.inr (.inr ME_kept))))), ((aME 1), .inl (cI, 32, .inl g54))] ++ rw41 cI KRr KRf) := hD
      clear e54
      refine lv_iconst (v := 1) hx hb dX3_stepBack_57 (by decide) ?_
      exact W.zret (v := 1) (ty := .boolean) hx hb hr (by decide) (fun t ht hW => ⟨⟨1, (), rfl, (zB_w (show zB 1 1 1 from ⟨by decide, by decide⟩) (by decide) (by decide)), ⟨y15, y25, g54, by15, (zB_w by25 (by decide) (by decide)), sg54, (by have h9_0 := (by15).1; have h9_1 := (by15).2; have h9_2 := ry15; have h9_3 := (bn4t_ME_done).1; have h9_4 := (bn4t_ME_done).2; have h9_5 := (by25).1; have h9_6 := (by25).2; have h9_7 := ry25; have h9_8 := (bhk_ME_undone).1; have h9_9 := (bhk_ME_undone).2; have h9_10 := q_ME; omega), by rw [ht]; exact hP, hD⟩⟩, hS.F ht⟩) hS.2.2 dX3_stepBack_58
    · refine zz_alda (v := (KRr 20)) hx hb hK hP 1 4 rfl rfl (zB_in (show zB 20 20 20 from ⟨by decide, by decide⟩) (by decide) (by decide)) (k_ME_kept 20 (by decide)) dX3_stepBack_45 ?_
      refine lv_iconst (v := 0) hx hb dX3_stepBack_46 (by decide) ?_
      refine lv_aload_n hx hb dX3_stepBack_47 rfl (lv_at hl 0 rfl) ?_
      refine va_get (D := D) (ci := 3) (v := .ref (aME 1)) (C := RX3) (T := TX3) (N := 9) hx hb hts iw_X3_stepBack_X3 hown hK hP 0 rfl rfl 1 (by decide) (hts (.fieldLink RX3 11 "SoldHouse$Memory" "now" "[I") (List.mem_of_getElem? (i := 5) rfl)) (fun _ h9 => h9) rfl dX3_stepBack_48 ?_
      refine lv_iconst (v := 0) hx hb dX3_stepBack_51 (by decide) ?_
      refine lv_bipush (v := 32) hx hb dX3_stepBack_52 (by decide) ?_
      refine zi_copy hx hb (by rw [hml]; exact hl.1.symm) hown (hts (.methodLink RX3 115 arraycopyName) (List.mem_of_getElem? (i := 6) rfl)) (hts (.native arraycopyName) (List.mem_of_getElem? (i := 7) rfl)) (hts (.static arraycopyName) (List.mem_of_getElem? (i := 8) rfl)) (hts (.initialized "java/lang/System") (List.mem_of_getElem? (i := 9) rfl)) hK hP hD hS 23 2 rfl rfl rfl (Nat.le_of_ble_eq_true rfl) (Nat.le_of_ble_eq_true rfl) dX3_stepBack_54 (fun H locs g54 e54 hP hD hS => ?_)
      have sg54 := zA_cpy e54 (w_KR 20 (by decide))
      replace hP : va_P D classes ([(ME, .inr (3, oX3 FL aME ME_oldest y15 y25)), ((aME 3), .inl (cG, 41, .inr (.inr (.inr (.inr ME_kept))))), ((aME 1), .inl (cI, 32, .inl g54))] ++ rw41 cI KRr KRf) H := hP
      replace hD : va_D A ([(ME, .inr (3, oX3 FL aME ME_oldest y15 y25)), ((aME 3), .inl (cG, 41, .inr (.inr (.inr (.inr ME_kept))))), ((aME 1), .inl (cI, 32, .inl g54))] ++ rw41 cI KRr KRf) := hD
      clear e54
      refine lv_iconst (v := 1) hx hb dX3_stepBack_57 (by decide) ?_
      exact W.zret (v := 1) (ty := .boolean) hx hb hr (by decide) (fun t ht hW => ⟨⟨1, (), rfl, (zB_w (show zB 1 1 1 from ⟨by decide, by decide⟩) (by decide) (by decide)), ⟨y15, y25, g54, by15, (zB_w by25 (by decide) (by decide)), sg54, (by have h9_0 := (by15).1; have h9_1 := (by15).2; have h9_2 := ry15; have h9_3 := (bn4t_ME_done).1; have h9_4 := (bn4t_ME_done).2; have h9_5 := (by25).1; have h9_6 := (by25).2; have h9_7 := ry25; have h9_8 := (bhk_ME_undone).1; have h9_9 := (bhk_ME_undone).2; have h9_10 := q_ME; omega), by rw [ht]; exact hP, hD⟩⟩, hS.F ht⟩) hS.2.2 dX3_stepBack_58
    · refine zz_alda (v := (KRr 21)) hx hb hK hP 1 4 rfl rfl (zB_in (show zB 21 21 21 from ⟨by decide, by decide⟩) (by decide) (by decide)) (k_ME_kept 21 (by decide)) dX3_stepBack_45 ?_
      refine lv_iconst (v := 0) hx hb dX3_stepBack_46 (by decide) ?_
      refine lv_aload_n hx hb dX3_stepBack_47 rfl (lv_at hl 0 rfl) ?_
      refine va_get (D := D) (ci := 3) (v := .ref (aME 1)) (C := RX3) (T := TX3) (N := 9) hx hb hts iw_X3_stepBack_X3 hown hK hP 0 rfl rfl 1 (by decide) (hts (.fieldLink RX3 11 "SoldHouse$Memory" "now" "[I") (List.mem_of_getElem? (i := 5) rfl)) (fun _ h9 => h9) rfl dX3_stepBack_48 ?_
      refine lv_iconst (v := 0) hx hb dX3_stepBack_51 (by decide) ?_
      refine lv_bipush (v := 32) hx hb dX3_stepBack_52 (by decide) ?_
      refine zi_copy hx hb (by rw [hml]; exact hl.1.symm) hown (hts (.methodLink RX3 115 arraycopyName) (List.mem_of_getElem? (i := 6) rfl)) (hts (.native arraycopyName) (List.mem_of_getElem? (i := 7) rfl)) (hts (.static arraycopyName) (List.mem_of_getElem? (i := 8) rfl)) (hts (.initialized "java/lang/System") (List.mem_of_getElem? (i := 9) rfl)) hK hP hD hS 24 2 rfl rfl rfl (Nat.le_of_ble_eq_true rfl) (Nat.le_of_ble_eq_true rfl) dX3_stepBack_54 (fun H locs g54 e54 hP hD hS => ?_)
      have sg54 := zA_cpy e54 (w_KR 21 (by decide))
      replace hP : va_P D classes ([(ME, .inr (3, oX3 FL aME ME_oldest y15 y25)), ((aME 3), .inl (cG, 41, .inr (.inr (.inr (.inr ME_kept))))), ((aME 1), .inl (cI, 32, .inl g54))] ++ rw41 cI KRr KRf) H := hP
      replace hD : va_D A ([(ME, .inr (3, oX3 FL aME ME_oldest y15 y25)), ((aME 3), .inl (cG, 41, .inr (.inr (.inr (.inr ME_kept))))), ((aME 1), .inl (cI, 32, .inl g54))] ++ rw41 cI KRr KRf) := hD
      clear e54
      refine lv_iconst (v := 1) hx hb dX3_stepBack_57 (by decide) ?_
      exact W.zret (v := 1) (ty := .boolean) hx hb hr (by decide) (fun t ht hW => ⟨⟨1, (), rfl, (zB_w (show zB 1 1 1 from ⟨by decide, by decide⟩) (by decide) (by decide)), ⟨y15, y25, g54, by15, (zB_w by25 (by decide) (by decide)), sg54, (by have h9_0 := (by15).1; have h9_1 := (by15).2; have h9_2 := ry15; have h9_3 := (bn4t_ME_done).1; have h9_4 := (bn4t_ME_done).2; have h9_5 := (by25).1; have h9_6 := (by25).2; have h9_7 := ry25; have h9_8 := (bhk_ME_undone).1; have h9_9 := (bhk_ME_undone).2; have h9_10 := q_ME; omega), by rw [ht]; exact hP, hD⟩⟩, hS.F ht⟩) hS.2.2 dX3_stepBack_58
    · refine zz_alda (v := (KRr 22)) hx hb hK hP 1 4 rfl rfl (zB_in (show zB 22 22 22 from ⟨by decide, by decide⟩) (by decide) (by decide)) (k_ME_kept 22 (by decide)) dX3_stepBack_45 ?_
      refine lv_iconst (v := 0) hx hb dX3_stepBack_46 (by decide) ?_
      refine lv_aload_n hx hb dX3_stepBack_47 rfl (lv_at hl 0 rfl) ?_
      refine va_get (D := D) (ci := 3) (v := .ref (aME 1)) (C := RX3) (T := TX3) (N := 9) hx hb hts iw_X3_stepBack_X3 hown hK hP 0 rfl rfl 1 (by decide) (hts (.fieldLink RX3 11 "SoldHouse$Memory" "now" "[I") (List.mem_of_getElem? (i := 5) rfl)) (fun _ h9 => h9) rfl dX3_stepBack_48 ?_
      refine lv_iconst (v := 0) hx hb dX3_stepBack_51 (by decide) ?_
      refine lv_bipush (v := 32) hx hb dX3_stepBack_52 (by decide) ?_
      refine zi_copy hx hb (by rw [hml]; exact hl.1.symm) hown (hts (.methodLink RX3 115 arraycopyName) (List.mem_of_getElem? (i := 6) rfl)) (hts (.native arraycopyName) (List.mem_of_getElem? (i := 7) rfl)) (hts (.static arraycopyName) (List.mem_of_getElem? (i := 8) rfl)) (hts (.initialized "java/lang/System") (List.mem_of_getElem? (i := 9) rfl)) hK hP hD hS 25 2 rfl rfl rfl (Nat.le_of_ble_eq_true rfl) (Nat.le_of_ble_eq_true rfl) dX3_stepBack_54 (fun H locs g54 e54 hP hD hS => ?_)
      have sg54 := zA_cpy e54 (w_KR 22 (by decide))
      replace hP : va_P D classes ([(ME, .inr (3, oX3 FL aME ME_oldest y15 y25)), ((aME 3), .inl (cG, 41, .inr (.inr (.inr (.inr ME_kept))))), ((aME 1), .inl (cI, 32, .inl g54))] ++ rw41 cI KRr KRf) H := hP
      replace hD : va_D A ([(ME, .inr (3, oX3 FL aME ME_oldest y15 y25)), ((aME 3), .inl (cG, 41, .inr (.inr (.inr (.inr ME_kept))))), ((aME 1), .inl (cI, 32, .inl g54))] ++ rw41 cI KRr KRf) := hD
      clear e54
      refine lv_iconst (v := 1) hx hb dX3_stepBack_57 (by decide) ?_
      exact W.zret (v := 1) (ty := .boolean) hx hb hr (by decide) (fun t ht hW => ⟨⟨1, (), rfl, (zB_w (show zB 1 1 1 from ⟨by decide, by decide⟩) (by decide) (by decide)), ⟨y15, y25, g54, by15, (zB_w by25 (by decide) (by decide)), sg54, (by have h9_0 := (by15).1; have h9_1 := (by15).2; have h9_2 := ry15; have h9_3 := (bn4t_ME_done).1; have h9_4 := (bn4t_ME_done).2; have h9_5 := (by25).1; have h9_6 := (by25).2; have h9_7 := ry25; have h9_8 := (bhk_ME_undone).1; have h9_9 := (bhk_ME_undone).2; have h9_10 := q_ME; omega), by rw [ht]; exact hP, hD⟩⟩, hS.F ht⟩) hS.2.2 dX3_stepBack_58
    · refine zz_alda (v := (KRr 23)) hx hb hK hP 1 4 rfl rfl (zB_in (show zB 23 23 23 from ⟨by decide, by decide⟩) (by decide) (by decide)) (k_ME_kept 23 (by decide)) dX3_stepBack_45 ?_
      refine lv_iconst (v := 0) hx hb dX3_stepBack_46 (by decide) ?_
      refine lv_aload_n hx hb dX3_stepBack_47 rfl (lv_at hl 0 rfl) ?_
      refine va_get (D := D) (ci := 3) (v := .ref (aME 1)) (C := RX3) (T := TX3) (N := 9) hx hb hts iw_X3_stepBack_X3 hown hK hP 0 rfl rfl 1 (by decide) (hts (.fieldLink RX3 11 "SoldHouse$Memory" "now" "[I") (List.mem_of_getElem? (i := 5) rfl)) (fun _ h9 => h9) rfl dX3_stepBack_48 ?_
      refine lv_iconst (v := 0) hx hb dX3_stepBack_51 (by decide) ?_
      refine lv_bipush (v := 32) hx hb dX3_stepBack_52 (by decide) ?_
      refine zi_copy hx hb (by rw [hml]; exact hl.1.symm) hown (hts (.methodLink RX3 115 arraycopyName) (List.mem_of_getElem? (i := 6) rfl)) (hts (.native arraycopyName) (List.mem_of_getElem? (i := 7) rfl)) (hts (.static arraycopyName) (List.mem_of_getElem? (i := 8) rfl)) (hts (.initialized "java/lang/System") (List.mem_of_getElem? (i := 9) rfl)) hK hP hD hS 26 2 rfl rfl rfl (Nat.le_of_ble_eq_true rfl) (Nat.le_of_ble_eq_true rfl) dX3_stepBack_54 (fun H locs g54 e54 hP hD hS => ?_)
      have sg54 := zA_cpy e54 (w_KR 23 (by decide))
      replace hP : va_P D classes ([(ME, .inr (3, oX3 FL aME ME_oldest y15 y25)), ((aME 3), .inl (cG, 41, .inr (.inr (.inr (.inr ME_kept))))), ((aME 1), .inl (cI, 32, .inl g54))] ++ rw41 cI KRr KRf) H := hP
      replace hD : va_D A ([(ME, .inr (3, oX3 FL aME ME_oldest y15 y25)), ((aME 3), .inl (cG, 41, .inr (.inr (.inr (.inr ME_kept))))), ((aME 1), .inl (cI, 32, .inl g54))] ++ rw41 cI KRr KRf) := hD
      clear e54
      refine lv_iconst (v := 1) hx hb dX3_stepBack_57 (by decide) ?_
      exact W.zret (v := 1) (ty := .boolean) hx hb hr (by decide) (fun t ht hW => ⟨⟨1, (), rfl, (zB_w (show zB 1 1 1 from ⟨by decide, by decide⟩) (by decide) (by decide)), ⟨y15, y25, g54, by15, (zB_w by25 (by decide) (by decide)), sg54, (by have h9_0 := (by15).1; have h9_1 := (by15).2; have h9_2 := ry15; have h9_3 := (bn4t_ME_done).1; have h9_4 := (bn4t_ME_done).2; have h9_5 := (by25).1; have h9_6 := (by25).2; have h9_7 := ry25; have h9_8 := (bhk_ME_undone).1; have h9_9 := (bhk_ME_undone).2; have h9_10 := q_ME; omega), by rw [ht]; exact hP, hD⟩⟩, hS.F ht⟩) hS.2.2 dX3_stepBack_58
    · refine zz_alda (v := (KRr 24)) hx hb hK hP 1 4 rfl rfl (zB_in (show zB 24 24 24 from ⟨by decide, by decide⟩) (by decide) (by decide)) (k_ME_kept 24 (by decide)) dX3_stepBack_45 ?_
      refine lv_iconst (v := 0) hx hb dX3_stepBack_46 (by decide) ?_
      refine lv_aload_n hx hb dX3_stepBack_47 rfl (lv_at hl 0 rfl) ?_
      refine va_get (D := D) (ci := 3) (v := .ref (aME 1)) (C := RX3) (T := TX3) (N := 9) hx hb hts iw_X3_stepBack_X3 hown hK hP 0 rfl rfl 1 (by decide) (hts (.fieldLink RX3 11 "SoldHouse$Memory" "now" "[I") (List.mem_of_getElem? (i := 5) rfl)) (fun _ h9 => h9) rfl dX3_stepBack_48 ?_
      refine lv_iconst (v := 0) hx hb dX3_stepBack_51 (by decide) ?_
      refine lv_bipush (v := 32) hx hb dX3_stepBack_52 (by decide) ?_
      refine zi_copy hx hb (by rw [hml]; exact hl.1.symm) hown (hts (.methodLink RX3 115 arraycopyName) (List.mem_of_getElem? (i := 6) rfl)) (hts (.native arraycopyName) (List.mem_of_getElem? (i := 7) rfl)) (hts (.static arraycopyName) (List.mem_of_getElem? (i := 8) rfl)) (hts (.initialized "java/lang/System") (List.mem_of_getElem? (i := 9) rfl)) hK hP hD hS 27 2 rfl rfl rfl (Nat.le_of_ble_eq_true rfl) (Nat.le_of_ble_eq_true rfl) dX3_stepBack_54 (fun H locs g54 e54 hP hD hS => ?_)
      have sg54 := zA_cpy e54 (w_KR 24 (by decide))
      replace hP : va_P D classes ([(ME, .inr (3, oX3 FL aME ME_oldest y15 y25)), ((aME 3), .inl (cG, 41, .inr (.inr (.inr (.inr ME_kept))))), ((aME 1), .inl (cI, 32, .inl g54))] ++ rw41 cI KRr KRf) H := hP
      replace hD : va_D A ([(ME, .inr (3, oX3 FL aME ME_oldest y15 y25)), ((aME 3), .inl (cG, 41, .inr (.inr (.inr (.inr ME_kept))))), ((aME 1), .inl (cI, 32, .inl g54))] ++ rw41 cI KRr KRf) := hD
      clear e54
      refine lv_iconst (v := 1) hx hb dX3_stepBack_57 (by decide) ?_
      exact W.zret (v := 1) (ty := .boolean) hx hb hr (by decide) (fun t ht hW => ⟨⟨1, (), rfl, (zB_w (show zB 1 1 1 from ⟨by decide, by decide⟩) (by decide) (by decide)), ⟨y15, y25, g54, by15, (zB_w by25 (by decide) (by decide)), sg54, (by have h9_0 := (by15).1; have h9_1 := (by15).2; have h9_2 := ry15; have h9_3 := (bn4t_ME_done).1; have h9_4 := (bn4t_ME_done).2; have h9_5 := (by25).1; have h9_6 := (by25).2; have h9_7 := ry25; have h9_8 := (bhk_ME_undone).1; have h9_9 := (bhk_ME_undone).2; have h9_10 := q_ME; omega), by rw [ht]; exact hP, hD⟩⟩, hS.F ht⟩) hS.2.2 dX3_stepBack_58
    · refine zz_alda (v := (KRr 25)) hx hb hK hP 1 4 rfl rfl (zB_in (show zB 25 25 25 from ⟨by decide, by decide⟩) (by decide) (by decide)) (k_ME_kept 25 (by decide)) dX3_stepBack_45 ?_
      refine lv_iconst (v := 0) hx hb dX3_stepBack_46 (by decide) ?_
      refine lv_aload_n hx hb dX3_stepBack_47 rfl (lv_at hl 0 rfl) ?_
      refine va_get (D := D) (ci := 3) (v := .ref (aME 1)) (C := RX3) (T := TX3) (N := 9) hx hb hts iw_X3_stepBack_X3 hown hK hP 0 rfl rfl 1 (by decide) (hts (.fieldLink RX3 11 "SoldHouse$Memory" "now" "[I") (List.mem_of_getElem? (i := 5) rfl)) (fun _ h9 => h9) rfl dX3_stepBack_48 ?_
      refine lv_iconst (v := 0) hx hb dX3_stepBack_51 (by decide) ?_
      refine lv_bipush (v := 32) hx hb dX3_stepBack_52 (by decide) ?_
      refine zi_copy hx hb (by rw [hml]; exact hl.1.symm) hown (hts (.methodLink RX3 115 arraycopyName) (List.mem_of_getElem? (i := 6) rfl)) (hts (.native arraycopyName) (List.mem_of_getElem? (i := 7) rfl)) (hts (.static arraycopyName) (List.mem_of_getElem? (i := 8) rfl)) (hts (.initialized "java/lang/System") (List.mem_of_getElem? (i := 9) rfl)) hK hP hD hS 28 2 rfl rfl rfl (Nat.le_of_ble_eq_true rfl) (Nat.le_of_ble_eq_true rfl) dX3_stepBack_54 (fun H locs g54 e54 hP hD hS => ?_)
      have sg54 := zA_cpy e54 (w_KR 25 (by decide))
      replace hP : va_P D classes ([(ME, .inr (3, oX3 FL aME ME_oldest y15 y25)), ((aME 3), .inl (cG, 41, .inr (.inr (.inr (.inr ME_kept))))), ((aME 1), .inl (cI, 32, .inl g54))] ++ rw41 cI KRr KRf) H := hP
      replace hD : va_D A ([(ME, .inr (3, oX3 FL aME ME_oldest y15 y25)), ((aME 3), .inl (cG, 41, .inr (.inr (.inr (.inr ME_kept))))), ((aME 1), .inl (cI, 32, .inl g54))] ++ rw41 cI KRr KRf) := hD
      clear e54
      refine lv_iconst (v := 1) hx hb dX3_stepBack_57 (by decide) ?_
      exact W.zret (v := 1) (ty := .boolean) hx hb hr (by decide) (fun t ht hW => ⟨⟨1, (), rfl, (zB_w (show zB 1 1 1 from ⟨by decide, by decide⟩) (by decide) (by decide)), ⟨y15, y25, g54, by15, (zB_w by25 (by decide) (by decide)), sg54, (by have h9_0 := (by15).1; have h9_1 := (by15).2; have h9_2 := ry15; have h9_3 := (bn4t_ME_done).1; have h9_4 := (bn4t_ME_done).2; have h9_5 := (by25).1; have h9_6 := (by25).2; have h9_7 := ry25; have h9_8 := (bhk_ME_undone).1; have h9_9 := (bhk_ME_undone).2; have h9_10 := q_ME; omega), by rw [ht]; exact hP, hD⟩⟩, hS.F ht⟩) hS.2.2 dX3_stepBack_58
    · refine zz_alda (v := (KRr 26)) hx hb hK hP 1 4 rfl rfl (zB_in (show zB 26 26 26 from ⟨by decide, by decide⟩) (by decide) (by decide)) (k_ME_kept 26 (by decide)) dX3_stepBack_45 ?_
      refine lv_iconst (v := 0) hx hb dX3_stepBack_46 (by decide) ?_
      refine lv_aload_n hx hb dX3_stepBack_47 rfl (lv_at hl 0 rfl) ?_
      refine va_get (D := D) (ci := 3) (v := .ref (aME 1)) (C := RX3) (T := TX3) (N := 9) hx hb hts iw_X3_stepBack_X3 hown hK hP 0 rfl rfl 1 (by decide) (hts (.fieldLink RX3 11 "SoldHouse$Memory" "now" "[I") (List.mem_of_getElem? (i := 5) rfl)) (fun _ h9 => h9) rfl dX3_stepBack_48 ?_
      refine lv_iconst (v := 0) hx hb dX3_stepBack_51 (by decide) ?_
      refine lv_bipush (v := 32) hx hb dX3_stepBack_52 (by decide) ?_
      refine zi_copy hx hb (by rw [hml]; exact hl.1.symm) hown (hts (.methodLink RX3 115 arraycopyName) (List.mem_of_getElem? (i := 6) rfl)) (hts (.native arraycopyName) (List.mem_of_getElem? (i := 7) rfl)) (hts (.static arraycopyName) (List.mem_of_getElem? (i := 8) rfl)) (hts (.initialized "java/lang/System") (List.mem_of_getElem? (i := 9) rfl)) hK hP hD hS 29 2 rfl rfl rfl (Nat.le_of_ble_eq_true rfl) (Nat.le_of_ble_eq_true rfl) dX3_stepBack_54 (fun H locs g54 e54 hP hD hS => ?_)
      have sg54 := zA_cpy e54 (w_KR 26 (by decide))
      replace hP : va_P D classes ([(ME, .inr (3, oX3 FL aME ME_oldest y15 y25)), ((aME 3), .inl (cG, 41, .inr (.inr (.inr (.inr ME_kept))))), ((aME 1), .inl (cI, 32, .inl g54))] ++ rw41 cI KRr KRf) H := hP
      replace hD : va_D A ([(ME, .inr (3, oX3 FL aME ME_oldest y15 y25)), ((aME 3), .inl (cG, 41, .inr (.inr (.inr (.inr ME_kept))))), ((aME 1), .inl (cI, 32, .inl g54))] ++ rw41 cI KRr KRf) := hD
      clear e54
      refine lv_iconst (v := 1) hx hb dX3_stepBack_57 (by decide) ?_
      exact W.zret (v := 1) (ty := .boolean) hx hb hr (by decide) (fun t ht hW => ⟨⟨1, (), rfl, (zB_w (show zB 1 1 1 from ⟨by decide, by decide⟩) (by decide) (by decide)), ⟨y15, y25, g54, by15, (zB_w by25 (by decide) (by decide)), sg54, (by have h9_0 := (by15).1; have h9_1 := (by15).2; have h9_2 := ry15; have h9_3 := (bn4t_ME_done).1; have h9_4 := (bn4t_ME_done).2; have h9_5 := (by25).1; have h9_6 := (by25).2; have h9_7 := ry25; have h9_8 := (bhk_ME_undone).1; have h9_9 := (bhk_ME_undone).2; have h9_10 := q_ME; omega), by rw [ht]; exact hP, hD⟩⟩, hS.F ht⟩) hS.2.2 dX3_stepBack_58
    · refine zz_alda (v := (KRr 27)) hx hb hK hP 1 4 rfl rfl (zB_in (show zB 27 27 27 from ⟨by decide, by decide⟩) (by decide) (by decide)) (k_ME_kept 27 (by decide)) dX3_stepBack_45 ?_
      refine lv_iconst (v := 0) hx hb dX3_stepBack_46 (by decide) ?_
      refine lv_aload_n hx hb dX3_stepBack_47 rfl (lv_at hl 0 rfl) ?_
      refine va_get (D := D) (ci := 3) (v := .ref (aME 1)) (C := RX3) (T := TX3) (N := 9) hx hb hts iw_X3_stepBack_X3 hown hK hP 0 rfl rfl 1 (by decide) (hts (.fieldLink RX3 11 "SoldHouse$Memory" "now" "[I") (List.mem_of_getElem? (i := 5) rfl)) (fun _ h9 => h9) rfl dX3_stepBack_48 ?_
      refine lv_iconst (v := 0) hx hb dX3_stepBack_51 (by decide) ?_
      refine lv_bipush (v := 32) hx hb dX3_stepBack_52 (by decide) ?_
      refine zi_copy hx hb (by rw [hml]; exact hl.1.symm) hown (hts (.methodLink RX3 115 arraycopyName) (List.mem_of_getElem? (i := 6) rfl)) (hts (.native arraycopyName) (List.mem_of_getElem? (i := 7) rfl)) (hts (.static arraycopyName) (List.mem_of_getElem? (i := 8) rfl)) (hts (.initialized "java/lang/System") (List.mem_of_getElem? (i := 9) rfl)) hK hP hD hS 30 2 rfl rfl rfl (Nat.le_of_ble_eq_true rfl) (Nat.le_of_ble_eq_true rfl) dX3_stepBack_54 (fun H locs g54 e54 hP hD hS => ?_)
      have sg54 := zA_cpy e54 (w_KR 27 (by decide))
      replace hP : va_P D classes ([(ME, .inr (3, oX3 FL aME ME_oldest y15 y25)), ((aME 3), .inl (cG, 41, .inr (.inr (.inr (.inr ME_kept))))), ((aME 1), .inl (cI, 32, .inl g54))] ++ rw41 cI KRr KRf) H := hP
      replace hD : va_D A ([(ME, .inr (3, oX3 FL aME ME_oldest y15 y25)), ((aME 3), .inl (cG, 41, .inr (.inr (.inr (.inr ME_kept))))), ((aME 1), .inl (cI, 32, .inl g54))] ++ rw41 cI KRr KRf) := hD
      clear e54
      refine lv_iconst (v := 1) hx hb dX3_stepBack_57 (by decide) ?_
      exact W.zret (v := 1) (ty := .boolean) hx hb hr (by decide) (fun t ht hW => ⟨⟨1, (), rfl, (zB_w (show zB 1 1 1 from ⟨by decide, by decide⟩) (by decide) (by decide)), ⟨y15, y25, g54, by15, (zB_w by25 (by decide) (by decide)), sg54, (by have h9_0 := (by15).1; have h9_1 := (by15).2; have h9_2 := ry15; have h9_3 := (bn4t_ME_done).1; have h9_4 := (bn4t_ME_done).2; have h9_5 := (by25).1; have h9_6 := (by25).2; have h9_7 := ry25; have h9_8 := (bhk_ME_undone).1; have h9_9 := (bhk_ME_undone).2; have h9_10 := q_ME; omega), by rw [ht]; exact hP, hD⟩⟩, hS.F ht⟩) hS.2.2 dX3_stepBack_58
    · refine zz_alda (v := (KRr 28)) hx hb hK hP 1 4 rfl rfl (zB_in (show zB 28 28 28 from ⟨by decide, by decide⟩) (by decide) (by decide)) (k_ME_kept 28 (by decide)) dX3_stepBack_45 ?_
      refine lv_iconst (v := 0) hx hb dX3_stepBack_46 (by decide) ?_
      refine lv_aload_n hx hb dX3_stepBack_47 rfl (lv_at hl 0 rfl) ?_
      refine va_get (D := D) (ci := 3) (v := .ref (aME 1)) (C := RX3) (T := TX3) (N := 9) hx hb hts iw_X3_stepBack_X3 hown hK hP 0 rfl rfl 1 (by decide) (hts (.fieldLink RX3 11 "SoldHouse$Memory" "now" "[I") (List.mem_of_getElem? (i := 5) rfl)) (fun _ h9 => h9) rfl dX3_stepBack_48 ?_
      refine lv_iconst (v := 0) hx hb dX3_stepBack_51 (by decide) ?_
      refine lv_bipush (v := 32) hx hb dX3_stepBack_52 (by decide) ?_
      refine zi_copy hx hb (by rw [hml]; exact hl.1.symm) hown (hts (.methodLink RX3 115 arraycopyName) (List.mem_of_getElem? (i := 6) rfl)) (hts (.native arraycopyName) (List.mem_of_getElem? (i := 7) rfl)) (hts (.static arraycopyName) (List.mem_of_getElem? (i := 8) rfl)) (hts (.initialized "java/lang/System") (List.mem_of_getElem? (i := 9) rfl)) hK hP hD hS 31 2 rfl rfl rfl (Nat.le_of_ble_eq_true rfl) (Nat.le_of_ble_eq_true rfl) dX3_stepBack_54 (fun H locs g54 e54 hP hD hS => ?_)
      have sg54 := zA_cpy e54 (w_KR 28 (by decide))
      replace hP : va_P D classes ([(ME, .inr (3, oX3 FL aME ME_oldest y15 y25)), ((aME 3), .inl (cG, 41, .inr (.inr (.inr (.inr ME_kept))))), ((aME 1), .inl (cI, 32, .inl g54))] ++ rw41 cI KRr KRf) H := hP
      replace hD : va_D A ([(ME, .inr (3, oX3 FL aME ME_oldest y15 y25)), ((aME 3), .inl (cG, 41, .inr (.inr (.inr (.inr ME_kept))))), ((aME 1), .inl (cI, 32, .inl g54))] ++ rw41 cI KRr KRf) := hD
      clear e54
      refine lv_iconst (v := 1) hx hb dX3_stepBack_57 (by decide) ?_
      exact W.zret (v := 1) (ty := .boolean) hx hb hr (by decide) (fun t ht hW => ⟨⟨1, (), rfl, (zB_w (show zB 1 1 1 from ⟨by decide, by decide⟩) (by decide) (by decide)), ⟨y15, y25, g54, by15, (zB_w by25 (by decide) (by decide)), sg54, (by have h9_0 := (by15).1; have h9_1 := (by15).2; have h9_2 := ry15; have h9_3 := (bn4t_ME_done).1; have h9_4 := (bn4t_ME_done).2; have h9_5 := (by25).1; have h9_6 := (by25).2; have h9_7 := ry25; have h9_8 := (bhk_ME_undone).1; have h9_9 := (bhk_ME_undone).2; have h9_10 := q_ME; omega), by rw [ht]; exact hP, hD⟩⟩, hS.F ht⟩) hS.2.2 dX3_stepBack_58
    · refine zz_alda (v := (KRr 29)) hx hb hK hP 1 4 rfl rfl (zB_in (show zB 29 29 29 from ⟨by decide, by decide⟩) (by decide) (by decide)) (k_ME_kept 29 (by decide)) dX3_stepBack_45 ?_
      refine lv_iconst (v := 0) hx hb dX3_stepBack_46 (by decide) ?_
      refine lv_aload_n hx hb dX3_stepBack_47 rfl (lv_at hl 0 rfl) ?_
      refine va_get (D := D) (ci := 3) (v := .ref (aME 1)) (C := RX3) (T := TX3) (N := 9) hx hb hts iw_X3_stepBack_X3 hown hK hP 0 rfl rfl 1 (by decide) (hts (.fieldLink RX3 11 "SoldHouse$Memory" "now" "[I") (List.mem_of_getElem? (i := 5) rfl)) (fun _ h9 => h9) rfl dX3_stepBack_48 ?_
      refine lv_iconst (v := 0) hx hb dX3_stepBack_51 (by decide) ?_
      refine lv_bipush (v := 32) hx hb dX3_stepBack_52 (by decide) ?_
      refine zi_copy hx hb (by rw [hml]; exact hl.1.symm) hown (hts (.methodLink RX3 115 arraycopyName) (List.mem_of_getElem? (i := 6) rfl)) (hts (.native arraycopyName) (List.mem_of_getElem? (i := 7) rfl)) (hts (.static arraycopyName) (List.mem_of_getElem? (i := 8) rfl)) (hts (.initialized "java/lang/System") (List.mem_of_getElem? (i := 9) rfl)) hK hP hD hS 32 2 rfl rfl rfl (Nat.le_of_ble_eq_true rfl) (Nat.le_of_ble_eq_true rfl) dX3_stepBack_54 (fun H locs g54 e54 hP hD hS => ?_)
      have sg54 := zA_cpy e54 (w_KR 29 (by decide))
      replace hP : va_P D classes ([(ME, .inr (3, oX3 FL aME ME_oldest y15 y25)), ((aME 3), .inl (cG, 41, .inr (.inr (.inr (.inr ME_kept))))), ((aME 1), .inl (cI, 32, .inl g54))] ++ rw41 cI KRr KRf) H := hP
      replace hD : va_D A ([(ME, .inr (3, oX3 FL aME ME_oldest y15 y25)), ((aME 3), .inl (cG, 41, .inr (.inr (.inr (.inr ME_kept))))), ((aME 1), .inl (cI, 32, .inl g54))] ++ rw41 cI KRr KRf) := hD
      clear e54
      refine lv_iconst (v := 1) hx hb dX3_stepBack_57 (by decide) ?_
      exact W.zret (v := 1) (ty := .boolean) hx hb hr (by decide) (fun t ht hW => ⟨⟨1, (), rfl, (zB_w (show zB 1 1 1 from ⟨by decide, by decide⟩) (by decide) (by decide)), ⟨y15, y25, g54, by15, (zB_w by25 (by decide) (by decide)), sg54, (by have h9_0 := (by15).1; have h9_1 := (by15).2; have h9_2 := ry15; have h9_3 := (bn4t_ME_done).1; have h9_4 := (bn4t_ME_done).2; have h9_5 := (by25).1; have h9_6 := (by25).2; have h9_7 := ry25; have h9_8 := (bhk_ME_undone).1; have h9_9 := (bhk_ME_undone).2; have h9_10 := q_ME; omega), by rw [ht]; exact hP, hD⟩⟩, hS.F ht⟩) hS.2.2 dX3_stepBack_58
    · refine zz_alda (v := (KRr 30)) hx hb hK hP 1 4 rfl rfl (zB_in (show zB 30 30 30 from ⟨by decide, by decide⟩) (by decide) (by decide)) (k_ME_kept 30 (by decide)) dX3_stepBack_45 ?_
      refine lv_iconst (v := 0) hx hb dX3_stepBack_46 (by decide) ?_
      refine lv_aload_n hx hb dX3_stepBack_47 rfl (lv_at hl 0 rfl) ?_
      refine va_get (D := D) (ci := 3) (v := .ref (aME 1)) (C := RX3) (T := TX3) (N := 9) hx hb hts iw_X3_stepBack_X3 hown hK hP 0 rfl rfl 1 (by decide) (hts (.fieldLink RX3 11 "SoldHouse$Memory" "now" "[I") (List.mem_of_getElem? (i := 5) rfl)) (fun _ h9 => h9) rfl dX3_stepBack_48 ?_
      refine lv_iconst (v := 0) hx hb dX3_stepBack_51 (by decide) ?_
      refine lv_bipush (v := 32) hx hb dX3_stepBack_52 (by decide) ?_
      refine zi_copy hx hb (by rw [hml]; exact hl.1.symm) hown (hts (.methodLink RX3 115 arraycopyName) (List.mem_of_getElem? (i := 6) rfl)) (hts (.native arraycopyName) (List.mem_of_getElem? (i := 7) rfl)) (hts (.static arraycopyName) (List.mem_of_getElem? (i := 8) rfl)) (hts (.initialized "java/lang/System") (List.mem_of_getElem? (i := 9) rfl)) hK hP hD hS 33 2 rfl rfl rfl (Nat.le_of_ble_eq_true rfl) (Nat.le_of_ble_eq_true rfl) dX3_stepBack_54 (fun H locs g54 e54 hP hD hS => ?_)
      have sg54 := zA_cpy e54 (w_KR 30 (by decide))
      replace hP : va_P D classes ([(ME, .inr (3, oX3 FL aME ME_oldest y15 y25)), ((aME 3), .inl (cG, 41, .inr (.inr (.inr (.inr ME_kept))))), ((aME 1), .inl (cI, 32, .inl g54))] ++ rw41 cI KRr KRf) H := hP
      replace hD : va_D A ([(ME, .inr (3, oX3 FL aME ME_oldest y15 y25)), ((aME 3), .inl (cG, 41, .inr (.inr (.inr (.inr ME_kept))))), ((aME 1), .inl (cI, 32, .inl g54))] ++ rw41 cI KRr KRf) := hD
      clear e54
      refine lv_iconst (v := 1) hx hb dX3_stepBack_57 (by decide) ?_
      exact W.zret (v := 1) (ty := .boolean) hx hb hr (by decide) (fun t ht hW => ⟨⟨1, (), rfl, (zB_w (show zB 1 1 1 from ⟨by decide, by decide⟩) (by decide) (by decide)), ⟨y15, y25, g54, by15, (zB_w by25 (by decide) (by decide)), sg54, (by have h9_0 := (by15).1; have h9_1 := (by15).2; have h9_2 := ry15; have h9_3 := (bn4t_ME_done).1; have h9_4 := (bn4t_ME_done).2; have h9_5 := (by25).1; have h9_6 := (by25).2; have h9_7 := ry25; have h9_8 := (bhk_ME_undone).1; have h9_9 := (bhk_ME_undone).2; have h9_10 := q_ME; omega), by rw [ht]; exact hP, hD⟩⟩, hS.F ht⟩) hS.2.2 dX3_stepBack_58
    · refine zz_alda (v := (KRr 31)) hx hb hK hP 1 4 rfl rfl (zB_in (show zB 31 31 31 from ⟨by decide, by decide⟩) (by decide) (by decide)) (k_ME_kept 31 (by decide)) dX3_stepBack_45 ?_
      refine lv_iconst (v := 0) hx hb dX3_stepBack_46 (by decide) ?_
      refine lv_aload_n hx hb dX3_stepBack_47 rfl (lv_at hl 0 rfl) ?_
      refine va_get (D := D) (ci := 3) (v := .ref (aME 1)) (C := RX3) (T := TX3) (N := 9) hx hb hts iw_X3_stepBack_X3 hown hK hP 0 rfl rfl 1 (by decide) (hts (.fieldLink RX3 11 "SoldHouse$Memory" "now" "[I") (List.mem_of_getElem? (i := 5) rfl)) (fun _ h9 => h9) rfl dX3_stepBack_48 ?_
      refine lv_iconst (v := 0) hx hb dX3_stepBack_51 (by decide) ?_
      refine lv_bipush (v := 32) hx hb dX3_stepBack_52 (by decide) ?_
      refine zi_copy hx hb (by rw [hml]; exact hl.1.symm) hown (hts (.methodLink RX3 115 arraycopyName) (List.mem_of_getElem? (i := 6) rfl)) (hts (.native arraycopyName) (List.mem_of_getElem? (i := 7) rfl)) (hts (.static arraycopyName) (List.mem_of_getElem? (i := 8) rfl)) (hts (.initialized "java/lang/System") (List.mem_of_getElem? (i := 9) rfl)) hK hP hD hS 34 2 rfl rfl rfl (Nat.le_of_ble_eq_true rfl) (Nat.le_of_ble_eq_true rfl) dX3_stepBack_54 (fun H locs g54 e54 hP hD hS => ?_)
      have sg54 := zA_cpy e54 (w_KR 31 (by decide))
      replace hP : va_P D classes ([(ME, .inr (3, oX3 FL aME ME_oldest y15 y25)), ((aME 3), .inl (cG, 41, .inr (.inr (.inr (.inr ME_kept))))), ((aME 1), .inl (cI, 32, .inl g54))] ++ rw41 cI KRr KRf) H := hP
      replace hD : va_D A ([(ME, .inr (3, oX3 FL aME ME_oldest y15 y25)), ((aME 3), .inl (cG, 41, .inr (.inr (.inr (.inr ME_kept))))), ((aME 1), .inl (cI, 32, .inl g54))] ++ rw41 cI KRr KRf) := hD
      clear e54
      refine lv_iconst (v := 1) hx hb dX3_stepBack_57 (by decide) ?_
      exact W.zret (v := 1) (ty := .boolean) hx hb hr (by decide) (fun t ht hW => ⟨⟨1, (), rfl, (zB_w (show zB 1 1 1 from ⟨by decide, by decide⟩) (by decide) (by decide)), ⟨y15, y25, g54, by15, (zB_w by25 (by decide) (by decide)), sg54, (by have h9_0 := (by15).1; have h9_1 := (by15).2; have h9_2 := ry15; have h9_3 := (bn4t_ME_done).1; have h9_4 := (bn4t_ME_done).2; have h9_5 := (by25).1; have h9_6 := (by25).2; have h9_7 := ry25; have h9_8 := (bhk_ME_undone).1; have h9_9 := (bhk_ME_undone).2; have h9_10 := q_ME; omega), by rw [ht]; exact hP, hD⟩⟩, hS.F ht⟩) hS.2.2 dX3_stepBack_58
    · refine zz_alda (v := (KRr 32)) hx hb hK hP 1 4 rfl rfl (zB_in (show zB 32 32 32 from ⟨by decide, by decide⟩) (by decide) (by decide)) (k_ME_kept 32 (by decide)) dX3_stepBack_45 ?_
      refine lv_iconst (v := 0) hx hb dX3_stepBack_46 (by decide) ?_
      refine lv_aload_n hx hb dX3_stepBack_47 rfl (lv_at hl 0 rfl) ?_
      refine va_get (D := D) (ci := 3) (v := .ref (aME 1)) (C := RX3) (T := TX3) (N := 9) hx hb hts iw_X3_stepBack_X3 hown hK hP 0 rfl rfl 1 (by decide) (hts (.fieldLink RX3 11 "SoldHouse$Memory" "now" "[I") (List.mem_of_getElem? (i := 5) rfl)) (fun _ h9 => h9) rfl dX3_stepBack_48 ?_
      refine lv_iconst (v := 0) hx hb dX3_stepBack_51 (by decide) ?_
      refine lv_bipush (v := 32) hx hb dX3_stepBack_52 (by decide) ?_
      refine zi_copy hx hb (by rw [hml]; exact hl.1.symm) hown (hts (.methodLink RX3 115 arraycopyName) (List.mem_of_getElem? (i := 6) rfl)) (hts (.native arraycopyName) (List.mem_of_getElem? (i := 7) rfl)) (hts (.static arraycopyName) (List.mem_of_getElem? (i := 8) rfl)) (hts (.initialized "java/lang/System") (List.mem_of_getElem? (i := 9) rfl)) hK hP hD hS 35 2 rfl rfl rfl (Nat.le_of_ble_eq_true rfl) (Nat.le_of_ble_eq_true rfl) dX3_stepBack_54 (fun H locs g54 e54 hP hD hS => ?_)
      have sg54 := zA_cpy e54 (w_KR 32 (by decide))
      replace hP : va_P D classes ([(ME, .inr (3, oX3 FL aME ME_oldest y15 y25)), ((aME 3), .inl (cG, 41, .inr (.inr (.inr (.inr ME_kept))))), ((aME 1), .inl (cI, 32, .inl g54))] ++ rw41 cI KRr KRf) H := hP
      replace hD : va_D A ([(ME, .inr (3, oX3 FL aME ME_oldest y15 y25)), ((aME 3), .inl (cG, 41, .inr (.inr (.inr (.inr ME_kept))))), ((aME 1), .inl (cI, 32, .inl g54))] ++ rw41 cI KRr KRf) := hD
      clear e54
      refine lv_iconst (v := 1) hx hb dX3_stepBack_57 (by decide) ?_
      exact W.zret (v := 1) (ty := .boolean) hx hb hr (by decide) (fun t ht hW => ⟨⟨1, (), rfl, (zB_w (show zB 1 1 1 from ⟨by decide, by decide⟩) (by decide) (by decide)), ⟨y15, y25, g54, by15, (zB_w by25 (by decide) (by decide)), sg54, (by have h9_0 := (by15).1; have h9_1 := (by15).2; have h9_2 := ry15; have h9_3 := (bn4t_ME_done).1; have h9_4 := (bn4t_ME_done).2; have h9_5 := (by25).1; have h9_6 := (by25).2; have h9_7 := ry25; have h9_8 := (bhk_ME_undone).1; have h9_9 := (bhk_ME_undone).2; have h9_10 := q_ME; omega), by rw [ht]; exact hP, hD⟩⟩, hS.F ht⟩) hS.2.2 dX3_stepBack_58
    · refine zz_alda (v := (KRr 33)) hx hb hK hP 1 4 rfl rfl (zB_in (show zB 33 33 33 from ⟨by decide, by decide⟩) (by decide) (by decide)) (k_ME_kept 33 (by decide)) dX3_stepBack_45 ?_
      refine lv_iconst (v := 0) hx hb dX3_stepBack_46 (by decide) ?_
      refine lv_aload_n hx hb dX3_stepBack_47 rfl (lv_at hl 0 rfl) ?_
      refine va_get (D := D) (ci := 3) (v := .ref (aME 1)) (C := RX3) (T := TX3) (N := 9) hx hb hts iw_X3_stepBack_X3 hown hK hP 0 rfl rfl 1 (by decide) (hts (.fieldLink RX3 11 "SoldHouse$Memory" "now" "[I") (List.mem_of_getElem? (i := 5) rfl)) (fun _ h9 => h9) rfl dX3_stepBack_48 ?_
      refine lv_iconst (v := 0) hx hb dX3_stepBack_51 (by decide) ?_
      refine lv_bipush (v := 32) hx hb dX3_stepBack_52 (by decide) ?_
      refine zi_copy hx hb (by rw [hml]; exact hl.1.symm) hown (hts (.methodLink RX3 115 arraycopyName) (List.mem_of_getElem? (i := 6) rfl)) (hts (.native arraycopyName) (List.mem_of_getElem? (i := 7) rfl)) (hts (.static arraycopyName) (List.mem_of_getElem? (i := 8) rfl)) (hts (.initialized "java/lang/System") (List.mem_of_getElem? (i := 9) rfl)) hK hP hD hS 36 2 rfl rfl rfl (Nat.le_of_ble_eq_true rfl) (Nat.le_of_ble_eq_true rfl) dX3_stepBack_54 (fun H locs g54 e54 hP hD hS => ?_)
      have sg54 := zA_cpy e54 (w_KR 33 (by decide))
      replace hP : va_P D classes ([(ME, .inr (3, oX3 FL aME ME_oldest y15 y25)), ((aME 3), .inl (cG, 41, .inr (.inr (.inr (.inr ME_kept))))), ((aME 1), .inl (cI, 32, .inl g54))] ++ rw41 cI KRr KRf) H := hP
      replace hD : va_D A ([(ME, .inr (3, oX3 FL aME ME_oldest y15 y25)), ((aME 3), .inl (cG, 41, .inr (.inr (.inr (.inr ME_kept))))), ((aME 1), .inl (cI, 32, .inl g54))] ++ rw41 cI KRr KRf) := hD
      clear e54
      refine lv_iconst (v := 1) hx hb dX3_stepBack_57 (by decide) ?_
      exact W.zret (v := 1) (ty := .boolean) hx hb hr (by decide) (fun t ht hW => ⟨⟨1, (), rfl, (zB_w (show zB 1 1 1 from ⟨by decide, by decide⟩) (by decide) (by decide)), ⟨y15, y25, g54, by15, (zB_w by25 (by decide) (by decide)), sg54, (by have h9_0 := (by15).1; have h9_1 := (by15).2; have h9_2 := ry15; have h9_3 := (bn4t_ME_done).1; have h9_4 := (bn4t_ME_done).2; have h9_5 := (by25).1; have h9_6 := (by25).2; have h9_7 := ry25; have h9_8 := (bhk_ME_undone).1; have h9_9 := (bhk_ME_undone).2; have h9_10 := q_ME; omega), by rw [ht]; exact hP, hD⟩⟩, hS.F ht⟩) hS.2.2 dX3_stepBack_58
    · refine zz_alda (v := (KRr 34)) hx hb hK hP 1 4 rfl rfl (zB_in (show zB 34 34 34 from ⟨by decide, by decide⟩) (by decide) (by decide)) (k_ME_kept 34 (by decide)) dX3_stepBack_45 ?_
      refine lv_iconst (v := 0) hx hb dX3_stepBack_46 (by decide) ?_
      refine lv_aload_n hx hb dX3_stepBack_47 rfl (lv_at hl 0 rfl) ?_
      refine va_get (D := D) (ci := 3) (v := .ref (aME 1)) (C := RX3) (T := TX3) (N := 9) hx hb hts iw_X3_stepBack_X3 hown hK hP 0 rfl rfl 1 (by decide) (hts (.fieldLink RX3 11 "SoldHouse$Memory" "now" "[I") (List.mem_of_getElem? (i := 5) rfl)) (fun _ h9 => h9) rfl dX3_stepBack_48 ?_
      refine lv_iconst (v := 0) hx hb dX3_stepBack_51 (by decide) ?_
      refine lv_bipush (v := 32) hx hb dX3_stepBack_52 (by decide) ?_
      refine zi_copy hx hb (by rw [hml]; exact hl.1.symm) hown (hts (.methodLink RX3 115 arraycopyName) (List.mem_of_getElem? (i := 6) rfl)) (hts (.native arraycopyName) (List.mem_of_getElem? (i := 7) rfl)) (hts (.static arraycopyName) (List.mem_of_getElem? (i := 8) rfl)) (hts (.initialized "java/lang/System") (List.mem_of_getElem? (i := 9) rfl)) hK hP hD hS 37 2 rfl rfl rfl (Nat.le_of_ble_eq_true rfl) (Nat.le_of_ble_eq_true rfl) dX3_stepBack_54 (fun H locs g54 e54 hP hD hS => ?_)
      have sg54 := zA_cpy e54 (w_KR 34 (by decide))
      replace hP : va_P D classes ([(ME, .inr (3, oX3 FL aME ME_oldest y15 y25)), ((aME 3), .inl (cG, 41, .inr (.inr (.inr (.inr ME_kept))))), ((aME 1), .inl (cI, 32, .inl g54))] ++ rw41 cI KRr KRf) H := hP
      replace hD : va_D A ([(ME, .inr (3, oX3 FL aME ME_oldest y15 y25)), ((aME 3), .inl (cG, 41, .inr (.inr (.inr (.inr ME_kept))))), ((aME 1), .inl (cI, 32, .inl g54))] ++ rw41 cI KRr KRf) := hD
      clear e54
      refine lv_iconst (v := 1) hx hb dX3_stepBack_57 (by decide) ?_
      exact W.zret (v := 1) (ty := .boolean) hx hb hr (by decide) (fun t ht hW => ⟨⟨1, (), rfl, (zB_w (show zB 1 1 1 from ⟨by decide, by decide⟩) (by decide) (by decide)), ⟨y15, y25, g54, by15, (zB_w by25 (by decide) (by decide)), sg54, (by have h9_0 := (by15).1; have h9_1 := (by15).2; have h9_2 := ry15; have h9_3 := (bn4t_ME_done).1; have h9_4 := (bn4t_ME_done).2; have h9_5 := (by25).1; have h9_6 := (by25).2; have h9_7 := ry25; have h9_8 := (bhk_ME_undone).1; have h9_9 := (bhk_ME_undone).2; have h9_10 := q_ME; omega), by rw [ht]; exact hP, hD⟩⟩, hS.F ht⟩) hS.2.2 dX3_stepBack_58
    · refine zz_alda (v := (KRr 35)) hx hb hK hP 1 4 rfl rfl (zB_in (show zB 35 35 35 from ⟨by decide, by decide⟩) (by decide) (by decide)) (k_ME_kept 35 (by decide)) dX3_stepBack_45 ?_
      refine lv_iconst (v := 0) hx hb dX3_stepBack_46 (by decide) ?_
      refine lv_aload_n hx hb dX3_stepBack_47 rfl (lv_at hl 0 rfl) ?_
      refine va_get (D := D) (ci := 3) (v := .ref (aME 1)) (C := RX3) (T := TX3) (N := 9) hx hb hts iw_X3_stepBack_X3 hown hK hP 0 rfl rfl 1 (by decide) (hts (.fieldLink RX3 11 "SoldHouse$Memory" "now" "[I") (List.mem_of_getElem? (i := 5) rfl)) (fun _ h9 => h9) rfl dX3_stepBack_48 ?_
      refine lv_iconst (v := 0) hx hb dX3_stepBack_51 (by decide) ?_
      refine lv_bipush (v := 32) hx hb dX3_stepBack_52 (by decide) ?_
      refine zi_copy hx hb (by rw [hml]; exact hl.1.symm) hown (hts (.methodLink RX3 115 arraycopyName) (List.mem_of_getElem? (i := 6) rfl)) (hts (.native arraycopyName) (List.mem_of_getElem? (i := 7) rfl)) (hts (.static arraycopyName) (List.mem_of_getElem? (i := 8) rfl)) (hts (.initialized "java/lang/System") (List.mem_of_getElem? (i := 9) rfl)) hK hP hD hS 38 2 rfl rfl rfl (Nat.le_of_ble_eq_true rfl) (Nat.le_of_ble_eq_true rfl) dX3_stepBack_54 (fun H locs g54 e54 hP hD hS => ?_)
      have sg54 := zA_cpy e54 (w_KR 35 (by decide))
      replace hP : va_P D classes ([(ME, .inr (3, oX3 FL aME ME_oldest y15 y25)), ((aME 3), .inl (cG, 41, .inr (.inr (.inr (.inr ME_kept))))), ((aME 1), .inl (cI, 32, .inl g54))] ++ rw41 cI KRr KRf) H := hP
      replace hD : va_D A ([(ME, .inr (3, oX3 FL aME ME_oldest y15 y25)), ((aME 3), .inl (cG, 41, .inr (.inr (.inr (.inr ME_kept))))), ((aME 1), .inl (cI, 32, .inl g54))] ++ rw41 cI KRr KRf) := hD
      clear e54
      refine lv_iconst (v := 1) hx hb dX3_stepBack_57 (by decide) ?_
      exact W.zret (v := 1) (ty := .boolean) hx hb hr (by decide) (fun t ht hW => ⟨⟨1, (), rfl, (zB_w (show zB 1 1 1 from ⟨by decide, by decide⟩) (by decide) (by decide)), ⟨y15, y25, g54, by15, (zB_w by25 (by decide) (by decide)), sg54, (by have h9_0 := (by15).1; have h9_1 := (by15).2; have h9_2 := ry15; have h9_3 := (bn4t_ME_done).1; have h9_4 := (bn4t_ME_done).2; have h9_5 := (by25).1; have h9_6 := (by25).2; have h9_7 := ry25; have h9_8 := (bhk_ME_undone).1; have h9_9 := (bhk_ME_undone).2; have h9_10 := q_ME; omega), by rw [ht]; exact hP, hD⟩⟩, hS.F ht⟩) hS.2.2 dX3_stepBack_58
    · refine zz_alda (v := (KRr 36)) hx hb hK hP 1 4 rfl rfl (zB_in (show zB 36 36 36 from ⟨by decide, by decide⟩) (by decide) (by decide)) (k_ME_kept 36 (by decide)) dX3_stepBack_45 ?_
      refine lv_iconst (v := 0) hx hb dX3_stepBack_46 (by decide) ?_
      refine lv_aload_n hx hb dX3_stepBack_47 rfl (lv_at hl 0 rfl) ?_
      refine va_get (D := D) (ci := 3) (v := .ref (aME 1)) (C := RX3) (T := TX3) (N := 9) hx hb hts iw_X3_stepBack_X3 hown hK hP 0 rfl rfl 1 (by decide) (hts (.fieldLink RX3 11 "SoldHouse$Memory" "now" "[I") (List.mem_of_getElem? (i := 5) rfl)) (fun _ h9 => h9) rfl dX3_stepBack_48 ?_
      refine lv_iconst (v := 0) hx hb dX3_stepBack_51 (by decide) ?_
      refine lv_bipush (v := 32) hx hb dX3_stepBack_52 (by decide) ?_
      refine zi_copy hx hb (by rw [hml]; exact hl.1.symm) hown (hts (.methodLink RX3 115 arraycopyName) (List.mem_of_getElem? (i := 6) rfl)) (hts (.native arraycopyName) (List.mem_of_getElem? (i := 7) rfl)) (hts (.static arraycopyName) (List.mem_of_getElem? (i := 8) rfl)) (hts (.initialized "java/lang/System") (List.mem_of_getElem? (i := 9) rfl)) hK hP hD hS 39 2 rfl rfl rfl (Nat.le_of_ble_eq_true rfl) (Nat.le_of_ble_eq_true rfl) dX3_stepBack_54 (fun H locs g54 e54 hP hD hS => ?_)
      have sg54 := zA_cpy e54 (w_KR 36 (by decide))
      replace hP : va_P D classes ([(ME, .inr (3, oX3 FL aME ME_oldest y15 y25)), ((aME 3), .inl (cG, 41, .inr (.inr (.inr (.inr ME_kept))))), ((aME 1), .inl (cI, 32, .inl g54))] ++ rw41 cI KRr KRf) H := hP
      replace hD : va_D A ([(ME, .inr (3, oX3 FL aME ME_oldest y15 y25)), ((aME 3), .inl (cG, 41, .inr (.inr (.inr (.inr ME_kept))))), ((aME 1), .inl (cI, 32, .inl g54))] ++ rw41 cI KRr KRf) := hD
      clear e54
      refine lv_iconst (v := 1) hx hb dX3_stepBack_57 (by decide) ?_
      exact W.zret (v := 1) (ty := .boolean) hx hb hr (by decide) (fun t ht hW => ⟨⟨1, (), rfl, (zB_w (show zB 1 1 1 from ⟨by decide, by decide⟩) (by decide) (by decide)), ⟨y15, y25, g54, by15, (zB_w by25 (by decide) (by decide)), sg54, (by have h9_0 := (by15).1; have h9_1 := (by15).2; have h9_2 := ry15; have h9_3 := (bn4t_ME_done).1; have h9_4 := (bn4t_ME_done).2; have h9_5 := (by25).1; have h9_6 := (by25).2; have h9_7 := ry25; have h9_8 := (bhk_ME_undone).1; have h9_9 := (bhk_ME_undone).2; have h9_10 := q_ME; omega), by rw [ht]; exact hP, hD⟩⟩, hS.F ht⟩) hS.2.2 dX3_stepBack_58
    · refine zz_alda (v := (KRr 37)) hx hb hK hP 1 4 rfl rfl (zB_in (show zB 37 37 37 from ⟨by decide, by decide⟩) (by decide) (by decide)) (k_ME_kept 37 (by decide)) dX3_stepBack_45 ?_
      refine lv_iconst (v := 0) hx hb dX3_stepBack_46 (by decide) ?_
      refine lv_aload_n hx hb dX3_stepBack_47 rfl (lv_at hl 0 rfl) ?_
      refine va_get (D := D) (ci := 3) (v := .ref (aME 1)) (C := RX3) (T := TX3) (N := 9) hx hb hts iw_X3_stepBack_X3 hown hK hP 0 rfl rfl 1 (by decide) (hts (.fieldLink RX3 11 "SoldHouse$Memory" "now" "[I") (List.mem_of_getElem? (i := 5) rfl)) (fun _ h9 => h9) rfl dX3_stepBack_48 ?_
      refine lv_iconst (v := 0) hx hb dX3_stepBack_51 (by decide) ?_
      refine lv_bipush (v := 32) hx hb dX3_stepBack_52 (by decide) ?_
      refine zi_copy hx hb (by rw [hml]; exact hl.1.symm) hown (hts (.methodLink RX3 115 arraycopyName) (List.mem_of_getElem? (i := 6) rfl)) (hts (.native arraycopyName) (List.mem_of_getElem? (i := 7) rfl)) (hts (.static arraycopyName) (List.mem_of_getElem? (i := 8) rfl)) (hts (.initialized "java/lang/System") (List.mem_of_getElem? (i := 9) rfl)) hK hP hD hS 40 2 rfl rfl rfl (Nat.le_of_ble_eq_true rfl) (Nat.le_of_ble_eq_true rfl) dX3_stepBack_54 (fun H locs g54 e54 hP hD hS => ?_)
      have sg54 := zA_cpy e54 (w_KR 37 (by decide))
      replace hP : va_P D classes ([(ME, .inr (3, oX3 FL aME ME_oldest y15 y25)), ((aME 3), .inl (cG, 41, .inr (.inr (.inr (.inr ME_kept))))), ((aME 1), .inl (cI, 32, .inl g54))] ++ rw41 cI KRr KRf) H := hP
      replace hD : va_D A ([(ME, .inr (3, oX3 FL aME ME_oldest y15 y25)), ((aME 3), .inl (cG, 41, .inr (.inr (.inr (.inr ME_kept))))), ((aME 1), .inl (cI, 32, .inl g54))] ++ rw41 cI KRr KRf) := hD
      clear e54
      refine lv_iconst (v := 1) hx hb dX3_stepBack_57 (by decide) ?_
      exact W.zret (v := 1) (ty := .boolean) hx hb hr (by decide) (fun t ht hW => ⟨⟨1, (), rfl, (zB_w (show zB 1 1 1 from ⟨by decide, by decide⟩) (by decide) (by decide)), ⟨y15, y25, g54, by15, (zB_w by25 (by decide) (by decide)), sg54, (by have h9_0 := (by15).1; have h9_1 := (by15).2; have h9_2 := ry15; have h9_3 := (bn4t_ME_done).1; have h9_4 := (bn4t_ME_done).2; have h9_5 := (by25).1; have h9_6 := (by25).2; have h9_7 := ry25; have h9_8 := (bhk_ME_undone).1; have h9_9 := (bhk_ME_undone).2; have h9_10 := q_ME; omega), by rw [ht]; exact hP, hD⟩⟩, hS.F ht⟩) hS.2.2 dX3_stepBack_58
    · refine zz_alda (v := (KRr 38)) hx hb hK hP 1 4 rfl rfl (zB_in (show zB 38 38 38 from ⟨by decide, by decide⟩) (by decide) (by decide)) (k_ME_kept 38 (by decide)) dX3_stepBack_45 ?_
      refine lv_iconst (v := 0) hx hb dX3_stepBack_46 (by decide) ?_
      refine lv_aload_n hx hb dX3_stepBack_47 rfl (lv_at hl 0 rfl) ?_
      refine va_get (D := D) (ci := 3) (v := .ref (aME 1)) (C := RX3) (T := TX3) (N := 9) hx hb hts iw_X3_stepBack_X3 hown hK hP 0 rfl rfl 1 (by decide) (hts (.fieldLink RX3 11 "SoldHouse$Memory" "now" "[I") (List.mem_of_getElem? (i := 5) rfl)) (fun _ h9 => h9) rfl dX3_stepBack_48 ?_
      refine lv_iconst (v := 0) hx hb dX3_stepBack_51 (by decide) ?_
      refine lv_bipush (v := 32) hx hb dX3_stepBack_52 (by decide) ?_
      refine zi_copy hx hb (by rw [hml]; exact hl.1.symm) hown (hts (.methodLink RX3 115 arraycopyName) (List.mem_of_getElem? (i := 6) rfl)) (hts (.native arraycopyName) (List.mem_of_getElem? (i := 7) rfl)) (hts (.static arraycopyName) (List.mem_of_getElem? (i := 8) rfl)) (hts (.initialized "java/lang/System") (List.mem_of_getElem? (i := 9) rfl)) hK hP hD hS 41 2 rfl rfl rfl (Nat.le_of_ble_eq_true rfl) (Nat.le_of_ble_eq_true rfl) dX3_stepBack_54 (fun H locs g54 e54 hP hD hS => ?_)
      have sg54 := zA_cpy e54 (w_KR 38 (by decide))
      replace hP : va_P D classes ([(ME, .inr (3, oX3 FL aME ME_oldest y15 y25)), ((aME 3), .inl (cG, 41, .inr (.inr (.inr (.inr ME_kept))))), ((aME 1), .inl (cI, 32, .inl g54))] ++ rw41 cI KRr KRf) H := hP
      replace hD : va_D A ([(ME, .inr (3, oX3 FL aME ME_oldest y15 y25)), ((aME 3), .inl (cG, 41, .inr (.inr (.inr (.inr ME_kept))))), ((aME 1), .inl (cI, 32, .inl g54))] ++ rw41 cI KRr KRf) := hD
      clear e54
      refine lv_iconst (v := 1) hx hb dX3_stepBack_57 (by decide) ?_
      exact W.zret (v := 1) (ty := .boolean) hx hb hr (by decide) (fun t ht hW => ⟨⟨1, (), rfl, (zB_w (show zB 1 1 1 from ⟨by decide, by decide⟩) (by decide) (by decide)), ⟨y15, y25, g54, by15, (zB_w by25 (by decide) (by decide)), sg54, (by have h9_0 := (by15).1; have h9_1 := (by15).2; have h9_2 := ry15; have h9_3 := (bn4t_ME_done).1; have h9_4 := (bn4t_ME_done).2; have h9_5 := (by25).1; have h9_6 := (by25).2; have h9_7 := ry25; have h9_8 := (bhk_ME_undone).1; have h9_9 := (bhk_ME_undone).2; have h9_10 := q_ME; omega), by rw [ht]; exact hP, hD⟩⟩, hS.F ht⟩) hS.2.2 dX3_stepBack_58
    · refine zz_alda (v := (KRr 39)) hx hb hK hP 1 4 rfl rfl (zB_in (show zB 39 39 39 from ⟨by decide, by decide⟩) (by decide) (by decide)) (k_ME_kept 39 (by decide)) dX3_stepBack_45 ?_
      refine lv_iconst (v := 0) hx hb dX3_stepBack_46 (by decide) ?_
      refine lv_aload_n hx hb dX3_stepBack_47 rfl (lv_at hl 0 rfl) ?_
      refine va_get (D := D) (ci := 3) (v := .ref (aME 1)) (C := RX3) (T := TX3) (N := 9) hx hb hts iw_X3_stepBack_X3 hown hK hP 0 rfl rfl 1 (by decide) (hts (.fieldLink RX3 11 "SoldHouse$Memory" "now" "[I") (List.mem_of_getElem? (i := 5) rfl)) (fun _ h9 => h9) rfl dX3_stepBack_48 ?_
      refine lv_iconst (v := 0) hx hb dX3_stepBack_51 (by decide) ?_
      refine lv_bipush (v := 32) hx hb dX3_stepBack_52 (by decide) ?_
      refine zi_copy hx hb (by rw [hml]; exact hl.1.symm) hown (hts (.methodLink RX3 115 arraycopyName) (List.mem_of_getElem? (i := 6) rfl)) (hts (.native arraycopyName) (List.mem_of_getElem? (i := 7) rfl)) (hts (.static arraycopyName) (List.mem_of_getElem? (i := 8) rfl)) (hts (.initialized "java/lang/System") (List.mem_of_getElem? (i := 9) rfl)) hK hP hD hS 42 2 rfl rfl rfl (Nat.le_of_ble_eq_true rfl) (Nat.le_of_ble_eq_true rfl) dX3_stepBack_54 (fun H locs g54 e54 hP hD hS => ?_)
      have sg54 := zA_cpy e54 (w_KR 39 (by decide))
      replace hP : va_P D classes ([(ME, .inr (3, oX3 FL aME ME_oldest y15 y25)), ((aME 3), .inl (cG, 41, .inr (.inr (.inr (.inr ME_kept))))), ((aME 1), .inl (cI, 32, .inl g54))] ++ rw41 cI KRr KRf) H := hP
      replace hD : va_D A ([(ME, .inr (3, oX3 FL aME ME_oldest y15 y25)), ((aME 3), .inl (cG, 41, .inr (.inr (.inr (.inr ME_kept))))), ((aME 1), .inl (cI, 32, .inl g54))] ++ rw41 cI KRr KRf) := hD
      clear e54
      refine lv_iconst (v := 1) hx hb dX3_stepBack_57 (by decide) ?_
      exact W.zret (v := 1) (ty := .boolean) hx hb hr (by decide) (fun t ht hW => ⟨⟨1, (), rfl, (zB_w (show zB 1 1 1 from ⟨by decide, by decide⟩) (by decide) (by decide)), ⟨y15, y25, g54, by15, (zB_w by25 (by decide) (by decide)), sg54, (by have h9_0 := (by15).1; have h9_1 := (by15).2; have h9_2 := ry15; have h9_3 := (bn4t_ME_done).1; have h9_4 := (bn4t_ME_done).2; have h9_5 := (by25).1; have h9_6 := (by25).2; have h9_7 := ry25; have h9_8 := (bhk_ME_undone).1; have h9_9 := (bhk_ME_undone).2; have h9_10 := q_ME; omega), by rw [ht]; exact hP, hD⟩⟩, hS.F ht⟩) hS.2.2 dX3_stepBack_58
    · refine zz_alda (v := (KRr 40)) hx hb hK hP 1 4 rfl rfl (zB_in (show zB 40 40 40 from ⟨by decide, by decide⟩) (by decide) (by decide)) (k_ME_kept 40 (by decide)) dX3_stepBack_45 ?_
      refine lv_iconst (v := 0) hx hb dX3_stepBack_46 (by decide) ?_
      refine lv_aload_n hx hb dX3_stepBack_47 rfl (lv_at hl 0 rfl) ?_
      refine va_get (D := D) (ci := 3) (v := .ref (aME 1)) (C := RX3) (T := TX3) (N := 9) hx hb hts iw_X3_stepBack_X3 hown hK hP 0 rfl rfl 1 (by decide) (hts (.fieldLink RX3 11 "SoldHouse$Memory" "now" "[I") (List.mem_of_getElem? (i := 5) rfl)) (fun _ h9 => h9) rfl dX3_stepBack_48 ?_
      refine lv_iconst (v := 0) hx hb dX3_stepBack_51 (by decide) ?_
      refine lv_bipush (v := 32) hx hb dX3_stepBack_52 (by decide) ?_
      refine zi_copy hx hb (by rw [hml]; exact hl.1.symm) hown (hts (.methodLink RX3 115 arraycopyName) (List.mem_of_getElem? (i := 6) rfl)) (hts (.native arraycopyName) (List.mem_of_getElem? (i := 7) rfl)) (hts (.static arraycopyName) (List.mem_of_getElem? (i := 8) rfl)) (hts (.initialized "java/lang/System") (List.mem_of_getElem? (i := 9) rfl)) hK hP hD hS 43 2 rfl rfl rfl (Nat.le_of_ble_eq_true rfl) (Nat.le_of_ble_eq_true rfl) dX3_stepBack_54 (fun H locs g54 e54 hP hD hS => ?_)
      have sg54 := zA_cpy e54 (w_KR 40 (by decide))
      replace hP : va_P D classes ([(ME, .inr (3, oX3 FL aME ME_oldest y15 y25)), ((aME 3), .inl (cG, 41, .inr (.inr (.inr (.inr ME_kept))))), ((aME 1), .inl (cI, 32, .inl g54))] ++ rw41 cI KRr KRf) H := hP
      replace hD : va_D A ([(ME, .inr (3, oX3 FL aME ME_oldest y15 y25)), ((aME 3), .inl (cG, 41, .inr (.inr (.inr (.inr ME_kept))))), ((aME 1), .inl (cI, 32, .inl g54))] ++ rw41 cI KRr KRf) := hD
      clear e54
      refine lv_iconst (v := 1) hx hb dX3_stepBack_57 (by decide) ?_
      exact W.zret (v := 1) (ty := .boolean) hx hb hr (by decide) (fun t ht hW => ⟨⟨1, (), rfl, (zB_w (show zB 1 1 1 from ⟨by decide, by decide⟩) (by decide) (by decide)), ⟨y15, y25, g54, by15, (zB_w by25 (by decide) (by decide)), sg54, (by have h9_0 := (by15).1; have h9_1 := (by15).2; have h9_2 := ry15; have h9_3 := (bn4t_ME_done).1; have h9_4 := (bn4t_ME_done).2; have h9_5 := (by25).1; have h9_6 := (by25).2; have h9_7 := ry25; have h9_8 := (bhk_ME_undone).1; have h9_9 := (bhk_ME_undone).2; have h9_10 := q_ME; omega), by rw [ht]; exact hP, hD⟩⟩, hS.F ht⟩) hS.2.2 dX3_stepBack_58
  · have be4f_ME_done : zB ME_done 0 0 := zB_eq c4 b_ME_done (show zB 0 0 0 from ⟨by decide, by decide⟩) (by decide) (by decide)
    refine lv_iconst (v := 0) hx hb dX3_stepBack_7 (by decide) ?_
    exact W.zret (v := 0) (ty := .boolean) hx hb hr (by decide) (fun t ht hW => ⟨⟨0, (), rfl, (zB_w (show zB 0 0 0 from ⟨by decide, by decide⟩) (by decide) (by decide)), ⟨ME_done, ME_undone, ME_now, (zB_w be4f_ME_done (by decide) (by decide)), b_ME_undone, s_ME_now_0, q_ME, by rw [ht]; exact hP, hD⟩⟩, hS.F ht⟩) hS.2.2 dX3_stepBack_8
set_option maxHeartbeats 4000000 in
set_option maxRecDepth 100000 in
theorem c_X3_stepOn (l : Launch) (D : va_G) (cI : ClassId) (cB : ClassId) (cL : ClassId) (cZ : ClassId) (cG : ClassId) (ME : Nat) (FL : Nat) (aME : Nat → Nat) (ME_oldest : Int32) (ME_done : Int32) (ME_undone : Int32) (ME_kept : Nat → Option Nat) (KRr : Nat → Nat) (KRf : Nat → Nat → Int32) (ME_now : Nat → Int32) (sz : Nat) (q_ME : ME_done.toInt + ME_undone.toInt ≤ 40) (b_ME_oldest : zB ME_oldest 0 40) (b_ME_done : zB ME_done 0 40) (b_ME_undone : zB ME_undone 0 40) (k_ME_kept : ∀ j, j < 41 → ME_kept j = some (KRr j)) (s_ME_now_0 : zA ME_now 0 12 0 7) (w_KR : ∀ j, j < 41 → zA (KRf j) 0 12 0 7) : Met l yX3_stepOn wsX3_stepOn ({ frames := 1, cells := 0, slots := 0, locals := 40 }) (xp D [(cI, .int), (cB, .byte), (cL, .long), (cZ, .boolean), (cG, .array .int)] ([(ME, .inr (3, oX3 FL aME ME_oldest ME_done ME_undone)), ((aME 3), .inl (cG, 41, .inr (.inr (.inr (.inr ME_kept))))), ((aME 1), .inl (cI, 32, .inl ME_now))] ++ rw41 cI KRr KRf) sz [] [.ref ME]) (va_Qi (fun (r : Int32) (_ : Unit) => zB r 0 1) (fun (_ : Unit) (t : State) => ∃ (nME_done : Int32), ∃ (nME_undone : Int32), ∃ (nMEnow : Nat → Int32), zB nME_done 0 40 ∧ zB nME_undone 0 39 ∧ zA nMEnow 0 12 0 7 ∧ nME_done.toInt + nME_undone.toInt ≤ 40 ∧ xB D (va_A ([(ME, .inr (3, oX3 FL aME ME_oldest ME_done ME_undone)), ((aME 3), .inl (cG, 41, .inr (.inr (.inr (.inr ME_kept))))), ((aME 1), .inl (cI, 32, .inl ME_now))] ++ rw41 cI KRr KRf) sz) ([(ME, .inr (3, oX3 FL aME ME_oldest nME_done nME_undone)), ((aME 3), .inl (cG, 41, .inr (.inr (.inr (.inr ME_kept))))), ((aME 1), .inl (cI, 32, .inl nMEnow))] ++ rw41 cI KRr KRf) t) (va_A ([(ME, .inr (3, oX3 FL aME ME_oldest ME_done ME_undone)), ((aME 3), .inl (cG, 41, .inr (.inr (.inr (.inr ME_kept))))), ((aME 1), .inl (cI, 32, .inl ME_now))] ++ rw41 cI KRr KRf) sz)) 0 0 (va_A ([(ME, .inr (3, oX3 FL aME ME_oldest ME_done ME_undone)), ((aME 3), .inl (cG, 41, .inr (.inr (.inr (.inr ME_kept))))), ((aME 1), .inl (cI, 32, .inl ME_now))] ++ rw41 cI KRr KRf) sz) := by
  refine Met.ofW (cc := cX3_stepOn) (maxL := 1) (ret := (some .boolean)) (by decide) rfl ?_
  intro p e s m args below meth c s₁ B hml hv
  obtain ⟨rfl, hsz, hP, hK, hD0, hNw⟩ := hv
  have hx := B.exec
  have hb := B.bytes
  have hr := B.returns
  have hts := atoms_spec (ws := wsX3_stepOn) B.pre
  have hown : s.vm.findClass RX3 = some m.cls := findClass_of_methodNamed B.named
  have hlocks := B.notSynchronized
  clear B
  subst hsz
  have hD := hD0.self (sz := s.heap.size)
  clear hD0 hNw
  generalize hAe : va_A ([(ME, .inr (3, oX3 FL aME ME_oldest ME_done ME_undone)), ((aME 3), .inl (cG, 41, .inr (.inr (.inr (.inr ME_kept))))), ((aME 1), .inl (cI, 32, .inl ME_now))] ++ rw41 cI KRr KRf) s.heap.size = A at hD ⊢
  have hA : ∀ q : Nat, s.heap.size ≤ q → A q := fun q h => by rw [← hAe]; exact Or.inr h
  have hS : va_S A s.heap s.heap [] := va_S.rf
  clear hAe
  obtain ⟨H, hH⟩ : ∃ H : Heap, H = s.heap := ⟨_, rfl⟩
  obtain ⟨locs, hlocs⟩ : ∃ L : List Loc, L = [] := ⟨_, rfl⟩
  replace hP : va_P D classes ([(ME, .inr (3, oX3 FL aME ME_oldest ME_done ME_undone)), ((aME 3), .inl (cG, 41, .inr (.inr (.inr (.inr ME_kept))))), ((aME 1), .inl (cI, 32, .inl ME_now))] ++ rw41 cI KRr KRf) H := by rw [hH]; exact hP
  replace hS : va_S A s.heap H locs := by rw [hH, hlocs]; exact hS
  rw [← hH, ← hlocs]
  clear hlocs hH
  have hl := lv_entry ([.ref ME]) (n := 1) (Nat.le_of_ble_eq_true rfl)
  rw [lg_entry_eq]
  generalize (lg_sl ([.ref ME]) ++ List.replicate (1 - (lg_sl ([.ref ME])).length) Slot.unset).toArray = ls at hl ⊢
  replace hl : lv_has ls 1 [(0, .ref ME)] := hl
  refine lv_aload_n hx hb dX3_stepOn_0 rfl (lv_at hl 0 rfl) ?_
  refine va_get (D := D) (ci := 3) (v := .int ME_undone) (C := RX3) (T := TX3) (N := 9) hx hb hts iw_X3_stepOn_X3 hown hK hP 0 rfl rfl 6 (by decide) (hts (.fieldLink RX3 128 "SoldHouse$Memory" "undone" "I") (List.mem_of_getElem? (i := 1) rfl)) (fun _ h9 => h9) rfl dX3_stepOn_1 ?_
  refine lv_if_ne (tgt := 9) hx hb dX3_stepOn_4 (by decide) (fun c4 => ?_) (fun c4 => ?_)
  · have bn4t_ME_undone : zB ME_undone 1 40 := zB_neL c4 b_ME_undone (show zB 0 0 0 from ⟨by decide, by decide⟩) (by decide)
    have bhk_ME_done : zB ME_done 0 39 := ⟨(b_ME_done).1, by have h1 := q_ME; have h2 := (bn4t_ME_undone).1; omega⟩
    refine lv_aload_n hx hb dX3_stepOn_9 rfl (lv_at hl 0 rfl) ?_
    refine lv_dup hx hb dX3_stepOn_10 rfl ?_
    refine va_get (D := D) (ci := 3) (v := .int ME_done) (C := RX3) (T := TX3) (N := 9) hx hb hts iw_X3_stepOn_X3 hown hK hP 0 rfl rfl 5 (by decide) (hts (.fieldLink RX3 131 "SoldHouse$Memory" "done" "I") (List.mem_of_getElem? (i := 2) rfl)) (fun _ h9 => h9) rfl dX3_stepOn_11 ?_
    refine lv_iconst (v := 1) hx hb dX3_stepOn_14 (by decide) ?_
    refine lv_iadd hx hb dX3_stepOn_15 ?_
    refine zi_top2 (P := fun y => y.toInt = ME_done.toInt + 1) (a := 1) (b := 40) (zB_add bhk_ME_done (show zB 1 1 1 from ⟨by decide, by decide⟩) (by decide) (by decide) (by decide) (by decide)) (zR_addc bhk_ME_done (by decide) (by decide) (by decide)) (fun y15 by15 ry15 => ?_)
    refine va_put (D := D) (ci := 3) (v := .int y15) (ty := tyX3 5) (C := RX3) (T := TX3) (N := 9) hx hb hts iw_X3_stepOn_X3 tyX3 tyX3_ok nmX3 hown hK hP hD hS 0 rfl rfl 5 (by decide) (hts (.fieldLink RX3 131 "SoldHouse$Memory" "done" "I") (List.mem_of_getElem? (i := 2) rfl)) (fun _ h9 => h9) rfl (by decide +kernel) rfl rfl (Nat.le_of_ble_eq_true rfl) dX3_stepOn_16 (fun H locs hP hD hS => ?_)
    replace hP : va_P D classes ([(ME, .inr (3, oX3 FL aME ME_oldest y15 ME_undone)), ((aME 3), .inl (cG, 41, .inr (.inr (.inr (.inr ME_kept))))), ((aME 1), .inl (cI, 32, .inl ME_now))] ++ rw41 cI KRr KRf) H := hP
    replace hD : va_D A ([(ME, .inr (3, oX3 FL aME ME_oldest y15 ME_undone)), ((aME 3), .inl (cG, 41, .inr (.inr (.inr (.inr ME_kept))))), ((aME 1), .inl (cI, 32, .inl ME_now))] ++ rw41 cI KRr KRf) := hD
    refine lv_aload_n hx hb dX3_stepOn_19 rfl (lv_at hl 0 rfl) ?_
    refine lv_dup hx hb dX3_stepOn_20 rfl ?_
    refine va_get (D := D) (ci := 3) (v := .int ME_undone) (C := RX3) (T := TX3) (N := 9) hx hb hts iw_X3_stepOn_X3 hown hK hP 0 rfl rfl 6 (by decide) (hts (.fieldLink RX3 128 "SoldHouse$Memory" "undone" "I") (List.mem_of_getElem? (i := 1) rfl)) (fun _ h9 => h9) rfl dX3_stepOn_21 ?_
    refine lv_iconst (v := 1) hx hb dX3_stepOn_24 (by decide) ?_
    refine lv_isub hx hb dX3_stepOn_25 ?_
    refine zi_top2 (P := fun y => y.toInt = ME_undone.toInt + (-1)) (a := 0) (b := 39) (zB_sub bn4t_ME_undone (show zB 1 1 1 from ⟨by decide, by decide⟩) (by decide) (by decide) (by decide) (by decide)) (zR_subc bn4t_ME_undone (by decide) (by decide) (by decide)) (fun y25 by25 ry25 => ?_)
    refine va_put (D := D) (ci := 3) (v := .int y25) (ty := tyX3 6) (C := RX3) (T := TX3) (N := 9) hx hb hts iw_X3_stepOn_X3 tyX3 tyX3_ok nmX3 hown hK hP hD hS 0 rfl rfl 6 (by decide) (hts (.fieldLink RX3 128 "SoldHouse$Memory" "undone" "I") (List.mem_of_getElem? (i := 1) rfl)) (fun _ h9 => h9) rfl (by decide +kernel) rfl rfl (Nat.le_of_ble_eq_true rfl) dX3_stepOn_26 (fun H locs hP hD hS => ?_)
    replace hP : va_P D classes ([(ME, .inr (3, oX3 FL aME ME_oldest y15 y25)), ((aME 3), .inl (cG, 41, .inr (.inr (.inr (.inr ME_kept))))), ((aME 1), .inl (cI, 32, .inl ME_now))] ++ rw41 cI KRr KRf) H := hP
    replace hD : va_D A ([(ME, .inr (3, oX3 FL aME ME_oldest y15 y25)), ((aME 3), .inl (cG, 41, .inr (.inr (.inr (.inr ME_kept))))), ((aME 1), .inl (cI, 32, .inl ME_now))] ++ rw41 cI KRr KRf) := hD
    refine lv_aload_n hx hb dX3_stepOn_29 rfl (lv_at hl 0 rfl) ?_
    refine va_get (D := D) (ci := 3) (v := .ref (aME 3)) (C := RX3) (T := TX3) (N := 9) hx hb hts iw_X3_stepOn_X3 hown hK hP 0 rfl rfl 3 (by decide) (hts (.fieldLink RX3 20 "SoldHouse$Memory" "kept" "[[I") (List.mem_of_getElem? (i := 3) rfl)) (fun _ h9 => h9) rfl dX3_stepOn_30 ?_
    refine lv_aload_n hx hb dX3_stepOn_33 rfl (lv_at hl 0 rfl) ?_
    refine va_get (D := D) (ci := 3) (v := .int ME_oldest) (C := RX3) (T := TX3) (N := 9) hx hb hts iw_X3_stepOn_X3 hown hK hP 0 rfl rfl 4 (by decide) (hts (.fieldLink RX3 134 "SoldHouse$Memory" "oldest" "I") (List.mem_of_getElem? (i := 4) rfl)) (fun _ h9 => h9) rfl dX3_stepOn_34 ?_
    refine lv_aload_n hx hb dX3_stepOn_37 rfl (lv_at hl 0 rfl) ?_
    refine va_get (D := D) (ci := 3) (v := .int y15) (C := RX3) (T := TX3) (N := 9) hx hb hts iw_X3_stepOn_X3 hown hK hP 0 rfl rfl 5 (by decide) (hts (.fieldLink RX3 131 "SoldHouse$Memory" "done" "I") (List.mem_of_getElem? (i := 2) rfl)) (fun _ h9 => h9) rfl dX3_stepOn_38 ?_
    refine lv_iadd hx hb dX3_stepOn_41 ?_
    refine zi_top (a := 1) (b := 80) (zB_add b_ME_oldest by15 (by decide) (by decide) (by decide) (by decide)) (fun y41 by41 => ?_)
    refine lv_bipush (v := 41) hx hb dX3_stepOn_42 (by decide) ?_
    refine lv_irem hx hb dX3_stepOn_44 (by decide) ?_
    refine zi_top (a := 0) (b := 40) (zB_rem by41 (show zB 41 41 41 from ⟨by decide, by decide⟩) (by decide) (by decide) (by decide)) (fun y44 by44 => ?_)
    rcases zsp_41 by44 with rfl | rfl | rfl | rfl | rfl | rfl | rfl | rfl | rfl | rfl | rfl | rfl | rfl | rfl | rfl | rfl | rfl | rfl | rfl | rfl | rfl | rfl | rfl | rfl | rfl | rfl | rfl | rfl | rfl | rfl | rfl | rfl | rfl | rfl | rfl | rfl | rfl | rfl | rfl | rfl | rfl
    · refine zz_alda (v := (KRr 0)) hx hb hK hP 1 4 rfl rfl (zB_in (show zB 0 0 0 from ⟨by decide, by decide⟩) (by decide) (by decide)) (k_ME_kept 0 (by decide)) dX3_stepOn_45 ?_
      refine lv_iconst (v := 0) hx hb dX3_stepOn_46 (by decide) ?_
      refine lv_aload_n hx hb dX3_stepOn_47 rfl (lv_at hl 0 rfl) ?_
      refine va_get (D := D) (ci := 3) (v := .ref (aME 1)) (C := RX3) (T := TX3) (N := 9) hx hb hts iw_X3_stepOn_X3 hown hK hP 0 rfl rfl 1 (by decide) (hts (.fieldLink RX3 11 "SoldHouse$Memory" "now" "[I") (List.mem_of_getElem? (i := 5) rfl)) (fun _ h9 => h9) rfl dX3_stepOn_48 ?_
      refine lv_iconst (v := 0) hx hb dX3_stepOn_51 (by decide) ?_
      refine lv_bipush (v := 32) hx hb dX3_stepOn_52 (by decide) ?_
      refine zi_copy hx hb (by rw [hml]; exact hl.1.symm) hown (hts (.methodLink RX3 115 arraycopyName) (List.mem_of_getElem? (i := 6) rfl)) (hts (.native arraycopyName) (List.mem_of_getElem? (i := 7) rfl)) (hts (.static arraycopyName) (List.mem_of_getElem? (i := 8) rfl)) (hts (.initialized "java/lang/System") (List.mem_of_getElem? (i := 9) rfl)) hK hP hD hS 3 2 rfl rfl rfl (Nat.le_of_ble_eq_true rfl) (Nat.le_of_ble_eq_true rfl) dX3_stepOn_54 (fun H locs g54 e54 hP hD hS => ?_)
      have sg54 := zA_cpy e54 (w_KR 0 (by decide))
      replace hP : va_P D classes ([(ME, .inr (3, oX3 FL aME ME_oldest y15 y25)), ((aME 3), .inl (cG, 41, .inr (.inr (.inr (.inr ME_kept))))), ((aME 1), .inl (cI, 32, .inl g54))] ++ rw41 cI KRr KRf) H := hP
      replace hD : va_D A ([(ME, .inr (3, oX3 FL aME ME_oldest y15 y25)), ((aME 3), .inl (cG, 41, .inr (.inr (.inr (.inr ME_kept))))), ((aME 1), .inl (cI, 32, .inl g54))] ++ rw41 cI KRr KRf) := hD
      clear e54
      refine lv_iconst (v := 1) hx hb dX3_stepOn_57 (by decide) ?_
      exact W.zret (v := 1) (ty := .boolean) hx hb hr (by decide) (fun t ht hW => ⟨⟨1, (), rfl, (zB_w (show zB 1 1 1 from ⟨by decide, by decide⟩) (by decide) (by decide)), ⟨y15, y25, g54, (zB_w by15 (by decide) (by decide)), by25, sg54, (by have h9_0 := (by15).1; have h9_1 := (by15).2; have h9_2 := ry15; have h9_3 := (bhk_ME_done).1; have h9_4 := (bhk_ME_done).2; have h9_5 := (by25).1; have h9_6 := (by25).2; have h9_7 := ry25; have h9_8 := (bn4t_ME_undone).1; have h9_9 := (bn4t_ME_undone).2; have h9_10 := q_ME; omega), by rw [ht]; exact hP, hD⟩⟩, hS.F ht⟩) hS.2.2 dX3_stepOn_58
    · refine zz_alda (v := (KRr 1)) hx hb hK hP 1 4 rfl rfl (zB_in (show zB 1 1 1 from ⟨by decide, by decide⟩) (by decide) (by decide)) (k_ME_kept 1 (by decide)) dX3_stepOn_45 ?_
      refine lv_iconst (v := 0) hx hb dX3_stepOn_46 (by decide) ?_
      refine lv_aload_n hx hb dX3_stepOn_47 rfl (lv_at hl 0 rfl) ?_
      refine va_get (D := D) (ci := 3) (v := .ref (aME 1)) (C := RX3) (T := TX3) (N := 9) hx hb hts iw_X3_stepOn_X3 hown hK hP 0 rfl rfl 1 (by decide) (hts (.fieldLink RX3 11 "SoldHouse$Memory" "now" "[I") (List.mem_of_getElem? (i := 5) rfl)) (fun _ h9 => h9) rfl dX3_stepOn_48 ?_
      refine lv_iconst (v := 0) hx hb dX3_stepOn_51 (by decide) ?_
      refine lv_bipush (v := 32) hx hb dX3_stepOn_52 (by decide) ?_
      refine zi_copy hx hb (by rw [hml]; exact hl.1.symm) hown (hts (.methodLink RX3 115 arraycopyName) (List.mem_of_getElem? (i := 6) rfl)) (hts (.native arraycopyName) (List.mem_of_getElem? (i := 7) rfl)) (hts (.static arraycopyName) (List.mem_of_getElem? (i := 8) rfl)) (hts (.initialized "java/lang/System") (List.mem_of_getElem? (i := 9) rfl)) hK hP hD hS 4 2 rfl rfl rfl (Nat.le_of_ble_eq_true rfl) (Nat.le_of_ble_eq_true rfl) dX3_stepOn_54 (fun H locs g54 e54 hP hD hS => ?_)
      have sg54 := zA_cpy e54 (w_KR 1 (by decide))
      replace hP : va_P D classes ([(ME, .inr (3, oX3 FL aME ME_oldest y15 y25)), ((aME 3), .inl (cG, 41, .inr (.inr (.inr (.inr ME_kept))))), ((aME 1), .inl (cI, 32, .inl g54))] ++ rw41 cI KRr KRf) H := hP
      replace hD : va_D A ([(ME, .inr (3, oX3 FL aME ME_oldest y15 y25)), ((aME 3), .inl (cG, 41, .inr (.inr (.inr (.inr ME_kept))))), ((aME 1), .inl (cI, 32, .inl g54))] ++ rw41 cI KRr KRf) := hD
      clear e54
      refine lv_iconst (v := 1) hx hb dX3_stepOn_57 (by decide) ?_
      exact W.zret (v := 1) (ty := .boolean) hx hb hr (by decide) (fun t ht hW => ⟨⟨1, (), rfl, (zB_w (show zB 1 1 1 from ⟨by decide, by decide⟩) (by decide) (by decide)), ⟨y15, y25, g54, (zB_w by15 (by decide) (by decide)), by25, sg54, (by have h9_0 := (by15).1; have h9_1 := (by15).2; have h9_2 := ry15; have h9_3 := (bhk_ME_done).1; have h9_4 := (bhk_ME_done).2; have h9_5 := (by25).1; have h9_6 := (by25).2; have h9_7 := ry25; have h9_8 := (bn4t_ME_undone).1; have h9_9 := (bn4t_ME_undone).2; have h9_10 := q_ME; omega), by rw [ht]; exact hP, hD⟩⟩, hS.F ht⟩) hS.2.2 dX3_stepOn_58
    · refine zz_alda (v := (KRr 2)) hx hb hK hP 1 4 rfl rfl (zB_in (show zB 2 2 2 from ⟨by decide, by decide⟩) (by decide) (by decide)) (k_ME_kept 2 (by decide)) dX3_stepOn_45 ?_
      refine lv_iconst (v := 0) hx hb dX3_stepOn_46 (by decide) ?_
      refine lv_aload_n hx hb dX3_stepOn_47 rfl (lv_at hl 0 rfl) ?_
      refine va_get (D := D) (ci := 3) (v := .ref (aME 1)) (C := RX3) (T := TX3) (N := 9) hx hb hts iw_X3_stepOn_X3 hown hK hP 0 rfl rfl 1 (by decide) (hts (.fieldLink RX3 11 "SoldHouse$Memory" "now" "[I") (List.mem_of_getElem? (i := 5) rfl)) (fun _ h9 => h9) rfl dX3_stepOn_48 ?_
      refine lv_iconst (v := 0) hx hb dX3_stepOn_51 (by decide) ?_
      refine lv_bipush (v := 32) hx hb dX3_stepOn_52 (by decide) ?_
      refine zi_copy hx hb (by rw [hml]; exact hl.1.symm) hown (hts (.methodLink RX3 115 arraycopyName) (List.mem_of_getElem? (i := 6) rfl)) (hts (.native arraycopyName) (List.mem_of_getElem? (i := 7) rfl)) (hts (.static arraycopyName) (List.mem_of_getElem? (i := 8) rfl)) (hts (.initialized "java/lang/System") (List.mem_of_getElem? (i := 9) rfl)) hK hP hD hS 5 2 rfl rfl rfl (Nat.le_of_ble_eq_true rfl) (Nat.le_of_ble_eq_true rfl) dX3_stepOn_54 (fun H locs g54 e54 hP hD hS => ?_)
      have sg54 := zA_cpy e54 (w_KR 2 (by decide))
      replace hP : va_P D classes ([(ME, .inr (3, oX3 FL aME ME_oldest y15 y25)), ((aME 3), .inl (cG, 41, .inr (.inr (.inr (.inr ME_kept))))), ((aME 1), .inl (cI, 32, .inl g54))] ++ rw41 cI KRr KRf) H := hP
      replace hD : va_D A ([(ME, .inr (3, oX3 FL aME ME_oldest y15 y25)), ((aME 3), .inl (cG, 41, .inr (.inr (.inr (.inr ME_kept))))), ((aME 1), .inl (cI, 32, .inl g54))] ++ rw41 cI KRr KRf) := hD
      clear e54
      refine lv_iconst (v := 1) hx hb dX3_stepOn_57 (by decide) ?_
      exact W.zret (v := 1) (ty := .boolean) hx hb hr (by decide) (fun t ht hW => ⟨⟨1, (), rfl, (zB_w (show zB 1 1 1 from ⟨by decide, by decide⟩) (by decide) (by decide)), ⟨y15, y25, g54, (zB_w by15 (by decide) (by decide)), by25, sg54, (by have h9_0 := (by15).1; have h9_1 := (by15).2; have h9_2 := ry15; have h9_3 := (bhk_ME_done).1; have h9_4 := (bhk_ME_done).2; have h9_5 := (by25).1; have h9_6 := (by25).2; have h9_7 := ry25; have h9_8 := (bn4t_ME_undone).1; have h9_9 := (bn4t_ME_undone).2; have h9_10 := q_ME; omega), by rw [ht]; exact hP, hD⟩⟩, hS.F ht⟩) hS.2.2 dX3_stepOn_58
    · refine zz_alda (v := (KRr 3)) hx hb hK hP 1 4 rfl rfl (zB_in (show zB 3 3 3 from ⟨by decide, by decide⟩) (by decide) (by decide)) (k_ME_kept 3 (by decide)) dX3_stepOn_45 ?_
      refine lv_iconst (v := 0) hx hb dX3_stepOn_46 (by decide) ?_
      refine lv_aload_n hx hb dX3_stepOn_47 rfl (lv_at hl 0 rfl) ?_
      refine va_get (D := D) (ci := 3) (v := .ref (aME 1)) (C := RX3) (T := TX3) (N := 9) hx hb hts iw_X3_stepOn_X3 hown hK hP 0 rfl rfl 1 (by decide) (hts (.fieldLink RX3 11 "SoldHouse$Memory" "now" "[I") (List.mem_of_getElem? (i := 5) rfl)) (fun _ h9 => h9) rfl dX3_stepOn_48 ?_
      refine lv_iconst (v := 0) hx hb dX3_stepOn_51 (by decide) ?_
      refine lv_bipush (v := 32) hx hb dX3_stepOn_52 (by decide) ?_
      refine zi_copy hx hb (by rw [hml]; exact hl.1.symm) hown (hts (.methodLink RX3 115 arraycopyName) (List.mem_of_getElem? (i := 6) rfl)) (hts (.native arraycopyName) (List.mem_of_getElem? (i := 7) rfl)) (hts (.static arraycopyName) (List.mem_of_getElem? (i := 8) rfl)) (hts (.initialized "java/lang/System") (List.mem_of_getElem? (i := 9) rfl)) hK hP hD hS 6 2 rfl rfl rfl (Nat.le_of_ble_eq_true rfl) (Nat.le_of_ble_eq_true rfl) dX3_stepOn_54 (fun H locs g54 e54 hP hD hS => ?_)
      have sg54 := zA_cpy e54 (w_KR 3 (by decide))
      replace hP : va_P D classes ([(ME, .inr (3, oX3 FL aME ME_oldest y15 y25)), ((aME 3), .inl (cG, 41, .inr (.inr (.inr (.inr ME_kept))))), ((aME 1), .inl (cI, 32, .inl g54))] ++ rw41 cI KRr KRf) H := hP
      replace hD : va_D A ([(ME, .inr (3, oX3 FL aME ME_oldest y15 y25)), ((aME 3), .inl (cG, 41, .inr (.inr (.inr (.inr ME_kept))))), ((aME 1), .inl (cI, 32, .inl g54))] ++ rw41 cI KRr KRf) := hD
      clear e54
      refine lv_iconst (v := 1) hx hb dX3_stepOn_57 (by decide) ?_
      exact W.zret (v := 1) (ty := .boolean) hx hb hr (by decide) (fun t ht hW => ⟨⟨1, (), rfl, (zB_w (show zB 1 1 1 from ⟨by decide, by decide⟩) (by decide) (by decide)), ⟨y15, y25, g54, (zB_w by15 (by decide) (by decide)), by25, sg54, (by have h9_0 := (by15).1; have h9_1 := (by15).2; have h9_2 := ry15; have h9_3 := (bhk_ME_done).1; have h9_4 := (bhk_ME_done).2; have h9_5 := (by25).1; have h9_6 := (by25).2; have h9_7 := ry25; have h9_8 := (bn4t_ME_undone).1; have h9_9 := (bn4t_ME_undone).2; have h9_10 := q_ME; omega), by rw [ht]; exact hP, hD⟩⟩, hS.F ht⟩) hS.2.2 dX3_stepOn_58
    · refine zz_alda (v := (KRr 4)) hx hb hK hP 1 4 rfl rfl (zB_in (show zB 4 4 4 from ⟨by decide, by decide⟩) (by decide) (by decide)) (k_ME_kept 4 (by decide)) dX3_stepOn_45 ?_
      refine lv_iconst (v := 0) hx hb dX3_stepOn_46 (by decide) ?_
      refine lv_aload_n hx hb dX3_stepOn_47 rfl (lv_at hl 0 rfl) ?_
      refine va_get (D := D) (ci := 3) (v := .ref (aME 1)) (C := RX3) (T := TX3) (N := 9) hx hb hts iw_X3_stepOn_X3 hown hK hP 0 rfl rfl 1 (by decide) (hts (.fieldLink RX3 11 "SoldHouse$Memory" "now" "[I") (List.mem_of_getElem? (i := 5) rfl)) (fun _ h9 => h9) rfl dX3_stepOn_48 ?_
      refine lv_iconst (v := 0) hx hb dX3_stepOn_51 (by decide) ?_
      refine lv_bipush (v := 32) hx hb dX3_stepOn_52 (by decide) ?_
      refine zi_copy hx hb (by rw [hml]; exact hl.1.symm) hown (hts (.methodLink RX3 115 arraycopyName) (List.mem_of_getElem? (i := 6) rfl)) (hts (.native arraycopyName) (List.mem_of_getElem? (i := 7) rfl)) (hts (.static arraycopyName) (List.mem_of_getElem? (i := 8) rfl)) (hts (.initialized "java/lang/System") (List.mem_of_getElem? (i := 9) rfl)) hK hP hD hS 7 2 rfl rfl rfl (Nat.le_of_ble_eq_true rfl) (Nat.le_of_ble_eq_true rfl) dX3_stepOn_54 (fun H locs g54 e54 hP hD hS => ?_)
      have sg54 := zA_cpy e54 (w_KR 4 (by decide))
      replace hP : va_P D classes ([(ME, .inr (3, oX3 FL aME ME_oldest y15 y25)), ((aME 3), .inl (cG, 41, .inr (.inr (.inr (.inr ME_kept))))), ((aME 1), .inl (cI, 32, .inl g54))] ++ rw41 cI KRr KRf) H := hP
      replace hD : va_D A ([(ME, .inr (3, oX3 FL aME ME_oldest y15 y25)), ((aME 3), .inl (cG, 41, .inr (.inr (.inr (.inr ME_kept))))), ((aME 1), .inl (cI, 32, .inl g54))] ++ rw41 cI KRr KRf) := hD
      clear e54
      refine lv_iconst (v := 1) hx hb dX3_stepOn_57 (by decide) ?_
      exact W.zret (v := 1) (ty := .boolean) hx hb hr (by decide) (fun t ht hW => ⟨⟨1, (), rfl, (zB_w (show zB 1 1 1 from ⟨by decide, by decide⟩) (by decide) (by decide)), ⟨y15, y25, g54, (zB_w by15 (by decide) (by decide)), by25, sg54, (by have h9_0 := (by15).1; have h9_1 := (by15).2; have h9_2 := ry15; have h9_3 := (bhk_ME_done).1; have h9_4 := (bhk_ME_done).2; have h9_5 := (by25).1; have h9_6 := (by25).2; have h9_7 := ry25; have h9_8 := (bn4t_ME_undone).1; have h9_9 := (bn4t_ME_undone).2; have h9_10 := q_ME; omega), by rw [ht]; exact hP, hD⟩⟩, hS.F ht⟩) hS.2.2 dX3_stepOn_58
    · refine zz_alda (v := (KRr 5)) hx hb hK hP 1 4 rfl rfl (zB_in (show zB 5 5 5 from ⟨by decide, by decide⟩) (by decide) (by decide)) (k_ME_kept 5 (by decide)) dX3_stepOn_45 ?_
      refine lv_iconst (v := 0) hx hb dX3_stepOn_46 (by decide) ?_
      refine lv_aload_n hx hb dX3_stepOn_47 rfl (lv_at hl 0 rfl) ?_
      refine va_get (D := D) (ci := 3) (v := .ref (aME 1)) (C := RX3) (T := TX3) (N := 9) hx hb hts iw_X3_stepOn_X3 hown hK hP 0 rfl rfl 1 (by decide) (hts (.fieldLink RX3 11 "SoldHouse$Memory" "now" "[I") (List.mem_of_getElem? (i := 5) rfl)) (fun _ h9 => h9) rfl dX3_stepOn_48 ?_
      refine lv_iconst (v := 0) hx hb dX3_stepOn_51 (by decide) ?_
      refine lv_bipush (v := 32) hx hb dX3_stepOn_52 (by decide) ?_
      refine zi_copy hx hb (by rw [hml]; exact hl.1.symm) hown (hts (.methodLink RX3 115 arraycopyName) (List.mem_of_getElem? (i := 6) rfl)) (hts (.native arraycopyName) (List.mem_of_getElem? (i := 7) rfl)) (hts (.static arraycopyName) (List.mem_of_getElem? (i := 8) rfl)) (hts (.initialized "java/lang/System") (List.mem_of_getElem? (i := 9) rfl)) hK hP hD hS 8 2 rfl rfl rfl (Nat.le_of_ble_eq_true rfl) (Nat.le_of_ble_eq_true rfl) dX3_stepOn_54 (fun H locs g54 e54 hP hD hS => ?_)
      have sg54 := zA_cpy e54 (w_KR 5 (by decide))
      replace hP : va_P D classes ([(ME, .inr (3, oX3 FL aME ME_oldest y15 y25)), ((aME 3), .inl (cG, 41, .inr (.inr (.inr (.inr ME_kept))))), ((aME 1), .inl (cI, 32, .inl g54))] ++ rw41 cI KRr KRf) H := hP
      replace hD : va_D A ([(ME, .inr (3, oX3 FL aME ME_oldest y15 y25)), ((aME 3), .inl (cG, 41, .inr (.inr (.inr (.inr ME_kept))))), ((aME 1), .inl (cI, 32, .inl g54))] ++ rw41 cI KRr KRf) := hD
      clear e54
      refine lv_iconst (v := 1) hx hb dX3_stepOn_57 (by decide) ?_
      exact W.zret (v := 1) (ty := .boolean) hx hb hr (by decide) (fun t ht hW => ⟨⟨1, (), rfl, (zB_w (show zB 1 1 1 from ⟨by decide, by decide⟩) (by decide) (by decide)), ⟨y15, y25, g54, (zB_w by15 (by decide) (by decide)), by25, sg54, (by have h9_0 := (by15).1; have h9_1 := (by15).2; have h9_2 := ry15; have h9_3 := (bhk_ME_done).1; have h9_4 := (bhk_ME_done).2; have h9_5 := (by25).1; have h9_6 := (by25).2; have h9_7 := ry25; have h9_8 := (bn4t_ME_undone).1; have h9_9 := (bn4t_ME_undone).2; have h9_10 := q_ME; omega), by rw [ht]; exact hP, hD⟩⟩, hS.F ht⟩) hS.2.2 dX3_stepOn_58
    · refine zz_alda (v := (KRr 6)) hx hb hK hP 1 4 rfl rfl (zB_in (show zB 6 6 6 from ⟨by decide, by decide⟩) (by decide) (by decide)) (k_ME_kept 6 (by decide)) dX3_stepOn_45 ?_
      refine lv_iconst (v := 0) hx hb dX3_stepOn_46 (by decide) ?_
      refine lv_aload_n hx hb dX3_stepOn_47 rfl (lv_at hl 0 rfl) ?_
      refine va_get (D := D) (ci := 3) (v := .ref (aME 1)) (C := RX3) (T := TX3) (N := 9) hx hb hts iw_X3_stepOn_X3 hown hK hP 0 rfl rfl 1 (by decide) (hts (.fieldLink RX3 11 "SoldHouse$Memory" "now" "[I") (List.mem_of_getElem? (i := 5) rfl)) (fun _ h9 => h9) rfl dX3_stepOn_48 ?_
      refine lv_iconst (v := 0) hx hb dX3_stepOn_51 (by decide) ?_
      refine lv_bipush (v := 32) hx hb dX3_stepOn_52 (by decide) ?_
      refine zi_copy hx hb (by rw [hml]; exact hl.1.symm) hown (hts (.methodLink RX3 115 arraycopyName) (List.mem_of_getElem? (i := 6) rfl)) (hts (.native arraycopyName) (List.mem_of_getElem? (i := 7) rfl)) (hts (.static arraycopyName) (List.mem_of_getElem? (i := 8) rfl)) (hts (.initialized "java/lang/System") (List.mem_of_getElem? (i := 9) rfl)) hK hP hD hS 9 2 rfl rfl rfl (Nat.le_of_ble_eq_true rfl) (Nat.le_of_ble_eq_true rfl) dX3_stepOn_54 (fun H locs g54 e54 hP hD hS => ?_)
      have sg54 := zA_cpy e54 (w_KR 6 (by decide))
      replace hP : va_P D classes ([(ME, .inr (3, oX3 FL aME ME_oldest y15 y25)), ((aME 3), .inl (cG, 41, .inr (.inr (.inr (.inr ME_kept))))), ((aME 1), .inl (cI, 32, .inl g54))] ++ rw41 cI KRr KRf) H := hP
      replace hD : va_D A ([(ME, .inr (3, oX3 FL aME ME_oldest y15 y25)), ((aME 3), .inl (cG, 41, .inr (.inr (.inr (.inr ME_kept))))), ((aME 1), .inl (cI, 32, .inl g54))] ++ rw41 cI KRr KRf) := hD
      clear e54
      refine lv_iconst (v := 1) hx hb dX3_stepOn_57 (by decide) ?_
      exact W.zret (v := 1) (ty := .boolean) hx hb hr (by decide) (fun t ht hW => ⟨⟨1, (), rfl, (zB_w (show zB 1 1 1 from ⟨by decide, by decide⟩) (by decide) (by decide)), ⟨y15, y25, g54, (zB_w by15 (by decide) (by decide)), by25, sg54, (by have h9_0 := (by15).1; have h9_1 := (by15).2; have h9_2 := ry15; have h9_3 := (bhk_ME_done).1; have h9_4 := (bhk_ME_done).2; have h9_5 := (by25).1; have h9_6 := (by25).2; have h9_7 := ry25; have h9_8 := (bn4t_ME_undone).1; have h9_9 := (bn4t_ME_undone).2; have h9_10 := q_ME; omega), by rw [ht]; exact hP, hD⟩⟩, hS.F ht⟩) hS.2.2 dX3_stepOn_58
    · refine zz_alda (v := (KRr 7)) hx hb hK hP 1 4 rfl rfl (zB_in (show zB 7 7 7 from ⟨by decide, by decide⟩) (by decide) (by decide)) (k_ME_kept 7 (by decide)) dX3_stepOn_45 ?_
      refine lv_iconst (v := 0) hx hb dX3_stepOn_46 (by decide) ?_
      refine lv_aload_n hx hb dX3_stepOn_47 rfl (lv_at hl 0 rfl) ?_
      refine va_get (D := D) (ci := 3) (v := .ref (aME 1)) (C := RX3) (T := TX3) (N := 9) hx hb hts iw_X3_stepOn_X3 hown hK hP 0 rfl rfl 1 (by decide) (hts (.fieldLink RX3 11 "SoldHouse$Memory" "now" "[I") (List.mem_of_getElem? (i := 5) rfl)) (fun _ h9 => h9) rfl dX3_stepOn_48 ?_
      refine lv_iconst (v := 0) hx hb dX3_stepOn_51 (by decide) ?_
      refine lv_bipush (v := 32) hx hb dX3_stepOn_52 (by decide) ?_
      refine zi_copy hx hb (by rw [hml]; exact hl.1.symm) hown (hts (.methodLink RX3 115 arraycopyName) (List.mem_of_getElem? (i := 6) rfl)) (hts (.native arraycopyName) (List.mem_of_getElem? (i := 7) rfl)) (hts (.static arraycopyName) (List.mem_of_getElem? (i := 8) rfl)) (hts (.initialized "java/lang/System") (List.mem_of_getElem? (i := 9) rfl)) hK hP hD hS 10 2 rfl rfl rfl (Nat.le_of_ble_eq_true rfl) (Nat.le_of_ble_eq_true rfl) dX3_stepOn_54 (fun H locs g54 e54 hP hD hS => ?_)
      have sg54 := zA_cpy e54 (w_KR 7 (by decide))
      replace hP : va_P D classes ([(ME, .inr (3, oX3 FL aME ME_oldest y15 y25)), ((aME 3), .inl (cG, 41, .inr (.inr (.inr (.inr ME_kept))))), ((aME 1), .inl (cI, 32, .inl g54))] ++ rw41 cI KRr KRf) H := hP
      replace hD : va_D A ([(ME, .inr (3, oX3 FL aME ME_oldest y15 y25)), ((aME 3), .inl (cG, 41, .inr (.inr (.inr (.inr ME_kept))))), ((aME 1), .inl (cI, 32, .inl g54))] ++ rw41 cI KRr KRf) := hD
      clear e54
      refine lv_iconst (v := 1) hx hb dX3_stepOn_57 (by decide) ?_
      exact W.zret (v := 1) (ty := .boolean) hx hb hr (by decide) (fun t ht hW => ⟨⟨1, (), rfl, (zB_w (show zB 1 1 1 from ⟨by decide, by decide⟩) (by decide) (by decide)), ⟨y15, y25, g54, (zB_w by15 (by decide) (by decide)), by25, sg54, (by have h9_0 := (by15).1; have h9_1 := (by15).2; have h9_2 := ry15; have h9_3 := (bhk_ME_done).1; have h9_4 := (bhk_ME_done).2; have h9_5 := (by25).1; have h9_6 := (by25).2; have h9_7 := ry25; have h9_8 := (bn4t_ME_undone).1; have h9_9 := (bn4t_ME_undone).2; have h9_10 := q_ME; omega), by rw [ht]; exact hP, hD⟩⟩, hS.F ht⟩) hS.2.2 dX3_stepOn_58
    · refine zz_alda (v := (KRr 8)) hx hb hK hP 1 4 rfl rfl (zB_in (show zB 8 8 8 from ⟨by decide, by decide⟩) (by decide) (by decide)) (k_ME_kept 8 (by decide)) dX3_stepOn_45 ?_
      refine lv_iconst (v := 0) hx hb dX3_stepOn_46 (by decide) ?_
      refine lv_aload_n hx hb dX3_stepOn_47 rfl (lv_at hl 0 rfl) ?_
      refine va_get (D := D) (ci := 3) (v := .ref (aME 1)) (C := RX3) (T := TX3) (N := 9) hx hb hts iw_X3_stepOn_X3 hown hK hP 0 rfl rfl 1 (by decide) (hts (.fieldLink RX3 11 "SoldHouse$Memory" "now" "[I") (List.mem_of_getElem? (i := 5) rfl)) (fun _ h9 => h9) rfl dX3_stepOn_48 ?_
      refine lv_iconst (v := 0) hx hb dX3_stepOn_51 (by decide) ?_
      refine lv_bipush (v := 32) hx hb dX3_stepOn_52 (by decide) ?_
      refine zi_copy hx hb (by rw [hml]; exact hl.1.symm) hown (hts (.methodLink RX3 115 arraycopyName) (List.mem_of_getElem? (i := 6) rfl)) (hts (.native arraycopyName) (List.mem_of_getElem? (i := 7) rfl)) (hts (.static arraycopyName) (List.mem_of_getElem? (i := 8) rfl)) (hts (.initialized "java/lang/System") (List.mem_of_getElem? (i := 9) rfl)) hK hP hD hS 11 2 rfl rfl rfl (Nat.le_of_ble_eq_true rfl) (Nat.le_of_ble_eq_true rfl) dX3_stepOn_54 (fun H locs g54 e54 hP hD hS => ?_)
      have sg54 := zA_cpy e54 (w_KR 8 (by decide))
      replace hP : va_P D classes ([(ME, .inr (3, oX3 FL aME ME_oldest y15 y25)), ((aME 3), .inl (cG, 41, .inr (.inr (.inr (.inr ME_kept))))), ((aME 1), .inl (cI, 32, .inl g54))] ++ rw41 cI KRr KRf) H := hP
      replace hD : va_D A ([(ME, .inr (3, oX3 FL aME ME_oldest y15 y25)), ((aME 3), .inl (cG, 41, .inr (.inr (.inr (.inr ME_kept))))), ((aME 1), .inl (cI, 32, .inl g54))] ++ rw41 cI KRr KRf) := hD
      clear e54
      refine lv_iconst (v := 1) hx hb dX3_stepOn_57 (by decide) ?_
      exact W.zret (v := 1) (ty := .boolean) hx hb hr (by decide) (fun t ht hW => ⟨⟨1, (), rfl, (zB_w (show zB 1 1 1 from ⟨by decide, by decide⟩) (by decide) (by decide)), ⟨y15, y25, g54, (zB_w by15 (by decide) (by decide)), by25, sg54, (by have h9_0 := (by15).1; have h9_1 := (by15).2; have h9_2 := ry15; have h9_3 := (bhk_ME_done).1; have h9_4 := (bhk_ME_done).2; have h9_5 := (by25).1; have h9_6 := (by25).2; have h9_7 := ry25; have h9_8 := (bn4t_ME_undone).1; have h9_9 := (bn4t_ME_undone).2; have h9_10 := q_ME; omega), by rw [ht]; exact hP, hD⟩⟩, hS.F ht⟩) hS.2.2 dX3_stepOn_58
    · refine zz_alda (v := (KRr 9)) hx hb hK hP 1 4 rfl rfl (zB_in (show zB 9 9 9 from ⟨by decide, by decide⟩) (by decide) (by decide)) (k_ME_kept 9 (by decide)) dX3_stepOn_45 ?_
      refine lv_iconst (v := 0) hx hb dX3_stepOn_46 (by decide) ?_
      refine lv_aload_n hx hb dX3_stepOn_47 rfl (lv_at hl 0 rfl) ?_
      refine va_get (D := D) (ci := 3) (v := .ref (aME 1)) (C := RX3) (T := TX3) (N := 9) hx hb hts iw_X3_stepOn_X3 hown hK hP 0 rfl rfl 1 (by decide) (hts (.fieldLink RX3 11 "SoldHouse$Memory" "now" "[I") (List.mem_of_getElem? (i := 5) rfl)) (fun _ h9 => h9) rfl dX3_stepOn_48 ?_
      refine lv_iconst (v := 0) hx hb dX3_stepOn_51 (by decide) ?_
      refine lv_bipush (v := 32) hx hb dX3_stepOn_52 (by decide) ?_
      refine zi_copy hx hb (by rw [hml]; exact hl.1.symm) hown (hts (.methodLink RX3 115 arraycopyName) (List.mem_of_getElem? (i := 6) rfl)) (hts (.native arraycopyName) (List.mem_of_getElem? (i := 7) rfl)) (hts (.static arraycopyName) (List.mem_of_getElem? (i := 8) rfl)) (hts (.initialized "java/lang/System") (List.mem_of_getElem? (i := 9) rfl)) hK hP hD hS 12 2 rfl rfl rfl (Nat.le_of_ble_eq_true rfl) (Nat.le_of_ble_eq_true rfl) dX3_stepOn_54 (fun H locs g54 e54 hP hD hS => ?_)
      have sg54 := zA_cpy e54 (w_KR 9 (by decide))
      replace hP : va_P D classes ([(ME, .inr (3, oX3 FL aME ME_oldest y15 y25)), ((aME 3), .inl (cG, 41, .inr (.inr (.inr (.inr ME_kept))))), ((aME 1), .inl (cI, 32, .inl g54))] ++ rw41 cI KRr KRf) H := hP
      replace hD : va_D A ([(ME, .inr (3, oX3 FL aME ME_oldest y15 y25)), ((aME 3), .inl (cG, 41, .inr (.inr (.inr (.inr ME_kept))))), ((aME 1), .inl (cI, 32, .inl g54))] ++ rw41 cI KRr KRf) := hD
      clear e54
      refine lv_iconst (v := 1) hx hb dX3_stepOn_57 (by decide) ?_
      exact W.zret (v := 1) (ty := .boolean) hx hb hr (by decide) (fun t ht hW => ⟨⟨1, (), rfl, (zB_w (show zB 1 1 1 from ⟨by decide, by decide⟩) (by decide) (by decide)), ⟨y15, y25, g54, (zB_w by15 (by decide) (by decide)), by25, sg54, (by have h9_0 := (by15).1; have h9_1 := (by15).2; have h9_2 := ry15; have h9_3 := (bhk_ME_done).1; have h9_4 := (bhk_ME_done).2; have h9_5 := (by25).1; have h9_6 := (by25).2; have h9_7 := ry25; have h9_8 := (bn4t_ME_undone).1; have h9_9 := (bn4t_ME_undone).2; have h9_10 := q_ME; omega), by rw [ht]; exact hP, hD⟩⟩, hS.F ht⟩) hS.2.2 dX3_stepOn_58
    · refine zz_alda (v := (KRr 10)) hx hb hK hP 1 4 rfl rfl (zB_in (show zB 10 10 10 from ⟨by decide, by decide⟩) (by decide) (by decide)) (k_ME_kept 10 (by decide)) dX3_stepOn_45 ?_
      refine lv_iconst (v := 0) hx hb dX3_stepOn_46 (by decide) ?_
      refine lv_aload_n hx hb dX3_stepOn_47 rfl (lv_at hl 0 rfl) ?_
      refine va_get (D := D) (ci := 3) (v := .ref (aME 1)) (C := RX3) (T := TX3) (N := 9) hx hb hts iw_X3_stepOn_X3 hown hK hP 0 rfl rfl 1 (by decide) (hts (.fieldLink RX3 11 "SoldHouse$Memory" "now" "[I") (List.mem_of_getElem? (i := 5) rfl)) (fun _ h9 => h9) rfl dX3_stepOn_48 ?_
      refine lv_iconst (v := 0) hx hb dX3_stepOn_51 (by decide) ?_
      refine lv_bipush (v := 32) hx hb dX3_stepOn_52 (by decide) ?_
      refine zi_copy hx hb (by rw [hml]; exact hl.1.symm) hown (hts (.methodLink RX3 115 arraycopyName) (List.mem_of_getElem? (i := 6) rfl)) (hts (.native arraycopyName) (List.mem_of_getElem? (i := 7) rfl)) (hts (.static arraycopyName) (List.mem_of_getElem? (i := 8) rfl)) (hts (.initialized "java/lang/System") (List.mem_of_getElem? (i := 9) rfl)) hK hP hD hS 13 2 rfl rfl rfl (Nat.le_of_ble_eq_true rfl) (Nat.le_of_ble_eq_true rfl) dX3_stepOn_54 (fun H locs g54 e54 hP hD hS => ?_)
      have sg54 := zA_cpy e54 (w_KR 10 (by decide))
      replace hP : va_P D classes ([(ME, .inr (3, oX3 FL aME ME_oldest y15 y25)), ((aME 3), .inl (cG, 41, .inr (.inr (.inr (.inr ME_kept))))), ((aME 1), .inl (cI, 32, .inl g54))] ++ rw41 cI KRr KRf) H := hP
      replace hD : va_D A ([(ME, .inr (3, oX3 FL aME ME_oldest y15 y25)), ((aME 3), .inl (cG, 41, .inr (.inr (.inr (.inr ME_kept))))), ((aME 1), .inl (cI, 32, .inl g54))] ++ rw41 cI KRr KRf) := hD
      clear e54
      refine lv_iconst (v := 1) hx hb dX3_stepOn_57 (by decide) ?_
      exact W.zret (v := 1) (ty := .boolean) hx hb hr (by decide) (fun t ht hW => ⟨⟨1, (), rfl, (zB_w (show zB 1 1 1 from ⟨by decide, by decide⟩) (by decide) (by decide)), ⟨y15, y25, g54, (zB_w by15 (by decide) (by decide)), by25, sg54, (by have h9_0 := (by15).1; have h9_1 := (by15).2; have h9_2 := ry15; have h9_3 := (bhk_ME_done).1; have h9_4 := (bhk_ME_done).2; have h9_5 := (by25).1; have h9_6 := (by25).2; have h9_7 := ry25; have h9_8 := (bn4t_ME_undone).1; have h9_9 := (bn4t_ME_undone).2; have h9_10 := q_ME; omega), by rw [ht]; exact hP, hD⟩⟩, hS.F ht⟩) hS.2.2 dX3_stepOn_58
    · refine zz_alda (v := (KRr 11)) hx hb hK hP 1 4 rfl rfl (zB_in (show zB 11 11 11 from ⟨by decide, by decide⟩) (by decide) (by decide)) (k_ME_kept 11 (by decide)) dX3_stepOn_45 ?_
      refine lv_iconst (v := 0) hx hb dX3_stepOn_46 (by decide) ?_
      refine lv_aload_n hx hb dX3_stepOn_47 rfl (lv_at hl 0 rfl) ?_
      refine va_get (D := D) (ci := 3) (v := .ref (aME 1)) (C := RX3) (T := TX3) (N := 9) hx hb hts iw_X3_stepOn_X3 hown hK hP 0 rfl rfl 1 (by decide) (hts (.fieldLink RX3 11 "SoldHouse$Memory" "now" "[I") (List.mem_of_getElem? (i := 5) rfl)) (fun _ h9 => h9) rfl dX3_stepOn_48 ?_
      refine lv_iconst (v := 0) hx hb dX3_stepOn_51 (by decide) ?_
      refine lv_bipush (v := 32) hx hb dX3_stepOn_52 (by decide) ?_
      refine zi_copy hx hb (by rw [hml]; exact hl.1.symm) hown (hts (.methodLink RX3 115 arraycopyName) (List.mem_of_getElem? (i := 6) rfl)) (hts (.native arraycopyName) (List.mem_of_getElem? (i := 7) rfl)) (hts (.static arraycopyName) (List.mem_of_getElem? (i := 8) rfl)) (hts (.initialized "java/lang/System") (List.mem_of_getElem? (i := 9) rfl)) hK hP hD hS 14 2 rfl rfl rfl (Nat.le_of_ble_eq_true rfl) (Nat.le_of_ble_eq_true rfl) dX3_stepOn_54 (fun H locs g54 e54 hP hD hS => ?_)
      have sg54 := zA_cpy e54 (w_KR 11 (by decide))
      replace hP : va_P D classes ([(ME, .inr (3, oX3 FL aME ME_oldest y15 y25)), ((aME 3), .inl (cG, 41, .inr (.inr (.inr (.inr ME_kept))))), ((aME 1), .inl (cI, 32, .inl g54))] ++ rw41 cI KRr KRf) H := hP
      replace hD : va_D A ([(ME, .inr (3, oX3 FL aME ME_oldest y15 y25)), ((aME 3), .inl (cG, 41, .inr (.inr (.inr (.inr ME_kept))))), ((aME 1), .inl (cI, 32, .inl g54))] ++ rw41 cI KRr KRf) := hD
      clear e54
      refine lv_iconst (v := 1) hx hb dX3_stepOn_57 (by decide) ?_
      exact W.zret (v := 1) (ty := .boolean) hx hb hr (by decide) (fun t ht hW => ⟨⟨1, (), rfl, (zB_w (show zB 1 1 1 from ⟨by decide, by decide⟩) (by decide) (by decide)), ⟨y15, y25, g54, (zB_w by15 (by decide) (by decide)), by25, sg54, (by have h9_0 := (by15).1; have h9_1 := (by15).2; have h9_2 := ry15; have h9_3 := (bhk_ME_done).1; have h9_4 := (bhk_ME_done).2; have h9_5 := (by25).1; have h9_6 := (by25).2; have h9_7 := ry25; have h9_8 := (bn4t_ME_undone).1; have h9_9 := (bn4t_ME_undone).2; have h9_10 := q_ME; omega), by rw [ht]; exact hP, hD⟩⟩, hS.F ht⟩) hS.2.2 dX3_stepOn_58
    · refine zz_alda (v := (KRr 12)) hx hb hK hP 1 4 rfl rfl (zB_in (show zB 12 12 12 from ⟨by decide, by decide⟩) (by decide) (by decide)) (k_ME_kept 12 (by decide)) dX3_stepOn_45 ?_
      refine lv_iconst (v := 0) hx hb dX3_stepOn_46 (by decide) ?_
      refine lv_aload_n hx hb dX3_stepOn_47 rfl (lv_at hl 0 rfl) ?_
      refine va_get (D := D) (ci := 3) (v := .ref (aME 1)) (C := RX3) (T := TX3) (N := 9) hx hb hts iw_X3_stepOn_X3 hown hK hP 0 rfl rfl 1 (by decide) (hts (.fieldLink RX3 11 "SoldHouse$Memory" "now" "[I") (List.mem_of_getElem? (i := 5) rfl)) (fun _ h9 => h9) rfl dX3_stepOn_48 ?_
      refine lv_iconst (v := 0) hx hb dX3_stepOn_51 (by decide) ?_
      refine lv_bipush (v := 32) hx hb dX3_stepOn_52 (by decide) ?_
      refine zi_copy hx hb (by rw [hml]; exact hl.1.symm) hown (hts (.methodLink RX3 115 arraycopyName) (List.mem_of_getElem? (i := 6) rfl)) (hts (.native arraycopyName) (List.mem_of_getElem? (i := 7) rfl)) (hts (.static arraycopyName) (List.mem_of_getElem? (i := 8) rfl)) (hts (.initialized "java/lang/System") (List.mem_of_getElem? (i := 9) rfl)) hK hP hD hS 15 2 rfl rfl rfl (Nat.le_of_ble_eq_true rfl) (Nat.le_of_ble_eq_true rfl) dX3_stepOn_54 (fun H locs g54 e54 hP hD hS => ?_)
      have sg54 := zA_cpy e54 (w_KR 12 (by decide))
      replace hP : va_P D classes ([(ME, .inr (3, oX3 FL aME ME_oldest y15 y25)), ((aME 3), .inl (cG, 41, .inr (.inr (.inr (.inr ME_kept))))), ((aME 1), .inl (cI, 32, .inl g54))] ++ rw41 cI KRr KRf) H := hP
      replace hD : va_D A ([(ME, .inr (3, oX3 FL aME ME_oldest y15 y25)), ((aME 3), .inl (cG, 41, .inr (.inr (.inr (.inr ME_kept))))), ((aME 1), .inl (cI, 32, .inl g54))] ++ rw41 cI KRr KRf) := hD
      clear e54
      refine lv_iconst (v := 1) hx hb dX3_stepOn_57 (by decide) ?_
      exact W.zret (v := 1) (ty := .boolean) hx hb hr (by decide) (fun t ht hW => ⟨⟨1, (), rfl, (zB_w (show zB 1 1 1 from ⟨by decide, by decide⟩) (by decide) (by decide)), ⟨y15, y25, g54, (zB_w by15 (by decide) (by decide)), by25, sg54, (by have h9_0 := (by15).1; have h9_1 := (by15).2; have h9_2 := ry15; have h9_3 := (bhk_ME_done).1; have h9_4 := (bhk_ME_done).2; have h9_5 := (by25).1; have h9_6 := (by25).2; have h9_7 := ry25; have h9_8 := (bn4t_ME_undone).1; have h9_9 := (bn4t_ME_undone).2; have h9_10 := q_ME; omega), by rw [ht]; exact hP, hD⟩⟩, hS.F ht⟩) hS.2.2 dX3_stepOn_58
    · refine zz_alda (v := (KRr 13)) hx hb hK hP 1 4 rfl rfl (zB_in (show zB 13 13 13 from ⟨by decide, by decide⟩) (by decide) (by decide)) (k_ME_kept 13 (by decide)) dX3_stepOn_45 ?_
      refine lv_iconst (v := 0) hx hb dX3_stepOn_46 (by decide) ?_
      refine lv_aload_n hx hb dX3_stepOn_47 rfl (lv_at hl 0 rfl) ?_
      refine va_get (D := D) (ci := 3) (v := .ref (aME 1)) (C := RX3) (T := TX3) (N := 9) hx hb hts iw_X3_stepOn_X3 hown hK hP 0 rfl rfl 1 (by decide) (hts (.fieldLink RX3 11 "SoldHouse$Memory" "now" "[I") (List.mem_of_getElem? (i := 5) rfl)) (fun _ h9 => h9) rfl dX3_stepOn_48 ?_
      refine lv_iconst (v := 0) hx hb dX3_stepOn_51 (by decide) ?_
      refine lv_bipush (v := 32) hx hb dX3_stepOn_52 (by decide) ?_
      refine zi_copy hx hb (by rw [hml]; exact hl.1.symm) hown (hts (.methodLink RX3 115 arraycopyName) (List.mem_of_getElem? (i := 6) rfl)) (hts (.native arraycopyName) (List.mem_of_getElem? (i := 7) rfl)) (hts (.static arraycopyName) (List.mem_of_getElem? (i := 8) rfl)) (hts (.initialized "java/lang/System") (List.mem_of_getElem? (i := 9) rfl)) hK hP hD hS 16 2 rfl rfl rfl (Nat.le_of_ble_eq_true rfl) (Nat.le_of_ble_eq_true rfl) dX3_stepOn_54 (fun H locs g54 e54 hP hD hS => ?_)
      have sg54 := zA_cpy e54 (w_KR 13 (by decide))
      replace hP : va_P D classes ([(ME, .inr (3, oX3 FL aME ME_oldest y15 y25)), ((aME 3), .inl (cG, 41, .inr (.inr (.inr (.inr ME_kept))))), ((aME 1), .inl (cI, 32, .inl g54))] ++ rw41 cI KRr KRf) H := hP
      replace hD : va_D A ([(ME, .inr (3, oX3 FL aME ME_oldest y15 y25)), ((aME 3), .inl (cG, 41, .inr (.inr (.inr (.inr ME_kept))))), ((aME 1), .inl (cI, 32, .inl g54))] ++ rw41 cI KRr KRf) := hD
      clear e54
      refine lv_iconst (v := 1) hx hb dX3_stepOn_57 (by decide) ?_
      exact W.zret (v := 1) (ty := .boolean) hx hb hr (by decide) (fun t ht hW => ⟨⟨1, (), rfl, (zB_w (show zB 1 1 1 from ⟨by decide, by decide⟩) (by decide) (by decide)), ⟨y15, y25, g54, (zB_w by15 (by decide) (by decide)), by25, sg54, (by have h9_0 := (by15).1; have h9_1 := (by15).2; have h9_2 := ry15; have h9_3 := (bhk_ME_done).1; have h9_4 := (bhk_ME_done).2; have h9_5 := (by25).1; have h9_6 := (by25).2; have h9_7 := ry25; have h9_8 := (bn4t_ME_undone).1; have h9_9 := (bn4t_ME_undone).2; have h9_10 := q_ME; omega), by rw [ht]; exact hP, hD⟩⟩, hS.F ht⟩) hS.2.2 dX3_stepOn_58
    · refine zz_alda (v := (KRr 14)) hx hb hK hP 1 4 rfl rfl (zB_in (show zB 14 14 14 from ⟨by decide, by decide⟩) (by decide) (by decide)) (k_ME_kept 14 (by decide)) dX3_stepOn_45 ?_
      refine lv_iconst (v := 0) hx hb dX3_stepOn_46 (by decide) ?_
      refine lv_aload_n hx hb dX3_stepOn_47 rfl (lv_at hl 0 rfl) ?_
      refine va_get (D := D) (ci := 3) (v := .ref (aME 1)) (C := RX3) (T := TX3) (N := 9) hx hb hts iw_X3_stepOn_X3 hown hK hP 0 rfl rfl 1 (by decide) (hts (.fieldLink RX3 11 "SoldHouse$Memory" "now" "[I") (List.mem_of_getElem? (i := 5) rfl)) (fun _ h9 => h9) rfl dX3_stepOn_48 ?_
      refine lv_iconst (v := 0) hx hb dX3_stepOn_51 (by decide) ?_
      refine lv_bipush (v := 32) hx hb dX3_stepOn_52 (by decide) ?_
      refine zi_copy hx hb (by rw [hml]; exact hl.1.symm) hown (hts (.methodLink RX3 115 arraycopyName) (List.mem_of_getElem? (i := 6) rfl)) (hts (.native arraycopyName) (List.mem_of_getElem? (i := 7) rfl)) (hts (.static arraycopyName) (List.mem_of_getElem? (i := 8) rfl)) (hts (.initialized "java/lang/System") (List.mem_of_getElem? (i := 9) rfl)) hK hP hD hS 17 2 rfl rfl rfl (Nat.le_of_ble_eq_true rfl) (Nat.le_of_ble_eq_true rfl) dX3_stepOn_54 (fun H locs g54 e54 hP hD hS => ?_)
      have sg54 := zA_cpy e54 (w_KR 14 (by decide))
      replace hP : va_P D classes ([(ME, .inr (3, oX3 FL aME ME_oldest y15 y25)), ((aME 3), .inl (cG, 41, .inr (.inr (.inr (.inr ME_kept))))), ((aME 1), .inl (cI, 32, .inl g54))] ++ rw41 cI KRr KRf) H := hP
      replace hD : va_D A ([(ME, .inr (3, oX3 FL aME ME_oldest y15 y25)), ((aME 3), .inl (cG, 41, .inr (.inr (.inr (.inr ME_kept))))), ((aME 1), .inl (cI, 32, .inl g54))] ++ rw41 cI KRr KRf) := hD
      clear e54
      refine lv_iconst (v := 1) hx hb dX3_stepOn_57 (by decide) ?_
      exact W.zret (v := 1) (ty := .boolean) hx hb hr (by decide) (fun t ht hW => ⟨⟨1, (), rfl, (zB_w (show zB 1 1 1 from ⟨by decide, by decide⟩) (by decide) (by decide)), ⟨y15, y25, g54, (zB_w by15 (by decide) (by decide)), by25, sg54, (by have h9_0 := (by15).1; have h9_1 := (by15).2; have h9_2 := ry15; have h9_3 := (bhk_ME_done).1; have h9_4 := (bhk_ME_done).2; have h9_5 := (by25).1; have h9_6 := (by25).2; have h9_7 := ry25; have h9_8 := (bn4t_ME_undone).1; have h9_9 := (bn4t_ME_undone).2; have h9_10 := q_ME; omega), by rw [ht]; exact hP, hD⟩⟩, hS.F ht⟩) hS.2.2 dX3_stepOn_58
    · refine zz_alda (v := (KRr 15)) hx hb hK hP 1 4 rfl rfl (zB_in (show zB 15 15 15 from ⟨by decide, by decide⟩) (by decide) (by decide)) (k_ME_kept 15 (by decide)) dX3_stepOn_45 ?_
      refine lv_iconst (v := 0) hx hb dX3_stepOn_46 (by decide) ?_
      refine lv_aload_n hx hb dX3_stepOn_47 rfl (lv_at hl 0 rfl) ?_
      refine va_get (D := D) (ci := 3) (v := .ref (aME 1)) (C := RX3) (T := TX3) (N := 9) hx hb hts iw_X3_stepOn_X3 hown hK hP 0 rfl rfl 1 (by decide) (hts (.fieldLink RX3 11 "SoldHouse$Memory" "now" "[I") (List.mem_of_getElem? (i := 5) rfl)) (fun _ h9 => h9) rfl dX3_stepOn_48 ?_
      refine lv_iconst (v := 0) hx hb dX3_stepOn_51 (by decide) ?_
      refine lv_bipush (v := 32) hx hb dX3_stepOn_52 (by decide) ?_
      refine zi_copy hx hb (by rw [hml]; exact hl.1.symm) hown (hts (.methodLink RX3 115 arraycopyName) (List.mem_of_getElem? (i := 6) rfl)) (hts (.native arraycopyName) (List.mem_of_getElem? (i := 7) rfl)) (hts (.static arraycopyName) (List.mem_of_getElem? (i := 8) rfl)) (hts (.initialized "java/lang/System") (List.mem_of_getElem? (i := 9) rfl)) hK hP hD hS 18 2 rfl rfl rfl (Nat.le_of_ble_eq_true rfl) (Nat.le_of_ble_eq_true rfl) dX3_stepOn_54 (fun H locs g54 e54 hP hD hS => ?_)
      have sg54 := zA_cpy e54 (w_KR 15 (by decide))
      replace hP : va_P D classes ([(ME, .inr (3, oX3 FL aME ME_oldest y15 y25)), ((aME 3), .inl (cG, 41, .inr (.inr (.inr (.inr ME_kept))))), ((aME 1), .inl (cI, 32, .inl g54))] ++ rw41 cI KRr KRf) H := hP
      replace hD : va_D A ([(ME, .inr (3, oX3 FL aME ME_oldest y15 y25)), ((aME 3), .inl (cG, 41, .inr (.inr (.inr (.inr ME_kept))))), ((aME 1), .inl (cI, 32, .inl g54))] ++ rw41 cI KRr KRf) := hD
      clear e54
      refine lv_iconst (v := 1) hx hb dX3_stepOn_57 (by decide) ?_
      exact W.zret (v := 1) (ty := .boolean) hx hb hr (by decide) (fun t ht hW => ⟨⟨1, (), rfl, (zB_w (show zB 1 1 1 from ⟨by decide, by decide⟩) (by decide) (by decide)), ⟨y15, y25, g54, (zB_w by15 (by decide) (by decide)), by25, sg54, (by have h9_0 := (by15).1; have h9_1 := (by15).2; have h9_2 := ry15; have h9_3 := (bhk_ME_done).1; have h9_4 := (bhk_ME_done).2; have h9_5 := (by25).1; have h9_6 := (by25).2; have h9_7 := ry25; have h9_8 := (bn4t_ME_undone).1; have h9_9 := (bn4t_ME_undone).2; have h9_10 := q_ME; omega), by rw [ht]; exact hP, hD⟩⟩, hS.F ht⟩) hS.2.2 dX3_stepOn_58
    · refine zz_alda (v := (KRr 16)) hx hb hK hP 1 4 rfl rfl (zB_in (show zB 16 16 16 from ⟨by decide, by decide⟩) (by decide) (by decide)) (k_ME_kept 16 (by decide)) dX3_stepOn_45 ?_
      refine lv_iconst (v := 0) hx hb dX3_stepOn_46 (by decide) ?_
      refine lv_aload_n hx hb dX3_stepOn_47 rfl (lv_at hl 0 rfl) ?_
      refine va_get (D := D) (ci := 3) (v := .ref (aME 1)) (C := RX3) (T := TX3) (N := 9) hx hb hts iw_X3_stepOn_X3 hown hK hP 0 rfl rfl 1 (by decide) (hts (.fieldLink RX3 11 "SoldHouse$Memory" "now" "[I") (List.mem_of_getElem? (i := 5) rfl)) (fun _ h9 => h9) rfl dX3_stepOn_48 ?_
      refine lv_iconst (v := 0) hx hb dX3_stepOn_51 (by decide) ?_
      refine lv_bipush (v := 32) hx hb dX3_stepOn_52 (by decide) ?_
      refine zi_copy hx hb (by rw [hml]; exact hl.1.symm) hown (hts (.methodLink RX3 115 arraycopyName) (List.mem_of_getElem? (i := 6) rfl)) (hts (.native arraycopyName) (List.mem_of_getElem? (i := 7) rfl)) (hts (.static arraycopyName) (List.mem_of_getElem? (i := 8) rfl)) (hts (.initialized "java/lang/System") (List.mem_of_getElem? (i := 9) rfl)) hK hP hD hS 19 2 rfl rfl rfl (Nat.le_of_ble_eq_true rfl) (Nat.le_of_ble_eq_true rfl) dX3_stepOn_54 (fun H locs g54 e54 hP hD hS => ?_)
      have sg54 := zA_cpy e54 (w_KR 16 (by decide))
      replace hP : va_P D classes ([(ME, .inr (3, oX3 FL aME ME_oldest y15 y25)), ((aME 3), .inl (cG, 41, .inr (.inr (.inr (.inr ME_kept))))), ((aME 1), .inl (cI, 32, .inl g54))] ++ rw41 cI KRr KRf) H := hP
      replace hD : va_D A ([(ME, .inr (3, oX3 FL aME ME_oldest y15 y25)), ((aME 3), .inl (cG, 41, .inr (.inr (.inr (.inr ME_kept))))), ((aME 1), .inl (cI, 32, .inl g54))] ++ rw41 cI KRr KRf) := hD
      clear e54
      refine lv_iconst (v := 1) hx hb dX3_stepOn_57 (by decide) ?_
      exact W.zret (v := 1) (ty := .boolean) hx hb hr (by decide) (fun t ht hW => ⟨⟨1, (), rfl, (zB_w (show zB 1 1 1 from ⟨by decide, by decide⟩) (by decide) (by decide)), ⟨y15, y25, g54, (zB_w by15 (by decide) (by decide)), by25, sg54, (by have h9_0 := (by15).1; have h9_1 := (by15).2; have h9_2 := ry15; have h9_3 := (bhk_ME_done).1; have h9_4 := (bhk_ME_done).2; have h9_5 := (by25).1; have h9_6 := (by25).2; have h9_7 := ry25; have h9_8 := (bn4t_ME_undone).1; have h9_9 := (bn4t_ME_undone).2; have h9_10 := q_ME; omega), by rw [ht]; exact hP, hD⟩⟩, hS.F ht⟩) hS.2.2 dX3_stepOn_58
    · refine zz_alda (v := (KRr 17)) hx hb hK hP 1 4 rfl rfl (zB_in (show zB 17 17 17 from ⟨by decide, by decide⟩) (by decide) (by decide)) (k_ME_kept 17 (by decide)) dX3_stepOn_45 ?_
      refine lv_iconst (v := 0) hx hb dX3_stepOn_46 (by decide) ?_
      refine lv_aload_n hx hb dX3_stepOn_47 rfl (lv_at hl 0 rfl) ?_
      refine va_get (D := D) (ci := 3) (v := .ref (aME 1)) (C := RX3) (T := TX3) (N := 9) hx hb hts iw_X3_stepOn_X3 hown hK hP 0 rfl rfl 1 (by decide) (hts (.fieldLink RX3 11 "SoldHouse$Memory" "now" "[I") (List.mem_of_getElem? (i := 5) rfl)) (fun _ h9 => h9) rfl dX3_stepOn_48 ?_
      refine lv_iconst (v := 0) hx hb dX3_stepOn_51 (by decide) ?_
      refine lv_bipush (v := 32) hx hb dX3_stepOn_52 (by decide) ?_
      refine zi_copy hx hb (by rw [hml]; exact hl.1.symm) hown (hts (.methodLink RX3 115 arraycopyName) (List.mem_of_getElem? (i := 6) rfl)) (hts (.native arraycopyName) (List.mem_of_getElem? (i := 7) rfl)) (hts (.static arraycopyName) (List.mem_of_getElem? (i := 8) rfl)) (hts (.initialized "java/lang/System") (List.mem_of_getElem? (i := 9) rfl)) hK hP hD hS 20 2 rfl rfl rfl (Nat.le_of_ble_eq_true rfl) (Nat.le_of_ble_eq_true rfl) dX3_stepOn_54 (fun H locs g54 e54 hP hD hS => ?_)
      have sg54 := zA_cpy e54 (w_KR 17 (by decide))
      replace hP : va_P D classes ([(ME, .inr (3, oX3 FL aME ME_oldest y15 y25)), ((aME 3), .inl (cG, 41, .inr (.inr (.inr (.inr ME_kept))))), ((aME 1), .inl (cI, 32, .inl g54))] ++ rw41 cI KRr KRf) H := hP
      replace hD : va_D A ([(ME, .inr (3, oX3 FL aME ME_oldest y15 y25)), ((aME 3), .inl (cG, 41, .inr (.inr (.inr (.inr ME_kept))))), ((aME 1), .inl (cI, 32, .inl g54))] ++ rw41 cI KRr KRf) := hD
      clear e54
      refine lv_iconst (v := 1) hx hb dX3_stepOn_57 (by decide) ?_
      exact W.zret (v := 1) (ty := .boolean) hx hb hr (by decide) (fun t ht hW => ⟨⟨1, (), rfl, (zB_w (show zB 1 1 1 from ⟨by decide, by decide⟩) (by decide) (by decide)), ⟨y15, y25, g54, (zB_w by15 (by decide) (by decide)), by25, sg54, (by have h9_0 := (by15).1; have h9_1 := (by15).2; have h9_2 := ry15; have h9_3 := (bhk_ME_done).1; have h9_4 := (bhk_ME_done).2; have h9_5 := (by25).1; have h9_6 := (by25).2; have h9_7 := ry25; have h9_8 := (bn4t_ME_undone).1; have h9_9 := (bn4t_ME_undone).2; have h9_10 := q_ME; omega), by rw [ht]; exact hP, hD⟩⟩, hS.F ht⟩) hS.2.2 dX3_stepOn_58
    · refine zz_alda (v := (KRr 18)) hx hb hK hP 1 4 rfl rfl (zB_in (show zB 18 18 18 from ⟨by decide, by decide⟩) (by decide) (by decide)) (k_ME_kept 18 (by decide)) dX3_stepOn_45 ?_
      refine lv_iconst (v := 0) hx hb dX3_stepOn_46 (by decide) ?_
      refine lv_aload_n hx hb dX3_stepOn_47 rfl (lv_at hl 0 rfl) ?_
      refine va_get (D := D) (ci := 3) (v := .ref (aME 1)) (C := RX3) (T := TX3) (N := 9) hx hb hts iw_X3_stepOn_X3 hown hK hP 0 rfl rfl 1 (by decide) (hts (.fieldLink RX3 11 "SoldHouse$Memory" "now" "[I") (List.mem_of_getElem? (i := 5) rfl)) (fun _ h9 => h9) rfl dX3_stepOn_48 ?_
      refine lv_iconst (v := 0) hx hb dX3_stepOn_51 (by decide) ?_
      refine lv_bipush (v := 32) hx hb dX3_stepOn_52 (by decide) ?_
      refine zi_copy hx hb (by rw [hml]; exact hl.1.symm) hown (hts (.methodLink RX3 115 arraycopyName) (List.mem_of_getElem? (i := 6) rfl)) (hts (.native arraycopyName) (List.mem_of_getElem? (i := 7) rfl)) (hts (.static arraycopyName) (List.mem_of_getElem? (i := 8) rfl)) (hts (.initialized "java/lang/System") (List.mem_of_getElem? (i := 9) rfl)) hK hP hD hS 21 2 rfl rfl rfl (Nat.le_of_ble_eq_true rfl) (Nat.le_of_ble_eq_true rfl) dX3_stepOn_54 (fun H locs g54 e54 hP hD hS => ?_)
      have sg54 := zA_cpy e54 (w_KR 18 (by decide))
      replace hP : va_P D classes ([(ME, .inr (3, oX3 FL aME ME_oldest y15 y25)), ((aME 3), .inl (cG, 41, .inr (.inr (.inr (.inr ME_kept))))), ((aME 1), .inl (cI, 32, .inl g54))] ++ rw41 cI KRr KRf) H := hP
      replace hD : va_D A ([(ME, .inr (3, oX3 FL aME ME_oldest y15 y25)), ((aME 3), .inl (cG, 41, .inr (.inr (.inr (.inr ME_kept))))), ((aME 1), .inl (cI, 32, .inl g54))] ++ rw41 cI KRr KRf) := hD
      clear e54
      refine lv_iconst (v := 1) hx hb dX3_stepOn_57 (by decide) ?_
      exact W.zret (v := 1) (ty := .boolean) hx hb hr (by decide) (fun t ht hW => ⟨⟨1, (), rfl, (zB_w (show zB 1 1 1 from ⟨by decide, by decide⟩) (by decide) (by decide)), ⟨y15, y25, g54, (zB_w by15 (by decide) (by decide)), by25, sg54, (by have h9_0 := (by15).1; have h9_1 := (by15).2; have h9_2 := ry15; have h9_3 := (bhk_ME_done).1; have h9_4 := (bhk_ME_done).2; have h9_5 := (by25).1; have h9_6 := (by25).2; have h9_7 := ry25; have h9_8 := (bn4t_ME_undone).1; have h9_9 := (bn4t_ME_undone).2; have h9_10 := q_ME; omega), by rw [ht]; exact hP, hD⟩⟩, hS.F ht⟩) hS.2.2 dX3_stepOn_58
    · refine zz_alda (v := (KRr 19)) hx hb hK hP 1 4 rfl rfl (zB_in (show zB 19 19 19 from ⟨by decide, by decide⟩) (by decide) (by decide)) (k_ME_kept 19 (by decide)) dX3_stepOn_45 ?_
      refine lv_iconst (v := 0) hx hb dX3_stepOn_46 (by decide) ?_
      refine lv_aload_n hx hb dX3_stepOn_47 rfl (lv_at hl 0 rfl) ?_
      refine va_get (D := D) (ci := 3) (v := .ref (aME 1)) (C := RX3) (T := TX3) (N := 9) hx hb hts iw_X3_stepOn_X3 hown hK hP 0 rfl rfl 1 (by decide) (hts (.fieldLink RX3 11 "SoldHouse$Memory" "now" "[I") (List.mem_of_getElem? (i := 5) rfl)) (fun _ h9 => h9) rfl dX3_stepOn_48 ?_
      refine lv_iconst (v := 0) hx hb dX3_stepOn_51 (by decide) ?_
      refine lv_bipush (v := 32) hx hb dX3_stepOn_52 (by decide) ?_
      refine zi_copy hx hb (by rw [hml]; exact hl.1.symm) hown (hts (.methodLink RX3 115 arraycopyName) (List.mem_of_getElem? (i := 6) rfl)) (hts (.native arraycopyName) (List.mem_of_getElem? (i := 7) rfl)) (hts (.static arraycopyName) (List.mem_of_getElem? (i := 8) rfl)) (hts (.initialized "java/lang/System") (List.mem_of_getElem? (i := 9) rfl)) hK hP hD hS 22 2 rfl rfl rfl (Nat.le_of_ble_eq_true rfl) (Nat.le_of_ble_eq_true rfl) dX3_stepOn_54 (fun H locs g54 e54 hP hD hS => ?_)
      have sg54 := zA_cpy e54 (w_KR 19 (by decide))
      replace hP : va_P D classes ([(ME, .inr (3, oX3 FL aME ME_oldest y15 y25)), ((aME 3), .inl (cG, 41, .inr (.inr (.inr (.inr ME_kept))))), ((aME 1), .inl (cI, 32, .inl g54))] ++ rw41 cI KRr KRf) H := hP
      replace hD : va_D A ([(ME, .inr (3, oX3 FL aME ME_oldest y15 y25)), ((aME 3), .inl (cG, 41, .inr (.inr (.inr (.inr ME_kept))))), ((aME 1), .inl (cI, 32, .inl g54))] ++ rw41 cI KRr KRf) := hD
      clear e54
      refine lv_iconst (v := 1) hx hb dX3_stepOn_57 (by decide) ?_
      exact W.zret (v := 1) (ty := .boolean) hx hb hr (by decide) (fun t ht hW => ⟨⟨1, (), rfl, (zB_w (show zB 1 1 1 from ⟨by decide, by decide⟩) (by decide) (by decide)), ⟨y15, y25, g54, (zB_w by15 (by decide) (by decide)), by25, sg54, (by have h9_0 := (by15).1; have h9_1 := (by15).2; have h9_2 := ry15; have h9_3 := (bhk_ME_done).1; have h9_4 := (bhk_ME_done).2; have h9_5 := (by25).1; have h9_6 := (by25).2; have h9_7 := ry25; have h9_8 := (bn4t_ME_undone).1; have h9_9 := (bn4t_ME_undone).2; have h9_10 := q_ME; omega), by rw [ht]; exact hP, hD⟩⟩, hS.F ht⟩) hS.2.2 dX3_stepOn_58
    · refine zz_alda (v := (KRr 20)) hx hb hK hP 1 4 rfl rfl (zB_in (show zB 20 20 20 from ⟨by decide, by decide⟩) (by decide) (by decide)) (k_ME_kept 20 (by decide)) dX3_stepOn_45 ?_
      refine lv_iconst (v := 0) hx hb dX3_stepOn_46 (by decide) ?_
      refine lv_aload_n hx hb dX3_stepOn_47 rfl (lv_at hl 0 rfl) ?_
      refine va_get (D := D) (ci := 3) (v := .ref (aME 1)) (C := RX3) (T := TX3) (N := 9) hx hb hts iw_X3_stepOn_X3 hown hK hP 0 rfl rfl 1 (by decide) (hts (.fieldLink RX3 11 "SoldHouse$Memory" "now" "[I") (List.mem_of_getElem? (i := 5) rfl)) (fun _ h9 => h9) rfl dX3_stepOn_48 ?_
      refine lv_iconst (v := 0) hx hb dX3_stepOn_51 (by decide) ?_
      refine lv_bipush (v := 32) hx hb dX3_stepOn_52 (by decide) ?_
      refine zi_copy hx hb (by rw [hml]; exact hl.1.symm) hown (hts (.methodLink RX3 115 arraycopyName) (List.mem_of_getElem? (i := 6) rfl)) (hts (.native arraycopyName) (List.mem_of_getElem? (i := 7) rfl)) (hts (.static arraycopyName) (List.mem_of_getElem? (i := 8) rfl)) (hts (.initialized "java/lang/System") (List.mem_of_getElem? (i := 9) rfl)) hK hP hD hS 23 2 rfl rfl rfl (Nat.le_of_ble_eq_true rfl) (Nat.le_of_ble_eq_true rfl) dX3_stepOn_54 (fun H locs g54 e54 hP hD hS => ?_)
      have sg54 := zA_cpy e54 (w_KR 20 (by decide))
      replace hP : va_P D classes ([(ME, .inr (3, oX3 FL aME ME_oldest y15 y25)), ((aME 3), .inl (cG, 41, .inr (.inr (.inr (.inr ME_kept))))), ((aME 1), .inl (cI, 32, .inl g54))] ++ rw41 cI KRr KRf) H := hP
      replace hD : va_D A ([(ME, .inr (3, oX3 FL aME ME_oldest y15 y25)), ((aME 3), .inl (cG, 41, .inr (.inr (.inr (.inr ME_kept))))), ((aME 1), .inl (cI, 32, .inl g54))] ++ rw41 cI KRr KRf) := hD
      clear e54
      refine lv_iconst (v := 1) hx hb dX3_stepOn_57 (by decide) ?_
      exact W.zret (v := 1) (ty := .boolean) hx hb hr (by decide) (fun t ht hW => ⟨⟨1, (), rfl, (zB_w (show zB 1 1 1 from ⟨by decide, by decide⟩) (by decide) (by decide)), ⟨y15, y25, g54, (zB_w by15 (by decide) (by decide)), by25, sg54, (by have h9_0 := (by15).1; have h9_1 := (by15).2; have h9_2 := ry15; have h9_3 := (bhk_ME_done).1; have h9_4 := (bhk_ME_done).2; have h9_5 := (by25).1; have h9_6 := (by25).2; have h9_7 := ry25; have h9_8 := (bn4t_ME_undone).1; have h9_9 := (bn4t_ME_undone).2; have h9_10 := q_ME; omega), by rw [ht]; exact hP, hD⟩⟩, hS.F ht⟩) hS.2.2 dX3_stepOn_58
    · refine zz_alda (v := (KRr 21)) hx hb hK hP 1 4 rfl rfl (zB_in (show zB 21 21 21 from ⟨by decide, by decide⟩) (by decide) (by decide)) (k_ME_kept 21 (by decide)) dX3_stepOn_45 ?_
      refine lv_iconst (v := 0) hx hb dX3_stepOn_46 (by decide) ?_
      refine lv_aload_n hx hb dX3_stepOn_47 rfl (lv_at hl 0 rfl) ?_
      refine va_get (D := D) (ci := 3) (v := .ref (aME 1)) (C := RX3) (T := TX3) (N := 9) hx hb hts iw_X3_stepOn_X3 hown hK hP 0 rfl rfl 1 (by decide) (hts (.fieldLink RX3 11 "SoldHouse$Memory" "now" "[I") (List.mem_of_getElem? (i := 5) rfl)) (fun _ h9 => h9) rfl dX3_stepOn_48 ?_
      refine lv_iconst (v := 0) hx hb dX3_stepOn_51 (by decide) ?_
      refine lv_bipush (v := 32) hx hb dX3_stepOn_52 (by decide) ?_
      refine zi_copy hx hb (by rw [hml]; exact hl.1.symm) hown (hts (.methodLink RX3 115 arraycopyName) (List.mem_of_getElem? (i := 6) rfl)) (hts (.native arraycopyName) (List.mem_of_getElem? (i := 7) rfl)) (hts (.static arraycopyName) (List.mem_of_getElem? (i := 8) rfl)) (hts (.initialized "java/lang/System") (List.mem_of_getElem? (i := 9) rfl)) hK hP hD hS 24 2 rfl rfl rfl (Nat.le_of_ble_eq_true rfl) (Nat.le_of_ble_eq_true rfl) dX3_stepOn_54 (fun H locs g54 e54 hP hD hS => ?_)
      have sg54 := zA_cpy e54 (w_KR 21 (by decide))
      replace hP : va_P D classes ([(ME, .inr (3, oX3 FL aME ME_oldest y15 y25)), ((aME 3), .inl (cG, 41, .inr (.inr (.inr (.inr ME_kept))))), ((aME 1), .inl (cI, 32, .inl g54))] ++ rw41 cI KRr KRf) H := hP
      replace hD : va_D A ([(ME, .inr (3, oX3 FL aME ME_oldest y15 y25)), ((aME 3), .inl (cG, 41, .inr (.inr (.inr (.inr ME_kept))))), ((aME 1), .inl (cI, 32, .inl g54))] ++ rw41 cI KRr KRf) := hD
      clear e54
      refine lv_iconst (v := 1) hx hb dX3_stepOn_57 (by decide) ?_
      exact W.zret (v := 1) (ty := .boolean) hx hb hr (by decide) (fun t ht hW => ⟨⟨1, (), rfl, (zB_w (show zB 1 1 1 from ⟨by decide, by decide⟩) (by decide) (by decide)), ⟨y15, y25, g54, (zB_w by15 (by decide) (by decide)), by25, sg54, (by have h9_0 := (by15).1; have h9_1 := (by15).2; have h9_2 := ry15; have h9_3 := (bhk_ME_done).1; have h9_4 := (bhk_ME_done).2; have h9_5 := (by25).1; have h9_6 := (by25).2; have h9_7 := ry25; have h9_8 := (bn4t_ME_undone).1; have h9_9 := (bn4t_ME_undone).2; have h9_10 := q_ME; omega), by rw [ht]; exact hP, hD⟩⟩, hS.F ht⟩) hS.2.2 dX3_stepOn_58
    · refine zz_alda (v := (KRr 22)) hx hb hK hP 1 4 rfl rfl (zB_in (show zB 22 22 22 from ⟨by decide, by decide⟩) (by decide) (by decide)) (k_ME_kept 22 (by decide)) dX3_stepOn_45 ?_
      refine lv_iconst (v := 0) hx hb dX3_stepOn_46 (by decide) ?_
      refine lv_aload_n hx hb dX3_stepOn_47 rfl (lv_at hl 0 rfl) ?_
      refine va_get (D := D) (ci := 3) (v := .ref (aME 1)) (C := RX3) (T := TX3) (N := 9) hx hb hts iw_X3_stepOn_X3 hown hK hP 0 rfl rfl 1 (by decide) (hts (.fieldLink RX3 11 "SoldHouse$Memory" "now" "[I") (List.mem_of_getElem? (i := 5) rfl)) (fun _ h9 => h9) rfl dX3_stepOn_48 ?_
      refine lv_iconst (v := 0) hx hb dX3_stepOn_51 (by decide) ?_
      refine lv_bipush (v := 32) hx hb dX3_stepOn_52 (by decide) ?_
      refine zi_copy hx hb (by rw [hml]; exact hl.1.symm) hown (hts (.methodLink RX3 115 arraycopyName) (List.mem_of_getElem? (i := 6) rfl)) (hts (.native arraycopyName) (List.mem_of_getElem? (i := 7) rfl)) (hts (.static arraycopyName) (List.mem_of_getElem? (i := 8) rfl)) (hts (.initialized "java/lang/System") (List.mem_of_getElem? (i := 9) rfl)) hK hP hD hS 25 2 rfl rfl rfl (Nat.le_of_ble_eq_true rfl) (Nat.le_of_ble_eq_true rfl) dX3_stepOn_54 (fun H locs g54 e54 hP hD hS => ?_)
      have sg54 := zA_cpy e54 (w_KR 22 (by decide))
      replace hP : va_P D classes ([(ME, .inr (3, oX3 FL aME ME_oldest y15 y25)), ((aME 3), .inl (cG, 41, .inr (.inr (.inr (.inr ME_kept))))), ((aME 1), .inl (cI, 32, .inl g54))] ++ rw41 cI KRr KRf) H := hP
      replace hD : va_D A ([(ME, .inr (3, oX3 FL aME ME_oldest y15 y25)), ((aME 3), .inl (cG, 41, .inr (.inr (.inr (.inr ME_kept))))), ((aME 1), .inl (cI, 32, .inl g54))] ++ rw41 cI KRr KRf) := hD
      clear e54
      refine lv_iconst (v := 1) hx hb dX3_stepOn_57 (by decide) ?_
      exact W.zret (v := 1) (ty := .boolean) hx hb hr (by decide) (fun t ht hW => ⟨⟨1, (), rfl, (zB_w (show zB 1 1 1 from ⟨by decide, by decide⟩) (by decide) (by decide)), ⟨y15, y25, g54, (zB_w by15 (by decide) (by decide)), by25, sg54, (by have h9_0 := (by15).1; have h9_1 := (by15).2; have h9_2 := ry15; have h9_3 := (bhk_ME_done).1; have h9_4 := (bhk_ME_done).2; have h9_5 := (by25).1; have h9_6 := (by25).2; have h9_7 := ry25; have h9_8 := (bn4t_ME_undone).1; have h9_9 := (bn4t_ME_undone).2; have h9_10 := q_ME; omega), by rw [ht]; exact hP, hD⟩⟩, hS.F ht⟩) hS.2.2 dX3_stepOn_58
    · refine zz_alda (v := (KRr 23)) hx hb hK hP 1 4 rfl rfl (zB_in (show zB 23 23 23 from ⟨by decide, by decide⟩) (by decide) (by decide)) (k_ME_kept 23 (by decide)) dX3_stepOn_45 ?_
      refine lv_iconst (v := 0) hx hb dX3_stepOn_46 (by decide) ?_
      refine lv_aload_n hx hb dX3_stepOn_47 rfl (lv_at hl 0 rfl) ?_
      refine va_get (D := D) (ci := 3) (v := .ref (aME 1)) (C := RX3) (T := TX3) (N := 9) hx hb hts iw_X3_stepOn_X3 hown hK hP 0 rfl rfl 1 (by decide) (hts (.fieldLink RX3 11 "SoldHouse$Memory" "now" "[I") (List.mem_of_getElem? (i := 5) rfl)) (fun _ h9 => h9) rfl dX3_stepOn_48 ?_
      refine lv_iconst (v := 0) hx hb dX3_stepOn_51 (by decide) ?_
      refine lv_bipush (v := 32) hx hb dX3_stepOn_52 (by decide) ?_
      refine zi_copy hx hb (by rw [hml]; exact hl.1.symm) hown (hts (.methodLink RX3 115 arraycopyName) (List.mem_of_getElem? (i := 6) rfl)) (hts (.native arraycopyName) (List.mem_of_getElem? (i := 7) rfl)) (hts (.static arraycopyName) (List.mem_of_getElem? (i := 8) rfl)) (hts (.initialized "java/lang/System") (List.mem_of_getElem? (i := 9) rfl)) hK hP hD hS 26 2 rfl rfl rfl (Nat.le_of_ble_eq_true rfl) (Nat.le_of_ble_eq_true rfl) dX3_stepOn_54 (fun H locs g54 e54 hP hD hS => ?_)
      have sg54 := zA_cpy e54 (w_KR 23 (by decide))
      replace hP : va_P D classes ([(ME, .inr (3, oX3 FL aME ME_oldest y15 y25)), ((aME 3), .inl (cG, 41, .inr (.inr (.inr (.inr ME_kept))))), ((aME 1), .inl (cI, 32, .inl g54))] ++ rw41 cI KRr KRf) H := hP
      replace hD : va_D A ([(ME, .inr (3, oX3 FL aME ME_oldest y15 y25)), ((aME 3), .inl (cG, 41, .inr (.inr (.inr (.inr ME_kept))))), ((aME 1), .inl (cI, 32, .inl g54))] ++ rw41 cI KRr KRf) := hD
      clear e54
      refine lv_iconst (v := 1) hx hb dX3_stepOn_57 (by decide) ?_
      exact W.zret (v := 1) (ty := .boolean) hx hb hr (by decide) (fun t ht hW => ⟨⟨1, (), rfl, (zB_w (show zB 1 1 1 from ⟨by decide, by decide⟩) (by decide) (by decide)), ⟨y15, y25, g54, (zB_w by15 (by decide) (by decide)), by25, sg54, (by have h9_0 := (by15).1; have h9_1 := (by15).2; have h9_2 := ry15; have h9_3 := (bhk_ME_done).1; have h9_4 := (bhk_ME_done).2; have h9_5 := (by25).1; have h9_6 := (by25).2; have h9_7 := ry25; have h9_8 := (bn4t_ME_undone).1; have h9_9 := (bn4t_ME_undone).2; have h9_10 := q_ME; omega), by rw [ht]; exact hP, hD⟩⟩, hS.F ht⟩) hS.2.2 dX3_stepOn_58
    · refine zz_alda (v := (KRr 24)) hx hb hK hP 1 4 rfl rfl (zB_in (show zB 24 24 24 from ⟨by decide, by decide⟩) (by decide) (by decide)) (k_ME_kept 24 (by decide)) dX3_stepOn_45 ?_
      refine lv_iconst (v := 0) hx hb dX3_stepOn_46 (by decide) ?_
      refine lv_aload_n hx hb dX3_stepOn_47 rfl (lv_at hl 0 rfl) ?_
      refine va_get (D := D) (ci := 3) (v := .ref (aME 1)) (C := RX3) (T := TX3) (N := 9) hx hb hts iw_X3_stepOn_X3 hown hK hP 0 rfl rfl 1 (by decide) (hts (.fieldLink RX3 11 "SoldHouse$Memory" "now" "[I") (List.mem_of_getElem? (i := 5) rfl)) (fun _ h9 => h9) rfl dX3_stepOn_48 ?_
      refine lv_iconst (v := 0) hx hb dX3_stepOn_51 (by decide) ?_
      refine lv_bipush (v := 32) hx hb dX3_stepOn_52 (by decide) ?_
      refine zi_copy hx hb (by rw [hml]; exact hl.1.symm) hown (hts (.methodLink RX3 115 arraycopyName) (List.mem_of_getElem? (i := 6) rfl)) (hts (.native arraycopyName) (List.mem_of_getElem? (i := 7) rfl)) (hts (.static arraycopyName) (List.mem_of_getElem? (i := 8) rfl)) (hts (.initialized "java/lang/System") (List.mem_of_getElem? (i := 9) rfl)) hK hP hD hS 27 2 rfl rfl rfl (Nat.le_of_ble_eq_true rfl) (Nat.le_of_ble_eq_true rfl) dX3_stepOn_54 (fun H locs g54 e54 hP hD hS => ?_)
      have sg54 := zA_cpy e54 (w_KR 24 (by decide))
      replace hP : va_P D classes ([(ME, .inr (3, oX3 FL aME ME_oldest y15 y25)), ((aME 3), .inl (cG, 41, .inr (.inr (.inr (.inr ME_kept))))), ((aME 1), .inl (cI, 32, .inl g54))] ++ rw41 cI KRr KRf) H := hP
      replace hD : va_D A ([(ME, .inr (3, oX3 FL aME ME_oldest y15 y25)), ((aME 3), .inl (cG, 41, .inr (.inr (.inr (.inr ME_kept))))), ((aME 1), .inl (cI, 32, .inl g54))] ++ rw41 cI KRr KRf) := hD
      clear e54
      refine lv_iconst (v := 1) hx hb dX3_stepOn_57 (by decide) ?_
      exact W.zret (v := 1) (ty := .boolean) hx hb hr (by decide) (fun t ht hW => ⟨⟨1, (), rfl, (zB_w (show zB 1 1 1 from ⟨by decide, by decide⟩) (by decide) (by decide)), ⟨y15, y25, g54, (zB_w by15 (by decide) (by decide)), by25, sg54, (by have h9_0 := (by15).1; have h9_1 := (by15).2; have h9_2 := ry15; have h9_3 := (bhk_ME_done).1; have h9_4 := (bhk_ME_done).2; have h9_5 := (by25).1; have h9_6 := (by25).2; have h9_7 := ry25; have h9_8 := (bn4t_ME_undone).1; have h9_9 := (bn4t_ME_undone).2; have h9_10 := q_ME; omega), by rw [ht]; exact hP, hD⟩⟩, hS.F ht⟩) hS.2.2 dX3_stepOn_58
    · refine zz_alda (v := (KRr 25)) hx hb hK hP 1 4 rfl rfl (zB_in (show zB 25 25 25 from ⟨by decide, by decide⟩) (by decide) (by decide)) (k_ME_kept 25 (by decide)) dX3_stepOn_45 ?_
      refine lv_iconst (v := 0) hx hb dX3_stepOn_46 (by decide) ?_
      refine lv_aload_n hx hb dX3_stepOn_47 rfl (lv_at hl 0 rfl) ?_
      refine va_get (D := D) (ci := 3) (v := .ref (aME 1)) (C := RX3) (T := TX3) (N := 9) hx hb hts iw_X3_stepOn_X3 hown hK hP 0 rfl rfl 1 (by decide) (hts (.fieldLink RX3 11 "SoldHouse$Memory" "now" "[I") (List.mem_of_getElem? (i := 5) rfl)) (fun _ h9 => h9) rfl dX3_stepOn_48 ?_
      refine lv_iconst (v := 0) hx hb dX3_stepOn_51 (by decide) ?_
      refine lv_bipush (v := 32) hx hb dX3_stepOn_52 (by decide) ?_
      refine zi_copy hx hb (by rw [hml]; exact hl.1.symm) hown (hts (.methodLink RX3 115 arraycopyName) (List.mem_of_getElem? (i := 6) rfl)) (hts (.native arraycopyName) (List.mem_of_getElem? (i := 7) rfl)) (hts (.static arraycopyName) (List.mem_of_getElem? (i := 8) rfl)) (hts (.initialized "java/lang/System") (List.mem_of_getElem? (i := 9) rfl)) hK hP hD hS 28 2 rfl rfl rfl (Nat.le_of_ble_eq_true rfl) (Nat.le_of_ble_eq_true rfl) dX3_stepOn_54 (fun H locs g54 e54 hP hD hS => ?_)
      have sg54 := zA_cpy e54 (w_KR 25 (by decide))
      replace hP : va_P D classes ([(ME, .inr (3, oX3 FL aME ME_oldest y15 y25)), ((aME 3), .inl (cG, 41, .inr (.inr (.inr (.inr ME_kept))))), ((aME 1), .inl (cI, 32, .inl g54))] ++ rw41 cI KRr KRf) H := hP
      replace hD : va_D A ([(ME, .inr (3, oX3 FL aME ME_oldest y15 y25)), ((aME 3), .inl (cG, 41, .inr (.inr (.inr (.inr ME_kept))))), ((aME 1), .inl (cI, 32, .inl g54))] ++ rw41 cI KRr KRf) := hD
      clear e54
      refine lv_iconst (v := 1) hx hb dX3_stepOn_57 (by decide) ?_
      exact W.zret (v := 1) (ty := .boolean) hx hb hr (by decide) (fun t ht hW => ⟨⟨1, (), rfl, (zB_w (show zB 1 1 1 from ⟨by decide, by decide⟩) (by decide) (by decide)), ⟨y15, y25, g54, (zB_w by15 (by decide) (by decide)), by25, sg54, (by have h9_0 := (by15).1; have h9_1 := (by15).2; have h9_2 := ry15; have h9_3 := (bhk_ME_done).1; have h9_4 := (bhk_ME_done).2; have h9_5 := (by25).1; have h9_6 := (by25).2; have h9_7 := ry25; have h9_8 := (bn4t_ME_undone).1; have h9_9 := (bn4t_ME_undone).2; have h9_10 := q_ME; omega), by rw [ht]; exact hP, hD⟩⟩, hS.F ht⟩) hS.2.2 dX3_stepOn_58
    · refine zz_alda (v := (KRr 26)) hx hb hK hP 1 4 rfl rfl (zB_in (show zB 26 26 26 from ⟨by decide, by decide⟩) (by decide) (by decide)) (k_ME_kept 26 (by decide)) dX3_stepOn_45 ?_
      refine lv_iconst (v := 0) hx hb dX3_stepOn_46 (by decide) ?_
      refine lv_aload_n hx hb dX3_stepOn_47 rfl (lv_at hl 0 rfl) ?_
      refine va_get (D := D) (ci := 3) (v := .ref (aME 1)) (C := RX3) (T := TX3) (N := 9) hx hb hts iw_X3_stepOn_X3 hown hK hP 0 rfl rfl 1 (by decide) (hts (.fieldLink RX3 11 "SoldHouse$Memory" "now" "[I") (List.mem_of_getElem? (i := 5) rfl)) (fun _ h9 => h9) rfl dX3_stepOn_48 ?_
      refine lv_iconst (v := 0) hx hb dX3_stepOn_51 (by decide) ?_
      refine lv_bipush (v := 32) hx hb dX3_stepOn_52 (by decide) ?_
      refine zi_copy hx hb (by rw [hml]; exact hl.1.symm) hown (hts (.methodLink RX3 115 arraycopyName) (List.mem_of_getElem? (i := 6) rfl)) (hts (.native arraycopyName) (List.mem_of_getElem? (i := 7) rfl)) (hts (.static arraycopyName) (List.mem_of_getElem? (i := 8) rfl)) (hts (.initialized "java/lang/System") (List.mem_of_getElem? (i := 9) rfl)) hK hP hD hS 29 2 rfl rfl rfl (Nat.le_of_ble_eq_true rfl) (Nat.le_of_ble_eq_true rfl) dX3_stepOn_54 (fun H locs g54 e54 hP hD hS => ?_)
      have sg54 := zA_cpy e54 (w_KR 26 (by decide))
      replace hP : va_P D classes ([(ME, .inr (3, oX3 FL aME ME_oldest y15 y25)), ((aME 3), .inl (cG, 41, .inr (.inr (.inr (.inr ME_kept))))), ((aME 1), .inl (cI, 32, .inl g54))] ++ rw41 cI KRr KRf) H := hP
      replace hD : va_D A ([(ME, .inr (3, oX3 FL aME ME_oldest y15 y25)), ((aME 3), .inl (cG, 41, .inr (.inr (.inr (.inr ME_kept))))), ((aME 1), .inl (cI, 32, .inl g54))] ++ rw41 cI KRr KRf) := hD
      clear e54
      refine lv_iconst (v := 1) hx hb dX3_stepOn_57 (by decide) ?_
      exact W.zret (v := 1) (ty := .boolean) hx hb hr (by decide) (fun t ht hW => ⟨⟨1, (), rfl, (zB_w (show zB 1 1 1 from ⟨by decide, by decide⟩) (by decide) (by decide)), ⟨y15, y25, g54, (zB_w by15 (by decide) (by decide)), by25, sg54, (by have h9_0 := (by15).1; have h9_1 := (by15).2; have h9_2 := ry15; have h9_3 := (bhk_ME_done).1; have h9_4 := (bhk_ME_done).2; have h9_5 := (by25).1; have h9_6 := (by25).2; have h9_7 := ry25; have h9_8 := (bn4t_ME_undone).1; have h9_9 := (bn4t_ME_undone).2; have h9_10 := q_ME; omega), by rw [ht]; exact hP, hD⟩⟩, hS.F ht⟩) hS.2.2 dX3_stepOn_58
    · refine zz_alda (v := (KRr 27)) hx hb hK hP 1 4 rfl rfl (zB_in (show zB 27 27 27 from ⟨by decide, by decide⟩) (by decide) (by decide)) (k_ME_kept 27 (by decide)) dX3_stepOn_45 ?_
      refine lv_iconst (v := 0) hx hb dX3_stepOn_46 (by decide) ?_
      refine lv_aload_n hx hb dX3_stepOn_47 rfl (lv_at hl 0 rfl) ?_
      refine va_get (D := D) (ci := 3) (v := .ref (aME 1)) (C := RX3) (T := TX3) (N := 9) hx hb hts iw_X3_stepOn_X3 hown hK hP 0 rfl rfl 1 (by decide) (hts (.fieldLink RX3 11 "SoldHouse$Memory" "now" "[I") (List.mem_of_getElem? (i := 5) rfl)) (fun _ h9 => h9) rfl dX3_stepOn_48 ?_
      refine lv_iconst (v := 0) hx hb dX3_stepOn_51 (by decide) ?_
      refine lv_bipush (v := 32) hx hb dX3_stepOn_52 (by decide) ?_
      refine zi_copy hx hb (by rw [hml]; exact hl.1.symm) hown (hts (.methodLink RX3 115 arraycopyName) (List.mem_of_getElem? (i := 6) rfl)) (hts (.native arraycopyName) (List.mem_of_getElem? (i := 7) rfl)) (hts (.static arraycopyName) (List.mem_of_getElem? (i := 8) rfl)) (hts (.initialized "java/lang/System") (List.mem_of_getElem? (i := 9) rfl)) hK hP hD hS 30 2 rfl rfl rfl (Nat.le_of_ble_eq_true rfl) (Nat.le_of_ble_eq_true rfl) dX3_stepOn_54 (fun H locs g54 e54 hP hD hS => ?_)
      have sg54 := zA_cpy e54 (w_KR 27 (by decide))
      replace hP : va_P D classes ([(ME, .inr (3, oX3 FL aME ME_oldest y15 y25)), ((aME 3), .inl (cG, 41, .inr (.inr (.inr (.inr ME_kept))))), ((aME 1), .inl (cI, 32, .inl g54))] ++ rw41 cI KRr KRf) H := hP
      replace hD : va_D A ([(ME, .inr (3, oX3 FL aME ME_oldest y15 y25)), ((aME 3), .inl (cG, 41, .inr (.inr (.inr (.inr ME_kept))))), ((aME 1), .inl (cI, 32, .inl g54))] ++ rw41 cI KRr KRf) := hD
      clear e54
      refine lv_iconst (v := 1) hx hb dX3_stepOn_57 (by decide) ?_
      exact W.zret (v := 1) (ty := .boolean) hx hb hr (by decide) (fun t ht hW => ⟨⟨1, (), rfl, (zB_w (show zB 1 1 1 from ⟨by decide, by decide⟩) (by decide) (by decide)), ⟨y15, y25, g54, (zB_w by15 (by decide) (by decide)), by25, sg54, (by have h9_0 := (by15).1; have h9_1 := (by15).2; have h9_2 := ry15; have h9_3 := (bhk_ME_done).1; have h9_4 := (bhk_ME_done).2; have h9_5 := (by25).1; have h9_6 := (by25).2; have h9_7 := ry25; have h9_8 := (bn4t_ME_undone).1; have h9_9 := (bn4t_ME_undone).2; have h9_10 := q_ME; omega), by rw [ht]; exact hP, hD⟩⟩, hS.F ht⟩) hS.2.2 dX3_stepOn_58
    · refine zz_alda (v := (KRr 28)) hx hb hK hP 1 4 rfl rfl (zB_in (show zB 28 28 28 from ⟨by decide, by decide⟩) (by decide) (by decide)) (k_ME_kept 28 (by decide)) dX3_stepOn_45 ?_
      refine lv_iconst (v := 0) hx hb dX3_stepOn_46 (by decide) ?_
      refine lv_aload_n hx hb dX3_stepOn_47 rfl (lv_at hl 0 rfl) ?_
      refine va_get (D := D) (ci := 3) (v := .ref (aME 1)) (C := RX3) (T := TX3) (N := 9) hx hb hts iw_X3_stepOn_X3 hown hK hP 0 rfl rfl 1 (by decide) (hts (.fieldLink RX3 11 "SoldHouse$Memory" "now" "[I") (List.mem_of_getElem? (i := 5) rfl)) (fun _ h9 => h9) rfl dX3_stepOn_48 ?_
      refine lv_iconst (v := 0) hx hb dX3_stepOn_51 (by decide) ?_
      refine lv_bipush (v := 32) hx hb dX3_stepOn_52 (by decide) ?_
      refine zi_copy hx hb (by rw [hml]; exact hl.1.symm) hown (hts (.methodLink RX3 115 arraycopyName) (List.mem_of_getElem? (i := 6) rfl)) (hts (.native arraycopyName) (List.mem_of_getElem? (i := 7) rfl)) (hts (.static arraycopyName) (List.mem_of_getElem? (i := 8) rfl)) (hts (.initialized "java/lang/System") (List.mem_of_getElem? (i := 9) rfl)) hK hP hD hS 31 2 rfl rfl rfl (Nat.le_of_ble_eq_true rfl) (Nat.le_of_ble_eq_true rfl) dX3_stepOn_54 (fun H locs g54 e54 hP hD hS => ?_)
      have sg54 := zA_cpy e54 (w_KR 28 (by decide))
      replace hP : va_P D classes ([(ME, .inr (3, oX3 FL aME ME_oldest y15 y25)), ((aME 3), .inl (cG, 41, .inr (.inr (.inr (.inr ME_kept))))), ((aME 1), .inl (cI, 32, .inl g54))] ++ rw41 cI KRr KRf) H := hP
      replace hD : va_D A ([(ME, .inr (3, oX3 FL aME ME_oldest y15 y25)), ((aME 3), .inl (cG, 41, .inr (.inr (.inr (.inr ME_kept))))), ((aME 1), .inl (cI, 32, .inl g54))] ++ rw41 cI KRr KRf) := hD
      clear e54
      refine lv_iconst (v := 1) hx hb dX3_stepOn_57 (by decide) ?_
      exact W.zret (v := 1) (ty := .boolean) hx hb hr (by decide) (fun t ht hW => ⟨⟨1, (), rfl, (zB_w (show zB 1 1 1 from ⟨by decide, by decide⟩) (by decide) (by decide)), ⟨y15, y25, g54, (zB_w by15 (by decide) (by decide)), by25, sg54, (by have h9_0 := (by15).1; have h9_1 := (by15).2; have h9_2 := ry15; have h9_3 := (bhk_ME_done).1; have h9_4 := (bhk_ME_done).2; have h9_5 := (by25).1; have h9_6 := (by25).2; have h9_7 := ry25; have h9_8 := (bn4t_ME_undone).1; have h9_9 := (bn4t_ME_undone).2; have h9_10 := q_ME; omega), by rw [ht]; exact hP, hD⟩⟩, hS.F ht⟩) hS.2.2 dX3_stepOn_58
    · refine zz_alda (v := (KRr 29)) hx hb hK hP 1 4 rfl rfl (zB_in (show zB 29 29 29 from ⟨by decide, by decide⟩) (by decide) (by decide)) (k_ME_kept 29 (by decide)) dX3_stepOn_45 ?_
      refine lv_iconst (v := 0) hx hb dX3_stepOn_46 (by decide) ?_
      refine lv_aload_n hx hb dX3_stepOn_47 rfl (lv_at hl 0 rfl) ?_
      refine va_get (D := D) (ci := 3) (v := .ref (aME 1)) (C := RX3) (T := TX3) (N := 9) hx hb hts iw_X3_stepOn_X3 hown hK hP 0 rfl rfl 1 (by decide) (hts (.fieldLink RX3 11 "SoldHouse$Memory" "now" "[I") (List.mem_of_getElem? (i := 5) rfl)) (fun _ h9 => h9) rfl dX3_stepOn_48 ?_
      refine lv_iconst (v := 0) hx hb dX3_stepOn_51 (by decide) ?_
      refine lv_bipush (v := 32) hx hb dX3_stepOn_52 (by decide) ?_
      refine zi_copy hx hb (by rw [hml]; exact hl.1.symm) hown (hts (.methodLink RX3 115 arraycopyName) (List.mem_of_getElem? (i := 6) rfl)) (hts (.native arraycopyName) (List.mem_of_getElem? (i := 7) rfl)) (hts (.static arraycopyName) (List.mem_of_getElem? (i := 8) rfl)) (hts (.initialized "java/lang/System") (List.mem_of_getElem? (i := 9) rfl)) hK hP hD hS 32 2 rfl rfl rfl (Nat.le_of_ble_eq_true rfl) (Nat.le_of_ble_eq_true rfl) dX3_stepOn_54 (fun H locs g54 e54 hP hD hS => ?_)
      have sg54 := zA_cpy e54 (w_KR 29 (by decide))
      replace hP : va_P D classes ([(ME, .inr (3, oX3 FL aME ME_oldest y15 y25)), ((aME 3), .inl (cG, 41, .inr (.inr (.inr (.inr ME_kept))))), ((aME 1), .inl (cI, 32, .inl g54))] ++ rw41 cI KRr KRf) H := hP
      replace hD : va_D A ([(ME, .inr (3, oX3 FL aME ME_oldest y15 y25)), ((aME 3), .inl (cG, 41, .inr (.inr (.inr (.inr ME_kept))))), ((aME 1), .inl (cI, 32, .inl g54))] ++ rw41 cI KRr KRf) := hD
      clear e54
      refine lv_iconst (v := 1) hx hb dX3_stepOn_57 (by decide) ?_
      exact W.zret (v := 1) (ty := .boolean) hx hb hr (by decide) (fun t ht hW => ⟨⟨1, (), rfl, (zB_w (show zB 1 1 1 from ⟨by decide, by decide⟩) (by decide) (by decide)), ⟨y15, y25, g54, (zB_w by15 (by decide) (by decide)), by25, sg54, (by have h9_0 := (by15).1; have h9_1 := (by15).2; have h9_2 := ry15; have h9_3 := (bhk_ME_done).1; have h9_4 := (bhk_ME_done).2; have h9_5 := (by25).1; have h9_6 := (by25).2; have h9_7 := ry25; have h9_8 := (bn4t_ME_undone).1; have h9_9 := (bn4t_ME_undone).2; have h9_10 := q_ME; omega), by rw [ht]; exact hP, hD⟩⟩, hS.F ht⟩) hS.2.2 dX3_stepOn_58
    · refine zz_alda (v := (KRr 30)) hx hb hK hP 1 4 rfl rfl (zB_in (show zB 30 30 30 from ⟨by decide, by decide⟩) (by decide) (by decide)) (k_ME_kept 30 (by decide)) dX3_stepOn_45 ?_
      refine lv_iconst (v := 0) hx hb dX3_stepOn_46 (by decide) ?_
      refine lv_aload_n hx hb dX3_stepOn_47 rfl (lv_at hl 0 rfl) ?_
      refine va_get (D := D) (ci := 3) (v := .ref (aME 1)) (C := RX3) (T := TX3) (N := 9) hx hb hts iw_X3_stepOn_X3 hown hK hP 0 rfl rfl 1 (by decide) (hts (.fieldLink RX3 11 "SoldHouse$Memory" "now" "[I") (List.mem_of_getElem? (i := 5) rfl)) (fun _ h9 => h9) rfl dX3_stepOn_48 ?_
      refine lv_iconst (v := 0) hx hb dX3_stepOn_51 (by decide) ?_
      refine lv_bipush (v := 32) hx hb dX3_stepOn_52 (by decide) ?_
      refine zi_copy hx hb (by rw [hml]; exact hl.1.symm) hown (hts (.methodLink RX3 115 arraycopyName) (List.mem_of_getElem? (i := 6) rfl)) (hts (.native arraycopyName) (List.mem_of_getElem? (i := 7) rfl)) (hts (.static arraycopyName) (List.mem_of_getElem? (i := 8) rfl)) (hts (.initialized "java/lang/System") (List.mem_of_getElem? (i := 9) rfl)) hK hP hD hS 33 2 rfl rfl rfl (Nat.le_of_ble_eq_true rfl) (Nat.le_of_ble_eq_true rfl) dX3_stepOn_54 (fun H locs g54 e54 hP hD hS => ?_)
      have sg54 := zA_cpy e54 (w_KR 30 (by decide))
      replace hP : va_P D classes ([(ME, .inr (3, oX3 FL aME ME_oldest y15 y25)), ((aME 3), .inl (cG, 41, .inr (.inr (.inr (.inr ME_kept))))), ((aME 1), .inl (cI, 32, .inl g54))] ++ rw41 cI KRr KRf) H := hP
      replace hD : va_D A ([(ME, .inr (3, oX3 FL aME ME_oldest y15 y25)), ((aME 3), .inl (cG, 41, .inr (.inr (.inr (.inr ME_kept))))), ((aME 1), .inl (cI, 32, .inl g54))] ++ rw41 cI KRr KRf) := hD
      clear e54
      refine lv_iconst (v := 1) hx hb dX3_stepOn_57 (by decide) ?_
      exact W.zret (v := 1) (ty := .boolean) hx hb hr (by decide) (fun t ht hW => ⟨⟨1, (), rfl, (zB_w (show zB 1 1 1 from ⟨by decide, by decide⟩) (by decide) (by decide)), ⟨y15, y25, g54, (zB_w by15 (by decide) (by decide)), by25, sg54, (by have h9_0 := (by15).1; have h9_1 := (by15).2; have h9_2 := ry15; have h9_3 := (bhk_ME_done).1; have h9_4 := (bhk_ME_done).2; have h9_5 := (by25).1; have h9_6 := (by25).2; have h9_7 := ry25; have h9_8 := (bn4t_ME_undone).1; have h9_9 := (bn4t_ME_undone).2; have h9_10 := q_ME; omega), by rw [ht]; exact hP, hD⟩⟩, hS.F ht⟩) hS.2.2 dX3_stepOn_58
    · refine zz_alda (v := (KRr 31)) hx hb hK hP 1 4 rfl rfl (zB_in (show zB 31 31 31 from ⟨by decide, by decide⟩) (by decide) (by decide)) (k_ME_kept 31 (by decide)) dX3_stepOn_45 ?_
      refine lv_iconst (v := 0) hx hb dX3_stepOn_46 (by decide) ?_
      refine lv_aload_n hx hb dX3_stepOn_47 rfl (lv_at hl 0 rfl) ?_
      refine va_get (D := D) (ci := 3) (v := .ref (aME 1)) (C := RX3) (T := TX3) (N := 9) hx hb hts iw_X3_stepOn_X3 hown hK hP 0 rfl rfl 1 (by decide) (hts (.fieldLink RX3 11 "SoldHouse$Memory" "now" "[I") (List.mem_of_getElem? (i := 5) rfl)) (fun _ h9 => h9) rfl dX3_stepOn_48 ?_
      refine lv_iconst (v := 0) hx hb dX3_stepOn_51 (by decide) ?_
      refine lv_bipush (v := 32) hx hb dX3_stepOn_52 (by decide) ?_
      refine zi_copy hx hb (by rw [hml]; exact hl.1.symm) hown (hts (.methodLink RX3 115 arraycopyName) (List.mem_of_getElem? (i := 6) rfl)) (hts (.native arraycopyName) (List.mem_of_getElem? (i := 7) rfl)) (hts (.static arraycopyName) (List.mem_of_getElem? (i := 8) rfl)) (hts (.initialized "java/lang/System") (List.mem_of_getElem? (i := 9) rfl)) hK hP hD hS 34 2 rfl rfl rfl (Nat.le_of_ble_eq_true rfl) (Nat.le_of_ble_eq_true rfl) dX3_stepOn_54 (fun H locs g54 e54 hP hD hS => ?_)
      have sg54 := zA_cpy e54 (w_KR 31 (by decide))
      replace hP : va_P D classes ([(ME, .inr (3, oX3 FL aME ME_oldest y15 y25)), ((aME 3), .inl (cG, 41, .inr (.inr (.inr (.inr ME_kept))))), ((aME 1), .inl (cI, 32, .inl g54))] ++ rw41 cI KRr KRf) H := hP
      replace hD : va_D A ([(ME, .inr (3, oX3 FL aME ME_oldest y15 y25)), ((aME 3), .inl (cG, 41, .inr (.inr (.inr (.inr ME_kept))))), ((aME 1), .inl (cI, 32, .inl g54))] ++ rw41 cI KRr KRf) := hD
      clear e54
      refine lv_iconst (v := 1) hx hb dX3_stepOn_57 (by decide) ?_
      exact W.zret (v := 1) (ty := .boolean) hx hb hr (by decide) (fun t ht hW => ⟨⟨1, (), rfl, (zB_w (show zB 1 1 1 from ⟨by decide, by decide⟩) (by decide) (by decide)), ⟨y15, y25, g54, (zB_w by15 (by decide) (by decide)), by25, sg54, (by have h9_0 := (by15).1; have h9_1 := (by15).2; have h9_2 := ry15; have h9_3 := (bhk_ME_done).1; have h9_4 := (bhk_ME_done).2; have h9_5 := (by25).1; have h9_6 := (by25).2; have h9_7 := ry25; have h9_8 := (bn4t_ME_undone).1; have h9_9 := (bn4t_ME_undone).2; have h9_10 := q_ME; omega), by rw [ht]; exact hP, hD⟩⟩, hS.F ht⟩) hS.2.2 dX3_stepOn_58
    · refine zz_alda (v := (KRr 32)) hx hb hK hP 1 4 rfl rfl (zB_in (show zB 32 32 32 from ⟨by decide, by decide⟩) (by decide) (by decide)) (k_ME_kept 32 (by decide)) dX3_stepOn_45 ?_
      refine lv_iconst (v := 0) hx hb dX3_stepOn_46 (by decide) ?_
      refine lv_aload_n hx hb dX3_stepOn_47 rfl (lv_at hl 0 rfl) ?_
      refine va_get (D := D) (ci := 3) (v := .ref (aME 1)) (C := RX3) (T := TX3) (N := 9) hx hb hts iw_X3_stepOn_X3 hown hK hP 0 rfl rfl 1 (by decide) (hts (.fieldLink RX3 11 "SoldHouse$Memory" "now" "[I") (List.mem_of_getElem? (i := 5) rfl)) (fun _ h9 => h9) rfl dX3_stepOn_48 ?_
      refine lv_iconst (v := 0) hx hb dX3_stepOn_51 (by decide) ?_
      refine lv_bipush (v := 32) hx hb dX3_stepOn_52 (by decide) ?_
      refine zi_copy hx hb (by rw [hml]; exact hl.1.symm) hown (hts (.methodLink RX3 115 arraycopyName) (List.mem_of_getElem? (i := 6) rfl)) (hts (.native arraycopyName) (List.mem_of_getElem? (i := 7) rfl)) (hts (.static arraycopyName) (List.mem_of_getElem? (i := 8) rfl)) (hts (.initialized "java/lang/System") (List.mem_of_getElem? (i := 9) rfl)) hK hP hD hS 35 2 rfl rfl rfl (Nat.le_of_ble_eq_true rfl) (Nat.le_of_ble_eq_true rfl) dX3_stepOn_54 (fun H locs g54 e54 hP hD hS => ?_)
      have sg54 := zA_cpy e54 (w_KR 32 (by decide))
      replace hP : va_P D classes ([(ME, .inr (3, oX3 FL aME ME_oldest y15 y25)), ((aME 3), .inl (cG, 41, .inr (.inr (.inr (.inr ME_kept))))), ((aME 1), .inl (cI, 32, .inl g54))] ++ rw41 cI KRr KRf) H := hP
      replace hD : va_D A ([(ME, .inr (3, oX3 FL aME ME_oldest y15 y25)), ((aME 3), .inl (cG, 41, .inr (.inr (.inr (.inr ME_kept))))), ((aME 1), .inl (cI, 32, .inl g54))] ++ rw41 cI KRr KRf) := hD
      clear e54
      refine lv_iconst (v := 1) hx hb dX3_stepOn_57 (by decide) ?_
      exact W.zret (v := 1) (ty := .boolean) hx hb hr (by decide) (fun t ht hW => ⟨⟨1, (), rfl, (zB_w (show zB 1 1 1 from ⟨by decide, by decide⟩) (by decide) (by decide)), ⟨y15, y25, g54, (zB_w by15 (by decide) (by decide)), by25, sg54, (by have h9_0 := (by15).1; have h9_1 := (by15).2; have h9_2 := ry15; have h9_3 := (bhk_ME_done).1; have h9_4 := (bhk_ME_done).2; have h9_5 := (by25).1; have h9_6 := (by25).2; have h9_7 := ry25; have h9_8 := (bn4t_ME_undone).1; have h9_9 := (bn4t_ME_undone).2; have h9_10 := q_ME; omega), by rw [ht]; exact hP, hD⟩⟩, hS.F ht⟩) hS.2.2 dX3_stepOn_58
    · refine zz_alda (v := (KRr 33)) hx hb hK hP 1 4 rfl rfl (zB_in (show zB 33 33 33 from ⟨by decide, by decide⟩) (by decide) (by decide)) (k_ME_kept 33 (by decide)) dX3_stepOn_45 ?_
      refine lv_iconst (v := 0) hx hb dX3_stepOn_46 (by decide) ?_
      refine lv_aload_n hx hb dX3_stepOn_47 rfl (lv_at hl 0 rfl) ?_
      refine va_get (D := D) (ci := 3) (v := .ref (aME 1)) (C := RX3) (T := TX3) (N := 9) hx hb hts iw_X3_stepOn_X3 hown hK hP 0 rfl rfl 1 (by decide) (hts (.fieldLink RX3 11 "SoldHouse$Memory" "now" "[I") (List.mem_of_getElem? (i := 5) rfl)) (fun _ h9 => h9) rfl dX3_stepOn_48 ?_
      refine lv_iconst (v := 0) hx hb dX3_stepOn_51 (by decide) ?_
      refine lv_bipush (v := 32) hx hb dX3_stepOn_52 (by decide) ?_
      refine zi_copy hx hb (by rw [hml]; exact hl.1.symm) hown (hts (.methodLink RX3 115 arraycopyName) (List.mem_of_getElem? (i := 6) rfl)) (hts (.native arraycopyName) (List.mem_of_getElem? (i := 7) rfl)) (hts (.static arraycopyName) (List.mem_of_getElem? (i := 8) rfl)) (hts (.initialized "java/lang/System") (List.mem_of_getElem? (i := 9) rfl)) hK hP hD hS 36 2 rfl rfl rfl (Nat.le_of_ble_eq_true rfl) (Nat.le_of_ble_eq_true rfl) dX3_stepOn_54 (fun H locs g54 e54 hP hD hS => ?_)
      have sg54 := zA_cpy e54 (w_KR 33 (by decide))
      replace hP : va_P D classes ([(ME, .inr (3, oX3 FL aME ME_oldest y15 y25)), ((aME 3), .inl (cG, 41, .inr (.inr (.inr (.inr ME_kept))))), ((aME 1), .inl (cI, 32, .inl g54))] ++ rw41 cI KRr KRf) H := hP
      replace hD : va_D A ([(ME, .inr (3, oX3 FL aME ME_oldest y15 y25)), ((aME 3), .inl (cG, 41, .inr (.inr (.inr (.inr ME_kept))))), ((aME 1), .inl (cI, 32, .inl g54))] ++ rw41 cI KRr KRf) := hD
      clear e54
      refine lv_iconst (v := 1) hx hb dX3_stepOn_57 (by decide) ?_
      exact W.zret (v := 1) (ty := .boolean) hx hb hr (by decide) (fun t ht hW => ⟨⟨1, (), rfl, (zB_w (show zB 1 1 1 from ⟨by decide, by decide⟩) (by decide) (by decide)), ⟨y15, y25, g54, (zB_w by15 (by decide) (by decide)), by25, sg54, (by have h9_0 := (by15).1; have h9_1 := (by15).2; have h9_2 := ry15; have h9_3 := (bhk_ME_done).1; have h9_4 := (bhk_ME_done).2; have h9_5 := (by25).1; have h9_6 := (by25).2; have h9_7 := ry25; have h9_8 := (bn4t_ME_undone).1; have h9_9 := (bn4t_ME_undone).2; have h9_10 := q_ME; omega), by rw [ht]; exact hP, hD⟩⟩, hS.F ht⟩) hS.2.2 dX3_stepOn_58
    · refine zz_alda (v := (KRr 34)) hx hb hK hP 1 4 rfl rfl (zB_in (show zB 34 34 34 from ⟨by decide, by decide⟩) (by decide) (by decide)) (k_ME_kept 34 (by decide)) dX3_stepOn_45 ?_
      refine lv_iconst (v := 0) hx hb dX3_stepOn_46 (by decide) ?_
      refine lv_aload_n hx hb dX3_stepOn_47 rfl (lv_at hl 0 rfl) ?_
      refine va_get (D := D) (ci := 3) (v := .ref (aME 1)) (C := RX3) (T := TX3) (N := 9) hx hb hts iw_X3_stepOn_X3 hown hK hP 0 rfl rfl 1 (by decide) (hts (.fieldLink RX3 11 "SoldHouse$Memory" "now" "[I") (List.mem_of_getElem? (i := 5) rfl)) (fun _ h9 => h9) rfl dX3_stepOn_48 ?_
      refine lv_iconst (v := 0) hx hb dX3_stepOn_51 (by decide) ?_
      refine lv_bipush (v := 32) hx hb dX3_stepOn_52 (by decide) ?_
      refine zi_copy hx hb (by rw [hml]; exact hl.1.symm) hown (hts (.methodLink RX3 115 arraycopyName) (List.mem_of_getElem? (i := 6) rfl)) (hts (.native arraycopyName) (List.mem_of_getElem? (i := 7) rfl)) (hts (.static arraycopyName) (List.mem_of_getElem? (i := 8) rfl)) (hts (.initialized "java/lang/System") (List.mem_of_getElem? (i := 9) rfl)) hK hP hD hS 37 2 rfl rfl rfl (Nat.le_of_ble_eq_true rfl) (Nat.le_of_ble_eq_true rfl) dX3_stepOn_54 (fun H locs g54 e54 hP hD hS => ?_)
      have sg54 := zA_cpy e54 (w_KR 34 (by decide))
      replace hP : va_P D classes ([(ME, .inr (3, oX3 FL aME ME_oldest y15 y25)), ((aME 3), .inl (cG, 41, .inr (.inr (.inr (.inr ME_kept))))), ((aME 1), .inl (cI, 32, .inl g54))] ++ rw41 cI KRr KRf) H := hP
      replace hD : va_D A ([(ME, .inr (3, oX3 FL aME ME_oldest y15 y25)), ((aME 3), .inl (cG, 41, .inr (.inr (.inr (.inr ME_kept))))), ((aME 1), .inl (cI, 32, .inl g54))] ++ rw41 cI KRr KRf) := hD
      clear e54
      refine lv_iconst (v := 1) hx hb dX3_stepOn_57 (by decide) ?_
      exact W.zret (v := 1) (ty := .boolean) hx hb hr (by decide) (fun t ht hW => ⟨⟨1, (), rfl, (zB_w (show zB 1 1 1 from ⟨by decide, by decide⟩) (by decide) (by decide)), ⟨y15, y25, g54, (zB_w by15 (by decide) (by decide)), by25, sg54, (by have h9_0 := (by15).1; have h9_1 := (by15).2; have h9_2 := ry15; have h9_3 := (bhk_ME_done).1; have h9_4 := (bhk_ME_done).2; have h9_5 := (by25).1; have h9_6 := (by25).2; have h9_7 := ry25; have h9_8 := (bn4t_ME_undone).1; have h9_9 := (bn4t_ME_undone).2; have h9_10 := q_ME; omega), by rw [ht]; exact hP, hD⟩⟩, hS.F ht⟩) hS.2.2 dX3_stepOn_58
    · refine zz_alda (v := (KRr 35)) hx hb hK hP 1 4 rfl rfl (zB_in (show zB 35 35 35 from ⟨by decide, by decide⟩) (by decide) (by decide)) (k_ME_kept 35 (by decide)) dX3_stepOn_45 ?_
      refine lv_iconst (v := 0) hx hb dX3_stepOn_46 (by decide) ?_
      refine lv_aload_n hx hb dX3_stepOn_47 rfl (lv_at hl 0 rfl) ?_
      refine va_get (D := D) (ci := 3) (v := .ref (aME 1)) (C := RX3) (T := TX3) (N := 9) hx hb hts iw_X3_stepOn_X3 hown hK hP 0 rfl rfl 1 (by decide) (hts (.fieldLink RX3 11 "SoldHouse$Memory" "now" "[I") (List.mem_of_getElem? (i := 5) rfl)) (fun _ h9 => h9) rfl dX3_stepOn_48 ?_
      refine lv_iconst (v := 0) hx hb dX3_stepOn_51 (by decide) ?_
      refine lv_bipush (v := 32) hx hb dX3_stepOn_52 (by decide) ?_
      refine zi_copy hx hb (by rw [hml]; exact hl.1.symm) hown (hts (.methodLink RX3 115 arraycopyName) (List.mem_of_getElem? (i := 6) rfl)) (hts (.native arraycopyName) (List.mem_of_getElem? (i := 7) rfl)) (hts (.static arraycopyName) (List.mem_of_getElem? (i := 8) rfl)) (hts (.initialized "java/lang/System") (List.mem_of_getElem? (i := 9) rfl)) hK hP hD hS 38 2 rfl rfl rfl (Nat.le_of_ble_eq_true rfl) (Nat.le_of_ble_eq_true rfl) dX3_stepOn_54 (fun H locs g54 e54 hP hD hS => ?_)
      have sg54 := zA_cpy e54 (w_KR 35 (by decide))
      replace hP : va_P D classes ([(ME, .inr (3, oX3 FL aME ME_oldest y15 y25)), ((aME 3), .inl (cG, 41, .inr (.inr (.inr (.inr ME_kept))))), ((aME 1), .inl (cI, 32, .inl g54))] ++ rw41 cI KRr KRf) H := hP
      replace hD : va_D A ([(ME, .inr (3, oX3 FL aME ME_oldest y15 y25)), ((aME 3), .inl (cG, 41, .inr (.inr (.inr (.inr ME_kept))))), ((aME 1), .inl (cI, 32, .inl g54))] ++ rw41 cI KRr KRf) := hD
      clear e54
      refine lv_iconst (v := 1) hx hb dX3_stepOn_57 (by decide) ?_
      exact W.zret (v := 1) (ty := .boolean) hx hb hr (by decide) (fun t ht hW => ⟨⟨1, (), rfl, (zB_w (show zB 1 1 1 from ⟨by decide, by decide⟩) (by decide) (by decide)), ⟨y15, y25, g54, (zB_w by15 (by decide) (by decide)), by25, sg54, (by have h9_0 := (by15).1; have h9_1 := (by15).2; have h9_2 := ry15; have h9_3 := (bhk_ME_done).1; have h9_4 := (bhk_ME_done).2; have h9_5 := (by25).1; have h9_6 := (by25).2; have h9_7 := ry25; have h9_8 := (bn4t_ME_undone).1; have h9_9 := (bn4t_ME_undone).2; have h9_10 := q_ME; omega), by rw [ht]; exact hP, hD⟩⟩, hS.F ht⟩) hS.2.2 dX3_stepOn_58
    · refine zz_alda (v := (KRr 36)) hx hb hK hP 1 4 rfl rfl (zB_in (show zB 36 36 36 from ⟨by decide, by decide⟩) (by decide) (by decide)) (k_ME_kept 36 (by decide)) dX3_stepOn_45 ?_
      refine lv_iconst (v := 0) hx hb dX3_stepOn_46 (by decide) ?_
      refine lv_aload_n hx hb dX3_stepOn_47 rfl (lv_at hl 0 rfl) ?_
      refine va_get (D := D) (ci := 3) (v := .ref (aME 1)) (C := RX3) (T := TX3) (N := 9) hx hb hts iw_X3_stepOn_X3 hown hK hP 0 rfl rfl 1 (by decide) (hts (.fieldLink RX3 11 "SoldHouse$Memory" "now" "[I") (List.mem_of_getElem? (i := 5) rfl)) (fun _ h9 => h9) rfl dX3_stepOn_48 ?_
      refine lv_iconst (v := 0) hx hb dX3_stepOn_51 (by decide) ?_
      refine lv_bipush (v := 32) hx hb dX3_stepOn_52 (by decide) ?_
      refine zi_copy hx hb (by rw [hml]; exact hl.1.symm) hown (hts (.methodLink RX3 115 arraycopyName) (List.mem_of_getElem? (i := 6) rfl)) (hts (.native arraycopyName) (List.mem_of_getElem? (i := 7) rfl)) (hts (.static arraycopyName) (List.mem_of_getElem? (i := 8) rfl)) (hts (.initialized "java/lang/System") (List.mem_of_getElem? (i := 9) rfl)) hK hP hD hS 39 2 rfl rfl rfl (Nat.le_of_ble_eq_true rfl) (Nat.le_of_ble_eq_true rfl) dX3_stepOn_54 (fun H locs g54 e54 hP hD hS => ?_)
      have sg54 := zA_cpy e54 (w_KR 36 (by decide))
      replace hP : va_P D classes ([(ME, .inr (3, oX3 FL aME ME_oldest y15 y25)), ((aME 3), .inl (cG, 41, .inr (.inr (.inr (.inr ME_kept))))), ((aME 1), .inl (cI, 32, .inl g54))] ++ rw41 cI KRr KRf) H := hP
      replace hD : va_D A ([(ME, .inr (3, oX3 FL aME ME_oldest y15 y25)), ((aME 3), .inl (cG, 41, .inr (.inr (.inr (.inr ME_kept))))), ((aME 1), .inl (cI, 32, .inl g54))] ++ rw41 cI KRr KRf) := hD
      clear e54
      refine lv_iconst (v := 1) hx hb dX3_stepOn_57 (by decide) ?_
      exact W.zret (v := 1) (ty := .boolean) hx hb hr (by decide) (fun t ht hW => ⟨⟨1, (), rfl, (zB_w (show zB 1 1 1 from ⟨by decide, by decide⟩) (by decide) (by decide)), ⟨y15, y25, g54, (zB_w by15 (by decide) (by decide)), by25, sg54, (by have h9_0 := (by15).1; have h9_1 := (by15).2; have h9_2 := ry15; have h9_3 := (bhk_ME_done).1; have h9_4 := (bhk_ME_done).2; have h9_5 := (by25).1; have h9_6 := (by25).2; have h9_7 := ry25; have h9_8 := (bn4t_ME_undone).1; have h9_9 := (bn4t_ME_undone).2; have h9_10 := q_ME; omega), by rw [ht]; exact hP, hD⟩⟩, hS.F ht⟩) hS.2.2 dX3_stepOn_58
    · refine zz_alda (v := (KRr 37)) hx hb hK hP 1 4 rfl rfl (zB_in (show zB 37 37 37 from ⟨by decide, by decide⟩) (by decide) (by decide)) (k_ME_kept 37 (by decide)) dX3_stepOn_45 ?_
      refine lv_iconst (v := 0) hx hb dX3_stepOn_46 (by decide) ?_
      refine lv_aload_n hx hb dX3_stepOn_47 rfl (lv_at hl 0 rfl) ?_
      refine va_get (D := D) (ci := 3) (v := .ref (aME 1)) (C := RX3) (T := TX3) (N := 9) hx hb hts iw_X3_stepOn_X3 hown hK hP 0 rfl rfl 1 (by decide) (hts (.fieldLink RX3 11 "SoldHouse$Memory" "now" "[I") (List.mem_of_getElem? (i := 5) rfl)) (fun _ h9 => h9) rfl dX3_stepOn_48 ?_
      refine lv_iconst (v := 0) hx hb dX3_stepOn_51 (by decide) ?_
      refine lv_bipush (v := 32) hx hb dX3_stepOn_52 (by decide) ?_
      refine zi_copy hx hb (by rw [hml]; exact hl.1.symm) hown (hts (.methodLink RX3 115 arraycopyName) (List.mem_of_getElem? (i := 6) rfl)) (hts (.native arraycopyName) (List.mem_of_getElem? (i := 7) rfl)) (hts (.static arraycopyName) (List.mem_of_getElem? (i := 8) rfl)) (hts (.initialized "java/lang/System") (List.mem_of_getElem? (i := 9) rfl)) hK hP hD hS 40 2 rfl rfl rfl (Nat.le_of_ble_eq_true rfl) (Nat.le_of_ble_eq_true rfl) dX3_stepOn_54 (fun H locs g54 e54 hP hD hS => ?_)
      have sg54 := zA_cpy e54 (w_KR 37 (by decide))
      replace hP : va_P D classes ([(ME, .inr (3, oX3 FL aME ME_oldest y15 y25)), ((aME 3), .inl (cG, 41, .inr (.inr (.inr (.inr ME_kept))))), ((aME 1), .inl (cI, 32, .inl g54))] ++ rw41 cI KRr KRf) H := hP
      replace hD : va_D A ([(ME, .inr (3, oX3 FL aME ME_oldest y15 y25)), ((aME 3), .inl (cG, 41, .inr (.inr (.inr (.inr ME_kept))))), ((aME 1), .inl (cI, 32, .inl g54))] ++ rw41 cI KRr KRf) := hD
      clear e54
      refine lv_iconst (v := 1) hx hb dX3_stepOn_57 (by decide) ?_
      exact W.zret (v := 1) (ty := .boolean) hx hb hr (by decide) (fun t ht hW => ⟨⟨1, (), rfl, (zB_w (show zB 1 1 1 from ⟨by decide, by decide⟩) (by decide) (by decide)), ⟨y15, y25, g54, (zB_w by15 (by decide) (by decide)), by25, sg54, (by have h9_0 := (by15).1; have h9_1 := (by15).2; have h9_2 := ry15; have h9_3 := (bhk_ME_done).1; have h9_4 := (bhk_ME_done).2; have h9_5 := (by25).1; have h9_6 := (by25).2; have h9_7 := ry25; have h9_8 := (bn4t_ME_undone).1; have h9_9 := (bn4t_ME_undone).2; have h9_10 := q_ME; omega), by rw [ht]; exact hP, hD⟩⟩, hS.F ht⟩) hS.2.2 dX3_stepOn_58
    · refine zz_alda (v := (KRr 38)) hx hb hK hP 1 4 rfl rfl (zB_in (show zB 38 38 38 from ⟨by decide, by decide⟩) (by decide) (by decide)) (k_ME_kept 38 (by decide)) dX3_stepOn_45 ?_
      refine lv_iconst (v := 0) hx hb dX3_stepOn_46 (by decide) ?_
      refine lv_aload_n hx hb dX3_stepOn_47 rfl (lv_at hl 0 rfl) ?_
      refine va_get (D := D) (ci := 3) (v := .ref (aME 1)) (C := RX3) (T := TX3) (N := 9) hx hb hts iw_X3_stepOn_X3 hown hK hP 0 rfl rfl 1 (by decide) (hts (.fieldLink RX3 11 "SoldHouse$Memory" "now" "[I") (List.mem_of_getElem? (i := 5) rfl)) (fun _ h9 => h9) rfl dX3_stepOn_48 ?_
      refine lv_iconst (v := 0) hx hb dX3_stepOn_51 (by decide) ?_
      refine lv_bipush (v := 32) hx hb dX3_stepOn_52 (by decide) ?_
      refine zi_copy hx hb (by rw [hml]; exact hl.1.symm) hown (hts (.methodLink RX3 115 arraycopyName) (List.mem_of_getElem? (i := 6) rfl)) (hts (.native arraycopyName) (List.mem_of_getElem? (i := 7) rfl)) (hts (.static arraycopyName) (List.mem_of_getElem? (i := 8) rfl)) (hts (.initialized "java/lang/System") (List.mem_of_getElem? (i := 9) rfl)) hK hP hD hS 41 2 rfl rfl rfl (Nat.le_of_ble_eq_true rfl) (Nat.le_of_ble_eq_true rfl) dX3_stepOn_54 (fun H locs g54 e54 hP hD hS => ?_)
      have sg54 := zA_cpy e54 (w_KR 38 (by decide))
      replace hP : va_P D classes ([(ME, .inr (3, oX3 FL aME ME_oldest y15 y25)), ((aME 3), .inl (cG, 41, .inr (.inr (.inr (.inr ME_kept))))), ((aME 1), .inl (cI, 32, .inl g54))] ++ rw41 cI KRr KRf) H := hP
      replace hD : va_D A ([(ME, .inr (3, oX3 FL aME ME_oldest y15 y25)), ((aME 3), .inl (cG, 41, .inr (.inr (.inr (.inr ME_kept))))), ((aME 1), .inl (cI, 32, .inl g54))] ++ rw41 cI KRr KRf) := hD
      clear e54
      refine lv_iconst (v := 1) hx hb dX3_stepOn_57 (by decide) ?_
      exact W.zret (v := 1) (ty := .boolean) hx hb hr (by decide) (fun t ht hW => ⟨⟨1, (), rfl, (zB_w (show zB 1 1 1 from ⟨by decide, by decide⟩) (by decide) (by decide)), ⟨y15, y25, g54, (zB_w by15 (by decide) (by decide)), by25, sg54, (by have h9_0 := (by15).1; have h9_1 := (by15).2; have h9_2 := ry15; have h9_3 := (bhk_ME_done).1; have h9_4 := (bhk_ME_done).2; have h9_5 := (by25).1; have h9_6 := (by25).2; have h9_7 := ry25; have h9_8 := (bn4t_ME_undone).1; have h9_9 := (bn4t_ME_undone).2; have h9_10 := q_ME; omega), by rw [ht]; exact hP, hD⟩⟩, hS.F ht⟩) hS.2.2 dX3_stepOn_58
    · refine zz_alda (v := (KRr 39)) hx hb hK hP 1 4 rfl rfl (zB_in (show zB 39 39 39 from ⟨by decide, by decide⟩) (by decide) (by decide)) (k_ME_kept 39 (by decide)) dX3_stepOn_45 ?_
      refine lv_iconst (v := 0) hx hb dX3_stepOn_46 (by decide) ?_
      refine lv_aload_n hx hb dX3_stepOn_47 rfl (lv_at hl 0 rfl) ?_
      refine va_get (D := D) (ci := 3) (v := .ref (aME 1)) (C := RX3) (T := TX3) (N := 9) hx hb hts iw_X3_stepOn_X3 hown hK hP 0 rfl rfl 1 (by decide) (hts (.fieldLink RX3 11 "SoldHouse$Memory" "now" "[I") (List.mem_of_getElem? (i := 5) rfl)) (fun _ h9 => h9) rfl dX3_stepOn_48 ?_
      refine lv_iconst (v := 0) hx hb dX3_stepOn_51 (by decide) ?_
      refine lv_bipush (v := 32) hx hb dX3_stepOn_52 (by decide) ?_
      refine zi_copy hx hb (by rw [hml]; exact hl.1.symm) hown (hts (.methodLink RX3 115 arraycopyName) (List.mem_of_getElem? (i := 6) rfl)) (hts (.native arraycopyName) (List.mem_of_getElem? (i := 7) rfl)) (hts (.static arraycopyName) (List.mem_of_getElem? (i := 8) rfl)) (hts (.initialized "java/lang/System") (List.mem_of_getElem? (i := 9) rfl)) hK hP hD hS 42 2 rfl rfl rfl (Nat.le_of_ble_eq_true rfl) (Nat.le_of_ble_eq_true rfl) dX3_stepOn_54 (fun H locs g54 e54 hP hD hS => ?_)
      have sg54 := zA_cpy e54 (w_KR 39 (by decide))
      replace hP : va_P D classes ([(ME, .inr (3, oX3 FL aME ME_oldest y15 y25)), ((aME 3), .inl (cG, 41, .inr (.inr (.inr (.inr ME_kept))))), ((aME 1), .inl (cI, 32, .inl g54))] ++ rw41 cI KRr KRf) H := hP
      replace hD : va_D A ([(ME, .inr (3, oX3 FL aME ME_oldest y15 y25)), ((aME 3), .inl (cG, 41, .inr (.inr (.inr (.inr ME_kept))))), ((aME 1), .inl (cI, 32, .inl g54))] ++ rw41 cI KRr KRf) := hD
      clear e54
      refine lv_iconst (v := 1) hx hb dX3_stepOn_57 (by decide) ?_
      exact W.zret (v := 1) (ty := .boolean) hx hb hr (by decide) (fun t ht hW => ⟨⟨1, (), rfl, (zB_w (show zB 1 1 1 from ⟨by decide, by decide⟩) (by decide) (by decide)), ⟨y15, y25, g54, (zB_w by15 (by decide) (by decide)), by25, sg54, (by have h9_0 := (by15).1; have h9_1 := (by15).2; have h9_2 := ry15; have h9_3 := (bhk_ME_done).1; have h9_4 := (bhk_ME_done).2; have h9_5 := (by25).1; have h9_6 := (by25).2; have h9_7 := ry25; have h9_8 := (bn4t_ME_undone).1; have h9_9 := (bn4t_ME_undone).2; have h9_10 := q_ME; omega), by rw [ht]; exact hP, hD⟩⟩, hS.F ht⟩) hS.2.2 dX3_stepOn_58
    · refine zz_alda (v := (KRr 40)) hx hb hK hP 1 4 rfl rfl (zB_in (show zB 40 40 40 from ⟨by decide, by decide⟩) (by decide) (by decide)) (k_ME_kept 40 (by decide)) dX3_stepOn_45 ?_
      refine lv_iconst (v := 0) hx hb dX3_stepOn_46 (by decide) ?_
      refine lv_aload_n hx hb dX3_stepOn_47 rfl (lv_at hl 0 rfl) ?_
      refine va_get (D := D) (ci := 3) (v := .ref (aME 1)) (C := RX3) (T := TX3) (N := 9) hx hb hts iw_X3_stepOn_X3 hown hK hP 0 rfl rfl 1 (by decide) (hts (.fieldLink RX3 11 "SoldHouse$Memory" "now" "[I") (List.mem_of_getElem? (i := 5) rfl)) (fun _ h9 => h9) rfl dX3_stepOn_48 ?_
      refine lv_iconst (v := 0) hx hb dX3_stepOn_51 (by decide) ?_
      refine lv_bipush (v := 32) hx hb dX3_stepOn_52 (by decide) ?_
      refine zi_copy hx hb (by rw [hml]; exact hl.1.symm) hown (hts (.methodLink RX3 115 arraycopyName) (List.mem_of_getElem? (i := 6) rfl)) (hts (.native arraycopyName) (List.mem_of_getElem? (i := 7) rfl)) (hts (.static arraycopyName) (List.mem_of_getElem? (i := 8) rfl)) (hts (.initialized "java/lang/System") (List.mem_of_getElem? (i := 9) rfl)) hK hP hD hS 43 2 rfl rfl rfl (Nat.le_of_ble_eq_true rfl) (Nat.le_of_ble_eq_true rfl) dX3_stepOn_54 (fun H locs g54 e54 hP hD hS => ?_)
      have sg54 := zA_cpy e54 (w_KR 40 (by decide))
      replace hP : va_P D classes ([(ME, .inr (3, oX3 FL aME ME_oldest y15 y25)), ((aME 3), .inl (cG, 41, .inr (.inr (.inr (.inr ME_kept))))), ((aME 1), .inl (cI, 32, .inl g54))] ++ rw41 cI KRr KRf) H := hP
      replace hD : va_D A ([(ME, .inr (3, oX3 FL aME ME_oldest y15 y25)), ((aME 3), .inl (cG, 41, .inr (.inr (.inr (.inr ME_kept))))), ((aME 1), .inl (cI, 32, .inl g54))] ++ rw41 cI KRr KRf) := hD
      clear e54
      refine lv_iconst (v := 1) hx hb dX3_stepOn_57 (by decide) ?_
      exact W.zret (v := 1) (ty := .boolean) hx hb hr (by decide) (fun t ht hW => ⟨⟨1, (), rfl, (zB_w (show zB 1 1 1 from ⟨by decide, by decide⟩) (by decide) (by decide)), ⟨y15, y25, g54, (zB_w by15 (by decide) (by decide)), by25, sg54, (by have h9_0 := (by15).1; have h9_1 := (by15).2; have h9_2 := ry15; have h9_3 := (bhk_ME_done).1; have h9_4 := (bhk_ME_done).2; have h9_5 := (by25).1; have h9_6 := (by25).2; have h9_7 := ry25; have h9_8 := (bn4t_ME_undone).1; have h9_9 := (bn4t_ME_undone).2; have h9_10 := q_ME; omega), by rw [ht]; exact hP, hD⟩⟩, hS.F ht⟩) hS.2.2 dX3_stepOn_58
  · have be4f_ME_undone : zB ME_undone 0 0 := zB_eq c4 b_ME_undone (show zB 0 0 0 from ⟨by decide, by decide⟩) (by decide) (by decide)
    refine lv_iconst (v := 0) hx hb dX3_stepOn_7 (by decide) ?_
    exact W.zret (v := 0) (ty := .boolean) hx hb hr (by decide) (fun t ht hW => ⟨⟨0, (), rfl, (zB_w (show zB 0 0 0 from ⟨by decide, by decide⟩) (by decide) (by decide)), ⟨ME_done, ME_undone, ME_now, b_ME_done, (zB_w be4f_ME_undone (by decide) (by decide)), s_ME_now_0, q_ME, by rw [ht]; exact hP, hD⟩⟩, hS.F ht⟩) hS.2.2 dX3_stepOn_8
set_option maxHeartbeats 4000000 in
set_option maxRecDepth 100000 in
theorem c_X3_forgetActs (l : Launch) (D : va_G) (cI : ClassId) (cB : ClassId) (cL : ClassId) (cZ : ClassId) (cG : ClassId) (ME : Nat) (FL : Nat) (aME : Nat → Nat) (ME_oldest : Int32) (ME_done : Int32) (ME_undone : Int32) (ME_kept : Nat → Option Nat) (KRr : Nat → Nat) (ME_now : Nat → Int32) (KRf : Nat → Nat → Int32) (sz : Nat) (b_ME_oldest : zB ME_oldest 0 40) (b_ME_done : zB ME_done 0 40) (b_ME_undone : zB ME_undone 0 40) (k_ME_kept : ∀ j, j < 41 → ME_kept j = some (KRr j)) (s_ME_now_0 : zA ME_now 0 12 0 7) (w_KR : ∀ j, j < 41 → zA (KRf j) 0 12 0 7) : Met l yX3_forgetActs wsX3_forgetActs ({ frames := 1, cells := 0, slots := 0, locals := 40 }) (xp D [(cI, .int), (cB, .byte), (cL, .long), (cZ, .boolean), (cG, .array .int)] ([(ME, .inr (3, oX3 FL aME ME_oldest ME_done ME_undone)), ((aME 3), .inl (cG, 41, .inr (.inr (.inr (.inr ME_kept))))), ((aME 1), .inl (cI, 32, .inl ME_now))] ++ rw41 cI KRr KRf) sz [] [.ref ME]) (va_Qv (fun _ : Unit => True) (fun (_ : Unit) (t : State) => ∃ (nME_oldest : Int32), ∃ (nME_done : Int32), ∃ (nME_undone : Int32), ∃ (nKRf : Nat → Nat → Int32), zB nME_oldest 0 0 ∧ zB nME_done 0 0 ∧ zB nME_undone 0 0 ∧ (∀ j, j < 41 → zA (nKRf j) 0 12 0 7) ∧ xB D (va_A ([(ME, .inr (3, oX3 FL aME ME_oldest ME_done ME_undone)), ((aME 3), .inl (cG, 41, .inr (.inr (.inr (.inr ME_kept))))), ((aME 1), .inl (cI, 32, .inl ME_now))] ++ rw41 cI KRr KRf) sz) ([(ME, .inr (3, oX3 FL aME nME_oldest nME_done nME_undone)), ((aME 3), .inl (cG, 41, .inr (.inr (.inr (.inr ME_kept))))), ((aME 1), .inl (cI, 32, .inl ME_now))] ++ rw41 cI KRr nKRf) t) (va_A ([(ME, .inr (3, oX3 FL aME ME_oldest ME_done ME_undone)), ((aME 3), .inl (cG, 41, .inr (.inr (.inr (.inr ME_kept))))), ((aME 1), .inl (cI, 32, .inl ME_now))] ++ rw41 cI KRr KRf) sz)) 0 0 (va_A ([(ME, .inr (3, oX3 FL aME ME_oldest ME_done ME_undone)), ((aME 3), .inl (cG, 41, .inr (.inr (.inr (.inr ME_kept))))), ((aME 1), .inl (cI, 32, .inl ME_now))] ++ rw41 cI KRr KRf) sz) := by
  refine Met.ofW (cc := cX3_forgetActs) (maxL := 1) (ret := none) (by decide) rfl ?_
  intro p e s m args below meth c s₁ B hml hv
  obtain ⟨rfl, hsz, hP, hK, hD0, hNw⟩ := hv
  have hx := B.exec
  have hb := B.bytes
  have hr := B.returns
  have hts := atoms_spec (ws := wsX3_forgetActs) B.pre
  have hown : s.vm.findClass RX3 = some m.cls := findClass_of_methodNamed B.named
  have hlocks := B.notSynchronized
  clear B
  subst hsz
  have hD := hD0.self (sz := s.heap.size)
  clear hD0 hNw
  generalize hAe : va_A ([(ME, .inr (3, oX3 FL aME ME_oldest ME_done ME_undone)), ((aME 3), .inl (cG, 41, .inr (.inr (.inr (.inr ME_kept))))), ((aME 1), .inl (cI, 32, .inl ME_now))] ++ rw41 cI KRr KRf) s.heap.size = A at hD ⊢
  have hA : ∀ q : Nat, s.heap.size ≤ q → A q := fun q h => by rw [← hAe]; exact Or.inr h
  have hS : va_S A s.heap s.heap [] := va_S.rf
  clear hAe
  obtain ⟨H, hH⟩ : ∃ H : Heap, H = s.heap := ⟨_, rfl⟩
  obtain ⟨locs, hlocs⟩ : ∃ L : List Loc, L = [] := ⟨_, rfl⟩
  replace hP : va_P D classes ([(ME, .inr (3, oX3 FL aME ME_oldest ME_done ME_undone)), ((aME 3), .inl (cG, 41, .inr (.inr (.inr (.inr ME_kept))))), ((aME 1), .inl (cI, 32, .inl ME_now))] ++ rw41 cI KRr KRf) H := by rw [hH]; exact hP
  replace hS : va_S A s.heap H locs := by rw [hH, hlocs]; exact hS
  rw [← hH, ← hlocs]
  clear hlocs hH
  have hl := lv_entry ([.ref ME]) (n := 1) (Nat.le_of_ble_eq_true rfl)
  rw [lg_entry_eq]
  generalize (lg_sl ([.ref ME]) ++ List.replicate (1 - (lg_sl ([.ref ME])).length) Slot.unset).toArray = ls at hl ⊢
  replace hl : lv_has ls 1 [(0, .ref ME)] := hl
  refine lv_aload_n hx hb dX3_forgetActs_0 rfl (lv_at hl 0 rfl) ?_
  refine lv_iconst (v := 0) hx hb dX3_forgetActs_1 (by decide) ?_
  refine va_put (D := D) (ci := 3) (v := .int 0) (ty := tyX3 4) (C := RX3) (T := TX3) (N := 9) hx hb hts iw_X3_forgetActs_X3 tyX3 tyX3_ok nmX3 hown hK hP hD hS 0 rfl rfl 4 (by decide) (hts (.fieldLink RX3 134 "SoldHouse$Memory" "oldest" "I") (List.mem_of_getElem? (i := 1) rfl)) (fun _ h9 => h9) rfl (by decide +kernel) rfl rfl (Nat.le_of_ble_eq_true rfl) dX3_forgetActs_2 (fun H locs hP hD hS => ?_)
  replace hP : va_P D classes ([(ME, .inr (3, oX3 FL aME 0 ME_done ME_undone)), ((aME 3), .inl (cG, 41, .inr (.inr (.inr (.inr ME_kept))))), ((aME 1), .inl (cI, 32, .inl ME_now))] ++ rw41 cI KRr KRf) H := hP
  replace hD : va_D A ([(ME, .inr (3, oX3 FL aME 0 ME_done ME_undone)), ((aME 3), .inl (cG, 41, .inr (.inr (.inr (.inr ME_kept))))), ((aME 1), .inl (cI, 32, .inl ME_now))] ++ rw41 cI KRr KRf) := hD
  refine lv_aload_n hx hb dX3_forgetActs_5 rfl (lv_at hl 0 rfl) ?_
  refine lv_iconst (v := 0) hx hb dX3_forgetActs_6 (by decide) ?_
  refine va_put (D := D) (ci := 3) (v := .int 0) (ty := tyX3 5) (C := RX3) (T := TX3) (N := 9) hx hb hts iw_X3_forgetActs_X3 tyX3 tyX3_ok nmX3 hown hK hP hD hS 0 rfl rfl 5 (by decide) (hts (.fieldLink RX3 131 "SoldHouse$Memory" "done" "I") (List.mem_of_getElem? (i := 2) rfl)) (fun _ h9 => h9) rfl (by decide +kernel) rfl rfl (Nat.le_of_ble_eq_true rfl) dX3_forgetActs_7 (fun H locs hP hD hS => ?_)
  replace hP : va_P D classes ([(ME, .inr (3, oX3 FL aME 0 0 ME_undone)), ((aME 3), .inl (cG, 41, .inr (.inr (.inr (.inr ME_kept))))), ((aME 1), .inl (cI, 32, .inl ME_now))] ++ rw41 cI KRr KRf) H := hP
  replace hD : va_D A ([(ME, .inr (3, oX3 FL aME 0 0 ME_undone)), ((aME 3), .inl (cG, 41, .inr (.inr (.inr (.inr ME_kept))))), ((aME 1), .inl (cI, 32, .inl ME_now))] ++ rw41 cI KRr KRf) := hD
  refine lv_aload_n hx hb dX3_forgetActs_10 rfl (lv_at hl 0 rfl) ?_
  refine lv_iconst (v := 0) hx hb dX3_forgetActs_11 (by decide) ?_
  refine va_put (D := D) (ci := 3) (v := .int 0) (ty := tyX3 6) (C := RX3) (T := TX3) (N := 9) hx hb hts iw_X3_forgetActs_X3 tyX3 tyX3_ok nmX3 hown hK hP hD hS 0 rfl rfl 6 (by decide) (hts (.fieldLink RX3 128 "SoldHouse$Memory" "undone" "I") (List.mem_of_getElem? (i := 3) rfl)) (fun _ h9 => h9) rfl (by decide +kernel) rfl rfl (Nat.le_of_ble_eq_true rfl) dX3_forgetActs_12 (fun H locs hP hD hS => ?_)
  replace hP : va_P D classes ([(ME, .inr (3, oX3 FL aME 0 0 0)), ((aME 3), .inl (cG, 41, .inr (.inr (.inr (.inr ME_kept))))), ((aME 1), .inl (cI, 32, .inl ME_now))] ++ rw41 cI KRr KRf) H := hP
  replace hD : va_D A ([(ME, .inr (3, oX3 FL aME 0 0 0)), ((aME 3), .inl (cG, 41, .inr (.inr (.inr (.inr ME_kept))))), ((aME 1), .inl (cI, 32, .inl ME_now))] ++ rw41 cI KRr KRf) := hD
  refine lv_aload_n hx hb dX3_forgetActs_15 rfl (lv_at hl 0 rfl) ?_
  refine va_get (D := D) (ci := 3) (v := .ref (aME 1)) (C := RX3) (T := TX3) (N := 9) hx hb hts iw_X3_forgetActs_X3 hown hK hP 0 rfl rfl 1 (by decide) (hts (.fieldLink RX3 11 "SoldHouse$Memory" "now" "[I") (List.mem_of_getElem? (i := 4) rfl)) (fun _ h9 => h9) rfl dX3_forgetActs_16 ?_
  refine lv_iconst (v := 0) hx hb dX3_forgetActs_19 (by decide) ?_
  refine lv_aload_n hx hb dX3_forgetActs_20 rfl (lv_at hl 0 rfl) ?_
  refine va_get (D := D) (ci := 3) (v := .ref (aME 3)) (C := RX3) (T := TX3) (N := 9) hx hb hts iw_X3_forgetActs_X3 hown hK hP 0 rfl rfl 3 (by decide) (hts (.fieldLink RX3 20 "SoldHouse$Memory" "kept" "[[I") (List.mem_of_getElem? (i := 5) rfl)) (fun _ h9 => h9) rfl dX3_forgetActs_21 ?_
  refine lv_iconst (v := 0) hx hb dX3_forgetActs_24 (by decide) ?_
  refine zz_alda (v := (KRr 0)) hx hb hK hP 1 4 rfl rfl (zB_in (show zB 0 0 0 from ⟨by decide, by decide⟩) (by decide) (by decide)) (k_ME_kept 0 (by decide)) dX3_forgetActs_25 ?_
  refine lv_iconst (v := 0) hx hb dX3_forgetActs_26 (by decide) ?_
  refine lv_bipush (v := 32) hx hb dX3_forgetActs_27 (by decide) ?_
  refine zi_copy hx hb (by rw [hml]; exact hl.1.symm) hown (hts (.methodLink RX3 115 arraycopyName) (List.mem_of_getElem? (i := 6) rfl)) (hts (.native arraycopyName) (List.mem_of_getElem? (i := 7) rfl)) (hts (.static arraycopyName) (List.mem_of_getElem? (i := 8) rfl)) (hts (.initialized "java/lang/System") (List.mem_of_getElem? (i := 9) rfl)) hK hP hD hS 2 3 rfl rfl rfl (Nat.le_of_ble_eq_true rfl) (Nat.le_of_ble_eq_true rfl) dX3_forgetActs_29 (fun H locs g29 e29 hP hD hS => ?_)
  have sg29 := zA_cpy e29 s_ME_now_0
  replace hP : va_P D classes ([(ME, .inr (3, oX3 FL aME 0 0 0)), ((aME 3), .inl (cG, 41, .inr (.inr (.inr (.inr ME_kept))))), ((aME 1), .inl (cI, 32, .inl ME_now))] ++ rw41 cI KRr (rup KRf 0 g29)) H := hP
  replace hD : va_D A ([(ME, .inr (3, oX3 FL aME 0 0 0)), ((aME 3), .inl (cG, 41, .inr (.inr (.inr (.inr ME_kept))))), ((aME 1), .inl (cI, 32, .inl ME_now))] ++ rw41 cI KRr (rup KRf 0 g29)) := hD
  clear e29
  exact W.vret hx hb hr (fun t ht hW => ⟨⟨(), rfl, trivial, ⟨0, 0, 0, (rup KRf 0 g29), (show zB 0 0 0 from ⟨by decide, by decide⟩), (show zB 0 0 0 from ⟨by decide, by decide⟩), (show zB 0 0 0 from ⟨by decide, by decide⟩), (rup_ok w_KR sg29), by rw [ht]; exact hP, hD⟩⟩, hS.F ht⟩) hS.2.2 dX3_forgetActs_32
set_option maxHeartbeats 4000000 in
set_option maxRecDepth 100000 in
theorem c_X3_begin (l : Launch) (D : va_G) (cI : ClassId) (cB : ClassId) (cL : ClassId) (cZ : ClassId) (cG : ClassId) (ME : Nat) (FL : Nat) (aME : Nat → Nat) (ME_oldest : Int32) (ME_done : Int32) (ME_undone : Int32) (PL : Nat) (aFL : Nat → Nat) (FL_parting : Int32) (PL_rooms : Int32) (aPL : Nat → Nat) (PL_doors : Int32) (PL_things : Int32) (FO : Nat) (PL_draw : Int32) (PL_drawTold : Int32) (ME_now : Nat → Int32) (PL_in : Nat → Int32) (PL_was : Nat → Int32) (PL_ours : Nat → Int32) (ME_full : Nat → Int32) (ME_kept : Nat → Option Nat) (KRr : Nat → Nat) (KRf : Nat → Nat → Int32) (sz : Nat) (b_ME_oldest : zB ME_oldest 0 40) (b_ME_done : zB ME_done 0 40) (b_ME_undone : zB ME_undone 0 40) (b_PL_rooms : zB PL_rooms 0 8) (b_PL_doors : zB PL_doors 0 12) (b_PL_things : zB PL_things 0 6) (s_ME_now_0 : zA ME_now 0 12 0 7) (s_PL_in_0 : zA PL_in 0 6 0 7) (s_PL_was_0 : zA PL_was 0 6 0 7) (k_ME_kept : ∀ j, j < 41 → ME_kept j = some (KRr j)) (w_KR : ∀ j, j < 41 → zA (KRf j) 0 12 0 7) : Met l yX3_begin wsX3_begin ({ frames := 2, cells := 0, slots := 0, locals := 60 }) (xp D [(cI, .int), (cB, .byte), (cL, .long), (cZ, .boolean), (cG, .array .int)] ([(ME, .inr (3, oX3 FL aME ME_oldest ME_done ME_undone)), (FL, .inr (0, oX0 PL aFL FL_parting)), (PL, .inr (5, oX5 FO aPL PL_rooms PL_doors PL_things PL_draw PL_drawTold)), ((aME 1), .inl (cI, 32, .inl ME_now)), ((aPL 8), .inl (cI, 6, .inl PL_in)), ((aPL 9), .inl (cI, 6, .inl PL_was)), ((aPL 10), .inl (cI, 6, .inl PL_ours)), ((aME 8), .inl (cZ, 3, .inl ME_full)), ((aME 3), .inl (cG, 41, .inr (.inr (.inr (.inr ME_kept)))))] ++ rw41 cI KRr KRf) sz [] [.ref ME]) (va_Qv (fun _ : Unit => True) (fun (_ : Unit) (t : State) => ∃ (nME_oldest : Int32), ∃ (nME_done : Int32), ∃ (nME_undone : Int32), ∃ (nMEnow : Nat → Int32), ∃ (nMEfull : Nat → Int32), ∃ (nKRf : Nat → Nat → Int32), zB nME_oldest 0 0 ∧ zB nME_done 0 0 ∧ zB nME_undone 0 0 ∧ zA nMEnow 0 12 0 7 ∧ (∀ j, j < 41 → zA (nKRf j) 0 12 0 7) ∧ xB D (va_A ([(ME, .inr (3, oX3 FL aME ME_oldest ME_done ME_undone)), (FL, .inr (0, oX0 PL aFL FL_parting)), (PL, .inr (5, oX5 FO aPL PL_rooms PL_doors PL_things PL_draw PL_drawTold)), ((aME 1), .inl (cI, 32, .inl ME_now)), ((aPL 8), .inl (cI, 6, .inl PL_in)), ((aPL 9), .inl (cI, 6, .inl PL_was)), ((aPL 10), .inl (cI, 6, .inl PL_ours)), ((aME 8), .inl (cZ, 3, .inl ME_full)), ((aME 3), .inl (cG, 41, .inr (.inr (.inr (.inr ME_kept)))))] ++ rw41 cI KRr KRf) sz) ([(ME, .inr (3, oX3 FL aME nME_oldest nME_done nME_undone)), (FL, .inr (0, oX0 PL aFL FL_parting)), (PL, .inr (5, oX5 FO aPL PL_rooms PL_doors PL_things PL_draw PL_drawTold)), ((aME 1), .inl (cI, 32, .inl nMEnow)), ((aPL 8), .inl (cI, 6, .inl PL_in)), ((aPL 9), .inl (cI, 6, .inl PL_was)), ((aPL 10), .inl (cI, 6, .inl PL_ours)), ((aME 8), .inl (cZ, 3, .inl nMEfull)), ((aME 3), .inl (cG, 41, .inr (.inr (.inr (.inr ME_kept)))))] ++ rw41 cI KRr nKRf) t) (va_A ([(ME, .inr (3, oX3 FL aME ME_oldest ME_done ME_undone)), (FL, .inr (0, oX0 PL aFL FL_parting)), (PL, .inr (5, oX5 FO aPL PL_rooms PL_doors PL_things PL_draw PL_drawTold)), ((aME 1), .inl (cI, 32, .inl ME_now)), ((aPL 8), .inl (cI, 6, .inl PL_in)), ((aPL 9), .inl (cI, 6, .inl PL_was)), ((aPL 10), .inl (cI, 6, .inl PL_ours)), ((aME 8), .inl (cZ, 3, .inl ME_full)), ((aME 3), .inl (cG, 41, .inr (.inr (.inr (.inr ME_kept)))))] ++ rw41 cI KRr KRf) sz)) 0 0 (va_A ([(ME, .inr (3, oX3 FL aME ME_oldest ME_done ME_undone)), (FL, .inr (0, oX0 PL aFL FL_parting)), (PL, .inr (5, oX5 FO aPL PL_rooms PL_doors PL_things PL_draw PL_drawTold)), ((aME 1), .inl (cI, 32, .inl ME_now)), ((aPL 8), .inl (cI, 6, .inl PL_in)), ((aPL 9), .inl (cI, 6, .inl PL_was)), ((aPL 10), .inl (cI, 6, .inl PL_ours)), ((aME 8), .inl (cZ, 3, .inl ME_full)), ((aME 3), .inl (cG, 41, .inr (.inr (.inr (.inr ME_kept)))))] ++ rw41 cI KRr KRf) sz) := by
  refine Met.ofW (cc := cX3_begin) (maxL := 3) (ret := none) (by decide) rfl ?_
  intro p e s m args below meth c s₁ B hml hv
  obtain ⟨rfl, hsz, hP, hK, hD0, hNw⟩ := hv
  have hx := B.exec
  have hb := B.bytes
  have hr := B.returns
  have hts := atoms_spec (ws := wsX3_begin) B.pre
  have hown : s.vm.findClass RX3 = some m.cls := findClass_of_methodNamed B.named
  have hlocks := B.notSynchronized
  clear B
  subst hsz
  have hD := hD0.self (sz := s.heap.size)
  clear hD0 hNw
  generalize hAe : va_A ([(ME, .inr (3, oX3 FL aME ME_oldest ME_done ME_undone)), (FL, .inr (0, oX0 PL aFL FL_parting)), (PL, .inr (5, oX5 FO aPL PL_rooms PL_doors PL_things PL_draw PL_drawTold)), ((aME 1), .inl (cI, 32, .inl ME_now)), ((aPL 8), .inl (cI, 6, .inl PL_in)), ((aPL 9), .inl (cI, 6, .inl PL_was)), ((aPL 10), .inl (cI, 6, .inl PL_ours)), ((aME 8), .inl (cZ, 3, .inl ME_full)), ((aME 3), .inl (cG, 41, .inr (.inr (.inr (.inr ME_kept)))))] ++ rw41 cI KRr KRf) s.heap.size = A at hD ⊢
  have hA : ∀ q : Nat, s.heap.size ≤ q → A q := fun q h => by rw [← hAe]; exact Or.inr h
  have hS : va_S A s.heap s.heap [] := va_S.rf
  clear hAe
  obtain ⟨H, hH⟩ : ∃ H : Heap, H = s.heap := ⟨_, rfl⟩
  obtain ⟨locs, hlocs⟩ : ∃ L : List Loc, L = [] := ⟨_, rfl⟩
  replace hP : va_P D classes ([(ME, .inr (3, oX3 FL aME ME_oldest ME_done ME_undone)), (FL, .inr (0, oX0 PL aFL FL_parting)), (PL, .inr (5, oX5 FO aPL PL_rooms PL_doors PL_things PL_draw PL_drawTold)), ((aME 1), .inl (cI, 32, .inl ME_now)), ((aPL 8), .inl (cI, 6, .inl PL_in)), ((aPL 9), .inl (cI, 6, .inl PL_was)), ((aPL 10), .inl (cI, 6, .inl PL_ours)), ((aME 8), .inl (cZ, 3, .inl ME_full)), ((aME 3), .inl (cG, 41, .inr (.inr (.inr (.inr ME_kept)))))] ++ rw41 cI KRr KRf) H := by rw [hH]; exact hP
  replace hS : va_S A s.heap H locs := by rw [hH, hlocs]; exact hS
  rw [← hH, ← hlocs]
  clear hlocs hH
  have hl := lv_entry ([.ref ME]) (n := 3) (Nat.le_of_ble_eq_true rfl)
  rw [lg_entry_eq]
  generalize (lg_sl ([.ref ME]) ++ List.replicate (3 - (lg_sl ([.ref ME])).length) Slot.unset).toArray = ls at hl ⊢
  replace hl : lv_has ls 3 [(0, .ref ME)] := hl
  refine zz_abs (R := ({ frames := 2, cells := 0, slots := 0, locals := 60 } : Room)) (fun Q up => ?_)
  refine lv_aload_n hx hb dX3_begin_0 rfl (lv_at hl 0 rfl) ?_
  refine va_get (D := D) (ci := 3) (v := .ref FL) (C := RX3) (T := TX3) (N := 9) hx hb hts iw_X3_begin_X3 hown hK hP 0 rfl rfl 0 (by decide) (hts (.fieldLink RX3 30 "SoldHouse$Memory" "floor" "LSoldHouse$Floor;") (List.mem_of_getElem? (i := 1) rfl)) (fun _ h9 => h9) rfl dX3_begin_1 ?_
  refine va_get (D := D) (ci := 0) (v := .ref PL) (C := RX0) (T := TX0) (N := 5) hx hb hts iw_X3_begin_X0 hown hK hP 1 rfl rfl 0 (by decide) (hts (.fieldLink RX3 34 "SoldHouse$Floor" "plan" "LSoldHouse$Plan;") (List.mem_of_getElem? (i := 2) rfl)) (fun _ h9 => h9) rfl dX3_begin_4 ?_
  refine lv_astore_n (lv' := [(1, .ref PL), (0, .ref ME)]) hx hb dX3_begin_7 rfl hl (by decide) rfl (fun ls hl => ?_)
  refine lv_iconst (v := 0) hx hb dX3_begin_8 (by decide) ?_
  have j10 : ∀ (n10 : Nat) (H : Heap) (locs : List Loc) (ls : Array Slot) (v10_2 : Int32) (g10_aME1 : Nat → Int32), zB v10_2 0 6 → zA g10_aME1 0 12 0 7 → zA PL_in 0 6 0 7 → zA PL_was 0 6 0 7 → (6 + 1 - v10_2.toInt) ≤ (n10 : Int) → va_P D classes ([(ME, .inr (3, oX3 FL aME ME_oldest ME_done ME_undone)), (FL, .inr (0, oX0 PL aFL FL_parting)), (PL, .inr (5, oX5 FO aPL PL_rooms PL_doors PL_things PL_draw PL_drawTold)), ((aME 1), .inl (cI, 32, .inl g10_aME1)), ((aPL 8), .inl (cI, 6, .inl PL_in)), ((aPL 9), .inl (cI, 6, .inl PL_was)), ((aPL 10), .inl (cI, 6, .inl PL_ours)), ((aME 8), .inl (cZ, 3, .inl ME_full)), ((aME 3), .inl (cG, 41, .inr (.inr (.inr (.inr ME_kept)))))] ++ rw41 cI KRr KRf) H → va_D A ([(ME, .inr (3, oX3 FL aME ME_oldest ME_done ME_undone)), (FL, .inr (0, oX0 PL aFL FL_parting)), (PL, .inr (5, oX5 FO aPL PL_rooms PL_doors PL_things PL_draw PL_drawTold)), ((aME 1), .inl (cI, 32, .inl g10_aME1)), ((aPL 8), .inl (cI, 6, .inl PL_in)), ((aPL 9), .inl (cI, 6, .inl PL_was)), ((aPL 10), .inl (cI, 6, .inl PL_ours)), ((aME 8), .inl (cZ, 3, .inl ME_full)), ((aME 3), .inl (cG, 41, .inr (.inr (.inr (.inr ME_kept)))))] ++ rw41 cI KRr KRf) → va_S A s.heap H locs → lv_has ls 3 [(2, .int v10_2), (1, .ref PL), (0, .ref ME)] → W p l e ({ frames := 2, cells := 0, slots := 0, locals := 60 } : Room) s m ([.ref ME] : List Value).toArray below meth c H locs 0 0 Q (F0 m 10 ls []) := by
    intro n10
    induction n10 with
    | zero => intro H locs ls v10_2 g10_aME1 bv10_2_k10 sg10_aME1_0_k10 sPL_in_0_k10 sPL_was_0_k10 hm10 hP hD hS hl; exact zM_u0 bv10_2_k10 hm10
    | succ n10 ih10 =>
      intro H locs ls v10_2 g10_aME1 bv10_2_k10 sg10_aME1_0_k10 sPL_in_0_k10 sPL_was_0_k10 hm10 hP hD hS hl
      refine lv_iload_n hx hb dX3_begin_10 rfl (lv_at hl 0 rfl) ?_
      refine lv_aload_n hx hb dX3_begin_11 rfl (lv_at hl 1 rfl) ?_
      refine va_get (D := D) (ci := 5) (v := .int PL_things) (C := RX5) (T := TX5) (N := 16) hx hb hts iw_X3_begin_X5 hown hK hP 2 rfl rfl 6 (by decide) (hts (.fieldLink RX3 40 "SoldHouse$Plan" "things" "I") (List.mem_of_getElem? (i := 3) rfl)) (fun _ h9 => h9) rfl dX3_begin_12 ?_
      refine lv_icmp_ge (tgt := 88) hx hb dX3_begin_15 (by decide) (fun c15 => ?_) (fun c15 => ?_)
      · refine lv_aload_n hx hb dX3_begin_88 rfl (lv_at hl 2 rfl) ?_
        refine va_get (D := D) (ci := 3) (v := .ref (aME 1)) (C := RX3) (T := TX3) (N := 9) hx hb hts iw_X3_begin_X3 hown hK hP 0 rfl rfl 1 (by decide) (hts (.fieldLink RX3 11 "SoldHouse$Memory" "now" "[I") (List.mem_of_getElem? (i := 4) rfl)) (fun _ h9 => h9) rfl dX3_begin_89 ?_
        refine lv_bipush (v := 30) hx hb dX3_begin_92 (by decide) ?_
        refine lv_iconst (v := 0) hx hb dX3_begin_94 (by decide) ?_
        refine zi_iast hx hb hK hP hD hS 3 0 rfl rfl (zB_in (show zB 30 30 30 from ⟨by decide, by decide⟩) (by decide) (by decide)) dX3_begin_95 (fun H locs g95 eg95 hP hD hS => ?_)
        replace hP : va_P D classes ([(ME, .inr (3, oX3 FL aME ME_oldest ME_done ME_undone)), (FL, .inr (0, oX0 PL aFL FL_parting)), (PL, .inr (5, oX5 FO aPL PL_rooms PL_doors PL_things PL_draw PL_drawTold)), ((aME 1), .inl (cI, 32, .inl g95)), ((aPL 8), .inl (cI, 6, .inl PL_in)), ((aPL 9), .inl (cI, 6, .inl PL_was)), ((aPL 10), .inl (cI, 6, .inl PL_ours)), ((aME 8), .inl (cZ, 3, .inl ME_full)), ((aME 3), .inl (cG, 41, .inr (.inr (.inr (.inr ME_kept)))))] ++ rw41 cI KRr KRf) H := hP
        replace hD : va_D A ([(ME, .inr (3, oX3 FL aME ME_oldest ME_done ME_undone)), (FL, .inr (0, oX0 PL aFL FL_parting)), (PL, .inr (5, oX5 FO aPL PL_rooms PL_doors PL_things PL_draw PL_drawTold)), ((aME 1), .inl (cI, 32, .inl g95)), ((aPL 8), .inl (cI, 6, .inl PL_in)), ((aPL 9), .inl (cI, 6, .inl PL_was)), ((aPL 10), .inl (cI, 6, .inl PL_ours)), ((aME 8), .inl (cZ, 3, .inl ME_full)), ((aME 3), .inl (cG, 41, .inr (.inr (.inr (.inr ME_kept)))))] ++ rw41 cI KRr KRf) := hD
        have sg95_0 := zA_un eg95 sg10_aME1_0_k10 (show zB 30 30 30 from ⟨by decide, by decide⟩) (by decide) (by decide)
        clear eg95
        refine lv_aload_n hx hb dX3_begin_96 rfl (lv_at hl 2 rfl) ?_
        refine va_get (D := D) (ci := 3) (v := .ref (aME 1)) (C := RX3) (T := TX3) (N := 9) hx hb hts iw_X3_begin_X3 hown hK hP 0 rfl rfl 1 (by decide) (hts (.fieldLink RX3 11 "SoldHouse$Memory" "now" "[I") (List.mem_of_getElem? (i := 4) rfl)) (fun _ h9 => h9) rfl dX3_begin_97 ?_
        refine lv_bipush (v := 31) hx hb dX3_begin_100 (by decide) ?_
        refine lv_aload_n hx hb dX3_begin_102 rfl (lv_at hl 1 rfl) ?_
        refine va_get (D := D) (ci := 5) (v := .int PL_draw) (C := RX5) (T := TX5) (N := 16) hx hb hts iw_X3_begin_X5 hown hK hP 2 rfl rfl 14 (by decide) (hts (.fieldLink RX3 55 "SoldHouse$Plan" "draw" "I") (List.mem_of_getElem? (i := 8) rfl)) (fun _ h9 => h9) rfl dX3_begin_103 ?_
        refine zi_iast hx hb hK hP hD hS 3 0 rfl rfl (zB_in (show zB 31 31 31 from ⟨by decide, by decide⟩) (by decide) (by decide)) dX3_begin_106 (fun H locs g106 eg106 hP hD hS => ?_)
        replace hP : va_P D classes ([(ME, .inr (3, oX3 FL aME ME_oldest ME_done ME_undone)), (FL, .inr (0, oX0 PL aFL FL_parting)), (PL, .inr (5, oX5 FO aPL PL_rooms PL_doors PL_things PL_draw PL_drawTold)), ((aME 1), .inl (cI, 32, .inl g106)), ((aPL 8), .inl (cI, 6, .inl PL_in)), ((aPL 9), .inl (cI, 6, .inl PL_was)), ((aPL 10), .inl (cI, 6, .inl PL_ours)), ((aME 8), .inl (cZ, 3, .inl ME_full)), ((aME 3), .inl (cG, 41, .inr (.inr (.inr (.inr ME_kept)))))] ++ rw41 cI KRr KRf) H := hP
        replace hD : va_D A ([(ME, .inr (3, oX3 FL aME ME_oldest ME_done ME_undone)), (FL, .inr (0, oX0 PL aFL FL_parting)), (PL, .inr (5, oX5 FO aPL PL_rooms PL_doors PL_things PL_draw PL_drawTold)), ((aME 1), .inl (cI, 32, .inl g106)), ((aPL 8), .inl (cI, 6, .inl PL_in)), ((aPL 9), .inl (cI, 6, .inl PL_was)), ((aPL 10), .inl (cI, 6, .inl PL_ours)), ((aME 8), .inl (cZ, 3, .inl ME_full)), ((aME 3), .inl (cG, 41, .inr (.inr (.inr (.inr ME_kept)))))] ++ rw41 cI KRr KRf) := hD
        have sg106_0 := zA_un eg106 sg95_0 (show zB 31 31 31 from ⟨by decide, by decide⟩) (by decide) (by decide)
        clear eg106
        refine lv_iconst (v := 0) hx hb dX3_begin_107 (by decide) ?_
        have j109 : ∀ (n109 : Nat) (H : Heap) (locs : List Loc) (ls : Array Slot) (v109_2 : Int32) (g109_aME8 : Nat → Int32), zB v109_2 0 3 → zA g106 0 12 0 7 → zA PL_in 0 6 0 7 → zA PL_was 0 6 0 7 → (3 + 1 - v109_2.toInt) ≤ (n109 : Int) → va_P D classes ([(ME, .inr (3, oX3 FL aME ME_oldest ME_done ME_undone)), (FL, .inr (0, oX0 PL aFL FL_parting)), (PL, .inr (5, oX5 FO aPL PL_rooms PL_doors PL_things PL_draw PL_drawTold)), ((aME 1), .inl (cI, 32, .inl g106)), ((aPL 8), .inl (cI, 6, .inl PL_in)), ((aPL 9), .inl (cI, 6, .inl PL_was)), ((aPL 10), .inl (cI, 6, .inl PL_ours)), ((aME 8), .inl (cZ, 3, .inl g109_aME8)), ((aME 3), .inl (cG, 41, .inr (.inr (.inr (.inr ME_kept)))))] ++ rw41 cI KRr KRf) H → va_D A ([(ME, .inr (3, oX3 FL aME ME_oldest ME_done ME_undone)), (FL, .inr (0, oX0 PL aFL FL_parting)), (PL, .inr (5, oX5 FO aPL PL_rooms PL_doors PL_things PL_draw PL_drawTold)), ((aME 1), .inl (cI, 32, .inl g106)), ((aPL 8), .inl (cI, 6, .inl PL_in)), ((aPL 9), .inl (cI, 6, .inl PL_was)), ((aPL 10), .inl (cI, 6, .inl PL_ours)), ((aME 8), .inl (cZ, 3, .inl g109_aME8)), ((aME 3), .inl (cG, 41, .inr (.inr (.inr (.inr ME_kept)))))] ++ rw41 cI KRr KRf) → va_S A s.heap H locs → lv_has ls 3 [(2, .int v109_2), (1, .ref PL), (0, .ref ME)] → W p l e ({ frames := 2, cells := 0, slots := 0, locals := 60 } : Room) s m ([.ref ME] : List Value).toArray below meth c H locs 0 0 Q (F0 m 109 ls []) := by
          intro n109
          induction n109 with
          | zero => intro H locs ls v109_2 g109_aME8 bv109_2_k109 sg106_0_k109 sPL_in_0_k109 sPL_was_0_k109 hm109 hP hD hS hl; exact zM_u0 bv109_2_k109 hm109
          | succ n109 ih109 =>
            intro H locs ls v109_2 g109_aME8 bv109_2_k109 sg106_0_k109 sPL_in_0_k109 sPL_was_0_k109 hm109 hP hD hS hl
            refine lv_iload_n hx hb dX3_begin_109 rfl (lv_at hl 0 rfl) ?_
            refine lv_iconst (v := 3) hx hb dX3_begin_110 (by decide) ?_
            refine lv_icmp_ge (tgt := 127) hx hb dX3_begin_111 (by decide) (fun c111 => ?_) (fun c111 => ?_)
            · have by111t_v109_2 : zB v109_2 3 3 := zB_lev (ze c111) (show zB 3 3 3 from ⟨by decide, by decide⟩) bv109_2_k109 (by decide)
              refine lv_aload_n hx hb dX3_begin_127 rfl (lv_at hl 2 rfl) ?_
              have hPc := hP.sub (ws' := ([(ME, .inr (3, oX3 FL aME ME_oldest ME_done ME_undone)), ((aME 3), .inl (cG, 41, .inr (.inr (.inr (.inr ME_kept))))), ((aME 1), .inl (cI, 32, .inl g106))] ++ rw41 cI KRr KRf)) [0, 8, 3, 9, 10, 11, 12, 13, 14, 15, 16, 17, 18, 19, 20, 21, 22, 23, 24, 25, 26, 27, 28, 29, 30, 31, 32, 33, 34, 35, 36, 37, 38, 39, 40, 41, 42, 43, 44, 45, 46, 47, 48, 49] rfl
              have hDc := hD.sub (ws' := ([(ME, .inr (3, oX3 FL aME ME_oldest ME_done ME_undone)), ((aME 3), .inl (cG, 41, .inr (.inr (.inr (.inr ME_kept))))), ((aME 1), .inl (cI, 32, .inl g106))] ++ rw41 cI KRr KRf)) [0, 8, 3, 9, 10, 11, 12, 13, 14, 15, 16, 17, 18, 19, 20, 21, 22, 23, 24, 25, 26, 27, 28, 29, 30, 31, 32, 33, 34, 35, 36, 37, 38, 39, 40, 41, 42, 43, 44, 45, 46, 47, 48, 49] (by decide) rfl
              have hFc := va_free (wc := ([(ME, .inr (3, oX3 FL aME ME_oldest ME_done ME_undone)), ((aME 3), .inl (cG, 41, .inr (.inr (.inr (.inr ME_kept))))), ((aME 1), .inl (cI, 32, .inl g106))] ++ rw41 cI KRr KRf)) hD hS hA [0, 8, 3, 9, 10, 11, 12, 13, 14, 15, 16, 17, 18, 19, 20, 21, 22, 23, 24, 25, 26, 27, 28, 29, 30, 31, 32, 33, 34, 35, 36, 37, 38, 39, 40, 41, 42, 43, 44, 45, 46, 47, 48, 49] rfl
              refine va_callv (va_runV (As := []) (rest := []) ⟨hx, hb, hml, hown, hts⟩ (c_X3_forgetActs l D cI cB cL cZ cG ME FL aME ME_oldest ME_done ME_undone ME_kept KRr g106 KRf H.size b_ME_oldest b_ME_done b_ME_undone k_ME_kept sg106_0_k109 w_KR) (cwV 0 hts gX3_begin_X3_forgetActs rfl rfl rfl (by decide +kernel) ⟨Nat.le_of_ble_eq_true rfl, Nat.le_of_ble_eq_true rfl⟩) ⟨xp_blind, va_recv hK hP (ci := 3) (q0 := 0) rfl rfl, fun U hU hW => xp_mk hU hW hPc hK hDc xNw_nil⟩ rfl rfl hl.1 rfl (lv_room (Nat.le_of_ble_eq_true rfl)) dX3_begin_128 ⟨Nat.le_of_ble_eq_true rfl, Nat.le_of_ble_eq_true rfl⟩) hS (fun q _ h => hFc q h) hFc (fun u9 t9 H1 locs ht9 hvm9 hr128 hB9 hz9 hk9 hS => ?_)
              obtain ⟨o128_nME_oldest, o128_nME_done, o128_nME_undone, o128_nKRf, bo128_nME_oldest, bo128_nME_done, bo128_nME_undone, wo128_nKRf, hP1, hD1⟩ := hB9
              rw [ht9] at hP1
              obtain ⟨hP, hD⟩ := va_join (wr := [(FL, .inr (0, oX0 PL aFL FL_parting)), (PL, .inr (5, oX5 FO aPL PL_rooms PL_doors PL_things PL_draw PL_drawTold)), ((aPL 8), .inl (cI, 6, .inl PL_in)), ((aPL 9), .inl (cI, 6, .inl PL_was)), ((aPL 10), .inl (cI, 6, .inl PL_ours)), ((aME 8), .inl (cZ, 3, .inl g109_aME8))]) (w1 := ([(ME, .inr (3, oX3 FL aME o128_nME_oldest o128_nME_done o128_nME_undone)), ((aME 3), .inl (cG, 41, .inr (.inr (.inr (.inr ME_kept))))), ((aME 1), .inl (cI, 32, .inl g106))] ++ rw41 cI KRr o128_nKRf)) hP hD [0, 8, 3, 9, 10, 11, 12, 13, 14, 15, 16, 17, 18, 19, 20, 21, 22, 23, 24, 25, 26, 27, 28, 29, 30, 31, 32, 33, 34, 35, 36, 37, 38, 39, 40, 41, 42, 43, 44, 45, 46, 47, 48, 49] [1, 2, 4, 5, 6, 7] rfl rfl (by decide) (by decide) hk9 hFc hP1 hD1
              clear hz9 hPc hDc hP1 hD1 hk9 hFc ht9 hvm9 u9 t9
              generalize H1 = H at hP hS ⊢
              replace hP : va_P D classes ([(ME, .inr (3, oX3 FL aME o128_nME_oldest o128_nME_done o128_nME_undone)), (FL, .inr (0, oX0 PL aFL FL_parting)), (PL, .inr (5, oX5 FO aPL PL_rooms PL_doors PL_things PL_draw PL_drawTold)), ((aME 1), .inl (cI, 32, .inl g106)), ((aPL 8), .inl (cI, 6, .inl PL_in)), ((aPL 9), .inl (cI, 6, .inl PL_was)), ((aPL 10), .inl (cI, 6, .inl PL_ours)), ((aME 8), .inl (cZ, 3, .inl g109_aME8)), ((aME 3), .inl (cG, 41, .inr (.inr (.inr (.inr ME_kept)))))] ++ rw41 cI KRr o128_nKRf) H := hP.sub [6, 0, 1, 8, 2, 3, 4, 5, 7, 9, 10, 11, 12, 13, 14, 15, 16, 17, 18, 19, 20, 21, 22, 23, 24, 25, 26, 27, 28, 29, 30, 31, 32, 33, 34, 35, 36, 37, 38, 39, 40, 41, 42, 43, 44, 45, 46, 47, 48, 49] rfl
              replace hD : va_D A ([(ME, .inr (3, oX3 FL aME o128_nME_oldest o128_nME_done o128_nME_undone)), (FL, .inr (0, oX0 PL aFL FL_parting)), (PL, .inr (5, oX5 FO aPL PL_rooms PL_doors PL_things PL_draw PL_drawTold)), ((aME 1), .inl (cI, 32, .inl g106)), ((aPL 8), .inl (cI, 6, .inl PL_in)), ((aPL 9), .inl (cI, 6, .inl PL_was)), ((aPL 10), .inl (cI, 6, .inl PL_ours)), ((aME 8), .inl (cZ, 3, .inl g109_aME8)), ((aME 3), .inl (cG, 41, .inr (.inr (.inr (.inr ME_kept)))))] ++ rw41 cI KRr o128_nKRf) := hD.sub [6, 0, 1, 8, 2, 3, 4, 5, 7, 9, 10, 11, 12, 13, 14, 15, 16, 17, 18, 19, 20, 21, 22, 23, 24, 25, 26, 27, 28, 29, 30, 31, 32, 33, 34, 35, 36, 37, 38, 39, 40, 41, 42, 43, 44, 45, 46, 47, 48, 49] (by decide) rfl
              exact up _ _ _ (W.vret hx hb hr (fun t ht hW => ⟨⟨(), rfl, trivial, ⟨o128_nME_oldest, o128_nME_done, o128_nME_undone, g106, g109_aME8, o128_nKRf, bo128_nME_oldest, bo128_nME_done, bo128_nME_undone, sg106_0_k109, wo128_nKRf, by rw [ht]; exact hP, hD⟩⟩, hS.F ht⟩) hS.2.2 dX3_begin_131)
            · have bx111f_v109_2 : zB v109_2 0 2 := zB_ltu (zf c111) bv109_2_k109 (show zB 3 3 3 from ⟨by decide, by decide⟩) (by decide)
              refine lv_aload_n hx hb dX3_begin_114 rfl (lv_at hl 2 rfl) ?_
              refine va_get (D := D) (ci := 3) (v := .ref (aME 8)) (C := RX3) (T := TX3) (N := 9) hx hb hts iw_X3_begin_X3 hown hK hP 0 rfl rfl 8 (by decide) (hts (.fieldLink RX3 26 "SoldHouse$Memory" "full" "[Z") (List.mem_of_getElem? (i := 9) rfl)) (fun _ h9 => h9) rfl dX3_begin_115 ?_
              refine lv_iload_n hx hb dX3_begin_118 rfl (lv_at hl 0 rfl) ?_
              refine lv_iconst (v := 0) hx hb dX3_begin_119 (by decide) ?_
              refine zi_zast hx hb hK hP hD hS 7 3 rfl rfl (zB_in bx111f_v109_2 (by decide) (by decide)) dX3_begin_120 (fun H locs g120 eg120 hP hD hS => ?_)
              replace hP : va_P D classes ([(ME, .inr (3, oX3 FL aME ME_oldest ME_done ME_undone)), (FL, .inr (0, oX0 PL aFL FL_parting)), (PL, .inr (5, oX5 FO aPL PL_rooms PL_doors PL_things PL_draw PL_drawTold)), ((aME 1), .inl (cI, 32, .inl g106)), ((aPL 8), .inl (cI, 6, .inl PL_in)), ((aPL 9), .inl (cI, 6, .inl PL_was)), ((aPL 10), .inl (cI, 6, .inl PL_ours)), ((aME 8), .inl (cZ, 3, .inl g120)), ((aME 3), .inl (cG, 41, .inr (.inr (.inr (.inr ME_kept)))))] ++ rw41 cI KRr KRf) H := hP
              replace hD : va_D A ([(ME, .inr (3, oX3 FL aME ME_oldest ME_done ME_undone)), (FL, .inr (0, oX0 PL aFL FL_parting)), (PL, .inr (5, oX5 FO aPL PL_rooms PL_doors PL_things PL_draw PL_drawTold)), ((aME 1), .inl (cI, 32, .inl g106)), ((aPL 8), .inl (cI, 6, .inl PL_in)), ((aPL 9), .inl (cI, 6, .inl PL_was)), ((aPL 10), .inl (cI, 6, .inl PL_ours)), ((aME 8), .inl (cZ, 3, .inl g120)), ((aME 3), .inl (cG, 41, .inr (.inr (.inr (.inr ME_kept)))))] ++ rw41 cI KRr KRf) := hD
              clear eg120
              obtain ⟨y121, by121, ry121, ey121⟩ := zi_inc (x := v109_2) (k := 1) (a := 1) (b := 3) bx111f_v109_2 (by decide) (by decide) (by decide) (by decide) (by decide)
              refine lv_iinc (v := y121) (lv' := [(2, .int y121), (1, .ref PL), (0, .ref ME)]) hx hb dX3_begin_121 hl (k := 0) rfl ey121 (by decide) rfl (fun ls hl => ?_)
              refine lv_goto (tgt := 109) hx hb dX3_begin_124 (by decide) ?_
              exact ih109 H locs ls y121 g120 (zB_w by121 (by decide) (by decide)) sg106_0_k109 sPL_in_0_k109 sPL_was_0_k109 (zM_us (k := 1) hm109 ry121 (by decide)) hP hD hS (lv_sub hl [0, 1, 2] rfl)
        refine lv_istore_n (lv' := [(2, .int 0), (1, .ref PL), (0, .ref ME)]) hx hb dX3_begin_108 rfl hl (by decide) rfl (fun ls hl => ?_)
        exact j109 4 H locs ls 0 ME_full (zB_w (show zB 0 0 0 from ⟨by decide, by decide⟩) (by decide) (by decide)) sg106_0 sPL_in_0_k10 sPL_was_0_k10 (zM_ui (show zB 0 0 0 from ⟨by decide, by decide⟩) (by decide)) hP hD hS (lv_sub hl [0, 1, 2] rfl)
      · have bx15f_v10_2 : zB v10_2 0 5 := zB_ltu (zf c15) bv10_2_k10 b_PL_things (by decide)
        have by15f_PL_things : zB PL_things 1 6 := zB_ltv (zf c15) bx15f_v10_2 b_PL_things (by decide)
        refine lv_aload_n hx hb dX3_begin_18 rfl (lv_at hl 2 rfl) ?_
        refine va_get (D := D) (ci := 3) (v := .ref (aME 1)) (C := RX3) (T := TX3) (N := 9) hx hb hts iw_X3_begin_X3 hown hK hP 0 rfl rfl 1 (by decide) (hts (.fieldLink RX3 11 "SoldHouse$Memory" "now" "[I") (List.mem_of_getElem? (i := 4) rfl)) (fun _ h9 => h9) rfl dX3_begin_19 ?_
        refine lv_iconst (v := 0) hx hb dX3_begin_22 (by decide) ?_
        refine lv_iload_n hx hb dX3_begin_23 rfl (lv_at hl 0 rfl) ?_
        refine lv_iadd hx hb dX3_begin_24 ?_
        refine zi_top (a := 0) (b := 5) (zB_add (show zB 0 0 0 from ⟨by decide, by decide⟩) bx15f_v10_2 (by decide) (by decide) (by decide) (by decide)) (fun y24 by24 => ?_)
        refine lv_aload_n hx hb dX3_begin_25 rfl (lv_at hl 1 rfl) ?_
        refine va_get (D := D) (ci := 5) (v := .ref (aPL 8)) (C := RX5) (T := TX5) (N := 16) hx hb hts iw_X3_begin_X5 hown hK hP 2 rfl rfl 8 (by decide) (hts (.fieldLink RX3 46 "SoldHouse$Plan" "in" "[I") (List.mem_of_getElem? (i := 5) rfl)) (fun _ h9 => h9) rfl dX3_begin_26 ?_
        refine lv_iload_n hx hb dX3_begin_29 rfl (lv_at hl 0 rfl) ?_
        refine va_iald hx hb hK hP 4 0 rfl rfl (zB_in bx15f_v10_2 (by decide) (by decide)) dX3_begin_30 ?_
        refine zi_top (a := 0) (b := 7) (zA_at sPL_in_0_k10 bx15f_v10_2 (by decide) (by decide)) (fun y30 by30 => ?_)
        refine zi_iast hx hb hK hP hD hS 3 0 rfl rfl (zB_in by24 (by decide) (by decide)) dX3_begin_31 (fun H locs g31 eg31 hP hD hS => ?_)
        replace hP : va_P D classes ([(ME, .inr (3, oX3 FL aME ME_oldest ME_done ME_undone)), (FL, .inr (0, oX0 PL aFL FL_parting)), (PL, .inr (5, oX5 FO aPL PL_rooms PL_doors PL_things PL_draw PL_drawTold)), ((aME 1), .inl (cI, 32, .inl g31)), ((aPL 8), .inl (cI, 6, .inl PL_in)), ((aPL 9), .inl (cI, 6, .inl PL_was)), ((aPL 10), .inl (cI, 6, .inl PL_ours)), ((aME 8), .inl (cZ, 3, .inl ME_full)), ((aME 3), .inl (cG, 41, .inr (.inr (.inr (.inr ME_kept)))))] ++ rw41 cI KRr KRf) H := hP
        replace hD : va_D A ([(ME, .inr (3, oX3 FL aME ME_oldest ME_done ME_undone)), (FL, .inr (0, oX0 PL aFL FL_parting)), (PL, .inr (5, oX5 FO aPL PL_rooms PL_doors PL_things PL_draw PL_drawTold)), ((aME 1), .inl (cI, 32, .inl g31)), ((aPL 8), .inl (cI, 6, .inl PL_in)), ((aPL 9), .inl (cI, 6, .inl PL_was)), ((aPL 10), .inl (cI, 6, .inl PL_ours)), ((aME 8), .inl (cZ, 3, .inl ME_full)), ((aME 3), .inl (cG, 41, .inr (.inr (.inr (.inr ME_kept)))))] ++ rw41 cI KRr KRf) := hD
        have sg31_0 := zA_up eg31 sg10_aME1_0_k10 by30 (by decide) (by decide)
        clear eg31
        refine lv_aload_n hx hb dX3_begin_32 rfl (lv_at hl 2 rfl) ?_
        refine va_get (D := D) (ci := 3) (v := .ref (aME 1)) (C := RX3) (T := TX3) (N := 9) hx hb hts iw_X3_begin_X3 hown hK hP 0 rfl rfl 1 (by decide) (hts (.fieldLink RX3 11 "SoldHouse$Memory" "now" "[I") (List.mem_of_getElem? (i := 4) rfl)) (fun _ h9 => h9) rfl dX3_begin_33 ?_
        refine lv_bipush (v := 6) hx hb dX3_begin_36 (by decide) ?_
        refine lv_iload_n hx hb dX3_begin_38 rfl (lv_at hl 0 rfl) ?_
        refine lv_iadd hx hb dX3_begin_39 ?_
        refine zi_top (a := 6) (b := 11) (zB_add (show zB 6 6 6 from ⟨by decide, by decide⟩) bx15f_v10_2 (by decide) (by decide) (by decide) (by decide)) (fun y39 by39 => ?_)
        refine lv_aload_n hx hb dX3_begin_40 rfl (lv_at hl 1 rfl) ?_
        refine va_get (D := D) (ci := 5) (v := .ref (aPL 9)) (C := RX5) (T := TX5) (N := 16) hx hb hts iw_X3_begin_X5 hown hK hP 2 rfl rfl 9 (by decide) (hts (.fieldLink RX3 49 "SoldHouse$Plan" "was" "[I") (List.mem_of_getElem? (i := 6) rfl)) (fun _ h9 => h9) rfl dX3_begin_41 ?_
        refine lv_iload_n hx hb dX3_begin_44 rfl (lv_at hl 0 rfl) ?_
        refine va_iald hx hb hK hP 5 0 rfl rfl (zB_in bx15f_v10_2 (by decide) (by decide)) dX3_begin_45 ?_
        refine zi_top (a := 0) (b := 7) (zA_at sPL_was_0_k10 bx15f_v10_2 (by decide) (by decide)) (fun y45 by45 => ?_)
        refine zi_iast hx hb hK hP hD hS 3 0 rfl rfl (zB_in by39 (by decide) (by decide)) dX3_begin_46 (fun H locs g46 eg46 hP hD hS => ?_)
        replace hP : va_P D classes ([(ME, .inr (3, oX3 FL aME ME_oldest ME_done ME_undone)), (FL, .inr (0, oX0 PL aFL FL_parting)), (PL, .inr (5, oX5 FO aPL PL_rooms PL_doors PL_things PL_draw PL_drawTold)), ((aME 1), .inl (cI, 32, .inl g46)), ((aPL 8), .inl (cI, 6, .inl PL_in)), ((aPL 9), .inl (cI, 6, .inl PL_was)), ((aPL 10), .inl (cI, 6, .inl PL_ours)), ((aME 8), .inl (cZ, 3, .inl ME_full)), ((aME 3), .inl (cG, 41, .inr (.inr (.inr (.inr ME_kept)))))] ++ rw41 cI KRr KRf) H := hP
        replace hD : va_D A ([(ME, .inr (3, oX3 FL aME ME_oldest ME_done ME_undone)), (FL, .inr (0, oX0 PL aFL FL_parting)), (PL, .inr (5, oX5 FO aPL PL_rooms PL_doors PL_things PL_draw PL_drawTold)), ((aME 1), .inl (cI, 32, .inl g46)), ((aPL 8), .inl (cI, 6, .inl PL_in)), ((aPL 9), .inl (cI, 6, .inl PL_was)), ((aPL 10), .inl (cI, 6, .inl PL_ours)), ((aME 8), .inl (cZ, 3, .inl ME_full)), ((aME 3), .inl (cG, 41, .inr (.inr (.inr (.inr ME_kept)))))] ++ rw41 cI KRr KRf) := hD
        have sg46_0 := zA_up eg46 sg31_0 by45 (by decide) (by decide)
        clear eg46
        refine lv_aload_n hx hb dX3_begin_47 rfl (lv_at hl 2 rfl) ?_
        refine va_get (D := D) (ci := 3) (v := .ref (aME 1)) (C := RX3) (T := TX3) (N := 9) hx hb hts iw_X3_begin_X3 hown hK hP 0 rfl rfl 1 (by decide) (hts (.fieldLink RX3 11 "SoldHouse$Memory" "now" "[I") (List.mem_of_getElem? (i := 4) rfl)) (fun _ h9 => h9) rfl dX3_begin_48 ?_
        refine lv_bipush (v := 12) hx hb dX3_begin_51 (by decide) ?_
        refine lv_iload_n hx hb dX3_begin_53 rfl (lv_at hl 0 rfl) ?_
        refine lv_iadd hx hb dX3_begin_54 ?_
        refine zi_top (a := 12) (b := 17) (zB_add (show zB 12 12 12 from ⟨by decide, by decide⟩) bx15f_v10_2 (by decide) (by decide) (by decide) (by decide)) (fun y54 by54 => ?_)
        refine lv_aload_n hx hb dX3_begin_55 rfl (lv_at hl 1 rfl) ?_
        refine va_get (D := D) (ci := 5) (v := .ref (aPL 10)) (C := RX5) (T := TX5) (N := 16) hx hb hts iw_X3_begin_X5 hown hK hP 2 rfl rfl 10 (by decide) (hts (.fieldLink RX3 52 "SoldHouse$Plan" "ours" "[I") (List.mem_of_getElem? (i := 7) rfl)) (fun _ h9 => h9) rfl dX3_begin_56 ?_
        refine lv_iload_n hx hb dX3_begin_59 rfl (lv_at hl 0 rfl) ?_
        refine va_iald hx hb hK hP 6 0 rfl rfl (zB_in bx15f_v10_2 (by decide) (by decide)) dX3_begin_60 ?_
        refine lv_topi (fun y60 _ => ?_)
        refine zi_iast hx hb hK hP hD hS 3 0 rfl rfl (zB_in by54 (by decide) (by decide)) dX3_begin_61 (fun H locs g61 eg61 hP hD hS => ?_)
        replace hP : va_P D classes ([(ME, .inr (3, oX3 FL aME ME_oldest ME_done ME_undone)), (FL, .inr (0, oX0 PL aFL FL_parting)), (PL, .inr (5, oX5 FO aPL PL_rooms PL_doors PL_things PL_draw PL_drawTold)), ((aME 1), .inl (cI, 32, .inl g61)), ((aPL 8), .inl (cI, 6, .inl PL_in)), ((aPL 9), .inl (cI, 6, .inl PL_was)), ((aPL 10), .inl (cI, 6, .inl PL_ours)), ((aME 8), .inl (cZ, 3, .inl ME_full)), ((aME 3), .inl (cG, 41, .inr (.inr (.inr (.inr ME_kept)))))] ++ rw41 cI KRr KRf) H := hP
        replace hD : va_D A ([(ME, .inr (3, oX3 FL aME ME_oldest ME_done ME_undone)), (FL, .inr (0, oX0 PL aFL FL_parting)), (PL, .inr (5, oX5 FO aPL PL_rooms PL_doors PL_things PL_draw PL_drawTold)), ((aME 1), .inl (cI, 32, .inl g61)), ((aPL 8), .inl (cI, 6, .inl PL_in)), ((aPL 9), .inl (cI, 6, .inl PL_was)), ((aPL 10), .inl (cI, 6, .inl PL_ours)), ((aME 8), .inl (cZ, 3, .inl ME_full)), ((aME 3), .inl (cG, 41, .inr (.inr (.inr (.inr ME_kept)))))] ++ rw41 cI KRr KRf) := hD
        have sg61_0 := zA_un eg61 sg46_0 by54 (by decide) (by decide)
        clear eg61
        refine lv_aload_n hx hb dX3_begin_62 rfl (lv_at hl 2 rfl) ?_
        refine va_get (D := D) (ci := 3) (v := .ref (aME 1)) (C := RX3) (T := TX3) (N := 9) hx hb hts iw_X3_begin_X3 hown hK hP 0 rfl rfl 1 (by decide) (hts (.fieldLink RX3 11 "SoldHouse$Memory" "now" "[I") (List.mem_of_getElem? (i := 4) rfl)) (fun _ h9 => h9) rfl dX3_begin_63 ?_
        refine lv_bipush (v := 18) hx hb dX3_begin_66 (by decide) ?_
        refine lv_iload_n hx hb dX3_begin_68 rfl (lv_at hl 0 rfl) ?_
        refine lv_iadd hx hb dX3_begin_69 ?_
        refine zi_top (a := 18) (b := 23) (zB_add (show zB 18 18 18 from ⟨by decide, by decide⟩) bx15f_v10_2 (by decide) (by decide) (by decide) (by decide)) (fun y69 by69 => ?_)
        refine lv_iconst (v := 0) hx hb dX3_begin_70 (by decide) ?_
        refine zi_iast hx hb hK hP hD hS 3 0 rfl rfl (zB_in by69 (by decide) (by decide)) dX3_begin_71 (fun H locs g71 eg71 hP hD hS => ?_)
        replace hP : va_P D classes ([(ME, .inr (3, oX3 FL aME ME_oldest ME_done ME_undone)), (FL, .inr (0, oX0 PL aFL FL_parting)), (PL, .inr (5, oX5 FO aPL PL_rooms PL_doors PL_things PL_draw PL_drawTold)), ((aME 1), .inl (cI, 32, .inl g71)), ((aPL 8), .inl (cI, 6, .inl PL_in)), ((aPL 9), .inl (cI, 6, .inl PL_was)), ((aPL 10), .inl (cI, 6, .inl PL_ours)), ((aME 8), .inl (cZ, 3, .inl ME_full)), ((aME 3), .inl (cG, 41, .inr (.inr (.inr (.inr ME_kept)))))] ++ rw41 cI KRr KRf) H := hP
        replace hD : va_D A ([(ME, .inr (3, oX3 FL aME ME_oldest ME_done ME_undone)), (FL, .inr (0, oX0 PL aFL FL_parting)), (PL, .inr (5, oX5 FO aPL PL_rooms PL_doors PL_things PL_draw PL_drawTold)), ((aME 1), .inl (cI, 32, .inl g71)), ((aPL 8), .inl (cI, 6, .inl PL_in)), ((aPL 9), .inl (cI, 6, .inl PL_was)), ((aPL 10), .inl (cI, 6, .inl PL_ours)), ((aME 8), .inl (cZ, 3, .inl ME_full)), ((aME 3), .inl (cG, 41, .inr (.inr (.inr (.inr ME_kept)))))] ++ rw41 cI KRr KRf) := hD
        have sg71_0 := zA_un eg71 sg61_0 by69 (by decide) (by decide)
        clear eg71
        refine lv_aload_n hx hb dX3_begin_72 rfl (lv_at hl 2 rfl) ?_
        refine va_get (D := D) (ci := 3) (v := .ref (aME 1)) (C := RX3) (T := TX3) (N := 9) hx hb hts iw_X3_begin_X3 hown hK hP 0 rfl rfl 1 (by decide) (hts (.fieldLink RX3 11 "SoldHouse$Memory" "now" "[I") (List.mem_of_getElem? (i := 4) rfl)) (fun _ h9 => h9) rfl dX3_begin_73 ?_
        refine lv_bipush (v := 24) hx hb dX3_begin_76 (by decide) ?_
        refine lv_iload_n hx hb dX3_begin_78 rfl (lv_at hl 0 rfl) ?_
        refine lv_iadd hx hb dX3_begin_79 ?_
        refine zi_top (a := 24) (b := 29) (zB_add (show zB 24 24 24 from ⟨by decide, by decide⟩) bx15f_v10_2 (by decide) (by decide) (by decide) (by decide)) (fun y79 by79 => ?_)
        refine lv_iconst (v := (-1)) hx hb dX3_begin_80 (by decide) ?_
        refine zi_iast hx hb hK hP hD hS 3 0 rfl rfl (zB_in by79 (by decide) (by decide)) dX3_begin_81 (fun H locs g81 eg81 hP hD hS => ?_)
        replace hP : va_P D classes ([(ME, .inr (3, oX3 FL aME ME_oldest ME_done ME_undone)), (FL, .inr (0, oX0 PL aFL FL_parting)), (PL, .inr (5, oX5 FO aPL PL_rooms PL_doors PL_things PL_draw PL_drawTold)), ((aME 1), .inl (cI, 32, .inl g81)), ((aPL 8), .inl (cI, 6, .inl PL_in)), ((aPL 9), .inl (cI, 6, .inl PL_was)), ((aPL 10), .inl (cI, 6, .inl PL_ours)), ((aME 8), .inl (cZ, 3, .inl ME_full)), ((aME 3), .inl (cG, 41, .inr (.inr (.inr (.inr ME_kept)))))] ++ rw41 cI KRr KRf) H := hP
        replace hD : va_D A ([(ME, .inr (3, oX3 FL aME ME_oldest ME_done ME_undone)), (FL, .inr (0, oX0 PL aFL FL_parting)), (PL, .inr (5, oX5 FO aPL PL_rooms PL_doors PL_things PL_draw PL_drawTold)), ((aME 1), .inl (cI, 32, .inl g81)), ((aPL 8), .inl (cI, 6, .inl PL_in)), ((aPL 9), .inl (cI, 6, .inl PL_was)), ((aPL 10), .inl (cI, 6, .inl PL_ours)), ((aME 8), .inl (cZ, 3, .inl ME_full)), ((aME 3), .inl (cG, 41, .inr (.inr (.inr (.inr ME_kept)))))] ++ rw41 cI KRr KRf) := hD
        have sg81_0 := zA_un eg81 sg71_0 by79 (by decide) (by decide)
        clear eg81
        obtain ⟨y82, by82, ry82, ey82⟩ := zi_inc (x := v10_2) (k := 1) (a := 1) (b := 6) bx15f_v10_2 (by decide) (by decide) (by decide) (by decide) (by decide)
        refine lv_iinc (v := y82) (lv' := [(2, .int y82), (1, .ref PL), (0, .ref ME)]) hx hb dX3_begin_82 hl (k := 0) rfl ey82 (by decide) rfl (fun ls hl => ?_)
        refine lv_goto (tgt := 10) hx hb dX3_begin_85 (by decide) ?_
        exact ih10 H locs ls y82 g81 (zB_w by82 (by decide) (by decide)) sg81_0 sPL_in_0_k10 sPL_was_0_k10 (zM_us (k := 1) hm10 ry82 (by decide)) hP hD hS (lv_sub hl [0, 1, 2] rfl)
  refine lv_istore_n (lv' := [(2, .int 0), (1, .ref PL), (0, .ref ME)]) hx hb dX3_begin_9 rfl hl (by decide) rfl (fun ls hl => ?_)
  exact j10 7 H locs ls 0 ME_now (zB_w (show zB 0 0 0 from ⟨by decide, by decide⟩) (by decide) (by decide)) s_ME_now_0 s_PL_in_0 s_PL_was_0 (zM_ui (show zB 0 0 0 from ⟨by decide, by decide⟩) (by decide)) hP hD hS (lv_sub hl [0, 1, 2] rfl)
set_option maxHeartbeats 4000000 in
set_option maxRecDepth 100000 in
theorem c_X3_putInBox (l : Launch) (D : va_G) (cI : ClassId) (cB : ClassId) (cL : ClassId) (cZ : ClassId) (cG : ClassId) (ME : Nat) (x0 : Int32) (FL : Nat) (aME : Nat → Nat) (ME_oldest : Int32) (ME_done : Int32) (ME_undone : Int32) (ME_box : Nat → Option Nat) (BRr : Nat → Nat) (ME_now : Nat → Int32) (BRf : Nat → Nat → Int32) (ME_full : Nat → Int32) (sz : Nat) (b_ME_oldest : zB ME_oldest 0 40) (b_ME_done : zB ME_done 0 40) (b_ME_undone : zB ME_undone 0 40) (k_ME_box : ∀ j, j < 3 → ME_box j = some (BRr j)) (s_ME_now_0 : zA ME_now 0 12 0 7) (w_BR : ∀ j, j < 3 → zA (BRf j) 0 12 0 7) : Met l yX3_putInBox wsX3_putInBox ({ frames := 1, cells := 0, slots := 0, locals := 40 }) (xp D [(cI, .int), (cB, .byte), (cL, .long), (cZ, .boolean), (cG, .array .int)] ([(ME, .inr (3, oX3 FL aME ME_oldest ME_done ME_undone)), ((aME 7), .inl (cG, 3, .inr (.inr (.inr (.inr ME_box))))), ((aME 1), .inl (cI, 32, .inl ME_now)), ((aME 8), .inl (cZ, 3, .inl ME_full))] ++ rw3 cI BRr BRf) sz [] [.ref ME, .int x0]) (va_Qi (fun (r : Int32) (_ : Unit) => True) (fun (_ : Unit) (t : State) => ∃ (nMEfull : Nat → Int32), ∃ (nBRf : Nat → Nat → Int32), (∀ j, j < 3 → zA (nBRf j) 0 12 0 7) ∧ xB D (va_A ([(ME, .inr (3, oX3 FL aME ME_oldest ME_done ME_undone)), ((aME 7), .inl (cG, 3, .inr (.inr (.inr (.inr ME_box))))), ((aME 1), .inl (cI, 32, .inl ME_now)), ((aME 8), .inl (cZ, 3, .inl ME_full))] ++ rw3 cI BRr BRf) sz) ([(ME, .inr (3, oX3 FL aME ME_oldest ME_done ME_undone)), ((aME 7), .inl (cG, 3, .inr (.inr (.inr (.inr ME_box))))), ((aME 1), .inl (cI, 32, .inl ME_now)), ((aME 8), .inl (cZ, 3, .inl nMEfull))] ++ rw3 cI BRr nBRf) t) (va_A ([(ME, .inr (3, oX3 FL aME ME_oldest ME_done ME_undone)), ((aME 7), .inl (cG, 3, .inr (.inr (.inr (.inr ME_box))))), ((aME 1), .inl (cI, 32, .inl ME_now)), ((aME 8), .inl (cZ, 3, .inl ME_full))] ++ rw3 cI BRr BRf) sz)) 0 0 (va_A ([(ME, .inr (3, oX3 FL aME ME_oldest ME_done ME_undone)), ((aME 7), .inl (cG, 3, .inr (.inr (.inr (.inr ME_box))))), ((aME 1), .inl (cI, 32, .inl ME_now)), ((aME 8), .inl (cZ, 3, .inl ME_full))] ++ rw3 cI BRr BRf) sz) := by
  refine Met.ofW (cc := cX3_putInBox) (maxL := 2) (ret := (some .int)) (by decide) rfl ?_
  intro p e s m args below meth c s₁ B hml hv
  obtain ⟨rfl, hsz, hP, hK, hD0, hNw⟩ := hv
  have hx := B.exec
  have hb := B.bytes
  have hr := B.returns
  have hts := atoms_spec (ws := wsX3_putInBox) B.pre
  have hown : s.vm.findClass RX3 = some m.cls := findClass_of_methodNamed B.named
  have hlocks := B.notSynchronized
  clear B
  subst hsz
  have hD := hD0.self (sz := s.heap.size)
  clear hD0 hNw
  generalize hAe : va_A ([(ME, .inr (3, oX3 FL aME ME_oldest ME_done ME_undone)), ((aME 7), .inl (cG, 3, .inr (.inr (.inr (.inr ME_box))))), ((aME 1), .inl (cI, 32, .inl ME_now)), ((aME 8), .inl (cZ, 3, .inl ME_full))] ++ rw3 cI BRr BRf) s.heap.size = A at hD ⊢
  have hA : ∀ q : Nat, s.heap.size ≤ q → A q := fun q h => by rw [← hAe]; exact Or.inr h
  have hS : va_S A s.heap s.heap [] := va_S.rf
  clear hAe
  obtain ⟨H, hH⟩ : ∃ H : Heap, H = s.heap := ⟨_, rfl⟩
  obtain ⟨locs, hlocs⟩ : ∃ L : List Loc, L = [] := ⟨_, rfl⟩
  replace hP : va_P D classes ([(ME, .inr (3, oX3 FL aME ME_oldest ME_done ME_undone)), ((aME 7), .inl (cG, 3, .inr (.inr (.inr (.inr ME_box))))), ((aME 1), .inl (cI, 32, .inl ME_now)), ((aME 8), .inl (cZ, 3, .inl ME_full))] ++ rw3 cI BRr BRf) H := by rw [hH]; exact hP
  replace hS : va_S A s.heap H locs := by rw [hH, hlocs]; exact hS
  rw [← hH, ← hlocs]
  clear hlocs hH
  have hl := lv_entry ([.ref ME, .int x0]) (n := 2) (Nat.le_of_ble_eq_true rfl)
  rw [lg_entry_eq]
  generalize (lg_sl ([.ref ME, .int x0]) ++ List.replicate (2 - (lg_sl ([.ref ME, .int x0])).length) Slot.unset).toArray = ls at hl ⊢
  replace hl : lv_has ls 2 [(0, .ref ME), (1, .int x0)] := hl
  refine lv_iload_n hx hb dX3_putInBox_0 rfl (lv_at hl 1 rfl) ?_
  refine lv_if_lt (tgt := 9) hx hb dX3_putInBox_1 (by decide) (fun c1 => ?_) (fun c1 => ?_)
  · have bx1t_x0 : zB x0 (-2147483648) (-1) := zB_ltu (zl c1) (zB_top x0) (show zB 0 0 0 from ⟨by decide, by decide⟩) (by decide)
    refine lv_iconst (v := (-1)) hx hb dX3_putInBox_9 (by decide) ?_
    exact W.iret (v := (-1)) hx hb hr (fun t ht hW => ⟨⟨(-1), (), rfl, trivial, ⟨ME_full, BRf, w_BR, by rw [ht]; exact hP, hD⟩⟩, hS.F ht⟩) hS.2.2 dX3_putInBox_10
  · have by1f_x0 : zB x0 0 2147483647 := zB_lev (zg c1) (show zB 0 0 0 from ⟨by decide, by decide⟩) (zB_top x0) (by decide)
    refine lv_iload_n hx hb dX3_putInBox_4 rfl (lv_at hl 1 rfl) ?_
    refine lv_iconst (v := 3) hx hb dX3_putInBox_5 (by decide) ?_
    refine lv_icmp_lt (tgt := 11) hx hb dX3_putInBox_6 (by decide) (fun c6 => ?_) (fun c6 => ?_)
    · have bx6t_x0 : zB x0 0 2 := zB_ltu (zl c6) by1f_x0 (show zB 3 3 3 from ⟨by decide, by decide⟩) (by decide)
      refine lv_aload_n hx hb dX3_putInBox_11 rfl (lv_at hl 0 rfl) ?_
      refine va_get (D := D) (ci := 3) (v := .ref (aME 1)) (C := RX3) (T := TX3) (N := 9) hx hb hts iw_X3_putInBox_X3 hown hK hP 0 rfl rfl 1 (by decide) (hts (.fieldLink RX3 11 "SoldHouse$Memory" "now" "[I") (List.mem_of_getElem? (i := 1) rfl)) (fun _ h9 => h9) rfl dX3_putInBox_12 ?_
      refine lv_iconst (v := 0) hx hb dX3_putInBox_15 (by decide) ?_
      refine lv_aload_n hx hb dX3_putInBox_16 rfl (lv_at hl 0 rfl) ?_
      refine va_get (D := D) (ci := 3) (v := .ref (aME 7)) (C := RX3) (T := TX3) (N := 9) hx hb hts iw_X3_putInBox_X3 hown hK hP 0 rfl rfl 7 (by decide) (hts (.fieldLink RX3 23 "SoldHouse$Memory" "box" "[[I") (List.mem_of_getElem? (i := 2) rfl)) (fun _ h9 => h9) rfl dX3_putInBox_17 ?_
      refine lv_iload_n hx hb dX3_putInBox_20 rfl (lv_at hl 1 rfl) ?_
      rcases zsp_3 bx6t_x0 with rfl | rfl | rfl
      · refine zz_alda (v := (BRr 0)) hx hb hK hP 1 4 rfl rfl (zB_in (show zB 0 0 0 from ⟨by decide, by decide⟩) (by decide) (by decide)) (k_ME_box 0 (by decide)) dX3_putInBox_21 ?_
        refine lv_iconst (v := 0) hx hb dX3_putInBox_22 (by decide) ?_
        refine lv_bipush (v := 32) hx hb dX3_putInBox_23 (by decide) ?_
        refine zi_copy hx hb (by rw [hml]; exact hl.1.symm) hown (hts (.methodLink RX3 115 arraycopyName) (List.mem_of_getElem? (i := 3) rfl)) (hts (.native arraycopyName) (List.mem_of_getElem? (i := 4) rfl)) (hts (.static arraycopyName) (List.mem_of_getElem? (i := 5) rfl)) (hts (.initialized "java/lang/System") (List.mem_of_getElem? (i := 6) rfl)) hK hP hD hS 2 4 rfl rfl rfl (Nat.le_of_ble_eq_true rfl) (Nat.le_of_ble_eq_true rfl) dX3_putInBox_25 (fun H locs g25 e25 hP hD hS => ?_)
        have sg25 := zA_cpy e25 s_ME_now_0
        replace hP : va_P D classes ([(ME, .inr (3, oX3 FL aME ME_oldest ME_done ME_undone)), ((aME 7), .inl (cG, 3, .inr (.inr (.inr (.inr ME_box))))), ((aME 1), .inl (cI, 32, .inl ME_now)), ((aME 8), .inl (cZ, 3, .inl ME_full))] ++ rw3 cI BRr (rup BRf 0 g25)) H := hP
        replace hD : va_D A ([(ME, .inr (3, oX3 FL aME ME_oldest ME_done ME_undone)), ((aME 7), .inl (cG, 3, .inr (.inr (.inr (.inr ME_box))))), ((aME 1), .inl (cI, 32, .inl ME_now)), ((aME 8), .inl (cZ, 3, .inl ME_full))] ++ rw3 cI BRr (rup BRf 0 g25)) := hD
        clear e25
        refine lv_aload_n hx hb dX3_putInBox_28 rfl (lv_at hl 0 rfl) ?_
        refine va_get (D := D) (ci := 3) (v := .ref (aME 8)) (C := RX3) (T := TX3) (N := 9) hx hb hts iw_X3_putInBox_X3 hown hK hP 0 rfl rfl 8 (by decide) (hts (.fieldLink RX3 26 "SoldHouse$Memory" "full" "[Z") (List.mem_of_getElem? (i := 7) rfl)) (fun _ h9 => h9) rfl dX3_putInBox_29 ?_
        refine lv_iload_n hx hb dX3_putInBox_32 rfl (lv_at hl 1 rfl) ?_
        refine lv_iconst (v := 1) hx hb dX3_putInBox_33 (by decide) ?_
        refine zi_zast hx hb hK hP hD hS 3 3 rfl rfl (zB_in (show zB 0 0 0 from ⟨by decide, by decide⟩) (by decide) (by decide)) dX3_putInBox_34 (fun H locs g34 eg34 hP hD hS => ?_)
        replace hP : va_P D classes ([(ME, .inr (3, oX3 FL aME ME_oldest ME_done ME_undone)), ((aME 7), .inl (cG, 3, .inr (.inr (.inr (.inr ME_box))))), ((aME 1), .inl (cI, 32, .inl ME_now)), ((aME 8), .inl (cZ, 3, .inl g34))] ++ rw3 cI BRr (rup BRf 0 g25)) H := hP
        replace hD : va_D A ([(ME, .inr (3, oX3 FL aME ME_oldest ME_done ME_undone)), ((aME 7), .inl (cG, 3, .inr (.inr (.inr (.inr ME_box))))), ((aME 1), .inl (cI, 32, .inl ME_now)), ((aME 8), .inl (cZ, 3, .inl g34))] ++ rw3 cI BRr (rup BRf 0 g25)) := hD
        clear eg34
        refine lv_aload_n hx hb dX3_putInBox_35 rfl (lv_at hl 0 rfl) ?_
        refine va_get (D := D) (ci := 3) (v := .ref (aME 1)) (C := RX3) (T := TX3) (N := 9) hx hb hts iw_X3_putInBox_X3 hown hK hP 0 rfl rfl 1 (by decide) (hts (.fieldLink RX3 11 "SoldHouse$Memory" "now" "[I") (List.mem_of_getElem? (i := 1) rfl)) (fun _ h9 => h9) rfl dX3_putInBox_36 ?_
        refine lv_bipush (v := 30) hx hb dX3_putInBox_39 (by decide) ?_
        refine va_iald hx hb hK hP 2 0 rfl rfl (zB_in (show zB 30 30 30 from ⟨by decide, by decide⟩) (by decide) (by decide)) dX3_putInBox_41 ?_
        refine lv_topi (fun y41 _ => ?_)
        exact W.iret (v := y41) hx hb hr (fun t ht hW => ⟨⟨y41, (), rfl, trivial, ⟨g34, (rup BRf 0 g25), (rup_ok w_BR sg25), by rw [ht]; exact hP, hD⟩⟩, hS.F ht⟩) hS.2.2 dX3_putInBox_42
      · refine zz_alda (v := (BRr 1)) hx hb hK hP 1 4 rfl rfl (zB_in (show zB 1 1 1 from ⟨by decide, by decide⟩) (by decide) (by decide)) (k_ME_box 1 (by decide)) dX3_putInBox_21 ?_
        refine lv_iconst (v := 0) hx hb dX3_putInBox_22 (by decide) ?_
        refine lv_bipush (v := 32) hx hb dX3_putInBox_23 (by decide) ?_
        refine zi_copy hx hb (by rw [hml]; exact hl.1.symm) hown (hts (.methodLink RX3 115 arraycopyName) (List.mem_of_getElem? (i := 3) rfl)) (hts (.native arraycopyName) (List.mem_of_getElem? (i := 4) rfl)) (hts (.static arraycopyName) (List.mem_of_getElem? (i := 5) rfl)) (hts (.initialized "java/lang/System") (List.mem_of_getElem? (i := 6) rfl)) hK hP hD hS 2 5 rfl rfl rfl (Nat.le_of_ble_eq_true rfl) (Nat.le_of_ble_eq_true rfl) dX3_putInBox_25 (fun H locs g25 e25 hP hD hS => ?_)
        have sg25 := zA_cpy e25 s_ME_now_0
        replace hP : va_P D classes ([(ME, .inr (3, oX3 FL aME ME_oldest ME_done ME_undone)), ((aME 7), .inl (cG, 3, .inr (.inr (.inr (.inr ME_box))))), ((aME 1), .inl (cI, 32, .inl ME_now)), ((aME 8), .inl (cZ, 3, .inl ME_full))] ++ rw3 cI BRr (rup BRf 1 g25)) H := hP
        replace hD : va_D A ([(ME, .inr (3, oX3 FL aME ME_oldest ME_done ME_undone)), ((aME 7), .inl (cG, 3, .inr (.inr (.inr (.inr ME_box))))), ((aME 1), .inl (cI, 32, .inl ME_now)), ((aME 8), .inl (cZ, 3, .inl ME_full))] ++ rw3 cI BRr (rup BRf 1 g25)) := hD
        clear e25
        refine lv_aload_n hx hb dX3_putInBox_28 rfl (lv_at hl 0 rfl) ?_
        refine va_get (D := D) (ci := 3) (v := .ref (aME 8)) (C := RX3) (T := TX3) (N := 9) hx hb hts iw_X3_putInBox_X3 hown hK hP 0 rfl rfl 8 (by decide) (hts (.fieldLink RX3 26 "SoldHouse$Memory" "full" "[Z") (List.mem_of_getElem? (i := 7) rfl)) (fun _ h9 => h9) rfl dX3_putInBox_29 ?_
        refine lv_iload_n hx hb dX3_putInBox_32 rfl (lv_at hl 1 rfl) ?_
        refine lv_iconst (v := 1) hx hb dX3_putInBox_33 (by decide) ?_
        refine zi_zast hx hb hK hP hD hS 3 3 rfl rfl (zB_in (show zB 1 1 1 from ⟨by decide, by decide⟩) (by decide) (by decide)) dX3_putInBox_34 (fun H locs g34 eg34 hP hD hS => ?_)
        replace hP : va_P D classes ([(ME, .inr (3, oX3 FL aME ME_oldest ME_done ME_undone)), ((aME 7), .inl (cG, 3, .inr (.inr (.inr (.inr ME_box))))), ((aME 1), .inl (cI, 32, .inl ME_now)), ((aME 8), .inl (cZ, 3, .inl g34))] ++ rw3 cI BRr (rup BRf 1 g25)) H := hP
        replace hD : va_D A ([(ME, .inr (3, oX3 FL aME ME_oldest ME_done ME_undone)), ((aME 7), .inl (cG, 3, .inr (.inr (.inr (.inr ME_box))))), ((aME 1), .inl (cI, 32, .inl ME_now)), ((aME 8), .inl (cZ, 3, .inl g34))] ++ rw3 cI BRr (rup BRf 1 g25)) := hD
        clear eg34
        refine lv_aload_n hx hb dX3_putInBox_35 rfl (lv_at hl 0 rfl) ?_
        refine va_get (D := D) (ci := 3) (v := .ref (aME 1)) (C := RX3) (T := TX3) (N := 9) hx hb hts iw_X3_putInBox_X3 hown hK hP 0 rfl rfl 1 (by decide) (hts (.fieldLink RX3 11 "SoldHouse$Memory" "now" "[I") (List.mem_of_getElem? (i := 1) rfl)) (fun _ h9 => h9) rfl dX3_putInBox_36 ?_
        refine lv_bipush (v := 30) hx hb dX3_putInBox_39 (by decide) ?_
        refine va_iald hx hb hK hP 2 0 rfl rfl (zB_in (show zB 30 30 30 from ⟨by decide, by decide⟩) (by decide) (by decide)) dX3_putInBox_41 ?_
        refine lv_topi (fun y41 _ => ?_)
        exact W.iret (v := y41) hx hb hr (fun t ht hW => ⟨⟨y41, (), rfl, trivial, ⟨g34, (rup BRf 1 g25), (rup_ok w_BR sg25), by rw [ht]; exact hP, hD⟩⟩, hS.F ht⟩) hS.2.2 dX3_putInBox_42
      · refine zz_alda (v := (BRr 2)) hx hb hK hP 1 4 rfl rfl (zB_in (show zB 2 2 2 from ⟨by decide, by decide⟩) (by decide) (by decide)) (k_ME_box 2 (by decide)) dX3_putInBox_21 ?_
        refine lv_iconst (v := 0) hx hb dX3_putInBox_22 (by decide) ?_
        refine lv_bipush (v := 32) hx hb dX3_putInBox_23 (by decide) ?_
        refine zi_copy hx hb (by rw [hml]; exact hl.1.symm) hown (hts (.methodLink RX3 115 arraycopyName) (List.mem_of_getElem? (i := 3) rfl)) (hts (.native arraycopyName) (List.mem_of_getElem? (i := 4) rfl)) (hts (.static arraycopyName) (List.mem_of_getElem? (i := 5) rfl)) (hts (.initialized "java/lang/System") (List.mem_of_getElem? (i := 6) rfl)) hK hP hD hS 2 6 rfl rfl rfl (Nat.le_of_ble_eq_true rfl) (Nat.le_of_ble_eq_true rfl) dX3_putInBox_25 (fun H locs g25 e25 hP hD hS => ?_)
        have sg25 := zA_cpy e25 s_ME_now_0
        replace hP : va_P D classes ([(ME, .inr (3, oX3 FL aME ME_oldest ME_done ME_undone)), ((aME 7), .inl (cG, 3, .inr (.inr (.inr (.inr ME_box))))), ((aME 1), .inl (cI, 32, .inl ME_now)), ((aME 8), .inl (cZ, 3, .inl ME_full))] ++ rw3 cI BRr (rup BRf 2 g25)) H := hP
        replace hD : va_D A ([(ME, .inr (3, oX3 FL aME ME_oldest ME_done ME_undone)), ((aME 7), .inl (cG, 3, .inr (.inr (.inr (.inr ME_box))))), ((aME 1), .inl (cI, 32, .inl ME_now)), ((aME 8), .inl (cZ, 3, .inl ME_full))] ++ rw3 cI BRr (rup BRf 2 g25)) := hD
        clear e25
        refine lv_aload_n hx hb dX3_putInBox_28 rfl (lv_at hl 0 rfl) ?_
        refine va_get (D := D) (ci := 3) (v := .ref (aME 8)) (C := RX3) (T := TX3) (N := 9) hx hb hts iw_X3_putInBox_X3 hown hK hP 0 rfl rfl 8 (by decide) (hts (.fieldLink RX3 26 "SoldHouse$Memory" "full" "[Z") (List.mem_of_getElem? (i := 7) rfl)) (fun _ h9 => h9) rfl dX3_putInBox_29 ?_
        refine lv_iload_n hx hb dX3_putInBox_32 rfl (lv_at hl 1 rfl) ?_
        refine lv_iconst (v := 1) hx hb dX3_putInBox_33 (by decide) ?_
        refine zi_zast hx hb hK hP hD hS 3 3 rfl rfl (zB_in (show zB 2 2 2 from ⟨by decide, by decide⟩) (by decide) (by decide)) dX3_putInBox_34 (fun H locs g34 eg34 hP hD hS => ?_)
        replace hP : va_P D classes ([(ME, .inr (3, oX3 FL aME ME_oldest ME_done ME_undone)), ((aME 7), .inl (cG, 3, .inr (.inr (.inr (.inr ME_box))))), ((aME 1), .inl (cI, 32, .inl ME_now)), ((aME 8), .inl (cZ, 3, .inl g34))] ++ rw3 cI BRr (rup BRf 2 g25)) H := hP
        replace hD : va_D A ([(ME, .inr (3, oX3 FL aME ME_oldest ME_done ME_undone)), ((aME 7), .inl (cG, 3, .inr (.inr (.inr (.inr ME_box))))), ((aME 1), .inl (cI, 32, .inl ME_now)), ((aME 8), .inl (cZ, 3, .inl g34))] ++ rw3 cI BRr (rup BRf 2 g25)) := hD
        clear eg34
        refine lv_aload_n hx hb dX3_putInBox_35 rfl (lv_at hl 0 rfl) ?_
        refine va_get (D := D) (ci := 3) (v := .ref (aME 1)) (C := RX3) (T := TX3) (N := 9) hx hb hts iw_X3_putInBox_X3 hown hK hP 0 rfl rfl 1 (by decide) (hts (.fieldLink RX3 11 "SoldHouse$Memory" "now" "[I") (List.mem_of_getElem? (i := 1) rfl)) (fun _ h9 => h9) rfl dX3_putInBox_36 ?_
        refine lv_bipush (v := 30) hx hb dX3_putInBox_39 (by decide) ?_
        refine va_iald hx hb hK hP 2 0 rfl rfl (zB_in (show zB 30 30 30 from ⟨by decide, by decide⟩) (by decide) (by decide)) dX3_putInBox_41 ?_
        refine lv_topi (fun y41 _ => ?_)
        exact W.iret (v := y41) hx hb hr (fun t ht hW => ⟨⟨y41, (), rfl, trivial, ⟨g34, (rup BRf 2 g25), (rup_ok w_BR sg25), by rw [ht]; exact hP, hD⟩⟩, hS.F ht⟩) hS.2.2 dX3_putInBox_42
    · have by6f_x0 : zB x0 3 2147483647 := zB_lev (zg c6) (show zB 3 3 3 from ⟨by decide, by decide⟩) by1f_x0 (by decide)
      refine lv_iconst (v := (-1)) hx hb dX3_putInBox_9 (by decide) ?_
      exact W.iret (v := (-1)) hx hb hr (fun t ht hW => ⟨⟨(-1), (), rfl, trivial, ⟨ME_full, BRf, w_BR, by rw [ht]; exact hP, hD⟩⟩, hS.F ht⟩) hS.2.2 dX3_putInBox_10
set_option maxHeartbeats 4000000 in
set_option maxRecDepth 100000 in
theorem c_X3_takeFromBox (l : Launch) (D : va_G) (cI : ClassId) (cB : ClassId) (cL : ClassId) (cZ : ClassId) (cG : ClassId) (ME : Nat) (x0 : Int32) (FL : Nat) (aME : Nat → Nat) (ME_oldest : Int32) (ME_done : Int32) (ME_undone : Int32) (ME_full : Nat → Int32) (ME_box : Nat → Option Nat) (BRr : Nat → Nat) (BRf : Nat → Nat → Int32) (ME_now : Nat → Int32) (ME_kept : Nat → Option Nat) (KRr : Nat → Nat) (KRf : Nat → Nat → Int32) (sz : Nat) (q_ME : ME_done.toInt + ME_undone.toInt ≤ 40) (b_ME_oldest : zB ME_oldest 0 40) (b_ME_done : zB ME_done 0 40) (b_ME_undone : zB ME_undone 0 40) (k_ME_box : ∀ j, j < 3 → ME_box j = some (BRr j)) (s_ME_now_0 : zA ME_now 0 12 0 7) (k_ME_kept : ∀ j, j < 41 → ME_kept j = some (KRr j)) (w_KR : ∀ j, j < 41 → zA (KRf j) 0 12 0 7) (w_BR : ∀ j, j < 3 → zA (BRf j) 0 12 0 7) : Met l yX3_takeFromBox wsX3_takeFromBox ({ frames := 2, cells := 0, slots := 0, locals := 60 }) (xp D [(cI, .int), (cB, .byte), (cL, .long), (cZ, .boolean), (cG, .array .int)] ([(ME, .inr (3, oX3 FL aME ME_oldest ME_done ME_undone)), ((aME 8), .inl (cZ, 3, .inl ME_full)), ((aME 7), .inl (cG, 3, .inr (.inr (.inr (.inr ME_box))))), ((aME 1), .inl (cI, 32, .inl ME_now)), ((aME 3), .inl (cG, 41, .inr (.inr (.inr (.inr ME_kept)))))] ++ rw41 cI KRr KRf ++ rw3 cI BRr BRf) sz [] [.ref ME, .int x0]) (va_Qi (fun (r : Int32) (_ : Unit) => True) (fun (_ : Unit) (t : State) => ∃ (nME_oldest : Int32), ∃ (nME_done : Int32), ∃ (nME_undone : Int32), ∃ (nMEnow : Nat → Int32), ∃ (nKRf : Nat → Nat → Int32), zB nME_oldest 0 40 ∧ zB nME_done 0 40 ∧ zB nME_undone 0 40 ∧ zA nMEnow 0 12 0 7 ∧ (∀ j, j < 41 → zA (nKRf j) 0 12 0 7) ∧ nME_done.toInt + nME_undone.toInt ≤ 40 ∧ xB D (va_A ([(ME, .inr (3, oX3 FL aME ME_oldest ME_done ME_undone)), ((aME 8), .inl (cZ, 3, .inl ME_full)), ((aME 7), .inl (cG, 3, .inr (.inr (.inr (.inr ME_box))))), ((aME 1), .inl (cI, 32, .inl ME_now)), ((aME 3), .inl (cG, 41, .inr (.inr (.inr (.inr ME_kept)))))] ++ rw41 cI KRr KRf ++ rw3 cI BRr BRf) sz) ([(ME, .inr (3, oX3 FL aME nME_oldest nME_done nME_undone)), ((aME 8), .inl (cZ, 3, .inl ME_full)), ((aME 7), .inl (cG, 3, .inr (.inr (.inr (.inr ME_box))))), ((aME 1), .inl (cI, 32, .inl nMEnow)), ((aME 3), .inl (cG, 41, .inr (.inr (.inr (.inr ME_kept)))))] ++ rw41 cI KRr nKRf ++ rw3 cI BRr BRf) t) (va_A ([(ME, .inr (3, oX3 FL aME ME_oldest ME_done ME_undone)), ((aME 8), .inl (cZ, 3, .inl ME_full)), ((aME 7), .inl (cG, 3, .inr (.inr (.inr (.inr ME_box))))), ((aME 1), .inl (cI, 32, .inl ME_now)), ((aME 3), .inl (cG, 41, .inr (.inr (.inr (.inr ME_kept)))))] ++ rw41 cI KRr KRf ++ rw3 cI BRr BRf) sz)) 0 0 (va_A ([(ME, .inr (3, oX3 FL aME ME_oldest ME_done ME_undone)), ((aME 8), .inl (cZ, 3, .inl ME_full)), ((aME 7), .inl (cG, 3, .inr (.inr (.inr (.inr ME_box))))), ((aME 1), .inl (cI, 32, .inl ME_now)), ((aME 3), .inl (cG, 41, .inr (.inr (.inr (.inr ME_kept)))))] ++ rw41 cI KRr KRf ++ rw3 cI BRr BRf) sz) := by
  refine Met.ofW (cc := cX3_takeFromBox) (maxL := 2) (ret := (some .int)) (by decide) rfl ?_
  intro p e s m args below meth c s₁ B hml hv
  obtain ⟨rfl, hsz, hP, hK, hD0, hNw⟩ := hv
  have hx := B.exec
  have hb := B.bytes
  have hr := B.returns
  have hts := atoms_spec (ws := wsX3_takeFromBox) B.pre
  have hown : s.vm.findClass RX3 = some m.cls := findClass_of_methodNamed B.named
  have hlocks := B.notSynchronized
  clear B
  subst hsz
  have hD := hD0.self (sz := s.heap.size)
  clear hD0 hNw
  generalize hAe : va_A ([(ME, .inr (3, oX3 FL aME ME_oldest ME_done ME_undone)), ((aME 8), .inl (cZ, 3, .inl ME_full)), ((aME 7), .inl (cG, 3, .inr (.inr (.inr (.inr ME_box))))), ((aME 1), .inl (cI, 32, .inl ME_now)), ((aME 3), .inl (cG, 41, .inr (.inr (.inr (.inr ME_kept)))))] ++ rw41 cI KRr KRf ++ rw3 cI BRr BRf) s.heap.size = A at hD ⊢
  have hA : ∀ q : Nat, s.heap.size ≤ q → A q := fun q h => by rw [← hAe]; exact Or.inr h
  have hS : va_S A s.heap s.heap [] := va_S.rf
  clear hAe
  obtain ⟨H, hH⟩ : ∃ H : Heap, H = s.heap := ⟨_, rfl⟩
  obtain ⟨locs, hlocs⟩ : ∃ L : List Loc, L = [] := ⟨_, rfl⟩
  replace hP : va_P D classes ([(ME, .inr (3, oX3 FL aME ME_oldest ME_done ME_undone)), ((aME 8), .inl (cZ, 3, .inl ME_full)), ((aME 7), .inl (cG, 3, .inr (.inr (.inr (.inr ME_box))))), ((aME 1), .inl (cI, 32, .inl ME_now)), ((aME 3), .inl (cG, 41, .inr (.inr (.inr (.inr ME_kept)))))] ++ rw41 cI KRr KRf ++ rw3 cI BRr BRf) H := by rw [hH]; exact hP
  replace hS : va_S A s.heap H locs := by rw [hH, hlocs]; exact hS
  rw [← hH, ← hlocs]
  clear hlocs hH
  have hl := lv_entry ([.ref ME, .int x0]) (n := 2) (Nat.le_of_ble_eq_true rfl)
  rw [lg_entry_eq]
  generalize (lg_sl ([.ref ME, .int x0]) ++ List.replicate (2 - (lg_sl ([.ref ME, .int x0])).length) Slot.unset).toArray = ls at hl ⊢
  replace hl : lv_has ls 2 [(0, .ref ME), (1, .int x0)] := hl
  refine lv_iload_n hx hb dX3_takeFromBox_0 rfl (lv_at hl 1 rfl) ?_
  refine lv_if_lt (tgt := 18) hx hb dX3_takeFromBox_1 (by decide) (fun c1 => ?_) (fun c1 => ?_)
  · have bx1t_x0 : zB x0 (-2147483648) (-1) := zB_ltu (zl c1) (zB_top x0) (show zB 0 0 0 from ⟨by decide, by decide⟩) (by decide)
    refine lv_iconst (v := (-1)) hx hb dX3_takeFromBox_18 (by decide) ?_
    exact W.iret (v := (-1)) hx hb hr (fun t ht hW => ⟨⟨(-1), (), rfl, trivial, ⟨ME_oldest, ME_done, ME_undone, ME_now, KRf, b_ME_oldest, b_ME_done, b_ME_undone, s_ME_now_0, w_KR, q_ME, by rw [ht]; exact hP, hD⟩⟩, hS.F ht⟩) hS.2.2 dX3_takeFromBox_19
  · have by1f_x0 : zB x0 0 2147483647 := zB_lev (zg c1) (show zB 0 0 0 from ⟨by decide, by decide⟩) (zB_top x0) (by decide)
    refine lv_iload_n hx hb dX3_takeFromBox_4 rfl (lv_at hl 1 rfl) ?_
    refine lv_iconst (v := 3) hx hb dX3_takeFromBox_5 (by decide) ?_
    refine lv_icmp_ge (tgt := 18) hx hb dX3_takeFromBox_6 (by decide) (fun c6 => ?_) (fun c6 => ?_)
    · have by6t_x0 : zB x0 3 2147483647 := zB_lev (ze c6) (show zB 3 3 3 from ⟨by decide, by decide⟩) by1f_x0 (by decide)
      refine lv_iconst (v := (-1)) hx hb dX3_takeFromBox_18 (by decide) ?_
      exact W.iret (v := (-1)) hx hb hr (fun t ht hW => ⟨⟨(-1), (), rfl, trivial, ⟨ME_oldest, ME_done, ME_undone, ME_now, KRf, b_ME_oldest, b_ME_done, b_ME_undone, s_ME_now_0, w_KR, q_ME, by rw [ht]; exact hP, hD⟩⟩, hS.F ht⟩) hS.2.2 dX3_takeFromBox_19
    · have bx6f_x0 : zB x0 0 2 := zB_ltu (zf c6) by1f_x0 (show zB 3 3 3 from ⟨by decide, by decide⟩) (by decide)
      refine lv_aload_n hx hb dX3_takeFromBox_9 rfl (lv_at hl 0 rfl) ?_
      refine va_get (D := D) (ci := 3) (v := .ref (aME 8)) (C := RX3) (T := TX3) (N := 9) hx hb hts iw_X3_takeFromBox_X3 hown hK hP 0 rfl rfl 8 (by decide) (hts (.fieldLink RX3 26 "SoldHouse$Memory" "full" "[Z") (List.mem_of_getElem? (i := 1) rfl)) (fun _ h9 => h9) rfl dX3_takeFromBox_10 ?_
      refine lv_iload_n hx hb dX3_takeFromBox_13 rfl (lv_at hl 1 rfl) ?_
      refine va_zald hx hb hK hP 1 3 rfl rfl (zB_in bx6f_x0 (by decide) (by decide)) dX3_takeFromBox_14 ?_
      refine lv_topi (fun y14 _ => ?_)
      refine lv_if_ne (tgt := 20) hx hb dX3_takeFromBox_15 (by decide) (fun c15 => ?_) (fun c15 => ?_)
      · refine lv_aload_n hx hb dX3_takeFromBox_20 rfl (lv_at hl 0 rfl) ?_
        refine va_get (D := D) (ci := 3) (v := .ref (aME 7)) (C := RX3) (T := TX3) (N := 9) hx hb hts iw_X3_takeFromBox_X3 hown hK hP 0 rfl rfl 7 (by decide) (hts (.fieldLink RX3 23 "SoldHouse$Memory" "box" "[[I") (List.mem_of_getElem? (i := 2) rfl)) (fun _ h9 => h9) rfl dX3_takeFromBox_21 ?_
        refine lv_iload_n hx hb dX3_takeFromBox_24 rfl (lv_at hl 1 rfl) ?_
        rcases zsp_3 bx6f_x0 with rfl | rfl | rfl
        · refine zz_alda (v := (BRr 0)) hx hb hK hP 2 4 rfl rfl (zB_in (show zB 0 0 0 from ⟨by decide, by decide⟩) (by decide) (by decide)) (k_ME_box 0 (by decide)) dX3_takeFromBox_25 ?_
          refine lv_iconst (v := 0) hx hb dX3_takeFromBox_26 (by decide) ?_
          refine lv_aload_n hx hb dX3_takeFromBox_27 rfl (lv_at hl 0 rfl) ?_
          refine va_get (D := D) (ci := 3) (v := .ref (aME 1)) (C := RX3) (T := TX3) (N := 9) hx hb hts iw_X3_takeFromBox_X3 hown hK hP 0 rfl rfl 1 (by decide) (hts (.fieldLink RX3 11 "SoldHouse$Memory" "now" "[I") (List.mem_of_getElem? (i := 3) rfl)) (fun _ h9 => h9) rfl dX3_takeFromBox_28 ?_
          refine lv_iconst (v := 0) hx hb dX3_takeFromBox_31 (by decide) ?_
          refine lv_bipush (v := 32) hx hb dX3_takeFromBox_32 (by decide) ?_
          refine zi_copy hx hb (by rw [hml]; exact hl.1.symm) hown (hts (.methodLink RX3 115 arraycopyName) (List.mem_of_getElem? (i := 4) rfl)) (hts (.native arraycopyName) (List.mem_of_getElem? (i := 5) rfl)) (hts (.static arraycopyName) (List.mem_of_getElem? (i := 6) rfl)) (hts (.initialized "java/lang/System") (List.mem_of_getElem? (i := 7) rfl)) hK hP hD hS 46 3 rfl rfl rfl (Nat.le_of_ble_eq_true rfl) (Nat.le_of_ble_eq_true rfl) dX3_takeFromBox_34 (fun H locs g34 e34 hP hD hS => ?_)
          have sg34 := zA_cpy e34 (w_BR 0 (by decide))
          replace hP : va_P D classes ([(ME, .inr (3, oX3 FL aME ME_oldest ME_done ME_undone)), ((aME 8), .inl (cZ, 3, .inl ME_full)), ((aME 7), .inl (cG, 3, .inr (.inr (.inr (.inr ME_box))))), ((aME 1), .inl (cI, 32, .inl g34)), ((aME 3), .inl (cG, 41, .inr (.inr (.inr (.inr ME_kept)))))] ++ rw41 cI KRr KRf ++ rw3 cI BRr BRf) H := hP
          replace hD : va_D A ([(ME, .inr (3, oX3 FL aME ME_oldest ME_done ME_undone)), ((aME 8), .inl (cZ, 3, .inl ME_full)), ((aME 7), .inl (cG, 3, .inr (.inr (.inr (.inr ME_box))))), ((aME 1), .inl (cI, 32, .inl g34)), ((aME 3), .inl (cG, 41, .inr (.inr (.inr (.inr ME_kept)))))] ++ rw41 cI KRr KRf ++ rw3 cI BRr BRf) := hD
          clear e34
          refine lv_aload_n hx hb dX3_takeFromBox_37 rfl (lv_at hl 0 rfl) ?_
          have hPc := hP.sub (ws' := ([(ME, .inr (3, oX3 FL aME ME_oldest ME_done ME_undone)), ((aME 3), .inl (cG, 41, .inr (.inr (.inr (.inr ME_kept))))), ((aME 1), .inl (cI, 32, .inl g34))] ++ rw41 cI KRr KRf)) [0, 4, 3, 5, 6, 7, 8, 9, 10, 11, 12, 13, 14, 15, 16, 17, 18, 19, 20, 21, 22, 23, 24, 25, 26, 27, 28, 29, 30, 31, 32, 33, 34, 35, 36, 37, 38, 39, 40, 41, 42, 43, 44, 45] rfl
          have hDc := hD.sub (ws' := ([(ME, .inr (3, oX3 FL aME ME_oldest ME_done ME_undone)), ((aME 3), .inl (cG, 41, .inr (.inr (.inr (.inr ME_kept))))), ((aME 1), .inl (cI, 32, .inl g34))] ++ rw41 cI KRr KRf)) [0, 4, 3, 5, 6, 7, 8, 9, 10, 11, 12, 13, 14, 15, 16, 17, 18, 19, 20, 21, 22, 23, 24, 25, 26, 27, 28, 29, 30, 31, 32, 33, 34, 35, 36, 37, 38, 39, 40, 41, 42, 43, 44, 45] (by decide) rfl
          have hFc := va_free (wc := ([(ME, .inr (3, oX3 FL aME ME_oldest ME_done ME_undone)), ((aME 3), .inl (cG, 41, .inr (.inr (.inr (.inr ME_kept))))), ((aME 1), .inl (cI, 32, .inl g34))] ++ rw41 cI KRr KRf)) hD hS hA [0, 4, 3, 5, 6, 7, 8, 9, 10, 11, 12, 13, 14, 15, 16, 17, 18, 19, 20, 21, 22, 23, 24, 25, 26, 27, 28, 29, 30, 31, 32, 33, 34, 35, 36, 37, 38, 39, 40, 41, 42, 43, 44, 45] rfl
          refine va_callv (va_runV (As := []) (rest := []) ⟨hx, hb, hml, hown, hts⟩ (c_X3_forgetActs l D cI cB cL cZ cG ME FL aME ME_oldest ME_done ME_undone ME_kept KRr g34 KRf H.size b_ME_oldest b_ME_done b_ME_undone k_ME_kept sg34 w_KR) (cwV 0 hts gX3_takeFromBox_X3_forgetActs rfl rfl rfl (by decide +kernel) ⟨Nat.le_of_ble_eq_true rfl, Nat.le_of_ble_eq_true rfl⟩) ⟨xp_blind, va_recv hK hP (ci := 3) (q0 := 0) rfl rfl, fun U hU hW => xp_mk hU hW hPc hK hDc xNw_nil⟩ rfl rfl hl.1 rfl (lv_room (Nat.le_of_ble_eq_true rfl)) dX3_takeFromBox_38 ⟨Nat.le_of_ble_eq_true rfl, Nat.le_of_ble_eq_true rfl⟩) hS (fun q _ h => hFc q h) hFc (fun u9 t9 H1 locs ht9 hvm9 hr38 hB9 hz9 hk9 hS => ?_)
          obtain ⟨o38_nME_oldest, o38_nME_done, o38_nME_undone, o38_nKRf, bo38_nME_oldest, bo38_nME_done, bo38_nME_undone, wo38_nKRf, hP1, hD1⟩ := hB9
          rw [ht9] at hP1
          obtain ⟨hP, hD⟩ := va_join (wr := ([((aME 8), .inl (cZ, 3, .inl ME_full)), ((aME 7), .inl (cG, 3, .inr (.inr (.inr (.inr ME_box)))))] ++ rw3 cI BRr BRf)) (w1 := ([(ME, .inr (3, oX3 FL aME o38_nME_oldest o38_nME_done o38_nME_undone)), ((aME 3), .inl (cG, 41, .inr (.inr (.inr (.inr ME_kept))))), ((aME 1), .inl (cI, 32, .inl g34))] ++ rw41 cI KRr o38_nKRf)) hP hD [0, 4, 3, 5, 6, 7, 8, 9, 10, 11, 12, 13, 14, 15, 16, 17, 18, 19, 20, 21, 22, 23, 24, 25, 26, 27, 28, 29, 30, 31, 32, 33, 34, 35, 36, 37, 38, 39, 40, 41, 42, 43, 44, 45] [1, 2, 46, 47, 48] rfl rfl (by decide) (by decide) hk9 hFc hP1 hD1
          clear hz9 hPc hDc hP1 hD1 hk9 hFc ht9 hvm9 u9 t9
          generalize H1 = H at hP hS ⊢
          replace hP : va_P D classes ([(ME, .inr (3, oX3 FL aME o38_nME_oldest o38_nME_done o38_nME_undone)), ((aME 8), .inl (cZ, 3, .inl ME_full)), ((aME 7), .inl (cG, 3, .inr (.inr (.inr (.inr ME_box))))), ((aME 1), .inl (cI, 32, .inl g34)), ((aME 3), .inl (cG, 41, .inr (.inr (.inr (.inr ME_kept)))))] ++ rw41 cI KRr o38_nKRf ++ rw3 cI BRr BRf) H := hP.sub [5, 0, 1, 7, 6, 8, 9, 10, 11, 12, 13, 14, 15, 16, 17, 18, 19, 20, 21, 22, 23, 24, 25, 26, 27, 28, 29, 30, 31, 32, 33, 34, 35, 36, 37, 38, 39, 40, 41, 42, 43, 44, 45, 46, 47, 48, 2, 3, 4] rfl
          replace hD : va_D A ([(ME, .inr (3, oX3 FL aME o38_nME_oldest o38_nME_done o38_nME_undone)), ((aME 8), .inl (cZ, 3, .inl ME_full)), ((aME 7), .inl (cG, 3, .inr (.inr (.inr (.inr ME_box))))), ((aME 1), .inl (cI, 32, .inl g34)), ((aME 3), .inl (cG, 41, .inr (.inr (.inr (.inr ME_kept)))))] ++ rw41 cI KRr o38_nKRf ++ rw3 cI BRr BRf) := hD.sub [5, 0, 1, 7, 6, 8, 9, 10, 11, 12, 13, 14, 15, 16, 17, 18, 19, 20, 21, 22, 23, 24, 25, 26, 27, 28, 29, 30, 31, 32, 33, 34, 35, 36, 37, 38, 39, 40, 41, 42, 43, 44, 45, 46, 47, 48, 2, 3, 4] (by decide) rfl
          refine lv_aload_n hx hb dX3_takeFromBox_41 rfl (lv_at hl 0 rfl) ?_
          refine va_get (D := D) (ci := 3) (v := .ref (aME 1)) (C := RX3) (T := TX3) (N := 9) hx hb hts iw_X3_takeFromBox_X3 hown hK hP 0 rfl rfl 1 (by decide) (hts (.fieldLink RX3 11 "SoldHouse$Memory" "now" "[I") (List.mem_of_getElem? (i := 3) rfl)) (fun _ h9 => h9) rfl dX3_takeFromBox_42 ?_
          refine lv_bipush (v := 30) hx hb dX3_takeFromBox_45 (by decide) ?_
          refine va_iald hx hb hK hP 3 0 rfl rfl (zB_in (show zB 30 30 30 from ⟨by decide, by decide⟩) (by decide) (by decide)) dX3_takeFromBox_47 ?_
          refine lv_topi (fun y47 _ => ?_)
          exact W.iret (v := y47) hx hb hr (fun t ht hW => ⟨⟨y47, (), rfl, trivial, ⟨o38_nME_oldest, o38_nME_done, o38_nME_undone, g34, o38_nKRf, (zB_w bo38_nME_oldest (by decide) (by decide)), (zB_w bo38_nME_done (by decide) (by decide)), (zB_w bo38_nME_undone (by decide) (by decide)), sg34, wo38_nKRf, (by have h9_0 := (bo38_nME_done).1; have h9_1 := (bo38_nME_done).2; have h9_2 := (bo38_nME_undone).1; have h9_3 := (bo38_nME_undone).2; have h9_4 := q_ME; omega), by rw [ht]; exact hP, hD⟩⟩, hS.F ht⟩) hS.2.2 dX3_takeFromBox_48
        · refine zz_alda (v := (BRr 1)) hx hb hK hP 2 4 rfl rfl (zB_in (show zB 1 1 1 from ⟨by decide, by decide⟩) (by decide) (by decide)) (k_ME_box 1 (by decide)) dX3_takeFromBox_25 ?_
          refine lv_iconst (v := 0) hx hb dX3_takeFromBox_26 (by decide) ?_
          refine lv_aload_n hx hb dX3_takeFromBox_27 rfl (lv_at hl 0 rfl) ?_
          refine va_get (D := D) (ci := 3) (v := .ref (aME 1)) (C := RX3) (T := TX3) (N := 9) hx hb hts iw_X3_takeFromBox_X3 hown hK hP 0 rfl rfl 1 (by decide) (hts (.fieldLink RX3 11 "SoldHouse$Memory" "now" "[I") (List.mem_of_getElem? (i := 3) rfl)) (fun _ h9 => h9) rfl dX3_takeFromBox_28 ?_
          refine lv_iconst (v := 0) hx hb dX3_takeFromBox_31 (by decide) ?_
          refine lv_bipush (v := 32) hx hb dX3_takeFromBox_32 (by decide) ?_
          refine zi_copy hx hb (by rw [hml]; exact hl.1.symm) hown (hts (.methodLink RX3 115 arraycopyName) (List.mem_of_getElem? (i := 4) rfl)) (hts (.native arraycopyName) (List.mem_of_getElem? (i := 5) rfl)) (hts (.static arraycopyName) (List.mem_of_getElem? (i := 6) rfl)) (hts (.initialized "java/lang/System") (List.mem_of_getElem? (i := 7) rfl)) hK hP hD hS 47 3 rfl rfl rfl (Nat.le_of_ble_eq_true rfl) (Nat.le_of_ble_eq_true rfl) dX3_takeFromBox_34 (fun H locs g34 e34 hP hD hS => ?_)
          have sg34 := zA_cpy e34 (w_BR 1 (by decide))
          replace hP : va_P D classes ([(ME, .inr (3, oX3 FL aME ME_oldest ME_done ME_undone)), ((aME 8), .inl (cZ, 3, .inl ME_full)), ((aME 7), .inl (cG, 3, .inr (.inr (.inr (.inr ME_box))))), ((aME 1), .inl (cI, 32, .inl g34)), ((aME 3), .inl (cG, 41, .inr (.inr (.inr (.inr ME_kept)))))] ++ rw41 cI KRr KRf ++ rw3 cI BRr BRf) H := hP
          replace hD : va_D A ([(ME, .inr (3, oX3 FL aME ME_oldest ME_done ME_undone)), ((aME 8), .inl (cZ, 3, .inl ME_full)), ((aME 7), .inl (cG, 3, .inr (.inr (.inr (.inr ME_box))))), ((aME 1), .inl (cI, 32, .inl g34)), ((aME 3), .inl (cG, 41, .inr (.inr (.inr (.inr ME_kept)))))] ++ rw41 cI KRr KRf ++ rw3 cI BRr BRf) := hD
          clear e34
          refine lv_aload_n hx hb dX3_takeFromBox_37 rfl (lv_at hl 0 rfl) ?_
          have hPc := hP.sub (ws' := ([(ME, .inr (3, oX3 FL aME ME_oldest ME_done ME_undone)), ((aME 3), .inl (cG, 41, .inr (.inr (.inr (.inr ME_kept))))), ((aME 1), .inl (cI, 32, .inl g34))] ++ rw41 cI KRr KRf)) [0, 4, 3, 5, 6, 7, 8, 9, 10, 11, 12, 13, 14, 15, 16, 17, 18, 19, 20, 21, 22, 23, 24, 25, 26, 27, 28, 29, 30, 31, 32, 33, 34, 35, 36, 37, 38, 39, 40, 41, 42, 43, 44, 45] rfl
          have hDc := hD.sub (ws' := ([(ME, .inr (3, oX3 FL aME ME_oldest ME_done ME_undone)), ((aME 3), .inl (cG, 41, .inr (.inr (.inr (.inr ME_kept))))), ((aME 1), .inl (cI, 32, .inl g34))] ++ rw41 cI KRr KRf)) [0, 4, 3, 5, 6, 7, 8, 9, 10, 11, 12, 13, 14, 15, 16, 17, 18, 19, 20, 21, 22, 23, 24, 25, 26, 27, 28, 29, 30, 31, 32, 33, 34, 35, 36, 37, 38, 39, 40, 41, 42, 43, 44, 45] (by decide) rfl
          have hFc := va_free (wc := ([(ME, .inr (3, oX3 FL aME ME_oldest ME_done ME_undone)), ((aME 3), .inl (cG, 41, .inr (.inr (.inr (.inr ME_kept))))), ((aME 1), .inl (cI, 32, .inl g34))] ++ rw41 cI KRr KRf)) hD hS hA [0, 4, 3, 5, 6, 7, 8, 9, 10, 11, 12, 13, 14, 15, 16, 17, 18, 19, 20, 21, 22, 23, 24, 25, 26, 27, 28, 29, 30, 31, 32, 33, 34, 35, 36, 37, 38, 39, 40, 41, 42, 43, 44, 45] rfl
          refine va_callv (va_runV (As := []) (rest := []) ⟨hx, hb, hml, hown, hts⟩ (c_X3_forgetActs l D cI cB cL cZ cG ME FL aME ME_oldest ME_done ME_undone ME_kept KRr g34 KRf H.size b_ME_oldest b_ME_done b_ME_undone k_ME_kept sg34 w_KR) (cwV 0 hts gX3_takeFromBox_X3_forgetActs rfl rfl rfl (by decide +kernel) ⟨Nat.le_of_ble_eq_true rfl, Nat.le_of_ble_eq_true rfl⟩) ⟨xp_blind, va_recv hK hP (ci := 3) (q0 := 0) rfl rfl, fun U hU hW => xp_mk hU hW hPc hK hDc xNw_nil⟩ rfl rfl hl.1 rfl (lv_room (Nat.le_of_ble_eq_true rfl)) dX3_takeFromBox_38 ⟨Nat.le_of_ble_eq_true rfl, Nat.le_of_ble_eq_true rfl⟩) hS (fun q _ h => hFc q h) hFc (fun u9 t9 H1 locs ht9 hvm9 hr38 hB9 hz9 hk9 hS => ?_)
          obtain ⟨o38_nME_oldest, o38_nME_done, o38_nME_undone, o38_nKRf, bo38_nME_oldest, bo38_nME_done, bo38_nME_undone, wo38_nKRf, hP1, hD1⟩ := hB9
          rw [ht9] at hP1
          obtain ⟨hP, hD⟩ := va_join (wr := ([((aME 8), .inl (cZ, 3, .inl ME_full)), ((aME 7), .inl (cG, 3, .inr (.inr (.inr (.inr ME_box)))))] ++ rw3 cI BRr BRf)) (w1 := ([(ME, .inr (3, oX3 FL aME o38_nME_oldest o38_nME_done o38_nME_undone)), ((aME 3), .inl (cG, 41, .inr (.inr (.inr (.inr ME_kept))))), ((aME 1), .inl (cI, 32, .inl g34))] ++ rw41 cI KRr o38_nKRf)) hP hD [0, 4, 3, 5, 6, 7, 8, 9, 10, 11, 12, 13, 14, 15, 16, 17, 18, 19, 20, 21, 22, 23, 24, 25, 26, 27, 28, 29, 30, 31, 32, 33, 34, 35, 36, 37, 38, 39, 40, 41, 42, 43, 44, 45] [1, 2, 46, 47, 48] rfl rfl (by decide) (by decide) hk9 hFc hP1 hD1
          clear hz9 hPc hDc hP1 hD1 hk9 hFc ht9 hvm9 u9 t9
          generalize H1 = H at hP hS ⊢
          replace hP : va_P D classes ([(ME, .inr (3, oX3 FL aME o38_nME_oldest o38_nME_done o38_nME_undone)), ((aME 8), .inl (cZ, 3, .inl ME_full)), ((aME 7), .inl (cG, 3, .inr (.inr (.inr (.inr ME_box))))), ((aME 1), .inl (cI, 32, .inl g34)), ((aME 3), .inl (cG, 41, .inr (.inr (.inr (.inr ME_kept)))))] ++ rw41 cI KRr o38_nKRf ++ rw3 cI BRr BRf) H := hP.sub [5, 0, 1, 7, 6, 8, 9, 10, 11, 12, 13, 14, 15, 16, 17, 18, 19, 20, 21, 22, 23, 24, 25, 26, 27, 28, 29, 30, 31, 32, 33, 34, 35, 36, 37, 38, 39, 40, 41, 42, 43, 44, 45, 46, 47, 48, 2, 3, 4] rfl
          replace hD : va_D A ([(ME, .inr (3, oX3 FL aME o38_nME_oldest o38_nME_done o38_nME_undone)), ((aME 8), .inl (cZ, 3, .inl ME_full)), ((aME 7), .inl (cG, 3, .inr (.inr (.inr (.inr ME_box))))), ((aME 1), .inl (cI, 32, .inl g34)), ((aME 3), .inl (cG, 41, .inr (.inr (.inr (.inr ME_kept)))))] ++ rw41 cI KRr o38_nKRf ++ rw3 cI BRr BRf) := hD.sub [5, 0, 1, 7, 6, 8, 9, 10, 11, 12, 13, 14, 15, 16, 17, 18, 19, 20, 21, 22, 23, 24, 25, 26, 27, 28, 29, 30, 31, 32, 33, 34, 35, 36, 37, 38, 39, 40, 41, 42, 43, 44, 45, 46, 47, 48, 2, 3, 4] (by decide) rfl
          refine lv_aload_n hx hb dX3_takeFromBox_41 rfl (lv_at hl 0 rfl) ?_
          refine va_get (D := D) (ci := 3) (v := .ref (aME 1)) (C := RX3) (T := TX3) (N := 9) hx hb hts iw_X3_takeFromBox_X3 hown hK hP 0 rfl rfl 1 (by decide) (hts (.fieldLink RX3 11 "SoldHouse$Memory" "now" "[I") (List.mem_of_getElem? (i := 3) rfl)) (fun _ h9 => h9) rfl dX3_takeFromBox_42 ?_
          refine lv_bipush (v := 30) hx hb dX3_takeFromBox_45 (by decide) ?_
          refine va_iald hx hb hK hP 3 0 rfl rfl (zB_in (show zB 30 30 30 from ⟨by decide, by decide⟩) (by decide) (by decide)) dX3_takeFromBox_47 ?_
          refine lv_topi (fun y47 _ => ?_)
          exact W.iret (v := y47) hx hb hr (fun t ht hW => ⟨⟨y47, (), rfl, trivial, ⟨o38_nME_oldest, o38_nME_done, o38_nME_undone, g34, o38_nKRf, (zB_w bo38_nME_oldest (by decide) (by decide)), (zB_w bo38_nME_done (by decide) (by decide)), (zB_w bo38_nME_undone (by decide) (by decide)), sg34, wo38_nKRf, (by have h9_0 := (bo38_nME_done).1; have h9_1 := (bo38_nME_done).2; have h9_2 := (bo38_nME_undone).1; have h9_3 := (bo38_nME_undone).2; have h9_4 := q_ME; omega), by rw [ht]; exact hP, hD⟩⟩, hS.F ht⟩) hS.2.2 dX3_takeFromBox_48
        · refine zz_alda (v := (BRr 2)) hx hb hK hP 2 4 rfl rfl (zB_in (show zB 2 2 2 from ⟨by decide, by decide⟩) (by decide) (by decide)) (k_ME_box 2 (by decide)) dX3_takeFromBox_25 ?_
          refine lv_iconst (v := 0) hx hb dX3_takeFromBox_26 (by decide) ?_
          refine lv_aload_n hx hb dX3_takeFromBox_27 rfl (lv_at hl 0 rfl) ?_
          refine va_get (D := D) (ci := 3) (v := .ref (aME 1)) (C := RX3) (T := TX3) (N := 9) hx hb hts iw_X3_takeFromBox_X3 hown hK hP 0 rfl rfl 1 (by decide) (hts (.fieldLink RX3 11 "SoldHouse$Memory" "now" "[I") (List.mem_of_getElem? (i := 3) rfl)) (fun _ h9 => h9) rfl dX3_takeFromBox_28 ?_
          refine lv_iconst (v := 0) hx hb dX3_takeFromBox_31 (by decide) ?_
          refine lv_bipush (v := 32) hx hb dX3_takeFromBox_32 (by decide) ?_
          refine zi_copy hx hb (by rw [hml]; exact hl.1.symm) hown (hts (.methodLink RX3 115 arraycopyName) (List.mem_of_getElem? (i := 4) rfl)) (hts (.native arraycopyName) (List.mem_of_getElem? (i := 5) rfl)) (hts (.static arraycopyName) (List.mem_of_getElem? (i := 6) rfl)) (hts (.initialized "java/lang/System") (List.mem_of_getElem? (i := 7) rfl)) hK hP hD hS 48 3 rfl rfl rfl (Nat.le_of_ble_eq_true rfl) (Nat.le_of_ble_eq_true rfl) dX3_takeFromBox_34 (fun H locs g34 e34 hP hD hS => ?_)
          have sg34 := zA_cpy e34 (w_BR 2 (by decide))
          replace hP : va_P D classes ([(ME, .inr (3, oX3 FL aME ME_oldest ME_done ME_undone)), ((aME 8), .inl (cZ, 3, .inl ME_full)), ((aME 7), .inl (cG, 3, .inr (.inr (.inr (.inr ME_box))))), ((aME 1), .inl (cI, 32, .inl g34)), ((aME 3), .inl (cG, 41, .inr (.inr (.inr (.inr ME_kept)))))] ++ rw41 cI KRr KRf ++ rw3 cI BRr BRf) H := hP
          replace hD : va_D A ([(ME, .inr (3, oX3 FL aME ME_oldest ME_done ME_undone)), ((aME 8), .inl (cZ, 3, .inl ME_full)), ((aME 7), .inl (cG, 3, .inr (.inr (.inr (.inr ME_box))))), ((aME 1), .inl (cI, 32, .inl g34)), ((aME 3), .inl (cG, 41, .inr (.inr (.inr (.inr ME_kept)))))] ++ rw41 cI KRr KRf ++ rw3 cI BRr BRf) := hD
          clear e34
          refine lv_aload_n hx hb dX3_takeFromBox_37 rfl (lv_at hl 0 rfl) ?_
          have hPc := hP.sub (ws' := ([(ME, .inr (3, oX3 FL aME ME_oldest ME_done ME_undone)), ((aME 3), .inl (cG, 41, .inr (.inr (.inr (.inr ME_kept))))), ((aME 1), .inl (cI, 32, .inl g34))] ++ rw41 cI KRr KRf)) [0, 4, 3, 5, 6, 7, 8, 9, 10, 11, 12, 13, 14, 15, 16, 17, 18, 19, 20, 21, 22, 23, 24, 25, 26, 27, 28, 29, 30, 31, 32, 33, 34, 35, 36, 37, 38, 39, 40, 41, 42, 43, 44, 45] rfl
          have hDc := hD.sub (ws' := ([(ME, .inr (3, oX3 FL aME ME_oldest ME_done ME_undone)), ((aME 3), .inl (cG, 41, .inr (.inr (.inr (.inr ME_kept))))), ((aME 1), .inl (cI, 32, .inl g34))] ++ rw41 cI KRr KRf)) [0, 4, 3, 5, 6, 7, 8, 9, 10, 11, 12, 13, 14, 15, 16, 17, 18, 19, 20, 21, 22, 23, 24, 25, 26, 27, 28, 29, 30, 31, 32, 33, 34, 35, 36, 37, 38, 39, 40, 41, 42, 43, 44, 45] (by decide) rfl
          have hFc := va_free (wc := ([(ME, .inr (3, oX3 FL aME ME_oldest ME_done ME_undone)), ((aME 3), .inl (cG, 41, .inr (.inr (.inr (.inr ME_kept))))), ((aME 1), .inl (cI, 32, .inl g34))] ++ rw41 cI KRr KRf)) hD hS hA [0, 4, 3, 5, 6, 7, 8, 9, 10, 11, 12, 13, 14, 15, 16, 17, 18, 19, 20, 21, 22, 23, 24, 25, 26, 27, 28, 29, 30, 31, 32, 33, 34, 35, 36, 37, 38, 39, 40, 41, 42, 43, 44, 45] rfl
          refine va_callv (va_runV (As := []) (rest := []) ⟨hx, hb, hml, hown, hts⟩ (c_X3_forgetActs l D cI cB cL cZ cG ME FL aME ME_oldest ME_done ME_undone ME_kept KRr g34 KRf H.size b_ME_oldest b_ME_done b_ME_undone k_ME_kept sg34 w_KR) (cwV 0 hts gX3_takeFromBox_X3_forgetActs rfl rfl rfl (by decide +kernel) ⟨Nat.le_of_ble_eq_true rfl, Nat.le_of_ble_eq_true rfl⟩) ⟨xp_blind, va_recv hK hP (ci := 3) (q0 := 0) rfl rfl, fun U hU hW => xp_mk hU hW hPc hK hDc xNw_nil⟩ rfl rfl hl.1 rfl (lv_room (Nat.le_of_ble_eq_true rfl)) dX3_takeFromBox_38 ⟨Nat.le_of_ble_eq_true rfl, Nat.le_of_ble_eq_true rfl⟩) hS (fun q _ h => hFc q h) hFc (fun u9 t9 H1 locs ht9 hvm9 hr38 hB9 hz9 hk9 hS => ?_)
          obtain ⟨o38_nME_oldest, o38_nME_done, o38_nME_undone, o38_nKRf, bo38_nME_oldest, bo38_nME_done, bo38_nME_undone, wo38_nKRf, hP1, hD1⟩ := hB9
          rw [ht9] at hP1
          obtain ⟨hP, hD⟩ := va_join (wr := ([((aME 8), .inl (cZ, 3, .inl ME_full)), ((aME 7), .inl (cG, 3, .inr (.inr (.inr (.inr ME_box)))))] ++ rw3 cI BRr BRf)) (w1 := ([(ME, .inr (3, oX3 FL aME o38_nME_oldest o38_nME_done o38_nME_undone)), ((aME 3), .inl (cG, 41, .inr (.inr (.inr (.inr ME_kept))))), ((aME 1), .inl (cI, 32, .inl g34))] ++ rw41 cI KRr o38_nKRf)) hP hD [0, 4, 3, 5, 6, 7, 8, 9, 10, 11, 12, 13, 14, 15, 16, 17, 18, 19, 20, 21, 22, 23, 24, 25, 26, 27, 28, 29, 30, 31, 32, 33, 34, 35, 36, 37, 38, 39, 40, 41, 42, 43, 44, 45] [1, 2, 46, 47, 48] rfl rfl (by decide) (by decide) hk9 hFc hP1 hD1
          clear hz9 hPc hDc hP1 hD1 hk9 hFc ht9 hvm9 u9 t9
          generalize H1 = H at hP hS ⊢
          replace hP : va_P D classes ([(ME, .inr (3, oX3 FL aME o38_nME_oldest o38_nME_done o38_nME_undone)), ((aME 8), .inl (cZ, 3, .inl ME_full)), ((aME 7), .inl (cG, 3, .inr (.inr (.inr (.inr ME_box))))), ((aME 1), .inl (cI, 32, .inl g34)), ((aME 3), .inl (cG, 41, .inr (.inr (.inr (.inr ME_kept)))))] ++ rw41 cI KRr o38_nKRf ++ rw3 cI BRr BRf) H := hP.sub [5, 0, 1, 7, 6, 8, 9, 10, 11, 12, 13, 14, 15, 16, 17, 18, 19, 20, 21, 22, 23, 24, 25, 26, 27, 28, 29, 30, 31, 32, 33, 34, 35, 36, 37, 38, 39, 40, 41, 42, 43, 44, 45, 46, 47, 48, 2, 3, 4] rfl
          replace hD : va_D A ([(ME, .inr (3, oX3 FL aME o38_nME_oldest o38_nME_done o38_nME_undone)), ((aME 8), .inl (cZ, 3, .inl ME_full)), ((aME 7), .inl (cG, 3, .inr (.inr (.inr (.inr ME_box))))), ((aME 1), .inl (cI, 32, .inl g34)), ((aME 3), .inl (cG, 41, .inr (.inr (.inr (.inr ME_kept)))))] ++ rw41 cI KRr o38_nKRf ++ rw3 cI BRr BRf) := hD.sub [5, 0, 1, 7, 6, 8, 9, 10, 11, 12, 13, 14, 15, 16, 17, 18, 19, 20, 21, 22, 23, 24, 25, 26, 27, 28, 29, 30, 31, 32, 33, 34, 35, 36, 37, 38, 39, 40, 41, 42, 43, 44, 45, 46, 47, 48, 2, 3, 4] (by decide) rfl
          refine lv_aload_n hx hb dX3_takeFromBox_41 rfl (lv_at hl 0 rfl) ?_
          refine va_get (D := D) (ci := 3) (v := .ref (aME 1)) (C := RX3) (T := TX3) (N := 9) hx hb hts iw_X3_takeFromBox_X3 hown hK hP 0 rfl rfl 1 (by decide) (hts (.fieldLink RX3 11 "SoldHouse$Memory" "now" "[I") (List.mem_of_getElem? (i := 3) rfl)) (fun _ h9 => h9) rfl dX3_takeFromBox_42 ?_
          refine lv_bipush (v := 30) hx hb dX3_takeFromBox_45 (by decide) ?_
          refine va_iald hx hb hK hP 3 0 rfl rfl (zB_in (show zB 30 30 30 from ⟨by decide, by decide⟩) (by decide) (by decide)) dX3_takeFromBox_47 ?_
          refine lv_topi (fun y47 _ => ?_)
          exact W.iret (v := y47) hx hb hr (fun t ht hW => ⟨⟨y47, (), rfl, trivial, ⟨o38_nME_oldest, o38_nME_done, o38_nME_undone, g34, o38_nKRf, (zB_w bo38_nME_oldest (by decide) (by decide)), (zB_w bo38_nME_done (by decide) (by decide)), (zB_w bo38_nME_undone (by decide) (by decide)), sg34, wo38_nKRf, (by have h9_0 := (bo38_nME_done).1; have h9_1 := (bo38_nME_done).2; have h9_2 := (bo38_nME_undone).1; have h9_3 := (bo38_nME_undone).2; have h9_4 := q_ME; omega), by rw [ht]; exact hP, hD⟩⟩, hS.F ht⟩) hS.2.2 dX3_takeFromBox_48
      · have be15f_y14 : zB y14 0 0 := zB_eq c15 (zB_top y14) (show zB 0 0 0 from ⟨by decide, by decide⟩) (by decide) (by decide)
        refine lv_iconst (v := (-1)) hx hb dX3_takeFromBox_18 (by decide) ?_
        exact W.iret (v := (-1)) hx hb hr (fun t ht hW => ⟨⟨(-1), (), rfl, trivial, ⟨ME_oldest, ME_done, ME_undone, ME_now, KRf, b_ME_oldest, b_ME_done, b_ME_undone, s_ME_now_0, w_KR, q_ME, by rw [ht]; exact hP, hD⟩⟩, hS.F ht⟩) hS.2.2 dX3_takeFromBox_19
set_option maxHeartbeats 4000000 in
set_option maxRecDepth 100000 in
theorem c_X3_daysTillLost (l : Launch) (D : va_G) (cI : ClassId) (cB : ClassId) (cL : ClassId) (cZ : ClassId) (cG : ClassId) (ME : Nat) (FL : Nat) (aME : Nat → Nat) (ME_oldest : Int32) (ME_done : Int32) (ME_undone : Int32) (PL : Nat) (aFL : Nat → Nat) (FL_parting : Int32) (PL_rooms : Int32) (aPL : Nat → Nat) (PL_doors : Int32) (PL_things : Int32) (FO : Nat) (PL_draw : Int32) (PL_drawTold : Int32) (ME_now : Nat → Int32) (ME_ahead : Nat → Int32) (aFO : Nat → Nat) (FO_size : Int32) (FO_units : Int32) (FO_told : Int32) (PL_us : Nat → Int32) (PL_them : Nat → Int32) (FL_far : Nat → Int32) (FO_known : Nat → Int32) (FO_steps : Nat → Int32) (FO_stack : Nat → Int32) (sz : Nat) (b_ME_oldest : zB ME_oldest 0 40) (b_ME_done : zB ME_done 0 40) (b_ME_undone : zB ME_undone 0 40) (b_PL_rooms : zB PL_rooms 0 8) (b_PL_doors : zB PL_doors 0 12) (b_PL_things : zB PL_things 0 6) (b_FO_size : zB FO_size 0 400) (s_ME_now_0 : zA ME_now 0 12 0 7) (s_ME_ahead_0 : zA ME_ahead 0 12 0 7) (s_FL_far_0 : zA FL_far 0 64 (-1) 7) : Met l yX3_daysTillLost wsX3_daysTillLost ({ frames := 4, cells := 0, slots := 0, locals := 93 }) (xp D [(cI, .int), (cB, .byte), (cL, .long), (cZ, .boolean), (cG, .array .int)] [(ME, .inr (3, oX3 FL aME ME_oldest ME_done ME_undone)), (FL, .inr (0, oX0 PL aFL FL_parting)), (PL, .inr (5, oX5 FO aPL PL_rooms PL_doors PL_things PL_draw PL_drawTold)), ((aME 1), .inl (cI, 32, .inl ME_now)), ((aME 2), .inl (cI, 32, .inl ME_ahead)), (FO, .inr (1, oX1 aFO FO_size FO_units FO_told)), ((aPL 11), .inl (cI, 6, .inl PL_us)), ((aPL 12), .inl (cI, 6, .inl PL_them)), ((aFL 2), .inl (cI, 64, .inl FL_far)), ((aFO 2), .inl (cI, 5, .inl FO_known)), ((aFO 0), .inl (cI, 400, .inl FO_steps)), ((aFO 1), .inl (cI, 61, .inl FO_stack))] sz [] [.ref ME]) (va_Qi (fun (r : Int32) (_ : Unit) => zB r (-1) 60) (fun (_ : Unit) (t : State) => ∃ (nMEahead : Nat → Int32), ∃ (nFOknown : Nat → Int32), ∃ (nFOstack : Nat → Int32), zA nMEahead 0 12 0 7 ∧ xB D (va_A [(ME, .inr (3, oX3 FL aME ME_oldest ME_done ME_undone)), (FL, .inr (0, oX0 PL aFL FL_parting)), (PL, .inr (5, oX5 FO aPL PL_rooms PL_doors PL_things PL_draw PL_drawTold)), ((aME 1), .inl (cI, 32, .inl ME_now)), ((aME 2), .inl (cI, 32, .inl ME_ahead)), (FO, .inr (1, oX1 aFO FO_size FO_units FO_told)), ((aPL 11), .inl (cI, 6, .inl PL_us)), ((aPL 12), .inl (cI, 6, .inl PL_them)), ((aFL 2), .inl (cI, 64, .inl FL_far)), ((aFO 2), .inl (cI, 5, .inl FO_known)), ((aFO 0), .inl (cI, 400, .inl FO_steps)), ((aFO 1), .inl (cI, 61, .inl FO_stack))] sz) [(ME, .inr (3, oX3 FL aME ME_oldest ME_done ME_undone)), (FL, .inr (0, oX0 PL aFL FL_parting)), (PL, .inr (5, oX5 FO aPL PL_rooms PL_doors PL_things PL_draw PL_drawTold)), ((aME 1), .inl (cI, 32, .inl ME_now)), ((aME 2), .inl (cI, 32, .inl nMEahead)), (FO, .inr (1, oX1 aFO FO_size FO_units FO_told)), ((aPL 11), .inl (cI, 6, .inl PL_us)), ((aPL 12), .inl (cI, 6, .inl PL_them)), ((aFL 2), .inl (cI, 64, .inl FL_far)), ((aFO 2), .inl (cI, 5, .inl nFOknown)), ((aFO 0), .inl (cI, 400, .inl FO_steps)), ((aFO 1), .inl (cI, 61, .inl nFOstack))] t) (va_A [(ME, .inr (3, oX3 FL aME ME_oldest ME_done ME_undone)), (FL, .inr (0, oX0 PL aFL FL_parting)), (PL, .inr (5, oX5 FO aPL PL_rooms PL_doors PL_things PL_draw PL_drawTold)), ((aME 1), .inl (cI, 32, .inl ME_now)), ((aME 2), .inl (cI, 32, .inl ME_ahead)), (FO, .inr (1, oX1 aFO FO_size FO_units FO_told)), ((aPL 11), .inl (cI, 6, .inl PL_us)), ((aPL 12), .inl (cI, 6, .inl PL_them)), ((aFL 2), .inl (cI, 64, .inl FL_far)), ((aFO 2), .inl (cI, 5, .inl FO_known)), ((aFO 0), .inl (cI, 400, .inl FO_steps)), ((aFO 1), .inl (cI, 61, .inl FO_stack))] sz)) 0 0 (va_A [(ME, .inr (3, oX3 FL aME ME_oldest ME_done ME_undone)), (FL, .inr (0, oX0 PL aFL FL_parting)), (PL, .inr (5, oX5 FO aPL PL_rooms PL_doors PL_things PL_draw PL_drawTold)), ((aME 1), .inl (cI, 32, .inl ME_now)), ((aME 2), .inl (cI, 32, .inl ME_ahead)), (FO, .inr (1, oX1 aFO FO_size FO_units FO_told)), ((aPL 11), .inl (cI, 6, .inl PL_us)), ((aPL 12), .inl (cI, 6, .inl PL_them)), ((aFL 2), .inl (cI, 64, .inl FL_far)), ((aFO 2), .inl (cI, 5, .inl FO_known)), ((aFO 0), .inl (cI, 400, .inl FO_steps)), ((aFO 1), .inl (cI, 61, .inl FO_stack))] sz) := by
  refine Met.ofW (cc := cX3_daysTillLost) (maxL := 2) (ret := (some .int)) (by decide) rfl ?_
  intro p e s m args below meth c s₁ B hml hv
  obtain ⟨rfl, hsz, hP, hK, hD0, hNw⟩ := hv
  have hx := B.exec
  have hb := B.bytes
  have hr := B.returns
  have hts := atoms_spec (ws := wsX3_daysTillLost) B.pre
  have hown : s.vm.findClass RX3 = some m.cls := findClass_of_methodNamed B.named
  have hlocks := B.notSynchronized
  clear B
  subst hsz
  have hD := hD0.self (sz := s.heap.size)
  clear hD0 hNw
  generalize hAe : va_A [(ME, .inr (3, oX3 FL aME ME_oldest ME_done ME_undone)), (FL, .inr (0, oX0 PL aFL FL_parting)), (PL, .inr (5, oX5 FO aPL PL_rooms PL_doors PL_things PL_draw PL_drawTold)), ((aME 1), .inl (cI, 32, .inl ME_now)), ((aME 2), .inl (cI, 32, .inl ME_ahead)), (FO, .inr (1, oX1 aFO FO_size FO_units FO_told)), ((aPL 11), .inl (cI, 6, .inl PL_us)), ((aPL 12), .inl (cI, 6, .inl PL_them)), ((aFL 2), .inl (cI, 64, .inl FL_far)), ((aFO 2), .inl (cI, 5, .inl FO_known)), ((aFO 0), .inl (cI, 400, .inl FO_steps)), ((aFO 1), .inl (cI, 61, .inl FO_stack))] s.heap.size = A at hD ⊢
  have hA : ∀ q : Nat, s.heap.size ≤ q → A q := fun q h => by rw [← hAe]; exact Or.inr h
  have hS : va_S A s.heap s.heap [] := va_S.rf
  clear hAe
  obtain ⟨H, hH⟩ : ∃ H : Heap, H = s.heap := ⟨_, rfl⟩
  obtain ⟨locs, hlocs⟩ : ∃ L : List Loc, L = [] := ⟨_, rfl⟩
  replace hP : va_P D classes [(ME, .inr (3, oX3 FL aME ME_oldest ME_done ME_undone)), (FL, .inr (0, oX0 PL aFL FL_parting)), (PL, .inr (5, oX5 FO aPL PL_rooms PL_doors PL_things PL_draw PL_drawTold)), ((aME 1), .inl (cI, 32, .inl ME_now)), ((aME 2), .inl (cI, 32, .inl ME_ahead)), (FO, .inr (1, oX1 aFO FO_size FO_units FO_told)), ((aPL 11), .inl (cI, 6, .inl PL_us)), ((aPL 12), .inl (cI, 6, .inl PL_them)), ((aFL 2), .inl (cI, 64, .inl FL_far)), ((aFO 2), .inl (cI, 5, .inl FO_known)), ((aFO 0), .inl (cI, 400, .inl FO_steps)), ((aFO 1), .inl (cI, 61, .inl FO_stack))] H := by rw [hH]; exact hP
  replace hS : va_S A s.heap H locs := by rw [hH, hlocs]; exact hS
  rw [← hH, ← hlocs]
  clear hlocs hH
  have hl := lv_entry ([.ref ME]) (n := 2) (Nat.le_of_ble_eq_true rfl)
  rw [lg_entry_eq]
  generalize (lg_sl ([.ref ME]) ++ List.replicate (2 - (lg_sl ([.ref ME])).length) Slot.unset).toArray = ls at hl ⊢
  replace hl : lv_has ls 2 [(0, .ref ME)] := hl
  refine zz_abs (R := ({ frames := 4, cells := 0, slots := 0, locals := 93 } : Room)) (fun Q up => ?_)
  refine lv_aload_n hx hb dX3_daysTillLost_0 rfl (lv_at hl 0 rfl) ?_
  refine va_get (D := D) (ci := 3) (v := .ref FL) (C := RX3) (T := TX3) (N := 9) hx hb hts iw_X3_daysTillLost_X3 hown hK hP 0 rfl rfl 0 (by decide) (hts (.fieldLink RX3 30 "SoldHouse$Memory" "floor" "LSoldHouse$Floor;") (List.mem_of_getElem? (i := 1) rfl)) (fun _ h9 => h9) rfl dX3_daysTillLost_1 ?_
  refine va_get (D := D) (ci := 0) (v := .ref PL) (C := RX0) (T := TX0) (N := 5) hx hb hts iw_X3_daysTillLost_X0 hown hK hP 1 rfl rfl 0 (by decide) (hts (.fieldLink RX3 34 "SoldHouse$Floor" "plan" "LSoldHouse$Plan;") (List.mem_of_getElem? (i := 2) rfl)) (fun _ h9 => h9) rfl dX3_daysTillLost_4 ?_
  refine va_get (D := D) (ci := 5) (v := .int PL_things) (C := RX5) (T := TX5) (N := 16) hx hb hts iw_X3_daysTillLost_X5 hown hK hP 2 rfl rfl 6 (by decide) (hts (.fieldLink RX3 40 "SoldHouse$Plan" "things" "I") (List.mem_of_getElem? (i := 3) rfl)) (fun _ h9 => h9) rfl dX3_daysTillLost_7 ?_
  refine lv_if_ne (tgt := 15) hx hb dX3_daysTillLost_10 (by decide) (fun c10 => ?_) (fun c10 => ?_)
  · have bn10t_PL_things : zB PL_things 1 6 := zB_neL c10 b_PL_things (show zB 0 0 0 from ⟨by decide, by decide⟩) (by decide)
    refine lv_aload_n hx hb dX3_daysTillLost_15 rfl (lv_at hl 0 rfl) ?_
    refine va_get (D := D) (ci := 3) (v := .ref (aME 1)) (C := RX3) (T := TX3) (N := 9) hx hb hts iw_X3_daysTillLost_X3 hown hK hP 0 rfl rfl 1 (by decide) (hts (.fieldLink RX3 11 "SoldHouse$Memory" "now" "[I") (List.mem_of_getElem? (i := 4) rfl)) (fun _ h9 => h9) rfl dX3_daysTillLost_16 ?_
    refine lv_iconst (v := 0) hx hb dX3_daysTillLost_19 (by decide) ?_
    refine lv_aload_n hx hb dX3_daysTillLost_20 rfl (lv_at hl 0 rfl) ?_
    refine va_get (D := D) (ci := 3) (v := .ref (aME 2)) (C := RX3) (T := TX3) (N := 9) hx hb hts iw_X3_daysTillLost_X3 hown hK hP 0 rfl rfl 2 (by decide) (hts (.fieldLink RX3 15 "SoldHouse$Memory" "ahead" "[I") (List.mem_of_getElem? (i := 5) rfl)) (fun _ h9 => h9) rfl dX3_daysTillLost_21 ?_
    refine lv_iconst (v := 0) hx hb dX3_daysTillLost_24 (by decide) ?_
    refine lv_bipush (v := 32) hx hb dX3_daysTillLost_25 (by decide) ?_
    refine zi_copy hx hb (by rw [hml]; exact hl.1.symm) hown (hts (.methodLink RX3 115 arraycopyName) (List.mem_of_getElem? (i := 6) rfl)) (hts (.native arraycopyName) (List.mem_of_getElem? (i := 7) rfl)) (hts (.static arraycopyName) (List.mem_of_getElem? (i := 8) rfl)) (hts (.initialized "java/lang/System") (List.mem_of_getElem? (i := 9) rfl)) hK hP hD hS 3 4 rfl rfl rfl (Nat.le_of_ble_eq_true rfl) (Nat.le_of_ble_eq_true rfl) dX3_daysTillLost_27 (fun H locs g27 e27 hP hD hS => ?_)
    have sg27 := zA_cpy e27 s_ME_now_0
    replace hP : va_P D classes [(ME, .inr (3, oX3 FL aME ME_oldest ME_done ME_undone)), (FL, .inr (0, oX0 PL aFL FL_parting)), (PL, .inr (5, oX5 FO aPL PL_rooms PL_doors PL_things PL_draw PL_drawTold)), ((aME 1), .inl (cI, 32, .inl ME_now)), ((aME 2), .inl (cI, 32, .inl g27)), (FO, .inr (1, oX1 aFO FO_size FO_units FO_told)), ((aPL 11), .inl (cI, 6, .inl PL_us)), ((aPL 12), .inl (cI, 6, .inl PL_them)), ((aFL 2), .inl (cI, 64, .inl FL_far)), ((aFO 2), .inl (cI, 5, .inl FO_known)), ((aFO 0), .inl (cI, 400, .inl FO_steps)), ((aFO 1), .inl (cI, 61, .inl FO_stack))] H := hP
    replace hD : va_D A [(ME, .inr (3, oX3 FL aME ME_oldest ME_done ME_undone)), (FL, .inr (0, oX0 PL aFL FL_parting)), (PL, .inr (5, oX5 FO aPL PL_rooms PL_doors PL_things PL_draw PL_drawTold)), ((aME 1), .inl (cI, 32, .inl ME_now)), ((aME 2), .inl (cI, 32, .inl g27)), (FO, .inr (1, oX1 aFO FO_size FO_units FO_told)), ((aPL 11), .inl (cI, 6, .inl PL_us)), ((aPL 12), .inl (cI, 6, .inl PL_them)), ((aFL 2), .inl (cI, 64, .inl FL_far)), ((aFO 2), .inl (cI, 5, .inl FO_known)), ((aFO 0), .inl (cI, 400, .inl FO_steps)), ((aFO 1), .inl (cI, 61, .inl FO_stack))] := hD
    clear e27
    refine lv_iconst (v := 0) hx hb dX3_daysTillLost_30 (by decide) ?_
    have j32 : ∀ (n32 : Nat) (H : Heap) (locs : List Loc) (ls : Array Slot) (v32_1 : Int32) (g32_aME2 : Nat → Int32) (g32_aFO2 : Nat → Int32) (g32_aFO1 : Nat → Int32), zB v32_1 0 61 → zA ME_now 0 12 0 7 → zA g32_aME2 0 12 0 7 → zA FL_far 0 64 (-1) 7 → (61 + 1 - v32_1.toInt) ≤ (n32 : Int) → va_P D classes [(ME, .inr (3, oX3 FL aME ME_oldest ME_done ME_undone)), (FL, .inr (0, oX0 PL aFL FL_parting)), (PL, .inr (5, oX5 FO aPL PL_rooms PL_doors PL_things PL_draw PL_drawTold)), ((aME 1), .inl (cI, 32, .inl ME_now)), ((aME 2), .inl (cI, 32, .inl g32_aME2)), (FO, .inr (1, oX1 aFO FO_size FO_units FO_told)), ((aPL 11), .inl (cI, 6, .inl PL_us)), ((aPL 12), .inl (cI, 6, .inl PL_them)), ((aFL 2), .inl (cI, 64, .inl FL_far)), ((aFO 2), .inl (cI, 5, .inl g32_aFO2)), ((aFO 0), .inl (cI, 400, .inl FO_steps)), ((aFO 1), .inl (cI, 61, .inl g32_aFO1))] H → va_D A [(ME, .inr (3, oX3 FL aME ME_oldest ME_done ME_undone)), (FL, .inr (0, oX0 PL aFL FL_parting)), (PL, .inr (5, oX5 FO aPL PL_rooms PL_doors PL_things PL_draw PL_drawTold)), ((aME 1), .inl (cI, 32, .inl ME_now)), ((aME 2), .inl (cI, 32, .inl g32_aME2)), (FO, .inr (1, oX1 aFO FO_size FO_units FO_told)), ((aPL 11), .inl (cI, 6, .inl PL_us)), ((aPL 12), .inl (cI, 6, .inl PL_them)), ((aFL 2), .inl (cI, 64, .inl FL_far)), ((aFO 2), .inl (cI, 5, .inl g32_aFO2)), ((aFO 0), .inl (cI, 400, .inl FO_steps)), ((aFO 1), .inl (cI, 61, .inl g32_aFO1))] → va_S A s.heap H locs → lv_has ls 2 [(1, .int v32_1), (0, .ref ME)] → W p l e ({ frames := 4, cells := 0, slots := 0, locals := 93 } : Room) s m ([.ref ME] : List Value).toArray below meth c H locs 0 0 Q (F0 m 32 ls []) := by
      intro n32
      induction n32 with
      | zero => intro H locs ls v32_1 g32_aME2 g32_aFO2 g32_aFO1 bv32_1_k32 sME_now_0_k32 sg32_aME2_0_k32 sFL_far_0_k32 hm32 hP hD hS hl; exact zM_u0 bv32_1_k32 hm32
      | succ n32 ih32 =>
        intro H locs ls v32_1 g32_aME2 g32_aFO2 g32_aFO1 bv32_1_k32 sME_now_0_k32 sg32_aME2_0_k32 sFL_far_0_k32 hm32 hP hD hS hl
        refine lv_iload_n hx hb dX3_daysTillLost_32 rfl (lv_at hl 0 rfl) ?_
        refine lv_bipush (v := 60) hx hb dX3_daysTillLost_33 (by decide) ?_
        refine lv_icmp_gt (tgt := 66) hx hb dX3_daysTillLost_35 (by decide) (fun c35 => ?_) (fun c35 => ?_)
        · have by35t_v32_1 : zB v32_1 61 61 := zB_ltv (zl c35) (show zB 60 60 60 from ⟨by decide, by decide⟩) bv32_1_k32 (by decide)
          refine lv_iconst (v := (-1)) hx hb dX3_daysTillLost_66 (by decide) ?_
          exact up _ _ _ (W.iret (v := (-1)) hx hb hr (fun t ht hW => ⟨⟨(-1), (), rfl, (zB_w (show zB (-1) (-1) (-1) from ⟨by decide, by decide⟩) (by decide) (by decide)), ⟨g32_aME2, g32_aFO2, g32_aFO1, sg32_aME2_0_k32, by rw [ht]; exact hP, hD⟩⟩, hS.F ht⟩) hS.2.2 dX3_daysTillLost_67)
        · have bx35f_v32_1 : zB v32_1 0 60 := zB_leu (zg c35) bv32_1_k32 (show zB 60 60 60 from ⟨by decide, by decide⟩) (by decide)
          refine lv_aload_n hx hb dX3_daysTillLost_38 rfl (lv_at hl 1 rfl) ?_
          refine lv_aload_n hx hb dX3_daysTillLost_39 rfl (lv_at hl 1 rfl) ?_
          refine va_get (D := D) (ci := 3) (v := .ref (aME 2)) (C := RX3) (T := TX3) (N := 9) hx hb hts iw_X3_daysTillLost_X3 hown hK hP 0 rfl rfl 2 (by decide) (hts (.fieldLink RX3 15 "SoldHouse$Memory" "ahead" "[I") (List.mem_of_getElem? (i := 5) rfl)) (fun _ h9 => h9) rfl dX3_daysTillLost_40 ?_
          have hPc := hP.sub (ws' := [((aME 2), .inl (cI, 32, .inl g32_aME2)), (ME, .inr (3, oX3 FL aME ME_oldest ME_done ME_undone)), (FL, .inr (0, oX0 PL aFL FL_parting)), (PL, .inr (5, oX5 FO aPL PL_rooms PL_doors PL_things PL_draw PL_drawTold))]) [4, 0, 1, 2] rfl
          refine vp_callSi (va_runV (As := [.ref (aME 2)]) (rest := []) ⟨hx, hb, hml, hown, hts⟩ (c_X3_rightThings l D cI cB cL cZ cG ME (aME 2) g32_aME2 FL aME ME_oldest ME_done ME_undone PL aFL FL_parting PL_rooms aPL PL_doors PL_things FO PL_draw PL_drawTold b_ME_oldest b_ME_done b_ME_undone b_PL_rooms b_PL_doors (zB_w bn10t_PL_things (by decide) (by decide)) sg32_aME2_0_k32) (cwV 1 hts gX3_daysTillLost_X3_rightThings rfl rfl rfl (by decide +kernel) ⟨Nat.le_of_ble_eq_true rfl, Nat.le_of_ble_eq_true rfl⟩) ⟨xr_blind, va_recv hK hP (ci := 3) (q0 := 0) rfl rfl, fun U hU hW => xr_mk hU hW hPc hK⟩ rfl rfl hl.1 rfl (lv_room (Nat.le_of_ble_eq_true rfl)) dX3_daysTillLost_43 ⟨Nat.le_of_ble_eq_true rfl, Nat.le_of_ble_eq_true rfl⟩).run (fun r43 hr43 => ?_)
          clear hPc
          refine lv_if_ne (tgt := 51) hx hb dX3_daysTillLost_46 (by decide) (fun c46 => ?_) (fun c46 => ?_)
          · have bn46t_r43 : zB r43 1 63 := zB_neL c46 hr43 (show zB 0 0 0 from ⟨by decide, by decide⟩) (by decide)
            refine lv_aload_n hx hb dX3_daysTillLost_51 rfl (lv_at hl 1 rfl) ?_
            refine lv_aload_n hx hb dX3_daysTillLost_52 rfl (lv_at hl 1 rfl) ?_
            refine va_get (D := D) (ci := 3) (v := .ref (aME 2)) (C := RX3) (T := TX3) (N := 9) hx hb hts iw_X3_daysTillLost_X3 hown hK hP 0 rfl rfl 2 (by decide) (hts (.fieldLink RX3 15 "SoldHouse$Memory" "ahead" "[I") (List.mem_of_getElem? (i := 5) rfl)) (fun _ h9 => h9) rfl dX3_daysTillLost_53 ?_
            have hPc := hP.sub (ws' := [((aME 2), .inl (cI, 32, .inl g32_aME2)), (ME, .inr (3, oX3 FL aME ME_oldest ME_done ME_undone)), (FL, .inr (0, oX0 PL aFL FL_parting)), (PL, .inr (5, oX5 FO aPL PL_rooms PL_doors PL_things PL_draw PL_drawTold)), (FO, .inr (1, oX1 aFO FO_size FO_units FO_told)), ((aPL 11), .inl (cI, 6, .inl PL_us)), ((aPL 12), .inl (cI, 6, .inl PL_them)), ((aFL 2), .inl (cI, 64, .inl FL_far)), ((aFO 2), .inl (cI, 5, .inl g32_aFO2)), ((aFO 0), .inl (cI, 400, .inl FO_steps)), ((aFO 1), .inl (cI, 61, .inl g32_aFO1))]) [4, 0, 1, 2, 5, 6, 7, 8, 9, 10, 11] rfl
            have hDc := hD.sub (ws' := [((aME 2), .inl (cI, 32, .inl g32_aME2)), (ME, .inr (3, oX3 FL aME ME_oldest ME_done ME_undone)), (FL, .inr (0, oX0 PL aFL FL_parting)), (PL, .inr (5, oX5 FO aPL PL_rooms PL_doors PL_things PL_draw PL_drawTold)), (FO, .inr (1, oX1 aFO FO_size FO_units FO_told)), ((aPL 11), .inl (cI, 6, .inl PL_us)), ((aPL 12), .inl (cI, 6, .inl PL_them)), ((aFL 2), .inl (cI, 64, .inl FL_far)), ((aFO 2), .inl (cI, 5, .inl g32_aFO2)), ((aFO 0), .inl (cI, 400, .inl FO_steps)), ((aFO 1), .inl (cI, 61, .inl g32_aFO1))]) [4, 0, 1, 2, 5, 6, 7, 8, 9, 10, 11] (by decide) rfl
            have hFc := va_free (wc := [((aME 2), .inl (cI, 32, .inl g32_aME2)), (ME, .inr (3, oX3 FL aME ME_oldest ME_done ME_undone)), (FL, .inr (0, oX0 PL aFL FL_parting)), (PL, .inr (5, oX5 FO aPL PL_rooms PL_doors PL_things PL_draw PL_drawTold)), (FO, .inr (1, oX1 aFO FO_size FO_units FO_told)), ((aPL 11), .inl (cI, 6, .inl PL_us)), ((aPL 12), .inl (cI, 6, .inl PL_them)), ((aFL 2), .inl (cI, 64, .inl FL_far)), ((aFO 2), .inl (cI, 5, .inl g32_aFO2)), ((aFO 0), .inl (cI, 400, .inl FO_steps)), ((aFO 1), .inl (cI, 61, .inl g32_aFO1))]) hD hS hA [4, 0, 1, 2, 5, 6, 7, 8, 9, 10, 11] rfl
            refine va_calli (va_runV (As := [.ref (aME 2)]) (rest := []) ⟨hx, hb, hml, hown, hts⟩ (c_X3_passDay l D cI cB cL cZ cG ME (aME 2) g32_aME2 FL aME ME_oldest ME_done ME_undone PL aFL FL_parting PL_rooms aPL PL_doors PL_things FO PL_draw PL_drawTold aFO FO_size FO_units FO_told PL_us PL_them FL_far g32_aFO2 FO_steps g32_aFO1 H.size b_ME_oldest b_ME_done b_ME_undone b_PL_rooms b_PL_doors (zB_w bn10t_PL_things (by decide) (by decide)) b_FO_size sg32_aME2_0_k32 sFL_far_0_k32) (cwV 1 hts gX3_daysTillLost_X3_passDay rfl rfl rfl (by decide +kernel) ⟨Nat.le_of_ble_eq_true rfl, Nat.le_of_ble_eq_true rfl⟩) ⟨xp_blind, va_recv hK hP (ci := 3) (q0 := 0) rfl rfl, fun U hU hW => xp_mk hU hW hPc hK hDc xNw_nil⟩ rfl rfl hl.1 rfl (lv_room (Nat.le_of_ble_eq_true rfl)) dX3_daysTillLost_56 ⟨Nat.le_of_ble_eq_true rfl, Nat.le_of_ble_eq_true rfl⟩) hS (fun q _ h => hFc q h) hFc (fun r56 u9 t9 H1 locs ht9 hvm9 hr56 hB9 hz9 hk9 hS => ?_)
            obtain ⟨o56_nrowf, o56_nFOknown, o56_nFOstack, so56_nrowf_0, hP1, hD1⟩ := hB9
            rw [ht9] at hP1
            obtain ⟨hP, hD⟩ := va_join (wr := [((aME 1), .inl (cI, 32, .inl ME_now))]) (w1 := [((aME 2), .inl (cI, 32, .inl o56_nrowf)), (ME, .inr (3, oX3 FL aME ME_oldest ME_done ME_undone)), (FL, .inr (0, oX0 PL aFL FL_parting)), (PL, .inr (5, oX5 FO aPL PL_rooms PL_doors PL_things PL_draw PL_drawTold)), (FO, .inr (1, oX1 aFO FO_size FO_units FO_told)), ((aPL 11), .inl (cI, 6, .inl PL_us)), ((aPL 12), .inl (cI, 6, .inl PL_them)), ((aFL 2), .inl (cI, 64, .inl FL_far)), ((aFO 2), .inl (cI, 5, .inl o56_nFOknown)), ((aFO 0), .inl (cI, 400, .inl FO_steps)), ((aFO 1), .inl (cI, 61, .inl o56_nFOstack))]) hP hD [4, 0, 1, 2, 5, 6, 7, 8, 9, 10, 11] [3] rfl rfl (by decide) (by decide) hk9 hFc hP1 hD1
            clear hz9 hPc hDc hP1 hD1 hk9 hFc ht9 hvm9 u9 t9
            generalize H1 = H at hP hS ⊢
            replace hP : va_P D classes [(ME, .inr (3, oX3 FL aME ME_oldest ME_done ME_undone)), (FL, .inr (0, oX0 PL aFL FL_parting)), (PL, .inr (5, oX5 FO aPL PL_rooms PL_doors PL_things PL_draw PL_drawTold)), ((aME 1), .inl (cI, 32, .inl ME_now)), ((aME 2), .inl (cI, 32, .inl o56_nrowf)), (FO, .inr (1, oX1 aFO FO_size FO_units FO_told)), ((aPL 11), .inl (cI, 6, .inl PL_us)), ((aPL 12), .inl (cI, 6, .inl PL_them)), ((aFL 2), .inl (cI, 64, .inl FL_far)), ((aFO 2), .inl (cI, 5, .inl o56_nFOknown)), ((aFO 0), .inl (cI, 400, .inl FO_steps)), ((aFO 1), .inl (cI, 61, .inl o56_nFOstack))] H := hP.sub [2, 3, 4, 0, 1, 5, 6, 7, 8, 9, 10, 11] rfl
            replace hD : va_D A [(ME, .inr (3, oX3 FL aME ME_oldest ME_done ME_undone)), (FL, .inr (0, oX0 PL aFL FL_parting)), (PL, .inr (5, oX5 FO aPL PL_rooms PL_doors PL_things PL_draw PL_drawTold)), ((aME 1), .inl (cI, 32, .inl ME_now)), ((aME 2), .inl (cI, 32, .inl o56_nrowf)), (FO, .inr (1, oX1 aFO FO_size FO_units FO_told)), ((aPL 11), .inl (cI, 6, .inl PL_us)), ((aPL 12), .inl (cI, 6, .inl PL_them)), ((aFL 2), .inl (cI, 64, .inl FL_far)), ((aFO 2), .inl (cI, 5, .inl o56_nFOknown)), ((aFO 0), .inl (cI, 400, .inl FO_steps)), ((aFO 1), .inl (cI, 61, .inl o56_nFOstack))] := hD.sub [2, 3, 4, 0, 1, 5, 6, 7, 8, 9, 10, 11] (by decide) rfl
            refine lv_pop hx hb dX3_daysTillLost_59 rfl ?_
            obtain ⟨y60, by60, ry60, ey60⟩ := zi_inc (x := v32_1) (k := 1) (a := 1) (b := 61) bx35f_v32_1 (by decide) (by decide) (by decide) (by decide) (by decide)
            refine lv_iinc (v := y60) (lv' := [(1, .int y60), (0, .ref ME)]) hx hb dX3_daysTillLost_60 hl (k := 0) rfl ey60 (by decide) rfl (fun ls hl => ?_)
            refine lv_goto (tgt := 32) hx hb dX3_daysTillLost_63 (by decide) ?_
            exact ih32 H locs ls y60 o56_nrowf o56_nFOknown o56_nFOstack (zB_w by60 (by decide) (by decide)) sME_now_0_k32 so56_nrowf_0 sFL_far_0_k32 (zM_us (k := 1) hm32 ry60 (by decide)) hP hD hS (lv_sub hl [0, 1] rfl)
          · have be46f_r43 : zB r43 0 0 := zB_eq c46 hr43 (show zB 0 0 0 from ⟨by decide, by decide⟩) (by decide) (by decide)
            refine lv_iload_n hx hb dX3_daysTillLost_49 rfl (lv_at hl 0 rfl) ?_
            exact up _ _ _ (W.iret (v := v32_1) hx hb hr (fun t ht hW => ⟨⟨v32_1, (), rfl, (zB_w bx35f_v32_1 (by decide) (by decide)), ⟨g32_aME2, g32_aFO2, g32_aFO1, sg32_aME2_0_k32, by rw [ht]; exact hP, hD⟩⟩, hS.F ht⟩) hS.2.2 dX3_daysTillLost_50)
    refine lv_istore_n (lv' := [(1, .int 0), (0, .ref ME)]) hx hb dX3_daysTillLost_31 rfl hl (by decide) rfl (fun ls hl => ?_)
    exact j32 62 H locs ls 0 g27 FO_known FO_stack (zB_w (show zB 0 0 0 from ⟨by decide, by decide⟩) (by decide) (by decide)) s_ME_now_0 sg27 s_FL_far_0 (zM_ui (show zB 0 0 0 from ⟨by decide, by decide⟩) (by decide)) hP hD hS (lv_sub hl [0, 1] rfl)
  · have be10f_PL_things : zB PL_things 0 0 := zB_eq c10 b_PL_things (show zB 0 0 0 from ⟨by decide, by decide⟩) (by decide) (by decide)
    refine lv_iconst (v := (-1)) hx hb dX3_daysTillLost_13 (by decide) ?_
    exact up _ _ _ (W.iret (v := (-1)) hx hb hr (fun t ht hW => ⟨⟨(-1), (), rfl, (zB_w (show zB (-1) (-1) (-1) from ⟨by decide, by decide⟩) (by decide) (by decide)), ⟨ME_ahead, FO_known, FO_stack, s_ME_ahead_0, by rw [ht]; exact hP, hD⟩⟩, hS.F ht⟩) hS.2.2 dX3_daysTillLost_14)
set_option maxHeartbeats 4000000 in
set_option maxRecDepth 100000 in
theorem c_X3_thoughtBehind (l : Launch) (D : va_G) (cI : ClassId) (cB : ClassId) (cL : ClassId) (cZ : ClassId) (cG : ClassId) (ME : Nat) (x0 : Int32) (x1 : Int32) (FL : Nat) (aME : Nat → Nat) (ME_oldest : Int32) (ME_done : Int32) (ME_undone : Int32) (ME_now : Nat → Int32) (ME_ahead : Nat → Int32) (PL : Nat) (aFL : Nat → Nat) (FL_parting : Int32) (PL_rooms : Int32) (aPL : Nat → Nat) (PL_doors : Int32) (PL_things : Int32) (FO : Nat) (PL_draw : Int32) (PL_drawTold : Int32) (aFO : Nat → Nat) (FO_size : Int32) (FO_units : Int32) (FO_told : Int32) (PL_us : Nat → Int32) (PL_them : Nat → Int32) (FL_far : Nat → Int32) (FO_known : Nat → Int32) (FO_steps : Nat → Int32) (FO_stack : Nat → Int32) (sz : Nat) (b_x0 : zB x0 0 5) (b_x1 : zB x1 0 60) (b_ME_oldest : zB ME_oldest 0 40) (b_ME_done : zB ME_done 0 40) (b_ME_undone : zB ME_undone 0 40) (b_PL_rooms : zB PL_rooms 0 8) (b_PL_doors : zB PL_doors 0 12) (b_PL_things : zB PL_things 0 6) (b_FO_size : zB FO_size 0 400) (s_ME_now_0 : zA ME_now 0 12 0 7) (s_ME_ahead_0 : zA ME_ahead 0 12 0 7) (s_FL_far_0 : zA FL_far 0 64 (-1) 7) : Met l yX3_thoughtBehind wsX3_thoughtBehind ({ frames := 4, cells := 0, slots := 0, locals := 93 }) (xp D [(cI, .int), (cB, .byte), (cL, .long), (cZ, .boolean), (cG, .array .int)] [(ME, .inr (3, oX3 FL aME ME_oldest ME_done ME_undone)), ((aME 1), .inl (cI, 32, .inl ME_now)), ((aME 2), .inl (cI, 32, .inl ME_ahead)), (FL, .inr (0, oX0 PL aFL FL_parting)), (PL, .inr (5, oX5 FO aPL PL_rooms PL_doors PL_things PL_draw PL_drawTold)), (FO, .inr (1, oX1 aFO FO_size FO_units FO_told)), ((aPL 11), .inl (cI, 6, .inl PL_us)), ((aPL 12), .inl (cI, 6, .inl PL_them)), ((aFL 2), .inl (cI, 64, .inl FL_far)), ((aFO 2), .inl (cI, 5, .inl FO_known)), ((aFO 0), .inl (cI, 400, .inl FO_steps)), ((aFO 1), .inl (cI, 61, .inl FO_stack))] sz [] [.ref ME, .int x0, .int x1]) (va_Qi (fun (r : Int32) (_ : Unit) => zB r 0 7) (fun (_ : Unit) (t : State) => ∃ (nMEahead : Nat → Int32), ∃ (nFOknown : Nat → Int32), ∃ (nFOstack : Nat → Int32), zA nMEahead 0 12 0 7 ∧ xB D (va_A [(ME, .inr (3, oX3 FL aME ME_oldest ME_done ME_undone)), ((aME 1), .inl (cI, 32, .inl ME_now)), ((aME 2), .inl (cI, 32, .inl ME_ahead)), (FL, .inr (0, oX0 PL aFL FL_parting)), (PL, .inr (5, oX5 FO aPL PL_rooms PL_doors PL_things PL_draw PL_drawTold)), (FO, .inr (1, oX1 aFO FO_size FO_units FO_told)), ((aPL 11), .inl (cI, 6, .inl PL_us)), ((aPL 12), .inl (cI, 6, .inl PL_them)), ((aFL 2), .inl (cI, 64, .inl FL_far)), ((aFO 2), .inl (cI, 5, .inl FO_known)), ((aFO 0), .inl (cI, 400, .inl FO_steps)), ((aFO 1), .inl (cI, 61, .inl FO_stack))] sz) [(ME, .inr (3, oX3 FL aME ME_oldest ME_done ME_undone)), ((aME 1), .inl (cI, 32, .inl ME_now)), ((aME 2), .inl (cI, 32, .inl nMEahead)), (FL, .inr (0, oX0 PL aFL FL_parting)), (PL, .inr (5, oX5 FO aPL PL_rooms PL_doors PL_things PL_draw PL_drawTold)), (FO, .inr (1, oX1 aFO FO_size FO_units FO_told)), ((aPL 11), .inl (cI, 6, .inl PL_us)), ((aPL 12), .inl (cI, 6, .inl PL_them)), ((aFL 2), .inl (cI, 64, .inl FL_far)), ((aFO 2), .inl (cI, 5, .inl nFOknown)), ((aFO 0), .inl (cI, 400, .inl FO_steps)), ((aFO 1), .inl (cI, 61, .inl nFOstack))] t) (va_A [(ME, .inr (3, oX3 FL aME ME_oldest ME_done ME_undone)), ((aME 1), .inl (cI, 32, .inl ME_now)), ((aME 2), .inl (cI, 32, .inl ME_ahead)), (FL, .inr (0, oX0 PL aFL FL_parting)), (PL, .inr (5, oX5 FO aPL PL_rooms PL_doors PL_things PL_draw PL_drawTold)), (FO, .inr (1, oX1 aFO FO_size FO_units FO_told)), ((aPL 11), .inl (cI, 6, .inl PL_us)), ((aPL 12), .inl (cI, 6, .inl PL_them)), ((aFL 2), .inl (cI, 64, .inl FL_far)), ((aFO 2), .inl (cI, 5, .inl FO_known)), ((aFO 0), .inl (cI, 400, .inl FO_steps)), ((aFO 1), .inl (cI, 61, .inl FO_stack))] sz)) 0 0 (va_A [(ME, .inr (3, oX3 FL aME ME_oldest ME_done ME_undone)), ((aME 1), .inl (cI, 32, .inl ME_now)), ((aME 2), .inl (cI, 32, .inl ME_ahead)), (FL, .inr (0, oX0 PL aFL FL_parting)), (PL, .inr (5, oX5 FO aPL PL_rooms PL_doors PL_things PL_draw PL_drawTold)), (FO, .inr (1, oX1 aFO FO_size FO_units FO_told)), ((aPL 11), .inl (cI, 6, .inl PL_us)), ((aPL 12), .inl (cI, 6, .inl PL_them)), ((aFL 2), .inl (cI, 64, .inl FL_far)), ((aFO 2), .inl (cI, 5, .inl FO_known)), ((aFO 0), .inl (cI, 400, .inl FO_steps)), ((aFO 1), .inl (cI, 61, .inl FO_stack))] sz) := by
  refine Met.ofW (cc := cX3_thoughtBehind) (maxL := 4) (ret := (some .int)) (by decide) rfl ?_
  intro p e s m args below meth c s₁ B hml hv
  obtain ⟨rfl, hsz, hP, hK, hD0, hNw⟩ := hv
  have hx := B.exec
  have hb := B.bytes
  have hr := B.returns
  have hts := atoms_spec (ws := wsX3_thoughtBehind) B.pre
  have hown : s.vm.findClass RX3 = some m.cls := findClass_of_methodNamed B.named
  have hlocks := B.notSynchronized
  clear B
  subst hsz
  have hD := hD0.self (sz := s.heap.size)
  clear hD0 hNw
  generalize hAe : va_A [(ME, .inr (3, oX3 FL aME ME_oldest ME_done ME_undone)), ((aME 1), .inl (cI, 32, .inl ME_now)), ((aME 2), .inl (cI, 32, .inl ME_ahead)), (FL, .inr (0, oX0 PL aFL FL_parting)), (PL, .inr (5, oX5 FO aPL PL_rooms PL_doors PL_things PL_draw PL_drawTold)), (FO, .inr (1, oX1 aFO FO_size FO_units FO_told)), ((aPL 11), .inl (cI, 6, .inl PL_us)), ((aPL 12), .inl (cI, 6, .inl PL_them)), ((aFL 2), .inl (cI, 64, .inl FL_far)), ((aFO 2), .inl (cI, 5, .inl FO_known)), ((aFO 0), .inl (cI, 400, .inl FO_steps)), ((aFO 1), .inl (cI, 61, .inl FO_stack))] s.heap.size = A at hD ⊢
  have hA : ∀ q : Nat, s.heap.size ≤ q → A q := fun q h => by rw [← hAe]; exact Or.inr h
  have hS : va_S A s.heap s.heap [] := va_S.rf
  clear hAe
  obtain ⟨H, hH⟩ : ∃ H : Heap, H = s.heap := ⟨_, rfl⟩
  obtain ⟨locs, hlocs⟩ : ∃ L : List Loc, L = [] := ⟨_, rfl⟩
  replace hP : va_P D classes [(ME, .inr (3, oX3 FL aME ME_oldest ME_done ME_undone)), ((aME 1), .inl (cI, 32, .inl ME_now)), ((aME 2), .inl (cI, 32, .inl ME_ahead)), (FL, .inr (0, oX0 PL aFL FL_parting)), (PL, .inr (5, oX5 FO aPL PL_rooms PL_doors PL_things PL_draw PL_drawTold)), (FO, .inr (1, oX1 aFO FO_size FO_units FO_told)), ((aPL 11), .inl (cI, 6, .inl PL_us)), ((aPL 12), .inl (cI, 6, .inl PL_them)), ((aFL 2), .inl (cI, 64, .inl FL_far)), ((aFO 2), .inl (cI, 5, .inl FO_known)), ((aFO 0), .inl (cI, 400, .inl FO_steps)), ((aFO 1), .inl (cI, 61, .inl FO_stack))] H := by rw [hH]; exact hP
  replace hS : va_S A s.heap H locs := by rw [hH, hlocs]; exact hS
  rw [← hH, ← hlocs]
  clear hlocs hH
  have hl := lv_entry ([.ref ME, .int x0, .int x1]) (n := 4) (Nat.le_of_ble_eq_true rfl)
  rw [lg_entry_eq]
  generalize (lg_sl ([.ref ME, .int x0, .int x1]) ++ List.replicate (4 - (lg_sl ([.ref ME, .int x0, .int x1])).length) Slot.unset).toArray = ls at hl ⊢
  replace hl : lv_has ls 4 [(0, .ref ME), (1, .int x0), (2, .int x1)] := hl
  refine zz_abs (R := ({ frames := 4, cells := 0, slots := 0, locals := 93 } : Room)) (fun Q up => ?_)
  refine lv_aload_n hx hb dX3_thoughtBehind_0 rfl (lv_at hl 0 rfl) ?_
  refine va_get (D := D) (ci := 3) (v := .ref (aME 1)) (C := RX3) (T := TX3) (N := 9) hx hb hts iw_X3_thoughtBehind_X3 hown hK hP 0 rfl rfl 1 (by decide) (hts (.fieldLink RX3 11 "SoldHouse$Memory" "now" "[I") (List.mem_of_getElem? (i := 1) rfl)) (fun _ h9 => h9) rfl dX3_thoughtBehind_1 ?_
  refine lv_iconst (v := 0) hx hb dX3_thoughtBehind_4 (by decide) ?_
  refine lv_aload_n hx hb dX3_thoughtBehind_5 rfl (lv_at hl 0 rfl) ?_
  refine va_get (D := D) (ci := 3) (v := .ref (aME 2)) (C := RX3) (T := TX3) (N := 9) hx hb hts iw_X3_thoughtBehind_X3 hown hK hP 0 rfl rfl 2 (by decide) (hts (.fieldLink RX3 15 "SoldHouse$Memory" "ahead" "[I") (List.mem_of_getElem? (i := 2) rfl)) (fun _ h9 => h9) rfl dX3_thoughtBehind_6 ?_
  refine lv_iconst (v := 0) hx hb dX3_thoughtBehind_9 (by decide) ?_
  refine lv_bipush (v := 32) hx hb dX3_thoughtBehind_10 (by decide) ?_
  refine zi_copy hx hb (by rw [hml]; exact hl.1.symm) hown (hts (.methodLink RX3 115 arraycopyName) (List.mem_of_getElem? (i := 3) rfl)) (hts (.native arraycopyName) (List.mem_of_getElem? (i := 4) rfl)) (hts (.static arraycopyName) (List.mem_of_getElem? (i := 5) rfl)) (hts (.initialized "java/lang/System") (List.mem_of_getElem? (i := 6) rfl)) hK hP hD hS 1 2 rfl rfl rfl (Nat.le_of_ble_eq_true rfl) (Nat.le_of_ble_eq_true rfl) dX3_thoughtBehind_12 (fun H locs g12 e12 hP hD hS => ?_)
  have sg12 := zA_cpy e12 s_ME_now_0
  replace hP : va_P D classes [(ME, .inr (3, oX3 FL aME ME_oldest ME_done ME_undone)), ((aME 1), .inl (cI, 32, .inl ME_now)), ((aME 2), .inl (cI, 32, .inl g12)), (FL, .inr (0, oX0 PL aFL FL_parting)), (PL, .inr (5, oX5 FO aPL PL_rooms PL_doors PL_things PL_draw PL_drawTold)), (FO, .inr (1, oX1 aFO FO_size FO_units FO_told)), ((aPL 11), .inl (cI, 6, .inl PL_us)), ((aPL 12), .inl (cI, 6, .inl PL_them)), ((aFL 2), .inl (cI, 64, .inl FL_far)), ((aFO 2), .inl (cI, 5, .inl FO_known)), ((aFO 0), .inl (cI, 400, .inl FO_steps)), ((aFO 1), .inl (cI, 61, .inl FO_stack))] H := hP
  replace hD : va_D A [(ME, .inr (3, oX3 FL aME ME_oldest ME_done ME_undone)), ((aME 1), .inl (cI, 32, .inl ME_now)), ((aME 2), .inl (cI, 32, .inl g12)), (FL, .inr (0, oX0 PL aFL FL_parting)), (PL, .inr (5, oX5 FO aPL PL_rooms PL_doors PL_things PL_draw PL_drawTold)), (FO, .inr (1, oX1 aFO FO_size FO_units FO_told)), ((aPL 11), .inl (cI, 6, .inl PL_us)), ((aPL 12), .inl (cI, 6, .inl PL_them)), ((aFL 2), .inl (cI, 64, .inl FL_far)), ((aFO 2), .inl (cI, 5, .inl FO_known)), ((aFO 0), .inl (cI, 400, .inl FO_steps)), ((aFO 1), .inl (cI, 61, .inl FO_stack))] := hD
  clear e12
  refine lv_iconst (v := 0) hx hb dX3_thoughtBehind_15 (by decide) ?_
  have j17 : ∀ (n17 : Nat) (H : Heap) (locs : List Loc) (ls : Array Slot) (v17_3 : Int32) (g17_aME2 : Nat → Int32) (g17_aFO2 : Nat → Int32) (g17_aFO1 : Nat → Int32), zB v17_3 0 60 → zA ME_now 0 12 0 7 → zA g17_aME2 0 12 0 7 → zA FL_far 0 64 (-1) 7 → (60 + 1 - v17_3.toInt) ≤ (n17 : Int) → va_P D classes [(ME, .inr (3, oX3 FL aME ME_oldest ME_done ME_undone)), ((aME 1), .inl (cI, 32, .inl ME_now)), ((aME 2), .inl (cI, 32, .inl g17_aME2)), (FL, .inr (0, oX0 PL aFL FL_parting)), (PL, .inr (5, oX5 FO aPL PL_rooms PL_doors PL_things PL_draw PL_drawTold)), (FO, .inr (1, oX1 aFO FO_size FO_units FO_told)), ((aPL 11), .inl (cI, 6, .inl PL_us)), ((aPL 12), .inl (cI, 6, .inl PL_them)), ((aFL 2), .inl (cI, 64, .inl FL_far)), ((aFO 2), .inl (cI, 5, .inl g17_aFO2)), ((aFO 0), .inl (cI, 400, .inl FO_steps)), ((aFO 1), .inl (cI, 61, .inl g17_aFO1))] H → va_D A [(ME, .inr (3, oX3 FL aME ME_oldest ME_done ME_undone)), ((aME 1), .inl (cI, 32, .inl ME_now)), ((aME 2), .inl (cI, 32, .inl g17_aME2)), (FL, .inr (0, oX0 PL aFL FL_parting)), (PL, .inr (5, oX5 FO aPL PL_rooms PL_doors PL_things PL_draw PL_drawTold)), (FO, .inr (1, oX1 aFO FO_size FO_units FO_told)), ((aPL 11), .inl (cI, 6, .inl PL_us)), ((aPL 12), .inl (cI, 6, .inl PL_them)), ((aFL 2), .inl (cI, 64, .inl FL_far)), ((aFO 2), .inl (cI, 5, .inl g17_aFO2)), ((aFO 0), .inl (cI, 400, .inl FO_steps)), ((aFO 1), .inl (cI, 61, .inl g17_aFO1))] → va_S A s.heap H locs → lv_has ls 4 [(3, .int v17_3), (0, .ref ME), (1, .int x0), (2, .int x1)] → W p l e ({ frames := 4, cells := 0, slots := 0, locals := 93 } : Room) s m ([.ref ME, .int x0, .int x1] : List Value).toArray below meth c H locs 0 0 Q (F0 m 17 ls []) := by
    intro n17
    induction n17 with
    | zero => intro H locs ls v17_3 g17_aME2 g17_aFO2 g17_aFO1 bv17_3_k17 sME_now_0_k17 sg17_aME2_0_k17 sFL_far_0_k17 hm17 hP hD hS hl; exact zM_u0 bv17_3_k17 hm17
    | succ n17 ih17 =>
      intro H locs ls v17_3 g17_aME2 g17_aFO2 g17_aFO1 bv17_3_k17 sME_now_0_k17 sg17_aME2_0_k17 sFL_far_0_k17 hm17 hP hD hS hl
      refine lv_iload_n hx hb dX3_thoughtBehind_17 rfl (lv_at hl 0 rfl) ?_
      refine lv_iload_n hx hb dX3_thoughtBehind_18 rfl (lv_at hl 3 rfl) ?_
      refine lv_icmp_ge (tgt := 37) hx hb dX3_thoughtBehind_19 (by decide) (fun c19 => ?_) (fun c19 => ?_)
      · refine lv_aload_n hx hb dX3_thoughtBehind_37 rfl (lv_at hl 1 rfl) ?_
        refine va_get (D := D) (ci := 3) (v := .ref (aME 2)) (C := RX3) (T := TX3) (N := 9) hx hb hts iw_X3_thoughtBehind_X3 hown hK hP 0 rfl rfl 2 (by decide) (hts (.fieldLink RX3 15 "SoldHouse$Memory" "ahead" "[I") (List.mem_of_getElem? (i := 2) rfl)) (fun _ h9 => h9) rfl dX3_thoughtBehind_38 ?_
        refine lv_bipush (v := 6) hx hb dX3_thoughtBehind_41 (by decide) ?_
        refine lv_iload_n hx hb dX3_thoughtBehind_43 rfl (lv_at hl 2 rfl) ?_
        refine lv_iadd hx hb dX3_thoughtBehind_44 ?_
        refine zi_top (a := 6) (b := 11) (zB_add (show zB 6 6 6 from ⟨by decide, by decide⟩) b_x0 (by decide) (by decide) (by decide) (by decide)) (fun y44 by44 => ?_)
        refine va_iald hx hb hK hP 2 0 rfl rfl (zB_in by44 (by decide) (by decide)) dX3_thoughtBehind_45 ?_
        refine zi_top (a := 0) (b := 7) (zA_at sg17_aME2_0_k17 by44 (by decide) (by decide)) (fun y45 by45 => ?_)
        exact up _ _ _ (W.iret (v := y45) hx hb hr (fun t ht hW => ⟨⟨y45, (), rfl, by45, ⟨g17_aME2, g17_aFO2, g17_aFO1, sg17_aME2_0_k17, by rw [ht]; exact hP, hD⟩⟩, hS.F ht⟩) hS.2.2 dX3_thoughtBehind_46)
      · have bx19f_v17_3 : zB v17_3 0 59 := zB_ltu (zf c19) bv17_3_k17 b_x1 (by decide)
        have by19f_x1 : zB x1 1 60 := zB_ltv (zf c19) bx19f_v17_3 b_x1 (by decide)
        refine lv_aload_n hx hb dX3_thoughtBehind_22 rfl (lv_at hl 1 rfl) ?_
        refine lv_aload_n hx hb dX3_thoughtBehind_23 rfl (lv_at hl 1 rfl) ?_
        refine va_get (D := D) (ci := 3) (v := .ref (aME 2)) (C := RX3) (T := TX3) (N := 9) hx hb hts iw_X3_thoughtBehind_X3 hown hK hP 0 rfl rfl 2 (by decide) (hts (.fieldLink RX3 15 "SoldHouse$Memory" "ahead" "[I") (List.mem_of_getElem? (i := 2) rfl)) (fun _ h9 => h9) rfl dX3_thoughtBehind_24 ?_
        have hPc := hP.sub (ws' := [((aME 2), .inl (cI, 32, .inl g17_aME2)), (ME, .inr (3, oX3 FL aME ME_oldest ME_done ME_undone)), (FL, .inr (0, oX0 PL aFL FL_parting)), (PL, .inr (5, oX5 FO aPL PL_rooms PL_doors PL_things PL_draw PL_drawTold)), (FO, .inr (1, oX1 aFO FO_size FO_units FO_told)), ((aPL 11), .inl (cI, 6, .inl PL_us)), ((aPL 12), .inl (cI, 6, .inl PL_them)), ((aFL 2), .inl (cI, 64, .inl FL_far)), ((aFO 2), .inl (cI, 5, .inl g17_aFO2)), ((aFO 0), .inl (cI, 400, .inl FO_steps)), ((aFO 1), .inl (cI, 61, .inl g17_aFO1))]) [2, 0, 3, 4, 5, 6, 7, 8, 9, 10, 11] rfl
        have hDc := hD.sub (ws' := [((aME 2), .inl (cI, 32, .inl g17_aME2)), (ME, .inr (3, oX3 FL aME ME_oldest ME_done ME_undone)), (FL, .inr (0, oX0 PL aFL FL_parting)), (PL, .inr (5, oX5 FO aPL PL_rooms PL_doors PL_things PL_draw PL_drawTold)), (FO, .inr (1, oX1 aFO FO_size FO_units FO_told)), ((aPL 11), .inl (cI, 6, .inl PL_us)), ((aPL 12), .inl (cI, 6, .inl PL_them)), ((aFL 2), .inl (cI, 64, .inl FL_far)), ((aFO 2), .inl (cI, 5, .inl g17_aFO2)), ((aFO 0), .inl (cI, 400, .inl FO_steps)), ((aFO 1), .inl (cI, 61, .inl g17_aFO1))]) [2, 0, 3, 4, 5, 6, 7, 8, 9, 10, 11] (by decide) rfl
        have hFc := va_free (wc := [((aME 2), .inl (cI, 32, .inl g17_aME2)), (ME, .inr (3, oX3 FL aME ME_oldest ME_done ME_undone)), (FL, .inr (0, oX0 PL aFL FL_parting)), (PL, .inr (5, oX5 FO aPL PL_rooms PL_doors PL_things PL_draw PL_drawTold)), (FO, .inr (1, oX1 aFO FO_size FO_units FO_told)), ((aPL 11), .inl (cI, 6, .inl PL_us)), ((aPL 12), .inl (cI, 6, .inl PL_them)), ((aFL 2), .inl (cI, 64, .inl FL_far)), ((aFO 2), .inl (cI, 5, .inl g17_aFO2)), ((aFO 0), .inl (cI, 400, .inl FO_steps)), ((aFO 1), .inl (cI, 61, .inl g17_aFO1))]) hD hS hA [2, 0, 3, 4, 5, 6, 7, 8, 9, 10, 11] rfl
        refine va_calli (va_runV (As := [.ref (aME 2)]) (rest := []) ⟨hx, hb, hml, hown, hts⟩ (c_X3_passDay l D cI cB cL cZ cG ME (aME 2) g17_aME2 FL aME ME_oldest ME_done ME_undone PL aFL FL_parting PL_rooms aPL PL_doors PL_things FO PL_draw PL_drawTold aFO FO_size FO_units FO_told PL_us PL_them FL_far g17_aFO2 FO_steps g17_aFO1 H.size b_ME_oldest b_ME_done b_ME_undone b_PL_rooms b_PL_doors b_PL_things b_FO_size sg17_aME2_0_k17 sFL_far_0_k17) (cwV 1 hts gX3_thoughtBehind_X3_passDay rfl rfl rfl (by decide +kernel) ⟨Nat.le_of_ble_eq_true rfl, Nat.le_of_ble_eq_true rfl⟩) ⟨xp_blind, va_recv hK hP (ci := 3) (q0 := 0) rfl rfl, fun U hU hW => xp_mk hU hW hPc hK hDc xNw_nil⟩ rfl rfl hl.1 rfl (lv_room (Nat.le_of_ble_eq_true rfl)) dX3_thoughtBehind_27 ⟨Nat.le_of_ble_eq_true rfl, Nat.le_of_ble_eq_true rfl⟩) hS (fun q _ h => hFc q h) hFc (fun r27 u9 t9 H1 locs ht9 hvm9 hr27 hB9 hz9 hk9 hS => ?_)
        obtain ⟨o27_nrowf, o27_nFOknown, o27_nFOstack, so27_nrowf_0, hP1, hD1⟩ := hB9
        rw [ht9] at hP1
        obtain ⟨hP, hD⟩ := va_join (wr := [((aME 1), .inl (cI, 32, .inl ME_now))]) (w1 := [((aME 2), .inl (cI, 32, .inl o27_nrowf)), (ME, .inr (3, oX3 FL aME ME_oldest ME_done ME_undone)), (FL, .inr (0, oX0 PL aFL FL_parting)), (PL, .inr (5, oX5 FO aPL PL_rooms PL_doors PL_things PL_draw PL_drawTold)), (FO, .inr (1, oX1 aFO FO_size FO_units FO_told)), ((aPL 11), .inl (cI, 6, .inl PL_us)), ((aPL 12), .inl (cI, 6, .inl PL_them)), ((aFL 2), .inl (cI, 64, .inl FL_far)), ((aFO 2), .inl (cI, 5, .inl o27_nFOknown)), ((aFO 0), .inl (cI, 400, .inl FO_steps)), ((aFO 1), .inl (cI, 61, .inl o27_nFOstack))]) hP hD [2, 0, 3, 4, 5, 6, 7, 8, 9, 10, 11] [1] rfl rfl (by decide) (by decide) hk9 hFc hP1 hD1
        clear hz9 hPc hDc hP1 hD1 hk9 hFc ht9 hvm9 u9 t9
        generalize H1 = H at hP hS ⊢
        replace hP : va_P D classes [(ME, .inr (3, oX3 FL aME ME_oldest ME_done ME_undone)), ((aME 1), .inl (cI, 32, .inl ME_now)), ((aME 2), .inl (cI, 32, .inl o27_nrowf)), (FL, .inr (0, oX0 PL aFL FL_parting)), (PL, .inr (5, oX5 FO aPL PL_rooms PL_doors PL_things PL_draw PL_drawTold)), (FO, .inr (1, oX1 aFO FO_size FO_units FO_told)), ((aPL 11), .inl (cI, 6, .inl PL_us)), ((aPL 12), .inl (cI, 6, .inl PL_them)), ((aFL 2), .inl (cI, 64, .inl FL_far)), ((aFO 2), .inl (cI, 5, .inl o27_nFOknown)), ((aFO 0), .inl (cI, 400, .inl FO_steps)), ((aFO 1), .inl (cI, 61, .inl o27_nFOstack))] H := hP.sub [2, 0, 1, 3, 4, 5, 6, 7, 8, 9, 10, 11] rfl
        replace hD : va_D A [(ME, .inr (3, oX3 FL aME ME_oldest ME_done ME_undone)), ((aME 1), .inl (cI, 32, .inl ME_now)), ((aME 2), .inl (cI, 32, .inl o27_nrowf)), (FL, .inr (0, oX0 PL aFL FL_parting)), (PL, .inr (5, oX5 FO aPL PL_rooms PL_doors PL_things PL_draw PL_drawTold)), (FO, .inr (1, oX1 aFO FO_size FO_units FO_told)), ((aPL 11), .inl (cI, 6, .inl PL_us)), ((aPL 12), .inl (cI, 6, .inl PL_them)), ((aFL 2), .inl (cI, 64, .inl FL_far)), ((aFO 2), .inl (cI, 5, .inl o27_nFOknown)), ((aFO 0), .inl (cI, 400, .inl FO_steps)), ((aFO 1), .inl (cI, 61, .inl o27_nFOstack))] := hD.sub [2, 0, 1, 3, 4, 5, 6, 7, 8, 9, 10, 11] (by decide) rfl
        refine lv_pop hx hb dX3_thoughtBehind_30 rfl ?_
        obtain ⟨y31, by31, ry31, ey31⟩ := zi_inc (x := v17_3) (k := 1) (a := 1) (b := 60) bx19f_v17_3 (by decide) (by decide) (by decide) (by decide) (by decide)
        refine lv_iinc (v := y31) (lv' := [(3, .int y31), (0, .ref ME), (1, .int x0), (2, .int x1)]) hx hb dX3_thoughtBehind_31 hl (k := 0) rfl ey31 (by decide) rfl (fun ls hl => ?_)
        refine lv_goto (tgt := 17) hx hb dX3_thoughtBehind_34 (by decide) ?_
        exact ih17 H locs ls y31 o27_nrowf o27_nFOknown o27_nFOstack (zB_w by31 (by decide) (by decide)) sME_now_0_k17 so27_nrowf_0 sFL_far_0_k17 (zM_us (k := 1) hm17 ry31 (by decide)) hP hD hS (lv_sub hl [0, 1, 2, 3] rfl)
  refine lv_istore_n (lv' := [(3, .int 0), (0, .ref ME), (1, .int x0), (2, .int x1)]) hx hb dX3_thoughtBehind_16 rfl hl (by decide) rfl (fun ls hl => ?_)
  exact j17 61 H locs ls 0 g12 FO_known FO_stack (zB_w (show zB 0 0 0 from ⟨by decide, by decide⟩) (by decide) (by decide)) s_ME_now_0 sg12 s_FL_far_0 (zM_ui (show zB 0 0 0 from ⟨by decide, by decide⟩) (by decide)) hP hD hS (lv_sub hl [0, 1, 2, 3] rfl)
set_option maxHeartbeats 4000000 in
set_option maxRecDepth 100000 in
theorem c_X10_mostPairs_6 (l : Launch) (D : va_G) (cI : ClassId) (cB : ClassId) (cL : ClassId) (cZ : ClassId) (cG : ClassId) (TR : Nat) (x1 : Int32) (ME : Nat) (FL : Nat) (aME : Nat → Nat) (ME_oldest : Int32) (ME_done : Int32) (ME_undone : Int32) (PL : Nat) (aFL : Nat → Nat) (FL_parting : Int32) (PL_rooms : Int32) (aPL : Nat → Nat) (PL_doors : Int32) (PL_things : Int32) (FO : Nat) (PL_draw : Int32) (PL_drawTold : Int32) (b_ME_oldest : zB ME_oldest 0 40) (b_ME_done : zB ME_done 0 40) (b_ME_undone : zB ME_undone 0 40) (b_PL_rooms : zB PL_rooms 0 8) (b_PL_doors : zB PL_doors 0 12) (b_PL_things : zB PL_things 0 6) : Met l yX10_mostPairs wsX10_mostPairs ({ frames := 0, cells := 0, slots := 0, locals := 0 }) (xr D [(cI, .int), (cB, .byte), (cL, .long), (cZ, .boolean), (cG, .array .int)] [(TR, .inr (10, oX10 ME)), (ME, .inr (3, oX3 FL aME ME_oldest ME_done ME_undone)), (FL, .inr (0, oX0 PL aFL FL_parting)), (PL, .inr (5, oX5 FO aPL PL_rooms PL_doors PL_things PL_draw PL_drawTold))] [.ref TR, .int 6, .int x1]) (vp_Si (fun r => zB r 0 0)) 0 0 (fun _ => False) := by
  refine Met.ofW (cc := cX10_mostPairs) (maxL := 6) (ret := (some .int)) (by decide) rfl ?_
  intro p e s m args below meth c s₁ B hml hv
  obtain ⟨rfl, hP, hK⟩ := hv
  have hx := B.exec
  have hb := B.bytes
  have hr := B.returns
  have hts := atoms_spec (ws := wsX10_mostPairs) B.pre
  have hown : s.vm.findClass RX10 = some m.cls := findClass_of_methodNamed B.named
  have hlocks := B.notSynchronized
  clear B
  have hl := lv_entry ([.ref TR, .int 6, .int x1]) (n := 6) (Nat.le_of_ble_eq_true rfl)
  rw [lg_entry_eq]
  generalize (lg_sl ([.ref TR, .int 6, .int x1]) ++ List.replicate (6 - (lg_sl ([.ref TR, .int 6, .int x1])).length) Slot.unset).toArray = ls at hl ⊢
  replace hl : lv_has ls 6 [(0, .ref TR), (1, .int 6), (2, .int x1)] := hl
  refine zz_abs (R := ({ frames := 0, cells := 0, slots := 0, locals := 0 } : Room)) (fun Q up => ?_)
  refine lv_aload_n hx hb dX10_mostPairs_0 rfl (lv_at hl 0 rfl) ?_
  refine va_get (D := D) (ci := 10) (v := .ref ME) (C := RX10) (T := TX10) (N := 1) hx hb hts iw_X10_mostPairs_X10 hown hK hP 0 rfl rfl 0 (by decide) (hts (.fieldLink RX10 9 "SoldHouse$Trader" "memory" "LSoldHouse$Memory;") (List.mem_of_getElem? (i := 1) rfl)) (fun _ h9 => h9) rfl dX10_mostPairs_1 ?_
  refine va_get (D := D) (ci := 3) (v := .ref FL) (C := RX3) (T := TX3) (N := 9) hx hb hts iw_X10_mostPairs_X3 hown hK hP 1 rfl rfl 0 (by decide) (hts (.fieldLink RX10 15 "SoldHouse$Memory" "floor" "LSoldHouse$Floor;") (List.mem_of_getElem? (i := 2) rfl)) (fun _ h9 => h9) rfl dX10_mostPairs_4 ?_
  refine va_get (D := D) (ci := 0) (v := .ref PL) (C := RX0) (T := TX0) (N := 5) hx hb hts iw_X10_mostPairs_X0 hown hK hP 2 rfl rfl 0 (by decide) (hts (.fieldLink RX10 21 "SoldHouse$Floor" "plan" "LSoldHouse$Plan;") (List.mem_of_getElem? (i := 3) rfl)) (fun _ h9 => h9) rfl dX10_mostPairs_7 ?_
  refine va_get (D := D) (ci := 5) (v := .int PL_things) (C := RX5) (T := TX5) (N := 16) hx hb hts iw_X10_mostPairs_X5 hown hK hP 3 rfl rfl 6 (by decide) (hts (.fieldLink RX10 27 "SoldHouse$Plan" "things" "I") (List.mem_of_getElem? (i := 4) rfl)) (fun _ h9 => h9) rfl dX10_mostPairs_10 ?_
  refine lv_istore_n (lv' := [(3, .int PL_things), (0, .ref TR), (1, .int 6), (2, .int x1)]) hx hb dX10_mostPairs_13 rfl hl (by decide) rfl (fun ls hl => ?_)
  refine lv_iload_n hx hb dX10_mostPairs_14 rfl (lv_at hl 2 rfl) ?_
  refine lv_iload_n hx hb dX10_mostPairs_15 rfl (lv_at hl 0 rfl) ?_
  refine lv_icmp_lt (tgt := 21) hx hb dX10_mostPairs_16 (by decide) (fun c16 => ?_) (fun c16 => ?_)
  · have by16t_PL_things : zB PL_things 7 6 := zB_ltv (zl c16) (show zB 6 6 6 from ⟨by decide, by decide⟩) b_PL_things (by decide)
    exact zB_no by16t_PL_things (by decide)
  · refine lv_iconst (v := 0) hx hb dX10_mostPairs_19 (by decide) ?_
    exact up _ _ _ (W.iret (v := 0) hx hb hr (fun t ht hW => ⟨0, rfl, (show zB 0 0 0 from ⟨by decide, by decide⟩), ht⟩) (fun q hq => by cases hq) dX10_mostPairs_20)
set_option maxHeartbeats 4000000 in
set_option maxRecDepth 100000 in
theorem c_X10_mostPairs_5 (l : Launch) (D : va_G) (cI : ClassId) (cB : ClassId) (cL : ClassId) (cZ : ClassId) (cG : ClassId) (TR : Nat) (x1 : Int32) (ME : Nat) (FL : Nat) (aME : Nat → Nat) (ME_oldest : Int32) (ME_done : Int32) (ME_undone : Int32) (PL : Nat) (aFL : Nat → Nat) (FL_parting : Int32) (PL_rooms : Int32) (aPL : Nat → Nat) (PL_doors : Int32) (PL_things : Int32) (FO : Nat) (PL_draw : Int32) (PL_drawTold : Int32) (ME_now : Nat → Int32) (PL_us : Nat → Int32) (PL_them : Nat → Int32) (b_ME_oldest : zB ME_oldest 0 40) (b_ME_done : zB ME_done 0 40) (b_ME_undone : zB ME_undone 0 40) (b_PL_rooms : zB PL_rooms 0 8) (b_PL_doors : zB PL_doors 0 12) (b_PL_things : zB PL_things 0 6) (s_ME_now_0 : zA ME_now 0 12 0 7) : Met l yX10_mostPairs wsX10_mostPairs ({ frames := 2, cells := 0, slots := 0, locals := 45 }) (xr D [(cI, .int), (cB, .byte), (cL, .long), (cZ, .boolean), (cG, .array .int)] [(TR, .inr (10, oX10 ME)), (ME, .inr (3, oX3 FL aME ME_oldest ME_done ME_undone)), (FL, .inr (0, oX0 PL aFL FL_parting)), (PL, .inr (5, oX5 FO aPL PL_rooms PL_doors PL_things PL_draw PL_drawTold)), ((aME 1), .inl (cI, 32, .inl ME_now)), ((aPL 11), .inl (cI, 6, .inl PL_us)), ((aPL 12), .inl (cI, 6, .inl PL_them))] [.ref TR, .int 5, .int x1]) (vp_Si (fun r => zB r 0 1)) 0 0 (fun _ => False) := by
  refine Met.ofW (cc := cX10_mostPairs) (maxL := 6) (ret := (some .int)) (by decide) rfl ?_
  intro p e s m args below meth c s₁ B hml hv
  obtain ⟨rfl, hP, hK⟩ := hv
  have hx := B.exec
  have hb := B.bytes
  have hr := B.returns
  have hts := atoms_spec (ws := wsX10_mostPairs) B.pre
  have hown : s.vm.findClass RX10 = some m.cls := findClass_of_methodNamed B.named
  have hlocks := B.notSynchronized
  clear B
  have hl := lv_entry ([.ref TR, .int 5, .int x1]) (n := 6) (Nat.le_of_ble_eq_true rfl)
  rw [lg_entry_eq]
  generalize (lg_sl ([.ref TR, .int 5, .int x1]) ++ List.replicate (6 - (lg_sl ([.ref TR, .int 5, .int x1])).length) Slot.unset).toArray = ls at hl ⊢
  replace hl : lv_has ls 6 [(0, .ref TR), (1, .int 5), (2, .int x1)] := hl
  refine zz_abs (R := ({ frames := 2, cells := 0, slots := 0, locals := 45 } : Room)) (fun Q up => ?_)
  refine lv_aload_n hx hb dX10_mostPairs_0 rfl (lv_at hl 0 rfl) ?_
  refine va_get (D := D) (ci := 10) (v := .ref ME) (C := RX10) (T := TX10) (N := 1) hx hb hts iw_X10_mostPairs_X10 hown hK hP 0 rfl rfl 0 (by decide) (hts (.fieldLink RX10 9 "SoldHouse$Trader" "memory" "LSoldHouse$Memory;") (List.mem_of_getElem? (i := 1) rfl)) (fun _ h9 => h9) rfl dX10_mostPairs_1 ?_
  refine va_get (D := D) (ci := 3) (v := .ref FL) (C := RX3) (T := TX3) (N := 9) hx hb hts iw_X10_mostPairs_X3 hown hK hP 1 rfl rfl 0 (by decide) (hts (.fieldLink RX10 15 "SoldHouse$Memory" "floor" "LSoldHouse$Floor;") (List.mem_of_getElem? (i := 2) rfl)) (fun _ h9 => h9) rfl dX10_mostPairs_4 ?_
  refine va_get (D := D) (ci := 0) (v := .ref PL) (C := RX0) (T := TX0) (N := 5) hx hb hts iw_X10_mostPairs_X0 hown hK hP 2 rfl rfl 0 (by decide) (hts (.fieldLink RX10 21 "SoldHouse$Floor" "plan" "LSoldHouse$Plan;") (List.mem_of_getElem? (i := 3) rfl)) (fun _ h9 => h9) rfl dX10_mostPairs_7 ?_
  refine va_get (D := D) (ci := 5) (v := .int PL_things) (C := RX5) (T := TX5) (N := 16) hx hb hts iw_X10_mostPairs_X5 hown hK hP 3 rfl rfl 6 (by decide) (hts (.fieldLink RX10 27 "SoldHouse$Plan" "things" "I") (List.mem_of_getElem? (i := 4) rfl)) (fun _ h9 => h9) rfl dX10_mostPairs_10 ?_
  refine lv_istore_n (lv' := [(3, .int PL_things), (0, .ref TR), (1, .int 5), (2, .int x1)]) hx hb dX10_mostPairs_13 rfl hl (by decide) rfl (fun ls hl => ?_)
  refine lv_iload_n hx hb dX10_mostPairs_14 rfl (lv_at hl 2 rfl) ?_
  refine lv_iload_n hx hb dX10_mostPairs_15 rfl (lv_at hl 0 rfl) ?_
  refine lv_icmp_lt (tgt := 21) hx hb dX10_mostPairs_16 (by decide) (fun c16 => ?_) (fun c16 => ?_)
  · have by16t_PL_things : zB PL_things 6 6 := zB_ltv (zl c16) (show zB 5 5 5 from ⟨by decide, by decide⟩) b_PL_things (by decide)
    refine lv_aload_n hx hb dX10_mostPairs_21 rfl (lv_at hl 1 rfl) ?_
    refine lv_iload_n hx hb dX10_mostPairs_22 rfl (lv_at hl 2 rfl) ?_
    refine lv_iconst (v := 1) hx hb dX10_mostPairs_23 (by decide) ?_
    refine lv_iadd hx hb dX10_mostPairs_24 ?_
    refine lv_topi (fun y24 ey24 => ?_)
    obtain rfl : y24 = 6 := ey24.trans (by decide)
    refine lv_iload_n hx hb dX10_mostPairs_25 rfl (lv_at hl 3 rfl) ?_
    have hPc := hP.sub (ws' := [(TR, .inr (10, oX10 ME)), (ME, .inr (3, oX3 FL aME ME_oldest ME_done ME_undone)), (FL, .inr (0, oX0 PL aFL FL_parting)), (PL, .inr (5, oX5 FO aPL PL_rooms PL_doors PL_things PL_draw PL_drawTold))]) [0, 1, 2, 3] rfl
    refine vp_callSi (va_runV (As := [.int 6, .int x1]) (rest := []) ⟨hx, hb, hml, hown, hts⟩ (c_X10_mostPairs_6 l D cI cB cL cZ cG TR x1 ME FL aME ME_oldest ME_done ME_undone PL aFL FL_parting PL_rooms aPL PL_doors PL_things FO PL_draw PL_drawTold b_ME_oldest b_ME_done b_ME_undone b_PL_rooms b_PL_doors (zB_w by16t_PL_things (by decide) (by decide))) (cwV 2 hts gX10_mostPairs_X10_mostPairs rfl rfl rfl (by decide +kernel) ⟨Nat.le_of_ble_eq_true rfl, Nat.le_of_ble_eq_true rfl⟩) ⟨xr_blind, va_recv hK hP (ci := 10) (q0 := 0) rfl rfl, fun U hU hW => xr_mk hU hW hPc hK⟩ rfl rfl hl.1 rfl (lv_room (Nat.le_of_ble_eq_true rfl)) dX10_mostPairs_26 ⟨Nat.le_of_ble_eq_true rfl, Nat.le_of_ble_eq_true rfl⟩).run (fun r26 hr26 => ?_)
    clear hPc
    obtain rfl : r26 = 0 := zB_cst hr26 (by decide)
    refine lv_istore (lv' := [(4, .int 0), (3, .int PL_things), (0, .ref TR), (1, .int 5), (2, .int x1)]) hx hb dX10_mostPairs_29 hl (by decide) rfl (fun ls hl => ?_)
    refine lv_iconst (v := 0) hx hb dX10_mostPairs_31 (by decide) ?_
    have j34 : ∀ (n34 : Nat) (ls : Array Slot) (v34_5 : Int32) (v34_4 : Int32), zB v34_5 0 6 → zB v34_4 0 1 → zA ME_now 0 12 0 7 → (6 + 1 - v34_5.toInt) ≤ (n34 : Int) → lv_has ls 6 [(5, .int v34_5), (4, .int v34_4), (3, .int PL_things), (0, .ref TR), (1, .int 5), (2, .int x1)] → W p l e ({ frames := 2, cells := 0, slots := 0, locals := 45 } : Room) s m ([.ref TR, .int 5, .int x1] : List Value).toArray below meth c s.heap [] 0 0 Q (F0 m 34 ls []) := by
      intro n34
      induction n34 with
      | zero => intro ls v34_5 v34_4 bv34_5_k34 bv34_4_k34 sME_now_0_k34 hm34 hl; exact zM_u0 bv34_5_k34 hm34
      | succ n34 ih34 =>
        intro ls v34_5 v34_4 bv34_5_k34 bv34_4_k34 sME_now_0_k34 hm34 hl
        refine lv_iload hx hb dX10_mostPairs_34 (lv_at hl 0 rfl) ?_
        refine lv_iload_n hx hb dX10_mostPairs_36 rfl (lv_at hl 2 rfl) ?_
        refine lv_icmp_ge (tgt := 87) hx hb dX10_mostPairs_37 (by decide) (fun c37 => ?_) (fun c37 => ?_)
        · have by37t_v34_5 : zB v34_5 6 6 := zB_lev (ze c37) by16t_PL_things bv34_5_k34 (by decide)
          refine lv_iload hx hb dX10_mostPairs_87 (lv_at hl 1 rfl) ?_
          exact up _ _ _ (W.iret (v := v34_4) hx hb hr (fun t ht hW => ⟨v34_4, rfl, bv34_4_k34, ht⟩) (fun q hq => by cases hq) dX10_mostPairs_89)
        · have bx37f_v34_5 : zB v34_5 0 5 := zB_ltu (zf c37) bv34_5_k34 by16t_PL_things (by decide)
          refine lv_iload_n hx hb dX10_mostPairs_40 rfl (lv_at hl 5 rfl) ?_
          refine lv_iload hx hb dX10_mostPairs_41 (lv_at hl 0 rfl) ?_
          refine lv_ishr hx hb dX10_mostPairs_43 ?_
          refine lv_topi (fun y43 _ => ?_)
          refine lv_iconst (v := 1) hx hb dX10_mostPairs_44 (by decide) ?_
          refine lv_iand hx hb dX10_mostPairs_45 ?_
          refine zi_top (a := 0) (b := 1) (zB_andr (show zB 1 1 1 from ⟨by decide, by decide⟩) (by decide)) (fun y45 by45 => ?_)
          have j81 : ∀ (ls : Array Slot) (v81_4 : Int32), zB v81_4 0 1 → zA ME_now 0 12 0 7 → lv_has ls 6 [(5, .int v34_5), (4, .int v81_4), (3, .int PL_things), (0, .ref TR), (1, .int 5), (2, .int x1)] → W p l e ({ frames := 2, cells := 0, slots := 0, locals := 45 } : Room) s m ([.ref TR, .int 5, .int x1] : List Value).toArray below meth c s.heap [] 0 0 Q (F0 m 81 ls []) := by
            intro ls v81_4 bv81_4_k81 sME_now_0_k81 hl
            obtain ⟨y81, by81, ry81, ey81⟩ := zi_inc (x := v34_5) (k := 1) (a := 1) (b := 6) bx37f_v34_5 (by decide) (by decide) (by decide) (by decide) (by decide)
            refine lv_iinc (v := y81) (lv' := [(5, .int y81), (4, .int v81_4), (3, .int PL_things), (0, .ref TR), (1, .int 5), (2, .int x1)]) hx hb dX10_mostPairs_81 hl (k := 0) rfl ey81 (by decide) rfl (fun ls hl => ?_)
            refine lv_goto (tgt := 34) hx hb dX10_mostPairs_84 (by decide) ?_
            exact ih34 ls y81 v81_4 (zB_w by81 (by decide) (by decide)) bv81_4_k81 sME_now_0_k81 (zM_us (k := 1) hm34 ry81 (by decide)) (lv_sub hl [0, 1, 2, 3, 4, 5] rfl)
          refine lv_if_ne (tgt := 81) hx hb dX10_mostPairs_46 (by decide) (fun c46 => ?_) (fun c46 => ?_)
          · have bn46t_y45 : zB y45 1 1 := zB_neL c46 by45 (show zB 0 0 0 from ⟨by decide, by decide⟩) (by decide)
            exact j81 ls v34_4 bv34_4_k34 sME_now_0_k34 (lv_sub hl [0, 1, 2, 3, 4, 5] rfl)
          · have be46f_y45 : zB y45 0 0 := zB_eq c46 by45 (show zB 0 0 0 from ⟨by decide, by decide⟩) (by decide) (by decide)
            refine lv_aload_n hx hb dX10_mostPairs_49 rfl (lv_at hl 3 rfl) ?_
            refine lv_iload_n hx hb dX10_mostPairs_50 rfl (lv_at hl 4 rfl) ?_
            refine lv_iload hx hb dX10_mostPairs_51 (lv_at hl 0 rfl) ?_
            have hPc := hP.sub (ws' := [(TR, .inr (10, oX10 ME)), (ME, .inr (3, oX3 FL aME ME_oldest ME_done ME_undone)), (FL, .inr (0, oX0 PL aFL FL_parting)), (PL, .inr (5, oX5 FO aPL PL_rooms PL_doors PL_things PL_draw PL_drawTold)), ((aME 1), .inl (cI, 32, .inl ME_now)), ((aPL 11), .inl (cI, 6, .inl PL_us)), ((aPL 12), .inl (cI, 6, .inl PL_them))]) [0, 1, 2, 3, 4, 5, 6] rfl
            refine vp_callSi (va_runV (As := [.int 5, .int v34_5]) (rest := []) ⟨hx, hb, hml, hown, hts⟩ (c_X10_isFair l D cI cB cL cZ cG TR 5 v34_5 ME FL aME ME_oldest ME_done ME_undone PL aFL FL_parting PL_rooms aPL PL_doors PL_things FO PL_draw PL_drawTold ME_now PL_us PL_them (zB_w (show zB 5 5 5 from ⟨by decide, by decide⟩) (by decide) (by decide)) bx37f_v34_5 b_ME_oldest b_ME_done b_ME_undone b_PL_rooms b_PL_doors (zB_w by16t_PL_things (by decide) (by decide)) sME_now_0_k34) (cwV 2 hts gX10_mostPairs_X10_isFair rfl rfl rfl (by decide +kernel) ⟨Nat.le_of_ble_eq_true rfl, Nat.le_of_ble_eq_true rfl⟩) ⟨xr_blind, va_recv hK hP (ci := 10) (q0 := 0) rfl rfl, fun U hU hW => xr_mk hU hW hPc hK⟩ rfl rfl hl.1 rfl (lv_room (Nat.le_of_ble_eq_true rfl)) dX10_mostPairs_53 ⟨Nat.le_of_ble_eq_true rfl, Nat.le_of_ble_eq_true rfl⟩).run (fun r53 hr53 => ?_)
            clear hPc
            refine lv_if_eq (tgt := 81) hx hb dX10_mostPairs_56 (by decide) (fun c56 => ?_) (fun c56 => ?_)
            · have be56t_r53 : zB r53 0 0 := zB_eq c56 hr53 (show zB 0 0 0 from ⟨by decide, by decide⟩) (by decide) (by decide)
              exact j81 ls v34_4 bv34_4_k34 sME_now_0_k34 (lv_sub hl [0, 1, 2, 3, 4, 5] rfl)
            · have bn56f_r53 : zB r53 1 1 := zB_neL c56 hr53 (show zB 0 0 0 from ⟨by decide, by decide⟩) (by decide)
              refine lv_iload hx hb dX10_mostPairs_59 (lv_at hl 1 rfl) ?_
              refine lv_iconst (v := 1) hx hb dX10_mostPairs_61 (by decide) ?_
              refine lv_aload_n hx hb dX10_mostPairs_62 rfl (lv_at hl 3 rfl) ?_
              refine lv_iload_n hx hb dX10_mostPairs_63 rfl (lv_at hl 4 rfl) ?_
              refine lv_iconst (v := 1) hx hb dX10_mostPairs_64 (by decide) ?_
              refine lv_iadd hx hb dX10_mostPairs_65 ?_
              refine lv_topi (fun y65 ey65 => ?_)
              obtain rfl : y65 = 6 := ey65.trans (by decide)
              refine lv_iload_n hx hb dX10_mostPairs_66 rfl (lv_at hl 5 rfl) ?_
              refine lv_iconst (v := 1) hx hb dX10_mostPairs_67 (by decide) ?_
              refine lv_iload hx hb dX10_mostPairs_68 (lv_at hl 0 rfl) ?_
              refine lv_ishl hx hb dX10_mostPairs_70 ?_
              refine zi_top (a := 1) (b := 32) (zB_shl1 bx37f_v34_5 (by decide) (by decide) (by decide) (by decide)) (fun y70 by70 => ?_)
              refine lv_ior hx hb dX10_mostPairs_71 ?_
              refine lv_topi (fun y71 _ => ?_)
              have hPc := hP.sub (ws' := [(TR, .inr (10, oX10 ME)), (ME, .inr (3, oX3 FL aME ME_oldest ME_done ME_undone)), (FL, .inr (0, oX0 PL aFL FL_parting)), (PL, .inr (5, oX5 FO aPL PL_rooms PL_doors PL_things PL_draw PL_drawTold))]) [0, 1, 2, 3] rfl
              refine vp_callSi (va_runV (As := [.int 6, .int y71]) (rest := [.int 1, .int v34_4]) ⟨hx, hb, hml, hown, hts⟩ (c_X10_mostPairs_6 l D cI cB cL cZ cG TR y71 ME FL aME ME_oldest ME_done ME_undone PL aFL FL_parting PL_rooms aPL PL_doors PL_things FO PL_draw PL_drawTold b_ME_oldest b_ME_done b_ME_undone b_PL_rooms b_PL_doors (zB_w by16t_PL_things (by decide) (by decide))) (cwV 2 hts gX10_mostPairs_X10_mostPairs rfl rfl rfl (by decide +kernel) ⟨Nat.le_of_ble_eq_true rfl, Nat.le_of_ble_eq_true rfl⟩) ⟨xr_blind, va_recv hK hP (ci := 10) (q0 := 0) rfl rfl, fun U hU hW => xr_mk hU hW hPc hK⟩ rfl rfl hl.1 rfl (lv_room (Nat.le_of_ble_eq_true rfl)) dX10_mostPairs_72 ⟨Nat.le_of_ble_eq_true rfl, Nat.le_of_ble_eq_true rfl⟩).run (fun r72 hr72 => ?_)
              clear hPc
              obtain rfl : r72 = 0 := zB_cst hr72 (by decide)
              refine lv_iadd hx hb dX10_mostPairs_75 ?_
              refine lv_topi (fun y75 ey75 => ?_)
              obtain rfl : y75 = 1 := ey75.trans (by decide)
              refine va_mmax hx hb (by rw [hml]; exact hl.1.symm) hown (hts (.methodLink RX10 64 Lib.Math.max.name) (List.mem_of_getElem? (i := 5) rfl)) (hts (.static Lib.Math.max.name) (List.mem_of_getElem? (i := 6) rfl)) (hts (.initialized "java/lang/Math") (List.mem_of_getElem? (i := 7) rfl)) (hts (.code Lib.Math.max.name Lib.Math.max.code 2 (some .int)) (List.mem_of_getElem? (i := 8) rfl)) (Nat.le_of_ble_eq_true rfl) (Nat.le_of_ble_eq_true rfl) (Nat.le_of_ble_eq_true rfl) (Nat.le_of_ble_eq_true rfl) dX10_mostPairs_76 ?_
              refine zi_top (a := 1) (b := 1) (zB_max bv34_4_k34 (show zB 1 1 1 from ⟨by decide, by decide⟩) (by decide) (by decide)) (fun y76 by76 => ?_)
              refine lv_istore (lv' := [(4, .int y76), (5, .int v34_5), (3, .int PL_things), (0, .ref TR), (1, .int 5), (2, .int x1)]) hx hb dX10_mostPairs_79 hl (by decide) rfl (fun ls hl => ?_)
              exact j81 ls y76 (zB_w by76 (by decide) (by decide)) sME_now_0_k34 (lv_sub hl [1, 0, 2, 3, 4, 5] rfl)
    refine lv_istore (lv' := [(5, .int 0), (4, .int 0), (3, .int PL_things), (0, .ref TR), (1, .int 5), (2, .int x1)]) hx hb dX10_mostPairs_32 hl (by decide) rfl (fun ls hl => ?_)
    exact j34 7 ls 0 0 (zB_w (show zB 0 0 0 from ⟨by decide, by decide⟩) (by decide) (by decide)) (zB_w (show zB 0 0 0 from ⟨by decide, by decide⟩) (by decide) (by decide)) s_ME_now_0 (zM_ui (show zB 0 0 0 from ⟨by decide, by decide⟩) (by decide)) (lv_sub hl [0, 1, 2, 3, 4, 5] rfl)
  · have bx16f_PL_things : zB PL_things 0 5 := zB_leu (zg c16) b_PL_things (show zB 5 5 5 from ⟨by decide, by decide⟩) (by decide)
    refine lv_iconst (v := 0) hx hb dX10_mostPairs_19 (by decide) ?_
    exact up _ _ _ (W.iret (v := 0) hx hb hr (fun t ht hW => ⟨0, rfl, (zB_w (show zB 0 0 0 from ⟨by decide, by decide⟩) (by decide) (by decide)), ht⟩) (fun q hq => by cases hq) dX10_mostPairs_20)
set_option maxHeartbeats 4000000 in
set_option maxRecDepth 100000 in
theorem c_X10_mostPairs_4 (l : Launch) (D : va_G) (cI : ClassId) (cB : ClassId) (cL : ClassId) (cZ : ClassId) (cG : ClassId) (TR : Nat) (x1 : Int32) (ME : Nat) (FL : Nat) (aME : Nat → Nat) (ME_oldest : Int32) (ME_done : Int32) (ME_undone : Int32) (PL : Nat) (aFL : Nat → Nat) (FL_parting : Int32) (PL_rooms : Int32) (aPL : Nat → Nat) (PL_doors : Int32) (PL_things : Int32) (FO : Nat) (PL_draw : Int32) (PL_drawTold : Int32) (ME_now : Nat → Int32) (PL_us : Nat → Int32) (PL_them : Nat → Int32) (b_ME_oldest : zB ME_oldest 0 40) (b_ME_done : zB ME_done 0 40) (b_ME_undone : zB ME_undone 0 40) (b_PL_rooms : zB PL_rooms 0 8) (b_PL_doors : zB PL_doors 0 12) (b_PL_things : zB PL_things 0 6) (s_ME_now_0 : zA ME_now 0 12 0 7) : Met l yX10_mostPairs wsX10_mostPairs ({ frames := 3, cells := 0, slots := 0, locals := 70 }) (xr D [(cI, .int), (cB, .byte), (cL, .long), (cZ, .boolean), (cG, .array .int)] [(TR, .inr (10, oX10 ME)), (ME, .inr (3, oX3 FL aME ME_oldest ME_done ME_undone)), (FL, .inr (0, oX0 PL aFL FL_parting)), (PL, .inr (5, oX5 FO aPL PL_rooms PL_doors PL_things PL_draw PL_drawTold)), ((aME 1), .inl (cI, 32, .inl ME_now)), ((aPL 11), .inl (cI, 6, .inl PL_us)), ((aPL 12), .inl (cI, 6, .inl PL_them))] [.ref TR, .int 4, .int x1]) (vp_Si (fun r => zB r 0 2)) 0 0 (fun _ => False) := by
  refine Met.ofW (cc := cX10_mostPairs) (maxL := 6) (ret := (some .int)) (by decide) rfl ?_
  intro p e s m args below meth c s₁ B hml hv
  obtain ⟨rfl, hP, hK⟩ := hv
  have hx := B.exec
  have hb := B.bytes
  have hr := B.returns
  have hts := atoms_spec (ws := wsX10_mostPairs) B.pre
  have hown : s.vm.findClass RX10 = some m.cls := findClass_of_methodNamed B.named
  have hlocks := B.notSynchronized
  clear B
  have hl := lv_entry ([.ref TR, .int 4, .int x1]) (n := 6) (Nat.le_of_ble_eq_true rfl)
  rw [lg_entry_eq]
  generalize (lg_sl ([.ref TR, .int 4, .int x1]) ++ List.replicate (6 - (lg_sl ([.ref TR, .int 4, .int x1])).length) Slot.unset).toArray = ls at hl ⊢
  replace hl : lv_has ls 6 [(0, .ref TR), (1, .int 4), (2, .int x1)] := hl
  refine zz_abs (R := ({ frames := 3, cells := 0, slots := 0, locals := 70 } : Room)) (fun Q up => ?_)
  refine lv_aload_n hx hb dX10_mostPairs_0 rfl (lv_at hl 0 rfl) ?_
  refine va_get (D := D) (ci := 10) (v := .ref ME) (C := RX10) (T := TX10) (N := 1) hx hb hts iw_X10_mostPairs_X10 hown hK hP 0 rfl rfl 0 (by decide) (hts (.fieldLink RX10 9 "SoldHouse$Trader" "memory" "LSoldHouse$Memory;") (List.mem_of_getElem? (i := 1) rfl)) (fun _ h9 => h9) rfl dX10_mostPairs_1 ?_
  refine va_get (D := D) (ci := 3) (v := .ref FL) (C := RX3) (T := TX3) (N := 9) hx hb hts iw_X10_mostPairs_X3 hown hK hP 1 rfl rfl 0 (by decide) (hts (.fieldLink RX10 15 "SoldHouse$Memory" "floor" "LSoldHouse$Floor;") (List.mem_of_getElem? (i := 2) rfl)) (fun _ h9 => h9) rfl dX10_mostPairs_4 ?_
  refine va_get (D := D) (ci := 0) (v := .ref PL) (C := RX0) (T := TX0) (N := 5) hx hb hts iw_X10_mostPairs_X0 hown hK hP 2 rfl rfl 0 (by decide) (hts (.fieldLink RX10 21 "SoldHouse$Floor" "plan" "LSoldHouse$Plan;") (List.mem_of_getElem? (i := 3) rfl)) (fun _ h9 => h9) rfl dX10_mostPairs_7 ?_
  refine va_get (D := D) (ci := 5) (v := .int PL_things) (C := RX5) (T := TX5) (N := 16) hx hb hts iw_X10_mostPairs_X5 hown hK hP 3 rfl rfl 6 (by decide) (hts (.fieldLink RX10 27 "SoldHouse$Plan" "things" "I") (List.mem_of_getElem? (i := 4) rfl)) (fun _ h9 => h9) rfl dX10_mostPairs_10 ?_
  refine lv_istore_n (lv' := [(3, .int PL_things), (0, .ref TR), (1, .int 4), (2, .int x1)]) hx hb dX10_mostPairs_13 rfl hl (by decide) rfl (fun ls hl => ?_)
  refine lv_iload_n hx hb dX10_mostPairs_14 rfl (lv_at hl 2 rfl) ?_
  refine lv_iload_n hx hb dX10_mostPairs_15 rfl (lv_at hl 0 rfl) ?_
  refine lv_icmp_lt (tgt := 21) hx hb dX10_mostPairs_16 (by decide) (fun c16 => ?_) (fun c16 => ?_)
  · have by16t_PL_things : zB PL_things 5 6 := zB_ltv (zl c16) (show zB 4 4 4 from ⟨by decide, by decide⟩) b_PL_things (by decide)
    refine lv_aload_n hx hb dX10_mostPairs_21 rfl (lv_at hl 1 rfl) ?_
    refine lv_iload_n hx hb dX10_mostPairs_22 rfl (lv_at hl 2 rfl) ?_
    refine lv_iconst (v := 1) hx hb dX10_mostPairs_23 (by decide) ?_
    refine lv_iadd hx hb dX10_mostPairs_24 ?_
    refine lv_topi (fun y24 ey24 => ?_)
    obtain rfl : y24 = 5 := ey24.trans (by decide)
    refine lv_iload_n hx hb dX10_mostPairs_25 rfl (lv_at hl 3 rfl) ?_
    have hPc := hP.sub (ws' := [(TR, .inr (10, oX10 ME)), (ME, .inr (3, oX3 FL aME ME_oldest ME_done ME_undone)), (FL, .inr (0, oX0 PL aFL FL_parting)), (PL, .inr (5, oX5 FO aPL PL_rooms PL_doors PL_things PL_draw PL_drawTold)), ((aME 1), .inl (cI, 32, .inl ME_now)), ((aPL 11), .inl (cI, 6, .inl PL_us)), ((aPL 12), .inl (cI, 6, .inl PL_them))]) [0, 1, 2, 3, 4, 5, 6] rfl
    refine vp_callSi (va_runV (As := [.int 5, .int x1]) (rest := []) ⟨hx, hb, hml, hown, hts⟩ (c_X10_mostPairs_5 l D cI cB cL cZ cG TR x1 ME FL aME ME_oldest ME_done ME_undone PL aFL FL_parting PL_rooms aPL PL_doors PL_things FO PL_draw PL_drawTold ME_now PL_us PL_them b_ME_oldest b_ME_done b_ME_undone b_PL_rooms b_PL_doors (zB_w by16t_PL_things (by decide) (by decide)) s_ME_now_0) (cwV 2 hts gX10_mostPairs_X10_mostPairs rfl rfl rfl (by decide +kernel) ⟨Nat.le_of_ble_eq_true rfl, Nat.le_of_ble_eq_true rfl⟩) ⟨xr_blind, va_recv hK hP (ci := 10) (q0 := 0) rfl rfl, fun U hU hW => xr_mk hU hW hPc hK⟩ rfl rfl hl.1 rfl (lv_room (Nat.le_of_ble_eq_true rfl)) dX10_mostPairs_26 ⟨Nat.le_of_ble_eq_true rfl, Nat.le_of_ble_eq_true rfl⟩).run (fun r26 hr26 => ?_)
    clear hPc
    refine lv_istore (lv' := [(4, .int r26), (3, .int PL_things), (0, .ref TR), (1, .int 4), (2, .int x1)]) hx hb dX10_mostPairs_29 hl (by decide) rfl (fun ls hl => ?_)
    refine lv_iconst (v := 0) hx hb dX10_mostPairs_31 (by decide) ?_
    have j34 : ∀ (n34 : Nat) (ls : Array Slot) (v34_5 : Int32) (v34_4 : Int32), zB v34_5 0 6 → zB v34_4 0 2 → zA ME_now 0 12 0 7 → (6 + 1 - v34_5.toInt) ≤ (n34 : Int) → lv_has ls 6 [(5, .int v34_5), (4, .int v34_4), (3, .int PL_things), (0, .ref TR), (1, .int 4), (2, .int x1)] → W p l e ({ frames := 3, cells := 0, slots := 0, locals := 70 } : Room) s m ([.ref TR, .int 4, .int x1] : List Value).toArray below meth c s.heap [] 0 0 Q (F0 m 34 ls []) := by
      intro n34
      induction n34 with
      | zero => intro ls v34_5 v34_4 bv34_5_k34 bv34_4_k34 sME_now_0_k34 hm34 hl; exact zM_u0 bv34_5_k34 hm34
      | succ n34 ih34 =>
        intro ls v34_5 v34_4 bv34_5_k34 bv34_4_k34 sME_now_0_k34 hm34 hl
        refine lv_iload hx hb dX10_mostPairs_34 (lv_at hl 0 rfl) ?_
        refine lv_iload_n hx hb dX10_mostPairs_36 rfl (lv_at hl 2 rfl) ?_
        refine lv_icmp_ge (tgt := 87) hx hb dX10_mostPairs_37 (by decide) (fun c37 => ?_) (fun c37 => ?_)
        · have by37t_v34_5 : zB v34_5 5 6 := zB_lev (ze c37) by16t_PL_things bv34_5_k34 (by decide)
          refine lv_iload hx hb dX10_mostPairs_87 (lv_at hl 1 rfl) ?_
          exact up _ _ _ (W.iret (v := v34_4) hx hb hr (fun t ht hW => ⟨v34_4, rfl, bv34_4_k34, ht⟩) (fun q hq => by cases hq) dX10_mostPairs_89)
        · have bx37f_v34_5 : zB v34_5 0 5 := zB_ltu (zf c37) bv34_5_k34 by16t_PL_things (by decide)
          refine lv_iload_n hx hb dX10_mostPairs_40 rfl (lv_at hl 5 rfl) ?_
          refine lv_iload hx hb dX10_mostPairs_41 (lv_at hl 0 rfl) ?_
          refine lv_ishr hx hb dX10_mostPairs_43 ?_
          refine lv_topi (fun y43 _ => ?_)
          refine lv_iconst (v := 1) hx hb dX10_mostPairs_44 (by decide) ?_
          refine lv_iand hx hb dX10_mostPairs_45 ?_
          refine zi_top (a := 0) (b := 1) (zB_andr (show zB 1 1 1 from ⟨by decide, by decide⟩) (by decide)) (fun y45 by45 => ?_)
          have j81 : ∀ (ls : Array Slot) (v81_4 : Int32), zB v81_4 0 2 → zA ME_now 0 12 0 7 → lv_has ls 6 [(5, .int v34_5), (4, .int v81_4), (3, .int PL_things), (0, .ref TR), (1, .int 4), (2, .int x1)] → W p l e ({ frames := 3, cells := 0, slots := 0, locals := 70 } : Room) s m ([.ref TR, .int 4, .int x1] : List Value).toArray below meth c s.heap [] 0 0 Q (F0 m 81 ls []) := by
            intro ls v81_4 bv81_4_k81 sME_now_0_k81 hl
            obtain ⟨y81, by81, ry81, ey81⟩ := zi_inc (x := v34_5) (k := 1) (a := 1) (b := 6) bx37f_v34_5 (by decide) (by decide) (by decide) (by decide) (by decide)
            refine lv_iinc (v := y81) (lv' := [(5, .int y81), (4, .int v81_4), (3, .int PL_things), (0, .ref TR), (1, .int 4), (2, .int x1)]) hx hb dX10_mostPairs_81 hl (k := 0) rfl ey81 (by decide) rfl (fun ls hl => ?_)
            refine lv_goto (tgt := 34) hx hb dX10_mostPairs_84 (by decide) ?_
            exact ih34 ls y81 v81_4 (zB_w by81 (by decide) (by decide)) bv81_4_k81 sME_now_0_k81 (zM_us (k := 1) hm34 ry81 (by decide)) (lv_sub hl [0, 1, 2, 3, 4, 5] rfl)
          refine lv_if_ne (tgt := 81) hx hb dX10_mostPairs_46 (by decide) (fun c46 => ?_) (fun c46 => ?_)
          · have bn46t_y45 : zB y45 1 1 := zB_neL c46 by45 (show zB 0 0 0 from ⟨by decide, by decide⟩) (by decide)
            exact j81 ls v34_4 bv34_4_k34 sME_now_0_k34 (lv_sub hl [0, 1, 2, 3, 4, 5] rfl)
          · have be46f_y45 : zB y45 0 0 := zB_eq c46 by45 (show zB 0 0 0 from ⟨by decide, by decide⟩) (by decide) (by decide)
            refine lv_aload_n hx hb dX10_mostPairs_49 rfl (lv_at hl 3 rfl) ?_
            refine lv_iload_n hx hb dX10_mostPairs_50 rfl (lv_at hl 4 rfl) ?_
            refine lv_iload hx hb dX10_mostPairs_51 (lv_at hl 0 rfl) ?_
            have hPc := hP.sub (ws' := [(TR, .inr (10, oX10 ME)), (ME, .inr (3, oX3 FL aME ME_oldest ME_done ME_undone)), (FL, .inr (0, oX0 PL aFL FL_parting)), (PL, .inr (5, oX5 FO aPL PL_rooms PL_doors PL_things PL_draw PL_drawTold)), ((aME 1), .inl (cI, 32, .inl ME_now)), ((aPL 11), .inl (cI, 6, .inl PL_us)), ((aPL 12), .inl (cI, 6, .inl PL_them))]) [0, 1, 2, 3, 4, 5, 6] rfl
            refine vp_callSi (va_runV (As := [.int 4, .int v34_5]) (rest := []) ⟨hx, hb, hml, hown, hts⟩ (c_X10_isFair l D cI cB cL cZ cG TR 4 v34_5 ME FL aME ME_oldest ME_done ME_undone PL aFL FL_parting PL_rooms aPL PL_doors PL_things FO PL_draw PL_drawTold ME_now PL_us PL_them (zB_w (show zB 4 4 4 from ⟨by decide, by decide⟩) (by decide) (by decide)) bx37f_v34_5 b_ME_oldest b_ME_done b_ME_undone b_PL_rooms b_PL_doors (zB_w by16t_PL_things (by decide) (by decide)) sME_now_0_k34) (cwV 2 hts gX10_mostPairs_X10_isFair rfl rfl rfl (by decide +kernel) ⟨Nat.le_of_ble_eq_true rfl, Nat.le_of_ble_eq_true rfl⟩) ⟨xr_blind, va_recv hK hP (ci := 10) (q0 := 0) rfl rfl, fun U hU hW => xr_mk hU hW hPc hK⟩ rfl rfl hl.1 rfl (lv_room (Nat.le_of_ble_eq_true rfl)) dX10_mostPairs_53 ⟨Nat.le_of_ble_eq_true rfl, Nat.le_of_ble_eq_true rfl⟩).run (fun r53 hr53 => ?_)
            clear hPc
            refine lv_if_eq (tgt := 81) hx hb dX10_mostPairs_56 (by decide) (fun c56 => ?_) (fun c56 => ?_)
            · have be56t_r53 : zB r53 0 0 := zB_eq c56 hr53 (show zB 0 0 0 from ⟨by decide, by decide⟩) (by decide) (by decide)
              exact j81 ls v34_4 bv34_4_k34 sME_now_0_k34 (lv_sub hl [0, 1, 2, 3, 4, 5] rfl)
            · have bn56f_r53 : zB r53 1 1 := zB_neL c56 hr53 (show zB 0 0 0 from ⟨by decide, by decide⟩) (by decide)
              refine lv_iload hx hb dX10_mostPairs_59 (lv_at hl 1 rfl) ?_
              refine lv_iconst (v := 1) hx hb dX10_mostPairs_61 (by decide) ?_
              refine lv_aload_n hx hb dX10_mostPairs_62 rfl (lv_at hl 3 rfl) ?_
              refine lv_iload_n hx hb dX10_mostPairs_63 rfl (lv_at hl 4 rfl) ?_
              refine lv_iconst (v := 1) hx hb dX10_mostPairs_64 (by decide) ?_
              refine lv_iadd hx hb dX10_mostPairs_65 ?_
              refine lv_topi (fun y65 ey65 => ?_)
              obtain rfl : y65 = 5 := ey65.trans (by decide)
              refine lv_iload_n hx hb dX10_mostPairs_66 rfl (lv_at hl 5 rfl) ?_
              refine lv_iconst (v := 1) hx hb dX10_mostPairs_67 (by decide) ?_
              refine lv_iload hx hb dX10_mostPairs_68 (lv_at hl 0 rfl) ?_
              refine lv_ishl hx hb dX10_mostPairs_70 ?_
              refine zi_top (a := 1) (b := 32) (zB_shl1 bx37f_v34_5 (by decide) (by decide) (by decide) (by decide)) (fun y70 by70 => ?_)
              refine lv_ior hx hb dX10_mostPairs_71 ?_
              refine lv_topi (fun y71 _ => ?_)
              have hPc := hP.sub (ws' := [(TR, .inr (10, oX10 ME)), (ME, .inr (3, oX3 FL aME ME_oldest ME_done ME_undone)), (FL, .inr (0, oX0 PL aFL FL_parting)), (PL, .inr (5, oX5 FO aPL PL_rooms PL_doors PL_things PL_draw PL_drawTold)), ((aME 1), .inl (cI, 32, .inl ME_now)), ((aPL 11), .inl (cI, 6, .inl PL_us)), ((aPL 12), .inl (cI, 6, .inl PL_them))]) [0, 1, 2, 3, 4, 5, 6] rfl
              refine vp_callSi (va_runV (As := [.int 5, .int y71]) (rest := [.int 1, .int v34_4]) ⟨hx, hb, hml, hown, hts⟩ (c_X10_mostPairs_5 l D cI cB cL cZ cG TR y71 ME FL aME ME_oldest ME_done ME_undone PL aFL FL_parting PL_rooms aPL PL_doors PL_things FO PL_draw PL_drawTold ME_now PL_us PL_them b_ME_oldest b_ME_done b_ME_undone b_PL_rooms b_PL_doors (zB_w by16t_PL_things (by decide) (by decide)) sME_now_0_k34) (cwV 2 hts gX10_mostPairs_X10_mostPairs rfl rfl rfl (by decide +kernel) ⟨Nat.le_of_ble_eq_true rfl, Nat.le_of_ble_eq_true rfl⟩) ⟨xr_blind, va_recv hK hP (ci := 10) (q0 := 0) rfl rfl, fun U hU hW => xr_mk hU hW hPc hK⟩ rfl rfl hl.1 rfl (lv_room (Nat.le_of_ble_eq_true rfl)) dX10_mostPairs_72 ⟨Nat.le_of_ble_eq_true rfl, Nat.le_of_ble_eq_true rfl⟩).run (fun r72 hr72 => ?_)
              clear hPc
              refine lv_iadd hx hb dX10_mostPairs_75 ?_
              refine zi_top (a := 1) (b := 2) (zB_add (show zB 1 1 1 from ⟨by decide, by decide⟩) hr72 (by decide) (by decide) (by decide) (by decide)) (fun y75 by75 => ?_)
              refine va_mmax hx hb (by rw [hml]; exact hl.1.symm) hown (hts (.methodLink RX10 64 Lib.Math.max.name) (List.mem_of_getElem? (i := 5) rfl)) (hts (.static Lib.Math.max.name) (List.mem_of_getElem? (i := 6) rfl)) (hts (.initialized "java/lang/Math") (List.mem_of_getElem? (i := 7) rfl)) (hts (.code Lib.Math.max.name Lib.Math.max.code 2 (some .int)) (List.mem_of_getElem? (i := 8) rfl)) (Nat.le_of_ble_eq_true rfl) (Nat.le_of_ble_eq_true rfl) (Nat.le_of_ble_eq_true rfl) (Nat.le_of_ble_eq_true rfl) dX10_mostPairs_76 ?_
              refine zi_top (a := 1) (b := 2) (zB_max bv34_4_k34 by75 (by decide) (by decide)) (fun y76 by76 => ?_)
              refine lv_istore (lv' := [(4, .int y76), (5, .int v34_5), (3, .int PL_things), (0, .ref TR), (1, .int 4), (2, .int x1)]) hx hb dX10_mostPairs_79 hl (by decide) rfl (fun ls hl => ?_)
              exact j81 ls y76 (zB_w by76 (by decide) (by decide)) sME_now_0_k34 (lv_sub hl [1, 0, 2, 3, 4, 5] rfl)
    refine lv_istore (lv' := [(5, .int 0), (4, .int r26), (3, .int PL_things), (0, .ref TR), (1, .int 4), (2, .int x1)]) hx hb dX10_mostPairs_32 hl (by decide) rfl (fun ls hl => ?_)
    exact j34 7 ls 0 r26 (zB_w (show zB 0 0 0 from ⟨by decide, by decide⟩) (by decide) (by decide)) (zB_w hr26 (by decide) (by decide)) s_ME_now_0 (zM_ui (show zB 0 0 0 from ⟨by decide, by decide⟩) (by decide)) (lv_sub hl [0, 1, 2, 3, 4, 5] rfl)
  · have bx16f_PL_things : zB PL_things 0 4 := zB_leu (zg c16) b_PL_things (show zB 4 4 4 from ⟨by decide, by decide⟩) (by decide)
    refine lv_iconst (v := 0) hx hb dX10_mostPairs_19 (by decide) ?_
    exact up _ _ _ (W.iret (v := 0) hx hb hr (fun t ht hW => ⟨0, rfl, (zB_w (show zB 0 0 0 from ⟨by decide, by decide⟩) (by decide) (by decide)), ht⟩) (fun q hq => by cases hq) dX10_mostPairs_20)
set_option maxHeartbeats 4000000 in
set_option maxRecDepth 100000 in
theorem c_X10_mostPairs_3 (l : Launch) (D : va_G) (cI : ClassId) (cB : ClassId) (cL : ClassId) (cZ : ClassId) (cG : ClassId) (TR : Nat) (x1 : Int32) (ME : Nat) (FL : Nat) (aME : Nat → Nat) (ME_oldest : Int32) (ME_done : Int32) (ME_undone : Int32) (PL : Nat) (aFL : Nat → Nat) (FL_parting : Int32) (PL_rooms : Int32) (aPL : Nat → Nat) (PL_doors : Int32) (PL_things : Int32) (FO : Nat) (PL_draw : Int32) (PL_drawTold : Int32) (ME_now : Nat → Int32) (PL_us : Nat → Int32) (PL_them : Nat → Int32) (b_ME_oldest : zB ME_oldest 0 40) (b_ME_done : zB ME_done 0 40) (b_ME_undone : zB ME_undone 0 40) (b_PL_rooms : zB PL_rooms 0 8) (b_PL_doors : zB PL_doors 0 12) (b_PL_things : zB PL_things 0 6) (s_ME_now_0 : zA ME_now 0 12 0 7) : Met l yX10_mostPairs wsX10_mostPairs ({ frames := 4, cells := 0, slots := 0, locals := 95 }) (xr D [(cI, .int), (cB, .byte), (cL, .long), (cZ, .boolean), (cG, .array .int)] [(TR, .inr (10, oX10 ME)), (ME, .inr (3, oX3 FL aME ME_oldest ME_done ME_undone)), (FL, .inr (0, oX0 PL aFL FL_parting)), (PL, .inr (5, oX5 FO aPL PL_rooms PL_doors PL_things PL_draw PL_drawTold)), ((aME 1), .inl (cI, 32, .inl ME_now)), ((aPL 11), .inl (cI, 6, .inl PL_us)), ((aPL 12), .inl (cI, 6, .inl PL_them))] [.ref TR, .int 3, .int x1]) (vp_Si (fun r => zB r 0 3)) 0 0 (fun _ => False) := by
  refine Met.ofW (cc := cX10_mostPairs) (maxL := 6) (ret := (some .int)) (by decide) rfl ?_
  intro p e s m args below meth c s₁ B hml hv
  obtain ⟨rfl, hP, hK⟩ := hv
  have hx := B.exec
  have hb := B.bytes
  have hr := B.returns
  have hts := atoms_spec (ws := wsX10_mostPairs) B.pre
  have hown : s.vm.findClass RX10 = some m.cls := findClass_of_methodNamed B.named
  have hlocks := B.notSynchronized
  clear B
  have hl := lv_entry ([.ref TR, .int 3, .int x1]) (n := 6) (Nat.le_of_ble_eq_true rfl)
  rw [lg_entry_eq]
  generalize (lg_sl ([.ref TR, .int 3, .int x1]) ++ List.replicate (6 - (lg_sl ([.ref TR, .int 3, .int x1])).length) Slot.unset).toArray = ls at hl ⊢
  replace hl : lv_has ls 6 [(0, .ref TR), (1, .int 3), (2, .int x1)] := hl
  refine zz_abs (R := ({ frames := 4, cells := 0, slots := 0, locals := 95 } : Room)) (fun Q up => ?_)
  refine lv_aload_n hx hb dX10_mostPairs_0 rfl (lv_at hl 0 rfl) ?_
  refine va_get (D := D) (ci := 10) (v := .ref ME) (C := RX10) (T := TX10) (N := 1) hx hb hts iw_X10_mostPairs_X10 hown hK hP 0 rfl rfl 0 (by decide) (hts (.fieldLink RX10 9 "SoldHouse$Trader" "memory" "LSoldHouse$Memory;") (List.mem_of_getElem? (i := 1) rfl)) (fun _ h9 => h9) rfl dX10_mostPairs_1 ?_
  refine va_get (D := D) (ci := 3) (v := .ref FL) (C := RX3) (T := TX3) (N := 9) hx hb hts iw_X10_mostPairs_X3 hown hK hP 1 rfl rfl 0 (by decide) (hts (.fieldLink RX10 15 "SoldHouse$Memory" "floor" "LSoldHouse$Floor;") (List.mem_of_getElem? (i := 2) rfl)) (fun _ h9 => h9) rfl dX10_mostPairs_4 ?_
  refine va_get (D := D) (ci := 0) (v := .ref PL) (C := RX0) (T := TX0) (N := 5) hx hb hts iw_X10_mostPairs_X0 hown hK hP 2 rfl rfl 0 (by decide) (hts (.fieldLink RX10 21 "SoldHouse$Floor" "plan" "LSoldHouse$Plan;") (List.mem_of_getElem? (i := 3) rfl)) (fun _ h9 => h9) rfl dX10_mostPairs_7 ?_
  refine va_get (D := D) (ci := 5) (v := .int PL_things) (C := RX5) (T := TX5) (N := 16) hx hb hts iw_X10_mostPairs_X5 hown hK hP 3 rfl rfl 6 (by decide) (hts (.fieldLink RX10 27 "SoldHouse$Plan" "things" "I") (List.mem_of_getElem? (i := 4) rfl)) (fun _ h9 => h9) rfl dX10_mostPairs_10 ?_
  refine lv_istore_n (lv' := [(3, .int PL_things), (0, .ref TR), (1, .int 3), (2, .int x1)]) hx hb dX10_mostPairs_13 rfl hl (by decide) rfl (fun ls hl => ?_)
  refine lv_iload_n hx hb dX10_mostPairs_14 rfl (lv_at hl 2 rfl) ?_
  refine lv_iload_n hx hb dX10_mostPairs_15 rfl (lv_at hl 0 rfl) ?_
  refine lv_icmp_lt (tgt := 21) hx hb dX10_mostPairs_16 (by decide) (fun c16 => ?_) (fun c16 => ?_)
  · have by16t_PL_things : zB PL_things 4 6 := zB_ltv (zl c16) (show zB 3 3 3 from ⟨by decide, by decide⟩) b_PL_things (by decide)
    refine lv_aload_n hx hb dX10_mostPairs_21 rfl (lv_at hl 1 rfl) ?_
    refine lv_iload_n hx hb dX10_mostPairs_22 rfl (lv_at hl 2 rfl) ?_
    refine lv_iconst (v := 1) hx hb dX10_mostPairs_23 (by decide) ?_
    refine lv_iadd hx hb dX10_mostPairs_24 ?_
    refine lv_topi (fun y24 ey24 => ?_)
    obtain rfl : y24 = 4 := ey24.trans (by decide)
    refine lv_iload_n hx hb dX10_mostPairs_25 rfl (lv_at hl 3 rfl) ?_
    have hPc := hP.sub (ws' := [(TR, .inr (10, oX10 ME)), (ME, .inr (3, oX3 FL aME ME_oldest ME_done ME_undone)), (FL, .inr (0, oX0 PL aFL FL_parting)), (PL, .inr (5, oX5 FO aPL PL_rooms PL_doors PL_things PL_draw PL_drawTold)), ((aME 1), .inl (cI, 32, .inl ME_now)), ((aPL 11), .inl (cI, 6, .inl PL_us)), ((aPL 12), .inl (cI, 6, .inl PL_them))]) [0, 1, 2, 3, 4, 5, 6] rfl
    refine vp_callSi (va_runV (As := [.int 4, .int x1]) (rest := []) ⟨hx, hb, hml, hown, hts⟩ (c_X10_mostPairs_4 l D cI cB cL cZ cG TR x1 ME FL aME ME_oldest ME_done ME_undone PL aFL FL_parting PL_rooms aPL PL_doors PL_things FO PL_draw PL_drawTold ME_now PL_us PL_them b_ME_oldest b_ME_done b_ME_undone b_PL_rooms b_PL_doors (zB_w by16t_PL_things (by decide) (by decide)) s_ME_now_0) (cwV 2 hts gX10_mostPairs_X10_mostPairs rfl rfl rfl (by decide +kernel) ⟨Nat.le_of_ble_eq_true rfl, Nat.le_of_ble_eq_true rfl⟩) ⟨xr_blind, va_recv hK hP (ci := 10) (q0 := 0) rfl rfl, fun U hU hW => xr_mk hU hW hPc hK⟩ rfl rfl hl.1 rfl (lv_room (Nat.le_of_ble_eq_true rfl)) dX10_mostPairs_26 ⟨Nat.le_of_ble_eq_true rfl, Nat.le_of_ble_eq_true rfl⟩).run (fun r26 hr26 => ?_)
    clear hPc
    refine lv_istore (lv' := [(4, .int r26), (3, .int PL_things), (0, .ref TR), (1, .int 3), (2, .int x1)]) hx hb dX10_mostPairs_29 hl (by decide) rfl (fun ls hl => ?_)
    refine lv_iconst (v := 0) hx hb dX10_mostPairs_31 (by decide) ?_
    have j34 : ∀ (n34 : Nat) (ls : Array Slot) (v34_5 : Int32) (v34_4 : Int32), zB v34_5 0 6 → zB v34_4 0 3 → zA ME_now 0 12 0 7 → (6 + 1 - v34_5.toInt) ≤ (n34 : Int) → lv_has ls 6 [(5, .int v34_5), (4, .int v34_4), (3, .int PL_things), (0, .ref TR), (1, .int 3), (2, .int x1)] → W p l e ({ frames := 4, cells := 0, slots := 0, locals := 95 } : Room) s m ([.ref TR, .int 3, .int x1] : List Value).toArray below meth c s.heap [] 0 0 Q (F0 m 34 ls []) := by
      intro n34
      induction n34 with
      | zero => intro ls v34_5 v34_4 bv34_5_k34 bv34_4_k34 sME_now_0_k34 hm34 hl; exact zM_u0 bv34_5_k34 hm34
      | succ n34 ih34 =>
        intro ls v34_5 v34_4 bv34_5_k34 bv34_4_k34 sME_now_0_k34 hm34 hl
        refine lv_iload hx hb dX10_mostPairs_34 (lv_at hl 0 rfl) ?_
        refine lv_iload_n hx hb dX10_mostPairs_36 rfl (lv_at hl 2 rfl) ?_
        refine lv_icmp_ge (tgt := 87) hx hb dX10_mostPairs_37 (by decide) (fun c37 => ?_) (fun c37 => ?_)
        · have by37t_v34_5 : zB v34_5 4 6 := zB_lev (ze c37) by16t_PL_things bv34_5_k34 (by decide)
          refine lv_iload hx hb dX10_mostPairs_87 (lv_at hl 1 rfl) ?_
          exact up _ _ _ (W.iret (v := v34_4) hx hb hr (fun t ht hW => ⟨v34_4, rfl, bv34_4_k34, ht⟩) (fun q hq => by cases hq) dX10_mostPairs_89)
        · have bx37f_v34_5 : zB v34_5 0 5 := zB_ltu (zf c37) bv34_5_k34 by16t_PL_things (by decide)
          refine lv_iload_n hx hb dX10_mostPairs_40 rfl (lv_at hl 5 rfl) ?_
          refine lv_iload hx hb dX10_mostPairs_41 (lv_at hl 0 rfl) ?_
          refine lv_ishr hx hb dX10_mostPairs_43 ?_
          refine lv_topi (fun y43 _ => ?_)
          refine lv_iconst (v := 1) hx hb dX10_mostPairs_44 (by decide) ?_
          refine lv_iand hx hb dX10_mostPairs_45 ?_
          refine zi_top (a := 0) (b := 1) (zB_andr (show zB 1 1 1 from ⟨by decide, by decide⟩) (by decide)) (fun y45 by45 => ?_)
          have j81 : ∀ (ls : Array Slot) (v81_4 : Int32), zB v81_4 0 3 → zA ME_now 0 12 0 7 → lv_has ls 6 [(5, .int v34_5), (4, .int v81_4), (3, .int PL_things), (0, .ref TR), (1, .int 3), (2, .int x1)] → W p l e ({ frames := 4, cells := 0, slots := 0, locals := 95 } : Room) s m ([.ref TR, .int 3, .int x1] : List Value).toArray below meth c s.heap [] 0 0 Q (F0 m 81 ls []) := by
            intro ls v81_4 bv81_4_k81 sME_now_0_k81 hl
            obtain ⟨y81, by81, ry81, ey81⟩ := zi_inc (x := v34_5) (k := 1) (a := 1) (b := 6) bx37f_v34_5 (by decide) (by decide) (by decide) (by decide) (by decide)
            refine lv_iinc (v := y81) (lv' := [(5, .int y81), (4, .int v81_4), (3, .int PL_things), (0, .ref TR), (1, .int 3), (2, .int x1)]) hx hb dX10_mostPairs_81 hl (k := 0) rfl ey81 (by decide) rfl (fun ls hl => ?_)
            refine lv_goto (tgt := 34) hx hb dX10_mostPairs_84 (by decide) ?_
            exact ih34 ls y81 v81_4 (zB_w by81 (by decide) (by decide)) bv81_4_k81 sME_now_0_k81 (zM_us (k := 1) hm34 ry81 (by decide)) (lv_sub hl [0, 1, 2, 3, 4, 5] rfl)
          refine lv_if_ne (tgt := 81) hx hb dX10_mostPairs_46 (by decide) (fun c46 => ?_) (fun c46 => ?_)
          · have bn46t_y45 : zB y45 1 1 := zB_neL c46 by45 (show zB 0 0 0 from ⟨by decide, by decide⟩) (by decide)
            exact j81 ls v34_4 bv34_4_k34 sME_now_0_k34 (lv_sub hl [0, 1, 2, 3, 4, 5] rfl)
          · have be46f_y45 : zB y45 0 0 := zB_eq c46 by45 (show zB 0 0 0 from ⟨by decide, by decide⟩) (by decide) (by decide)
            refine lv_aload_n hx hb dX10_mostPairs_49 rfl (lv_at hl 3 rfl) ?_
            refine lv_iload_n hx hb dX10_mostPairs_50 rfl (lv_at hl 4 rfl) ?_
            refine lv_iload hx hb dX10_mostPairs_51 (lv_at hl 0 rfl) ?_
            have hPc := hP.sub (ws' := [(TR, .inr (10, oX10 ME)), (ME, .inr (3, oX3 FL aME ME_oldest ME_done ME_undone)), (FL, .inr (0, oX0 PL aFL FL_parting)), (PL, .inr (5, oX5 FO aPL PL_rooms PL_doors PL_things PL_draw PL_drawTold)), ((aME 1), .inl (cI, 32, .inl ME_now)), ((aPL 11), .inl (cI, 6, .inl PL_us)), ((aPL 12), .inl (cI, 6, .inl PL_them))]) [0, 1, 2, 3, 4, 5, 6] rfl
            refine vp_callSi (va_runV (As := [.int 3, .int v34_5]) (rest := []) ⟨hx, hb, hml, hown, hts⟩ (c_X10_isFair l D cI cB cL cZ cG TR 3 v34_5 ME FL aME ME_oldest ME_done ME_undone PL aFL FL_parting PL_rooms aPL PL_doors PL_things FO PL_draw PL_drawTold ME_now PL_us PL_them (zB_w (show zB 3 3 3 from ⟨by decide, by decide⟩) (by decide) (by decide)) bx37f_v34_5 b_ME_oldest b_ME_done b_ME_undone b_PL_rooms b_PL_doors (zB_w by16t_PL_things (by decide) (by decide)) sME_now_0_k34) (cwV 2 hts gX10_mostPairs_X10_isFair rfl rfl rfl (by decide +kernel) ⟨Nat.le_of_ble_eq_true rfl, Nat.le_of_ble_eq_true rfl⟩) ⟨xr_blind, va_recv hK hP (ci := 10) (q0 := 0) rfl rfl, fun U hU hW => xr_mk hU hW hPc hK⟩ rfl rfl hl.1 rfl (lv_room (Nat.le_of_ble_eq_true rfl)) dX10_mostPairs_53 ⟨Nat.le_of_ble_eq_true rfl, Nat.le_of_ble_eq_true rfl⟩).run (fun r53 hr53 => ?_)
            clear hPc
            refine lv_if_eq (tgt := 81) hx hb dX10_mostPairs_56 (by decide) (fun c56 => ?_) (fun c56 => ?_)
            · have be56t_r53 : zB r53 0 0 := zB_eq c56 hr53 (show zB 0 0 0 from ⟨by decide, by decide⟩) (by decide) (by decide)
              exact j81 ls v34_4 bv34_4_k34 sME_now_0_k34 (lv_sub hl [0, 1, 2, 3, 4, 5] rfl)
            · have bn56f_r53 : zB r53 1 1 := zB_neL c56 hr53 (show zB 0 0 0 from ⟨by decide, by decide⟩) (by decide)
              refine lv_iload hx hb dX10_mostPairs_59 (lv_at hl 1 rfl) ?_
              refine lv_iconst (v := 1) hx hb dX10_mostPairs_61 (by decide) ?_
              refine lv_aload_n hx hb dX10_mostPairs_62 rfl (lv_at hl 3 rfl) ?_
              refine lv_iload_n hx hb dX10_mostPairs_63 rfl (lv_at hl 4 rfl) ?_
              refine lv_iconst (v := 1) hx hb dX10_mostPairs_64 (by decide) ?_
              refine lv_iadd hx hb dX10_mostPairs_65 ?_
              refine lv_topi (fun y65 ey65 => ?_)
              obtain rfl : y65 = 4 := ey65.trans (by decide)
              refine lv_iload_n hx hb dX10_mostPairs_66 rfl (lv_at hl 5 rfl) ?_
              refine lv_iconst (v := 1) hx hb dX10_mostPairs_67 (by decide) ?_
              refine lv_iload hx hb dX10_mostPairs_68 (lv_at hl 0 rfl) ?_
              refine lv_ishl hx hb dX10_mostPairs_70 ?_
              refine zi_top (a := 1) (b := 32) (zB_shl1 bx37f_v34_5 (by decide) (by decide) (by decide) (by decide)) (fun y70 by70 => ?_)
              refine lv_ior hx hb dX10_mostPairs_71 ?_
              refine lv_topi (fun y71 _ => ?_)
              have hPc := hP.sub (ws' := [(TR, .inr (10, oX10 ME)), (ME, .inr (3, oX3 FL aME ME_oldest ME_done ME_undone)), (FL, .inr (0, oX0 PL aFL FL_parting)), (PL, .inr (5, oX5 FO aPL PL_rooms PL_doors PL_things PL_draw PL_drawTold)), ((aME 1), .inl (cI, 32, .inl ME_now)), ((aPL 11), .inl (cI, 6, .inl PL_us)), ((aPL 12), .inl (cI, 6, .inl PL_them))]) [0, 1, 2, 3, 4, 5, 6] rfl
              refine vp_callSi (va_runV (As := [.int 4, .int y71]) (rest := [.int 1, .int v34_4]) ⟨hx, hb, hml, hown, hts⟩ (c_X10_mostPairs_4 l D cI cB cL cZ cG TR y71 ME FL aME ME_oldest ME_done ME_undone PL aFL FL_parting PL_rooms aPL PL_doors PL_things FO PL_draw PL_drawTold ME_now PL_us PL_them b_ME_oldest b_ME_done b_ME_undone b_PL_rooms b_PL_doors (zB_w by16t_PL_things (by decide) (by decide)) sME_now_0_k34) (cwV 2 hts gX10_mostPairs_X10_mostPairs rfl rfl rfl (by decide +kernel) ⟨Nat.le_of_ble_eq_true rfl, Nat.le_of_ble_eq_true rfl⟩) ⟨xr_blind, va_recv hK hP (ci := 10) (q0 := 0) rfl rfl, fun U hU hW => xr_mk hU hW hPc hK⟩ rfl rfl hl.1 rfl (lv_room (Nat.le_of_ble_eq_true rfl)) dX10_mostPairs_72 ⟨Nat.le_of_ble_eq_true rfl, Nat.le_of_ble_eq_true rfl⟩).run (fun r72 hr72 => ?_)
              clear hPc
              refine lv_iadd hx hb dX10_mostPairs_75 ?_
              refine zi_top (a := 1) (b := 3) (zB_add (show zB 1 1 1 from ⟨by decide, by decide⟩) hr72 (by decide) (by decide) (by decide) (by decide)) (fun y75 by75 => ?_)
              refine va_mmax hx hb (by rw [hml]; exact hl.1.symm) hown (hts (.methodLink RX10 64 Lib.Math.max.name) (List.mem_of_getElem? (i := 5) rfl)) (hts (.static Lib.Math.max.name) (List.mem_of_getElem? (i := 6) rfl)) (hts (.initialized "java/lang/Math") (List.mem_of_getElem? (i := 7) rfl)) (hts (.code Lib.Math.max.name Lib.Math.max.code 2 (some .int)) (List.mem_of_getElem? (i := 8) rfl)) (Nat.le_of_ble_eq_true rfl) (Nat.le_of_ble_eq_true rfl) (Nat.le_of_ble_eq_true rfl) (Nat.le_of_ble_eq_true rfl) dX10_mostPairs_76 ?_
              refine zi_top (a := 1) (b := 3) (zB_max bv34_4_k34 by75 (by decide) (by decide)) (fun y76 by76 => ?_)
              refine lv_istore (lv' := [(4, .int y76), (5, .int v34_5), (3, .int PL_things), (0, .ref TR), (1, .int 3), (2, .int x1)]) hx hb dX10_mostPairs_79 hl (by decide) rfl (fun ls hl => ?_)
              exact j81 ls y76 (zB_w by76 (by decide) (by decide)) sME_now_0_k34 (lv_sub hl [1, 0, 2, 3, 4, 5] rfl)
    refine lv_istore (lv' := [(5, .int 0), (4, .int r26), (3, .int PL_things), (0, .ref TR), (1, .int 3), (2, .int x1)]) hx hb dX10_mostPairs_32 hl (by decide) rfl (fun ls hl => ?_)
    exact j34 7 ls 0 r26 (zB_w (show zB 0 0 0 from ⟨by decide, by decide⟩) (by decide) (by decide)) (zB_w hr26 (by decide) (by decide)) s_ME_now_0 (zM_ui (show zB 0 0 0 from ⟨by decide, by decide⟩) (by decide)) (lv_sub hl [0, 1, 2, 3, 4, 5] rfl)
  · have bx16f_PL_things : zB PL_things 0 3 := zB_leu (zg c16) b_PL_things (show zB 3 3 3 from ⟨by decide, by decide⟩) (by decide)
    refine lv_iconst (v := 0) hx hb dX10_mostPairs_19 (by decide) ?_
    exact up _ _ _ (W.iret (v := 0) hx hb hr (fun t ht hW => ⟨0, rfl, (zB_w (show zB 0 0 0 from ⟨by decide, by decide⟩) (by decide) (by decide)), ht⟩) (fun q hq => by cases hq) dX10_mostPairs_20)
set_option maxHeartbeats 4000000 in
set_option maxRecDepth 100000 in
theorem c_X10_mostPairs_2 (l : Launch) (D : va_G) (cI : ClassId) (cB : ClassId) (cL : ClassId) (cZ : ClassId) (cG : ClassId) (TR : Nat) (x1 : Int32) (ME : Nat) (FL : Nat) (aME : Nat → Nat) (ME_oldest : Int32) (ME_done : Int32) (ME_undone : Int32) (PL : Nat) (aFL : Nat → Nat) (FL_parting : Int32) (PL_rooms : Int32) (aPL : Nat → Nat) (PL_doors : Int32) (PL_things : Int32) (FO : Nat) (PL_draw : Int32) (PL_drawTold : Int32) (ME_now : Nat → Int32) (PL_us : Nat → Int32) (PL_them : Nat → Int32) (b_ME_oldest : zB ME_oldest 0 40) (b_ME_done : zB ME_done 0 40) (b_ME_undone : zB ME_undone 0 40) (b_PL_rooms : zB PL_rooms 0 8) (b_PL_doors : zB PL_doors 0 12) (b_PL_things : zB PL_things 0 6) (s_ME_now_0 : zA ME_now 0 12 0 7) : Met l yX10_mostPairs wsX10_mostPairs ({ frames := 5, cells := 0, slots := 0, locals := 120 }) (xr D [(cI, .int), (cB, .byte), (cL, .long), (cZ, .boolean), (cG, .array .int)] [(TR, .inr (10, oX10 ME)), (ME, .inr (3, oX3 FL aME ME_oldest ME_done ME_undone)), (FL, .inr (0, oX0 PL aFL FL_parting)), (PL, .inr (5, oX5 FO aPL PL_rooms PL_doors PL_things PL_draw PL_drawTold)), ((aME 1), .inl (cI, 32, .inl ME_now)), ((aPL 11), .inl (cI, 6, .inl PL_us)), ((aPL 12), .inl (cI, 6, .inl PL_them))] [.ref TR, .int 2, .int x1]) (vp_Si (fun r => zB r 0 4)) 0 0 (fun _ => False) := by
  refine Met.ofW (cc := cX10_mostPairs) (maxL := 6) (ret := (some .int)) (by decide) rfl ?_
  intro p e s m args below meth c s₁ B hml hv
  obtain ⟨rfl, hP, hK⟩ := hv
  have hx := B.exec
  have hb := B.bytes
  have hr := B.returns
  have hts := atoms_spec (ws := wsX10_mostPairs) B.pre
  have hown : s.vm.findClass RX10 = some m.cls := findClass_of_methodNamed B.named
  have hlocks := B.notSynchronized
  clear B
  have hl := lv_entry ([.ref TR, .int 2, .int x1]) (n := 6) (Nat.le_of_ble_eq_true rfl)
  rw [lg_entry_eq]
  generalize (lg_sl ([.ref TR, .int 2, .int x1]) ++ List.replicate (6 - (lg_sl ([.ref TR, .int 2, .int x1])).length) Slot.unset).toArray = ls at hl ⊢
  replace hl : lv_has ls 6 [(0, .ref TR), (1, .int 2), (2, .int x1)] := hl
  refine zz_abs (R := ({ frames := 5, cells := 0, slots := 0, locals := 120 } : Room)) (fun Q up => ?_)
  refine lv_aload_n hx hb dX10_mostPairs_0 rfl (lv_at hl 0 rfl) ?_
  refine va_get (D := D) (ci := 10) (v := .ref ME) (C := RX10) (T := TX10) (N := 1) hx hb hts iw_X10_mostPairs_X10 hown hK hP 0 rfl rfl 0 (by decide) (hts (.fieldLink RX10 9 "SoldHouse$Trader" "memory" "LSoldHouse$Memory;") (List.mem_of_getElem? (i := 1) rfl)) (fun _ h9 => h9) rfl dX10_mostPairs_1 ?_
  refine va_get (D := D) (ci := 3) (v := .ref FL) (C := RX3) (T := TX3) (N := 9) hx hb hts iw_X10_mostPairs_X3 hown hK hP 1 rfl rfl 0 (by decide) (hts (.fieldLink RX10 15 "SoldHouse$Memory" "floor" "LSoldHouse$Floor;") (List.mem_of_getElem? (i := 2) rfl)) (fun _ h9 => h9) rfl dX10_mostPairs_4 ?_
  refine va_get (D := D) (ci := 0) (v := .ref PL) (C := RX0) (T := TX0) (N := 5) hx hb hts iw_X10_mostPairs_X0 hown hK hP 2 rfl rfl 0 (by decide) (hts (.fieldLink RX10 21 "SoldHouse$Floor" "plan" "LSoldHouse$Plan;") (List.mem_of_getElem? (i := 3) rfl)) (fun _ h9 => h9) rfl dX10_mostPairs_7 ?_
  refine va_get (D := D) (ci := 5) (v := .int PL_things) (C := RX5) (T := TX5) (N := 16) hx hb hts iw_X10_mostPairs_X5 hown hK hP 3 rfl rfl 6 (by decide) (hts (.fieldLink RX10 27 "SoldHouse$Plan" "things" "I") (List.mem_of_getElem? (i := 4) rfl)) (fun _ h9 => h9) rfl dX10_mostPairs_10 ?_
  refine lv_istore_n (lv' := [(3, .int PL_things), (0, .ref TR), (1, .int 2), (2, .int x1)]) hx hb dX10_mostPairs_13 rfl hl (by decide) rfl (fun ls hl => ?_)
  refine lv_iload_n hx hb dX10_mostPairs_14 rfl (lv_at hl 2 rfl) ?_
  refine lv_iload_n hx hb dX10_mostPairs_15 rfl (lv_at hl 0 rfl) ?_
  refine lv_icmp_lt (tgt := 21) hx hb dX10_mostPairs_16 (by decide) (fun c16 => ?_) (fun c16 => ?_)
  · have by16t_PL_things : zB PL_things 3 6 := zB_ltv (zl c16) (show zB 2 2 2 from ⟨by decide, by decide⟩) b_PL_things (by decide)
    refine lv_aload_n hx hb dX10_mostPairs_21 rfl (lv_at hl 1 rfl) ?_
    refine lv_iload_n hx hb dX10_mostPairs_22 rfl (lv_at hl 2 rfl) ?_
    refine lv_iconst (v := 1) hx hb dX10_mostPairs_23 (by decide) ?_
    refine lv_iadd hx hb dX10_mostPairs_24 ?_
    refine lv_topi (fun y24 ey24 => ?_)
    obtain rfl : y24 = 3 := ey24.trans (by decide)
    refine lv_iload_n hx hb dX10_mostPairs_25 rfl (lv_at hl 3 rfl) ?_
    have hPc := hP.sub (ws' := [(TR, .inr (10, oX10 ME)), (ME, .inr (3, oX3 FL aME ME_oldest ME_done ME_undone)), (FL, .inr (0, oX0 PL aFL FL_parting)), (PL, .inr (5, oX5 FO aPL PL_rooms PL_doors PL_things PL_draw PL_drawTold)), ((aME 1), .inl (cI, 32, .inl ME_now)), ((aPL 11), .inl (cI, 6, .inl PL_us)), ((aPL 12), .inl (cI, 6, .inl PL_them))]) [0, 1, 2, 3, 4, 5, 6] rfl
    refine vp_callSi (va_runV (As := [.int 3, .int x1]) (rest := []) ⟨hx, hb, hml, hown, hts⟩ (c_X10_mostPairs_3 l D cI cB cL cZ cG TR x1 ME FL aME ME_oldest ME_done ME_undone PL aFL FL_parting PL_rooms aPL PL_doors PL_things FO PL_draw PL_drawTold ME_now PL_us PL_them b_ME_oldest b_ME_done b_ME_undone b_PL_rooms b_PL_doors (zB_w by16t_PL_things (by decide) (by decide)) s_ME_now_0) (cwV 2 hts gX10_mostPairs_X10_mostPairs rfl rfl rfl (by decide +kernel) ⟨Nat.le_of_ble_eq_true rfl, Nat.le_of_ble_eq_true rfl⟩) ⟨xr_blind, va_recv hK hP (ci := 10) (q0 := 0) rfl rfl, fun U hU hW => xr_mk hU hW hPc hK⟩ rfl rfl hl.1 rfl (lv_room (Nat.le_of_ble_eq_true rfl)) dX10_mostPairs_26 ⟨Nat.le_of_ble_eq_true rfl, Nat.le_of_ble_eq_true rfl⟩).run (fun r26 hr26 => ?_)
    clear hPc
    refine lv_istore (lv' := [(4, .int r26), (3, .int PL_things), (0, .ref TR), (1, .int 2), (2, .int x1)]) hx hb dX10_mostPairs_29 hl (by decide) rfl (fun ls hl => ?_)
    refine lv_iconst (v := 0) hx hb dX10_mostPairs_31 (by decide) ?_
    have j34 : ∀ (n34 : Nat) (ls : Array Slot) (v34_5 : Int32) (v34_4 : Int32), zB v34_5 0 6 → zB v34_4 0 4 → zA ME_now 0 12 0 7 → (6 + 1 - v34_5.toInt) ≤ (n34 : Int) → lv_has ls 6 [(5, .int v34_5), (4, .int v34_4), (3, .int PL_things), (0, .ref TR), (1, .int 2), (2, .int x1)] → W p l e ({ frames := 5, cells := 0, slots := 0, locals := 120 } : Room) s m ([.ref TR, .int 2, .int x1] : List Value).toArray below meth c s.heap [] 0 0 Q (F0 m 34 ls []) := by
      intro n34
      induction n34 with
      | zero => intro ls v34_5 v34_4 bv34_5_k34 bv34_4_k34 sME_now_0_k34 hm34 hl; exact zM_u0 bv34_5_k34 hm34
      | succ n34 ih34 =>
        intro ls v34_5 v34_4 bv34_5_k34 bv34_4_k34 sME_now_0_k34 hm34 hl
        refine lv_iload hx hb dX10_mostPairs_34 (lv_at hl 0 rfl) ?_
        refine lv_iload_n hx hb dX10_mostPairs_36 rfl (lv_at hl 2 rfl) ?_
        refine lv_icmp_ge (tgt := 87) hx hb dX10_mostPairs_37 (by decide) (fun c37 => ?_) (fun c37 => ?_)
        · have by37t_v34_5 : zB v34_5 3 6 := zB_lev (ze c37) by16t_PL_things bv34_5_k34 (by decide)
          refine lv_iload hx hb dX10_mostPairs_87 (lv_at hl 1 rfl) ?_
          exact up _ _ _ (W.iret (v := v34_4) hx hb hr (fun t ht hW => ⟨v34_4, rfl, bv34_4_k34, ht⟩) (fun q hq => by cases hq) dX10_mostPairs_89)
        · have bx37f_v34_5 : zB v34_5 0 5 := zB_ltu (zf c37) bv34_5_k34 by16t_PL_things (by decide)
          refine lv_iload_n hx hb dX10_mostPairs_40 rfl (lv_at hl 5 rfl) ?_
          refine lv_iload hx hb dX10_mostPairs_41 (lv_at hl 0 rfl) ?_
          refine lv_ishr hx hb dX10_mostPairs_43 ?_
          refine lv_topi (fun y43 _ => ?_)
          refine lv_iconst (v := 1) hx hb dX10_mostPairs_44 (by decide) ?_
          refine lv_iand hx hb dX10_mostPairs_45 ?_
          refine zi_top (a := 0) (b := 1) (zB_andr (show zB 1 1 1 from ⟨by decide, by decide⟩) (by decide)) (fun y45 by45 => ?_)
          have j81 : ∀ (ls : Array Slot) (v81_4 : Int32), zB v81_4 0 4 → zA ME_now 0 12 0 7 → lv_has ls 6 [(5, .int v34_5), (4, .int v81_4), (3, .int PL_things), (0, .ref TR), (1, .int 2), (2, .int x1)] → W p l e ({ frames := 5, cells := 0, slots := 0, locals := 120 } : Room) s m ([.ref TR, .int 2, .int x1] : List Value).toArray below meth c s.heap [] 0 0 Q (F0 m 81 ls []) := by
            intro ls v81_4 bv81_4_k81 sME_now_0_k81 hl
            obtain ⟨y81, by81, ry81, ey81⟩ := zi_inc (x := v34_5) (k := 1) (a := 1) (b := 6) bx37f_v34_5 (by decide) (by decide) (by decide) (by decide) (by decide)
            refine lv_iinc (v := y81) (lv' := [(5, .int y81), (4, .int v81_4), (3, .int PL_things), (0, .ref TR), (1, .int 2), (2, .int x1)]) hx hb dX10_mostPairs_81 hl (k := 0) rfl ey81 (by decide) rfl (fun ls hl => ?_)
            refine lv_goto (tgt := 34) hx hb dX10_mostPairs_84 (by decide) ?_
            exact ih34 ls y81 v81_4 (zB_w by81 (by decide) (by decide)) bv81_4_k81 sME_now_0_k81 (zM_us (k := 1) hm34 ry81 (by decide)) (lv_sub hl [0, 1, 2, 3, 4, 5] rfl)
          refine lv_if_ne (tgt := 81) hx hb dX10_mostPairs_46 (by decide) (fun c46 => ?_) (fun c46 => ?_)
          · have bn46t_y45 : zB y45 1 1 := zB_neL c46 by45 (show zB 0 0 0 from ⟨by decide, by decide⟩) (by decide)
            exact j81 ls v34_4 bv34_4_k34 sME_now_0_k34 (lv_sub hl [0, 1, 2, 3, 4, 5] rfl)
          · have be46f_y45 : zB y45 0 0 := zB_eq c46 by45 (show zB 0 0 0 from ⟨by decide, by decide⟩) (by decide) (by decide)
            refine lv_aload_n hx hb dX10_mostPairs_49 rfl (lv_at hl 3 rfl) ?_
            refine lv_iload_n hx hb dX10_mostPairs_50 rfl (lv_at hl 4 rfl) ?_
            refine lv_iload hx hb dX10_mostPairs_51 (lv_at hl 0 rfl) ?_
            have hPc := hP.sub (ws' := [(TR, .inr (10, oX10 ME)), (ME, .inr (3, oX3 FL aME ME_oldest ME_done ME_undone)), (FL, .inr (0, oX0 PL aFL FL_parting)), (PL, .inr (5, oX5 FO aPL PL_rooms PL_doors PL_things PL_draw PL_drawTold)), ((aME 1), .inl (cI, 32, .inl ME_now)), ((aPL 11), .inl (cI, 6, .inl PL_us)), ((aPL 12), .inl (cI, 6, .inl PL_them))]) [0, 1, 2, 3, 4, 5, 6] rfl
            refine vp_callSi (va_runV (As := [.int 2, .int v34_5]) (rest := []) ⟨hx, hb, hml, hown, hts⟩ (c_X10_isFair l D cI cB cL cZ cG TR 2 v34_5 ME FL aME ME_oldest ME_done ME_undone PL aFL FL_parting PL_rooms aPL PL_doors PL_things FO PL_draw PL_drawTold ME_now PL_us PL_them (zB_w (show zB 2 2 2 from ⟨by decide, by decide⟩) (by decide) (by decide)) bx37f_v34_5 b_ME_oldest b_ME_done b_ME_undone b_PL_rooms b_PL_doors (zB_w by16t_PL_things (by decide) (by decide)) sME_now_0_k34) (cwV 2 hts gX10_mostPairs_X10_isFair rfl rfl rfl (by decide +kernel) ⟨Nat.le_of_ble_eq_true rfl, Nat.le_of_ble_eq_true rfl⟩) ⟨xr_blind, va_recv hK hP (ci := 10) (q0 := 0) rfl rfl, fun U hU hW => xr_mk hU hW hPc hK⟩ rfl rfl hl.1 rfl (lv_room (Nat.le_of_ble_eq_true rfl)) dX10_mostPairs_53 ⟨Nat.le_of_ble_eq_true rfl, Nat.le_of_ble_eq_true rfl⟩).run (fun r53 hr53 => ?_)
            clear hPc
            refine lv_if_eq (tgt := 81) hx hb dX10_mostPairs_56 (by decide) (fun c56 => ?_) (fun c56 => ?_)
            · have be56t_r53 : zB r53 0 0 := zB_eq c56 hr53 (show zB 0 0 0 from ⟨by decide, by decide⟩) (by decide) (by decide)
              exact j81 ls v34_4 bv34_4_k34 sME_now_0_k34 (lv_sub hl [0, 1, 2, 3, 4, 5] rfl)
            · have bn56f_r53 : zB r53 1 1 := zB_neL c56 hr53 (show zB 0 0 0 from ⟨by decide, by decide⟩) (by decide)
              refine lv_iload hx hb dX10_mostPairs_59 (lv_at hl 1 rfl) ?_
              refine lv_iconst (v := 1) hx hb dX10_mostPairs_61 (by decide) ?_
              refine lv_aload_n hx hb dX10_mostPairs_62 rfl (lv_at hl 3 rfl) ?_
              refine lv_iload_n hx hb dX10_mostPairs_63 rfl (lv_at hl 4 rfl) ?_
              refine lv_iconst (v := 1) hx hb dX10_mostPairs_64 (by decide) ?_
              refine lv_iadd hx hb dX10_mostPairs_65 ?_
              refine lv_topi (fun y65 ey65 => ?_)
              obtain rfl : y65 = 3 := ey65.trans (by decide)
              refine lv_iload_n hx hb dX10_mostPairs_66 rfl (lv_at hl 5 rfl) ?_
              refine lv_iconst (v := 1) hx hb dX10_mostPairs_67 (by decide) ?_
              refine lv_iload hx hb dX10_mostPairs_68 (lv_at hl 0 rfl) ?_
              refine lv_ishl hx hb dX10_mostPairs_70 ?_
              refine zi_top (a := 1) (b := 32) (zB_shl1 bx37f_v34_5 (by decide) (by decide) (by decide) (by decide)) (fun y70 by70 => ?_)
              refine lv_ior hx hb dX10_mostPairs_71 ?_
              refine lv_topi (fun y71 _ => ?_)
              have hPc := hP.sub (ws' := [(TR, .inr (10, oX10 ME)), (ME, .inr (3, oX3 FL aME ME_oldest ME_done ME_undone)), (FL, .inr (0, oX0 PL aFL FL_parting)), (PL, .inr (5, oX5 FO aPL PL_rooms PL_doors PL_things PL_draw PL_drawTold)), ((aME 1), .inl (cI, 32, .inl ME_now)), ((aPL 11), .inl (cI, 6, .inl PL_us)), ((aPL 12), .inl (cI, 6, .inl PL_them))]) [0, 1, 2, 3, 4, 5, 6] rfl
              refine vp_callSi (va_runV (As := [.int 3, .int y71]) (rest := [.int 1, .int v34_4]) ⟨hx, hb, hml, hown, hts⟩ (c_X10_mostPairs_3 l D cI cB cL cZ cG TR y71 ME FL aME ME_oldest ME_done ME_undone PL aFL FL_parting PL_rooms aPL PL_doors PL_things FO PL_draw PL_drawTold ME_now PL_us PL_them b_ME_oldest b_ME_done b_ME_undone b_PL_rooms b_PL_doors (zB_w by16t_PL_things (by decide) (by decide)) sME_now_0_k34) (cwV 2 hts gX10_mostPairs_X10_mostPairs rfl rfl rfl (by decide +kernel) ⟨Nat.le_of_ble_eq_true rfl, Nat.le_of_ble_eq_true rfl⟩) ⟨xr_blind, va_recv hK hP (ci := 10) (q0 := 0) rfl rfl, fun U hU hW => xr_mk hU hW hPc hK⟩ rfl rfl hl.1 rfl (lv_room (Nat.le_of_ble_eq_true rfl)) dX10_mostPairs_72 ⟨Nat.le_of_ble_eq_true rfl, Nat.le_of_ble_eq_true rfl⟩).run (fun r72 hr72 => ?_)
              clear hPc
              refine lv_iadd hx hb dX10_mostPairs_75 ?_
              refine zi_top (a := 1) (b := 4) (zB_add (show zB 1 1 1 from ⟨by decide, by decide⟩) hr72 (by decide) (by decide) (by decide) (by decide)) (fun y75 by75 => ?_)
              refine va_mmax hx hb (by rw [hml]; exact hl.1.symm) hown (hts (.methodLink RX10 64 Lib.Math.max.name) (List.mem_of_getElem? (i := 5) rfl)) (hts (.static Lib.Math.max.name) (List.mem_of_getElem? (i := 6) rfl)) (hts (.initialized "java/lang/Math") (List.mem_of_getElem? (i := 7) rfl)) (hts (.code Lib.Math.max.name Lib.Math.max.code 2 (some .int)) (List.mem_of_getElem? (i := 8) rfl)) (Nat.le_of_ble_eq_true rfl) (Nat.le_of_ble_eq_true rfl) (Nat.le_of_ble_eq_true rfl) (Nat.le_of_ble_eq_true rfl) dX10_mostPairs_76 ?_
              refine zi_top (a := 1) (b := 4) (zB_max bv34_4_k34 by75 (by decide) (by decide)) (fun y76 by76 => ?_)
              refine lv_istore (lv' := [(4, .int y76), (5, .int v34_5), (3, .int PL_things), (0, .ref TR), (1, .int 2), (2, .int x1)]) hx hb dX10_mostPairs_79 hl (by decide) rfl (fun ls hl => ?_)
              exact j81 ls y76 (zB_w by76 (by decide) (by decide)) sME_now_0_k34 (lv_sub hl [1, 0, 2, 3, 4, 5] rfl)
    refine lv_istore (lv' := [(5, .int 0), (4, .int r26), (3, .int PL_things), (0, .ref TR), (1, .int 2), (2, .int x1)]) hx hb dX10_mostPairs_32 hl (by decide) rfl (fun ls hl => ?_)
    exact j34 7 ls 0 r26 (zB_w (show zB 0 0 0 from ⟨by decide, by decide⟩) (by decide) (by decide)) (zB_w hr26 (by decide) (by decide)) s_ME_now_0 (zM_ui (show zB 0 0 0 from ⟨by decide, by decide⟩) (by decide)) (lv_sub hl [0, 1, 2, 3, 4, 5] rfl)
  · have bx16f_PL_things : zB PL_things 0 2 := zB_leu (zg c16) b_PL_things (show zB 2 2 2 from ⟨by decide, by decide⟩) (by decide)
    refine lv_iconst (v := 0) hx hb dX10_mostPairs_19 (by decide) ?_
    exact up _ _ _ (W.iret (v := 0) hx hb hr (fun t ht hW => ⟨0, rfl, (zB_w (show zB 0 0 0 from ⟨by decide, by decide⟩) (by decide) (by decide)), ht⟩) (fun q hq => by cases hq) dX10_mostPairs_20)
set_option maxHeartbeats 4000000 in
set_option maxRecDepth 100000 in
theorem c_X10_mostPairs_1 (l : Launch) (D : va_G) (cI : ClassId) (cB : ClassId) (cL : ClassId) (cZ : ClassId) (cG : ClassId) (TR : Nat) (x1 : Int32) (ME : Nat) (FL : Nat) (aME : Nat → Nat) (ME_oldest : Int32) (ME_done : Int32) (ME_undone : Int32) (PL : Nat) (aFL : Nat → Nat) (FL_parting : Int32) (PL_rooms : Int32) (aPL : Nat → Nat) (PL_doors : Int32) (PL_things : Int32) (FO : Nat) (PL_draw : Int32) (PL_drawTold : Int32) (ME_now : Nat → Int32) (PL_us : Nat → Int32) (PL_them : Nat → Int32) (b_ME_oldest : zB ME_oldest 0 40) (b_ME_done : zB ME_done 0 40) (b_ME_undone : zB ME_undone 0 40) (b_PL_rooms : zB PL_rooms 0 8) (b_PL_doors : zB PL_doors 0 12) (b_PL_things : zB PL_things 0 6) (s_ME_now_0 : zA ME_now 0 12 0 7) : Met l yX10_mostPairs wsX10_mostPairs ({ frames := 6, cells := 0, slots := 0, locals := 145 }) (xr D [(cI, .int), (cB, .byte), (cL, .long), (cZ, .boolean), (cG, .array .int)] [(TR, .inr (10, oX10 ME)), (ME, .inr (3, oX3 FL aME ME_oldest ME_done ME_undone)), (FL, .inr (0, oX0 PL aFL FL_parting)), (PL, .inr (5, oX5 FO aPL PL_rooms PL_doors PL_things PL_draw PL_drawTold)), ((aME 1), .inl (cI, 32, .inl ME_now)), ((aPL 11), .inl (cI, 6, .inl PL_us)), ((aPL 12), .inl (cI, 6, .inl PL_them))] [.ref TR, .int 1, .int x1]) (vp_Si (fun r => zB r 0 5)) 0 0 (fun _ => False) := by
  refine Met.ofW (cc := cX10_mostPairs) (maxL := 6) (ret := (some .int)) (by decide) rfl ?_
  intro p e s m args below meth c s₁ B hml hv
  obtain ⟨rfl, hP, hK⟩ := hv
  have hx := B.exec
  have hb := B.bytes
  have hr := B.returns
  have hts := atoms_spec (ws := wsX10_mostPairs) B.pre
  have hown : s.vm.findClass RX10 = some m.cls := findClass_of_methodNamed B.named
  have hlocks := B.notSynchronized
  clear B
  have hl := lv_entry ([.ref TR, .int 1, .int x1]) (n := 6) (Nat.le_of_ble_eq_true rfl)
  rw [lg_entry_eq]
  generalize (lg_sl ([.ref TR, .int 1, .int x1]) ++ List.replicate (6 - (lg_sl ([.ref TR, .int 1, .int x1])).length) Slot.unset).toArray = ls at hl ⊢
  replace hl : lv_has ls 6 [(0, .ref TR), (1, .int 1), (2, .int x1)] := hl
  refine zz_abs (R := ({ frames := 6, cells := 0, slots := 0, locals := 145 } : Room)) (fun Q up => ?_)
  refine lv_aload_n hx hb dX10_mostPairs_0 rfl (lv_at hl 0 rfl) ?_
  refine va_get (D := D) (ci := 10) (v := .ref ME) (C := RX10) (T := TX10) (N := 1) hx hb hts iw_X10_mostPairs_X10 hown hK hP 0 rfl rfl 0 (by decide) (hts (.fieldLink RX10 9 "SoldHouse$Trader" "memory" "LSoldHouse$Memory;") (List.mem_of_getElem? (i := 1) rfl)) (fun _ h9 => h9) rfl dX10_mostPairs_1 ?_
  refine va_get (D := D) (ci := 3) (v := .ref FL) (C := RX3) (T := TX3) (N := 9) hx hb hts iw_X10_mostPairs_X3 hown hK hP 1 rfl rfl 0 (by decide) (hts (.fieldLink RX10 15 "SoldHouse$Memory" "floor" "LSoldHouse$Floor;") (List.mem_of_getElem? (i := 2) rfl)) (fun _ h9 => h9) rfl dX10_mostPairs_4 ?_
  refine va_get (D := D) (ci := 0) (v := .ref PL) (C := RX0) (T := TX0) (N := 5) hx hb hts iw_X10_mostPairs_X0 hown hK hP 2 rfl rfl 0 (by decide) (hts (.fieldLink RX10 21 "SoldHouse$Floor" "plan" "LSoldHouse$Plan;") (List.mem_of_getElem? (i := 3) rfl)) (fun _ h9 => h9) rfl dX10_mostPairs_7 ?_
  refine va_get (D := D) (ci := 5) (v := .int PL_things) (C := RX5) (T := TX5) (N := 16) hx hb hts iw_X10_mostPairs_X5 hown hK hP 3 rfl rfl 6 (by decide) (hts (.fieldLink RX10 27 "SoldHouse$Plan" "things" "I") (List.mem_of_getElem? (i := 4) rfl)) (fun _ h9 => h9) rfl dX10_mostPairs_10 ?_
  refine lv_istore_n (lv' := [(3, .int PL_things), (0, .ref TR), (1, .int 1), (2, .int x1)]) hx hb dX10_mostPairs_13 rfl hl (by decide) rfl (fun ls hl => ?_)
  refine lv_iload_n hx hb dX10_mostPairs_14 rfl (lv_at hl 2 rfl) ?_
  refine lv_iload_n hx hb dX10_mostPairs_15 rfl (lv_at hl 0 rfl) ?_
  refine lv_icmp_lt (tgt := 21) hx hb dX10_mostPairs_16 (by decide) (fun c16 => ?_) (fun c16 => ?_)
  · have by16t_PL_things : zB PL_things 2 6 := zB_ltv (zl c16) (show zB 1 1 1 from ⟨by decide, by decide⟩) b_PL_things (by decide)
    refine lv_aload_n hx hb dX10_mostPairs_21 rfl (lv_at hl 1 rfl) ?_
    refine lv_iload_n hx hb dX10_mostPairs_22 rfl (lv_at hl 2 rfl) ?_
    refine lv_iconst (v := 1) hx hb dX10_mostPairs_23 (by decide) ?_
    refine lv_iadd hx hb dX10_mostPairs_24 ?_
    refine lv_topi (fun y24 ey24 => ?_)
    obtain rfl : y24 = 2 := ey24.trans (by decide)
    refine lv_iload_n hx hb dX10_mostPairs_25 rfl (lv_at hl 3 rfl) ?_
    have hPc := hP.sub (ws' := [(TR, .inr (10, oX10 ME)), (ME, .inr (3, oX3 FL aME ME_oldest ME_done ME_undone)), (FL, .inr (0, oX0 PL aFL FL_parting)), (PL, .inr (5, oX5 FO aPL PL_rooms PL_doors PL_things PL_draw PL_drawTold)), ((aME 1), .inl (cI, 32, .inl ME_now)), ((aPL 11), .inl (cI, 6, .inl PL_us)), ((aPL 12), .inl (cI, 6, .inl PL_them))]) [0, 1, 2, 3, 4, 5, 6] rfl
    refine vp_callSi (va_runV (As := [.int 2, .int x1]) (rest := []) ⟨hx, hb, hml, hown, hts⟩ (c_X10_mostPairs_2 l D cI cB cL cZ cG TR x1 ME FL aME ME_oldest ME_done ME_undone PL aFL FL_parting PL_rooms aPL PL_doors PL_things FO PL_draw PL_drawTold ME_now PL_us PL_them b_ME_oldest b_ME_done b_ME_undone b_PL_rooms b_PL_doors (zB_w by16t_PL_things (by decide) (by decide)) s_ME_now_0) (cwV 2 hts gX10_mostPairs_X10_mostPairs rfl rfl rfl (by decide +kernel) ⟨Nat.le_of_ble_eq_true rfl, Nat.le_of_ble_eq_true rfl⟩) ⟨xr_blind, va_recv hK hP (ci := 10) (q0 := 0) rfl rfl, fun U hU hW => xr_mk hU hW hPc hK⟩ rfl rfl hl.1 rfl (lv_room (Nat.le_of_ble_eq_true rfl)) dX10_mostPairs_26 ⟨Nat.le_of_ble_eq_true rfl, Nat.le_of_ble_eq_true rfl⟩).run (fun r26 hr26 => ?_)
    clear hPc
    refine lv_istore (lv' := [(4, .int r26), (3, .int PL_things), (0, .ref TR), (1, .int 1), (2, .int x1)]) hx hb dX10_mostPairs_29 hl (by decide) rfl (fun ls hl => ?_)
    refine lv_iconst (v := 0) hx hb dX10_mostPairs_31 (by decide) ?_
    have j34 : ∀ (n34 : Nat) (ls : Array Slot) (v34_5 : Int32) (v34_4 : Int32), zB v34_5 0 6 → zB v34_4 0 5 → zA ME_now 0 12 0 7 → (6 + 1 - v34_5.toInt) ≤ (n34 : Int) → lv_has ls 6 [(5, .int v34_5), (4, .int v34_4), (3, .int PL_things), (0, .ref TR), (1, .int 1), (2, .int x1)] → W p l e ({ frames := 6, cells := 0, slots := 0, locals := 145 } : Room) s m ([.ref TR, .int 1, .int x1] : List Value).toArray below meth c s.heap [] 0 0 Q (F0 m 34 ls []) := by
      intro n34
      induction n34 with
      | zero => intro ls v34_5 v34_4 bv34_5_k34 bv34_4_k34 sME_now_0_k34 hm34 hl; exact zM_u0 bv34_5_k34 hm34
      | succ n34 ih34 =>
        intro ls v34_5 v34_4 bv34_5_k34 bv34_4_k34 sME_now_0_k34 hm34 hl
        refine lv_iload hx hb dX10_mostPairs_34 (lv_at hl 0 rfl) ?_
        refine lv_iload_n hx hb dX10_mostPairs_36 rfl (lv_at hl 2 rfl) ?_
        refine lv_icmp_ge (tgt := 87) hx hb dX10_mostPairs_37 (by decide) (fun c37 => ?_) (fun c37 => ?_)
        · have by37t_v34_5 : zB v34_5 2 6 := zB_lev (ze c37) by16t_PL_things bv34_5_k34 (by decide)
          refine lv_iload hx hb dX10_mostPairs_87 (lv_at hl 1 rfl) ?_
          exact up _ _ _ (W.iret (v := v34_4) hx hb hr (fun t ht hW => ⟨v34_4, rfl, bv34_4_k34, ht⟩) (fun q hq => by cases hq) dX10_mostPairs_89)
        · have bx37f_v34_5 : zB v34_5 0 5 := zB_ltu (zf c37) bv34_5_k34 by16t_PL_things (by decide)
          refine lv_iload_n hx hb dX10_mostPairs_40 rfl (lv_at hl 5 rfl) ?_
          refine lv_iload hx hb dX10_mostPairs_41 (lv_at hl 0 rfl) ?_
          refine lv_ishr hx hb dX10_mostPairs_43 ?_
          refine lv_topi (fun y43 _ => ?_)
          refine lv_iconst (v := 1) hx hb dX10_mostPairs_44 (by decide) ?_
          refine lv_iand hx hb dX10_mostPairs_45 ?_
          refine zi_top (a := 0) (b := 1) (zB_andr (show zB 1 1 1 from ⟨by decide, by decide⟩) (by decide)) (fun y45 by45 => ?_)
          have j81 : ∀ (ls : Array Slot) (v81_4 : Int32), zB v81_4 0 5 → zA ME_now 0 12 0 7 → lv_has ls 6 [(5, .int v34_5), (4, .int v81_4), (3, .int PL_things), (0, .ref TR), (1, .int 1), (2, .int x1)] → W p l e ({ frames := 6, cells := 0, slots := 0, locals := 145 } : Room) s m ([.ref TR, .int 1, .int x1] : List Value).toArray below meth c s.heap [] 0 0 Q (F0 m 81 ls []) := by
            intro ls v81_4 bv81_4_k81 sME_now_0_k81 hl
            obtain ⟨y81, by81, ry81, ey81⟩ := zi_inc (x := v34_5) (k := 1) (a := 1) (b := 6) bx37f_v34_5 (by decide) (by decide) (by decide) (by decide) (by decide)
            refine lv_iinc (v := y81) (lv' := [(5, .int y81), (4, .int v81_4), (3, .int PL_things), (0, .ref TR), (1, .int 1), (2, .int x1)]) hx hb dX10_mostPairs_81 hl (k := 0) rfl ey81 (by decide) rfl (fun ls hl => ?_)
            refine lv_goto (tgt := 34) hx hb dX10_mostPairs_84 (by decide) ?_
            exact ih34 ls y81 v81_4 (zB_w by81 (by decide) (by decide)) bv81_4_k81 sME_now_0_k81 (zM_us (k := 1) hm34 ry81 (by decide)) (lv_sub hl [0, 1, 2, 3, 4, 5] rfl)
          refine lv_if_ne (tgt := 81) hx hb dX10_mostPairs_46 (by decide) (fun c46 => ?_) (fun c46 => ?_)
          · have bn46t_y45 : zB y45 1 1 := zB_neL c46 by45 (show zB 0 0 0 from ⟨by decide, by decide⟩) (by decide)
            exact j81 ls v34_4 bv34_4_k34 sME_now_0_k34 (lv_sub hl [0, 1, 2, 3, 4, 5] rfl)
          · have be46f_y45 : zB y45 0 0 := zB_eq c46 by45 (show zB 0 0 0 from ⟨by decide, by decide⟩) (by decide) (by decide)
            refine lv_aload_n hx hb dX10_mostPairs_49 rfl (lv_at hl 3 rfl) ?_
            refine lv_iload_n hx hb dX10_mostPairs_50 rfl (lv_at hl 4 rfl) ?_
            refine lv_iload hx hb dX10_mostPairs_51 (lv_at hl 0 rfl) ?_
            have hPc := hP.sub (ws' := [(TR, .inr (10, oX10 ME)), (ME, .inr (3, oX3 FL aME ME_oldest ME_done ME_undone)), (FL, .inr (0, oX0 PL aFL FL_parting)), (PL, .inr (5, oX5 FO aPL PL_rooms PL_doors PL_things PL_draw PL_drawTold)), ((aME 1), .inl (cI, 32, .inl ME_now)), ((aPL 11), .inl (cI, 6, .inl PL_us)), ((aPL 12), .inl (cI, 6, .inl PL_them))]) [0, 1, 2, 3, 4, 5, 6] rfl
            refine vp_callSi (va_runV (As := [.int 1, .int v34_5]) (rest := []) ⟨hx, hb, hml, hown, hts⟩ (c_X10_isFair l D cI cB cL cZ cG TR 1 v34_5 ME FL aME ME_oldest ME_done ME_undone PL aFL FL_parting PL_rooms aPL PL_doors PL_things FO PL_draw PL_drawTold ME_now PL_us PL_them (zB_w (show zB 1 1 1 from ⟨by decide, by decide⟩) (by decide) (by decide)) bx37f_v34_5 b_ME_oldest b_ME_done b_ME_undone b_PL_rooms b_PL_doors (zB_w by16t_PL_things (by decide) (by decide)) sME_now_0_k34) (cwV 2 hts gX10_mostPairs_X10_isFair rfl rfl rfl (by decide +kernel) ⟨Nat.le_of_ble_eq_true rfl, Nat.le_of_ble_eq_true rfl⟩) ⟨xr_blind, va_recv hK hP (ci := 10) (q0 := 0) rfl rfl, fun U hU hW => xr_mk hU hW hPc hK⟩ rfl rfl hl.1 rfl (lv_room (Nat.le_of_ble_eq_true rfl)) dX10_mostPairs_53 ⟨Nat.le_of_ble_eq_true rfl, Nat.le_of_ble_eq_true rfl⟩).run (fun r53 hr53 => ?_)
            clear hPc
            refine lv_if_eq (tgt := 81) hx hb dX10_mostPairs_56 (by decide) (fun c56 => ?_) (fun c56 => ?_)
            · have be56t_r53 : zB r53 0 0 := zB_eq c56 hr53 (show zB 0 0 0 from ⟨by decide, by decide⟩) (by decide) (by decide)
              exact j81 ls v34_4 bv34_4_k34 sME_now_0_k34 (lv_sub hl [0, 1, 2, 3, 4, 5] rfl)
            · have bn56f_r53 : zB r53 1 1 := zB_neL c56 hr53 (show zB 0 0 0 from ⟨by decide, by decide⟩) (by decide)
              refine lv_iload hx hb dX10_mostPairs_59 (lv_at hl 1 rfl) ?_
              refine lv_iconst (v := 1) hx hb dX10_mostPairs_61 (by decide) ?_
              refine lv_aload_n hx hb dX10_mostPairs_62 rfl (lv_at hl 3 rfl) ?_
              refine lv_iload_n hx hb dX10_mostPairs_63 rfl (lv_at hl 4 rfl) ?_
              refine lv_iconst (v := 1) hx hb dX10_mostPairs_64 (by decide) ?_
              refine lv_iadd hx hb dX10_mostPairs_65 ?_
              refine lv_topi (fun y65 ey65 => ?_)
              obtain rfl : y65 = 2 := ey65.trans (by decide)
              refine lv_iload_n hx hb dX10_mostPairs_66 rfl (lv_at hl 5 rfl) ?_
              refine lv_iconst (v := 1) hx hb dX10_mostPairs_67 (by decide) ?_
              refine lv_iload hx hb dX10_mostPairs_68 (lv_at hl 0 rfl) ?_
              refine lv_ishl hx hb dX10_mostPairs_70 ?_
              refine zi_top (a := 1) (b := 32) (zB_shl1 bx37f_v34_5 (by decide) (by decide) (by decide) (by decide)) (fun y70 by70 => ?_)
              refine lv_ior hx hb dX10_mostPairs_71 ?_
              refine lv_topi (fun y71 _ => ?_)
              have hPc := hP.sub (ws' := [(TR, .inr (10, oX10 ME)), (ME, .inr (3, oX3 FL aME ME_oldest ME_done ME_undone)), (FL, .inr (0, oX0 PL aFL FL_parting)), (PL, .inr (5, oX5 FO aPL PL_rooms PL_doors PL_things PL_draw PL_drawTold)), ((aME 1), .inl (cI, 32, .inl ME_now)), ((aPL 11), .inl (cI, 6, .inl PL_us)), ((aPL 12), .inl (cI, 6, .inl PL_them))]) [0, 1, 2, 3, 4, 5, 6] rfl
              refine vp_callSi (va_runV (As := [.int 2, .int y71]) (rest := [.int 1, .int v34_4]) ⟨hx, hb, hml, hown, hts⟩ (c_X10_mostPairs_2 l D cI cB cL cZ cG TR y71 ME FL aME ME_oldest ME_done ME_undone PL aFL FL_parting PL_rooms aPL PL_doors PL_things FO PL_draw PL_drawTold ME_now PL_us PL_them b_ME_oldest b_ME_done b_ME_undone b_PL_rooms b_PL_doors (zB_w by16t_PL_things (by decide) (by decide)) sME_now_0_k34) (cwV 2 hts gX10_mostPairs_X10_mostPairs rfl rfl rfl (by decide +kernel) ⟨Nat.le_of_ble_eq_true rfl, Nat.le_of_ble_eq_true rfl⟩) ⟨xr_blind, va_recv hK hP (ci := 10) (q0 := 0) rfl rfl, fun U hU hW => xr_mk hU hW hPc hK⟩ rfl rfl hl.1 rfl (lv_room (Nat.le_of_ble_eq_true rfl)) dX10_mostPairs_72 ⟨Nat.le_of_ble_eq_true rfl, Nat.le_of_ble_eq_true rfl⟩).run (fun r72 hr72 => ?_)
              clear hPc
              refine lv_iadd hx hb dX10_mostPairs_75 ?_
              refine zi_top (a := 1) (b := 5) (zB_add (show zB 1 1 1 from ⟨by decide, by decide⟩) hr72 (by decide) (by decide) (by decide) (by decide)) (fun y75 by75 => ?_)
              refine va_mmax hx hb (by rw [hml]; exact hl.1.symm) hown (hts (.methodLink RX10 64 Lib.Math.max.name) (List.mem_of_getElem? (i := 5) rfl)) (hts (.static Lib.Math.max.name) (List.mem_of_getElem? (i := 6) rfl)) (hts (.initialized "java/lang/Math") (List.mem_of_getElem? (i := 7) rfl)) (hts (.code Lib.Math.max.name Lib.Math.max.code 2 (some .int)) (List.mem_of_getElem? (i := 8) rfl)) (Nat.le_of_ble_eq_true rfl) (Nat.le_of_ble_eq_true rfl) (Nat.le_of_ble_eq_true rfl) (Nat.le_of_ble_eq_true rfl) dX10_mostPairs_76 ?_
              refine zi_top (a := 1) (b := 5) (zB_max bv34_4_k34 by75 (by decide) (by decide)) (fun y76 by76 => ?_)
              refine lv_istore (lv' := [(4, .int y76), (5, .int v34_5), (3, .int PL_things), (0, .ref TR), (1, .int 1), (2, .int x1)]) hx hb dX10_mostPairs_79 hl (by decide) rfl (fun ls hl => ?_)
              exact j81 ls y76 (zB_w by76 (by decide) (by decide)) sME_now_0_k34 (lv_sub hl [1, 0, 2, 3, 4, 5] rfl)
    refine lv_istore (lv' := [(5, .int 0), (4, .int r26), (3, .int PL_things), (0, .ref TR), (1, .int 1), (2, .int x1)]) hx hb dX10_mostPairs_32 hl (by decide) rfl (fun ls hl => ?_)
    exact j34 7 ls 0 r26 (zB_w (show zB 0 0 0 from ⟨by decide, by decide⟩) (by decide) (by decide)) (zB_w hr26 (by decide) (by decide)) s_ME_now_0 (zM_ui (show zB 0 0 0 from ⟨by decide, by decide⟩) (by decide)) (lv_sub hl [0, 1, 2, 3, 4, 5] rfl)
  · have bx16f_PL_things : zB PL_things 0 1 := zB_leu (zg c16) b_PL_things (show zB 1 1 1 from ⟨by decide, by decide⟩) (by decide)
    refine lv_iconst (v := 0) hx hb dX10_mostPairs_19 (by decide) ?_
    exact up _ _ _ (W.iret (v := 0) hx hb hr (fun t ht hW => ⟨0, rfl, (zB_w (show zB 0 0 0 from ⟨by decide, by decide⟩) (by decide) (by decide)), ht⟩) (fun q hq => by cases hq) dX10_mostPairs_20)
set_option maxHeartbeats 4000000 in
set_option maxRecDepth 100000 in
theorem c_X10_mostPairs_0 (l : Launch) (D : va_G) (cI : ClassId) (cB : ClassId) (cL : ClassId) (cZ : ClassId) (cG : ClassId) (TR : Nat) (x1 : Int32) (ME : Nat) (FL : Nat) (aME : Nat → Nat) (ME_oldest : Int32) (ME_done : Int32) (ME_undone : Int32) (PL : Nat) (aFL : Nat → Nat) (FL_parting : Int32) (PL_rooms : Int32) (aPL : Nat → Nat) (PL_doors : Int32) (PL_things : Int32) (FO : Nat) (PL_draw : Int32) (PL_drawTold : Int32) (ME_now : Nat → Int32) (PL_us : Nat → Int32) (PL_them : Nat → Int32) (b_ME_oldest : zB ME_oldest 0 40) (b_ME_done : zB ME_done 0 40) (b_ME_undone : zB ME_undone 0 40) (b_PL_rooms : zB PL_rooms 0 8) (b_PL_doors : zB PL_doors 0 12) (b_PL_things : zB PL_things 0 6) (s_ME_now_0 : zA ME_now 0 12 0 7) : Met l yX10_mostPairs wsX10_mostPairs ({ frames := 7, cells := 0, slots := 0, locals := 170 }) (xr D [(cI, .int), (cB, .byte), (cL, .long), (cZ, .boolean), (cG, .array .int)] [(TR, .inr (10, oX10 ME)), (ME, .inr (3, oX3 FL aME ME_oldest ME_done ME_undone)), (FL, .inr (0, oX0 PL aFL FL_parting)), (PL, .inr (5, oX5 FO aPL PL_rooms PL_doors PL_things PL_draw PL_drawTold)), ((aME 1), .inl (cI, 32, .inl ME_now)), ((aPL 11), .inl (cI, 6, .inl PL_us)), ((aPL 12), .inl (cI, 6, .inl PL_them))] [.ref TR, .int 0, .int x1]) (vp_Si (fun r => zB r 0 6)) 0 0 (fun _ => False) := by
  refine Met.ofW (cc := cX10_mostPairs) (maxL := 6) (ret := (some .int)) (by decide) rfl ?_
  intro p e s m args below meth c s₁ B hml hv
  obtain ⟨rfl, hP, hK⟩ := hv
  have hx := B.exec
  have hb := B.bytes
  have hr := B.returns
  have hts := atoms_spec (ws := wsX10_mostPairs) B.pre
  have hown : s.vm.findClass RX10 = some m.cls := findClass_of_methodNamed B.named
  have hlocks := B.notSynchronized
  clear B
  have hl := lv_entry ([.ref TR, .int 0, .int x1]) (n := 6) (Nat.le_of_ble_eq_true rfl)
  rw [lg_entry_eq]
  generalize (lg_sl ([.ref TR, .int 0, .int x1]) ++ List.replicate (6 - (lg_sl ([.ref TR, .int 0, .int x1])).length) Slot.unset).toArray = ls at hl ⊢
  replace hl : lv_has ls 6 [(0, .ref TR), (1, .int 0), (2, .int x1)] := hl
  refine zz_abs (R := ({ frames := 7, cells := 0, slots := 0, locals := 170 } : Room)) (fun Q up => ?_)
  refine lv_aload_n hx hb dX10_mostPairs_0 rfl (lv_at hl 0 rfl) ?_
  refine va_get (D := D) (ci := 10) (v := .ref ME) (C := RX10) (T := TX10) (N := 1) hx hb hts iw_X10_mostPairs_X10 hown hK hP 0 rfl rfl 0 (by decide) (hts (.fieldLink RX10 9 "SoldHouse$Trader" "memory" "LSoldHouse$Memory;") (List.mem_of_getElem? (i := 1) rfl)) (fun _ h9 => h9) rfl dX10_mostPairs_1 ?_
  refine va_get (D := D) (ci := 3) (v := .ref FL) (C := RX3) (T := TX3) (N := 9) hx hb hts iw_X10_mostPairs_X3 hown hK hP 1 rfl rfl 0 (by decide) (hts (.fieldLink RX10 15 "SoldHouse$Memory" "floor" "LSoldHouse$Floor;") (List.mem_of_getElem? (i := 2) rfl)) (fun _ h9 => h9) rfl dX10_mostPairs_4 ?_
  refine va_get (D := D) (ci := 0) (v := .ref PL) (C := RX0) (T := TX0) (N := 5) hx hb hts iw_X10_mostPairs_X0 hown hK hP 2 rfl rfl 0 (by decide) (hts (.fieldLink RX10 21 "SoldHouse$Floor" "plan" "LSoldHouse$Plan;") (List.mem_of_getElem? (i := 3) rfl)) (fun _ h9 => h9) rfl dX10_mostPairs_7 ?_
  refine va_get (D := D) (ci := 5) (v := .int PL_things) (C := RX5) (T := TX5) (N := 16) hx hb hts iw_X10_mostPairs_X5 hown hK hP 3 rfl rfl 6 (by decide) (hts (.fieldLink RX10 27 "SoldHouse$Plan" "things" "I") (List.mem_of_getElem? (i := 4) rfl)) (fun _ h9 => h9) rfl dX10_mostPairs_10 ?_
  refine lv_istore_n (lv' := [(3, .int PL_things), (0, .ref TR), (1, .int 0), (2, .int x1)]) hx hb dX10_mostPairs_13 rfl hl (by decide) rfl (fun ls hl => ?_)
  refine lv_iload_n hx hb dX10_mostPairs_14 rfl (lv_at hl 2 rfl) ?_
  refine lv_iload_n hx hb dX10_mostPairs_15 rfl (lv_at hl 0 rfl) ?_
  refine lv_icmp_lt (tgt := 21) hx hb dX10_mostPairs_16 (by decide) (fun c16 => ?_) (fun c16 => ?_)
  · have by16t_PL_things : zB PL_things 1 6 := zB_ltv (zl c16) (show zB 0 0 0 from ⟨by decide, by decide⟩) b_PL_things (by decide)
    refine lv_aload_n hx hb dX10_mostPairs_21 rfl (lv_at hl 1 rfl) ?_
    refine lv_iload_n hx hb dX10_mostPairs_22 rfl (lv_at hl 2 rfl) ?_
    refine lv_iconst (v := 1) hx hb dX10_mostPairs_23 (by decide) ?_
    refine lv_iadd hx hb dX10_mostPairs_24 ?_
    refine lv_topi (fun y24 ey24 => ?_)
    obtain rfl : y24 = 1 := ey24.trans (by decide)
    refine lv_iload_n hx hb dX10_mostPairs_25 rfl (lv_at hl 3 rfl) ?_
    have hPc := hP.sub (ws' := [(TR, .inr (10, oX10 ME)), (ME, .inr (3, oX3 FL aME ME_oldest ME_done ME_undone)), (FL, .inr (0, oX0 PL aFL FL_parting)), (PL, .inr (5, oX5 FO aPL PL_rooms PL_doors PL_things PL_draw PL_drawTold)), ((aME 1), .inl (cI, 32, .inl ME_now)), ((aPL 11), .inl (cI, 6, .inl PL_us)), ((aPL 12), .inl (cI, 6, .inl PL_them))]) [0, 1, 2, 3, 4, 5, 6] rfl
    refine vp_callSi (va_runV (As := [.int 1, .int x1]) (rest := []) ⟨hx, hb, hml, hown, hts⟩ (c_X10_mostPairs_1 l D cI cB cL cZ cG TR x1 ME FL aME ME_oldest ME_done ME_undone PL aFL FL_parting PL_rooms aPL PL_doors PL_things FO PL_draw PL_drawTold ME_now PL_us PL_them b_ME_oldest b_ME_done b_ME_undone b_PL_rooms b_PL_doors (zB_w by16t_PL_things (by decide) (by decide)) s_ME_now_0) (cwV 2 hts gX10_mostPairs_X10_mostPairs rfl rfl rfl (by decide +kernel) ⟨Nat.le_of_ble_eq_true rfl, Nat.le_of_ble_eq_true rfl⟩) ⟨xr_blind, va_recv hK hP (ci := 10) (q0 := 0) rfl rfl, fun U hU hW => xr_mk hU hW hPc hK⟩ rfl rfl hl.1 rfl (lv_room (Nat.le_of_ble_eq_true rfl)) dX10_mostPairs_26 ⟨Nat.le_of_ble_eq_true rfl, Nat.le_of_ble_eq_true rfl⟩).run (fun r26 hr26 => ?_)
    clear hPc
    refine lv_istore (lv' := [(4, .int r26), (3, .int PL_things), (0, .ref TR), (1, .int 0), (2, .int x1)]) hx hb dX10_mostPairs_29 hl (by decide) rfl (fun ls hl => ?_)
    refine lv_iconst (v := 0) hx hb dX10_mostPairs_31 (by decide) ?_
    have j34 : ∀ (n34 : Nat) (ls : Array Slot) (v34_5 : Int32) (v34_4 : Int32), zB v34_5 0 6 → zB v34_4 0 6 → zA ME_now 0 12 0 7 → (6 + 1 - v34_5.toInt) ≤ (n34 : Int) → lv_has ls 6 [(5, .int v34_5), (4, .int v34_4), (3, .int PL_things), (0, .ref TR), (1, .int 0), (2, .int x1)] → W p l e ({ frames := 7, cells := 0, slots := 0, locals := 170 } : Room) s m ([.ref TR, .int 0, .int x1] : List Value).toArray below meth c s.heap [] 0 0 Q (F0 m 34 ls []) := by
      intro n34
      induction n34 with
      | zero => intro ls v34_5 v34_4 bv34_5_k34 bv34_4_k34 sME_now_0_k34 hm34 hl; exact zM_u0 bv34_5_k34 hm34
      | succ n34 ih34 =>
        intro ls v34_5 v34_4 bv34_5_k34 bv34_4_k34 sME_now_0_k34 hm34 hl
        refine lv_iload hx hb dX10_mostPairs_34 (lv_at hl 0 rfl) ?_
        refine lv_iload_n hx hb dX10_mostPairs_36 rfl (lv_at hl 2 rfl) ?_
        refine lv_icmp_ge (tgt := 87) hx hb dX10_mostPairs_37 (by decide) (fun c37 => ?_) (fun c37 => ?_)
        · have by37t_v34_5 : zB v34_5 1 6 := zB_lev (ze c37) by16t_PL_things bv34_5_k34 (by decide)
          refine lv_iload hx hb dX10_mostPairs_87 (lv_at hl 1 rfl) ?_
          exact up _ _ _ (W.iret (v := v34_4) hx hb hr (fun t ht hW => ⟨v34_4, rfl, bv34_4_k34, ht⟩) (fun q hq => by cases hq) dX10_mostPairs_89)
        · have bx37f_v34_5 : zB v34_5 0 5 := zB_ltu (zf c37) bv34_5_k34 by16t_PL_things (by decide)
          refine lv_iload_n hx hb dX10_mostPairs_40 rfl (lv_at hl 5 rfl) ?_
          refine lv_iload hx hb dX10_mostPairs_41 (lv_at hl 0 rfl) ?_
          refine lv_ishr hx hb dX10_mostPairs_43 ?_
          refine lv_topi (fun y43 _ => ?_)
          refine lv_iconst (v := 1) hx hb dX10_mostPairs_44 (by decide) ?_
          refine lv_iand hx hb dX10_mostPairs_45 ?_
          refine zi_top (a := 0) (b := 1) (zB_andr (show zB 1 1 1 from ⟨by decide, by decide⟩) (by decide)) (fun y45 by45 => ?_)
          have j81 : ∀ (ls : Array Slot) (v81_4 : Int32), zB v81_4 0 6 → zA ME_now 0 12 0 7 → lv_has ls 6 [(5, .int v34_5), (4, .int v81_4), (3, .int PL_things), (0, .ref TR), (1, .int 0), (2, .int x1)] → W p l e ({ frames := 7, cells := 0, slots := 0, locals := 170 } : Room) s m ([.ref TR, .int 0, .int x1] : List Value).toArray below meth c s.heap [] 0 0 Q (F0 m 81 ls []) := by
            intro ls v81_4 bv81_4_k81 sME_now_0_k81 hl
            obtain ⟨y81, by81, ry81, ey81⟩ := zi_inc (x := v34_5) (k := 1) (a := 1) (b := 6) bx37f_v34_5 (by decide) (by decide) (by decide) (by decide) (by decide)
            refine lv_iinc (v := y81) (lv' := [(5, .int y81), (4, .int v81_4), (3, .int PL_things), (0, .ref TR), (1, .int 0), (2, .int x1)]) hx hb dX10_mostPairs_81 hl (k := 0) rfl ey81 (by decide) rfl (fun ls hl => ?_)
            refine lv_goto (tgt := 34) hx hb dX10_mostPairs_84 (by decide) ?_
            exact ih34 ls y81 v81_4 (zB_w by81 (by decide) (by decide)) bv81_4_k81 sME_now_0_k81 (zM_us (k := 1) hm34 ry81 (by decide)) (lv_sub hl [0, 1, 2, 3, 4, 5] rfl)
          refine lv_if_ne (tgt := 81) hx hb dX10_mostPairs_46 (by decide) (fun c46 => ?_) (fun c46 => ?_)
          · have bn46t_y45 : zB y45 1 1 := zB_neL c46 by45 (show zB 0 0 0 from ⟨by decide, by decide⟩) (by decide)
            exact j81 ls v34_4 bv34_4_k34 sME_now_0_k34 (lv_sub hl [0, 1, 2, 3, 4, 5] rfl)
          · have be46f_y45 : zB y45 0 0 := zB_eq c46 by45 (show zB 0 0 0 from ⟨by decide, by decide⟩) (by decide) (by decide)
            refine lv_aload_n hx hb dX10_mostPairs_49 rfl (lv_at hl 3 rfl) ?_
            refine lv_iload_n hx hb dX10_mostPairs_50 rfl (lv_at hl 4 rfl) ?_
            refine lv_iload hx hb dX10_mostPairs_51 (lv_at hl 0 rfl) ?_
            have hPc := hP.sub (ws' := [(TR, .inr (10, oX10 ME)), (ME, .inr (3, oX3 FL aME ME_oldest ME_done ME_undone)), (FL, .inr (0, oX0 PL aFL FL_parting)), (PL, .inr (5, oX5 FO aPL PL_rooms PL_doors PL_things PL_draw PL_drawTold)), ((aME 1), .inl (cI, 32, .inl ME_now)), ((aPL 11), .inl (cI, 6, .inl PL_us)), ((aPL 12), .inl (cI, 6, .inl PL_them))]) [0, 1, 2, 3, 4, 5, 6] rfl
            refine vp_callSi (va_runV (As := [.int 0, .int v34_5]) (rest := []) ⟨hx, hb, hml, hown, hts⟩ (c_X10_isFair l D cI cB cL cZ cG TR 0 v34_5 ME FL aME ME_oldest ME_done ME_undone PL aFL FL_parting PL_rooms aPL PL_doors PL_things FO PL_draw PL_drawTold ME_now PL_us PL_them (zB_w (show zB 0 0 0 from ⟨by decide, by decide⟩) (by decide) (by decide)) bx37f_v34_5 b_ME_oldest b_ME_done b_ME_undone b_PL_rooms b_PL_doors (zB_w by16t_PL_things (by decide) (by decide)) sME_now_0_k34) (cwV 2 hts gX10_mostPairs_X10_isFair rfl rfl rfl (by decide +kernel) ⟨Nat.le_of_ble_eq_true rfl, Nat.le_of_ble_eq_true rfl⟩) ⟨xr_blind, va_recv hK hP (ci := 10) (q0 := 0) rfl rfl, fun U hU hW => xr_mk hU hW hPc hK⟩ rfl rfl hl.1 rfl (lv_room (Nat.le_of_ble_eq_true rfl)) dX10_mostPairs_53 ⟨Nat.le_of_ble_eq_true rfl, Nat.le_of_ble_eq_true rfl⟩).run (fun r53 hr53 => ?_)
            clear hPc
            refine lv_if_eq (tgt := 81) hx hb dX10_mostPairs_56 (by decide) (fun c56 => ?_) (fun c56 => ?_)
            · have be56t_r53 : zB r53 0 0 := zB_eq c56 hr53 (show zB 0 0 0 from ⟨by decide, by decide⟩) (by decide) (by decide)
              exact j81 ls v34_4 bv34_4_k34 sME_now_0_k34 (lv_sub hl [0, 1, 2, 3, 4, 5] rfl)
            · have bn56f_r53 : zB r53 1 1 := zB_neL c56 hr53 (show zB 0 0 0 from ⟨by decide, by decide⟩) (by decide)
              refine lv_iload hx hb dX10_mostPairs_59 (lv_at hl 1 rfl) ?_
              refine lv_iconst (v := 1) hx hb dX10_mostPairs_61 (by decide) ?_
              refine lv_aload_n hx hb dX10_mostPairs_62 rfl (lv_at hl 3 rfl) ?_
              refine lv_iload_n hx hb dX10_mostPairs_63 rfl (lv_at hl 4 rfl) ?_
              refine lv_iconst (v := 1) hx hb dX10_mostPairs_64 (by decide) ?_
              refine lv_iadd hx hb dX10_mostPairs_65 ?_
              refine lv_topi (fun y65 ey65 => ?_)
              obtain rfl : y65 = 1 := ey65.trans (by decide)
              refine lv_iload_n hx hb dX10_mostPairs_66 rfl (lv_at hl 5 rfl) ?_
              refine lv_iconst (v := 1) hx hb dX10_mostPairs_67 (by decide) ?_
              refine lv_iload hx hb dX10_mostPairs_68 (lv_at hl 0 rfl) ?_
              refine lv_ishl hx hb dX10_mostPairs_70 ?_
              refine zi_top (a := 1) (b := 32) (zB_shl1 bx37f_v34_5 (by decide) (by decide) (by decide) (by decide)) (fun y70 by70 => ?_)
              refine lv_ior hx hb dX10_mostPairs_71 ?_
              refine lv_topi (fun y71 _ => ?_)
              have hPc := hP.sub (ws' := [(TR, .inr (10, oX10 ME)), (ME, .inr (3, oX3 FL aME ME_oldest ME_done ME_undone)), (FL, .inr (0, oX0 PL aFL FL_parting)), (PL, .inr (5, oX5 FO aPL PL_rooms PL_doors PL_things PL_draw PL_drawTold)), ((aME 1), .inl (cI, 32, .inl ME_now)), ((aPL 11), .inl (cI, 6, .inl PL_us)), ((aPL 12), .inl (cI, 6, .inl PL_them))]) [0, 1, 2, 3, 4, 5, 6] rfl
              refine vp_callSi (va_runV (As := [.int 1, .int y71]) (rest := [.int 1, .int v34_4]) ⟨hx, hb, hml, hown, hts⟩ (c_X10_mostPairs_1 l D cI cB cL cZ cG TR y71 ME FL aME ME_oldest ME_done ME_undone PL aFL FL_parting PL_rooms aPL PL_doors PL_things FO PL_draw PL_drawTold ME_now PL_us PL_them b_ME_oldest b_ME_done b_ME_undone b_PL_rooms b_PL_doors (zB_w by16t_PL_things (by decide) (by decide)) sME_now_0_k34) (cwV 2 hts gX10_mostPairs_X10_mostPairs rfl rfl rfl (by decide +kernel) ⟨Nat.le_of_ble_eq_true rfl, Nat.le_of_ble_eq_true rfl⟩) ⟨xr_blind, va_recv hK hP (ci := 10) (q0 := 0) rfl rfl, fun U hU hW => xr_mk hU hW hPc hK⟩ rfl rfl hl.1 rfl (lv_room (Nat.le_of_ble_eq_true rfl)) dX10_mostPairs_72 ⟨Nat.le_of_ble_eq_true rfl, Nat.le_of_ble_eq_true rfl⟩).run (fun r72 hr72 => ?_)
              clear hPc
              refine lv_iadd hx hb dX10_mostPairs_75 ?_
              refine zi_top (a := 1) (b := 6) (zB_add (show zB 1 1 1 from ⟨by decide, by decide⟩) hr72 (by decide) (by decide) (by decide) (by decide)) (fun y75 by75 => ?_)
              refine va_mmax hx hb (by rw [hml]; exact hl.1.symm) hown (hts (.methodLink RX10 64 Lib.Math.max.name) (List.mem_of_getElem? (i := 5) rfl)) (hts (.static Lib.Math.max.name) (List.mem_of_getElem? (i := 6) rfl)) (hts (.initialized "java/lang/Math") (List.mem_of_getElem? (i := 7) rfl)) (hts (.code Lib.Math.max.name Lib.Math.max.code 2 (some .int)) (List.mem_of_getElem? (i := 8) rfl)) (Nat.le_of_ble_eq_true rfl) (Nat.le_of_ble_eq_true rfl) (Nat.le_of_ble_eq_true rfl) (Nat.le_of_ble_eq_true rfl) dX10_mostPairs_76 ?_
              refine zi_top (a := 1) (b := 6) (zB_max bv34_4_k34 by75 (by decide) (by decide)) (fun y76 by76 => ?_)
              refine lv_istore (lv' := [(4, .int y76), (5, .int v34_5), (3, .int PL_things), (0, .ref TR), (1, .int 0), (2, .int x1)]) hx hb dX10_mostPairs_79 hl (by decide) rfl (fun ls hl => ?_)
              exact j81 ls y76 (zB_w by76 (by decide) (by decide)) sME_now_0_k34 (lv_sub hl [1, 0, 2, 3, 4, 5] rfl)
    refine lv_istore (lv' := [(5, .int 0), (4, .int r26), (3, .int PL_things), (0, .ref TR), (1, .int 0), (2, .int x1)]) hx hb dX10_mostPairs_32 hl (by decide) rfl (fun ls hl => ?_)
    exact j34 7 ls 0 r26 (zB_w (show zB 0 0 0 from ⟨by decide, by decide⟩) (by decide) (by decide)) (zB_w hr26 (by decide) (by decide)) s_ME_now_0 (zM_ui (show zB 0 0 0 from ⟨by decide, by decide⟩) (by decide)) (lv_sub hl [0, 1, 2, 3, 4, 5] rfl)
  · have bx16f_PL_things : zB PL_things 0 0 := zB_leu (zg c16) b_PL_things (show zB 0 0 0 from ⟨by decide, by decide⟩) (by decide)
    refine lv_iconst (v := 0) hx hb dX10_mostPairs_19 (by decide) ?_
    exact up _ _ _ (W.iret (v := 0) hx hb hr (fun t ht hW => ⟨0, rfl, (zB_w (show zB 0 0 0 from ⟨by decide, by decide⟩) (by decide) (by decide)), ht⟩) (fun q hq => by cases hq) dX10_mostPairs_20)
set_option maxHeartbeats 4000000 in
set_option maxRecDepth 100000 in
theorem c_X10_mostTrades (l : Launch) (D : va_G) (cI : ClassId) (cB : ClassId) (cL : ClassId) (cZ : ClassId) (cG : ClassId) (TR : Nat) (ME : Nat) (FL : Nat) (aME : Nat → Nat) (ME_oldest : Int32) (ME_done : Int32) (ME_undone : Int32) (PL : Nat) (aFL : Nat → Nat) (FL_parting : Int32) (PL_rooms : Int32) (aPL : Nat → Nat) (PL_doors : Int32) (PL_things : Int32) (FO : Nat) (PL_draw : Int32) (PL_drawTold : Int32) (ME_now : Nat → Int32) (PL_us : Nat → Int32) (PL_them : Nat → Int32) (b_ME_oldest : zB ME_oldest 0 40) (b_ME_done : zB ME_done 0 40) (b_ME_undone : zB ME_undone 0 40) (b_PL_rooms : zB PL_rooms 0 8) (b_PL_doors : zB PL_doors 0 12) (b_PL_things : zB PL_things 0 6) (s_ME_now_0 : zA ME_now 0 12 0 7) : Met l yX10_mostTrades wsX10_mostTrades ({ frames := 8, cells := 0, slots := 0, locals := 195 }) (xr D [(cI, .int), (cB, .byte), (cL, .long), (cZ, .boolean), (cG, .array .int)] [(TR, .inr (10, oX10 ME)), (ME, .inr (3, oX3 FL aME ME_oldest ME_done ME_undone)), (FL, .inr (0, oX0 PL aFL FL_parting)), (PL, .inr (5, oX5 FO aPL PL_rooms PL_doors PL_things PL_draw PL_drawTold)), ((aME 1), .inl (cI, 32, .inl ME_now)), ((aPL 11), .inl (cI, 6, .inl PL_us)), ((aPL 12), .inl (cI, 6, .inl PL_them))] [.ref TR]) (vp_Si (fun r => zB r 0 6)) 0 0 (fun _ => False) := by
  refine Met.ofW (cc := cX10_mostTrades) (maxL := 1) (ret := (some .int)) (by decide) rfl ?_
  intro p e s m args below meth c s₁ B hml hv
  obtain ⟨rfl, hP, hK⟩ := hv
  have hx := B.exec
  have hb := B.bytes
  have hr := B.returns
  have hts := atoms_spec (ws := wsX10_mostTrades) B.pre
  have hown : s.vm.findClass RX10 = some m.cls := findClass_of_methodNamed B.named
  have hlocks := B.notSynchronized
  clear B
  have hl := lv_entry ([.ref TR]) (n := 1) (Nat.le_of_ble_eq_true rfl)
  rw [lg_entry_eq]
  generalize (lg_sl ([.ref TR]) ++ List.replicate (1 - (lg_sl ([.ref TR])).length) Slot.unset).toArray = ls at hl ⊢
  replace hl : lv_has ls 1 [(0, .ref TR)] := hl
  refine lv_aload_n hx hb dX10_mostTrades_0 rfl (lv_at hl 0 rfl) ?_
  refine lv_iconst (v := 0) hx hb dX10_mostTrades_1 (by decide) ?_
  refine lv_iconst (v := 0) hx hb dX10_mostTrades_2 (by decide) ?_
  have hPc := hP.sub (ws' := [(TR, .inr (10, oX10 ME)), (ME, .inr (3, oX3 FL aME ME_oldest ME_done ME_undone)), (FL, .inr (0, oX0 PL aFL FL_parting)), (PL, .inr (5, oX5 FO aPL PL_rooms PL_doors PL_things PL_draw PL_drawTold)), ((aME 1), .inl (cI, 32, .inl ME_now)), ((aPL 11), .inl (cI, 6, .inl PL_us)), ((aPL 12), .inl (cI, 6, .inl PL_them))]) [0, 1, 2, 3, 4, 5, 6] rfl
  refine vp_callSi (va_runV (As := [.int 0, .int 0]) (rest := []) ⟨hx, hb, hml, hown, hts⟩ (c_X10_mostPairs_0 l D cI cB cL cZ cG TR 0 ME FL aME ME_oldest ME_done ME_undone PL aFL FL_parting PL_rooms aPL PL_doors PL_things FO PL_draw PL_drawTold ME_now PL_us PL_them b_ME_oldest b_ME_done b_ME_undone b_PL_rooms b_PL_doors b_PL_things s_ME_now_0) (cwV 2 hts gX10_mostTrades_X10_mostPairs rfl rfl rfl (by decide +kernel) ⟨Nat.le_of_ble_eq_true rfl, Nat.le_of_ble_eq_true rfl⟩) ⟨xr_blind, va_recv hK hP (ci := 10) (q0 := 0) rfl rfl, fun U hU hW => xr_mk hU hW hPc hK⟩ rfl rfl hl.1 rfl (lv_room (Nat.le_of_ble_eq_true rfl)) dX10_mostTrades_3 ⟨Nat.le_of_ble_eq_true rfl, Nat.le_of_ble_eq_true rfl⟩).run (fun r3 hr3 => ?_)
  clear hPc
  exact W.iret (v := r3) hx hb hr (fun t ht hW => ⟨r3, rfl, hr3, ht⟩) (fun q hq => by cases hq) dX10_mostTrades_6
set_option maxHeartbeats 4000000 in
set_option maxRecDepth 100000 in
theorem c_X6_refuse (l : Launch) (D : va_G) (cI : ClassId) (cB : ClassId) (cL : ClassId) (cZ : ClassId) (cG : ClassId) (RE : Nat) (x0 : Int32) (TO : Nat) (DR : Nat) (RE_fault : Int32) (RE_faultPlace : Int32) (TA : Nat) (aTO : Nat → Nat) (TO_kind : Int32) (TO_place : Int32) (TO_behind : Int32) (TO_word : Int64) (TO_value : Int32) (sz : Nat) (b_TO_behind : zB TO_behind 0 1600) : Met l yX6_refuse wsX6_refuse ({ frames := 0, cells := 0, slots := 0, locals := 0 }) (xp D [(cI, .int), (cB, .byte), (cL, .long), (cZ, .boolean), (cG, .array .int)] [(RE, .inr (6, oX6 TO DR RE_fault RE_faultPlace)), (TO, .inr (9, oX9 TA aTO TO_kind TO_place TO_behind TO_word TO_value))] sz [] [.ref RE, .int x0]) (va_Qi (fun (r : Int32) (_ : Unit) => zB r 0 0) (fun (_ : Unit) (t : State) => ∃ (nRE_fault : Int32), ∃ (nRE_faultPlace : Int32), xB D (va_A [(RE, .inr (6, oX6 TO DR RE_fault RE_faultPlace)), (TO, .inr (9, oX9 TA aTO TO_kind TO_place TO_behind TO_word TO_value))] sz) [(RE, .inr (6, oX6 TO DR nRE_fault nRE_faultPlace)), (TO, .inr (9, oX9 TA aTO TO_kind TO_place TO_behind TO_word TO_value))] t) (va_A [(RE, .inr (6, oX6 TO DR RE_fault RE_faultPlace)), (TO, .inr (9, oX9 TA aTO TO_kind TO_place TO_behind TO_word TO_value))] sz)) 0 0 (va_A [(RE, .inr (6, oX6 TO DR RE_fault RE_faultPlace)), (TO, .inr (9, oX9 TA aTO TO_kind TO_place TO_behind TO_word TO_value))] sz) := by
  refine Met.ofW (cc := cX6_refuse) (maxL := 2) (ret := (some .boolean)) (by decide) rfl ?_
  intro p e s m args below meth c s₁ B hml hv
  obtain ⟨rfl, hsz, hP, hK, hD0, hNw⟩ := hv
  have hx := B.exec
  have hb := B.bytes
  have hr := B.returns
  have hts := atoms_spec (ws := wsX6_refuse) B.pre
  have hown : s.vm.findClass RX6 = some m.cls := findClass_of_methodNamed B.named
  have hlocks := B.notSynchronized
  clear B
  subst hsz
  have hD := hD0.self (sz := s.heap.size)
  clear hD0 hNw
  generalize hAe : va_A [(RE, .inr (6, oX6 TO DR RE_fault RE_faultPlace)), (TO, .inr (9, oX9 TA aTO TO_kind TO_place TO_behind TO_word TO_value))] s.heap.size = A at hD ⊢
  have hA : ∀ q : Nat, s.heap.size ≤ q → A q := fun q h => by rw [← hAe]; exact Or.inr h
  have hS : va_S A s.heap s.heap [] := va_S.rf
  clear hAe
  obtain ⟨H, hH⟩ : ∃ H : Heap, H = s.heap := ⟨_, rfl⟩
  obtain ⟨locs, hlocs⟩ : ∃ L : List Loc, L = [] := ⟨_, rfl⟩
  replace hP : va_P D classes [(RE, .inr (6, oX6 TO DR RE_fault RE_faultPlace)), (TO, .inr (9, oX9 TA aTO TO_kind TO_place TO_behind TO_word TO_value))] H := by rw [hH]; exact hP
  replace hS : va_S A s.heap H locs := by rw [hH, hlocs]; exact hS
  rw [← hH, ← hlocs]
  clear hlocs hH
  have hl := lv_entry ([.ref RE, .int x0]) (n := 2) (Nat.le_of_ble_eq_true rfl)
  rw [lg_entry_eq]
  generalize (lg_sl ([.ref RE, .int x0]) ++ List.replicate (2 - (lg_sl ([.ref RE, .int x0])).length) Slot.unset).toArray = ls at hl ⊢
  replace hl : lv_has ls 2 [(0, .ref RE), (1, .int x0)] := hl
  refine zz_abs (R := ({ frames := 0, cells := 0, slots := 0, locals := 0 } : Room)) (fun Q up => ?_)
  refine lv_aload_n hx hb dX6_refuse_0 rfl (lv_at hl 0 rfl) ?_
  refine lv_aload_n hx hb dX6_refuse_1 rfl (lv_at hl 0 rfl) ?_
  refine va_get (D := D) (ci := 6) (v := .ref TO) (C := RX6) (T := TX6) (N := 4) hx hb hts iw_X6_refuse_X6 hown hK hP 0 rfl rfl 0 (by decide) (hts (.fieldLink RX6 20 "SoldHouse$Reader" "tokens" "LSoldHouse$Tokens;") (List.mem_of_getElem? (i := 1) rfl)) (fun _ h9 => h9) rfl dX6_refuse_2 ?_
  refine va_get (D := D) (ci := 9) (v := .int TO_kind) (C := RX9) (T := TX9) (N := 7) hx hb hts iw_X6_refuse_X9 hown hK hP 1 rfl rfl 2 (by decide) (hts (.fieldLink RX6 34 "SoldHouse$Tokens" "kind" "I") (List.mem_of_getElem? (i := 2) rfl)) (fun _ h9 => h9) rfl dX6_refuse_5 ?_
  refine lv_iconst (v := 4) hx hb dX6_refuse_8 (by decide) ?_
  have j17 : ∀ (H : Heap) (locs : List Loc) (ls : Array Slot) (u17_0 : Int32), va_P D classes [(RE, .inr (6, oX6 TO DR RE_fault RE_faultPlace)), (TO, .inr (9, oX9 TA aTO TO_kind TO_place TO_behind TO_word TO_value))] H → va_D A [(RE, .inr (6, oX6 TO DR RE_fault RE_faultPlace)), (TO, .inr (9, oX9 TA aTO TO_kind TO_place TO_behind TO_word TO_value))] → va_S A s.heap H locs → lv_has ls 2 [(0, .ref RE), (1, .int x0)] → W p l e ({ frames := 0, cells := 0, slots := 0, locals := 0 } : Room) s m ([.ref RE, .int x0] : List Value).toArray below meth c H locs 0 0 Q (F0 m 17 ls [.int u17_0, .ref RE]) := by
    intro H locs ls u17_0 hP hD hS hl
    refine va_put (D := D) (ci := 6) (v := .int u17_0) (ty := tyX6 2) (C := RX6) (T := TX6) (N := 4) hx hb hts iw_X6_refuse_X6 tyX6 tyX6_ok nmX6 hown hK hP hD hS 0 rfl rfl 2 (by decide) (hts (.fieldLink RX6 28 "SoldHouse$Reader" "fault" "I") (List.mem_of_getElem? (i := 3) rfl)) (fun _ h9 => h9) rfl (by decide +kernel) rfl rfl (Nat.le_of_ble_eq_true rfl) dX6_refuse_17 (fun H locs hP hD hS => ?_)
    replace hP : va_P D classes [(RE, .inr (6, oX6 TO DR u17_0 RE_faultPlace)), (TO, .inr (9, oX9 TA aTO TO_kind TO_place TO_behind TO_word TO_value))] H := hP
    replace hD : va_D A [(RE, .inr (6, oX6 TO DR u17_0 RE_faultPlace)), (TO, .inr (9, oX9 TA aTO TO_kind TO_place TO_behind TO_word TO_value))] := hD
    refine lv_aload_n hx hb dX6_refuse_20 rfl (lv_at hl 0 rfl) ?_
    refine lv_aload_n hx hb dX6_refuse_21 rfl (lv_at hl 0 rfl) ?_
    refine va_get (D := D) (ci := 6) (v := .ref TO) (C := RX6) (T := TX6) (N := 4) hx hb hts iw_X6_refuse_X6 hown hK hP 0 rfl rfl 0 (by decide) (hts (.fieldLink RX6 20 "SoldHouse$Reader" "tokens" "LSoldHouse$Tokens;") (List.mem_of_getElem? (i := 1) rfl)) (fun _ h9 => h9) rfl dX6_refuse_22 ?_
    refine va_get (D := D) (ci := 9) (v := .int TO_place) (C := RX9) (T := TX9) (N := 7) hx hb hts iw_X6_refuse_X9 hown hK hP 1 rfl rfl 3 (by decide) (hts (.fieldLink RX6 205 "SoldHouse$Tokens" "place" "I") (List.mem_of_getElem? (i := 4) rfl)) (fun _ h9 => h9) rfl dX6_refuse_25 ?_
    refine va_put (D := D) (ci := 6) (v := .int TO_place) (ty := tyX6 3) (C := RX6) (T := TX6) (N := 4) hx hb hts iw_X6_refuse_X6 tyX6 tyX6_ok nmX6 hown hK hP hD hS 0 rfl rfl 3 (by decide) (hts (.fieldLink RX6 9 "SoldHouse$Reader" "faultPlace" "I") (List.mem_of_getElem? (i := 5) rfl)) (fun _ h9 => h9) rfl (by decide +kernel) rfl rfl (Nat.le_of_ble_eq_true rfl) dX6_refuse_28 (fun H locs hP hD hS => ?_)
    replace hP : va_P D classes [(RE, .inr (6, oX6 TO DR u17_0 TO_place)), (TO, .inr (9, oX9 TA aTO TO_kind TO_place TO_behind TO_word TO_value))] H := hP
    replace hD : va_D A [(RE, .inr (6, oX6 TO DR u17_0 TO_place)), (TO, .inr (9, oX9 TA aTO TO_kind TO_place TO_behind TO_word TO_value))] := hD
    refine lv_iconst (v := 0) hx hb dX6_refuse_31 (by decide) ?_
    exact up _ _ _ (W.zret (v := 0) (ty := .boolean) hx hb hr (by decide) (fun t ht hW => ⟨⟨0, (), rfl, (show zB 0 0 0 from ⟨by decide, by decide⟩), ⟨u17_0, TO_place, by rw [ht]; exact hP, hD⟩⟩, hS.F ht⟩) hS.2.2 dX6_refuse_32)
  refine lv_icmp_ne (tgt := 16) hx hb dX6_refuse_9 (by decide) (fun c9 => ?_) (fun c9 => ?_)
  · refine lv_iload_n hx hb dX6_refuse_16 rfl (lv_at hl 1 rfl) ?_
    exact j17 H locs ls x0 hP hD hS (lv_sub hl [0, 1] rfl)
  · have be9f_TO_kind : zB TO_kind 4 4 := zB_eq c9 (zB_top TO_kind) (show zB 4 4 4 from ⟨by decide, by decide⟩) (by decide) (by decide)
    refine lv_iconst (v := 1) hx hb dX6_refuse_12 (by decide) ?_
    refine lv_goto (tgt := 17) hx hb dX6_refuse_13 (by decide) ?_
    exact j17 H locs ls 1 hP hD hS (lv_sub hl [0, 1] rfl)
set_option maxHeartbeats 4000000 in
set_option maxRecDepth 100000 in
theorem c_X6_readSign (l : Launch) (D : va_G) (cI : ClassId) (cB : ClassId) (cL : ClassId) (cZ : ClassId) (cG : ClassId) (RE : Nat) (x0 : Int32) (TO : Nat) (DR : Nat) (RE_fault : Int32) (RE_faultPlace : Int32) (TA : Nat) (aTO : Nat → Nat) (TO_kind : Int32) (TO_place : Int32) (TO_behind : Int32) (TO_word : Int64) (TO_value : Int32) (aTA : Nat → Nat) (TA_size : Int32) (TA_bytes : Nat → Int32) (TO_own : Nat → Int64) (aS : Nat) (vS : Nat) (sz : Nat) (b_TO_behind : zB TO_behind 0 1600) (b_TA_size : zB TA_size 0 1600) : Met l yX6_readSign wsX6_readSign ({ frames := 6, cells := 0, slots := 0, locals := 131 }) (xpT D [(cI, .int), (cB, .byte), (cL, .long), (cZ, .boolean), (cG, .array .int)] [(RE, .inr (6, oX6 TO DR RE_fault RE_faultPlace)), (TO, .inr (9, oX9 TA aTO TO_kind TO_place TO_behind TO_word TO_value)), (TA, .inr (8, oX8 aTA TA_size)), ((aTA 0), .inl (cB, 1600, .inl TA_bytes)), ((aTO 1), .inl (cL, 17, .inr (.inl TO_own)))] sz aS vS [.ref RE, .int x0]) (va_Qi (fun (r : Int32) (_ : Unit) => zB r 0 1) (fun (_ : Unit) (t : State) => ∃ (nRE_fault : Int32), ∃ (nRE_faultPlace : Int32), ∃ (nTO_kind : Int32), ∃ (nTO_place : Int32), ∃ (nTO_behind : Int32), ∃ (nTO_word : Int64), ∃ (nTO_value : Int32), zB nTO_behind 0 1600 ∧ xB D (va_A [(RE, .inr (6, oX6 TO DR RE_fault RE_faultPlace)), (TO, .inr (9, oX9 TA aTO TO_kind TO_place TO_behind TO_word TO_value)), (TA, .inr (8, oX8 aTA TA_size)), ((aTA 0), .inl (cB, 1600, .inl TA_bytes)), ((aTO 1), .inl (cL, 17, .inr (.inl TO_own)))] sz) [(RE, .inr (6, oX6 TO DR nRE_fault nRE_faultPlace)), (TO, .inr (9, oX9 TA aTO nTO_kind nTO_place nTO_behind nTO_word nTO_value)), (TA, .inr (8, oX8 aTA TA_size)), ((aTA 0), .inl (cB, 1600, .inl TA_bytes)), ((aTO 1), .inl (cL, 17, .inr (.inl TO_own)))] t) (va_A [(RE, .inr (6, oX6 TO DR RE_fault RE_faultPlace)), (TO, .inr (9, oX9 TA aTO TO_kind TO_place TO_behind TO_word TO_value)), (TA, .inr (8, oX8 aTA TA_size)), ((aTA 0), .inl (cB, 1600, .inl TA_bytes)), ((aTO 1), .inl (cL, 17, .inr (.inl TO_own)))] sz)) 0 0 (va_A [(RE, .inr (6, oX6 TO DR RE_fault RE_faultPlace)), (TO, .inr (9, oX9 TA aTO TO_kind TO_place TO_behind TO_word TO_value)), (TA, .inr (8, oX8 aTA TA_size)), ((aTA 0), .inl (cB, 1600, .inl TA_bytes)), ((aTO 1), .inl (cL, 17, .inr (.inl TO_own)))] sz) := by
  refine Met.ofW (cc := cX6_readSign) (maxL := 2) (ret := (some .boolean)) (by decide) rfl ?_
  intro p e s m args below meth c s₁ B hml hv
  obtain ⟨rfl, hsz, hP, hK, hD0, hStr⟩ := hv
  have hNw := hsz
  have hx := B.exec
  have hb := B.bytes
  have hr := B.returns
  have hts := atoms_spec (ws := wsX6_readSign) B.pre
  have hown : s.vm.findClass RX6 = some m.cls := findClass_of_methodNamed B.named
  have hlocks := B.notSynchronized
  clear B
  subst hsz
  have hD := hD0.self (sz := s.heap.size)
  clear hD0 hNw
  generalize hAe : va_A [(RE, .inr (6, oX6 TO DR RE_fault RE_faultPlace)), (TO, .inr (9, oX9 TA aTO TO_kind TO_place TO_behind TO_word TO_value)), (TA, .inr (8, oX8 aTA TA_size)), ((aTA 0), .inl (cB, 1600, .inl TA_bytes)), ((aTO 1), .inl (cL, 17, .inr (.inl TO_own)))] s.heap.size = A at hD hStr ⊢
  have hA : ∀ q : Nat, s.heap.size ≤ q → A q := fun q h => by rw [← hAe]; exact Or.inr h
  have hS : va_S A s.heap s.heap [] := va_S.rf
  clear hAe
  obtain ⟨H, hH⟩ : ∃ H : Heap, H = s.heap := ⟨_, rfl⟩
  obtain ⟨locs, hlocs⟩ : ∃ L : List Loc, L = [] := ⟨_, rfl⟩
  replace hP : va_P D classes [(RE, .inr (6, oX6 TO DR RE_fault RE_faultPlace)), (TO, .inr (9, oX9 TA aTO TO_kind TO_place TO_behind TO_word TO_value)), (TA, .inr (8, oX8 aTA TA_size)), ((aTA 0), .inl (cB, 1600, .inl TA_bytes)), ((aTO 1), .inl (cL, 17, .inr (.inl TO_own)))] H := by rw [hH]; exact hP
  replace hS : va_S A s.heap H locs := by rw [hH, hlocs]; exact hS
  rw [← hH, ← hlocs]
  clear hlocs hH
  have hl := lv_entry ([.ref RE, .int x0]) (n := 2) (Nat.le_of_ble_eq_true rfl)
  rw [lg_entry_eq]
  generalize (lg_sl ([.ref RE, .int x0]) ++ List.replicate (2 - (lg_sl ([.ref RE, .int x0])).length) Slot.unset).toArray = ls at hl ⊢
  replace hl : lv_has ls 2 [(0, .ref RE), (1, .int x0)] := hl
  refine lv_aload_n hx hb dX6_readSign_0 rfl (lv_at hl 0 rfl) ?_
  refine va_get (D := D) (ci := 6) (v := .ref TO) (C := RX6) (T := TX6) (N := 4) hx hb hts iw_X6_readSign_X6 hown hK hP 0 rfl rfl 0 (by decide) (hts (.fieldLink RX6 20 "SoldHouse$Reader" "tokens" "LSoldHouse$Tokens;") (List.mem_of_getElem? (i := 1) rfl)) (fun _ h9 => h9) rfl dX6_readSign_1 ?_
  refine lv_iload_n hx hb dX6_readSign_4 rfl (lv_at hl 1 rfl) ?_
  have hPc := hP.sub (ws' := [(TO, .inr (9, oX9 TA aTO TO_kind TO_place TO_behind TO_word TO_value))]) [1] rfl
  refine vp_callSi (va_runV (As := [.int x0]) (rest := []) ⟨hx, hb, hml, hown, hts⟩ (c_X9_isSign l D cI cB cL cZ cG TO x0 TA aTO TO_kind TO_place TO_behind TO_word TO_value b_TO_behind) (cwV 1 hts gX6_readSign_X9_isSign rfl rfl rfl (by decide +kernel) ⟨Nat.le_of_ble_eq_true rfl, Nat.le_of_ble_eq_true rfl⟩) ⟨xr_blind, va_recv hK hP (ci := 9) (q0 := 1) rfl rfl, fun U hU hW => xr_mk hU hW hPc hK⟩ rfl rfl hl.1 rfl (lv_room (Nat.le_of_ble_eq_true rfl)) dX6_readSign_5 ⟨Nat.le_of_ble_eq_true rfl, Nat.le_of_ble_eq_true rfl⟩).run (fun r5 hr5 => ?_)
  clear hPc
  refine lv_if_ne (tgt := 17) hx hb dX6_readSign_8 (by decide) (fun c8 => ?_) (fun c8 => ?_)
  · have bn8t_r5 : zB r5 1 1 := zB_neL c8 hr5 (show zB 0 0 0 from ⟨by decide, by decide⟩) (by decide)
    refine lv_aload_n hx hb dX6_readSign_17 rfl (lv_at hl 0 rfl) ?_
    refine va_get (D := D) (ci := 6) (v := .ref TO) (C := RX6) (T := TX6) (N := 4) hx hb hts iw_X6_readSign_X6 hown hK hP 0 rfl rfl 0 (by decide) (hts (.fieldLink RX6 20 "SoldHouse$Reader" "tokens" "LSoldHouse$Tokens;") (List.mem_of_getElem? (i := 1) rfl)) (fun _ h9 => h9) rfl dX6_readSign_18 ?_
    have hPc := hP.sub (ws' := [(TO, .inr (9, oX9 TA aTO TO_kind TO_place TO_behind TO_word TO_value)), (TA, .inr (8, oX8 aTA TA_size)), ((aTA 0), .inl (cB, 1600, .inl TA_bytes)), ((aTO 1), .inl (cL, 17, .inr (.inl TO_own)))]) [1, 2, 3, 4] rfl
    have hDc := hD.sub (ws' := [(TO, .inr (9, oX9 TA aTO TO_kind TO_place TO_behind TO_word TO_value)), (TA, .inr (8, oX8 aTA TA_size)), ((aTA 0), .inl (cB, 1600, .inl TA_bytes)), ((aTO 1), .inl (cL, 17, .inr (.inl TO_own)))]) [1, 2, 3, 4] (by decide) rfl
    have hFc := va_free (wc := [(TO, .inr (9, oX9 TA aTO TO_kind TO_place TO_behind TO_word TO_value)), (TA, .inr (8, oX8 aTA TA_size)), ((aTA 0), .inl (cB, 1600, .inl TA_bytes)), ((aTO 1), .inl (cL, 17, .inr (.inl TO_own)))]) hD hS hA [1, 2, 3, 4] rfl
    refine va_callv (va_runV (As := []) (rest := []) ⟨hx, hb, hml, hown, hts⟩ (c_X9_advance l D cI cB cL cZ cG TO TA aTO TO_kind TO_place TO_behind TO_word TO_value aTA TA_size TA_bytes aS vS TO_own H.size b_TO_behind b_TA_size) (cwV 0 hts gX6_readSign_X9_advance rfl rfl rfl (by decide +kernel) ⟨Nat.le_of_ble_eq_true rfl, Nat.le_of_ble_eq_true rfl⟩) ⟨xpT_blind, va_recv hK hP (ci := 9) (q0 := 1) rfl rfl, fun U hU hW => xpT_mk hU hW hPc hK hDc hStr hS hFc⟩ rfl rfl hl.1 rfl (lv_room (Nat.le_of_ble_eq_true rfl)) dX6_readSign_21 ⟨Nat.le_of_ble_eq_true rfl, Nat.le_of_ble_eq_true rfl⟩) hS (fun q _ h => hFc q h) hFc (fun u9 t9 H1 locs ht9 hvm9 hr21 hB9 hz9 hk9 hS => ?_)
    obtain ⟨o21_nTO_kind, o21_nTO_place, o21_nTO_behind, o21_nTO_word, o21_nTO_value, bo21_nTO_kind, bo21_nTO_place, bo21_nTO_behind, hP1, hD1⟩ := hB9
    rw [ht9] at hP1
    obtain ⟨hP, hD⟩ := va_join (wr := [(RE, .inr (6, oX6 TO DR RE_fault RE_faultPlace))]) (w1 := [(TO, .inr (9, oX9 TA aTO o21_nTO_kind o21_nTO_place o21_nTO_behind o21_nTO_word o21_nTO_value)), (TA, .inr (8, oX8 aTA TA_size)), ((aTA 0), .inl (cB, 1600, .inl TA_bytes)), ((aTO 1), .inl (cL, 17, .inr (.inl TO_own)))]) hP hD [1, 2, 3, 4] [0] rfl rfl (by decide) (by decide) hk9 hFc hP1 hD1
    clear hz9 hPc hDc hP1 hD1 hk9 hFc ht9 hvm9 u9 t9
    generalize H1 = H at hP hS ⊢
    replace hP : va_P D classes [(RE, .inr (6, oX6 TO DR RE_fault RE_faultPlace)), (TO, .inr (9, oX9 TA aTO o21_nTO_kind o21_nTO_place o21_nTO_behind o21_nTO_word o21_nTO_value)), (TA, .inr (8, oX8 aTA TA_size)), ((aTA 0), .inl (cB, 1600, .inl TA_bytes)), ((aTO 1), .inl (cL, 17, .inr (.inl TO_own)))] H := hP
    replace hD : va_D A [(RE, .inr (6, oX6 TO DR RE_fault RE_faultPlace)), (TO, .inr (9, oX9 TA aTO o21_nTO_kind o21_nTO_place o21_nTO_behind o21_nTO_word o21_nTO_value)), (TA, .inr (8, oX8 aTA TA_size)), ((aTA 0), .inl (cB, 1600, .inl TA_bytes)), ((aTO 1), .inl (cL, 17, .inr (.inl TO_own)))] := hD
    refine lv_iconst (v := 1) hx hb dX6_readSign_24 (by decide) ?_
    exact W.zret (v := 1) (ty := .boolean) hx hb hr (by decide) (fun t ht hW => ⟨⟨1, (), rfl, (zB_w (show zB 1 1 1 from ⟨by decide, by decide⟩) (by decide) (by decide)), ⟨RE_fault, RE_faultPlace, o21_nTO_kind, o21_nTO_place, o21_nTO_behind, o21_nTO_word, o21_nTO_value, bo21_nTO_behind, by rw [ht]; exact hP, hD⟩⟩, hS.F ht⟩) hS.2.2 dX6_readSign_25
  · have be8f_r5 : zB r5 0 0 := zB_eq c8 hr5 (show zB 0 0 0 from ⟨by decide, by decide⟩) (by decide) (by decide)
    refine lv_aload_n hx hb dX6_readSign_11 rfl (lv_at hl 0 rfl) ?_
    refine lv_iconst (v := 2) hx hb dX6_readSign_12 (by decide) ?_
    have hPc := hP.sub (ws' := [(RE, .inr (6, oX6 TO DR RE_fault RE_faultPlace)), (TO, .inr (9, oX9 TA aTO TO_kind TO_place TO_behind TO_word TO_value))]) [0, 1] rfl
    have hDc := hD.sub (ws' := [(RE, .inr (6, oX6 TO DR RE_fault RE_faultPlace)), (TO, .inr (9, oX9 TA aTO TO_kind TO_place TO_behind TO_word TO_value))]) [0, 1] (by decide) rfl
    have hFc := va_free (wc := [(RE, .inr (6, oX6 TO DR RE_fault RE_faultPlace)), (TO, .inr (9, oX9 TA aTO TO_kind TO_place TO_behind TO_word TO_value))]) hD hS hA [0, 1] rfl
    refine va_calli (va_runV (As := [.int 2]) (rest := []) ⟨hx, hb, hml, hown, hts⟩ (c_X6_refuse l D cI cB cL cZ cG RE 2 TO DR RE_fault RE_faultPlace TA aTO TO_kind TO_place TO_behind TO_word TO_value H.size b_TO_behind) (cwV 1 hts gX6_readSign_X6_refuse rfl rfl rfl (by decide +kernel) ⟨Nat.le_of_ble_eq_true rfl, Nat.le_of_ble_eq_true rfl⟩) ⟨xp_blind, va_recv hK hP (ci := 6) (q0 := 0) rfl rfl, fun U hU hW => xp_mk hU hW hPc hK hDc xNw_nil⟩ rfl rfl hl.1 rfl (lv_room (Nat.le_of_ble_eq_true rfl)) dX6_readSign_13 ⟨Nat.le_of_ble_eq_true rfl, Nat.le_of_ble_eq_true rfl⟩) hS (fun q _ h => hFc q h) hFc (fun r13 u9 t9 H1 locs ht9 hvm9 hr13 hB9 hz9 hk9 hS => ?_)
    obtain ⟨o13_nRE_fault, o13_nRE_faultPlace, hP1, hD1⟩ := hB9
    rw [ht9] at hP1
    obtain ⟨hP, hD⟩ := va_join (wr := [(TA, .inr (8, oX8 aTA TA_size)), ((aTA 0), .inl (cB, 1600, .inl TA_bytes)), ((aTO 1), .inl (cL, 17, .inr (.inl TO_own)))]) (w1 := [(RE, .inr (6, oX6 TO DR o13_nRE_fault o13_nRE_faultPlace)), (TO, .inr (9, oX9 TA aTO TO_kind TO_place TO_behind TO_word TO_value))]) hP hD [0, 1] [2, 3, 4] rfl rfl (by decide) (by decide) hk9 hFc hP1 hD1
    clear hz9 hPc hDc hP1 hD1 hk9 hFc ht9 hvm9 u9 t9
    generalize H1 = H at hP hS ⊢
    replace hP : va_P D classes [(RE, .inr (6, oX6 TO DR o13_nRE_fault o13_nRE_faultPlace)), (TO, .inr (9, oX9 TA aTO TO_kind TO_place TO_behind TO_word TO_value)), (TA, .inr (8, oX8 aTA TA_size)), ((aTA 0), .inl (cB, 1600, .inl TA_bytes)), ((aTO 1), .inl (cL, 17, .inr (.inl TO_own)))] H := hP.sub [3, 4, 0, 1, 2] rfl
    replace hD : va_D A [(RE, .inr (6, oX6 TO DR o13_nRE_fault o13_nRE_faultPlace)), (TO, .inr (9, oX9 TA aTO TO_kind TO_place TO_behind TO_word TO_value)), (TA, .inr (8, oX8 aTA TA_size)), ((aTA 0), .inl (cB, 1600, .inl TA_bytes)), ((aTO 1), .inl (cL, 17, .inr (.inl TO_own)))] := hD.sub [3, 4, 0, 1, 2] (by decide) rfl
    obtain rfl : r13 = 0 := zB_cst hr13 (by decide)
    exact W.zret (v := 0) (ty := .boolean) hx hb hr (by decide) (fun t ht hW => ⟨⟨0, (), rfl, (zB_w (show zB 0 0 0 from ⟨by decide, by decide⟩) (by decide) (by decide)), ⟨o13_nRE_fault, o13_nRE_faultPlace, TO_kind, TO_place, TO_behind, TO_word, TO_value, b_TO_behind, by rw [ht]; exact hP, hD⟩⟩, hS.F ht⟩) hS.2.2 dX6_readSign_16
set_option maxHeartbeats 4000000 in
set_option maxRecDepth 100000 in
theorem c_X6_knownRoom (l : Launch) (D : va_G) (cI : ClassId) (cB : ClassId) (cL : ClassId) (cZ : ClassId) (cG : ClassId) (RE : Nat) (TO : Nat) (DR : Nat) (RE_fault : Int32) (RE_faultPlace : Int32) (TA : Nat) (aTO : Nat → Nat) (TO_kind : Int32) (TO_place : Int32) (TO_behind : Int32) (TO_word : Int64) (TO_value : Int32) (DR_rooms : Int32) (aDR : Nat → Nat) (DR_doors : Int32) (DR_things : Int32) (DF : Nat) (DR_draw : Int32) (DR_drawTold : Int32) (DR_roomName : Nat → Int64) (sz : Nat) (b_TO_behind : zB TO_behind 0 1600) (b_DR_rooms : zB DR_rooms 0 8) (b_DR_doors : zB DR_doors 0 12) (b_DR_things : zB DR_things 0 6) : Met l yX6_knownRoom wsX6_knownRoom ({ frames := 1, cells := 0, slots := 0, locals := 23 }) (xp D [(cI, .int), (cB, .byte), (cL, .long), (cZ, .boolean), (cG, .array .int)] [(RE, .inr (6, oX6 TO DR RE_fault RE_faultPlace)), (TO, .inr (9, oX9 TA aTO TO_kind TO_place TO_behind TO_word TO_value)), (DR, .inr (5, oX5 DF aDR DR_rooms DR_doors DR_things DR_draw DR_drawTold)), ((aDR 1), .inl (cL, 8, .inr (.inl DR_roomName)))] sz [] [.ref RE]) (va_Qi (fun (r : Int32) (_ : Unit) => zB r (-1) 7) (fun (_ : Unit) (t : State) => ∃ (nRE_fault : Int32), ∃ (nRE_faultPlace : Int32), xB D (va_A [(RE, .inr (6, oX6 TO DR RE_fault RE_faultPlace)), (TO, .inr (9, oX9 TA aTO TO_kind TO_place TO_behind TO_word TO_value)), (DR, .inr (5, oX5 DF aDR DR_rooms DR_doors DR_things DR_draw DR_drawTold)), ((aDR 1), .inl (cL, 8, .inr (.inl DR_roomName)))] sz) [(RE, .inr (6, oX6 TO DR nRE_fault nRE_faultPlace)), (TO, .inr (9, oX9 TA aTO TO_kind TO_place TO_behind TO_word TO_value)), (DR, .inr (5, oX5 DF aDR DR_rooms DR_doors DR_things DR_draw DR_drawTold)), ((aDR 1), .inl (cL, 8, .inr (.inl DR_roomName)))] t) (va_A [(RE, .inr (6, oX6 TO DR RE_fault RE_faultPlace)), (TO, .inr (9, oX9 TA aTO TO_kind TO_place TO_behind TO_word TO_value)), (DR, .inr (5, oX5 DF aDR DR_rooms DR_doors DR_things DR_draw DR_drawTold)), ((aDR 1), .inl (cL, 8, .inr (.inl DR_roomName)))] sz)) 0 0 (va_A [(RE, .inr (6, oX6 TO DR RE_fault RE_faultPlace)), (TO, .inr (9, oX9 TA aTO TO_kind TO_place TO_behind TO_word TO_value)), (DR, .inr (5, oX5 DF aDR DR_rooms DR_doors DR_things DR_draw DR_drawTold)), ((aDR 1), .inl (cL, 8, .inr (.inl DR_roomName)))] sz) := by
  refine Met.ofW (cc := cX6_knownRoom) (maxL := 2) (ret := (some .int)) (by decide) rfl ?_
  intro p e s m args below meth c s₁ B hml hv
  obtain ⟨rfl, hsz, hP, hK, hD0, hNw⟩ := hv
  have hx := B.exec
  have hb := B.bytes
  have hr := B.returns
  have hts := atoms_spec (ws := wsX6_knownRoom) B.pre
  have hown : s.vm.findClass RX6 = some m.cls := findClass_of_methodNamed B.named
  have hlocks := B.notSynchronized
  clear B
  subst hsz
  have hD := hD0.self (sz := s.heap.size)
  clear hD0 hNw
  generalize hAe : va_A [(RE, .inr (6, oX6 TO DR RE_fault RE_faultPlace)), (TO, .inr (9, oX9 TA aTO TO_kind TO_place TO_behind TO_word TO_value)), (DR, .inr (5, oX5 DF aDR DR_rooms DR_doors DR_things DR_draw DR_drawTold)), ((aDR 1), .inl (cL, 8, .inr (.inl DR_roomName)))] s.heap.size = A at hD ⊢
  have hA : ∀ q : Nat, s.heap.size ≤ q → A q := fun q h => by rw [← hAe]; exact Or.inr h
  have hS : va_S A s.heap s.heap [] := va_S.rf
  clear hAe
  obtain ⟨H, hH⟩ : ∃ H : Heap, H = s.heap := ⟨_, rfl⟩
  obtain ⟨locs, hlocs⟩ : ∃ L : List Loc, L = [] := ⟨_, rfl⟩
  replace hP : va_P D classes [(RE, .inr (6, oX6 TO DR RE_fault RE_faultPlace)), (TO, .inr (9, oX9 TA aTO TO_kind TO_place TO_behind TO_word TO_value)), (DR, .inr (5, oX5 DF aDR DR_rooms DR_doors DR_things DR_draw DR_drawTold)), ((aDR 1), .inl (cL, 8, .inr (.inl DR_roomName)))] H := by rw [hH]; exact hP
  replace hS : va_S A s.heap H locs := by rw [hH, hlocs]; exact hS
  rw [← hH, ← hlocs]
  clear hlocs hH
  have hl := lv_entry ([.ref RE]) (n := 2) (Nat.le_of_ble_eq_true rfl)
  rw [lg_entry_eq]
  generalize (lg_sl ([.ref RE]) ++ List.replicate (2 - (lg_sl ([.ref RE])).length) Slot.unset).toArray = ls at hl ⊢
  replace hl : lv_has ls 2 [(0, .ref RE)] := hl
  refine lv_aload_n hx hb dX6_knownRoom_0 rfl (lv_at hl 0 rfl) ?_
  refine va_get (D := D) (ci := 6) (v := .ref TO) (C := RX6) (T := TX6) (N := 4) hx hb hts iw_X6_knownRoom_X6 hown hK hP 0 rfl rfl 0 (by decide) (hts (.fieldLink RX6 20 "SoldHouse$Reader" "tokens" "LSoldHouse$Tokens;") (List.mem_of_getElem? (i := 1) rfl)) (fun _ h9 => h9) rfl dX6_knownRoom_1 ?_
  have hPc := hP.sub (ws' := [(TO, .inr (9, oX9 TA aTO TO_kind TO_place TO_behind TO_word TO_value))]) [1] rfl
  refine vp_callSi (va_runV (As := []) (rest := []) ⟨hx, hb, hml, hown, hts⟩ (c_X9_isName l D cI cB cL cZ cG TO TA aTO TO_kind TO_place TO_behind TO_word TO_value b_TO_behind) (cwV 0 hts gX6_knownRoom_X9_isName rfl rfl rfl (by decide +kernel) ⟨Nat.le_of_ble_eq_true rfl, Nat.le_of_ble_eq_true rfl⟩) ⟨xr_blind, va_recv hK hP (ci := 9) (q0 := 1) rfl rfl, fun U hU hW => xr_mk hU hW hPc hK⟩ rfl rfl hl.1 rfl (lv_room (Nat.le_of_ble_eq_true rfl)) dX6_knownRoom_4 ⟨Nat.le_of_ble_eq_true rfl, Nat.le_of_ble_eq_true rfl⟩).run (fun r4 hr4 => ?_)
  clear hPc
  refine lv_if_ne (tgt := 18) hx hb dX6_knownRoom_7 (by decide) (fun c7 => ?_) (fun c7 => ?_)
  · have bn7t_r4 : zB r4 1 1 := zB_neL c7 hr4 (show zB 0 0 0 from ⟨by decide, by decide⟩) (by decide)
    refine lv_aload_n hx hb dX6_knownRoom_18 rfl (lv_at hl 0 rfl) ?_
    refine va_get (D := D) (ci := 6) (v := .ref DR) (C := RX6) (T := TX6) (N := 4) hx hb hts iw_X6_knownRoom_X6 hown hK hP 0 rfl rfl 1 (by decide) (hts (.fieldLink RX6 24 "SoldHouse$Reader" "plan" "LSoldHouse$Plan;") (List.mem_of_getElem? (i := 2) rfl)) (fun _ h9 => h9) rfl dX6_knownRoom_19 ?_
    refine lv_aload_n hx hb dX6_knownRoom_22 rfl (lv_at hl 0 rfl) ?_
    refine va_get (D := D) (ci := 6) (v := .ref TO) (C := RX6) (T := TX6) (N := 4) hx hb hts iw_X6_knownRoom_X6 hown hK hP 0 rfl rfl 0 (by decide) (hts (.fieldLink RX6 20 "SoldHouse$Reader" "tokens" "LSoldHouse$Tokens;") (List.mem_of_getElem? (i := 1) rfl)) (fun _ h9 => h9) rfl dX6_knownRoom_23 ?_
    refine va_get (D := D) (ci := 9) (v := .long TO_word) (C := RX9) (T := TX9) (N := 7) hx hb hts iw_X6_knownRoom_X9 hown hK hP 1 rfl rfl 5 (by decide) (hts (.fieldLink RX6 75 "SoldHouse$Tokens" "word" "J") (List.mem_of_getElem? (i := 3) rfl)) (fun _ h9 => h9) rfl dX6_knownRoom_26 ?_
    have hPc := hP.sub (ws' := [(DR, .inr (5, oX5 DF aDR DR_rooms DR_doors DR_things DR_draw DR_drawTold)), ((aDR 1), .inl (cL, 8, .inr (.inl DR_roomName)))]) [2, 3] rfl
    refine vp_callSi (va_runV (As := [.long TO_word]) (rest := []) ⟨hx, hb, hml, hown, hts⟩ (c_X5_roomNamed l D cI cB cL cZ cG DR TO_word DR_rooms aDR DR_doors DR_things DF DR_draw DR_drawTold DR_roomName b_DR_rooms b_DR_doors b_DR_things) (cwV 1 hts gX6_knownRoom_X5_roomNamed rfl rfl rfl (by decide +kernel) ⟨Nat.le_of_ble_eq_true rfl, Nat.le_of_ble_eq_true rfl⟩) ⟨xr_blind, va_recv hK hP (ci := 5) (q0 := 2) rfl rfl, fun U hU hW => xr_mk hU hW hPc hK⟩ rfl rfl hl.1 rfl (lv_room (Nat.le_of_ble_eq_true rfl)) dX6_knownRoom_29 ⟨Nat.le_of_ble_eq_true rfl, Nat.le_of_ble_eq_true rfl⟩).run (fun r29 hr29 => ?_)
    clear hPc
    refine lv_istore_n (lv' := [(1, .int r29), (0, .ref RE)]) hx hb dX6_knownRoom_32 rfl hl (by decide) rfl (fun ls hl => ?_)
    refine lv_iload_n hx hb dX6_knownRoom_33 rfl (lv_at hl 0 rfl) ?_
    refine lv_iconst (v := (-1)) hx hb dX6_knownRoom_34 (by decide) ?_
    refine lv_icmp_ne (tgt := 44) hx hb dX6_knownRoom_35 (by decide) (fun c35 => ?_) (fun c35 => ?_)
    · have bn35t_r29 : zB r29 0 7 := zB_neL c35 hr29 (show zB (-1) (-1) (-1) from ⟨by decide, by decide⟩) (by decide)
      refine lv_iload_n hx hb dX6_knownRoom_44 rfl (lv_at hl 0 rfl) ?_
      exact W.iret (v := r29) hx hb hr (fun t ht hW => ⟨⟨r29, (), rfl, (zB_w bn35t_r29 (by decide) (by decide)), ⟨RE_fault, RE_faultPlace, by rw [ht]; exact hP, hD⟩⟩, hS.F ht⟩) hS.2.2 dX6_knownRoom_45
    · have be35f_r29 : zB r29 (-1) (-1) := zB_eq c35 hr29 (show zB (-1) (-1) (-1) from ⟨by decide, by decide⟩) (by decide) (by decide)
      refine lv_aload_n hx hb dX6_knownRoom_38 rfl (lv_at hl 1 rfl) ?_
      refine lv_iconst (v := 5) hx hb dX6_knownRoom_39 (by decide) ?_
      have hPc := hP.sub (ws' := [(RE, .inr (6, oX6 TO DR RE_fault RE_faultPlace)), (TO, .inr (9, oX9 TA aTO TO_kind TO_place TO_behind TO_word TO_value))]) [0, 1] rfl
      have hDc := hD.sub (ws' := [(RE, .inr (6, oX6 TO DR RE_fault RE_faultPlace)), (TO, .inr (9, oX9 TA aTO TO_kind TO_place TO_behind TO_word TO_value))]) [0, 1] (by decide) rfl
      have hFc := va_free (wc := [(RE, .inr (6, oX6 TO DR RE_fault RE_faultPlace)), (TO, .inr (9, oX9 TA aTO TO_kind TO_place TO_behind TO_word TO_value))]) hD hS hA [0, 1] rfl
      refine va_calli (va_runV (As := [.int 5]) (rest := []) ⟨hx, hb, hml, hown, hts⟩ (c_X6_refuse l D cI cB cL cZ cG RE 5 TO DR RE_fault RE_faultPlace TA aTO TO_kind TO_place TO_behind TO_word TO_value H.size b_TO_behind) (cwV 1 hts gX6_knownRoom_X6_refuse rfl rfl rfl (by decide +kernel) ⟨Nat.le_of_ble_eq_true rfl, Nat.le_of_ble_eq_true rfl⟩) ⟨xp_blind, va_recv hK hP (ci := 6) (q0 := 0) rfl rfl, fun U hU hW => xp_mk hU hW hPc hK hDc xNw_nil⟩ rfl rfl hl.1 rfl (lv_room (Nat.le_of_ble_eq_true rfl)) dX6_knownRoom_40 ⟨Nat.le_of_ble_eq_true rfl, Nat.le_of_ble_eq_true rfl⟩) hS (fun q _ h => hFc q h) hFc (fun r40 u9 t9 H1 locs ht9 hvm9 hr40 hB9 hz9 hk9 hS => ?_)
      obtain ⟨o40_nRE_fault, o40_nRE_faultPlace, hP1, hD1⟩ := hB9
      rw [ht9] at hP1
      obtain ⟨hP, hD⟩ := va_join (wr := [(DR, .inr (5, oX5 DF aDR DR_rooms DR_doors DR_things DR_draw DR_drawTold)), ((aDR 1), .inl (cL, 8, .inr (.inl DR_roomName)))]) (w1 := [(RE, .inr (6, oX6 TO DR o40_nRE_fault o40_nRE_faultPlace)), (TO, .inr (9, oX9 TA aTO TO_kind TO_place TO_behind TO_word TO_value))]) hP hD [0, 1] [2, 3] rfl rfl (by decide) (by decide) hk9 hFc hP1 hD1
      clear hz9 hPc hDc hP1 hD1 hk9 hFc ht9 hvm9 u9 t9
      generalize H1 = H at hP hS ⊢
      replace hP : va_P D classes [(RE, .inr (6, oX6 TO DR o40_nRE_fault o40_nRE_faultPlace)), (TO, .inr (9, oX9 TA aTO TO_kind TO_place TO_behind TO_word TO_value)), (DR, .inr (5, oX5 DF aDR DR_rooms DR_doors DR_things DR_draw DR_drawTold)), ((aDR 1), .inl (cL, 8, .inr (.inl DR_roomName)))] H := hP.sub [2, 3, 0, 1] rfl
      replace hD : va_D A [(RE, .inr (6, oX6 TO DR o40_nRE_fault o40_nRE_faultPlace)), (TO, .inr (9, oX9 TA aTO TO_kind TO_place TO_behind TO_word TO_value)), (DR, .inr (5, oX5 DF aDR DR_rooms DR_doors DR_things DR_draw DR_drawTold)), ((aDR 1), .inl (cL, 8, .inr (.inl DR_roomName)))] := hD.sub [2, 3, 0, 1] (by decide) rfl
      obtain rfl : r40 = 0 := zB_cst hr40 (by decide)
      refine lv_pop hx hb dX6_knownRoom_43 rfl ?_
      refine lv_iload_n hx hb dX6_knownRoom_44 rfl (lv_at hl 0 rfl) ?_
      exact W.iret (v := r29) hx hb hr (fun t ht hW => ⟨⟨r29, (), rfl, (zB_w be35f_r29 (by decide) (by decide)), ⟨o40_nRE_fault, o40_nRE_faultPlace, by rw [ht]; exact hP, hD⟩⟩, hS.F ht⟩) hS.2.2 dX6_knownRoom_45
  · have be7f_r4 : zB r4 0 0 := zB_eq c7 hr4 (show zB 0 0 0 from ⟨by decide, by decide⟩) (by decide) (by decide)
    refine lv_aload_n hx hb dX6_knownRoom_10 rfl (lv_at hl 0 rfl) ?_
    refine lv_iconst (v := 2) hx hb dX6_knownRoom_11 (by decide) ?_
    have hPc := hP.sub (ws' := [(RE, .inr (6, oX6 TO DR RE_fault RE_faultPlace)), (TO, .inr (9, oX9 TA aTO TO_kind TO_place TO_behind TO_word TO_value))]) [0, 1] rfl
    have hDc := hD.sub (ws' := [(RE, .inr (6, oX6 TO DR RE_fault RE_faultPlace)), (TO, .inr (9, oX9 TA aTO TO_kind TO_place TO_behind TO_word TO_value))]) [0, 1] (by decide) rfl
    have hFc := va_free (wc := [(RE, .inr (6, oX6 TO DR RE_fault RE_faultPlace)), (TO, .inr (9, oX9 TA aTO TO_kind TO_place TO_behind TO_word TO_value))]) hD hS hA [0, 1] rfl
    refine va_calli (va_runV (As := [.int 2]) (rest := []) ⟨hx, hb, hml, hown, hts⟩ (c_X6_refuse l D cI cB cL cZ cG RE 2 TO DR RE_fault RE_faultPlace TA aTO TO_kind TO_place TO_behind TO_word TO_value H.size b_TO_behind) (cwV 1 hts gX6_knownRoom_X6_refuse rfl rfl rfl (by decide +kernel) ⟨Nat.le_of_ble_eq_true rfl, Nat.le_of_ble_eq_true rfl⟩) ⟨xp_blind, va_recv hK hP (ci := 6) (q0 := 0) rfl rfl, fun U hU hW => xp_mk hU hW hPc hK hDc xNw_nil⟩ rfl rfl hl.1 rfl (lv_room (Nat.le_of_ble_eq_true rfl)) dX6_knownRoom_12 ⟨Nat.le_of_ble_eq_true rfl, Nat.le_of_ble_eq_true rfl⟩) hS (fun q _ h => hFc q h) hFc (fun r12 u9 t9 H1 locs ht9 hvm9 hr12 hB9 hz9 hk9 hS => ?_)
    obtain ⟨o12_nRE_fault, o12_nRE_faultPlace, hP1, hD1⟩ := hB9
    rw [ht9] at hP1
    obtain ⟨hP, hD⟩ := va_join (wr := [(DR, .inr (5, oX5 DF aDR DR_rooms DR_doors DR_things DR_draw DR_drawTold)), ((aDR 1), .inl (cL, 8, .inr (.inl DR_roomName)))]) (w1 := [(RE, .inr (6, oX6 TO DR o12_nRE_fault o12_nRE_faultPlace)), (TO, .inr (9, oX9 TA aTO TO_kind TO_place TO_behind TO_word TO_value))]) hP hD [0, 1] [2, 3] rfl rfl (by decide) (by decide) hk9 hFc hP1 hD1
    clear hz9 hPc hDc hP1 hD1 hk9 hFc ht9 hvm9 u9 t9
    generalize H1 = H at hP hS ⊢
    replace hP : va_P D classes [(RE, .inr (6, oX6 TO DR o12_nRE_fault o12_nRE_faultPlace)), (TO, .inr (9, oX9 TA aTO TO_kind TO_place TO_behind TO_word TO_value)), (DR, .inr (5, oX5 DF aDR DR_rooms DR_doors DR_things DR_draw DR_drawTold)), ((aDR 1), .inl (cL, 8, .inr (.inl DR_roomName)))] H := hP.sub [2, 3, 0, 1] rfl
    replace hD : va_D A [(RE, .inr (6, oX6 TO DR o12_nRE_fault o12_nRE_faultPlace)), (TO, .inr (9, oX9 TA aTO TO_kind TO_place TO_behind TO_word TO_value)), (DR, .inr (5, oX5 DF aDR DR_rooms DR_doors DR_things DR_draw DR_drawTold)), ((aDR 1), .inl (cL, 8, .inr (.inl DR_roomName)))] := hD.sub [2, 3, 0, 1] (by decide) rfl
    obtain rfl : r12 = 0 := zB_cst hr12 (by decide)
    refine lv_pop hx hb dX6_knownRoom_15 rfl ?_
    refine lv_iconst (v := (-1)) hx hb dX6_knownRoom_16 (by decide) ?_
    exact W.iret (v := (-1)) hx hb hr (fun t ht hW => ⟨⟨(-1), (), rfl, (zB_w (show zB (-1) (-1) (-1) from ⟨by decide, by decide⟩) (by decide) (by decide)), ⟨o12_nRE_fault, o12_nRE_faultPlace, by rw [ht]; exact hP, hD⟩⟩, hS.F ht⟩) hS.2.2 dX6_knownRoom_17
set_option maxHeartbeats 4000000 in
set_option maxRecDepth 100000 in
theorem c_X6_readNumberBehind (l : Launch) (D : va_G) (cI : ClassId) (cB : ClassId) (cL : ClassId) (cZ : ClassId) (cG : ClassId) (RE : Nat) (x0 : Int32) (x1 : Int32) (TO : Nat) (DR : Nat) (RE_fault : Int32) (RE_faultPlace : Int32) (TA : Nat) (aTO : Nat → Nat) (TO_kind : Int32) (TO_place : Int32) (TO_behind : Int32) (TO_word : Int64) (TO_value : Int32) (aTA : Nat → Nat) (TA_size : Int32) (TA_bytes : Nat → Int32) (TO_own : Nat → Int64) (aS : Nat) (vS : Nat) (sz : Nat) (b_TO_behind : zB TO_behind 0 1600) (b_TA_size : zB TA_size 0 1600) : Met l yX6_readNumberBehind wsX6_readNumberBehind ({ frames := 6, cells := 0, slots := 0, locals := 131 }) (xpT D [(cI, .int), (cB, .byte), (cL, .long), (cZ, .boolean), (cG, .array .int)] [(RE, .inr (6, oX6 TO DR RE_fault RE_faultPlace)), (TO, .inr (9, oX9 TA aTO TO_kind TO_place TO_behind TO_word TO_value)), (TA, .inr (8, oX8 aTA TA_size)), ((aTA 0), .inl (cB, 1600, .inl TA_bytes)), ((aTO 1), .inl (cL, 17, .inr (.inl TO_own)))] sz aS vS [.ref RE, .int x0, .int x1]) (va_Qi (fun (r : Int32) (_ : Unit) => True) (fun (_ : Unit) (t : State) => ∃ (nRE_fault : Int32), ∃ (nRE_faultPlace : Int32), ∃ (nTO_kind : Int32), ∃ (nTO_place : Int32), ∃ (nTO_behind : Int32), ∃ (nTO_word : Int64), ∃ (nTO_value : Int32), zB nTO_behind 0 1600 ∧ xB D (va_A [(RE, .inr (6, oX6 TO DR RE_fault RE_faultPlace)), (TO, .inr (9, oX9 TA aTO TO_kind TO_place TO_behind TO_word TO_value)), (TA, .inr (8, oX8 aTA TA_size)), ((aTA 0), .inl (cB, 1600, .inl TA_bytes)), ((aTO 1), .inl (cL, 17, .inr (.inl TO_own)))] sz) [(RE, .inr (6, oX6 TO DR nRE_fault nRE_faultPlace)), (TO, .inr (9, oX9 TA aTO nTO_kind nTO_place nTO_behind nTO_word nTO_value)), (TA, .inr (8, oX8 aTA TA_size)), ((aTA 0), .inl (cB, 1600, .inl TA_bytes)), ((aTO 1), .inl (cL, 17, .inr (.inl TO_own)))] t) (va_A [(RE, .inr (6, oX6 TO DR RE_fault RE_faultPlace)), (TO, .inr (9, oX9 TA aTO TO_kind TO_place TO_behind TO_word TO_value)), (TA, .inr (8, oX8 aTA TA_size)), ((aTA 0), .inl (cB, 1600, .inl TA_bytes)), ((aTO 1), .inl (cL, 17, .inr (.inl TO_own)))] sz)) 0 0 (va_A [(RE, .inr (6, oX6 TO DR RE_fault RE_faultPlace)), (TO, .inr (9, oX9 TA aTO TO_kind TO_place TO_behind TO_word TO_value)), (TA, .inr (8, oX8 aTA TA_size)), ((aTA 0), .inl (cB, 1600, .inl TA_bytes)), ((aTO 1), .inl (cL, 17, .inr (.inl TO_own)))] sz) := by
  refine Met.ofW (cc := cX6_readNumberBehind) (maxL := 4) (ret := (some .int)) (by decide) rfl ?_
  intro p e s m args below meth c s₁ B hml hv
  obtain ⟨rfl, hsz, hP, hK, hD0, hStr⟩ := hv
  have hNw := hsz
  have hx := B.exec
  have hb := B.bytes
  have hr := B.returns
  have hts := atoms_spec (ws := wsX6_readNumberBehind) B.pre
  have hown : s.vm.findClass RX6 = some m.cls := findClass_of_methodNamed B.named
  have hlocks := B.notSynchronized
  clear B
  subst hsz
  have hD := hD0.self (sz := s.heap.size)
  clear hD0 hNw
  generalize hAe : va_A [(RE, .inr (6, oX6 TO DR RE_fault RE_faultPlace)), (TO, .inr (9, oX9 TA aTO TO_kind TO_place TO_behind TO_word TO_value)), (TA, .inr (8, oX8 aTA TA_size)), ((aTA 0), .inl (cB, 1600, .inl TA_bytes)), ((aTO 1), .inl (cL, 17, .inr (.inl TO_own)))] s.heap.size = A at hD hStr ⊢
  have hA : ∀ q : Nat, s.heap.size ≤ q → A q := fun q h => by rw [← hAe]; exact Or.inr h
  have hS : va_S A s.heap s.heap [] := va_S.rf
  clear hAe
  obtain ⟨H, hH⟩ : ∃ H : Heap, H = s.heap := ⟨_, rfl⟩
  obtain ⟨locs, hlocs⟩ : ∃ L : List Loc, L = [] := ⟨_, rfl⟩
  replace hP : va_P D classes [(RE, .inr (6, oX6 TO DR RE_fault RE_faultPlace)), (TO, .inr (9, oX9 TA aTO TO_kind TO_place TO_behind TO_word TO_value)), (TA, .inr (8, oX8 aTA TA_size)), ((aTA 0), .inl (cB, 1600, .inl TA_bytes)), ((aTO 1), .inl (cL, 17, .inr (.inl TO_own)))] H := by rw [hH]; exact hP
  replace hS : va_S A s.heap H locs := by rw [hH, hlocs]; exact hS
  rw [← hH, ← hlocs]
  clear hlocs hH
  have hl := lv_entry ([.ref RE, .int x0, .int x1]) (n := 4) (Nat.le_of_ble_eq_true rfl)
  rw [lg_entry_eq]
  generalize (lg_sl ([.ref RE, .int x0, .int x1]) ++ List.replicate (4 - (lg_sl ([.ref RE, .int x0, .int x1])).length) Slot.unset).toArray = ls at hl ⊢
  replace hl : lv_has ls 4 [(0, .ref RE), (1, .int x0), (2, .int x1)] := hl
  refine lv_aload_n hx hb dX6_readNumberBehind_0 rfl (lv_at hl 0 rfl) ?_
  refine va_get (D := D) (ci := 6) (v := .ref TO) (C := RX6) (T := TX6) (N := 4) hx hb hts iw_X6_readNumberBehind_X6 hown hK hP 0 rfl rfl 0 (by decide) (hts (.fieldLink RX6 20 "SoldHouse$Reader" "tokens" "LSoldHouse$Tokens;") (List.mem_of_getElem? (i := 1) rfl)) (fun _ h9 => h9) rfl dX6_readNumberBehind_1 ?_
  refine lv_iload_n hx hb dX6_readNumberBehind_4 rfl (lv_at hl 1 rfl) ?_
  have hPc := hP.sub (ws' := [(TO, .inr (9, oX9 TA aTO TO_kind TO_place TO_behind TO_word TO_value))]) [1] rfl
  refine vp_callSi (va_runV (As := [.int x0]) (rest := []) ⟨hx, hb, hml, hown, hts⟩ (c_X9_isOwn l D cI cB cL cZ cG TO x0 TA aTO TO_kind TO_place TO_behind TO_word TO_value b_TO_behind) (cwV 1 hts gX6_readNumberBehind_X9_isOwn rfl rfl rfl (by decide +kernel) ⟨Nat.le_of_ble_eq_true rfl, Nat.le_of_ble_eq_true rfl⟩) ⟨xr_blind, va_recv hK hP (ci := 9) (q0 := 1) rfl rfl, fun U hU hW => xr_mk hU hW hPc hK⟩ rfl rfl hl.1 rfl (lv_room (Nat.le_of_ble_eq_true rfl)) dX6_readNumberBehind_5 ⟨Nat.le_of_ble_eq_true rfl, Nat.le_of_ble_eq_true rfl⟩).run (fun r5 hr5 => ?_)
  clear hPc
  refine lv_if_ne (tgt := 13) hx hb dX6_readNumberBehind_8 (by decide) (fun c8 => ?_) (fun c8 => ?_)
  · have bn8t_r5 : zB r5 1 1 := zB_neL c8 hr5 (show zB 0 0 0 from ⟨by decide, by decide⟩) (by decide)
    refine lv_aload_n hx hb dX6_readNumberBehind_13 rfl (lv_at hl 0 rfl) ?_
    refine va_get (D := D) (ci := 6) (v := .ref TO) (C := RX6) (T := TX6) (N := 4) hx hb hts iw_X6_readNumberBehind_X6 hown hK hP 0 rfl rfl 0 (by decide) (hts (.fieldLink RX6 20 "SoldHouse$Reader" "tokens" "LSoldHouse$Tokens;") (List.mem_of_getElem? (i := 1) rfl)) (fun _ h9 => h9) rfl dX6_readNumberBehind_14 ?_
    have hPc := hP.sub (ws' := [(TO, .inr (9, oX9 TA aTO TO_kind TO_place TO_behind TO_word TO_value)), (TA, .inr (8, oX8 aTA TA_size)), ((aTA 0), .inl (cB, 1600, .inl TA_bytes)), ((aTO 1), .inl (cL, 17, .inr (.inl TO_own)))]) [1, 2, 3, 4] rfl
    have hDc := hD.sub (ws' := [(TO, .inr (9, oX9 TA aTO TO_kind TO_place TO_behind TO_word TO_value)), (TA, .inr (8, oX8 aTA TA_size)), ((aTA 0), .inl (cB, 1600, .inl TA_bytes)), ((aTO 1), .inl (cL, 17, .inr (.inl TO_own)))]) [1, 2, 3, 4] (by decide) rfl
    have hFc := va_free (wc := [(TO, .inr (9, oX9 TA aTO TO_kind TO_place TO_behind TO_word TO_value)), (TA, .inr (8, oX8 aTA TA_size)), ((aTA 0), .inl (cB, 1600, .inl TA_bytes)), ((aTO 1), .inl (cL, 17, .inr (.inl TO_own)))]) hD hS hA [1, 2, 3, 4] rfl
    refine va_callv (va_runV (As := []) (rest := []) ⟨hx, hb, hml, hown, hts⟩ (c_X9_advance l D cI cB cL cZ cG TO TA aTO TO_kind TO_place TO_behind TO_word TO_value aTA TA_size TA_bytes aS vS TO_own H.size b_TO_behind b_TA_size) (cwV 0 hts gX6_readNumberBehind_X9_advance rfl rfl rfl (by decide +kernel) ⟨Nat.le_of_ble_eq_true rfl, Nat.le_of_ble_eq_true rfl⟩) ⟨xpT_blind, va_recv hK hP (ci := 9) (q0 := 1) rfl rfl, fun U hU hW => xpT_mk hU hW hPc hK hDc hStr hS hFc⟩ rfl rfl hl.1 rfl (lv_room (Nat.le_of_ble_eq_true rfl)) dX6_readNumberBehind_17 ⟨Nat.le_of_ble_eq_true rfl, Nat.le_of_ble_eq_true rfl⟩) hS (fun q _ h => hFc q h) hFc (fun u9 t9 H1 locs ht9 hvm9 hr17 hB9 hz9 hk9 hS => ?_)
    obtain ⟨o17_nTO_kind, o17_nTO_place, o17_nTO_behind, o17_nTO_word, o17_nTO_value, bo17_nTO_kind, bo17_nTO_place, bo17_nTO_behind, hP1, hD1⟩ := hB9
    rw [ht9] at hP1
    obtain ⟨hP, hD⟩ := va_join (wr := [(RE, .inr (6, oX6 TO DR RE_fault RE_faultPlace))]) (w1 := [(TO, .inr (9, oX9 TA aTO o17_nTO_kind o17_nTO_place o17_nTO_behind o17_nTO_word o17_nTO_value)), (TA, .inr (8, oX8 aTA TA_size)), ((aTA 0), .inl (cB, 1600, .inl TA_bytes)), ((aTO 1), .inl (cL, 17, .inr (.inl TO_own)))]) hP hD [1, 2, 3, 4] [0] rfl rfl (by decide) (by decide) hk9 hFc hP1 hD1
    clear hz9 hPc hDc hP1 hD1 hk9 hFc ht9 hvm9 u9 t9
    generalize H1 = H at hP hS ⊢
    replace hP : va_P D classes [(RE, .inr (6, oX6 TO DR RE_fault RE_faultPlace)), (TO, .inr (9, oX9 TA aTO o17_nTO_kind o17_nTO_place o17_nTO_behind o17_nTO_word o17_nTO_value)), (TA, .inr (8, oX8 aTA TA_size)), ((aTA 0), .inl (cB, 1600, .inl TA_bytes)), ((aTO 1), .inl (cL, 17, .inr (.inl TO_own)))] H := hP
    replace hD : va_D A [(RE, .inr (6, oX6 TO DR RE_fault RE_faultPlace)), (TO, .inr (9, oX9 TA aTO o17_nTO_kind o17_nTO_place o17_nTO_behind o17_nTO_word o17_nTO_value)), (TA, .inr (8, oX8 aTA TA_size)), ((aTA 0), .inl (cB, 1600, .inl TA_bytes)), ((aTO 1), .inl (cL, 17, .inr (.inl TO_own)))] := hD
    refine lv_aload_n hx hb dX6_readNumberBehind_20 rfl (lv_at hl 0 rfl) ?_
    refine va_get (D := D) (ci := 6) (v := .ref TO) (C := RX6) (T := TX6) (N := 4) hx hb hts iw_X6_readNumberBehind_X6 hown hK hP 0 rfl rfl 0 (by decide) (hts (.fieldLink RX6 20 "SoldHouse$Reader" "tokens" "LSoldHouse$Tokens;") (List.mem_of_getElem? (i := 1) rfl)) (fun _ h9 => h9) rfl dX6_readNumberBehind_21 ?_
    refine va_get (D := D) (ci := 9) (v := .int o17_nTO_kind) (C := RX9) (T := TX9) (N := 7) hx hb hts iw_X6_readNumberBehind_X9 hown hK hP 1 rfl rfl 2 (by decide) (hts (.fieldLink RX6 34 "SoldHouse$Tokens" "kind" "I") (List.mem_of_getElem? (i := 2) rfl)) (fun _ h9 => h9) rfl dX6_readNumberBehind_24 ?_
    refine lv_iconst (v := 2) hx hb dX6_readNumberBehind_27 (by decide) ?_
    refine lv_icmp_eq (tgt := 39) hx hb dX6_readNumberBehind_28 (by decide) (fun c28 => ?_) (fun c28 => ?_)
    · have be28t_o17_nTO_kind : zB o17_nTO_kind 2 2 := zB_eq c28 bo17_nTO_kind (show zB 2 2 2 from ⟨by decide, by decide⟩) (by decide) (by decide)
      refine lv_aload_n hx hb dX6_readNumberBehind_39 rfl (lv_at hl 0 rfl) ?_
      refine va_get (D := D) (ci := 6) (v := .ref TO) (C := RX6) (T := TX6) (N := 4) hx hb hts iw_X6_readNumberBehind_X6 hown hK hP 0 rfl rfl 0 (by decide) (hts (.fieldLink RX6 20 "SoldHouse$Reader" "tokens" "LSoldHouse$Tokens;") (List.mem_of_getElem? (i := 1) rfl)) (fun _ h9 => h9) rfl dX6_readNumberBehind_40 ?_
      refine va_get (D := D) (ci := 9) (v := .int o17_nTO_value) (C := RX9) (T := TX9) (N := 7) hx hb hts iw_X6_readNumberBehind_X9 hown hK hP 1 rfl rfl 6 (by decide) (hts (.fieldLink RX6 37 "SoldHouse$Tokens" "value" "I") (List.mem_of_getElem? (i := 3) rfl)) (fun _ h9 => h9) rfl dX6_readNumberBehind_43 ?_
      refine lv_iload_n hx hb dX6_readNumberBehind_46 rfl (lv_at hl 2 rfl) ?_
      refine lv_icmp_le (tgt := 58) hx hb dX6_readNumberBehind_47 (by decide) (fun c47 => ?_) (fun c47 => ?_)
      · refine lv_aload_n hx hb dX6_readNumberBehind_58 rfl (lv_at hl 0 rfl) ?_
        refine va_get (D := D) (ci := 6) (v := .ref TO) (C := RX6) (T := TX6) (N := 4) hx hb hts iw_X6_readNumberBehind_X6 hown hK hP 0 rfl rfl 0 (by decide) (hts (.fieldLink RX6 20 "SoldHouse$Reader" "tokens" "LSoldHouse$Tokens;") (List.mem_of_getElem? (i := 1) rfl)) (fun _ h9 => h9) rfl dX6_readNumberBehind_59 ?_
        refine va_get (D := D) (ci := 9) (v := .int o17_nTO_value) (C := RX9) (T := TX9) (N := 7) hx hb hts iw_X6_readNumberBehind_X9 hown hK hP 1 rfl rfl 6 (by decide) (hts (.fieldLink RX6 37 "SoldHouse$Tokens" "value" "I") (List.mem_of_getElem? (i := 3) rfl)) (fun _ h9 => h9) rfl dX6_readNumberBehind_62 ?_
        refine lv_istore_n (lv' := [(3, .int o17_nTO_value), (0, .ref RE), (1, .int x0), (2, .int x1)]) hx hb dX6_readNumberBehind_65 rfl hl (by decide) rfl (fun ls hl => ?_)
        refine lv_aload_n hx hb dX6_readNumberBehind_66 rfl (lv_at hl 1 rfl) ?_
        refine va_get (D := D) (ci := 6) (v := .ref TO) (C := RX6) (T := TX6) (N := 4) hx hb hts iw_X6_readNumberBehind_X6 hown hK hP 0 rfl rfl 0 (by decide) (hts (.fieldLink RX6 20 "SoldHouse$Reader" "tokens" "LSoldHouse$Tokens;") (List.mem_of_getElem? (i := 1) rfl)) (fun _ h9 => h9) rfl dX6_readNumberBehind_67 ?_
        have hPc := hP.sub (ws' := [(TO, .inr (9, oX9 TA aTO o17_nTO_kind o17_nTO_place o17_nTO_behind o17_nTO_word o17_nTO_value)), (TA, .inr (8, oX8 aTA TA_size)), ((aTA 0), .inl (cB, 1600, .inl TA_bytes)), ((aTO 1), .inl (cL, 17, .inr (.inl TO_own)))]) [1, 2, 3, 4] rfl
        have hDc := hD.sub (ws' := [(TO, .inr (9, oX9 TA aTO o17_nTO_kind o17_nTO_place o17_nTO_behind o17_nTO_word o17_nTO_value)), (TA, .inr (8, oX8 aTA TA_size)), ((aTA 0), .inl (cB, 1600, .inl TA_bytes)), ((aTO 1), .inl (cL, 17, .inr (.inl TO_own)))]) [1, 2, 3, 4] (by decide) rfl
        have hFc := va_free (wc := [(TO, .inr (9, oX9 TA aTO o17_nTO_kind o17_nTO_place o17_nTO_behind o17_nTO_word o17_nTO_value)), (TA, .inr (8, oX8 aTA TA_size)), ((aTA 0), .inl (cB, 1600, .inl TA_bytes)), ((aTO 1), .inl (cL, 17, .inr (.inl TO_own)))]) hD hS hA [1, 2, 3, 4] rfl
        refine va_callv (va_runV (As := []) (rest := []) ⟨hx, hb, hml, hown, hts⟩ (c_X9_advance l D cI cB cL cZ cG TO TA aTO o17_nTO_kind o17_nTO_place o17_nTO_behind o17_nTO_word o17_nTO_value aTA TA_size TA_bytes aS vS TO_own H.size bo17_nTO_behind b_TA_size) (cwV 0 hts gX6_readNumberBehind_X9_advance rfl rfl rfl (by decide +kernel) ⟨Nat.le_of_ble_eq_true rfl, Nat.le_of_ble_eq_true rfl⟩) ⟨xpT_blind, va_recv hK hP (ci := 9) (q0 := 1) rfl rfl, fun U hU hW => xpT_mk hU hW hPc hK hDc hStr hS hFc⟩ rfl rfl hl.1 rfl (lv_room (Nat.le_of_ble_eq_true rfl)) dX6_readNumberBehind_70 ⟨Nat.le_of_ble_eq_true rfl, Nat.le_of_ble_eq_true rfl⟩) hS (fun q _ h => hFc q h) hFc (fun u9 t9 H1 locs ht9 hvm9 hr70 hB9 hz9 hk9 hS => ?_)
        obtain ⟨o70_nTO_kind, o70_nTO_place, o70_nTO_behind, o70_nTO_word, o70_nTO_value, bo70_nTO_kind, bo70_nTO_place, bo70_nTO_behind, hP1, hD1⟩ := hB9
        rw [ht9] at hP1
        obtain ⟨hP, hD⟩ := va_join (wr := [(RE, .inr (6, oX6 TO DR RE_fault RE_faultPlace))]) (w1 := [(TO, .inr (9, oX9 TA aTO o70_nTO_kind o70_nTO_place o70_nTO_behind o70_nTO_word o70_nTO_value)), (TA, .inr (8, oX8 aTA TA_size)), ((aTA 0), .inl (cB, 1600, .inl TA_bytes)), ((aTO 1), .inl (cL, 17, .inr (.inl TO_own)))]) hP hD [1, 2, 3, 4] [0] rfl rfl (by decide) (by decide) hk9 hFc hP1 hD1
        clear hz9 hPc hDc hP1 hD1 hk9 hFc ht9 hvm9 u9 t9
        generalize H1 = H at hP hS ⊢
        replace hP : va_P D classes [(RE, .inr (6, oX6 TO DR RE_fault RE_faultPlace)), (TO, .inr (9, oX9 TA aTO o70_nTO_kind o70_nTO_place o70_nTO_behind o70_nTO_word o70_nTO_value)), (TA, .inr (8, oX8 aTA TA_size)), ((aTA 0), .inl (cB, 1600, .inl TA_bytes)), ((aTO 1), .inl (cL, 17, .inr (.inl TO_own)))] H := hP
        replace hD : va_D A [(RE, .inr (6, oX6 TO DR RE_fault RE_faultPlace)), (TO, .inr (9, oX9 TA aTO o70_nTO_kind o70_nTO_place o70_nTO_behind o70_nTO_word o70_nTO_value)), (TA, .inr (8, oX8 aTA TA_size)), ((aTA 0), .inl (cB, 1600, .inl TA_bytes)), ((aTO 1), .inl (cL, 17, .inr (.inl TO_own)))] := hD
        refine lv_iload_n hx hb dX6_readNumberBehind_73 rfl (lv_at hl 0 rfl) ?_
        exact W.iret (v := o17_nTO_value) hx hb hr (fun t ht hW => ⟨⟨o17_nTO_value, (), rfl, trivial, ⟨RE_fault, RE_faultPlace, o70_nTO_kind, o70_nTO_place, o70_nTO_behind, o70_nTO_word, o70_nTO_value, bo70_nTO_behind, by rw [ht]; exact hP, hD⟩⟩, hS.F ht⟩) hS.2.2 dX6_readNumberBehind_74
      · have bx47f_x1 : zB x1 (-2147483648) 2147483646 := zB_ltu (zf c47) (zB_top x1) (zB_top o17_nTO_value) (by decide)
        have by47f_o17_nTO_value : zB o17_nTO_value (-2147483647) 2147483647 := zB_ltv (zf c47) bx47f_x1 (zB_top o17_nTO_value) (by decide)
        refine lv_aload_n hx hb dX6_readNumberBehind_50 rfl (lv_at hl 0 rfl) ?_
        refine lv_iconst (v := 4) hx hb dX6_readNumberBehind_51 (by decide) ?_
        have hPc := hP.sub (ws' := [(RE, .inr (6, oX6 TO DR RE_fault RE_faultPlace)), (TO, .inr (9, oX9 TA aTO o17_nTO_kind o17_nTO_place o17_nTO_behind o17_nTO_word o17_nTO_value))]) [0, 1] rfl
        have hDc := hD.sub (ws' := [(RE, .inr (6, oX6 TO DR RE_fault RE_faultPlace)), (TO, .inr (9, oX9 TA aTO o17_nTO_kind o17_nTO_place o17_nTO_behind o17_nTO_word o17_nTO_value))]) [0, 1] (by decide) rfl
        have hFc := va_free (wc := [(RE, .inr (6, oX6 TO DR RE_fault RE_faultPlace)), (TO, .inr (9, oX9 TA aTO o17_nTO_kind o17_nTO_place o17_nTO_behind o17_nTO_word o17_nTO_value))]) hD hS hA [0, 1] rfl
        refine va_calli (va_runV (As := [.int 4]) (rest := []) ⟨hx, hb, hml, hown, hts⟩ (c_X6_refuse l D cI cB cL cZ cG RE 4 TO DR RE_fault RE_faultPlace TA aTO o17_nTO_kind o17_nTO_place o17_nTO_behind o17_nTO_word o17_nTO_value H.size bo17_nTO_behind) (cwV 1 hts gX6_readNumberBehind_X6_refuse rfl rfl rfl (by decide +kernel) ⟨Nat.le_of_ble_eq_true rfl, Nat.le_of_ble_eq_true rfl⟩) ⟨xp_blind, va_recv hK hP (ci := 6) (q0 := 0) rfl rfl, fun U hU hW => xp_mk hU hW hPc hK hDc xNw_nil⟩ rfl rfl hl.1 rfl (lv_room (Nat.le_of_ble_eq_true rfl)) dX6_readNumberBehind_52 ⟨Nat.le_of_ble_eq_true rfl, Nat.le_of_ble_eq_true rfl⟩) hS (fun q _ h => hFc q h) hFc (fun r52 u9 t9 H1 locs ht9 hvm9 hr52 hB9 hz9 hk9 hS => ?_)
        obtain ⟨o52_nRE_fault, o52_nRE_faultPlace, hP1, hD1⟩ := hB9
        rw [ht9] at hP1
        obtain ⟨hP, hD⟩ := va_join (wr := [(TA, .inr (8, oX8 aTA TA_size)), ((aTA 0), .inl (cB, 1600, .inl TA_bytes)), ((aTO 1), .inl (cL, 17, .inr (.inl TO_own)))]) (w1 := [(RE, .inr (6, oX6 TO DR o52_nRE_fault o52_nRE_faultPlace)), (TO, .inr (9, oX9 TA aTO o17_nTO_kind o17_nTO_place o17_nTO_behind o17_nTO_word o17_nTO_value))]) hP hD [0, 1] [2, 3, 4] rfl rfl (by decide) (by decide) hk9 hFc hP1 hD1
        clear hz9 hPc hDc hP1 hD1 hk9 hFc ht9 hvm9 u9 t9
        generalize H1 = H at hP hS ⊢
        replace hP : va_P D classes [(RE, .inr (6, oX6 TO DR o52_nRE_fault o52_nRE_faultPlace)), (TO, .inr (9, oX9 TA aTO o17_nTO_kind o17_nTO_place o17_nTO_behind o17_nTO_word o17_nTO_value)), (TA, .inr (8, oX8 aTA TA_size)), ((aTA 0), .inl (cB, 1600, .inl TA_bytes)), ((aTO 1), .inl (cL, 17, .inr (.inl TO_own)))] H := hP.sub [3, 4, 0, 1, 2] rfl
        replace hD : va_D A [(RE, .inr (6, oX6 TO DR o52_nRE_fault o52_nRE_faultPlace)), (TO, .inr (9, oX9 TA aTO o17_nTO_kind o17_nTO_place o17_nTO_behind o17_nTO_word o17_nTO_value)), (TA, .inr (8, oX8 aTA TA_size)), ((aTA 0), .inl (cB, 1600, .inl TA_bytes)), ((aTO 1), .inl (cL, 17, .inr (.inl TO_own)))] := hD.sub [3, 4, 0, 1, 2] (by decide) rfl
        obtain rfl : r52 = 0 := zB_cst hr52 (by decide)
        refine lv_pop hx hb dX6_readNumberBehind_55 rfl ?_
        refine lv_iconst (v := (-1)) hx hb dX6_readNumberBehind_56 (by decide) ?_
        exact W.iret (v := (-1)) hx hb hr (fun t ht hW => ⟨⟨(-1), (), rfl, trivial, ⟨o52_nRE_fault, o52_nRE_faultPlace, o17_nTO_kind, o17_nTO_place, o17_nTO_behind, o17_nTO_word, o17_nTO_value, bo17_nTO_behind, by rw [ht]; exact hP, hD⟩⟩, hS.F ht⟩) hS.2.2 dX6_readNumberBehind_57
    · refine lv_aload_n hx hb dX6_readNumberBehind_31 rfl (lv_at hl 0 rfl) ?_
      refine lv_iconst (v := 2) hx hb dX6_readNumberBehind_32 (by decide) ?_
      have hPc := hP.sub (ws' := [(RE, .inr (6, oX6 TO DR RE_fault RE_faultPlace)), (TO, .inr (9, oX9 TA aTO o17_nTO_kind o17_nTO_place o17_nTO_behind o17_nTO_word o17_nTO_value))]) [0, 1] rfl
      have hDc := hD.sub (ws' := [(RE, .inr (6, oX6 TO DR RE_fault RE_faultPlace)), (TO, .inr (9, oX9 TA aTO o17_nTO_kind o17_nTO_place o17_nTO_behind o17_nTO_word o17_nTO_value))]) [0, 1] (by decide) rfl
      have hFc := va_free (wc := [(RE, .inr (6, oX6 TO DR RE_fault RE_faultPlace)), (TO, .inr (9, oX9 TA aTO o17_nTO_kind o17_nTO_place o17_nTO_behind o17_nTO_word o17_nTO_value))]) hD hS hA [0, 1] rfl
      refine va_calli (va_runV (As := [.int 2]) (rest := []) ⟨hx, hb, hml, hown, hts⟩ (c_X6_refuse l D cI cB cL cZ cG RE 2 TO DR RE_fault RE_faultPlace TA aTO o17_nTO_kind o17_nTO_place o17_nTO_behind o17_nTO_word o17_nTO_value H.size bo17_nTO_behind) (cwV 1 hts gX6_readNumberBehind_X6_refuse rfl rfl rfl (by decide +kernel) ⟨Nat.le_of_ble_eq_true rfl, Nat.le_of_ble_eq_true rfl⟩) ⟨xp_blind, va_recv hK hP (ci := 6) (q0 := 0) rfl rfl, fun U hU hW => xp_mk hU hW hPc hK hDc xNw_nil⟩ rfl rfl hl.1 rfl (lv_room (Nat.le_of_ble_eq_true rfl)) dX6_readNumberBehind_33 ⟨Nat.le_of_ble_eq_true rfl, Nat.le_of_ble_eq_true rfl⟩) hS (fun q _ h => hFc q h) hFc (fun r33 u9 t9 H1 locs ht9 hvm9 hr33 hB9 hz9 hk9 hS => ?_)
      obtain ⟨o33_nRE_fault, o33_nRE_faultPlace, hP1, hD1⟩ := hB9
      rw [ht9] at hP1
      obtain ⟨hP, hD⟩ := va_join (wr := [(TA, .inr (8, oX8 aTA TA_size)), ((aTA 0), .inl (cB, 1600, .inl TA_bytes)), ((aTO 1), .inl (cL, 17, .inr (.inl TO_own)))]) (w1 := [(RE, .inr (6, oX6 TO DR o33_nRE_fault o33_nRE_faultPlace)), (TO, .inr (9, oX9 TA aTO o17_nTO_kind o17_nTO_place o17_nTO_behind o17_nTO_word o17_nTO_value))]) hP hD [0, 1] [2, 3, 4] rfl rfl (by decide) (by decide) hk9 hFc hP1 hD1
      clear hz9 hPc hDc hP1 hD1 hk9 hFc ht9 hvm9 u9 t9
      generalize H1 = H at hP hS ⊢
      replace hP : va_P D classes [(RE, .inr (6, oX6 TO DR o33_nRE_fault o33_nRE_faultPlace)), (TO, .inr (9, oX9 TA aTO o17_nTO_kind o17_nTO_place o17_nTO_behind o17_nTO_word o17_nTO_value)), (TA, .inr (8, oX8 aTA TA_size)), ((aTA 0), .inl (cB, 1600, .inl TA_bytes)), ((aTO 1), .inl (cL, 17, .inr (.inl TO_own)))] H := hP.sub [3, 4, 0, 1, 2] rfl
      replace hD : va_D A [(RE, .inr (6, oX6 TO DR o33_nRE_fault o33_nRE_faultPlace)), (TO, .inr (9, oX9 TA aTO o17_nTO_kind o17_nTO_place o17_nTO_behind o17_nTO_word o17_nTO_value)), (TA, .inr (8, oX8 aTA TA_size)), ((aTA 0), .inl (cB, 1600, .inl TA_bytes)), ((aTO 1), .inl (cL, 17, .inr (.inl TO_own)))] := hD.sub [3, 4, 0, 1, 2] (by decide) rfl
      obtain rfl : r33 = 0 := zB_cst hr33 (by decide)
      refine lv_pop hx hb dX6_readNumberBehind_36 rfl ?_
      refine lv_iconst (v := (-1)) hx hb dX6_readNumberBehind_37 (by decide) ?_
      exact W.iret (v := (-1)) hx hb hr (fun t ht hW => ⟨⟨(-1), (), rfl, trivial, ⟨o33_nRE_fault, o33_nRE_faultPlace, o17_nTO_kind, o17_nTO_place, o17_nTO_behind, o17_nTO_word, o17_nTO_value, bo17_nTO_behind, by rw [ht]; exact hP, hD⟩⟩, hS.F ht⟩) hS.2.2 dX6_readNumberBehind_38
  · have be8f_r5 : zB r5 0 0 := zB_eq c8 hr5 (show zB 0 0 0 from ⟨by decide, by decide⟩) (by decide) (by decide)
    refine lv_iconst (v := 0) hx hb dX6_readNumberBehind_11 (by decide) ?_
    exact W.iret (v := 0) hx hb hr (fun t ht hW => ⟨⟨0, (), rfl, trivial, ⟨RE_fault, RE_faultPlace, TO_kind, TO_place, TO_behind, TO_word, TO_value, b_TO_behind, by rw [ht]; exact hP, hD⟩⟩, hS.F ht⟩) hS.2.2 dX6_readNumberBehind_12
set_option maxHeartbeats 4000000 in
set_option maxRecDepth 100000 in
theorem c_X6_product (l : Launch) (D : va_G) (cI : ClassId) (cB : ClassId) (cL : ClassId) (cZ : ClassId) (cG : ClassId) (RE : Nat) (TO : Nat) (DR : Nat) (RE_fault : Int32) (RE_faultPlace : Int32) (TA : Nat) (aTO : Nat → Nat) (TO_kind : Int32) (TO_place : Int32) (TO_behind : Int32) (TO_word : Int64) (TO_value : Int32) (b_TO_behind : zB TO_behind 0 1600) : Met l yX6_product wsX6_product ({ frames := 0, cells := 0, slots := 0, locals := 0 }) (xr D [(cI, .int), (cB, .byte), (cL, .long), (cZ, .boolean), (cG, .array .int)] [(RE, .inr (6, oX6 TO DR RE_fault RE_faultPlace)), (TO, .inr (9, oX9 TA aTO TO_kind TO_place TO_behind TO_word TO_value))] [.ref RE]) (vp_Si (fun r => zB r (-16) 0)) 0 0 (fun _ => False) := by
  refine Met.ofW (cc := cX6_product) (maxL := 1) (ret := (some .int)) (by decide) rfl ?_
  intro p e s m args below meth c s₁ B hml hv
  obtain ⟨rfl, hP, hK⟩ := hv
  have hx := B.exec
  have hb := B.bytes
  have hr := B.returns
  have hts := atoms_spec (ws := wsX6_product) B.pre
  have hown : s.vm.findClass RX6 = some m.cls := findClass_of_methodNamed B.named
  have hlocks := B.notSynchronized
  clear B
  have hl := lv_entry ([.ref RE]) (n := 1) (Nat.le_of_ble_eq_true rfl)
  rw [lg_entry_eq]
  generalize (lg_sl ([.ref RE]) ++ List.replicate (1 - (lg_sl ([.ref RE])).length) Slot.unset).toArray = ls at hl ⊢
  replace hl : lv_has ls 1 [(0, .ref RE)] := hl
  refine lv_aload_n hx hb dX6_product_0 rfl (lv_at hl 0 rfl) ?_
  refine va_get (D := D) (ci := 6) (v := .ref TO) (C := RX6) (T := TX6) (N := 4) hx hb hts iw_X6_product_X6 hown hK hP 0 rfl rfl 0 (by decide) (hts (.fieldLink RX6 20 "SoldHouse$Reader" "tokens" "LSoldHouse$Tokens;") (List.mem_of_getElem? (i := 1) rfl)) (fun _ h9 => h9) rfl dX6_product_1 ?_
  refine va_get (D := D) (ci := 9) (v := .int TO_kind) (C := RX9) (T := TX9) (N := 7) hx hb hts iw_X6_product_X9 hown hK hP 1 rfl rfl 2 (by decide) (hts (.fieldLink RX6 34 "SoldHouse$Tokens" "kind" "I") (List.mem_of_getElem? (i := 2) rfl)) (fun _ h9 => h9) rfl dX6_product_4 ?_
  refine lv_iconst (v := 3) hx hb dX6_product_7 (by decide) ?_
  refine lv_icmp_eq (tgt := 13) hx hb dX6_product_8 (by decide) (fun c8 => ?_) (fun c8 => ?_)
  · have be8t_TO_kind : zB TO_kind 3 3 := zB_eq c8 (zB_top TO_kind) (show zB 3 3 3 from ⟨by decide, by decide⟩) (by decide) (by decide)
    refine lv_aload_n hx hb dX6_product_13 rfl (lv_at hl 0 rfl) ?_
    refine va_get (D := D) (ci := 6) (v := .ref TO) (C := RX6) (T := TX6) (N := 4) hx hb hts iw_X6_product_X6 hown hK hP 0 rfl rfl 0 (by decide) (hts (.fieldLink RX6 20 "SoldHouse$Reader" "tokens" "LSoldHouse$Tokens;") (List.mem_of_getElem? (i := 1) rfl)) (fun _ h9 => h9) rfl dX6_product_14 ?_
    refine va_get (D := D) (ci := 9) (v := .int TO_value) (C := RX9) (T := TX9) (N := 7) hx hb hts iw_X6_product_X9 hown hK hP 1 rfl rfl 6 (by decide) (hts (.fieldLink RX6 37 "SoldHouse$Tokens" "value" "I") (List.mem_of_getElem? (i := 3) rfl)) (fun _ h9 => h9) rfl dX6_product_17 ?_
    by_cases c20_37 : TO_value = 37
    · obtain rfl := c20_37
      refine lv_lookup (off := 42) (tgt := 62) hx hb dX6_product_20 (by decide) (by decide) (by decide) ?_
      refine lv_bipush (v := (-16)) hx hb dX6_product_62 (by decide) ?_
      exact W.iret (v := (-16)) hx hb hr (fun t ht hW => ⟨(-16), rfl, (zB_w (show zB (-16) (-16) (-16) from ⟨by decide, by decide⟩) (by decide) (by decide)), ht⟩) (fun q hq => by cases hq) dX6_product_64
    by_cases c20_42 : TO_value = 42
    · obtain rfl := c20_42
      refine lv_lookup (off := 36) (tgt := 56) hx hb dX6_product_20 (by decide) (by decide) (by decide) ?_
      refine lv_bipush (v := (-14)) hx hb dX6_product_56 (by decide) ?_
      exact W.iret (v := (-14)) hx hb hr (fun t ht hW => ⟨(-14), rfl, (zB_w (show zB (-14) (-14) (-14) from ⟨by decide, by decide⟩) (by decide) (by decide)), ht⟩) (fun q hq => by cases hq) dX6_product_58
    by_cases c20_47 : TO_value = 47
    · obtain rfl := c20_47
      refine lv_lookup (off := 39) (tgt := 59) hx hb dX6_product_20 (by decide) (by decide) (by decide) ?_
      refine lv_bipush (v := (-15)) hx hb dX6_product_59 (by decide) ?_
      exact W.iret (v := (-15)) hx hb hr (fun t ht hW => ⟨(-15), rfl, (zB_w (show zB (-15) (-15) (-15) from ⟨by decide, by decide⟩) (by decide) (by decide)), ht⟩) (fun q hq => by cases hq) dX6_product_61
    refine lv_lookup (off := 45) (tgt := 65) hx hb dX6_product_20 (by decide) ((lv_osw c20_37 (by decide)).trans ((lv_osw c20_42 (by decide)).trans ((lv_osw c20_47 (by decide)).trans rfl))) (by decide) ?_
    refine lv_iconst (v := 0) hx hb dX6_product_65 (by decide) ?_
    exact W.iret (v := 0) hx hb hr (fun t ht hW => ⟨0, rfl, (zB_w (show zB 0 0 0 from ⟨by decide, by decide⟩) (by decide) (by decide)), ht⟩) (fun q hq => by cases hq) dX6_product_66
  · refine lv_iconst (v := 0) hx hb dX6_product_11 (by decide) ?_
    exact W.iret (v := 0) hx hb hr (fun t ht hW => ⟨0, rfl, (zB_w (show zB 0 0 0 from ⟨by decide, by decide⟩) (by decide) (by decide)), ht⟩) (fun q hq => by cases hq) dX6_product_12
set_option maxHeartbeats 4000000 in
set_option maxRecDepth 100000 in
theorem c_X6_relation (l : Launch) (D : va_G) (cI : ClassId) (cB : ClassId) (cL : ClassId) (cZ : ClassId) (cG : ClassId) (RE : Nat) (TO : Nat) (DR : Nat) (RE_fault : Int32) (RE_faultPlace : Int32) (TA : Nat) (aTO : Nat → Nat) (TO_kind : Int32) (TO_place : Int32) (TO_behind : Int32) (TO_word : Int64) (TO_value : Int32) (b_TO_behind : zB TO_behind 0 1600) : Met l yX6_relation wsX6_relation ({ frames := 0, cells := 0, slots := 0, locals := 0 }) (xr D [(cI, .int), (cB, .byte), (cL, .long), (cZ, .boolean), (cG, .array .int)] [(RE, .inr (6, oX6 TO DR RE_fault RE_faultPlace)), (TO, .inr (9, oX9 TA aTO TO_kind TO_place TO_behind TO_word TO_value))] [.ref RE]) (vp_Si (fun r => zB r (-11) 0)) 0 0 (fun _ => False) := by
  refine Met.ofW (cc := cX6_relation) (maxL := 1) (ret := (some .int)) (by decide) rfl ?_
  intro p e s m args below meth c s₁ B hml hv
  obtain ⟨rfl, hP, hK⟩ := hv
  have hx := B.exec
  have hb := B.bytes
  have hr := B.returns
  have hts := atoms_spec (ws := wsX6_relation) B.pre
  have hown : s.vm.findClass RX6 = some m.cls := findClass_of_methodNamed B.named
  have hlocks := B.notSynchronized
  clear B
  have hl := lv_entry ([.ref RE]) (n := 1) (Nat.le_of_ble_eq_true rfl)
  rw [lg_entry_eq]
  generalize (lg_sl ([.ref RE]) ++ List.replicate (1 - (lg_sl ([.ref RE])).length) Slot.unset).toArray = ls at hl ⊢
  replace hl : lv_has ls 1 [(0, .ref RE)] := hl
  refine lv_aload_n hx hb dX6_relation_0 rfl (lv_at hl 0 rfl) ?_
  refine va_get (D := D) (ci := 6) (v := .ref TO) (C := RX6) (T := TX6) (N := 4) hx hb hts iw_X6_relation_X6 hown hK hP 0 rfl rfl 0 (by decide) (hts (.fieldLink RX6 20 "SoldHouse$Reader" "tokens" "LSoldHouse$Tokens;") (List.mem_of_getElem? (i := 1) rfl)) (fun _ h9 => h9) rfl dX6_relation_1 ?_
  refine va_get (D := D) (ci := 9) (v := .int TO_kind) (C := RX9) (T := TX9) (N := 7) hx hb hts iw_X6_relation_X9 hown hK hP 1 rfl rfl 2 (by decide) (hts (.fieldLink RX6 34 "SoldHouse$Tokens" "kind" "I") (List.mem_of_getElem? (i := 2) rfl)) (fun _ h9 => h9) rfl dX6_relation_4 ?_
  refine lv_iconst (v := 3) hx hb dX6_relation_7 (by decide) ?_
  refine lv_icmp_eq (tgt := 13) hx hb dX6_relation_8 (by decide) (fun c8 => ?_) (fun c8 => ?_)
  · have be8t_TO_kind : zB TO_kind 3 3 := zB_eq c8 (zB_top TO_kind) (show zB 3 3 3 from ⟨by decide, by decide⟩) (by decide) (by decide)
    refine lv_aload_n hx hb dX6_relation_13 rfl (lv_at hl 0 rfl) ?_
    refine va_get (D := D) (ci := 6) (v := .ref TO) (C := RX6) (T := TX6) (N := 4) hx hb hts iw_X6_relation_X6 hown hK hP 0 rfl rfl 0 (by decide) (hts (.fieldLink RX6 20 "SoldHouse$Reader" "tokens" "LSoldHouse$Tokens;") (List.mem_of_getElem? (i := 1) rfl)) (fun _ h9 => h9) rfl dX6_relation_14 ?_
    refine va_get (D := D) (ci := 9) (v := .int TO_value) (C := RX9) (T := TX9) (N := 7) hx hb hts iw_X6_relation_X9 hown hK hP 1 rfl rfl 6 (by decide) (hts (.fieldLink RX6 37 "SoldHouse$Tokens" "value" "I") (List.mem_of_getElem? (i := 3) rfl)) (fun _ h9 => h9) rfl dX6_relation_17 ?_
    by_cases c20_60 : TO_value = 60
    · obtain rfl := c20_60
      refine lv_tableIn (off := 28) (tgt := 48) hx hb dX6_relation_20 (by decide) (by decide) (by decide) (by decide) ?_
      refine lv_bipush (v := (-9)) hx hb dX6_relation_48 (by decide) ?_
      exact W.iret (v := (-9)) hx hb hr (fun t ht hW => ⟨(-9), rfl, (zB_w (show zB (-9) (-9) (-9) from ⟨by decide, by decide⟩) (by decide) (by decide)), ht⟩) (fun q hq => by cases hq) dX6_relation_50
    by_cases c20_61 : TO_value = 61
    · obtain rfl := c20_61
      refine lv_tableIn (off := 34) (tgt := 54) hx hb dX6_relation_20 (by decide) (by decide) (by decide) (by decide) ?_
      refine lv_bipush (v := (-11)) hx hb dX6_relation_54 (by decide) ?_
      exact W.iret (v := (-11)) hx hb hr (fun t ht hW => ⟨(-11), rfl, (zB_w (show zB (-11) (-11) (-11) from ⟨by decide, by decide⟩) (by decide) (by decide)), ht⟩) (fun q hq => by cases hq) dX6_relation_56
    by_cases c20_62 : TO_value = 62
    · obtain rfl := c20_62
      refine lv_tableIn (off := 31) (tgt := 51) hx hb dX6_relation_20 (by decide) (by decide) (by decide) (by decide) ?_
      refine lv_bipush (v := (-10)) hx hb dX6_relation_51 (by decide) ?_
      exact W.iret (v := (-10)) hx hb hr (fun t ht hW => ⟨(-10), rfl, (zB_w (show zB (-10) (-10) (-10) from ⟨by decide, by decide⟩) (by decide) (by decide)), ht⟩) (fun q hq => by cases hq) dX6_relation_53
    refine lv_tableOut (tgt := 57) hx hb dX6_relation_20 (by have h9_0 := zn (n := 60) c20_60 (by decide); have h9_1 := zn (n := 61) c20_61 (by decide); have h9_2 := zn (n := 62) c20_62 (by decide); omega) (by decide) ?_
    refine lv_iconst (v := 0) hx hb dX6_relation_57 (by decide) ?_
    exact W.iret (v := 0) hx hb hr (fun t ht hW => ⟨0, rfl, (zB_w (show zB 0 0 0 from ⟨by decide, by decide⟩) (by decide) (by decide)), ht⟩) (fun q hq => by cases hq) dX6_relation_58
  · refine lv_iconst (v := 0) hx hb dX6_relation_11 (by decide) ?_
    exact W.iret (v := 0) hx hb hr (fun t ht hW => ⟨0, rfl, (zB_w (show zB 0 0 0 from ⟨by decide, by decide⟩) (by decide) (by decide)), ht⟩) (fun q hq => by cases hq) dX6_relation_12
