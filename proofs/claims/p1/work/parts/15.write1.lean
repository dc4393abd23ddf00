set_option maxHeartbeats 4000000 in
set_option maxRecDepth 100000 in
theorem c_walks (l : Launch) (D : va_G) (cI : ClassId) (cB : ClassId) (cL : ClassId) (cZ : ClassId) (a0 : Nat) (aP : Nat) (aD : Nat) (aT : Nat) (aR : Nat) (aF : Nat) (aU : Nat) (aH : Nat) (aM : Nat) (aW : Nat) (aN : Nat) (n3 : Nat) (n4 : Nat) (n5 : Nat) (n6 : Nat) (n7 : Nat) (n8 : Nat) (n9 : Nat) (fb : Nat → Int32) (fx : Nat) (fr : Nat) (fe : Nat) (pz : Nat → Nat) (su : Nat) (x : Int32) (sz : Nat) : Met l yX11_walks wsX11_walks ({ frames := 3, cells := 0, slots := 0, locals := 69 }) (xp D [(cI, .int), (cB, .byte), (cL, .long), (cZ, .boolean)] [(a0, .inr (11, [.ref aP, .ref aD, .ref aT, .ref aR, .ref aF, .ref aU, .ref aH, .ref aM, .ref aW, .ref aN])), (aN, .inr (4, [.ref aF, .int 0, .int 0, .ref n3, .ref n4, .ref n5, .ref n6, .ref n7, .ref n8, .ref n9])), (n7, .inl (cI, 8, .inl fb)), (aF, .inr (0, [.ref aP, .ref fx, .ref fr, .ref fe, .int 0])), (aP, .inr (5, PF pz su))] sz [] [.ref a0, .int x]) (va_Qi (fun (r : Int32) (_ : Unit) => r = 0) (fun (_ : Unit) (_ : State) => True) (va_A [(a0, .inr (11, [.ref aP, .ref aD, .ref aT, .ref aR, .ref aF, .ref aU, .ref aH, .ref aM, .ref aW, .ref aN])), (aN, .inr (4, [.ref aF, .int 0, .int 0, .ref n3, .ref n4, .ref n5, .ref n6, .ref n7, .ref n8, .ref n9])), (n7, .inl (cI, 8, .inl fb)), (aF, .inr (0, [.ref aP, .ref fx, .ref fr, .ref fe, .int 0])), (aP, .inr (5, PF pz su))] sz)) 0 0 (va_A [(a0, .inr (11, [.ref aP, .ref aD, .ref aT, .ref aR, .ref aF, .ref aU, .ref aH, .ref aM, .ref aW, .ref aN])), (aN, .inr (4, [.ref aF, .int 0, .int 0, .ref n3, .ref n4, .ref n5, .ref n6, .ref n7, .ref n8, .ref n9])), (n7, .inl (cI, 8, .inl fb)), (aF, .inr (0, [.ref aP, .ref fx, .ref fr, .ref fe, .int 0])), (aP, .inr (5, PF pz su))] sz) := by
  refine Met.ofW (cc := cX11_walks) (maxL := 2) (ret := (some .int)) (by decide) rfl ?_
  intro p e s m args below meth c s₁ B hml hv
  obtain ⟨rfl, hsz, hP, hK, hD0, hNw⟩ := hv
  have hx := B.exec
  have hb := B.bytes
  have hr := B.returns
  have hts := atoms_spec (ws := wsX11_walks) B.pre
  have hown : s.vm.findClass RX11 = some m.cls := findClass_of_methodNamed B.named
  have hlocks := B.notSynchronized
  subst hsz
  have hD := hD0.self (sz := s.heap.size)
  clear hD0
  generalize hAe : va_A [(a0, .inr (11, [.ref aP, .ref aD, .ref aT, .ref aR, .ref aF, .ref aU, .ref aH, .ref aM, .ref aW, .ref aN])), (aN, .inr (4, [.ref aF, .int 0, .int 0, .ref n3, .ref n4, .ref n5, .ref n6, .ref n7, .ref n8, .ref n9])), (n7, .inl (cI, 8, .inl fb)), (aF, .inr (0, [.ref aP, .ref fx, .ref fr, .ref fe, .int 0])), (aP, .inr (5, PF pz su))] s.heap.size = A at hD ⊢
  have hA : ∀ q : Nat, s.heap.size ≤ q → A q := fun q h => by rw [← hAe]; exact Or.inr h
  have hS : va_S A s.heap s.heap [] := va_S.rf
  clear hAe
  obtain ⟨H, hH⟩ : ∃ H : Heap, H = s.heap := ⟨_, rfl⟩
  obtain ⟨locs, hlocs⟩ : ∃ L : List Loc, L = [] := ⟨_, rfl⟩
  replace hP : va_P D classes [(a0, .inr (11, [.ref aP, .ref aD, .ref aT, .ref aR, .ref aF, .ref aU, .ref aH, .ref aM, .ref aW, .ref aN])), (aN, .inr (4, [.ref aF, .int 0, .int 0, .ref n3, .ref n4, .ref n5, .ref n6, .ref n7, .ref n8, .ref n9])), (n7, .inl (cI, 8, .inl fb)), (aF, .inr (0, [.ref aP, .ref fx, .ref fr, .ref fe, .int 0])), (aP, .inr (5, PF pz su))] H := by rw [hH]; exact hP
  replace hS : va_S A s.heap H locs := by rw [hH, hlocs]; exact hS
  rw [← hH, ← hlocs]
  clear hlocs hH
  have hl := lv_entry ([.ref a0, .int x]) (n := 2) (Nat.le_of_ble_eq_true rfl)
  rw [lg_entry_eq]
  generalize (lg_sl ([.ref a0, .int x]) ++ List.replicate (2 - (lg_sl ([.ref a0, .int x])).length) Slot.unset).toArray = ls at hl ⊢
  replace hl : lv_has ls 2 [(0, .ref a0), (1, .int x)] := hl
  refine lv_aload_n hx hb dX11_walks_0 rfl (lv_at hl 0 rfl) ?_
  refine va_get (D := D) (ci := 11) (v := .ref aN) (C := RX11) (T := TX11) (N := 10) hx hb hts iw_X11_walks_X11 hown hK hP 0 rfl rfl 9 (by decide) (hts (.fieldLink RX11 79 "SoldHouse" "night" "LSoldHouse$Night;") (List.mem_of_getElem? (i := 1) rfl)) (fun _ h9 => h9) rfl dX11_walks_1 ?_
  refine lv_iload_n hx hb dX11_walks_4 rfl (lv_at hl 1 rfl) ?_
  have hPc := hP.sub (ws' := [(aN, .inr (4, [.ref aF, .int 0, .int 0, .ref n3, .ref n4, .ref n5, .ref n6, .ref n7, .ref n8, .ref n9])), (n7, .inl (cI, 8, .inl fb)), (aF, .inr (0, [.ref aP, .ref fx, .ref fr, .ref fe, .int 0])), (aP, .inr (5, PF pz su))]) [1, 2, 3, 4] rfl
  have hDc := hD.sub (ws' := [(aN, .inr (4, [.ref aF, .int 0, .int 0, .ref n3, .ref n4, .ref n5, .ref n6, .ref n7, .ref n8, .ref n9])), (n7, .inl (cI, 8, .inl fb)), (aF, .inr (0, [.ref aP, .ref fx, .ref fr, .ref fe, .int 0])), (aP, .inr (5, PF pz su))]) [1, 2, 3, 4] (by decide) rfl
  have hFc := va_free (wc := [(aN, .inr (4, [.ref aF, .int 0, .int 0, .ref n3, .ref n4, .ref n5, .ref n6, .ref n7, .ref n8, .ref n9])), (n7, .inl (cI, 8, .inl fb)), (aF, .inr (0, [.ref aP, .ref fx, .ref fr, .ref fe, .int 0])), (aP, .inr (5, PF pz su))]) hD hS hA [1, 2, 3, 4] rfl
  refine va_calli (va_runV (As := [.int x]) (rest := []) ⟨hx, hb, hml, hown, hts⟩ (c_countWalks l D cI cB cL cZ aN aF aP n3 n4 n5 n6 n7 n8 n9 fb fx fr fe pz su x H.size) (cwV 1 hts gX11_walks_X4_countWalks rfl rfl rfl (by decide +kernel) ⟨Nat.le_of_ble_eq_true rfl, Nat.le_of_ble_eq_true rfl⟩) ⟨xp_blind, va_recv hK hPc (ci := 4) (q0 := 0) rfl rfl, fun U hU hW => xp_mk hU hW hPc hK hDc xNw_nil⟩ rfl rfl hl.1 rfl (lv_room (Nat.le_of_ble_eq_true rfl)) dX11_walks_5 ⟨Nat.le_of_ble_eq_true rfl, Nat.le_of_ble_eq_true rfl⟩) hS (fun q _ h => hFc q h) hFc (fun r_1 u9 t9 H1 locs ht9 hvm9 hr_1 hB9 hz9 hk9 hS => ?_)
  clear hB9 hz9 hPc hDc
  obtain ⟨hP, hD⟩ := va_join (wr := [(a0, .inr (11, [.ref aP, .ref aD, .ref aT, .ref aR, .ref aF, .ref aU, .ref aH, .ref aM, .ref aW, .ref aN]))]) (w1 := []) hP hD [1, 2, 3, 4] [0] rfl rfl (by decide) (by decide) hk9 hFc (fun k q h => by simp at h) ⟨fun i j p q h => by simp at h, fun k q h => by simp at h⟩
  clear hk9 hFc ht9 hvm9
  generalize H1 = H at hP hS ⊢
  replace hP : va_P D classes [(a0, .inr (11, [.ref aP, .ref aD, .ref aT, .ref aR, .ref aF, .ref aU, .ref aH, .ref aM, .ref aW, .ref aN]))] H := hP
  replace hD : va_D A [(a0, .inr (11, [.ref aP, .ref aD, .ref aT, .ref aR, .ref aF, .ref aU, .ref aH, .ref aM, .ref aW, .ref aN]))] := hD
  subst hr_1
  refine W.widen (k := 0) (n := 0) (Nat.le_of_ble_eq_true rfl) (Nat.le_of_ble_eq_true rfl) ?_
  exact W.iret (v := 0) hx hb hr (fun t ht hW => ⟨⟨0, (), rfl, rfl, trivial⟩, hS.F ht⟩) hS.2.2 dX11_walks_8
set_option maxHeartbeats 4000000 in
set_option maxRecDepth 100000 in
theorem c_certain (l : Launch) (D : va_G) (cI : ClassId) (cB : ClassId) (cL : ClassId) (cZ : ClassId) (a0 : Nat) (aP : Nat) (aD : Nat) (aT : Nat) (aR : Nat) (aF : Nat) (aU : Nat) (aH : Nat) (aM : Nat) (aW : Nat) (aN : Nat) (n3 : Nat) (n4 : Nat) (n5 : Nat) (n6 : Nat) (n7 : Nat) (n8 : Nat) (n9 : Nat) (fb : Nat → Int32) (fx : Nat) (fr : Nat) (fe : Nat) (pz : Nat → Nat) (su : Nat) (x : Int32) (y : Int32) (sz : Nat) : Met l yX11_certain wsX11_certain ({ frames := 3, cells := 0, slots := 0, locals := 69 }) (xp D [(cI, .int), (cB, .byte), (cL, .long), (cZ, .boolean)] [(a0, .inr (11, [.ref aP, .ref aD, .ref aT, .ref aR, .ref aF, .ref aU, .ref aH, .ref aM, .ref aW, .ref aN])), (aN, .inr (4, [.ref aF, .int 0, .int 0, .ref n3, .ref n4, .ref n5, .ref n6, .ref n7, .ref n8, .ref n9])), (n7, .inl (cI, 8, .inl fb)), (aF, .inr (0, [.ref aP, .ref fx, .ref fr, .ref fe, .int 0])), (aP, .inr (5, PF pz su))] sz [] [.ref a0, .int x, .int y]) (va_Qi (fun (r : Int32) (_ : Unit) => r = (-1)) (fun (_ : Unit) (_ : State) => True) (va_A [(a0, .inr (11, [.ref aP, .ref aD, .ref aT, .ref aR, .ref aF, .ref aU, .ref aH, .ref aM, .ref aW, .ref aN])), (aN, .inr (4, [.ref aF, .int 0, .int 0, .ref n3, .ref n4, .ref n5, .ref n6, .ref n7, .ref n8, .ref n9])), (n7, .inl (cI, 8, .inl fb)), (aF, .inr (0, [.ref aP, .ref fx, .ref fr, .ref fe, .int 0])), (aP, .inr (5, PF pz su))] sz)) 0 0 (va_A [(a0, .inr (11, [.ref aP, .ref aD, .ref aT, .ref aR, .ref aF, .ref aU, .ref aH, .ref aM, .ref aW, .ref aN])), (aN, .inr (4, [.ref aF, .int 0, .int 0, .ref n3, .ref n4, .ref n5, .ref n6, .ref n7, .ref n8, .ref n9])), (n7, .inl (cI, 8, .inl fb)), (aF, .inr (0, [.ref aP, .ref fx, .ref fr, .ref fe, .int 0])), (aP, .inr (5, PF pz su))] sz) := by
  refine Met.ofW (cc := cX11_certain) (maxL := 3) (ret := (some .int)) (by decide) rfl ?_
  intro p e s m args below meth c s₁ B hml hv
  obtain ⟨rfl, hsz, hP, hK, hD0, hNw⟩ := hv
  have hx := B.exec
  have hb := B.bytes
  have hr := B.returns
  have hts := atoms_spec (ws := wsX11_certain) B.pre
  have hown : s.vm.findClass RX11 = some m.cls := findClass_of_methodNamed B.named
  have hlocks := B.notSynchronized
  subst hsz
  have hD := hD0.self (sz := s.heap.size)
  clear hD0
  generalize hAe : va_A [(a0, .inr (11, [.ref aP, .ref aD, .ref aT, .ref aR, .ref aF, .ref aU, .ref aH, .ref aM, .ref aW, .ref aN])), (aN, .inr (4, [.ref aF, .int 0, .int 0, .ref n3, .ref n4, .ref n5, .ref n6, .ref n7, .ref n8, .ref n9])), (n7, .inl (cI, 8, .inl fb)), (aF, .inr (0, [.ref aP, .ref fx, .ref fr, .ref fe, .int 0])), (aP, .inr (5, PF pz su))] s.heap.size = A at hD ⊢
  have hA : ∀ q : Nat, s.heap.size ≤ q → A q := fun q h => by rw [← hAe]; exact Or.inr h
  have hS : va_S A s.heap s.heap [] := va_S.rf
  clear hAe
  obtain ⟨H, hH⟩ : ∃ H : Heap, H = s.heap := ⟨_, rfl⟩
  obtain ⟨locs, hlocs⟩ : ∃ L : List Loc, L = [] := ⟨_, rfl⟩
  replace hP : va_P D classes [(a0, .inr (11, [.ref aP, .ref aD, .ref aT, .ref aR, .ref aF, .ref aU, .ref aH, .ref aM, .ref aW, .ref aN])), (aN, .inr (4, [.ref aF, .int 0, .int 0, .ref n3, .ref n4, .ref n5, .ref n6, .ref n7, .ref n8, .ref n9])), (n7, .inl (cI, 8, .inl fb)), (aF, .inr (0, [.ref aP, .ref fx, .ref fr, .ref fe, .int 0])), (aP, .inr (5, PF pz su))] H := by rw [hH]; exact hP
  replace hS : va_S A s.heap H locs := by rw [hH, hlocs]; exact hS
  rw [← hH, ← hlocs]
  clear hlocs hH
  have hl := lv_entry ([.ref a0, .int x, .int y]) (n := 3) (Nat.le_of_ble_eq_true rfl)
  rw [lg_entry_eq]
  generalize (lg_sl ([.ref a0, .int x, .int y]) ++ List.replicate (3 - (lg_sl ([.ref a0, .int x, .int y])).length) Slot.unset).toArray = ls at hl ⊢
  replace hl : lv_has ls 3 [(0, .ref a0), (1, .int x), (2, .int y)] := hl
  refine lv_iload_n hx hb dX11_certain_0 rfl (lv_at hl 1 rfl) ?_
  have hPc := hP.sub (ws' := []) [] rfl
  refine vp_callSi (va_runS (As := [.int x]) (rest := []) ⟨hx, hb, hml, hown, hts⟩ (c_isMinute l D cI cB cL cZ x) (va_cwS 1 hts gX11_certain_X11_isMinute rfl rfl rfl (by decide +kernel) ⟨Nat.le_of_ble_eq_true rfl, Nat.le_of_ble_eq_true rfl⟩) ⟨xr_blind, fun U hU hW => xr_mk hU hW hPc hK⟩ rfl rfl hl.1 rfl (lv_room (Nat.le_of_ble_eq_true rfl)) dX11_certain_1 ⟨Nat.le_of_ble_eq_true rfl, Nat.le_of_ble_eq_true rfl⟩).run (fun r_1 hr_1 => ?_)
  clear hPc
  rcases hr_1 with ⟨rfl, hr_1_0, hr_1_1⟩ | ⟨rfl, hr_1_0⟩ | ⟨rfl, hr_1_0, hr_1_1⟩
  · refine lv_if_eq (tgt := 18) hx hb dX11_certain_4 (by decide) (fun c_2 => absurd c_2 (by decide)) (fun _ => ?_)
    refine lv_aload_n hx hb dX11_certain_7 rfl (lv_at hl 0 rfl) ?_
    refine va_get (D := D) (ci := 11) (v := .ref aN) (C := RX11) (T := TX11) (N := 10) hx hb hts iw_X11_certain_X11 hown hK hP 0 rfl rfl 9 (by decide) (hts (.fieldLink RX11 79 "SoldHouse" "night" "LSoldHouse$Night;") (List.mem_of_getElem? (i := 1) rfl)) (fun _ h9 => h9) rfl dX11_certain_8 ?_
    refine lv_iload_n hx hb dX11_certain_11 rfl (lv_at hl 2 rfl) ?_
    have hPc := hP.sub (ws' := [(aN, .inr (4, [.ref aF, .int 0, .int 0, .ref n3, .ref n4, .ref n5, .ref n6, .ref n7, .ref n8, .ref n9])), (n7, .inl (cI, 8, .inl fb)), (aF, .inr (0, [.ref aP, .ref fx, .ref fr, .ref fe, .int 0])), (aP, .inr (5, PF pz su))]) [1, 2, 3, 4] rfl
    have hDc := hD.sub (ws' := [(aN, .inr (4, [.ref aF, .int 0, .int 0, .ref n3, .ref n4, .ref n5, .ref n6, .ref n7, .ref n8, .ref n9])), (n7, .inl (cI, 8, .inl fb)), (aF, .inr (0, [.ref aP, .ref fx, .ref fr, .ref fe, .int 0])), (aP, .inr (5, PF pz su))]) [1, 2, 3, 4] (by decide) rfl
    have hFc := va_free (wc := [(aN, .inr (4, [.ref aF, .int 0, .int 0, .ref n3, .ref n4, .ref n5, .ref n6, .ref n7, .ref n8, .ref n9])), (n7, .inl (cI, 8, .inl fb)), (aF, .inr (0, [.ref aP, .ref fx, .ref fr, .ref fe, .int 0])), (aP, .inr (5, PF pz su))]) hD hS hA [1, 2, 3, 4] rfl
    refine va_calli (va_runV (As := [.int y]) (rest := []) ⟨hx, hb, hml, hown, hts⟩ (c_countWalks l D cI cB cL cZ aN aF aP n3 n4 n5 n6 n7 n8 n9 fb fx fr fe pz su y H.size) (cwV 1 hts gX11_certain_X4_countWalks rfl rfl rfl (by decide +kernel) ⟨Nat.le_of_ble_eq_true rfl, Nat.le_of_ble_eq_true rfl⟩) ⟨xp_blind, va_recv hK hPc (ci := 4) (q0 := 0) rfl rfl, fun U hU hW => xp_mk hU hW hPc hK hDc xNw_nil⟩ rfl rfl hl.1 rfl (lv_room (Nat.le_of_ble_eq_true rfl)) dX11_certain_12 ⟨Nat.le_of_ble_eq_true rfl, Nat.le_of_ble_eq_true rfl⟩) hS (fun q _ h => hFc q h) hFc (fun r_3 u9 t9 H1 locs ht9 hvm9 hr_3 hB9 hz9 hk9 hS => ?_)
    clear hB9 hz9 hPc hDc
    obtain ⟨hP, hD⟩ := va_join (wr := [(a0, .inr (11, [.ref aP, .ref aD, .ref aT, .ref aR, .ref aF, .ref aU, .ref aH, .ref aM, .ref aW, .ref aN]))]) (w1 := []) hP hD [1, 2, 3, 4] [0] rfl rfl (by decide) (by decide) hk9 hFc (fun k q h => by simp at h) ⟨fun i j p q h => by simp at h, fun k q h => by simp at h⟩
    clear hk9 hFc ht9 hvm9
    generalize H1 = H at hP hS ⊢
    replace hP : va_P D classes [(a0, .inr (11, [.ref aP, .ref aD, .ref aT, .ref aR, .ref aF, .ref aU, .ref aH, .ref aM, .ref aW, .ref aN]))] H := hP
    replace hD : va_D A [(a0, .inr (11, [.ref aP, .ref aD, .ref aT, .ref aR, .ref aF, .ref aU, .ref aH, .ref aM, .ref aW, .ref aN]))] := hD
    subst hr_3
    refine lv_if_ne (tgt := 20) hx hb dX11_certain_15 (by decide) (fun c_4 => absurd (by decide) c_4) (fun _ => ?_)
    refine lv_iconst (v := (-1)) hx hb dX11_certain_18 (by decide) ?_
    refine W.widen (k := 0) (n := 0) (Nat.le_of_ble_eq_true rfl) (Nat.le_of_ble_eq_true rfl) ?_
    exact W.iret (v := (-1)) hx hb hr (fun t ht hW => ⟨⟨(-1), (), rfl, rfl, trivial⟩, hS.F ht⟩) hS.2.2 dX11_certain_19
  · refine lv_if_eq (tgt := 18) hx hb dX11_certain_4 (by decide) (fun _ => ?_) (fun c_5 => absurd (by decide) c_5)
    refine lv_iconst (v := (-1)) hx hb dX11_certain_18 (by decide) ?_
    refine W.widen (k := 0) (n := 0) (Nat.le_of_ble_eq_true rfl) (Nat.le_of_ble_eq_true rfl) ?_
    exact W.iret (v := (-1)) hx hb hr (fun t ht hW => ⟨⟨(-1), (), rfl, rfl, trivial⟩, hS.F ht⟩) hS.2.2 dX11_certain_19
  · refine lv_if_eq (tgt := 18) hx hb dX11_certain_4 (by decide) (fun _ => ?_) (fun c_6 => absurd (by decide) c_6)
    refine lv_iconst (v := (-1)) hx hb dX11_certain_18 (by decide) ?_
    refine W.widen (k := 0) (n := 0) (Nat.le_of_ble_eq_true rfl) (Nat.le_of_ble_eq_true rfl) ?_
    exact W.iret (v := (-1)) hx hb hr (fun t ht hW => ⟨⟨(-1), (), rfl, rfl, trivial⟩, hS.F ht⟩) hS.2.2 dX11_certain_19
set_option maxHeartbeats 4000000 in
set_option maxRecDepth 100000 in
theorem c_ask (l : Launch) (D : va_G) (cI : ClassId) (cB : ClassId) (cL : ClassId) (cZ : ClassId) (a0 : Nat) (aP : Nat) (aD : Nat) (aT : Nat) (aR : Nat) (aF : Nat) (aU : Nat) (aH : Nat) (aM : Nat) (aW : Nat) (aN : Nat) (n3 : Nat) (n4 : Nat) (n5 : Nat) (n6 : Nat) (n7 : Nat) (n8 : Nat) (n9 : Nat) (fb : Nat → Int32) (fx : Nat) (fr : Nat) (fe : Nat) (pz : Nat → Nat) (su : Nat) (x : Int32) (y : Int32) (sz : Nat) : Met l yX11_ask wsX11_ask ({ frames := 3, cells := 0, slots := 0, locals := 69 }) (xp D [(cI, .int), (cB, .byte), (cL, .long), (cZ, .boolean)] [(a0, .inr (11, [.ref aP, .ref aD, .ref aT, .ref aR, .ref aF, .ref aU, .ref aH, .ref aM, .ref aW, .ref aN])), (aN, .inr (4, [.ref aF, .int 0, .int 0, .ref n3, .ref n4, .ref n5, .ref n6, .ref n7, .ref n8, .ref n9])), (n7, .inl (cI, 8, .inl fb)), (aF, .inr (0, [.ref aP, .ref fx, .ref fr, .ref fe, .int 0])), (aP, .inr (5, PF pz su))] sz [] [.ref a0, .int x, .int y]) (va_Qi (fun (r : Int32) (_ : Unit) => r = (-1)) (fun (_ : Unit) (_ : State) => True) (va_A [(a0, .inr (11, [.ref aP, .ref aD, .ref aT, .ref aR, .ref aF, .ref aU, .ref aH, .ref aM, .ref aW, .ref aN])), (aN, .inr (4, [.ref aF, .int 0, .int 0, .ref n3, .ref n4, .ref n5, .ref n6, .ref n7, .ref n8, .ref n9])), (n7, .inl (cI, 8, .inl fb)), (aF, .inr (0, [.ref aP, .ref fx, .ref fr, .ref fe, .int 0])), (aP, .inr (5, PF pz su))] sz)) 0 0 (va_A [(a0, .inr (11, [.ref aP, .ref aD, .ref aT, .ref aR, .ref aF, .ref aU, .ref aH, .ref aM, .ref aW, .ref aN])), (aN, .inr (4, [.ref aF, .int 0, .int 0, .ref n3, .ref n4, .ref n5, .ref n6, .ref n7, .ref n8, .ref n9])), (n7, .inl (cI, 8, .inl fb)), (aF, .inr (0, [.ref aP, .ref fx, .ref fr, .ref fe, .int 0])), (aP, .inr (5, PF pz su))] sz) := by
  refine Met.ofW (cc := cX11_ask) (maxL := 4) (ret := (some .int)) (by decide) rfl ?_
  intro p e s m args below meth c s₁ B hml hv
  obtain ⟨rfl, hsz, hP, hK, hD0, hNw⟩ := hv
  have hx := B.exec
  have hb := B.bytes
  have hr := B.returns
  have hts := atoms_spec (ws := wsX11_ask) B.pre
  have hown : s.vm.findClass RX11 = some m.cls := findClass_of_methodNamed B.named
  have hlocks := B.notSynchronized
  subst hsz
  have hD := hD0.self (sz := s.heap.size)
  clear hD0
  generalize hAe : va_A [(a0, .inr (11, [.ref aP, .ref aD, .ref aT, .ref aR, .ref aF, .ref aU, .ref aH, .ref aM, .ref aW, .ref aN])), (aN, .inr (4, [.ref aF, .int 0, .int 0, .ref n3, .ref n4, .ref n5, .ref n6, .ref n7, .ref n8, .ref n9])), (n7, .inl (cI, 8, .inl fb)), (aF, .inr (0, [.ref aP, .ref fx, .ref fr, .ref fe, .int 0])), (aP, .inr (5, PF pz su))] s.heap.size = A at hD ⊢
  have hA : ∀ q : Nat, s.heap.size ≤ q → A q := fun q h => by rw [← hAe]; exact Or.inr h
  have hS : va_S A s.heap s.heap [] := va_S.rf
  clear hAe
  obtain ⟨H, hH⟩ : ∃ H : Heap, H = s.heap := ⟨_, rfl⟩
  obtain ⟨locs, hlocs⟩ : ∃ L : List Loc, L = [] := ⟨_, rfl⟩
  replace hP : va_P D classes [(a0, .inr (11, [.ref aP, .ref aD, .ref aT, .ref aR, .ref aF, .ref aU, .ref aH, .ref aM, .ref aW, .ref aN])), (aN, .inr (4, [.ref aF, .int 0, .int 0, .ref n3, .ref n4, .ref n5, .ref n6, .ref n7, .ref n8, .ref n9])), (n7, .inl (cI, 8, .inl fb)), (aF, .inr (0, [.ref aP, .ref fx, .ref fr, .ref fe, .int 0])), (aP, .inr (5, PF pz su))] H := by rw [hH]; exact hP
  replace hS : va_S A s.heap H locs := by rw [hH, hlocs]; exact hS
  rw [← hH, ← hlocs]
  clear hlocs hH
  have hl := lv_entry ([.ref a0, .int x, .int y]) (n := 4) (Nat.le_of_ble_eq_true rfl)
  rw [lg_entry_eq]
  generalize (lg_sl ([.ref a0, .int x, .int y]) ++ List.replicate (4 - (lg_sl ([.ref a0, .int x, .int y])).length) Slot.unset).toArray = ls at hl ⊢
  replace hl : lv_has ls 4 [(0, .ref a0), (1, .int x), (2, .int y)] := hl
  refine lv_aload_n hx hb dX11_ask_0 rfl (lv_at hl 0 rfl) ?_
  refine va_get (D := D) (ci := 11) (v := .ref aN) (C := RX11) (T := TX11) (N := 10) hx hb hts iw_X11_ask_X11 hown hK hP 0 rfl rfl 9 (by decide) (hts (.fieldLink RX11 79 "SoldHouse" "night" "LSoldHouse$Night;") (List.mem_of_getElem? (i := 1) rfl)) (fun _ h9 => h9) rfl dX11_ask_1 ?_
  refine lv_iload_n hx hb dX11_ask_4 rfl (lv_at hl 2 rfl) ?_
  have hPc := hP.sub (ws' := [(aN, .inr (4, [.ref aF, .int 0, .int 0, .ref n3, .ref n4, .ref n5, .ref n6, .ref n7, .ref n8, .ref n9])), (n7, .inl (cI, 8, .inl fb)), (aF, .inr (0, [.ref aP, .ref fx, .ref fr, .ref fe, .int 0])), (aP, .inr (5, PF pz su))]) [1, 2, 3, 4] rfl
  have hDc := hD.sub (ws' := [(aN, .inr (4, [.ref aF, .int 0, .int 0, .ref n3, .ref n4, .ref n5, .ref n6, .ref n7, .ref n8, .ref n9])), (n7, .inl (cI, 8, .inl fb)), (aF, .inr (0, [.ref aP, .ref fx, .ref fr, .ref fe, .int 0])), (aP, .inr (5, PF pz su))]) [1, 2, 3, 4] (by decide) rfl
  have hFc := va_free (wc := [(aN, .inr (4, [.ref aF, .int 0, .int 0, .ref n3, .ref n4, .ref n5, .ref n6, .ref n7, .ref n8, .ref n9])), (n7, .inl (cI, 8, .inl fb)), (aF, .inr (0, [.ref aP, .ref fx, .ref fr, .ref fe, .int 0])), (aP, .inr (5, PF pz su))]) hD hS hA [1, 2, 3, 4] rfl
  refine va_calli (va_runV (As := [.int y]) (rest := []) ⟨hx, hb, hml, hown, hts⟩ (c_countWalks l D cI cB cL cZ aN aF aP n3 n4 n5 n6 n7 n8 n9 fb fx fr fe pz su y H.size) (cwV 1 hts gX11_ask_X4_countWalks rfl rfl rfl (by decide +kernel) ⟨Nat.le_of_ble_eq_true rfl, Nat.le_of_ble_eq_true rfl⟩) ⟨xp_blind, va_recv hK hPc (ci := 4) (q0 := 0) rfl rfl, fun U hU hW => xp_mk hU hW hPc hK hDc xNw_nil⟩ rfl rfl hl.1 rfl (lv_room (Nat.le_of_ble_eq_true rfl)) dX11_ask_5 ⟨Nat.le_of_ble_eq_true rfl, Nat.le_of_ble_eq_true rfl⟩) hS (fun q _ h => hFc q h) hFc (fun r_1 u9 t9 H1 locs ht9 hvm9 hr_1 hB9 hz9 hk9 hS => ?_)
  clear hB9 hz9 hPc hDc
  obtain ⟨hP, hD⟩ := va_join (wr := [(a0, .inr (11, [.ref aP, .ref aD, .ref aT, .ref aR, .ref aF, .ref aU, .ref aH, .ref aM, .ref aW, .ref aN]))]) (w1 := []) hP hD [1, 2, 3, 4] [0] rfl rfl (by decide) (by decide) hk9 hFc (fun k q h => by simp at h) ⟨fun i j p q h => by simp at h, fun k q h => by simp at h⟩
  clear hk9 hFc ht9 hvm9
  generalize H1 = H at hP hS ⊢
  replace hP : va_P D classes [(a0, .inr (11, [.ref aP, .ref aD, .ref aT, .ref aR, .ref aF, .ref aU, .ref aH, .ref aM, .ref aW, .ref aN]))] H := hP
  replace hD : va_D A [(a0, .inr (11, [.ref aP, .ref aD, .ref aT, .ref aR, .ref aF, .ref aU, .ref aH, .ref aM, .ref aW, .ref aN]))] := hD
  subst hr_1
  refine lv_if_ne (tgt := 13) hx hb dX11_ask_8 (by decide) (fun c_2 => absurd (by decide) c_2) (fun _ => ?_)
  refine lv_iconst (v := (-1)) hx hb dX11_ask_11 (by decide) ?_
  refine W.widen (k := 0) (n := 0) (Nat.le_of_ble_eq_true rfl) (Nat.le_of_ble_eq_true rfl) ?_
  exact W.iret (v := (-1)) hx hb hr (fun t ht hW => ⟨⟨(-1), (), rfl, rfl, trivial⟩, hS.F ht⟩) hS.2.2 dX11_ask_12
set_option maxHeartbeats 4000000 in
set_option maxRecDepth 100000 in
theorem c_passDay (l : Launch) (D : va_G) (cI : ClassId) (cB : ClassId) (cL : ClassId) (cZ : ClassId) (a0 : Nat) (aF : Nat) (aP : Nat) (mo : Nat) (ma : Nat) (mk : Nat) (mb : Nat) (mf : Nat) (fn : Nat → Int32) (fx : Nat) (fr : Nat) (fe : Nat) (pz : Nat → Nat) (su : Nat) (sz : Nat) (hf_fn_30 : fn 30 = 0) (hf_fn_31 : fn 31 = 0) : Met l yX3_passDay wsX3_passDay ({ frames := 1, cells := 0, slots := 0, locals := 21 }) (xp D [(cI, .int), (cB, .byte), (cL, .long), (cZ, .boolean)] [(a0, .inr (3, [.ref aF, .ref mo, .ref ma, .ref mk, .int 0, .int 0, .int 0, .ref mb, .ref mf])), (mo, .inl (cI, 32, .inl fn)), (aF, .inr (0, [.ref aP, .ref fx, .ref fr, .ref fe, .int 0])), (aP, .inr (5, PF pz su))] sz [] [.ref a0, .ref mo]) (va_Qi (fun (r : Int32) (_ : Unit) => r = 0) (fun (_ : Unit) (t : State) => ∃ (g : Nat → Int32), xB D (va_A [(a0, .inr (3, [.ref aF, .ref mo, .ref ma, .ref mk, .int 0, .int 0, .int 0, .ref mb, .ref mf])), (mo, .inl (cI, 32, .inl fn)), (aF, .inr (0, [.ref aP, .ref fx, .ref fr, .ref fe, .int 0])), (aP, .inr (5, PF pz su))] sz) [(a0, .inr (3, [.ref aF, .ref mo, .ref ma, .ref mk, .int 0, .int 0, .int 0, .ref mb, .ref mf])), (mo, .inl (cI, 32, .inl g)), (aF, .inr (0, [.ref aP, .ref fx, .ref fr, .ref fe, .int 0])), (aP, .inr (5, PF pz su))] t) (va_A [(a0, .inr (3, [.ref aF, .ref mo, .ref ma, .ref mk, .int 0, .int 0, .int 0, .ref mb, .ref mf])), (mo, .inl (cI, 32, .inl fn)), (aF, .inr (0, [.ref aP, .ref fx, .ref fr, .ref fe, .int 0])), (aP, .inr (5, PF pz su))] sz)) 0 0 (va_A [(a0, .inr (3, [.ref aF, .ref mo, .ref ma, .ref mk, .int 0, .int 0, .int 0, .ref mb, .ref mf])), (mo, .inl (cI, 32, .inl fn)), (aF, .inr (0, [.ref aP, .ref fx, .ref fr, .ref fe, .int 0])), (aP, .inr (5, PF pz su))] sz) := by
  refine Met.ofW (cc := cX3_passDay) (maxL := 5) (ret := (some .int)) (by decide) rfl ?_
  intro p e s m args below meth c s₁ B hml hv
  obtain ⟨rfl, hsz, hP, hK, hD0, hNw⟩ := hv
  have hx := B.exec
  have hb := B.bytes
  have hr := B.returns
  have hts := atoms_spec (ws := wsX3_passDay) B.pre
  have hown : s.vm.findClass RX3 = some m.cls := findClass_of_methodNamed B.named
  have hlocks := B.notSynchronized
  subst hsz
  have hD := hD0.self (sz := s.heap.size)
  clear hD0
  generalize hAe : va_A [(a0, .inr (3, [.ref aF, .ref mo, .ref ma, .ref mk, .int 0, .int 0, .int 0, .ref mb, .ref mf])), (mo, .inl (cI, 32, .inl fn)), (aF, .inr (0, [.ref aP, .ref fx, .ref fr, .ref fe, .int 0])), (aP, .inr (5, PF pz su))] s.heap.size = A at hD ⊢
  have hA : ∀ q : Nat, s.heap.size ≤ q → A q := fun q h => by rw [← hAe]; exact Or.inr h
  have hS : va_S A s.heap s.heap [] := va_S.rf
  clear hAe
  obtain ⟨H, hH⟩ : ∃ H : Heap, H = s.heap := ⟨_, rfl⟩
  obtain ⟨locs, hlocs⟩ : ∃ L : List Loc, L = [] := ⟨_, rfl⟩
  replace hP : va_P D classes [(a0, .inr (3, [.ref aF, .ref mo, .ref ma, .ref mk, .int 0, .int 0, .int 0, .ref mb, .ref mf])), (mo, .inl (cI, 32, .inl fn)), (aF, .inr (0, [.ref aP, .ref fx, .ref fr, .ref fe, .int 0])), (aP, .inr (5, PF pz su))] H := by rw [hH]; exact hP
  replace hS : va_S A s.heap H locs := by rw [hH, hlocs]; exact hS
  rw [← hH, ← hlocs]
  clear hlocs hH
  have hl := lv_entry ([.ref a0, .ref mo]) (n := 5) (Nat.le_of_ble_eq_true rfl)
  rw [lg_entry_eq]
  generalize (lg_sl ([.ref a0, .ref mo]) ++ List.replicate (5 - (lg_sl ([.ref a0, .ref mo])).length) Slot.unset).toArray = ls at hl ⊢
  replace hl : lv_has ls 5 [(0, .ref a0), (1, .ref mo)] := hl
  refine lv_iconst (v := 0) hx hb dX3_passDay_0 (by decide) ?_
  refine lv_istore_n (lv' := [(2, .int 0), (0, .ref a0), (1, .ref mo)]) hx hb dX3_passDay_1 rfl hl (by decide) rfl (fun ls hl => ?_)
  refine lv_iconst (v := 1) hx hb dX3_passDay_2 (by decide) ?_
  refine lv_aload_n hx hb dX3_passDay_3 rfl (lv_at hl 1 rfl) ?_
  refine va_get (D := D) (ci := 3) (v := .ref aF) (C := RX3) (T := TX3) (N := 9) hx hb hts iw_X3_passDay_X3 hown hK hP 0 rfl rfl 0 (by decide) (hts (.fieldLink RX3 30 "SoldHouse$Memory" "floor" "LSoldHouse$Floor;") (List.mem_of_getElem? (i := 1) rfl)) (fun _ h9 => h9) rfl dX3_passDay_4 ?_
  refine va_get (D := D) (ci := 0) (v := .ref aP) (C := RX0) (T := TX0) (N := 5) hx hb hts iw_X3_passDay_X0 hown hK hP 2 rfl rfl 0 (by decide) (hts (.fieldLink RX3 34 "SoldHouse$Floor" "plan" "LSoldHouse$Plan;") (List.mem_of_getElem? (i := 2) rfl)) (fun _ h9 => h9) rfl dX3_passDay_7 ?_
  refine va_get (D := D) (ci := 5) (v := .int 0) (C := RX5) (T := TX5) (N := 16) hx hb hts iw_X3_passDay_X5 hown hK hP 3 rfl rfl 0 (by decide) (hts (.fieldLink RX3 105 "SoldHouse$Plan" "rooms" "I") (List.mem_of_getElem? (i := 3) rfl)) (fun _ h9 => h9) rfl dX3_passDay_10 ?_
  refine va_mmax hx hb (by rw [hml]; exact hl.1.symm) hown (hts (.methodLink RX3 102 Lib.Math.max.name) (List.mem_of_getElem? (i := 4) rfl)) (hts (.static Lib.Math.max.name) (List.mem_of_getElem? (i := 5) rfl)) (hts (.initialized "java/lang/Math") (List.mem_of_getElem? (i := 6) rfl)) (hts (.code Lib.Math.max.name Lib.Math.max.code 2 (some .int)) (List.mem_of_getElem? (i := 7) rfl)) (Nat.le_of_ble_eq_true rfl) (Nat.le_of_ble_eq_true rfl) (Nat.le_of_ble_eq_true rfl) (Nat.le_of_ble_eq_true rfl) dX3_passDay_13 ?_
  refine lv_topi (fun y_1 ey_1 => ?_)
  obtain rfl : y_1 = 1 := ey_1.trans (by decide)
  refine lv_istore_n (lv' := [(3, .int 1), (2, .int 0), (0, .ref a0), (1, .ref mo)]) hx hb dX3_passDay_16 rfl hl (by decide) rfl (fun ls hl => ?_)
  refine lv_iconst (v := 0) hx hb dX3_passDay_17 (by decide) ?_
  refine lv_istore (lv' := [(4, .int 0), (3, .int 1), (2, .int 0), (0, .ref a0), (1, .ref mo)]) hx hb dX3_passDay_18 hl (by decide) rfl (fun ls hl => ?_)
  refine lv_iload hx hb dX3_passDay_20 (lv_at hl 0 rfl) ?_
  refine lv_aload_n hx hb dX3_passDay_22 rfl (lv_at hl 3 rfl) ?_
  refine va_get (D := D) (ci := 3) (v := .ref aF) (C := RX3) (T := TX3) (N := 9) hx hb hts iw_X3_passDay_X3 hown hK hP 0 rfl rfl 0 (by decide) (hts (.fieldLink RX3 30 "SoldHouse$Memory" "floor" "LSoldHouse$Floor;") (List.mem_of_getElem? (i := 1) rfl)) (fun _ h9 => h9) rfl dX3_passDay_23 ?_
  refine va_get (D := D) (ci := 0) (v := .ref aP) (C := RX0) (T := TX0) (N := 5) hx hb hts iw_X3_passDay_X0 hown hK hP 2 rfl rfl 0 (by decide) (hts (.fieldLink RX3 34 "SoldHouse$Floor" "plan" "LSoldHouse$Plan;") (List.mem_of_getElem? (i := 2) rfl)) (fun _ h9 => h9) rfl dX3_passDay_26 ?_
  refine va_get (D := D) (ci := 5) (v := .int 0) (C := RX5) (T := TX5) (N := 16) hx hb hts iw_X3_passDay_X5 hown hK hP 3 rfl rfl 6 (by decide) (hts (.fieldLink RX3 40 "SoldHouse$Plan" "things" "I") (List.mem_of_getElem? (i := 8) rfl)) (fun _ h9 => h9) rfl dX3_passDay_29 ?_
  refine lv_icmp_ge (tgt := 106) hx hb dX3_passDay_32 (by decide) (fun _ => ?_) (fun c_2 => absurd (by decide) c_2)
  refine lv_aload_n hx hb dX3_passDay_106 rfl (lv_at hl 4 rfl) ?_
  refine lv_bipush (v := 30) hx hb dX3_passDay_107 (by decide) ?_
  refine lv_dup2_11 hx hb dX3_passDay_109 rfl rfl ?_
  refine va_iald hx hb hK hP 1 0 rfl rfl (show vp_in 30 32 from (by decide : ¬ ((30 : Int32) < 0 ∨ 32 ≤ Int32.toNatClampNeg 30))) dX3_passDay_110 ?_
  refine lv_topi (fun y_3 ey_3 => ?_)
  obtain rfl : y_3 = 0 := ey_3.trans hf_fn_30
  refine lv_iconst (v := 1) hx hb dX3_passDay_111 (by decide) ?_
  refine lv_iadd hx hb dX3_passDay_112 ?_
  refine lv_topi (fun y_4 ey_4 => ?_)
  obtain rfl : y_4 = 1 := ey_4.trans (by decide)
  refine va_iast hx hb hK hP hD hS 1 0 rfl rfl (show vp_in 30 32 from (by decide : ¬ ((30 : Int32) < 0 ∨ 32 ≤ Int32.toNatClampNeg 30))) dX3_passDay_113 (fun H locs hP hD hS => ?_)
  replace hP : va_P D classes [(a0, .inr (3, [.ref aF, .ref mo, .ref ma, .ref mk, .int 0, .int 0, .int 0, .ref mb, .ref mf])), (mo, .inl (cI, 32, .inl (upd fn (Int32.toNatClampNeg 30) 1))), (aF, .inr (0, [.ref aP, .ref fx, .ref fr, .ref fe, .int 0])), (aP, .inr (5, PF pz su))] H := hP
  replace hD : va_D A [(a0, .inr (3, [.ref aF, .ref mo, .ref ma, .ref mk, .int 0, .int 0, .int 0, .ref mb, .ref mf])), (mo, .inl (cI, 32, .inl (upd fn (Int32.toNatClampNeg 30) 1))), (aF, .inr (0, [.ref aP, .ref fx, .ref fr, .ref fe, .int 0])), (aP, .inr (5, PF pz su))] := hD
  generalize eg_5 : upd fn (Int32.toNatClampNeg 30) 1 = g_5 at hP hD
  have g_5_31 : g_5 31 = 0 := by rw [← eg_5]; exact (pk_un (by decide)).trans hf_fn_31
  clear eg_5
  refine lv_iload_n hx hb dX3_passDay_114 rfl (lv_at hl 2 rfl) ?_
  have hP9 := hP.sub (ws' := [(a0, .inr (3, [.ref aF, .ref mo, .ref ma, .ref mk, .int 0, .int 0, .int 0, .ref mb, .ref mf])), (mo, .inl (cI, 32, .inl g_5)), (aF, .inr (0, [.ref aP, .ref fx, .ref fr, .ref fe, .int 0])), (aP, .inr (5, PF pz su))]) [0, 1, 2, 3] rfl
  have hD9 := hD.sub (ws' := [(a0, .inr (3, [.ref aF, .ref mo, .ref ma, .ref mk, .int 0, .int 0, .int 0, .ref mb, .ref mf])), (mo, .inl (cI, 32, .inl g_5)), (aF, .inr (0, [.ref aP, .ref fx, .ref fr, .ref fe, .int 0])), (aP, .inr (5, PF pz su))]) [0, 1, 2, 3] (by decide) rfl
  refine W.widen (k := 0) (n := 0) (Nat.le_of_ble_eq_true rfl) (Nat.le_of_ble_eq_true rfl) ?_
  exact W.iret (v := 0) hx hb hr (fun t ht hW => ⟨⟨0, (), rfl, rfl, ⟨g_5, by rw [ht]; exact hP9, hD9⟩⟩, hS.F ht⟩) hS.2.2 dX3_passDay_115
set_option maxHeartbeats 4000000 in
set_option maxRecDepth 100000 in
theorem c_forgetActs (l : Launch) (D : va_G) (cI : ClassId) (cB : ClassId) (cL : ClassId) (cZ : ClassId) (cG : ClassId) (a0 : Nat) (aF : Nat) (mo : Nat) (ma : Nat) (mk : Nat) (mb : Nat) (mf : Nat) (fn : Nat → Int32) (kr : Nat → Option Nat) (r0 : Nat) (w0 : Nat → Int32) (sz : Nat) (hk_kr_0 : kr 0 = some r0) : Met l yX3_forgetActs wsX3_forgetActs ({ frames := 1, cells := 0, slots := 0, locals := 40 }) (xp D [(cI, .int), (cB, .byte), (cL, .long), (cZ, .boolean), (cG, .array .int)] [(a0, .inr (3, [.ref aF, .ref mo, .ref ma, .ref mk, .int 0, .int 0, .int 0, .ref mb, .ref mf])), (mo, .inl (cI, 32, .inl fn)), (mk, .inl (cG, 41, .inr (.inr (.inr (.inr kr))))), (r0, .inl (cI, 32, .inl w0))] sz [] [.ref a0]) (va_Qv (fun _ : Unit => True) (fun (_ : Unit) (t : State) => ∃ (g : Nat → Int32), xB D (va_A [(a0, .inr (3, [.ref aF, .ref mo, .ref ma, .ref mk, .int 0, .int 0, .int 0, .ref mb, .ref mf])), (mo, .inl (cI, 32, .inl fn)), (mk, .inl (cG, 41, .inr (.inr (.inr (.inr kr))))), (r0, .inl (cI, 32, .inl w0))] sz) [(a0, .inr (3, [.ref aF, .ref mo, .ref ma, .ref mk, .int 0, .int 0, .int 0, .ref mb, .ref mf])), (mo, .inl (cI, 32, .inl fn)), (mk, .inl (cG, 41, .inr (.inr (.inr (.inr kr))))), (r0, .inl (cI, 32, .inl g))] t) (va_A [(a0, .inr (3, [.ref aF, .ref mo, .ref ma, .ref mk, .int 0, .int 0, .int 0, .ref mb, .ref mf])), (mo, .inl (cI, 32, .inl fn)), (mk, .inl (cG, 41, .inr (.inr (.inr (.inr kr))))), (r0, .inl (cI, 32, .inl w0))] sz)) 0 0 (va_A [(a0, .inr (3, [.ref aF, .ref mo, .ref ma, .ref mk, .int 0, .int 0, .int 0, .ref mb, .ref mf])), (mo, .inl (cI, 32, .inl fn)), (mk, .inl (cG, 41, .inr (.inr (.inr (.inr kr))))), (r0, .inl (cI, 32, .inl w0))] sz) := by
  refine Met.ofW (cc := cX3_forgetActs) (maxL := 1) (ret := none) (by decide) rfl ?_
  intro p e s m args below meth c s₁ B hml hv
  obtain ⟨rfl, hsz, hP, hK, hD0, hNw⟩ := hv
  have hx := B.exec
  have hb := B.bytes
  have hr := B.returns
  have hts := atoms_spec (ws := wsX3_forgetActs) B.pre
  have hown : s.vm.findClass RX3 = some m.cls := findClass_of_methodNamed B.named
  have hlocks := B.notSynchronized
  subst hsz
  have hD := hD0.self (sz := s.heap.size)
  clear hD0
  generalize hAe : va_A [(a0, .inr (3, [.ref aF, .ref mo, .ref ma, .ref mk, .int 0, .int 0, .int 0, .ref mb, .ref mf])), (mo, .inl (cI, 32, .inl fn)), (mk, .inl (cG, 41, .inr (.inr (.inr (.inr kr))))), (r0, .inl (cI, 32, .inl w0))] s.heap.size = A at hD ⊢
  have hA : ∀ q : Nat, s.heap.size ≤ q → A q := fun q h => by rw [← hAe]; exact Or.inr h
  have hS : va_S A s.heap s.heap [] := va_S.rf
  clear hAe
  obtain ⟨H, hH⟩ : ∃ H : Heap, H = s.heap := ⟨_, rfl⟩
  obtain ⟨locs, hlocs⟩ : ∃ L : List Loc, L = [] := ⟨_, rfl⟩
  replace hP : va_P D classes [(a0, .inr (3, [.ref aF, .ref mo, .ref ma, .ref mk, .int 0, .int 0, .int 0, .ref mb, .ref mf])), (mo, .inl (cI, 32, .inl fn)), (mk, .inl (cG, 41, .inr (.inr (.inr (.inr kr))))), (r0, .inl (cI, 32, .inl w0))] H := by rw [hH]; exact hP
  replace hS : va_S A s.heap H locs := by rw [hH, hlocs]; exact hS
  rw [← hH, ← hlocs]
  clear hlocs hH
  have hl := lv_entry ([.ref a0]) (n := 1) (Nat.le_of_ble_eq_true rfl)
  rw [lg_entry_eq]
  generalize (lg_sl ([.ref a0]) ++ List.replicate (1 - (lg_sl ([.ref a0])).length) Slot.unset).toArray = ls at hl ⊢
  replace hl : lv_has ls 1 [(0, .ref a0)] := hl
  refine lv_aload_n hx hb dX3_forgetActs_0 rfl (lv_at hl 0 rfl) ?_
  refine lv_iconst (v := 0) hx hb dX3_forgetActs_1 (by decide) ?_
  refine va_put (D := D) (ci := 3) (v := .int 0) (ty := tyX3 4) (C := RX3) (T := TX3) (N := 9) hx hb hts iw_X3_forgetActs_X3 tyX3 tyX3_ok nmX3 hown hK hP hD hS 0 rfl rfl 4 (by decide) (hts (.fieldLink RX3 134 "SoldHouse$Memory" "oldest" "I") (List.mem_of_getElem? (i := 1) rfl)) (fun _ h9 => h9) rfl (by decide +kernel) rfl rfl (Nat.le_of_ble_eq_true rfl) dX3_forgetActs_2 (fun H locs hP hD hS => ?_)
  replace hP : va_P D classes [(a0, .inr (3, [.ref aF, .ref mo, .ref ma, .ref mk, .int 0, .int 0, .int 0, .ref mb, .ref mf])), (mo, .inl (cI, 32, .inl fn)), (mk, .inl (cG, 41, .inr (.inr (.inr (.inr kr))))), (r0, .inl (cI, 32, .inl w0))] H := hP
  replace hD : va_D A [(a0, .inr (3, [.ref aF, .ref mo, .ref ma, .ref mk, .int 0, .int 0, .int 0, .ref mb, .ref mf])), (mo, .inl (cI, 32, .inl fn)), (mk, .inl (cG, 41, .inr (.inr (.inr (.inr kr))))), (r0, .inl (cI, 32, .inl w0))] := hD
  refine lv_aload_n hx hb dX3_forgetActs_5 rfl (lv_at hl 0 rfl) ?_
  refine lv_iconst (v := 0) hx hb dX3_forgetActs_6 (by decide) ?_
  refine va_put (D := D) (ci := 3) (v := .int 0) (ty := tyX3 5) (C := RX3) (T := TX3) (N := 9) hx hb hts iw_X3_forgetActs_X3 tyX3 tyX3_ok nmX3 hown hK hP hD hS 0 rfl rfl 5 (by decide) (hts (.fieldLink RX3 131 "SoldHouse$Memory" "done" "I") (List.mem_of_getElem? (i := 2) rfl)) (fun _ h9 => h9) rfl (by decide +kernel) rfl rfl (Nat.le_of_ble_eq_true rfl) dX3_forgetActs_7 (fun H locs hP hD hS => ?_)
  replace hP : va_P D classes [(a0, .inr (3, [.ref aF, .ref mo, .ref ma, .ref mk, .int 0, .int 0, .int 0, .ref mb, .ref mf])), (mo, .inl (cI, 32, .inl fn)), (mk, .inl (cG, 41, .inr (.inr (.inr (.inr kr))))), (r0, .inl (cI, 32, .inl w0))] H := hP
  replace hD : va_D A [(a0, .inr (3, [.ref aF, .ref mo, .ref ma, .ref mk, .int 0, .int 0, .int 0, .ref mb, .ref mf])), (mo, .inl (cI, 32, .inl fn)), (mk, .inl (cG, 41, .inr (.inr (.inr (.inr kr))))), (r0, .inl (cI, 32, .inl w0))] := hD
  refine lv_aload_n hx hb dX3_forgetActs_10 rfl (lv_at hl 0 rfl) ?_
  refine lv_iconst (v := 0) hx hb dX3_forgetActs_11 (by decide) ?_
  refine va_put (D := D) (ci := 3) (v := .int 0) (ty := tyX3 6) (C := RX3) (T := TX3) (N := 9) hx hb hts iw_X3_forgetActs_X3 tyX3 tyX3_ok nmX3 hown hK hP hD hS 0 rfl rfl 6 (by decide) (hts (.fieldLink RX3 128 "SoldHouse$Memory" "undone" "I") (List.mem_of_getElem? (i := 3) rfl)) (fun _ h9 => h9) rfl (by decide +kernel) rfl rfl (Nat.le_of_ble_eq_true rfl) dX3_forgetActs_12 (fun H locs hP hD hS => ?_)
  replace hP : va_P D classes [(a0, .inr (3, [.ref aF, .ref mo, .ref ma, .ref mk, .int 0, .int 0, .int 0, .ref mb, .ref mf])), (mo, .inl (cI, 32, .inl fn)), (mk, .inl (cG, 41, .inr (.inr (.inr (.inr kr))))), (r0, .inl (cI, 32, .inl w0))] H := hP
  replace hD : va_D A [(a0, .inr (3, [.ref aF, .ref mo, .ref ma, .ref mk, .int 0, .int 0, .int 0, .ref mb, .ref mf])), (mo, .inl (cI, 32, .inl fn)), (mk, .inl (cG, 41, .inr (.inr (.inr (.inr kr))))), (r0, .inl (cI, 32, .inl w0))] := hD
  refine lv_aload_n hx hb dX3_forgetActs_15 rfl (lv_at hl 0 rfl) ?_
  refine va_get (D := D) (ci := 3) (v := .ref mo) (C := RX3) (T := TX3) (N := 9) hx hb hts iw_X3_forgetActs_X3 hown hK hP 0 rfl rfl 1 (by decide) (hts (.fieldLink RX3 11 "SoldHouse$Memory" "now" "[I") (List.mem_of_getElem? (i := 4) rfl)) (fun _ h9 => h9) rfl dX3_forgetActs_16 ?_
  refine lv_iconst (v := 0) hx hb dX3_forgetActs_19 (by decide) ?_
  refine lv_aload_n hx hb dX3_forgetActs_20 rfl (lv_at hl 0 rfl) ?_
  refine va_get (D := D) (ci := 3) (v := .ref mk) (C := RX3) (T := TX3) (N := 9) hx hb hts iw_X3_forgetActs_X3 hown hK hP 0 rfl rfl 3 (by decide) (hts (.fieldLink RX3 20 "SoldHouse$Memory" "kept" "[[I") (List.mem_of_getElem? (i := 5) rfl)) (fun _ h9 => h9) rfl dX3_forgetActs_21 ?_
  refine lv_iconst (v := 0) hx hb dX3_forgetActs_24 (by decide) ?_
  refine zz_alda (v := r0) hx hb hK hP 2 4 rfl rfl (show vp_in 0 41 from (by decide : ¬ ((0 : Int32) < 0 ∨ 41 ≤ Int32.toNatClampNeg 0))) hk_kr_0 dX3_forgetActs_25 ?_
  refine lv_iconst (v := 0) hx hb dX3_forgetActs_26 (by decide) ?_
  refine lv_bipush (v := 32) hx hb dX3_forgetActs_27 (by decide) ?_
  refine va_copyi hx hb (by rw [hml]; exact hl.1.symm) hown (hts (.methodLink RX3 115 arraycopyName) (List.mem_of_getElem? (i := 6) rfl)) (hts (.native arraycopyName) (List.mem_of_getElem? (i := 7) rfl)) (hts (.static arraycopyName) (List.mem_of_getElem? (i := 8) rfl)) (hts (.initialized "java/lang/System") (List.mem_of_getElem? (i := 9) rfl)) hK hP hD hS 1 3 0 0 rfl rfl rfl rfl rfl (by decide) (by decide) (by decide) (by decide +kernel) (by decide +kernel) (fun _ _ => rfl) (Nat.le_of_ble_eq_true rfl) (Nat.le_of_ble_eq_true rfl) dX3_forgetActs_29 (fun H locs hP hD hS => ?_)
  replace hP : va_P D classes [(a0, .inr (3, [.ref aF, .ref mo, .ref ma, .ref mk, .int 0, .int 0, .int 0, .ref mb, .ref mf])), (mo, .inl (cI, 32, .inl fn)), (mk, .inl (cG, 41, .inr (.inr (.inr (.inr kr))))), (r0, .inl (cI, 32, .inl (va_cpy fn w0 (Int32.toNatClampNeg 0) (Int32.toNatClampNeg 0) (Int32.toNatClampNeg 32))))] H := hP
  replace hD : va_D A [(a0, .inr (3, [.ref aF, .ref mo, .ref ma, .ref mk, .int 0, .int 0, .int 0, .ref mb, .ref mf])), (mo, .inl (cI, 32, .inl fn)), (mk, .inl (cG, 41, .inr (.inr (.inr (.inr kr))))), (r0, .inl (cI, 32, .inl (va_cpy fn w0 (Int32.toNatClampNeg 0) (Int32.toNatClampNeg 0) (Int32.toNatClampNeg 32))))] := hD
  generalize eg_1 : va_cpy fn w0 (Int32.toNatClampNeg 0) (Int32.toNatClampNeg 0) (Int32.toNatClampNeg 32) = g_1 at hP hD
  clear eg_1
  have hP9 := hP.sub (ws' := [(a0, .inr (3, [.ref aF, .ref mo, .ref ma, .ref mk, .int 0, .int 0, .int 0, .ref mb, .ref mf])), (mo, .inl (cI, 32, .inl fn)), (mk, .inl (cG, 41, .inr (.inr (.inr (.inr kr))))), (r0, .inl (cI, 32, .inl g_1))]) [0, 1, 2, 3] rfl
  have hD9 := hD.sub (ws' := [(a0, .inr (3, [.ref aF, .ref mo, .ref ma, .ref mk, .int 0, .int 0, .int 0, .ref mb, .ref mf])), (mo, .inl (cI, 32, .inl fn)), (mk, .inl (cG, 41, .inr (.inr (.inr (.inr kr))))), (r0, .inl (cI, 32, .inl g_1))]) [0, 1, 2, 3] (by decide) rfl
  refine W.widen (k := 0) (n := 0) (Nat.le_of_ble_eq_true rfl) (Nat.le_of_ble_eq_true rfl) ?_
  exact W.vret hx hb hr (fun t ht hW => ⟨⟨(), rfl, trivial, ⟨g_1, by rw [ht]; exact hP9, hD9⟩⟩, hS.F ht⟩) hS.2.2 dX3_forgetActs_32
set_option maxHeartbeats 4000000 in
set_option maxRecDepth 100000 in
theorem c_begin (l : Launch) (D : va_G) (cI : ClassId) (cB : ClassId) (cL : ClassId) (cZ : ClassId) (cG : ClassId) (a0 : Nat) (aF : Nat) (aP : Nat) (mo : Nat) (ma : Nat) (mk : Nat) (mb : Nat) (mf : Nat) (fn : Nat → Int32) (kr : Nat → Option Nat) (r0 : Nat) (w0 : Nat → Int32) (ff : Nat → Int32) (fx : Nat) (fr : Nat) (fe : Nat) (pz : Nat → Nat) (su : Nat) (sz : Nat) (hk_kr_0 : kr 0 = some r0) : Met l yX3_begin wsX3_begin ({ frames := 2, cells := 0, slots := 0, locals := 60 }) (xp D [(cI, .int), (cB, .byte), (cL, .long), (cZ, .boolean), (cG, .array .int)] [(a0, .inr (3, [.ref aF, .ref mo, .ref ma, .ref mk, .int 0, .int 0, .int 0, .ref mb, .ref mf])), (mo, .inl (cI, 32, .inl fn)), (mk, .inl (cG, 41, .inr (.inr (.inr (.inr kr))))), (r0, .inl (cI, 32, .inl w0)), (mf, .inl (cZ, 3, .inl ff)), (aF, .inr (0, [.ref aP, .ref fx, .ref fr, .ref fe, .int 0])), (aP, .inr (5, PF pz su))] sz [] [.ref a0]) (va_Qv (fun _ : Unit => True) (fun (_ : Unit) (t : State) => ∃ (g1 : Nat → Int32), ∃ (g2 : Nat → Int32), ∃ (g3 : Nat → Int32), g1 30 = 0 ∧ g1 31 = 0 ∧ g3 0 = 0 ∧ g3 1 = 0 ∧ g3 2 = 0 ∧ xB D (va_A [(a0, .inr (3, [.ref aF, .ref mo, .ref ma, .ref mk, .int 0, .int 0, .int 0, .ref mb, .ref mf])), (mo, .inl (cI, 32, .inl fn)), (mk, .inl (cG, 41, .inr (.inr (.inr (.inr kr))))), (r0, .inl (cI, 32, .inl w0)), (mf, .inl (cZ, 3, .inl ff)), (aF, .inr (0, [.ref aP, .ref fx, .ref fr, .ref fe, .int 0])), (aP, .inr (5, PF pz su))] sz) [(a0, .inr (3, [.ref aF, .ref mo, .ref ma, .ref mk, .int 0, .int 0, .int 0, .ref mb, .ref mf])), (mo, .inl (cI, 32, .inl g1)), (mk, .inl (cG, 41, .inr (.inr (.inr (.inr kr))))), (r0, .inl (cI, 32, .inl g2)), (mf, .inl (cZ, 3, .inl g3)), (aF, .inr (0, [.ref aP, .ref fx, .ref fr, .ref fe, .int 0])), (aP, .inr (5, PF pz su))] t) (va_A [(a0, .inr (3, [.ref aF, .ref mo, .ref ma, .ref mk, .int 0, .int 0, .int 0, .ref mb, .ref mf])), (mo, .inl (cI, 32, .inl fn)), (mk, .inl (cG, 41, .inr (.inr (.inr (.inr kr))))), (r0, .inl (cI, 32, .inl w0)), (mf, .inl (cZ, 3, .inl ff)), (aF, .inr (0, [.ref aP, .ref fx, .ref fr, .ref fe, .int 0])), (aP, .inr (5, PF pz su))] sz)) 0 0 (va_A [(a0, .inr (3, [.ref aF, .ref mo, .ref ma, .ref mk, .int 0, .int 0, .int 0, .ref mb, .ref mf])), (mo, .inl (cI, 32, .inl fn)), (mk, .inl (cG, 41, .inr (.inr (.inr (.inr kr))))), (r0, .inl (cI, 32, .inl w0)), (mf, .inl (cZ, 3, .inl ff)), (aF, .inr (0, [.ref aP, .ref fx, .ref fr, .ref fe, .int 0])), (aP, .inr (5, PF pz su))] sz) := by
  refine Met.ofW (cc := cX3_begin) (maxL := 3) (ret := none) (by decide) rfl ?_
  intro p e s m args below meth c s₁ B hml hv
  obtain ⟨rfl, hsz, hP, hK, hD0, hNw⟩ := hv
  have hx := B.exec
  have hb := B.bytes
  have hr := B.returns
  have hts := atoms_spec (ws := wsX3_begin) B.pre
  have hown : s.vm.findClass RX3 = some m.cls := findClass_of_methodNamed B.named
  have hlocks := B.notSynchronized
  subst hsz
  have hD := hD0.self (sz := s.heap.size)
  clear hD0
  generalize hAe : va_A [(a0, .inr (3, [.ref aF, .ref mo, .ref ma, .ref mk, .int 0, .int 0, .int 0, .ref mb, .ref mf])), (mo, .inl (cI, 32, .inl fn)), (mk, .inl (cG, 41, .inr (.inr (.inr (.inr kr))))), (r0, .inl (cI, 32, .inl w0)), (mf, .inl (cZ, 3, .inl ff)), (aF, .inr (0, [.ref aP, .ref fx, .ref fr, .ref fe, .int 0])), (aP, .inr (5, PF pz su))] s.heap.size = A at hD ⊢
  have hA : ∀ q : Nat, s.heap.size ≤ q → A q := fun q h => by rw [← hAe]; exact Or.inr h
  have hS : va_S A s.heap s.heap [] := va_S.rf
  clear hAe
  obtain ⟨H, hH⟩ : ∃ H : Heap, H = s.heap := ⟨_, rfl⟩
  obtain ⟨locs, hlocs⟩ : ∃ L : List Loc, L = [] := ⟨_, rfl⟩
  replace hP : va_P D classes [(a0, .inr (3, [.ref aF, .ref mo, .ref ma, .ref mk, .int 0, .int 0, .int 0, .ref mb, .ref mf])), (mo, .inl (cI, 32, .inl fn)), (mk, .inl (cG, 41, .inr (.inr (.inr (.inr kr))))), (r0, .inl (cI, 32, .inl w0)), (mf, .inl (cZ, 3, .inl ff)), (aF, .inr (0, [.ref aP, .ref fx, .ref fr, .ref fe, .int 0])), (aP, .inr (5, PF pz su))] H := by rw [hH]; exact hP
  replace hS : va_S A s.heap H locs := by rw [hH, hlocs]; exact hS
  rw [← hH, ← hlocs]
  clear hlocs hH
  have hl := lv_entry ([.ref a0]) (n := 3) (Nat.le_of_ble_eq_true rfl)
  rw [lg_entry_eq]
  generalize (lg_sl ([.ref a0]) ++ List.replicate (3 - (lg_sl ([.ref a0])).length) Slot.unset).toArray = ls at hl ⊢
  replace hl : lv_has ls 3 [(0, .ref a0)] := hl
  refine lv_aload_n hx hb dX3_begin_0 rfl (lv_at hl 0 rfl) ?_
  refine va_get (D := D) (ci := 3) (v := .ref aF) (C := RX3) (T := TX3) (N := 9) hx hb hts iw_X3_begin_X3 hown hK hP 0 rfl rfl 0 (by decide) (hts (.fieldLink RX3 30 "SoldHouse$Memory" "floor" "LSoldHouse$Floor;") (List.mem_of_getElem? (i := 1) rfl)) (fun _ h9 => h9) rfl dX3_begin_1 ?_
  refine va_get (D := D) (ci := 0) (v := .ref aP) (C := RX0) (T := TX0) (N := 5) hx hb hts iw_X3_begin_X0 hown hK hP 5 rfl rfl 0 (by decide) (hts (.fieldLink RX3 34 "SoldHouse$Floor" "plan" "LSoldHouse$Plan;") (List.mem_of_getElem? (i := 2) rfl)) (fun _ h9 => h9) rfl dX3_begin_4 ?_
  refine lv_astore_n (lv' := [(1, .ref aP), (0, .ref a0)]) hx hb dX3_begin_7 rfl hl (by decide) rfl (fun ls hl => ?_)
  refine lv_iconst (v := 0) hx hb dX3_begin_8 (by decide) ?_
  refine lv_istore_n (lv' := [(2, .int 0), (1, .ref aP), (0, .ref a0)]) hx hb dX3_begin_9 rfl hl (by decide) rfl (fun ls hl => ?_)
  refine lv_iload_n hx hb dX3_begin_10 rfl (lv_at hl 0 rfl) ?_
  refine lv_aload_n hx hb dX3_begin_11 rfl (lv_at hl 1 rfl) ?_
  refine va_get (D := D) (ci := 5) (v := .int 0) (C := RX5) (T := TX5) (N := 16) hx hb hts iw_X3_begin_X5 hown hK hP 6 rfl rfl 6 (by decide) (hts (.fieldLink RX3 40 "SoldHouse$Plan" "things" "I") (List.mem_of_getElem? (i := 3) rfl)) (fun _ h9 => h9) rfl dX3_begin_12 ?_
  refine lv_icmp_ge (tgt := 88) hx hb dX3_begin_15 (by decide) (fun _ => ?_) (fun c_1 => absurd (by decide) c_1)
  refine lv_aload_n hx hb dX3_begin_88 rfl (lv_at hl 2 rfl) ?_
  refine va_get (D := D) (ci := 3) (v := .ref mo) (C := RX3) (T := TX3) (N := 9) hx hb hts iw_X3_begin_X3 hown hK hP 0 rfl rfl 1 (by decide) (hts (.fieldLink RX3 11 "SoldHouse$Memory" "now" "[I") (List.mem_of_getElem? (i := 4) rfl)) (fun _ h9 => h9) rfl dX3_begin_89 ?_
  refine lv_bipush (v := 30) hx hb dX3_begin_92 (by decide) ?_
  refine lv_iconst (v := 0) hx hb dX3_begin_94 (by decide) ?_
  refine va_iast hx hb hK hP hD hS 1 0 rfl rfl (show vp_in 30 32 from (by decide : ¬ ((30 : Int32) < 0 ∨ 32 ≤ Int32.toNatClampNeg 30))) dX3_begin_95 (fun H locs hP hD hS => ?_)
  replace hP : va_P D classes [(a0, .inr (3, [.ref aF, .ref mo, .ref ma, .ref mk, .int 0, .int 0, .int 0, .ref mb, .ref mf])), (mo, .inl (cI, 32, .inl (upd fn (Int32.toNatClampNeg 30) 0))), (mk, .inl (cG, 41, .inr (.inr (.inr (.inr kr))))), (r0, .inl (cI, 32, .inl w0)), (mf, .inl (cZ, 3, .inl ff)), (aF, .inr (0, [.ref aP, .ref fx, .ref fr, .ref fe, .int 0])), (aP, .inr (5, PF pz su))] H := hP
  replace hD : va_D A [(a0, .inr (3, [.ref aF, .ref mo, .ref ma, .ref mk, .int 0, .int 0, .int 0, .ref mb, .ref mf])), (mo, .inl (cI, 32, .inl (upd fn (Int32.toNatClampNeg 30) 0))), (mk, .inl (cG, 41, .inr (.inr (.inr (.inr kr))))), (r0, .inl (cI, 32, .inl w0)), (mf, .inl (cZ, 3, .inl ff)), (aF, .inr (0, [.ref aP, .ref fx, .ref fr, .ref fe, .int 0])), (aP, .inr (5, PF pz su))] := hD
  generalize eg_2 : upd fn (Int32.toNatClampNeg 30) 0 = g_2 at hP hD
  have g_2_30 : g_2 30 = 0 := by rw [← eg_2]; exact pk_us
  clear eg_2
  refine lv_aload_n hx hb dX3_begin_96 rfl (lv_at hl 2 rfl) ?_
  refine va_get (D := D) (ci := 3) (v := .ref mo) (C := RX3) (T := TX3) (N := 9) hx hb hts iw_X3_begin_X3 hown hK hP 0 rfl rfl 1 (by decide) (hts (.fieldLink RX3 11 "SoldHouse$Memory" "now" "[I") (List.mem_of_getElem? (i := 4) rfl)) (fun _ h9 => h9) rfl dX3_begin_97 ?_
  refine lv_bipush (v := 31) hx hb dX3_begin_100 (by decide) ?_
  refine lv_aload_n hx hb dX3_begin_102 rfl (lv_at hl 1 rfl) ?_
  refine va_get (D := D) (ci := 5) (v := .int 0) (C := RX5) (T := TX5) (N := 16) hx hb hts iw_X3_begin_X5 hown hK hP 6 rfl rfl 14 (by decide) (hts (.fieldLink RX3 55 "SoldHouse$Plan" "draw" "I") (List.mem_of_getElem? (i := 8) rfl)) (fun _ h9 => h9) rfl dX3_begin_103 ?_
  refine va_iast hx hb hK hP hD hS 1 0 rfl rfl (show vp_in 31 32 from (by decide : ¬ ((31 : Int32) < 0 ∨ 32 ≤ Int32.toNatClampNeg 31))) dX3_begin_106 (fun H locs hP hD hS => ?_)
  replace hP : va_P D classes [(a0, .inr (3, [.ref aF, .ref mo, .ref ma, .ref mk, .int 0, .int 0, .int 0, .ref mb, .ref mf])), (mo, .inl (cI, 32, .inl (upd g_2 (Int32.toNatClampNeg 31) 0))), (mk, .inl (cG, 41, .inr (.inr (.inr (.inr kr))))), (r0, .inl (cI, 32, .inl w0)), (mf, .inl (cZ, 3, .inl ff)), (aF, .inr (0, [.ref aP, .ref fx, .ref fr, .ref fe, .int 0])), (aP, .inr (5, PF pz su))] H := hP
  replace hD : va_D A [(a0, .inr (3, [.ref aF, .ref mo, .ref ma, .ref mk, .int 0, .int 0, .int 0, .ref mb, .ref mf])), (mo, .inl (cI, 32, .inl (upd g_2 (Int32.toNatClampNeg 31) 0))), (mk, .inl (cG, 41, .inr (.inr (.inr (.inr kr))))), (r0, .inl (cI, 32, .inl w0)), (mf, .inl (cZ, 3, .inl ff)), (aF, .inr (0, [.ref aP, .ref fx, .ref fr, .ref fe, .int 0])), (aP, .inr (5, PF pz su))] := hD
  generalize eg_3 : upd g_2 (Int32.toNatClampNeg 31) 0 = g_3 at hP hD
  have g_3_30 : g_3 30 = 0 := by rw [← eg_3]; exact (pk_un (by decide)).trans g_2_30
  have g_3_31 : g_3 31 = 0 := by rw [← eg_3]; exact pk_us
  clear eg_3
  refine lv_iconst (v := 0) hx hb dX3_begin_107 (by decide) ?_
  refine lv_istore_n (lv' := [(2, .int 0), (1, .ref aP), (0, .ref a0)]) hx hb dX3_begin_108 rfl hl (by decide) rfl (fun ls hl => ?_)
  refine lv_iload_n hx hb dX3_begin_109 rfl (lv_at hl 0 rfl) ?_
  refine lv_iconst (v := 3) hx hb dX3_begin_110 (by decide) ?_
  refine lv_icmp_ge (tgt := 127) hx hb dX3_begin_111 (by decide) (fun c_4 => absurd c_4 (by decide)) (fun _ => ?_)
  refine lv_aload_n hx hb dX3_begin_114 rfl (lv_at hl 2 rfl) ?_
  refine va_get (D := D) (ci := 3) (v := .ref mf) (C := RX3) (T := TX3) (N := 9) hx hb hts iw_X3_begin_X3 hown hK hP 0 rfl rfl 8 (by decide) (hts (.fieldLink RX3 26 "SoldHouse$Memory" "full" "[Z") (List.mem_of_getElem? (i := 9) rfl)) (fun _ h9 => h9) rfl dX3_begin_115 ?_
  refine lv_iload_n hx hb dX3_begin_118 rfl (lv_at hl 0 rfl) ?_
  refine lv_iconst (v := 0) hx hb dX3_begin_119 (by decide) ?_
  refine va_zast hx hb hK hP hD hS 4 3 rfl rfl (show vp_in 0 3 from (by decide : ¬ ((0 : Int32) < 0 ∨ 3 ≤ Int32.toNatClampNeg 0))) dX3_begin_120 (fun H locs hP hD hS => ?_)
  replace hP : va_P D classes [(a0, .inr (3, [.ref aF, .ref mo, .ref ma, .ref mk, .int 0, .int 0, .int 0, .ref mb, .ref mf])), (mo, .inl (cI, 32, .inl g_3)), (mk, .inl (cG, 41, .inr (.inr (.inr (.inr kr))))), (r0, .inl (cI, 32, .inl w0)), (mf, .inl (cZ, 3, .inl (upd ff (Int32.toNatClampNeg 0) (vp_nar .boolean 0)))), (aF, .inr (0, [.ref aP, .ref fx, .ref fr, .ref fe, .int 0])), (aP, .inr (5, PF pz su))] H := hP
  replace hD : va_D A [(a0, .inr (3, [.ref aF, .ref mo, .ref ma, .ref mk, .int 0, .int 0, .int 0, .ref mb, .ref mf])), (mo, .inl (cI, 32, .inl g_3)), (mk, .inl (cG, 41, .inr (.inr (.inr (.inr kr))))), (r0, .inl (cI, 32, .inl w0)), (mf, .inl (cZ, 3, .inl (upd ff (Int32.toNatClampNeg 0) (vp_nar .boolean 0)))), (aF, .inr (0, [.ref aP, .ref fx, .ref fr, .ref fe, .int 0])), (aP, .inr (5, PF pz su))] := hD
  generalize eg_5 : upd ff (Int32.toNatClampNeg 0) (vp_nar .boolean 0) = g_5 at hP hD
  have g_5_0 : g_5 0 = 0 := by rw [← eg_5]; exact pk_us.trans (by decide)
  clear eg_5
  refine lv_iinc (v := 1) (lv' := [(2, .int 1), (1, .ref aP), (0, .ref a0)]) hx hb dX3_begin_121 hl (k := 0) rfl (by decide) (by decide) rfl (fun ls hl => ?_)
  refine lv_goto (tgt := 109) hx hb dX3_begin_124 (by decide) ?_
  refine lv_iload_n hx hb dX3_begin_109 rfl (lv_at hl 0 rfl) ?_
  refine lv_iconst (v := 3) hx hb dX3_begin_110 (by decide) ?_
  refine lv_icmp_ge (tgt := 127) hx hb dX3_begin_111 (by decide) (fun c_6 => absurd c_6 (by decide)) (fun _ => ?_)
  refine lv_aload_n hx hb dX3_begin_114 rfl (lv_at hl 2 rfl) ?_
  refine va_get (D := D) (ci := 3) (v := .ref mf) (C := RX3) (T := TX3) (N := 9) hx hb hts iw_X3_begin_X3 hown hK hP 0 rfl rfl 8 (by decide) (hts (.fieldLink RX3 26 "SoldHouse$Memory" "full" "[Z") (List.mem_of_getElem? (i := 9) rfl)) (fun _ h9 => h9) rfl dX3_begin_115 ?_
  refine lv_iload_n hx hb dX3_begin_118 rfl (lv_at hl 0 rfl) ?_
  refine lv_iconst (v := 0) hx hb dX3_begin_119 (by decide) ?_
  refine va_zast hx hb hK hP hD hS 4 3 rfl rfl (show vp_in 1 3 from (by decide : ¬ ((1 : Int32) < 0 ∨ 3 ≤ Int32.toNatClampNeg 1))) dX3_begin_120 (fun H locs hP hD hS => ?_)
  replace hP : va_P D classes [(a0, .inr (3, [.ref aF, .ref mo, .ref ma, .ref mk, .int 0, .int 0, .int 0, .ref mb, .ref mf])), (mo, .inl (cI, 32, .inl g_3)), (mk, .inl (cG, 41, .inr (.inr (.inr (.inr kr))))), (r0, .inl (cI, 32, .inl w0)), (mf, .inl (cZ, 3, .inl (upd g_5 (Int32.toNatClampNeg 1) (vp_nar .boolean 0)))), (aF, .inr (0, [.ref aP, .ref fx, .ref fr, .ref fe, .int 0])), (aP, .inr (5, PF pz su))] H := hP
  replace hD : va_D A [(a0, .inr (3, [.ref aF, .ref mo, .ref ma, .ref mk, .int 0, .int 0, .int 0, .ref mb, .ref mf])), (mo, .inl (cI, 32, .inl g_3)), (mk, .inl (cG, 41, .inr (.inr (.inr (.inr kr))))), (r0, .inl (cI, 32, .inl w0)), (mf, .inl (cZ, 3, .inl (upd g_5 (Int32.toNatClampNeg 1) (vp_nar .boolean 0)))), (aF, .inr (0, [.ref aP, .ref fx, .ref fr, .ref fe, .int 0])), (aP, .inr (5, PF pz su))] := hD
  generalize eg_7 : upd g_5 (Int32.toNatClampNeg 1) (vp_nar .boolean 0) = g_7 at hP hD
  have g_7_0 : g_7 0 = 0 := by rw [← eg_7]; exact (pk_un (by decide)).trans g_5_0
  have g_7_1 : g_7 1 = 0 := by rw [← eg_7]; exact pk_us.trans (by decide)
  clear eg_7
  refine lv_iinc (v := 2) (lv' := [(2, .int 2), (1, .ref aP), (0, .ref a0)]) hx hb dX3_begin_121 hl (k := 0) rfl (by decide) (by decide) rfl (fun ls hl => ?_)
  refine lv_goto (tgt := 109) hx hb dX3_begin_124 (by decide) ?_
  refine lv_iload_n hx hb dX3_begin_109 rfl (lv_at hl 0 rfl) ?_
  refine lv_iconst (v := 3) hx hb dX3_begin_110 (by decide) ?_
  refine lv_icmp_ge (tgt := 127) hx hb dX3_begin_111 (by decide) (fun c_8 => absurd c_8 (by decide)) (fun _ => ?_)
  refine lv_aload_n hx hb dX3_begin_114 rfl (lv_at hl 2 rfl) ?_
  refine va_get (D := D) (ci := 3) (v := .ref mf) (C := RX3) (T := TX3) (N := 9) hx hb hts iw_X3_begin_X3 hown hK hP 0 rfl rfl 8 (by decide) (hts (.fieldLink RX3 26 "SoldHouse$Memory" "full" "[Z") (List.mem_of_getElem? (i := 9) rfl)) (fun _ h9 => h9) rfl dX3_begin_115 ?_
  refine lv_iload_n hx hb dX3_begin_118 rfl (lv_at hl 0 rfl) ?_
  refine lv_iconst (v := 0) hx hb dX3_begin_119 (by decide) ?_
  refine va_zast hx hb hK hP hD hS 4 3 rfl rfl (show vp_in 2 3 from (by decide : ¬ ((2 : Int32) < 0 ∨ 3 ≤ Int32.toNatClampNeg 2))) dX3_begin_120 (fun H locs hP hD hS => ?_)
  replace hP : va_P D classes [(a0, .inr (3, [.ref aF, .ref mo, .ref ma, .ref mk, .int 0, .int 0, .int 0, .ref mb, .ref mf])), (mo, .inl (cI, 32, .inl g_3)), (mk, .inl (cG, 41, .inr (.inr (.inr (.inr kr))))), (r0, .inl (cI, 32, .inl w0)), (mf, .inl (cZ, 3, .inl (upd g_7 (Int32.toNatClampNeg 2) (vp_nar .boolean 0)))), (aF, .inr (0, [.ref aP, .ref fx, .ref fr, .ref fe, .int 0])), (aP, .inr (5, PF pz su))] H := hP
  replace hD : va_D A [(a0, .inr (3, [.ref aF, .ref mo, .ref ma, .ref mk, .int 0, .int 0, .int 0, .ref mb, .ref mf])), (mo, .inl (cI, 32, .inl g_3)), (mk, .inl (cG, 41, .inr (.inr (.inr (.inr kr))))), (r0, .inl (cI, 32, .inl w0)), (mf, .inl (cZ, 3, .inl (upd g_7 (Int32.toNatClampNeg 2) (vp_nar .boolean 0)))), (aF, .inr (0, [.ref aP, .ref fx, .ref fr, .ref fe, .int 0])), (aP, .inr (5, PF pz su))] := hD
  generalize eg_9 : upd g_7 (Int32.toNatClampNeg 2) (vp_nar .boolean 0) = g_9 at hP hD
  have g_9_0 : g_9 0 = 0 := by rw [← eg_9]; exact (pk_un (by decide)).trans g_7_0
  have g_9_1 : g_9 1 = 0 := by rw [← eg_9]; exact (pk_un (by decide)).trans g_7_1
  have g_9_2 : g_9 2 = 0 := by rw [← eg_9]; exact pk_us.trans (by decide)
  clear eg_9
  refine lv_iinc (v := 3) (lv' := [(2, .int 3), (1, .ref aP), (0, .ref a0)]) hx hb dX3_begin_121 hl (k := 0) rfl (by decide) (by decide) rfl (fun ls hl => ?_)
  refine lv_goto (tgt := 109) hx hb dX3_begin_124 (by decide) ?_
  refine lv_iload_n hx hb dX3_begin_109 rfl (lv_at hl 0 rfl) ?_
  refine lv_iconst (v := 3) hx hb dX3_begin_110 (by decide) ?_
  refine lv_icmp_ge (tgt := 127) hx hb dX3_begin_111 (by decide) (fun _ => ?_) (fun c_10 => absurd (by decide) c_10)
  refine lv_aload_n hx hb dX3_begin_127 rfl (lv_at hl 2 rfl) ?_
  have hPc := hP.sub (ws' := [(a0, .inr (3, [.ref aF, .ref mo, .ref ma, .ref mk, .int 0, .int 0, .int 0, .ref mb, .ref mf])), (mo, .inl (cI, 32, .inl g_3)), (mk, .inl (cG, 41, .inr (.inr (.inr (.inr kr))))), (r0, .inl (cI, 32, .inl w0))]) [0, 1, 2, 3] rfl
  have hDc := hD.sub (ws' := [(a0, .inr (3, [.ref aF, .ref mo, .ref ma, .ref mk, .int 0, .int 0, .int 0, .ref mb, .ref mf])), (mo, .inl (cI, 32, .inl g_3)), (mk, .inl (cG, 41, .inr (.inr (.inr (.inr kr))))), (r0, .inl (cI, 32, .inl w0))]) [0, 1, 2, 3] (by decide) rfl
  have hFc := va_free (wc := [(a0, .inr (3, [.ref aF, .ref mo, .ref ma, .ref mk, .int 0, .int 0, .int 0, .ref mb, .ref mf])), (mo, .inl (cI, 32, .inl g_3)), (mk, .inl (cG, 41, .inr (.inr (.inr (.inr kr))))), (r0, .inl (cI, 32, .inl w0))]) hD hS hA [0, 1, 2, 3] rfl
  refine va_callv (va_runV (As := []) (rest := []) ⟨hx, hb, hml, hown, hts⟩ (c_forgetActs l D cI cB cL cZ cG a0 aF mo ma mk mb mf g_3 kr r0 w0 H.size hk_kr_0) (cwV 0 hts gX3_begin_X3_forgetActs rfl rfl rfl (by decide +kernel) ⟨Nat.le_of_ble_eq_true rfl, Nat.le_of_ble_eq_true rfl⟩) ⟨xp_blind, va_recv hK hPc (ci := 3) (q0 := 0) rfl rfl, fun U hU hW => xp_mk hU hW hPc hK hDc xNw_nil⟩ rfl rfl hl.1 rfl (lv_room (Nat.le_of_ble_eq_true rfl)) dX3_begin_128 ⟨Nat.le_of_ble_eq_true rfl, Nat.le_of_ble_eq_true rfl⟩) hS (fun q _ h => hFc q h) hFc (fun u9 t9 H1 locs ht9 hvm9 hr_11 hB9 hz9 hk9 hS => ?_)
  obtain ⟨g__12, hP1, hD1⟩ := hB9
  rw [ht9] at hP1
  obtain ⟨hP, hD⟩ := va_join (wr := [(mf, .inl (cZ, 3, .inl g_9)), (aF, .inr (0, [.ref aP, .ref fx, .ref fr, .ref fe, .int 0])), (aP, .inr (5, PF pz su))]) (w1 := [(a0, .inr (3, [.ref aF, .ref mo, .ref ma, .ref mk, .int 0, .int 0, .int 0, .ref mb, .ref mf])), (mo, .inl (cI, 32, .inl g_3)), (mk, .inl (cG, 41, .inr (.inr (.inr (.inr kr))))), (r0, .inl (cI, 32, .inl g__12))]) hP hD [0, 1, 2, 3] [4, 5, 6] rfl rfl (by decide) (by decide) hk9 hFc hP1 hD1
  clear hz9 hPc hDc hP1 hD1
  clear hk9 hFc ht9 hvm9
  generalize H1 = H at hP hS ⊢
  replace hP : va_P D classes [(mf, .inl (cZ, 3, .inl g_9)), (aF, .inr (0, [.ref aP, .ref fx, .ref fr, .ref fe, .int 0])), (aP, .inr (5, PF pz su)), (a0, .inr (3, [.ref aF, .ref mo, .ref ma, .ref mk, .int 0, .int 0, .int 0, .ref mb, .ref mf])), (mo, .inl (cI, 32, .inl g_3)), (mk, .inl (cG, 41, .inr (.inr (.inr (.inr kr))))), (r0, .inl (cI, 32, .inl g__12))] H := hP
  replace hD : va_D A [(mf, .inl (cZ, 3, .inl g_9)), (aF, .inr (0, [.ref aP, .ref fx, .ref fr, .ref fe, .int 0])), (aP, .inr (5, PF pz su)), (a0, .inr (3, [.ref aF, .ref mo, .ref ma, .ref mk, .int 0, .int 0, .int 0, .ref mb, .ref mf])), (mo, .inl (cI, 32, .inl g_3)), (mk, .inl (cG, 41, .inr (.inr (.inr (.inr kr))))), (r0, .inl (cI, 32, .inl g__12))] := hD
  have hP9 := hP.sub (ws' := [(a0, .inr (3, [.ref aF, .ref mo, .ref ma, .ref mk, .int 0, .int 0, .int 0, .ref mb, .ref mf])), (mo, .inl (cI, 32, .inl g_3)), (mk, .inl (cG, 41, .inr (.inr (.inr (.inr kr))))), (r0, .inl (cI, 32, .inl g__12)), (mf, .inl (cZ, 3, .inl g_9)), (aF, .inr (0, [.ref aP, .ref fx, .ref fr, .ref fe, .int 0])), (aP, .inr (5, PF pz su))]) [3, 4, 5, 6, 0, 1, 2] rfl
  have hD9 := hD.sub (ws' := [(a0, .inr (3, [.ref aF, .ref mo, .ref ma, .ref mk, .int 0, .int 0, .int 0, .ref mb, .ref mf])), (mo, .inl (cI, 32, .inl g_3)), (mk, .inl (cG, 41, .inr (.inr (.inr (.inr kr))))), (r0, .inl (cI, 32, .inl g__12)), (mf, .inl (cZ, 3, .inl g_9)), (aF, .inr (0, [.ref aP, .ref fx, .ref fr, .ref fe, .int 0])), (aP, .inr (5, PF pz su))]) [3, 4, 5, 6, 0, 1, 2] (by decide) rfl
  refine W.widen (k := 0) (n := 0) (Nat.le_of_ble_eq_true rfl) (Nat.le_of_ble_eq_true rfl) ?_
  exact W.vret hx hb hr (fun t ht hW => ⟨⟨(), rfl, trivial, ⟨g_3, g__12, g_9, g_3_30, g_3_31, g_9_0, g_9_1, g_9_2, by rw [ht]; exact hP9, hD9⟩⟩, hS.F ht⟩) hS.2.2 dX3_begin_131
set_option maxHeartbeats 4000000 in
set_option maxRecDepth 100000 in
theorem c_build (l : Launch) (D : va_G) (cI : ClassId) (cB : ClassId) (cL : ClassId) (cZ : ClassId) (a0 : Nat) (aP : Nat) (aQ : Nat) (fx : Nat) (fr : Nat) (fe : Nat) (pz : Nat → Nat) (su : Nat) (fxf : Nat → Int32) (frf : Nat → Int32) (sz : Nat) : Met l yX0_build wsX0_build ({ frames := 1, cells := 0, slots := 0, locals := 23 }) (xp D [(cI, .int), (cB, .byte), (cL, .long), (cZ, .boolean)] [(a0, .inr (0, [.ref aQ, .ref fx, .ref fr, .ref fe, .int 0])), (aP, .inr (5, PF pz su)), (fx, .inl (cI, 8, .inl fxf)), (fr, .inl (cI, 64, .inl frf))] sz [] [.ref a0, .ref aP]) (va_Qv (fun _ : Unit => True) (fun (_ : Unit) (t : State) => ∃ (g1 : Nat → Int32), ∃ (g2 : Nat → Int32), xB D (va_A [(a0, .inr (0, [.ref aQ, .ref fx, .ref fr, .ref fe, .int 0])), (aP, .inr (5, PF pz su)), (fx, .inl (cI, 8, .inl fxf)), (fr, .inl (cI, 64, .inl frf))] sz) [(a0, .inr (0, [.ref aP, .ref fx, .ref fr, .ref fe, .int 0])), (aP, .inr (5, PF pz su)), (fx, .inl (cI, 8, .inl g1)), (fr, .inl (cI, 64, .inl g2))] t) (va_A [(a0, .inr (0, [.ref aQ, .ref fx, .ref fr, .ref fe, .int 0])), (aP, .inr (5, PF pz su)), (fx, .inl (cI, 8, .inl fxf)), (fr, .inl (cI, 64, .inl frf))] sz)) 0 0 (va_A [(a0, .inr (0, [.ref aQ, .ref fx, .ref fr, .ref fe, .int 0])), (aP, .inr (5, PF pz su)), (fx, .inl (cI, 8, .inl fxf)), (fr, .inl (cI, 64, .inl frf))] sz) := by
  refine Met.ofW (cc := cX0_build) (maxL := 3) (ret := none) (by decide) rfl ?_
  intro p e s m args below meth c s₁ B hml hv
  obtain ⟨rfl, hsz, hP, hK, hD0, hNw⟩ := hv
  have hx := B.exec
  have hb := B.bytes
  have hr := B.returns
  have hts := atoms_spec (ws := wsX0_build) B.pre
  have hown : s.vm.findClass RX0 = some m.cls := findClass_of_methodNamed B.named
  have hlocks := B.notSynchronized
  subst hsz
  have hD := hD0.self (sz := s.heap.size)
  clear hD0
  generalize hAe : va_A [(a0, .inr (0, [.ref aQ, .ref fx, .ref fr, .ref fe, .int 0])), (aP, .inr (5, PF pz su)), (fx, .inl (cI, 8, .inl fxf)), (fr, .inl (cI, 64, .inl frf))] s.heap.size = A at hD ⊢
  have hA : ∀ q : Nat, s.heap.size ≤ q → A q := fun q h => by rw [← hAe]; exact Or.inr h
  have hS : va_S A s.heap s.heap [] := va_S.rf
  clear hAe
  obtain ⟨H, hH⟩ : ∃ H : Heap, H = s.heap := ⟨_, rfl⟩
  obtain ⟨locs, hlocs⟩ : ∃ L : List Loc, L = [] := ⟨_, rfl⟩
  replace hP : va_P D classes [(a0, .inr (0, [.ref aQ, .ref fx, .ref fr, .ref fe, .int 0])), (aP, .inr (5, PF pz su)), (fx, .inl (cI, 8, .inl fxf)), (fr, .inl (cI, 64, .inl frf))] H := by rw [hH]; exact hP
  replace hS : va_S A s.heap H locs := by rw [hH, hlocs]; exact hS
  rw [← hH, ← hlocs]
  clear hlocs hH
  have hl := lv_entry ([.ref a0, .ref aP]) (n := 3) (Nat.le_of_ble_eq_true rfl)
  rw [lg_entry_eq]
  generalize (lg_sl ([.ref a0, .ref aP]) ++ List.replicate (3 - (lg_sl ([.ref a0, .ref aP])).length) Slot.unset).toArray = ls at hl ⊢
  replace hl : lv_has ls 3 [(0, .ref a0), (1, .ref aP)] := hl
  refine lv_aload_n hx hb dX0_build_0 rfl (lv_at hl 0 rfl) ?_
  refine lv_aload_n hx hb dX0_build_1 rfl (lv_at hl 1 rfl) ?_
  refine va_put (D := D) (ci := 0) (v := .ref aP) (ty := tyX0 0) (C := RX0) (T := TX0) (N := 5) hx hb hts iw_X0_build_X0 tyX0 tyX0_ok nmX0 hown hK hP hD hS 0 rfl rfl 0 (by decide) (hts (.fieldLink RX0 21 "SoldHouse$Floor" "plan" "LSoldHouse$Plan;") (List.mem_of_getElem? (i := 1) rfl)) (fun _ h9 => h9) rfl (by decide +kernel) rfl rfl (Nat.le_of_ble_eq_true rfl) dX0_build_2 (fun H locs hP hD hS => ?_)
  replace hP : va_P D classes [(a0, .inr (0, [.ref aP, .ref fx, .ref fr, .ref fe, .int 0])), (aP, .inr (5, PF pz su)), (fx, .inl (cI, 8, .inl fxf)), (fr, .inl (cI, 64, .inl frf))] H := hP
  replace hD : va_D A [(a0, .inr (0, [.ref aP, .ref fx, .ref fr, .ref fe, .int 0])), (aP, .inr (5, PF pz su)), (fx, .inl (cI, 8, .inl fxf)), (fr, .inl (cI, 64, .inl frf))] := hD
  refine lv_aload_n hx hb dX0_build_5 rfl (lv_at hl 0 rfl) ?_
  refine va_get (D := D) (ci := 0) (v := .ref fx) (C := RX0) (T := TX0) (N := 5) hx hb hts iw_X0_build_X0 hown hK hP 0 rfl rfl 1 (by decide) (hts (.fieldLink RX0 9 "SoldHouse$Floor" "next" "[I") (List.mem_of_getElem? (i := 2) rfl)) (fun _ h9 => h9) rfl dX0_build_6 ?_
  refine lv_iconst (v := 0) hx hb dX0_build_9 (by decide) ?_
  have hPc := hP.sub (ws' := [(fx, .inl (cI, 8, .inl fxf))]) [2] rfl
  have hDc := hD.sub (ws' := [(fx, .inl (cI, 8, .inl fxf))]) [2] (by decide) rfl
  have hFc := va_free (wc := [(fx, .inl (cI, 8, .inl fxf))]) hD hS hA [2] rfl
  refine va_callv (va_runS (As := [.ref fx, .int 0]) (rest := []) ⟨hx, hb, hml, hown, hts⟩ (c_fill8 l D cI cB cL cZ fx fxf 0 H.size) (va_cwS 2 hts gX0_build_J7_fill_53178 rfl rfl rfl (by decide +kernel) ⟨Nat.le_of_ble_eq_true rfl, Nat.le_of_ble_eq_true rfl⟩) ⟨xp_blind, fun U hU hW => xp_mk hU hW hPc hK hDc xNw_nil⟩ rfl rfl hl.1 rfl (lv_room (Nat.le_of_ble_eq_true rfl)) dX0_build_10 ⟨Nat.le_of_ble_eq_true rfl, Nat.le_of_ble_eq_true rfl⟩) hS (fun q _ h => hFc q h) hFc (fun u9 t9 H1 locs ht9 hvm9 hr_1 hB9 hz9 hk9 hS => ?_)
  obtain ⟨g__2, hP1, hD1⟩ := hB9
  rw [ht9] at hP1
  obtain ⟨hP, hD⟩ := va_join (wr := [(a0, .inr (0, [.ref aP, .ref fx, .ref fr, .ref fe, .int 0])), (aP, .inr (5, PF pz su)), (fr, .inl (cI, 64, .inl frf))]) (w1 := [(fx, .inl (cI, 8, .inl g__2))]) hP hD [2] [0, 1, 3] rfl rfl (by decide) (by decide) hk9 hFc hP1 hD1
  clear hz9 hPc hDc hP1 hD1
  clear hk9 hFc ht9 hvm9
  generalize H1 = H at hP hS ⊢
  replace hP : va_P D classes [(a0, .inr (0, [.ref aP, .ref fx, .ref fr, .ref fe, .int 0])), (aP, .inr (5, PF pz su)), (fr, .inl (cI, 64, .inl frf)), (fx, .inl (cI, 8, .inl g__2))] H := hP
  replace hD : va_D A [(a0, .inr (0, [.ref aP, .ref fx, .ref fr, .ref fe, .int 0])), (aP, .inr (5, PF pz su)), (fr, .inl (cI, 64, .inl frf)), (fx, .inl (cI, 8, .inl g__2))] := hD
  refine lv_iconst (v := 0) hx hb dX0_build_13 (by decide) ?_
  refine lv_istore_n (lv' := [(2, .int 0), (0, .ref a0), (1, .ref aP)]) hx hb dX0_build_14 rfl hl (by decide) rfl (fun ls hl => ?_)
  refine lv_iload_n hx hb dX0_build_15 rfl (lv_at hl 0 rfl) ?_
  refine lv_aload_n hx hb dX0_build_16 rfl (lv_at hl 1 rfl) ?_
  refine va_get (D := D) (ci := 0) (v := .ref aP) (C := RX0) (T := TX0) (N := 5) hx hb hts iw_X0_build_X0 hown hK hP 0 rfl rfl 0 (by decide) (hts (.fieldLink RX0 21 "SoldHouse$Floor" "plan" "LSoldHouse$Plan;") (List.mem_of_getElem? (i := 1) rfl)) (fun _ h9 => h9) rfl dX0_build_17 ?_
  refine va_get (D := D) (ci := 5) (v := .int 0) (C := RX5) (T := TX5) (N := 16) hx hb hts iw_X0_build_X5 hown hK hP 1 rfl rfl 3 (by decide) (hts (.fieldLink RX0 31 "SoldHouse$Plan" "doors" "I") (List.mem_of_getElem? (i := 3) rfl)) (fun _ h9 => h9) rfl dX0_build_20 ?_
  refine lv_icmp_ge (tgt := 88) hx hb dX0_build_23 (by decide) (fun _ => ?_) (fun c_3 => absurd (by decide) c_3)
  refine lv_aload_n hx hb dX0_build_88 rfl (lv_at hl 1 rfl) ?_
  refine va_get (D := D) (ci := 0) (v := .ref fr) (C := RX0) (T := TX0) (N := 5) hx hb hts iw_X0_build_X0 hown hK hP 0 rfl rfl 2 (by decide) (hts (.fieldLink RX0 15 "SoldHouse$Floor" "far" "[I") (List.mem_of_getElem? (i := 6) rfl)) (fun _ h9 => h9) rfl dX0_build_89 ?_
  refine lv_iconst (v := (-1)) hx hb dX0_build_92 (by decide) ?_
  have hPc := hP.sub (ws' := [(fr, .inl (cI, 64, .inl frf))]) [2] rfl
  have hDc := hD.sub (ws' := [(fr, .inl (cI, 64, .inl frf))]) [2] (by decide) rfl
  have hFc := va_free (wc := [(fr, .inl (cI, 64, .inl frf))]) hD hS hA [2] rfl
  refine va_callv (va_runS (As := [.ref fr, .int (-1)]) (rest := []) ⟨hx, hb, hml, hown, hts⟩ (c_fill64 l D cI cB cL cZ fr frf ((-1)) H.size) (va_cwS 2 hts gX0_build_J7_fill_53178 rfl rfl rfl (by decide +kernel) ⟨Nat.le_of_ble_eq_true rfl, Nat.le_of_ble_eq_true rfl⟩) ⟨xp_blind, fun U hU hW => xp_mk hU hW hPc hK hDc xNw_nil⟩ rfl rfl hl.1 rfl (lv_room (Nat.le_of_ble_eq_true rfl)) dX0_build_93 ⟨Nat.le_of_ble_eq_true rfl, Nat.le_of_ble_eq_true rfl⟩) hS (fun q _ h => hFc q h) hFc (fun u9 t9 H1 locs ht9 hvm9 hr_4 hB9 hz9 hk9 hS => ?_)
  obtain ⟨g__5, hP1, hD1⟩ := hB9
  rw [ht9] at hP1
  obtain ⟨hP, hD⟩ := va_join (wr := [(a0, .inr (0, [.ref aP, .ref fx, .ref fr, .ref fe, .int 0])), (aP, .inr (5, PF pz su)), (fx, .inl (cI, 8, .inl g__2))]) (w1 := [(fr, .inl (cI, 64, .inl g__5))]) hP hD [2] [0, 1, 3] rfl rfl (by decide) (by decide) hk9 hFc hP1 hD1
  clear hz9 hPc hDc hP1 hD1
  clear hk9 hFc ht9 hvm9
  generalize H1 = H at hP hS ⊢
  replace hP : va_P D classes [(a0, .inr (0, [.ref aP, .ref fx, .ref fr, .ref fe, .int 0])), (aP, .inr (5, PF pz su)), (fx, .inl (cI, 8, .inl g__2)), (fr, .inl (cI, 64, .inl g__5))] H := hP
  replace hD : va_D A [(a0, .inr (0, [.ref aP, .ref fx, .ref fr, .ref fe, .int 0])), (aP, .inr (5, PF pz su)), (fx, .inl (cI, 8, .inl g__2)), (fr, .inl (cI, 64, .inl g__5))] := hD
  refine lv_iconst (v := 0) hx hb dX0_build_96 (by decide) ?_
  refine lv_istore_n (lv' := [(2, .int 0), (0, .ref a0), (1, .ref aP)]) hx hb dX0_build_97 rfl hl (by decide) rfl (fun ls hl => ?_)
  refine lv_iload_n hx hb dX0_build_98 rfl (lv_at hl 0 rfl) ?_
  refine lv_aload_n hx hb dX0_build_99 rfl (lv_at hl 1 rfl) ?_
  refine va_get (D := D) (ci := 0) (v := .ref aP) (C := RX0) (T := TX0) (N := 5) hx hb hts iw_X0_build_X0 hown hK hP 0 rfl rfl 0 (by decide) (hts (.fieldLink RX0 21 "SoldHouse$Floor" "plan" "LSoldHouse$Plan;") (List.mem_of_getElem? (i := 1) rfl)) (fun _ h9 => h9) rfl dX0_build_100 ?_
  refine va_get (D := D) (ci := 5) (v := .int 0) (C := RX5) (T := TX5) (N := 16) hx hb hts iw_X0_build_X5 hown hK hP 1 rfl rfl 0 (by decide) (hts (.fieldLink RX0 43 "SoldHouse$Plan" "rooms" "I") (List.mem_of_getElem? (i := 7) rfl)) (fun _ h9 => h9) rfl dX0_build_103 ?_
  refine lv_icmp_ge (tgt := 120) hx hb dX0_build_106 (by decide) (fun _ => ?_) (fun c_6 => absurd (by decide) c_6)
  refine lv_aload_n hx hb dX0_build_120 rfl (lv_at hl 1 rfl) ?_
  refine lv_iconst (v := 0) hx hb dX0_build_121 (by decide) ?_
  refine va_put (D := D) (ci := 0) (v := .int 0) (ty := tyX0 4) (C := RX0) (T := TX0) (N := 5) hx hb hts iw_X0_build_X0 tyX0 tyX0_ok nmX0 hown hK hP hD hS 0 rfl rfl 4 (by decide) (hts (.fieldLink RX0 50 "SoldHouse$Floor" "parting" "I") (List.mem_of_getElem? (i := 8) rfl)) (fun _ h9 => h9) rfl (by decide +kernel) rfl rfl (Nat.le_of_ble_eq_true rfl) dX0_build_122 (fun H locs hP hD hS => ?_)
  replace hP : va_P D classes [(a0, .inr (0, [.ref aP, .ref fx, .ref fr, .ref fe, .int 0])), (aP, .inr (5, PF pz su)), (fx, .inl (cI, 8, .inl g__2)), (fr, .inl (cI, 64, .inl g__5))] H := hP
  replace hD : va_D A [(a0, .inr (0, [.ref aP, .ref fx, .ref fr, .ref fe, .int 0])), (aP, .inr (5, PF pz su)), (fx, .inl (cI, 8, .inl g__2)), (fr, .inl (cI, 64, .inl g__5))] := hD
  refine lv_iconst (v := 0) hx hb dX0_build_125 (by decide) ?_
  refine lv_istore_n (lv' := [(2, .int 0), (0, .ref a0), (1, .ref aP)]) hx hb dX0_build_126 rfl hl (by decide) rfl (fun ls hl => ?_)
  refine lv_iload_n hx hb dX0_build_127 rfl (lv_at hl 0 rfl) ?_
  refine lv_aload_n hx hb dX0_build_128 rfl (lv_at hl 1 rfl) ?_
  refine va_get (D := D) (ci := 0) (v := .ref aP) (C := RX0) (T := TX0) (N := 5) hx hb hts iw_X0_build_X0 hown hK hP 0 rfl rfl 0 (by decide) (hts (.fieldLink RX0 21 "SoldHouse$Floor" "plan" "LSoldHouse$Plan;") (List.mem_of_getElem? (i := 1) rfl)) (fun _ h9 => h9) rfl dX0_build_129 ?_
  refine va_get (D := D) (ci := 5) (v := .int 0) (C := RX5) (T := TX5) (N := 16) hx hb hts iw_X0_build_X5 hown hK hP 1 rfl rfl 3 (by decide) (hts (.fieldLink RX0 31 "SoldHouse$Plan" "doors" "I") (List.mem_of_getElem? (i := 3) rfl)) (fun _ h9 => h9) rfl dX0_build_132 ?_
  refine lv_icmp_ge (tgt := 188) hx hb dX0_build_135 (by decide) (fun _ => ?_) (fun c_7 => absurd (by decide) c_7)
  have hP9 := hP.sub (ws' := [(a0, .inr (0, [.ref aP, .ref fx, .ref fr, .ref fe, .int 0])), (aP, .inr (5, PF pz su)), (fx, .inl (cI, 8, .inl g__2)), (fr, .inl (cI, 64, .inl g__5))]) [0, 1, 2, 3] rfl
  have hD9 := hD.sub (ws' := [(a0, .inr (0, [.ref aP, .ref fx, .ref fr, .ref fe, .int 0])), (aP, .inr (5, PF pz su)), (fx, .inl (cI, 8, .inl g__2)), (fr, .inl (cI, 64, .inl g__5))]) [0, 1, 2, 3] (by decide) rfl
  refine W.widen (k := 0) (n := 0) (Nat.le_of_ble_eq_true rfl) (Nat.le_of_ble_eq_true rfl) ?_
  exact W.vret hx hb hr (fun t ht hW => ⟨⟨(), rfl, trivial, ⟨g__2, g__5, by rw [ht]; exact hP9, hD9⟩⟩, hS.F ht⟩) hS.2.2 dX0_build_188
set_option maxHeartbeats 4000000 in
set_option maxRecDepth 100000 in
theorem c_takeUp (l : Launch) (D : va_G) (cI : ClassId) (cB : ClassId) (cL : ClassId) (cZ : ClassId) (cG : ClassId) (a0 : Nat) (aP : Nat) (aD : Nat) (aT : Nat) (aR : Nat) (aF : Nat) (aU : Nat) (aH : Nat) (aM : Nat) (aW : Nat) (aN : Nat) (aQ : Nat) (fx : Nat) (fr : Nat) (fe : Nat) (pz : Nat → Nat) (su : Nat) (fxf : Nat → Int32) (frf : Nat → Int32) (mo : Nat) (ma : Nat) (mk : Nat) (mb : Nat) (mf : Nat) (fn : Nat → Int32) (kr : Nat → Option Nat) (r0 : Nat) (w0 : Nat → Int32) (ff : Nat → Int32) (n3 : Nat) (n4 : Nat) (n5 : Nat) (n6 : Nat) (n7 : Nat) (n8 : Nat) (n9 : Nat) (ul : Nat) (uc : Nat) (ue : Nat) (sz : Nat) (hk_kr_0 : kr 0 = some r0) : Met l yX11_takeUp wsX11_takeUp ({ frames := 3, cells := 0, slots := 0, locals := 82 }) (xp D [(cI, .int), (cB, .byte), (cL, .long), (cZ, .boolean), (cG, .array .int)] [(a0, .inr (11, [.ref aP, .ref aD, .ref aT, .ref aR, .ref aF, .ref aU, .ref aH, .ref aM, .ref aW, .ref aN])), (aF, .inr (0, [.ref aQ, .ref fx, .ref fr, .ref fe, .int 0])), (aP, .inr (5, PF pz su)), (fx, .inl (cI, 8, .inl fxf)), (fr, .inl (cI, 64, .inl frf)), (aM, .inr (3, [.ref aF, .ref mo, .ref ma, .ref mk, .int 0, .int 0, .int 0, .ref mb, .ref mf])), (mo, .inl (cI, 32, .inl fn)), (mk, .inl (cG, 41, .inr (.inr (.inr (.inr kr))))), (r0, .inl (cI, 32, .inl w0)), (mf, .inl (cZ, 3, .inl ff)), (aN, .inr (4, [.ref aF, .int 0, .int 0, .ref n3, .ref n4, .ref n5, .ref n6, .ref n7, .ref n8, .ref n9])), (aU, .inr (7, [.ref aF, .ref ul, .int 0, .ref uc, .ref ue]))] sz [] [.ref a0]) (va_Qv (fun _ : Unit => True) (fun (_ : Unit) (t : State) => ∃ (g1 : Nat → Int32), ∃ (g2 : Nat → Int32), ∃ (g3 : Nat → Int32), ∃ (g4 : Nat → Int32), ∃ (g5 : Nat → Int32), g1 30 = 0 ∧ g1 31 = 0 ∧ g3 0 = 0 ∧ g3 1 = 0 ∧ g3 2 = 0 ∧ xB D (va_A [(a0, .inr (11, [.ref aP, .ref aD, .ref aT, .ref aR, .ref aF, .ref aU, .ref aH, .ref aM, .ref aW, .ref aN])), (aF, .inr (0, [.ref aQ, .ref fx, .ref fr, .ref fe, .int 0])), (aP, .inr (5, PF pz su)), (fx, .inl (cI, 8, .inl fxf)), (fr, .inl (cI, 64, .inl frf)), (aM, .inr (3, [.ref aF, .ref mo, .ref ma, .ref mk, .int 0, .int 0, .int 0, .ref mb, .ref mf])), (mo, .inl (cI, 32, .inl fn)), (mk, .inl (cG, 41, .inr (.inr (.inr (.inr kr))))), (r0, .inl (cI, 32, .inl w0)), (mf, .inl (cZ, 3, .inl ff)), (aN, .inr (4, [.ref aF, .int 0, .int 0, .ref n3, .ref n4, .ref n5, .ref n6, .ref n7, .ref n8, .ref n9])), (aU, .inr (7, [.ref aF, .ref ul, .int 0, .ref uc, .ref ue]))] sz) [(a0, .inr (11, [.ref aP, .ref aD, .ref aT, .ref aR, .ref aF, .ref aU, .ref aH, .ref aM, .ref aW, .ref aN])), (aF, .inr (0, [.ref aP, .ref fx, .ref fr, .ref fe, .int 0])), (aP, .inr (5, PF pz su)), (fx, .inl (cI, 8, .inl g4)), (fr, .inl (cI, 64, .inl g5)), (aM, .inr (3, [.ref aF, .ref mo, .ref ma, .ref mk, .int 0, .int 0, .int 0, .ref mb, .ref mf])), (mo, .inl (cI, 32, .inl g1)), (mk, .inl (cG, 41, .inr (.inr (.inr (.inr kr))))), (r0, .inl (cI, 32, .inl g2)), (mf, .inl (cZ, 3, .inl g3)), (aN, .inr (4, [.ref aF, .int 0, .int 0, .ref n3, .ref n4, .ref n5, .ref n6, .ref n7, .ref n8, .ref n9])), (aU, .inr (7, [.ref aF, .ref ul, .int 0, .ref uc, .ref ue]))] t) (va_A [(a0, .inr (11, [.ref aP, .ref aD, .ref aT, .ref aR, .ref aF, .ref aU, .ref aH, .ref aM, .ref aW, .ref aN])), (aF, .inr (0, [.ref aQ, .ref fx, .ref fr, .ref fe, .int 0])), (aP, .inr (5, PF pz su)), (fx, .inl (cI, 8, .inl fxf)), (fr, .inl (cI, 64, .inl frf)), (aM, .inr (3, [.ref aF, .ref mo, .ref ma, .ref mk, .int 0, .int 0, .int 0, .ref mb, .ref mf])), (mo, .inl (cI, 32, .inl fn)), (mk, .inl (cG, 41, .inr (.inr (.inr (.inr kr))))), (r0, .inl (cI, 32, .inl w0)), (mf, .inl (cZ, 3, .inl ff)), (aN, .inr (4, [.ref aF, .int 0, .int 0, .ref n3, .ref n4, .ref n5, .ref n6, .ref n7, .ref n8, .ref n9])), (aU, .inr (7, [.ref aF, .ref ul, .int 0, .ref uc, .ref ue]))] sz)) 0 0 (va_A [(a0, .inr (11, [.ref aP, .ref aD, .ref aT, .ref aR, .ref aF, .ref aU, .ref aH, .ref aM, .ref aW, .ref aN])), (aF, .inr (0, [.ref aQ, .ref fx, .ref fr, .ref fe, .int 0])), (aP, .inr (5, PF pz su)), (fx, .inl (cI, 8, .inl fxf)), (fr, .inl (cI, 64, .inl frf)), (aM, .inr (3, [.ref aF, .ref mo, .ref ma, .ref mk, .int 0, .int 0, .int 0, .ref mb, .ref mf])), (mo, .inl (cI, 32, .inl fn)), (mk, .inl (cG, 41, .inr (.inr (.inr (.inr kr))))), (r0, .inl (cI, 32, .inl w0)), (mf, .inl (cZ, 3, .inl ff)), (aN, .inr (4, [.ref aF, .int 0, .int 0, .ref n3, .ref n4, .ref n5, .ref n6, .ref n7, .ref n8, .ref n9])), (aU, .inr (7, [.ref aF, .ref ul, .int 0, .ref uc, .ref ue]))] sz) := by
  refine Met.ofW (cc := cX11_takeUp) (maxL := 1) (ret := none) (by decide) rfl ?_
  intro p e s m args below meth c s₁ B hml hv
  obtain ⟨rfl, hsz, hP, hK, hD0, hNw⟩ := hv
  have hx := B.exec
  have hb := B.bytes
  have hr := B.returns
  have hts := atoms_spec (ws := wsX11_takeUp) B.pre
  have hown : s.vm.findClass RX11 = some m.cls := findClass_of_methodNamed B.named
  have hlocks := B.notSynchronized
  subst hsz
  have hD := hD0.self (sz := s.heap.size)
  clear hD0
  generalize hAe : va_A [(a0, .inr (11, [.ref aP, .ref aD, .ref aT, .ref aR, .ref aF, .ref aU, .ref aH, .ref aM, .ref aW, .ref aN])), (aF, .inr (0, [.ref aQ, .ref fx, .ref fr, .ref fe, .int 0])), (aP, .inr (5, PF pz su)), (fx, .inl (cI, 8, .inl fxf)), (fr, .inl (cI, 64, .inl frf)), (aM, .inr (3, [.ref aF, .ref mo, .ref ma, .ref mk, .int 0, .int 0, .int 0, .ref mb, .ref mf])), (mo, .inl (cI, 32, .inl fn)), (mk, .inl (cG, 41, .inr (.inr (.inr (.inr kr))))), (r0, .inl (cI, 32, .inl w0)), (mf, .inl (cZ, 3, .inl ff)), (aN, .inr (4, [.ref aF, .int 0, .int 0, .ref n3, .ref n4, .ref n5, .ref n6, .ref n7, .ref n8, .ref n9])), (aU, .inr (7, [.ref aF, .ref ul, .int 0, .ref uc, .ref ue]))] s.heap.size = A at hD ⊢
  have hA : ∀ q : Nat, s.heap.size ≤ q → A q := fun q h => by rw [← hAe]; exact Or.inr h
  have hS : va_S A s.heap s.heap [] := va_S.rf
  clear hAe
  obtain ⟨H, hH⟩ : ∃ H : Heap, H = s.heap := ⟨_, rfl⟩
  obtain ⟨locs, hlocs⟩ : ∃ L : List Loc, L = [] := ⟨_, rfl⟩
  replace hP : va_P D classes [(a0, .inr (11, [.ref aP, .ref aD, .ref aT, .ref aR, .ref aF, .ref aU, .ref aH, .ref aM, .ref aW, .ref aN])), (aF, .inr (0, [.ref aQ, .ref fx, .ref fr, .ref fe, .int 0])), (aP, .inr (5, PF pz su)), (fx, .inl (cI, 8, .inl fxf)), (fr, .inl (cI, 64, .inl frf)), (aM, .inr (3, [.ref aF, .ref mo, .ref ma, .ref mk, .int 0, .int 0, .int 0, .ref mb, .ref mf])), (mo, .inl (cI, 32, .inl fn)), (mk, .inl (cG, 41, .inr (.inr (.inr (.inr kr))))), (r0, .inl (cI, 32, .inl w0)), (mf, .inl (cZ, 3, .inl ff)), (aN, .inr (4, [.ref aF, .int 0, .int 0, .ref n3, .ref n4, .ref n5, .ref n6, .ref n7, .ref n8, .ref n9])), (aU, .inr (7, [.ref aF, .ref ul, .int 0, .ref uc, .ref ue]))] H := by rw [hH]; exact hP
  replace hS : va_S A s.heap H locs := by rw [hH, hlocs]; exact hS
  rw [← hH, ← hlocs]
  clear hlocs hH
  have hl := lv_entry ([.ref a0]) (n := 1) (Nat.le_of_ble_eq_true rfl)
  rw [lg_entry_eq]
  generalize (lg_sl ([.ref a0]) ++ List.replicate (1 - (lg_sl ([.ref a0])).length) Slot.unset).toArray = ls at hl ⊢
  replace hl : lv_has ls 1 [(0, .ref a0)] := hl
  refine lv_aload_n hx hb dX11_takeUp_0 rfl (lv_at hl 0 rfl) ?_
  refine va_get (D := D) (ci := 11) (v := .ref aF) (C := RX11) (T := TX11) (N := 10) hx hb hts iw_X11_takeUp_X11 hown hK hP 0 rfl rfl 4 (by decide) (hts (.fieldLink RX11 40 "SoldHouse" "floor" "LSoldHouse$Floor;") (List.mem_of_getElem? (i := 1) rfl)) (fun _ h9 => h9) rfl dX11_takeUp_1 ?_
  refine lv_aload_n hx hb dX11_takeUp_4 rfl (lv_at hl 0 rfl) ?_
  refine va_get (D := D) (ci := 11) (v := .ref aP) (C := RX11) (T := TX11) (N := 10) hx hb hts iw_X11_takeUp_X11 hown hK hP 0 rfl rfl 0 (by decide) (hts (.fieldLink RX11 10 "SoldHouse" "plan" "LSoldHouse$Plan;") (List.mem_of_getElem? (i := 2) rfl)) (fun _ h9 => h9) rfl dX11_takeUp_5 ?_
  have hPc := hP.sub (ws' := [(aF, .inr (0, [.ref aQ, .ref fx, .ref fr, .ref fe, .int 0])), (aP, .inr (5, PF pz su)), (fx, .inl (cI, 8, .inl fxf)), (fr, .inl (cI, 64, .inl frf))]) [1, 2, 3, 4] rfl
  have hDc := hD.sub (ws' := [(aF, .inr (0, [.ref aQ, .ref fx, .ref fr, .ref fe, .int 0])), (aP, .inr (5, PF pz su)), (fx, .inl (cI, 8, .inl fxf)), (fr, .inl (cI, 64, .inl frf))]) [1, 2, 3, 4] (by decide) rfl
  have hFc := va_free (wc := [(aF, .inr (0, [.ref aQ, .ref fx, .ref fr, .ref fe, .int 0])), (aP, .inr (5, PF pz su)), (fx, .inl (cI, 8, .inl fxf)), (fr, .inl (cI, 64, .inl frf))]) hD hS hA [1, 2, 3, 4] rfl
  refine va_callv (va_runV (As := [.ref aP]) (rest := []) ⟨hx, hb, hml, hown, hts⟩ (c_build l D cI cB cL cZ aF aP aQ fx fr fe pz su fxf frf H.size) (cwV 1 hts gX11_takeUp_X0_build rfl rfl rfl (by decide +kernel) ⟨Nat.le_of_ble_eq_true rfl, Nat.le_of_ble_eq_true rfl⟩) ⟨xp_blind, va_recv hK hPc (ci := 0) (q0 := 0) rfl rfl, fun U hU hW => xp_mk hU hW hPc (hK.sub (tys' := [(cI, .int), (cB, .byte), (cL, .long), (cZ, .boolean)]) [0, 1, 2, 3] rfl) hDc xNw_nil⟩ rfl rfl hl.1 rfl (lv_room (Nat.le_of_ble_eq_true rfl)) dX11_takeUp_8 ⟨Nat.le_of_ble_eq_true rfl, Nat.le_of_ble_eq_true rfl⟩) hS (fun q _ h => hFc q h) hFc (fun u9 t9 H1 locs ht9 hvm9 hr_1 hB9 hz9 hk9 hS => ?_)
  obtain ⟨g1__2, g2__3, hP1, hD1⟩ := hB9
  rw [ht9] at hP1
  obtain ⟨hP, hD⟩ := va_join (wr := [(a0, .inr (11, [.ref aP, .ref aD, .ref aT, .ref aR, .ref aF, .ref aU, .ref aH, .ref aM, .ref aW, .ref aN])), (aM, .inr (3, [.ref aF, .ref mo, .ref ma, .ref mk, .int 0, .int 0, .int 0, .ref mb, .ref mf])), (mo, .inl (cI, 32, .inl fn)), (mk, .inl (cG, 41, .inr (.inr (.inr (.inr kr))))), (r0, .inl (cI, 32, .inl w0)), (mf, .inl (cZ, 3, .inl ff)), (aN, .inr (4, [.ref aF, .int 0, .int 0, .ref n3, .ref n4, .ref n5, .ref n6, .ref n7, .ref n8, .ref n9])), (aU, .inr (7, [.ref aF, .ref ul, .int 0, .ref uc, .ref ue]))]) (w1 := [(aF, .inr (0, [.ref aP, .ref fx, .ref fr, .ref fe, .int 0])), (aP, .inr (5, PF pz su)), (fx, .inl (cI, 8, .inl g1__2)), (fr, .inl (cI, 64, .inl g2__3))]) hP hD [1, 2, 3, 4] [0, 5, 6, 7, 8, 9, 10, 11] rfl rfl (by decide) (by decide) hk9 hFc hP1 hD1
  clear hz9 hPc hDc hP1 hD1
  clear hk9 hFc ht9 hvm9
  generalize H1 = H at hP hS ⊢
  replace hP : va_P D classes [(a0, .inr (11, [.ref aP, .ref aD, .ref aT, .ref aR, .ref aF, .ref aU, .ref aH, .ref aM, .ref aW, .ref aN])), (aM, .inr (3, [.ref aF, .ref mo, .ref ma, .ref mk, .int 0, .int 0, .int 0, .ref mb, .ref mf])), (mo, .inl (cI, 32, .inl fn)), (mk, .inl (cG, 41, .inr (.inr (.inr (.inr kr))))), (r0, .inl (cI, 32, .inl w0)), (mf, .inl (cZ, 3, .inl ff)), (aN, .inr (4, [.ref aF, .int 0, .int 0, .ref n3, .ref n4, .ref n5, .ref n6, .ref n7, .ref n8, .ref n9])), (aU, .inr (7, [.ref aF, .ref ul, .int 0, .ref uc, .ref ue])), (aF, .inr (0, [.ref aP, .ref fx, .ref fr, .ref fe, .int 0])), (aP, .inr (5, PF pz su)), (fx, .inl (cI, 8, .inl g1__2)), (fr, .inl (cI, 64, .inl g2__3))] H := hP
  replace hD : va_D A [(a0, .inr (11, [.ref aP, .ref aD, .ref aT, .ref aR, .ref aF, .ref aU, .ref aH, .ref aM, .ref aW, .ref aN])), (aM, .inr (3, [.ref aF, .ref mo, .ref ma, .ref mk, .int 0, .int 0, .int 0, .ref mb, .ref mf])), (mo, .inl (cI, 32, .inl fn)), (mk, .inl (cG, 41, .inr (.inr (.inr (.inr kr))))), (r0, .inl (cI, 32, .inl w0)), (mf, .inl (cZ, 3, .inl ff)), (aN, .inr (4, [.ref aF, .int 0, .int 0, .ref n3, .ref n4, .ref n5, .ref n6, .ref n7, .ref n8, .ref n9])), (aU, .inr (7, [.ref aF, .ref ul, .int 0, .ref uc, .ref ue])), (aF, .inr (0, [.ref aP, .ref fx, .ref fr, .ref fe, .int 0])), (aP, .inr (5, PF pz su)), (fx, .inl (cI, 8, .inl g1__2)), (fr, .inl (cI, 64, .inl g2__3))] := hD
  refine lv_aload_n hx hb dX11_takeUp_11 rfl (lv_at hl 0 rfl) ?_
  refine va_get (D := D) (ci := 11) (v := .ref aM) (C := RX11) (T := TX11) (N := 10) hx hb hts iw_X11_takeUp_X11 hown hK hP 0 rfl rfl 7 (by decide) (hts (.fieldLink RX11 63 "SoldHouse" "memory" "LSoldHouse$Memory;") (List.mem_of_getElem? (i := 3) rfl)) (fun _ h9 => h9) rfl dX11_takeUp_12 ?_
  have hPc := hP.sub (ws' := [(aM, .inr (3, [.ref aF, .ref mo, .ref ma, .ref mk, .int 0, .int 0, .int 0, .ref mb, .ref mf])), (mo, .inl (cI, 32, .inl fn)), (mk, .inl (cG, 41, .inr (.inr (.inr (.inr kr))))), (r0, .inl (cI, 32, .inl w0)), (mf, .inl (cZ, 3, .inl ff)), (aF, .inr (0, [.ref aP, .ref fx, .ref fr, .ref fe, .int 0])), (aP, .inr (5, PF pz su))]) [1, 2, 3, 4, 5, 8, 9] rfl
  have hDc := hD.sub (ws' := [(aM, .inr (3, [.ref aF, .ref mo, .ref ma, .ref mk, .int 0, .int 0, .int 0, .ref mb, .ref mf])), (mo, .inl (cI, 32, .inl fn)), (mk, .inl (cG, 41, .inr (.inr (.inr (.inr kr))))), (r0, .inl (cI, 32, .inl w0)), (mf, .inl (cZ, 3, .inl ff)), (aF, .inr (0, [.ref aP, .ref fx, .ref fr, .ref fe, .int 0])), (aP, .inr (5, PF pz su))]) [1, 2, 3, 4, 5, 8, 9] (by decide) rfl
  have hFc := va_free (wc := [(aM, .inr (3, [.ref aF, .ref mo, .ref ma, .ref mk, .int 0, .int 0, .int 0, .ref mb, .ref mf])), (mo, .inl (cI, 32, .inl fn)), (mk, .inl (cG, 41, .inr (.inr (.inr (.inr kr))))), (r0, .inl (cI, 32, .inl w0)), (mf, .inl (cZ, 3, .inl ff)), (aF, .inr (0, [.ref aP, .ref fx, .ref fr, .ref fe, .int 0])), (aP, .inr (5, PF pz su))]) hD hS hA [1, 2, 3, 4, 5, 8, 9] rfl
  refine va_callv (va_runV (As := []) (rest := []) ⟨hx, hb, hml, hown, hts⟩ (c_begin l D cI cB cL cZ cG aM aF aP mo ma mk mb mf fn kr r0 w0 ff fx fr fe pz su H.size hk_kr_0) (cwV 0 hts gX11_takeUp_X3_begin rfl rfl rfl (by decide +kernel) ⟨Nat.le_of_ble_eq_true rfl, Nat.le_of_ble_eq_true rfl⟩) ⟨xp_blind, va_recv hK hPc (ci := 3) (q0 := 0) rfl rfl, fun U hU hW => xp_mk hU hW hPc hK hDc xNw_nil⟩ rfl rfl hl.1 rfl (lv_room (Nat.le_of_ble_eq_true rfl)) dX11_takeUp_15 ⟨Nat.le_of_ble_eq_true rfl, Nat.le_of_ble_eq_true rfl⟩) hS (fun q _ h => hFc q h) hFc (fun u9 t9 H1 locs ht9 hvm9 hr_4 hB9 hz9 hk9 hS => ?_)
  obtain ⟨g1__5, g2__6, g3__7, g1__5_30, g1__5_31, g3__7_0, g3__7_1, g3__7_2, hP1, hD1⟩ := hB9
  rw [ht9] at hP1
  obtain ⟨hP, hD⟩ := va_join (wr := [(a0, .inr (11, [.ref aP, .ref aD, .ref aT, .ref aR, .ref aF, .ref aU, .ref aH, .ref aM, .ref aW, .ref aN])), (aN, .inr (4, [.ref aF, .int 0, .int 0, .ref n3, .ref n4, .ref n5, .ref n6, .ref n7, .ref n8, .ref n9])), (aU, .inr (7, [.ref aF, .ref ul, .int 0, .ref uc, .ref ue])), (fx, .inl (cI, 8, .inl g1__2)), (fr, .inl (cI, 64, .inl g2__3))]) (w1 := [(aM, .inr (3, [.ref aF, .ref mo, .ref ma, .ref mk, .int 0, .int 0, .int 0, .ref mb, .ref mf])), (mo, .inl (cI, 32, .inl g1__5)), (mk, .inl (cG, 41, .inr (.inr (.inr (.inr kr))))), (r0, .inl (cI, 32, .inl g2__6)), (mf, .inl (cZ, 3, .inl g3__7)), (aF, .inr (0, [.ref aP, .ref fx, .ref fr, .ref fe, .int 0])), (aP, .inr (5, PF pz su))]) hP hD [1, 2, 3, 4, 5, 8, 9] [0, 6, 7, 10, 11] rfl rfl (by decide) (by decide) hk9 hFc hP1 hD1
  clear hz9 hPc hDc hP1 hD1
  clear hk9 hFc ht9 hvm9
  generalize H1 = H at hP hS ⊢
  replace hP : va_P D classes [(a0, .inr (11, [.ref aP, .ref aD, .ref aT, .ref aR, .ref aF, .ref aU, .ref aH, .ref aM, .ref aW, .ref aN])), (aN, .inr (4, [.ref aF, .int 0, .int 0, .ref n3, .ref n4, .ref n5, .ref n6, .ref n7, .ref n8, .ref n9])), (aU, .inr (7, [.ref aF, .ref ul, .int 0, .ref uc, .ref ue])), (fx, .inl (cI, 8, .inl g1__2)), (fr, .inl (cI, 64, .inl g2__3)), (aM, .inr (3, [.ref aF, .ref mo, .ref ma, .ref mk, .int 0, .int 0, .int 0, .ref mb, .ref mf])), (mo, .inl (cI, 32, .inl g1__5)), (mk, .inl (cG, 41, .inr (.inr (.inr (.inr kr))))), (r0, .inl (cI, 32, .inl g2__6)), (mf, .inl (cZ, 3, .inl g3__7)), (aF, .inr (0, [.ref aP, .ref fx, .ref fr, .ref fe, .int 0])), (aP, .inr (5, PF pz su))] H := hP
  replace hD : va_D A [(a0, .inr (11, [.ref aP, .ref aD, .ref aT, .ref aR, .ref aF, .ref aU, .ref aH, .ref aM, .ref aW, .ref aN])), (aN, .inr (4, [.ref aF, .int 0, .int 0, .ref n3, .ref n4, .ref n5, .ref n6, .ref n7, .ref n8, .ref n9])), (aU, .inr (7, [.ref aF, .ref ul, .int 0, .ref uc, .ref ue])), (fx, .inl (cI, 8, .inl g1__2)), (fr, .inl (cI, 64, .inl g2__3)), (aM, .inr (3, [.ref aF, .ref mo, .ref ma, .ref mk, .int 0, .int 0, .int 0, .ref mb, .ref mf])), (mo, .inl (cI, 32, .inl g1__5)), (mk, .inl (cG, 41, .inr (.inr (.inr (.inr kr))))), (r0, .inl (cI, 32, .inl g2__6)), (mf, .inl (cZ, 3, .inl g3__7)), (aF, .inr (0, [.ref aP, .ref fx, .ref fr, .ref fe, .int 0])), (aP, .inr (5, PF pz su))] := hD
  refine lv_aload_n hx hb dX11_takeUp_18 rfl (lv_at hl 0 rfl) ?_
  refine va_get (D := D) (ci := 11) (v := .ref aN) (C := RX11) (T := TX11) (N := 10) hx hb hts iw_X11_takeUp_X11 hown hK hP 0 rfl rfl 9 (by decide) (hts (.fieldLink RX11 79 "SoldHouse" "night" "LSoldHouse$Night;") (List.mem_of_getElem? (i := 4) rfl)) (fun _ h9 => h9) rfl dX11_takeUp_19 ?_
  refine lv_iconst (v := 0) hx hb dX11_takeUp_22 (by decide) ?_
  refine va_put (D := D) (ci := 4) (v := .int 0) (ty := tyX4 1) (C := RX4) (T := TX4) (N := 10) hx hb hts iw_X11_takeUp_X4 tyX4 tyX4_ok nmX4 hown hK hP hD hS 1 rfl rfl 1 (by decide) (hts (.fieldLink RX11 318 "SoldHouse$Night" "count" "I") (List.mem_of_getElem? (i := 5) rfl)) (fun _ h9 => h9) rfl (by decide +kernel) rfl rfl (Nat.le_of_ble_eq_true rfl) dX11_takeUp_23 (fun H locs hP hD hS => ?_)
  replace hP : va_P D classes [(a0, .inr (11, [.ref aP, .ref aD, .ref aT, .ref aR, .ref aF, .ref aU, .ref aH, .ref aM, .ref aW, .ref aN])), (aN, .inr (4, [.ref aF, .int 0, .int 0, .ref n3, .ref n4, .ref n5, .ref n6, .ref n7, .ref n8, .ref n9])), (aU, .inr (7, [.ref aF, .ref ul, .int 0, .ref uc, .ref ue])), (fx, .inl (cI, 8, .inl g1__2)), (fr, .inl (cI, 64, .inl g2__3)), (aM, .inr (3, [.ref aF, .ref mo, .ref ma, .ref mk, .int 0, .int 0, .int 0, .ref mb, .ref mf])), (mo, .inl (cI, 32, .inl g1__5)), (mk, .inl (cG, 41, .inr (.inr (.inr (.inr kr))))), (r0, .inl (cI, 32, .inl g2__6)), (mf, .inl (cZ, 3, .inl g3__7)), (aF, .inr (0, [.ref aP, .ref fx, .ref fr, .ref fe, .int 0])), (aP, .inr (5, PF pz su))] H := hP
  replace hD : va_D A [(a0, .inr (11, [.ref aP, .ref aD, .ref aT, .ref aR, .ref aF, .ref aU, .ref aH, .ref aM, .ref aW, .ref aN])), (aN, .inr (4, [.ref aF, .int 0, .int 0, .ref n3, .ref n4, .ref n5, .ref n6, .ref n7, .ref n8, .ref n9])), (aU, .inr (7, [.ref aF, .ref ul, .int 0, .ref uc, .ref ue])), (fx, .inl (cI, 8, .inl g1__2)), (fr, .inl (cI, 64, .inl g2__3)), (aM, .inr (3, [.ref aF, .ref mo, .ref ma, .ref mk, .int 0, .int 0, .int 0, .ref mb, .ref mf])), (mo, .inl (cI, 32, .inl g1__5)), (mk, .inl (cG, 41, .inr (.inr (.inr (.inr kr))))), (r0, .inl (cI, 32, .inl g2__6)), (mf, .inl (cZ, 3, .inl g3__7)), (aF, .inr (0, [.ref aP, .ref fx, .ref fr, .ref fe, .int 0])), (aP, .inr (5, PF pz su))] := hD
  refine lv_aload_n hx hb dX11_takeUp_26 rfl (lv_at hl 0 rfl) ?_
  refine va_get (D := D) (ci := 11) (v := .ref aU) (C := RX11) (T := TX11) (N := 10) hx hb hts iw_X11_takeUp_X11 hown hK hP 0 rfl rfl 5 (by decide) (hts (.fieldLink RX11 49 "SoldHouse" "routes" "LSoldHouse$Routes;") (List.mem_of_getElem? (i := 6) rfl)) (fun _ h9 => h9) rfl dX11_takeUp_27 ?_
  refine lv_iconst (v := 0) hx hb dX11_takeUp_30 (by decide) ?_
  refine va_put (D := D) (ci := 7) (v := .int 0) (ty := tyX7 2) (C := RX7) (T := TX7) (N := 5) hx hb hts iw_X11_takeUp_X7 tyX7 tyX7_ok nmX7 hown hK hP hD hS 2 rfl rfl 2 (by decide) (hts (.fieldLink RX11 187 "SoldHouse$Routes" "lying" "I") (List.mem_of_getElem? (i := 7) rfl)) (fun _ h9 => h9) rfl (by decide +kernel) rfl rfl (Nat.le_of_ble_eq_true rfl) dX11_takeUp_31 (fun H locs hP hD hS => ?_)
  replace hP : va_P D classes [(a0, .inr (11, [.ref aP, .ref aD, .ref aT, .ref aR, .ref aF, .ref aU, .ref aH, .ref aM, .ref aW, .ref aN])), (aN, .inr (4, [.ref aF, .int 0, .int 0, .ref n3, .ref n4, .ref n5, .ref n6, .ref n7, .ref n8, .ref n9])), (aU, .inr (7, [.ref aF, .ref ul, .int 0, .ref uc, .ref ue])), (fx, .inl (cI, 8, .inl g1__2)), (fr, .inl (cI, 64, .inl g2__3)), (aM, .inr (3, [.ref aF, .ref mo, .ref ma, .ref mk, .int 0, .int 0, .int 0, .ref mb, .ref mf])), (mo, .inl (cI, 32, .inl g1__5)), (mk, .inl (cG, 41, .inr (.inr (.inr (.inr kr))))), (r0, .inl (cI, 32, .inl g2__6)), (mf, .inl (cZ, 3, .inl g3__7)), (aF, .inr (0, [.ref aP, .ref fx, .ref fr, .ref fe, .int 0])), (aP, .inr (5, PF pz su))] H := hP
  replace hD : va_D A [(a0, .inr (11, [.ref aP, .ref aD, .ref aT, .ref aR, .ref aF, .ref aU, .ref aH, .ref aM, .ref aW, .ref aN])), (aN, .inr (4, [.ref aF, .int 0, .int 0, .ref n3, .ref n4, .ref n5, .ref n6, .ref n7, .ref n8, .ref n9])), (aU, .inr (7, [.ref aF, .ref ul, .int 0, .ref uc, .ref ue])), (fx, .inl (cI, 8, .inl g1__2)), (fr, .inl (cI, 64, .inl g2__3)), (aM, .inr (3, [.ref aF, .ref mo, .ref ma, .ref mk, .int 0, .int 0, .int 0, .ref mb, .ref mf])), (mo, .inl (cI, 32, .inl g1__5)), (mk, .inl (cG, 41, .inr (.inr (.inr (.inr kr))))), (r0, .inl (cI, 32, .inl g2__6)), (mf, .inl (cZ, 3, .inl g3__7)), (aF, .inr (0, [.ref aP, .ref fx, .ref fr, .ref fe, .int 0])), (aP, .inr (5, PF pz su))] := hD
  have hP9 := hP.sub (ws' := [(a0, .inr (11, [.ref aP, .ref aD, .ref aT, .ref aR, .ref aF, .ref aU, .ref aH, .ref aM, .ref aW, .ref aN])), (aF, .inr (0, [.ref aP, .ref fx, .ref fr, .ref fe, .int 0])), (aP, .inr (5, PF pz su)), (fx, .inl (cI, 8, .inl g1__2)), (fr, .inl (cI, 64, .inl g2__3)), (aM, .inr (3, [.ref aF, .ref mo, .ref ma, .ref mk, .int 0, .int 0, .int 0, .ref mb, .ref mf])), (mo, .inl (cI, 32, .inl g1__5)), (mk, .inl (cG, 41, .inr (.inr (.inr (.inr kr))))), (r0, .inl (cI, 32, .inl g2__6)), (mf, .inl (cZ, 3, .inl g3__7)), (aN, .inr (4, [.ref aF, .int 0, .int 0, .ref n3, .ref n4, .ref n5, .ref n6, .ref n7, .ref n8, .ref n9])), (aU, .inr (7, [.ref aF, .ref ul, .int 0, .ref uc, .ref ue]))]) [0, 10, 11, 3, 4, 5, 6, 7, 8, 9, 1, 2] rfl
  have hD9 := hD.sub (ws' := [(a0, .inr (11, [.ref aP, .ref aD, .ref aT, .ref aR, .ref aF, .ref aU, .ref aH, .ref aM, .ref aW, .ref aN])), (aF, .inr (0, [.ref aP, .ref fx, .ref fr, .ref fe, .int 0])), (aP, .inr (5, PF pz su)), (fx, .inl (cI, 8, .inl g1__2)), (fr, .inl (cI, 64, .inl g2__3)), (aM, .inr (3, [.ref aF, .ref mo, .ref ma, .ref mk, .int 0, .int 0, .int 0, .ref mb, .ref mf])), (mo, .inl (cI, 32, .inl g1__5)), (mk, .inl (cG, 41, .inr (.inr (.inr (.inr kr))))), (r0, .inl (cI, 32, .inl g2__6)), (mf, .inl (cZ, 3, .inl g3__7)), (aN, .inr (4, [.ref aF, .int 0, .int 0, .ref n3, .ref n4, .ref n5, .ref n6, .ref n7, .ref n8, .ref n9])), (aU, .inr (7, [.ref aF, .ref ul, .int 0, .ref uc, .ref ue]))]) [0, 10, 11, 3, 4, 5, 6, 7, 8, 9, 1, 2] (by decide) rfl
  refine W.widen (k := 0) (n := 0) (Nat.le_of_ble_eq_true rfl) (Nat.le_of_ble_eq_true rfl) ?_
  exact W.vret hx hb hr (fun t ht hW => ⟨⟨(), rfl, trivial, ⟨g1__5, g2__6, g3__7, g1__2, g2__3, g1__5_30, g1__5_31, g3__7_0, g3__7_1, g3__7_2, by rw [ht]; exact hP9, hD9⟩⟩, hS.F ht⟩) hS.2.2 dX11_takeUp_34
set_option maxHeartbeats 4000000 in
set_option maxRecDepth 100000 in
theorem c_keepAct (l : Launch) (D : va_G) (cI : ClassId) (cB : ClassId) (cL : ClassId) (cZ : ClassId) (cG : ClassId) (a0 : Nat) (aF : Nat) (mo : Nat) (ma : Nat) (mk : Nat) (mb : Nat) (mf : Nat) (fn : Nat → Int32) (kr : Nat → Option Nat) (r1 : Nat) (w1 : Nat → Int32) (sz : Nat) (hk_kr_1 : kr 1 = some r1) : Met l yX3_keepAct wsX3_keepAct ({ frames := 1, cells := 0, slots := 0, locals := 40 }) (xp D [(cI, .int), (cB, .byte), (cL, .long), (cZ, .boolean), (cG, .array .int)] [(a0, .inr (3, [.ref aF, .ref mo, .ref ma, .ref mk, .int 0, .int 0, .int 0, .ref mb, .ref mf])), (mo, .inl (cI, 32, .inl fn)), (mk, .inl (cG, 41, .inr (.inr (.inr (.inr kr))))), (r1, .inl (cI, 32, .inl w1))] sz [] [.ref a0]) (va_Qv (fun _ : Unit => True) (fun (_ : Unit) (_ : State) => True) (va_A [(a0, .inr (3, [.ref aF, .ref mo, .ref ma, .ref mk, .int 0, .int 0, .int 0, .ref mb, .ref mf])), (mo, .inl (cI, 32, .inl fn)), (mk, .inl (cG, 41, .inr (.inr (.inr (.inr kr))))), (r1, .inl (cI, 32, .inl w1))] sz)) 0 0 (va_A [(a0, .inr (3, [.ref aF, .ref mo, .ref ma, .ref mk, .int 0, .int 0, .int 0, .ref mb, .ref mf])), (mo, .inl (cI, 32, .inl fn)), (mk, .inl (cG, 41, .inr (.inr (.inr (.inr kr))))), (r1, .inl (cI, 32, .inl w1))] sz) := by
  refine Met.ofW (cc := cX3_keepAct) (maxL := 1) (ret := none) (by decide) rfl ?_
  intro p e s m args below meth c s₁ B hml hv
  obtain ⟨rfl, hsz, hP, hK, hD0, hNw⟩ := hv
  have hx := B.exec
  have hb := B.bytes
  have hr := B.returns
  have hts := atoms_spec (ws := wsX3_keepAct) B.pre
  have hown : s.vm.findClass RX3 = some m.cls := findClass_of_methodNamed B.named
  have hlocks := B.notSynchronized
  subst hsz
  have hD := hD0.self (sz := s.heap.size)
  clear hD0
  generalize hAe : va_A [(a0, .inr (3, [.ref aF, .ref mo, .ref ma, .ref mk, .int 0, .int 0, .int 0, .ref mb, .ref mf])), (mo, .inl (cI, 32, .inl fn)), (mk, .inl (cG, 41, .inr (.inr (.inr (.inr kr))))), (r1, .inl (cI, 32, .inl w1))] s.heap.size = A at hD ⊢
  have hA : ∀ q : Nat, s.heap.size ≤ q → A q := fun q h => by rw [← hAe]; exact Or.inr h
  have hS : va_S A s.heap s.heap [] := va_S.rf
  clear hAe
  obtain ⟨H, hH⟩ : ∃ H : Heap, H = s.heap := ⟨_, rfl⟩
  obtain ⟨locs, hlocs⟩ : ∃ L : List Loc, L = [] := ⟨_, rfl⟩
  replace hP : va_P D classes [(a0, .inr (3, [.ref aF, .ref mo, .ref ma, .ref mk, .int 0, .int 0, .int 0, .ref mb, .ref mf])), (mo, .inl (cI, 32, .inl fn)), (mk, .inl (cG, 41, .inr (.inr (.inr (.inr kr))))), (r1, .inl (cI, 32, .inl w1))] H := by rw [hH]; exact hP
  replace hS : va_S A s.heap H locs := by rw [hH, hlocs]; exact hS
  rw [← hH, ← hlocs]
  clear hlocs hH
  have hl := lv_entry ([.ref a0]) (n := 1) (Nat.le_of_ble_eq_true rfl)
  rw [lg_entry_eq]
  generalize (lg_sl ([.ref a0]) ++ List.replicate (1 - (lg_sl ([.ref a0])).length) Slot.unset).toArray = ls at hl ⊢
  replace hl : lv_has ls 1 [(0, .ref a0)] := hl
  refine lv_aload_n hx hb dX3_keepAct_0 rfl (lv_at hl 0 rfl) ?_
  refine lv_iconst (v := 0) hx hb dX3_keepAct_1 (by decide) ?_
  refine va_put (D := D) (ci := 3) (v := .int 0) (ty := tyX3 6) (C := RX3) (T := TX3) (N := 9) hx hb hts iw_X3_keepAct_X3 tyX3 tyX3_ok nmX3 hown hK hP hD hS 0 rfl rfl 6 (by decide) (hts (.fieldLink RX3 128 "SoldHouse$Memory" "undone" "I") (List.mem_of_getElem? (i := 1) rfl)) (fun _ h9 => h9) rfl (by decide +kernel) rfl rfl (Nat.le_of_ble_eq_true rfl) dX3_keepAct_2 (fun H locs hP hD hS => ?_)
  replace hP : va_P D classes [(a0, .inr (3, [.ref aF, .ref mo, .ref ma, .ref mk, .int 0, .int 0, .int 0, .ref mb, .ref mf])), (mo, .inl (cI, 32, .inl fn)), (mk, .inl (cG, 41, .inr (.inr (.inr (.inr kr))))), (r1, .inl (cI, 32, .inl w1))] H := hP
  replace hD : va_D A [(a0, .inr (3, [.ref aF, .ref mo, .ref ma, .ref mk, .int 0, .int 0, .int 0, .ref mb, .ref mf])), (mo, .inl (cI, 32, .inl fn)), (mk, .inl (cG, 41, .inr (.inr (.inr (.inr kr))))), (r1, .inl (cI, 32, .inl w1))] := hD
  refine lv_aload_n hx hb dX3_keepAct_5 rfl (lv_at hl 0 rfl) ?_
  refine va_get (D := D) (ci := 3) (v := .int 0) (C := RX3) (T := TX3) (N := 9) hx hb hts iw_X3_keepAct_X3 hown hK hP 0 rfl rfl 5 (by decide) (hts (.fieldLink RX3 131 "SoldHouse$Memory" "done" "I") (List.mem_of_getElem? (i := 2) rfl)) (fun _ h9 => h9) rfl dX3_keepAct_6 ?_
  refine lv_bipush (v := 40) hx hb dX3_keepAct_9 (by decide) ?_
  refine lv_icmp_ge (tgt := 27) hx hb dX3_keepAct_11 (by decide) (fun c_1 => absurd c_1 (by decide)) (fun _ => ?_)
  refine lv_aload_n hx hb dX3_keepAct_14 rfl (lv_at hl 0 rfl) ?_
  refine lv_dup hx hb dX3_keepAct_15 rfl ?_
  refine va_get (D := D) (ci := 3) (v := .int 0) (C := RX3) (T := TX3) (N := 9) hx hb hts iw_X3_keepAct_X3 hown hK hP 0 rfl rfl 5 (by decide) (hts (.fieldLink RX3 131 "SoldHouse$Memory" "done" "I") (List.mem_of_getElem? (i := 2) rfl)) (fun _ h9 => h9) rfl dX3_keepAct_16 ?_
  refine lv_iconst (v := 1) hx hb dX3_keepAct_19 (by decide) ?_
  refine lv_iadd hx hb dX3_keepAct_20 ?_
  refine lv_topi (fun y_2 ey_2 => ?_)
  obtain rfl : y_2 = 1 := ey_2.trans (by decide)
  refine va_put (D := D) (ci := 3) (v := .int 1) (ty := tyX3 5) (C := RX3) (T := TX3) (N := 9) hx hb hts iw_X3_keepAct_X3 tyX3 tyX3_ok nmX3 hown hK hP hD hS 0 rfl rfl 5 (by decide) (hts (.fieldLink RX3 131 "SoldHouse$Memory" "done" "I") (List.mem_of_getElem? (i := 2) rfl)) (fun _ h9 => h9) rfl (by decide +kernel) rfl rfl (Nat.le_of_ble_eq_true rfl) dX3_keepAct_21 (fun H locs hP hD hS => ?_)
  replace hP : va_P D classes [(a0, .inr (3, [.ref aF, .ref mo, .ref ma, .ref mk, .int 0, .int 1, .int 0, .ref mb, .ref mf])), (mo, .inl (cI, 32, .inl fn)), (mk, .inl (cG, 41, .inr (.inr (.inr (.inr kr))))), (r1, .inl (cI, 32, .inl w1))] H := hP
  replace hD : va_D A [(a0, .inr (3, [.ref aF, .ref mo, .ref ma, .ref mk, .int 0, .int 1, .int 0, .ref mb, .ref mf])), (mo, .inl (cI, 32, .inl fn)), (mk, .inl (cG, 41, .inr (.inr (.inr (.inr kr))))), (r1, .inl (cI, 32, .inl w1))] := hD
  refine lv_goto (tgt := 40) hx hb dX3_keepAct_24 (by decide) ?_
  refine lv_aload_n hx hb dX3_keepAct_40 rfl (lv_at hl 0 rfl) ?_
  refine va_get (D := D) (ci := 3) (v := .ref mo) (C := RX3) (T := TX3) (N := 9) hx hb hts iw_X3_keepAct_X3 hown hK hP 0 rfl rfl 1 (by decide) (hts (.fieldLink RX3 11 "SoldHouse$Memory" "now" "[I") (List.mem_of_getElem? (i := 4) rfl)) (fun _ h9 => h9) rfl dX3_keepAct_41 ?_
  refine lv_iconst (v := 0) hx hb dX3_keepAct_44 (by decide) ?_
  refine lv_aload_n hx hb dX3_keepAct_45 rfl (lv_at hl 0 rfl) ?_
  refine va_get (D := D) (ci := 3) (v := .ref mk) (C := RX3) (T := TX3) (N := 9) hx hb hts iw_X3_keepAct_X3 hown hK hP 0 rfl rfl 3 (by decide) (hts (.fieldLink RX3 20 "SoldHouse$Memory" "kept" "[[I") (List.mem_of_getElem? (i := 5) rfl)) (fun _ h9 => h9) rfl dX3_keepAct_46 ?_
  refine lv_aload_n hx hb dX3_keepAct_49 rfl (lv_at hl 0 rfl) ?_
  refine va_get (D := D) (ci := 3) (v := .int 0) (C := RX3) (T := TX3) (N := 9) hx hb hts iw_X3_keepAct_X3 hown hK hP 0 rfl rfl 4 (by decide) (hts (.fieldLink RX3 134 "SoldHouse$Memory" "oldest" "I") (List.mem_of_getElem? (i := 3) rfl)) (fun _ h9 => h9) rfl dX3_keepAct_50 ?_
  refine lv_aload_n hx hb dX3_keepAct_53 rfl (lv_at hl 0 rfl) ?_
  refine va_get (D := D) (ci := 3) (v := .int 1) (C := RX3) (T := TX3) (N := 9) hx hb hts iw_X3_keepAct_X3 hown hK hP 0 rfl rfl 5 (by decide) (hts (.fieldLink RX3 131 "SoldHouse$Memory" "done" "I") (List.mem_of_getElem? (i := 2) rfl)) (fun _ h9 => h9) rfl dX3_keepAct_54 ?_
  refine lv_iadd hx hb dX3_keepAct_57 ?_
  refine lv_topi (fun y_3 ey_3 => ?_)
  obtain rfl : y_3 = 1 := ey_3.trans (by decide)
  refine lv_bipush (v := 41) hx hb dX3_keepAct_58 (by decide) ?_
  refine lv_irem hx hb dX3_keepAct_60 (by decide) ?_
  refine lv_topi (fun y_4 ey_4 => ?_)
  obtain rfl : y_4 = 1 := ey_4.trans (by decide)
  refine zz_alda (v := r1) hx hb hK hP 2 4 rfl rfl (show vp_in 1 41 from (by decide : ¬ ((1 : Int32) < 0 ∨ 41 ≤ Int32.toNatClampNeg 1))) hk_kr_1 dX3_keepAct_61 ?_
  refine lv_iconst (v := 0) hx hb dX3_keepAct_62 (by decide) ?_
  refine lv_bipush (v := 32) hx hb dX3_keepAct_63 (by decide) ?_
  refine va_copyi hx hb (by rw [hml]; exact hl.1.symm) hown (hts (.methodLink RX3 115 arraycopyName) (List.mem_of_getElem? (i := 6) rfl)) (hts (.native arraycopyName) (List.mem_of_getElem? (i := 7) rfl)) (hts (.static arraycopyName) (List.mem_of_getElem? (i := 8) rfl)) (hts (.initialized "java/lang/System") (List.mem_of_getElem? (i := 9) rfl)) hK hP hD hS 1 3 0 0 rfl rfl rfl rfl rfl (by decide) (by decide) (by decide) (by decide +kernel) (by decide +kernel) (fun _ _ => rfl) (Nat.le_of_ble_eq_true rfl) (Nat.le_of_ble_eq_true rfl) dX3_keepAct_65 (fun H locs hP hD hS => ?_)
  replace hP : va_P D classes [(a0, .inr (3, [.ref aF, .ref mo, .ref ma, .ref mk, .int 0, .int 1, .int 0, .ref mb, .ref mf])), (mo, .inl (cI, 32, .inl fn)), (mk, .inl (cG, 41, .inr (.inr (.inr (.inr kr))))), (r1, .inl (cI, 32, .inl (va_cpy fn w1 (Int32.toNatClampNeg 0) (Int32.toNatClampNeg 0) (Int32.toNatClampNeg 32))))] H := hP
  replace hD : va_D A [(a0, .inr (3, [.ref aF, .ref mo, .ref ma, .ref mk, .int 0, .int 1, .int 0, .ref mb, .ref mf])), (mo, .inl (cI, 32, .inl fn)), (mk, .inl (cG, 41, .inr (.inr (.inr (.inr kr))))), (r1, .inl (cI, 32, .inl (va_cpy fn w1 (Int32.toNatClampNeg 0) (Int32.toNatClampNeg 0) (Int32.toNatClampNeg 32))))] := hD
  generalize eg_5 : va_cpy fn w1 (Int32.toNatClampNeg 0) (Int32.toNatClampNeg 0) (Int32.toNatClampNeg 32) = g_5 at hP hD
  clear eg_5
  refine W.widen (k := 0) (n := 0) (Nat.le_of_ble_eq_true rfl) (Nat.le_of_ble_eq_true rfl) ?_
  exact W.vret hx hb hr (fun t ht hW => ⟨⟨(), rfl, trivial, trivial⟩, hS.F ht⟩) hS.2.2 dX3_keepAct_68
set_option maxHeartbeats 4000000 in
set_option maxRecDepth 100000 in
theorem c_day (l : Launch) (D : va_G) (cI : ClassId) (cB : ClassId) (cL : ClassId) (cZ : ClassId) (cG : ClassId) (a0 : Nat) (aP : Nat) (aD : Nat) (aT : Nat) (aR : Nat) (aF : Nat) (aU : Nat) (aH : Nat) (aM : Nat) (aW : Nat) (aN : Nat) (mo : Nat) (ma : Nat) (mk : Nat) (mb : Nat) (mf : Nat) (fn : Nat → Int32) (fx : Nat) (fr : Nat) (fe : Nat) (pz : Nat → Nat) (su : Nat) (kr : Nat → Option Nat) (r1 : Nat) (w1 : Nat → Int32) (sz : Nat) (hf_fn_30 : fn 30 = 0) (hf_fn_31 : fn 31 = 0) (hk_kr_1 : kr 1 = some r1) : Met l yX11_day wsX11_day ({ frames := 2, cells := 0, slots := 0, locals := 60 }) (xp D [(cI, .int), (cB, .byte), (cL, .long), (cZ, .boolean), (cG, .array .int)] [(a0, .inr (11, [.ref aP, .ref aD, .ref aT, .ref aR, .ref aF, .ref aU, .ref aH, .ref aM, .ref aW, .ref aN])), (aM, .inr (3, [.ref aF, .ref mo, .ref ma, .ref mk, .int 0, .int 0, .int 0, .ref mb, .ref mf])), (mo, .inl (cI, 32, .inl fn)), (aF, .inr (0, [.ref aP, .ref fx, .ref fr, .ref fe, .int 0])), (aP, .inr (5, PF pz su)), (mk, .inl (cG, 41, .inr (.inr (.inr (.inr kr))))), (r1, .inl (cI, 32, .inl w1))] sz [] [.ref a0]) (va_Qi (fun (r : Int32) (_ : Unit) => r = 0) (fun (_ : Unit) (_ : State) => True) (va_A [(a0, .inr (11, [.ref aP, .ref aD, .ref aT, .ref aR, .ref aF, .ref aU, .ref aH, .ref aM, .ref aW, .ref aN])), (aM, .inr (3, [.ref aF, .ref mo, .ref ma, .ref mk, .int 0, .int 0, .int 0, .ref mb, .ref mf])), (mo, .inl (cI, 32, .inl fn)), (aF, .inr (0, [.ref aP, .ref fx, .ref fr, .ref fe, .int 0])), (aP, .inr (5, PF pz su)), (mk, .inl (cG, 41, .inr (.inr (.inr (.inr kr))))), (r1, .inl (cI, 32, .inl w1))] sz)) 0 0 (va_A [(a0, .inr (11, [.ref aP, .ref aD, .ref aT, .ref aR, .ref aF, .ref aU, .ref aH, .ref aM, .ref aW, .ref aN])), (aM, .inr (3, [.ref aF, .ref mo, .ref ma, .ref mk, .int 0, .int 0, .int 0, .ref mb, .ref mf])), (mo, .inl (cI, 32, .inl fn)), (aF, .inr (0, [.ref aP, .ref fx, .ref fr, .ref fe, .int 0])), (aP, .inr (5, PF pz su)), (mk, .inl (cG, 41, .inr (.inr (.inr (.inr kr))))), (r1, .inl (cI, 32, .inl w1))] sz) := by
  refine Met.ofW (cc := cX11_day) (maxL := 2) (ret := (some .int)) (by decide) rfl ?_
  intro p e s m args below meth c s₁ B hml hv
  obtain ⟨rfl, hsz, hP, hK, hD0, hNw⟩ := hv
  have hx := B.exec
  have hb := B.bytes
  have hr := B.returns
  have hts := atoms_spec (ws := wsX11_day) B.pre
  have hown : s.vm.findClass RX11 = some m.cls := findClass_of_methodNamed B.named
  have hlocks := B.notSynchronized
  subst hsz
  have hD := hD0.self (sz := s.heap.size)
  clear hD0
  generalize hAe : va_A [(a0, .inr (11, [.ref aP, .ref aD, .ref aT, .ref aR, .ref aF, .ref aU, .ref aH, .ref aM, .ref aW, .ref aN])), (aM, .inr (3, [.ref aF, .ref mo, .ref ma, .ref mk, .int 0, .int 0, .int 0, .ref mb, .ref mf])), (mo, .inl (cI, 32, .inl fn)), (aF, .inr (0, [.ref aP, .ref fx, .ref fr, .ref fe, .int 0])), (aP, .inr (5, PF pz su)), (mk, .inl (cG, 41, .inr (.inr (.inr (.inr kr))))), (r1, .inl (cI, 32, .inl w1))] s.heap.size = A at hD ⊢
  have hA : ∀ q : Nat, s.heap.size ≤ q → A q := fun q h => by rw [← hAe]; exact Or.inr h
  have hS : va_S A s.heap s.heap [] := va_S.rf
  clear hAe
  obtain ⟨H, hH⟩ : ∃ H : Heap, H = s.heap := ⟨_, rfl⟩
  obtain ⟨locs, hlocs⟩ : ∃ L : List Loc, L = [] := ⟨_, rfl⟩
  replace hP : va_P D classes [(a0, .inr (11, [.ref aP, .ref aD, .ref aT, .ref aR, .ref aF, .ref aU, .ref aH, .ref aM, .ref aW, .ref aN])), (aM, .inr (3, [.ref aF, .ref mo, .ref ma, .ref mk, .int 0, .int 0, .int 0, .ref mb, .ref mf])), (mo, .inl (cI, 32, .inl fn)), (aF, .inr (0, [.ref aP, .ref fx, .ref fr, .ref fe, .int 0])), (aP, .inr (5, PF pz su)), (mk, .inl (cG, 41, .inr (.inr (.inr (.inr kr))))), (r1, .inl (cI, 32, .inl w1))] H := by rw [hH]; exact hP
  replace hS : va_S A s.heap H locs := by rw [hH, hlocs]; exact hS
  rw [← hH, ← hlocs]
  clear hlocs hH
  have hl := lv_entry ([.ref a0]) (n := 2) (Nat.le_of_ble_eq_true rfl)
  rw [lg_entry_eq]
  generalize (lg_sl ([.ref a0]) ++ List.replicate (2 - (lg_sl ([.ref a0])).length) Slot.unset).toArray = ls at hl ⊢
  replace hl : lv_has ls 2 [(0, .ref a0)] := hl
  refine lv_aload_n hx hb dX11_day_0 rfl (lv_at hl 0 rfl) ?_
  refine va_get (D := D) (ci := 11) (v := .ref aM) (C := RX11) (T := TX11) (N := 10) hx hb hts iw_X11_day_X11 hown hK hP 0 rfl rfl 7 (by decide) (hts (.fieldLink RX11 63 "SoldHouse" "memory" "LSoldHouse$Memory;") (List.mem_of_getElem? (i := 1) rfl)) (fun _ h9 => h9) rfl dX11_day_1 ?_
  refine va_get (D := D) (ci := 3) (v := .ref mo) (C := RX3) (T := TX3) (N := 9) hx hb hts iw_X11_day_X3 hown hK hP 1 rfl rfl 1 (by decide) (hts (.fieldLink RX11 128 "SoldHouse$Memory" "now" "[I") (List.mem_of_getElem? (i := 2) rfl)) (fun _ h9 => h9) rfl dX11_day_4 ?_
  refine lv_bipush (v := 30) hx hb dX11_day_7 (by decide) ?_
  refine va_iald hx hb hK hP 2 0 rfl rfl (show vp_in 30 32 from (by decide : ¬ ((30 : Int32) < 0 ∨ 32 ≤ Int32.toNatClampNeg 30))) dX11_day_9 ?_
  refine lv_topi (fun y_1 ey_1 => ?_)
  obtain rfl : y_1 = 0 := ey_1.trans hf_fn_30
  refine lv_sipush (v := 999) hx hb dX11_day_10 (by decide) ?_
  refine lv_icmp_lt (tgt := 18) hx hb dX11_day_13 (by decide) (fun _ => ?_) (fun c_2 => absurd (by decide) c_2)
  refine lv_aload_n hx hb dX11_day_18 rfl (lv_at hl 0 rfl) ?_
  refine va_get (D := D) (ci := 11) (v := .ref aM) (C := RX11) (T := TX11) (N := 10) hx hb hts iw_X11_day_X11 hown hK hP 0 rfl rfl 7 (by decide) (hts (.fieldLink RX11 63 "SoldHouse" "memory" "LSoldHouse$Memory;") (List.mem_of_getElem? (i := 1) rfl)) (fun _ h9 => h9) rfl dX11_day_19 ?_
  refine lv_aload_n hx hb dX11_day_22 rfl (lv_at hl 0 rfl) ?_
  refine va_get (D := D) (ci := 11) (v := .ref aM) (C := RX11) (T := TX11) (N := 10) hx hb hts iw_X11_day_X11 hown hK hP 0 rfl rfl 7 (by decide) (hts (.fieldLink RX11 63 "SoldHouse" "memory" "LSoldHouse$Memory;") (List.mem_of_getElem? (i := 1) rfl)) (fun _ h9 => h9) rfl dX11_day_23 ?_
  refine va_get (D := D) (ci := 3) (v := .ref mo) (C := RX3) (T := TX3) (N := 9) hx hb hts iw_X11_day_X3 hown hK hP 1 rfl rfl 1 (by decide) (hts (.fieldLink RX11 128 "SoldHouse$Memory" "now" "[I") (List.mem_of_getElem? (i := 2) rfl)) (fun _ h9 => h9) rfl dX11_day_26 ?_
  have hPc := hP.sub (ws' := [(aM, .inr (3, [.ref aF, .ref mo, .ref ma, .ref mk, .int 0, .int 0, .int 0, .ref mb, .ref mf])), (mo, .inl (cI, 32, .inl fn)), (aF, .inr (0, [.ref aP, .ref fx, .ref fr, .ref fe, .int 0])), (aP, .inr (5, PF pz su))]) [1, 2, 3, 4] rfl
  have hDc := hD.sub (ws' := [(aM, .inr (3, [.ref aF, .ref mo, .ref ma, .ref mk, .int 0, .int 0, .int 0, .ref mb, .ref mf])), (mo, .inl (cI, 32, .inl fn)), (aF, .inr (0, [.ref aP, .ref fx, .ref fr, .ref fe, .int 0])), (aP, .inr (5, PF pz su))]) [1, 2, 3, 4] (by decide) rfl
  have hFc := va_free (wc := [(aM, .inr (3, [.ref aF, .ref mo, .ref ma, .ref mk, .int 0, .int 0, .int 0, .ref mb, .ref mf])), (mo, .inl (cI, 32, .inl fn)), (aF, .inr (0, [.ref aP, .ref fx, .ref fr, .ref fe, .int 0])), (aP, .inr (5, PF pz su))]) hD hS hA [1, 2, 3, 4] rfl
  refine va_calli (va_runV (As := [.ref mo]) (rest := []) ⟨hx, hb, hml, hown, hts⟩ (c_passDay l D cI cB cL cZ aM aF aP mo ma mk mb mf fn fx fr fe pz su H.size hf_fn_30 hf_fn_31) (cwV 1 hts gX11_day_X3_passDay rfl rfl rfl (by decide +kernel) ⟨Nat.le_of_ble_eq_true rfl, Nat.le_of_ble_eq_true rfl⟩) ⟨xp_blind, va_recv hK hPc (ci := 3) (q0 := 0) rfl rfl, fun U hU hW => xp_mk hU hW hPc (hK.sub (tys' := [(cI, .int), (cB, .byte), (cL, .long), (cZ, .boolean)]) [0, 1, 2, 3] rfl) hDc xNw_nil⟩ rfl rfl hl.1 rfl (lv_room (Nat.le_of_ble_eq_true rfl)) dX11_day_29 ⟨Nat.le_of_ble_eq_true rfl, Nat.le_of_ble_eq_true rfl⟩) hS (fun q _ h => hFc q h) hFc (fun r_3 u9 t9 H1 locs ht9 hvm9 hr_3 hB9 hz9 hk9 hS => ?_)
  obtain ⟨g__4, hP1, hD1⟩ := hB9
  rw [ht9] at hP1
  obtain ⟨hP, hD⟩ := va_join (wr := [(a0, .inr (11, [.ref aP, .ref aD, .ref aT, .ref aR, .ref aF, .ref aU, .ref aH, .ref aM, .ref aW, .ref aN])), (mk, .inl (cG, 41, .inr (.inr (.inr (.inr kr))))), (r1, .inl (cI, 32, .inl w1))]) (w1 := [(aM, .inr (3, [.ref aF, .ref mo, .ref ma, .ref mk, .int 0, .int 0, .int 0, .ref mb, .ref mf])), (mo, .inl (cI, 32, .inl g__4)), (aF, .inr (0, [.ref aP, .ref fx, .ref fr, .ref fe, .int 0])), (aP, .inr (5, PF pz su))]) hP hD [1, 2, 3, 4] [0, 5, 6] rfl rfl (by decide) (by decide) hk9 hFc hP1 hD1
  clear hz9 hPc hDc hP1 hD1
  clear hk9 hFc ht9 hvm9
  generalize H1 = H at hP hS ⊢
  replace hP : va_P D classes [(a0, .inr (11, [.ref aP, .ref aD, .ref aT, .ref aR, .ref aF, .ref aU, .ref aH, .ref aM, .ref aW, .ref aN])), (mk, .inl (cG, 41, .inr (.inr (.inr (.inr kr))))), (r1, .inl (cI, 32, .inl w1)), (aM, .inr (3, [.ref aF, .ref mo, .ref ma, .ref mk, .int 0, .int 0, .int 0, .ref mb, .ref mf])), (mo, .inl (cI, 32, .inl g__4)), (aF, .inr (0, [.ref aP, .ref fx, .ref fr, .ref fe, .int 0])), (aP, .inr (5, PF pz su))] H := hP
  replace hD : va_D A [(a0, .inr (11, [.ref aP, .ref aD, .ref aT, .ref aR, .ref aF, .ref aU, .ref aH, .ref aM, .ref aW, .ref aN])), (mk, .inl (cG, 41, .inr (.inr (.inr (.inr kr))))), (r1, .inl (cI, 32, .inl w1)), (aM, .inr (3, [.ref aF, .ref mo, .ref ma, .ref mk, .int 0, .int 0, .int 0, .ref mb, .ref mf])), (mo, .inl (cI, 32, .inl g__4)), (aF, .inr (0, [.ref aP, .ref fx, .ref fr, .ref fe, .int 0])), (aP, .inr (5, PF pz su))] := hD
  subst hr_3
  refine lv_istore_n (lv' := [(1, .int 0), (0, .ref a0)]) hx hb dX11_day_32 rfl hl (by decide) rfl (fun ls hl => ?_)
  refine lv_aload_n hx hb dX11_day_33 rfl (lv_at hl 1 rfl) ?_
  refine va_get (D := D) (ci := 11) (v := .ref aM) (C := RX11) (T := TX11) (N := 10) hx hb hts iw_X11_day_X11 hown hK hP 0 rfl rfl 7 (by decide) (hts (.fieldLink RX11 63 "SoldHouse" "memory" "LSoldHouse$Memory;") (List.mem_of_getElem? (i := 1) rfl)) (fun _ h9 => h9) rfl dX11_day_34 ?_
  have hPc := hP.sub (ws' := [(aM, .inr (3, [.ref aF, .ref mo, .ref ma, .ref mk, .int 0, .int 0, .int 0, .ref mb, .ref mf])), (mo, .inl (cI, 32, .inl g__4)), (mk, .inl (cG, 41, .inr (.inr (.inr (.inr kr))))), (r1, .inl (cI, 32, .inl w1))]) [3, 4, 1, 2] rfl
  have hDc := hD.sub (ws' := [(aM, .inr (3, [.ref aF, .ref mo, .ref ma, .ref mk, .int 0, .int 0, .int 0, .ref mb, .ref mf])), (mo, .inl (cI, 32, .inl g__4)), (mk, .inl (cG, 41, .inr (.inr (.inr (.inr kr))))), (r1, .inl (cI, 32, .inl w1))]) [3, 4, 1, 2] (by decide) rfl
  have hFc := va_free (wc := [(aM, .inr (3, [.ref aF, .ref mo, .ref ma, .ref mk, .int 0, .int 0, .int 0, .ref mb, .ref mf])), (mo, .inl (cI, 32, .inl g__4)), (mk, .inl (cG, 41, .inr (.inr (.inr (.inr kr))))), (r1, .inl (cI, 32, .inl w1))]) hD hS hA [3, 4, 1, 2] rfl
  refine va_callv (va_runV (As := []) (rest := []) ⟨hx, hb, hml, hown, hts⟩ (c_keepAct l D cI cB cL cZ cG aM aF mo ma mk mb mf g__4 kr r1 w1 H.size hk_kr_1) (cwV 0 hts gX11_day_X3_keepAct rfl rfl rfl (by decide +kernel) ⟨Nat.le_of_ble_eq_true rfl, Nat.le_of_ble_eq_true rfl⟩) ⟨xp_blind, va_recv hK hPc (ci := 3) (q0 := 0) rfl rfl, fun U hU hW => xp_mk hU hW hPc hK hDc xNw_nil⟩ rfl rfl hl.1 rfl (lv_room (Nat.le_of_ble_eq_true rfl)) dX11_day_37 ⟨Nat.le_of_ble_eq_true rfl, Nat.le_of_ble_eq_true rfl⟩) hS (fun q _ h => hFc q h) hFc (fun u9 t9 H1 locs ht9 hvm9 hr_5 hB9 hz9 hk9 hS => ?_)
  clear hB9 hz9 hPc hDc
  obtain ⟨hP, hD⟩ := va_join (wr := [(a0, .inr (11, [.ref aP, .ref aD, .ref aT, .ref aR, .ref aF, .ref aU, .ref aH, .ref aM, .ref aW, .ref aN])), (aF, .inr (0, [.ref aP, .ref fx, .ref fr, .ref fe, .int 0])), (aP, .inr (5, PF pz su))]) (w1 := []) hP hD [3, 4, 1, 2] [0, 5, 6] rfl rfl (by decide) (by decide) hk9 hFc (fun k q h => by simp at h) ⟨fun i j p q h => by simp at h, fun k q h => by simp at h⟩
  clear hk9 hFc ht9 hvm9
  generalize H1 = H at hP hS ⊢
  replace hP : va_P D classes [(a0, .inr (11, [.ref aP, .ref aD, .ref aT, .ref aR, .ref aF, .ref aU, .ref aH, .ref aM, .ref aW, .ref aN])), (aF, .inr (0, [.ref aP, .ref fx, .ref fr, .ref fe, .int 0])), (aP, .inr (5, PF pz su))] H := hP
  replace hD : va_D A [(a0, .inr (11, [.ref aP, .ref aD, .ref aT, .ref aR, .ref aF, .ref aU, .ref aH, .ref aM, .ref aW, .ref aN])), (aF, .inr (0, [.ref aP, .ref fx, .ref fr, .ref fe, .int 0])), (aP, .inr (5, PF pz su))] := hD
  refine lv_iload_n hx hb dX11_day_40 rfl (lv_at hl 0 rfl) ?_
  refine W.widen (k := 0) (n := 0) (Nat.le_of_ble_eq_true rfl) (Nat.le_of_ble_eq_true rfl) ?_
  exact W.iret (v := 0) hx hb hr (fun t ht hW => ⟨⟨0, (), rfl, rfl, trivial⟩, hS.F ht⟩) hS.2.2 dX11_day_41
set_option maxHeartbeats 4000000 in
set_option maxRecDepth 100000 in
theorem c_putInBox (l : Launch) (D : va_G) (cI : ClassId) (cB : ClassId) (cL : ClassId) (cZ : ClassId) (cG : ClassId) (a0 : Nat) (aF : Nat) (mo : Nat) (ma : Nat) (mk : Nat) (mb : Nat) (mf : Nat) (fn : Nat → Int32) (br : Nat → Option Nat) (b0 : Nat) (b1 : Nat) (b2 : Nat) (u0 : Nat → Int32) (u1 : Nat → Int32) (u2 : Nat → Int32) (ff : Nat → Int32) (x : Int32) (sz : Nat) (hf_fn_30 : fn 30 = 0) (hf_fn_31 : fn 31 = 0) (hk_br_0 : br 0 = some b0) (hk_br_1 : br 1 = some b1) (hk_br_2 : br 2 = some b2) : Met l yX3_putInBox wsX3_putInBox ({ frames := 1, cells := 0, slots := 0, locals := 40 }) (xp D [(cI, .int), (cB, .byte), (cL, .long), (cZ, .boolean), (cG, .array .int)] [(a0, .inr (3, [.ref aF, .ref mo, .ref ma, .ref mk, .int 0, .int 0, .int 0, .ref mb, .ref mf])), (mo, .inl (cI, 32, .inl fn)), (mb, .inl (cG, 3, .inr (.inr (.inr (.inr br))))), (b0, .inl (cI, 32, .inl u0)), (b1, .inl (cI, 32, .inl u1)), (b2, .inl (cI, 32, .inl u2)), (mf, .inl (cZ, 3, .inl ff))] sz [] [.ref a0, .int x]) (va_Qi (fun (r : Int32) (_ : Unit) => r = sp_rng 2 x) (fun (_ : Unit) (_ : State) => True) (va_A [(a0, .inr (3, [.ref aF, .ref mo, .ref ma, .ref mk, .int 0, .int 0, .int 0, .ref mb, .ref mf])), (mo, .inl (cI, 32, .inl fn)), (mb, .inl (cG, 3, .inr (.inr (.inr (.inr br))))), (b0, .inl (cI, 32, .inl u0)), (b1, .inl (cI, 32, .inl u1)), (b2, .inl (cI, 32, .inl u2)), (mf, .inl (cZ, 3, .inl ff))] sz)) 0 0 (va_A [(a0, .inr (3, [.ref aF, .ref mo, .ref ma, .ref mk, .int 0, .int 0, .int 0, .ref mb, .ref mf])), (mo, .inl (cI, 32, .inl fn)), (mb, .inl (cG, 3, .inr (.inr (.inr (.inr br))))), (b0, .inl (cI, 32, .inl u0)), (b1, .inl (cI, 32, .inl u1)), (b2, .inl (cI, 32, .inl u2)), (mf, .inl (cZ, 3, .inl ff))] sz) := by
  refine Met.ofW (cc := cX3_putInBox) (maxL := 2) (ret := (some .int)) (by decide) rfl ?_
  intro p e s m args below meth c s₁ B hml hv
  obtain ⟨rfl, hsz, hP, hK, hD0, hNw⟩ := hv
  have hx := B.exec
  have hb := B.bytes
  have hr := B.returns
  have hts := atoms_spec (ws := wsX3_putInBox) B.pre
  have hown : s.vm.findClass RX3 = some m.cls := findClass_of_methodNamed B.named
  have hlocks := B.notSynchronized
  subst hsz
  have hD := hD0.self (sz := s.heap.size)
  clear hD0
  generalize hAe : va_A [(a0, .inr (3, [.ref aF, .ref mo, .ref ma, .ref mk, .int 0, .int 0, .int 0, .ref mb, .ref mf])), (mo, .inl (cI, 32, .inl fn)), (mb, .inl (cG, 3, .inr (.inr (.inr (.inr br))))), (b0, .inl (cI, 32, .inl u0)), (b1, .inl (cI, 32, .inl u1)), (b2, .inl (cI, 32, .inl u2)), (mf, .inl (cZ, 3, .inl ff))] s.heap.size = A at hD ⊢
  have hA : ∀ q : Nat, s.heap.size ≤ q → A q := fun q h => by rw [← hAe]; exact Or.inr h
  have hS : va_S A s.heap s.heap [] := va_S.rf
  clear hAe
  obtain ⟨H, hH⟩ : ∃ H : Heap, H = s.heap := ⟨_, rfl⟩
  obtain ⟨locs, hlocs⟩ : ∃ L : List Loc, L = [] := ⟨_, rfl⟩
  replace hP : va_P D classes [(a0, .inr (3, [.ref aF, .ref mo, .ref ma, .ref mk, .int 0, .int 0, .int 0, .ref mb, .ref mf])), (mo, .inl (cI, 32, .inl fn)), (mb, .inl (cG, 3, .inr (.inr (.inr (.inr br))))), (b0, .inl (cI, 32, .inl u0)), (b1, .inl (cI, 32, .inl u1)), (b2, .inl (cI, 32, .inl u2)), (mf, .inl (cZ, 3, .inl ff))] H := by rw [hH]; exact hP
  replace hS : va_S A s.heap H locs := by rw [hH, hlocs]; exact hS
  rw [← hH, ← hlocs]
  clear hlocs hH
  have hl := lv_entry ([.ref a0, .int x]) (n := 2) (Nat.le_of_ble_eq_true rfl)
  rw [lg_entry_eq]
  generalize (lg_sl ([.ref a0, .int x]) ++ List.replicate (2 - (lg_sl ([.ref a0, .int x])).length) Slot.unset).toArray = ls at hl ⊢
  replace hl : lv_has ls 2 [(0, .ref a0), (1, .int x)] := hl
  refine lv_iload_n hx hb dX3_putInBox_0 rfl (lv_at hl 1 rfl) ?_
  refine lv_if_lt (tgt := 9) hx hb dX3_putInBox_1 (by decide) (fun c_1 => ?_) (fun c_1 => ?_)
  · refine lv_iconst (v := (-1)) hx hb dX3_putInBox_9 (by decide) ?_
    refine W.widen (k := 0) (n := 0) (Nat.le_of_ble_eq_true rfl) (Nat.le_of_ble_eq_true rfl) ?_
    exact W.iret (v := (-1)) hx hb hr (fun t ht hW => ⟨⟨(-1), (), rfl, (sp_rng_lt c_1).symm, trivial⟩, hS.F ht⟩) hS.2.2 dX3_putInBox_10
  · refine lv_iload_n hx hb dX3_putInBox_4 rfl (lv_at hl 1 rfl) ?_
    refine lv_iconst (v := 3) hx hb dX3_putInBox_5 (by decide) ?_
    refine lv_icmp_lt (tgt := 11) hx hb dX3_putInBox_6 (by decide) (fun c_2 => ?_) (fun c_2 => ?_)
    · refine lv_aload_n hx hb dX3_putInBox_11 rfl (lv_at hl 0 rfl) ?_
      refine va_get (D := D) (ci := 3) (v := .ref mo) (C := RX3) (T := TX3) (N := 9) hx hb hts iw_X3_putInBox_X3 hown hK hP 0 rfl rfl 1 (by decide) (hts (.fieldLink RX3 11 "SoldHouse$Memory" "now" "[I") (List.mem_of_getElem? (i := 1) rfl)) (fun _ h9 => h9) rfl dX3_putInBox_12 ?_
      refine lv_iconst (v := 0) hx hb dX3_putInBox_15 (by decide) ?_
      refine lv_aload_n hx hb dX3_putInBox_16 rfl (lv_at hl 0 rfl) ?_
      refine va_get (D := D) (ci := 3) (v := .ref mb) (C := RX3) (T := TX3) (N := 9) hx hb hts iw_X3_putInBox_X3 hown hK hP 0 rfl rfl 7 (by decide) (hts (.fieldLink RX3 23 "SoldHouse$Memory" "box" "[[I") (List.mem_of_getElem? (i := 2) rfl)) (fun _ h9 => h9) rfl dX3_putInBox_17 ?_
      refine lv_iload_n hx hb dX3_putInBox_20 rfl (lv_at hl 1 rfl) ?_
      obtain ⟨j_3, hj_3, rfl⟩ := nI_of2 (M := 2) (n := 2) rfl c_1 (zz_ltle c_2 (by decide))
      rcases (show j_3 = 0 ∨ j_3 = 1 ∨ j_3 = 2 by omega) with rfl | rfl | rfl
      · refine zz_alda (v := b0) hx hb hK hP 2 4 rfl rfl (show vp_in (nI 0) 3 from (by decide : ¬ ((nI 0) < (0 : Int32) ∨ 3 ≤ Int32.toNatClampNeg (nI 0)))) hk_br_0 dX3_putInBox_21 ?_
        refine lv_iconst (v := 0) hx hb dX3_putInBox_22 (by decide) ?_
        refine lv_bipush (v := 32) hx hb dX3_putInBox_23 (by decide) ?_
        refine va_copyi hx hb (by rw [hml]; exact hl.1.symm) hown (hts (.methodLink RX3 115 arraycopyName) (List.mem_of_getElem? (i := 3) rfl)) (hts (.native arraycopyName) (List.mem_of_getElem? (i := 4) rfl)) (hts (.static arraycopyName) (List.mem_of_getElem? (i := 5) rfl)) (hts (.initialized "java/lang/System") (List.mem_of_getElem? (i := 6) rfl)) hK hP hD hS 1 3 0 0 rfl rfl rfl rfl rfl (by decide) (by decide) (by decide) (by decide +kernel) (by decide +kernel) (fun _ _ => rfl) (Nat.le_of_ble_eq_true rfl) (Nat.le_of_ble_eq_true rfl) dX3_putInBox_25 (fun H locs hP hD hS => ?_)
        replace hP : va_P D classes [(a0, .inr (3, [.ref aF, .ref mo, .ref ma, .ref mk, .int 0, .int 0, .int 0, .ref mb, .ref mf])), (mo, .inl (cI, 32, .inl fn)), (mb, .inl (cG, 3, .inr (.inr (.inr (.inr br))))), (b0, .inl (cI, 32, .inl (va_cpy fn u0 (Int32.toNatClampNeg 0) (Int32.toNatClampNeg 0) (Int32.toNatClampNeg 32)))), (b1, .inl (cI, 32, .inl u1)), (b2, .inl (cI, 32, .inl u2)), (mf, .inl (cZ, 3, .inl ff))] H := hP
        replace hD : va_D A [(a0, .inr (3, [.ref aF, .ref mo, .ref ma, .ref mk, .int 0, .int 0, .int 0, .ref mb, .ref mf])), (mo, .inl (cI, 32, .inl fn)), (mb, .inl (cG, 3, .inr (.inr (.inr (.inr br))))), (b0, .inl (cI, 32, .inl (va_cpy fn u0 (Int32.toNatClampNeg 0) (Int32.toNatClampNeg 0) (Int32.toNatClampNeg 32)))), (b1, .inl (cI, 32, .inl u1)), (b2, .inl (cI, 32, .inl u2)), (mf, .inl (cZ, 3, .inl ff))] := hD
        generalize eg_4 : va_cpy fn u0 (Int32.toNatClampNeg 0) (Int32.toNatClampNeg 0) (Int32.toNatClampNeg 32) = g_4 at hP hD
        clear eg_4
        refine lv_aload_n hx hb dX3_putInBox_28 rfl (lv_at hl 0 rfl) ?_
        refine va_get (D := D) (ci := 3) (v := .ref mf) (C := RX3) (T := TX3) (N := 9) hx hb hts iw_X3_putInBox_X3 hown hK hP 0 rfl rfl 8 (by decide) (hts (.fieldLink RX3 26 "SoldHouse$Memory" "full" "[Z") (List.mem_of_getElem? (i := 7) rfl)) (fun _ h9 => h9) rfl dX3_putInBox_29 ?_
        refine lv_iload_n hx hb dX3_putInBox_32 rfl (lv_at hl 1 rfl) ?_
        refine lv_iconst (v := 1) hx hb dX3_putInBox_33 (by decide) ?_
        refine va_zast hx hb hK hP hD hS 6 3 rfl rfl (show vp_in (nI 0) 3 from (by decide : ¬ ((nI 0) < (0 : Int32) ∨ 3 ≤ Int32.toNatClampNeg (nI 0)))) dX3_putInBox_34 (fun H locs hP hD hS => ?_)
        replace hP : va_P D classes [(a0, .inr (3, [.ref aF, .ref mo, .ref ma, .ref mk, .int 0, .int 0, .int 0, .ref mb, .ref mf])), (mo, .inl (cI, 32, .inl fn)), (mb, .inl (cG, 3, .inr (.inr (.inr (.inr br))))), (b0, .inl (cI, 32, .inl g_4)), (b1, .inl (cI, 32, .inl u1)), (b2, .inl (cI, 32, .inl u2)), (mf, .inl (cZ, 3, .inl (upd ff (Int32.toNatClampNeg (nI 0)) (vp_nar .boolean 1))))] H := hP
        replace hD : va_D A [(a0, .inr (3, [.ref aF, .ref mo, .ref ma, .ref mk, .int 0, .int 0, .int 0, .ref mb, .ref mf])), (mo, .inl (cI, 32, .inl fn)), (mb, .inl (cG, 3, .inr (.inr (.inr (.inr br))))), (b0, .inl (cI, 32, .inl g_4)), (b1, .inl (cI, 32, .inl u1)), (b2, .inl (cI, 32, .inl u2)), (mf, .inl (cZ, 3, .inl (upd ff (Int32.toNatClampNeg (nI 0)) (vp_nar .boolean 1))))] := hD
        generalize eg_5 : upd ff (Int32.toNatClampNeg (nI 0)) (vp_nar .boolean 1) = g_5 at hP hD
        clear eg_5
        refine lv_aload_n hx hb dX3_putInBox_35 rfl (lv_at hl 0 rfl) ?_
        refine va_get (D := D) (ci := 3) (v := .ref mo) (C := RX3) (T := TX3) (N := 9) hx hb hts iw_X3_putInBox_X3 hown hK hP 0 rfl rfl 1 (by decide) (hts (.fieldLink RX3 11 "SoldHouse$Memory" "now" "[I") (List.mem_of_getElem? (i := 1) rfl)) (fun _ h9 => h9) rfl dX3_putInBox_36 ?_
        refine lv_bipush (v := 30) hx hb dX3_putInBox_39 (by decide) ?_
        refine va_iald hx hb hK hP 1 0 rfl rfl (show vp_in 30 32 from (by decide : ¬ ((30 : Int32) < 0 ∨ 32 ≤ Int32.toNatClampNeg 30))) dX3_putInBox_41 ?_
        refine lv_topi (fun y_6 ey_6 => ?_)
        obtain rfl : y_6 = 0 := ey_6.trans hf_fn_30
        refine W.widen (k := 0) (n := 0) (Nat.le_of_ble_eq_true rfl) (Nat.le_of_ble_eq_true rfl) ?_
        exact W.iret (v := 0) hx hb hr (fun t ht hW => ⟨⟨0, (), rfl, (by decide), trivial⟩, hS.F ht⟩) hS.2.2 dX3_putInBox_42
      · refine zz_alda (v := b1) hx hb hK hP 2 4 rfl rfl (show vp_in (nI 1) 3 from (by decide : ¬ ((nI 1) < (0 : Int32) ∨ 3 ≤ Int32.toNatClampNeg (nI 1)))) hk_br_1 dX3_putInBox_21 ?_
        refine lv_iconst (v := 0) hx hb dX3_putInBox_22 (by decide) ?_
        refine lv_bipush (v := 32) hx hb dX3_putInBox_23 (by decide) ?_
        refine va_copyi hx hb (by rw [hml]; exact hl.1.symm) hown (hts (.methodLink RX3 115 arraycopyName) (List.mem_of_getElem? (i := 3) rfl)) (hts (.native arraycopyName) (List.mem_of_getElem? (i := 4) rfl)) (hts (.static arraycopyName) (List.mem_of_getElem? (i := 5) rfl)) (hts (.initialized "java/lang/System") (List.mem_of_getElem? (i := 6) rfl)) hK hP hD hS 1 4 0 0 rfl rfl rfl rfl rfl (by decide) (by decide) (by decide) (by decide +kernel) (by decide +kernel) (fun _ _ => rfl) (Nat.le_of_ble_eq_true rfl) (Nat.le_of_ble_eq_true rfl) dX3_putInBox_25 (fun H locs hP hD hS => ?_)
        replace hP : va_P D classes [(a0, .inr (3, [.ref aF, .ref mo, .ref ma, .ref mk, .int 0, .int 0, .int 0, .ref mb, .ref mf])), (mo, .inl (cI, 32, .inl fn)), (mb, .inl (cG, 3, .inr (.inr (.inr (.inr br))))), (b0, .inl (cI, 32, .inl u0)), (b1, .inl (cI, 32, .inl (va_cpy fn u1 (Int32.toNatClampNeg 0) (Int32.toNatClampNeg 0) (Int32.toNatClampNeg 32)))), (b2, .inl (cI, 32, .inl u2)), (mf, .inl (cZ, 3, .inl ff))] H := hP
        replace hD : va_D A [(a0, .inr (3, [.ref aF, .ref mo, .ref ma, .ref mk, .int 0, .int 0, .int 0, .ref mb, .ref mf])), (mo, .inl (cI, 32, .inl fn)), (mb, .inl (cG, 3, .inr (.inr (.inr (.inr br))))), (b0, .inl (cI, 32, .inl u0)), (b1, .inl (cI, 32, .inl (va_cpy fn u1 (Int32.toNatClampNeg 0) (Int32.toNatClampNeg 0) (Int32.toNatClampNeg 32)))), (b2, .inl (cI, 32, .inl u2)), (mf, .inl (cZ, 3, .inl ff))] := hD
        generalize eg_7 : va_cpy fn u1 (Int32.toNatClampNeg 0) (Int32.toNatClampNeg 0) (Int32.toNatClampNeg 32) = g_7 at hP hD
        clear eg_7
        refine lv_aload_n hx hb dX3_putInBox_28 rfl (lv_at hl 0 rfl) ?_
        refine va_get (D := D) (ci := 3) (v := .ref mf) (C := RX3) (T := TX3) (N := 9) hx hb hts iw_X3_putInBox_X3 hown hK hP 0 rfl rfl 8 (by decide) (hts (.fieldLink RX3 26 "SoldHouse$Memory" "full" "[Z") (List.mem_of_getElem? (i := 7) rfl)) (fun _ h9 => h9) rfl dX3_putInBox_29 ?_
        refine lv_iload_n hx hb dX3_putInBox_32 rfl (lv_at hl 1 rfl) ?_
        refine lv_iconst (v := 1) hx hb dX3_putInBox_33 (by decide) ?_
        refine va_zast hx hb hK hP hD hS 6 3 rfl rfl (show vp_in (nI 1) 3 from (by decide : ¬ ((nI 1) < (0 : Int32) ∨ 3 ≤ Int32.toNatClampNeg (nI 1)))) dX3_putInBox_34 (fun H locs hP hD hS => ?_)
        replace hP : va_P D classes [(a0, .inr (3, [.ref aF, .ref mo, .ref ma, .ref mk, .int 0, .int 0, .int 0, .ref mb, .ref mf])), (mo, .inl (cI, 32, .inl fn)), (mb, .inl (cG, 3, .inr (.inr (.inr (.inr br))))), (b0, .inl (cI, 32, .inl u0)), (b1, .inl (cI, 32, .inl g_7)), (b2, .inl (cI, 32, .inl u2)), (mf, .inl (cZ, 3, .inl (upd ff (Int32.toNatClampNeg (nI 1)) (vp_nar .boolean 1))))] H := hP
        replace hD : va_D A [(a0, .inr (3, [.ref aF, .ref mo, .ref ma, .ref mk, .int 0, .int 0, .int 0, .ref mb, .ref mf])), (mo, .inl (cI, 32, .inl fn)), (mb, .inl (cG, 3, .inr (.inr (.inr (.inr br))))), (b0, .inl (cI, 32, .inl u0)), (b1, .inl (cI, 32, .inl g_7)), (b2, .inl (cI, 32, .inl u2)), (mf, .inl (cZ, 3, .inl (upd ff (Int32.toNatClampNeg (nI 1)) (vp_nar .boolean 1))))] := hD
        generalize eg_8 : upd ff (Int32.toNatClampNeg (nI 1)) (vp_nar .boolean 1) = g_8 at hP hD
        clear eg_8
        refine lv_aload_n hx hb dX3_putInBox_35 rfl (lv_at hl 0 rfl) ?_
        refine va_get (D := D) (ci := 3) (v := .ref mo) (C := RX3) (T := TX3) (N := 9) hx hb hts iw_X3_putInBox_X3 hown hK hP 0 rfl rfl 1 (by decide) (hts (.fieldLink RX3 11 "SoldHouse$Memory" "now" "[I") (List.mem_of_getElem? (i := 1) rfl)) (fun _ h9 => h9) rfl dX3_putInBox_36 ?_
        refine lv_bipush (v := 30) hx hb dX3_putInBox_39 (by decide) ?_
        refine va_iald hx hb hK hP 1 0 rfl rfl (show vp_in 30 32 from (by decide : ¬ ((30 : Int32) < 0 ∨ 32 ≤ Int32.toNatClampNeg 30))) dX3_putInBox_41 ?_
        refine lv_topi (fun y_9 ey_9 => ?_)
        obtain rfl : y_9 = 0 := ey_9.trans hf_fn_30
        refine W.widen (k := 0) (n := 0) (Nat.le_of_ble_eq_true rfl) (Nat.le_of_ble_eq_true rfl) ?_
        exact W.iret (v := 0) hx hb hr (fun t ht hW => ⟨⟨0, (), rfl, (by decide), trivial⟩, hS.F ht⟩) hS.2.2 dX3_putInBox_42
      · refine zz_alda (v := b2) hx hb hK hP 2 4 rfl rfl (show vp_in (nI 2) 3 from (by decide : ¬ ((nI 2) < (0 : Int32) ∨ 3 ≤ Int32.toNatClampNeg (nI 2)))) hk_br_2 dX3_putInBox_21 ?_
        refine lv_iconst (v := 0) hx hb dX3_putInBox_22 (by decide) ?_
        refine lv_bipush (v := 32) hx hb dX3_putInBox_23 (by decide) ?_
        refine va_copyi hx hb (by rw [hml]; exact hl.1.symm) hown (hts (.methodLink RX3 115 arraycopyName) (List.mem_of_getElem? (i := 3) rfl)) (hts (.native arraycopyName) (List.mem_of_getElem? (i := 4) rfl)) (hts (.static arraycopyName) (List.mem_of_getElem? (i := 5) rfl)) (hts (.initialized "java/lang/System") (List.mem_of_getElem? (i := 6) rfl)) hK hP hD hS 1 5 0 0 rfl rfl rfl rfl rfl (by decide) (by decide) (by decide) (by decide +kernel) (by decide +kernel) (fun _ _ => rfl) (Nat.le_of_ble_eq_true rfl) (Nat.le_of_ble_eq_true rfl) dX3_putInBox_25 (fun H locs hP hD hS => ?_)
        replace hP : va_P D classes [(a0, .inr (3, [.ref aF, .ref mo, .ref ma, .ref mk, .int 0, .int 0, .int 0, .ref mb, .ref mf])), (mo, .inl (cI, 32, .inl fn)), (mb, .inl (cG, 3, .inr (.inr (.inr (.inr br))))), (b0, .inl (cI, 32, .inl u0)), (b1, .inl (cI, 32, .inl u1)), (b2, .inl (cI, 32, .inl (va_cpy fn u2 (Int32.toNatClampNeg 0) (Int32.toNatClampNeg 0) (Int32.toNatClampNeg 32)))), (mf, .inl (cZ, 3, .inl ff))] H := hP
        replace hD : va_D A [(a0, .inr (3, [.ref aF, .ref mo, .ref ma, .ref mk, .int 0, .int 0, .int 0, .ref mb, .ref mf])), (mo, .inl (cI, 32, .inl fn)), (mb, .inl (cG, 3, .inr (.inr (.inr (.inr br))))), (b0, .inl (cI, 32, .inl u0)), (b1, .inl (cI, 32, .inl u1)), (b2, .inl (cI, 32, .inl (va_cpy fn u2 (Int32.toNatClampNeg 0) (Int32.toNatClampNeg 0) (Int32.toNatClampNeg 32)))), (mf, .inl (cZ, 3, .inl ff))] := hD
        generalize eg_10 : va_cpy fn u2 (Int32.toNatClampNeg 0) (Int32.toNatClampNeg 0) (Int32.toNatClampNeg 32) = g_10 at hP hD
        clear eg_10
        refine lv_aload_n hx hb dX3_putInBox_28 rfl (lv_at hl 0 rfl) ?_
        refine va_get (D := D) (ci := 3) (v := .ref mf) (C := RX3) (T := TX3) (N := 9) hx hb hts iw_X3_putInBox_X3 hown hK hP 0 rfl rfl 8 (by decide) (hts (.fieldLink RX3 26 "SoldHouse$Memory" "full" "[Z") (List.mem_of_getElem? (i := 7) rfl)) (fun _ h9 => h9) rfl dX3_putInBox_29 ?_
        refine lv_iload_n hx hb dX3_putInBox_32 rfl (lv_at hl 1 rfl) ?_
        refine lv_iconst (v := 1) hx hb dX3_putInBox_33 (by decide) ?_
        refine va_zast hx hb hK hP hD hS 6 3 rfl rfl (show vp_in (nI 2) 3 from (by decide : ¬ ((nI 2) < (0 : Int32) ∨ 3 ≤ Int32.toNatClampNeg (nI 2)))) dX3_putInBox_34 (fun H locs hP hD hS => ?_)
        replace hP : va_P D classes [(a0, .inr (3, [.ref aF, .ref mo, .ref ma, .ref mk, .int 0, .int 0, .int 0, .ref mb, .ref mf])), (mo, .inl (cI, 32, .inl fn)), (mb, .inl (cG, 3, .inr (.inr (.inr (.inr br))))), (b0, .inl (cI, 32, .inl u0)), (b1, .inl (cI, 32, .inl u1)), (b2, .inl (cI, 32, .inl g_10)), (mf, .inl (cZ, 3, .inl (upd ff (Int32.toNatClampNeg (nI 2)) (vp_nar .boolean 1))))] H := hP
        replace hD : va_D A [(a0, .inr (3, [.ref aF, .ref mo, .ref ma, .ref mk, .int 0, .int 0, .int 0, .ref mb, .ref mf])), (mo, .inl (cI, 32, .inl fn)), (mb, .inl (cG, 3, .inr (.inr (.inr (.inr br))))), (b0, .inl (cI, 32, .inl u0)), (b1, .inl (cI, 32, .inl u1)), (b2, .inl (cI, 32, .inl g_10)), (mf, .inl (cZ, 3, .inl (upd ff (Int32.toNatClampNeg (nI 2)) (vp_nar .boolean 1))))] := hD
        generalize eg_11 : upd ff (Int32.toNatClampNeg (nI 2)) (vp_nar .boolean 1) = g_11 at hP hD
        clear eg_11
        refine lv_aload_n hx hb dX3_putInBox_35 rfl (lv_at hl 0 rfl) ?_
        refine va_get (D := D) (ci := 3) (v := .ref mo) (C := RX3) (T := TX3) (N := 9) hx hb hts iw_X3_putInBox_X3 hown hK hP 0 rfl rfl 1 (by decide) (hts (.fieldLink RX3 11 "SoldHouse$Memory" "now" "[I") (List.mem_of_getElem? (i := 1) rfl)) (fun _ h9 => h9) rfl dX3_putInBox_36 ?_
        refine lv_bipush (v := 30) hx hb dX3_putInBox_39 (by decide) ?_
        refine va_iald hx hb hK hP 1 0 rfl rfl (show vp_in 30 32 from (by decide : ¬ ((30 : Int32) < 0 ∨ 32 ≤ Int32.toNatClampNeg 30))) dX3_putInBox_41 ?_
        refine lv_topi (fun y_12 ey_12 => ?_)
        obtain rfl : y_12 = 0 := ey_12.trans hf_fn_30
        refine W.widen (k := 0) (n := 0) (Nat.le_of_ble_eq_true rfl) (Nat.le_of_ble_eq_true rfl) ?_
        exact W.iret (v := 0) hx hb hr (fun t ht hW => ⟨⟨0, (), rfl, (by decide), trivial⟩, hS.F ht⟩) hS.2.2 dX3_putInBox_42
    · refine lv_iconst (v := (-1)) hx hb dX3_putInBox_9 (by decide) ?_
      refine W.widen (k := 0) (n := 0) (Nat.le_of_ble_eq_true rfl) (Nat.le_of_ble_eq_true rfl) ?_
      exact W.iret (v := (-1)) hx hb hr (fun t ht hW => ⟨⟨(-1), (), rfl, (sp_rng_gt c_1 (zz_ngt c_2 (by decide))).symm, trivial⟩, hS.F ht⟩) hS.2.2 dX3_putInBox_10
set_option maxHeartbeats 4000000 in
set_option maxRecDepth 100000 in
theorem c_image (l : Launch) (D : va_G) (cI : ClassId) (cB : ClassId) (cL : ClassId) (cZ : ClassId) (cG : ClassId) (a0 : Nat) (aP : Nat) (aD : Nat) (aT : Nat) (aR : Nat) (aF : Nat) (aU : Nat) (aH : Nat) (aM : Nat) (aW : Nat) (aN : Nat) (aF1 : Nat) (mo : Nat) (ma : Nat) (mk : Nat) (mb : Nat) (mf : Nat) (fn : Nat → Int32) (br : Nat → Option Nat) (b0 : Nat) (b1 : Nat) (b2 : Nat) (u0 : Nat → Int32) (u1 : Nat → Int32) (u2 : Nat → Int32) (ff : Nat → Int32) (x : Int32) (sz : Nat) (hf_fn_30 : fn 30 = 0) (hf_fn_31 : fn 31 = 0) (hk_br_0 : br 0 = some b0) (hk_br_1 : br 1 = some b1) (hk_br_2 : br 2 = some b2) : Met l yX11_image wsX11_image ({ frames := 2, cells := 0, slots := 0, locals := 61 }) (xp D [(cI, .int), (cB, .byte), (cL, .long), (cZ, .boolean), (cG, .array .int)] [(a0, .inr (11, [.ref aP, .ref aD, .ref aT, .ref aR, .ref aF, .ref aU, .ref aH, .ref aM, .ref aW, .ref aN])), (aM, .inr (3, [.ref aF1, .ref mo, .ref ma, .ref mk, .int 0, .int 0, .int 0, .ref mb, .ref mf])), (mo, .inl (cI, 32, .inl fn)), (mb, .inl (cG, 3, .inr (.inr (.inr (.inr br))))), (b0, .inl (cI, 32, .inl u0)), (b1, .inl (cI, 32, .inl u1)), (b2, .inl (cI, 32, .inl u2)), (mf, .inl (cZ, 3, .inl ff))] sz [] [.ref a0, .int x]) (va_Qi (fun (r : Int32) (_ : Unit) => r = sp_rng 2 x) (fun (_ : Unit) (_ : State) => True) (va_A [(a0, .inr (11, [.ref aP, .ref aD, .ref aT, .ref aR, .ref aF, .ref aU, .ref aH, .ref aM, .ref aW, .ref aN])), (aM, .inr (3, [.ref aF1, .ref mo, .ref ma, .ref mk, .int 0, .int 0, .int 0, .ref mb, .ref mf])), (mo, .inl (cI, 32, .inl fn)), (mb, .inl (cG, 3, .inr (.inr (.inr (.inr br))))), (b0, .inl (cI, 32, .inl u0)), (b1, .inl (cI, 32, .inl u1)), (b2, .inl (cI, 32, .inl u2)), (mf, .inl (cZ, 3, .inl ff))] sz)) 0 0 (va_A [(a0, .inr (11, [.ref aP, .ref aD, .ref aT, .ref aR, .ref aF, .ref aU, .ref aH, .ref aM, .ref aW, .ref aN])), (aM, .inr (3, [.ref aF1, .ref mo, .ref ma, .ref mk, .int 0, .int 0, .int 0, .ref mb, .ref mf])), (mo, .inl (cI, 32, .inl fn)), (mb, .inl (cG, 3, .inr (.inr (.inr (.inr br))))), (b0, .inl (cI, 32, .inl u0)), (b1, .inl (cI, 32, .inl u1)), (b2, .inl (cI, 32, .inl u2)), (mf, .inl (cZ, 3, .inl ff))] sz) := by
  refine Met.ofW (cc := cX11_image) (maxL := 2) (ret := (some .int)) (by decide) rfl ?_
  intro p e s m args below meth c s₁ B hml hv
  obtain ⟨rfl, hsz, hP, hK, hD0, hNw⟩ := hv
  have hx := B.exec
  have hb := B.bytes
  have hr := B.returns
  have hts := atoms_spec (ws := wsX11_image) B.pre
  have hown : s.vm.findClass RX11 = some m.cls := findClass_of_methodNamed B.named
  have hlocks := B.notSynchronized
  subst hsz
  have hD := hD0.self (sz := s.heap.size)
  clear hD0
  generalize hAe : va_A [(a0, .inr (11, [.ref aP, .ref aD, .ref aT, .ref aR, .ref aF, .ref aU, .ref aH, .ref aM, .ref aW, .ref aN])), (aM, .inr (3, [.ref aF1, .ref mo, .ref ma, .ref mk, .int 0, .int 0, .int 0, .ref mb, .ref mf])), (mo, .inl (cI, 32, .inl fn)), (mb, .inl (cG, 3, .inr (.inr (.inr (.inr br))))), (b0, .inl (cI, 32, .inl u0)), (b1, .inl (cI, 32, .inl u1)), (b2, .inl (cI, 32, .inl u2)), (mf, .inl (cZ, 3, .inl ff))] s.heap.size = A at hD ⊢
  have hA : ∀ q : Nat, s.heap.size ≤ q → A q := fun q h => by rw [← hAe]; exact Or.inr h
  have hS : va_S A s.heap s.heap [] := va_S.rf
  clear hAe
  obtain ⟨H, hH⟩ : ∃ H : Heap, H = s.heap := ⟨_, rfl⟩
  obtain ⟨locs, hlocs⟩ : ∃ L : List Loc, L = [] := ⟨_, rfl⟩
  replace hP : va_P D classes [(a0, .inr (11, [.ref aP, .ref aD, .ref aT, .ref aR, .ref aF, .ref aU, .ref aH, .ref aM, .ref aW, .ref aN])), (aM, .inr (3, [.ref aF1, .ref mo, .ref ma, .ref mk, .int 0, .int 0, .int 0, .ref mb, .ref mf])), (mo, .inl (cI, 32, .inl fn)), (mb, .inl (cG, 3, .inr (.inr (.inr (.inr br))))), (b0, .inl (cI, 32, .inl u0)), (b1, .inl (cI, 32, .inl u1)), (b2, .inl (cI, 32, .inl u2)), (mf, .inl (cZ, 3, .inl ff))] H := by rw [hH]; exact hP
  replace hS : va_S A s.heap H locs := by rw [hH, hlocs]; exact hS
  rw [← hH, ← hlocs]
  clear hlocs hH
  have hl := lv_entry ([.ref a0, .int x]) (n := 2) (Nat.le_of_ble_eq_true rfl)
  rw [lg_entry_eq]
  generalize (lg_sl ([.ref a0, .int x]) ++ List.replicate (2 - (lg_sl ([.ref a0, .int x])).length) Slot.unset).toArray = ls at hl ⊢
  replace hl : lv_has ls 2 [(0, .ref a0), (1, .int x)] := hl
  refine lv_aload_n hx hb dX11_image_0 rfl (lv_at hl 0 rfl) ?_
  refine va_get (D := D) (ci := 11) (v := .ref aM) (C := RX11) (T := TX11) (N := 10) hx hb hts iw_X11_image_X11 hown hK hP 0 rfl rfl 7 (by decide) (hts (.fieldLink RX11 63 "SoldHouse" "memory" "LSoldHouse$Memory;") (List.mem_of_getElem? (i := 1) rfl)) (fun _ h9 => h9) rfl dX11_image_1 ?_
  refine lv_iload_n hx hb dX11_image_4 rfl (lv_at hl 1 rfl) ?_
  have hPc := hP.sub (ws' := [(aM, .inr (3, [.ref aF1, .ref mo, .ref ma, .ref mk, .int 0, .int 0, .int 0, .ref mb, .ref mf])), (mo, .inl (cI, 32, .inl fn)), (mb, .inl (cG, 3, .inr (.inr (.inr (.inr br))))), (b0, .inl (cI, 32, .inl u0)), (b1, .inl (cI, 32, .inl u1)), (b2, .inl (cI, 32, .inl u2)), (mf, .inl (cZ, 3, .inl ff))]) [1, 2, 3, 4, 5, 6, 7] rfl
  have hDc := hD.sub (ws' := [(aM, .inr (3, [.ref aF1, .ref mo, .ref ma, .ref mk, .int 0, .int 0, .int 0, .ref mb, .ref mf])), (mo, .inl (cI, 32, .inl fn)), (mb, .inl (cG, 3, .inr (.inr (.inr (.inr br))))), (b0, .inl (cI, 32, .inl u0)), (b1, .inl (cI, 32, .inl u1)), (b2, .inl (cI, 32, .inl u2)), (mf, .inl (cZ, 3, .inl ff))]) [1, 2, 3, 4, 5, 6, 7] (by decide) rfl
  have hFc := va_free (wc := [(aM, .inr (3, [.ref aF1, .ref mo, .ref ma, .ref mk, .int 0, .int 0, .int 0, .ref mb, .ref mf])), (mo, .inl (cI, 32, .inl fn)), (mb, .inl (cG, 3, .inr (.inr (.inr (.inr br))))), (b0, .inl (cI, 32, .inl u0)), (b1, .inl (cI, 32, .inl u1)), (b2, .inl (cI, 32, .inl u2)), (mf, .inl (cZ, 3, .inl ff))]) hD hS hA [1, 2, 3, 4, 5, 6, 7] rfl
  refine va_calli (va_runV (As := [.int x]) (rest := []) ⟨hx, hb, hml, hown, hts⟩ (c_putInBox l D cI cB cL cZ cG aM aF1 mo ma mk mb mf fn br b0 b1 b2 u0 u1 u2 ff x H.size hf_fn_30 hf_fn_31 hk_br_0 hk_br_1 hk_br_2) (cwV 1 hts gX11_image_X3_putInBox rfl rfl rfl (by decide +kernel) ⟨Nat.le_of_ble_eq_true rfl, Nat.le_of_ble_eq_true rfl⟩) ⟨xp_blind, va_recv hK hPc (ci := 3) (q0 := 0) rfl rfl, fun U hU hW => xp_mk hU hW hPc hK hDc xNw_nil⟩ rfl rfl hl.1 rfl (lv_room (Nat.le_of_ble_eq_true rfl)) dX11_image_5 ⟨Nat.le_of_ble_eq_true rfl, Nat.le_of_ble_eq_true rfl⟩) hS (fun q _ h => hFc q h) hFc (fun r_1 u9 t9 H1 locs ht9 hvm9 hr_1 hB9 hz9 hk9 hS => ?_)
  clear hB9 hz9 hPc hDc
  obtain ⟨hP, hD⟩ := va_join (wr := [(a0, .inr (11, [.ref aP, .ref aD, .ref aT, .ref aR, .ref aF, .ref aU, .ref aH, .ref aM, .ref aW, .ref aN]))]) (w1 := []) hP hD [1, 2, 3, 4, 5, 6, 7] [0] rfl rfl (by decide) (by decide) hk9 hFc (fun k q h => by simp at h) ⟨fun i j p q h => by simp at h, fun k q h => by simp at h⟩
  clear hk9 hFc ht9 hvm9
  generalize H1 = H at hP hS ⊢
  replace hP : va_P D classes [(a0, .inr (11, [.ref aP, .ref aD, .ref aT, .ref aR, .ref aF, .ref aU, .ref aH, .ref aM, .ref aW, .ref aN]))] H := hP
  replace hD : va_D A [(a0, .inr (11, [.ref aP, .ref aD, .ref aT, .ref aR, .ref aF, .ref aU, .ref aH, .ref aM, .ref aW, .ref aN]))] := hD
  subst hr_1
  refine W.widen (k := 0) (n := 0) (Nat.le_of_ble_eq_true rfl) (Nat.le_of_ble_eq_true rfl) ?_
  exact W.iret (v := sp_rng 2 x) hx hb hr (fun t ht hW => ⟨⟨sp_rng 2 x, (), rfl, rfl, trivial⟩, hS.F ht⟩) hS.2.2 dX11_image_8
set_option maxHeartbeats 4000000 in
set_option maxRecDepth 100000 in
theorem c_fclear (l : Launch) (D : va_G) (cI : ClassId) (cB : ClassId) (cL : ClassId) (cZ : ClassId) (a0 : Nat) (s0 : Nat) (s1 : Nat) (s2 : Nat) (sz : Nat) : Met l yX1_clear wsX1_clear ({ frames := 0, cells := 0, slots := 0, locals := 0 }) (xp D [(cI, .int), (cB, .byte), (cL, .long), (cZ, .boolean)] [(a0, .inr (1, [.ref s0, .ref s1, .ref s2, .int 0, .int 0, .int 0]))] sz [] [.ref a0]) (va_Qv (fun _ : Unit => True) (fun (_ : Unit) (t : State) => xB D (va_A [(a0, .inr (1, [.ref s0, .ref s1, .ref s2, .int 0, .int 0, .int 0]))] sz) [(a0, .inr (1, [.ref s0, .ref s1, .ref s2, .int 0, .int 0, .int 0]))] t) (va_A [(a0, .inr (1, [.ref s0, .ref s1, .ref s2, .int 0, .int 0, .int 0]))] sz)) 0 0 (va_A [(a0, .inr (1, [.ref s0, .ref s1, .ref s2, .int 0, .int 0, .int 0]))] sz) := by
  refine Met.ofW (cc := cX1_clear) (maxL := 1) (ret := none) (by decide) rfl ?_
  intro p e s m args below meth c s₁ B hml hv
  obtain ⟨rfl, hsz, hP, hK, hD0, hNw⟩ := hv
  have hx := B.exec
  have hb := B.bytes
  have hr := B.returns
  have hts := atoms_spec (ws := wsX1_clear) B.pre
  have hown : s.vm.findClass RX1 = some m.cls := findClass_of_methodNamed B.named
  have hlocks := B.notSynchronized
  subst hsz
  have hD := hD0.self (sz := s.heap.size)
  clear hD0
  generalize hAe : va_A [(a0, .inr (1, [.ref s0, .ref s1, .ref s2, .int 0, .int 0, .int 0]))] s.heap.size = A at hD ⊢
  have hA : ∀ q : Nat, s.heap.size ≤ q → A q := fun q h => by rw [← hAe]; exact Or.inr h
  have hS : va_S A s.heap s.heap [] := va_S.rf
  clear hAe
  obtain ⟨H, hH⟩ : ∃ H : Heap, H = s.heap := ⟨_, rfl⟩
  obtain ⟨locs, hlocs⟩ : ∃ L : List Loc, L = [] := ⟨_, rfl⟩
  replace hP : va_P D classes [(a0, .inr (1, [.ref s0, .ref s1, .ref s2, .int 0, .int 0, .int 0]))] H := by rw [hH]; exact hP
  replace hS : va_S A s.heap H locs := by rw [hH, hlocs]; exact hS
  rw [← hH, ← hlocs]
  clear hlocs hH
  have hl := lv_entry ([.ref a0]) (n := 1) (Nat.le_of_ble_eq_true rfl)
  rw [lg_entry_eq]
  generalize (lg_sl ([.ref a0]) ++ List.replicate (1 - (lg_sl ([.ref a0])).length) Slot.unset).toArray = ls at hl ⊢
  replace hl : lv_has ls 1 [(0, .ref a0)] := hl
  refine lv_aload_n hx hb dX1_clear_0 rfl (lv_at hl 0 rfl) ?_
  refine lv_iconst (v := 0) hx hb dX1_clear_1 (by decide) ?_
  refine va_put (D := D) (ci := 1) (v := .int 0) (ty := tyX1 3) (C := RX1) (T := TX1) (N := 6) hx hb hts iw_X1_clear_X1 tyX1 tyX1_ok nmX1 hown hK hP hD hS 0 rfl rfl 3 (by decide) (hts (.fieldLink RX1 19 "SoldHouse$Formula" "size" "I") (List.mem_of_getElem? (i := 1) rfl)) (fun _ h9 => h9) rfl (by decide +kernel) rfl rfl (Nat.le_of_ble_eq_true rfl) dX1_clear_2 (fun H locs hP hD hS => ?_)
  replace hP : va_P D classes [(a0, .inr (1, [.ref s0, .ref s1, .ref s2, .int 0, .int 0, .int 0]))] H := hP
  replace hD : va_D A [(a0, .inr (1, [.ref s0, .ref s1, .ref s2, .int 0, .int 0, .int 0]))] := hD
  refine lv_aload_n hx hb dX1_clear_5 rfl (lv_at hl 0 rfl) ?_
  refine lv_iconst (v := 0) hx hb dX1_clear_6 (by decide) ?_
  refine va_put (D := D) (ci := 1) (v := .int 0) (ty := tyX1 4) (C := RX1) (T := TX1) (N := 6) hx hb hts iw_X1_clear_X1 tyX1 tyX1_ok nmX1 hown hK hP hD hS 0 rfl rfl 4 (by decide) (hts (.fieldLink RX1 23 "SoldHouse$Formula" "units" "I") (List.mem_of_getElem? (i := 2) rfl)) (fun _ h9 => h9) rfl (by decide +kernel) rfl rfl (Nat.le_of_ble_eq_true rfl) dX1_clear_7 (fun H locs hP hD hS => ?_)
  replace hP : va_P D classes [(a0, .inr (1, [.ref s0, .ref s1, .ref s2, .int 0, .int 0, .int 0]))] H := hP
  replace hD : va_D A [(a0, .inr (1, [.ref s0, .ref s1, .ref s2, .int 0, .int 0, .int 0]))] := hD
  refine lv_aload_n hx hb dX1_clear_10 rfl (lv_at hl 0 rfl) ?_
  refine lv_iconst (v := 0) hx hb dX1_clear_11 (by decide) ?_
  refine va_put (D := D) (ci := 1) (v := .int 0) (ty := tyX1 5) (C := RX1) (T := TX1) (N := 6) hx hb hts iw_X1_clear_X1 tyX1 tyX1_ok nmX1 hown hK hP hD hS 0 rfl rfl 5 (by decide) (hts (.fieldLink RX1 26 "SoldHouse$Formula" "told" "Z") (List.mem_of_getElem? (i := 3) rfl)) (fun _ h9 => h9) rfl (by decide +kernel) rfl rfl (Nat.le_of_ble_eq_true rfl) dX1_clear_12 (fun H locs hP hD hS => ?_)
  replace hP : va_P D classes [(a0, .inr (1, [.ref s0, .ref s1, .ref s2, .int 0, .int 0, .int 0]))] H := hP
  replace hD : va_D A [(a0, .inr (1, [.ref s0, .ref s1, .ref s2, .int 0, .int 0, .int 0]))] := hD
  have hP9 := hP.sub (ws' := [(a0, .inr (1, [.ref s0, .ref s1, .ref s2, .int 0, .int 0, .int 0]))]) [0] rfl
  have hD9 := hD.sub (ws' := [(a0, .inr (1, [.ref s0, .ref s1, .ref s2, .int 0, .int 0, .int 0]))]) [0] (by decide) rfl
  refine W.widen (k := 0) (n := 0) (Nat.le_of_ble_eq_true rfl) (Nat.le_of_ble_eq_true rfl) ?_
  exact W.vret hx hb hr (fun t ht hW => ⟨⟨(), rfl, trivial, ⟨by rw [ht]; exact hP9, hD9⟩⟩, hS.F ht⟩) hS.2.2 dX1_clear_15
set_option maxHeartbeats 4000000 in
set_option maxRecDepth 100000 in
theorem c_pclear (l : Launch) (D : va_G) (cI : ClassId) (cB : ClassId) (cL : ClassId) (cZ : ClassId) (a0 : Nat) (pz : Nat → Nat) (su : Nat) (s0 : Nat) (s1 : Nat) (s2 : Nat) (sz : Nat) : Met l yX5_clear wsX5_clear ({ frames := 1, cells := 0, slots := 0, locals := 20 }) (xp D [(cI, .int), (cB, .byte), (cL, .long), (cZ, .boolean)] [(a0, .inr (5, PF pz su)), (su, .inr (1, [.ref s0, .ref s1, .ref s2, .int 0, .int 0, .int 0]))] sz [] [.ref a0]) (va_Qv (fun _ : Unit => True) (fun (_ : Unit) (t : State) => xB D (va_A [(a0, .inr (5, PF pz su)), (su, .inr (1, [.ref s0, .ref s1, .ref s2, .int 0, .int 0, .int 0]))] sz) [(a0, .inr (5, PF pz su)), (su, .inr (1, [.ref s0, .ref s1, .ref s2, .int 0, .int 0, .int 0]))] t) (va_A [(a0, .inr (5, PF pz su)), (su, .inr (1, [.ref s0, .ref s1, .ref s2, .int 0, .int 0, .int 0]))] sz)) 0 0 (va_A [(a0, .inr (5, PF pz su)), (su, .inr (1, [.ref s0, .ref s1, .ref s2, .int 0, .int 0, .int 0]))] sz) := by
  refine Met.ofW (cc := cX5_clear) (maxL := 1) (ret := none) (by decide) rfl ?_
  intro p e s m args below meth c s₁ B hml hv
  obtain ⟨rfl, hsz, hP, hK, hD0, hNw⟩ := hv
  have hx := B.exec
  have hb := B.bytes
  have hr := B.returns
  have hts := atoms_spec (ws := wsX5_clear) B.pre
  have hown : s.vm.findClass RX5 = some m.cls := findClass_of_methodNamed B.named
  have hlocks := B.notSynchronized
  subst hsz
  have hD := hD0.self (sz := s.heap.size)
  clear hD0
  generalize hAe : va_A [(a0, .inr (5, PF pz su)), (su, .inr (1, [.ref s0, .ref s1, .ref s2, .int 0, .int 0, .int 0]))] s.heap.size = A at hD ⊢
  have hA : ∀ q : Nat, s.heap.size ≤ q → A q := fun q h => by rw [← hAe]; exact Or.inr h
  have hS : va_S A s.heap s.heap [] := va_S.rf
  clear hAe
  obtain ⟨H, hH⟩ : ∃ H : Heap, H = s.heap := ⟨_, rfl⟩
  obtain ⟨locs, hlocs⟩ : ∃ L : List Loc, L = [] := ⟨_, rfl⟩
  replace hP : va_P D classes [(a0, .inr (5, PF pz su)), (su, .inr (1, [.ref s0, .ref s1, .ref s2, .int 0, .int 0, .int 0]))] H := by rw [hH]; exact hP
  replace hS : va_S A s.heap H locs := by rw [hH, hlocs]; exact hS
  rw [← hH, ← hlocs]
  clear hlocs hH
  have hl := lv_entry ([.ref a0]) (n := 1) (Nat.le_of_ble_eq_true rfl)
  rw [lg_entry_eq]
  generalize (lg_sl ([.ref a0]) ++ List.replicate (1 - (lg_sl ([.ref a0])).length) Slot.unset).toArray = ls at hl ⊢
  replace hl : lv_has ls 1 [(0, .ref a0)] := hl
  refine lv_aload_n hx hb dX5_clear_0 rfl (lv_at hl 0 rfl) ?_
  refine lv_iconst (v := 0) hx hb dX5_clear_1 (by decide) ?_
  refine va_put (D := D) (ci := 5) (v := .int 0) (ty := tyX5 0) (C := RX5) (T := TX5) (N := 16) hx hb hts iw_X5_clear_X5 tyX5 tyX5_ok nmX5 hown hK hP hD hS 0 rfl rfl 0 (by decide) (hts (.fieldLink RX5 50 "SoldHouse$Plan" "rooms" "I") (List.mem_of_getElem? (i := 1) rfl)) (fun _ h9 => h9) rfl (by decide +kernel) rfl rfl (Nat.le_of_ble_eq_true rfl) dX5_clear_2 (fun H locs hP hD hS => ?_)
  replace hP : va_P D classes [(a0, .inr (5, PF pz su)), (su, .inr (1, [.ref s0, .ref s1, .ref s2, .int 0, .int 0, .int 0]))] H := hP
  replace hD : va_D A [(a0, .inr (5, PF pz su)), (su, .inr (1, [.ref s0, .ref s1, .ref s2, .int 0, .int 0, .int 0]))] := hD
  refine lv_aload_n hx hb dX5_clear_5 rfl (lv_at hl 0 rfl) ?_
  refine lv_iconst (v := 0) hx hb dX5_clear_6 (by decide) ?_
  refine va_put (D := D) (ci := 5) (v := .int 0) (ty := tyX5 3) (C := RX5) (T := TX5) (N := 16) hx hb hts iw_X5_clear_X5 tyX5 tyX5_ok nmX5 hown hK hP hD hS 0 rfl rfl 3 (by decide) (hts (.fieldLink RX5 54 "SoldHouse$Plan" "doors" "I") (List.mem_of_getElem? (i := 2) rfl)) (fun _ h9 => h9) rfl (by decide +kernel) rfl rfl (Nat.le_of_ble_eq_true rfl) dX5_clear_7 (fun H locs hP hD hS => ?_)
  replace hP : va_P D classes [(a0, .inr (5, PF pz su)), (su, .inr (1, [.ref s0, .ref s1, .ref s2, .int 0, .int 0, .int 0]))] H := hP
  replace hD : va_D A [(a0, .inr (5, PF pz su)), (su, .inr (1, [.ref s0, .ref s1, .ref s2, .int 0, .int 0, .int 0]))] := hD
  refine lv_aload_n hx hb dX5_clear_10 rfl (lv_at hl 0 rfl) ?_
  refine lv_iconst (v := 0) hx hb dX5_clear_11 (by decide) ?_
  refine va_put (D := D) (ci := 5) (v := .int 0) (ty := tyX5 6) (C := RX5) (T := TX5) (N := 16) hx hb hts iw_X5_clear_X5 tyX5 tyX5_ok nmX5 hown hK hP hD hS 0 rfl rfl 6 (by decide) (hts (.fieldLink RX5 57 "SoldHouse$Plan" "things" "I") (List.mem_of_getElem? (i := 3) rfl)) (fun _ h9 => h9) rfl (by decide +kernel) rfl rfl (Nat.le_of_ble_eq_true rfl) dX5_clear_12 (fun H locs hP hD hS => ?_)
  replace hP : va_P D classes [(a0, .inr (5, PF pz su)), (su, .inr (1, [.ref s0, .ref s1, .ref s2, .int 0, .int 0, .int 0]))] H := hP
  replace hD : va_D A [(a0, .inr (5, PF pz su)), (su, .inr (1, [.ref s0, .ref s1, .ref s2, .int 0, .int 0, .int 0]))] := hD
  refine lv_aload_n hx hb dX5_clear_15 rfl (lv_at hl 0 rfl) ?_
  refine va_get (D := D) (ci := 5) (v := .ref su) (C := RX5) (T := TX5) (N := 16) hx hb hts iw_X5_clear_X5 hown hK hP 0 rfl rfl 13 (by decide) (hts (.fieldLink RX5 46 "SoldHouse$Plan" "sure" "LSoldHouse$Formula;") (List.mem_of_getElem? (i := 4) rfl)) (fun _ h9 => h9) rfl dX5_clear_16 ?_
  have hPc := hP.sub (ws' := [(su, .inr (1, [.ref s0, .ref s1, .ref s2, .int 0, .int 0, .int 0]))]) [1] rfl
  have hDc := hD.sub (ws' := [(su, .inr (1, [.ref s0, .ref s1, .ref s2, .int 0, .int 0, .int 0]))]) [1] (by decide) rfl
  have hFc := va_free (wc := [(su, .inr (1, [.ref s0, .ref s1, .ref s2, .int 0, .int 0, .int 0]))]) hD hS hA [1] rfl
  refine va_callv (va_runV (As := []) (rest := []) ⟨hx, hb, hml, hown, hts⟩ (c_fclear l D cI cB cL cZ su s0 s1 s2 H.size) (cwV 0 hts gX5_clear_X1_clear rfl rfl rfl (by decide +kernel) ⟨Nat.le_of_ble_eq_true rfl, Nat.le_of_ble_eq_true rfl⟩) ⟨xp_blind, va_recv hK hPc (ci := 1) (q0 := 0) rfl rfl, fun U hU hW => xp_mk hU hW hPc hK hDc xNw_nil⟩ rfl rfl hl.1 rfl (lv_room (Nat.le_of_ble_eq_true rfl)) dX5_clear_19 ⟨Nat.le_of_ble_eq_true rfl, Nat.le_of_ble_eq_true rfl⟩) hS (fun q _ h => hFc q h) hFc (fun u9 t9 H1 locs ht9 hvm9 hr_1 hB9 hz9 hk9 hS => ?_)
  obtain ⟨hP1, hD1⟩ := hB9
  rw [ht9] at hP1
  obtain ⟨hP, hD⟩ := va_join (wr := [(a0, .inr (5, PF pz su))]) (w1 := [(su, .inr (1, [.ref s0, .ref s1, .ref s2, .int 0, .int 0, .int 0]))]) hP hD [1] [0] rfl rfl (by decide) (by decide) hk9 hFc hP1 hD1
  clear hz9 hPc hDc hP1 hD1
  clear hk9 hFc ht9 hvm9
  generalize H1 = H at hP hS ⊢
  replace hP : va_P D classes [(a0, .inr (5, PF pz su)), (su, .inr (1, [.ref s0, .ref s1, .ref s2, .int 0, .int 0, .int 0]))] H := hP
  replace hD : va_D A [(a0, .inr (5, PF pz su)), (su, .inr (1, [.ref s0, .ref s1, .ref s2, .int 0, .int 0, .int 0]))] := hD
  refine lv_aload_n hx hb dX5_clear_22 rfl (lv_at hl 0 rfl) ?_
  refine lv_iconst (v := 0) hx hb dX5_clear_23 (by decide) ?_
  refine va_put (D := D) (ci := 5) (v := .int 0) (ty := tyX5 14) (C := RX5) (T := TX5) (N := 16) hx hb hts iw_X5_clear_X5 tyX5 tyX5_ok nmX5 hown hK hP hD hS 0 rfl rfl 14 (by decide) (hts (.fieldLink RX5 63 "SoldHouse$Plan" "draw" "I") (List.mem_of_getElem? (i := 5) rfl)) (fun _ h9 => h9) rfl (by decide +kernel) rfl rfl (Nat.le_of_ble_eq_true rfl) dX5_clear_24 (fun H locs hP hD hS => ?_)
  replace hP : va_P D classes [(a0, .inr (5, PF pz su)), (su, .inr (1, [.ref s0, .ref s1, .ref s2, .int 0, .int 0, .int 0]))] H := hP
  replace hD : va_D A [(a0, .inr (5, PF pz su)), (su, .inr (1, [.ref s0, .ref s1, .ref s2, .int 0, .int 0, .int 0]))] := hD
  refine lv_aload_n hx hb dX5_clear_27 rfl (lv_at hl 0 rfl) ?_
  refine lv_iconst (v := 0) hx hb dX5_clear_28 (by decide) ?_
  refine va_put (D := D) (ci := 5) (v := .int 0) (ty := tyX5 15) (C := RX5) (T := TX5) (N := 16) hx hb hts iw_X5_clear_X5 tyX5 tyX5_ok nmX5 hown hK hP hD hS 0 rfl rfl 15 (by decide) (hts (.fieldLink RX5 66 "SoldHouse$Plan" "drawTold" "Z") (List.mem_of_getElem? (i := 6) rfl)) (fun _ h9 => h9) rfl (by decide +kernel) rfl rfl (Nat.le_of_ble_eq_true rfl) dX5_clear_29 (fun H locs hP hD hS => ?_)
  replace hP : va_P D classes [(a0, .inr (5, PF pz su)), (su, .inr (1, [.ref s0, .ref s1, .ref s2, .int 0, .int 0, .int 0]))] H := hP
  replace hD : va_D A [(a0, .inr (5, PF pz su)), (su, .inr (1, [.ref s0, .ref s1, .ref s2, .int 0, .int 0, .int 0]))] := hD
  have hP9 := hP.sub (ws' := [(a0, .inr (5, PF pz su)), (su, .inr (1, [.ref s0, .ref s1, .ref s2, .int 0, .int 0, .int 0]))]) [0, 1] rfl
  have hD9 := hD.sub (ws' := [(a0, .inr (5, PF pz su)), (su, .inr (1, [.ref s0, .ref s1, .ref s2, .int 0, .int 0, .int 0]))]) [0, 1] (by decide) rfl
  refine W.widen (k := 0) (n := 0) (Nat.le_of_ble_eq_true rfl) (Nat.le_of_ble_eq_true rfl) ?_
  exact W.vret hx hb hr (fun t ht hW => ⟨⟨(), rfl, trivial, ⟨by rw [ht]; exact hP9, hD9⟩⟩, hS.F ht⟩) hS.2.2 dX5_clear_32
set_option maxHeartbeats 4000000 in
set_option maxRecDepth 100000 in
theorem c_advance (l : Launch) (D : va_G) (cI : ClassId) (cB : ClassId) (cL : ClassId) (cZ : ClassId) (a0 : Nat) (aT : Nat) (to : Nat) (tb : Nat) (tk2 : Int32) (tk3 : Int32) (tk6 : Int32) (tk5 : Int64) (sz : Nat) : Met l yX9_advance wsX9_advance ({ frames := 0, cells := 0, slots := 0, locals := 0 }) (xp D [(cI, .int), (cB, .byte), (cL, .long), (cZ, .boolean)] [(a0, .inr (9, [.ref aT, .ref to, .int tk2, .int tk3, .int 0, .long tk5, .int tk6])), (aT, .inr (8, [.ref tb, .int 0]))] sz [] [.ref a0]) (va_Qv (fun _ : Unit => True) (fun (_ : Unit) (t : State) => xB D (va_A [(a0, .inr (9, [.ref aT, .ref to, .int tk2, .int tk3, .int 0, .long tk5, .int tk6])), (aT, .inr (8, [.ref tb, .int 0]))] sz) [(a0, .inr (9, [.ref aT, .ref to, .int 0, .int 0, .int 0, .long tk5, .int tk6])), (aT, .inr (8, [.ref tb, .int 0]))] t) (va_A [(a0, .inr (9, [.ref aT, .ref to, .int tk2, .int tk3, .int 0, .long tk5, .int tk6])), (aT, .inr (8, [.ref tb, .int 0]))] sz)) 0 0 (va_A [(a0, .inr (9, [.ref aT, .ref to, .int tk2, .int tk3, .int 0, .long tk5, .int tk6])), (aT, .inr (8, [.ref tb, .int 0]))] sz) := by
  refine Met.ofW (cc := cX9_advance) (maxL := 1) (ret := none) (by decide) rfl ?_
  intro p e s m args below meth c s₁ B hml hv
  obtain ⟨rfl, hsz, hP, hK, hD0, hNw⟩ := hv
  have hx := B.exec
  have hb := B.bytes
  have hr := B.returns
  have hts := atoms_spec (ws := wsX9_advance) B.pre
  have hown : s.vm.findClass RX9 = some m.cls := findClass_of_methodNamed B.named
  have hlocks := B.notSynchronized
  subst hsz
  have hD := hD0.self (sz := s.heap.size)
  clear hD0
  generalize hAe : va_A [(a0, .inr (9, [.ref aT, .ref to, .int tk2, .int tk3, .int 0, .long tk5, .int tk6])), (aT, .inr (8, [.ref tb, .int 0]))] s.heap.size = A at hD ⊢
  have hA : ∀ q : Nat, s.heap.size ≤ q → A q := fun q h => by rw [← hAe]; exact Or.inr h
  have hS : va_S A s.heap s.heap [] := va_S.rf
  clear hAe
  obtain ⟨H, hH⟩ : ∃ H : Heap, H = s.heap := ⟨_, rfl⟩
  obtain ⟨locs, hlocs⟩ : ∃ L : List Loc, L = [] := ⟨_, rfl⟩
  replace hP : va_P D classes [(a0, .inr (9, [.ref aT, .ref to, .int tk2, .int tk3, .int 0, .long tk5, .int tk6])), (aT, .inr (8, [.ref tb, .int 0]))] H := by rw [hH]; exact hP
  replace hS : va_S A s.heap H locs := by rw [hH, hlocs]; exact hS
  rw [← hH, ← hlocs]
  clear hlocs hH
  have hl := lv_entry ([.ref a0]) (n := 1) (Nat.le_of_ble_eq_true rfl)
  rw [lg_entry_eq]
  generalize (lg_sl ([.ref a0]) ++ List.replicate (1 - (lg_sl ([.ref a0])).length) Slot.unset).toArray = ls at hl ⊢
  replace hl : lv_has ls 1 [(0, .ref a0)] := hl
  refine lv_aload_n hx hb dX9_advance_0 rfl (lv_at hl 0 rfl) ?_
  refine va_get (D := D) (ci := 9) (v := .int 0) (C := RX9) (T := TX9) (N := 7) hx hb hts iw_X9_advance_X9 hown hK hP 0 rfl rfl 4 (by decide) (hts (.fieldLink RX9 35 "SoldHouse$Tokens" "behind" "I") (List.mem_of_getElem? (i := 1) rfl)) (fun _ h9 => h9) rfl dX9_advance_1 ?_
  refine lv_aload_n hx hb dX9_advance_4 rfl (lv_at hl 0 rfl) ?_
  refine va_get (D := D) (ci := 9) (v := .ref aT) (C := RX9) (T := TX9) (N := 7) hx hb hts iw_X9_advance_X9 hown hK hP 0 rfl rfl 0 (by decide) (hts (.fieldLink RX9 15 "SoldHouse$Tokens" "tape" "LSoldHouse$Tape;") (List.mem_of_getElem? (i := 2) rfl)) (fun _ h9 => h9) rfl dX9_advance_5 ?_
  refine va_get (D := D) (ci := 8) (v := .int 0) (C := RX8) (T := TX8) (N := 2) hx hb hts iw_X9_advance_X8 hown hK hP 1 rfl rfl 1 (by decide) (hts (.fieldLink RX9 42 "SoldHouse$Tape" "size" "I") (List.mem_of_getElem? (i := 3) rfl)) (fun _ h9 => h9) rfl dX9_advance_8 ?_
  refine lv_icmp_ge (tgt := 45) hx hb dX9_advance_11 (by decide) (fun _ => ?_) (fun c_1 => absurd (by decide) c_1)
  refine lv_aload_n hx hb dX9_advance_45 rfl (lv_at hl 0 rfl) ?_
  refine lv_aload_n hx hb dX9_advance_46 rfl (lv_at hl 0 rfl) ?_
  refine va_get (D := D) (ci := 9) (v := .int 0) (C := RX9) (T := TX9) (N := 7) hx hb hts iw_X9_advance_X9 hown hK hP 0 rfl rfl 4 (by decide) (hts (.fieldLink RX9 35 "SoldHouse$Tokens" "behind" "I") (List.mem_of_getElem? (i := 1) rfl)) (fun _ h9 => h9) rfl dX9_advance_47 ?_
  refine va_put (D := D) (ci := 9) (v := .int 0) (ty := tyX9 3) (C := RX9) (T := TX9) (N := 7) hx hb hts iw_X9_advance_X9 tyX9 tyX9_ok nmX9 hown hK hP hD hS 0 rfl rfl 3 (by decide) (hts (.fieldLink RX9 55 "SoldHouse$Tokens" "place" "I") (List.mem_of_getElem? (i := 5) rfl)) (fun _ h9 => h9) rfl (by decide +kernel) rfl rfl (Nat.le_of_ble_eq_true rfl) dX9_advance_50 (fun H locs hP hD hS => ?_)
  replace hP : va_P D classes [(a0, .inr (9, [.ref aT, .ref to, .int tk2, .int 0, .int 0, .long tk5, .int tk6])), (aT, .inr (8, [.ref tb, .int 0]))] H := hP
  replace hD : va_D A [(a0, .inr (9, [.ref aT, .ref to, .int tk2, .int 0, .int 0, .long tk5, .int tk6])), (aT, .inr (8, [.ref tb, .int 0]))] := hD
  refine lv_aload_n hx hb dX9_advance_53 rfl (lv_at hl 0 rfl) ?_
  refine va_get (D := D) (ci := 9) (v := .int 0) (C := RX9) (T := TX9) (N := 7) hx hb hts iw_X9_advance_X9 hown hK hP 0 rfl rfl 4 (by decide) (hts (.fieldLink RX9 35 "SoldHouse$Tokens" "behind" "I") (List.mem_of_getElem? (i := 1) rfl)) (fun _ h9 => h9) rfl dX9_advance_54 ?_
  refine lv_aload_n hx hb dX9_advance_57 rfl (lv_at hl 0 rfl) ?_
  refine va_get (D := D) (ci := 9) (v := .ref aT) (C := RX9) (T := TX9) (N := 7) hx hb hts iw_X9_advance_X9 hown hK hP 0 rfl rfl 0 (by decide) (hts (.fieldLink RX9 15 "SoldHouse$Tokens" "tape" "LSoldHouse$Tape;") (List.mem_of_getElem? (i := 2) rfl)) (fun _ h9 => h9) rfl dX9_advance_58 ?_
  refine va_get (D := D) (ci := 8) (v := .int 0) (C := RX8) (T := TX8) (N := 2) hx hb hts iw_X9_advance_X8 hown hK hP 1 rfl rfl 1 (by decide) (hts (.fieldLink RX9 42 "SoldHouse$Tape" "size" "I") (List.mem_of_getElem? (i := 3) rfl)) (fun _ h9 => h9) rfl dX9_advance_61 ?_
  refine lv_icmp_lt (tgt := 75) hx hb dX9_advance_64 (by decide) (fun c_2 => absurd c_2 (by decide)) (fun _ => ?_)
  refine lv_aload_n hx hb dX9_advance_67 rfl (lv_at hl 0 rfl) ?_
  refine lv_iconst (v := 0) hx hb dX9_advance_68 (by decide) ?_
  refine va_put (D := D) (ci := 9) (v := .int 0) (ty := tyX9 2) (C := RX9) (T := TX9) (N := 7) hx hb hts iw_X9_advance_X9 tyX9 tyX9_ok nmX9 hown hK hP hD hS 0 rfl rfl 2 (by decide) (hts (.fieldLink RX9 58 "SoldHouse$Tokens" "kind" "I") (List.mem_of_getElem? (i := 6) rfl)) (fun _ h9 => h9) rfl (by decide +kernel) rfl rfl (Nat.le_of_ble_eq_true rfl) dX9_advance_69 (fun H locs hP hD hS => ?_)
  replace hP : va_P D classes [(a0, .inr (9, [.ref aT, .ref to, .int 0, .int 0, .int 0, .long tk5, .int tk6])), (aT, .inr (8, [.ref tb, .int 0]))] H := hP
  replace hD : va_D A [(a0, .inr (9, [.ref aT, .ref to, .int 0, .int 0, .int 0, .long tk5, .int tk6])), (aT, .inr (8, [.ref tb, .int 0]))] := hD
  refine lv_goto (tgt := 129) hx hb dX9_advance_72 (by decide) ?_
  have hP9 := hP.sub (ws' := [(a0, .inr (9, [.ref aT, .ref to, .int 0, .int 0, .int 0, .long tk5, .int tk6])), (aT, .inr (8, [.ref tb, .int 0]))]) [0, 1] rfl
  have hD9 := hD.sub (ws' := [(a0, .inr (9, [.ref aT, .ref to, .int 0, .int 0, .int 0, .long tk5, .int tk6])), (aT, .inr (8, [.ref tb, .int 0]))]) [0, 1] (by decide) rfl
  refine W.widen (k := 0) (n := 0) (Nat.le_of_ble_eq_true rfl) (Nat.le_of_ble_eq_true rfl) ?_
  exact W.vret hx hb hr (fun t ht hW => ⟨⟨(), rfl, trivial, ⟨by rw [ht]; exact hP9, hD9⟩⟩, hS.F ht⟩) hS.2.2 dX9_advance_129
set_option maxHeartbeats 4000000 in
set_option maxRecDepth 100000 in
theorem c_tbegin (l : Launch) (D : va_G) (cI : ClassId) (cB : ClassId) (cL : ClassId) (cZ : ClassId) (a0 : Nat) (tb : Nat) (aT : Nat) (to : Nat) (tk2 : Int32) (tk3 : Int32) (tk4 : Int32) (tk6 : Int32) (tk5 : Int64) (sz : Nat) : Met l yX9_begin wsX9_begin ({ frames := 1, cells := 0, slots := 0, locals := 20 }) (xp D [(cI, .int), (cB, .byte), (cL, .long), (cZ, .boolean)] [(a0, .inr (9, [.ref aT, .ref to, .int tk2, .int tk3, .int tk4, .long tk5, .int tk6])), (aT, .inr (8, [.ref tb, .int 0]))] sz [] [.ref a0]) (va_Qv (fun _ : Unit => True) (fun (_ : Unit) (t : State) => xB D (va_A [(a0, .inr (9, [.ref aT, .ref to, .int tk2, .int tk3, .int tk4, .long tk5, .int tk6])), (aT, .inr (8, [.ref tb, .int 0]))] sz) [(a0, .inr (9, [.ref aT, .ref to, .int 0, .int 0, .int 0, .long tk5, .int tk6])), (aT, .inr (8, [.ref tb, .int 0]))] t) (va_A [(a0, .inr (9, [.ref aT, .ref to, .int tk2, .int tk3, .int tk4, .long tk5, .int tk6])), (aT, .inr (8, [.ref tb, .int 0]))] sz)) 0 0 (va_A [(a0, .inr (9, [.ref aT, .ref to, .int tk2, .int tk3, .int tk4, .long tk5, .int tk6])), (aT, .inr (8, [.ref tb, .int 0]))] sz) := by
  refine Met.ofW (cc := cX9_begin) (maxL := 1) (ret := none) (by decide) rfl ?_
  intro p e s m args below meth c s₁ B hml hv
  obtain ⟨rfl, hsz, hP, hK, hD0, hNw⟩ := hv
  have hx := B.exec
  have hb := B.bytes
  have hr := B.returns
  have hts := atoms_spec (ws := wsX9_begin) B.pre
  have hown : s.vm.findClass RX9 = some m.cls := findClass_of_methodNamed B.named
  have hlocks := B.notSynchronized
  subst hsz
  have hD := hD0.self (sz := s.heap.size)
  clear hD0
  generalize hAe : va_A [(a0, .inr (9, [.ref aT, .ref to, .int tk2, .int tk3, .int tk4, .long tk5, .int tk6])), (aT, .inr (8, [.ref tb, .int 0]))] s.heap.size = A at hD ⊢
  have hA : ∀ q : Nat, s.heap.size ≤ q → A q := fun q h => by rw [← hAe]; exact Or.inr h
  have hS : va_S A s.heap s.heap [] := va_S.rf
  clear hAe
  obtain ⟨H, hH⟩ : ∃ H : Heap, H = s.heap := ⟨_, rfl⟩
  obtain ⟨locs, hlocs⟩ : ∃ L : List Loc, L = [] := ⟨_, rfl⟩
  replace hP : va_P D classes [(a0, .inr (9, [.ref aT, .ref to, .int tk2, .int tk3, .int tk4, .long tk5, .int tk6])), (aT, .inr (8, [.ref tb, .int 0]))] H := by rw [hH]; exact hP
  replace hS : va_S A s.heap H locs := by rw [hH, hlocs]; exact hS
  rw [← hH, ← hlocs]
  clear hlocs hH
  have hl := lv_entry ([.ref a0]) (n := 1) (Nat.le_of_ble_eq_true rfl)
  rw [lg_entry_eq]
  generalize (lg_sl ([.ref a0]) ++ List.replicate (1 - (lg_sl ([.ref a0])).length) Slot.unset).toArray = ls at hl ⊢
  replace hl : lv_has ls 1 [(0, .ref a0)] := hl
  refine lv_aload_n hx hb dX9_begin_0 rfl (lv_at hl 0 rfl) ?_
  refine lv_iconst (v := 0) hx hb dX9_begin_1 (by decide) ?_
  refine va_put (D := D) (ci := 9) (v := .int 0) (ty := tyX9 4) (C := RX9) (T := TX9) (N := 7) hx hb hts iw_X9_begin_X9 tyX9 tyX9_ok nmX9 hown hK hP hD hS 0 rfl rfl 4 (by decide) (hts (.fieldLink RX9 35 "SoldHouse$Tokens" "behind" "I") (List.mem_of_getElem? (i := 1) rfl)) (fun _ h9 => h9) rfl (by decide +kernel) rfl rfl (Nat.le_of_ble_eq_true rfl) dX9_begin_2 (fun H locs hP hD hS => ?_)
  replace hP : va_P D classes [(a0, .inr (9, [.ref aT, .ref to, .int tk2, .int tk3, .int 0, .long tk5, .int tk6])), (aT, .inr (8, [.ref tb, .int 0]))] H := hP
  replace hD : va_D A [(a0, .inr (9, [.ref aT, .ref to, .int tk2, .int tk3, .int 0, .long tk5, .int tk6])), (aT, .inr (8, [.ref tb, .int 0]))] := hD
  refine lv_aload_n hx hb dX9_begin_5 rfl (lv_at hl 0 rfl) ?_
  have hPc := hP.sub (ws' := [(a0, .inr (9, [.ref aT, .ref to, .int tk2, .int tk3, .int 0, .long tk5, .int tk6])), (aT, .inr (8, [.ref tb, .int 0]))]) [0, 1] rfl
  have hDc := hD.sub (ws' := [(a0, .inr (9, [.ref aT, .ref to, .int tk2, .int tk3, .int 0, .long tk5, .int tk6])), (aT, .inr (8, [.ref tb, .int 0]))]) [0, 1] (by decide) rfl
  have hFc := va_free (wc := [(a0, .inr (9, [.ref aT, .ref to, .int tk2, .int tk3, .int 0, .long tk5, .int tk6])), (aT, .inr (8, [.ref tb, .int 0]))]) hD hS hA [0, 1] rfl
  refine va_callv (va_runV (As := []) (rest := []) ⟨hx, hb, hml, hown, hts⟩ (c_advance l D cI cB cL cZ a0 aT to tb tk2 tk3 tk6 tk5 H.size) (cwV 0 hts gX9_begin_X9_advance rfl rfl rfl (by decide +kernel) ⟨Nat.le_of_ble_eq_true rfl, Nat.le_of_ble_eq_true rfl⟩) ⟨xp_blind, va_recv hK hPc (ci := 9) (q0 := 0) rfl rfl, fun U hU hW => xp_mk hU hW hPc hK hDc xNw_nil⟩ rfl rfl hl.1 rfl (lv_room (Nat.le_of_ble_eq_true rfl)) dX9_begin_6 ⟨Nat.le_of_ble_eq_true rfl, Nat.le_of_ble_eq_true rfl⟩) hS (fun q _ h => hFc q h) hFc (fun u9 t9 H1 locs ht9 hvm9 hr_1 hB9 hz9 hk9 hS => ?_)
  obtain ⟨hP1, hD1⟩ := hB9
  rw [ht9] at hP1
  obtain ⟨hP, hD⟩ := va_join (wr := []) (w1 := [(a0, .inr (9, [.ref aT, .ref to, .int 0, .int 0, .int 0, .long tk5, .int tk6])), (aT, .inr (8, [.ref tb, .int 0]))]) hP hD [0, 1] [] rfl rfl (by decide) (by decide) hk9 hFc hP1 hD1
  clear hz9 hPc hDc hP1 hD1
  clear hk9 hFc ht9 hvm9
  generalize H1 = H at hP hS ⊢
  replace hP : va_P D classes [(a0, .inr (9, [.ref aT, .ref to, .int 0, .int 0, .int 0, .long tk5, .int tk6])), (aT, .inr (8, [.ref tb, .int 0]))] H := hP
  replace hD : va_D A [(a0, .inr (9, [.ref aT, .ref to, .int 0, .int 0, .int 0, .long tk5, .int tk6])), (aT, .inr (8, [.ref tb, .int 0]))] := hD
  have hP9 := hP.sub (ws' := [(a0, .inr (9, [.ref aT, .ref to, .int 0, .int 0, .int 0, .long tk5, .int tk6])), (aT, .inr (8, [.ref tb, .int 0]))]) [0, 1] rfl
  have hD9 := hD.sub (ws' := [(a0, .inr (9, [.ref aT, .ref to, .int 0, .int 0, .int 0, .long tk5, .int tk6])), (aT, .inr (8, [.ref tb, .int 0]))]) [0, 1] (by decide) rfl
  refine W.widen (k := 0) (n := 0) (Nat.le_of_ble_eq_true rfl) (Nat.le_of_ble_eq_true rfl) ?_
  exact W.vret hx hb hr (fun t ht hW => ⟨⟨(), rfl, trivial, ⟨by rw [ht]; exact hP9, hD9⟩⟩, hS.F ht⟩) hS.2.2 dX9_begin_9
set_option maxHeartbeats 4000000 in
set_option maxRecDepth 100000 in
theorem c_readInto (l : Launch) (D : va_G) (cI : ClassId) (cB : ClassId) (cL : ClassId) (cZ : ClassId) (a0 : Nat) (rt : Nat) (aX : Nat) (aY : Nat) (tb : Nat) (aT : Nat) (to : Nat) (tk2 : Int32) (tk3 : Int32) (tk4 : Int32) (tk6 : Int32) (tk5 : Int64) (sz : Nat) : Met l yX6_readInto wsX6_readInto ({ frames := 2, cells := 0, slots := 0, locals := 40 }) (xp D [(cI, .int), (cB, .byte), (cL, .long), (cZ, .boolean)] [(a0, .inr (6, [.ref rt, .ref aY, .int 0, .int (-1)])), (rt, .inr (9, [.ref aT, .ref to, .int tk2, .int tk3, .int tk4, .long tk5, .int tk6])), (aT, .inr (8, [.ref tb, .int 0]))] sz [] [.ref a0, .ref aX]) (va_Qi (fun (r : Int32) (_ : Unit) => r = 1) (fun (_ : Unit) (t : State) => xB D (va_A [(a0, .inr (6, [.ref rt, .ref aY, .int 0, .int (-1)])), (rt, .inr (9, [.ref aT, .ref to, .int tk2, .int tk3, .int tk4, .long tk5, .int tk6])), (aT, .inr (8, [.ref tb, .int 0]))] sz) [(a0, .inr (6, [.ref rt, .ref aX, .int 0, .int (-1)])), (rt, .inr (9, [.ref aT, .ref to, .int 0, .int 0, .int 0, .long tk5, .int tk6])), (aT, .inr (8, [.ref tb, .int 0]))] t) (va_A [(a0, .inr (6, [.ref rt, .ref aY, .int 0, .int (-1)])), (rt, .inr (9, [.ref aT, .ref to, .int tk2, .int tk3, .int tk4, .long tk5, .int tk6])), (aT, .inr (8, [.ref tb, .int 0]))] sz)) 0 0 (va_A [(a0, .inr (6, [.ref rt, .ref aY, .int 0, .int (-1)])), (rt, .inr (9, [.ref aT, .ref to, .int tk2, .int tk3, .int tk4, .long tk5, .int tk6])), (aT, .inr (8, [.ref tb, .int 0]))] sz) := by
  refine Met.ofW (cc := cX6_readInto) (maxL := 4) (ret := (some .boolean)) (by decide) rfl ?_
  intro p e s m args below meth c s₁ B hml hv
  obtain ⟨rfl, hsz, hP, hK, hD0, hNw⟩ := hv
  have hx := B.exec
  have hb := B.bytes
  have hr := B.returns
  have hts := atoms_spec (ws := wsX6_readInto) B.pre
  have hown : s.vm.findClass RX6 = some m.cls := findClass_of_methodNamed B.named
  have hlocks := B.notSynchronized
  subst hsz
  have hD := hD0.self (sz := s.heap.size)
  clear hD0
  generalize hAe : va_A [(a0, .inr (6, [.ref rt, .ref aY, .int 0, .int (-1)])), (rt, .inr (9, [.ref aT, .ref to, .int tk2, .int tk3, .int tk4, .long tk5, .int tk6])), (aT, .inr (8, [.ref tb, .int 0]))] s.heap.size = A at hD ⊢
  have hA : ∀ q : Nat, s.heap.size ≤ q → A q := fun q h => by rw [← hAe]; exact Or.inr h
  have hS : va_S A s.heap s.heap [] := va_S.rf
  clear hAe
  obtain ⟨H, hH⟩ : ∃ H : Heap, H = s.heap := ⟨_, rfl⟩
  obtain ⟨locs, hlocs⟩ : ∃ L : List Loc, L = [] := ⟨_, rfl⟩
  replace hP : va_P D classes [(a0, .inr (6, [.ref rt, .ref aY, .int 0, .int (-1)])), (rt, .inr (9, [.ref aT, .ref to, .int tk2, .int tk3, .int tk4, .long tk5, .int tk6])), (aT, .inr (8, [.ref tb, .int 0]))] H := by rw [hH]; exact hP
  replace hS : va_S A s.heap H locs := by rw [hH, hlocs]; exact hS
  rw [← hH, ← hlocs]
  clear hlocs hH
  have hl := lv_entry ([.ref a0, .ref aX]) (n := 4) (Nat.le_of_ble_eq_true rfl)
  rw [lg_entry_eq]
  generalize (lg_sl ([.ref a0, .ref aX]) ++ List.replicate (4 - (lg_sl ([.ref a0, .ref aX])).length) Slot.unset).toArray = ls at hl ⊢
  replace hl : lv_has ls 4 [(0, .ref a0), (1, .ref aX)] := hl
  refine lv_aload_n hx hb dX6_readInto_0 rfl (lv_at hl 0 rfl) ?_
  refine lv_aload_n hx hb dX6_readInto_1 rfl (lv_at hl 1 rfl) ?_
  refine va_put (D := D) (ci := 6) (v := .ref aX) (ty := tyX6 1) (C := RX6) (T := TX6) (N := 4) hx hb hts iw_X6_readInto_X6 tyX6 tyX6_ok nmX6 hown hK hP hD hS 0 rfl rfl 1 (by decide) (hts (.fieldLink RX6 24 "SoldHouse$Reader" "plan" "LSoldHouse$Plan;") (List.mem_of_getElem? (i := 1) rfl)) (fun _ h9 => h9) rfl (by decide +kernel) rfl rfl (Nat.le_of_ble_eq_true rfl) dX6_readInto_2 (fun H locs hP hD hS => ?_)
  replace hP : va_P D classes [(a0, .inr (6, [.ref rt, .ref aX, .int 0, .int (-1)])), (rt, .inr (9, [.ref aT, .ref to, .int tk2, .int tk3, .int tk4, .long tk5, .int tk6])), (aT, .inr (8, [.ref tb, .int 0]))] H := hP
  replace hD : va_D A [(a0, .inr (6, [.ref rt, .ref aX, .int 0, .int (-1)])), (rt, .inr (9, [.ref aT, .ref to, .int tk2, .int tk3, .int tk4, .long tk5, .int tk6])), (aT, .inr (8, [.ref tb, .int 0]))] := hD
  refine lv_aload_n hx hb dX6_readInto_5 rfl (lv_at hl 0 rfl) ?_
  refine lv_iconst (v := 0) hx hb dX6_readInto_6 (by decide) ?_
  refine va_put (D := D) (ci := 6) (v := .int 0) (ty := tyX6 2) (C := RX6) (T := TX6) (N := 4) hx hb hts iw_X6_readInto_X6 tyX6 tyX6_ok nmX6 hown hK hP hD hS 0 rfl rfl 2 (by decide) (hts (.fieldLink RX6 28 "SoldHouse$Reader" "fault" "I") (List.mem_of_getElem? (i := 2) rfl)) (fun _ h9 => h9) rfl (by decide +kernel) rfl rfl (Nat.le_of_ble_eq_true rfl) dX6_readInto_7 (fun H locs hP hD hS => ?_)
  replace hP : va_P D classes [(a0, .inr (6, [.ref rt, .ref aX, .int 0, .int (-1)])), (rt, .inr (9, [.ref aT, .ref to, .int tk2, .int tk3, .int tk4, .long tk5, .int tk6])), (aT, .inr (8, [.ref tb, .int 0]))] H := hP
  replace hD : va_D A [(a0, .inr (6, [.ref rt, .ref aX, .int 0, .int (-1)])), (rt, .inr (9, [.ref aT, .ref to, .int tk2, .int tk3, .int tk4, .long tk5, .int tk6])), (aT, .inr (8, [.ref tb, .int 0]))] := hD
  refine lv_aload_n hx hb dX6_readInto_10 rfl (lv_at hl 0 rfl) ?_
  refine lv_iconst (v := (-1)) hx hb dX6_readInto_11 (by decide) ?_
  refine va_put (D := D) (ci := 6) (v := .int (-1)) (ty := tyX6 3) (C := RX6) (T := TX6) (N := 4) hx hb hts iw_X6_readInto_X6 tyX6 tyX6_ok nmX6 hown hK hP hD hS 0 rfl rfl 3 (by decide) (hts (.fieldLink RX6 9 "SoldHouse$Reader" "faultPlace" "I") (List.mem_of_getElem? (i := 3) rfl)) (fun _ h9 => h9) rfl (by decide +kernel) rfl rfl (Nat.le_of_ble_eq_true rfl) dX6_readInto_12 (fun H locs hP hD hS => ?_)
  replace hP : va_P D classes [(a0, .inr (6, [.ref rt, .ref aX, .int 0, .int (-1)])), (rt, .inr (9, [.ref aT, .ref to, .int tk2, .int tk3, .int tk4, .long tk5, .int tk6])), (aT, .inr (8, [.ref tb, .int 0]))] H := hP
  replace hD : va_D A [(a0, .inr (6, [.ref rt, .ref aX, .int 0, .int (-1)])), (rt, .inr (9, [.ref aT, .ref to, .int tk2, .int tk3, .int tk4, .long tk5, .int tk6])), (aT, .inr (8, [.ref tb, .int 0]))] := hD
  refine lv_aload_n hx hb dX6_readInto_15 rfl (lv_at hl 0 rfl) ?_
  refine va_get (D := D) (ci := 6) (v := .ref rt) (C := RX6) (T := TX6) (N := 4) hx hb hts iw_X6_readInto_X6 hown hK hP 0 rfl rfl 0 (by decide) (hts (.fieldLink RX6 20 "SoldHouse$Reader" "tokens" "LSoldHouse$Tokens;") (List.mem_of_getElem? (i := 4) rfl)) (fun _ h9 => h9) rfl dX6_readInto_16 ?_
  have hPc := hP.sub (ws' := [(rt, .inr (9, [.ref aT, .ref to, .int tk2, .int tk3, .int tk4, .long tk5, .int tk6])), (aT, .inr (8, [.ref tb, .int 0]))]) [1, 2] rfl
  have hDc := hD.sub (ws' := [(rt, .inr (9, [.ref aT, .ref to, .int tk2, .int tk3, .int tk4, .long tk5, .int tk6])), (aT, .inr (8, [.ref tb, .int 0]))]) [1, 2] (by decide) rfl
  have hFc := va_free (wc := [(rt, .inr (9, [.ref aT, .ref to, .int tk2, .int tk3, .int tk4, .long tk5, .int tk6])), (aT, .inr (8, [.ref tb, .int 0]))]) hD hS hA [1, 2] rfl
  refine va_callv (va_runV (As := []) (rest := []) ⟨hx, hb, hml, hown, hts⟩ (c_tbegin l D cI cB cL cZ rt tb aT to tk2 tk3 tk4 tk6 tk5 H.size) (cwV 0 hts gX6_readInto_X9_begin rfl rfl rfl (by decide +kernel) ⟨Nat.le_of_ble_eq_true rfl, Nat.le_of_ble_eq_true rfl⟩) ⟨xp_blind, va_recv hK hPc (ci := 9) (q0 := 0) rfl rfl, fun U hU hW => xp_mk hU hW hPc hK hDc xNw_nil⟩ rfl rfl hl.1 rfl (lv_room (Nat.le_of_ble_eq_true rfl)) dX6_readInto_19 ⟨Nat.le_of_ble_eq_true rfl, Nat.le_of_ble_eq_true rfl⟩) hS (fun q _ h => hFc q h) hFc (fun u9 t9 H1 locs ht9 hvm9 hr_1 hB9 hz9 hk9 hS => ?_)
  obtain ⟨hP1, hD1⟩ := hB9
  rw [ht9] at hP1
  obtain ⟨hP, hD⟩ := va_join (wr := [(a0, .inr (6, [.ref rt, .ref aX, .int 0, .int (-1)]))]) (w1 := [(rt, .inr (9, [.ref aT, .ref to, .int 0, .int 0, .int 0, .long tk5, .int tk6])), (aT, .inr (8, [.ref tb, .int 0]))]) hP hD [1, 2] [0] rfl rfl (by decide) (by decide) hk9 hFc hP1 hD1
  clear hz9 hPc hDc hP1 hD1
  clear hk9 hFc ht9 hvm9
  generalize H1 = H at hP hS ⊢
  replace hP : va_P D classes [(a0, .inr (6, [.ref rt, .ref aX, .int 0, .int (-1)])), (rt, .inr (9, [.ref aT, .ref to, .int 0, .int 0, .int 0, .long tk5, .int tk6])), (aT, .inr (8, [.ref tb, .int 0]))] H := hP
  replace hD : va_D A [(a0, .inr (6, [.ref rt, .ref aX, .int 0, .int (-1)])), (rt, .inr (9, [.ref aT, .ref to, .int 0, .int 0, .int 0, .long tk5, .int tk6])), (aT, .inr (8, [.ref tb, .int 0]))] := hD
  refine lv_iconst (v := 1) hx hb dX6_readInto_22 (by decide) ?_
  refine lv_istore_n (lv' := [(2, .int 1), (0, .ref a0), (1, .ref aX)]) hx hb dX6_readInto_23 rfl hl (by decide) rfl (fun ls hl => ?_)
  refine lv_iconst (v := 0) hx hb dX6_readInto_24 (by decide) ?_
  refine lv_istore_n (lv' := [(3, .int 0), (2, .int 1), (0, .ref a0), (1, .ref aX)]) hx hb dX6_readInto_25 rfl hl (by decide) rfl (fun ls hl => ?_)
  refine lv_iload_n hx hb dX6_readInto_26 rfl (lv_at hl 0 rfl) ?_
  refine lv_sipush (v := 1600) hx hb dX6_readInto_27 (by decide) ?_
  refine lv_icmp_ge (tgt := 199) hx hb dX6_readInto_30 (by decide) (fun c_2 => absurd c_2 (by decide)) (fun _ => ?_)
  refine lv_iload_n hx hb dX6_readInto_33 rfl (lv_at hl 1 rfl) ?_
  refine lv_if_eq (tgt := 199) hx hb dX6_readInto_34 (by decide) (fun c_3 => absurd c_3 (by decide)) (fun _ => ?_)
  refine lv_aload_n hx hb dX6_readInto_37 rfl (lv_at hl 2 rfl) ?_
  refine va_get (D := D) (ci := 6) (v := .ref rt) (C := RX6) (T := TX6) (N := 4) hx hb hts iw_X6_readInto_X6 hown hK hP 0 rfl rfl 0 (by decide) (hts (.fieldLink RX6 20 "SoldHouse$Reader" "tokens" "LSoldHouse$Tokens;") (List.mem_of_getElem? (i := 4) rfl)) (fun _ h9 => h9) rfl dX6_readInto_38 ?_
  refine va_get (D := D) (ci := 9) (v := .int 0) (C := RX9) (T := TX9) (N := 7) hx hb hts iw_X6_readInto_X9 hown hK hP 1 rfl rfl 2 (by decide) (hts (.fieldLink RX6 34 "SoldHouse$Tokens" "kind" "I") (List.mem_of_getElem? (i := 5) rfl)) (fun _ h9 => h9) rfl dX6_readInto_41 ?_
  refine lv_if_eq (tgt := 199) hx hb dX6_readInto_44 (by decide) (fun _ => ?_) (fun c_4 => absurd (by decide) c_4)
  refine lv_iload_n hx hb dX6_readInto_199 rfl (lv_at hl 1 rfl) ?_
  have hP9 := hP.sub (ws' := [(a0, .inr (6, [.ref rt, .ref aX, .int 0, .int (-1)])), (rt, .inr (9, [.ref aT, .ref to, .int 0, .int 0, .int 0, .long tk5, .int tk6])), (aT, .inr (8, [.ref tb, .int 0]))]) [0, 1, 2] rfl
  have hD9 := hD.sub (ws' := [(a0, .inr (6, [.ref rt, .ref aX, .int 0, .int (-1)])), (rt, .inr (9, [.ref aT, .ref to, .int 0, .int 0, .int 0, .long tk5, .int tk6])), (aT, .inr (8, [.ref tb, .int 0]))]) [0, 1, 2] (by decide) rfl
  refine W.widen (k := 0) (n := 0) (Nat.le_of_ble_eq_true rfl) (Nat.le_of_ble_eq_true rfl) ?_
  exact W.zret (v := 1) (ty := .boolean) hx hb hr (by decide) (fun t ht hW => ⟨⟨1, (), rfl, rfl, ⟨by rw [ht]; exact hP9, hD9⟩⟩, hS.F ht⟩) hS.2.2 dX6_readInto_200
set_option maxHeartbeats 4000000 in
set_option maxRecDepth 100000 in
theorem c_house (l : Launch) (D : va_G) (cI : ClassId) (cB : ClassId) (cL : ClassId) (cZ : ClassId) (cG : ClassId) (a0 : Nat) (aP : Nat) (aD : Nat) (aT : Nat) (aR : Nat) (aF : Nat) (aU : Nat) (aH : Nat) (aM : Nat) (aW : Nat) (aN : Nat) (pq : Nat → Nat) (sq : Nat) (s0 : Nat) (s1 : Nat) (s2 : Nat) (rt : Nat) (tb : Nat) (to : Nat) (tk2 : Int32) (tk3 : Int32) (tk4 : Int32) (tk6 : Int32) (tk5 : Int64) (fx : Nat) (fr : Nat) (fe : Nat) (fxf : Nat → Int32) (frf : Nat → Int32) (mo : Nat) (ma : Nat) (mk : Nat) (mb : Nat) (mf : Nat) (fn : Nat → Int32) (kr : Nat → Option Nat) (r0 : Nat) (w0 : Nat → Int32) (ff : Nat → Int32) (n3 : Nat) (n4 : Nat) (n5 : Nat) (n6 : Nat) (n7 : Nat) (n8 : Nat) (n9 : Nat) (ul : Nat) (uc : Nat) (ue : Nat) (sz : Nat) (hk_kr_0 : kr 0 = some r0) : Met l yX11_house wsX11_house ({ frames := 4, cells := 0, slots := 0, locals := 102 }) (xp D [(cI, .int), (cB, .byte), (cL, .long), (cZ, .boolean), (cG, .array .int)] [(a0, .inr (11, [.ref aP, .ref aD, .ref aT, .ref aR, .ref aF, .ref aU, .ref aH, .ref aM, .ref aW, .ref aN])), (aD, .inr (5, PF pq sq)), (sq, .inr (1, [.ref s0, .ref s1, .ref s2, .int 0, .int 0, .int 0])), (aR, .inr (6, [.ref rt, .ref aD, .int 0, .int (-1)])), (rt, .inr (9, [.ref aT, .ref to, .int tk2, .int tk3, .int tk4, .long tk5, .int tk6])), (aT, .inr (8, [.ref tb, .int 0])), (aF, .inr (0, [.ref aP, .ref fx, .ref fr, .ref fe, .int 0])), (fx, .inl (cI, 8, .inl fxf)), (fr, .inl (cI, 64, .inl frf)), (aM, .inr (3, [.ref aF, .ref mo, .ref ma, .ref mk, .int 0, .int 0, .int 0, .ref mb, .ref mf])), (mo, .inl (cI, 32, .inl fn)), (mk, .inl (cG, 41, .inr (.inr (.inr (.inr kr))))), (r0, .inl (cI, 32, .inl w0)), (mf, .inl (cZ, 3, .inl ff)), (aN, .inr (4, [.ref aF, .int 0, .int 0, .ref n3, .ref n4, .ref n5, .ref n6, .ref n7, .ref n8, .ref n9])), (aU, .inr (7, [.ref aF, .ref ul, .int 0, .ref uc, .ref ue]))] sz [] [.ref a0]) (va_Qi (fun (r : Int32) (_ : Unit) => r = 0) (fun (_ : Unit) (_ : State) => True) (va_A [(a0, .inr (11, [.ref aP, .ref aD, .ref aT, .ref aR, .ref aF, .ref aU, .ref aH, .ref aM, .ref aW, .ref aN])), (aD, .inr (5, PF pq sq)), (sq, .inr (1, [.ref s0, .ref s1, .ref s2, .int 0, .int 0, .int 0])), (aR, .inr (6, [.ref rt, .ref aD, .int 0, .int (-1)])), (rt, .inr (9, [.ref aT, .ref to, .int tk2, .int tk3, .int tk4, .long tk5, .int tk6])), (aT, .inr (8, [.ref tb, .int 0])), (aF, .inr (0, [.ref aP, .ref fx, .ref fr, .ref fe, .int 0])), (fx, .inl (cI, 8, .inl fxf)), (fr, .inl (cI, 64, .inl frf)), (aM, .inr (3, [.ref aF, .ref mo, .ref ma, .ref mk, .int 0, .int 0, .int 0, .ref mb, .ref mf])), (mo, .inl (cI, 32, .inl fn)), (mk, .inl (cG, 41, .inr (.inr (.inr (.inr kr))))), (r0, .inl (cI, 32, .inl w0)), (mf, .inl (cZ, 3, .inl ff)), (aN, .inr (4, [.ref aF, .int 0, .int 0, .ref n3, .ref n4, .ref n5, .ref n6, .ref n7, .ref n8, .ref n9])), (aU, .inr (7, [.ref aF, .ref ul, .int 0, .ref uc, .ref ue]))] sz)) 0 0 (va_A [(a0, .inr (11, [.ref aP, .ref aD, .ref aT, .ref aR, .ref aF, .ref aU, .ref aH, .ref aM, .ref aW, .ref aN])), (aD, .inr (5, PF pq sq)), (sq, .inr (1, [.ref s0, .ref s1, .ref s2, .int 0, .int 0, .int 0])), (aR, .inr (6, [.ref rt, .ref aD, .int 0, .int (-1)])), (rt, .inr (9, [.ref aT, .ref to, .int tk2, .int tk3, .int tk4, .long tk5, .int tk6])), (aT, .inr (8, [.ref tb, .int 0])), (aF, .inr (0, [.ref aP, .ref fx, .ref fr, .ref fe, .int 0])), (fx, .inl (cI, 8, .inl fxf)), (fr, .inl (cI, 64, .inl frf)), (aM, .inr (3, [.ref aF, .ref mo, .ref ma, .ref mk, .int 0, .int 0, .int 0, .ref mb, .ref mf])), (mo, .inl (cI, 32, .inl fn)), (mk, .inl (cG, 41, .inr (.inr (.inr (.inr kr))))), (r0, .inl (cI, 32, .inl w0)), (mf, .inl (cZ, 3, .inl ff)), (aN, .inr (4, [.ref aF, .int 0, .int 0, .ref n3, .ref n4, .ref n5, .ref n6, .ref n7, .ref n8, .ref n9])), (aU, .inr (7, [.ref aF, .ref ul, .int 0, .ref uc, .ref ue]))] sz) := by
  refine Met.ofW (cc := cX11_house) (maxL := 2) (ret := (some .int)) (by decide) rfl ?_
  intro p e s m args below meth c s₁ B hml hv
  obtain ⟨rfl, hsz, hP, hK, hD0, hNw⟩ := hv
  have hx := B.exec
  have hb := B.bytes
  have hr := B.returns
  have hts := atoms_spec (ws := wsX11_house) B.pre
  have hown : s.vm.findClass RX11 = some m.cls := findClass_of_methodNamed B.named
  have hlocks := B.notSynchronized
  subst hsz
  have hD := hD0.self (sz := s.heap.size)
  clear hD0
  generalize hAe : va_A [(a0, .inr (11, [.ref aP, .ref aD, .ref aT, .ref aR, .ref aF, .ref aU, .ref aH, .ref aM, .ref aW, .ref aN])), (aD, .inr (5, PF pq sq)), (sq, .inr (1, [.ref s0, .ref s1, .ref s2, .int 0, .int 0, .int 0])), (aR, .inr (6, [.ref rt, .ref aD, .int 0, .int (-1)])), (rt, .inr (9, [.ref aT, .ref to, .int tk2, .int tk3, .int tk4, .long tk5, .int tk6])), (aT, .inr (8, [.ref tb, .int 0])), (aF, .inr (0, [.ref aP, .ref fx, .ref fr, .ref fe, .int 0])), (fx, .inl (cI, 8, .inl fxf)), (fr, .inl (cI, 64, .inl frf)), (aM, .inr (3, [.ref aF, .ref mo, .ref ma, .ref mk, .int 0, .int 0, .int 0, .ref mb, .ref mf])), (mo, .inl (cI, 32, .inl fn)), (mk, .inl (cG, 41, .inr (.inr (.inr (.inr kr))))), (r0, .inl (cI, 32, .inl w0)), (mf, .inl (cZ, 3, .inl ff)), (aN, .inr (4, [.ref aF, .int 0, .int 0, .ref n3, .ref n4, .ref n5, .ref n6, .ref n7, .ref n8, .ref n9])), (aU, .inr (7, [.ref aF, .ref ul, .int 0, .ref uc, .ref ue]))] s.heap.size = A at hD ⊢
  have hA : ∀ q : Nat, s.heap.size ≤ q → A q := fun q h => by rw [← hAe]; exact Or.inr h
  have hS : va_S A s.heap s.heap [] := va_S.rf
  clear hAe
  obtain ⟨H, hH⟩ : ∃ H : Heap, H = s.heap := ⟨_, rfl⟩
  obtain ⟨locs, hlocs⟩ : ∃ L : List Loc, L = [] := ⟨_, rfl⟩
  replace hP : va_P D classes [(a0, .inr (11, [.ref aP, .ref aD, .ref aT, .ref aR, .ref aF, .ref aU, .ref aH, .ref aM, .ref aW, .ref aN])), (aD, .inr (5, PF pq sq)), (sq, .inr (1, [.ref s0, .ref s1, .ref s2, .int 0, .int 0, .int 0])), (aR, .inr (6, [.ref rt, .ref aD, .int 0, .int (-1)])), (rt, .inr (9, [.ref aT, .ref to, .int tk2, .int tk3, .int tk4, .long tk5, .int tk6])), (aT, .inr (8, [.ref tb, .int 0])), (aF, .inr (0, [.ref aP, .ref fx, .ref fr, .ref fe, .int 0])), (fx, .inl (cI, 8, .inl fxf)), (fr, .inl (cI, 64, .inl frf)), (aM, .inr (3, [.ref aF, .ref mo, .ref ma, .ref mk, .int 0, .int 0, .int 0, .ref mb, .ref mf])), (mo, .inl (cI, 32, .inl fn)), (mk, .inl (cG, 41, .inr (.inr (.inr (.inr kr))))), (r0, .inl (cI, 32, .inl w0)), (mf, .inl (cZ, 3, .inl ff)), (aN, .inr (4, [.ref aF, .int 0, .int 0, .ref n3, .ref n4, .ref n5, .ref n6, .ref n7, .ref n8, .ref n9])), (aU, .inr (7, [.ref aF, .ref ul, .int 0, .ref uc, .ref ue]))] H := by rw [hH]; exact hP
  replace hS : va_S A s.heap H locs := by rw [hH, hlocs]; exact hS
  rw [← hH, ← hlocs]
  clear hlocs hH
  have hl := lv_entry ([.ref a0]) (n := 2) (Nat.le_of_ble_eq_true rfl)
  rw [lg_entry_eq]
  generalize (lg_sl ([.ref a0]) ++ List.replicate (2 - (lg_sl ([.ref a0])).length) Slot.unset).toArray = ls at hl ⊢
  replace hl : lv_has ls 2 [(0, .ref a0)] := hl
  refine lv_aload_n hx hb dX11_house_0 rfl (lv_at hl 0 rfl) ?_
  refine va_get (D := D) (ci := 11) (v := .ref aD) (C := RX11) (T := TX11) (N := 10) hx hb hts iw_X11_house_X11 hown hK hP 0 rfl rfl 1 (by decide) (hts (.fieldLink RX11 16 "SoldHouse" "draft" "LSoldHouse$Plan;") (List.mem_of_getElem? (i := 1) rfl)) (fun _ h9 => h9) rfl dX11_house_1 ?_
  have hPc := hP.sub (ws' := [(aD, .inr (5, PF pq sq)), (sq, .inr (1, [.ref s0, .ref s1, .ref s2, .int 0, .int 0, .int 0]))]) [1, 2] rfl
  have hDc := hD.sub (ws' := [(aD, .inr (5, PF pq sq)), (sq, .inr (1, [.ref s0, .ref s1, .ref s2, .int 0, .int 0, .int 0]))]) [1, 2] (by decide) rfl
  have hFc := va_free (wc := [(aD, .inr (5, PF pq sq)), (sq, .inr (1, [.ref s0, .ref s1, .ref s2, .int 0, .int 0, .int 0]))]) hD hS hA [1, 2] rfl
  refine va_callv (va_runV (As := []) (rest := []) ⟨hx, hb, hml, hown, hts⟩ (c_pclear l D cI cB cL cZ aD pq sq s0 s1 s2 H.size) (cwV 0 hts gX11_house_X5_clear rfl rfl rfl (by decide +kernel) ⟨Nat.le_of_ble_eq_true rfl, Nat.le_of_ble_eq_true rfl⟩) ⟨xp_blind, va_recv hK hPc (ci := 5) (q0 := 0) rfl rfl, fun U hU hW => xp_mk hU hW hPc (hK.sub (tys' := [(cI, .int), (cB, .byte), (cL, .long), (cZ, .boolean)]) [0, 1, 2, 3] rfl) hDc xNw_nil⟩ rfl rfl hl.1 rfl (lv_room (Nat.le_of_ble_eq_true rfl)) dX11_house_4 ⟨Nat.le_of_ble_eq_true rfl, Nat.le_of_ble_eq_true rfl⟩) hS (fun q _ h => hFc q h) hFc (fun u9 t9 H1 locs ht9 hvm9 hr_1 hB9 hz9 hk9 hS => ?_)
  obtain ⟨hP1, hD1⟩ := hB9
  rw [ht9] at hP1
  obtain ⟨hP, hD⟩ := va_join (wr := [(a0, .inr (11, [.ref aP, .ref aD, .ref aT, .ref aR, .ref aF, .ref aU, .ref aH, .ref aM, .ref aW, .ref aN])), (aR, .inr (6, [.ref rt, .ref aD, .int 0, .int (-1)])), (rt, .inr (9, [.ref aT, .ref to, .int tk2, .int tk3, .int tk4, .long tk5, .int tk6])), (aT, .inr (8, [.ref tb, .int 0])), (aF, .inr (0, [.ref aP, .ref fx, .ref fr, .ref fe, .int 0])), (fx, .inl (cI, 8, .inl fxf)), (fr, .inl (cI, 64, .inl frf)), (aM, .inr (3, [.ref aF, .ref mo, .ref ma, .ref mk, .int 0, .int 0, .int 0, .ref mb, .ref mf])), (mo, .inl (cI, 32, .inl fn)), (mk, .inl (cG, 41, .inr (.inr (.inr (.inr kr))))), (r0, .inl (cI, 32, .inl w0)), (mf, .inl (cZ, 3, .inl ff)), (aN, .inr (4, [.ref aF, .int 0, .int 0, .ref n3, .ref n4, .ref n5, .ref n6, .ref n7, .ref n8, .ref n9])), (aU, .inr (7, [.ref aF, .ref ul, .int 0, .ref uc, .ref ue]))]) (w1 := [(aD, .inr (5, PF pq sq)), (sq, .inr (1, [.ref s0, .ref s1, .ref s2, .int 0, .int 0, .int 0]))]) hP hD [1, 2] [0, 3, 4, 5, 6, 7, 8, 9, 10, 11, 12, 13, 14, 15] rfl rfl (by decide) (by decide) hk9 hFc hP1 hD1
  clear hz9 hPc hDc hP1 hD1
  clear hk9 hFc ht9 hvm9
  generalize H1 = H at hP hS ⊢
  replace hP : va_P D classes [(a0, .inr (11, [.ref aP, .ref aD, .ref aT, .ref aR, .ref aF, .ref aU, .ref aH, .ref aM, .ref aW, .ref aN])), (aR, .inr (6, [.ref rt, .ref aD, .int 0, .int (-1)])), (rt, .inr (9, [.ref aT, .ref to, .int tk2, .int tk3, .int tk4, .long tk5, .int tk6])), (aT, .inr (8, [.ref tb, .int 0])), (aF, .inr (0, [.ref aP, .ref fx, .ref fr, .ref fe, .int 0])), (fx, .inl (cI, 8, .inl fxf)), (fr, .inl (cI, 64, .inl frf)), (aM, .inr (3, [.ref aF, .ref mo, .ref ma, .ref mk, .int 0, .int 0, .int 0, .ref mb, .ref mf])), (mo, .inl (cI, 32, .inl fn)), (mk, .inl (cG, 41, .inr (.inr (.inr (.inr kr))))), (r0, .inl (cI, 32, .inl w0)), (mf, .inl (cZ, 3, .inl ff)), (aN, .inr (4, [.ref aF, .int 0, .int 0, .ref n3, .ref n4, .ref n5, .ref n6, .ref n7, .ref n8, .ref n9])), (aU, .inr (7, [.ref aF, .ref ul, .int 0, .ref uc, .ref ue])), (aD, .inr (5, PF pq sq)), (sq, .inr (1, [.ref s0, .ref s1, .ref s2, .int 0, .int 0, .int 0]))] H := hP
  replace hD : va_D A [(a0, .inr (11, [.ref aP, .ref aD, .ref aT, .ref aR, .ref aF, .ref aU, .ref aH, .ref aM, .ref aW, .ref aN])), (aR, .inr (6, [.ref rt, .ref aD, .int 0, .int (-1)])), (rt, .inr (9, [.ref aT, .ref to, .int tk2, .int tk3, .int tk4, .long tk5, .int tk6])), (aT, .inr (8, [.ref tb, .int 0])), (aF, .inr (0, [.ref aP, .ref fx, .ref fr, .ref fe, .int 0])), (fx, .inl (cI, 8, .inl fxf)), (fr, .inl (cI, 64, .inl frf)), (aM, .inr (3, [.ref aF, .ref mo, .ref ma, .ref mk, .int 0, .int 0, .int 0, .ref mb, .ref mf])), (mo, .inl (cI, 32, .inl fn)), (mk, .inl (cG, 41, .inr (.inr (.inr (.inr kr))))), (r0, .inl (cI, 32, .inl w0)), (mf, .inl (cZ, 3, .inl ff)), (aN, .inr (4, [.ref aF, .int 0, .int 0, .ref n3, .ref n4, .ref n5, .ref n6, .ref n7, .ref n8, .ref n9])), (aU, .inr (7, [.ref aF, .ref ul, .int 0, .ref uc, .ref ue])), (aD, .inr (5, PF pq sq)), (sq, .inr (1, [.ref s0, .ref s1, .ref s2, .int 0, .int 0, .int 0]))] := hD
  refine lv_aload_n hx hb dX11_house_7 rfl (lv_at hl 0 rfl) ?_
  refine va_get (D := D) (ci := 11) (v := .ref aR) (C := RX11) (T := TX11) (N := 10) hx hb hts iw_X11_house_X11 hown hK hP 0 rfl rfl 3 (by decide) (hts (.fieldLink RX11 31 "SoldHouse" "reader" "LSoldHouse$Reader;") (List.mem_of_getElem? (i := 2) rfl)) (fun _ h9 => h9) rfl dX11_house_8 ?_
  refine lv_aload_n hx hb dX11_house_11 rfl (lv_at hl 0 rfl) ?_
  refine va_get (D := D) (ci := 11) (v := .ref aD) (C := RX11) (T := TX11) (N := 10) hx hb hts iw_X11_house_X11 hown hK hP 0 rfl rfl 1 (by decide) (hts (.fieldLink RX11 16 "SoldHouse" "draft" "LSoldHouse$Plan;") (List.mem_of_getElem? (i := 1) rfl)) (fun _ h9 => h9) rfl dX11_house_12 ?_
  have hPc := hP.sub (ws' := [(aR, .inr (6, [.ref rt, .ref aD, .int 0, .int (-1)])), (rt, .inr (9, [.ref aT, .ref to, .int tk2, .int tk3, .int tk4, .long tk5, .int tk6])), (aT, .inr (8, [.ref tb, .int 0]))]) [1, 2, 3] rfl
  have hDc := hD.sub (ws' := [(aR, .inr (6, [.ref rt, .ref aD, .int 0, .int (-1)])), (rt, .inr (9, [.ref aT, .ref to, .int tk2, .int tk3, .int tk4, .long tk5, .int tk6])), (aT, .inr (8, [.ref tb, .int 0]))]) [1, 2, 3] (by decide) rfl
  have hFc := va_free (wc := [(aR, .inr (6, [.ref rt, .ref aD, .int 0, .int (-1)])), (rt, .inr (9, [.ref aT, .ref to, .int tk2, .int tk3, .int tk4, .long tk5, .int tk6])), (aT, .inr (8, [.ref tb, .int 0]))]) hD hS hA [1, 2, 3] rfl
  refine va_calli (va_runV (As := [.ref aD]) (rest := []) ⟨hx, hb, hml, hown, hts⟩ (c_readInto l D cI cB cL cZ aR rt aD aD tb aT to tk2 tk3 tk4 tk6 tk5 H.size) (cwV 1 hts gX11_house_X6_readInto rfl rfl rfl (by decide +kernel) ⟨Nat.le_of_ble_eq_true rfl, Nat.le_of_ble_eq_true rfl⟩) ⟨xp_blind, va_recv hK hPc (ci := 6) (q0 := 0) rfl rfl, fun U hU hW => xp_mk hU hW hPc (hK.sub (tys' := [(cI, .int), (cB, .byte), (cL, .long), (cZ, .boolean)]) [0, 1, 2, 3] rfl) hDc xNw_nil⟩ rfl rfl hl.1 rfl (lv_room (Nat.le_of_ble_eq_true rfl)) dX11_house_15 ⟨Nat.le_of_ble_eq_true rfl, Nat.le_of_ble_eq_true rfl⟩) hS (fun q _ h => hFc q h) hFc (fun r_2 u9 t9 H1 locs ht9 hvm9 hr_2 hB9 hz9 hk9 hS => ?_)
  obtain ⟨hP1, hD1⟩ := hB9
  rw [ht9] at hP1
  obtain ⟨hP, hD⟩ := va_join (wr := [(a0, .inr (11, [.ref aP, .ref aD, .ref aT, .ref aR, .ref aF, .ref aU, .ref aH, .ref aM, .ref aW, .ref aN])), (aF, .inr (0, [.ref aP, .ref fx, .ref fr, .ref fe, .int 0])), (fx, .inl (cI, 8, .inl fxf)), (fr, .inl (cI, 64, .inl frf)), (aM, .inr (3, [.ref aF, .ref mo, .ref ma, .ref mk, .int 0, .int 0, .int 0, .ref mb, .ref mf])), (mo, .inl (cI, 32, .inl fn)), (mk, .inl (cG, 41, .inr (.inr (.inr (.inr kr))))), (r0, .inl (cI, 32, .inl w0)), (mf, .inl (cZ, 3, .inl ff)), (aN, .inr (4, [.ref aF, .int 0, .int 0, .ref n3, .ref n4, .ref n5, .ref n6, .ref n7, .ref n8, .ref n9])), (aU, .inr (7, [.ref aF, .ref ul, .int 0, .ref uc, .ref ue])), (aD, .inr (5, PF pq sq)), (sq, .inr (1, [.ref s0, .ref s1, .ref s2, .int 0, .int 0, .int 0]))]) (w1 := [(aR, .inr (6, [.ref rt, .ref aD, .int 0, .int (-1)])), (rt, .inr (9, [.ref aT, .ref to, .int 0, .int 0, .int 0, .long tk5, .int tk6])), (aT, .inr (8, [.ref tb, .int 0]))]) hP hD [1, 2, 3] [0, 4, 5, 6, 7, 8, 9, 10, 11, 12, 13, 14, 15] rfl rfl (by decide) (by decide) hk9 hFc hP1 hD1
  clear hz9 hPc hDc hP1 hD1
  clear hk9 hFc ht9 hvm9
  generalize H1 = H at hP hS ⊢
  replace hP : va_P D classes [(a0, .inr (11, [.ref aP, .ref aD, .ref aT, .ref aR, .ref aF, .ref aU, .ref aH, .ref aM, .ref aW, .ref aN])), (aF, .inr (0, [.ref aP, .ref fx, .ref fr, .ref fe, .int 0])), (fx, .inl (cI, 8, .inl fxf)), (fr, .inl (cI, 64, .inl frf)), (aM, .inr (3, [.ref aF, .ref mo, .ref ma, .ref mk, .int 0, .int 0, .int 0, .ref mb, .ref mf])), (mo, .inl (cI, 32, .inl fn)), (mk, .inl (cG, 41, .inr (.inr (.inr (.inr kr))))), (r0, .inl (cI, 32, .inl w0)), (mf, .inl (cZ, 3, .inl ff)), (aN, .inr (4, [.ref aF, .int 0, .int 0, .ref n3, .ref n4, .ref n5, .ref n6, .ref n7, .ref n8, .ref n9])), (aU, .inr (7, [.ref aF, .ref ul, .int 0, .ref uc, .ref ue])), (aD, .inr (5, PF pq sq)), (sq, .inr (1, [.ref s0, .ref s1, .ref s2, .int 0, .int 0, .int 0])), (aR, .inr (6, [.ref rt, .ref aD, .int 0, .int (-1)])), (rt, .inr (9, [.ref aT, .ref to, .int 0, .int 0, .int 0, .long tk5, .int tk6])), (aT, .inr (8, [.ref tb, .int 0]))] H := hP
  replace hD : va_D A [(a0, .inr (11, [.ref aP, .ref aD, .ref aT, .ref aR, .ref aF, .ref aU, .ref aH, .ref aM, .ref aW, .ref aN])), (aF, .inr (0, [.ref aP, .ref fx, .ref fr, .ref fe, .int 0])), (fx, .inl (cI, 8, .inl fxf)), (fr, .inl (cI, 64, .inl frf)), (aM, .inr (3, [.ref aF, .ref mo, .ref ma, .ref mk, .int 0, .int 0, .int 0, .ref mb, .ref mf])), (mo, .inl (cI, 32, .inl fn)), (mk, .inl (cG, 41, .inr (.inr (.inr (.inr kr))))), (r0, .inl (cI, 32, .inl w0)), (mf, .inl (cZ, 3, .inl ff)), (aN, .inr (4, [.ref aF, .int 0, .int 0, .ref n3, .ref n4, .ref n5, .ref n6, .ref n7, .ref n8, .ref n9])), (aU, .inr (7, [.ref aF, .ref ul, .int 0, .ref uc, .ref ue])), (aD, .inr (5, PF pq sq)), (sq, .inr (1, [.ref s0, .ref s1, .ref s2, .int 0, .int 0, .int 0])), (aR, .inr (6, [.ref rt, .ref aD, .int 0, .int (-1)])), (rt, .inr (9, [.ref aT, .ref to, .int 0, .int 0, .int 0, .long tk5, .int tk6])), (aT, .inr (8, [.ref tb, .int 0]))] := hD
  subst hr_2
  refine lv_if_ne (tgt := 23) hx hb dX11_house_18 (by decide) (fun _ => ?_) (fun c_3 => absurd c_3 (by decide))
  refine lv_aload_n hx hb dX11_house_23 rfl (lv_at hl 0 rfl) ?_
  refine va_get (D := D) (ci := 11) (v := .ref aP) (C := RX11) (T := TX11) (N := 10) hx hb hts iw_X11_house_X11 hown hK hP 0 rfl rfl 0 (by decide) (hts (.fieldLink RX11 10 "SoldHouse" "plan" "LSoldHouse$Plan;") (List.mem_of_getElem? (i := 3) rfl)) (fun _ h9 => h9) rfl dX11_house_24 ?_
  refine lv_astore_n (lv' := [(1, .ref aP), (0, .ref a0)]) hx hb dX11_house_27 rfl hl (by decide) rfl (fun ls hl => ?_)
  refine lv_aload_n hx hb dX11_house_28 rfl (lv_at hl 1 rfl) ?_
  refine lv_aload_n hx hb dX11_house_29 rfl (lv_at hl 1 rfl) ?_
  refine va_get (D := D) (ci := 11) (v := .ref aD) (C := RX11) (T := TX11) (N := 10) hx hb hts iw_X11_house_X11 hown hK hP 0 rfl rfl 1 (by decide) (hts (.fieldLink RX11 16 "SoldHouse" "draft" "LSoldHouse$Plan;") (List.mem_of_getElem? (i := 1) rfl)) (fun _ h9 => h9) rfl dX11_house_30 ?_
  refine va_put (D := D) (ci := 11) (v := .ref aD) (ty := tyX11 0) (C := RX11) (T := TX11) (N := 10) hx hb hts iw_X11_house_X11 tyX11 tyX11_ok nmX11 hown hK hP hD hS 0 rfl rfl 0 (by decide) (hts (.fieldLink RX11 10 "SoldHouse" "plan" "LSoldHouse$Plan;") (List.mem_of_getElem? (i := 3) rfl)) (fun _ h9 => h9) rfl (by decide +kernel) rfl rfl (Nat.le_of_ble_eq_true rfl) dX11_house_33 (fun H locs hP hD hS => ?_)
  replace hP : va_P D classes [(a0, .inr (11, [.ref aD, .ref aD, .ref aT, .ref aR, .ref aF, .ref aU, .ref aH, .ref aM, .ref aW, .ref aN])), (aF, .inr (0, [.ref aP, .ref fx, .ref fr, .ref fe, .int 0])), (fx, .inl (cI, 8, .inl fxf)), (fr, .inl (cI, 64, .inl frf)), (aM, .inr (3, [.ref aF, .ref mo, .ref ma, .ref mk, .int 0, .int 0, .int 0, .ref mb, .ref mf])), (mo, .inl (cI, 32, .inl fn)), (mk, .inl (cG, 41, .inr (.inr (.inr (.inr kr))))), (r0, .inl (cI, 32, .inl w0)), (mf, .inl (cZ, 3, .inl ff)), (aN, .inr (4, [.ref aF, .int 0, .int 0, .ref n3, .ref n4, .ref n5, .ref n6, .ref n7, .ref n8, .ref n9])), (aU, .inr (7, [.ref aF, .ref ul, .int 0, .ref uc, .ref ue])), (aD, .inr (5, PF pq sq)), (sq, .inr (1, [.ref s0, .ref s1, .ref s2, .int 0, .int 0, .int 0])), (aR, .inr (6, [.ref rt, .ref aD, .int 0, .int (-1)])), (rt, .inr (9, [.ref aT, .ref to, .int 0, .int 0, .int 0, .long tk5, .int tk6])), (aT, .inr (8, [.ref tb, .int 0]))] H := hP
  replace hD : va_D A [(a0, .inr (11, [.ref aD, .ref aD, .ref aT, .ref aR, .ref aF, .ref aU, .ref aH, .ref aM, .ref aW, .ref aN])), (aF, .inr (0, [.ref aP, .ref fx, .ref fr, .ref fe, .int 0])), (fx, .inl (cI, 8, .inl fxf)), (fr, .inl (cI, 64, .inl frf)), (aM, .inr (3, [.ref aF, .ref mo, .ref ma, .ref mk, .int 0, .int 0, .int 0, .ref mb, .ref mf])), (mo, .inl (cI, 32, .inl fn)), (mk, .inl (cG, 41, .inr (.inr (.inr (.inr kr))))), (r0, .inl (cI, 32, .inl w0)), (mf, .inl (cZ, 3, .inl ff)), (aN, .inr (4, [.ref aF, .int 0, .int 0, .ref n3, .ref n4, .ref n5, .ref n6, .ref n7, .ref n8, .ref n9])), (aU, .inr (7, [.ref aF, .ref ul, .int 0, .ref uc, .ref ue])), (aD, .inr (5, PF pq sq)), (sq, .inr (1, [.ref s0, .ref s1, .ref s2, .int 0, .int 0, .int 0])), (aR, .inr (6, [.ref rt, .ref aD, .int 0, .int (-1)])), (rt, .inr (9, [.ref aT, .ref to, .int 0, .int 0, .int 0, .long tk5, .int tk6])), (aT, .inr (8, [.ref tb, .int 0]))] := hD
  refine lv_aload_n hx hb dX11_house_36 rfl (lv_at hl 1 rfl) ?_
  refine lv_aload_n hx hb dX11_house_37 rfl (lv_at hl 0 rfl) ?_
  refine va_put (D := D) (ci := 11) (v := .ref aP) (ty := tyX11 1) (C := RX11) (T := TX11) (N := 10) hx hb hts iw_X11_house_X11 tyX11 tyX11_ok nmX11 hown hK hP hD hS 0 rfl rfl 1 (by decide) (hts (.fieldLink RX11 16 "SoldHouse" "draft" "LSoldHouse$Plan;") (List.mem_of_getElem? (i := 1) rfl)) (fun _ h9 => h9) rfl (by decide +kernel) rfl rfl (Nat.le_of_ble_eq_true rfl) dX11_house_38 (fun H locs hP hD hS => ?_)
  replace hP : va_P D classes [(a0, .inr (11, [.ref aD, .ref aP, .ref aT, .ref aR, .ref aF, .ref aU, .ref aH, .ref aM, .ref aW, .ref aN])), (aF, .inr (0, [.ref aP, .ref fx, .ref fr, .ref fe, .int 0])), (fx, .inl (cI, 8, .inl fxf)), (fr, .inl (cI, 64, .inl frf)), (aM, .inr (3, [.ref aF, .ref mo, .ref ma, .ref mk, .int 0, .int 0, .int 0, .ref mb, .ref mf])), (mo, .inl (cI, 32, .inl fn)), (mk, .inl (cG, 41, .inr (.inr (.inr (.inr kr))))), (r0, .inl (cI, 32, .inl w0)), (mf, .inl (cZ, 3, .inl ff)), (aN, .inr (4, [.ref aF, .int 0, .int 0, .ref n3, .ref n4, .ref n5, .ref n6, .ref n7, .ref n8, .ref n9])), (aU, .inr (7, [.ref aF, .ref ul, .int 0, .ref uc, .ref ue])), (aD, .inr (5, PF pq sq)), (sq, .inr (1, [.ref s0, .ref s1, .ref s2, .int 0, .int 0, .int 0])), (aR, .inr (6, [.ref rt, .ref aD, .int 0, .int (-1)])), (rt, .inr (9, [.ref aT, .ref to, .int 0, .int 0, .int 0, .long tk5, .int tk6])), (aT, .inr (8, [.ref tb, .int 0]))] H := hP
  replace hD : va_D A [(a0, .inr (11, [.ref aD, .ref aP, .ref aT, .ref aR, .ref aF, .ref aU, .ref aH, .ref aM, .ref aW, .ref aN])), (aF, .inr (0, [.ref aP, .ref fx, .ref fr, .ref fe, .int 0])), (fx, .inl (cI, 8, .inl fxf)), (fr, .inl (cI, 64, .inl frf)), (aM, .inr (3, [.ref aF, .ref mo, .ref ma, .ref mk, .int 0, .int 0, .int 0, .ref mb, .ref mf])), (mo, .inl (cI, 32, .inl fn)), (mk, .inl (cG, 41, .inr (.inr (.inr (.inr kr))))), (r0, .inl (cI, 32, .inl w0)), (mf, .inl (cZ, 3, .inl ff)), (aN, .inr (4, [.ref aF, .int 0, .int 0, .ref n3, .ref n4, .ref n5, .ref n6, .ref n7, .ref n8, .ref n9])), (aU, .inr (7, [.ref aF, .ref ul, .int 0, .ref uc, .ref ue])), (aD, .inr (5, PF pq sq)), (sq, .inr (1, [.ref s0, .ref s1, .ref s2, .int 0, .int 0, .int 0])), (aR, .inr (6, [.ref rt, .ref aD, .int 0, .int (-1)])), (rt, .inr (9, [.ref aT, .ref to, .int 0, .int 0, .int 0, .long tk5, .int tk6])), (aT, .inr (8, [.ref tb, .int 0]))] := hD
  refine lv_aload_n hx hb dX11_house_41 rfl (lv_at hl 1 rfl) ?_
  refine va_get (D := D) (ci := 11) (v := .ref aT) (C := RX11) (T := TX11) (N := 10) hx hb hts iw_X11_house_X11 hown hK hP 0 rfl rfl 2 (by decide) (hts (.fieldLink RX11 22 "SoldHouse" "tape" "LSoldHouse$Tape;") (List.mem_of_getElem? (i := 4) rfl)) (fun _ h9 => h9) rfl dX11_house_42 ?_
  refine lv_iconst (v := 0) hx hb dX11_house_45 (by decide) ?_
  refine va_put (D := D) (ci := 8) (v := .int 0) (ty := tyX8 1) (C := RX8) (T := TX8) (N := 2) hx hb hts iw_X11_house_X8 tyX8 tyX8_ok nmX8 hown hK hP hD hS 15 rfl rfl 1 (by decide) (hts (.fieldLink RX11 86 "SoldHouse$Tape" "size" "I") (List.mem_of_getElem? (i := 5) rfl)) (fun _ h9 => h9) rfl (by decide +kernel) rfl rfl (Nat.le_of_ble_eq_true rfl) dX11_house_46 (fun H locs hP hD hS => ?_)
  replace hP : va_P D classes [(a0, .inr (11, [.ref aD, .ref aP, .ref aT, .ref aR, .ref aF, .ref aU, .ref aH, .ref aM, .ref aW, .ref aN])), (aF, .inr (0, [.ref aP, .ref fx, .ref fr, .ref fe, .int 0])), (fx, .inl (cI, 8, .inl fxf)), (fr, .inl (cI, 64, .inl frf)), (aM, .inr (3, [.ref aF, .ref mo, .ref ma, .ref mk, .int 0, .int 0, .int 0, .ref mb, .ref mf])), (mo, .inl (cI, 32, .inl fn)), (mk, .inl (cG, 41, .inr (.inr (.inr (.inr kr))))), (r0, .inl (cI, 32, .inl w0)), (mf, .inl (cZ, 3, .inl ff)), (aN, .inr (4, [.ref aF, .int 0, .int 0, .ref n3, .ref n4, .ref n5, .ref n6, .ref n7, .ref n8, .ref n9])), (aU, .inr (7, [.ref aF, .ref ul, .int 0, .ref uc, .ref ue])), (aD, .inr (5, PF pq sq)), (sq, .inr (1, [.ref s0, .ref s1, .ref s2, .int 0, .int 0, .int 0])), (aR, .inr (6, [.ref rt, .ref aD, .int 0, .int (-1)])), (rt, .inr (9, [.ref aT, .ref to, .int 0, .int 0, .int 0, .long tk5, .int tk6])), (aT, .inr (8, [.ref tb, .int 0]))] H := hP
  replace hD : va_D A [(a0, .inr (11, [.ref aD, .ref aP, .ref aT, .ref aR, .ref aF, .ref aU, .ref aH, .ref aM, .ref aW, .ref aN])), (aF, .inr (0, [.ref aP, .ref fx, .ref fr, .ref fe, .int 0])), (fx, .inl (cI, 8, .inl fxf)), (fr, .inl (cI, 64, .inl frf)), (aM, .inr (3, [.ref aF, .ref mo, .ref ma, .ref mk, .int 0, .int 0, .int 0, .ref mb, .ref mf])), (mo, .inl (cI, 32, .inl fn)), (mk, .inl (cG, 41, .inr (.inr (.inr (.inr kr))))), (r0, .inl (cI, 32, .inl w0)), (mf, .inl (cZ, 3, .inl ff)), (aN, .inr (4, [.ref aF, .int 0, .int 0, .ref n3, .ref n4, .ref n5, .ref n6, .ref n7, .ref n8, .ref n9])), (aU, .inr (7, [.ref aF, .ref ul, .int 0, .ref uc, .ref ue])), (aD, .inr (5, PF pq sq)), (sq, .inr (1, [.ref s0, .ref s1, .ref s2, .int 0, .int 0, .int 0])), (aR, .inr (6, [.ref rt, .ref aD, .int 0, .int (-1)])), (rt, .inr (9, [.ref aT, .ref to, .int 0, .int 0, .int 0, .long tk5, .int tk6])), (aT, .inr (8, [.ref tb, .int 0]))] := hD
  refine lv_aload_n hx hb dX11_house_49 rfl (lv_at hl 1 rfl) ?_
  have hPc := hP.sub (ws' := [(a0, .inr (11, [.ref aD, .ref aP, .ref aT, .ref aR, .ref aF, .ref aU, .ref aH, .ref aM, .ref aW, .ref aN])), (aF, .inr (0, [.ref aP, .ref fx, .ref fr, .ref fe, .int 0])), (aD, .inr (5, PF pq sq)), (fx, .inl (cI, 8, .inl fxf)), (fr, .inl (cI, 64, .inl frf)), (aM, .inr (3, [.ref aF, .ref mo, .ref ma, .ref mk, .int 0, .int 0, .int 0, .ref mb, .ref mf])), (mo, .inl (cI, 32, .inl fn)), (mk, .inl (cG, 41, .inr (.inr (.inr (.inr kr))))), (r0, .inl (cI, 32, .inl w0)), (mf, .inl (cZ, 3, .inl ff)), (aN, .inr (4, [.ref aF, .int 0, .int 0, .ref n3, .ref n4, .ref n5, .ref n6, .ref n7, .ref n8, .ref n9])), (aU, .inr (7, [.ref aF, .ref ul, .int 0, .ref uc, .ref ue]))]) [0, 1, 11, 2, 3, 4, 5, 6, 7, 8, 9, 10] rfl
  have hDc := hD.sub (ws' := [(a0, .inr (11, [.ref aD, .ref aP, .ref aT, .ref aR, .ref aF, .ref aU, .ref aH, .ref aM, .ref aW, .ref aN])), (aF, .inr (0, [.ref aP, .ref fx, .ref fr, .ref fe, .int 0])), (aD, .inr (5, PF pq sq)), (fx, .inl (cI, 8, .inl fxf)), (fr, .inl (cI, 64, .inl frf)), (aM, .inr (3, [.ref aF, .ref mo, .ref ma, .ref mk, .int 0, .int 0, .int 0, .ref mb, .ref mf])), (mo, .inl (cI, 32, .inl fn)), (mk, .inl (cG, 41, .inr (.inr (.inr (.inr kr))))), (r0, .inl (cI, 32, .inl w0)), (mf, .inl (cZ, 3, .inl ff)), (aN, .inr (4, [.ref aF, .int 0, .int 0, .ref n3, .ref n4, .ref n5, .ref n6, .ref n7, .ref n8, .ref n9])), (aU, .inr (7, [.ref aF, .ref ul, .int 0, .ref uc, .ref ue]))]) [0, 1, 11, 2, 3, 4, 5, 6, 7, 8, 9, 10] (by decide) rfl
  have hFc := va_free (wc := [(a0, .inr (11, [.ref aD, .ref aP, .ref aT, .ref aR, .ref aF, .ref aU, .ref aH, .ref aM, .ref aW, .ref aN])), (aF, .inr (0, [.ref aP, .ref fx, .ref fr, .ref fe, .int 0])), (aD, .inr (5, PF pq sq)), (fx, .inl (cI, 8, .inl fxf)), (fr, .inl (cI, 64, .inl frf)), (aM, .inr (3, [.ref aF, .ref mo, .ref ma, .ref mk, .int 0, .int 0, .int 0, .ref mb, .ref mf])), (mo, .inl (cI, 32, .inl fn)), (mk, .inl (cG, 41, .inr (.inr (.inr (.inr kr))))), (r0, .inl (cI, 32, .inl w0)), (mf, .inl (cZ, 3, .inl ff)), (aN, .inr (4, [.ref aF, .int 0, .int 0, .ref n3, .ref n4, .ref n5, .ref n6, .ref n7, .ref n8, .ref n9])), (aU, .inr (7, [.ref aF, .ref ul, .int 0, .ref uc, .ref ue]))]) hD hS hA [0, 1, 11, 2, 3, 4, 5, 6, 7, 8, 9, 10] rfl
  refine va_callv (va_runV (As := []) (rest := []) ⟨hx, hb, hml, hown, hts⟩ (c_takeUp l D cI cB cL cZ cG a0 aD aP aT aR aF aU aH aM aW aN aP fx fr fe pq sq fxf frf mo ma mk mb mf fn kr r0 w0 ff n3 n4 n5 n6 n7 n8 n9 ul uc ue H.size hk_kr_0) (cwV 0 hts gX11_house_X11_takeUp rfl rfl rfl (by decide +kernel) ⟨Nat.le_of_ble_eq_true rfl, Nat.le_of_ble_eq_true rfl⟩) ⟨xp_blind, va_recv hK hPc (ci := 11) (q0 := 0) rfl rfl, fun U hU hW => xp_mk hU hW hPc hK hDc xNw_nil⟩ rfl rfl hl.1 rfl (lv_room (Nat.le_of_ble_eq_true rfl)) dX11_house_50 ⟨Nat.le_of_ble_eq_true rfl, Nat.le_of_ble_eq_true rfl⟩) hS (fun q _ h => hFc q h) hFc (fun u9 t9 H1 locs ht9 hvm9 hr_4 hB9 hz9 hk9 hS => ?_)
  obtain ⟨g1__5, g2__6, g3__7, g4__8, g5__9, g1__5_30, g1__5_31, g3__7_0, g3__7_1, g3__7_2, hP1, hD1⟩ := hB9
  rw [ht9] at hP1
  obtain ⟨hP, hD⟩ := va_join (wr := [(sq, .inr (1, [.ref s0, .ref s1, .ref s2, .int 0, .int 0, .int 0])), (aR, .inr (6, [.ref rt, .ref aD, .int 0, .int (-1)])), (rt, .inr (9, [.ref aT, .ref to, .int 0, .int 0, .int 0, .long tk5, .int tk6])), (aT, .inr (8, [.ref tb, .int 0]))]) (w1 := [(a0, .inr (11, [.ref aD, .ref aP, .ref aT, .ref aR, .ref aF, .ref aU, .ref aH, .ref aM, .ref aW, .ref aN])), (aF, .inr (0, [.ref aD, .ref fx, .ref fr, .ref fe, .int 0])), (aD, .inr (5, PF pq sq)), (fx, .inl (cI, 8, .inl g4__8)), (fr, .inl (cI, 64, .inl g5__9)), (aM, .inr (3, [.ref aF, .ref mo, .ref ma, .ref mk, .int 0, .int 0, .int 0, .ref mb, .ref mf])), (mo, .inl (cI, 32, .inl g1__5)), (mk, .inl (cG, 41, .inr (.inr (.inr (.inr kr))))), (r0, .inl (cI, 32, .inl g2__6)), (mf, .inl (cZ, 3, .inl g3__7)), (aN, .inr (4, [.ref aF, .int 0, .int 0, .ref n3, .ref n4, .ref n5, .ref n6, .ref n7, .ref n8, .ref n9])), (aU, .inr (7, [.ref aF, .ref ul, .int 0, .ref uc, .ref ue]))]) hP hD [0, 1, 11, 2, 3, 4, 5, 6, 7, 8, 9, 10] [12, 13, 14, 15] rfl rfl (by decide) (by decide) hk9 hFc hP1 hD1
  clear hz9 hPc hDc hP1 hD1
  clear hk9 hFc ht9 hvm9
  generalize H1 = H at hP hS ⊢
  replace hP : va_P D classes [(sq, .inr (1, [.ref s0, .ref s1, .ref s2, .int 0, .int 0, .int 0])), (aR, .inr (6, [.ref rt, .ref aD, .int 0, .int (-1)])), (rt, .inr (9, [.ref aT, .ref to, .int 0, .int 0, .int 0, .long tk5, .int tk6])), (aT, .inr (8, [.ref tb, .int 0])), (a0, .inr (11, [.ref aD, .ref aP, .ref aT, .ref aR, .ref aF, .ref aU, .ref aH, .ref aM, .ref aW, .ref aN])), (aF, .inr (0, [.ref aD, .ref fx, .ref fr, .ref fe, .int 0])), (aD, .inr (5, PF pq sq)), (fx, .inl (cI, 8, .inl g4__8)), (fr, .inl (cI, 64, .inl g5__9)), (aM, .inr (3, [.ref aF, .ref mo, .ref ma, .ref mk, .int 0, .int 0, .int 0, .ref mb, .ref mf])), (mo, .inl (cI, 32, .inl g1__5)), (mk, .inl (cG, 41, .inr (.inr (.inr (.inr kr))))), (r0, .inl (cI, 32, .inl g2__6)), (mf, .inl (cZ, 3, .inl g3__7)), (aN, .inr (4, [.ref aF, .int 0, .int 0, .ref n3, .ref n4, .ref n5, .ref n6, .ref n7, .ref n8, .ref n9])), (aU, .inr (7, [.ref aF, .ref ul, .int 0, .ref uc, .ref ue]))] H := hP
  replace hD : va_D A [(sq, .inr (1, [.ref s0, .ref s1, .ref s2, .int 0, .int 0, .int 0])), (aR, .inr (6, [.ref rt, .ref aD, .int 0, .int (-1)])), (rt, .inr (9, [.ref aT, .ref to, .int 0, .int 0, .int 0, .long tk5, .int tk6])), (aT, .inr (8, [.ref tb, .int 0])), (a0, .inr (11, [.ref aD, .ref aP, .ref aT, .ref aR, .ref aF, .ref aU, .ref aH, .ref aM, .ref aW, .ref aN])), (aF, .inr (0, [.ref aD, .ref fx, .ref fr, .ref fe, .int 0])), (aD, .inr (5, PF pq sq)), (fx, .inl (cI, 8, .inl g4__8)), (fr, .inl (cI, 64, .inl g5__9)), (aM, .inr (3, [.ref aF, .ref mo, .ref ma, .ref mk, .int 0, .int 0, .int 0, .ref mb, .ref mf])), (mo, .inl (cI, 32, .inl g1__5)), (mk, .inl (cG, 41, .inr (.inr (.inr (.inr kr))))), (r0, .inl (cI, 32, .inl g2__6)), (mf, .inl (cZ, 3, .inl g3__7)), (aN, .inr (4, [.ref aF, .int 0, .int 0, .ref n3, .ref n4, .ref n5, .ref n6, .ref n7, .ref n8, .ref n9])), (aU, .inr (7, [.ref aF, .ref ul, .int 0, .ref uc, .ref ue]))] := hD
  refine lv_aload_n hx hb dX11_house_53 rfl (lv_at hl 1 rfl) ?_
  refine va_get (D := D) (ci := 11) (v := .ref aD) (C := RX11) (T := TX11) (N := 10) hx hb hts iw_X11_house_X11 hown hK hP 4 rfl rfl 0 (by decide) (hts (.fieldLink RX11 10 "SoldHouse" "plan" "LSoldHouse$Plan;") (List.mem_of_getElem? (i := 3) rfl)) (fun _ h9 => h9) rfl dX11_house_54 ?_
  refine va_get (D := D) (ci := 5) (v := .int 0) (C := RX5) (T := TX5) (N := 16) hx hb hts iw_X11_house_X5 hown hK hP 6 rfl rfl 0 (by decide) (hts (.fieldLink RX11 101 "SoldHouse$Plan" "rooms" "I") (List.mem_of_getElem? (i := 6) rfl)) (fun _ h9 => h9) rfl dX11_house_57 ?_
  refine W.widen (k := 0) (n := 0) (Nat.le_of_ble_eq_true rfl) (Nat.le_of_ble_eq_true rfl) ?_
  exact W.iret (v := 0) hx hb hr (fun t ht hW => ⟨⟨0, (), rfl, rfl, trivial⟩, hS.F ht⟩) hS.2.2 dX11_house_60
