set_option maxHeartbeats 4000000 in
set_option maxRecDepth 100000 in
theorem c_X11_walks (l : Launch) (D : va_G) (cI : ClassId) (cB : ClassId) (cL : ClassId) (cZ : ClassId) (cG : ClassId) (SO : Nat) (x0 : Int32) (PL : Nat) (DR : Nat) (TA : Nat) (RE : Nat) (FL : Nat) (RO : Nat) (HU : Nat) (ME : Nat) (TR : Nat) (NI : Nat) (NI_count : Int32) (NI_time : Int32) (aNI : Nat → Nat) (NI_open : Nat → Int32) (NI_untoldAt : Nat → Int32) (NI_toldAt : Nat → Int32) (NI_minute : Nat → Int32) (NI_rooms : Nat → Int32) (aFL : Nat → Nat) (FL_parting : Int32) (PL_rooms : Int32) (aPL : Nat → Nat) (PL_doors : Int32) (PL_things : Int32) (FO : Nat) (PL_draw : Int32) (PL_drawTold : Int32) (NI_into : Nat → Int32) (FL_next : Nat → Int32) (NI_onward : Nat → Int32) (sz : Nat) (b_NI_count : zB NI_count 0 30) (b_NI_time : zB NI_time 0 100000) (b_PL_rooms : zB PL_rooms 0 8) (b_PL_doors : zB PL_doors 0 12) (b_PL_things : zB PL_things 0 6) (s_NI_minute_0 : zA NI_minute 0 30 0 7) : Met l yX11_walks wsX11_walks ({ frames := 3, cells := 0, slots := 0, locals := 71 }) (xp D [(cI, .int), (cB, .byte), (cL, .long), (cZ, .boolean), (cG, .array .int)] [(SO, .inr (11, oX11 PL DR TA RE FL RO HU ME TR NI)), (NI, .inr (4, oX4 FL aNI NI_count NI_time)), ((aNI 7), .inl (cI, 8, .inl NI_open)), ((aNI 6), .inl (cI, 30, .inl NI_untoldAt)), ((aNI 5), .inl (cI, 30, .inl NI_toldAt)), ((aNI 3), .inl (cI, 30, .inl NI_minute)), ((aNI 4), .inl (cI, 30, .inl NI_rooms)), (FL, .inr (0, oX0 PL aFL FL_parting)), (PL, .inr (5, oX5 FO aPL PL_rooms PL_doors PL_things PL_draw PL_drawTold)), ((aNI 8), .inl (cI, 64, .inl NI_into)), ((aFL 1), .inl (cI, 8, .inl FL_next)), ((aNI 9), .inl (cI, 64, .inl NI_onward))] sz [] [.ref SO, .int x0]) (va_Qi (fun (r : Int32) (_ : Unit) => True) (fun (_ : Unit) (t : State) => ∃ (nNIopen : Nat → Int32), ∃ (nNIinto : Nat → Int32), ∃ (nNIonward : Nat → Int32), xB D (va_A [(SO, .inr (11, oX11 PL DR TA RE FL RO HU ME TR NI)), (NI, .inr (4, oX4 FL aNI NI_count NI_time)), ((aNI 7), .inl (cI, 8, .inl NI_open)), ((aNI 6), .inl (cI, 30, .inl NI_untoldAt)), ((aNI 5), .inl (cI, 30, .inl NI_toldAt)), ((aNI 3), .inl (cI, 30, .inl NI_minute)), ((aNI 4), .inl (cI, 30, .inl NI_rooms)), (FL, .inr (0, oX0 PL aFL FL_parting)), (PL, .inr (5, oX5 FO aPL PL_rooms PL_doors PL_things PL_draw PL_drawTold)), ((aNI 8), .inl (cI, 64, .inl NI_into)), ((aFL 1), .inl (cI, 8, .inl FL_next)), ((aNI 9), .inl (cI, 64, .inl NI_onward))] sz) [(SO, .inr (11, oX11 PL DR TA RE FL RO HU ME TR NI)), (NI, .inr (4, oX4 FL aNI NI_count NI_time)), ((aNI 7), .inl (cI, 8, .inl nNIopen)), ((aNI 6), .inl (cI, 30, .inl NI_untoldAt)), ((aNI 5), .inl (cI, 30, .inl NI_toldAt)), ((aNI 3), .inl (cI, 30, .inl NI_minute)), ((aNI 4), .inl (cI, 30, .inl NI_rooms)), (FL, .inr (0, oX0 PL aFL FL_parting)), (PL, .inr (5, oX5 FO aPL PL_rooms PL_doors PL_things PL_draw PL_drawTold)), ((aNI 8), .inl (cI, 64, .inl nNIinto)), ((aFL 1), .inl (cI, 8, .inl FL_next)), ((aNI 9), .inl (cI, 64, .inl nNIonward))] t) (va_A [(SO, .inr (11, oX11 PL DR TA RE FL RO HU ME TR NI)), (NI, .inr (4, oX4 FL aNI NI_count NI_time)), ((aNI 7), .inl (cI, 8, .inl NI_open)), ((aNI 6), .inl (cI, 30, .inl NI_untoldAt)), ((aNI 5), .inl (cI, 30, .inl NI_toldAt)), ((aNI 3), .inl (cI, 30, .inl NI_minute)), ((aNI 4), .inl (cI, 30, .inl NI_rooms)), (FL, .inr (0, oX0 PL aFL FL_parting)), (PL, .inr (5, oX5 FO aPL PL_rooms PL_doors PL_things PL_draw PL_drawTold)), ((aNI 8), .inl (cI, 64, .inl NI_into)), ((aFL 1), .inl (cI, 8, .inl FL_next)), ((aNI 9), .inl (cI, 64, .inl NI_onward))] sz)) 0 0 (va_A [(SO, .inr (11, oX11 PL DR TA RE FL RO HU ME TR NI)), (NI, .inr (4, oX4 FL aNI NI_count NI_time)), ((aNI 7), .inl (cI, 8, .inl NI_open)), ((aNI 6), .inl (cI, 30, .inl NI_untoldAt)), ((aNI 5), .inl (cI, 30, .inl NI_toldAt)), ((aNI 3), .inl (cI, 30, .inl NI_minute)), ((aNI 4), .inl (cI, 30, .inl NI_rooms)), (FL, .inr (0, oX0 PL aFL FL_parting)), (PL, .inr (5, oX5 FO aPL PL_rooms PL_doors PL_things PL_draw PL_drawTold)), ((aNI 8), .inl (cI, 64, .inl NI_into)), ((aFL 1), .inl (cI, 8, .inl FL_next)), ((aNI 9), .inl (cI, 64, .inl NI_onward))] sz) := by
  refine Met.ofW (cc := cX11_walks) (maxL := 2) (ret := (some .int)) (by decide) rfl ?_
  intro p e s m args below meth c s₁ B hml hv
  obtain ⟨rfl, hsz, hP, hK, hD0, hNw⟩ := hv
  have hx := B.exec
  have hb := B.bytes
  have hr := B.returns
  have hts := atoms_spec (ws := wsX11_walks) B.pre
  have hown : s.vm.findClass RX11 = some m.cls := findClass_of_methodNamed B.named
  have hlocks := B.notSynchronized
  clear B
  subst hsz
  have hD := hD0.self (sz := s.heap.size)
  clear hD0 hNw
  generalize hAe : va_A [(SO, .inr (11, oX11 PL DR TA RE FL RO HU ME TR NI)), (NI, .inr (4, oX4 FL aNI NI_count NI_time)), ((aNI 7), .inl (cI, 8, .inl NI_open)), ((aNI 6), .inl (cI, 30, .inl NI_untoldAt)), ((aNI 5), .inl (cI, 30, .inl NI_toldAt)), ((aNI 3), .inl (cI, 30, .inl NI_minute)), ((aNI 4), .inl (cI, 30, .inl NI_rooms)), (FL, .inr (0, oX0 PL aFL FL_parting)), (PL, .inr (5, oX5 FO aPL PL_rooms PL_doors PL_things PL_draw PL_drawTold)), ((aNI 8), .inl (cI, 64, .inl NI_into)), ((aFL 1), .inl (cI, 8, .inl FL_next)), ((aNI 9), .inl (cI, 64, .inl NI_onward))] s.heap.size = A at hD ⊢
  have hA : ∀ q : Nat, s.heap.size ≤ q → A q := fun q h => by rw [← hAe]; exact Or.inr h
  have hS : va_S A s.heap s.heap [] := va_S.rf
  clear hAe
  obtain ⟨H, hH⟩ : ∃ H : Heap, H = s.heap := ⟨_, rfl⟩
  obtain ⟨locs, hlocs⟩ : ∃ L : List Loc, L = [] := ⟨_, rfl⟩
  replace hP : va_P D classes [(SO, .inr (11, oX11 PL DR TA RE FL RO HU ME TR NI)), (NI, .inr (4, oX4 FL aNI NI_count NI_time)), ((aNI 7), .inl (cI, 8, .inl NI_open)), ((aNI 6), .inl (cI, 30, .inl NI_untoldAt)), ((aNI 5), .inl (cI, 30, .inl NI_toldAt)), ((aNI 3), .inl (cI, 30, .inl NI_minute)), ((aNI 4), .inl (cI, 30, .inl NI_rooms)), (FL, .inr (0, oX0 PL aFL FL_parting)), (PL, .inr (5, oX5 FO aPL PL_rooms PL_doors PL_things PL_draw PL_drawTold)), ((aNI 8), .inl (cI, 64, .inl NI_into)), ((aFL 1), .inl (cI, 8, .inl FL_next)), ((aNI 9), .inl (cI, 64, .inl NI_onward))] H := by rw [hH]; exact hP
  replace hS : va_S A s.heap H locs := by rw [hH, hlocs]; exact hS
  rw [← hH, ← hlocs]
  clear hlocs hH
  have hl := lv_entry ([.ref SO, .int x0]) (n := 2) (Nat.le_of_ble_eq_true rfl)
  rw [lg_entry_eq]
  generalize (lg_sl ([.ref SO, .int x0]) ++ List.replicate (2 - (lg_sl ([.ref SO, .int x0])).length) Slot.unset).toArray = ls at hl ⊢
  replace hl : lv_has ls 2 [(0, .ref SO), (1, .int x0)] := hl
  refine lv_aload_n hx hb dX11_walks_0 rfl (lv_at hl 0 rfl) ?_
  refine va_get (D := D) (ci := 11) (v := .ref NI) (C := RX11) (T := TX11) (N := 10) hx hb hts iw_X11_walks_X11 hown hK hP 0 rfl rfl 9 (by decide) (hts (.fieldLink RX11 79 "SoldHouse" "night" "LSoldHouse$Night;") (List.mem_of_getElem? (i := 1) rfl)) (fun _ h9 => h9) rfl dX11_walks_1 ?_
  refine lv_iload_n hx hb dX11_walks_4 rfl (lv_at hl 1 rfl) ?_
  have hPc := hP.sub (ws' := [(NI, .inr (4, oX4 FL aNI NI_count NI_time)), ((aNI 7), .inl (cI, 8, .inl NI_open)), ((aNI 6), .inl (cI, 30, .inl NI_untoldAt)), ((aNI 5), .inl (cI, 30, .inl NI_toldAt)), ((aNI 3), .inl (cI, 30, .inl NI_minute)), ((aNI 4), .inl (cI, 30, .inl NI_rooms)), (FL, .inr (0, oX0 PL aFL FL_parting)), (PL, .inr (5, oX5 FO aPL PL_rooms PL_doors PL_things PL_draw PL_drawTold)), ((aNI 8), .inl (cI, 64, .inl NI_into)), ((aFL 1), .inl (cI, 8, .inl FL_next)), ((aNI 9), .inl (cI, 64, .inl NI_onward))]) [1, 2, 3, 4, 5, 6, 7, 8, 9, 10, 11] rfl
  have hDc := hD.sub (ws' := [(NI, .inr (4, oX4 FL aNI NI_count NI_time)), ((aNI 7), .inl (cI, 8, .inl NI_open)), ((aNI 6), .inl (cI, 30, .inl NI_untoldAt)), ((aNI 5), .inl (cI, 30, .inl NI_toldAt)), ((aNI 3), .inl (cI, 30, .inl NI_minute)), ((aNI 4), .inl (cI, 30, .inl NI_rooms)), (FL, .inr (0, oX0 PL aFL FL_parting)), (PL, .inr (5, oX5 FO aPL PL_rooms PL_doors PL_things PL_draw PL_drawTold)), ((aNI 8), .inl (cI, 64, .inl NI_into)), ((aFL 1), .inl (cI, 8, .inl FL_next)), ((aNI 9), .inl (cI, 64, .inl NI_onward))]) [1, 2, 3, 4, 5, 6, 7, 8, 9, 10, 11] (by decide) rfl
  have hFc := va_free (wc := [(NI, .inr (4, oX4 FL aNI NI_count NI_time)), ((aNI 7), .inl (cI, 8, .inl NI_open)), ((aNI 6), .inl (cI, 30, .inl NI_untoldAt)), ((aNI 5), .inl (cI, 30, .inl NI_toldAt)), ((aNI 3), .inl (cI, 30, .inl NI_minute)), ((aNI 4), .inl (cI, 30, .inl NI_rooms)), (FL, .inr (0, oX0 PL aFL FL_parting)), (PL, .inr (5, oX5 FO aPL PL_rooms PL_doors PL_things PL_draw PL_drawTold)), ((aNI 8), .inl (cI, 64, .inl NI_into)), ((aFL 1), .inl (cI, 8, .inl FL_next)), ((aNI 9), .inl (cI, 64, .inl NI_onward))]) hD hS hA [1, 2, 3, 4, 5, 6, 7, 8, 9, 10, 11] rfl
  refine va_calli (va_runV (As := [.int x0]) (rest := []) ⟨hx, hb, hml, hown, hts⟩ (c_X4_countWalks l D cI cB cL cZ cG NI x0 FL NI_count NI_time aNI NI_open NI_untoldAt NI_toldAt NI_minute NI_rooms PL aFL FL_parting PL_rooms aPL PL_doors PL_things FO PL_draw PL_drawTold NI_into FL_next NI_onward H.size b_NI_count b_NI_time b_PL_rooms b_PL_doors b_PL_things s_NI_minute_0) (cwV 1 hts gX11_walks_X4_countWalks rfl rfl rfl (by decide +kernel) ⟨Nat.le_of_ble_eq_true rfl, Nat.le_of_ble_eq_true rfl⟩) ⟨xp_blind, va_recv hK hP (ci := 4) (q0 := 1) rfl rfl, fun U hU hW => xp_mk hU hW hPc hK hDc xNw_nil⟩ rfl rfl hl.1 rfl (lv_room (Nat.le_of_ble_eq_true rfl)) dX11_walks_5 ⟨Nat.le_of_ble_eq_true rfl, Nat.le_of_ble_eq_true rfl⟩) hS (fun q _ h => hFc q h) hFc (fun r5 u9 t9 H1 locs ht9 hvm9 hr5 hB9 hz9 hk9 hS => ?_)
  obtain ⟨o5_nNIopen, o5_nNIinto, o5_nNIonward, hP1, hD1⟩ := hB9
  rw [ht9] at hP1
  obtain ⟨hP, hD⟩ := va_join (wr := [(SO, .inr (11, oX11 PL DR TA RE FL RO HU ME TR NI))]) (w1 := [(NI, .inr (4, oX4 FL aNI NI_count NI_time)), ((aNI 7), .inl (cI, 8, .inl o5_nNIopen)), ((aNI 6), .inl (cI, 30, .inl NI_untoldAt)), ((aNI 5), .inl (cI, 30, .inl NI_toldAt)), ((aNI 3), .inl (cI, 30, .inl NI_minute)), ((aNI 4), .inl (cI, 30, .inl NI_rooms)), (FL, .inr (0, oX0 PL aFL FL_parting)), (PL, .inr (5, oX5 FO aPL PL_rooms PL_doors PL_things PL_draw PL_drawTold)), ((aNI 8), .inl (cI, 64, .inl o5_nNIinto)), ((aFL 1), .inl (cI, 8, .inl FL_next)), ((aNI 9), .inl (cI, 64, .inl o5_nNIonward))]) hP hD [1, 2, 3, 4, 5, 6, 7, 8, 9, 10, 11] [0] rfl rfl (by decide) (by decide) hk9 hFc hP1 hD1
  clear hz9 hPc hDc hP1 hD1 hk9 hFc ht9 hvm9 u9 t9
  generalize H1 = H at hP hS ⊢
  replace hP : va_P D classes [(SO, .inr (11, oX11 PL DR TA RE FL RO HU ME TR NI)), (NI, .inr (4, oX4 FL aNI NI_count NI_time)), ((aNI 7), .inl (cI, 8, .inl o5_nNIopen)), ((aNI 6), .inl (cI, 30, .inl NI_untoldAt)), ((aNI 5), .inl (cI, 30, .inl NI_toldAt)), ((aNI 3), .inl (cI, 30, .inl NI_minute)), ((aNI 4), .inl (cI, 30, .inl NI_rooms)), (FL, .inr (0, oX0 PL aFL FL_parting)), (PL, .inr (5, oX5 FO aPL PL_rooms PL_doors PL_things PL_draw PL_drawTold)), ((aNI 8), .inl (cI, 64, .inl o5_nNIinto)), ((aFL 1), .inl (cI, 8, .inl FL_next)), ((aNI 9), .inl (cI, 64, .inl o5_nNIonward))] H := hP
  replace hD : va_D A [(SO, .inr (11, oX11 PL DR TA RE FL RO HU ME TR NI)), (NI, .inr (4, oX4 FL aNI NI_count NI_time)), ((aNI 7), .inl (cI, 8, .inl o5_nNIopen)), ((aNI 6), .inl (cI, 30, .inl NI_untoldAt)), ((aNI 5), .inl (cI, 30, .inl NI_toldAt)), ((aNI 3), .inl (cI, 30, .inl NI_minute)), ((aNI 4), .inl (cI, 30, .inl NI_rooms)), (FL, .inr (0, oX0 PL aFL FL_parting)), (PL, .inr (5, oX5 FO aPL PL_rooms PL_doors PL_things PL_draw PL_drawTold)), ((aNI 8), .inl (cI, 64, .inl o5_nNIinto)), ((aFL 1), .inl (cI, 8, .inl FL_next)), ((aNI 9), .inl (cI, 64, .inl o5_nNIonward))] := hD
  clear hr5
  exact W.iret (v := r5) hx hb hr (fun t ht hW => ⟨⟨r5, (), rfl, trivial, ⟨o5_nNIopen, o5_nNIinto, o5_nNIonward, by rw [ht]; exact hP, hD⟩⟩, hS.F ht⟩) hS.2.2 dX11_walks_8
set_option maxHeartbeats 4000000 in
set_option maxRecDepth 100000 in
theorem c_X11_certain (l : Launch) (D : va_G) (cI : ClassId) (cB : ClassId) (cL : ClassId) (cZ : ClassId) (cG : ClassId) (SO : Nat) (x0 : Int32) (x1 : Int32) (PL : Nat) (DR : Nat) (TA : Nat) (RE : Nat) (FL : Nat) (RO : Nat) (HU : Nat) (ME : Nat) (TR : Nat) (NI : Nat) (NI_count : Int32) (NI_time : Int32) (aNI : Nat → Nat) (NI_open : Nat → Int32) (NI_untoldAt : Nat → Int32) (NI_toldAt : Nat → Int32) (NI_minute : Nat → Int32) (NI_rooms : Nat → Int32) (aFL : Nat → Nat) (FL_parting : Int32) (PL_rooms : Int32) (aPL : Nat → Nat) (PL_doors : Int32) (PL_things : Int32) (FO : Nat) (PL_draw : Int32) (PL_drawTold : Int32) (NI_into : Nat → Int32) (FL_next : Nat → Int32) (NI_onward : Nat → Int32) (sz : Nat) (b_NI_count : zB NI_count 0 30) (b_NI_time : zB NI_time 0 100000) (b_PL_rooms : zB PL_rooms 0 8) (b_PL_doors : zB PL_doors 0 12) (b_PL_things : zB PL_things 0 6) (s_NI_minute_0 : zA NI_minute 0 30 0 7) : Met l yX11_certain wsX11_certain ({ frames := 3, cells := 0, slots := 0, locals := 71 }) (xp D [(cI, .int), (cB, .byte), (cL, .long), (cZ, .boolean), (cG, .array .int)] [(SO, .inr (11, oX11 PL DR TA RE FL RO HU ME TR NI)), (NI, .inr (4, oX4 FL aNI NI_count NI_time)), ((aNI 7), .inl (cI, 8, .inl NI_open)), ((aNI 6), .inl (cI, 30, .inl NI_untoldAt)), ((aNI 5), .inl (cI, 30, .inl NI_toldAt)), ((aNI 3), .inl (cI, 30, .inl NI_minute)), ((aNI 4), .inl (cI, 30, .inl NI_rooms)), (FL, .inr (0, oX0 PL aFL FL_parting)), (PL, .inr (5, oX5 FO aPL PL_rooms PL_doors PL_things PL_draw PL_drawTold)), ((aNI 8), .inl (cI, 64, .inl NI_into)), ((aFL 1), .inl (cI, 8, .inl FL_next)), ((aNI 9), .inl (cI, 64, .inl NI_onward))] sz [] [.ref SO, .int x0, .int x1]) (va_Qi (fun (r : Int32) (_ : Unit) => zB r (-2) 7) (fun (_ : Unit) (t : State) => ∃ (nNIopen : Nat → Int32), ∃ (nNIinto : Nat → Int32), ∃ (nNIonward : Nat → Int32), xB D (va_A [(SO, .inr (11, oX11 PL DR TA RE FL RO HU ME TR NI)), (NI, .inr (4, oX4 FL aNI NI_count NI_time)), ((aNI 7), .inl (cI, 8, .inl NI_open)), ((aNI 6), .inl (cI, 30, .inl NI_untoldAt)), ((aNI 5), .inl (cI, 30, .inl NI_toldAt)), ((aNI 3), .inl (cI, 30, .inl NI_minute)), ((aNI 4), .inl (cI, 30, .inl NI_rooms)), (FL, .inr (0, oX0 PL aFL FL_parting)), (PL, .inr (5, oX5 FO aPL PL_rooms PL_doors PL_things PL_draw PL_drawTold)), ((aNI 8), .inl (cI, 64, .inl NI_into)), ((aFL 1), .inl (cI, 8, .inl FL_next)), ((aNI 9), .inl (cI, 64, .inl NI_onward))] sz) [(SO, .inr (11, oX11 PL DR TA RE FL RO HU ME TR NI)), (NI, .inr (4, oX4 FL aNI NI_count NI_time)), ((aNI 7), .inl (cI, 8, .inl nNIopen)), ((aNI 6), .inl (cI, 30, .inl NI_untoldAt)), ((aNI 5), .inl (cI, 30, .inl NI_toldAt)), ((aNI 3), .inl (cI, 30, .inl NI_minute)), ((aNI 4), .inl (cI, 30, .inl NI_rooms)), (FL, .inr (0, oX0 PL aFL FL_parting)), (PL, .inr (5, oX5 FO aPL PL_rooms PL_doors PL_things PL_draw PL_drawTold)), ((aNI 8), .inl (cI, 64, .inl nNIinto)), ((aFL 1), .inl (cI, 8, .inl FL_next)), ((aNI 9), .inl (cI, 64, .inl nNIonward))] t) (va_A [(SO, .inr (11, oX11 PL DR TA RE FL RO HU ME TR NI)), (NI, .inr (4, oX4 FL aNI NI_count NI_time)), ((aNI 7), .inl (cI, 8, .inl NI_open)), ((aNI 6), .inl (cI, 30, .inl NI_untoldAt)), ((aNI 5), .inl (cI, 30, .inl NI_toldAt)), ((aNI 3), .inl (cI, 30, .inl NI_minute)), ((aNI 4), .inl (cI, 30, .inl NI_rooms)), (FL, .inr (0, oX0 PL aFL FL_parting)), (PL, .inr (5, oX5 FO aPL PL_rooms PL_doors PL_things PL_draw PL_drawTold)), ((aNI 8), .inl (cI, 64, .inl NI_into)), ((aFL 1), .inl (cI, 8, .inl FL_next)), ((aNI 9), .inl (cI, 64, .inl NI_onward))] sz)) 0 0 (va_A [(SO, .inr (11, oX11 PL DR TA RE FL RO HU ME TR NI)), (NI, .inr (4, oX4 FL aNI NI_count NI_time)), ((aNI 7), .inl (cI, 8, .inl NI_open)), ((aNI 6), .inl (cI, 30, .inl NI_untoldAt)), ((aNI 5), .inl (cI, 30, .inl NI_toldAt)), ((aNI 3), .inl (cI, 30, .inl NI_minute)), ((aNI 4), .inl (cI, 30, .inl NI_rooms)), (FL, .inr (0, oX0 PL aFL FL_parting)), (PL, .inr (5, oX5 FO aPL PL_rooms PL_doors PL_things PL_draw PL_drawTold)), ((aNI 8), .inl (cI, 64, .inl NI_into)), ((aFL 1), .inl (cI, 8, .inl FL_next)), ((aNI 9), .inl (cI, 64, .inl NI_onward))] sz) := by
  refine Met.ofW (cc := cX11_certain) (maxL := 3) (ret := (some .int)) (by decide) rfl ?_
  intro p e s m args below meth c s₁ B hml hv
  obtain ⟨rfl, hsz, hP, hK, hD0, hNw⟩ := hv
  have hx := B.exec
  have hb := B.bytes
  have hr := B.returns
  have hts := atoms_spec (ws := wsX11_certain) B.pre
  have hown : s.vm.findClass RX11 = some m.cls := findClass_of_methodNamed B.named
  have hlocks := B.notSynchronized
  clear B
  subst hsz
  have hD := hD0.self (sz := s.heap.size)
  clear hD0 hNw
  generalize hAe : va_A [(SO, .inr (11, oX11 PL DR TA RE FL RO HU ME TR NI)), (NI, .inr (4, oX4 FL aNI NI_count NI_time)), ((aNI 7), .inl (cI, 8, .inl NI_open)), ((aNI 6), .inl (cI, 30, .inl NI_untoldAt)), ((aNI 5), .inl (cI, 30, .inl NI_toldAt)), ((aNI 3), .inl (cI, 30, .inl NI_minute)), ((aNI 4), .inl (cI, 30, .inl NI_rooms)), (FL, .inr (0, oX0 PL aFL FL_parting)), (PL, .inr (5, oX5 FO aPL PL_rooms PL_doors PL_things PL_draw PL_drawTold)), ((aNI 8), .inl (cI, 64, .inl NI_into)), ((aFL 1), .inl (cI, 8, .inl FL_next)), ((aNI 9), .inl (cI, 64, .inl NI_onward))] s.heap.size = A at hD ⊢
  have hA : ∀ q : Nat, s.heap.size ≤ q → A q := fun q h => by rw [← hAe]; exact Or.inr h
  have hS : va_S A s.heap s.heap [] := va_S.rf
  clear hAe
  obtain ⟨H, hH⟩ : ∃ H : Heap, H = s.heap := ⟨_, rfl⟩
  obtain ⟨locs, hlocs⟩ : ∃ L : List Loc, L = [] := ⟨_, rfl⟩
  replace hP : va_P D classes [(SO, .inr (11, oX11 PL DR TA RE FL RO HU ME TR NI)), (NI, .inr (4, oX4 FL aNI NI_count NI_time)), ((aNI 7), .inl (cI, 8, .inl NI_open)), ((aNI 6), .inl (cI, 30, .inl NI_untoldAt)), ((aNI 5), .inl (cI, 30, .inl NI_toldAt)), ((aNI 3), .inl (cI, 30, .inl NI_minute)), ((aNI 4), .inl (cI, 30, .inl NI_rooms)), (FL, .inr (0, oX0 PL aFL FL_parting)), (PL, .inr (5, oX5 FO aPL PL_rooms PL_doors PL_things PL_draw PL_drawTold)), ((aNI 8), .inl (cI, 64, .inl NI_into)), ((aFL 1), .inl (cI, 8, .inl FL_next)), ((aNI 9), .inl (cI, 64, .inl NI_onward))] H := by rw [hH]; exact hP
  replace hS : va_S A s.heap H locs := by rw [hH, hlocs]; exact hS
  rw [← hH, ← hlocs]
  clear hlocs hH
  have hl := lv_entry ([.ref SO, .int x0, .int x1]) (n := 3) (Nat.le_of_ble_eq_true rfl)
  rw [lg_entry_eq]
  generalize (lg_sl ([.ref SO, .int x0, .int x1]) ++ List.replicate (3 - (lg_sl ([.ref SO, .int x0, .int x1])).length) Slot.unset).toArray = ls at hl ⊢
  replace hl : lv_has ls 3 [(0, .ref SO), (1, .int x0), (2, .int x1)] := hl
  refine lv_iload_n hx hb dX11_certain_0 rfl (lv_at hl 1 rfl) ?_
  have hPc := hP.sub (ws' := []) [] rfl
  refine vp_callSi (va_runS (As := [.int x0]) (rest := []) ⟨hx, hb, hml, hown, hts⟩ (c_X11_isMinute l D cI cB cL cZ cG x0) (va_cwS 1 hts gX11_certain_X11_isMinute rfl rfl rfl (by decide +kernel) ⟨Nat.le_of_ble_eq_true rfl, Nat.le_of_ble_eq_true rfl⟩) ⟨xr_blind, fun U hU hW => xr_mk hU hW hPc hK⟩ rfl rfl hl.1 rfl (lv_room (Nat.le_of_ble_eq_true rfl)) dX11_certain_1 ⟨Nat.le_of_ble_eq_true rfl, Nat.le_of_ble_eq_true rfl⟩).run (fun r1 hr1 => ?_)
  clear hPc
  rcases hr1 with rfl | ⟨rfl, hr1_1_0⟩
  · refine lv_if_eq (tgt := 18) hx hb dX11_certain_4 (by decide) (fun _ => ?_) (fun c4 => absurd (by decide) c4)
    refine lv_iconst (v := (-1)) hx hb dX11_certain_18 (by decide) ?_
    exact W.iret (v := (-1)) hx hb hr (fun t ht hW => ⟨⟨(-1), (), rfl, (zB_w (show zB (-1) (-1) (-1) from ⟨by decide, by decide⟩) (by decide) (by decide)), ⟨NI_open, NI_into, NI_onward, by rw [ht]; exact hP, hD⟩⟩, hS.F ht⟩) hS.2.2 dX11_certain_19
  · refine lv_if_eq (tgt := 18) hx hb dX11_certain_4 (by decide) (fun c4 => absurd c4 (by decide)) (fun _ => ?_)
    refine lv_aload_n hx hb dX11_certain_7 rfl (lv_at hl 0 rfl) ?_
    refine va_get (D := D) (ci := 11) (v := .ref NI) (C := RX11) (T := TX11) (N := 10) hx hb hts iw_X11_certain_X11 hown hK hP 0 rfl rfl 9 (by decide) (hts (.fieldLink RX11 79 "SoldHouse" "night" "LSoldHouse$Night;") (List.mem_of_getElem? (i := 1) rfl)) (fun _ h9 => h9) rfl dX11_certain_8 ?_
    refine lv_iload_n hx hb dX11_certain_11 rfl (lv_at hl 2 rfl) ?_
    have hPc := hP.sub (ws' := [(NI, .inr (4, oX4 FL aNI NI_count NI_time)), ((aNI 7), .inl (cI, 8, .inl NI_open)), ((aNI 6), .inl (cI, 30, .inl NI_untoldAt)), ((aNI 5), .inl (cI, 30, .inl NI_toldAt)), ((aNI 3), .inl (cI, 30, .inl NI_minute)), ((aNI 4), .inl (cI, 30, .inl NI_rooms)), (FL, .inr (0, oX0 PL aFL FL_parting)), (PL, .inr (5, oX5 FO aPL PL_rooms PL_doors PL_things PL_draw PL_drawTold)), ((aNI 8), .inl (cI, 64, .inl NI_into)), ((aFL 1), .inl (cI, 8, .inl FL_next)), ((aNI 9), .inl (cI, 64, .inl NI_onward))]) [1, 2, 3, 4, 5, 6, 7, 8, 9, 10, 11] rfl
    have hDc := hD.sub (ws' := [(NI, .inr (4, oX4 FL aNI NI_count NI_time)), ((aNI 7), .inl (cI, 8, .inl NI_open)), ((aNI 6), .inl (cI, 30, .inl NI_untoldAt)), ((aNI 5), .inl (cI, 30, .inl NI_toldAt)), ((aNI 3), .inl (cI, 30, .inl NI_minute)), ((aNI 4), .inl (cI, 30, .inl NI_rooms)), (FL, .inr (0, oX0 PL aFL FL_parting)), (PL, .inr (5, oX5 FO aPL PL_rooms PL_doors PL_things PL_draw PL_drawTold)), ((aNI 8), .inl (cI, 64, .inl NI_into)), ((aFL 1), .inl (cI, 8, .inl FL_next)), ((aNI 9), .inl (cI, 64, .inl NI_onward))]) [1, 2, 3, 4, 5, 6, 7, 8, 9, 10, 11] (by decide) rfl
    have hFc := va_free (wc := [(NI, .inr (4, oX4 FL aNI NI_count NI_time)), ((aNI 7), .inl (cI, 8, .inl NI_open)), ((aNI 6), .inl (cI, 30, .inl NI_untoldAt)), ((aNI 5), .inl (cI, 30, .inl NI_toldAt)), ((aNI 3), .inl (cI, 30, .inl NI_minute)), ((aNI 4), .inl (cI, 30, .inl NI_rooms)), (FL, .inr (0, oX0 PL aFL FL_parting)), (PL, .inr (5, oX5 FO aPL PL_rooms PL_doors PL_things PL_draw PL_drawTold)), ((aNI 8), .inl (cI, 64, .inl NI_into)), ((aFL 1), .inl (cI, 8, .inl FL_next)), ((aNI 9), .inl (cI, 64, .inl NI_onward))]) hD hS hA [1, 2, 3, 4, 5, 6, 7, 8, 9, 10, 11] rfl
    refine va_calli (va_runV (As := [.int x1]) (rest := []) ⟨hx, hb, hml, hown, hts⟩ (c_X4_countWalks l D cI cB cL cZ cG NI x1 FL NI_count NI_time aNI NI_open NI_untoldAt NI_toldAt NI_minute NI_rooms PL aFL FL_parting PL_rooms aPL PL_doors PL_things FO PL_draw PL_drawTold NI_into FL_next NI_onward H.size b_NI_count b_NI_time b_PL_rooms b_PL_doors b_PL_things s_NI_minute_0) (cwV 1 hts gX11_certain_X4_countWalks rfl rfl rfl (by decide +kernel) ⟨Nat.le_of_ble_eq_true rfl, Nat.le_of_ble_eq_true rfl⟩) ⟨xp_blind, va_recv hK hP (ci := 4) (q0 := 1) rfl rfl, fun U hU hW => xp_mk hU hW hPc hK hDc xNw_nil⟩ rfl rfl hl.1 rfl (lv_room (Nat.le_of_ble_eq_true rfl)) dX11_certain_12 ⟨Nat.le_of_ble_eq_true rfl, Nat.le_of_ble_eq_true rfl⟩) hS (fun q _ h => hFc q h) hFc (fun r12 u9 t9 H1 locs ht9 hvm9 hr12 hB9 hz9 hk9 hS => ?_)
    obtain ⟨o12_nNIopen, o12_nNIinto, o12_nNIonward, hP1, hD1⟩ := hB9
    rw [ht9] at hP1
    obtain ⟨hP, hD⟩ := va_join (wr := [(SO, .inr (11, oX11 PL DR TA RE FL RO HU ME TR NI))]) (w1 := [(NI, .inr (4, oX4 FL aNI NI_count NI_time)), ((aNI 7), .inl (cI, 8, .inl o12_nNIopen)), ((aNI 6), .inl (cI, 30, .inl NI_untoldAt)), ((aNI 5), .inl (cI, 30, .inl NI_toldAt)), ((aNI 3), .inl (cI, 30, .inl NI_minute)), ((aNI 4), .inl (cI, 30, .inl NI_rooms)), (FL, .inr (0, oX0 PL aFL FL_parting)), (PL, .inr (5, oX5 FO aPL PL_rooms PL_doors PL_things PL_draw PL_drawTold)), ((aNI 8), .inl (cI, 64, .inl o12_nNIinto)), ((aFL 1), .inl (cI, 8, .inl FL_next)), ((aNI 9), .inl (cI, 64, .inl o12_nNIonward))]) hP hD [1, 2, 3, 4, 5, 6, 7, 8, 9, 10, 11] [0] rfl rfl (by decide) (by decide) hk9 hFc hP1 hD1
    clear hz9 hPc hDc hP1 hD1 hk9 hFc ht9 hvm9 u9 t9
    generalize H1 = H at hP hS ⊢
    replace hP : va_P D classes [(SO, .inr (11, oX11 PL DR TA RE FL RO HU ME TR NI)), (NI, .inr (4, oX4 FL aNI NI_count NI_time)), ((aNI 7), .inl (cI, 8, .inl o12_nNIopen)), ((aNI 6), .inl (cI, 30, .inl NI_untoldAt)), ((aNI 5), .inl (cI, 30, .inl NI_toldAt)), ((aNI 3), .inl (cI, 30, .inl NI_minute)), ((aNI 4), .inl (cI, 30, .inl NI_rooms)), (FL, .inr (0, oX0 PL aFL FL_parting)), (PL, .inr (5, oX5 FO aPL PL_rooms PL_doors PL_things PL_draw PL_drawTold)), ((aNI 8), .inl (cI, 64, .inl o12_nNIinto)), ((aFL 1), .inl (cI, 8, .inl FL_next)), ((aNI 9), .inl (cI, 64, .inl o12_nNIonward))] H := hP
    replace hD : va_D A [(SO, .inr (11, oX11 PL DR TA RE FL RO HU ME TR NI)), (NI, .inr (4, oX4 FL aNI NI_count NI_time)), ((aNI 7), .inl (cI, 8, .inl o12_nNIopen)), ((aNI 6), .inl (cI, 30, .inl NI_untoldAt)), ((aNI 5), .inl (cI, 30, .inl NI_toldAt)), ((aNI 3), .inl (cI, 30, .inl NI_minute)), ((aNI 4), .inl (cI, 30, .inl NI_rooms)), (FL, .inr (0, oX0 PL aFL FL_parting)), (PL, .inr (5, oX5 FO aPL PL_rooms PL_doors PL_things PL_draw PL_drawTold)), ((aNI 8), .inl (cI, 64, .inl o12_nNIinto)), ((aFL 1), .inl (cI, 8, .inl FL_next)), ((aNI 9), .inl (cI, 64, .inl o12_nNIonward))] := hD
    clear hr12
    refine lv_if_ne (tgt := 20) hx hb dX11_certain_15 (by decide) (fun c15 => ?_) (fun c15 => ?_)
    · refine lv_aload_n hx hb dX11_certain_20 rfl (lv_at hl 0 rfl) ?_
      refine va_get (D := D) (ci := 11) (v := .ref NI) (C := RX11) (T := TX11) (N := 10) hx hb hts iw_X11_certain_X11 hown hK hP 0 rfl rfl 9 (by decide) (hts (.fieldLink RX11 79 "SoldHouse" "night" "LSoldHouse$Night;") (List.mem_of_getElem? (i := 1) rfl)) (fun _ h9 => h9) rfl dX11_certain_21 ?_
      refine lv_iload_n hx hb dX11_certain_24 rfl (lv_at hl 1 rfl) ?_
      have hPc := hP.sub (ws' := [(NI, .inr (4, oX4 FL aNI NI_count NI_time)), (FL, .inr (0, oX0 PL aFL FL_parting)), (PL, .inr (5, oX5 FO aPL PL_rooms PL_doors PL_things PL_draw PL_drawTold)), ((aNI 8), .inl (cI, 64, .inl o12_nNIinto)), ((aNI 9), .inl (cI, 64, .inl o12_nNIonward))]) [1, 7, 8, 9, 11] rfl
      refine vp_callSi (va_runV (As := [.int x0]) (rest := []) ⟨hx, hb, hml, hown, hts⟩ (c_X4_onlyRoom l D cI cB cL cZ cG NI x0 FL NI_count NI_time aNI PL aFL FL_parting PL_rooms aPL PL_doors PL_things FO PL_draw PL_drawTold o12_nNIinto o12_nNIonward hr1_1_0 b_NI_count b_NI_time b_PL_rooms b_PL_doors b_PL_things) (cwV 1 hts gX11_certain_X4_onlyRoom rfl rfl rfl (by decide +kernel) ⟨Nat.le_of_ble_eq_true rfl, Nat.le_of_ble_eq_true rfl⟩) ⟨xr_blind, va_recv hK hP (ci := 4) (q0 := 1) rfl rfl, fun U hU hW => xr_mk hU hW hPc hK⟩ rfl rfl hl.1 rfl (lv_room (Nat.le_of_ble_eq_true rfl)) dX11_certain_25 ⟨Nat.le_of_ble_eq_true rfl, Nat.le_of_ble_eq_true rfl⟩).run (fun r25 hr25 => ?_)
      clear hPc
      exact W.iret (v := r25) hx hb hr (fun t ht hW => ⟨⟨r25, (), rfl, hr25, ⟨o12_nNIopen, o12_nNIinto, o12_nNIonward, by rw [ht]; exact hP, hD⟩⟩, hS.F ht⟩) hS.2.2 dX11_certain_28
    · have be15f_r12 : zB r12 0 0 := zB_eq c15 (zB_top r12) (show zB 0 0 0 from ⟨by decide, by decide⟩) (by decide) (by decide)
      refine lv_iconst (v := (-1)) hx hb dX11_certain_18 (by decide) ?_
      exact W.iret (v := (-1)) hx hb hr (fun t ht hW => ⟨⟨(-1), (), rfl, (zB_w (show zB (-1) (-1) (-1) from ⟨by decide, by decide⟩) (by decide) (by decide)), ⟨o12_nNIopen, o12_nNIinto, o12_nNIonward, by rw [ht]; exact hP, hD⟩⟩, hS.F ht⟩) hS.2.2 dX11_certain_19
set_option maxHeartbeats 4000000 in
set_option maxRecDepth 100000 in
theorem c_X11_ask (l : Launch) (D : va_G) (cI : ClassId) (cB : ClassId) (cL : ClassId) (cZ : ClassId) (cG : ClassId) (SO : Nat) (x0 : Int32) (x1 : Int32) (PL : Nat) (DR : Nat) (TA : Nat) (RE : Nat) (FL : Nat) (RO : Nat) (HU : Nat) (ME : Nat) (TR : Nat) (NI : Nat) (NI_count : Int32) (NI_time : Int32) (aNI : Nat → Nat) (NI_open : Nat → Int32) (NI_untoldAt : Nat → Int32) (NI_toldAt : Nat → Int32) (NI_minute : Nat → Int32) (NI_rooms : Nat → Int32) (aFL : Nat → Nat) (FL_parting : Int32) (PL_rooms : Int32) (aPL : Nat → Nat) (PL_doors : Int32) (PL_things : Int32) (FO : Nat) (PL_draw : Int32) (PL_drawTold : Int32) (NI_into : Nat → Int32) (FL_next : Nat → Int32) (NI_onward : Nat → Int32) (sz : Nat) (b_NI_count : zB NI_count 0 30) (b_NI_time : zB NI_time 0 100000) (b_PL_rooms : zB PL_rooms 0 8) (b_PL_doors : zB PL_doors 0 12) (b_PL_things : zB PL_things 0 6) (s_NI_minute_0 : zA NI_minute 0 30 0 7) : Met l yX11_ask wsX11_ask ({ frames := 3, cells := 0, slots := 0, locals := 71 }) (xp D [(cI, .int), (cB, .byte), (cL, .long), (cZ, .boolean), (cG, .array .int)] [(SO, .inr (11, oX11 PL DR TA RE FL RO HU ME TR NI)), (NI, .inr (4, oX4 FL aNI NI_count NI_time)), ((aNI 7), .inl (cI, 8, .inl NI_open)), ((aNI 6), .inl (cI, 30, .inl NI_untoldAt)), ((aNI 5), .inl (cI, 30, .inl NI_toldAt)), ((aNI 3), .inl (cI, 30, .inl NI_minute)), ((aNI 4), .inl (cI, 30, .inl NI_rooms)), (FL, .inr (0, oX0 PL aFL FL_parting)), (PL, .inr (5, oX5 FO aPL PL_rooms PL_doors PL_things PL_draw PL_drawTold)), ((aNI 8), .inl (cI, 64, .inl NI_into)), ((aFL 1), .inl (cI, 8, .inl FL_next)), ((aNI 9), .inl (cI, 64, .inl NI_onward))] sz [] [.ref SO, .int x0, .int x1]) (va_Qi (fun (r : Int32) (_ : Unit) => zB r (-1) 2147483647) (fun (_ : Unit) (t : State) => ∃ (nNIopen : Nat → Int32), ∃ (nNIinto : Nat → Int32), ∃ (nNIonward : Nat → Int32), xB D (va_A [(SO, .inr (11, oX11 PL DR TA RE FL RO HU ME TR NI)), (NI, .inr (4, oX4 FL aNI NI_count NI_time)), ((aNI 7), .inl (cI, 8, .inl NI_open)), ((aNI 6), .inl (cI, 30, .inl NI_untoldAt)), ((aNI 5), .inl (cI, 30, .inl NI_toldAt)), ((aNI 3), .inl (cI, 30, .inl NI_minute)), ((aNI 4), .inl (cI, 30, .inl NI_rooms)), (FL, .inr (0, oX0 PL aFL FL_parting)), (PL, .inr (5, oX5 FO aPL PL_rooms PL_doors PL_things PL_draw PL_drawTold)), ((aNI 8), .inl (cI, 64, .inl NI_into)), ((aFL 1), .inl (cI, 8, .inl FL_next)), ((aNI 9), .inl (cI, 64, .inl NI_onward))] sz) [(SO, .inr (11, oX11 PL DR TA RE FL RO HU ME TR NI)), (NI, .inr (4, oX4 FL aNI NI_count NI_time)), ((aNI 7), .inl (cI, 8, .inl nNIopen)), ((aNI 6), .inl (cI, 30, .inl NI_untoldAt)), ((aNI 5), .inl (cI, 30, .inl NI_toldAt)), ((aNI 3), .inl (cI, 30, .inl NI_minute)), ((aNI 4), .inl (cI, 30, .inl NI_rooms)), (FL, .inr (0, oX0 PL aFL FL_parting)), (PL, .inr (5, oX5 FO aPL PL_rooms PL_doors PL_things PL_draw PL_drawTold)), ((aNI 8), .inl (cI, 64, .inl nNIinto)), ((aFL 1), .inl (cI, 8, .inl FL_next)), ((aNI 9), .inl (cI, 64, .inl nNIonward))] t) (va_A [(SO, .inr (11, oX11 PL DR TA RE FL RO HU ME TR NI)), (NI, .inr (4, oX4 FL aNI NI_count NI_time)), ((aNI 7), .inl (cI, 8, .inl NI_open)), ((aNI 6), .inl (cI, 30, .inl NI_untoldAt)), ((aNI 5), .inl (cI, 30, .inl NI_toldAt)), ((aNI 3), .inl (cI, 30, .inl NI_minute)), ((aNI 4), .inl (cI, 30, .inl NI_rooms)), (FL, .inr (0, oX0 PL aFL FL_parting)), (PL, .inr (5, oX5 FO aPL PL_rooms PL_doors PL_things PL_draw PL_drawTold)), ((aNI 8), .inl (cI, 64, .inl NI_into)), ((aFL 1), .inl (cI, 8, .inl FL_next)), ((aNI 9), .inl (cI, 64, .inl NI_onward))] sz)) 0 0 (va_A [(SO, .inr (11, oX11 PL DR TA RE FL RO HU ME TR NI)), (NI, .inr (4, oX4 FL aNI NI_count NI_time)), ((aNI 7), .inl (cI, 8, .inl NI_open)), ((aNI 6), .inl (cI, 30, .inl NI_untoldAt)), ((aNI 5), .inl (cI, 30, .inl NI_toldAt)), ((aNI 3), .inl (cI, 30, .inl NI_minute)), ((aNI 4), .inl (cI, 30, .inl NI_rooms)), (FL, .inr (0, oX0 PL aFL FL_parting)), (PL, .inr (5, oX5 FO aPL PL_rooms PL_doors PL_things PL_draw PL_drawTold)), ((aNI 8), .inl (cI, 64, .inl NI_into)), ((aFL 1), .inl (cI, 8, .inl FL_next)), ((aNI 9), .inl (cI, 64, .inl NI_onward))] sz) := by
  refine Met.ofW (cc := cX11_ask) (maxL := 4) (ret := (some .int)) (by decide) rfl ?_
  intro p e s m args below meth c s₁ B hml hv
  obtain ⟨rfl, hsz, hP, hK, hD0, hNw⟩ := hv
  have hx := B.exec
  have hb := B.bytes
  have hr := B.returns
  have hts := atoms_spec (ws := wsX11_ask) B.pre
  have hown : s.vm.findClass RX11 = some m.cls := findClass_of_methodNamed B.named
  have hlocks := B.notSynchronized
  clear B
  subst hsz
  have hD := hD0.self (sz := s.heap.size)
  clear hD0 hNw
  generalize hAe : va_A [(SO, .inr (11, oX11 PL DR TA RE FL RO HU ME TR NI)), (NI, .inr (4, oX4 FL aNI NI_count NI_time)), ((aNI 7), .inl (cI, 8, .inl NI_open)), ((aNI 6), .inl (cI, 30, .inl NI_untoldAt)), ((aNI 5), .inl (cI, 30, .inl NI_toldAt)), ((aNI 3), .inl (cI, 30, .inl NI_minute)), ((aNI 4), .inl (cI, 30, .inl NI_rooms)), (FL, .inr (0, oX0 PL aFL FL_parting)), (PL, .inr (5, oX5 FO aPL PL_rooms PL_doors PL_things PL_draw PL_drawTold)), ((aNI 8), .inl (cI, 64, .inl NI_into)), ((aFL 1), .inl (cI, 8, .inl FL_next)), ((aNI 9), .inl (cI, 64, .inl NI_onward))] s.heap.size = A at hD ⊢
  have hA : ∀ q : Nat, s.heap.size ≤ q → A q := fun q h => by rw [← hAe]; exact Or.inr h
  have hS : va_S A s.heap s.heap [] := va_S.rf
  clear hAe
  obtain ⟨H, hH⟩ : ∃ H : Heap, H = s.heap := ⟨_, rfl⟩
  obtain ⟨locs, hlocs⟩ : ∃ L : List Loc, L = [] := ⟨_, rfl⟩
  replace hP : va_P D classes [(SO, .inr (11, oX11 PL DR TA RE FL RO HU ME TR NI)), (NI, .inr (4, oX4 FL aNI NI_count NI_time)), ((aNI 7), .inl (cI, 8, .inl NI_open)), ((aNI 6), .inl (cI, 30, .inl NI_untoldAt)), ((aNI 5), .inl (cI, 30, .inl NI_toldAt)), ((aNI 3), .inl (cI, 30, .inl NI_minute)), ((aNI 4), .inl (cI, 30, .inl NI_rooms)), (FL, .inr (0, oX0 PL aFL FL_parting)), (PL, .inr (5, oX5 FO aPL PL_rooms PL_doors PL_things PL_draw PL_drawTold)), ((aNI 8), .inl (cI, 64, .inl NI_into)), ((aFL 1), .inl (cI, 8, .inl FL_next)), ((aNI 9), .inl (cI, 64, .inl NI_onward))] H := by rw [hH]; exact hP
  replace hS : va_S A s.heap H locs := by rw [hH, hlocs]; exact hS
  rw [← hH, ← hlocs]
  clear hlocs hH
  have hl := lv_entry ([.ref SO, .int x0, .int x1]) (n := 4) (Nat.le_of_ble_eq_true rfl)
  rw [lg_entry_eq]
  generalize (lg_sl ([.ref SO, .int x0, .int x1]) ++ List.replicate (4 - (lg_sl ([.ref SO, .int x0, .int x1])).length) Slot.unset).toArray = ls at hl ⊢
  replace hl : lv_has ls 4 [(0, .ref SO), (1, .int x0), (2, .int x1)] := hl
  refine lv_aload_n hx hb dX11_ask_0 rfl (lv_at hl 0 rfl) ?_
  refine va_get (D := D) (ci := 11) (v := .ref NI) (C := RX11) (T := TX11) (N := 10) hx hb hts iw_X11_ask_X11 hown hK hP 0 rfl rfl 9 (by decide) (hts (.fieldLink RX11 79 "SoldHouse" "night" "LSoldHouse$Night;") (List.mem_of_getElem? (i := 1) rfl)) (fun _ h9 => h9) rfl dX11_ask_1 ?_
  refine lv_iload_n hx hb dX11_ask_4 rfl (lv_at hl 2 rfl) ?_
  have hPc := hP.sub (ws' := [(NI, .inr (4, oX4 FL aNI NI_count NI_time)), ((aNI 7), .inl (cI, 8, .inl NI_open)), ((aNI 6), .inl (cI, 30, .inl NI_untoldAt)), ((aNI 5), .inl (cI, 30, .inl NI_toldAt)), ((aNI 3), .inl (cI, 30, .inl NI_minute)), ((aNI 4), .inl (cI, 30, .inl NI_rooms)), (FL, .inr (0, oX0 PL aFL FL_parting)), (PL, .inr (5, oX5 FO aPL PL_rooms PL_doors PL_things PL_draw PL_drawTold)), ((aNI 8), .inl (cI, 64, .inl NI_into)), ((aFL 1), .inl (cI, 8, .inl FL_next)), ((aNI 9), .inl (cI, 64, .inl NI_onward))]) [1, 2, 3, 4, 5, 6, 7, 8, 9, 10, 11] rfl
  have hDc := hD.sub (ws' := [(NI, .inr (4, oX4 FL aNI NI_count NI_time)), ((aNI 7), .inl (cI, 8, .inl NI_open)), ((aNI 6), .inl (cI, 30, .inl NI_untoldAt)), ((aNI 5), .inl (cI, 30, .inl NI_toldAt)), ((aNI 3), .inl (cI, 30, .inl NI_minute)), ((aNI 4), .inl (cI, 30, .inl NI_rooms)), (FL, .inr (0, oX0 PL aFL FL_parting)), (PL, .inr (5, oX5 FO aPL PL_rooms PL_doors PL_things PL_draw PL_drawTold)), ((aNI 8), .inl (cI, 64, .inl NI_into)), ((aFL 1), .inl (cI, 8, .inl FL_next)), ((aNI 9), .inl (cI, 64, .inl NI_onward))]) [1, 2, 3, 4, 5, 6, 7, 8, 9, 10, 11] (by decide) rfl
  have hFc := va_free (wc := [(NI, .inr (4, oX4 FL aNI NI_count NI_time)), ((aNI 7), .inl (cI, 8, .inl NI_open)), ((aNI 6), .inl (cI, 30, .inl NI_untoldAt)), ((aNI 5), .inl (cI, 30, .inl NI_toldAt)), ((aNI 3), .inl (cI, 30, .inl NI_minute)), ((aNI 4), .inl (cI, 30, .inl NI_rooms)), (FL, .inr (0, oX0 PL aFL FL_parting)), (PL, .inr (5, oX5 FO aPL PL_rooms PL_doors PL_things PL_draw PL_drawTold)), ((aNI 8), .inl (cI, 64, .inl NI_into)), ((aFL 1), .inl (cI, 8, .inl FL_next)), ((aNI 9), .inl (cI, 64, .inl NI_onward))]) hD hS hA [1, 2, 3, 4, 5, 6, 7, 8, 9, 10, 11] rfl
  refine va_calli (va_runV (As := [.int x1]) (rest := []) ⟨hx, hb, hml, hown, hts⟩ (c_X4_countWalks l D cI cB cL cZ cG NI x1 FL NI_count NI_time aNI NI_open NI_untoldAt NI_toldAt NI_minute NI_rooms PL aFL FL_parting PL_rooms aPL PL_doors PL_things FO PL_draw PL_drawTold NI_into FL_next NI_onward H.size b_NI_count b_NI_time b_PL_rooms b_PL_doors b_PL_things s_NI_minute_0) (cwV 1 hts gX11_ask_X4_countWalks rfl rfl rfl (by decide +kernel) ⟨Nat.le_of_ble_eq_true rfl, Nat.le_of_ble_eq_true rfl⟩) ⟨xp_blind, va_recv hK hP (ci := 4) (q0 := 1) rfl rfl, fun U hU hW => xp_mk hU hW hPc hK hDc xNw_nil⟩ rfl rfl hl.1 rfl (lv_room (Nat.le_of_ble_eq_true rfl)) dX11_ask_5 ⟨Nat.le_of_ble_eq_true rfl, Nat.le_of_ble_eq_true rfl⟩) hS (fun q _ h => hFc q h) hFc (fun r5 u9 t9 H1 locs ht9 hvm9 hr5 hB9 hz9 hk9 hS => ?_)
  obtain ⟨o5_nNIopen, o5_nNIinto, o5_nNIonward, hP1, hD1⟩ := hB9
  rw [ht9] at hP1
  obtain ⟨hP, hD⟩ := va_join (wr := [(SO, .inr (11, oX11 PL DR TA RE FL RO HU ME TR NI))]) (w1 := [(NI, .inr (4, oX4 FL aNI NI_count NI_time)), ((aNI 7), .inl (cI, 8, .inl o5_nNIopen)), ((aNI 6), .inl (cI, 30, .inl NI_untoldAt)), ((aNI 5), .inl (cI, 30, .inl NI_toldAt)), ((aNI 3), .inl (cI, 30, .inl NI_minute)), ((aNI 4), .inl (cI, 30, .inl NI_rooms)), (FL, .inr (0, oX0 PL aFL FL_parting)), (PL, .inr (5, oX5 FO aPL PL_rooms PL_doors PL_things PL_draw PL_drawTold)), ((aNI 8), .inl (cI, 64, .inl o5_nNIinto)), ((aFL 1), .inl (cI, 8, .inl FL_next)), ((aNI 9), .inl (cI, 64, .inl o5_nNIonward))]) hP hD [1, 2, 3, 4, 5, 6, 7, 8, 9, 10, 11] [0] rfl rfl (by decide) (by decide) hk9 hFc hP1 hD1
  clear hz9 hPc hDc hP1 hD1 hk9 hFc ht9 hvm9 u9 t9
  generalize H1 = H at hP hS ⊢
  replace hP : va_P D classes [(SO, .inr (11, oX11 PL DR TA RE FL RO HU ME TR NI)), (NI, .inr (4, oX4 FL aNI NI_count NI_time)), ((aNI 7), .inl (cI, 8, .inl o5_nNIopen)), ((aNI 6), .inl (cI, 30, .inl NI_untoldAt)), ((aNI 5), .inl (cI, 30, .inl NI_toldAt)), ((aNI 3), .inl (cI, 30, .inl NI_minute)), ((aNI 4), .inl (cI, 30, .inl NI_rooms)), (FL, .inr (0, oX0 PL aFL FL_parting)), (PL, .inr (5, oX5 FO aPL PL_rooms PL_doors PL_things PL_draw PL_drawTold)), ((aNI 8), .inl (cI, 64, .inl o5_nNIinto)), ((aFL 1), .inl (cI, 8, .inl FL_next)), ((aNI 9), .inl (cI, 64, .inl o5_nNIonward))] H := hP
  replace hD : va_D A [(SO, .inr (11, oX11 PL DR TA RE FL RO HU ME TR NI)), (NI, .inr (4, oX4 FL aNI NI_count NI_time)), ((aNI 7), .inl (cI, 8, .inl o5_nNIopen)), ((aNI 6), .inl (cI, 30, .inl NI_untoldAt)), ((aNI 5), .inl (cI, 30, .inl NI_toldAt)), ((aNI 3), .inl (cI, 30, .inl NI_minute)), ((aNI 4), .inl (cI, 30, .inl NI_rooms)), (FL, .inr (0, oX0 PL aFL FL_parting)), (PL, .inr (5, oX5 FO aPL PL_rooms PL_doors PL_things PL_draw PL_drawTold)), ((aNI 8), .inl (cI, 64, .inl o5_nNIinto)), ((aFL 1), .inl (cI, 8, .inl FL_next)), ((aNI 9), .inl (cI, 64, .inl o5_nNIonward))] := hD
  clear hr5
  refine lv_if_ne (tgt := 13) hx hb dX11_ask_8 (by decide) (fun c8 => ?_) (fun c8 => ?_)
  · refine lv_aload_n hx hb dX11_ask_13 rfl (lv_at hl 0 rfl) ?_
    refine va_get (D := D) (ci := 11) (v := .ref NI) (C := RX11) (T := TX11) (N := 10) hx hb hts iw_X11_ask_X11 hown hK hP 0 rfl rfl 9 (by decide) (hts (.fieldLink RX11 79 "SoldHouse" "night" "LSoldHouse$Night;") (List.mem_of_getElem? (i := 1) rfl)) (fun _ h9 => h9) rfl dX11_ask_14 ?_
    have hPc := hP.sub (ws' := [(NI, .inr (4, oX4 FL aNI NI_count NI_time)), (FL, .inr (0, oX0 PL aFL FL_parting)), (PL, .inr (5, oX5 FO aPL PL_rooms PL_doors PL_things PL_draw PL_drawTold)), ((aNI 8), .inl (cI, 64, .inl o5_nNIinto)), ((aNI 9), .inl (cI, 64, .inl o5_nNIonward))]) [1, 7, 8, 9, 11] rfl
    refine vp_callSi (va_runV (As := []) (rest := []) ⟨hx, hb, hml, hown, hts⟩ (c_X4_bestMinute l D cI cB cL cZ cG NI FL NI_count NI_time aNI PL aFL FL_parting PL_rooms aPL PL_doors PL_things FO PL_draw PL_drawTold o5_nNIinto o5_nNIonward b_NI_count b_NI_time b_PL_rooms b_PL_doors b_PL_things) (cwV 0 hts gX11_ask_X4_bestMinute rfl rfl rfl (by decide +kernel) ⟨Nat.le_of_ble_eq_true rfl, Nat.le_of_ble_eq_true rfl⟩) ⟨xr_blind, va_recv hK hP (ci := 4) (q0 := 1) rfl rfl, fun U hU hW => xr_mk hU hW hPc hK⟩ rfl rfl hl.1 rfl (lv_room (Nat.le_of_ble_eq_true rfl)) dX11_ask_17 ⟨Nat.le_of_ble_eq_true rfl, Nat.le_of_ble_eq_true rfl⟩).run (fun r17 hr17 => ?_)
    clear hPc
    refine lv_istore_n (lv' := [(3, .int r17), (0, .ref SO), (1, .int x0), (2, .int x1)]) hx hb dX11_ask_20 rfl hl (by decide) rfl (fun ls hl => ?_)
    refine lv_iload_n hx hb dX11_ask_21 rfl (lv_at hl 2 rfl) ?_
    by_cases c22_0 : x0 = 0
    · obtain rfl := c22_0
      refine lv_lookup (off := 26) (tgt := 48) hx hb dX11_ask_22 (by decide) (by decide) (by decide) ?_
      refine lv_iload_n hx hb dX11_ask_48 rfl (lv_at hl 0 rfl) ?_
      exact W.iret (v := r17) hx hb hr (fun t ht hW => ⟨⟨r17, (), rfl, (zB_w hr17 (by decide) (by decide)), ⟨o5_nNIopen, o5_nNIinto, o5_nNIonward, by rw [ht]; exact hP, hD⟩⟩, hS.F ht⟩) hS.2.2 dX11_ask_49
    by_cases c22_1 : x0 = 1
    · obtain rfl := c22_1
      refine lv_lookup (off := 28) (tgt := 50) hx hb dX11_ask_22 (by decide) (by decide) (by decide) ?_
      refine lv_aload_n hx hb dX11_ask_50 rfl (lv_at hl 1 rfl) ?_
      refine va_get (D := D) (ci := 11) (v := .ref NI) (C := RX11) (T := TX11) (N := 10) hx hb hts iw_X11_ask_X11 hown hK hP 0 rfl rfl 9 (by decide) (hts (.fieldLink RX11 79 "SoldHouse" "night" "LSoldHouse$Night;") (List.mem_of_getElem? (i := 1) rfl)) (fun _ h9 => h9) rfl dX11_ask_51 ?_
      refine lv_iload_n hx hb dX11_ask_54 rfl (lv_at hl 0 rfl) ?_
      have hPc := hP.sub (ws' := [(NI, .inr (4, oX4 FL aNI NI_count NI_time)), (FL, .inr (0, oX0 PL aFL FL_parting)), (PL, .inr (5, oX5 FO aPL PL_rooms PL_doors PL_things PL_draw PL_drawTold)), ((aNI 8), .inl (cI, 64, .inl o5_nNIinto)), ((aNI 9), .inl (cI, 64, .inl o5_nNIonward))]) [1, 7, 8, 9, 11] rfl
      refine vp_callSi (va_runV (As := [.int r17]) (rest := []) ⟨hx, hb, hml, hown, hts⟩ (c_X4_mostLeft l D cI cB cL cZ cG NI r17 FL NI_count NI_time aNI PL aFL FL_parting PL_rooms aPL PL_doors PL_things FO PL_draw PL_drawTold o5_nNIinto o5_nNIonward hr17 b_NI_count b_NI_time b_PL_rooms b_PL_doors b_PL_things) (cwV 1 hts gX11_ask_X4_mostLeft rfl rfl rfl (by decide +kernel) ⟨Nat.le_of_ble_eq_true rfl, Nat.le_of_ble_eq_true rfl⟩) ⟨xr_blind, va_recv hK hP (ci := 4) (q0 := 1) rfl rfl, fun U hU hW => xr_mk hU hW hPc hK⟩ rfl rfl hl.1 rfl (lv_room (Nat.le_of_ble_eq_true rfl)) dX11_ask_55 ⟨Nat.le_of_ble_eq_true rfl, Nat.le_of_ble_eq_true rfl⟩).run (fun r55 hr55 => ?_)
      clear hPc
      exact W.iret (v := r55) hx hb hr (fun t ht hW => ⟨⟨r55, (), rfl, (zB_w hr55 (by decide) (by decide)), ⟨o5_nNIopen, o5_nNIinto, o5_nNIonward, by rw [ht]; exact hP, hD⟩⟩, hS.F ht⟩) hS.2.2 dX11_ask_58
    refine lv_lookup (off := 37) (tgt := 59) hx hb dX11_ask_22 (by decide) ((lv_osw c22_0 (by decide)).trans ((lv_osw c22_1 (by decide)).trans rfl)) (by decide) ?_
    refine lv_iconst (v := (-1)) hx hb dX11_ask_59 (by decide) ?_
    exact W.iret (v := (-1)) hx hb hr (fun t ht hW => ⟨⟨(-1), (), rfl, (zB_w (show zB (-1) (-1) (-1) from ⟨by decide, by decide⟩) (by decide) (by decide)), ⟨o5_nNIopen, o5_nNIinto, o5_nNIonward, by rw [ht]; exact hP, hD⟩⟩, hS.F ht⟩) hS.2.2 dX11_ask_60
  · have be8f_r5 : zB r5 0 0 := zB_eq c8 (zB_top r5) (show zB 0 0 0 from ⟨by decide, by decide⟩) (by decide) (by decide)
    refine lv_iconst (v := (-1)) hx hb dX11_ask_11 (by decide) ?_
    exact W.iret (v := (-1)) hx hb hr (fun t ht hW => ⟨⟨(-1), (), rfl, (zB_w (show zB (-1) (-1) (-1) from ⟨by decide, by decide⟩) (by decide) (by decide)), ⟨o5_nNIopen, o5_nNIinto, o5_nNIonward, by rw [ht]; exact hP, hD⟩⟩, hS.F ht⟩) hS.2.2 dX11_ask_12
set_option maxHeartbeats 4000000 in
set_option maxRecDepth 100000 in
theorem c_X11_image (l : Launch) (D : va_G) (cI : ClassId) (cB : ClassId) (cL : ClassId) (cZ : ClassId) (cG : ClassId) (SO : Nat) (x0 : Int32) (PL : Nat) (DR : Nat) (TA : Nat) (RE : Nat) (FL : Nat) (RO : Nat) (HU : Nat) (ME : Nat) (TR : Nat) (NI : Nat) (aME : Nat → Nat) (ME_oldest : Int32) (ME_done : Int32) (ME_undone : Int32) (ME_box : Nat → Option Nat) (BRr : Nat → Nat) (ME_now : Nat → Int32) (ME_full : Nat → Int32) (BRf : Nat → Nat → Int32) (sz : Nat) (b_ME_oldest : zB ME_oldest 0 40) (b_ME_done : zB ME_done 0 40) (b_ME_undone : zB ME_undone 0 40) (k_ME_box : ∀ j, j < 3 → ME_box j = some (BRr j)) (s_ME_now_0 : zA ME_now 0 12 0 7) (w_BR : ∀ j, j < 3 → zA (BRf j) 0 12 0 7) : Met l yX11_image wsX11_image ({ frames := 2, cells := 0, slots := 0, locals := 61 }) (xp D [(cI, .int), (cB, .byte), (cL, .long), (cZ, .boolean), (cG, .array .int)] ([(SO, .inr (11, oX11 PL DR TA RE FL RO HU ME TR NI)), (ME, .inr (3, oX3 FL aME ME_oldest ME_done ME_undone)), ((aME 7), .inl (cG, 3, .inr (.inr (.inr (.inr ME_box))))), ((aME 1), .inl (cI, 32, .inl ME_now)), ((aME 8), .inl (cZ, 3, .inl ME_full))] ++ rw3 cI BRr BRf) sz [] [.ref SO, .int x0]) (va_Qi (fun (r : Int32) (_ : Unit) => True) (fun (_ : Unit) (t : State) => ∃ (nMEfull : Nat → Int32), ∃ (nBRf : Nat → Nat → Int32), (∀ j, j < 3 → zA (nBRf j) 0 12 0 7) ∧ xB D (va_A ([(SO, .inr (11, oX11 PL DR TA RE FL RO HU ME TR NI)), (ME, .inr (3, oX3 FL aME ME_oldest ME_done ME_undone)), ((aME 7), .inl (cG, 3, .inr (.inr (.inr (.inr ME_box))))), ((aME 1), .inl (cI, 32, .inl ME_now)), ((aME 8), .inl (cZ, 3, .inl ME_full))] ++ rw3 cI BRr BRf) sz) ([(SO, .inr (11, oX11 PL DR TA RE FL RO HU ME TR NI)), (ME, .inr (3, oX3 FL aME ME_oldest ME_done ME_undone)), ((aME 7), .inl (cG, 3, .inr (.inr (.inr (.inr ME_box))))), ((aME 1), .inl (cI, 32, .inl ME_now)), ((aME 8), .inl (cZ, 3, .inl nMEfull))] ++ rw3 cI BRr nBRf) t) (va_A ([(SO, .inr (11, oX11 PL DR TA RE FL RO HU ME TR NI)), (ME, .inr (3, oX3 FL aME ME_oldest ME_done ME_undone)), ((aME 7), .inl (cG, 3, .inr (.inr (.inr (.inr ME_box))))), ((aME 1), .inl (cI, 32, .inl ME_now)), ((aME 8), .inl (cZ, 3, .inl ME_full))] ++ rw3 cI BRr BRf) sz)) 0 0 (va_A ([(SO, .inr (11, oX11 PL DR TA RE FL RO HU ME TR NI)), (ME, .inr (3, oX3 FL aME ME_oldest ME_done ME_undone)), ((aME 7), .inl (cG, 3, .inr (.inr (.inr (.inr ME_box))))), ((aME 1), .inl (cI, 32, .inl ME_now)), ((aME 8), .inl (cZ, 3, .inl ME_full))] ++ rw3 cI BRr BRf) sz) := by
  refine Met.ofW (cc := cX11_image) (maxL := 2) (ret := (some .int)) (by decide) rfl ?_
  intro p e s m args below meth c s₁ B hml hv
  obtain ⟨rfl, hsz, hP, hK, hD0, hNw⟩ := hv
  have hx := B.exec
  have hb := B.bytes
  have hr := B.returns
  have hts := atoms_spec (ws := wsX11_image) B.pre
  have hown : s.vm.findClass RX11 = some m.cls := findClass_of_methodNamed B.named
  have hlocks := B.notSynchronized
  clear B
  subst hsz
  have hD := hD0.self (sz := s.heap.size)
  clear hD0 hNw
  generalize hAe : va_A ([(SO, .inr (11, oX11 PL DR TA RE FL RO HU ME TR NI)), (ME, .inr (3, oX3 FL aME ME_oldest ME_done ME_undone)), ((aME 7), .inl (cG, 3, .inr (.inr (.inr (.inr ME_box))))), ((aME 1), .inl (cI, 32, .inl ME_now)), ((aME 8), .inl (cZ, 3, .inl ME_full))] ++ rw3 cI BRr BRf) s.heap.size = A at hD ⊢
  have hA : ∀ q : Nat, s.heap.size ≤ q → A q := fun q h => by rw [← hAe]; exact Or.inr h
  have hS : va_S A s.heap s.heap [] := va_S.rf
  clear hAe
  obtain ⟨H, hH⟩ : ∃ H : Heap, H = s.heap := ⟨_, rfl⟩
  obtain ⟨locs, hlocs⟩ : ∃ L : List Loc, L = [] := ⟨_, rfl⟩
  replace hP : va_P D classes ([(SO, .inr (11, oX11 PL DR TA RE FL RO HU ME TR NI)), (ME, .inr (3, oX3 FL aME ME_oldest ME_done ME_undone)), ((aME 7), .inl (cG, 3, .inr (.inr (.inr (.inr ME_box))))), ((aME 1), .inl (cI, 32, .inl ME_now)), ((aME 8), .inl (cZ, 3, .inl ME_full))] ++ rw3 cI BRr BRf) H := by rw [hH]; exact hP
  replace hS : va_S A s.heap H locs := by rw [hH, hlocs]; exact hS
  rw [← hH, ← hlocs]
  clear hlocs hH
  have hl := lv_entry ([.ref SO, .int x0]) (n := 2) (Nat.le_of_ble_eq_true rfl)
  rw [lg_entry_eq]
  generalize (lg_sl ([.ref SO, .int x0]) ++ List.replicate (2 - (lg_sl ([.ref SO, .int x0])).length) Slot.unset).toArray = ls at hl ⊢
  replace hl : lv_has ls 2 [(0, .ref SO), (1, .int x0)] := hl
  refine lv_aload_n hx hb dX11_image_0 rfl (lv_at hl 0 rfl) ?_
  refine va_get (D := D) (ci := 11) (v := .ref ME) (C := RX11) (T := TX11) (N := 10) hx hb hts iw_X11_image_X11 hown hK hP 0 rfl rfl 7 (by decide) (hts (.fieldLink RX11 63 "SoldHouse" "memory" "LSoldHouse$Memory;") (List.mem_of_getElem? (i := 1) rfl)) (fun _ h9 => h9) rfl dX11_image_1 ?_
  refine lv_iload_n hx hb dX11_image_4 rfl (lv_at hl 1 rfl) ?_
  have hPc := hP.sub (ws' := ([(ME, .inr (3, oX3 FL aME ME_oldest ME_done ME_undone)), ((aME 7), .inl (cG, 3, .inr (.inr (.inr (.inr ME_box))))), ((aME 1), .inl (cI, 32, .inl ME_now)), ((aME 8), .inl (cZ, 3, .inl ME_full))] ++ rw3 cI BRr BRf)) [1, 2, 3, 4, 5, 6, 7] rfl
  have hDc := hD.sub (ws' := ([(ME, .inr (3, oX3 FL aME ME_oldest ME_done ME_undone)), ((aME 7), .inl (cG, 3, .inr (.inr (.inr (.inr ME_box))))), ((aME 1), .inl (cI, 32, .inl ME_now)), ((aME 8), .inl (cZ, 3, .inl ME_full))] ++ rw3 cI BRr BRf)) [1, 2, 3, 4, 5, 6, 7] (by decide) rfl
  have hFc := va_free (wc := ([(ME, .inr (3, oX3 FL aME ME_oldest ME_done ME_undone)), ((aME 7), .inl (cG, 3, .inr (.inr (.inr (.inr ME_box))))), ((aME 1), .inl (cI, 32, .inl ME_now)), ((aME 8), .inl (cZ, 3, .inl ME_full))] ++ rw3 cI BRr BRf)) hD hS hA [1, 2, 3, 4, 5, 6, 7] rfl
  refine va_calli (va_runV (As := [.int x0]) (rest := []) ⟨hx, hb, hml, hown, hts⟩ (c_X3_putInBox l D cI cB cL cZ cG ME x0 FL aME ME_oldest ME_done ME_undone ME_box BRr ME_now BRf ME_full H.size b_ME_oldest b_ME_done b_ME_undone k_ME_box s_ME_now_0 w_BR) (cwV 1 hts gX11_image_X3_putInBox rfl rfl rfl (by decide +kernel) ⟨Nat.le_of_ble_eq_true rfl, Nat.le_of_ble_eq_true rfl⟩) ⟨xp_blind, va_recv hK hP (ci := 3) (q0 := 1) rfl rfl, fun U hU hW => xp_mk hU hW hPc hK hDc xNw_nil⟩ rfl rfl hl.1 rfl (lv_room (Nat.le_of_ble_eq_true rfl)) dX11_image_5 ⟨Nat.le_of_ble_eq_true rfl, Nat.le_of_ble_eq_true rfl⟩) hS (fun q _ h => hFc q h) hFc (fun r5 u9 t9 H1 locs ht9 hvm9 hr5 hB9 hz9 hk9 hS => ?_)
  obtain ⟨o5_nMEfull, o5_nBRf, wo5_nBRf, hP1, hD1⟩ := hB9
  rw [ht9] at hP1
  obtain ⟨hP, hD⟩ := va_join (wr := [(SO, .inr (11, oX11 PL DR TA RE FL RO HU ME TR NI))]) (w1 := ([(ME, .inr (3, oX3 FL aME ME_oldest ME_done ME_undone)), ((aME 7), .inl (cG, 3, .inr (.inr (.inr (.inr ME_box))))), ((aME 1), .inl (cI, 32, .inl ME_now)), ((aME 8), .inl (cZ, 3, .inl o5_nMEfull))] ++ rw3 cI BRr o5_nBRf)) hP hD [1, 2, 3, 4, 5, 6, 7] [0] rfl rfl (by decide) (by decide) hk9 hFc hP1 hD1
  clear hz9 hPc hDc hP1 hD1 hk9 hFc ht9 hvm9 u9 t9
  generalize H1 = H at hP hS ⊢
  replace hP : va_P D classes ([(SO, .inr (11, oX11 PL DR TA RE FL RO HU ME TR NI)), (ME, .inr (3, oX3 FL aME ME_oldest ME_done ME_undone)), ((aME 7), .inl (cG, 3, .inr (.inr (.inr (.inr ME_box))))), ((aME 1), .inl (cI, 32, .inl ME_now)), ((aME 8), .inl (cZ, 3, .inl o5_nMEfull))] ++ rw3 cI BRr o5_nBRf) H := hP
  replace hD : va_D A ([(SO, .inr (11, oX11 PL DR TA RE FL RO HU ME TR NI)), (ME, .inr (3, oX3 FL aME ME_oldest ME_done ME_undone)), ((aME 7), .inl (cG, 3, .inr (.inr (.inr (.inr ME_box))))), ((aME 1), .inl (cI, 32, .inl ME_now)), ((aME 8), .inl (cZ, 3, .inl o5_nMEfull))] ++ rw3 cI BRr o5_nBRf) := hD
  clear hr5
  exact W.iret (v := r5) hx hb hr (fun t ht hW => ⟨⟨r5, (), rfl, trivial, ⟨o5_nMEfull, o5_nBRf, wo5_nBRf, by rw [ht]; exact hP, hD⟩⟩, hS.F ht⟩) hS.2.2 dX11_image_8
set_option maxHeartbeats 4000000 in
set_option maxRecDepth 100000 in
theorem c_X11_back (l : Launch) (D : va_G) (cI : ClassId) (cB : ClassId) (cL : ClassId) (cZ : ClassId) (cG : ClassId) (SO : Nat) (x0 : Int32) (PL : Nat) (DR : Nat) (TA : Nat) (RE : Nat) (FL : Nat) (RO : Nat) (HU : Nat) (ME : Nat) (TR : Nat) (NI : Nat) (aME : Nat → Nat) (ME_oldest : Int32) (ME_done : Int32) (ME_undone : Int32) (ME_full : Nat → Int32) (ME_box : Nat → Option Nat) (BRr : Nat → Nat) (ME_now : Nat → Int32) (ME_kept : Nat → Option Nat) (KRr : Nat → Nat) (KRf : Nat → Nat → Int32) (BRf : Nat → Nat → Int32) (sz : Nat) (q_ME : ME_done.toInt + ME_undone.toInt ≤ 40) (b_ME_oldest : zB ME_oldest 0 40) (b_ME_done : zB ME_done 0 40) (b_ME_undone : zB ME_undone 0 40) (k_ME_box : ∀ j, j < 3 → ME_box j = some (BRr j)) (s_ME_now_0 : zA ME_now 0 12 0 7) (k_ME_kept : ∀ j, j < 41 → ME_kept j = some (KRr j)) (w_KR : ∀ j, j < 41 → zA (KRf j) 0 12 0 7) (w_BR : ∀ j, j < 3 → zA (BRf j) 0 12 0 7) : Met l yX11_back wsX11_back ({ frames := 3, cells := 0, slots := 0, locals := 81 }) (xp D [(cI, .int), (cB, .byte), (cL, .long), (cZ, .boolean), (cG, .array .int)] ([(SO, .inr (11, oX11 PL DR TA RE FL RO HU ME TR NI)), (ME, .inr (3, oX3 FL aME ME_oldest ME_done ME_undone)), ((aME 8), .inl (cZ, 3, .inl ME_full)), ((aME 7), .inl (cG, 3, .inr (.inr (.inr (.inr ME_box))))), ((aME 1), .inl (cI, 32, .inl ME_now)), ((aME 3), .inl (cG, 41, .inr (.inr (.inr (.inr ME_kept)))))] ++ rw41 cI KRr KRf ++ rw3 cI BRr BRf) sz [] [.ref SO, .int x0]) (va_Qi (fun (r : Int32) (_ : Unit) => True) (fun (_ : Unit) (t : State) => ∃ (nME_oldest : Int32), ∃ (nME_done : Int32), ∃ (nME_undone : Int32), ∃ (nMEnow : Nat → Int32), ∃ (nKRf : Nat → Nat → Int32), zB nME_oldest 0 40 ∧ zB nME_done 0 40 ∧ zB nME_undone 0 40 ∧ zA nMEnow 0 12 0 7 ∧ (∀ j, j < 41 → zA (nKRf j) 0 12 0 7) ∧ nME_done.toInt + nME_undone.toInt ≤ 40 ∧ xB D (va_A ([(SO, .inr (11, oX11 PL DR TA RE FL RO HU ME TR NI)), (ME, .inr (3, oX3 FL aME ME_oldest ME_done ME_undone)), ((aME 8), .inl (cZ, 3, .inl ME_full)), ((aME 7), .inl (cG, 3, .inr (.inr (.inr (.inr ME_box))))), ((aME 1), .inl (cI, 32, .inl ME_now)), ((aME 3), .inl (cG, 41, .inr (.inr (.inr (.inr ME_kept)))))] ++ rw41 cI KRr KRf ++ rw3 cI BRr BRf) sz) ([(SO, .inr (11, oX11 PL DR TA RE FL RO HU ME TR NI)), (ME, .inr (3, oX3 FL aME nME_oldest nME_done nME_undone)), ((aME 8), .inl (cZ, 3, .inl ME_full)), ((aME 7), .inl (cG, 3, .inr (.inr (.inr (.inr ME_box))))), ((aME 1), .inl (cI, 32, .inl nMEnow)), ((aME 3), .inl (cG, 41, .inr (.inr (.inr (.inr ME_kept)))))] ++ rw41 cI KRr nKRf ++ rw3 cI BRr BRf) t) (va_A ([(SO, .inr (11, oX11 PL DR TA RE FL RO HU ME TR NI)), (ME, .inr (3, oX3 FL aME ME_oldest ME_done ME_undone)), ((aME 8), .inl (cZ, 3, .inl ME_full)), ((aME 7), .inl (cG, 3, .inr (.inr (.inr (.inr ME_box))))), ((aME 1), .inl (cI, 32, .inl ME_now)), ((aME 3), .inl (cG, 41, .inr (.inr (.inr (.inr ME_kept)))))] ++ rw41 cI KRr KRf ++ rw3 cI BRr BRf) sz)) 0 0 (va_A ([(SO, .inr (11, oX11 PL DR TA RE FL RO HU ME TR NI)), (ME, .inr (3, oX3 FL aME ME_oldest ME_done ME_undone)), ((aME 8), .inl (cZ, 3, .inl ME_full)), ((aME 7), .inl (cG, 3, .inr (.inr (.inr (.inr ME_box))))), ((aME 1), .inl (cI, 32, .inl ME_now)), ((aME 3), .inl (cG, 41, .inr (.inr (.inr (.inr ME_kept)))))] ++ rw41 cI KRr KRf ++ rw3 cI BRr BRf) sz) := by
  refine Met.ofW (cc := cX11_back) (maxL := 2) (ret := (some .int)) (by decide) rfl ?_
  intro p e s m args below meth c s₁ B hml hv
  obtain ⟨rfl, hsz, hP, hK, hD0, hNw⟩ := hv
  have hx := B.exec
  have hb := B.bytes
  have hr := B.returns
  have hts := atoms_spec (ws := wsX11_back) B.pre
  have hown : s.vm.findClass RX11 = some m.cls := findClass_of_methodNamed B.named
  have hlocks := B.notSynchronized
  clear B
  subst hsz
  have hD := hD0.self (sz := s.heap.size)
  clear hD0 hNw
  generalize hAe : va_A ([(SO, .inr (11, oX11 PL DR TA RE FL RO HU ME TR NI)), (ME, .inr (3, oX3 FL aME ME_oldest ME_done ME_undone)), ((aME 8), .inl (cZ, 3, .inl ME_full)), ((aME 7), .inl (cG, 3, .inr (.inr (.inr (.inr ME_box))))), ((aME 1), .inl (cI, 32, .inl ME_now)), ((aME 3), .inl (cG, 41, .inr (.inr (.inr (.inr ME_kept)))))] ++ rw41 cI KRr KRf ++ rw3 cI BRr BRf) s.heap.size = A at hD ⊢
  have hA : ∀ q : Nat, s.heap.size ≤ q → A q := fun q h => by rw [← hAe]; exact Or.inr h
  have hS : va_S A s.heap s.heap [] := va_S.rf
  clear hAe
  obtain ⟨H, hH⟩ : ∃ H : Heap, H = s.heap := ⟨_, rfl⟩
  obtain ⟨locs, hlocs⟩ : ∃ L : List Loc, L = [] := ⟨_, rfl⟩
  replace hP : va_P D classes ([(SO, .inr (11, oX11 PL DR TA RE FL RO HU ME TR NI)), (ME, .inr (3, oX3 FL aME ME_oldest ME_done ME_undone)), ((aME 8), .inl (cZ, 3, .inl ME_full)), ((aME 7), .inl (cG, 3, .inr (.inr (.inr (.inr ME_box))))), ((aME 1), .inl (cI, 32, .inl ME_now)), ((aME 3), .inl (cG, 41, .inr (.inr (.inr (.inr ME_kept)))))] ++ rw41 cI KRr KRf ++ rw3 cI BRr BRf) H := by rw [hH]; exact hP
  replace hS : va_S A s.heap H locs := by rw [hH, hlocs]; exact hS
  rw [← hH, ← hlocs]
  clear hlocs hH
  have hl := lv_entry ([.ref SO, .int x0]) (n := 2) (Nat.le_of_ble_eq_true rfl)
  rw [lg_entry_eq]
  generalize (lg_sl ([.ref SO, .int x0]) ++ List.replicate (2 - (lg_sl ([.ref SO, .int x0])).length) Slot.unset).toArray = ls at hl ⊢
  replace hl : lv_has ls 2 [(0, .ref SO), (1, .int x0)] := hl
  refine lv_aload_n hx hb dX11_back_0 rfl (lv_at hl 0 rfl) ?_
  refine va_get (D := D) (ci := 11) (v := .ref ME) (C := RX11) (T := TX11) (N := 10) hx hb hts iw_X11_back_X11 hown hK hP 0 rfl rfl 7 (by decide) (hts (.fieldLink RX11 63 "SoldHouse" "memory" "LSoldHouse$Memory;") (List.mem_of_getElem? (i := 1) rfl)) (fun _ h9 => h9) rfl dX11_back_1 ?_
  refine lv_iload_n hx hb dX11_back_4 rfl (lv_at hl 1 rfl) ?_
  have hPc := hP.sub (ws' := ([(ME, .inr (3, oX3 FL aME ME_oldest ME_done ME_undone)), ((aME 8), .inl (cZ, 3, .inl ME_full)), ((aME 7), .inl (cG, 3, .inr (.inr (.inr (.inr ME_box))))), ((aME 1), .inl (cI, 32, .inl ME_now)), ((aME 3), .inl (cG, 41, .inr (.inr (.inr (.inr ME_kept)))))] ++ rw41 cI KRr KRf ++ rw3 cI BRr BRf)) [1, 2, 3, 4, 5, 6, 7, 8, 9, 10, 11, 12, 13, 14, 15, 16, 17, 18, 19, 20, 21, 22, 23, 24, 25, 26, 27, 28, 29, 30, 31, 32, 33, 34, 35, 36, 37, 38, 39, 40, 41, 42, 43, 44, 45, 46, 47, 48, 49] rfl
  have hDc := hD.sub (ws' := ([(ME, .inr (3, oX3 FL aME ME_oldest ME_done ME_undone)), ((aME 8), .inl (cZ, 3, .inl ME_full)), ((aME 7), .inl (cG, 3, .inr (.inr (.inr (.inr ME_box))))), ((aME 1), .inl (cI, 32, .inl ME_now)), ((aME 3), .inl (cG, 41, .inr (.inr (.inr (.inr ME_kept)))))] ++ rw41 cI KRr KRf ++ rw3 cI BRr BRf)) [1, 2, 3, 4, 5, 6, 7, 8, 9, 10, 11, 12, 13, 14, 15, 16, 17, 18, 19, 20, 21, 22, 23, 24, 25, 26, 27, 28, 29, 30, 31, 32, 33, 34, 35, 36, 37, 38, 39, 40, 41, 42, 43, 44, 45, 46, 47, 48, 49] (by decide) rfl
  have hFc := va_free (wc := ([(ME, .inr (3, oX3 FL aME ME_oldest ME_done ME_undone)), ((aME 8), .inl (cZ, 3, .inl ME_full)), ((aME 7), .inl (cG, 3, .inr (.inr (.inr (.inr ME_box))))), ((aME 1), .inl (cI, 32, .inl ME_now)), ((aME 3), .inl (cG, 41, .inr (.inr (.inr (.inr ME_kept)))))] ++ rw41 cI KRr KRf ++ rw3 cI BRr BRf)) hD hS hA [1, 2, 3, 4, 5, 6, 7, 8, 9, 10, 11, 12, 13, 14, 15, 16, 17, 18, 19, 20, 21, 22, 23, 24, 25, 26, 27, 28, 29, 30, 31, 32, 33, 34, 35, 36, 37, 38, 39, 40, 41, 42, 43, 44, 45, 46, 47, 48, 49] rfl
  refine va_calli (va_runV (As := [.int x0]) (rest := []) ⟨hx, hb, hml, hown, hts⟩ (c_X3_takeFromBox l D cI cB cL cZ cG ME x0 FL aME ME_oldest ME_done ME_undone ME_full ME_box BRr BRf ME_now ME_kept KRr KRf H.size q_ME b_ME_oldest b_ME_done b_ME_undone k_ME_box s_ME_now_0 k_ME_kept w_KR w_BR) (cwV 1 hts gX11_back_X3_takeFromBox rfl rfl rfl (by decide +kernel) ⟨Nat.le_of_ble_eq_true rfl, Nat.le_of_ble_eq_true rfl⟩) ⟨xp_blind, va_recv hK hP (ci := 3) (q0 := 1) rfl rfl, fun U hU hW => xp_mk hU hW hPc hK hDc xNw_nil⟩ rfl rfl hl.1 rfl (lv_room (Nat.le_of_ble_eq_true rfl)) dX11_back_5 ⟨Nat.le_of_ble_eq_true rfl, Nat.le_of_ble_eq_true rfl⟩) hS (fun q _ h => hFc q h) hFc (fun r5 u9 t9 H1 locs ht9 hvm9 hr5 hB9 hz9 hk9 hS => ?_)
  obtain ⟨o5_nME_oldest, o5_nME_done, o5_nME_undone, o5_nMEnow, o5_nKRf, bo5_nME_oldest, bo5_nME_done, bo5_nME_undone, so5_nMEnow_0, wo5_nKRf, q5, hP1, hD1⟩ := hB9
  rw [ht9] at hP1
  obtain ⟨hP, hD⟩ := va_join (wr := [(SO, .inr (11, oX11 PL DR TA RE FL RO HU ME TR NI))]) (w1 := ([(ME, .inr (3, oX3 FL aME o5_nME_oldest o5_nME_done o5_nME_undone)), ((aME 8), .inl (cZ, 3, .inl ME_full)), ((aME 7), .inl (cG, 3, .inr (.inr (.inr (.inr ME_box))))), ((aME 1), .inl (cI, 32, .inl o5_nMEnow)), ((aME 3), .inl (cG, 41, .inr (.inr (.inr (.inr ME_kept)))))] ++ rw41 cI KRr o5_nKRf ++ rw3 cI BRr BRf)) hP hD [1, 2, 3, 4, 5, 6, 7, 8, 9, 10, 11, 12, 13, 14, 15, 16, 17, 18, 19, 20, 21, 22, 23, 24, 25, 26, 27, 28, 29, 30, 31, 32, 33, 34, 35, 36, 37, 38, 39, 40, 41, 42, 43, 44, 45, 46, 47, 48, 49] [0] rfl rfl (by decide) (by decide) hk9 hFc hP1 hD1
  clear hz9 hPc hDc hP1 hD1 hk9 hFc ht9 hvm9 u9 t9
  generalize H1 = H at hP hS ⊢
  replace hP : va_P D classes ([(SO, .inr (11, oX11 PL DR TA RE FL RO HU ME TR NI)), (ME, .inr (3, oX3 FL aME o5_nME_oldest o5_nME_done o5_nME_undone)), ((aME 8), .inl (cZ, 3, .inl ME_full)), ((aME 7), .inl (cG, 3, .inr (.inr (.inr (.inr ME_box))))), ((aME 1), .inl (cI, 32, .inl o5_nMEnow)), ((aME 3), .inl (cG, 41, .inr (.inr (.inr (.inr ME_kept)))))] ++ rw41 cI KRr o5_nKRf ++ rw3 cI BRr BRf) H := hP
  replace hD : va_D A ([(SO, .inr (11, oX11 PL DR TA RE FL RO HU ME TR NI)), (ME, .inr (3, oX3 FL aME o5_nME_oldest o5_nME_done o5_nME_undone)), ((aME 8), .inl (cZ, 3, .inl ME_full)), ((aME 7), .inl (cG, 3, .inr (.inr (.inr (.inr ME_box))))), ((aME 1), .inl (cI, 32, .inl o5_nMEnow)), ((aME 3), .inl (cG, 41, .inr (.inr (.inr (.inr ME_kept)))))] ++ rw41 cI KRr o5_nKRf ++ rw3 cI BRr BRf) := hD
  clear hr5
  exact W.iret (v := r5) hx hb hr (fun t ht hW => ⟨⟨r5, (), rfl, trivial, ⟨o5_nME_oldest, o5_nME_done, o5_nME_undone, o5_nMEnow, o5_nKRf, bo5_nME_oldest, bo5_nME_done, bo5_nME_undone, so5_nMEnow_0, wo5_nKRf, q5, by rw [ht]; exact hP, hD⟩⟩, hS.F ht⟩) hS.2.2 dX11_back_8
set_option maxHeartbeats 4000000 in
set_option maxRecDepth 100000 in
theorem c_X11_about (l : Launch) (D : va_G) (cI : ClassId) (cB : ClassId) (cL : ClassId) (cZ : ClassId) (cG : ClassId) (SO : Nat) (x0 : Int32) (PL : Nat) (DR : Nat) (TA : Nat) (RE : Nat) (FL : Nat) (RO : Nat) (HU : Nat) (ME : Nat) (TR : Nat) (NI : Nat) (PL_rooms : Int32) (aPL : Nat → Nat) (PL_doors : Int32) (PL_things : Int32) (FO : Nat) (PL_draw : Int32) (PL_drawTold : Int32) (aME : Nat → Nat) (ME_oldest : Int32) (ME_done : Int32) (ME_undone : Int32) (ME_now : Nat → Int32) (NI_count : Int32) (NI_time : Int32) (aNI : Nat → Nat) (aTA : Nat → Nat) (TA_size : Int32) (aFO : Nat → Nat) (FO_size : Int32) (FO_units : Int32) (FO_told : Int32) (aRO : Nat → Nat) (RO_lying : Int32) (b_PL_rooms : zB PL_rooms 0 8) (b_PL_doors : zB PL_doors 0 12) (b_PL_things : zB PL_things 0 6) (b_ME_oldest : zB ME_oldest 0 40) (b_ME_done : zB ME_done 0 40) (b_ME_undone : zB ME_undone 0 40) (b_NI_count : zB NI_count 0 30) (b_NI_time : zB NI_time 0 100000) (b_TA_size : zB TA_size 0 1600) (b_FO_size : zB FO_size 0 400) (b_RO_lying : zB RO_lying 0 8) (s_ME_now_0 : zA ME_now 0 12 0 7) : Met l yX11_about wsX11_about ({ frames := 0, cells := 0, slots := 0, locals := 0 }) (xr D [(cI, .int), (cB, .byte), (cL, .long), (cZ, .boolean), (cG, .array .int)] [(SO, .inr (11, oX11 PL DR TA RE FL RO HU ME TR NI)), (PL, .inr (5, oX5 FO aPL PL_rooms PL_doors PL_things PL_draw PL_drawTold)), (ME, .inr (3, oX3 FL aME ME_oldest ME_done ME_undone)), ((aME 1), .inl (cI, 32, .inl ME_now)), (NI, .inr (4, oX4 FL aNI NI_count NI_time)), (TA, .inr (8, oX8 aTA TA_size)), (FO, .inr (1, oX1 aFO FO_size FO_units FO_told)), (RO, .inr (7, oX7 FL aRO RO_lying))] [.ref SO, .int x0]) (vp_Si (fun r => True)) 0 0 (fun _ => False) := by
  refine Met.ofW (cc := cX11_about) (maxL := 2) (ret := (some .int)) (by decide) rfl ?_
  intro p e s m args below meth c s₁ B hml hv
  obtain ⟨rfl, hP, hK⟩ := hv
  have hx := B.exec
  have hb := B.bytes
  have hr := B.returns
  have hts := atoms_spec (ws := wsX11_about) B.pre
  have hown : s.vm.findClass RX11 = some m.cls := findClass_of_methodNamed B.named
  have hlocks := B.notSynchronized
  clear B
  have hl := lv_entry ([.ref SO, .int x0]) (n := 2) (Nat.le_of_ble_eq_true rfl)
  rw [lg_entry_eq]
  generalize (lg_sl ([.ref SO, .int x0]) ++ List.replicate (2 - (lg_sl ([.ref SO, .int x0])).length) Slot.unset).toArray = ls at hl ⊢
  replace hl : lv_has ls 2 [(0, .ref SO), (1, .int x0)] := hl
  refine lv_iload_n hx hb dX11_about_0 rfl (lv_at hl 1 rfl) ?_
  by_cases c1_0 : x0 = 0
  · obtain rfl := c1_0
    refine lv_tableIn (off := 63) (tgt := 64) hx hb dX11_about_1 (by decide) (by decide) (by decide) (by decide) ?_
    refine lv_aload_n hx hb dX11_about_64 rfl (lv_at hl 0 rfl) ?_
    refine va_get (D := D) (ci := 11) (v := .ref PL) (C := RX11) (T := TX11) (N := 10) hx hb hts iw_X11_about_X11 hown hK hP 0 rfl rfl 0 (by decide) (hts (.fieldLink RX11 10 "SoldHouse" "plan" "LSoldHouse$Plan;") (List.mem_of_getElem? (i := 1) rfl)) (fun _ h9 => h9) rfl dX11_about_65 ?_
    refine va_get (D := D) (ci := 5) (v := .int PL_rooms) (C := RX5) (T := TX5) (N := 16) hx hb hts iw_X11_about_X5 hown hK hP 1 rfl rfl 0 (by decide) (hts (.fieldLink RX11 101 "SoldHouse$Plan" "rooms" "I") (List.mem_of_getElem? (i := 2) rfl)) (fun _ h9 => h9) rfl dX11_about_68 ?_
    exact W.iret (v := PL_rooms) hx hb hr (fun t ht hW => ⟨PL_rooms, rfl, trivial, ht⟩) (fun q hq => by cases hq) dX11_about_71
  by_cases c1_1 : x0 = 1
  · obtain rfl := c1_1
    refine lv_tableIn (off := 71) (tgt := 72) hx hb dX11_about_1 (by decide) (by decide) (by decide) (by decide) ?_
    refine lv_aload_n hx hb dX11_about_72 rfl (lv_at hl 0 rfl) ?_
    refine va_get (D := D) (ci := 11) (v := .ref PL) (C := RX11) (T := TX11) (N := 10) hx hb hts iw_X11_about_X11 hown hK hP 0 rfl rfl 0 (by decide) (hts (.fieldLink RX11 10 "SoldHouse" "plan" "LSoldHouse$Plan;") (List.mem_of_getElem? (i := 1) rfl)) (fun _ h9 => h9) rfl dX11_about_73 ?_
    refine va_get (D := D) (ci := 5) (v := .int PL_doors) (C := RX5) (T := TX5) (N := 16) hx hb hts iw_X11_about_X5 hown hK hP 1 rfl rfl 3 (by decide) (hts (.fieldLink RX11 309 "SoldHouse$Plan" "doors" "I") (List.mem_of_getElem? (i := 3) rfl)) (fun _ h9 => h9) rfl dX11_about_76 ?_
    exact W.iret (v := PL_doors) hx hb hr (fun t ht hW => ⟨PL_doors, rfl, trivial, ht⟩) (fun q hq => by cases hq) dX11_about_79
  by_cases c1_2 : x0 = 2
  · obtain rfl := c1_2
    refine lv_tableIn (off := 79) (tgt := 80) hx hb dX11_about_1 (by decide) (by decide) (by decide) (by decide) ?_
    refine lv_aload_n hx hb dX11_about_80 rfl (lv_at hl 0 rfl) ?_
    refine va_get (D := D) (ci := 11) (v := .ref PL) (C := RX11) (T := TX11) (N := 10) hx hb hts iw_X11_about_X11 hown hK hP 0 rfl rfl 0 (by decide) (hts (.fieldLink RX11 10 "SoldHouse" "plan" "LSoldHouse$Plan;") (List.mem_of_getElem? (i := 1) rfl)) (fun _ h9 => h9) rfl dX11_about_81 ?_
    refine va_get (D := D) (ci := 5) (v := .int PL_things) (C := RX5) (T := TX5) (N := 16) hx hb hts iw_X11_about_X5 hown hK hP 1 rfl rfl 6 (by decide) (hts (.fieldLink RX11 253 "SoldHouse$Plan" "things" "I") (List.mem_of_getElem? (i := 4) rfl)) (fun _ h9 => h9) rfl dX11_about_84 ?_
    exact W.iret (v := PL_things) hx hb hr (fun t ht hW => ⟨PL_things, rfl, trivial, ht⟩) (fun q hq => by cases hq) dX11_about_87
  by_cases c1_3 : x0 = 3
  · obtain rfl := c1_3
    refine lv_tableIn (off := 87) (tgt := 88) hx hb dX11_about_1 (by decide) (by decide) (by decide) (by decide) ?_
    refine lv_aload_n hx hb dX11_about_88 rfl (lv_at hl 0 rfl) ?_
    refine va_get (D := D) (ci := 11) (v := .ref ME) (C := RX11) (T := TX11) (N := 10) hx hb hts iw_X11_about_X11 hown hK hP 0 rfl rfl 7 (by decide) (hts (.fieldLink RX11 63 "SoldHouse" "memory" "LSoldHouse$Memory;") (List.mem_of_getElem? (i := 5) rfl)) (fun _ h9 => h9) rfl dX11_about_89 ?_
    refine va_get (D := D) (ci := 3) (v := .ref (aME 1)) (C := RX3) (T := TX3) (N := 9) hx hb hts iw_X11_about_X3 hown hK hP 2 rfl rfl 1 (by decide) (hts (.fieldLink RX11 128 "SoldHouse$Memory" "now" "[I") (List.mem_of_getElem? (i := 6) rfl)) (fun _ h9 => h9) rfl dX11_about_92 ?_
    refine lv_bipush (v := 30) hx hb dX11_about_95 (by decide) ?_
    refine va_iald hx hb hK hP 3 0 rfl rfl (zB_in (show zB 30 30 30 from ⟨by decide, by decide⟩) (by decide) (by decide)) dX11_about_97 ?_
    refine lv_topi (fun y97 _ => ?_)
    exact W.iret (v := y97) hx hb hr (fun t ht hW => ⟨y97, rfl, trivial, ht⟩) (fun q hq => by cases hq) dX11_about_98
  by_cases c1_4 : x0 = 4
  · obtain rfl := c1_4
    refine lv_tableIn (off := 98) (tgt := 99) hx hb dX11_about_1 (by decide) (by decide) (by decide) (by decide) ?_
    refine lv_aload_n hx hb dX11_about_99 rfl (lv_at hl 0 rfl) ?_
    refine va_get (D := D) (ci := 11) (v := .ref ME) (C := RX11) (T := TX11) (N := 10) hx hb hts iw_X11_about_X11 hown hK hP 0 rfl rfl 7 (by decide) (hts (.fieldLink RX11 63 "SoldHouse" "memory" "LSoldHouse$Memory;") (List.mem_of_getElem? (i := 5) rfl)) (fun _ h9 => h9) rfl dX11_about_100 ?_
    refine va_get (D := D) (ci := 3) (v := .ref (aME 1)) (C := RX3) (T := TX3) (N := 9) hx hb hts iw_X11_about_X3 hown hK hP 2 rfl rfl 1 (by decide) (hts (.fieldLink RX11 128 "SoldHouse$Memory" "now" "[I") (List.mem_of_getElem? (i := 6) rfl)) (fun _ h9 => h9) rfl dX11_about_103 ?_
    refine lv_bipush (v := 31) hx hb dX11_about_106 (by decide) ?_
    refine va_iald hx hb hK hP 3 0 rfl rfl (zB_in (show zB 31 31 31 from ⟨by decide, by decide⟩) (by decide) (by decide)) dX11_about_108 ?_
    refine lv_topi (fun y108 _ => ?_)
    exact W.iret (v := y108) hx hb hr (fun t ht hW => ⟨y108, rfl, trivial, ht⟩) (fun q hq => by cases hq) dX11_about_109
  by_cases c1_5 : x0 = 5
  · obtain rfl := c1_5
    refine lv_tableIn (off := 109) (tgt := 110) hx hb dX11_about_1 (by decide) (by decide) (by decide) (by decide) ?_
    refine lv_aload_n hx hb dX11_about_110 rfl (lv_at hl 0 rfl) ?_
    refine va_get (D := D) (ci := 11) (v := .ref ME) (C := RX11) (T := TX11) (N := 10) hx hb hts iw_X11_about_X11 hown hK hP 0 rfl rfl 7 (by decide) (hts (.fieldLink RX11 63 "SoldHouse" "memory" "LSoldHouse$Memory;") (List.mem_of_getElem? (i := 5) rfl)) (fun _ h9 => h9) rfl dX11_about_111 ?_
    refine va_get (D := D) (ci := 3) (v := .int ME_done) (C := RX3) (T := TX3) (N := 9) hx hb hts iw_X11_about_X3 hown hK hP 2 rfl rfl 5 (by decide) (hts (.fieldLink RX11 312 "SoldHouse$Memory" "done" "I") (List.mem_of_getElem? (i := 7) rfl)) (fun _ h9 => h9) rfl dX11_about_114 ?_
    exact W.iret (v := ME_done) hx hb hr (fun t ht hW => ⟨ME_done, rfl, trivial, ht⟩) (fun q hq => by cases hq) dX11_about_117
  by_cases c1_6 : x0 = 6
  · obtain rfl := c1_6
    refine lv_tableIn (off := 117) (tgt := 118) hx hb dX11_about_1 (by decide) (by decide) (by decide) (by decide) ?_
    refine lv_aload_n hx hb dX11_about_118 rfl (lv_at hl 0 rfl) ?_
    refine va_get (D := D) (ci := 11) (v := .ref ME) (C := RX11) (T := TX11) (N := 10) hx hb hts iw_X11_about_X11 hown hK hP 0 rfl rfl 7 (by decide) (hts (.fieldLink RX11 63 "SoldHouse" "memory" "LSoldHouse$Memory;") (List.mem_of_getElem? (i := 5) rfl)) (fun _ h9 => h9) rfl dX11_about_119 ?_
    refine va_get (D := D) (ci := 3) (v := .int ME_undone) (C := RX3) (T := TX3) (N := 9) hx hb hts iw_X11_about_X3 hown hK hP 2 rfl rfl 6 (by decide) (hts (.fieldLink RX11 315 "SoldHouse$Memory" "undone" "I") (List.mem_of_getElem? (i := 8) rfl)) (fun _ h9 => h9) rfl dX11_about_122 ?_
    exact W.iret (v := ME_undone) hx hb hr (fun t ht hW => ⟨ME_undone, rfl, trivial, ht⟩) (fun q hq => by cases hq) dX11_about_125
  by_cases c1_7 : x0 = 7
  · obtain rfl := c1_7
    refine lv_tableIn (off := 125) (tgt := 126) hx hb dX11_about_1 (by decide) (by decide) (by decide) (by decide) ?_
    refine lv_aload_n hx hb dX11_about_126 rfl (lv_at hl 0 rfl) ?_
    refine va_get (D := D) (ci := 11) (v := .ref NI) (C := RX11) (T := TX11) (N := 10) hx hb hts iw_X11_about_X11 hown hK hP 0 rfl rfl 9 (by decide) (hts (.fieldLink RX11 79 "SoldHouse" "night" "LSoldHouse$Night;") (List.mem_of_getElem? (i := 9) rfl)) (fun _ h9 => h9) rfl dX11_about_127 ?_
    refine va_get (D := D) (ci := 4) (v := .int NI_count) (C := RX4) (T := TX4) (N := 10) hx hb hts iw_X11_about_X4 hown hK hP 4 rfl rfl 1 (by decide) (hts (.fieldLink RX11 318 "SoldHouse$Night" "count" "I") (List.mem_of_getElem? (i := 10) rfl)) (fun _ h9 => h9) rfl dX11_about_130 ?_
    exact W.iret (v := NI_count) hx hb hr (fun t ht hW => ⟨NI_count, rfl, trivial, ht⟩) (fun q hq => by cases hq) dX11_about_133
  by_cases c1_8 : x0 = 8
  · obtain rfl := c1_8
    refine lv_tableIn (off := 133) (tgt := 134) hx hb dX11_about_1 (by decide) (by decide) (by decide) (by decide) ?_
    refine lv_aload_n hx hb dX11_about_134 rfl (lv_at hl 0 rfl) ?_
    refine va_get (D := D) (ci := 11) (v := .ref NI) (C := RX11) (T := TX11) (N := 10) hx hb hts iw_X11_about_X11 hown hK hP 0 rfl rfl 9 (by decide) (hts (.fieldLink RX11 79 "SoldHouse" "night" "LSoldHouse$Night;") (List.mem_of_getElem? (i := 9) rfl)) (fun _ h9 => h9) rfl dX11_about_135 ?_
    refine va_get (D := D) (ci := 4) (v := .int NI_time) (C := RX4) (T := TX4) (N := 10) hx hb hts iw_X11_about_X4 hown hK hP 4 rfl rfl 2 (by decide) (hts (.fieldLink RX11 321 "SoldHouse$Night" "time" "I") (List.mem_of_getElem? (i := 11) rfl)) (fun _ h9 => h9) rfl dX11_about_138 ?_
    exact W.iret (v := NI_time) hx hb hr (fun t ht hW => ⟨NI_time, rfl, trivial, ht⟩) (fun q hq => by cases hq) dX11_about_141
  by_cases c1_9 : x0 = 9
  · obtain rfl := c1_9
    refine lv_tableIn (off := 141) (tgt := 142) hx hb dX11_about_1 (by decide) (by decide) (by decide) (by decide) ?_
    refine lv_aload_n hx hb dX11_about_142 rfl (lv_at hl 0 rfl) ?_
    refine va_get (D := D) (ci := 11) (v := .ref TA) (C := RX11) (T := TX11) (N := 10) hx hb hts iw_X11_about_X11 hown hK hP 0 rfl rfl 2 (by decide) (hts (.fieldLink RX11 22 "SoldHouse" "tape" "LSoldHouse$Tape;") (List.mem_of_getElem? (i := 12) rfl)) (fun _ h9 => h9) rfl dX11_about_143 ?_
    refine va_get (D := D) (ci := 8) (v := .int TA_size) (C := RX8) (T := TX8) (N := 2) hx hb hts iw_X11_about_X8 hown hK hP 5 rfl rfl 1 (by decide) (hts (.fieldLink RX11 86 "SoldHouse$Tape" "size" "I") (List.mem_of_getElem? (i := 13) rfl)) (fun _ h9 => h9) rfl dX11_about_146 ?_
    exact W.iret (v := TA_size) hx hb hr (fun t ht hW => ⟨TA_size, rfl, trivial, ht⟩) (fun q hq => by cases hq) dX11_about_149
  by_cases c1_10 : x0 = 10
  · obtain rfl := c1_10
    refine lv_tableIn (off := 149) (tgt := 150) hx hb dX11_about_1 (by decide) (by decide) (by decide) (by decide) ?_
    refine lv_aload_n hx hb dX11_about_150 rfl (lv_at hl 0 rfl) ?_
    refine va_get (D := D) (ci := 11) (v := .ref PL) (C := RX11) (T := TX11) (N := 10) hx hb hts iw_X11_about_X11 hown hK hP 0 rfl rfl 0 (by decide) (hts (.fieldLink RX11 10 "SoldHouse" "plan" "LSoldHouse$Plan;") (List.mem_of_getElem? (i := 1) rfl)) (fun _ h9 => h9) rfl dX11_about_151 ?_
    refine va_get (D := D) (ci := 5) (v := .ref FO) (C := RX5) (T := TX5) (N := 16) hx hb hts iw_X11_about_X5 hown hK hP 1 rfl rfl 13 (by decide) (hts (.fieldLink RX11 324 "SoldHouse$Plan" "sure" "LSoldHouse$Formula;") (List.mem_of_getElem? (i := 14) rfl)) (fun _ h9 => h9) rfl dX11_about_154 ?_
    refine va_get (D := D) (ci := 1) (v := .int FO_units) (C := RX1) (T := TX1) (N := 6) hx hb hts iw_X11_about_X1 hown hK hP 6 rfl rfl 4 (by decide) (hts (.fieldLink RX11 328 "SoldHouse$Formula" "units" "I") (List.mem_of_getElem? (i := 15) rfl)) (fun _ h9 => h9) rfl dX11_about_157 ?_
    exact W.iret (v := FO_units) hx hb hr (fun t ht hW => ⟨FO_units, rfl, trivial, ht⟩) (fun q hq => by cases hq) dX11_about_160
  by_cases c1_11 : x0 = 11
  · obtain rfl := c1_11
    refine lv_tableIn (off := 160) (tgt := 161) hx hb dX11_about_1 (by decide) (by decide) (by decide) (by decide) ?_
    refine lv_aload_n hx hb dX11_about_161 rfl (lv_at hl 0 rfl) ?_
    refine va_get (D := D) (ci := 11) (v := .ref RO) (C := RX11) (T := TX11) (N := 10) hx hb hts iw_X11_about_X11 hown hK hP 0 rfl rfl 5 (by decide) (hts (.fieldLink RX11 49 "SoldHouse" "routes" "LSoldHouse$Routes;") (List.mem_of_getElem? (i := 16) rfl)) (fun _ h9 => h9) rfl dX11_about_162 ?_
    refine va_get (D := D) (ci := 7) (v := .int RO_lying) (C := RX7) (T := TX7) (N := 5) hx hb hts iw_X11_about_X7 hown hK hP 7 rfl rfl 2 (by decide) (hts (.fieldLink RX11 187 "SoldHouse$Routes" "lying" "I") (List.mem_of_getElem? (i := 17) rfl)) (fun _ h9 => h9) rfl dX11_about_165 ?_
    exact W.iret (v := RO_lying) hx hb hr (fun t ht hW => ⟨RO_lying, rfl, trivial, ht⟩) (fun q hq => by cases hq) dX11_about_168
  refine lv_tableOut (tgt := 169) hx hb dX11_about_1 (by have h9_0 := zn (n := 0) c1_0 (by decide); have h9_1 := zn (n := 1) c1_1 (by decide); have h9_2 := zn (n := 2) c1_2 (by decide); have h9_3 := zn (n := 3) c1_3 (by decide); have h9_4 := zn (n := 4) c1_4 (by decide); have h9_5 := zn (n := 5) c1_5 (by decide); have h9_6 := zn (n := 6) c1_6 (by decide); have h9_7 := zn (n := 7) c1_7 (by decide); have h9_8 := zn (n := 8) c1_8 (by decide); have h9_9 := zn (n := 9) c1_9 (by decide); have h9_10 := zn (n := 10) c1_10 (by decide); have h9_11 := zn (n := 11) c1_11 (by decide); omega) (by decide) ?_
  refine lv_iconst (v := (-1)) hx hb dX11_about_169 (by decide) ?_
  exact W.iret (v := (-1)) hx hb hr (fun t ht hW => ⟨(-1), rfl, trivial, ht⟩) (fun q hq => by cases hq) dX11_about_170
