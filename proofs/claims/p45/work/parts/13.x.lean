set_option maxHeartbeats 4000000 in
set_option maxRecDepth 100000 in
theorem c_X4_countWalks (l : Launch) (D : va_G) (cI : ClassId) (cB : ClassId) (cL : ClassId) (cZ : ClassId) (cG : ClassId) (NI : Nat) (x0 : Int32) (FL : Nat) (NI_count : Int32) (NI_time : Int32) (aNI : Nat → Nat) (NI_open : Nat → Int32) (NI_untoldAt : Nat → Int32) (NI_toldAt : Nat → Int32) (NI_minute : Nat → Int32) (NI_rooms : Nat → Int32) (PL : Nat) (aFL : Nat → Nat) (FL_parting : Int32) (PL_rooms : Int32) (aPL : Nat → Nat) (PL_doors : Int32) (PL_things : Int32) (FO : Nat) (PL_draw : Int32) (PL_drawTold : Int32) (NI_into : Nat → Int32) (FL_next : Nat → Int32) (NI_onward : Nat → Int32) (sz : Nat) (b_NI_count : zB NI_count 0 30) (b_NI_time : zB NI_time 0 100000) (b_PL_rooms : zB PL_rooms 0 8) (b_PL_doors : zB PL_doors 0 12) (b_PL_things : zB PL_things 0 6) (s_NI_minute_0 : zA NI_minute 0 30 0 7) : Met l yX4_countWalks wsX4_countWalks ({ frames := 2, cells := 0, slots := 0, locals := 48 }) (xp D [(cI, .int), (cB, .byte), (cL, .long), (cZ, .boolean), (cG, .array .int)] [(NI, .inr (4, oX4 FL aNI NI_count NI_time)), ((aNI 7), .inl (cI, 8, .inl NI_open)), ((aNI 6), .inl (cI, 30, .inl NI_untoldAt)), ((aNI 5), .inl (cI, 30, .inl NI_toldAt)), ((aNI 3), .inl (cI, 30, .inl NI_minute)), ((aNI 4), .inl (cI, 30, .inl NI_rooms)), (FL, .inr (0, oX0 PL aFL FL_parting)), (PL, .inr (5, oX5 FO aPL PL_rooms PL_doors PL_things PL_draw PL_drawTold)), ((aNI 8), .inl (cI, 64, .inl NI_into)), ((aFL 1), .inl (cI, 8, .inl FL_next)), ((aNI 9), .inl (cI, 64, .inl NI_onward))] sz [] [.ref NI, .int x0]) (va_Qi (fun (r : Int32) (_ : Unit) => True) (fun (_ : Unit) (t : State) => ∃ (nNIopen : Nat → Int32), ∃ (nNIinto : Nat → Int32), ∃ (nNIonward : Nat → Int32), xB D (va_A [(NI, .inr (4, oX4 FL aNI NI_count NI_time)), ((aNI 7), .inl (cI, 8, .inl NI_open)), ((aNI 6), .inl (cI, 30, .inl NI_untoldAt)), ((aNI 5), .inl (cI, 30, .inl NI_toldAt)), ((aNI 3), .inl (cI, 30, .inl NI_minute)), ((aNI 4), .inl (cI, 30, .inl NI_rooms)), (FL, .inr (0, oX0 PL aFL FL_parting)), (PL, .inr (5, oX5 FO aPL PL_rooms PL_doors PL_things PL_draw PL_drawTold)), ((aNI 8), .inl (cI, 64, .inl NI_into)), ((aFL 1), .inl (cI, 8, .inl FL_next)), ((aNI 9), .inl (cI, 64, .inl NI_onward))] sz) [(NI, .inr (4, oX4 FL aNI NI_count NI_time)), ((aNI 7), .inl (cI, 8, .inl nNIopen)), ((aNI 6), .inl (cI, 30, .inl NI_untoldAt)), ((aNI 5), .inl (cI, 30, .inl NI_toldAt)), ((aNI 3), .inl (cI, 30, .inl NI_minute)), ((aNI 4), .inl (cI, 30, .inl NI_rooms)), (FL, .inr (0, oX0 PL aFL FL_parting)), (PL, .inr (5, oX5 FO aPL PL_rooms PL_doors PL_things PL_draw PL_drawTold)), ((aNI 8), .inl (cI, 64, .inl nNIinto)), ((aFL 1), .inl (cI, 8, .inl FL_next)), ((aNI 9), .inl (cI, 64, .inl nNIonward))] t) (va_A [(NI, .inr (4, oX4 FL aNI NI_count NI_time)), ((aNI 7), .inl (cI, 8, .inl NI_open)), ((aNI 6), .inl (cI, 30, .inl NI_untoldAt)), ((aNI 5), .inl (cI, 30, .inl NI_toldAt)), ((aNI 3), .inl (cI, 30, .inl NI_minute)), ((aNI 4), .inl (cI, 30, .inl NI_rooms)), (FL, .inr (0, oX0 PL aFL FL_parting)), (PL, .inr (5, oX5 FO aPL PL_rooms PL_doors PL_things PL_draw PL_drawTold)), ((aNI 8), .inl (cI, 64, .inl NI_into)), ((aFL 1), .inl (cI, 8, .inl FL_next)), ((aNI 9), .inl (cI, 64, .inl NI_onward))] sz)) 0 0 (va_A [(NI, .inr (4, oX4 FL aNI NI_count NI_time)), ((aNI 7), .inl (cI, 8, .inl NI_open)), ((aNI 6), .inl (cI, 30, .inl NI_untoldAt)), ((aNI 5), .inl (cI, 30, .inl NI_toldAt)), ((aNI 3), .inl (cI, 30, .inl NI_minute)), ((aNI 4), .inl (cI, 30, .inl NI_rooms)), (FL, .inr (0, oX0 PL aFL FL_parting)), (PL, .inr (5, oX5 FO aPL PL_rooms PL_doors PL_things PL_draw PL_drawTold)), ((aNI 8), .inl (cI, 64, .inl NI_into)), ((aFL 1), .inl (cI, 8, .inl FL_next)), ((aNI 9), .inl (cI, 64, .inl NI_onward))] sz) := by
  refine Met.ofW (cc := cX4_countWalks) (maxL := 4) (ret := (some .int)) (by decide) rfl ?_
  intro p e s m args below meth c s₁ B hml hv
  obtain ⟨rfl, hsz, hP, hK, hD0, hNw⟩ := hv
  have hx := B.exec
  have hb := B.bytes
  have hr := B.returns
  have hts := atoms_spec (ws := wsX4_countWalks) B.pre
  have hown : s.vm.findClass RX4 = some m.cls := findClass_of_methodNamed B.named
  have hlocks := B.notSynchronized
  clear B
  subst hsz
  have hD := hD0.self (sz := s.heap.size)
  clear hD0 hNw
  generalize hAe : va_A [(NI, .inr (4, oX4 FL aNI NI_count NI_time)), ((aNI 7), .inl (cI, 8, .inl NI_open)), ((aNI 6), .inl (cI, 30, .inl NI_untoldAt)), ((aNI 5), .inl (cI, 30, .inl NI_toldAt)), ((aNI 3), .inl (cI, 30, .inl NI_minute)), ((aNI 4), .inl (cI, 30, .inl NI_rooms)), (FL, .inr (0, oX0 PL aFL FL_parting)), (PL, .inr (5, oX5 FO aPL PL_rooms PL_doors PL_things PL_draw PL_drawTold)), ((aNI 8), .inl (cI, 64, .inl NI_into)), ((aFL 1), .inl (cI, 8, .inl FL_next)), ((aNI 9), .inl (cI, 64, .inl NI_onward))] s.heap.size = A at hD ⊢
  have hA : ∀ q : Nat, s.heap.size ≤ q → A q := fun q h => by rw [← hAe]; exact Or.inr h
  have hS : va_S A s.heap s.heap [] := va_S.rf
  clear hAe
  obtain ⟨H, hH⟩ : ∃ H : Heap, H = s.heap := ⟨_, rfl⟩
  obtain ⟨locs, hlocs⟩ : ∃ L : List Loc, L = [] := ⟨_, rfl⟩
  replace hP : va_P D classes [(NI, .inr (4, oX4 FL aNI NI_count NI_time)), ((aNI 7), .inl (cI, 8, .inl NI_open)), ((aNI 6), .inl (cI, 30, .inl NI_untoldAt)), ((aNI 5), .inl (cI, 30, .inl NI_toldAt)), ((aNI 3), .inl (cI, 30, .inl NI_minute)), ((aNI 4), .inl (cI, 30, .inl NI_rooms)), (FL, .inr (0, oX0 PL aFL FL_parting)), (PL, .inr (5, oX5 FO aPL PL_rooms PL_doors PL_things PL_draw PL_drawTold)), ((aNI 8), .inl (cI, 64, .inl NI_into)), ((aFL 1), .inl (cI, 8, .inl FL_next)), ((aNI 9), .inl (cI, 64, .inl NI_onward))] H := by rw [hH]; exact hP
  replace hS : va_S A s.heap H locs := by rw [hH, hlocs]; exact hS
  rw [← hH, ← hlocs]
  clear hlocs hH
  have hl := lv_entry ([.ref NI, .int x0]) (n := 4) (Nat.le_of_ble_eq_true rfl)
  rw [lg_entry_eq]
  generalize (lg_sl ([.ref NI, .int x0]) ++ List.replicate (4 - (lg_sl ([.ref NI, .int x0])).length) Slot.unset).toArray = ls at hl ⊢
  replace hl : lv_has ls 4 [(0, .ref NI), (1, .int x0)] := hl
  refine zz_abs (R := ({ frames := 2, cells := 0, slots := 0, locals := 48 } : Room)) (fun Q up => ?_)
  refine lv_aload_n hx hb dX4_countWalks_0 rfl (lv_at hl 0 rfl) ?_
  refine lv_iload_n hx hb dX4_countWalks_1 rfl (lv_at hl 1 rfl) ?_
  have hPc := hP.sub (ws' := [(NI, .inr (4, oX4 FL aNI NI_count NI_time)), ((aNI 7), .inl (cI, 8, .inl NI_open)), ((aNI 6), .inl (cI, 30, .inl NI_untoldAt)), ((aNI 5), .inl (cI, 30, .inl NI_toldAt)), ((aNI 3), .inl (cI, 30, .inl NI_minute)), ((aNI 4), .inl (cI, 30, .inl NI_rooms))]) [0, 1, 2, 3, 4, 5] rfl
  have hDc := hD.sub (ws' := [(NI, .inr (4, oX4 FL aNI NI_count NI_time)), ((aNI 7), .inl (cI, 8, .inl NI_open)), ((aNI 6), .inl (cI, 30, .inl NI_untoldAt)), ((aNI 5), .inl (cI, 30, .inl NI_toldAt)), ((aNI 3), .inl (cI, 30, .inl NI_minute)), ((aNI 4), .inl (cI, 30, .inl NI_rooms))]) [0, 1, 2, 3, 4, 5] (by decide) rfl
  have hFc := va_free (wc := [(NI, .inr (4, oX4 FL aNI NI_count NI_time)), ((aNI 7), .inl (cI, 8, .inl NI_open)), ((aNI 6), .inl (cI, 30, .inl NI_untoldAt)), ((aNI 5), .inl (cI, 30, .inl NI_toldAt)), ((aNI 3), .inl (cI, 30, .inl NI_minute)), ((aNI 4), .inl (cI, 30, .inl NI_rooms))]) hD hS hA [0, 1, 2, 3, 4, 5] rfl
  refine va_callv (va_runV (As := [.int x0]) (rest := []) ⟨hx, hb, hml, hown, hts⟩ (c_X4_openRooms l D cI cB cL cZ cG NI x0 FL NI_count NI_time aNI NI_open NI_untoldAt NI_toldAt NI_minute NI_rooms H.size b_NI_count b_NI_time s_NI_minute_0) (cwV 1 hts gX4_countWalks_X4_openRooms rfl rfl rfl (by decide +kernel) ⟨Nat.le_of_ble_eq_true rfl, Nat.le_of_ble_eq_true rfl⟩) ⟨xp_blind, va_recv hK hP (ci := 4) (q0 := 0) rfl rfl, fun U hU hW => xp_mk hU hW hPc hK hDc xNw_nil⟩ rfl rfl hl.1 rfl (lv_room (Nat.le_of_ble_eq_true rfl)) dX4_countWalks_2 ⟨Nat.le_of_ble_eq_true rfl, Nat.le_of_ble_eq_true rfl⟩) hS (fun q _ h => hFc q h) hFc (fun u9 t9 H1 locs ht9 hvm9 hr2 hB9 hz9 hk9 hS => ?_)
  obtain ⟨o2_nNIopen, hP1, hD1⟩ := hB9
  rw [ht9] at hP1
  obtain ⟨hP, hD⟩ := va_join (wr := [(FL, .inr (0, oX0 PL aFL FL_parting)), (PL, .inr (5, oX5 FO aPL PL_rooms PL_doors PL_things PL_draw PL_drawTold)), ((aNI 8), .inl (cI, 64, .inl NI_into)), ((aFL 1), .inl (cI, 8, .inl FL_next)), ((aNI 9), .inl (cI, 64, .inl NI_onward))]) (w1 := [(NI, .inr (4, oX4 FL aNI NI_count NI_time)), ((aNI 7), .inl (cI, 8, .inl o2_nNIopen)), ((aNI 6), .inl (cI, 30, .inl NI_untoldAt)), ((aNI 5), .inl (cI, 30, .inl NI_toldAt)), ((aNI 3), .inl (cI, 30, .inl NI_minute)), ((aNI 4), .inl (cI, 30, .inl NI_rooms))]) hP hD [0, 1, 2, 3, 4, 5] [6, 7, 8, 9, 10] rfl rfl (by decide) (by decide) hk9 hFc hP1 hD1
  clear hz9 hPc hDc hP1 hD1 hk9 hFc ht9 hvm9 u9 t9
  generalize H1 = H at hP hS ⊢
  replace hP : va_P D classes [(NI, .inr (4, oX4 FL aNI NI_count NI_time)), ((aNI 7), .inl (cI, 8, .inl o2_nNIopen)), ((aNI 6), .inl (cI, 30, .inl NI_untoldAt)), ((aNI 5), .inl (cI, 30, .inl NI_toldAt)), ((aNI 3), .inl (cI, 30, .inl NI_minute)), ((aNI 4), .inl (cI, 30, .inl NI_rooms)), (FL, .inr (0, oX0 PL aFL FL_parting)), (PL, .inr (5, oX5 FO aPL PL_rooms PL_doors PL_things PL_draw PL_drawTold)), ((aNI 8), .inl (cI, 64, .inl NI_into)), ((aFL 1), .inl (cI, 8, .inl FL_next)), ((aNI 9), .inl (cI, 64, .inl NI_onward))] H := hP.sub [5, 6, 7, 8, 9, 10, 0, 1, 2, 3, 4] rfl
  replace hD : va_D A [(NI, .inr (4, oX4 FL aNI NI_count NI_time)), ((aNI 7), .inl (cI, 8, .inl o2_nNIopen)), ((aNI 6), .inl (cI, 30, .inl NI_untoldAt)), ((aNI 5), .inl (cI, 30, .inl NI_toldAt)), ((aNI 3), .inl (cI, 30, .inl NI_minute)), ((aNI 4), .inl (cI, 30, .inl NI_rooms)), (FL, .inr (0, oX0 PL aFL FL_parting)), (PL, .inr (5, oX5 FO aPL PL_rooms PL_doors PL_things PL_draw PL_drawTold)), ((aNI 8), .inl (cI, 64, .inl NI_into)), ((aFL 1), .inl (cI, 8, .inl FL_next)), ((aNI 9), .inl (cI, 64, .inl NI_onward))] := hD.sub [5, 6, 7, 8, 9, 10, 0, 1, 2, 3, 4] (by decide) rfl
  refine lv_iconst (v := 0) hx hb dX4_countWalks_5 (by decide) ?_
  have j7 : ∀ (n7 : Nat) (H : Heap) (locs : List Loc) (ls : Array Slot) (v7_2 : Int32) (g7_aNI8 : Nat → Int32), zB v7_2 0 8 → zA NI_minute 0 30 0 7 → (8 + 1 - v7_2.toInt) ≤ (n7 : Int) → va_P D classes [(NI, .inr (4, oX4 FL aNI NI_count NI_time)), ((aNI 7), .inl (cI, 8, .inl o2_nNIopen)), ((aNI 6), .inl (cI, 30, .inl NI_untoldAt)), ((aNI 5), .inl (cI, 30, .inl NI_toldAt)), ((aNI 3), .inl (cI, 30, .inl NI_minute)), ((aNI 4), .inl (cI, 30, .inl NI_rooms)), (FL, .inr (0, oX0 PL aFL FL_parting)), (PL, .inr (5, oX5 FO aPL PL_rooms PL_doors PL_things PL_draw PL_drawTold)), ((aNI 8), .inl (cI, 64, .inl g7_aNI8)), ((aFL 1), .inl (cI, 8, .inl FL_next)), ((aNI 9), .inl (cI, 64, .inl NI_onward))] H → va_D A [(NI, .inr (4, oX4 FL aNI NI_count NI_time)), ((aNI 7), .inl (cI, 8, .inl o2_nNIopen)), ((aNI 6), .inl (cI, 30, .inl NI_untoldAt)), ((aNI 5), .inl (cI, 30, .inl NI_toldAt)), ((aNI 3), .inl (cI, 30, .inl NI_minute)), ((aNI 4), .inl (cI, 30, .inl NI_rooms)), (FL, .inr (0, oX0 PL aFL FL_parting)), (PL, .inr (5, oX5 FO aPL PL_rooms PL_doors PL_things PL_draw PL_drawTold)), ((aNI 8), .inl (cI, 64, .inl g7_aNI8)), ((aFL 1), .inl (cI, 8, .inl FL_next)), ((aNI 9), .inl (cI, 64, .inl NI_onward))] → va_S A s.heap H locs → lv_has ls 4 [(2, .int v7_2), (0, .ref NI), (1, .int x0)] → W p l e ({ frames := 2, cells := 0, slots := 0, locals := 48 } : Room) s m ([.ref NI, .int x0] : List Value).toArray below meth c H locs 0 0 Q (F0 m 7 ls []) := by
    intro n7
    induction n7 with
    | zero => intro H locs ls v7_2 g7_aNI8 bv7_2_k7 sNI_minute_0_k7 hm7 hP hD hS hl; exact zM_u0 bv7_2_k7 hm7
    | succ n7 ih7 =>
      intro H locs ls v7_2 g7_aNI8 bv7_2_k7 sNI_minute_0_k7 hm7 hP hD hS hl
      refine lv_iload_n hx hb dX4_countWalks_7 rfl (lv_at hl 0 rfl) ?_
      refine lv_bipush (v := 8) hx hb dX4_countWalks_8 (by decide) ?_
      refine lv_icmp_ge (tgt := 71) hx hb dX4_countWalks_10 (by decide) (fun c10 => ?_) (fun c10 => ?_)
      · have by10t_v7_2 : zB v7_2 8 8 := zB_lev (ze c10) (show zB 8 8 8 from ⟨by decide, by decide⟩) bv7_2_k7 (by decide)
        refine lv_bipush (v := 7) hx hb dX4_countWalks_71 (by decide) ?_
        have j74 : ∀ (n74 : Nat) (H : Heap) (locs : List Loc) (ls : Array Slot) (v74_2 : Int32) (g74_aNI9 : Nat → Int32), zB v74_2 (-1) 7 → zA NI_minute 0 30 0 7 → (v74_2.toInt - (-1) + 1) ≤ (n74 : Int) → va_P D classes [(NI, .inr (4, oX4 FL aNI NI_count NI_time)), ((aNI 7), .inl (cI, 8, .inl o2_nNIopen)), ((aNI 6), .inl (cI, 30, .inl NI_untoldAt)), ((aNI 5), .inl (cI, 30, .inl NI_toldAt)), ((aNI 3), .inl (cI, 30, .inl NI_minute)), ((aNI 4), .inl (cI, 30, .inl NI_rooms)), (FL, .inr (0, oX0 PL aFL FL_parting)), (PL, .inr (5, oX5 FO aPL PL_rooms PL_doors PL_things PL_draw PL_drawTold)), ((aNI 8), .inl (cI, 64, .inl g7_aNI8)), ((aFL 1), .inl (cI, 8, .inl FL_next)), ((aNI 9), .inl (cI, 64, .inl g74_aNI9))] H → va_D A [(NI, .inr (4, oX4 FL aNI NI_count NI_time)), ((aNI 7), .inl (cI, 8, .inl o2_nNIopen)), ((aNI 6), .inl (cI, 30, .inl NI_untoldAt)), ((aNI 5), .inl (cI, 30, .inl NI_toldAt)), ((aNI 3), .inl (cI, 30, .inl NI_minute)), ((aNI 4), .inl (cI, 30, .inl NI_rooms)), (FL, .inr (0, oX0 PL aFL FL_parting)), (PL, .inr (5, oX5 FO aPL PL_rooms PL_doors PL_things PL_draw PL_drawTold)), ((aNI 8), .inl (cI, 64, .inl g7_aNI8)), ((aFL 1), .inl (cI, 8, .inl FL_next)), ((aNI 9), .inl (cI, 64, .inl g74_aNI9))] → va_S A s.heap H locs → lv_has ls 4 [(2, .int v74_2), (0, .ref NI), (1, .int x0)] → W p l e ({ frames := 2, cells := 0, slots := 0, locals := 48 } : Room) s m ([.ref NI, .int x0] : List Value).toArray below meth c H locs 0 0 Q (F0 m 74 ls []) := by
          intro n74
          induction n74 with
          | zero => intro H locs ls v74_2 g74_aNI9 bv74_2_k74 sNI_minute_0_k74 hm74 hP hD hS hl; exact zM_d0 bv74_2_k74 hm74
          | succ n74 ih74 =>
            intro H locs ls v74_2 g74_aNI9 bv74_2_k74 sNI_minute_0_k74 hm74 hP hD hS hl
            refine lv_iload_n hx hb dX4_countWalks_74 rfl (lv_at hl 0 rfl) ?_
            refine lv_if_lt (tgt := 136) hx hb dX4_countWalks_75 (by decide) (fun c75 => ?_) (fun c75 => ?_)
            · have bx75t_v74_2 : zB v74_2 (-1) (-1) := zB_ltu (zl c75) bv74_2_k74 (show zB 0 0 0 from ⟨by decide, by decide⟩) (by decide)
              refine lv_iconst (v := 0) hx hb dX4_countWalks_136 (by decide) ?_
              refine lv_istore_n (lv' := [(2, .int 0), (0, .ref NI), (1, .int x0)]) hx hb dX4_countWalks_137 rfl hl (by decide) rfl (fun ls hl => ?_)
              refine lv_iconst (v := 0) hx hb dX4_countWalks_138 (by decide) ?_
              have j140 : ∀ (n140 : Nat) (H : Heap) (locs : List Loc) (ls : Array Slot) (v140_3 : Int32) (v140_2 : Int32), zB v140_3 0 8 → zA NI_minute 0 30 0 7 → (8 + 1 - v140_3.toInt) ≤ (n140 : Int) → va_P D classes [(NI, .inr (4, oX4 FL aNI NI_count NI_time)), ((aNI 7), .inl (cI, 8, .inl o2_nNIopen)), ((aNI 6), .inl (cI, 30, .inl NI_untoldAt)), ((aNI 5), .inl (cI, 30, .inl NI_toldAt)), ((aNI 3), .inl (cI, 30, .inl NI_minute)), ((aNI 4), .inl (cI, 30, .inl NI_rooms)), (FL, .inr (0, oX0 PL aFL FL_parting)), (PL, .inr (5, oX5 FO aPL PL_rooms PL_doors PL_things PL_draw PL_drawTold)), ((aNI 8), .inl (cI, 64, .inl g7_aNI8)), ((aFL 1), .inl (cI, 8, .inl FL_next)), ((aNI 9), .inl (cI, 64, .inl g74_aNI9))] H → va_D A [(NI, .inr (4, oX4 FL aNI NI_count NI_time)), ((aNI 7), .inl (cI, 8, .inl o2_nNIopen)), ((aNI 6), .inl (cI, 30, .inl NI_untoldAt)), ((aNI 5), .inl (cI, 30, .inl NI_toldAt)), ((aNI 3), .inl (cI, 30, .inl NI_minute)), ((aNI 4), .inl (cI, 30, .inl NI_rooms)), (FL, .inr (0, oX0 PL aFL FL_parting)), (PL, .inr (5, oX5 FO aPL PL_rooms PL_doors PL_things PL_draw PL_drawTold)), ((aNI 8), .inl (cI, 64, .inl g7_aNI8)), ((aFL 1), .inl (cI, 8, .inl FL_next)), ((aNI 9), .inl (cI, 64, .inl g74_aNI9))] → va_S A s.heap H locs → lv_has ls 4 [(3, .int v140_3), (2, .int v140_2), (0, .ref NI), (1, .int x0)] → W p l e ({ frames := 2, cells := 0, slots := 0, locals := 48 } : Room) s m ([.ref NI, .int x0] : List Value).toArray below meth c H locs 0 0 Q (F0 m 140 ls []) := by
                intro n140
                induction n140 with
                | zero => intro H locs ls v140_3 v140_2 bv140_3_k140 sNI_minute_0_k140 hm140 hP hD hS hl; exact zM_u0 bv140_3_k140 hm140
                | succ n140 ih140 =>
                  intro H locs ls v140_3 v140_2 bv140_3_k140 sNI_minute_0_k140 hm140 hP hD hS hl
                  refine lv_iload_n hx hb dX4_countWalks_140 rfl (lv_at hl 0 rfl) ?_
                  refine lv_aload_n hx hb dX4_countWalks_141 rfl (lv_at hl 2 rfl) ?_
                  refine va_get (D := D) (ci := 4) (v := .ref FL) (C := RX4) (T := TX4) (N := 10) hx hb hts iw_X4_countWalks_X4 hown hK hP 0 rfl rfl 0 (by decide) (hts (.fieldLink RX4 33 "SoldHouse$Night" "floor" "LSoldHouse$Floor;") (List.mem_of_getElem? (i := 1) rfl)) (fun _ h9 => h9) rfl dX4_countWalks_142 ?_
                  refine va_get (D := D) (ci := 0) (v := .ref PL) (C := RX0) (T := TX0) (N := 5) hx hb hts iw_X4_countWalks_X0 hown hK hP 6 rfl rfl 0 (by decide) (hts (.fieldLink RX4 49 "SoldHouse$Floor" "plan" "LSoldHouse$Plan;") (List.mem_of_getElem? (i := 2) rfl)) (fun _ h9 => h9) rfl dX4_countWalks_145 ?_
                  refine va_get (D := D) (ci := 5) (v := .int PL_rooms) (C := RX5) (T := TX5) (N := 16) hx hb hts iw_X4_countWalks_X5 hown hK hP 7 rfl rfl 0 (by decide) (hts (.fieldLink RX4 55 "SoldHouse$Plan" "rooms" "I") (List.mem_of_getElem? (i := 3) rfl)) (fun _ h9 => h9) rfl dX4_countWalks_148 ?_
                  refine lv_icmp_ge (tgt := 169) hx hb dX4_countWalks_151 (by decide) (fun c151 => ?_) (fun c151 => ?_)
                  · refine lv_iload_n hx hb dX4_countWalks_169 rfl (lv_at hl 1 rfl) ?_
                    exact up _ _ _ (W.iret (v := v140_2) hx hb hr (fun t ht hW => ⟨⟨v140_2, (), rfl, trivial, ⟨o2_nNIopen, g7_aNI8, g74_aNI9, by rw [ht]; exact hP, hD⟩⟩, hS.F ht⟩) hS.2.2 dX4_countWalks_170)
                  · have bx151f_v140_3 : zB v140_3 0 7 := zB_ltu (zf c151) bv140_3_k140 b_PL_rooms (by decide)
                    have by151f_PL_rooms : zB PL_rooms 1 8 := zB_ltv (zf c151) bx151f_v140_3 b_PL_rooms (by decide)
                    refine lv_iload_n hx hb dX4_countWalks_154 rfl (lv_at hl 1 rfl) ?_
                    refine lv_aload_n hx hb dX4_countWalks_155 rfl (lv_at hl 2 rfl) ?_
                    refine va_get (D := D) (ci := 4) (v := .ref (aNI 9)) (C := RX4) (T := TX4) (N := 10) hx hb hts iw_X4_countWalks_X4 hown hK hP 0 rfl rfl 9 (by decide) (hts (.fieldLink RX4 30 "SoldHouse$Night" "onward" "[I") (List.mem_of_getElem? (i := 5) rfl)) (fun _ h9 => h9) rfl dX4_countWalks_156 ?_
                    refine lv_iload_n hx hb dX4_countWalks_159 rfl (lv_at hl 0 rfl) ?_
                    refine va_iald hx hb hK hP 10 0 rfl rfl (zB_in bx151f_v140_3 (by decide) (by decide)) dX4_countWalks_160 ?_
                    refine lv_topi (fun y160 _ => ?_)
                    refine lv_iadd hx hb dX4_countWalks_161 ?_
                    refine lv_topi (fun y161 _ => ?_)
                    refine lv_istore_n (lv' := [(2, .int y161), (3, .int v140_3), (0, .ref NI), (1, .int x0)]) hx hb dX4_countWalks_162 rfl hl (by decide) rfl (fun ls hl => ?_)
                    obtain ⟨y163, by163, ry163, ey163⟩ := zi_inc (x := v140_3) (k := 1) (a := 1) (b := 8) bx151f_v140_3 (by decide) (by decide) (by decide) (by decide) (by decide)
                    refine lv_iinc (v := y163) (lv' := [(3, .int y163), (2, .int y161), (0, .ref NI), (1, .int x0)]) hx hb dX4_countWalks_163 hl (k := 1) rfl ey163 (by decide) rfl (fun ls hl => ?_)
                    refine lv_goto (tgt := 140) hx hb dX4_countWalks_166 (by decide) ?_
                    exact ih140 H locs ls y163 y161 (zB_w by163 (by decide) (by decide)) sNI_minute_0_k140 (zM_us (k := 1) hm140 ry163 (by decide)) hP hD hS (lv_sub hl [0, 1, 2, 3] rfl)
              refine lv_istore_n (lv' := [(3, .int 0), (2, .int 0), (0, .ref NI), (1, .int x0)]) hx hb dX4_countWalks_139 rfl hl (by decide) rfl (fun ls hl => ?_)
              exact j140 9 H locs ls 0 0 (zB_w (show zB 0 0 0 from ⟨by decide, by decide⟩) (by decide) (by decide)) sNI_minute_0_k74 (zM_ui (show zB 0 0 0 from ⟨by decide, by decide⟩) (by decide)) hP hD hS (lv_sub hl [0, 1, 2, 3] rfl)
            · have by75f_v74_2 : zB v74_2 0 7 := zB_lev (zg c75) (show zB 0 0 0 from ⟨by decide, by decide⟩) bv74_2_k74 (by decide)
              refine lv_iconst (v := 0) hx hb dX4_countWalks_78 (by decide) ?_
              have j80 : ∀ (n80 : Nat) (H : Heap) (locs : List Loc) (ls : Array Slot) (v80_3 : Int32) (g80_aNI9 : Nat → Int32), zB v80_3 0 8 → zA NI_minute 0 30 0 7 → (8 + 1 - v80_3.toInt) ≤ (n80 : Int) → va_P D classes [(NI, .inr (4, oX4 FL aNI NI_count NI_time)), ((aNI 7), .inl (cI, 8, .inl o2_nNIopen)), ((aNI 6), .inl (cI, 30, .inl NI_untoldAt)), ((aNI 5), .inl (cI, 30, .inl NI_toldAt)), ((aNI 3), .inl (cI, 30, .inl NI_minute)), ((aNI 4), .inl (cI, 30, .inl NI_rooms)), (FL, .inr (0, oX0 PL aFL FL_parting)), (PL, .inr (5, oX5 FO aPL PL_rooms PL_doors PL_things PL_draw PL_drawTold)), ((aNI 8), .inl (cI, 64, .inl g7_aNI8)), ((aFL 1), .inl (cI, 8, .inl FL_next)), ((aNI 9), .inl (cI, 64, .inl g80_aNI9))] H → va_D A [(NI, .inr (4, oX4 FL aNI NI_count NI_time)), ((aNI 7), .inl (cI, 8, .inl o2_nNIopen)), ((aNI 6), .inl (cI, 30, .inl NI_untoldAt)), ((aNI 5), .inl (cI, 30, .inl NI_toldAt)), ((aNI 3), .inl (cI, 30, .inl NI_minute)), ((aNI 4), .inl (cI, 30, .inl NI_rooms)), (FL, .inr (0, oX0 PL aFL FL_parting)), (PL, .inr (5, oX5 FO aPL PL_rooms PL_doors PL_things PL_draw PL_drawTold)), ((aNI 8), .inl (cI, 64, .inl g7_aNI8)), ((aFL 1), .inl (cI, 8, .inl FL_next)), ((aNI 9), .inl (cI, 64, .inl g80_aNI9))] → va_S A s.heap H locs → lv_has ls 4 [(3, .int v80_3), (2, .int v74_2), (0, .ref NI), (1, .int x0)] → W p l e ({ frames := 2, cells := 0, slots := 0, locals := 48 } : Room) s m ([.ref NI, .int x0] : List Value).toArray below meth c H locs 0 0 Q (F0 m 80 ls []) := by
                intro n80
                induction n80 with
                | zero => intro H locs ls v80_3 g80_aNI9 bv80_3_k80 sNI_minute_0_k80 hm80 hP hD hS hl; exact zM_u0 bv80_3_k80 hm80
                | succ n80 ih80 =>
                  intro H locs ls v80_3 g80_aNI9 bv80_3_k80 sNI_minute_0_k80 hm80 hP hD hS hl
                  refine lv_iload_n hx hb dX4_countWalks_80 rfl (lv_at hl 0 rfl) ?_
                  refine lv_aload_n hx hb dX4_countWalks_81 rfl (lv_at hl 2 rfl) ?_
                  refine va_get (D := D) (ci := 4) (v := .ref FL) (C := RX4) (T := TX4) (N := 10) hx hb hts iw_X4_countWalks_X4 hown hK hP 0 rfl rfl 0 (by decide) (hts (.fieldLink RX4 33 "SoldHouse$Night" "floor" "LSoldHouse$Floor;") (List.mem_of_getElem? (i := 1) rfl)) (fun _ h9 => h9) rfl dX4_countWalks_82 ?_
                  refine va_get (D := D) (ci := 0) (v := .ref PL) (C := RX0) (T := TX0) (N := 5) hx hb hts iw_X4_countWalks_X0 hown hK hP 6 rfl rfl 0 (by decide) (hts (.fieldLink RX4 49 "SoldHouse$Floor" "plan" "LSoldHouse$Plan;") (List.mem_of_getElem? (i := 2) rfl)) (fun _ h9 => h9) rfl dX4_countWalks_85 ?_
                  refine va_get (D := D) (ci := 5) (v := .int PL_rooms) (C := RX5) (T := TX5) (N := 16) hx hb hts iw_X4_countWalks_X5 hown hK hP 7 rfl rfl 0 (by decide) (hts (.fieldLink RX4 55 "SoldHouse$Plan" "rooms" "I") (List.mem_of_getElem? (i := 3) rfl)) (fun _ h9 => h9) rfl dX4_countWalks_88 ?_
                  refine lv_icmp_ge (tgt := 130) hx hb dX4_countWalks_91 (by decide) (fun c91 => ?_) (fun c91 => ?_)
                  · obtain ⟨y130, by130, ry130, ey130⟩ := zi_inc (x := v74_2) (k := (-1)) (a := (-1)) (b := 6) by75f_v74_2 (by decide) (by decide) (by decide) (by decide) (by decide)
                    refine lv_iinc (v := y130) (lv' := [(2, .int y130), (3, .int v80_3), (0, .ref NI), (1, .int x0)]) hx hb dX4_countWalks_130 hl (k := 1) rfl ey130 (by decide) rfl (fun ls hl => ?_)
                    refine lv_goto (tgt := 74) hx hb dX4_countWalks_133 (by decide) ?_
                    exact ih74 H locs ls y130 g80_aNI9 (zB_w by130 (by decide) (by decide)) sNI_minute_0_k80 (zM_ds (k := 1) hm74 ry130 (by decide)) hP hD hS (lv_sub hl [0, 2, 3] rfl)
                  · have bx91f_v80_3 : zB v80_3 0 7 := zB_ltu (zf c91) bv80_3_k80 b_PL_rooms (by decide)
                    have by91f_PL_rooms : zB PL_rooms 1 8 := zB_ltv (zf c91) bx91f_v80_3 b_PL_rooms (by decide)
                    refine lv_aload_n hx hb dX4_countWalks_94 rfl (lv_at hl 2 rfl) ?_
                    refine va_get (D := D) (ci := 4) (v := .ref (aNI 9)) (C := RX4) (T := TX4) (N := 10) hx hb hts iw_X4_countWalks_X4 hown hK hP 0 rfl rfl 9 (by decide) (hts (.fieldLink RX4 30 "SoldHouse$Night" "onward" "[I") (List.mem_of_getElem? (i := 5) rfl)) (fun _ h9 => h9) rfl dX4_countWalks_95 ?_
                    refine lv_iload_n hx hb dX4_countWalks_98 rfl (lv_at hl 1 rfl) ?_
                    refine lv_bipush (v := 8) hx hb dX4_countWalks_99 (by decide) ?_
                    refine lv_imul hx hb dX4_countWalks_101 ?_
                    refine zi_top (a := 0) (b := 56) (zB_mul by75f_v74_2 (show zB 8 8 8 from ⟨by decide, by decide⟩) (by decide) (by decide) (by decide) (by decide) (by decide)) (fun y101 by101 => ?_)
                    refine lv_iload_n hx hb dX4_countWalks_102 rfl (lv_at hl 0 rfl) ?_
                    refine lv_iadd hx hb dX4_countWalks_103 ?_
                    refine zi_top (a := 0) (b := 63) (zB_add by101 bx91f_v80_3 (by decide) (by decide) (by decide) (by decide)) (fun y103 by103 => ?_)
                    refine lv_aload_n hx hb dX4_countWalks_104 rfl (lv_at hl 2 rfl) ?_
                    refine lv_iload_n hx hb dX4_countWalks_105 rfl (lv_at hl 1 rfl) ?_
                    refine lv_iload_n hx hb dX4_countWalks_106 rfl (lv_at hl 0 rfl) ?_
                    have hPc := hP.sub (ws' := [(NI, .inr (4, oX4 FL aNI NI_count NI_time)), ((aNI 7), .inl (cI, 8, .inl o2_nNIopen))]) [0, 1] rfl
                    refine vp_callSi (va_runV (As := [.int v74_2, .int v80_3]) (rest := [.int y103, .ref (aNI 9)]) ⟨hx, hb, hml, hown, hts⟩ (c_X4_isOpen l D cI cB cL cZ cG NI v74_2 v80_3 FL NI_count NI_time aNI o2_nNIopen by75f_v74_2 b_NI_count b_NI_time) (cwV 2 hts gX4_countWalks_X4_isOpen rfl rfl rfl (by decide +kernel) ⟨Nat.le_of_ble_eq_true rfl, Nat.le_of_ble_eq_true rfl⟩) ⟨xr_blind, va_recv hK hP (ci := 4) (q0 := 0) rfl rfl, fun U hU hW => xr_mk hU hW hPc hK⟩ rfl rfl hl.1 rfl (lv_room (Nat.le_of_ble_eq_true rfl)) dX4_countWalks_107 ⟨Nat.le_of_ble_eq_true rfl, Nat.le_of_ble_eq_true rfl⟩).run (fun r107 hr107 => ?_)
                    clear hPc
                    have j123 : ∀ (H : Heap) (locs : List Loc) (ls : Array Slot) (u123_0 : Int32), zA NI_minute 0 30 0 7 → va_P D classes [(NI, .inr (4, oX4 FL aNI NI_count NI_time)), ((aNI 7), .inl (cI, 8, .inl o2_nNIopen)), ((aNI 6), .inl (cI, 30, .inl NI_untoldAt)), ((aNI 5), .inl (cI, 30, .inl NI_toldAt)), ((aNI 3), .inl (cI, 30, .inl NI_minute)), ((aNI 4), .inl (cI, 30, .inl NI_rooms)), (FL, .inr (0, oX0 PL aFL FL_parting)), (PL, .inr (5, oX5 FO aPL PL_rooms PL_doors PL_things PL_draw PL_drawTold)), ((aNI 8), .inl (cI, 64, .inl g7_aNI8)), ((aFL 1), .inl (cI, 8, .inl FL_next)), ((aNI 9), .inl (cI, 64, .inl g80_aNI9))] H → va_D A [(NI, .inr (4, oX4 FL aNI NI_count NI_time)), ((aNI 7), .inl (cI, 8, .inl o2_nNIopen)), ((aNI 6), .inl (cI, 30, .inl NI_untoldAt)), ((aNI 5), .inl (cI, 30, .inl NI_toldAt)), ((aNI 3), .inl (cI, 30, .inl NI_minute)), ((aNI 4), .inl (cI, 30, .inl NI_rooms)), (FL, .inr (0, oX0 PL aFL FL_parting)), (PL, .inr (5, oX5 FO aPL PL_rooms PL_doors PL_things PL_draw PL_drawTold)), ((aNI 8), .inl (cI, 64, .inl g7_aNI8)), ((aFL 1), .inl (cI, 8, .inl FL_next)), ((aNI 9), .inl (cI, 64, .inl g80_aNI9))] → va_S A s.heap H locs → lv_has ls 4 [(3, .int v80_3), (2, .int v74_2), (0, .ref NI), (1, .int x0)] → W p l e ({ frames := 2, cells := 0, slots := 0, locals := 48 } : Room) s m ([.ref NI, .int x0] : List Value).toArray below meth c H locs 0 0 Q (F0 m 123 ls [.int u123_0, .int y103, .ref (aNI 9)]) := by
                      intro H locs ls u123_0 sNI_minute_0_k123 hP hD hS hl
                      refine zi_iast hx hb hK hP hD hS 10 0 rfl rfl (zB_in by103 (by decide) (by decide)) dX4_countWalks_123 (fun H locs g123 eg123 hP hD hS => ?_)
                      replace hP : va_P D classes [(NI, .inr (4, oX4 FL aNI NI_count NI_time)), ((aNI 7), .inl (cI, 8, .inl o2_nNIopen)), ((aNI 6), .inl (cI, 30, .inl NI_untoldAt)), ((aNI 5), .inl (cI, 30, .inl NI_toldAt)), ((aNI 3), .inl (cI, 30, .inl NI_minute)), ((aNI 4), .inl (cI, 30, .inl NI_rooms)), (FL, .inr (0, oX0 PL aFL FL_parting)), (PL, .inr (5, oX5 FO aPL PL_rooms PL_doors PL_things PL_draw PL_drawTold)), ((aNI 8), .inl (cI, 64, .inl g7_aNI8)), ((aFL 1), .inl (cI, 8, .inl FL_next)), ((aNI 9), .inl (cI, 64, .inl g123))] H := hP
                      replace hD : va_D A [(NI, .inr (4, oX4 FL aNI NI_count NI_time)), ((aNI 7), .inl (cI, 8, .inl o2_nNIopen)), ((aNI 6), .inl (cI, 30, .inl NI_untoldAt)), ((aNI 5), .inl (cI, 30, .inl NI_toldAt)), ((aNI 3), .inl (cI, 30, .inl NI_minute)), ((aNI 4), .inl (cI, 30, .inl NI_rooms)), (FL, .inr (0, oX0 PL aFL FL_parting)), (PL, .inr (5, oX5 FO aPL PL_rooms PL_doors PL_things PL_draw PL_drawTold)), ((aNI 8), .inl (cI, 64, .inl g7_aNI8)), ((aFL 1), .inl (cI, 8, .inl FL_next)), ((aNI 9), .inl (cI, 64, .inl g123))] := hD
                      clear eg123
                      obtain ⟨y124, by124, ry124, ey124⟩ := zi_inc (x := v80_3) (k := 1) (a := 1) (b := 8) bx91f_v80_3 (by decide) (by decide) (by decide) (by decide) (by decide)
                      refine lv_iinc (v := y124) (lv' := [(3, .int y124), (2, .int v74_2), (0, .ref NI), (1, .int x0)]) hx hb dX4_countWalks_124 hl (k := 0) rfl ey124 (by decide) rfl (fun ls hl => ?_)
                      refine lv_goto (tgt := 80) hx hb dX4_countWalks_127 (by decide) ?_
                      exact ih80 H locs ls y124 g123 (zB_w by124 (by decide) (by decide)) sNI_minute_0_k123 (zM_us (k := 1) hm80 ry124 (by decide)) hP hD hS (lv_sub hl [0, 1, 2, 3] rfl)
                    refine lv_if_eq (tgt := 122) hx hb dX4_countWalks_110 (by decide) (fun c110 => ?_) (fun c110 => ?_)
                    · have be110t_r107 : zB r107 0 0 := zB_eq c110 hr107 (show zB 0 0 0 from ⟨by decide, by decide⟩) (by decide) (by decide)
                      refine lv_iconst (v := 0) hx hb dX4_countWalks_122 (by decide) ?_
                      exact j123 H locs ls 0 sNI_minute_0_k80 hP hD hS (lv_sub hl [0, 1, 2, 3] rfl)
                    · have bn110f_r107 : zB r107 1 1 := zB_neL c110 hr107 (show zB 0 0 0 from ⟨by decide, by decide⟩) (by decide)
                      refine lv_aload_n hx hb dX4_countWalks_113 rfl (lv_at hl 2 rfl) ?_
                      refine lv_iload_n hx hb dX4_countWalks_114 rfl (lv_at hl 1 rfl) ?_
                      refine lv_iload_n hx hb dX4_countWalks_115 rfl (lv_at hl 0 rfl) ?_
                      have hPc := hP.sub (ws' := [(NI, .inr (4, oX4 FL aNI NI_count NI_time)), ((aNI 9), .inl (cI, 64, .inl g80_aNI9)), (FL, .inr (0, oX0 PL aFL FL_parting)), ((aFL 1), .inl (cI, 8, .inl FL_next)), (PL, .inr (5, oX5 FO aPL PL_rooms PL_doors PL_things PL_draw PL_drawTold))]) [0, 10, 6, 9, 7] rfl
                      refine vp_callSi (va_runV (As := [.int v74_2, .int v80_3]) (rest := [.int y103, .ref (aNI 9)]) ⟨hx, hb, hml, hown, hts⟩ (c_X4_goingOn l D cI cB cL cZ cG NI v74_2 v80_3 FL NI_count NI_time aNI g80_aNI9 PL aFL FL_parting FL_next PL_rooms aPL PL_doors PL_things FO PL_draw PL_drawTold by75f_v74_2 bx91f_v80_3 b_NI_count b_NI_time (zB_w by91f_PL_rooms (by decide) (by decide)) b_PL_doors b_PL_things) (cwV 2 hts gX4_countWalks_X4_goingOn rfl rfl rfl (by decide +kernel) ⟨Nat.le_of_ble_eq_true rfl, Nat.le_of_ble_eq_true rfl⟩) ⟨xr_blind, va_recv hK hP (ci := 4) (q0 := 0) rfl rfl, fun U hU hW => xr_mk hU hW hPc hK⟩ rfl rfl hl.1 rfl (lv_room (Nat.le_of_ble_eq_true rfl)) dX4_countWalks_116 ⟨Nat.le_of_ble_eq_true rfl, Nat.le_of_ble_eq_true rfl⟩).run (fun r116 hr116 => ?_)
                      clear hPc
                      clear hr116
                      refine lv_goto (tgt := 123) hx hb dX4_countWalks_119 (by decide) ?_
                      exact j123 H locs ls r116 sNI_minute_0_k80 hP hD hS (lv_sub hl [0, 1, 2, 3] rfl)
              refine lv_istore_n (lv' := [(3, .int 0), (2, .int v74_2), (0, .ref NI), (1, .int x0)]) hx hb dX4_countWalks_79 rfl hl (by decide) rfl (fun ls hl => ?_)
              exact j80 9 H locs ls 0 g74_aNI9 (zB_w (show zB 0 0 0 from ⟨by decide, by decide⟩) (by decide) (by decide)) sNI_minute_0_k74 (zM_ui (show zB 0 0 0 from ⟨by decide, by decide⟩) (by decide)) hP hD hS (lv_sub hl [0, 1, 2, 3] rfl)
        refine lv_istore_n (lv' := [(2, .int 7), (0, .ref NI), (1, .int x0)]) hx hb dX4_countWalks_73 rfl hl (by decide) rfl (fun ls hl => ?_)
        exact j74 9 H locs ls 7 NI_onward (zB_w (show zB 7 7 7 from ⟨by decide, by decide⟩) (by decide) (by decide)) sNI_minute_0_k7 (zM_di (show zB 7 7 7 from ⟨by decide, by decide⟩) (by decide)) hP hD hS (lv_sub hl [0, 1, 2] rfl)
      · have bx10f_v7_2 : zB v7_2 0 7 := zB_ltu (zf c10) bv7_2_k7 (show zB 8 8 8 from ⟨by decide, by decide⟩) (by decide)
        refine lv_iconst (v := 0) hx hb dX4_countWalks_13 (by decide) ?_
        have j15 : ∀ (n15 : Nat) (H : Heap) (locs : List Loc) (ls : Array Slot) (v15_3 : Int32) (g15_aNI8 : Nat → Int32), zB v15_3 0 8 → zA NI_minute 0 30 0 7 → (8 + 1 - v15_3.toInt) ≤ (n15 : Int) → va_P D classes [(NI, .inr (4, oX4 FL aNI NI_count NI_time)), ((aNI 7), .inl (cI, 8, .inl o2_nNIopen)), ((aNI 6), .inl (cI, 30, .inl NI_untoldAt)), ((aNI 5), .inl (cI, 30, .inl NI_toldAt)), ((aNI 3), .inl (cI, 30, .inl NI_minute)), ((aNI 4), .inl (cI, 30, .inl NI_rooms)), (FL, .inr (0, oX0 PL aFL FL_parting)), (PL, .inr (5, oX5 FO aPL PL_rooms PL_doors PL_things PL_draw PL_drawTold)), ((aNI 8), .inl (cI, 64, .inl g15_aNI8)), ((aFL 1), .inl (cI, 8, .inl FL_next)), ((aNI 9), .inl (cI, 64, .inl NI_onward))] H → va_D A [(NI, .inr (4, oX4 FL aNI NI_count NI_time)), ((aNI 7), .inl (cI, 8, .inl o2_nNIopen)), ((aNI 6), .inl (cI, 30, .inl NI_untoldAt)), ((aNI 5), .inl (cI, 30, .inl NI_toldAt)), ((aNI 3), .inl (cI, 30, .inl NI_minute)), ((aNI 4), .inl (cI, 30, .inl NI_rooms)), (FL, .inr (0, oX0 PL aFL FL_parting)), (PL, .inr (5, oX5 FO aPL PL_rooms PL_doors PL_things PL_draw PL_drawTold)), ((aNI 8), .inl (cI, 64, .inl g15_aNI8)), ((aFL 1), .inl (cI, 8, .inl FL_next)), ((aNI 9), .inl (cI, 64, .inl NI_onward))] → va_S A s.heap H locs → lv_has ls 4 [(3, .int v15_3), (2, .int v7_2), (0, .ref NI), (1, .int x0)] → W p l e ({ frames := 2, cells := 0, slots := 0, locals := 48 } : Room) s m ([.ref NI, .int x0] : List Value).toArray below meth c H locs 0 0 Q (F0 m 15 ls []) := by
          intro n15
          induction n15 with
          | zero => intro H locs ls v15_3 g15_aNI8 bv15_3_k15 sNI_minute_0_k15 hm15 hP hD hS hl; exact zM_u0 bv15_3_k15 hm15
          | succ n15 ih15 =>
            intro H locs ls v15_3 g15_aNI8 bv15_3_k15 sNI_minute_0_k15 hm15 hP hD hS hl
            refine lv_iload_n hx hb dX4_countWalks_15 rfl (lv_at hl 0 rfl) ?_
            refine lv_aload_n hx hb dX4_countWalks_16 rfl (lv_at hl 2 rfl) ?_
            refine va_get (D := D) (ci := 4) (v := .ref FL) (C := RX4) (T := TX4) (N := 10) hx hb hts iw_X4_countWalks_X4 hown hK hP 0 rfl rfl 0 (by decide) (hts (.fieldLink RX4 33 "SoldHouse$Night" "floor" "LSoldHouse$Floor;") (List.mem_of_getElem? (i := 1) rfl)) (fun _ h9 => h9) rfl dX4_countWalks_17 ?_
            refine va_get (D := D) (ci := 0) (v := .ref PL) (C := RX0) (T := TX0) (N := 5) hx hb hts iw_X4_countWalks_X0 hown hK hP 6 rfl rfl 0 (by decide) (hts (.fieldLink RX4 49 "SoldHouse$Floor" "plan" "LSoldHouse$Plan;") (List.mem_of_getElem? (i := 2) rfl)) (fun _ h9 => h9) rfl dX4_countWalks_20 ?_
            refine va_get (D := D) (ci := 5) (v := .int PL_rooms) (C := RX5) (T := TX5) (N := 16) hx hb hts iw_X4_countWalks_X5 hown hK hP 7 rfl rfl 0 (by decide) (hts (.fieldLink RX4 55 "SoldHouse$Plan" "rooms" "I") (List.mem_of_getElem? (i := 3) rfl)) (fun _ h9 => h9) rfl dX4_countWalks_23 ?_
            refine lv_icmp_ge (tgt := 65) hx hb dX4_countWalks_26 (by decide) (fun c26 => ?_) (fun c26 => ?_)
            · obtain ⟨y65, by65, ry65, ey65⟩ := zi_inc (x := v7_2) (k := 1) (a := 1) (b := 8) bx10f_v7_2 (by decide) (by decide) (by decide) (by decide) (by decide)
              refine lv_iinc (v := y65) (lv' := [(2, .int y65), (3, .int v15_3), (0, .ref NI), (1, .int x0)]) hx hb dX4_countWalks_65 hl (k := 1) rfl ey65 (by decide) rfl (fun ls hl => ?_)
              refine lv_goto (tgt := 7) hx hb dX4_countWalks_68 (by decide) ?_
              exact ih7 H locs ls y65 g15_aNI8 (zB_w by65 (by decide) (by decide)) sNI_minute_0_k15 (zM_us (k := 1) hm7 ry65 (by decide)) hP hD hS (lv_sub hl [0, 2, 3] rfl)
            · have bx26f_v15_3 : zB v15_3 0 7 := zB_ltu (zf c26) bv15_3_k15 b_PL_rooms (by decide)
              have by26f_PL_rooms : zB PL_rooms 1 8 := zB_ltv (zf c26) bx26f_v15_3 b_PL_rooms (by decide)
              refine lv_aload_n hx hb dX4_countWalks_29 rfl (lv_at hl 2 rfl) ?_
              refine va_get (D := D) (ci := 4) (v := .ref (aNI 8)) (C := RX4) (T := TX4) (N := 10) hx hb hts iw_X4_countWalks_X4 hown hK hP 0 rfl rfl 8 (by decide) (hts (.fieldLink RX4 27 "SoldHouse$Night" "into" "[I") (List.mem_of_getElem? (i := 4) rfl)) (fun _ h9 => h9) rfl dX4_countWalks_30 ?_
              refine lv_iload_n hx hb dX4_countWalks_33 rfl (lv_at hl 1 rfl) ?_
              refine lv_bipush (v := 8) hx hb dX4_countWalks_34 (by decide) ?_
              refine lv_imul hx hb dX4_countWalks_36 ?_
              refine zi_top (a := 0) (b := 56) (zB_mul bx10f_v7_2 (show zB 8 8 8 from ⟨by decide, by decide⟩) (by decide) (by decide) (by decide) (by decide) (by decide)) (fun y36 by36 => ?_)
              refine lv_iload_n hx hb dX4_countWalks_37 rfl (lv_at hl 0 rfl) ?_
              refine lv_iadd hx hb dX4_countWalks_38 ?_
              refine zi_top (a := 0) (b := 63) (zB_add by36 bx26f_v15_3 (by decide) (by decide) (by decide) (by decide)) (fun y38 by38 => ?_)
              refine lv_aload_n hx hb dX4_countWalks_39 rfl (lv_at hl 2 rfl) ?_
              refine lv_iload_n hx hb dX4_countWalks_40 rfl (lv_at hl 1 rfl) ?_
              refine lv_iload_n hx hb dX4_countWalks_41 rfl (lv_at hl 0 rfl) ?_
              have hPc := hP.sub (ws' := [(NI, .inr (4, oX4 FL aNI NI_count NI_time)), ((aNI 7), .inl (cI, 8, .inl o2_nNIopen))]) [0, 1] rfl
              refine vp_callSi (va_runV (As := [.int v7_2, .int v15_3]) (rest := [.int y38, .ref (aNI 8)]) ⟨hx, hb, hml, hown, hts⟩ (c_X4_isOpen l D cI cB cL cZ cG NI v7_2 v15_3 FL NI_count NI_time aNI o2_nNIopen bx10f_v7_2 b_NI_count b_NI_time) (cwV 2 hts gX4_countWalks_X4_isOpen rfl rfl rfl (by decide +kernel) ⟨Nat.le_of_ble_eq_true rfl, Nat.le_of_ble_eq_true rfl⟩) ⟨xr_blind, va_recv hK hP (ci := 4) (q0 := 0) rfl rfl, fun U hU hW => xr_mk hU hW hPc hK⟩ rfl rfl hl.1 rfl (lv_room (Nat.le_of_ble_eq_true rfl)) dX4_countWalks_42 ⟨Nat.le_of_ble_eq_true rfl, Nat.le_of_ble_eq_true rfl⟩).run (fun r42 hr42 => ?_)
              clear hPc
              have j58 : ∀ (H : Heap) (locs : List Loc) (ls : Array Slot) (u58_0 : Int32), zA NI_minute 0 30 0 7 → va_P D classes [(NI, .inr (4, oX4 FL aNI NI_count NI_time)), ((aNI 7), .inl (cI, 8, .inl o2_nNIopen)), ((aNI 6), .inl (cI, 30, .inl NI_untoldAt)), ((aNI 5), .inl (cI, 30, .inl NI_toldAt)), ((aNI 3), .inl (cI, 30, .inl NI_minute)), ((aNI 4), .inl (cI, 30, .inl NI_rooms)), (FL, .inr (0, oX0 PL aFL FL_parting)), (PL, .inr (5, oX5 FO aPL PL_rooms PL_doors PL_things PL_draw PL_drawTold)), ((aNI 8), .inl (cI, 64, .inl g15_aNI8)), ((aFL 1), .inl (cI, 8, .inl FL_next)), ((aNI 9), .inl (cI, 64, .inl NI_onward))] H → va_D A [(NI, .inr (4, oX4 FL aNI NI_count NI_time)), ((aNI 7), .inl (cI, 8, .inl o2_nNIopen)), ((aNI 6), .inl (cI, 30, .inl NI_untoldAt)), ((aNI 5), .inl (cI, 30, .inl NI_toldAt)), ((aNI 3), .inl (cI, 30, .inl NI_minute)), ((aNI 4), .inl (cI, 30, .inl NI_rooms)), (FL, .inr (0, oX0 PL aFL FL_parting)), (PL, .inr (5, oX5 FO aPL PL_rooms PL_doors PL_things PL_draw PL_drawTold)), ((aNI 8), .inl (cI, 64, .inl g15_aNI8)), ((aFL 1), .inl (cI, 8, .inl FL_next)), ((aNI 9), .inl (cI, 64, .inl NI_onward))] → va_S A s.heap H locs → lv_has ls 4 [(3, .int v15_3), (2, .int v7_2), (0, .ref NI), (1, .int x0)] → W p l e ({ frames := 2, cells := 0, slots := 0, locals := 48 } : Room) s m ([.ref NI, .int x0] : List Value).toArray below meth c H locs 0 0 Q (F0 m 58 ls [.int u58_0, .int y38, .ref (aNI 8)]) := by
                intro H locs ls u58_0 sNI_minute_0_k58 hP hD hS hl
                refine zi_iast hx hb hK hP hD hS 8 0 rfl rfl (zB_in by38 (by decide) (by decide)) dX4_countWalks_58 (fun H locs g58 eg58 hP hD hS => ?_)
                replace hP : va_P D classes [(NI, .inr (4, oX4 FL aNI NI_count NI_time)), ((aNI 7), .inl (cI, 8, .inl o2_nNIopen)), ((aNI 6), .inl (cI, 30, .inl NI_untoldAt)), ((aNI 5), .inl (cI, 30, .inl NI_toldAt)), ((aNI 3), .inl (cI, 30, .inl NI_minute)), ((aNI 4), .inl (cI, 30, .inl NI_rooms)), (FL, .inr (0, oX0 PL aFL FL_parting)), (PL, .inr (5, oX5 FO aPL PL_rooms PL_doors PL_things PL_draw PL_drawTold)), ((aNI 8), .inl (cI, 64, .inl g58)), ((aFL 1), .inl (cI, 8, .inl FL_next)), ((aNI 9), .inl (cI, 64, .inl NI_onward))] H := hP
                replace hD : va_D A [(NI, .inr (4, oX4 FL aNI NI_count NI_time)), ((aNI 7), .inl (cI, 8, .inl o2_nNIopen)), ((aNI 6), .inl (cI, 30, .inl NI_untoldAt)), ((aNI 5), .inl (cI, 30, .inl NI_toldAt)), ((aNI 3), .inl (cI, 30, .inl NI_minute)), ((aNI 4), .inl (cI, 30, .inl NI_rooms)), (FL, .inr (0, oX0 PL aFL FL_parting)), (PL, .inr (5, oX5 FO aPL PL_rooms PL_doors PL_things PL_draw PL_drawTold)), ((aNI 8), .inl (cI, 64, .inl g58)), ((aFL 1), .inl (cI, 8, .inl FL_next)), ((aNI 9), .inl (cI, 64, .inl NI_onward))] := hD
                clear eg58
                obtain ⟨y59, by59, ry59, ey59⟩ := zi_inc (x := v15_3) (k := 1) (a := 1) (b := 8) bx26f_v15_3 (by decide) (by decide) (by decide) (by decide) (by decide)
                refine lv_iinc (v := y59) (lv' := [(3, .int y59), (2, .int v7_2), (0, .ref NI), (1, .int x0)]) hx hb dX4_countWalks_59 hl (k := 0) rfl ey59 (by decide) rfl (fun ls hl => ?_)
                refine lv_goto (tgt := 15) hx hb dX4_countWalks_62 (by decide) ?_
                exact ih15 H locs ls y59 g58 (zB_w by59 (by decide) (by decide)) sNI_minute_0_k58 (zM_us (k := 1) hm15 ry59 (by decide)) hP hD hS (lv_sub hl [0, 1, 2, 3] rfl)
              refine lv_if_eq (tgt := 57) hx hb dX4_countWalks_45 (by decide) (fun c45 => ?_) (fun c45 => ?_)
              · have be45t_r42 : zB r42 0 0 := zB_eq c45 hr42 (show zB 0 0 0 from ⟨by decide, by decide⟩) (by decide) (by decide)
                refine lv_iconst (v := 0) hx hb dX4_countWalks_57 (by decide) ?_
                exact j58 H locs ls 0 sNI_minute_0_k15 hP hD hS (lv_sub hl [0, 1, 2, 3] rfl)
              · have bn45f_r42 : zB r42 1 1 := zB_neL c45 hr42 (show zB 0 0 0 from ⟨by decide, by decide⟩) (by decide)
                refine lv_aload_n hx hb dX4_countWalks_48 rfl (lv_at hl 2 rfl) ?_
                refine lv_iload_n hx hb dX4_countWalks_49 rfl (lv_at hl 1 rfl) ?_
                refine lv_iload_n hx hb dX4_countWalks_50 rfl (lv_at hl 0 rfl) ?_
                have hPc := hP.sub (ws' := [(NI, .inr (4, oX4 FL aNI NI_count NI_time)), ((aNI 8), .inl (cI, 64, .inl g15_aNI8)), (FL, .inr (0, oX0 PL aFL FL_parting)), ((aFL 1), .inl (cI, 8, .inl FL_next)), (PL, .inr (5, oX5 FO aPL PL_rooms PL_doors PL_things PL_draw PL_drawTold))]) [0, 8, 6, 9, 7] rfl
                refine vp_callSi (va_runV (As := [.int v7_2, .int v15_3]) (rest := [.int y38, .ref (aNI 8)]) ⟨hx, hb, hml, hown, hts⟩ (c_X4_comingTo l D cI cB cL cZ cG NI v7_2 v15_3 FL NI_count NI_time aNI g15_aNI8 PL aFL FL_parting FL_next PL_rooms aPL PL_doors PL_things FO PL_draw PL_drawTold bx10f_v7_2 bx26f_v15_3 b_NI_count b_NI_time (zB_w by26f_PL_rooms (by decide) (by decide)) b_PL_doors b_PL_things) (cwV 2 hts gX4_countWalks_X4_comingTo rfl rfl rfl (by decide +kernel) ⟨Nat.le_of_ble_eq_true rfl, Nat.le_of_ble_eq_true rfl⟩) ⟨xr_blind, va_recv hK hP (ci := 4) (q0 := 0) rfl rfl, fun U hU hW => xr_mk hU hW hPc hK⟩ rfl rfl hl.1 rfl (lv_room (Nat.le_of_ble_eq_true rfl)) dX4_countWalks_51 ⟨Nat.le_of_ble_eq_true rfl, Nat.le_of_ble_eq_true rfl⟩).run (fun r51 hr51 => ?_)
                clear hPc
                clear hr51
                refine lv_goto (tgt := 58) hx hb dX4_countWalks_54 (by decide) ?_
                exact j58 H locs ls r51 sNI_minute_0_k15 hP hD hS (lv_sub hl [0, 1, 2, 3] rfl)
        refine lv_istore_n (lv' := [(3, .int 0), (2, .int v7_2), (0, .ref NI), (1, .int x0)]) hx hb dX4_countWalks_14 rfl hl (by decide) rfl (fun ls hl => ?_)
        exact j15 9 H locs ls 0 g7_aNI8 (zB_w (show zB 0 0 0 from ⟨by decide, by decide⟩) (by decide) (by decide)) sNI_minute_0_k7 (zM_ui (show zB 0 0 0 from ⟨by decide, by decide⟩) (by decide)) hP hD hS (lv_sub hl [0, 1, 2, 3] rfl)
  refine lv_istore_n (lv' := [(2, .int 0), (0, .ref NI), (1, .int x0)]) hx hb dX4_countWalks_6 rfl hl (by decide) rfl (fun ls hl => ?_)
  exact j7 9 H locs ls 0 NI_into (zB_w (show zB 0 0 0 from ⟨by decide, by decide⟩) (by decide) (by decide)) s_NI_minute_0 (zM_ui (show zB 0 0 0 from ⟨by decide, by decide⟩) (by decide)) hP hD hS (lv_sub hl [0, 1, 2] rfl)
set_option maxHeartbeats 4000000 in
set_option maxRecDepth 100000 in
theorem c_X4_onlyRoom (l : Launch) (D : va_G) (cI : ClassId) (cB : ClassId) (cL : ClassId) (cZ : ClassId) (cG : ClassId) (NI : Nat) (x0 : Int32) (FL : Nat) (NI_count : Int32) (NI_time : Int32) (aNI : Nat → Nat) (PL : Nat) (aFL : Nat → Nat) (FL_parting : Int32) (PL_rooms : Int32) (aPL : Nat → Nat) (PL_doors : Int32) (PL_things : Int32) (FO : Nat) (PL_draw : Int32) (PL_drawTold : Int32) (NI_into : Nat → Int32) (NI_onward : Nat → Int32) (b_x0 : zB x0 0 7) (b_NI_count : zB NI_count 0 30) (b_NI_time : zB NI_time 0 100000) (b_PL_rooms : zB PL_rooms 0 8) (b_PL_doors : zB PL_doors 0 12) (b_PL_things : zB PL_things 0 6) : Met l yX4_onlyRoom wsX4_onlyRoom ({ frames := 1, cells := 0, slots := 0, locals := 22 }) (xr D [(cI, .int), (cB, .byte), (cL, .long), (cZ, .boolean), (cG, .array .int)] [(NI, .inr (4, oX4 FL aNI NI_count NI_time)), (FL, .inr (0, oX0 PL aFL FL_parting)), (PL, .inr (5, oX5 FO aPL PL_rooms PL_doors PL_things PL_draw PL_drawTold)), ((aNI 8), .inl (cI, 64, .inl NI_into)), ((aNI 9), .inl (cI, 64, .inl NI_onward))] [.ref NI, .int x0]) (vp_Si (fun r => zB r (-2) 7)) 0 0 (fun _ => False) := by
  refine Met.ofW (cc := cX4_onlyRoom) (maxL := 4) (ret := (some .int)) (by decide) rfl ?_
  intro p e s m args below meth c s₁ B hml hv
  obtain ⟨rfl, hP, hK⟩ := hv
  have hx := B.exec
  have hb := B.bytes
  have hr := B.returns
  have hts := atoms_spec (ws := wsX4_onlyRoom) B.pre
  have hown : s.vm.findClass RX4 = some m.cls := findClass_of_methodNamed B.named
  have hlocks := B.notSynchronized
  clear B
  have hl := lv_entry ([.ref NI, .int x0]) (n := 4) (Nat.le_of_ble_eq_true rfl)
  rw [lg_entry_eq]
  generalize (lg_sl ([.ref NI, .int x0]) ++ List.replicate (4 - (lg_sl ([.ref NI, .int x0])).length) Slot.unset).toArray = ls at hl ⊢
  replace hl : lv_has ls 4 [(0, .ref NI), (1, .int x0)] := hl
  refine zz_abs (R := ({ frames := 1, cells := 0, slots := 0, locals := 22 } : Room)) (fun Q up => ?_)
  refine lv_iconst (v := (-1)) hx hb dX4_onlyRoom_0 (by decide) ?_
  refine lv_istore_n (lv' := [(2, .int (-1)), (0, .ref NI), (1, .int x0)]) hx hb dX4_onlyRoom_1 rfl hl (by decide) rfl (fun ls hl => ?_)
  refine lv_iconst (v := 0) hx hb dX4_onlyRoom_2 (by decide) ?_
  have j4 : ∀ (n4 : Nat) (ls : Array Slot) (v4_3 : Int32) (v4_2 : Int32), zB v4_3 0 8 → zB v4_2 (-1) 7 → (8 + 1 - v4_3.toInt) ≤ (n4 : Int) → lv_has ls 4 [(3, .int v4_3), (2, .int v4_2), (0, .ref NI), (1, .int x0)] → W p l e ({ frames := 1, cells := 0, slots := 0, locals := 22 } : Room) s m ([.ref NI, .int x0] : List Value).toArray below meth c s.heap [] 0 0 Q (F0 m 4 ls []) := by
    intro n4
    induction n4 with
    | zero => intro ls v4_3 v4_2 bv4_3_k4 bv4_2_k4 hm4 hl; exact zM_u0 bv4_3_k4 hm4
    | succ n4 ih4 =>
      intro ls v4_3 v4_2 bv4_3_k4 bv4_2_k4 hm4 hl
      refine lv_iload_n hx hb dX4_onlyRoom_4 rfl (lv_at hl 0 rfl) ?_
      refine lv_aload_n hx hb dX4_onlyRoom_5 rfl (lv_at hl 2 rfl) ?_
      refine va_get (D := D) (ci := 4) (v := .ref FL) (C := RX4) (T := TX4) (N := 10) hx hb hts iw_X4_onlyRoom_X4 hown hK hP 0 rfl rfl 0 (by decide) (hts (.fieldLink RX4 33 "SoldHouse$Night" "floor" "LSoldHouse$Floor;") (List.mem_of_getElem? (i := 1) rfl)) (fun _ h9 => h9) rfl dX4_onlyRoom_6 ?_
      refine va_get (D := D) (ci := 0) (v := .ref PL) (C := RX0) (T := TX0) (N := 5) hx hb hts iw_X4_onlyRoom_X0 hown hK hP 1 rfl rfl 0 (by decide) (hts (.fieldLink RX4 49 "SoldHouse$Floor" "plan" "LSoldHouse$Plan;") (List.mem_of_getElem? (i := 2) rfl)) (fun _ h9 => h9) rfl dX4_onlyRoom_9 ?_
      refine va_get (D := D) (ci := 5) (v := .int PL_rooms) (C := RX5) (T := TX5) (N := 16) hx hb hts iw_X4_onlyRoom_X5 hown hK hP 2 rfl rfl 0 (by decide) (hts (.fieldLink RX4 55 "SoldHouse$Plan" "rooms" "I") (List.mem_of_getElem? (i := 3) rfl)) (fun _ h9 => h9) rfl dX4_onlyRoom_12 ?_
      refine lv_icmp_ge (tgt := 43) hx hb dX4_onlyRoom_15 (by decide) (fun c15 => ?_) (fun c15 => ?_)
      · refine lv_iload_n hx hb dX4_onlyRoom_43 rfl (lv_at hl 1 rfl) ?_
        exact up _ _ _ (W.iret (v := v4_2) hx hb hr (fun t ht hW => ⟨v4_2, rfl, (zB_w bv4_2_k4 (by decide) (by decide)), ht⟩) (fun q hq => by cases hq) dX4_onlyRoom_44)
      · have bx15f_v4_3 : zB v4_3 0 7 := zB_ltu (zf c15) bv4_3_k4 b_PL_rooms (by decide)
        have by15f_PL_rooms : zB PL_rooms 1 8 := zB_ltv (zf c15) bx15f_v4_3 b_PL_rooms (by decide)
        refine lv_aload_n hx hb dX4_onlyRoom_18 rfl (lv_at hl 2 rfl) ?_
        refine lv_iload_n hx hb dX4_onlyRoom_19 rfl (lv_at hl 3 rfl) ?_
        refine lv_iload_n hx hb dX4_onlyRoom_20 rfl (lv_at hl 0 rfl) ?_
        have hPc := hP.sub (ws' := [(NI, .inr (4, oX4 FL aNI NI_count NI_time)), ((aNI 8), .inl (cI, 64, .inl NI_into)), ((aNI 9), .inl (cI, 64, .inl NI_onward))]) [0, 3, 4] rfl
        refine vp_callSi (va_runV (As := [.int x0, .int v4_3]) (rest := []) ⟨hx, hb, hml, hown, hts⟩ (c_X4_through l D cI cB cL cZ cG NI x0 v4_3 FL NI_count NI_time aNI NI_into NI_onward b_x0 bx15f_v4_3 b_NI_count b_NI_time) (cwV 2 hts gX4_onlyRoom_X4_through rfl rfl rfl (by decide +kernel) ⟨Nat.le_of_ble_eq_true rfl, Nat.le_of_ble_eq_true rfl⟩) ⟨xr_blind, va_recv hK hP (ci := 4) (q0 := 0) rfl rfl, fun U hU hW => xr_mk hU hW hPc hK⟩ rfl rfl hl.1 rfl (lv_room (Nat.le_of_ble_eq_true rfl)) dX4_onlyRoom_21 ⟨Nat.le_of_ble_eq_true rfl, Nat.le_of_ble_eq_true rfl⟩).run (fun r21 hr21 => ?_)
        clear hPc
        clear hr21
        have j37 : ∀ (ls : Array Slot) (v37_2 : Int32), zB v37_2 (-1) 7 → lv_has ls 4 [(3, .int v4_3), (2, .int v37_2), (0, .ref NI), (1, .int x0)] → W p l e ({ frames := 1, cells := 0, slots := 0, locals := 22 } : Room) s m ([.ref NI, .int x0] : List Value).toArray below meth c s.heap [] 0 0 Q (F0 m 37 ls []) := by
          intro ls v37_2 bv37_2_k37 hl
          obtain ⟨y37, by37, ry37, ey37⟩ := zi_inc (x := v4_3) (k := 1) (a := 1) (b := 8) bx15f_v4_3 (by decide) (by decide) (by decide) (by decide) (by decide)
          refine lv_iinc (v := y37) (lv' := [(3, .int y37), (2, .int v37_2), (0, .ref NI), (1, .int x0)]) hx hb dX4_onlyRoom_37 hl (k := 0) rfl ey37 (by decide) rfl (fun ls hl => ?_)
          refine lv_goto (tgt := 4) hx hb dX4_onlyRoom_40 (by decide) ?_
          exact ih4 ls y37 v37_2 (zB_w by37 (by decide) (by decide)) bv37_2_k37 (zM_us (k := 1) hm4 ry37 (by decide)) (lv_sub hl [0, 1, 2, 3] rfl)
        refine lv_if_le (tgt := 37) hx hb dX4_onlyRoom_24 (by decide) (fun c24 => ?_) (fun c24 => ?_)
        · have bx24t_r21 : zB r21 (-2147483648) 0 := zB_leu (ze c24) (zB_top r21) (show zB 0 0 0 from ⟨by decide, by decide⟩) (by decide)
          exact j37 ls v4_2 bv4_2_k4 (lv_sub hl [0, 1, 2, 3] rfl)
        · have by24f_r21 : zB r21 1 2147483647 := zB_ltv (zf c24) (show zB 0 0 0 from ⟨by decide, by decide⟩) (zB_top r21) (by decide)
          refine lv_iload_n hx hb dX4_onlyRoom_27 rfl (lv_at hl 1 rfl) ?_
          refine lv_iconst (v := (-1)) hx hb dX4_onlyRoom_28 (by decide) ?_
          refine lv_icmp_eq (tgt := 35) hx hb dX4_onlyRoom_29 (by decide) (fun c29 => ?_) (fun c29 => ?_)
          · have be29t_v4_2 : zB v4_2 (-1) (-1) := zB_eq c29 bv4_2_k4 (show zB (-1) (-1) (-1) from ⟨by decide, by decide⟩) (by decide) (by decide)
            refine lv_iload_n hx hb dX4_onlyRoom_35 rfl (lv_at hl 0 rfl) ?_
            refine lv_istore_n (lv' := [(2, .int v4_3), (3, .int v4_3), (0, .ref NI), (1, .int x0)]) hx hb dX4_onlyRoom_36 rfl hl (by decide) rfl (fun ls hl => ?_)
            exact j37 ls v4_3 (zB_w bx15f_v4_3 (by decide) (by decide)) (lv_sub hl [1, 0, 2, 3] rfl)
          · have bn29f_v4_2 : zB v4_2 0 7 := zB_neL c29 bv4_2_k4 (show zB (-1) (-1) (-1) from ⟨by decide, by decide⟩) (by decide)
            refine lv_bipush (v := (-2)) hx hb dX4_onlyRoom_32 (by decide) ?_
            exact up _ _ _ (W.iret (v := (-2)) hx hb hr (fun t ht hW => ⟨(-2), rfl, (zB_w (show zB (-2) (-2) (-2) from ⟨by decide, by decide⟩) (by decide) (by decide)), ht⟩) (fun q hq => by cases hq) dX4_onlyRoom_34)
  refine lv_istore_n (lv' := [(3, .int 0), (2, .int (-1)), (0, .ref NI), (1, .int x0)]) hx hb dX4_onlyRoom_3 rfl hl (by decide) rfl (fun ls hl => ?_)
  exact j4 9 ls 0 (-1) (zB_w (show zB 0 0 0 from ⟨by decide, by decide⟩) (by decide) (by decide)) (zB_w (show zB (-1) (-1) (-1) from ⟨by decide, by decide⟩) (by decide) (by decide)) (zM_ui (show zB 0 0 0 from ⟨by decide, by decide⟩) (by decide)) (lv_sub hl [0, 1, 2, 3] rfl)
set_option maxHeartbeats 4000000 in
set_option maxRecDepth 100000 in
theorem c_X4_mostLeft (l : Launch) (D : va_G) (cI : ClassId) (cB : ClassId) (cL : ClassId) (cZ : ClassId) (cG : ClassId) (NI : Nat) (x0 : Int32) (FL : Nat) (NI_count : Int32) (NI_time : Int32) (aNI : Nat → Nat) (PL : Nat) (aFL : Nat → Nat) (FL_parting : Int32) (PL_rooms : Int32) (aPL : Nat → Nat) (PL_doors : Int32) (PL_things : Int32) (FO : Nat) (PL_draw : Int32) (PL_drawTold : Int32) (NI_into : Nat → Int32) (NI_onward : Nat → Int32) (b_x0 : zB x0 0 7) (b_NI_count : zB NI_count 0 30) (b_NI_time : zB NI_time 0 100000) (b_PL_rooms : zB PL_rooms 0 8) (b_PL_doors : zB PL_doors 0 12) (b_PL_things : zB PL_things 0 6) : Met l yX4_mostLeft wsX4_mostLeft ({ frames := 1, cells := 0, slots := 0, locals := 22 }) (xr D [(cI, .int), (cB, .byte), (cL, .long), (cZ, .boolean), (cG, .array .int)] [(NI, .inr (4, oX4 FL aNI NI_count NI_time)), (FL, .inr (0, oX0 PL aFL FL_parting)), (PL, .inr (5, oX5 FO aPL PL_rooms PL_doors PL_things PL_draw PL_drawTold)), ((aNI 8), .inl (cI, 64, .inl NI_into)), ((aNI 9), .inl (cI, 64, .inl NI_onward))] [.ref NI, .int x0]) (vp_Si (fun r => zB r 0 2147483647)) 0 0 (fun _ => False) := by
  refine Met.ofW (cc := cX4_mostLeft) (maxL := 4) (ret := (some .int)) (by decide) rfl ?_
  intro p e s m args below meth c s₁ B hml hv
  obtain ⟨rfl, hP, hK⟩ := hv
  have hx := B.exec
  have hb := B.bytes
  have hr := B.returns
  have hts := atoms_spec (ws := wsX4_mostLeft) B.pre
  have hown : s.vm.findClass RX4 = some m.cls := findClass_of_methodNamed B.named
  have hlocks := B.notSynchronized
  clear B
  have hl := lv_entry ([.ref NI, .int x0]) (n := 4) (Nat.le_of_ble_eq_true rfl)
  rw [lg_entry_eq]
  generalize (lg_sl ([.ref NI, .int x0]) ++ List.replicate (4 - (lg_sl ([.ref NI, .int x0])).length) Slot.unset).toArray = ls at hl ⊢
  replace hl : lv_has ls 4 [(0, .ref NI), (1, .int x0)] := hl
  refine zz_abs (R := ({ frames := 1, cells := 0, slots := 0, locals := 22 } : Room)) (fun Q up => ?_)
  refine lv_iconst (v := 0) hx hb dX4_mostLeft_0 (by decide) ?_
  refine lv_istore_n (lv' := [(2, .int 0), (0, .ref NI), (1, .int x0)]) hx hb dX4_mostLeft_1 rfl hl (by decide) rfl (fun ls hl => ?_)
  refine lv_iconst (v := 0) hx hb dX4_mostLeft_2 (by decide) ?_
  have j4 : ∀ (n4 : Nat) (ls : Array Slot) (v4_3 : Int32) (v4_2 : Int32), zB v4_3 0 8 → zB v4_2 0 2147483647 → (8 + 1 - v4_3.toInt) ≤ (n4 : Int) → lv_has ls 4 [(3, .int v4_3), (2, .int v4_2), (0, .ref NI), (1, .int x0)] → W p l e ({ frames := 1, cells := 0, slots := 0, locals := 22 } : Room) s m ([.ref NI, .int x0] : List Value).toArray below meth c s.heap [] 0 0 Q (F0 m 4 ls []) := by
    intro n4
    induction n4 with
    | zero => intro ls v4_3 v4_2 bv4_3_k4 bv4_2_k4 hm4 hl; exact zM_u0 bv4_3_k4 hm4
    | succ n4 ih4 =>
      intro ls v4_3 v4_2 bv4_3_k4 bv4_2_k4 hm4 hl
      refine lv_iload_n hx hb dX4_mostLeft_4 rfl (lv_at hl 0 rfl) ?_
      refine lv_aload_n hx hb dX4_mostLeft_5 rfl (lv_at hl 2 rfl) ?_
      refine va_get (D := D) (ci := 4) (v := .ref FL) (C := RX4) (T := TX4) (N := 10) hx hb hts iw_X4_mostLeft_X4 hown hK hP 0 rfl rfl 0 (by decide) (hts (.fieldLink RX4 33 "SoldHouse$Night" "floor" "LSoldHouse$Floor;") (List.mem_of_getElem? (i := 1) rfl)) (fun _ h9 => h9) rfl dX4_mostLeft_6 ?_
      refine va_get (D := D) (ci := 0) (v := .ref PL) (C := RX0) (T := TX0) (N := 5) hx hb hts iw_X4_mostLeft_X0 hown hK hP 1 rfl rfl 0 (by decide) (hts (.fieldLink RX4 49 "SoldHouse$Floor" "plan" "LSoldHouse$Plan;") (List.mem_of_getElem? (i := 2) rfl)) (fun _ h9 => h9) rfl dX4_mostLeft_9 ?_
      refine va_get (D := D) (ci := 5) (v := .int PL_rooms) (C := RX5) (T := TX5) (N := 16) hx hb hts iw_X4_mostLeft_X5 hown hK hP 2 rfl rfl 0 (by decide) (hts (.fieldLink RX4 55 "SoldHouse$Plan" "rooms" "I") (List.mem_of_getElem? (i := 3) rfl)) (fun _ h9 => h9) rfl dX4_mostLeft_12 ?_
      refine lv_icmp_ge (tgt := 35) hx hb dX4_mostLeft_15 (by decide) (fun c15 => ?_) (fun c15 => ?_)
      · refine lv_iload_n hx hb dX4_mostLeft_35 rfl (lv_at hl 1 rfl) ?_
        exact up _ _ _ (W.iret (v := v4_2) hx hb hr (fun t ht hW => ⟨v4_2, rfl, bv4_2_k4, ht⟩) (fun q hq => by cases hq) dX4_mostLeft_36)
      · have bx15f_v4_3 : zB v4_3 0 7 := zB_ltu (zf c15) bv4_3_k4 b_PL_rooms (by decide)
        have by15f_PL_rooms : zB PL_rooms 1 8 := zB_ltv (zf c15) bx15f_v4_3 b_PL_rooms (by decide)
        refine lv_iload_n hx hb dX4_mostLeft_18 rfl (lv_at hl 1 rfl) ?_
        refine lv_aload_n hx hb dX4_mostLeft_19 rfl (lv_at hl 2 rfl) ?_
        refine lv_iload_n hx hb dX4_mostLeft_20 rfl (lv_at hl 3 rfl) ?_
        refine lv_iload_n hx hb dX4_mostLeft_21 rfl (lv_at hl 0 rfl) ?_
        have hPc := hP.sub (ws' := [(NI, .inr (4, oX4 FL aNI NI_count NI_time)), ((aNI 8), .inl (cI, 64, .inl NI_into)), ((aNI 9), .inl (cI, 64, .inl NI_onward))]) [0, 3, 4] rfl
        refine vp_callSi (va_runV (As := [.int x0, .int v4_3]) (rest := [.int v4_2]) ⟨hx, hb, hml, hown, hts⟩ (c_X4_through l D cI cB cL cZ cG NI x0 v4_3 FL NI_count NI_time aNI NI_into NI_onward b_x0 bx15f_v4_3 b_NI_count b_NI_time) (cwV 2 hts gX4_mostLeft_X4_through rfl rfl rfl (by decide +kernel) ⟨Nat.le_of_ble_eq_true rfl, Nat.le_of_ble_eq_true rfl⟩) ⟨xr_blind, va_recv hK hP (ci := 4) (q0 := 0) rfl rfl, fun U hU hW => xr_mk hU hW hPc hK⟩ rfl rfl hl.1 rfl (lv_room (Nat.le_of_ble_eq_true rfl)) dX4_mostLeft_22 ⟨Nat.le_of_ble_eq_true rfl, Nat.le_of_ble_eq_true rfl⟩).run (fun r22 hr22 => ?_)
        clear hPc
        clear hr22
        refine va_mmax hx hb (by rw [hml]; exact hl.1.symm) hown (hts (.methodLink RX4 77 Lib.Math.max.name) (List.mem_of_getElem? (i := 4) rfl)) (hts (.static Lib.Math.max.name) (List.mem_of_getElem? (i := 5) rfl)) (hts (.initialized "java/lang/Math") (List.mem_of_getElem? (i := 6) rfl)) (hts (.code Lib.Math.max.name Lib.Math.max.code 2 (some .int)) (List.mem_of_getElem? (i := 7) rfl)) (Nat.le_of_ble_eq_true rfl) (Nat.le_of_ble_eq_true rfl) (Nat.le_of_ble_eq_true rfl) (Nat.le_of_ble_eq_true rfl) dX4_mostLeft_25 ?_
        refine zi_top (a := 0) (b := 2147483647) (zB_max bv4_2_k4 (zB_top r22) (by decide) (by decide)) (fun y25 by25 => ?_)
        refine lv_istore_n (lv' := [(2, .int y25), (3, .int v4_3), (0, .ref NI), (1, .int x0)]) hx hb dX4_mostLeft_28 rfl hl (by decide) rfl (fun ls hl => ?_)
        obtain ⟨y29, by29, ry29, ey29⟩ := zi_inc (x := v4_3) (k := 1) (a := 1) (b := 8) bx15f_v4_3 (by decide) (by decide) (by decide) (by decide) (by decide)
        refine lv_iinc (v := y29) (lv' := [(3, .int y29), (2, .int y25), (0, .ref NI), (1, .int x0)]) hx hb dX4_mostLeft_29 hl (k := 1) rfl ey29 (by decide) rfl (fun ls hl => ?_)
        refine lv_goto (tgt := 4) hx hb dX4_mostLeft_32 (by decide) ?_
        exact ih4 ls y29 y25 (zB_w by29 (by decide) (by decide)) by25 (zM_us (k := 1) hm4 ry29 (by decide)) (lv_sub hl [0, 1, 2, 3] rfl)
  refine lv_istore_n (lv' := [(3, .int 0), (2, .int 0), (0, .ref NI), (1, .int x0)]) hx hb dX4_mostLeft_3 rfl hl (by decide) rfl (fun ls hl => ?_)
  exact j4 9 ls 0 0 (zB_w (show zB 0 0 0 from ⟨by decide, by decide⟩) (by decide) (by decide)) (zB_w (show zB 0 0 0 from ⟨by decide, by decide⟩) (by decide) (by decide)) (zM_ui (show zB 0 0 0 from ⟨by decide, by decide⟩) (by decide)) (lv_sub hl [0, 1, 2, 3] rfl)
set_option maxHeartbeats 4000000 in
set_option maxRecDepth 100000 in
theorem c_X4_bestMinute (l : Launch) (D : va_G) (cI : ClassId) (cB : ClassId) (cL : ClassId) (cZ : ClassId) (cG : ClassId) (NI : Nat) (FL : Nat) (NI_count : Int32) (NI_time : Int32) (aNI : Nat → Nat) (PL : Nat) (aFL : Nat → Nat) (FL_parting : Int32) (PL_rooms : Int32) (aPL : Nat → Nat) (PL_doors : Int32) (PL_things : Int32) (FO : Nat) (PL_draw : Int32) (PL_drawTold : Int32) (NI_into : Nat → Int32) (NI_onward : Nat → Int32) (b_NI_count : zB NI_count 0 30) (b_NI_time : zB NI_time 0 100000) (b_PL_rooms : zB PL_rooms 0 8) (b_PL_doors : zB PL_doors 0 12) (b_PL_things : zB PL_things 0 6) : Met l yX4_bestMinute wsX4_bestMinute ({ frames := 2, cells := 0, slots := 0, locals := 45 }) (xr D [(cI, .int), (cB, .byte), (cL, .long), (cZ, .boolean), (cG, .array .int)] [(NI, .inr (4, oX4 FL aNI NI_count NI_time)), (FL, .inr (0, oX0 PL aFL FL_parting)), (PL, .inr (5, oX5 FO aPL PL_rooms PL_doors PL_things PL_draw PL_drawTold)), ((aNI 8), .inl (cI, 64, .inl NI_into)), ((aNI 9), .inl (cI, 64, .inl NI_onward))] [.ref NI]) (vp_Si (fun r => zB r 0 7)) 0 0 (fun _ => False) := by
  refine Met.ofW (cc := cX4_bestMinute) (maxL := 3) (ret := (some .int)) (by decide) rfl ?_
  intro p e s m args below meth c s₁ B hml hv
  obtain ⟨rfl, hP, hK⟩ := hv
  have hx := B.exec
  have hb := B.bytes
  have hr := B.returns
  have hts := atoms_spec (ws := wsX4_bestMinute) B.pre
  have hown : s.vm.findClass RX4 = some m.cls := findClass_of_methodNamed B.named
  have hlocks := B.notSynchronized
  clear B
  have hl := lv_entry ([.ref NI]) (n := 3) (Nat.le_of_ble_eq_true rfl)
  rw [lg_entry_eq]
  generalize (lg_sl ([.ref NI]) ++ List.replicate (3 - (lg_sl ([.ref NI])).length) Slot.unset).toArray = ls at hl ⊢
  replace hl : lv_has ls 3 [(0, .ref NI)] := hl
  refine zz_abs (R := ({ frames := 2, cells := 0, slots := 0, locals := 45 } : Room)) (fun Q up => ?_)
  refine lv_iconst (v := 0) hx hb dX4_bestMinute_0 (by decide) ?_
  refine lv_istore_n (lv' := [(1, .int 0), (0, .ref NI)]) hx hb dX4_bestMinute_1 rfl hl (by decide) rfl (fun ls hl => ?_)
  refine lv_iconst (v := 1) hx hb dX4_bestMinute_2 (by decide) ?_
  have j4 : ∀ (n4 : Nat) (ls : Array Slot) (v4_2 : Int32) (v4_1 : Int32), zB v4_2 1 8 → zB v4_1 0 7 → (8 + 1 - v4_2.toInt) ≤ (n4 : Int) → lv_has ls 3 [(2, .int v4_2), (1, .int v4_1), (0, .ref NI)] → W p l e ({ frames := 2, cells := 0, slots := 0, locals := 45 } : Room) s m ([.ref NI] : List Value).toArray below meth c s.heap [] 0 0 Q (F0 m 4 ls []) := by
    intro n4
    induction n4 with
    | zero => intro ls v4_2 v4_1 bv4_2_k4 bv4_1_k4 hm4 hl; exact zM_u0 bv4_2_k4 hm4
    | succ n4 ih4 =>
      intro ls v4_2 v4_1 bv4_2_k4 bv4_1_k4 hm4 hl
      refine lv_iload_n hx hb dX4_bestMinute_4 rfl (lv_at hl 0 rfl) ?_
      refine lv_bipush (v := 8) hx hb dX4_bestMinute_5 (by decide) ?_
      refine lv_icmp_ge (tgt := 31) hx hb dX4_bestMinute_7 (by decide) (fun c7 => ?_) (fun c7 => ?_)
      · have by7t_v4_2 : zB v4_2 8 8 := zB_lev (ze c7) (show zB 8 8 8 from ⟨by decide, by decide⟩) bv4_2_k4 (by decide)
        refine lv_iload_n hx hb dX4_bestMinute_31 rfl (lv_at hl 1 rfl) ?_
        exact up _ _ _ (W.iret (v := v4_1) hx hb hr (fun t ht hW => ⟨v4_1, rfl, bv4_1_k4, ht⟩) (fun q hq => by cases hq) dX4_bestMinute_32)
      · have bx7f_v4_2 : zB v4_2 1 7 := zB_ltu (zf c7) bv4_2_k4 (show zB 8 8 8 from ⟨by decide, by decide⟩) (by decide)
        refine lv_aload_n hx hb dX4_bestMinute_10 rfl (lv_at hl 2 rfl) ?_
        refine lv_iload_n hx hb dX4_bestMinute_11 rfl (lv_at hl 0 rfl) ?_
        have hPc := hP.sub (ws' := [(NI, .inr (4, oX4 FL aNI NI_count NI_time)), (FL, .inr (0, oX0 PL aFL FL_parting)), (PL, .inr (5, oX5 FO aPL PL_rooms PL_doors PL_things PL_draw PL_drawTold)), ((aNI 8), .inl (cI, 64, .inl NI_into)), ((aNI 9), .inl (cI, 64, .inl NI_onward))]) [0, 1, 2, 3, 4] rfl
        refine vp_callSi (va_runV (As := [.int v4_2]) (rest := []) ⟨hx, hb, hml, hown, hts⟩ (c_X4_mostLeft l D cI cB cL cZ cG NI v4_2 FL NI_count NI_time aNI PL aFL FL_parting PL_rooms aPL PL_doors PL_things FO PL_draw PL_drawTold NI_into NI_onward (zB_w bx7f_v4_2 (by decide) (by decide)) b_NI_count b_NI_time b_PL_rooms b_PL_doors b_PL_things) (cwV 1 hts gX4_bestMinute_X4_mostLeft rfl rfl rfl (by decide +kernel) ⟨Nat.le_of_ble_eq_true rfl, Nat.le_of_ble_eq_true rfl⟩) ⟨xr_blind, va_recv hK hP (ci := 4) (q0 := 0) rfl rfl, fun U hU hW => xr_mk hU hW hPc hK⟩ rfl rfl hl.1 rfl (lv_room (Nat.le_of_ble_eq_true rfl)) dX4_bestMinute_12 ⟨Nat.le_of_ble_eq_true rfl, Nat.le_of_ble_eq_true rfl⟩).run (fun r12 hr12 => ?_)
        clear hPc
        refine lv_aload_n hx hb dX4_bestMinute_15 rfl (lv_at hl 2 rfl) ?_
        refine lv_iload_n hx hb dX4_bestMinute_16 rfl (lv_at hl 1 rfl) ?_
        have hPc := hP.sub (ws' := [(NI, .inr (4, oX4 FL aNI NI_count NI_time)), (FL, .inr (0, oX0 PL aFL FL_parting)), (PL, .inr (5, oX5 FO aPL PL_rooms PL_doors PL_things PL_draw PL_drawTold)), ((aNI 8), .inl (cI, 64, .inl NI_into)), ((aNI 9), .inl (cI, 64, .inl NI_onward))]) [0, 1, 2, 3, 4] rfl
        refine vp_callSi (va_runV (As := [.int v4_1]) (rest := [.int r12]) ⟨hx, hb, hml, hown, hts⟩ (c_X4_mostLeft l D cI cB cL cZ cG NI v4_1 FL NI_count NI_time aNI PL aFL FL_parting PL_rooms aPL PL_doors PL_things FO PL_draw PL_drawTold NI_into NI_onward bv4_1_k4 b_NI_count b_NI_time b_PL_rooms b_PL_doors b_PL_things) (cwV 1 hts gX4_bestMinute_X4_mostLeft rfl rfl rfl (by decide +kernel) ⟨Nat.le_of_ble_eq_true rfl, Nat.le_of_ble_eq_true rfl⟩) ⟨xr_blind, va_recv hK hP (ci := 4) (q0 := 0) rfl rfl, fun U hU hW => xr_mk hU hW hPc hK⟩ rfl rfl hl.1 rfl (lv_room (Nat.le_of_ble_eq_true rfl)) dX4_bestMinute_17 ⟨Nat.le_of_ble_eq_true rfl, Nat.le_of_ble_eq_true rfl⟩).run (fun r17 hr17 => ?_)
        clear hPc
        have j25 : ∀ (ls : Array Slot) (v25_1 : Int32), zB v25_1 0 7 → lv_has ls 3 [(2, .int v4_2), (1, .int v25_1), (0, .ref NI)] → W p l e ({ frames := 2, cells := 0, slots := 0, locals := 45 } : Room) s m ([.ref NI] : List Value).toArray below meth c s.heap [] 0 0 Q (F0 m 25 ls []) := by
          intro ls v25_1 bv25_1_k25 hl
          obtain ⟨y25, by25, ry25, ey25⟩ := zi_inc (x := v4_2) (k := 1) (a := 2) (b := 8) bx7f_v4_2 (by decide) (by decide) (by decide) (by decide) (by decide)
          refine lv_iinc (v := y25) (lv' := [(2, .int y25), (1, .int v25_1), (0, .ref NI)]) hx hb dX4_bestMinute_25 hl (k := 0) rfl ey25 (by decide) rfl (fun ls hl => ?_)
          refine lv_goto (tgt := 4) hx hb dX4_bestMinute_28 (by decide) ?_
          exact ih4 ls y25 v25_1 (zB_w by25 (by decide) (by decide)) bv25_1_k25 (zM_us (k := 1) hm4 ry25 (by decide)) (lv_sub hl [0, 1, 2] rfl)
        refine lv_icmp_ge (tgt := 25) hx hb dX4_bestMinute_20 (by decide) (fun c20 => ?_) (fun c20 => ?_)
        · exact j25 ls v4_1 bv4_1_k4 (lv_sub hl [0, 1, 2] rfl)
        · have bx20f_r12 : zB r12 0 2147483646 := zB_ltu (zf c20) hr12 hr17 (by decide)
          have by20f_r17 : zB r17 1 2147483647 := zB_ltv (zf c20) bx20f_r12 hr17 (by decide)
          refine lv_iload_n hx hb dX4_bestMinute_23 rfl (lv_at hl 0 rfl) ?_
          refine lv_istore_n (lv' := [(1, .int v4_2), (2, .int v4_2), (0, .ref NI)]) hx hb dX4_bestMinute_24 rfl hl (by decide) rfl (fun ls hl => ?_)
          exact j25 ls v4_2 (zB_w bx7f_v4_2 (by decide) (by decide)) (lv_sub hl [1, 0, 2] rfl)
  refine lv_istore_n (lv' := [(2, .int 1), (1, .int 0), (0, .ref NI)]) hx hb dX4_bestMinute_3 rfl hl (by decide) rfl (fun ls hl => ?_)
  exact j4 8 ls 1 0 (zB_w (show zB 1 1 1 from ⟨by decide, by decide⟩) (by decide) (by decide)) (zB_w (show zB 0 0 0 from ⟨by decide, by decide⟩) (by decide) (by decide)) (zM_ui (show zB 1 1 1 from ⟨by decide, by decide⟩) (by decide)) (lv_sub hl [0, 1, 2] rfl)
set_option maxHeartbeats 4000000 in
set_option maxRecDepth 100000 in
theorem c_X9_isBlank (l : Launch) (D : va_G) (cI : ClassId) (cB : ClassId) (cL : ClassId) (cZ : ClassId) (cG : ClassId) (x0 : Int32) : Met l yX9_isBlank wsX9_isBlank ({ frames := 0, cells := 0, slots := 0, locals := 0 }) (xr D [(cI, .int), (cB, .byte), (cL, .long), (cZ, .boolean), (cG, .array .int)] [] [.int x0]) (vp_Si (fun r => (r = 0) ∨ (r = 1 ∧ zB x0 10 32))) 0 0 (fun _ => False) := by
  refine Met.ofW (cc := cX9_isBlank) (maxL := 1) (ret := (some .boolean)) (by decide) rfl ?_
  intro p e s m args below meth c s₁ B hml hv
  obtain ⟨rfl, hP, hK⟩ := hv
  have hx := B.exec
  have hb := B.bytes
  have hr := B.returns
  have hts := atoms_spec (ws := wsX9_isBlank) B.pre
  have hown : s.vm.findClass RX9 = some m.cls := findClass_of_methodNamed B.named
  have hlocks := B.notSynchronized
  clear B
  have hl := lv_entry ([.int x0]) (n := 1) (Nat.le_of_ble_eq_true rfl)
  rw [lg_entry_eq]
  generalize (lg_sl ([.int x0]) ++ List.replicate (1 - (lg_sl ([.int x0])).length) Slot.unset).toArray = ls at hl ⊢
  replace hl : lv_has ls 1 [(0, .int x0)] := hl
  refine lv_iload_n hx hb dX9_isBlank_0 rfl (lv_at hl 0 rfl) ?_
  refine lv_bipush (v := 32) hx hb dX9_isBlank_1 (by decide) ?_
  refine lv_icmp_eq (tgt := 12) hx hb dX9_isBlank_3 (by decide) (fun c3 => ?_) (fun c3 => ?_)
  · have be3t_x0 : zB x0 32 32 := zB_eq c3 (zB_top x0) (show zB 32 32 32 from ⟨by decide, by decide⟩) (by decide) (by decide)
    refine lv_iconst (v := 1) hx hb dX9_isBlank_12 (by decide) ?_
    refine lv_goto (tgt := 17) hx hb dX9_isBlank_13 (by decide) ?_
    exact W.zret (v := 1) (ty := .boolean) hx hb hr (by decide) (fun t ht hW => ⟨1, rfl, Or.inr (⟨rfl, (zB_w be3t_x0 (by decide) (by decide))⟩), ht⟩) (fun q hq => by cases hq) dX9_isBlank_17
  · refine lv_iload_n hx hb dX9_isBlank_6 rfl (lv_at hl 0 rfl) ?_
    refine lv_bipush (v := 10) hx hb dX9_isBlank_7 (by decide) ?_
    refine lv_icmp_ne (tgt := 16) hx hb dX9_isBlank_9 (by decide) (fun c9 => ?_) (fun c9 => ?_)
    · refine lv_iconst (v := 0) hx hb dX9_isBlank_16 (by decide) ?_
      exact W.zret (v := 0) (ty := .boolean) hx hb hr (by decide) (fun t ht hW => ⟨0, rfl, Or.inl rfl, ht⟩) (fun q hq => by cases hq) dX9_isBlank_17
    · have be9f_x0 : zB x0 10 10 := zB_eq c9 (zB_top x0) (show zB 10 10 10 from ⟨by decide, by decide⟩) (by decide) (by decide)
      refine lv_iconst (v := 1) hx hb dX9_isBlank_12 (by decide) ?_
      refine lv_goto (tgt := 17) hx hb dX9_isBlank_13 (by decide) ?_
      exact W.zret (v := 1) (ty := .boolean) hx hb hr (by decide) (fun t ht hW => ⟨1, rfl, Or.inr (⟨rfl, (zB_w be9f_x0 (by decide) (by decide))⟩), ht⟩) (fun q hq => by cases hq) dX9_isBlank_17
set_option maxHeartbeats 4000000 in
set_option maxRecDepth 100000 in
theorem c_X9_isLetter (l : Launch) (D : va_G) (cI : ClassId) (cB : ClassId) (cL : ClassId) (cZ : ClassId) (cG : ClassId) (x0 : Int32) : Met l yX9_isLetter wsX9_isLetter ({ frames := 0, cells := 0, slots := 0, locals := 0 }) (xr D [(cI, .int), (cB, .byte), (cL, .long), (cZ, .boolean), (cG, .array .int)] [] [.int x0]) (vp_Si (fun r => (r = 0) ∨ (r = 1 ∧ zB x0 97 122))) 0 0 (fun _ => False) := by
  refine Met.ofW (cc := cX9_isLetter) (maxL := 1) (ret := (some .boolean)) (by decide) rfl ?_
  intro p e s m args below meth c s₁ B hml hv
  obtain ⟨rfl, hP, hK⟩ := hv
  have hx := B.exec
  have hb := B.bytes
  have hr := B.returns
  have hts := atoms_spec (ws := wsX9_isLetter) B.pre
  have hown : s.vm.findClass RX9 = some m.cls := findClass_of_methodNamed B.named
  have hlocks := B.notSynchronized
  clear B
  have hl := lv_entry ([.int x0]) (n := 1) (Nat.le_of_ble_eq_true rfl)
  rw [lg_entry_eq]
  generalize (lg_sl ([.int x0]) ++ List.replicate (1 - (lg_sl ([.int x0])).length) Slot.unset).toArray = ls at hl ⊢
  replace hl : lv_has ls 1 [(0, .int x0)] := hl
  refine lv_iload_n hx hb dX9_isLetter_0 rfl (lv_at hl 0 rfl) ?_
  refine lv_bipush (v := 97) hx hb dX9_isLetter_1 (by decide) ?_
  refine lv_icmp_lt (tgt := 16) hx hb dX9_isLetter_3 (by decide) (fun c3 => ?_) (fun c3 => ?_)
  · have bx3t_x0 : zB x0 (-2147483648) 96 := zB_ltu (zl c3) (zB_top x0) (show zB 97 97 97 from ⟨by decide, by decide⟩) (by decide)
    refine lv_iconst (v := 0) hx hb dX9_isLetter_16 (by decide) ?_
    exact W.zret (v := 0) (ty := .boolean) hx hb hr (by decide) (fun t ht hW => ⟨0, rfl, Or.inl rfl, ht⟩) (fun q hq => by cases hq) dX9_isLetter_17
  · have by3f_x0 : zB x0 97 2147483647 := zB_lev (zg c3) (show zB 97 97 97 from ⟨by decide, by decide⟩) (zB_top x0) (by decide)
    refine lv_iload_n hx hb dX9_isLetter_6 rfl (lv_at hl 0 rfl) ?_
    refine lv_bipush (v := 122) hx hb dX9_isLetter_7 (by decide) ?_
    refine lv_icmp_gt (tgt := 16) hx hb dX9_isLetter_9 (by decide) (fun c9 => ?_) (fun c9 => ?_)
    · have by9t_x0 : zB x0 123 2147483647 := zB_ltv (zl c9) (show zB 122 122 122 from ⟨by decide, by decide⟩) by3f_x0 (by decide)
      refine lv_iconst (v := 0) hx hb dX9_isLetter_16 (by decide) ?_
      exact W.zret (v := 0) (ty := .boolean) hx hb hr (by decide) (fun t ht hW => ⟨0, rfl, Or.inl rfl, ht⟩) (fun q hq => by cases hq) dX9_isLetter_17
    · have bx9f_x0 : zB x0 97 122 := zB_leu (zg c9) by3f_x0 (show zB 122 122 122 from ⟨by decide, by decide⟩) (by decide)
      refine lv_iconst (v := 1) hx hb dX9_isLetter_12 (by decide) ?_
      refine lv_goto (tgt := 17) hx hb dX9_isLetter_13 (by decide) ?_
      exact W.zret (v := 1) (ty := .boolean) hx hb hr (by decide) (fun t ht hW => ⟨1, rfl, Or.inr (⟨rfl, bx9f_x0⟩), ht⟩) (fun q hq => by cases hq) dX9_isLetter_17
set_option maxHeartbeats 4000000 in
set_option maxRecDepth 100000 in
theorem c_X9_isDigit (l : Launch) (D : va_G) (cI : ClassId) (cB : ClassId) (cL : ClassId) (cZ : ClassId) (cG : ClassId) (x0 : Int32) : Met l yX9_isDigit wsX9_isDigit ({ frames := 0, cells := 0, slots := 0, locals := 0 }) (xr D [(cI, .int), (cB, .byte), (cL, .long), (cZ, .boolean), (cG, .array .int)] [] [.int x0]) (vp_Si (fun r => (r = 0) ∨ (r = 1 ∧ zB x0 48 57))) 0 0 (fun _ => False) := by
  refine Met.ofW (cc := cX9_isDigit) (maxL := 1) (ret := (some .boolean)) (by decide) rfl ?_
  intro p e s m args below meth c s₁ B hml hv
  obtain ⟨rfl, hP, hK⟩ := hv
  have hx := B.exec
  have hb := B.bytes
  have hr := B.returns
  have hts := atoms_spec (ws := wsX9_isDigit) B.pre
  have hown : s.vm.findClass RX9 = some m.cls := findClass_of_methodNamed B.named
  have hlocks := B.notSynchronized
  clear B
  have hl := lv_entry ([.int x0]) (n := 1) (Nat.le_of_ble_eq_true rfl)
  rw [lg_entry_eq]
  generalize (lg_sl ([.int x0]) ++ List.replicate (1 - (lg_sl ([.int x0])).length) Slot.unset).toArray = ls at hl ⊢
  replace hl : lv_has ls 1 [(0, .int x0)] := hl
  refine lv_iload_n hx hb dX9_isDigit_0 rfl (lv_at hl 0 rfl) ?_
  refine lv_bipush (v := 48) hx hb dX9_isDigit_1 (by decide) ?_
  refine lv_icmp_lt (tgt := 16) hx hb dX9_isDigit_3 (by decide) (fun c3 => ?_) (fun c3 => ?_)
  · have bx3t_x0 : zB x0 (-2147483648) 47 := zB_ltu (zl c3) (zB_top x0) (show zB 48 48 48 from ⟨by decide, by decide⟩) (by decide)
    refine lv_iconst (v := 0) hx hb dX9_isDigit_16 (by decide) ?_
    exact W.zret (v := 0) (ty := .boolean) hx hb hr (by decide) (fun t ht hW => ⟨0, rfl, Or.inl rfl, ht⟩) (fun q hq => by cases hq) dX9_isDigit_17
  · have by3f_x0 : zB x0 48 2147483647 := zB_lev (zg c3) (show zB 48 48 48 from ⟨by decide, by decide⟩) (zB_top x0) (by decide)
    refine lv_iload_n hx hb dX9_isDigit_6 rfl (lv_at hl 0 rfl) ?_
    refine lv_bipush (v := 57) hx hb dX9_isDigit_7 (by decide) ?_
    refine lv_icmp_gt (tgt := 16) hx hb dX9_isDigit_9 (by decide) (fun c9 => ?_) (fun c9 => ?_)
    · have by9t_x0 : zB x0 58 2147483647 := zB_ltv (zl c9) (show zB 57 57 57 from ⟨by decide, by decide⟩) by3f_x0 (by decide)
      refine lv_iconst (v := 0) hx hb dX9_isDigit_16 (by decide) ?_
      exact W.zret (v := 0) (ty := .boolean) hx hb hr (by decide) (fun t ht hW => ⟨0, rfl, Or.inl rfl, ht⟩) (fun q hq => by cases hq) dX9_isDigit_17
    · have bx9f_x0 : zB x0 48 57 := zB_leu (zg c9) by3f_x0 (show zB 57 57 57 from ⟨by decide, by decide⟩) (by decide)
      refine lv_iconst (v := 1) hx hb dX9_isDigit_12 (by decide) ?_
      refine lv_goto (tgt := 17) hx hb dX9_isDigit_13 (by decide) ?_
      exact W.zret (v := 1) (ty := .boolean) hx hb hr (by decide) (fun t ht hW => ⟨1, rfl, Or.inr (⟨rfl, bx9f_x0⟩), ht⟩) (fun q hq => by cases hq) dX9_isDigit_17
set_option maxHeartbeats 4000000 in
set_option maxRecDepth 100000 in
theorem c_X9_withLetter (l : Launch) (D : va_G) (cI : ClassId) (cB : ClassId) (cL : ClassId) (cZ : ClassId) (cG : ClassId) (x0 : Int64) (x1 : Int32) : Met l yX9_withLetter wsX9_withLetter ({ frames := 0, cells := 0, slots := 0, locals := 0 }) (xr D [(cI, .int), (cB, .byte), (cL, .long), (cZ, .boolean), (cG, .array .int)] [] [.long x0, .int x1]) (vp_Sl (fun r => True)) 0 0 (fun _ => False) := by
  refine Met.ofW (cc := cX9_withLetter) (maxL := 3) (ret := (some .long)) (by decide) rfl ?_
  intro p e s m args below meth c s₁ B hml hv
  obtain ⟨rfl, hP, hK⟩ := hv
  have hx := B.exec
  have hb := B.bytes
  have hr := B.returns
  have hts := atoms_spec (ws := wsX9_withLetter) B.pre
  have hown : s.vm.findClass RX9 = some m.cls := findClass_of_methodNamed B.named
  have hlocks := B.notSynchronized
  clear B
  have hl := lv_entry ([.long x0, .int x1]) (n := 3) (Nat.le_of_ble_eq_true rfl)
  rw [lg_entry_eq]
  generalize (lg_sl ([.long x0, .int x1]) ++ List.replicate (3 - (lg_sl ([.long x0, .int x1])).length) Slot.unset).toArray = ls at hl ⊢
  replace hl : lv_has ls 3 [(0, .long x0), (2, .int x1)] := hl
  refine lv_lload_n hx hb dX9_withLetter_0 rfl (lv_at hl 0 rfl) ?_
  refine lv_ldc2 hx hb hown (hts (.constantLong RX9 92 (32)) (List.mem_of_getElem? (i := 1) rfl)) dX9_withLetter_1 ?_
  refine lv_lmul hx hb dX9_withLetter_4 ?_
  refine lv_topl (fun y4 _ => ?_)
  refine lv_iload_n hx hb dX9_withLetter_5 rfl (lv_at hl 1 rfl) ?_
  refine lv_bipush (v := 97) hx hb dX9_withLetter_6 (by decide) ?_
  refine lv_isub hx hb dX9_withLetter_8 ?_
  refine lv_topi (fun y8 _ => ?_)
  refine lv_iconst (v := 1) hx hb dX9_withLetter_9 (by decide) ?_
  refine lv_iadd hx hb dX9_withLetter_10 ?_
  refine lv_topi (fun y10 _ => ?_)
  refine lv_i2l hx hb dX9_withLetter_11 rfl ?_
  refine lv_topl (fun y11 _ => ?_)
  refine lv_ladd hx hb dX9_withLetter_12 ?_
  refine lv_topl (fun y12 _ => ?_)
  exact W.lret (v := y12) hx hb hr (fun t ht hW => ⟨y12, rfl, trivial, ht⟩) (fun q hq => by cases hq) dX9_withLetter_13
set_option maxHeartbeats 4000000 in
set_option maxRecDepth 100000 in
theorem c_X9_numberOfOwn (l : Launch) (D : va_G) (cI : ClassId) (cB : ClassId) (cL : ClassId) (cZ : ClassId) (cG : ClassId) (TO : Nat) (TA : Nat) (aTO : Nat → Nat) (TO_kind : Int32) (TO_place : Int32) (TO_behind : Int32) (TO_word : Int64) (TO_value : Int32) (TO_own : Nat → Int64) (b_TO_behind : zB TO_behind 0 1600) : Met l yX9_numberOfOwn wsX9_numberOfOwn ({ frames := 0, cells := 0, slots := 0, locals := 0 }) (xr D [(cI, .int), (cB, .byte), (cL, .long), (cZ, .boolean), (cG, .array .int)] [(TO, .inr (9, oX9 TA aTO TO_kind TO_place TO_behind TO_word TO_value)), ((aTO 1), .inl (cL, 17, .inr (.inl TO_own)))] [.ref TO]) (vp_Si (fun r => zB r (-1) 16)) 0 0 (fun _ => False) := by
  refine Met.ofW (cc := cX9_numberOfOwn) (maxL := 2) (ret := (some .int)) (by decide) rfl ?_
  intro p e s m args below meth c s₁ B hml hv
  obtain ⟨rfl, hP, hK⟩ := hv
  have hx := B.exec
  have hb := B.bytes
  have hr := B.returns
  have hts := atoms_spec (ws := wsX9_numberOfOwn) B.pre
  have hown : s.vm.findClass RX9 = some m.cls := findClass_of_methodNamed B.named
  have hlocks := B.notSynchronized
  clear B
  have hl := lv_entry ([.ref TO]) (n := 2) (Nat.le_of_ble_eq_true rfl)
  rw [lg_entry_eq]
  generalize (lg_sl ([.ref TO]) ++ List.replicate (2 - (lg_sl ([.ref TO])).length) Slot.unset).toArray = ls at hl ⊢
  replace hl : lv_has ls 2 [(0, .ref TO)] := hl
  refine zz_abs (R := ({ frames := 0, cells := 0, slots := 0, locals := 0 } : Room)) (fun Q up => ?_)
  refine lv_iconst (v := 0) hx hb dX9_numberOfOwn_0 (by decide) ?_
  have j2 : ∀ (n2 : Nat) (ls : Array Slot) (v2_1 : Int32), zB v2_1 0 17 → (17 + 1 - v2_1.toInt) ≤ (n2 : Int) → lv_has ls 2 [(1, .int v2_1), (0, .ref TO)] → W p l e ({ frames := 0, cells := 0, slots := 0, locals := 0 } : Room) s m ([.ref TO] : List Value).toArray below meth c s.heap [] 0 0 Q (F0 m 2 ls []) := by
    intro n2
    induction n2 with
    | zero => intro ls v2_1 bv2_1_k2 hm2 hl; exact zM_u0 bv2_1_k2 hm2
    | succ n2 ih2 =>
      intro ls v2_1 bv2_1_k2 hm2 hl
      refine lv_iload_n hx hb dX9_numberOfOwn_2 rfl (lv_at hl 0 rfl) ?_
      refine lv_bipush (v := 17) hx hb dX9_numberOfOwn_3 (by decide) ?_
      refine lv_icmp_ge (tgt := 30) hx hb dX9_numberOfOwn_5 (by decide) (fun c5 => ?_) (fun c5 => ?_)
      · have by5t_v2_1 : zB v2_1 17 17 := zB_lev (ze c5) (show zB 17 17 17 from ⟨by decide, by decide⟩) bv2_1_k2 (by decide)
        refine lv_iconst (v := (-1)) hx hb dX9_numberOfOwn_30 (by decide) ?_
        exact up _ _ _ (W.iret (v := (-1)) hx hb hr (fun t ht hW => ⟨(-1), rfl, (zB_w (show zB (-1) (-1) (-1) from ⟨by decide, by decide⟩) (by decide) (by decide)), ht⟩) (fun q hq => by cases hq) dX9_numberOfOwn_31)
      · have bx5f_v2_1 : zB v2_1 0 16 := zB_ltu (zf c5) bv2_1_k2 (show zB 17 17 17 from ⟨by decide, by decide⟩) (by decide)
        refine lv_aload_n hx hb dX9_numberOfOwn_8 rfl (lv_at hl 1 rfl) ?_
        refine va_get (D := D) (ci := 9) (v := .ref (aTO 1)) (C := RX9) (T := TX9) (N := 7) hx hb hts iw_X9_numberOfOwn_X9 hown hK hP 0 rfl rfl 1 (by decide) (hts (.fieldLink RX9 11 "SoldHouse$Tokens" "own" "[J") (List.mem_of_getElem? (i := 1) rfl)) (fun _ h9 => h9) rfl dX9_numberOfOwn_9 ?_
        refine lv_iload_n hx hb dX9_numberOfOwn_12 rfl (lv_at hl 0 rfl) ?_
        refine va_lald hx hb hK hP 1 2 rfl rfl (zB_in bx5f_v2_1 (by decide) (by decide)) dX9_numberOfOwn_13 ?_
        refine lv_topl (fun y13 _ => ?_)
        refine lv_aload_n hx hb dX9_numberOfOwn_14 rfl (lv_at hl 1 rfl) ?_
        refine va_get (D := D) (ci := 9) (v := .long TO_word) (C := RX9) (T := TX9) (N := 7) hx hb hts iw_X9_numberOfOwn_X9 hown hK hP 0 rfl rfl 5 (by decide) (hts (.fieldLink RX9 79 "SoldHouse$Tokens" "word" "J") (List.mem_of_getElem? (i := 2) rfl)) (fun _ h9 => h9) rfl dX9_numberOfOwn_15 ?_
        refine W.lcmp hx hb dX9_numberOfOwn_18 ?_
        refine lv_topi (fun y18 _ => ?_)
        refine lv_if_ne (tgt := 24) hx hb dX9_numberOfOwn_19 (by decide) (fun c19 => ?_) (fun c19 => ?_)
        · obtain ⟨y24, by24, ry24, ey24⟩ := zi_inc (x := v2_1) (k := 1) (a := 1) (b := 17) bx5f_v2_1 (by decide) (by decide) (by decide) (by decide) (by decide)
          refine lv_iinc (v := y24) (lv' := [(1, .int y24), (0, .ref TO)]) hx hb dX9_numberOfOwn_24 hl (k := 0) rfl ey24 (by decide) rfl (fun ls hl => ?_)
          refine lv_goto (tgt := 2) hx hb dX9_numberOfOwn_27 (by decide) ?_
          exact ih2 ls y24 (zB_w by24 (by decide) (by decide)) (zM_us (k := 1) hm2 ry24 (by decide)) (lv_sub hl [0, 1] rfl)
        · have be19f_y18 : zB y18 0 0 := zB_eq c19 (zB_top y18) (show zB 0 0 0 from ⟨by decide, by decide⟩) (by decide) (by decide)
          refine lv_iload_n hx hb dX9_numberOfOwn_22 rfl (lv_at hl 0 rfl) ?_
          exact up _ _ _ (W.iret (v := v2_1) hx hb hr (fun t ht hW => ⟨v2_1, rfl, (zB_w bx5f_v2_1 (by decide) (by decide)), ht⟩) (fun q hq => by cases hq) dX9_numberOfOwn_23)
  refine lv_istore_n (lv' := [(1, .int 0), (0, .ref TO)]) hx hb dX9_numberOfOwn_1 rfl hl (by decide) rfl (fun ls hl => ?_)
  exact j2 18 ls 0 (zB_w (show zB 0 0 0 from ⟨by decide, by decide⟩) (by decide) (by decide)) (zM_ui (show zB 0 0 0 from ⟨by decide, by decide⟩) (by decide)) (lv_sub hl [0, 1] rfl)
set_option maxHeartbeats 4000000 in
set_option maxRecDepth 100000 in
theorem c_X9_isName (l : Launch) (D : va_G) (cI : ClassId) (cB : ClassId) (cL : ClassId) (cZ : ClassId) (cG : ClassId) (TO : Nat) (TA : Nat) (aTO : Nat → Nat) (TO_kind : Int32) (TO_place : Int32) (TO_behind : Int32) (TO_word : Int64) (TO_value : Int32) (b_TO_behind : zB TO_behind 0 1600) : Met l yX9_isName wsX9_isName ({ frames := 0, cells := 0, slots := 0, locals := 0 }) (xr D [(cI, .int), (cB, .byte), (cL, .long), (cZ, .boolean), (cG, .array .int)] [(TO, .inr (9, oX9 TA aTO TO_kind TO_place TO_behind TO_word TO_value))] [.ref TO]) (vp_Si (fun r => zB r 0 1)) 0 0 (fun _ => False) := by
  refine Met.ofW (cc := cX9_isName) (maxL := 1) (ret := (some .boolean)) (by decide) rfl ?_
  intro p e s m args below meth c s₁ B hml hv
  obtain ⟨rfl, hP, hK⟩ := hv
  have hx := B.exec
  have hb := B.bytes
  have hr := B.returns
  have hts := atoms_spec (ws := wsX9_isName) B.pre
  have hown : s.vm.findClass RX9 = some m.cls := findClass_of_methodNamed B.named
  have hlocks := B.notSynchronized
  clear B
  have hl := lv_entry ([.ref TO]) (n := 1) (Nat.le_of_ble_eq_true rfl)
  rw [lg_entry_eq]
  generalize (lg_sl ([.ref TO]) ++ List.replicate (1 - (lg_sl ([.ref TO])).length) Slot.unset).toArray = ls at hl ⊢
  replace hl : lv_has ls 1 [(0, .ref TO)] := hl
  refine lv_aload_n hx hb dX9_isName_0 rfl (lv_at hl 0 rfl) ?_
  refine va_get (D := D) (ci := 9) (v := .int TO_kind) (C := RX9) (T := TX9) (N := 7) hx hb hts iw_X9_isName_X9 hown hK hP 0 rfl rfl 2 (by decide) (hts (.fieldLink RX9 58 "SoldHouse$Tokens" "kind" "I") (List.mem_of_getElem? (i := 1) rfl)) (fun _ h9 => h9) rfl dX9_isName_1 ?_
  refine lv_iconst (v := 1) hx hb dX9_isName_4 (by decide) ?_
  refine lv_icmp_ne (tgt := 20) hx hb dX9_isName_5 (by decide) (fun c5 => ?_) (fun c5 => ?_)
  · refine lv_iconst (v := 0) hx hb dX9_isName_20 (by decide) ?_
    exact W.zret (v := 0) (ty := .boolean) hx hb hr (by decide) (fun t ht hW => ⟨0, rfl, (zB_w (show zB 0 0 0 from ⟨by decide, by decide⟩) (by decide) (by decide)), ht⟩) (fun q hq => by cases hq) dX9_isName_21
  · have be5f_TO_kind : zB TO_kind 1 1 := zB_eq c5 (zB_top TO_kind) (show zB 1 1 1 from ⟨by decide, by decide⟩) (by decide) (by decide)
    refine lv_aload_n hx hb dX9_isName_8 rfl (lv_at hl 0 rfl) ?_
    refine va_get (D := D) (ci := 9) (v := .int TO_value) (C := RX9) (T := TX9) (N := 7) hx hb hts iw_X9_isName_X9 hown hK hP 0 rfl rfl 6 (by decide) (hts (.fieldLink RX9 76 "SoldHouse$Tokens" "value" "I") (List.mem_of_getElem? (i := 2) rfl)) (fun _ h9 => h9) rfl dX9_isName_9 ?_
    refine lv_iconst (v := (-1)) hx hb dX9_isName_12 (by decide) ?_
    refine lv_icmp_ne (tgt := 20) hx hb dX9_isName_13 (by decide) (fun c13 => ?_) (fun c13 => ?_)
    · refine lv_iconst (v := 0) hx hb dX9_isName_20 (by decide) ?_
      exact W.zret (v := 0) (ty := .boolean) hx hb hr (by decide) (fun t ht hW => ⟨0, rfl, (zB_w (show zB 0 0 0 from ⟨by decide, by decide⟩) (by decide) (by decide)), ht⟩) (fun q hq => by cases hq) dX9_isName_21
    · have be13f_TO_value : zB TO_value (-1) (-1) := zB_eq c13 (zB_top TO_value) (show zB (-1) (-1) (-1) from ⟨by decide, by decide⟩) (by decide) (by decide)
      refine lv_iconst (v := 1) hx hb dX9_isName_16 (by decide) ?_
      refine lv_goto (tgt := 21) hx hb dX9_isName_17 (by decide) ?_
      exact W.zret (v := 1) (ty := .boolean) hx hb hr (by decide) (fun t ht hW => ⟨1, rfl, (zB_w (show zB 1 1 1 from ⟨by decide, by decide⟩) (by decide) (by decide)), ht⟩) (fun q hq => by cases hq) dX9_isName_21
set_option maxHeartbeats 4000000 in
set_option maxRecDepth 100000 in
theorem c_X9_isOwn (l : Launch) (D : va_G) (cI : ClassId) (cB : ClassId) (cL : ClassId) (cZ : ClassId) (cG : ClassId) (TO : Nat) (x0 : Int32) (TA : Nat) (aTO : Nat → Nat) (TO_kind : Int32) (TO_place : Int32) (TO_behind : Int32) (TO_word : Int64) (TO_value : Int32) (b_TO_behind : zB TO_behind 0 1600) : Met l yX9_isOwn wsX9_isOwn ({ frames := 0, cells := 0, slots := 0, locals := 0 }) (xr D [(cI, .int), (cB, .byte), (cL, .long), (cZ, .boolean), (cG, .array .int)] [(TO, .inr (9, oX9 TA aTO TO_kind TO_place TO_behind TO_word TO_value))] [.ref TO, .int x0]) (vp_Si (fun r => zB r 0 1)) 0 0 (fun _ => False) := by
  refine Met.ofW (cc := cX9_isOwn) (maxL := 2) (ret := (some .boolean)) (by decide) rfl ?_
  intro p e s m args below meth c s₁ B hml hv
  obtain ⟨rfl, hP, hK⟩ := hv
  have hx := B.exec
  have hb := B.bytes
  have hr := B.returns
  have hts := atoms_spec (ws := wsX9_isOwn) B.pre
  have hown : s.vm.findClass RX9 = some m.cls := findClass_of_methodNamed B.named
  have hlocks := B.notSynchronized
  clear B
  have hl := lv_entry ([.ref TO, .int x0]) (n := 2) (Nat.le_of_ble_eq_true rfl)
  rw [lg_entry_eq]
  generalize (lg_sl ([.ref TO, .int x0]) ++ List.replicate (2 - (lg_sl ([.ref TO, .int x0])).length) Slot.unset).toArray = ls at hl ⊢
  replace hl : lv_has ls 2 [(0, .ref TO), (1, .int x0)] := hl
  refine lv_aload_n hx hb dX9_isOwn_0 rfl (lv_at hl 0 rfl) ?_
  refine va_get (D := D) (ci := 9) (v := .int TO_kind) (C := RX9) (T := TX9) (N := 7) hx hb hts iw_X9_isOwn_X9 hown hK hP 0 rfl rfl 2 (by decide) (hts (.fieldLink RX9 58 "SoldHouse$Tokens" "kind" "I") (List.mem_of_getElem? (i := 1) rfl)) (fun _ h9 => h9) rfl dX9_isOwn_1 ?_
  refine lv_iconst (v := 1) hx hb dX9_isOwn_4 (by decide) ?_
  refine lv_icmp_ne (tgt := 20) hx hb dX9_isOwn_5 (by decide) (fun c5 => ?_) (fun c5 => ?_)
  · refine lv_iconst (v := 0) hx hb dX9_isOwn_20 (by decide) ?_
    exact W.zret (v := 0) (ty := .boolean) hx hb hr (by decide) (fun t ht hW => ⟨0, rfl, (zB_w (show zB 0 0 0 from ⟨by decide, by decide⟩) (by decide) (by decide)), ht⟩) (fun q hq => by cases hq) dX9_isOwn_21
  · have be5f_TO_kind : zB TO_kind 1 1 := zB_eq c5 (zB_top TO_kind) (show zB 1 1 1 from ⟨by decide, by decide⟩) (by decide) (by decide)
    refine lv_aload_n hx hb dX9_isOwn_8 rfl (lv_at hl 0 rfl) ?_
    refine va_get (D := D) (ci := 9) (v := .int TO_value) (C := RX9) (T := TX9) (N := 7) hx hb hts iw_X9_isOwn_X9 hown hK hP 0 rfl rfl 6 (by decide) (hts (.fieldLink RX9 76 "SoldHouse$Tokens" "value" "I") (List.mem_of_getElem? (i := 2) rfl)) (fun _ h9 => h9) rfl dX9_isOwn_9 ?_
    refine lv_iload_n hx hb dX9_isOwn_12 rfl (lv_at hl 1 rfl) ?_
    refine lv_icmp_ne (tgt := 20) hx hb dX9_isOwn_13 (by decide) (fun c13 => ?_) (fun c13 => ?_)
    · refine lv_iconst (v := 0) hx hb dX9_isOwn_20 (by decide) ?_
      exact W.zret (v := 0) (ty := .boolean) hx hb hr (by decide) (fun t ht hW => ⟨0, rfl, (zB_w (show zB 0 0 0 from ⟨by decide, by decide⟩) (by decide) (by decide)), ht⟩) (fun q hq => by cases hq) dX9_isOwn_21
    · refine lv_iconst (v := 1) hx hb dX9_isOwn_16 (by decide) ?_
      refine lv_goto (tgt := 21) hx hb dX9_isOwn_17 (by decide) ?_
      exact W.zret (v := 1) (ty := .boolean) hx hb hr (by decide) (fun t ht hW => ⟨1, rfl, (zB_w (show zB 1 1 1 from ⟨by decide, by decide⟩) (by decide) (by decide)), ht⟩) (fun q hq => by cases hq) dX9_isOwn_21
set_option maxHeartbeats 4000000 in
set_option maxRecDepth 100000 in
theorem c_X9_isSign (l : Launch) (D : va_G) (cI : ClassId) (cB : ClassId) (cL : ClassId) (cZ : ClassId) (cG : ClassId) (TO : Nat) (x0 : Int32) (TA : Nat) (aTO : Nat → Nat) (TO_kind : Int32) (TO_place : Int32) (TO_behind : Int32) (TO_word : Int64) (TO_value : Int32) (b_TO_behind : zB TO_behind 0 1600) : Met l yX9_isSign wsX9_isSign ({ frames := 0, cells := 0, slots := 0, locals := 0 }) (xr D [(cI, .int), (cB, .byte), (cL, .long), (cZ, .boolean), (cG, .array .int)] [(TO, .inr (9, oX9 TA aTO TO_kind TO_place TO_behind TO_word TO_value))] [.ref TO, .int x0]) (vp_Si (fun r => zB r 0 1)) 0 0 (fun _ => False) := by
  refine Met.ofW (cc := cX9_isSign) (maxL := 2) (ret := (some .boolean)) (by decide) rfl ?_
  intro p e s m args below meth c s₁ B hml hv
  obtain ⟨rfl, hP, hK⟩ := hv
  have hx := B.exec
  have hb := B.bytes
  have hr := B.returns
  have hts := atoms_spec (ws := wsX9_isSign) B.pre
  have hown : s.vm.findClass RX9 = some m.cls := findClass_of_methodNamed B.named
  have hlocks := B.notSynchronized
  clear B
  have hl := lv_entry ([.ref TO, .int x0]) (n := 2) (Nat.le_of_ble_eq_true rfl)
  rw [lg_entry_eq]
  generalize (lg_sl ([.ref TO, .int x0]) ++ List.replicate (2 - (lg_sl ([.ref TO, .int x0])).length) Slot.unset).toArray = ls at hl ⊢
  replace hl : lv_has ls 2 [(0, .ref TO), (1, .int x0)] := hl
  refine lv_aload_n hx hb dX9_isSign_0 rfl (lv_at hl 0 rfl) ?_
  refine va_get (D := D) (ci := 9) (v := .int TO_kind) (C := RX9) (T := TX9) (N := 7) hx hb hts iw_X9_isSign_X9 hown hK hP 0 rfl rfl 2 (by decide) (hts (.fieldLink RX9 58 "SoldHouse$Tokens" "kind" "I") (List.mem_of_getElem? (i := 1) rfl)) (fun _ h9 => h9) rfl dX9_isSign_1 ?_
  refine lv_iconst (v := 3) hx hb dX9_isSign_4 (by decide) ?_
  refine lv_icmp_ne (tgt := 20) hx hb dX9_isSign_5 (by decide) (fun c5 => ?_) (fun c5 => ?_)
  · refine lv_iconst (v := 0) hx hb dX9_isSign_20 (by decide) ?_
    exact W.zret (v := 0) (ty := .boolean) hx hb hr (by decide) (fun t ht hW => ⟨0, rfl, (zB_w (show zB 0 0 0 from ⟨by decide, by decide⟩) (by decide) (by decide)), ht⟩) (fun q hq => by cases hq) dX9_isSign_21
  · have be5f_TO_kind : zB TO_kind 3 3 := zB_eq c5 (zB_top TO_kind) (show zB 3 3 3 from ⟨by decide, by decide⟩) (by decide) (by decide)
    refine lv_aload_n hx hb dX9_isSign_8 rfl (lv_at hl 0 rfl) ?_
    refine va_get (D := D) (ci := 9) (v := .int TO_value) (C := RX9) (T := TX9) (N := 7) hx hb hts iw_X9_isSign_X9 hown hK hP 0 rfl rfl 6 (by decide) (hts (.fieldLink RX9 76 "SoldHouse$Tokens" "value" "I") (List.mem_of_getElem? (i := 2) rfl)) (fun _ h9 => h9) rfl dX9_isSign_9 ?_
    refine lv_iload_n hx hb dX9_isSign_12 rfl (lv_at hl 1 rfl) ?_
    refine lv_icmp_ne (tgt := 20) hx hb dX9_isSign_13 (by decide) (fun c13 => ?_) (fun c13 => ?_)
    · refine lv_iconst (v := 0) hx hb dX9_isSign_20 (by decide) ?_
      exact W.zret (v := 0) (ty := .boolean) hx hb hr (by decide) (fun t ht hW => ⟨0, rfl, (zB_w (show zB 0 0 0 from ⟨by decide, by decide⟩) (by decide) (by decide)), ht⟩) (fun q hq => by cases hq) dX9_isSign_21
    · refine lv_iconst (v := 1) hx hb dX9_isSign_16 (by decide) ?_
      refine lv_goto (tgt := 21) hx hb dX9_isSign_17 (by decide) ?_
      exact W.zret (v := 1) (ty := .boolean) hx hb hr (by decide) (fun t ht hW => ⟨1, rfl, (zB_w (show zB 1 1 1 from ⟨by decide, by decide⟩) (by decide) (by decide)), ht⟩) (fun q hq => by cases hq) dX9_isSign_21
set_option maxHeartbeats 4000000 in
set_option maxRecDepth 100000 in
theorem c_X9_readWord (l : Launch) (D : va_G) (cI : ClassId) (cB : ClassId) (cL : ClassId) (cZ : ClassId) (cG : ClassId) (TO : Nat) (TA : Nat) (aTO : Nat → Nat) (TO_kind : Int32) (TO_place : Int32) (TO_behind : Int32) (TO_word : Int64) (TO_value : Int32) (aTA : Nat → Nat) (TA_size : Int32) (TA_bytes : Nat → Int32) (TO_own : Nat → Int64) (sz : Nat) (b_TO_behind : zB TO_behind 0 1600) (b_TA_size : zB TA_size 0 1600) : Met l yX9_readWord wsX9_readWord ({ frames := 1, cells := 0, slots := 0, locals := 22 }) (xp D [(cI, .int), (cB, .byte), (cL, .long), (cZ, .boolean), (cG, .array .int)] [(TO, .inr (9, oX9 TA aTO TO_kind TO_place TO_behind TO_word TO_value)), (TA, .inr (8, oX8 aTA TA_size)), ((aTA 0), .inl (cB, 1600, .inl TA_bytes)), ((aTO 1), .inl (cL, 17, .inr (.inl TO_own)))] sz [] [.ref TO]) (va_Qv (fun _ : Unit => True) (fun (_ : Unit) (t : State) => ∃ (nTO_kind : Int32), ∃ (nTO_behind : Int32), ∃ (nTO_word : Int64), ∃ (nTO_value : Int32), zB nTO_kind 1 4 ∧ zB nTO_behind 0 1600 ∧ zB nTO_value (-1) 16 ∧ xB D (va_A [(TO, .inr (9, oX9 TA aTO TO_kind TO_place TO_behind TO_word TO_value)), (TA, .inr (8, oX8 aTA TA_size)), ((aTA 0), .inl (cB, 1600, .inl TA_bytes)), ((aTO 1), .inl (cL, 17, .inr (.inl TO_own)))] sz) [(TO, .inr (9, oX9 TA aTO nTO_kind TO_place nTO_behind nTO_word nTO_value)), (TA, .inr (8, oX8 aTA TA_size)), ((aTA 0), .inl (cB, 1600, .inl TA_bytes)), ((aTO 1), .inl (cL, 17, .inr (.inl TO_own)))] t) (va_A [(TO, .inr (9, oX9 TA aTO TO_kind TO_place TO_behind TO_word TO_value)), (TA, .inr (8, oX8 aTA TA_size)), ((aTA 0), .inl (cB, 1600, .inl TA_bytes)), ((aTO 1), .inl (cL, 17, .inr (.inl TO_own)))] sz)) 0 0 (va_A [(TO, .inr (9, oX9 TA aTO TO_kind TO_place TO_behind TO_word TO_value)), (TA, .inr (8, oX8 aTA TA_size)), ((aTA 0), .inl (cB, 1600, .inl TA_bytes)), ((aTO 1), .inl (cL, 17, .inr (.inl TO_own)))] sz) := by
  refine Met.ofW (cc := cX9_readWord) (maxL := 1) (ret := none) (by decide) rfl ?_
  intro p e s m args below meth c s₁ B hml hv
  obtain ⟨rfl, hsz, hP, hK, hD0, hNw⟩ := hv
  have hx := B.exec
  have hb := B.bytes
  have hr := B.returns
  have hts := atoms_spec (ws := wsX9_readWord) B.pre
  have hown : s.vm.findClass RX9 = some m.cls := findClass_of_methodNamed B.named
  have hlocks := B.notSynchronized
  clear B
  subst hsz
  have hD := hD0.self (sz := s.heap.size)
  clear hD0 hNw
  generalize hAe : va_A [(TO, .inr (9, oX9 TA aTO TO_kind TO_place TO_behind TO_word TO_value)), (TA, .inr (8, oX8 aTA TA_size)), ((aTA 0), .inl (cB, 1600, .inl TA_bytes)), ((aTO 1), .inl (cL, 17, .inr (.inl TO_own)))] s.heap.size = A at hD ⊢
  have hA : ∀ q : Nat, s.heap.size ≤ q → A q := fun q h => by rw [← hAe]; exact Or.inr h
  have hS : va_S A s.heap s.heap [] := va_S.rf
  clear hAe
  obtain ⟨H, hH⟩ : ∃ H : Heap, H = s.heap := ⟨_, rfl⟩
  obtain ⟨locs, hlocs⟩ : ∃ L : List Loc, L = [] := ⟨_, rfl⟩
  replace hP : va_P D classes [(TO, .inr (9, oX9 TA aTO TO_kind TO_place TO_behind TO_word TO_value)), (TA, .inr (8, oX8 aTA TA_size)), ((aTA 0), .inl (cB, 1600, .inl TA_bytes)), ((aTO 1), .inl (cL, 17, .inr (.inl TO_own)))] H := by rw [hH]; exact hP
  replace hS : va_S A s.heap H locs := by rw [hH, hlocs]; exact hS
  rw [← hH, ← hlocs]
  clear hlocs hH
  have hl := lv_entry ([.ref TO]) (n := 1) (Nat.le_of_ble_eq_true rfl)
  rw [lg_entry_eq]
  generalize (lg_sl ([.ref TO]) ++ List.replicate (1 - (lg_sl ([.ref TO])).length) Slot.unset).toArray = ls at hl ⊢
  replace hl : lv_has ls 1 [(0, .ref TO)] := hl
  refine zz_abs (R := ({ frames := 1, cells := 0, slots := 0, locals := 22 } : Room)) (fun Q up => ?_)
  refine lv_aload_n hx hb dX9_readWord_0 rfl (lv_at hl 0 rfl) ?_
  refine lv_lconst (v := 0) hx hb dX9_readWord_1 (by decide) ?_
  have j5 : ∀ (n5 : Nat) (H : Heap) (locs : List Loc) (ls : Array Slot) (w5_TO_4 : Int32) (w5_TO_5 : Int64), zB w5_TO_4 0 1600 → (1600 + 1 - w5_TO_4.toInt) ≤ (n5 : Int) → va_P D classes [(TO, .inr (9, oX9 TA aTO TO_kind TO_place w5_TO_4 w5_TO_5 TO_value)), (TA, .inr (8, oX8 aTA TA_size)), ((aTA 0), .inl (cB, 1600, .inl TA_bytes)), ((aTO 1), .inl (cL, 17, .inr (.inl TO_own)))] H → va_D A [(TO, .inr (9, oX9 TA aTO TO_kind TO_place w5_TO_4 w5_TO_5 TO_value)), (TA, .inr (8, oX8 aTA TA_size)), ((aTA 0), .inl (cB, 1600, .inl TA_bytes)), ((aTO 1), .inl (cL, 17, .inr (.inl TO_own)))] → va_S A s.heap H locs → lv_has ls 1 [(0, .ref TO)] → W p l e ({ frames := 1, cells := 0, slots := 0, locals := 22 } : Room) s m ([.ref TO] : List Value).toArray below meth c H locs 0 0 Q (F0 m 5 ls []) := by
    intro n5
    induction n5 with
    | zero => intro H locs ls w5_TO_4 w5_TO_5 bw5_TO_4_k5 hm5 hP hD hS hl; exact zM_u0 bw5_TO_4_k5 hm5
    | succ n5 ih5 =>
      intro H locs ls w5_TO_4 w5_TO_5 bw5_TO_4_k5 hm5 hP hD hS hl
      refine lv_aload_n hx hb dX9_readWord_5 rfl (lv_at hl 0 rfl) ?_
      refine va_get (D := D) (ci := 9) (v := .int w5_TO_4) (C := RX9) (T := TX9) (N := 7) hx hb hts iw_X9_readWord_X9 hown hK hP 0 rfl rfl 4 (by decide) (hts (.fieldLink RX9 35 "SoldHouse$Tokens" "behind" "I") (List.mem_of_getElem? (i := 2) rfl)) (fun _ h9 => h9) rfl dX9_readWord_6 ?_
      refine lv_aload_n hx hb dX9_readWord_9 rfl (lv_at hl 0 rfl) ?_
      refine va_get (D := D) (ci := 9) (v := .ref TA) (C := RX9) (T := TX9) (N := 7) hx hb hts iw_X9_readWord_X9 hown hK hP 0 rfl rfl 0 (by decide) (hts (.fieldLink RX9 15 "SoldHouse$Tokens" "tape" "LSoldHouse$Tape;") (List.mem_of_getElem? (i := 3) rfl)) (fun _ h9 => h9) rfl dX9_readWord_10 ?_
      refine va_get (D := D) (ci := 8) (v := .int TA_size) (C := RX8) (T := TX8) (N := 2) hx hb hts iw_X9_readWord_X8 hown hK hP 1 rfl rfl 1 (by decide) (hts (.fieldLink RX9 42 "SoldHouse$Tape" "size" "I") (List.mem_of_getElem? (i := 4) rfl)) (fun _ h9 => h9) rfl dX9_readWord_13 ?_
      have j73 : ∀ (H : Heap) (locs : List Loc) (ls : Array Slot), va_P D classes [(TO, .inr (9, oX9 TA aTO TO_kind TO_place w5_TO_4 w5_TO_5 TO_value)), (TA, .inr (8, oX8 aTA TA_size)), ((aTA 0), .inl (cB, 1600, .inl TA_bytes)), ((aTO 1), .inl (cL, 17, .inr (.inl TO_own)))] H → va_D A [(TO, .inr (9, oX9 TA aTO TO_kind TO_place w5_TO_4 w5_TO_5 TO_value)), (TA, .inr (8, oX8 aTA TA_size)), ((aTA 0), .inl (cB, 1600, .inl TA_bytes)), ((aTO 1), .inl (cL, 17, .inr (.inl TO_own)))] → va_S A s.heap H locs → lv_has ls 1 [(0, .ref TO)] → W p l e ({ frames := 1, cells := 0, slots := 0, locals := 22 } : Room) s m ([.ref TO] : List Value).toArray below meth c H locs 0 0 Q (F0 m 73 ls []) := by
        intro H locs ls hP hD hS hl
        refine lv_aload_n hx hb dX9_readWord_73 rfl (lv_at hl 0 rfl) ?_
        refine lv_aload_n hx hb dX9_readWord_74 rfl (lv_at hl 0 rfl) ?_
        refine va_get (D := D) (ci := 9) (v := .int w5_TO_4) (C := RX9) (T := TX9) (N := 7) hx hb hts iw_X9_readWord_X9 hown hK hP 0 rfl rfl 4 (by decide) (hts (.fieldLink RX9 35 "SoldHouse$Tokens" "behind" "I") (List.mem_of_getElem? (i := 2) rfl)) (fun _ h9 => h9) rfl dX9_readWord_75 ?_
        refine lv_aload_n hx hb dX9_readWord_78 rfl (lv_at hl 0 rfl) ?_
        refine va_get (D := D) (ci := 9) (v := .int TO_place) (C := RX9) (T := TX9) (N := 7) hx hb hts iw_X9_readWord_X9 hown hK hP 0 rfl rfl 3 (by decide) (hts (.fieldLink RX9 55 "SoldHouse$Tokens" "place" "I") (List.mem_of_getElem? (i := 6) rfl)) (fun _ h9 => h9) rfl dX9_readWord_79 ?_
        refine lv_isub hx hb dX9_readWord_82 ?_
        refine lv_topi (fun y82 _ => ?_)
        refine lv_bipush (v := 8) hx hb dX9_readWord_83 (by decide) ?_
        refine lv_icmp_gt (tgt := 92) hx hb dX9_readWord_85 (by decide) (fun c85 => ?_) (fun c85 => ?_)
        · have by85t_y82 : zB y82 9 2147483647 := zB_ltv (zl c85) (show zB 8 8 8 from ⟨by decide, by decide⟩) (zB_top y82) (by decide)
          refine lv_iconst (v := 4) hx hb dX9_readWord_92 (by decide) ?_
          refine va_put (D := D) (ci := 9) (v := .int 4) (ty := tyX9 2) (C := RX9) (T := TX9) (N := 7) hx hb hts iw_X9_readWord_X9 tyX9 tyX9_ok nmX9 hown hK hP hD hS 0 rfl rfl 2 (by decide) (hts (.fieldLink RX9 58 "SoldHouse$Tokens" "kind" "I") (List.mem_of_getElem? (i := 7) rfl)) (fun _ h9 => h9) rfl (by decide +kernel) rfl rfl (Nat.le_of_ble_eq_true rfl) dX9_readWord_93 (fun H locs hP hD hS => ?_)
          replace hP : va_P D classes [(TO, .inr (9, oX9 TA aTO 4 TO_place w5_TO_4 w5_TO_5 TO_value)), (TA, .inr (8, oX8 aTA TA_size)), ((aTA 0), .inl (cB, 1600, .inl TA_bytes)), ((aTO 1), .inl (cL, 17, .inr (.inl TO_own)))] H := hP
          replace hD : va_D A [(TO, .inr (9, oX9 TA aTO 4 TO_place w5_TO_4 w5_TO_5 TO_value)), (TA, .inr (8, oX8 aTA TA_size)), ((aTA 0), .inl (cB, 1600, .inl TA_bytes)), ((aTO 1), .inl (cL, 17, .inr (.inl TO_own)))] := hD
          refine lv_aload_n hx hb dX9_readWord_96 rfl (lv_at hl 0 rfl) ?_
          refine lv_aload_n hx hb dX9_readWord_97 rfl (lv_at hl 0 rfl) ?_
          have hPc := hP.sub (ws' := [(TO, .inr (9, oX9 TA aTO 4 TO_place w5_TO_4 w5_TO_5 TO_value)), ((aTO 1), .inl (cL, 17, .inr (.inl TO_own)))]) [0, 3] rfl
          refine vp_callSi (va_runV (As := []) (rest := [.ref TO]) ⟨hx, hb, hml, hown, hts⟩ (c_X9_numberOfOwn l D cI cB cL cZ cG TO TA aTO 4 TO_place w5_TO_4 w5_TO_5 TO_value TO_own bw5_TO_4_k5) (cwV 0 hts gX9_readWord_X9_numberOfOwn rfl rfl rfl (by decide +kernel) ⟨Nat.le_of_ble_eq_true rfl, Nat.le_of_ble_eq_true rfl⟩) ⟨xr_blind, va_recv hK hP (ci := 9) (q0 := 0) rfl rfl, fun U hU hW => xr_mk hU hW hPc hK⟩ rfl rfl hl.1 rfl (lv_room (Nat.le_of_ble_eq_true rfl)) dX9_readWord_98 ⟨Nat.le_of_ble_eq_true rfl, Nat.le_of_ble_eq_true rfl⟩).run (fun r98 hr98 => ?_)
          clear hPc
          refine va_put (D := D) (ci := 9) (v := .int r98) (ty := tyX9 6) (C := RX9) (T := TX9) (N := 7) hx hb hts iw_X9_readWord_X9 tyX9 tyX9_ok nmX9 hown hK hP hD hS 0 rfl rfl 6 (by decide) (hts (.fieldLink RX9 76 "SoldHouse$Tokens" "value" "I") (List.mem_of_getElem? (i := 8) rfl)) (fun _ h9 => h9) rfl (by decide +kernel) rfl rfl (Nat.le_of_ble_eq_true rfl) dX9_readWord_101 (fun H locs hP hD hS => ?_)
          replace hP : va_P D classes [(TO, .inr (9, oX9 TA aTO 4 TO_place w5_TO_4 w5_TO_5 r98)), (TA, .inr (8, oX8 aTA TA_size)), ((aTA 0), .inl (cB, 1600, .inl TA_bytes)), ((aTO 1), .inl (cL, 17, .inr (.inl TO_own)))] H := hP
          replace hD : va_D A [(TO, .inr (9, oX9 TA aTO 4 TO_place w5_TO_4 w5_TO_5 r98)), (TA, .inr (8, oX8 aTA TA_size)), ((aTA 0), .inl (cB, 1600, .inl TA_bytes)), ((aTO 1), .inl (cL, 17, .inr (.inl TO_own)))] := hD
          exact up _ _ _ (W.vret hx hb hr (fun t ht hW => ⟨⟨(), rfl, trivial, ⟨4, w5_TO_4, w5_TO_5, r98, (zB_w (show zB 4 4 4 from ⟨by decide, by decide⟩) (by decide) (by decide)), bw5_TO_4_k5, hr98, by rw [ht]; exact hP, hD⟩⟩, hS.F ht⟩) hS.2.2 dX9_readWord_104)
        · have bx85f_y82 : zB y82 (-2147483648) 8 := zB_leu (zg c85) (zB_top y82) (show zB 8 8 8 from ⟨by decide, by decide⟩) (by decide)
          refine lv_iconst (v := 1) hx hb dX9_readWord_88 (by decide) ?_
          refine lv_goto (tgt := 93) hx hb dX9_readWord_89 (by decide) ?_
          refine va_put (D := D) (ci := 9) (v := .int 1) (ty := tyX9 2) (C := RX9) (T := TX9) (N := 7) hx hb hts iw_X9_readWord_X9 tyX9 tyX9_ok nmX9 hown hK hP hD hS 0 rfl rfl 2 (by decide) (hts (.fieldLink RX9 58 "SoldHouse$Tokens" "kind" "I") (List.mem_of_getElem? (i := 7) rfl)) (fun _ h9 => h9) rfl (by decide +kernel) rfl rfl (Nat.le_of_ble_eq_true rfl) dX9_readWord_93 (fun H locs hP hD hS => ?_)
          replace hP : va_P D classes [(TO, .inr (9, oX9 TA aTO 1 TO_place w5_TO_4 w5_TO_5 TO_value)), (TA, .inr (8, oX8 aTA TA_size)), ((aTA 0), .inl (cB, 1600, .inl TA_bytes)), ((aTO 1), .inl (cL, 17, .inr (.inl TO_own)))] H := hP
          replace hD : va_D A [(TO, .inr (9, oX9 TA aTO 1 TO_place w5_TO_4 w5_TO_5 TO_value)), (TA, .inr (8, oX8 aTA TA_size)), ((aTA 0), .inl (cB, 1600, .inl TA_bytes)), ((aTO 1), .inl (cL, 17, .inr (.inl TO_own)))] := hD
          refine lv_aload_n hx hb dX9_readWord_96 rfl (lv_at hl 0 rfl) ?_
          refine lv_aload_n hx hb dX9_readWord_97 rfl (lv_at hl 0 rfl) ?_
          have hPc := hP.sub (ws' := [(TO, .inr (9, oX9 TA aTO 1 TO_place w5_TO_4 w5_TO_5 TO_value)), ((aTO 1), .inl (cL, 17, .inr (.inl TO_own)))]) [0, 3] rfl
          refine vp_callSi (va_runV (As := []) (rest := [.ref TO]) ⟨hx, hb, hml, hown, hts⟩ (c_X9_numberOfOwn l D cI cB cL cZ cG TO TA aTO 1 TO_place w5_TO_4 w5_TO_5 TO_value TO_own bw5_TO_4_k5) (cwV 0 hts gX9_readWord_X9_numberOfOwn rfl rfl rfl (by decide +kernel) ⟨Nat.le_of_ble_eq_true rfl, Nat.le_of_ble_eq_true rfl⟩) ⟨xr_blind, va_recv hK hP (ci := 9) (q0 := 0) rfl rfl, fun U hU hW => xr_mk hU hW hPc hK⟩ rfl rfl hl.1 rfl (lv_room (Nat.le_of_ble_eq_true rfl)) dX9_readWord_98 ⟨Nat.le_of_ble_eq_true rfl, Nat.le_of_ble_eq_true rfl⟩).run (fun r98 hr98 => ?_)
          clear hPc
          refine va_put (D := D) (ci := 9) (v := .int r98) (ty := tyX9 6) (C := RX9) (T := TX9) (N := 7) hx hb hts iw_X9_readWord_X9 tyX9 tyX9_ok nmX9 hown hK hP hD hS 0 rfl rfl 6 (by decide) (hts (.fieldLink RX9 76 "SoldHouse$Tokens" "value" "I") (List.mem_of_getElem? (i := 8) rfl)) (fun _ h9 => h9) rfl (by decide +kernel) rfl rfl (Nat.le_of_ble_eq_true rfl) dX9_readWord_101 (fun H locs hP hD hS => ?_)
          replace hP : va_P D classes [(TO, .inr (9, oX9 TA aTO 1 TO_place w5_TO_4 w5_TO_5 r98)), (TA, .inr (8, oX8 aTA TA_size)), ((aTA 0), .inl (cB, 1600, .inl TA_bytes)), ((aTO 1), .inl (cL, 17, .inr (.inl TO_own)))] H := hP
          replace hD : va_D A [(TO, .inr (9, oX9 TA aTO 1 TO_place w5_TO_4 w5_TO_5 r98)), (TA, .inr (8, oX8 aTA TA_size)), ((aTA 0), .inl (cB, 1600, .inl TA_bytes)), ((aTO 1), .inl (cL, 17, .inr (.inl TO_own)))] := hD
          exact up _ _ _ (W.vret hx hb hr (fun t ht hW => ⟨⟨(), rfl, trivial, ⟨1, w5_TO_4, w5_TO_5, r98, (zB_w (show zB 1 1 1 from ⟨by decide, by decide⟩) (by decide) (by decide)), bw5_TO_4_k5, hr98, by rw [ht]; exact hP, hD⟩⟩, hS.F ht⟩) hS.2.2 dX9_readWord_104)
      refine lv_icmp_ge (tgt := 73) hx hb dX9_readWord_16 (by decide) (fun c16 => ?_) (fun c16 => ?_)
      · exact j73 H locs ls hP hD hS (lv_sub hl [0] rfl)
      · have bx16f_w5_TO_4 : zB w5_TO_4 0 1599 := zB_ltu (zf c16) bw5_TO_4_k5 b_TA_size (by decide)
        have by16f_TA_size : zB TA_size 1 1600 := zB_ltv (zf c16) bx16f_w5_TO_4 b_TA_size (by decide)
        refine lv_aload_n hx hb dX9_readWord_19 rfl (lv_at hl 0 rfl) ?_
        refine va_get (D := D) (ci := 9) (v := .ref TA) (C := RX9) (T := TX9) (N := 7) hx hb hts iw_X9_readWord_X9 hown hK hP 0 rfl rfl 0 (by decide) (hts (.fieldLink RX9 15 "SoldHouse$Tokens" "tape" "LSoldHouse$Tape;") (List.mem_of_getElem? (i := 3) rfl)) (fun _ h9 => h9) rfl dX9_readWord_20 ?_
        refine va_get (D := D) (ci := 8) (v := .ref (aTA 0)) (C := RX8) (T := TX8) (N := 2) hx hb hts iw_X9_readWord_X8 hown hK hP 1 rfl rfl 0 (by decide) (hts (.fieldLink RX9 47 "SoldHouse$Tape" "bytes" "[B") (List.mem_of_getElem? (i := 5) rfl)) (fun _ h9 => h9) rfl dX9_readWord_23 ?_
        refine lv_aload_n hx hb dX9_readWord_26 rfl (lv_at hl 0 rfl) ?_
        refine va_get (D := D) (ci := 9) (v := .int w5_TO_4) (C := RX9) (T := TX9) (N := 7) hx hb hts iw_X9_readWord_X9 hown hK hP 0 rfl rfl 4 (by decide) (hts (.fieldLink RX9 35 "SoldHouse$Tokens" "behind" "I") (List.mem_of_getElem? (i := 2) rfl)) (fun _ h9 => h9) rfl dX9_readWord_27 ?_
        refine va_bald hx hb hK hP 2 1 rfl rfl (zB_in bx16f_w5_TO_4 (by decide) (by decide)) dX9_readWord_30 ?_
        refine lv_topi (fun y30 _ => ?_)
        have hPc := hP.sub (ws' := []) [] rfl
        refine vp_callSi (va_runS (As := [.int y30]) (rest := []) ⟨hx, hb, hml, hown, hts⟩ (c_X9_isLetter l D cI cB cL cZ cG y30) (va_cwS 1 hts gX9_readWord_X9_isLetter rfl rfl rfl (by decide +kernel) ⟨Nat.le_of_ble_eq_true rfl, Nat.le_of_ble_eq_true rfl⟩) ⟨xr_blind, fun U hU hW => xr_mk hU hW hPc hK⟩ rfl rfl hl.1 rfl (lv_room (Nat.le_of_ble_eq_true rfl)) dX9_readWord_31 ⟨Nat.le_of_ble_eq_true rfl, Nat.le_of_ble_eq_true rfl⟩).run (fun r31 hr31 => ?_)
        clear hPc
        rcases hr31 with rfl | ⟨rfl, hr31_1_0⟩
        · refine lv_if_eq (tgt := 73) hx hb dX9_readWord_34 (by decide) (fun _ => ?_) (fun c34 => absurd (by decide) c34)
          exact j73 H locs ls hP hD hS (lv_sub hl [0] rfl)
        · refine lv_if_eq (tgt := 73) hx hb dX9_readWord_34 (by decide) (fun c34 => absurd c34 (by decide)) (fun _ => ?_)
          refine lv_aload_n hx hb dX9_readWord_37 rfl (lv_at hl 0 rfl) ?_
          refine lv_aload_n hx hb dX9_readWord_38 rfl (lv_at hl 0 rfl) ?_
          refine va_get (D := D) (ci := 9) (v := .long w5_TO_5) (C := RX9) (T := TX9) (N := 7) hx hb hts iw_X9_readWord_X9 hown hK hP 0 rfl rfl 5 (by decide) (hts (.fieldLink RX9 79 "SoldHouse$Tokens" "word" "J") (List.mem_of_getElem? (i := 1) rfl)) (fun _ h9 => h9) rfl dX9_readWord_39 ?_
          refine lv_aload_n hx hb dX9_readWord_42 rfl (lv_at hl 0 rfl) ?_
          refine va_get (D := D) (ci := 9) (v := .ref TA) (C := RX9) (T := TX9) (N := 7) hx hb hts iw_X9_readWord_X9 hown hK hP 0 rfl rfl 0 (by decide) (hts (.fieldLink RX9 15 "SoldHouse$Tokens" "tape" "LSoldHouse$Tape;") (List.mem_of_getElem? (i := 3) rfl)) (fun _ h9 => h9) rfl dX9_readWord_43 ?_
          refine va_get (D := D) (ci := 8) (v := .ref (aTA 0)) (C := RX8) (T := TX8) (N := 2) hx hb hts iw_X9_readWord_X8 hown hK hP 1 rfl rfl 0 (by decide) (hts (.fieldLink RX9 47 "SoldHouse$Tape" "bytes" "[B") (List.mem_of_getElem? (i := 5) rfl)) (fun _ h9 => h9) rfl dX9_readWord_46 ?_
          refine lv_aload_n hx hb dX9_readWord_49 rfl (lv_at hl 0 rfl) ?_
          refine va_get (D := D) (ci := 9) (v := .int w5_TO_4) (C := RX9) (T := TX9) (N := 7) hx hb hts iw_X9_readWord_X9 hown hK hP 0 rfl rfl 4 (by decide) (hts (.fieldLink RX9 35 "SoldHouse$Tokens" "behind" "I") (List.mem_of_getElem? (i := 2) rfl)) (fun _ h9 => h9) rfl dX9_readWord_50 ?_
          refine va_bald hx hb hK hP 2 1 rfl rfl (zB_in bx16f_w5_TO_4 (by decide) (by decide)) dX9_readWord_53 ?_
          refine lv_topi (fun y53 _ => ?_)
          have hPc := hP.sub (ws' := []) [] rfl
          refine vp_callSl (va_runS (As := [.long w5_TO_5, .int y53]) (rest := [.ref TO]) ⟨hx, hb, hml, hown, hts⟩ (c_X9_withLetter l D cI cB cL cZ cG w5_TO_5 y53) (va_cwS 2 hts gX9_readWord_X9_withLetter rfl rfl rfl (by decide +kernel) ⟨Nat.le_of_ble_eq_true rfl, Nat.le_of_ble_eq_true rfl⟩) ⟨xr_blind, fun U hU hW => xr_mk hU hW hPc hK⟩ rfl rfl hl.1 rfl (lv_room (Nat.le_of_ble_eq_true rfl)) dX9_readWord_54 ⟨Nat.le_of_ble_eq_true rfl, Nat.le_of_ble_eq_true rfl⟩).run (fun r54 hr54 => ?_)
          clear hPc
          clear hr54
          refine va_put (D := D) (ci := 9) (v := .long r54) (ty := tyX9 5) (C := RX9) (T := TX9) (N := 7) hx hb hts iw_X9_readWord_X9 tyX9 tyX9_ok nmX9 hown hK hP hD hS 0 rfl rfl 5 (by decide) (hts (.fieldLink RX9 79 "SoldHouse$Tokens" "word" "J") (List.mem_of_getElem? (i := 1) rfl)) (fun _ h9 => h9) rfl (by decide +kernel) rfl rfl (Nat.le_of_ble_eq_true rfl) dX9_readWord_57 (fun H locs hP hD hS => ?_)
          replace hP : va_P D classes [(TO, .inr (9, oX9 TA aTO TO_kind TO_place w5_TO_4 r54 TO_value)), (TA, .inr (8, oX8 aTA TA_size)), ((aTA 0), .inl (cB, 1600, .inl TA_bytes)), ((aTO 1), .inl (cL, 17, .inr (.inl TO_own)))] H := hP
          replace hD : va_D A [(TO, .inr (9, oX9 TA aTO TO_kind TO_place w5_TO_4 r54 TO_value)), (TA, .inr (8, oX8 aTA TA_size)), ((aTA 0), .inl (cB, 1600, .inl TA_bytes)), ((aTO 1), .inl (cL, 17, .inr (.inl TO_own)))] := hD
          refine lv_aload_n hx hb dX9_readWord_60 rfl (lv_at hl 0 rfl) ?_
          refine lv_dup hx hb dX9_readWord_61 rfl ?_
          refine va_get (D := D) (ci := 9) (v := .int w5_TO_4) (C := RX9) (T := TX9) (N := 7) hx hb hts iw_X9_readWord_X9 hown hK hP 0 rfl rfl 4 (by decide) (hts (.fieldLink RX9 35 "SoldHouse$Tokens" "behind" "I") (List.mem_of_getElem? (i := 2) rfl)) (fun _ h9 => h9) rfl dX9_readWord_62 ?_
          refine lv_iconst (v := 1) hx hb dX9_readWord_65 (by decide) ?_
          refine lv_iadd hx hb dX9_readWord_66 ?_
          refine zi_top2 (P := fun y => y.toInt = w5_TO_4.toInt + 1) (a := 1) (b := 1600) (zB_add bx16f_w5_TO_4 (show zB 1 1 1 from ⟨by decide, by decide⟩) (by decide) (by decide) (by decide) (by decide)) (zR_addc bx16f_w5_TO_4 (by decide) (by decide) (by decide)) (fun y66 by66 ry66 => ?_)
          refine va_put (D := D) (ci := 9) (v := .int y66) (ty := tyX9 4) (C := RX9) (T := TX9) (N := 7) hx hb hts iw_X9_readWord_X9 tyX9 tyX9_ok nmX9 hown hK hP hD hS 0 rfl rfl 4 (by decide) (hts (.fieldLink RX9 35 "SoldHouse$Tokens" "behind" "I") (List.mem_of_getElem? (i := 2) rfl)) (fun _ h9 => h9) rfl (by decide +kernel) rfl rfl (Nat.le_of_ble_eq_true rfl) dX9_readWord_67 (fun H locs hP hD hS => ?_)
          replace hP : va_P D classes [(TO, .inr (9, oX9 TA aTO TO_kind TO_place y66 r54 TO_value)), (TA, .inr (8, oX8 aTA TA_size)), ((aTA 0), .inl (cB, 1600, .inl TA_bytes)), ((aTO 1), .inl (cL, 17, .inr (.inl TO_own)))] H := hP
          replace hD : va_D A [(TO, .inr (9, oX9 TA aTO TO_kind TO_place y66 r54 TO_value)), (TA, .inr (8, oX8 aTA TA_size)), ((aTA 0), .inl (cB, 1600, .inl TA_bytes)), ((aTO 1), .inl (cL, 17, .inr (.inl TO_own)))] := hD
          refine lv_goto (tgt := 5) hx hb dX9_readWord_70 (by decide) ?_
          exact ih5 H locs ls y66 r54 (zB_w by66 (by decide) (by decide)) (zM_us (k := 1) hm5 ry66 (by decide)) hP hD hS (lv_sub hl [0] rfl)
  refine va_put (D := D) (ci := 9) (v := .long 0) (ty := tyX9 5) (C := RX9) (T := TX9) (N := 7) hx hb hts iw_X9_readWord_X9 tyX9 tyX9_ok nmX9 hown hK hP hD hS 0 rfl rfl 5 (by decide) (hts (.fieldLink RX9 79 "SoldHouse$Tokens" "word" "J") (List.mem_of_getElem? (i := 1) rfl)) (fun _ h9 => h9) rfl (by decide +kernel) rfl rfl (Nat.le_of_ble_eq_true rfl) dX9_readWord_2 (fun H locs hP hD hS => ?_)
  replace hP : va_P D classes [(TO, .inr (9, oX9 TA aTO TO_kind TO_place TO_behind 0 TO_value)), (TA, .inr (8, oX8 aTA TA_size)), ((aTA 0), .inl (cB, 1600, .inl TA_bytes)), ((aTO 1), .inl (cL, 17, .inr (.inl TO_own)))] H := hP
  replace hD : va_D A [(TO, .inr (9, oX9 TA aTO TO_kind TO_place TO_behind 0 TO_value)), (TA, .inr (8, oX8 aTA TA_size)), ((aTA 0), .inl (cB, 1600, .inl TA_bytes)), ((aTO 1), .inl (cL, 17, .inr (.inl TO_own)))] := hD
  exact j5 1601 H locs ls TO_behind 0 b_TO_behind (zM_ui b_TO_behind (by decide)) hP hD hS (lv_sub hl [0] rfl)
set_option maxHeartbeats 4000000 in
set_option maxRecDepth 100000 in
theorem c_X9_readNumber (l : Launch) (D : va_G) (cI : ClassId) (cB : ClassId) (cL : ClassId) (cZ : ClassId) (cG : ClassId) (TO : Nat) (TA : Nat) (aTO : Nat → Nat) (TO_kind : Int32) (TO_place : Int32) (TO_behind : Int32) (TO_word : Int64) (TO_value : Int32) (aTA : Nat → Nat) (TA_size : Int32) (TA_bytes : Nat → Int32) (sz : Nat) (b_TO_behind : zB TO_behind 0 1600) (b_TA_size : zB TA_size 0 1600) : Met l yX9_readNumber wsX9_readNumber ({ frames := 1, cells := 0, slots := 0, locals := 20 }) (xp D [(cI, .int), (cB, .byte), (cL, .long), (cZ, .boolean), (cG, .array .int)] [(TO, .inr (9, oX9 TA aTO TO_kind TO_place TO_behind TO_word TO_value)), (TA, .inr (8, oX8 aTA TA_size)), ((aTA 0), .inl (cB, 1600, .inl TA_bytes))] sz [] [.ref TO]) (va_Qv (fun _ : Unit => True) (fun (_ : Unit) (t : State) => ∃ (nTO_kind : Int32), ∃ (nTO_behind : Int32), ∃ (nTO_value : Int32), zB nTO_kind 2 4 ∧ zB nTO_behind 0 1600 ∧ xB D (va_A [(TO, .inr (9, oX9 TA aTO TO_kind TO_place TO_behind TO_word TO_value)), (TA, .inr (8, oX8 aTA TA_size)), ((aTA 0), .inl (cB, 1600, .inl TA_bytes))] sz) [(TO, .inr (9, oX9 TA aTO nTO_kind TO_place nTO_behind TO_word nTO_value)), (TA, .inr (8, oX8 aTA TA_size)), ((aTA 0), .inl (cB, 1600, .inl TA_bytes))] t) (va_A [(TO, .inr (9, oX9 TA aTO TO_kind TO_place TO_behind TO_word TO_value)), (TA, .inr (8, oX8 aTA TA_size)), ((aTA 0), .inl (cB, 1600, .inl TA_bytes))] sz)) 0 0 (va_A [(TO, .inr (9, oX9 TA aTO TO_kind TO_place TO_behind TO_word TO_value)), (TA, .inr (8, oX8 aTA TA_size)), ((aTA 0), .inl (cB, 1600, .inl TA_bytes))] sz) := by
  refine Met.ofW (cc := cX9_readNumber) (maxL := 2) (ret := none) (by decide) rfl ?_
  intro p e s m args below meth c s₁ B hml hv
  obtain ⟨rfl, hsz, hP, hK, hD0, hNw⟩ := hv
  have hx := B.exec
  have hb := B.bytes
  have hr := B.returns
  have hts := atoms_spec (ws := wsX9_readNumber) B.pre
  have hown : s.vm.findClass RX9 = some m.cls := findClass_of_methodNamed B.named
  have hlocks := B.notSynchronized
  clear B
  subst hsz
  have hD := hD0.self (sz := s.heap.size)
  clear hD0 hNw
  generalize hAe : va_A [(TO, .inr (9, oX9 TA aTO TO_kind TO_place TO_behind TO_word TO_value)), (TA, .inr (8, oX8 aTA TA_size)), ((aTA 0), .inl (cB, 1600, .inl TA_bytes))] s.heap.size = A at hD ⊢
  have hA : ∀ q : Nat, s.heap.size ≤ q → A q := fun q h => by rw [← hAe]; exact Or.inr h
  have hS : va_S A s.heap s.heap [] := va_S.rf
  clear hAe
  obtain ⟨H, hH⟩ : ∃ H : Heap, H = s.heap := ⟨_, rfl⟩
  obtain ⟨locs, hlocs⟩ : ∃ L : List Loc, L = [] := ⟨_, rfl⟩
  replace hP : va_P D classes [(TO, .inr (9, oX9 TA aTO TO_kind TO_place TO_behind TO_word TO_value)), (TA, .inr (8, oX8 aTA TA_size)), ((aTA 0), .inl (cB, 1600, .inl TA_bytes))] H := by rw [hH]; exact hP
  replace hS : va_S A s.heap H locs := by rw [hH, hlocs]; exact hS
  rw [← hH, ← hlocs]
  clear hlocs hH
  have hl := lv_entry ([.ref TO]) (n := 2) (Nat.le_of_ble_eq_true rfl)
  rw [lg_entry_eq]
  generalize (lg_sl ([.ref TO]) ++ List.replicate (2 - (lg_sl ([.ref TO])).length) Slot.unset).toArray = ls at hl ⊢
  replace hl : lv_has ls 2 [(0, .ref TO)] := hl
  refine zz_abs (R := ({ frames := 1, cells := 0, slots := 0, locals := 20 } : Room)) (fun Q up => ?_)
  refine lv_aload_n hx hb dX9_readNumber_0 rfl (lv_at hl 0 rfl) ?_
  refine lv_iconst (v := 0) hx hb dX9_readNumber_1 (by decide) ?_
  have j5 : ∀ (n5 : Nat) (H : Heap) (locs : List Loc) (ls : Array Slot) (w5_TO_4 : Int32) (w5_TO_6 : Int32), zB w5_TO_4 0 1600 → (1600 + 1 - w5_TO_4.toInt) ≤ (n5 : Int) → va_P D classes [(TO, .inr (9, oX9 TA aTO TO_kind TO_place w5_TO_4 TO_word w5_TO_6)), (TA, .inr (8, oX8 aTA TA_size)), ((aTA 0), .inl (cB, 1600, .inl TA_bytes))] H → va_D A [(TO, .inr (9, oX9 TA aTO TO_kind TO_place w5_TO_4 TO_word w5_TO_6)), (TA, .inr (8, oX8 aTA TA_size)), ((aTA 0), .inl (cB, 1600, .inl TA_bytes))] → va_S A s.heap H locs → lv_has ls 2 [(0, .ref TO)] → W p l e ({ frames := 1, cells := 0, slots := 0, locals := 20 } : Room) s m ([.ref TO] : List Value).toArray below meth c H locs 0 0 Q (F0 m 5 ls []) := by
    intro n5
    induction n5 with
    | zero => intro H locs ls w5_TO_4 w5_TO_6 bw5_TO_4_k5 hm5 hP hD hS hl; exact zM_u0 bw5_TO_4_k5 hm5
    | succ n5 ih5 =>
      intro H locs ls w5_TO_4 w5_TO_6 bw5_TO_4_k5 hm5 hP hD hS hl
      refine lv_aload_n hx hb dX9_readNumber_5 rfl (lv_at hl 0 rfl) ?_
      refine va_get (D := D) (ci := 9) (v := .int w5_TO_4) (C := RX9) (T := TX9) (N := 7) hx hb hts iw_X9_readNumber_X9 hown hK hP 0 rfl rfl 4 (by decide) (hts (.fieldLink RX9 35 "SoldHouse$Tokens" "behind" "I") (List.mem_of_getElem? (i := 2) rfl)) (fun _ h9 => h9) rfl dX9_readNumber_6 ?_
      refine lv_aload_n hx hb dX9_readNumber_9 rfl (lv_at hl 0 rfl) ?_
      refine va_get (D := D) (ci := 9) (v := .ref TA) (C := RX9) (T := TX9) (N := 7) hx hb hts iw_X9_readNumber_X9 hown hK hP 0 rfl rfl 0 (by decide) (hts (.fieldLink RX9 15 "SoldHouse$Tokens" "tape" "LSoldHouse$Tape;") (List.mem_of_getElem? (i := 3) rfl)) (fun _ h9 => h9) rfl dX9_readNumber_10 ?_
      refine va_get (D := D) (ci := 8) (v := .int TA_size) (C := RX8) (T := TX8) (N := 2) hx hb hts iw_X9_readNumber_X8 hown hK hP 1 rfl rfl 1 (by decide) (hts (.fieldLink RX9 42 "SoldHouse$Tape" "size" "I") (List.mem_of_getElem? (i := 4) rfl)) (fun _ h9 => h9) rfl dX9_readNumber_13 ?_
      have j77 : ∀ (H : Heap) (locs : List Loc) (ls : Array Slot), va_P D classes [(TO, .inr (9, oX9 TA aTO TO_kind TO_place w5_TO_4 TO_word w5_TO_6)), (TA, .inr (8, oX8 aTA TA_size)), ((aTA 0), .inl (cB, 1600, .inl TA_bytes))] H → va_D A [(TO, .inr (9, oX9 TA aTO TO_kind TO_place w5_TO_4 TO_word w5_TO_6)), (TA, .inr (8, oX8 aTA TA_size)), ((aTA 0), .inl (cB, 1600, .inl TA_bytes))] → va_S A s.heap H locs → lv_has ls 2 [(0, .ref TO)] → W p l e ({ frames := 1, cells := 0, slots := 0, locals := 20 } : Room) s m ([.ref TO] : List Value).toArray below meth c H locs 0 0 Q (F0 m 77 ls []) := by
        intro H locs ls hP hD hS hl
        refine lv_aload_n hx hb dX9_readNumber_77 rfl (lv_at hl 0 rfl) ?_
        refine va_get (D := D) (ci := 9) (v := .int w5_TO_4) (C := RX9) (T := TX9) (N := 7) hx hb hts iw_X9_readNumber_X9 hown hK hP 0 rfl rfl 4 (by decide) (hts (.fieldLink RX9 35 "SoldHouse$Tokens" "behind" "I") (List.mem_of_getElem? (i := 2) rfl)) (fun _ h9 => h9) rfl dX9_readNumber_78 ?_
        refine lv_aload_n hx hb dX9_readNumber_81 rfl (lv_at hl 0 rfl) ?_
        refine va_get (D := D) (ci := 9) (v := .ref TA) (C := RX9) (T := TX9) (N := 7) hx hb hts iw_X9_readNumber_X9 hown hK hP 0 rfl rfl 0 (by decide) (hts (.fieldLink RX9 15 "SoldHouse$Tokens" "tape" "LSoldHouse$Tape;") (List.mem_of_getElem? (i := 3) rfl)) (fun _ h9 => h9) rfl dX9_readNumber_82 ?_
        refine va_get (D := D) (ci := 8) (v := .int TA_size) (C := RX8) (T := TX8) (N := 2) hx hb hts iw_X9_readNumber_X8 hown hK hP 1 rfl rfl 1 (by decide) (hts (.fieldLink RX9 42 "SoldHouse$Tape" "size" "I") (List.mem_of_getElem? (i := 4) rfl)) (fun _ h9 => h9) rfl dX9_readNumber_85 ?_
        have j114 : ∀ (H : Heap) (locs : List Loc) (ls : Array Slot) (u114_0 : Int32), zB u114_0 0 1 → va_P D classes [(TO, .inr (9, oX9 TA aTO TO_kind TO_place w5_TO_4 TO_word w5_TO_6)), (TA, .inr (8, oX8 aTA TA_size)), ((aTA 0), .inl (cB, 1600, .inl TA_bytes))] H → va_D A [(TO, .inr (9, oX9 TA aTO TO_kind TO_place w5_TO_4 TO_word w5_TO_6)), (TA, .inr (8, oX8 aTA TA_size)), ((aTA 0), .inl (cB, 1600, .inl TA_bytes))] → va_S A s.heap H locs → lv_has ls 2 [(0, .ref TO)] → W p l e ({ frames := 1, cells := 0, slots := 0, locals := 20 } : Room) s m ([.ref TO] : List Value).toArray below meth c H locs 0 0 Q (F0 m 114 ls [.int u114_0]) := by
          intro H locs ls u114_0 bu114_0_k114 hP hD hS hl
          refine lv_istore_n (lv' := [(1, .int u114_0), (0, .ref TO)]) hx hb dX9_readNumber_114 rfl hl (by decide) rfl (fun ls hl => ?_)
          refine lv_aload_n hx hb dX9_readNumber_115 rfl (lv_at hl 1 rfl) ?_
          refine lv_aload_n hx hb dX9_readNumber_116 rfl (lv_at hl 1 rfl) ?_
          refine va_get (D := D) (ci := 9) (v := .int w5_TO_4) (C := RX9) (T := TX9) (N := 7) hx hb hts iw_X9_readNumber_X9 hown hK hP 0 rfl rfl 4 (by decide) (hts (.fieldLink RX9 35 "SoldHouse$Tokens" "behind" "I") (List.mem_of_getElem? (i := 2) rfl)) (fun _ h9 => h9) rfl dX9_readNumber_117 ?_
          refine lv_aload_n hx hb dX9_readNumber_120 rfl (lv_at hl 1 rfl) ?_
          refine va_get (D := D) (ci := 9) (v := .int TO_place) (C := RX9) (T := TX9) (N := 7) hx hb hts iw_X9_readNumber_X9 hown hK hP 0 rfl rfl 3 (by decide) (hts (.fieldLink RX9 55 "SoldHouse$Tokens" "place" "I") (List.mem_of_getElem? (i := 6) rfl)) (fun _ h9 => h9) rfl dX9_readNumber_121 ?_
          refine lv_isub hx hb dX9_readNumber_124 ?_
          refine lv_topi (fun y124 _ => ?_)
          refine lv_iconst (v := 4) hx hb dX9_readNumber_125 (by decide) ?_
          have j137 : ∀ (H : Heap) (locs : List Loc) (ls : Array Slot), va_P D classes [(TO, .inr (9, oX9 TA aTO TO_kind TO_place w5_TO_4 TO_word w5_TO_6)), (TA, .inr (8, oX8 aTA TA_size)), ((aTA 0), .inl (cB, 1600, .inl TA_bytes))] H → va_D A [(TO, .inr (9, oX9 TA aTO TO_kind TO_place w5_TO_4 TO_word w5_TO_6)), (TA, .inr (8, oX8 aTA TA_size)), ((aTA 0), .inl (cB, 1600, .inl TA_bytes))] → va_S A s.heap H locs → lv_has ls 2 [(1, .int u114_0), (0, .ref TO)] → W p l e ({ frames := 1, cells := 0, slots := 0, locals := 20 } : Room) s m ([.ref TO] : List Value).toArray below meth c H locs 0 0 Q (F0 m 137 ls [.ref TO]) := by
            intro H locs ls hP hD hS hl
            refine lv_iconst (v := 4) hx hb dX9_readNumber_137 (by decide) ?_
            refine va_put (D := D) (ci := 9) (v := .int 4) (ty := tyX9 2) (C := RX9) (T := TX9) (N := 7) hx hb hts iw_X9_readNumber_X9 tyX9 tyX9_ok nmX9 hown hK hP hD hS 0 rfl rfl 2 (by decide) (hts (.fieldLink RX9 58 "SoldHouse$Tokens" "kind" "I") (List.mem_of_getElem? (i := 7) rfl)) (fun _ h9 => h9) rfl (by decide +kernel) rfl rfl (Nat.le_of_ble_eq_true rfl) dX9_readNumber_138 (fun H locs hP hD hS => ?_)
            replace hP : va_P D classes [(TO, .inr (9, oX9 TA aTO 4 TO_place w5_TO_4 TO_word w5_TO_6)), (TA, .inr (8, oX8 aTA TA_size)), ((aTA 0), .inl (cB, 1600, .inl TA_bytes))] H := hP
            replace hD : va_D A [(TO, .inr (9, oX9 TA aTO 4 TO_place w5_TO_4 TO_word w5_TO_6)), (TA, .inr (8, oX8 aTA TA_size)), ((aTA 0), .inl (cB, 1600, .inl TA_bytes))] := hD
            exact up _ _ _ (W.vret hx hb hr (fun t ht hW => ⟨⟨(), rfl, trivial, ⟨4, w5_TO_4, w5_TO_6, (zB_w (show zB 4 4 4 from ⟨by decide, by decide⟩) (by decide) (by decide)), bw5_TO_4_k5, by rw [ht]; exact hP, hD⟩⟩, hS.F ht⟩) hS.2.2 dX9_readNumber_141)
          refine lv_icmp_gt (tgt := 137) hx hb dX9_readNumber_126 (by decide) (fun c126 => ?_) (fun c126 => ?_)
          · have by126t_y124 : zB y124 5 2147483647 := zB_ltv (zl c126) (show zB 4 4 4 from ⟨by decide, by decide⟩) (zB_top y124) (by decide)
            exact j137 H locs ls hP hD hS (lv_sub hl [0, 1] rfl)
          · have bx126f_y124 : zB y124 (-2147483648) 4 := zB_leu (zg c126) (zB_top y124) (show zB 4 4 4 from ⟨by decide, by decide⟩) (by decide)
            refine lv_iload_n hx hb dX9_readNumber_129 rfl (lv_at hl 0 rfl) ?_
            refine lv_if_ne (tgt := 137) hx hb dX9_readNumber_130 (by decide) (fun c130 => ?_) (fun c130 => ?_)
            · have bn130t_u114_0 : zB u114_0 1 1 := zB_neL c130 bu114_0_k114 (show zB 0 0 0 from ⟨by decide, by decide⟩) (by decide)
              exact j137 H locs ls hP hD hS (lv_sub hl [0, 1] rfl)
            · have be130f_u114_0 : zB u114_0 0 0 := zB_eq c130 bu114_0_k114 (show zB 0 0 0 from ⟨by decide, by decide⟩) (by decide) (by decide)
              refine lv_iconst (v := 2) hx hb dX9_readNumber_133 (by decide) ?_
              refine lv_goto (tgt := 138) hx hb dX9_readNumber_134 (by decide) ?_
              refine va_put (D := D) (ci := 9) (v := .int 2) (ty := tyX9 2) (C := RX9) (T := TX9) (N := 7) hx hb hts iw_X9_readNumber_X9 tyX9 tyX9_ok nmX9 hown hK hP hD hS 0 rfl rfl 2 (by decide) (hts (.fieldLink RX9 58 "SoldHouse$Tokens" "kind" "I") (List.mem_of_getElem? (i := 7) rfl)) (fun _ h9 => h9) rfl (by decide +kernel) rfl rfl (Nat.le_of_ble_eq_true rfl) dX9_readNumber_138 (fun H locs hP hD hS => ?_)
              replace hP : va_P D classes [(TO, .inr (9, oX9 TA aTO 2 TO_place w5_TO_4 TO_word w5_TO_6)), (TA, .inr (8, oX8 aTA TA_size)), ((aTA 0), .inl (cB, 1600, .inl TA_bytes))] H := hP
              replace hD : va_D A [(TO, .inr (9, oX9 TA aTO 2 TO_place w5_TO_4 TO_word w5_TO_6)), (TA, .inr (8, oX8 aTA TA_size)), ((aTA 0), .inl (cB, 1600, .inl TA_bytes))] := hD
              exact up _ _ _ (W.vret hx hb hr (fun t ht hW => ⟨⟨(), rfl, trivial, ⟨2, w5_TO_4, w5_TO_6, (zB_w (show zB 2 2 2 from ⟨by decide, by decide⟩) (by decide) (by decide)), bw5_TO_4_k5, by rw [ht]; exact hP, hD⟩⟩, hS.F ht⟩) hS.2.2 dX9_readNumber_141)
        have j113 : ∀ (H : Heap) (locs : List Loc) (ls : Array Slot), va_P D classes [(TO, .inr (9, oX9 TA aTO TO_kind TO_place w5_TO_4 TO_word w5_TO_6)), (TA, .inr (8, oX8 aTA TA_size)), ((aTA 0), .inl (cB, 1600, .inl TA_bytes))] H → va_D A [(TO, .inr (9, oX9 TA aTO TO_kind TO_place w5_TO_4 TO_word w5_TO_6)), (TA, .inr (8, oX8 aTA TA_size)), ((aTA 0), .inl (cB, 1600, .inl TA_bytes))] → va_S A s.heap H locs → lv_has ls 2 [(0, .ref TO)] → W p l e ({ frames := 1, cells := 0, slots := 0, locals := 20 } : Room) s m ([.ref TO] : List Value).toArray below meth c H locs 0 0 Q (F0 m 113 ls []) := by
          intro H locs ls hP hD hS hl
          refine lv_iconst (v := 0) hx hb dX9_readNumber_113 (by decide) ?_
          exact j114 H locs ls 0 (zB_w (show zB 0 0 0 from ⟨by decide, by decide⟩) (by decide) (by decide)) hP hD hS (lv_sub hl [0] rfl)
        refine lv_icmp_ge (tgt := 113) hx hb dX9_readNumber_88 (by decide) (fun c88 => ?_) (fun c88 => ?_)
        · exact j113 H locs ls hP hD hS (lv_sub hl [0] rfl)
        · have bx88f_w5_TO_4 : zB w5_TO_4 0 1599 := zB_ltu (zf c88) bw5_TO_4_k5 b_TA_size (by decide)
          have by88f_TA_size : zB TA_size 1 1600 := zB_ltv (zf c88) bx88f_w5_TO_4 b_TA_size (by decide)
          refine lv_aload_n hx hb dX9_readNumber_91 rfl (lv_at hl 0 rfl) ?_
          refine va_get (D := D) (ci := 9) (v := .ref TA) (C := RX9) (T := TX9) (N := 7) hx hb hts iw_X9_readNumber_X9 hown hK hP 0 rfl rfl 0 (by decide) (hts (.fieldLink RX9 15 "SoldHouse$Tokens" "tape" "LSoldHouse$Tape;") (List.mem_of_getElem? (i := 3) rfl)) (fun _ h9 => h9) rfl dX9_readNumber_92 ?_
          refine va_get (D := D) (ci := 8) (v := .ref (aTA 0)) (C := RX8) (T := TX8) (N := 2) hx hb hts iw_X9_readNumber_X8 hown hK hP 1 rfl rfl 0 (by decide) (hts (.fieldLink RX9 47 "SoldHouse$Tape" "bytes" "[B") (List.mem_of_getElem? (i := 5) rfl)) (fun _ h9 => h9) rfl dX9_readNumber_95 ?_
          refine lv_aload_n hx hb dX9_readNumber_98 rfl (lv_at hl 0 rfl) ?_
          refine va_get (D := D) (ci := 9) (v := .int w5_TO_4) (C := RX9) (T := TX9) (N := 7) hx hb hts iw_X9_readNumber_X9 hown hK hP 0 rfl rfl 4 (by decide) (hts (.fieldLink RX9 35 "SoldHouse$Tokens" "behind" "I") (List.mem_of_getElem? (i := 2) rfl)) (fun _ h9 => h9) rfl dX9_readNumber_99 ?_
          refine va_bald hx hb hK hP 2 1 rfl rfl (zB_in bx88f_w5_TO_4 (by decide) (by decide)) dX9_readNumber_102 ?_
          refine lv_topi (fun y102 _ => ?_)
          have hPc := hP.sub (ws' := []) [] rfl
          refine vp_callSi (va_runS (As := [.int y102]) (rest := []) ⟨hx, hb, hml, hown, hts⟩ (c_X9_isLetter l D cI cB cL cZ cG y102) (va_cwS 1 hts gX9_readNumber_X9_isLetter rfl rfl rfl (by decide +kernel) ⟨Nat.le_of_ble_eq_true rfl, Nat.le_of_ble_eq_true rfl⟩) ⟨xr_blind, fun U hU hW => xr_mk hU hW hPc hK⟩ rfl rfl hl.1 rfl (lv_room (Nat.le_of_ble_eq_true rfl)) dX9_readNumber_103 ⟨Nat.le_of_ble_eq_true rfl, Nat.le_of_ble_eq_true rfl⟩).run (fun r103 hr103 => ?_)
          clear hPc
          rcases hr103 with rfl | ⟨rfl, hr103_1_0⟩
          · refine lv_if_eq (tgt := 113) hx hb dX9_readNumber_106 (by decide) (fun _ => ?_) (fun c106 => absurd (by decide) c106)
            exact j113 H locs ls hP hD hS (lv_sub hl [0] rfl)
          · refine lv_if_eq (tgt := 113) hx hb dX9_readNumber_106 (by decide) (fun c106 => absurd c106 (by decide)) (fun _ => ?_)
            refine lv_iconst (v := 1) hx hb dX9_readNumber_109 (by decide) ?_
            refine lv_goto (tgt := 114) hx hb dX9_readNumber_110 (by decide) ?_
            exact j114 H locs ls 1 (zB_w (show zB 1 1 1 from ⟨by decide, by decide⟩) (by decide) (by decide)) hP hD hS (lv_sub hl [0] rfl)
      refine lv_icmp_ge (tgt := 77) hx hb dX9_readNumber_16 (by decide) (fun c16 => ?_) (fun c16 => ?_)
      · exact j77 H locs ls hP hD hS (lv_sub hl [0] rfl)
      · have bx16f_w5_TO_4 : zB w5_TO_4 0 1599 := zB_ltu (zf c16) bw5_TO_4_k5 b_TA_size (by decide)
        have by16f_TA_size : zB TA_size 1 1600 := zB_ltv (zf c16) bx16f_w5_TO_4 b_TA_size (by decide)
        refine lv_aload_n hx hb dX9_readNumber_19 rfl (lv_at hl 0 rfl) ?_
        refine va_get (D := D) (ci := 9) (v := .ref TA) (C := RX9) (T := TX9) (N := 7) hx hb hts iw_X9_readNumber_X9 hown hK hP 0 rfl rfl 0 (by decide) (hts (.fieldLink RX9 15 "SoldHouse$Tokens" "tape" "LSoldHouse$Tape;") (List.mem_of_getElem? (i := 3) rfl)) (fun _ h9 => h9) rfl dX9_readNumber_20 ?_
        refine va_get (D := D) (ci := 8) (v := .ref (aTA 0)) (C := RX8) (T := TX8) (N := 2) hx hb hts iw_X9_readNumber_X8 hown hK hP 1 rfl rfl 0 (by decide) (hts (.fieldLink RX9 47 "SoldHouse$Tape" "bytes" "[B") (List.mem_of_getElem? (i := 5) rfl)) (fun _ h9 => h9) rfl dX9_readNumber_23 ?_
        refine lv_aload_n hx hb dX9_readNumber_26 rfl (lv_at hl 0 rfl) ?_
        refine va_get (D := D) (ci := 9) (v := .int w5_TO_4) (C := RX9) (T := TX9) (N := 7) hx hb hts iw_X9_readNumber_X9 hown hK hP 0 rfl rfl 4 (by decide) (hts (.fieldLink RX9 35 "SoldHouse$Tokens" "behind" "I") (List.mem_of_getElem? (i := 2) rfl)) (fun _ h9 => h9) rfl dX9_readNumber_27 ?_
        refine va_bald hx hb hK hP 2 1 rfl rfl (zB_in bx16f_w5_TO_4 (by decide) (by decide)) dX9_readNumber_30 ?_
        refine lv_topi (fun y30 _ => ?_)
        have hPc := hP.sub (ws' := []) [] rfl
        refine vp_callSi (va_runS (As := [.int y30]) (rest := []) ⟨hx, hb, hml, hown, hts⟩ (c_X9_isDigit l D cI cB cL cZ cG y30) (va_cwS 1 hts gX9_readNumber_X9_isDigit rfl rfl rfl (by decide +kernel) ⟨Nat.le_of_ble_eq_true rfl, Nat.le_of_ble_eq_true rfl⟩) ⟨xr_blind, fun U hU hW => xr_mk hU hW hPc hK⟩ rfl rfl hl.1 rfl (lv_room (Nat.le_of_ble_eq_true rfl)) dX9_readNumber_31 ⟨Nat.le_of_ble_eq_true rfl, Nat.le_of_ble_eq_true rfl⟩).run (fun r31 hr31 => ?_)
        clear hPc
        rcases hr31 with rfl | ⟨rfl, hr31_1_0⟩
        · refine lv_if_eq (tgt := 77) hx hb dX9_readNumber_34 (by decide) (fun _ => ?_) (fun c34 => absurd (by decide) c34)
          exact j77 H locs ls hP hD hS (lv_sub hl [0] rfl)
        · refine lv_if_eq (tgt := 77) hx hb dX9_readNumber_34 (by decide) (fun c34 => absurd c34 (by decide)) (fun _ => ?_)
          refine lv_aload_n hx hb dX9_readNumber_37 rfl (lv_at hl 0 rfl) ?_
          refine lv_aload_n hx hb dX9_readNumber_38 rfl (lv_at hl 0 rfl) ?_
          refine va_get (D := D) (ci := 9) (v := .int w5_TO_6) (C := RX9) (T := TX9) (N := 7) hx hb hts iw_X9_readNumber_X9 hown hK hP 0 rfl rfl 6 (by decide) (hts (.fieldLink RX9 76 "SoldHouse$Tokens" "value" "I") (List.mem_of_getElem? (i := 1) rfl)) (fun _ h9 => h9) rfl dX9_readNumber_39 ?_
          refine lv_bipush (v := 10) hx hb dX9_readNumber_42 (by decide) ?_
          refine lv_imul hx hb dX9_readNumber_44 ?_
          refine lv_topi (fun y44 _ => ?_)
          refine lv_aload_n hx hb dX9_readNumber_45 rfl (lv_at hl 0 rfl) ?_
          refine va_get (D := D) (ci := 9) (v := .ref TA) (C := RX9) (T := TX9) (N := 7) hx hb hts iw_X9_readNumber_X9 hown hK hP 0 rfl rfl 0 (by decide) (hts (.fieldLink RX9 15 "SoldHouse$Tokens" "tape" "LSoldHouse$Tape;") (List.mem_of_getElem? (i := 3) rfl)) (fun _ h9 => h9) rfl dX9_readNumber_46 ?_
          refine va_get (D := D) (ci := 8) (v := .ref (aTA 0)) (C := RX8) (T := TX8) (N := 2) hx hb hts iw_X9_readNumber_X8 hown hK hP 1 rfl rfl 0 (by decide) (hts (.fieldLink RX9 47 "SoldHouse$Tape" "bytes" "[B") (List.mem_of_getElem? (i := 5) rfl)) (fun _ h9 => h9) rfl dX9_readNumber_49 ?_
          refine lv_aload_n hx hb dX9_readNumber_52 rfl (lv_at hl 0 rfl) ?_
          refine va_get (D := D) (ci := 9) (v := .int w5_TO_4) (C := RX9) (T := TX9) (N := 7) hx hb hts iw_X9_readNumber_X9 hown hK hP 0 rfl rfl 4 (by decide) (hts (.fieldLink RX9 35 "SoldHouse$Tokens" "behind" "I") (List.mem_of_getElem? (i := 2) rfl)) (fun _ h9 => h9) rfl dX9_readNumber_53 ?_
          refine va_bald hx hb hK hP 2 1 rfl rfl (zB_in bx16f_w5_TO_4 (by decide) (by decide)) dX9_readNumber_56 ?_
          refine lv_topi (fun y56 _ => ?_)
          refine lv_iadd hx hb dX9_readNumber_57 ?_
          refine lv_topi (fun y57 _ => ?_)
          refine lv_bipush (v := 48) hx hb dX9_readNumber_58 (by decide) ?_
          refine lv_isub hx hb dX9_readNumber_60 ?_
          refine lv_topi (fun y60 _ => ?_)
          refine va_put (D := D) (ci := 9) (v := .int y60) (ty := tyX9 6) (C := RX9) (T := TX9) (N := 7) hx hb hts iw_X9_readNumber_X9 tyX9 tyX9_ok nmX9 hown hK hP hD hS 0 rfl rfl 6 (by decide) (hts (.fieldLink RX9 76 "SoldHouse$Tokens" "value" "I") (List.mem_of_getElem? (i := 1) rfl)) (fun _ h9 => h9) rfl (by decide +kernel) rfl rfl (Nat.le_of_ble_eq_true rfl) dX9_readNumber_61 (fun H locs hP hD hS => ?_)
          replace hP : va_P D classes [(TO, .inr (9, oX9 TA aTO TO_kind TO_place w5_TO_4 TO_word y60)), (TA, .inr (8, oX8 aTA TA_size)), ((aTA 0), .inl (cB, 1600, .inl TA_bytes))] H := hP
          replace hD : va_D A [(TO, .inr (9, oX9 TA aTO TO_kind TO_place w5_TO_4 TO_word y60)), (TA, .inr (8, oX8 aTA TA_size)), ((aTA 0), .inl (cB, 1600, .inl TA_bytes))] := hD
          refine lv_aload_n hx hb dX9_readNumber_64 rfl (lv_at hl 0 rfl) ?_
          refine lv_dup hx hb dX9_readNumber_65 rfl ?_
          refine va_get (D := D) (ci := 9) (v := .int w5_TO_4) (C := RX9) (T := TX9) (N := 7) hx hb hts iw_X9_readNumber_X9 hown hK hP 0 rfl rfl 4 (by decide) (hts (.fieldLink RX9 35 "SoldHouse$Tokens" "behind" "I") (List.mem_of_getElem? (i := 2) rfl)) (fun _ h9 => h9) rfl dX9_readNumber_66 ?_
          refine lv_iconst (v := 1) hx hb dX9_readNumber_69 (by decide) ?_
          refine lv_iadd hx hb dX9_readNumber_70 ?_
          refine zi_top2 (P := fun y => y.toInt = w5_TO_4.toInt + 1) (a := 1) (b := 1600) (zB_add bx16f_w5_TO_4 (show zB 1 1 1 from ⟨by decide, by decide⟩) (by decide) (by decide) (by decide) (by decide)) (zR_addc bx16f_w5_TO_4 (by decide) (by decide) (by decide)) (fun y70 by70 ry70 => ?_)
          refine va_put (D := D) (ci := 9) (v := .int y70) (ty := tyX9 4) (C := RX9) (T := TX9) (N := 7) hx hb hts iw_X9_readNumber_X9 tyX9 tyX9_ok nmX9 hown hK hP hD hS 0 rfl rfl 4 (by decide) (hts (.fieldLink RX9 35 "SoldHouse$Tokens" "behind" "I") (List.mem_of_getElem? (i := 2) rfl)) (fun _ h9 => h9) rfl (by decide +kernel) rfl rfl (Nat.le_of_ble_eq_true rfl) dX9_readNumber_71 (fun H locs hP hD hS => ?_)
          replace hP : va_P D classes [(TO, .inr (9, oX9 TA aTO TO_kind TO_place y70 TO_word y60)), (TA, .inr (8, oX8 aTA TA_size)), ((aTA 0), .inl (cB, 1600, .inl TA_bytes))] H := hP
          replace hD : va_D A [(TO, .inr (9, oX9 TA aTO TO_kind TO_place y70 TO_word y60)), (TA, .inr (8, oX8 aTA TA_size)), ((aTA 0), .inl (cB, 1600, .inl TA_bytes))] := hD
          refine lv_goto (tgt := 5) hx hb dX9_readNumber_74 (by decide) ?_
          exact ih5 H locs ls y70 y60 (zB_w by70 (by decide) (by decide)) (zM_us (k := 1) hm5 ry70 (by decide)) hP hD hS (lv_sub hl [0] rfl)
  refine va_put (D := D) (ci := 9) (v := .int 0) (ty := tyX9 6) (C := RX9) (T := TX9) (N := 7) hx hb hts iw_X9_readNumber_X9 tyX9 tyX9_ok nmX9 hown hK hP hD hS 0 rfl rfl 6 (by decide) (hts (.fieldLink RX9 76 "SoldHouse$Tokens" "value" "I") (List.mem_of_getElem? (i := 1) rfl)) (fun _ h9 => h9) rfl (by decide +kernel) rfl rfl (Nat.le_of_ble_eq_true rfl) dX9_readNumber_2 (fun H locs hP hD hS => ?_)
  replace hP : va_P D classes [(TO, .inr (9, oX9 TA aTO TO_kind TO_place TO_behind TO_word 0)), (TA, .inr (8, oX8 aTA TA_size)), ((aTA 0), .inl (cB, 1600, .inl TA_bytes))] H := hP
  replace hD : va_D A [(TO, .inr (9, oX9 TA aTO TO_kind TO_place TO_behind TO_word 0)), (TA, .inr (8, oX8 aTA TA_size)), ((aTA 0), .inl (cB, 1600, .inl TA_bytes))] := hD
  exact j5 1601 H locs ls TO_behind 0 b_TO_behind (zM_ui b_TO_behind (by decide)) hP hD hS (lv_sub hl [0] rfl)
set_option maxHeartbeats 4000000 in
set_option maxRecDepth 100000 in
theorem c_J0_isLatin1_aae02 (l : Launch) (D : va_G) (cI : ClassId) (cB : ClassId) (cL : ClassId) (cZ : ClassId) (cG : ClassId) (aS : Nat) (vS : Nat) : Met l yJ0_isLatin1_aae02 wsJ0_isLatin1_aae02 ({ frames := 0, cells := 0, slots := 0, locals := 0 }) (xrT D [(cI, .int), (cB, .byte), (cL, .long), (cZ, .boolean), (cG, .array .int)] [] aS vS [.ref aS]) (vp_Si (fun r => zB r 1 1)) 0 0 (fun _ => False) := by
  refine Met.ofW (cc := cJ0_isLatin1_aae02) (maxL := 1) (ret := (some .boolean)) (by decide) rfl ?_
  intro p e s m args below meth c s₁ B hml hv
  obtain ⟨rfl, hP, hK, hStr⟩ := hv
  have hS : va_S (fun _ : Nat => False) s.heap s.heap [] := va_S.rf
  have hx := B.exec
  have hb := B.bytes
  have hr := B.returns
  have hts := atoms_spec (ws := wsJ0_isLatin1_aae02) B.pre
  have hown : s.vm.findClass RJ0 = some m.cls := findClass_of_methodNamed B.named
  have hlocks := B.notSynchronized
  clear B
  have hl := lv_entry ([.ref aS]) (n := 1) (Nat.le_of_ble_eq_true rfl)
  rw [lg_entry_eq]
  generalize (lg_sl ([.ref aS]) ++ List.replicate (1 - (lg_sl ([.ref aS])).length) Slot.unset).toArray = ls at hl ⊢
  replace hl : lv_has ls 1 [(0, .ref aS)] := hl
  refine va_gets (v := .int 1) hx hb hStr.2.2.2.2.2 hS hown (hts (.fieldLink RJ0 38 "java/lang/String" "COMPACT_STRINGS" "Z") (List.mem_of_getElem? (i := 1) rfl)) (fun _ h => h) dJ0_isLatin1_aae02_0 ?_
  refine lv_if_eq (tgt := 17) hx hb dJ0_isLatin1_aae02_3 (by decide) (fun c3 => absurd c3 (by decide)) (fun _ => ?_)
  refine lv_aload_n hx hb dJ0_isLatin1_aae02_6 rfl (lv_at hl 0 rfl) ?_
  refine vk_getf (v := .int 0) hx hb hStr.2.2.1 hS hown (hts (.fieldLink RJ0 15 "java/lang/String" "coder" "B") (List.mem_of_getElem? (i := 2) rfl)) (fun _ h => h) dJ0_isLatin1_aae02_7 ?_
  refine lv_if_ne (tgt := 17) hx hb dJ0_isLatin1_aae02_10 (by decide) (fun c10 => absurd (by decide) c10) (fun _ => ?_)
  refine lv_iconst (v := 1) hx hb dJ0_isLatin1_aae02_13 (by decide) ?_
  refine lv_goto (tgt := 18) hx hb dJ0_isLatin1_aae02_14 (by decide) ?_
  exact W.zret (v := 1) (ty := .boolean) hx hb hr (by decide) (fun t ht hW => ⟨1, rfl, (show zB 1 1 1 from ⟨by decide, by decide⟩), ht⟩) (fun q hq => by cases hq) dJ0_isLatin1_aae02_18
set_option maxHeartbeats 4000000 in
set_option maxRecDepth 100000 in
theorem c_J0_coder_7d493 (l : Launch) (D : va_G) (cI : ClassId) (cB : ClassId) (cL : ClassId) (cZ : ClassId) (cG : ClassId) (aS : Nat) (vS : Nat) : Met l yJ0_coder_7d493 wsJ0_coder_7d493 ({ frames := 0, cells := 0, slots := 0, locals := 0 }) (xrT D [(cI, .int), (cB, .byte), (cL, .long), (cZ, .boolean), (cG, .array .int)] [] aS vS [.ref aS]) (vp_Si (fun r => zB r 0 0)) 0 0 (fun _ => False) := by
  refine Met.ofW (cc := cJ0_coder_7d493) (maxL := 1) (ret := (some .byte)) (by decide) rfl ?_
  intro p e s m args below meth c s₁ B hml hv
  obtain ⟨rfl, hP, hK, hStr⟩ := hv
  have hS : va_S (fun _ : Nat => False) s.heap s.heap [] := va_S.rf
  have hx := B.exec
  have hb := B.bytes
  have hr := B.returns
  have hts := atoms_spec (ws := wsJ0_coder_7d493) B.pre
  have hown : s.vm.findClass RJ0 = some m.cls := findClass_of_methodNamed B.named
  have hlocks := B.notSynchronized
  clear B
  have hl := lv_entry ([.ref aS]) (n := 1) (Nat.le_of_ble_eq_true rfl)
  rw [lg_entry_eq]
  generalize (lg_sl ([.ref aS]) ++ List.replicate (1 - (lg_sl ([.ref aS])).length) Slot.unset).toArray = ls at hl ⊢
  replace hl : lv_has ls 1 [(0, .ref aS)] := hl
  refine va_gets (v := .int 1) hx hb hStr.2.2.2.2.2 hS hown (hts (.fieldLink RJ0 38 "java/lang/String" "COMPACT_STRINGS" "Z") (List.mem_of_getElem? (i := 1) rfl)) (fun _ h => h) dJ0_coder_7d493_0 ?_
  refine lv_if_eq (tgt := 13) hx hb dJ0_coder_7d493_3 (by decide) (fun c3 => absurd c3 (by decide)) (fun _ => ?_)
  refine lv_aload_n hx hb dJ0_coder_7d493_6 rfl (lv_at hl 0 rfl) ?_
  refine vk_getf (v := .int 0) hx hb hStr.2.2.1 hS hown (hts (.fieldLink RJ0 15 "java/lang/String" "coder" "B") (List.mem_of_getElem? (i := 2) rfl)) (fun _ h => h) dJ0_coder_7d493_7 ?_
  refine lv_goto (tgt := 14) hx hb dJ0_coder_7d493_10 (by decide) ?_
  exact W.zret (v := 0) (ty := .byte) hx hb hr (by decide) (fun t ht hW => ⟨0, rfl, (show zB 0 0 0 from ⟨by decide, by decide⟩), ht⟩) (fun q hq => by cases hq) dJ0_coder_7d493_14
set_option maxHeartbeats 4000000 in
set_option maxRecDepth 100000 in
theorem c_J0_length_8abf5 (l : Launch) (D : va_G) (cI : ClassId) (cB : ClassId) (cL : ClassId) (cZ : ClassId) (cG : ClassId) (aS : Nat) (vS : Nat) : Met l yJ0_length_8abf5 wsJ0_length_8abf5 ({ frames := 1, cells := 0, slots := 0, locals := 20 }) (xrT D [(cI, .int), (cB, .byte), (cL, .long), (cZ, .boolean), (cG, .array .int)] [] aS vS [.ref aS]) (vp_Si (fun r => zB r 11 11)) 0 0 (fun _ => False) := by
  refine Met.ofW (cc := cJ0_length_8abf5) (maxL := 1) (ret := (some .int)) (by decide) rfl ?_
  intro p e s m args below meth c s₁ B hml hv
  obtain ⟨rfl, hP, hK, hStr⟩ := hv
  have hS : va_S (fun _ : Nat => False) s.heap s.heap [] := va_S.rf
  have hx := B.exec
  have hb := B.bytes
  have hr := B.returns
  have hts := atoms_spec (ws := wsJ0_length_8abf5) B.pre
  have hown : s.vm.findClass RJ0 = some m.cls := findClass_of_methodNamed B.named
  have hlocks := B.notSynchronized
  clear B
  have hl := lv_entry ([.ref aS]) (n := 1) (Nat.le_of_ble_eq_true rfl)
  rw [lg_entry_eq]
  generalize (lg_sl ([.ref aS]) ++ List.replicate (1 - (lg_sl ([.ref aS])).length) Slot.unset).toArray = ls at hl ⊢
  replace hl : lv_has ls 1 [(0, .ref aS)] := hl
  refine lv_aload_n hx hb dJ0_length_8abf5_0 rfl (lv_at hl 0 rfl) ?_
  refine vk_getf (v := .ref vS) hx hb hStr.2.2.2.1 hS hown (hts (.fieldLink RJ0 9 "java/lang/String" "value" "[B") (List.mem_of_getElem? (i := 1) rfl)) (fun _ h => h) dJ0_length_8abf5_1 ?_
  refine va_tlen (v := 11) hx hb hStr.2.2.2.2.1 hS rfl dJ0_length_8abf5_4 ?_
  refine lv_aload_n hx hb dJ0_length_8abf5_5 rfl (lv_at hl 0 rfl) ?_
  have hPc := hP.sub (ws' := []) [] rfl
  refine vp_callSi (va_runV (As := []) (rest := [.int 11]) ⟨hx, hb, hml, hown, hts⟩ (c_J0_coder_7d493 l D cI cB cL cZ cG aS vS) (cwV 0 hts gJ0_length_8abf5_J0_coder_7d493 rfl rfl rfl (by decide +kernel) ⟨Nat.le_of_ble_eq_true rfl, Nat.le_of_ble_eq_true rfl⟩) ⟨xrT_blind, xT.recv hStr hS, fun U hU hW => xrT_mk hU hW hPc hK hStr hS⟩ rfl rfl hl.1 rfl (lv_room (Nat.le_of_ble_eq_true rfl)) dJ0_length_8abf5_6 ⟨Nat.le_of_ble_eq_true rfl, Nat.le_of_ble_eq_true rfl⟩).run (fun r6 hr6 => ?_)
  clear hPc
  obtain rfl : r6 = 0 := zB_cst hr6 (by decide)
  refine lv_ishr hx hb dJ0_length_8abf5_9 ?_
  refine lv_topi (fun y9 ey9 => ?_)
  obtain rfl : y9 = 11 := ey9.trans (by decide)
  exact W.iret (v := 11) hx hb hr (fun t ht hW => ⟨11, rfl, (show zB 11 11 11 from ⟨by decide, by decide⟩), ht⟩) (fun q hq => by cases hq) dJ0_length_8abf5_10
set_option maxHeartbeats 4000000 in
set_option maxRecDepth 100000 in
theorem c_J1_canEncode_9a6ad (l : Launch) (D : va_G) (cI : ClassId) (cB : ClassId) (cL : ClassId) (cZ : ClassId) (cG : ClassId) (x0 : Int32) : Met l yJ1_canEncode_9a6ad wsJ1_canEncode_9a6ad ({ frames := 0, cells := 0, slots := 0, locals := 0 }) (xr D [(cI, .int), (cB, .byte), (cL, .long), (cZ, .boolean), (cG, .array .int)] [] [.int x0]) (vp_Si (fun r => (r = 0) ∨ (r = 1 ∧ zB x0 0 255))) 0 0 (fun _ => False) := by
  refine Met.ofW (cc := cJ1_canEncode_9a6ad) (maxL := 1) (ret := (some .boolean)) (by decide) rfl ?_
  intro p e s m args below meth c s₁ B hml hv
  obtain ⟨rfl, hP, hK⟩ := hv
  have hx := B.exec
  have hb := B.bytes
  have hr := B.returns
  have hts := atoms_spec (ws := wsJ1_canEncode_9a6ad) B.pre
  have hown : s.vm.findClass RJ1 = some m.cls := findClass_of_methodNamed B.named
  have hlocks := B.notSynchronized
  clear B
  have hl := lv_entry ([.int x0]) (n := 1) (Nat.le_of_ble_eq_true rfl)
  rw [lg_entry_eq]
  generalize (lg_sl ([.int x0]) ++ List.replicate (1 - (lg_sl ([.int x0])).length) Slot.unset).toArray = ls at hl ⊢
  replace hl : lv_has ls 1 [(0, .int x0)] := hl
  refine lv_iload_n hx hb dJ1_canEncode_9a6ad_0 rfl (lv_at hl 0 rfl) ?_
  refine lv_if_lt (tgt := 15) hx hb dJ1_canEncode_9a6ad_1 (by decide) (fun c1 => ?_) (fun c1 => ?_)
  · have bx1t_x0 : zB x0 (-2147483648) (-1) := zB_ltu (zl c1) (zB_top x0) (show zB 0 0 0 from ⟨by decide, by decide⟩) (by decide)
    refine lv_iconst (v := 0) hx hb dJ1_canEncode_9a6ad_15 (by decide) ?_
    exact W.zret (v := 0) (ty := .boolean) hx hb hr (by decide) (fun t ht hW => ⟨0, rfl, Or.inl rfl, ht⟩) (fun q hq => by cases hq) dJ1_canEncode_9a6ad_16
  · have by1f_x0 : zB x0 0 2147483647 := zB_lev (zg c1) (show zB 0 0 0 from ⟨by decide, by decide⟩) (zB_top x0) (by decide)
    refine lv_iload_n hx hb dJ1_canEncode_9a6ad_4 rfl (lv_at hl 0 rfl) ?_
    refine lv_sipush (v := 255) hx hb dJ1_canEncode_9a6ad_5 (by decide) ?_
    refine lv_icmp_gt (tgt := 15) hx hb dJ1_canEncode_9a6ad_8 (by decide) (fun c8 => ?_) (fun c8 => ?_)
    · have by8t_x0 : zB x0 256 2147483647 := zB_ltv (zl c8) (show zB 255 255 255 from ⟨by decide, by decide⟩) by1f_x0 (by decide)
      refine lv_iconst (v := 0) hx hb dJ1_canEncode_9a6ad_15 (by decide) ?_
      exact W.zret (v := 0) (ty := .boolean) hx hb hr (by decide) (fun t ht hW => ⟨0, rfl, Or.inl rfl, ht⟩) (fun q hq => by cases hq) dJ1_canEncode_9a6ad_16
    · have bx8f_x0 : zB x0 0 255 := zB_leu (zg c8) by1f_x0 (show zB 255 255 255 from ⟨by decide, by decide⟩) (by decide)
      refine lv_iconst (v := 1) hx hb dJ1_canEncode_9a6ad_11 (by decide) ?_
      refine lv_goto (tgt := 16) hx hb dJ1_canEncode_9a6ad_12 (by decide) ?_
      exact W.zret (v := 1) (ty := .boolean) hx hb hr (by decide) (fun t ht hW => ⟨1, rfl, Or.inr (⟨rfl, bx8f_x0⟩), ht⟩) (fun q hq => by cases hq) dJ1_canEncode_9a6ad_16
set_option maxHeartbeats 4000000 in
set_option maxRecDepth 100000 in
theorem c_J1_indexOfChar_4cfef (l : Launch) (D : va_G) (cI : ClassId) (cB : ClassId) (cL : ClassId) (cZ : ClassId) (cG : ClassId) (aS : Nat) (vS : Nat) (x1 : Int32) : Met l yJ1_indexOfChar_4cfef wsJ1_indexOfChar_4cfef ({ frames := 0, cells := 0, slots := 0, locals := 0 }) (xrT D [(cI, .int), (cB, .byte), (cL, .long), (cZ, .boolean), (cG, .array .int)] [] aS vS [.ref vS, .int x1, .int 0, .int 11]) (vp_Si (fun r => zB r (-1) 10)) 0 0 (fun _ => False) := by
  refine Met.ofW (cc := cJ1_indexOfChar_4cfef) (maxL := 6) (ret := (some .int)) (by decide) rfl ?_
  intro p e s m args below meth c s₁ B hml hv
  obtain ⟨rfl, hP, hK, hStr⟩ := hv
  have hS : va_S (fun _ : Nat => False) s.heap s.heap [] := va_S.rf
  have hx := B.exec
  have hb := B.bytes
  have hr := B.returns
  have hts := atoms_spec (ws := wsJ1_indexOfChar_4cfef) B.pre
  have hown : s.vm.findClass RJ1 = some m.cls := findClass_of_methodNamed B.named
  have hlocks := B.notSynchronized
  clear B
  have hl := lv_entry ([.ref vS, .int x1, .int 0, .int 11]) (n := 6) (Nat.le_of_ble_eq_true rfl)
  rw [lg_entry_eq]
  generalize (lg_sl ([.ref vS, .int x1, .int 0, .int 11]) ++ List.replicate (6 - (lg_sl ([.ref vS, .int x1, .int 0, .int 11])).length) Slot.unset).toArray = ls at hl ⊢
  replace hl : lv_has ls 6 [(0, .ref vS), (1, .int x1), (2, .int 0), (3, .int 11)] := hl
  refine zz_abs (R := ({ frames := 0, cells := 0, slots := 0, locals := 0 } : Room)) (fun Q up => ?_)
  refine lv_iload_n hx hb dJ1_indexOfChar_4cfef_0 rfl (lv_at hl 1 rfl) ?_
  refine lv_i2b hx hb dJ1_indexOfChar_4cfef_1 rfl ?_
  refine lv_topi (fun y1 _ => ?_)
  refine lv_istore (lv' := [(4, .int y1), (0, .ref vS), (1, .int x1), (2, .int 0), (3, .int 11)]) hx hb dJ1_indexOfChar_4cfef_2 hl (by decide) rfl (fun ls hl => ?_)
  refine lv_iload_n hx hb dJ1_indexOfChar_4cfef_4 rfl (lv_at hl 3 rfl) ?_
  have j7 : ∀ (n7 : Nat) (ls : Array Slot) (v7_5 : Int32), zB v7_5 0 11 → (11 + 1 - v7_5.toInt) ≤ (n7 : Int) → lv_has ls 6 [(5, .int v7_5), (4, .int y1), (0, .ref vS), (1, .int x1), (2, .int 0), (3, .int 11)] → W p l e ({ frames := 0, cells := 0, slots := 0, locals := 0 } : Room) s m ([.ref vS, .int x1, .int 0, .int 11] : List Value).toArray below meth c s.heap [] 0 0 Q (F0 m 7 ls []) := by
    intro n7
    induction n7 with
    | zero => intro ls v7_5 bv7_5_k7 hm7 hl; exact zM_u0 bv7_5_k7 hm7
    | succ n7 ih7 =>
      intro ls v7_5 bv7_5_k7 hm7 hl
      refine lv_iload hx hb dJ1_indexOfChar_4cfef_7 (lv_at hl 0 rfl) ?_
      refine lv_iload_n hx hb dJ1_indexOfChar_4cfef_9 rfl (lv_at hl 5 rfl) ?_
      refine lv_icmp_ge (tgt := 31) hx hb dJ1_indexOfChar_4cfef_10 (by decide) (fun c10 => ?_) (fun c10 => ?_)
      · have by10t_v7_5 : zB v7_5 11 11 := zB_lev (ze c10) (show zB 11 11 11 from ⟨by decide, by decide⟩) bv7_5_k7 (by decide)
        refine lv_iconst (v := (-1)) hx hb dJ1_indexOfChar_4cfef_31 (by decide) ?_
        exact up _ _ _ (W.iret (v := (-1)) hx hb hr (fun t ht hW => ⟨(-1), rfl, (zB_w (show zB (-1) (-1) (-1) from ⟨by decide, by decide⟩) (by decide) (by decide)), ht⟩) (fun q hq => by cases hq) dJ1_indexOfChar_4cfef_32)
      · have bx10f_v7_5 : zB v7_5 0 10 := zB_ltu (zf c10) bv7_5_k7 (show zB 11 11 11 from ⟨by decide, by decide⟩) (by decide)
        refine lv_aload_n hx hb dJ1_indexOfChar_4cfef_13 rfl (lv_at hl 2 rfl) ?_
        refine lv_iload hx hb dJ1_indexOfChar_4cfef_14 (lv_at hl 0 rfl) ?_
        refine va_tb (v := .int (xBs.getD (v7_5).toNatClampNeg 0)) hx hb hStr.2.2.2.2.1 hS (zB_in bx10f_v7_5 (by decide) (by decide)) rfl dJ1_indexOfChar_4cfef_16 ?_
        refine lv_topi (fun y16 _ => ?_)
        refine lv_iload hx hb dJ1_indexOfChar_4cfef_17 (lv_at hl 1 rfl) ?_
        refine lv_icmp_ne (tgt := 25) hx hb dJ1_indexOfChar_4cfef_19 (by decide) (fun c19 => ?_) (fun c19 => ?_)
        · obtain ⟨y25, by25, ry25, ey25⟩ := zi_inc (x := v7_5) (k := 1) (a := 1) (b := 11) bx10f_v7_5 (by decide) (by decide) (by decide) (by decide) (by decide)
          refine lv_iinc (v := y25) (lv' := [(5, .int y25), (4, .int y1), (0, .ref vS), (1, .int x1), (2, .int 0), (3, .int 11)]) hx hb dJ1_indexOfChar_4cfef_25 hl (k := 0) rfl ey25 (by decide) rfl (fun ls hl => ?_)
          refine lv_goto (tgt := 7) hx hb dJ1_indexOfChar_4cfef_28 (by decide) ?_
          exact ih7 ls y25 (zB_w by25 (by decide) (by decide)) (zM_us (k := 1) hm7 ry25 (by decide)) (lv_sub hl [0, 1, 2, 3, 4, 5] rfl)
        · refine lv_iload hx hb dJ1_indexOfChar_4cfef_22 (lv_at hl 0 rfl) ?_
          exact up _ _ _ (W.iret (v := v7_5) hx hb hr (fun t ht hW => ⟨v7_5, rfl, (zB_w bx10f_v7_5 (by decide) (by decide)), ht⟩) (fun q hq => by cases hq) dJ1_indexOfChar_4cfef_24)
  refine lv_istore (lv' := [(5, .int 0), (4, .int y1), (0, .ref vS), (1, .int x1), (2, .int 0), (3, .int 11)]) hx hb dJ1_indexOfChar_4cfef_5 hl (by decide) rfl (fun ls hl => ?_)
  exact j7 12 ls 0 (zB_w (show zB 0 0 0 from ⟨by decide, by decide⟩) (by decide) (by decide)) (zM_ui (show zB 0 0 0 from ⟨by decide, by decide⟩) (by decide)) (lv_sub hl [0, 1, 2, 3, 4, 5] rfl)
set_option maxHeartbeats 4000000 in
set_option maxRecDepth 100000 in
theorem c_J1_indexOf_4cfef (l : Launch) (D : va_G) (cI : ClassId) (cB : ClassId) (cL : ClassId) (cZ : ClassId) (cG : ClassId) (aS : Nat) (vS : Nat) (x1 : Int32) : Met l yJ1_indexOf_4cfef wsJ1_indexOf_4cfef ({ frames := 1, cells := 0, slots := 0, locals := 25 }) (xrT D [(cI, .int), (cB, .byte), (cL, .long), (cZ, .boolean), (cG, .array .int)] [] aS vS [.ref vS, .int x1, .int 0, .int 11]) (vp_Si (fun r => zB r (-1) 10)) 0 0 (fun _ => False) := by
  refine Met.ofW (cc := cJ1_indexOf_4cfef) (maxL := 4) (ret := (some .int)) (by decide) rfl ?_
  intro p e s m args below meth c s₁ B hml hv
  obtain ⟨rfl, hP, hK, hStr⟩ := hv
  have hS : va_S (fun _ : Nat => False) s.heap s.heap [] := va_S.rf
  have hx := B.exec
  have hb := B.bytes
  have hr := B.returns
  have hts := atoms_spec (ws := wsJ1_indexOf_4cfef) B.pre
  have hown : s.vm.findClass RJ1 = some m.cls := findClass_of_methodNamed B.named
  have hlocks := B.notSynchronized
  clear B
  have hl := lv_entry ([.ref vS, .int x1, .int 0, .int 11]) (n := 4) (Nat.le_of_ble_eq_true rfl)
  rw [lg_entry_eq]
  generalize (lg_sl ([.ref vS, .int x1, .int 0, .int 11]) ++ List.replicate (4 - (lg_sl ([.ref vS, .int x1, .int 0, .int 11])).length) Slot.unset).toArray = ls at hl ⊢
  replace hl : lv_has ls 4 [(0, .ref vS), (1, .int x1), (2, .int 0), (3, .int 11)] := hl
  refine lv_iload_n hx hb dJ1_indexOf_4cfef_0 rfl (lv_at hl 1 rfl) ?_
  have hPc := hP.sub (ws' := []) [] rfl
  refine vp_callSi (va_runS (As := [.int x1]) (rest := []) ⟨hx, hb, hml, hown, hts⟩ (c_J1_canEncode_9a6ad l D cI cB cL cZ cG x1) (va_cwS 1 hts gJ1_indexOf_4cfef_J1_canEncode_9a6ad rfl rfl rfl (by decide +kernel) ⟨Nat.le_of_ble_eq_true rfl, Nat.le_of_ble_eq_true rfl⟩) ⟨xr_blind, fun U hU hW => xr_mk hU hW hPc hK⟩ rfl rfl hl.1 rfl (lv_room (Nat.le_of_ble_eq_true rfl)) dJ1_indexOf_4cfef_1 ⟨Nat.le_of_ble_eq_true rfl, Nat.le_of_ble_eq_true rfl⟩).run (fun r1 hr1 => ?_)
  clear hPc
  rcases hr1 with rfl | ⟨rfl, hr1_1_0⟩
  · refine lv_if_ne (tgt := 9) hx hb dJ1_indexOf_4cfef_4 (by decide) (fun c4 => absurd (by decide) c4) (fun _ => ?_)
    refine lv_iconst (v := (-1)) hx hb dJ1_indexOf_4cfef_7 (by decide) ?_
    exact W.iret (v := (-1)) hx hb hr (fun t ht hW => ⟨(-1), rfl, (zB_w (show zB (-1) (-1) (-1) from ⟨by decide, by decide⟩) (by decide) (by decide)), ht⟩) (fun q hq => by cases hq) dJ1_indexOf_4cfef_8
  · refine lv_if_ne (tgt := 9) hx hb dJ1_indexOf_4cfef_4 (by decide) (fun _ => ?_) (fun c4 => absurd c4 (by decide))
    refine lv_iload_n hx hb dJ1_indexOf_4cfef_9 rfl (lv_at hl 2 rfl) ?_
    refine lv_iconst (v := 0) hx hb dJ1_indexOf_4cfef_10 (by decide) ?_
    refine va_mmax hx hb (by rw [hml]; exact hl.1.symm) hown (hts (.methodLink RJ1 92 Lib.Math.max.name) (List.mem_of_getElem? (i := 1) rfl)) (hts (.static Lib.Math.max.name) (List.mem_of_getElem? (i := 2) rfl)) (hts (.initialized "java/lang/Math") (List.mem_of_getElem? (i := 3) rfl)) (hts (.code Lib.Math.max.name Lib.Math.max.code 2 (some .int)) (List.mem_of_getElem? (i := 4) rfl)) (Nat.le_of_ble_eq_true rfl) (Nat.le_of_ble_eq_true rfl) (Nat.le_of_ble_eq_true rfl) (Nat.le_of_ble_eq_true rfl) dJ1_indexOf_4cfef_11 ?_
    refine lv_topi (fun y11 ey11 => ?_)
    obtain rfl : y11 = 0 := ey11.trans (by decide)
    refine lv_istore_n (lv' := [(2, .int 0), (0, .ref vS), (1, .int x1), (3, .int 11)]) hx hb dJ1_indexOf_4cfef_14 rfl hl (by decide) rfl (fun ls hl => ?_)
    refine lv_iload_n hx hb dJ1_indexOf_4cfef_15 rfl (lv_at hl 3 rfl) ?_
    refine lv_aload_n hx hb dJ1_indexOf_4cfef_16 rfl (lv_at hl 1 rfl) ?_
    refine va_tlen (v := 11) hx hb hStr.2.2.2.2.1 hS rfl dJ1_indexOf_4cfef_17 ?_
    refine va_mmin hx hb (by rw [hml]; exact hl.1.symm) hown (hts (.methodLink RJ1 38 Lib.Math.min.name) (List.mem_of_getElem? (i := 5) rfl)) (hts (.static Lib.Math.min.name) (List.mem_of_getElem? (i := 6) rfl)) (hts (.initialized "java/lang/Math") (List.mem_of_getElem? (i := 3) rfl)) (hts (.code Lib.Math.min.name Lib.Math.min.code 2 (some .int)) (List.mem_of_getElem? (i := 7) rfl)) (Nat.le_of_ble_eq_true rfl) (Nat.le_of_ble_eq_true rfl) (Nat.le_of_ble_eq_true rfl) (Nat.le_of_ble_eq_true rfl) dJ1_indexOf_4cfef_18 ?_
    refine lv_topi (fun y18 ey18 => ?_)
    obtain rfl : y18 = 11 := ey18.trans (by decide)
    refine lv_istore_n (lv' := [(3, .int 11), (2, .int 0), (0, .ref vS), (1, .int x1)]) hx hb dJ1_indexOf_4cfef_21 rfl hl (by decide) rfl (fun ls hl => ?_)
    refine lv_iload_n hx hb dJ1_indexOf_4cfef_22 rfl (lv_at hl 1 rfl) ?_
    refine lv_iload_n hx hb dJ1_indexOf_4cfef_23 rfl (lv_at hl 0 rfl) ?_
    refine lv_icmp_lt (tgt := 29) hx hb dJ1_indexOf_4cfef_24 (by decide) (fun _ => ?_) (fun c24 => absurd (by decide) c24)
    refine lv_aload_n hx hb dJ1_indexOf_4cfef_29 rfl (lv_at hl 2 rfl) ?_
    refine lv_iload_n hx hb dJ1_indexOf_4cfef_30 rfl (lv_at hl 3 rfl) ?_
    refine lv_iload_n hx hb dJ1_indexOf_4cfef_31 rfl (lv_at hl 1 rfl) ?_
    refine lv_iload_n hx hb dJ1_indexOf_4cfef_32 rfl (lv_at hl 0 rfl) ?_
    have hPc := hP.sub (ws' := []) [] rfl
    refine vp_callSi (va_runS (As := [.ref vS, .int x1, .int 0, .int 11]) (rest := []) ⟨hx, hb, hml, hown, hts⟩ (c_J1_indexOfChar_4cfef l D cI cB cL cZ cG aS vS x1) (va_cwS 4 hts gJ1_indexOf_4cfef_J1_indexOfChar_4cfef rfl rfl rfl (by decide +kernel) ⟨Nat.le_of_ble_eq_true rfl, Nat.le_of_ble_eq_true rfl⟩) ⟨xrT_blind, fun U hU hW => xrT_mk hU hW hPc hK hStr hS⟩ rfl rfl hl.1 rfl (lv_room (Nat.le_of_ble_eq_true rfl)) dJ1_indexOf_4cfef_33 ⟨Nat.le_of_ble_eq_true rfl, Nat.le_of_ble_eq_true rfl⟩).run (fun r33 hr33 => ?_)
    clear hPc
    exact W.iret (v := r33) hx hb hr (fun t ht hW => ⟨r33, rfl, hr33, ht⟩) (fun q hq => by cases hq) dJ1_indexOf_4cfef_36
set_option maxHeartbeats 4000000 in
set_option maxRecDepth 100000 in
theorem c_J0_indexOf_7cf53 (l : Launch) (D : va_G) (cI : ClassId) (cB : ClassId) (cL : ClassId) (cZ : ClassId) (cG : ClassId) (aS : Nat) (vS : Nat) (x0 : Int32) : Met l yJ0_indexOf_7cf53 wsJ0_indexOf_7cf53 ({ frames := 2, cells := 0, slots := 0, locals := 48 }) (xrT D [(cI, .int), (cB, .byte), (cL, .long), (cZ, .boolean), (cG, .array .int)] [] aS vS [.ref aS, .int x0, .int 0]) (vp_Si (fun r => zB r (-1) 10)) 0 0 (fun _ => False) := by
  refine Met.ofW (cc := cJ0_indexOf_7cf53) (maxL := 3) (ret := (some .int)) (by decide) rfl ?_
  intro p e s m args below meth c s₁ B hml hv
  obtain ⟨rfl, hP, hK, hStr⟩ := hv
  have hS : va_S (fun _ : Nat => False) s.heap s.heap [] := va_S.rf
  have hx := B.exec
  have hb := B.bytes
  have hr := B.returns
  have hts := atoms_spec (ws := wsJ0_indexOf_7cf53) B.pre
  have hown : s.vm.findClass RJ0 = some m.cls := findClass_of_methodNamed B.named
  have hlocks := B.notSynchronized
  clear B
  have hl := lv_entry ([.ref aS, .int x0, .int 0]) (n := 3) (Nat.le_of_ble_eq_true rfl)
  rw [lg_entry_eq]
  generalize (lg_sl ([.ref aS, .int x0, .int 0]) ++ List.replicate (3 - (lg_sl ([.ref aS, .int x0, .int 0])).length) Slot.unset).toArray = ls at hl ⊢
  replace hl : lv_has ls 3 [(0, .ref aS), (1, .int x0), (2, .int 0)] := hl
  refine lv_aload_n hx hb dJ0_indexOf_7cf53_0 rfl (lv_at hl 0 rfl) ?_
  have hPc := hP.sub (ws' := []) [] rfl
  refine vp_callSi (va_runV (As := []) (rest := []) ⟨hx, hb, hml, hown, hts⟩ (c_J0_isLatin1_aae02 l D cI cB cL cZ cG aS vS) (cwV 0 hts gJ0_indexOf_7cf53_J0_isLatin1_aae02 rfl rfl rfl (by decide +kernel) ⟨Nat.le_of_ble_eq_true rfl, Nat.le_of_ble_eq_true rfl⟩) ⟨xrT_blind, xT.recv hStr hS, fun U hU hW => xrT_mk hU hW hPc hK hStr hS⟩ rfl rfl hl.1 rfl (lv_room (Nat.le_of_ble_eq_true rfl)) dJ0_indexOf_7cf53_1 ⟨Nat.le_of_ble_eq_true rfl, Nat.le_of_ble_eq_true rfl⟩).run (fun r1 hr1 => ?_)
  clear hPc
  obtain rfl : r1 = 1 := zB_cst hr1 (by decide)
  refine lv_if_eq (tgt := 23) hx hb dJ0_indexOf_7cf53_4 (by decide) (fun c4 => absurd c4 (by decide)) (fun _ => ?_)
  refine lv_aload_n hx hb dJ0_indexOf_7cf53_7 rfl (lv_at hl 0 rfl) ?_
  refine vk_getf (v := .ref vS) hx hb hStr.2.2.2.1 hS hown (hts (.fieldLink RJ0 9 "java/lang/String" "value" "[B") (List.mem_of_getElem? (i := 1) rfl)) (fun _ h => h) dJ0_indexOf_7cf53_8 ?_
  refine lv_iload_n hx hb dJ0_indexOf_7cf53_11 rfl (lv_at hl 1 rfl) ?_
  refine lv_iload_n hx hb dJ0_indexOf_7cf53_12 rfl (lv_at hl 2 rfl) ?_
  refine lv_aload_n hx hb dJ0_indexOf_7cf53_13 rfl (lv_at hl 0 rfl) ?_
  have hPc := hP.sub (ws' := []) [] rfl
  refine vp_callSi (va_runV (As := []) (rest := [.int 0, .int x0, .ref vS]) ⟨hx, hb, hml, hown, hts⟩ (c_J0_length_8abf5 l D cI cB cL cZ cG aS vS) (cwV 0 hts gJ0_indexOf_7cf53_J0_length_8abf5 rfl rfl rfl (by decide +kernel) ⟨Nat.le_of_ble_eq_true rfl, Nat.le_of_ble_eq_true rfl⟩) ⟨xrT_blind, xT.recv hStr hS, fun U hU hW => xrT_mk hU hW hPc hK hStr hS⟩ rfl rfl hl.1 rfl (lv_room (Nat.le_of_ble_eq_true rfl)) dJ0_indexOf_7cf53_14 ⟨Nat.le_of_ble_eq_true rfl, Nat.le_of_ble_eq_true rfl⟩).run (fun r14 hr14 => ?_)
  clear hPc
  obtain rfl : r14 = 11 := zB_cst hr14 (by decide)
  have hPc := hP.sub (ws' := []) [] rfl
  refine vp_callSi (va_runS (As := [.ref vS, .int x0, .int 0, .int 11]) (rest := []) ⟨hx, hb, hml, hown, hts⟩ (c_J1_indexOf_4cfef l D cI cB cL cZ cG aS vS x0) (va_cwS 4 hts gJ0_indexOf_7cf53_J1_indexOf_4cfef rfl rfl rfl (by decide +kernel) ⟨Nat.le_of_ble_eq_true rfl, Nat.le_of_ble_eq_true rfl⟩) ⟨xrT_blind, fun U hU hW => xrT_mk hU hW hPc hK hStr hS⟩ rfl rfl hl.1 rfl (lv_room (Nat.le_of_ble_eq_true rfl)) dJ0_indexOf_7cf53_17 ⟨Nat.le_of_ble_eq_true rfl, Nat.le_of_ble_eq_true rfl⟩).run (fun r17 hr17 => ?_)
  clear hPc
  refine lv_goto (tgt := 36) hx hb dJ0_indexOf_7cf53_20 (by decide) ?_
  exact W.iret (v := r17) hx hb hr (fun t ht hW => ⟨r17, rfl, hr17, ht⟩) (fun q hq => by cases hq) dJ0_indexOf_7cf53_36
set_option maxHeartbeats 4000000 in
set_option maxRecDepth 100000 in
theorem c_J0_indexOf_0f7a4 (l : Launch) (D : va_G) (cI : ClassId) (cB : ClassId) (cL : ClassId) (cZ : ClassId) (cG : ClassId) (aS : Nat) (vS : Nat) (x0 : Int32) : Met l yJ0_indexOf_0f7a4 wsJ0_indexOf_0f7a4 ({ frames := 3, cells := 0, slots := 0, locals := 70 }) (xrT D [(cI, .int), (cB, .byte), (cL, .long), (cZ, .boolean), (cG, .array .int)] [] aS vS [.ref aS, .int x0]) (vp_Si (fun r => zB r (-1) 10)) 0 0 (fun _ => False) := by
  refine Met.ofW (cc := cJ0_indexOf_0f7a4) (maxL := 2) (ret := (some .int)) (by decide) rfl ?_
  intro p e s m args below meth c s₁ B hml hv
  obtain ⟨rfl, hP, hK, hStr⟩ := hv
  have hS : va_S (fun _ : Nat => False) s.heap s.heap [] := va_S.rf
  have hx := B.exec
  have hb := B.bytes
  have hr := B.returns
  have hts := atoms_spec (ws := wsJ0_indexOf_0f7a4) B.pre
  have hown : s.vm.findClass RJ0 = some m.cls := findClass_of_methodNamed B.named
  have hlocks := B.notSynchronized
  clear B
  have hl := lv_entry ([.ref aS, .int x0]) (n := 2) (Nat.le_of_ble_eq_true rfl)
  rw [lg_entry_eq]
  generalize (lg_sl ([.ref aS, .int x0]) ++ List.replicate (2 - (lg_sl ([.ref aS, .int x0])).length) Slot.unset).toArray = ls at hl ⊢
  replace hl : lv_has ls 2 [(0, .ref aS), (1, .int x0)] := hl
  refine lv_aload_n hx hb dJ0_indexOf_0f7a4_0 rfl (lv_at hl 0 rfl) ?_
  refine lv_iload_n hx hb dJ0_indexOf_0f7a4_1 rfl (lv_at hl 1 rfl) ?_
  refine lv_iconst (v := 0) hx hb dJ0_indexOf_0f7a4_2 (by decide) ?_
  have hPc := hP.sub (ws' := []) [] rfl
  refine vp_callSi (va_runV (As := [.int x0, .int 0]) (rest := []) ⟨hx, hb, hml, hown, hts⟩ (c_J0_indexOf_7cf53 l D cI cB cL cZ cG aS vS x0) (cwV 2 hts gJ0_indexOf_0f7a4_J0_indexOf_7cf53 rfl rfl rfl (by decide +kernel) ⟨Nat.le_of_ble_eq_true rfl, Nat.le_of_ble_eq_true rfl⟩) ⟨xrT_blind, xT.recv hStr hS, fun U hU hW => xrT_mk hU hW hPc hK hStr hS⟩ rfl rfl hl.1 rfl (lv_room (Nat.le_of_ble_eq_true rfl)) dJ0_indexOf_0f7a4_3 ⟨Nat.le_of_ble_eq_true rfl, Nat.le_of_ble_eq_true rfl⟩).run (fun r3 hr3 => ?_)
  clear hPc
  exact W.iret (v := r3) hx hb hr (fun t ht hW => ⟨r3, rfl, hr3, ht⟩) (fun q hq => by cases hq) dJ0_indexOf_0f7a4_6
set_option maxHeartbeats 4000000 in
set_option maxRecDepth 100000 in
theorem c_X9_readSign (l : Launch) (D : va_G) (cI : ClassId) (cB : ClassId) (cL : ClassId) (cZ : ClassId) (cG : ClassId) (TO : Nat) (TA : Nat) (aTO : Nat → Nat) (TO_kind : Int32) (TO_place : Int32) (TO_behind : Int32) (TO_word : Int64) (TO_value : Int32) (aTA : Nat → Nat) (TA_size : Int32) (TA_bytes : Nat → Int32) (aS : Nat) (vS : Nat) (sz : Nat) (b_TO_behind : zB TO_behind 0 1599) (b_TA_size : zB TA_size 0 1600) : Met l yX9_readSign wsX9_readSign ({ frames := 4, cells := 0, slots := 0, locals := 91 }) (xpT D [(cI, .int), (cB, .byte), (cL, .long), (cZ, .boolean), (cG, .array .int)] [(TO, .inr (9, oX9 TA aTO TO_kind TO_place TO_behind TO_word TO_value)), (TA, .inr (8, oX8 aTA TA_size)), ((aTA 0), .inl (cB, 1600, .inl TA_bytes))] sz aS vS [.ref TO]) (va_Qv (fun _ : Unit => True) (fun (_ : Unit) (t : State) => ∃ (nTO_kind : Int32), ∃ (nTO_behind : Int32), ∃ (nTO_value : Int32), zB nTO_kind 3 4 ∧ zB nTO_behind 1 1600 ∧ xB D (va_A [(TO, .inr (9, oX9 TA aTO TO_kind TO_place TO_behind TO_word TO_value)), (TA, .inr (8, oX8 aTA TA_size)), ((aTA 0), .inl (cB, 1600, .inl TA_bytes))] sz) [(TO, .inr (9, oX9 TA aTO nTO_kind TO_place nTO_behind TO_word nTO_value)), (TA, .inr (8, oX8 aTA TA_size)), ((aTA 0), .inl (cB, 1600, .inl TA_bytes))] t) (va_A [(TO, .inr (9, oX9 TA aTO TO_kind TO_place TO_behind TO_word TO_value)), (TA, .inr (8, oX8 aTA TA_size)), ((aTA 0), .inl (cB, 1600, .inl TA_bytes))] sz)) 0 0 (va_A [(TO, .inr (9, oX9 TA aTO TO_kind TO_place TO_behind TO_word TO_value)), (TA, .inr (8, oX8 aTA TA_size)), ((aTA 0), .inl (cB, 1600, .inl TA_bytes))] sz) := by
  refine Met.ofW (cc := cX9_readSign) (maxL := 1) (ret := none) (by decide) rfl ?_
  intro p e s m args below meth c s₁ B hml hv
  obtain ⟨rfl, hsz, hP, hK, hD0, hStr⟩ := hv
  have hNw := hsz
  have hx := B.exec
  have hb := B.bytes
  have hr := B.returns
  have hts := atoms_spec (ws := wsX9_readSign) B.pre
  have hown : s.vm.findClass RX9 = some m.cls := findClass_of_methodNamed B.named
  have hlocks := B.notSynchronized
  clear B
  subst hsz
  have hD := hD0.self (sz := s.heap.size)
  clear hD0 hNw
  generalize hAe : va_A [(TO, .inr (9, oX9 TA aTO TO_kind TO_place TO_behind TO_word TO_value)), (TA, .inr (8, oX8 aTA TA_size)), ((aTA 0), .inl (cB, 1600, .inl TA_bytes))] s.heap.size = A at hD hStr ⊢
  have hA : ∀ q : Nat, s.heap.size ≤ q → A q := fun q h => by rw [← hAe]; exact Or.inr h
  have hS : va_S A s.heap s.heap [] := va_S.rf
  clear hAe
  obtain ⟨H, hH⟩ : ∃ H : Heap, H = s.heap := ⟨_, rfl⟩
  obtain ⟨locs, hlocs⟩ : ∃ L : List Loc, L = [] := ⟨_, rfl⟩
  replace hP : va_P D classes [(TO, .inr (9, oX9 TA aTO TO_kind TO_place TO_behind TO_word TO_value)), (TA, .inr (8, oX8 aTA TA_size)), ((aTA 0), .inl (cB, 1600, .inl TA_bytes))] H := by rw [hH]; exact hP
  replace hS : va_S A s.heap H locs := by rw [hH, hlocs]; exact hS
  rw [← hH, ← hlocs]
  clear hlocs hH
  have hl := lv_entry ([.ref TO]) (n := 1) (Nat.le_of_ble_eq_true rfl)
  rw [lg_entry_eq]
  generalize (lg_sl ([.ref TO]) ++ List.replicate (1 - (lg_sl ([.ref TO])).length) Slot.unset).toArray = ls at hl ⊢
  replace hl : lv_has ls 1 [(0, .ref TO)] := hl
  refine zz_abs (R := ({ frames := 4, cells := 0, slots := 0, locals := 91 } : Room)) (fun Q up => ?_)
  refine lv_aload_n hx hb dX9_readSign_0 rfl (lv_at hl 0 rfl) ?_
  refine lv_aload_n hx hb dX9_readSign_1 rfl (lv_at hl 0 rfl) ?_
  refine va_get (D := D) (ci := 9) (v := .ref TA) (C := RX9) (T := TX9) (N := 7) hx hb hts iw_X9_readSign_X9 hown hK hP 0 rfl rfl 0 (by decide) (hts (.fieldLink RX9 15 "SoldHouse$Tokens" "tape" "LSoldHouse$Tape;") (List.mem_of_getElem? (i := 1) rfl)) (fun _ h9 => h9) rfl dX9_readSign_2 ?_
  refine va_get (D := D) (ci := 8) (v := .ref (aTA 0)) (C := RX8) (T := TX8) (N := 2) hx hb hts iw_X9_readSign_X8 hown hK hP 1 rfl rfl 0 (by decide) (hts (.fieldLink RX9 47 "SoldHouse$Tape" "bytes" "[B") (List.mem_of_getElem? (i := 2) rfl)) (fun _ h9 => h9) rfl dX9_readSign_5 ?_
  refine lv_aload_n hx hb dX9_readSign_8 rfl (lv_at hl 0 rfl) ?_
  refine va_get (D := D) (ci := 9) (v := .int TO_behind) (C := RX9) (T := TX9) (N := 7) hx hb hts iw_X9_readSign_X9 hown hK hP 0 rfl rfl 4 (by decide) (hts (.fieldLink RX9 35 "SoldHouse$Tokens" "behind" "I") (List.mem_of_getElem? (i := 3) rfl)) (fun _ h9 => h9) rfl dX9_readSign_9 ?_
  refine va_bald hx hb hK hP 2 1 rfl rfl (zB_in b_TO_behind (by decide) (by decide)) dX9_readSign_12 ?_
  refine lv_topi (fun y12 _ => ?_)
  refine va_put (D := D) (ci := 9) (v := .int y12) (ty := tyX9 6) (C := RX9) (T := TX9) (N := 7) hx hb hts iw_X9_readSign_X9 tyX9 tyX9_ok nmX9 hown hK hP hD hS 0 rfl rfl 6 (by decide) (hts (.fieldLink RX9 76 "SoldHouse$Tokens" "value" "I") (List.mem_of_getElem? (i := 4) rfl)) (fun _ h9 => h9) rfl (by decide +kernel) rfl rfl (Nat.le_of_ble_eq_true rfl) dX9_readSign_13 (fun H locs hP hD hS => ?_)
  replace hP : va_P D classes [(TO, .inr (9, oX9 TA aTO TO_kind TO_place TO_behind TO_word y12)), (TA, .inr (8, oX8 aTA TA_size)), ((aTA 0), .inl (cB, 1600, .inl TA_bytes))] H := hP
  replace hD : va_D A [(TO, .inr (9, oX9 TA aTO TO_kind TO_place TO_behind TO_word y12)), (TA, .inr (8, oX8 aTA TA_size)), ((aTA 0), .inl (cB, 1600, .inl TA_bytes))] := hD
  refine lv_aload_n hx hb dX9_readSign_16 rfl (lv_at hl 0 rfl) ?_
  refine lv_dup hx hb dX9_readSign_17 rfl ?_
  refine va_get (D := D) (ci := 9) (v := .int TO_behind) (C := RX9) (T := TX9) (N := 7) hx hb hts iw_X9_readSign_X9 hown hK hP 0 rfl rfl 4 (by decide) (hts (.fieldLink RX9 35 "SoldHouse$Tokens" "behind" "I") (List.mem_of_getElem? (i := 3) rfl)) (fun _ h9 => h9) rfl dX9_readSign_18 ?_
  refine lv_iconst (v := 1) hx hb dX9_readSign_21 (by decide) ?_
  refine lv_iadd hx hb dX9_readSign_22 ?_
  refine zi_top2 (P := fun y => y.toInt = TO_behind.toInt + 1) (a := 1) (b := 1600) (zB_add b_TO_behind (show zB 1 1 1 from ⟨by decide, by decide⟩) (by decide) (by decide) (by decide) (by decide)) (zR_addc b_TO_behind (by decide) (by decide) (by decide)) (fun y22 by22 ry22 => ?_)
  refine va_put (D := D) (ci := 9) (v := .int y22) (ty := tyX9 4) (C := RX9) (T := TX9) (N := 7) hx hb hts iw_X9_readSign_X9 tyX9 tyX9_ok nmX9 hown hK hP hD hS 0 rfl rfl 4 (by decide) (hts (.fieldLink RX9 35 "SoldHouse$Tokens" "behind" "I") (List.mem_of_getElem? (i := 3) rfl)) (fun _ h9 => h9) rfl (by decide +kernel) rfl rfl (Nat.le_of_ble_eq_true rfl) dX9_readSign_23 (fun H locs hP hD hS => ?_)
  replace hP : va_P D classes [(TO, .inr (9, oX9 TA aTO TO_kind TO_place y22 TO_word y12)), (TA, .inr (8, oX8 aTA TA_size)), ((aTA 0), .inl (cB, 1600, .inl TA_bytes))] H := hP
  replace hD : va_D A [(TO, .inr (9, oX9 TA aTO TO_kind TO_place y22 TO_word y12)), (TA, .inr (8, oX8 aTA TA_size)), ((aTA 0), .inl (cB, 1600, .inl TA_bytes))] := hD
  refine lv_aload_n hx hb dX9_readSign_26 rfl (lv_at hl 0 rfl) ?_
  refine lv_aload_n hx hb dX9_readSign_27 rfl (lv_at hl 0 rfl) ?_
  refine va_get (D := D) (ci := 9) (v := .int y12) (C := RX9) (T := TX9) (N := 7) hx hb hts iw_X9_readSign_X9 hown hK hP 0 rfl rfl 6 (by decide) (hts (.fieldLink RX9 76 "SoldHouse$Tokens" "value" "I") (List.mem_of_getElem? (i := 4) rfl)) (fun _ h9 => h9) rfl dX9_readSign_28 ?_
  have j51 : ∀ (H : Heap) (locs : List Loc) (ls : Array Slot), va_P D classes [(TO, .inr (9, oX9 TA aTO TO_kind TO_place y22 TO_word y12)), (TA, .inr (8, oX8 aTA TA_size)), ((aTA 0), .inl (cB, 1600, .inl TA_bytes))] H → va_D A [(TO, .inr (9, oX9 TA aTO TO_kind TO_place y22 TO_word y12)), (TA, .inr (8, oX8 aTA TA_size)), ((aTA 0), .inl (cB, 1600, .inl TA_bytes))] → va_S A s.heap H locs → lv_has ls 1 [(0, .ref TO)] → W p l e ({ frames := 4, cells := 0, slots := 0, locals := 91 } : Room) s m ([.ref TO] : List Value).toArray below meth c H locs 0 0 Q (F0 m 51 ls [.ref TO]) := by
    intro H locs ls hP hD hS hl
    refine lv_iconst (v := 4) hx hb dX9_readSign_51 (by decide) ?_
    refine va_put (D := D) (ci := 9) (v := .int 4) (ty := tyX9 2) (C := RX9) (T := TX9) (N := 7) hx hb hts iw_X9_readSign_X9 tyX9 tyX9_ok nmX9 hown hK hP hD hS 0 rfl rfl 2 (by decide) (hts (.fieldLink RX9 58 "SoldHouse$Tokens" "kind" "I") (List.mem_of_getElem? (i := 5) rfl)) (fun _ h9 => h9) rfl (by decide +kernel) rfl rfl (Nat.le_of_ble_eq_true rfl) dX9_readSign_52 (fun H locs hP hD hS => ?_)
    replace hP : va_P D classes [(TO, .inr (9, oX9 TA aTO 4 TO_place y22 TO_word y12)), (TA, .inr (8, oX8 aTA TA_size)), ((aTA 0), .inl (cB, 1600, .inl TA_bytes))] H := hP
    replace hD : va_D A [(TO, .inr (9, oX9 TA aTO 4 TO_place y22 TO_word y12)), (TA, .inr (8, oX8 aTA TA_size)), ((aTA 0), .inl (cB, 1600, .inl TA_bytes))] := hD
    exact up _ _ _ (W.vret hx hb hr (fun t ht hW => ⟨⟨(), rfl, trivial, ⟨4, y22, y12, (zB_w (show zB 4 4 4 from ⟨by decide, by decide⟩) (by decide) (by decide)), by22, by rw [ht]; exact hP, hD⟩⟩, hS.F ht⟩) hS.2.2 dX9_readSign_55)
  refine lv_if_le (tgt := 51) hx hb dX9_readSign_31 (by decide) (fun c31 => ?_) (fun c31 => ?_)
  · have bx31t_y12 : zB y12 (-2147483648) 0 := zB_leu (ze c31) (zB_top y12) (show zB 0 0 0 from ⟨by decide, by decide⟩) (by decide)
    exact j51 H locs ls hP hD hS (lv_sub hl [0] rfl)
  · have by31f_y12 : zB y12 1 2147483647 := zB_ltv (zf c31) (show zB 0 0 0 from ⟨by decide, by decide⟩) (zB_top y12) (by decide)
    refine va_ldcS hx hb hown hStr.1 dX9_readSign_34 ?_
    refine lv_aload_n hx hb dX9_readSign_36 rfl (lv_at hl 0 rfl) ?_
    refine va_get (D := D) (ci := 9) (v := .int y12) (C := RX9) (T := TX9) (N := 7) hx hb hts iw_X9_readSign_X9 hown hK hP 0 rfl rfl 6 (by decide) (hts (.fieldLink RX9 76 "SoldHouse$Tokens" "value" "I") (List.mem_of_getElem? (i := 4) rfl)) (fun _ h9 => h9) rfl dX9_readSign_37 ?_
    refine lv_i2c hx hb dX9_readSign_40 rfl ?_
    refine lv_topi (fun y40 _ => ?_)
    have hPc := hP.sub (ws' := []) [] rfl
    refine vp_callSi (va_runV (As := [.int y40]) (rest := [.ref TO]) ⟨hx, hb, hml, hown, hts⟩ (c_J0_indexOf_0f7a4 l D cI cB cL cZ cG aS vS y40) (cwV 1 hts gX9_readSign_J0_indexOf_0f7a4 rfl rfl rfl (by decide +kernel) ⟨Nat.le_of_ble_eq_true rfl, Nat.le_of_ble_eq_true rfl⟩) ⟨xrT_blind, xT.recv hStr hS, fun U hU hW => xrT_mk hU hW hPc hK hStr hS⟩ rfl rfl hl.1 rfl (lv_room (Nat.le_of_ble_eq_true rfl)) dX9_readSign_41 ⟨Nat.le_of_ble_eq_true rfl, Nat.le_of_ble_eq_true rfl⟩).run (fun r41 hr41 => ?_)
    clear hPc
    refine lv_if_lt (tgt := 51) hx hb dX9_readSign_44 (by decide) (fun c44 => ?_) (fun c44 => ?_)
    · have bx44t_r41 : zB r41 (-1) (-1) := zB_ltu (zl c44) hr41 (show zB 0 0 0 from ⟨by decide, by decide⟩) (by decide)
      exact j51 H locs ls hP hD hS (lv_sub hl [0] rfl)
    · have by44f_r41 : zB r41 0 10 := zB_lev (zg c44) (show zB 0 0 0 from ⟨by decide, by decide⟩) hr41 (by decide)
      refine lv_iconst (v := 3) hx hb dX9_readSign_47 (by decide) ?_
      refine lv_goto (tgt := 52) hx hb dX9_readSign_48 (by decide) ?_
      refine va_put (D := D) (ci := 9) (v := .int 3) (ty := tyX9 2) (C := RX9) (T := TX9) (N := 7) hx hb hts iw_X9_readSign_X9 tyX9 tyX9_ok nmX9 hown hK hP hD hS 0 rfl rfl 2 (by decide) (hts (.fieldLink RX9 58 "SoldHouse$Tokens" "kind" "I") (List.mem_of_getElem? (i := 5) rfl)) (fun _ h9 => h9) rfl (by decide +kernel) rfl rfl (Nat.le_of_ble_eq_true rfl) dX9_readSign_52 (fun H locs hP hD hS => ?_)
      replace hP : va_P D classes [(TO, .inr (9, oX9 TA aTO 3 TO_place y22 TO_word y12)), (TA, .inr (8, oX8 aTA TA_size)), ((aTA 0), .inl (cB, 1600, .inl TA_bytes))] H := hP
      replace hD : va_D A [(TO, .inr (9, oX9 TA aTO 3 TO_place y22 TO_word y12)), (TA, .inr (8, oX8 aTA TA_size)), ((aTA 0), .inl (cB, 1600, .inl TA_bytes))] := hD
      exact up _ _ _ (W.vret hx hb hr (fun t ht hW => ⟨⟨(), rfl, trivial, ⟨3, y22, y12, (zB_w (show zB 3 3 3 from ⟨by decide, by decide⟩) (by decide) (by decide)), by22, by rw [ht]; exact hP, hD⟩⟩, hS.F ht⟩) hS.2.2 dX9_readSign_55)
set_option maxHeartbeats 4000000 in
set_option maxRecDepth 100000 in
theorem c_X9_advance (l : Launch) (D : va_G) (cI : ClassId) (cB : ClassId) (cL : ClassId) (cZ : ClassId) (cG : ClassId) (TO : Nat) (TA : Nat) (aTO : Nat → Nat) (TO_kind : Int32) (TO_place : Int32) (TO_behind : Int32) (TO_word : Int64) (TO_value : Int32) (aTA : Nat → Nat) (TA_size : Int32) (TA_bytes : Nat → Int32) (aS : Nat) (vS : Nat) (TO_own : Nat → Int64) (sz : Nat) (b_TO_behind : zB TO_behind 0 1600) (b_TA_size : zB TA_size 0 1600) : Met l yX9_advance wsX9_advance ({ frames := 5, cells := 0, slots := 0, locals := 111 }) (xpT D [(cI, .int), (cB, .byte), (cL, .long), (cZ, .boolean), (cG, .array .int)] [(TO, .inr (9, oX9 TA aTO TO_kind TO_place TO_behind TO_word TO_value)), (TA, .inr (8, oX8 aTA TA_size)), ((aTA 0), .inl (cB, 1600, .inl TA_bytes)), ((aTO 1), .inl (cL, 17, .inr (.inl TO_own)))] sz aS vS [.ref TO]) (va_Qv (fun _ : Unit => True) (fun (_ : Unit) (t : State) => ∃ (nTO_kind : Int32), ∃ (nTO_place : Int32), ∃ (nTO_behind : Int32), ∃ (nTO_word : Int64), ∃ (nTO_value : Int32), zB nTO_kind 0 4 ∧ zB nTO_place 0 1600 ∧ zB nTO_behind 0 1600 ∧ xB D (va_A [(TO, .inr (9, oX9 TA aTO TO_kind TO_place TO_behind TO_word TO_value)), (TA, .inr (8, oX8 aTA TA_size)), ((aTA 0), .inl (cB, 1600, .inl TA_bytes)), ((aTO 1), .inl (cL, 17, .inr (.inl TO_own)))] sz) [(TO, .inr (9, oX9 TA aTO nTO_kind nTO_place nTO_behind nTO_word nTO_value)), (TA, .inr (8, oX8 aTA TA_size)), ((aTA 0), .inl (cB, 1600, .inl TA_bytes)), ((aTO 1), .inl (cL, 17, .inr (.inl TO_own)))] t) (va_A [(TO, .inr (9, oX9 TA aTO TO_kind TO_place TO_behind TO_word TO_value)), (TA, .inr (8, oX8 aTA TA_size)), ((aTA 0), .inl (cB, 1600, .inl TA_bytes)), ((aTO 1), .inl (cL, 17, .inr (.inl TO_own)))] sz)) 0 0 (va_A [(TO, .inr (9, oX9 TA aTO TO_kind TO_place TO_behind TO_word TO_value)), (TA, .inr (8, oX8 aTA TA_size)), ((aTA 0), .inl (cB, 1600, .inl TA_bytes)), ((aTO 1), .inl (cL, 17, .inr (.inl TO_own)))] sz) := by
  refine Met.ofW (cc := cX9_advance) (maxL := 1) (ret := none) (by decide) rfl ?_
  intro p e s m args below meth c s₁ B hml hv
  obtain ⟨rfl, hsz, hP, hK, hD0, hStr⟩ := hv
  have hNw := hsz
  have hx := B.exec
  have hb := B.bytes
  have hr := B.returns
  have hts := atoms_spec (ws := wsX9_advance) B.pre
  have hown : s.vm.findClass RX9 = some m.cls := findClass_of_methodNamed B.named
  have hlocks := B.notSynchronized
  clear B
  subst hsz
  have hD := hD0.self (sz := s.heap.size)
  clear hD0 hNw
  generalize hAe : va_A [(TO, .inr (9, oX9 TA aTO TO_kind TO_place TO_behind TO_word TO_value)), (TA, .inr (8, oX8 aTA TA_size)), ((aTA 0), .inl (cB, 1600, .inl TA_bytes)), ((aTO 1), .inl (cL, 17, .inr (.inl TO_own)))] s.heap.size = A at hD hStr ⊢
  have hA : ∀ q : Nat, s.heap.size ≤ q → A q := fun q h => by rw [← hAe]; exact Or.inr h
  have hS : va_S A s.heap s.heap [] := va_S.rf
  clear hAe
  obtain ⟨H, hH⟩ : ∃ H : Heap, H = s.heap := ⟨_, rfl⟩
  obtain ⟨locs, hlocs⟩ : ∃ L : List Loc, L = [] := ⟨_, rfl⟩
  replace hP : va_P D classes [(TO, .inr (9, oX9 TA aTO TO_kind TO_place TO_behind TO_word TO_value)), (TA, .inr (8, oX8 aTA TA_size)), ((aTA 0), .inl (cB, 1600, .inl TA_bytes)), ((aTO 1), .inl (cL, 17, .inr (.inl TO_own)))] H := by rw [hH]; exact hP
  replace hS : va_S A s.heap H locs := by rw [hH, hlocs]; exact hS
  rw [← hH, ← hlocs]
  clear hlocs hH
  have hl := lv_entry ([.ref TO]) (n := 1) (Nat.le_of_ble_eq_true rfl)
  rw [lg_entry_eq]
  generalize (lg_sl ([.ref TO]) ++ List.replicate (1 - (lg_sl ([.ref TO])).length) Slot.unset).toArray = ls at hl ⊢
  replace hl : lv_has ls 1 [(0, .ref TO)] := hl
  refine zz_abs (R := ({ frames := 5, cells := 0, slots := 0, locals := 111 } : Room)) (fun Q up => ?_)
  have j0 : ∀ (n0 : Nat) (H : Heap) (locs : List Loc) (ls : Array Slot) (w0_TO_4 : Int32), zB w0_TO_4 0 1600 → (1600 + 1 - w0_TO_4.toInt) ≤ (n0 : Int) → va_P D classes [(TO, .inr (9, oX9 TA aTO TO_kind TO_place w0_TO_4 TO_word TO_value)), (TA, .inr (8, oX8 aTA TA_size)), ((aTA 0), .inl (cB, 1600, .inl TA_bytes)), ((aTO 1), .inl (cL, 17, .inr (.inl TO_own)))] H → va_D A [(TO, .inr (9, oX9 TA aTO TO_kind TO_place w0_TO_4 TO_word TO_value)), (TA, .inr (8, oX8 aTA TA_size)), ((aTA 0), .inl (cB, 1600, .inl TA_bytes)), ((aTO 1), .inl (cL, 17, .inr (.inl TO_own)))] → va_S A s.heap H locs → lv_has ls 1 [(0, .ref TO)] → W p l e ({ frames := 5, cells := 0, slots := 0, locals := 111 } : Room) s m ([.ref TO] : List Value).toArray below meth c H locs 0 0 Q (F0 m 0 ls []) := by
    intro n0
    induction n0 with
    | zero => intro H locs ls w0_TO_4 bw0_TO_4_k0 hm0 hP hD hS hl; exact zM_u0 bw0_TO_4_k0 hm0
    | succ n0 ih0 =>
      intro H locs ls w0_TO_4 bw0_TO_4_k0 hm0 hP hD hS hl
      refine lv_aload_n hx hb dX9_advance_0 rfl (lv_at hl 0 rfl) ?_
      refine va_get (D := D) (ci := 9) (v := .int w0_TO_4) (C := RX9) (T := TX9) (N := 7) hx hb hts iw_X9_advance_X9 hown hK hP 0 rfl rfl 4 (by decide) (hts (.fieldLink RX9 35 "SoldHouse$Tokens" "behind" "I") (List.mem_of_getElem? (i := 1) rfl)) (fun _ h9 => h9) rfl dX9_advance_1 ?_
      refine lv_aload_n hx hb dX9_advance_4 rfl (lv_at hl 0 rfl) ?_
      refine va_get (D := D) (ci := 9) (v := .ref TA) (C := RX9) (T := TX9) (N := 7) hx hb hts iw_X9_advance_X9 hown hK hP 0 rfl rfl 0 (by decide) (hts (.fieldLink RX9 15 "SoldHouse$Tokens" "tape" "LSoldHouse$Tape;") (List.mem_of_getElem? (i := 2) rfl)) (fun _ h9 => h9) rfl dX9_advance_5 ?_
      refine va_get (D := D) (ci := 8) (v := .int TA_size) (C := RX8) (T := TX8) (N := 2) hx hb hts iw_X9_advance_X8 hown hK hP 1 rfl rfl 1 (by decide) (hts (.fieldLink RX9 42 "SoldHouse$Tape" "size" "I") (List.mem_of_getElem? (i := 3) rfl)) (fun _ h9 => h9) rfl dX9_advance_8 ?_
      have j45 : ∀ (H : Heap) (locs : List Loc) (ls : Array Slot), va_P D classes [(TO, .inr (9, oX9 TA aTO TO_kind TO_place w0_TO_4 TO_word TO_value)), (TA, .inr (8, oX8 aTA TA_size)), ((aTA 0), .inl (cB, 1600, .inl TA_bytes)), ((aTO 1), .inl (cL, 17, .inr (.inl TO_own)))] H → va_D A [(TO, .inr (9, oX9 TA aTO TO_kind TO_place w0_TO_4 TO_word TO_value)), (TA, .inr (8, oX8 aTA TA_size)), ((aTA 0), .inl (cB, 1600, .inl TA_bytes)), ((aTO 1), .inl (cL, 17, .inr (.inl TO_own)))] → va_S A s.heap H locs → lv_has ls 1 [(0, .ref TO)] → W p l e ({ frames := 5, cells := 0, slots := 0, locals := 111 } : Room) s m ([.ref TO] : List Value).toArray below meth c H locs 0 0 Q (F0 m 45 ls []) := by
        intro H locs ls hP hD hS hl
        refine lv_aload_n hx hb dX9_advance_45 rfl (lv_at hl 0 rfl) ?_
        refine lv_aload_n hx hb dX9_advance_46 rfl (lv_at hl 0 rfl) ?_
        refine va_get (D := D) (ci := 9) (v := .int w0_TO_4) (C := RX9) (T := TX9) (N := 7) hx hb hts iw_X9_advance_X9 hown hK hP 0 rfl rfl 4 (by decide) (hts (.fieldLink RX9 35 "SoldHouse$Tokens" "behind" "I") (List.mem_of_getElem? (i := 1) rfl)) (fun _ h9 => h9) rfl dX9_advance_47 ?_
        refine va_put (D := D) (ci := 9) (v := .int w0_TO_4) (ty := tyX9 3) (C := RX9) (T := TX9) (N := 7) hx hb hts iw_X9_advance_X9 tyX9 tyX9_ok nmX9 hown hK hP hD hS 0 rfl rfl 3 (by decide) (hts (.fieldLink RX9 55 "SoldHouse$Tokens" "place" "I") (List.mem_of_getElem? (i := 5) rfl)) (fun _ h9 => h9) rfl (by decide +kernel) rfl rfl (Nat.le_of_ble_eq_true rfl) dX9_advance_50 (fun H locs hP hD hS => ?_)
        replace hP : va_P D classes [(TO, .inr (9, oX9 TA aTO TO_kind w0_TO_4 w0_TO_4 TO_word TO_value)), (TA, .inr (8, oX8 aTA TA_size)), ((aTA 0), .inl (cB, 1600, .inl TA_bytes)), ((aTO 1), .inl (cL, 17, .inr (.inl TO_own)))] H := hP
        replace hD : va_D A [(TO, .inr (9, oX9 TA aTO TO_kind w0_TO_4 w0_TO_4 TO_word TO_value)), (TA, .inr (8, oX8 aTA TA_size)), ((aTA 0), .inl (cB, 1600, .inl TA_bytes)), ((aTO 1), .inl (cL, 17, .inr (.inl TO_own)))] := hD
        refine lv_aload_n hx hb dX9_advance_53 rfl (lv_at hl 0 rfl) ?_
        refine va_get (D := D) (ci := 9) (v := .int w0_TO_4) (C := RX9) (T := TX9) (N := 7) hx hb hts iw_X9_advance_X9 hown hK hP 0 rfl rfl 4 (by decide) (hts (.fieldLink RX9 35 "SoldHouse$Tokens" "behind" "I") (List.mem_of_getElem? (i := 1) rfl)) (fun _ h9 => h9) rfl dX9_advance_54 ?_
        refine lv_aload_n hx hb dX9_advance_57 rfl (lv_at hl 0 rfl) ?_
        refine va_get (D := D) (ci := 9) (v := .ref TA) (C := RX9) (T := TX9) (N := 7) hx hb hts iw_X9_advance_X9 hown hK hP 0 rfl rfl 0 (by decide) (hts (.fieldLink RX9 15 "SoldHouse$Tokens" "tape" "LSoldHouse$Tape;") (List.mem_of_getElem? (i := 2) rfl)) (fun _ h9 => h9) rfl dX9_advance_58 ?_
        refine va_get (D := D) (ci := 8) (v := .int TA_size) (C := RX8) (T := TX8) (N := 2) hx hb hts iw_X9_advance_X8 hown hK hP 1 rfl rfl 1 (by decide) (hts (.fieldLink RX9 42 "SoldHouse$Tape" "size" "I") (List.mem_of_getElem? (i := 3) rfl)) (fun _ h9 => h9) rfl dX9_advance_61 ?_
        refine lv_icmp_lt (tgt := 75) hx hb dX9_advance_64 (by decide) (fun c64 => ?_) (fun c64 => ?_)
        · have bx64t_w0_TO_4 : zB w0_TO_4 0 1599 := zB_ltu (zl c64) bw0_TO_4_k0 b_TA_size (by decide)
          have by64t_TA_size : zB TA_size 1 1600 := zB_ltv (zl c64) bx64t_w0_TO_4 b_TA_size (by decide)
          refine lv_aload_n hx hb dX9_advance_75 rfl (lv_at hl 0 rfl) ?_
          refine va_get (D := D) (ci := 9) (v := .ref TA) (C := RX9) (T := TX9) (N := 7) hx hb hts iw_X9_advance_X9 hown hK hP 0 rfl rfl 0 (by decide) (hts (.fieldLink RX9 15 "SoldHouse$Tokens" "tape" "LSoldHouse$Tape;") (List.mem_of_getElem? (i := 2) rfl)) (fun _ h9 => h9) rfl dX9_advance_76 ?_
          refine va_get (D := D) (ci := 8) (v := .ref (aTA 0)) (C := RX8) (T := TX8) (N := 2) hx hb hts iw_X9_advance_X8 hown hK hP 1 rfl rfl 0 (by decide) (hts (.fieldLink RX9 47 "SoldHouse$Tape" "bytes" "[B") (List.mem_of_getElem? (i := 4) rfl)) (fun _ h9 => h9) rfl dX9_advance_79 ?_
          refine lv_aload_n hx hb dX9_advance_82 rfl (lv_at hl 0 rfl) ?_
          refine va_get (D := D) (ci := 9) (v := .int w0_TO_4) (C := RX9) (T := TX9) (N := 7) hx hb hts iw_X9_advance_X9 hown hK hP 0 rfl rfl 4 (by decide) (hts (.fieldLink RX9 35 "SoldHouse$Tokens" "behind" "I") (List.mem_of_getElem? (i := 1) rfl)) (fun _ h9 => h9) rfl dX9_advance_83 ?_
          refine va_bald hx hb hK hP 2 1 rfl rfl (zB_in bx64t_w0_TO_4 (by decide) (by decide)) dX9_advance_86 ?_
          refine lv_topi (fun y86 _ => ?_)
          have hPc := hP.sub (ws' := []) [] rfl
          refine vp_callSi (va_runS (As := [.int y86]) (rest := []) ⟨hx, hb, hml, hown, hts⟩ (c_X9_isLetter l D cI cB cL cZ cG y86) (va_cwS 1 hts gX9_advance_X9_isLetter rfl rfl rfl (by decide +kernel) ⟨Nat.le_of_ble_eq_true rfl, Nat.le_of_ble_eq_true rfl⟩) ⟨xr_blind, fun U hU hW => xr_mk hU hW hPc hK⟩ rfl rfl hl.1 rfl (lv_room (Nat.le_of_ble_eq_true rfl)) dX9_advance_87 ⟨Nat.le_of_ble_eq_true rfl, Nat.le_of_ble_eq_true rfl⟩).run (fun r87 hr87 => ?_)
          clear hPc
          rcases hr87 with rfl | ⟨rfl, hr87_1_0⟩
          · refine lv_if_eq (tgt := 100) hx hb dX9_advance_90 (by decide) (fun _ => ?_) (fun c90 => absurd (by decide) c90)
            refine lv_aload_n hx hb dX9_advance_100 rfl (lv_at hl 0 rfl) ?_
            refine va_get (D := D) (ci := 9) (v := .ref TA) (C := RX9) (T := TX9) (N := 7) hx hb hts iw_X9_advance_X9 hown hK hP 0 rfl rfl 0 (by decide) (hts (.fieldLink RX9 15 "SoldHouse$Tokens" "tape" "LSoldHouse$Tape;") (List.mem_of_getElem? (i := 2) rfl)) (fun _ h9 => h9) rfl dX9_advance_101 ?_
            refine va_get (D := D) (ci := 8) (v := .ref (aTA 0)) (C := RX8) (T := TX8) (N := 2) hx hb hts iw_X9_advance_X8 hown hK hP 1 rfl rfl 0 (by decide) (hts (.fieldLink RX9 47 "SoldHouse$Tape" "bytes" "[B") (List.mem_of_getElem? (i := 4) rfl)) (fun _ h9 => h9) rfl dX9_advance_104 ?_
            refine lv_aload_n hx hb dX9_advance_107 rfl (lv_at hl 0 rfl) ?_
            refine va_get (D := D) (ci := 9) (v := .int w0_TO_4) (C := RX9) (T := TX9) (N := 7) hx hb hts iw_X9_advance_X9 hown hK hP 0 rfl rfl 4 (by decide) (hts (.fieldLink RX9 35 "SoldHouse$Tokens" "behind" "I") (List.mem_of_getElem? (i := 1) rfl)) (fun _ h9 => h9) rfl dX9_advance_108 ?_
            refine va_bald hx hb hK hP 2 1 rfl rfl (zB_in bx64t_w0_TO_4 (by decide) (by decide)) dX9_advance_111 ?_
            refine lv_topi (fun y111 _ => ?_)
            have hPc := hP.sub (ws' := []) [] rfl
            refine vp_callSi (va_runS (As := [.int y111]) (rest := []) ⟨hx, hb, hml, hown, hts⟩ (c_X9_isDigit l D cI cB cL cZ cG y111) (va_cwS 1 hts gX9_advance_X9_isDigit rfl rfl rfl (by decide +kernel) ⟨Nat.le_of_ble_eq_true rfl, Nat.le_of_ble_eq_true rfl⟩) ⟨xr_blind, fun U hU hW => xr_mk hU hW hPc hK⟩ rfl rfl hl.1 rfl (lv_room (Nat.le_of_ble_eq_true rfl)) dX9_advance_112 ⟨Nat.le_of_ble_eq_true rfl, Nat.le_of_ble_eq_true rfl⟩).run (fun r112 hr112 => ?_)
            clear hPc
            rcases hr112 with rfl | ⟨rfl, hr112_1_0⟩
            · refine lv_if_eq (tgt := 125) hx hb dX9_advance_115 (by decide) (fun _ => ?_) (fun c115 => absurd (by decide) c115)
              refine lv_aload_n hx hb dX9_advance_125 rfl (lv_at hl 0 rfl) ?_
              have hPc := hP.sub (ws' := [(TO, .inr (9, oX9 TA aTO TO_kind w0_TO_4 w0_TO_4 TO_word TO_value)), (TA, .inr (8, oX8 aTA TA_size)), ((aTA 0), .inl (cB, 1600, .inl TA_bytes))]) [0, 1, 2] rfl
              have hDc := hD.sub (ws' := [(TO, .inr (9, oX9 TA aTO TO_kind w0_TO_4 w0_TO_4 TO_word TO_value)), (TA, .inr (8, oX8 aTA TA_size)), ((aTA 0), .inl (cB, 1600, .inl TA_bytes))]) [0, 1, 2] (by decide) rfl
              have hFc := va_free (wc := [(TO, .inr (9, oX9 TA aTO TO_kind w0_TO_4 w0_TO_4 TO_word TO_value)), (TA, .inr (8, oX8 aTA TA_size)), ((aTA 0), .inl (cB, 1600, .inl TA_bytes))]) hD hS hA [0, 1, 2] rfl
              refine va_callv (va_runV (As := []) (rest := []) ⟨hx, hb, hml, hown, hts⟩ (c_X9_readSign l D cI cB cL cZ cG TO TA aTO TO_kind w0_TO_4 w0_TO_4 TO_word TO_value aTA TA_size TA_bytes aS vS H.size bx64t_w0_TO_4 (zB_w by64t_TA_size (by decide) (by decide))) (cwV 0 hts gX9_advance_X9_readSign rfl rfl rfl (by decide +kernel) ⟨Nat.le_of_ble_eq_true rfl, Nat.le_of_ble_eq_true rfl⟩) ⟨xpT_blind, va_recv hK hP (ci := 9) (q0 := 0) rfl rfl, fun U hU hW => xpT_mk hU hW hPc hK hDc hStr hS hFc⟩ rfl rfl hl.1 rfl (lv_room (Nat.le_of_ble_eq_true rfl)) dX9_advance_126 ⟨Nat.le_of_ble_eq_true rfl, Nat.le_of_ble_eq_true rfl⟩) hS (fun q _ h => hFc q h) hFc (fun u9 t9 H1 locs ht9 hvm9 hr126 hB9 hz9 hk9 hS => ?_)
              obtain ⟨o126_nTO_kind, o126_nTO_behind, o126_nTO_value, bo126_nTO_kind, bo126_nTO_behind, hP1, hD1⟩ := hB9
              rw [ht9] at hP1
              obtain ⟨hP, hD⟩ := va_join (wr := [((aTO 1), .inl (cL, 17, .inr (.inl TO_own)))]) (w1 := [(TO, .inr (9, oX9 TA aTO o126_nTO_kind w0_TO_4 o126_nTO_behind TO_word o126_nTO_value)), (TA, .inr (8, oX8 aTA TA_size)), ((aTA 0), .inl (cB, 1600, .inl TA_bytes))]) hP hD [0, 1, 2] [3] rfl rfl (by decide) (by decide) hk9 hFc hP1 hD1
              clear hz9 hPc hDc hP1 hD1 hk9 hFc ht9 hvm9 u9 t9
              generalize H1 = H at hP hS ⊢
              replace hP : va_P D classes [(TO, .inr (9, oX9 TA aTO o126_nTO_kind w0_TO_4 o126_nTO_behind TO_word o126_nTO_value)), (TA, .inr (8, oX8 aTA TA_size)), ((aTA 0), .inl (cB, 1600, .inl TA_bytes)), ((aTO 1), .inl (cL, 17, .inr (.inl TO_own)))] H := hP.sub [1, 2, 3, 0] rfl
              replace hD : va_D A [(TO, .inr (9, oX9 TA aTO o126_nTO_kind w0_TO_4 o126_nTO_behind TO_word o126_nTO_value)), (TA, .inr (8, oX8 aTA TA_size)), ((aTA 0), .inl (cB, 1600, .inl TA_bytes)), ((aTO 1), .inl (cL, 17, .inr (.inl TO_own)))] := hD.sub [1, 2, 3, 0] (by decide) rfl
              exact up _ _ _ (W.vret hx hb hr (fun t ht hW => ⟨⟨(), rfl, trivial, ⟨o126_nTO_kind, w0_TO_4, o126_nTO_behind, TO_word, o126_nTO_value, (zB_w bo126_nTO_kind (by decide) (by decide)), (zB_w bx64t_w0_TO_4 (by decide) (by decide)), (zB_w bo126_nTO_behind (by decide) (by decide)), by rw [ht]; exact hP, hD⟩⟩, hS.F ht⟩) hS.2.2 dX9_advance_129)
            · refine lv_if_eq (tgt := 125) hx hb dX9_advance_115 (by decide) (fun c115 => absurd c115 (by decide)) (fun _ => ?_)
              refine lv_aload_n hx hb dX9_advance_118 rfl (lv_at hl 0 rfl) ?_
              have hPc := hP.sub (ws' := [(TO, .inr (9, oX9 TA aTO TO_kind w0_TO_4 w0_TO_4 TO_word TO_value)), (TA, .inr (8, oX8 aTA TA_size)), ((aTA 0), .inl (cB, 1600, .inl TA_bytes))]) [0, 1, 2] rfl
              have hDc := hD.sub (ws' := [(TO, .inr (9, oX9 TA aTO TO_kind w0_TO_4 w0_TO_4 TO_word TO_value)), (TA, .inr (8, oX8 aTA TA_size)), ((aTA 0), .inl (cB, 1600, .inl TA_bytes))]) [0, 1, 2] (by decide) rfl
              have hFc := va_free (wc := [(TO, .inr (9, oX9 TA aTO TO_kind w0_TO_4 w0_TO_4 TO_word TO_value)), (TA, .inr (8, oX8 aTA TA_size)), ((aTA 0), .inl (cB, 1600, .inl TA_bytes))]) hD hS hA [0, 1, 2] rfl
              refine va_callv (va_runV (As := []) (rest := []) ⟨hx, hb, hml, hown, hts⟩ (c_X9_readNumber l D cI cB cL cZ cG TO TA aTO TO_kind w0_TO_4 w0_TO_4 TO_word TO_value aTA TA_size TA_bytes H.size (zB_w bx64t_w0_TO_4 (by decide) (by decide)) (zB_w by64t_TA_size (by decide) (by decide))) (cwV 0 hts gX9_advance_X9_readNumber rfl rfl rfl (by decide +kernel) ⟨Nat.le_of_ble_eq_true rfl, Nat.le_of_ble_eq_true rfl⟩) ⟨xp_blind, va_recv hK hP (ci := 9) (q0 := 0) rfl rfl, fun U hU hW => xp_mk hU hW hPc hK hDc xNw_nil⟩ rfl rfl hl.1 rfl (lv_room (Nat.le_of_ble_eq_true rfl)) dX9_advance_119 ⟨Nat.le_of_ble_eq_true rfl, Nat.le_of_ble_eq_true rfl⟩) hS (fun q _ h => hFc q h) hFc (fun u9 t9 H1 locs ht9 hvm9 hr119 hB9 hz9 hk9 hS => ?_)
              obtain ⟨o119_nTO_kind, o119_nTO_behind, o119_nTO_value, bo119_nTO_kind, bo119_nTO_behind, hP1, hD1⟩ := hB9
              rw [ht9] at hP1
              obtain ⟨hP, hD⟩ := va_join (wr := [((aTO 1), .inl (cL, 17, .inr (.inl TO_own)))]) (w1 := [(TO, .inr (9, oX9 TA aTO o119_nTO_kind w0_TO_4 o119_nTO_behind TO_word o119_nTO_value)), (TA, .inr (8, oX8 aTA TA_size)), ((aTA 0), .inl (cB, 1600, .inl TA_bytes))]) hP hD [0, 1, 2] [3] rfl rfl (by decide) (by decide) hk9 hFc hP1 hD1
              clear hz9 hPc hDc hP1 hD1 hk9 hFc ht9 hvm9 u9 t9
              generalize H1 = H at hP hS ⊢
              replace hP : va_P D classes [(TO, .inr (9, oX9 TA aTO o119_nTO_kind w0_TO_4 o119_nTO_behind TO_word o119_nTO_value)), (TA, .inr (8, oX8 aTA TA_size)), ((aTA 0), .inl (cB, 1600, .inl TA_bytes)), ((aTO 1), .inl (cL, 17, .inr (.inl TO_own)))] H := hP.sub [1, 2, 3, 0] rfl
              replace hD : va_D A [(TO, .inr (9, oX9 TA aTO o119_nTO_kind w0_TO_4 o119_nTO_behind TO_word o119_nTO_value)), (TA, .inr (8, oX8 aTA TA_size)), ((aTA 0), .inl (cB, 1600, .inl TA_bytes)), ((aTO 1), .inl (cL, 17, .inr (.inl TO_own)))] := hD.sub [1, 2, 3, 0] (by decide) rfl
              refine lv_goto (tgt := 129) hx hb dX9_advance_122 (by decide) ?_
              exact up _ _ _ (W.vret hx hb hr (fun t ht hW => ⟨⟨(), rfl, trivial, ⟨o119_nTO_kind, w0_TO_4, o119_nTO_behind, TO_word, o119_nTO_value, (zB_w bo119_nTO_kind (by decide) (by decide)), (zB_w bx64t_w0_TO_4 (by decide) (by decide)), bo119_nTO_behind, by rw [ht]; exact hP, hD⟩⟩, hS.F ht⟩) hS.2.2 dX9_advance_129)
          · refine lv_if_eq (tgt := 100) hx hb dX9_advance_90 (by decide) (fun c90 => absurd c90 (by decide)) (fun _ => ?_)
            refine lv_aload_n hx hb dX9_advance_93 rfl (lv_at hl 0 rfl) ?_
            have hPc := hP.sub (ws' := [(TO, .inr (9, oX9 TA aTO TO_kind w0_TO_4 w0_TO_4 TO_word TO_value)), (TA, .inr (8, oX8 aTA TA_size)), ((aTA 0), .inl (cB, 1600, .inl TA_bytes)), ((aTO 1), .inl (cL, 17, .inr (.inl TO_own)))]) [0, 1, 2, 3] rfl
            have hDc := hD.sub (ws' := [(TO, .inr (9, oX9 TA aTO TO_kind w0_TO_4 w0_TO_4 TO_word TO_value)), (TA, .inr (8, oX8 aTA TA_size)), ((aTA 0), .inl (cB, 1600, .inl TA_bytes)), ((aTO 1), .inl (cL, 17, .inr (.inl TO_own)))]) [0, 1, 2, 3] (by decide) rfl
            have hFc := va_free (wc := [(TO, .inr (9, oX9 TA aTO TO_kind w0_TO_4 w0_TO_4 TO_word TO_value)), (TA, .inr (8, oX8 aTA TA_size)), ((aTA 0), .inl (cB, 1600, .inl TA_bytes)), ((aTO 1), .inl (cL, 17, .inr (.inl TO_own)))]) hD hS hA [0, 1, 2, 3] rfl
            refine va_callv (va_runV (As := []) (rest := []) ⟨hx, hb, hml, hown, hts⟩ (c_X9_readWord l D cI cB cL cZ cG TO TA aTO TO_kind w0_TO_4 w0_TO_4 TO_word TO_value aTA TA_size TA_bytes TO_own H.size (zB_w bx64t_w0_TO_4 (by decide) (by decide)) (zB_w by64t_TA_size (by decide) (by decide))) (cwV 0 hts gX9_advance_X9_readWord rfl rfl rfl (by decide +kernel) ⟨Nat.le_of_ble_eq_true rfl, Nat.le_of_ble_eq_true rfl⟩) ⟨xp_blind, va_recv hK hP (ci := 9) (q0 := 0) rfl rfl, fun U hU hW => xp_mk hU hW hPc hK hDc xNw_nil⟩ rfl rfl hl.1 rfl (lv_room (Nat.le_of_ble_eq_true rfl)) dX9_advance_94 ⟨Nat.le_of_ble_eq_true rfl, Nat.le_of_ble_eq_true rfl⟩) hS (fun q _ h => hFc q h) hFc (fun u9 t9 H1 locs ht9 hvm9 hr94 hB9 hz9 hk9 hS => ?_)
            obtain ⟨o94_nTO_kind, o94_nTO_behind, o94_nTO_word, o94_nTO_value, bo94_nTO_kind, bo94_nTO_behind, bo94_nTO_value, hP1, hD1⟩ := hB9
            rw [ht9] at hP1
            obtain ⟨hP, hD⟩ := va_join (wr := []) (w1 := [(TO, .inr (9, oX9 TA aTO o94_nTO_kind w0_TO_4 o94_nTO_behind o94_nTO_word o94_nTO_value)), (TA, .inr (8, oX8 aTA TA_size)), ((aTA 0), .inl (cB, 1600, .inl TA_bytes)), ((aTO 1), .inl (cL, 17, .inr (.inl TO_own)))]) hP hD [0, 1, 2, 3] [] rfl rfl (by decide) (by decide) hk9 hFc hP1 hD1
            clear hz9 hPc hDc hP1 hD1 hk9 hFc ht9 hvm9 u9 t9
            generalize H1 = H at hP hS ⊢
            replace hP : va_P D classes [(TO, .inr (9, oX9 TA aTO o94_nTO_kind w0_TO_4 o94_nTO_behind o94_nTO_word o94_nTO_value)), (TA, .inr (8, oX8 aTA TA_size)), ((aTA 0), .inl (cB, 1600, .inl TA_bytes)), ((aTO 1), .inl (cL, 17, .inr (.inl TO_own)))] H := hP
            replace hD : va_D A [(TO, .inr (9, oX9 TA aTO o94_nTO_kind w0_TO_4 o94_nTO_behind o94_nTO_word o94_nTO_value)), (TA, .inr (8, oX8 aTA TA_size)), ((aTA 0), .inl (cB, 1600, .inl TA_bytes)), ((aTO 1), .inl (cL, 17, .inr (.inl TO_own)))] := hD
            refine lv_goto (tgt := 129) hx hb dX9_advance_97 (by decide) ?_
            exact up _ _ _ (W.vret hx hb hr (fun t ht hW => ⟨⟨(), rfl, trivial, ⟨o94_nTO_kind, w0_TO_4, o94_nTO_behind, o94_nTO_word, o94_nTO_value, (zB_w bo94_nTO_kind (by decide) (by decide)), (zB_w bx64t_w0_TO_4 (by decide) (by decide)), bo94_nTO_behind, by rw [ht]; exact hP, hD⟩⟩, hS.F ht⟩) hS.2.2 dX9_advance_129)
        · refine lv_aload_n hx hb dX9_advance_67 rfl (lv_at hl 0 rfl) ?_
          refine lv_iconst (v := 0) hx hb dX9_advance_68 (by decide) ?_
          refine va_put (D := D) (ci := 9) (v := .int 0) (ty := tyX9 2) (C := RX9) (T := TX9) (N := 7) hx hb hts iw_X9_advance_X9 tyX9 tyX9_ok nmX9 hown hK hP hD hS 0 rfl rfl 2 (by decide) (hts (.fieldLink RX9 58 "SoldHouse$Tokens" "kind" "I") (List.mem_of_getElem? (i := 6) rfl)) (fun _ h9 => h9) rfl (by decide +kernel) rfl rfl (Nat.le_of_ble_eq_true rfl) dX9_advance_69 (fun H locs hP hD hS => ?_)
          replace hP : va_P D classes [(TO, .inr (9, oX9 TA aTO 0 w0_TO_4 w0_TO_4 TO_word TO_value)), (TA, .inr (8, oX8 aTA TA_size)), ((aTA 0), .inl (cB, 1600, .inl TA_bytes)), ((aTO 1), .inl (cL, 17, .inr (.inl TO_own)))] H := hP
          replace hD : va_D A [(TO, .inr (9, oX9 TA aTO 0 w0_TO_4 w0_TO_4 TO_word TO_value)), (TA, .inr (8, oX8 aTA TA_size)), ((aTA 0), .inl (cB, 1600, .inl TA_bytes)), ((aTO 1), .inl (cL, 17, .inr (.inl TO_own)))] := hD
          refine lv_goto (tgt := 129) hx hb dX9_advance_72 (by decide) ?_
          exact up _ _ _ (W.vret hx hb hr (fun t ht hW => ⟨⟨(), rfl, trivial, ⟨0, w0_TO_4, w0_TO_4, TO_word, TO_value, (zB_w (show zB 0 0 0 from ⟨by decide, by decide⟩) (by decide) (by decide)), bw0_TO_4_k0, bw0_TO_4_k0, by rw [ht]; exact hP, hD⟩⟩, hS.F ht⟩) hS.2.2 dX9_advance_129)
      refine lv_icmp_ge (tgt := 45) hx hb dX9_advance_11 (by decide) (fun c11 => ?_) (fun c11 => ?_)
      · exact j45 H locs ls hP hD hS (lv_sub hl [0] rfl)
      · have bx11f_w0_TO_4 : zB w0_TO_4 0 1599 := zB_ltu (zf c11) bw0_TO_4_k0 b_TA_size (by decide)
        have by11f_TA_size : zB TA_size 1 1600 := zB_ltv (zf c11) bx11f_w0_TO_4 b_TA_size (by decide)
        refine lv_aload_n hx hb dX9_advance_14 rfl (lv_at hl 0 rfl) ?_
        refine va_get (D := D) (ci := 9) (v := .ref TA) (C := RX9) (T := TX9) (N := 7) hx hb hts iw_X9_advance_X9 hown hK hP 0 rfl rfl 0 (by decide) (hts (.fieldLink RX9 15 "SoldHouse$Tokens" "tape" "LSoldHouse$Tape;") (List.mem_of_getElem? (i := 2) rfl)) (fun _ h9 => h9) rfl dX9_advance_15 ?_
        refine va_get (D := D) (ci := 8) (v := .ref (aTA 0)) (C := RX8) (T := TX8) (N := 2) hx hb hts iw_X9_advance_X8 hown hK hP 1 rfl rfl 0 (by decide) (hts (.fieldLink RX9 47 "SoldHouse$Tape" "bytes" "[B") (List.mem_of_getElem? (i := 4) rfl)) (fun _ h9 => h9) rfl dX9_advance_18 ?_
        refine lv_aload_n hx hb dX9_advance_21 rfl (lv_at hl 0 rfl) ?_
        refine va_get (D := D) (ci := 9) (v := .int w0_TO_4) (C := RX9) (T := TX9) (N := 7) hx hb hts iw_X9_advance_X9 hown hK hP 0 rfl rfl 4 (by decide) (hts (.fieldLink RX9 35 "SoldHouse$Tokens" "behind" "I") (List.mem_of_getElem? (i := 1) rfl)) (fun _ h9 => h9) rfl dX9_advance_22 ?_
        refine va_bald hx hb hK hP 2 1 rfl rfl (zB_in bx11f_w0_TO_4 (by decide) (by decide)) dX9_advance_25 ?_
        refine lv_topi (fun y25 _ => ?_)
        have hPc := hP.sub (ws' := []) [] rfl
        refine vp_callSi (va_runS (As := [.int y25]) (rest := []) ⟨hx, hb, hml, hown, hts⟩ (c_X9_isBlank l D cI cB cL cZ cG y25) (va_cwS 1 hts gX9_advance_X9_isBlank rfl rfl rfl (by decide +kernel) ⟨Nat.le_of_ble_eq_true rfl, Nat.le_of_ble_eq_true rfl⟩) ⟨xr_blind, fun U hU hW => xr_mk hU hW hPc hK⟩ rfl rfl hl.1 rfl (lv_room (Nat.le_of_ble_eq_true rfl)) dX9_advance_26 ⟨Nat.le_of_ble_eq_true rfl, Nat.le_of_ble_eq_true rfl⟩).run (fun r26 hr26 => ?_)
        clear hPc
        rcases hr26 with rfl | ⟨rfl, hr26_1_0⟩
        · refine lv_if_eq (tgt := 45) hx hb dX9_advance_29 (by decide) (fun _ => ?_) (fun c29 => absurd (by decide) c29)
          exact j45 H locs ls hP hD hS (lv_sub hl [0] rfl)
        · refine lv_if_eq (tgt := 45) hx hb dX9_advance_29 (by decide) (fun c29 => absurd c29 (by decide)) (fun _ => ?_)
          refine lv_aload_n hx hb dX9_advance_32 rfl (lv_at hl 0 rfl) ?_
          refine lv_dup hx hb dX9_advance_33 rfl ?_
          refine va_get (D := D) (ci := 9) (v := .int w0_TO_4) (C := RX9) (T := TX9) (N := 7) hx hb hts iw_X9_advance_X9 hown hK hP 0 rfl rfl 4 (by decide) (hts (.fieldLink RX9 35 "SoldHouse$Tokens" "behind" "I") (List.mem_of_getElem? (i := 1) rfl)) (fun _ h9 => h9) rfl dX9_advance_34 ?_
          refine lv_iconst (v := 1) hx hb dX9_advance_37 (by decide) ?_
          refine lv_iadd hx hb dX9_advance_38 ?_
          refine zi_top2 (P := fun y => y.toInt = w0_TO_4.toInt + 1) (a := 1) (b := 1600) (zB_add bx11f_w0_TO_4 (show zB 1 1 1 from ⟨by decide, by decide⟩) (by decide) (by decide) (by decide) (by decide)) (zR_addc bx11f_w0_TO_4 (by decide) (by decide) (by decide)) (fun y38 by38 ry38 => ?_)
          refine va_put (D := D) (ci := 9) (v := .int y38) (ty := tyX9 4) (C := RX9) (T := TX9) (N := 7) hx hb hts iw_X9_advance_X9 tyX9 tyX9_ok nmX9 hown hK hP hD hS 0 rfl rfl 4 (by decide) (hts (.fieldLink RX9 35 "SoldHouse$Tokens" "behind" "I") (List.mem_of_getElem? (i := 1) rfl)) (fun _ h9 => h9) rfl (by decide +kernel) rfl rfl (Nat.le_of_ble_eq_true rfl) dX9_advance_39 (fun H locs hP hD hS => ?_)
          replace hP : va_P D classes [(TO, .inr (9, oX9 TA aTO TO_kind TO_place y38 TO_word TO_value)), (TA, .inr (8, oX8 aTA TA_size)), ((aTA 0), .inl (cB, 1600, .inl TA_bytes)), ((aTO 1), .inl (cL, 17, .inr (.inl TO_own)))] H := hP
          replace hD : va_D A [(TO, .inr (9, oX9 TA aTO TO_kind TO_place y38 TO_word TO_value)), (TA, .inr (8, oX8 aTA TA_size)), ((aTA 0), .inl (cB, 1600, .inl TA_bytes)), ((aTO 1), .inl (cL, 17, .inr (.inl TO_own)))] := hD
          refine lv_goto (tgt := 0) hx hb dX9_advance_42 (by decide) ?_
          exact ih0 H locs ls y38 (zB_w by38 (by decide) (by decide)) (zM_us (k := 1) hm0 ry38 (by decide)) hP hD hS (lv_sub hl [0] rfl)
  exact j0 1601 H locs ls TO_behind b_TO_behind (zM_ui b_TO_behind (by decide)) hP hD hS (lv_sub hl [0] rfl)
