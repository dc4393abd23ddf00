set_option maxHeartbeats 8000000 in
set_option maxRecDepth 100000 in
/-- the law, from its entry -/
theorem whole_start {p : Program} {e : Env} {s : State} {m : MethodId} {below : List Frame} {meth : Method} {c : Code} (l : Launch) (hflags : l.flags = flags0) {b L : Nat} {xs : Nat → Int32} (hL : L ≤ 3072) (C0 : lw_At p s m meth c b L xs) : W p l e room_1 s m #[Value.ref b] below meth c s.heap [] 0 0 (lw_Z below #[Value.ref b] s) (entryFrame m ([Value.ref b] : List Value).toArray 4) := by
  obtain ⟨hx, hb, hr, hml, hown, hts0, hX, hbl, hlocks, hgv⟩ := id C0
  have hts : ∀ w ∈ wsL_law, w.before #[Value.ref b] s = true := fun w h => hts0 w (wsL_law_in w h)
  obtain ⟨A, hAe⟩ : ∃ A : Nat → Prop, A = fun q => s.heap.size ≤ q := ⟨_, rfl⟩
  have hA : ∀ q : Nat, s.heap.size ≤ q → A q := fun q h => by rw [hAe]; exact h
  have hbA : ¬ A b := by rw [hAe]; exact Nat.not_le.mpr hbl
  have hAn : ∀ a : Nat, a < s.heap.size → ¬ A a := fun a h => by rw [hAe]; exact Nat.not_le.mpr h
  obtain ⟨cI, hcI1, hcI2⟩ := zz_arr (ty := .int) (hts (.arrayClass .int) (List.mem_of_getElem? (i := 54) (by decide +kernel))) (fun _ h => h)
  obtain ⟨cB, hcB1, hcB2⟩ := zz_arr (ty := .byte) (hts (.arrayClass .byte) (List.mem_of_getElem? (i := 77) (by decide +kernel))) (fun _ h => h)
  obtain ⟨cL, hcL1, hcL2⟩ := zz_arr (ty := .long) (hts (.arrayClass .long) (List.mem_of_getElem? (i := 52) (by decide +kernel))) (fun _ h => h)
  obtain ⟨cZ, hcZ1, hcZ2⟩ := zz_arr (ty := .boolean) (hts (.arrayClass .boolean) (List.mem_of_getElem? (i := 179) (by decide +kernel))) (fun _ h => h)
  obtain ⟨c0, iS0, hKn0⟩ := u_known (C := RX0) (T := TX0) (N := 5) (n := 5) hts inlX0 (hts (.instantiable RX0 5) (List.mem_of_getElem? (i := 26) (by decide +kernel)))
  obtain ⟨c1, iS1, hKn1⟩ := u_known (C := RX1) (T := TX1) (N := 6) (n := 6) hts inlX1 (hts (.instantiable RX1 6) (List.mem_of_getElem? (i := 65) (by decide +kernel)))
  obtain ⟨c2, iS2, hKn2⟩ := u_known (C := RX2) (T := TX2) (N := 2) (n := 2) hts inlX2 (hts (.instantiable RX2 2) (List.mem_of_getElem? (i := 34) (by decide +kernel)))
  obtain ⟨c3, iS3, hKn3⟩ := u_known (C := RX3) (T := TX3) (N := 9) (n := 9) hts inlX3 (hts (.instantiable RX3 9) (List.mem_of_getElem? (i := 38) (by decide +kernel)))
  obtain ⟨c4, iS4, hKn4⟩ := u_known (C := RX4) (T := TX4) (N := 10) (n := 10) hts inlX4 (hts (.instantiable RX4 10) (List.mem_of_getElem? (i := 46) (by decide +kernel)))
  obtain ⟨c5, iS5, hKn5⟩ := u_known (C := RX5) (T := TX5) (N := 16) (n := 16) hts inlX5 (hts (.instantiable RX5 16) (List.mem_of_getElem? (i := 13) (by decide +kernel)))
  obtain ⟨c6, iS6, hKn6⟩ := u_known (C := RX6) (T := TX6) (N := 4) (n := 4) hts inlX6 (hts (.instantiable RX6 4) (List.mem_of_getElem? (i := 22) (by decide +kernel)))
  obtain ⟨c7, iS7, hKn7⟩ := u_known (C := RX7) (T := TX7) (N := 5) (n := 5) hts inlX7 (hts (.instantiable RX7 5) (List.mem_of_getElem? (i := 30) (by decide +kernel)))
  obtain ⟨c8, iS8, hKn8⟩ := u_known (C := RX8) (T := TX8) (N := 2) (n := 2) hts inlX8 (hts (.instantiable RX8 2) (List.mem_of_getElem? (i := 18) (by decide +kernel)))
  obtain ⟨c9, iS9, hKn9⟩ := u_known (C := RX9) (T := TX9) (N := 7) (n := 7) hts inlX9 (hts (.instantiable RX9 7) (List.mem_of_getElem? (i := 85) (by decide +kernel)))
  obtain ⟨c10, iS10, hKn10⟩ := u_known (C := RX10) (T := TX10) (N := 1) (n := 1) hts inlX10 (hts (.instantiable RX10 1) (List.mem_of_getElem? (i := 42) (by decide +kernel)))
  obtain ⟨c11, iS11, hKn11⟩ := u_known (C := RX11) (T := TX11) (N := 10) (n := 10) hts inlX11 (hts (.instantiable RX11 10) (List.mem_of_getElem? (i := 1) (by decide +kernel)))
  obtain ⟨c12, iS12, hKn12⟩ := u_known (C := RX12) (T := TX12) (N := 71) (n := 71) hts inlX12 (hts (.instantiable RX12 71) (List.mem_of_getElem? (i := 4) (by decide +kernel)))
  obtain ⟨D, hKc⟩ : ∃ D : va_G, ∀ (k : Nat) (q : vw_C), classes[k]? = some q → u_Kn s q.1 q.2.1 q.2.2 (D.1 k) (D.2 k) := by
    refine ⟨(fun k => List.getD [c0, c1, c2, c3, c4, c5, c6, c7, c8, c9, c10, c11, c12] k c0, fun k => List.getD [iS0, iS1, iS2, iS3, iS4, iS5, iS6, iS7, iS8, iS9, iS10, iS11, iS12] k iS0), ?_⟩
    intro k q hq
    match k, hq with
    | 0, hq => cases hq; exact hKn0
    | 1, hq => cases hq; exact hKn1
    | 2, hq => cases hq; exact hKn2
    | 3, hq => cases hq; exact hKn3
    | 4, hq => cases hq; exact hKn4
    | 5, hq => cases hq; exact hKn5
    | 6, hq => cases hq; exact hKn6
    | 7, hq => cases hq; exact hKn7
    | 8, hq => cases hq; exact hKn8
    | 9, hq => cases hq; exact hKn9
    | 10, hq => cases hq; exact hKn10
    | 11, hq => cases hq; exact hKn11
    | 12, hq => cases hq; exact hKn12
    | k + 13, hq => simp [classes] at hq
  have hK : va_K D classes [(cI, .int), (cB, .byte), (cL, .long), (cZ, .boolean)] s := ⟨hKc, fun k q h => by
    match k, h with
    | 0, h => cases h; exact ⟨hcI1, hcI2⟩
    | 1, h => cases h; exact ⟨hcB1, hcB2⟩
    | 2, h => cases h; exact ⟨hcL1, hcL2⟩
    | 3, h => cases h; exact ⟨hcZ1, hcZ2⟩
    | k + 4, h => simp at h⟩
  obtain ⟨⟨aS0, vS0, fo, hStr0⟩, aS, vS, hStr⟩ := law_str hts0 hgv hAn
  have hAO : va_AOA .int s := va_AOA.of (hts0 (Cond.arrayOver (.array .int)) (List.mem_append_right _ (List.mem_of_getElem? (i := 364) (by decide +kernel))))
  have hNw : xNw [(RX11, 9, yX5_init, "SoldHouse"), (RX11, 21, yX8_init, "SoldHouse"), (RX5, 45, yX1_init, "SoldHouse")] s := fun q hq => by
    simp only [List.mem_cons, List.not_mem_nil, or_false] at hq
    rcases hq with rfl | rfl | rfl
    · exact va_Nw.of rfl (hts0 _ (List.mem_append_right _ (List.mem_of_getElem? (i := 33) (by decide +kernel))))
    · exact va_Nw.of rfl (hts0 _ (List.mem_append_right _ (List.mem_of_getElem? (i := 165) (by decide +kernel))))
    · exact va_Nw.of rfl (hts0 _ (List.mem_append_right _ (List.mem_of_getElem? (i := 39) (by decide +kernel))))
  have hP : va_P D classes [] s.heap := fun k q h => by simp at h
  have hD : va_D A [] := ⟨fun i j p q h => by simp at h, fun k q h => by simp at h⟩
  have hS : va_S A s.heap s.heap [] := va_S.rf
  have hl := lv_entry ([.ref b]) (n := 4) (Nat.le_of_ble_eq_true rfl)
  rw [lg_entry_eq]
  generalize (lg_sl ([.ref b]) ++ List.replicate (4 - (lg_sl ([.ref b])).length) Slot.unset).toArray = ls at hl ⊢
  replace hl : lv_has ls 4 [(0, .ref b)] := hl
  obtain ⟨H, hH⟩ : ∃ H : Heap, H = s.heap := ⟨_, rfl⟩
  obtain ⟨locs, hlocs⟩ : ∃ L : List Loc, L = [] := ⟨_, rfl⟩
  replace hP : va_P D classes [] H := by rw [hH]; exact hP
  replace hS : va_S A s.heap H locs := by rw [hH, hlocs]; exact hS
  rw [← hH, ← hlocs]
  clear hlocs hH
  refine va_new (ci := 11) (fs := [.null, .null, .null, .null, .null, .null, .null, .null, .null, .null]) (C := RX11) (T := TX11) (N := 10) hx hb hts inlX11 tyX11 tyX11_ok hown (hts (.classLink RL 7 RX11) (List.mem_of_getElem? (i := 0) (by decide +kernel))) (hts (.instantiable RX11 10) (List.mem_of_getElem? (i := 1) (by decide +kernel))) (hts (.initialized RX11) (List.mem_of_getElem? (i := 2) (by decide +kernel))) hK hP hD hS hA rfl (fun j hj => by rcases (show j = 0 ∨ j = 1 ∨ j = 2 ∨ j = 3 ∨ j = 4 ∨ j = 5 ∨ j = 6 ∨ j = 7 ∨ j = 8 ∨ j = 9 by omega) with rfl | rfl | rfl | rfl | rfl | rfl | rfl | rfl | rfl | rfl <;> rfl) (Nat.le_of_ble_eq_true rfl) (Nat.le_of_ble_eq_true rfl) dL_law_0 (fun SO H hP hD hS => ?_)
  replace hP : va_P D classes [(SO, .inr (11, [.null, .null, .null, .null, .null, .null, .null, .null, .null, .null]))] H := hP
  replace hD : va_D A [(SO, .inr (11, [.null, .null, .null, .null, .null, .null, .null, .null, .null, .null]))] := hD
  refine lv_dup hx hb dL_law_3 rfl ?_
  have hPc := hP.sub (ws' := [(SO, .inr (11, [.null, .null, .null, .null, .null, .null, .null, .null, .null, .null]))]) [0] rfl
  have hDc := hD.sub (ws' := [(SO, .inr (11, [.null, .null, .null, .null, .null, .null, .null, .null, .null, .null]))]) [0] (by decide) rfl
  have hFc := va_free (wc := [(SO, .inr (11, [.null, .null, .null, .null, .null, .null, .null, .null, .null, .null]))]) hD hS hA [0] rfl
  refine va_callv (va_runI (As := []) (rest := [.ref SO]) ⟨hx, hb, hml, hown, hts⟩ (i_SoldHouse2 l aS0 vS0 fo D cI cB cL cZ SO H.size) (cwI 0 hts gL_law_X11_init rfl rfl rfl (hts (.initialized RX11) (List.mem_of_getElem? (i := 2) (by decide +kernel))) (hts (.methodLink RL 9 yX11_init) (List.mem_of_getElem? (i := 6) (by decide +kernel))) (hts (.instanceMethod yX11_init) (List.mem_of_getElem? (i := 7) (by decide +kernel))) rfl (by decide +kernel) ⟨Nat.le_of_ble_eq_true rfl, Nat.le_of_ble_eq_true rfl⟩) ⟨xpS_blind, fun U hU hW => xpS_mk hU hW hPc hK hDc hNw hAO hStr0 hS hFc⟩ rfl rfl hl.1 rfl (lv_room (Nat.le_of_ble_eq_true rfl)) dL_law_4 ⟨Nat.le_of_ble_eq_true rfl, Nat.le_of_ble_eq_true rfl⟩) hS (fun q _ h => hFc q h) hFc (fun u9 t9 H1 locs ht9 hvm9 h9 hB9 hz9 hk9 hS => ?_)
  revert hB9
  refine zE (fun cG => ?_)
  refine zN (fun hK9 => ?_)
  refine zE (fun PL => ?_)
  refine zE (fun DR => ?_)
  refine zE (fun TA => ?_)
  refine zE (fun RE => ?_)
  refine zE (fun FL => ?_)
  refine zE (fun RO => ?_)
  refine zE (fun HU => ?_)
  refine zE (fun ME => ?_)
  refine zE (fun TR => ?_)
  refine zE (fun NI => ?_)
  refine zE (fun PL_rooms => ?_)
  refine zE (fun aPL => ?_)
  refine zE (fun PL_doors => ?_)
  refine zE (fun PL_things => ?_)
  refine zE (fun FO => ?_)
  refine zE (fun PL_draw => ?_)
  refine zE (fun PL_drawTold => ?_)
  refine zE (fun PL_roomName => ?_)
  refine zE (fun PL_creaks => ?_)
  refine zE (fun PL_doorFrom => ?_)
  refine zE (fun PL_doorTo => ?_)
  refine zE (fun PL_thingName => ?_)
  refine zE (fun PL_in => ?_)
  refine zE (fun PL_was => ?_)
  refine zE (fun PL_ours => ?_)
  refine zE (fun PL_us => ?_)
  refine zE (fun PL_them => ?_)
  refine zE (fun aFO => ?_)
  refine zE (fun FO_size => ?_)
  refine zE (fun FO_units => ?_)
  refine zE (fun FO_told => ?_)
  refine zE (fun FO_steps => ?_)
  refine zE (fun FO_stack => ?_)
  refine zE (fun FO_known => ?_)
  refine zE (fun DR_rooms => ?_)
  refine zE (fun aDR => ?_)
  refine zE (fun DR_doors => ?_)
  refine zE (fun DR_things => ?_)
  refine zE (fun DF => ?_)
  refine zE (fun DR_draw => ?_)
  refine zE (fun DR_drawTold => ?_)
  refine zE (fun DR_roomName => ?_)
  refine zE (fun DR_creaks => ?_)
  refine zE (fun DR_doorFrom => ?_)
  refine zE (fun DR_doorTo => ?_)
  refine zE (fun DR_thingName => ?_)
  refine zE (fun DR_in => ?_)
  refine zE (fun DR_was => ?_)
  refine zE (fun DR_ours => ?_)
  refine zE (fun DR_us => ?_)
  refine zE (fun DR_them => ?_)
  refine zE (fun aDF => ?_)
  refine zE (fun DF_size => ?_)
  refine zE (fun DF_units => ?_)
  refine zE (fun DF_told => ?_)
  refine zE (fun DF_steps => ?_)
  refine zE (fun DF_stack => ?_)
  refine zE (fun DF_known => ?_)
  refine zE (fun aTA => ?_)
  refine zE (fun TA_size => ?_)
  refine zE (fun TA_bytes => ?_)
  refine zE (fun TO => ?_)
  refine zE (fun RP => ?_)
  refine zE (fun RE_fault => ?_)
  refine zE (fun RE_faultPlace => ?_)
  refine zE (fun aTO => ?_)
  refine zE (fun TO_kind => ?_)
  refine zE (fun TO_place => ?_)
  refine zE (fun TO_behind => ?_)
  refine zE (fun TO_word => ?_)
  refine zE (fun TO_value => ?_)
  refine zE (fun TO_own => ?_)
  refine zE (fun aFL => ?_)
  refine zE (fun FL_parting => ?_)
  refine zE (fun FL_next => ?_)
  refine zE (fun FL_far => ?_)
  refine zE (fun FL_near => ?_)
  refine zE (fun aRO => ?_)
  refine zE (fun RO_lying => ?_)
  refine zE (fun RO_lie => ?_)
  refine zE (fun RO_cost => ?_)
  refine zE (fun RO_rest => ?_)
  refine zE (fun aHU => ?_)
  refine zE (fun HU_asks => ?_)
  refine zE (fun aME => ?_)
  refine zE (fun ME_oldest => ?_)
  refine zE (fun ME_done => ?_)
  refine zE (fun ME_undone => ?_)
  refine zE (fun ME_now => ?_)
  refine zE (fun ME_ahead => ?_)
  refine zE (fun ME_kept => ?_)
  refine zE (fun KRr => ?_)
  refine zE (fun ME_box => ?_)
  refine zE (fun BRr => ?_)
  refine zE (fun ME_full => ?_)
  refine zE (fun NI_count => ?_)
  refine zE (fun NI_time => ?_)
  refine zE (fun aNI => ?_)
  refine zE (fun NI_minute => ?_)
  refine zE (fun NI_rooms => ?_)
  refine zE (fun NI_toldAt => ?_)
  refine zE (fun NI_untoldAt => ?_)
  refine zE (fun NI_open => ?_)
  refine zE (fun NI_into => ?_)
  refine zE (fun NI_onward => ?_)
  refine zE (fun KRf => ?_)
  refine zE (fun BRf => ?_)
  refine zN (fun q_ME => ?_)
  refine zN (fun b_PL_rooms => ?_)
  refine zN (fun b_PL_doors => ?_)
  refine zN (fun b_PL_things => ?_)
  refine zN (fun b_FO_size => ?_)
  refine zN (fun b_DR_rooms => ?_)
  refine zN (fun b_DR_doors => ?_)
  refine zN (fun b_DR_things => ?_)
  refine zN (fun b_DF_size => ?_)
  refine zN (fun b_TA_size => ?_)
  refine zN (fun b_TO_behind => ?_)
  refine zN (fun b_RO_lying => ?_)
  refine zN (fun b_ME_oldest => ?_)
  refine zN (fun b_ME_done => ?_)
  refine zN (fun b_ME_undone => ?_)
  refine zN (fun b_NI_count => ?_)
  refine zN (fun b_NI_time => ?_)
  refine zN (fun s_PL_doorFrom_0 => ?_)
  refine zN (fun s_PL_doorTo_0 => ?_)
  refine zN (fun s_PL_in_0 => ?_)
  refine zN (fun s_PL_was_0 => ?_)
  refine zN (fun s_DR_doorFrom_0 => ?_)
  refine zN (fun s_DR_doorTo_0 => ?_)
  refine zN (fun s_DR_in_0 => ?_)
  refine zN (fun s_DR_was_0 => ?_)
  refine zN (fun s_FL_far_0 => ?_)
  refine zN (fun s_ME_now_0 => ?_)
  refine zN (fun s_ME_ahead_0 => ?_)
  refine zN (fun k_ME_kept => ?_)
  refine zN (fun k_ME_box => ?_)
  refine zN (fun s_NI_minute_0 => ?_)
  refine zN (fun w_KR => ?_)
  refine zN (fun w_BR => ?_)
  refine zN (fun hti0 => ?_)
  refine zN (fun hP1 hD1 => ?_)
  replace hK : va_K D classes [(cI, .int), (cB, .byte), (cL, .long), (cZ, .boolean), (cG, .array .int)] s := va_K.moved hvm9.symm hK9
  clear hK9
  rw [ht9] at hP1
  obtain ⟨hP, hD⟩ := va_join (wr := []) (w1 := ([(SO, .inr (11, oX11 PL DR TA RE FL RO HU ME TR NI)), (PL, .inr (5, oX5 FO aPL PL_rooms PL_doors PL_things PL_draw PL_drawTold)), ((aPL 1), .inl (cL, 8, .inr (.inl PL_roomName))), ((aPL 2), .inl (cI, 8, .inl PL_creaks)), ((aPL 4), .inl (cI, 12, .inl PL_doorFrom)), ((aPL 5), .inl (cI, 12, .inl PL_doorTo)), ((aPL 7), .inl (cL, 6, .inr (.inl PL_thingName))), ((aPL 8), .inl (cI, 6, .inl PL_in)), ((aPL 9), .inl (cI, 6, .inl PL_was)), ((aPL 10), .inl (cI, 6, .inl PL_ours)), ((aPL 11), .inl (cI, 6, .inl PL_us)), ((aPL 12), .inl (cI, 6, .inl PL_them)), (FO, .inr (1, oX1 aFO FO_size FO_units FO_told)), ((aFO 0), .inl (cI, 400, .inl FO_steps)), ((aFO 1), .inl (cI, 61, .inl FO_stack)), ((aFO 2), .inl (cI, 5, .inl FO_known)), (DR, .inr (5, oX5 DF aDR DR_rooms DR_doors DR_things DR_draw DR_drawTold)), ((aDR 1), .inl (cL, 8, .inr (.inl DR_roomName))), ((aDR 2), .inl (cI, 8, .inl DR_creaks)), ((aDR 4), .inl (cI, 12, .inl DR_doorFrom)), ((aDR 5), .inl (cI, 12, .inl DR_doorTo)), ((aDR 7), .inl (cL, 6, .inr (.inl DR_thingName))), ((aDR 8), .inl (cI, 6, .inl DR_in)), ((aDR 9), .inl (cI, 6, .inl DR_was)), ((aDR 10), .inl (cI, 6, .inl DR_ours)), ((aDR 11), .inl (cI, 6, .inl DR_us)), ((aDR 12), .inl (cI, 6, .inl DR_them)), (DF, .inr (1, oX1 aDF DF_size DF_units DF_told)), ((aDF 0), .inl (cI, 400, .inl DF_steps)), ((aDF 1), .inl (cI, 61, .inl DF_stack)), ((aDF 2), .inl (cI, 5, .inl DF_known)), (TA, .inr (8, oX8 aTA TA_size)), ((aTA 0), .inl (cB, 1600, .inl TA_bytes)), (RE, .inr (6, oX6 TO RP RE_fault RE_faultPlace)), (TO, .inr (9, oX9 TA aTO TO_kind TO_place TO_behind TO_word TO_value)), ((aTO 1), .inl (cL, 17, .inr (.inl TO_own))), (FL, .inr (0, oX0 PL aFL FL_parting)), ((aFL 1), .inl (cI, 8, .inl FL_next)), ((aFL 2), .inl (cI, 64, .inl FL_far)), ((aFL 3), .inl (cI, 12, .inl FL_near)), (RO, .inr (7, oX7 FL aRO RO_lying)), ((aRO 1), .inl (cI, 8, .inl RO_lie)), ((aRO 3), .inl (cI, 8, .inl RO_cost)), ((aRO 4), .inl (cI, 2048, .inl RO_rest)), (HU, .inr (2, oX2 FL aHU)), ((aHU 1), .inl (cI, 256, .inl HU_asks)), (ME, .inr (3, oX3 FL aME ME_oldest ME_done ME_undone)), ((aME 1), .inl (cI, 32, .inl ME_now)), ((aME 2), .inl (cI, 32, .inl ME_ahead)), ((aME 3), .inl (cG, 41, .inr (.inr (.inr (.inr ME_kept))))), ((aME 7), .inl (cG, 3, .inr (.inr (.inr (.inr ME_box))))), ((aME 8), .inl (cZ, 3, .inl ME_full)), (TR, .inr (10, oX10 ME)), (NI, .inr (4, oX4 FL aNI NI_count NI_time)), ((aNI 3), .inl (cI, 30, .inl NI_minute)), ((aNI 4), .inl (cI, 30, .inl NI_rooms)), ((aNI 5), .inl (cI, 30, .inl NI_toldAt)), ((aNI 6), .inl (cI, 30, .inl NI_untoldAt)), ((aNI 7), .inl (cI, 8, .inl NI_open)), ((aNI 8), .inl (cI, 64, .inl NI_into)), ((aNI 9), .inl (cI, 64, .inl NI_onward))] ++ rw41 cI KRr KRf ++ rw3 cI BRr BRf)) hP hD [0] [] rfl rfl (by decide +kernel) (by decide +kernel) hk9 hFc hP1 hD1
  clear hz9 hPc hDc hP1 hD1 hk9 hFc ht9 hvm9 u9 t9
  generalize H1 = H at hP hS ⊢
  replace hP : va_P D classes ([(SO, .inr (11, oX11 PL DR TA RE FL RO HU ME TR NI)), (PL, .inr (5, oX5 FO aPL PL_rooms PL_doors PL_things PL_draw PL_drawTold)), ((aPL 1), .inl (cL, 8, .inr (.inl PL_roomName))), ((aPL 2), .inl (cI, 8, .inl PL_creaks)), ((aPL 4), .inl (cI, 12, .inl PL_doorFrom)), ((aPL 5), .inl (cI, 12, .inl PL_doorTo)), ((aPL 7), .inl (cL, 6, .inr (.inl PL_thingName))), ((aPL 8), .inl (cI, 6, .inl PL_in)), ((aPL 9), .inl (cI, 6, .inl PL_was)), ((aPL 10), .inl (cI, 6, .inl PL_ours)), ((aPL 11), .inl (cI, 6, .inl PL_us)), ((aPL 12), .inl (cI, 6, .inl PL_them)), (FO, .inr (1, oX1 aFO FO_size FO_units FO_told)), ((aFO 0), .inl (cI, 400, .inl FO_steps)), ((aFO 1), .inl (cI, 61, .inl FO_stack)), ((aFO 2), .inl (cI, 5, .inl FO_known)), (DR, .inr (5, oX5 DF aDR DR_rooms DR_doors DR_things DR_draw DR_drawTold)), ((aDR 1), .inl (cL, 8, .inr (.inl DR_roomName))), ((aDR 2), .inl (cI, 8, .inl DR_creaks)), ((aDR 4), .inl (cI, 12, .inl DR_doorFrom)), ((aDR 5), .inl (cI, 12, .inl DR_doorTo)), ((aDR 7), .inl (cL, 6, .inr (.inl DR_thingName))), ((aDR 8), .inl (cI, 6, .inl DR_in)), ((aDR 9), .inl (cI, 6, .inl DR_was)), ((aDR 10), .inl (cI, 6, .inl DR_ours)), ((aDR 11), .inl (cI, 6, .inl DR_us)), ((aDR 12), .inl (cI, 6, .inl DR_them)), (DF, .inr (1, oX1 aDF DF_size DF_units DF_told)), ((aDF 0), .inl (cI, 400, .inl DF_steps)), ((aDF 1), .inl (cI, 61, .inl DF_stack)), ((aDF 2), .inl (cI, 5, .inl DF_known)), (TA, .inr (8, oX8 aTA TA_size)), ((aTA 0), .inl (cB, 1600, .inl TA_bytes)), (RE, .inr (6, oX6 TO RP RE_fault RE_faultPlace)), (TO, .inr (9, oX9 TA aTO TO_kind TO_place TO_behind TO_word TO_value)), ((aTO 1), .inl (cL, 17, .inr (.inl TO_own))), (FL, .inr (0, oX0 PL aFL FL_parting)), ((aFL 1), .inl (cI, 8, .inl FL_next)), ((aFL 2), .inl (cI, 64, .inl FL_far)), ((aFL 3), .inl (cI, 12, .inl FL_near)), (RO, .inr (7, oX7 FL aRO RO_lying)), ((aRO 1), .inl (cI, 8, .inl RO_lie)), ((aRO 3), .inl (cI, 8, .inl RO_cost)), ((aRO 4), .inl (cI, 2048, .inl RO_rest)), (HU, .inr (2, oX2 FL aHU)), ((aHU 1), .inl (cI, 256, .inl HU_asks)), (ME, .inr (3, oX3 FL aME ME_oldest ME_done ME_undone)), ((aME 1), .inl (cI, 32, .inl ME_now)), ((aME 2), .inl (cI, 32, .inl ME_ahead)), ((aME 3), .inl (cG, 41, .inr (.inr (.inr (.inr ME_kept))))), ((aME 7), .inl (cG, 3, .inr (.inr (.inr (.inr ME_box))))), ((aME 8), .inl (cZ, 3, .inl ME_full)), (TR, .inr (10, oX10 ME)), (NI, .inr (4, oX4 FL aNI NI_count NI_time)), ((aNI 3), .inl (cI, 30, .inl NI_minute)), ((aNI 4), .inl (cI, 30, .inl NI_rooms)), ((aNI 5), .inl (cI, 30, .inl NI_toldAt)), ((aNI 6), .inl (cI, 30, .inl NI_untoldAt)), ((aNI 7), .inl (cI, 8, .inl NI_open)), ((aNI 8), .inl (cI, 64, .inl NI_into)), ((aNI 9), .inl (cI, 64, .inl NI_onward))] ++ rw41 cI KRr KRf ++ rw3 cI BRr BRf) H := hP
  replace hD : va_D A ([(SO, .inr (11, oX11 PL DR TA RE FL RO HU ME TR NI)), (PL, .inr (5, oX5 FO aPL PL_rooms PL_doors PL_things PL_draw PL_drawTold)), ((aPL 1), .inl (cL, 8, .inr (.inl PL_roomName))), ((aPL 2), .inl (cI, 8, .inl PL_creaks)), ((aPL 4), .inl (cI, 12, .inl PL_doorFrom)), ((aPL 5), .inl (cI, 12, .inl PL_doorTo)), ((aPL 7), .inl (cL, 6, .inr (.inl PL_thingName))), ((aPL 8), .inl (cI, 6, .inl PL_in)), ((aPL 9), .inl (cI, 6, .inl PL_was)), ((aPL 10), .inl (cI, 6, .inl PL_ours)), ((aPL 11), .inl (cI, 6, .inl PL_us)), ((aPL 12), .inl (cI, 6, .inl PL_them)), (FO, .inr (1, oX1 aFO FO_size FO_units FO_told)), ((aFO 0), .inl (cI, 400, .inl FO_steps)), ((aFO 1), .inl (cI, 61, .inl FO_stack)), ((aFO 2), .inl (cI, 5, .inl FO_known)), (DR, .inr (5, oX5 DF aDR DR_rooms DR_doors DR_things DR_draw DR_drawTold)), ((aDR 1), .inl (cL, 8, .inr (.inl DR_roomName))), ((aDR 2), .inl (cI, 8, .inl DR_creaks)), ((aDR 4), .inl (cI, 12, .inl DR_doorFrom)), ((aDR 5), .inl (cI, 12, .inl DR_doorTo)), ((aDR 7), .inl (cL, 6, .inr (.inl DR_thingName))), ((aDR 8), .inl (cI, 6, .inl DR_in)), ((aDR 9), .inl (cI, 6, .inl DR_was)), ((aDR 10), .inl (cI, 6, .inl DR_ours)), ((aDR 11), .inl (cI, 6, .inl DR_us)), ((aDR 12), .inl (cI, 6, .inl DR_them)), (DF, .inr (1, oX1 aDF DF_size DF_units DF_told)), ((aDF 0), .inl (cI, 400, .inl DF_steps)), ((aDF 1), .inl (cI, 61, .inl DF_stack)), ((aDF 2), .inl (cI, 5, .inl DF_known)), (TA, .inr (8, oX8 aTA TA_size)), ((aTA 0), .inl (cB, 1600, .inl TA_bytes)), (RE, .inr (6, oX6 TO RP RE_fault RE_faultPlace)), (TO, .inr (9, oX9 TA aTO TO_kind TO_place TO_behind TO_word TO_value)), ((aTO 1), .inl (cL, 17, .inr (.inl TO_own))), (FL, .inr (0, oX0 PL aFL FL_parting)), ((aFL 1), .inl (cI, 8, .inl FL_next)), ((aFL 2), .inl (cI, 64, .inl FL_far)), ((aFL 3), .inl (cI, 12, .inl FL_near)), (RO, .inr (7, oX7 FL aRO RO_lying)), ((aRO 1), .inl (cI, 8, .inl RO_lie)), ((aRO 3), .inl (cI, 8, .inl RO_cost)), ((aRO 4), .inl (cI, 2048, .inl RO_rest)), (HU, .inr (2, oX2 FL aHU)), ((aHU 1), .inl (cI, 256, .inl HU_asks)), (ME, .inr (3, oX3 FL aME ME_oldest ME_done ME_undone)), ((aME 1), .inl (cI, 32, .inl ME_now)), ((aME 2), .inl (cI, 32, .inl ME_ahead)), ((aME 3), .inl (cG, 41, .inr (.inr (.inr (.inr ME_kept))))), ((aME 7), .inl (cG, 3, .inr (.inr (.inr (.inr ME_box))))), ((aME 8), .inl (cZ, 3, .inl ME_full)), (TR, .inr (10, oX10 ME)), (NI, .inr (4, oX4 FL aNI NI_count NI_time)), ((aNI 3), .inl (cI, 30, .inl NI_minute)), ((aNI 4), .inl (cI, 30, .inl NI_rooms)), ((aNI 5), .inl (cI, 30, .inl NI_toldAt)), ((aNI 6), .inl (cI, 30, .inl NI_untoldAt)), ((aNI 7), .inl (cI, 8, .inl NI_open)), ((aNI 8), .inl (cI, 64, .inl NI_into)), ((aNI 9), .inl (cI, 64, .inl NI_onward))] ++ rw41 cI KRr KRf ++ rw3 cI BRr BRf) := hD
  refine lv_astore_n (lv' := [(1, .ref SO), (0, .ref b)]) hx hb dL_law_7 rfl hl (by decide) rfl (fun ls hl => ?_)
  refine va_new (ci := 12) (fs := [.null, .null, .int 0, .int 0, .int 0, .int 0, .int 0, .int 0, .int 0, .int 0, .long 0, .null, .null, .null, .null, .null, .null, .null, .null, .null, .null, .null, .null, .null, .null, .null, .null, .null, .null, .null, .null, .null, .null, .null, .null, .int 0, .int 0, .int 0, .int 0, .int 0, .int 0, .int 0, .null, .null, .null, .null, .int 0, .int 0, .null, .null, .null, .int 0, .null, .null, .null, .null, .null, .null, .null, .null, .null, .null, .null, .null, .null, .null, .null, .int 0, .int 0, .null, .null]) (C := RX12) (T := TX12) (N := 71) hx hb hts inlX12 tyX12 tyX12_ok hown (hts (.classLink RL 10 RX12) (List.mem_of_getElem? (i := 3) (by decide +kernel))) (hts (.instantiable RX12 71) (List.mem_of_getElem? (i := 4) (by decide +kernel))) (hts (.initialized RX12) (List.mem_of_getElem? (i := 5) (by decide +kernel))) hK hP hD hS hA rfl (fun j hj => by rcases (show j = 0 ∨ j = 1 ∨ j = 2 ∨ j = 3 ∨ j = 4 ∨ j = 5 ∨ j = 6 ∨ j = 7 ∨ j = 8 ∨ j = 9 ∨ j = 10 ∨ j = 11 ∨ j = 12 ∨ j = 13 ∨ j = 14 ∨ j = 15 ∨ j = 16 ∨ j = 17 ∨ j = 18 ∨ j = 19 ∨ j = 20 ∨ j = 21 ∨ j = 22 ∨ j = 23 ∨ j = 24 ∨ j = 25 ∨ j = 26 ∨ j = 27 ∨ j = 28 ∨ j = 29 ∨ j = 30 ∨ j = 31 ∨ j = 32 ∨ j = 33 ∨ j = 34 ∨ j = 35 ∨ j = 36 ∨ j = 37 ∨ j = 38 ∨ j = 39 ∨ j = 40 ∨ j = 41 ∨ j = 42 ∨ j = 43 ∨ j = 44 ∨ j = 45 ∨ j = 46 ∨ j = 47 ∨ j = 48 ∨ j = 49 ∨ j = 50 ∨ j = 51 ∨ j = 52 ∨ j = 53 ∨ j = 54 ∨ j = 55 ∨ j = 56 ∨ j = 57 ∨ j = 58 ∨ j = 59 ∨ j = 60 ∨ j = 61 ∨ j = 62 ∨ j = 63 ∨ j = 64 ∨ j = 65 ∨ j = 66 ∨ j = 67 ∨ j = 68 ∨ j = 69 ∨ j = 70 by omega) with rfl | rfl | rfl | rfl | rfl | rfl | rfl | rfl | rfl | rfl | rfl | rfl | rfl | rfl | rfl | rfl | rfl | rfl | rfl | rfl | rfl | rfl | rfl | rfl | rfl | rfl | rfl | rfl | rfl | rfl | rfl | rfl | rfl | rfl | rfl | rfl | rfl | rfl | rfl | rfl | rfl | rfl | rfl | rfl | rfl | rfl | rfl | rfl | rfl | rfl | rfl | rfl | rfl | rfl | rfl | rfl | rfl | rfl | rfl | rfl | rfl | rfl | rfl | rfl | rfl | rfl | rfl | rfl | rfl | rfl | rfl <;> rfl) (Nat.le_of_ble_eq_true rfl) (Nat.le_of_ble_eq_true rfl) dL_law_8 (fun MO H hP hD hS => ?_)
  replace hP : va_P D classes ([(MO, .inr (12, [.null, .null, .int 0, .int 0, .int 0, .int 0, .int 0, .int 0, .int 0, .int 0, .long 0, .null, .null, .null, .null, .null, .null, .null, .null, .null, .null, .null, .null, .null, .null, .null, .null, .null, .null, .null, .null, .null, .null, .null, .null, .int 0, .int 0, .int 0, .int 0, .int 0, .int 0, .int 0, .null, .null, .null, .null, .int 0, .int 0, .null, .null, .null, .int 0, .null, .null, .null, .null, .null, .null, .null, .null, .null, .null, .null, .null, .null, .null, .null, .int 0, .int 0, .null, .null])), (SO, .inr (11, oX11 PL DR TA RE FL RO HU ME TR NI)), (PL, .inr (5, oX5 FO aPL PL_rooms PL_doors PL_things PL_draw PL_drawTold)), ((aPL 1), .inl (cL, 8, .inr (.inl PL_roomName))), ((aPL 2), .inl (cI, 8, .inl PL_creaks)), ((aPL 4), .inl (cI, 12, .inl PL_doorFrom)), ((aPL 5), .inl (cI, 12, .inl PL_doorTo)), ((aPL 7), .inl (cL, 6, .inr (.inl PL_thingName))), ((aPL 8), .inl (cI, 6, .inl PL_in)), ((aPL 9), .inl (cI, 6, .inl PL_was)), ((aPL 10), .inl (cI, 6, .inl PL_ours)), ((aPL 11), .inl (cI, 6, .inl PL_us)), ((aPL 12), .inl (cI, 6, .inl PL_them)), (FO, .inr (1, oX1 aFO FO_size FO_units FO_told)), ((aFO 0), .inl (cI, 400, .inl FO_steps)), ((aFO 1), .inl (cI, 61, .inl FO_stack)), ((aFO 2), .inl (cI, 5, .inl FO_known)), (DR, .inr (5, oX5 DF aDR DR_rooms DR_doors DR_things DR_draw DR_drawTold)), ((aDR 1), .inl (cL, 8, .inr (.inl DR_roomName))), ((aDR 2), .inl (cI, 8, .inl DR_creaks)), ((aDR 4), .inl (cI, 12, .inl DR_doorFrom)), ((aDR 5), .inl (cI, 12, .inl DR_doorTo)), ((aDR 7), .inl (cL, 6, .inr (.inl DR_thingName))), ((aDR 8), .inl (cI, 6, .inl DR_in)), ((aDR 9), .inl (cI, 6, .inl DR_was)), ((aDR 10), .inl (cI, 6, .inl DR_ours)), ((aDR 11), .inl (cI, 6, .inl DR_us)), ((aDR 12), .inl (cI, 6, .inl DR_them)), (DF, .inr (1, oX1 aDF DF_size DF_units DF_told)), ((aDF 0), .inl (cI, 400, .inl DF_steps)), ((aDF 1), .inl (cI, 61, .inl DF_stack)), ((aDF 2), .inl (cI, 5, .inl DF_known)), (TA, .inr (8, oX8 aTA TA_size)), ((aTA 0), .inl (cB, 1600, .inl TA_bytes)), (RE, .inr (6, oX6 TO RP RE_fault RE_faultPlace)), (TO, .inr (9, oX9 TA aTO TO_kind TO_place TO_behind TO_word TO_value)), ((aTO 1), .inl (cL, 17, .inr (.inl TO_own))), (FL, .inr (0, oX0 PL aFL FL_parting)), ((aFL 1), .inl (cI, 8, .inl FL_next)), ((aFL 2), .inl (cI, 64, .inl FL_far)), ((aFL 3), .inl (cI, 12, .inl FL_near)), (RO, .inr (7, oX7 FL aRO RO_lying)), ((aRO 1), .inl (cI, 8, .inl RO_lie)), ((aRO 3), .inl (cI, 8, .inl RO_cost)), ((aRO 4), .inl (cI, 2048, .inl RO_rest)), (HU, .inr (2, oX2 FL aHU)), ((aHU 1), .inl (cI, 256, .inl HU_asks)), (ME, .inr (3, oX3 FL aME ME_oldest ME_done ME_undone)), ((aME 1), .inl (cI, 32, .inl ME_now)), ((aME 2), .inl (cI, 32, .inl ME_ahead)), ((aME 3), .inl (cG, 41, .inr (.inr (.inr (.inr ME_kept))))), ((aME 7), .inl (cG, 3, .inr (.inr (.inr (.inr ME_box))))), ((aME 8), .inl (cZ, 3, .inl ME_full)), (TR, .inr (10, oX10 ME)), (NI, .inr (4, oX4 FL aNI NI_count NI_time)), ((aNI 3), .inl (cI, 30, .inl NI_minute)), ((aNI 4), .inl (cI, 30, .inl NI_rooms)), ((aNI 5), .inl (cI, 30, .inl NI_toldAt)), ((aNI 6), .inl (cI, 30, .inl NI_untoldAt)), ((aNI 7), .inl (cI, 8, .inl NI_open)), ((aNI 8), .inl (cI, 64, .inl NI_into)), ((aNI 9), .inl (cI, 64, .inl NI_onward))] ++ rw41 cI KRr KRf ++ rw3 cI BRr BRf) H := hP.sub [105, 0, 1, 2, 3, 4, 5, 6, 7, 8, 9, 10, 11, 12, 13, 14, 15, 16, 17, 18, 19, 20, 21, 22, 23, 24, 25, 26, 27, 28, 29, 30, 31, 32, 33, 34, 35, 36, 37, 38, 39, 40, 41, 42, 43, 44, 45, 46, 47, 48, 49, 50, 51, 52, 53, 54, 55, 56, 57, 58, 59, 60, 61, 62, 63, 64, 65, 66, 67, 68, 69, 70, 71, 72, 73, 74, 75, 76, 77, 78, 79, 80, 81, 82, 83, 84, 85, 86, 87, 88, 89, 90, 91, 92, 93, 94, 95, 96, 97, 98, 99, 100, 101, 102, 103, 104] rfl
  replace hD : va_D A ([(MO, .inr (12, [.null, .null, .int 0, .int 0, .int 0, .int 0, .int 0, .int 0, .int 0, .int 0, .long 0, .null, .null, .null, .null, .null, .null, .null, .null, .null, .null, .null, .null, .null, .null, .null, .null, .null, .null, .null, .null, .null, .null, .null, .null, .int 0, .int 0, .int 0, .int 0, .int 0, .int 0, .int 0, .null, .null, .null, .null, .int 0, .int 0, .null, .null, .null, .int 0, .null, .null, .null, .null, .null, .null, .null, .null, .null, .null, .null, .null, .null, .null, .null, .int 0, .int 0, .null, .null])), (SO, .inr (11, oX11 PL DR TA RE FL RO HU ME TR NI)), (PL, .inr (5, oX5 FO aPL PL_rooms PL_doors PL_things PL_draw PL_drawTold)), ((aPL 1), .inl (cL, 8, .inr (.inl PL_roomName))), ((aPL 2), .inl (cI, 8, .inl PL_creaks)), ((aPL 4), .inl (cI, 12, .inl PL_doorFrom)), ((aPL 5), .inl (cI, 12, .inl PL_doorTo)), ((aPL 7), .inl (cL, 6, .inr (.inl PL_thingName))), ((aPL 8), .inl (cI, 6, .inl PL_in)), ((aPL 9), .inl (cI, 6, .inl PL_was)), ((aPL 10), .inl (cI, 6, .inl PL_ours)), ((aPL 11), .inl (cI, 6, .inl PL_us)), ((aPL 12), .inl (cI, 6, .inl PL_them)), (FO, .inr (1, oX1 aFO FO_size FO_units FO_told)), ((aFO 0), .inl (cI, 400, .inl FO_steps)), ((aFO 1), .inl (cI, 61, .inl FO_stack)), ((aFO 2), .inl (cI, 5, .inl FO_known)), (DR, .inr (5, oX5 DF aDR DR_rooms DR_doors DR_things DR_draw DR_drawTold)), ((aDR 1), .inl (cL, 8, .inr (.inl DR_roomName))), ((aDR 2), .inl (cI, 8, .inl DR_creaks)), ((aDR 4), .inl (cI, 12, .inl DR_doorFrom)), ((aDR 5), .inl (cI, 12, .inl DR_doorTo)), ((aDR 7), .inl (cL, 6, .inr (.inl DR_thingName))), ((aDR 8), .inl (cI, 6, .inl DR_in)), ((aDR 9), .inl (cI, 6, .inl DR_was)), ((aDR 10), .inl (cI, 6, .inl DR_ours)), ((aDR 11), .inl (cI, 6, .inl DR_us)), ((aDR 12), .inl (cI, 6, .inl DR_them)), (DF, .inr (1, oX1 aDF DF_size DF_units DF_told)), ((aDF 0), .inl (cI, 400, .inl DF_steps)), ((aDF 1), .inl (cI, 61, .inl DF_stack)), ((aDF 2), .inl (cI, 5, .inl DF_known)), (TA, .inr (8, oX8 aTA TA_size)), ((aTA 0), .inl (cB, 1600, .inl TA_bytes)), (RE, .inr (6, oX6 TO RP RE_fault RE_faultPlace)), (TO, .inr (9, oX9 TA aTO TO_kind TO_place TO_behind TO_word TO_value)), ((aTO 1), .inl (cL, 17, .inr (.inl TO_own))), (FL, .inr (0, oX0 PL aFL FL_parting)), ((aFL 1), .inl (cI, 8, .inl FL_next)), ((aFL 2), .inl (cI, 64, .inl FL_far)), ((aFL 3), .inl (cI, 12, .inl FL_near)), (RO, .inr (7, oX7 FL aRO RO_lying)), ((aRO 1), .inl (cI, 8, .inl RO_lie)), ((aRO 3), .inl (cI, 8, .inl RO_cost)), ((aRO 4), .inl (cI, 2048, .inl RO_rest)), (HU, .inr (2, oX2 FL aHU)), ((aHU 1), .inl (cI, 256, .inl HU_asks)), (ME, .inr (3, oX3 FL aME ME_oldest ME_done ME_undone)), ((aME 1), .inl (cI, 32, .inl ME_now)), ((aME 2), .inl (cI, 32, .inl ME_ahead)), ((aME 3), .inl (cG, 41, .inr (.inr (.inr (.inr ME_kept))))), ((aME 7), .inl (cG, 3, .inr (.inr (.inr (.inr ME_box))))), ((aME 8), .inl (cZ, 3, .inl ME_full)), (TR, .inr (10, oX10 ME)), (NI, .inr (4, oX4 FL aNI NI_count NI_time)), ((aNI 3), .inl (cI, 30, .inl NI_minute)), ((aNI 4), .inl (cI, 30, .inl NI_rooms)), ((aNI 5), .inl (cI, 30, .inl NI_toldAt)), ((aNI 6), .inl (cI, 30, .inl NI_untoldAt)), ((aNI 7), .inl (cI, 8, .inl NI_open)), ((aNI 8), .inl (cI, 64, .inl NI_into)), ((aNI 9), .inl (cI, 64, .inl NI_onward))] ++ rw41 cI KRr KRf ++ rw3 cI BRr BRf) := hD.sub [105, 0, 1, 2, 3, 4, 5, 6, 7, 8, 9, 10, 11, 12, 13, 14, 15, 16, 17, 18, 19, 20, 21, 22, 23, 24, 25, 26, 27, 28, 29, 30, 31, 32, 33, 34, 35, 36, 37, 38, 39, 40, 41, 42, 43, 44, 45, 46, 47, 48, 49, 50, 51, 52, 53, 54, 55, 56, 57, 58, 59, 60, 61, 62, 63, 64, 65, 66, 67, 68, 69, 70, 71, 72, 73, 74, 75, 76, 77, 78, 79, 80, 81, 82, 83, 84, 85, 86, 87, 88, 89, 90, 91, 92, 93, 94, 95, 96, 97, 98, 99, 100, 101, 102, 103, 104] (by decide +kernel) rfl
  refine lv_dup hx hb dL_law_11 rfl ?_
  have hPc := hP.sub (ws' := [(MO, .inr (12, [.null, .null, .int 0, .int 0, .int 0, .int 0, .int 0, .int 0, .int 0, .int 0, .long 0, .null, .null, .null, .null, .null, .null, .null, .null, .null, .null, .null, .null, .null, .null, .null, .null, .null, .null, .null, .null, .null, .null, .null, .null, .int 0, .int 0, .int 0, .int 0, .int 0, .int 0, .int 0, .null, .null, .null, .null, .int 0, .int 0, .null, .null, .null, .int 0, .null, .null, .null, .null, .null, .null, .null, .null, .null, .null, .null, .null, .null, .null, .null, .int 0, .int 0, .null, .null]))]) [0] rfl
  have hDc := hD.sub (ws' := [(MO, .inr (12, [.null, .null, .int 0, .int 0, .int 0, .int 0, .int 0, .int 0, .int 0, .int 0, .long 0, .null, .null, .null, .null, .null, .null, .null, .null, .null, .null, .null, .null, .null, .null, .null, .null, .null, .null, .null, .null, .null, .null, .null, .null, .int 0, .int 0, .int 0, .int 0, .int 0, .int 0, .int 0, .null, .null, .null, .null, .int 0, .int 0, .null, .null, .null, .int 0, .null, .null, .null, .null, .null, .null, .null, .null, .null, .null, .null, .null, .null, .null, .null, .int 0, .int 0, .null, .null]))]) [0] (by decide) rfl
  have hFc := va_free (wc := [(MO, .inr (12, [.null, .null, .int 0, .int 0, .int 0, .int 0, .int 0, .int 0, .int 0, .int 0, .long 0, .null, .null, .null, .null, .null, .null, .null, .null, .null, .null, .null, .null, .null, .null, .null, .null, .null, .null, .null, .null, .null, .null, .null, .null, .int 0, .int 0, .int 0, .int 0, .int 0, .int 0, .int 0, .null, .null, .null, .null, .int 0, .int 0, .null, .null, .null, .int 0, .null, .null, .null, .null, .null, .null, .null, .null, .null, .null, .null, .null, .null, .null, .null, .int 0, .int 0, .null, .null]))]) hD hS hA [0] rfl
  refine va_callv (va_runI (As := []) (rest := [.ref MO]) ⟨hx, hb, hml, hown, hts⟩ (i_Model2 l D cI cB cL cZ cG MO H.size) (cwI 0 hts gL_law_X12_init rfl rfl rfl (hts (.initialized RX12) (List.mem_of_getElem? (i := 5) (by decide +kernel))) (hts (.methodLink RL 12 yX12_init) (List.mem_of_getElem? (i := 259) (by decide +kernel))) (hts (.instanceMethod yX12_init) (List.mem_of_getElem? (i := 260) (by decide +kernel))) rfl (by decide +kernel) ⟨Nat.le_of_ble_eq_true rfl, Nat.le_of_ble_eq_true rfl⟩) ⟨xp_blind, fun U hU hW => xp_mk hU hW hPc hK hDc xNw_nil⟩ rfl rfl hl.1 rfl (lv_room (Nat.le_of_ble_eq_true rfl)) dL_law_12 ⟨Nat.le_of_ble_eq_true rfl, Nat.le_of_ble_eq_true rfl⟩) hS (fun q _ h => hFc q h) hFc (fun u9 t9 H1 locs ht9 hvm9 h9 hB9 hz9 hk9 hS => ?_)
  revert hB9
  refine zE (fun aMO => ?_)
  refine zE (fun MO_taped => ?_)
  refine zE (fun MO_size => ?_)
  refine zE (fun MO_faultKind => ?_)
  refine zE (fun MO_faultPlace => ?_)
  refine zE (fun MO_at => ?_)
  refine zE (fun MO_end => ?_)
  refine zE (fun MO_token => ?_)
  refine zE (fun MO_number => ?_)
  refine zE (fun MO_name => ?_)
  refine zE (fun MO_bank => ?_)
  refine zE (fun MO_rb => ?_)
  refine zE (fun MO_codes => ?_)
  refine zE (fun MO_within => ?_)
  refine zE (fun MO_piled => ?_)
  refine zE (fun MO_unitsInRule => ?_)
  refine zE (fun MO_askThing => ?_)
  refine zE (fun MO_acts => ?_)
  refine zE (fun MO_undone => ?_)
  refine zE (fun MO_laid => ?_)
  refine zE (fun MO_heards => ?_)
  refine zE (fun MO_time => ?_)
  refine zE (fun MO_tape => ?_)
  refine zE (fun MO_text => ?_)
  refine zE (fun MO_rooms => ?_)
  refine zE (fun MO_doors => ?_)
  refine zE (fun MO_things => ?_)
  refine zE (fun MO_units => ?_)
  refine zE (fun MO_draw => ?_)
  refine zE (fun MO_creaks => ?_)
  refine zE (fun MO_one => ?_)
  refine zE (fun MO_other => ?_)
  refine zE (fun MO_inTold => ?_)
  refine zE (fun MO_wasTold => ?_)
  refine zE (fun MO_isOurs => ?_)
  refine zE (fun MO_toUs => ?_)
  refine zE (fun MO_toThem => ?_)
  refine zE (fun MO_ruleFrom => ?_)
  refine zE (fun MO_ruleTo => ?_)
  refine zE (fun MO_hasSure => ?_)
  refine zE (fun MO_isDraw => ?_)
  refine zE (fun MO_rName => ?_)
  refine zE (fun MO_tName => ?_)
  refine zE (fun MO_code => ?_)
  refine zE (fun MO_codeNumber => ?_)
  refine zE (fun MO_eWhat => ?_)
  refine zE (fun MO_eSign => ?_)
  refine zE (fun MO_pile => ?_)
  refine zE (fun MO_all => ?_)
  refine zE (fun MO_table => ?_)
  refine zE (fun MO_nearSide => ?_)
  refine zE (fun MO_was => ?_)
  refine zE (fun MO_toGoal => ?_)
  refine zE (fun MO_weight => ?_)
  refine zE (fun MO_laidRow => ?_)
  refine zE (fun MO_waysTo => ?_)
  refine zE (fun MO_waysThen => ?_)
  refine zE (fun MO_hunts => ?_)
  refine zE (fun MO_firsts => ?_)
  refine zE (fun MO_tours => ?_)
  refine zE (fun MO_taken => ?_)
  refine zE (fun MO_kept => ?_)
  refine zE (fun MO_hMinute => ?_)
  refine zE (fun MO_hCreaks => ?_)
  refine zE (fun MO_hRoom => ?_)
  refine zE (fun MO_hIs => ?_)
  refine zE (fun MO_hTold => ?_)
  refine zE (fun MO_hUntold => ?_)
  refine zE (fun MO_waysAt => ?_)
  refine zE (fun MO_waysOn => ?_)
  refine zE (fun MO_boxAll => ?_)
  refine zE (fun MO_isBoxed => ?_)
  refine zN (fun b_MO_taped => ?_)
  refine zN (fun b_MO_size => ?_)
  refine zN (fun b_MO_faultKind => ?_)
  refine zN (fun b_MO_at => ?_)
  refine zN (fun b_MO_end => ?_)
  refine zN (fun b_MO_token => ?_)
  refine zN (fun b_MO_bank => ?_)
  refine zN (fun b_MO_rb => ?_)
  refine zN (fun b_MO_codes => ?_)
  refine zN (fun b_MO_within => ?_)
  refine zN (fun b_MO_piled => ?_)
  refine zN (fun b_MO_unitsInRule => ?_)
  refine zN (fun b_MO_askThing => ?_)
  refine zN (fun b_MO_acts => ?_)
  refine zN (fun b_MO_undone => ?_)
  refine zN (fun b_MO_laid => ?_)
  refine zN (fun b_MO_heards => ?_)
  refine zN (fun b_MO_time => ?_)
  refine zN (fun s_MO_rooms_0 => ?_)
  refine zN (fun s_MO_doors_0 => ?_)
  refine zN (fun s_MO_things_0 => ?_)
  refine zN (fun s_MO_creaks_0 => ?_)
  refine zN (fun s_MO_one_0 => ?_)
  refine zN (fun s_MO_other_0 => ?_)
  refine zN (fun s_MO_inTold_0 => ?_)
  refine zN (fun s_MO_wasTold_0 => ?_)
  refine zN (fun s_MO_ruleFrom_0 => ?_)
  refine zN (fun s_MO_ruleTo_0 => ?_)
  refine zN (fun s_MO_hasSure_0 => ?_)
  refine zN (fun s_MO_isDraw_0 => ?_)
  refine zN (fun s_MO_all_0 => ?_)
  refine zN (fun s_MO_table_0 => ?_)
  refine zN (fun s_MO_nearSide_0 => ?_)
  refine zN (fun s_MO_was_m => ?_)
  refine zN (fun s_MO_toGoal_0 => ?_)
  refine zN (fun s_MO_weight_0 => ?_)
  refine zN (fun s_MO_tours_0 => ?_)
  refine zN (fun s_MO_kept_m => ?_)
  refine zN (fun s_MO_boxAll_m => ?_)
  refine zN (fun s_MO_isBoxed_0 => ?_)
  refine zN (fun hq0 => ?_)
  refine zN (fun B0 => ?_)
  refine zN (fun T0 => ?_)
  refine zN (fun D0 => ?_)
  refine zN (fun hti1 => ?_)
  refine zN (fun hP1 hD1 => ?_)
  rw [ht9] at hP1
  obtain ⟨hP, hD⟩ := va_join (wr := ([(SO, .inr (11, oX11 PL DR TA RE FL RO HU ME TR NI)), (PL, .inr (5, oX5 FO aPL PL_rooms PL_doors PL_things PL_draw PL_drawTold)), ((aPL 1), .inl (cL, 8, .inr (.inl PL_roomName))), ((aPL 2), .inl (cI, 8, .inl PL_creaks)), ((aPL 4), .inl (cI, 12, .inl PL_doorFrom)), ((aPL 5), .inl (cI, 12, .inl PL_doorTo)), ((aPL 7), .inl (cL, 6, .inr (.inl PL_thingName))), ((aPL 8), .inl (cI, 6, .inl PL_in)), ((aPL 9), .inl (cI, 6, .inl PL_was)), ((aPL 10), .inl (cI, 6, .inl PL_ours)), ((aPL 11), .inl (cI, 6, .inl PL_us)), ((aPL 12), .inl (cI, 6, .inl PL_them)), (FO, .inr (1, oX1 aFO FO_size FO_units FO_told)), ((aFO 0), .inl (cI, 400, .inl FO_steps)), ((aFO 1), .inl (cI, 61, .inl FO_stack)), ((aFO 2), .inl (cI, 5, .inl FO_known)), (DR, .inr (5, oX5 DF aDR DR_rooms DR_doors DR_things DR_draw DR_drawTold)), ((aDR 1), .inl (cL, 8, .inr (.inl DR_roomName))), ((aDR 2), .inl (cI, 8, .inl DR_creaks)), ((aDR 4), .inl (cI, 12, .inl DR_doorFrom)), ((aDR 5), .inl (cI, 12, .inl DR_doorTo)), ((aDR 7), .inl (cL, 6, .inr (.inl DR_thingName))), ((aDR 8), .inl (cI, 6, .inl DR_in)), ((aDR 9), .inl (cI, 6, .inl DR_was)), ((aDR 10), .inl (cI, 6, .inl DR_ours)), ((aDR 11), .inl (cI, 6, .inl DR_us)), ((aDR 12), .inl (cI, 6, .inl DR_them)), (DF, .inr (1, oX1 aDF DF_size DF_units DF_told)), ((aDF 0), .inl (cI, 400, .inl DF_steps)), ((aDF 1), .inl (cI, 61, .inl DF_stack)), ((aDF 2), .inl (cI, 5, .inl DF_known)), (TA, .inr (8, oX8 aTA TA_size)), ((aTA 0), .inl (cB, 1600, .inl TA_bytes)), (RE, .inr (6, oX6 TO RP RE_fault RE_faultPlace)), (TO, .inr (9, oX9 TA aTO TO_kind TO_place TO_behind TO_word TO_value)), ((aTO 1), .inl (cL, 17, .inr (.inl TO_own))), (FL, .inr (0, oX0 PL aFL FL_parting)), ((aFL 1), .inl (cI, 8, .inl FL_next)), ((aFL 2), .inl (cI, 64, .inl FL_far)), ((aFL 3), .inl (cI, 12, .inl FL_near)), (RO, .inr (7, oX7 FL aRO RO_lying)), ((aRO 1), .inl (cI, 8, .inl RO_lie)), ((aRO 3), .inl (cI, 8, .inl RO_cost)), ((aRO 4), .inl (cI, 2048, .inl RO_rest)), (HU, .inr (2, oX2 FL aHU)), ((aHU 1), .inl (cI, 256, .inl HU_asks)), (ME, .inr (3, oX3 FL aME ME_oldest ME_done ME_undone)), ((aME 1), .inl (cI, 32, .inl ME_now)), ((aME 2), .inl (cI, 32, .inl ME_ahead)), ((aME 3), .inl (cG, 41, .inr (.inr (.inr (.inr ME_kept))))), ((aME 7), .inl (cG, 3, .inr (.inr (.inr (.inr ME_box))))), ((aME 8), .inl (cZ, 3, .inl ME_full)), (TR, .inr (10, oX10 ME)), (NI, .inr (4, oX4 FL aNI NI_count NI_time)), ((aNI 3), .inl (cI, 30, .inl NI_minute)), ((aNI 4), .inl (cI, 30, .inl NI_rooms)), ((aNI 5), .inl (cI, 30, .inl NI_toldAt)), ((aNI 6), .inl (cI, 30, .inl NI_untoldAt)), ((aNI 7), .inl (cI, 8, .inl NI_open)), ((aNI 8), .inl (cI, 64, .inl NI_into)), ((aNI 9), .inl (cI, 64, .inl NI_onward))] ++ rw41 cI KRr KRf ++ rw3 cI BRr BRf)) (w1 := [(MO, .inr (12, oX12 aMO MO_taped MO_size MO_faultKind MO_faultPlace MO_at MO_end MO_token MO_number MO_name MO_bank MO_rb MO_codes MO_within MO_piled MO_unitsInRule MO_askThing MO_acts MO_undone MO_laid MO_heards MO_time)), ((aMO 0), .inl (cB, 1620, .inl MO_tape)), ((aMO 1), .inl (cB, 1600, .inl MO_text)), ((aMO 11), .inl (cI, 2, .inl MO_rooms)), ((aMO 12), .inl (cI, 2, .inl MO_doors)), ((aMO 13), .inl (cI, 2, .inl MO_things)), ((aMO 14), .inl (cI, 2, .inl MO_units)), ((aMO 15), .inl (cI, 2, .inl MO_draw)), ((aMO 16), .inl (cI, 16, .inl MO_creaks)), ((aMO 17), .inl (cI, 24, .inl MO_one)), ((aMO 18), .inl (cI, 24, .inl MO_other)), ((aMO 19), .inl (cI, 12, .inl MO_inTold)), ((aMO 20), .inl (cI, 12, .inl MO_wasTold)), ((aMO 21), .inl (cI, 12, .inl MO_isOurs)), ((aMO 22), .inl (cI, 12, .inl MO_toUs)), ((aMO 23), .inl (cI, 12, .inl MO_toThem)), ((aMO 24), .inl (cI, 2, .inl MO_ruleFrom)), ((aMO 25), .inl (cI, 2, .inl MO_ruleTo)), ((aMO 26), .inl (cZ, 2, .inl MO_hasSure)), ((aMO 27), .inl (cZ, 2, .inl MO_isDraw)), ((aMO 28), .inl (cL, 16, .inr (.inl MO_rName))), ((aMO 29), .inl (cL, 12, .inr (.inl MO_tName))), ((aMO 30), .inl (cI, 1120, .inl MO_code)), ((aMO 31), .inl (cI, 1120, .inl MO_codeNumber)), ((aMO 32), .inl (cI, 90, .inl MO_eWhat)), ((aMO 33), .inl (cI, 90, .inl MO_eSign)), ((aMO 34), .inl (cI, 60, .inl MO_pile)), ((aMO 42), .inl (cI, 32, .inl MO_all)), ((aMO 43), .inl (cI, 64, .inl MO_table)), ((aMO 44), .inl (cI, 12, .inl MO_nearSide)), ((aMO 45), .inl (cI, 1312, .inl MO_was)), ((aMO 48), .inl (cI, 8, .inl MO_toGoal)), ((aMO 49), .inl (cI, 8, .inl MO_weight)), ((aMO 50), .inl (cI, 8, .inl MO_laidRow)), ((aMO 52), .inl (cI, 8, .inl MO_waysTo)), ((aMO 53), .inl (cI, 8, .inl MO_waysThen)), ((aMO 54), .inl (cI, 256, .inl MO_hunts)), ((aMO 55), .inl (cI, 256, .inl MO_firsts)), ((aMO 56), .inl (cI, 2048, .inl MO_tours)), ((aMO 57), .inl (cI, 64, .inl MO_taken)), ((aMO 58), .inl (cI, 32, .inl MO_kept)), ((aMO 59), .inl (cI, 30, .inl MO_hMinute)), ((aMO 60), .inl (cI, 30, .inl MO_hCreaks)), ((aMO 61), .inl (cI, 30, .inl MO_hRoom)), ((aMO 62), .inl (cI, 30, .inl MO_hIs)), ((aMO 63), .inl (cI, 30, .inl MO_hTold)), ((aMO 64), .inl (cI, 30, .inl MO_hUntold)), ((aMO 65), .inl (cI, 64, .inl MO_waysAt)), ((aMO 66), .inl (cI, 64, .inl MO_waysOn)), ((aMO 69), .inl (cI, 96, .inl MO_boxAll)), ((aMO 70), .inl (cZ, 3, .inl MO_isBoxed))]) hP hD [0] [1, 2, 3, 4, 5, 6, 7, 8, 9, 10, 11, 12, 13, 14, 15, 16, 17, 18, 19, 20, 21, 22, 23, 24, 25, 26, 27, 28, 29, 30, 31, 32, 33, 34, 35, 36, 37, 38, 39, 40, 41, 42, 43, 44, 45, 46, 47, 48, 49, 50, 51, 52, 53, 54, 55, 56, 57, 58, 59, 60, 61, 62, 63, 64, 65, 66, 67, 68, 69, 70, 71, 72, 73, 74, 75, 76, 77, 78, 79, 80, 81, 82, 83, 84, 85, 86, 87, 88, 89, 90, 91, 92, 93, 94, 95, 96, 97, 98, 99, 100, 101, 102, 103, 104, 105] rfl rfl (by decide +kernel) (by decide +kernel) hk9 hFc hP1 hD1
  clear hz9 hPc hDc hP1 hD1 hk9 hFc ht9 hvm9 u9 t9
  generalize H1 = H at hP hS ⊢
  refine lv_astore_n (lv' := [(2, .ref MO), (1, .ref SO), (0, .ref b)]) hx hb dL_law_15 rfl hl (by decide) rfl (fun ls hl => ?_)
  refine lv_iconst (v := 0) hx hb dL_law_16 (by decide) ?_
  refine lv_istore_n (lv' := [(3, .int 0), (2, .ref MO), (1, .ref SO), (0, .ref b)]) hx hb dL_law_17 rfl hl (by decide) rfl (fun ls hl => ?_)
  have hP9 := hP.sub (ws' := (zLW cI cB cL cZ cG SO PL DR TA RE FL RO HU ME TR NI PL FO aPL PL_rooms PL_doors PL_things PL_draw PL_drawTold PL_roomName PL_creaks PL_doorFrom PL_doorTo PL_thingName PL_in PL_was PL_ours PL_us PL_them FO aFO FO_size FO_units FO_told FO_steps FO_stack FO_known DR DF aDR DR_rooms DR_doors DR_things DR_draw DR_drawTold DR_roomName DR_creaks DR_doorFrom DR_doorTo DR_thingName DR_in DR_was DR_ours DR_us DR_them DF aDF DF_size DF_units DF_told DF_steps DF_stack DF_known TA aTA TA_size TA_bytes RE TO RP RE_fault RE_faultPlace TO TA aTO TO_kind TO_place TO_behind TO_word TO_value TO_own FL PL aFL FL_parting FL_next FL_far FL_near RO FL aRO RO_lying RO_lie RO_cost RO_rest HU FL aHU HU_asks ME FL aME ME_oldest ME_done ME_undone ME_now ME_ahead ME_kept ME_box ME_full TR ME NI FL aNI NI_count NI_time NI_minute NI_rooms NI_toldAt NI_untoldAt NI_open NI_into NI_onward MO aMO MO_taped MO_size MO_faultKind MO_faultPlace MO_at MO_end MO_token MO_number MO_name MO_bank MO_rb MO_codes MO_within MO_piled MO_unitsInRule MO_askThing MO_acts MO_undone MO_laid MO_heards MO_time MO_tape MO_text MO_rooms MO_doors MO_things MO_units MO_draw MO_creaks MO_one MO_other MO_inTold MO_wasTold MO_isOurs MO_toUs MO_toThem MO_ruleFrom MO_ruleTo MO_hasSure MO_isDraw MO_rName MO_tName MO_code MO_codeNumber MO_eWhat MO_eSign MO_pile MO_all MO_table MO_nearSide MO_was MO_toGoal MO_weight MO_laidRow MO_waysTo MO_waysThen MO_hunts MO_firsts MO_tours MO_taken MO_kept MO_hMinute MO_hCreaks MO_hRoom MO_hIs MO_hTold MO_hUntold MO_waysAt MO_waysOn MO_boxAll MO_isBoxed KRr KRf BRr BRf)) [0, 1, 2, 3, 4, 5, 6, 7, 8, 9, 10, 11, 12, 13, 14, 15, 16, 17, 18, 19, 20, 21, 22, 23, 24, 25, 26, 27, 28, 29, 30, 31, 32, 33, 34, 35, 36, 37, 38, 39, 40, 41, 42, 43, 44, 45, 46, 47, 48, 49, 50, 51, 52, 53, 54, 55, 56, 57, 58, 59, 60, 105, 106, 107, 108, 109, 110, 111, 112, 113, 114, 115, 116, 117, 118, 119, 120, 121, 122, 123, 124, 125, 126, 127, 128, 129, 130, 131, 132, 133, 134, 135, 136, 137, 138, 139, 140, 141, 142, 143, 144, 145, 146, 147, 148, 149, 150, 151, 152, 153, 154, 155, 61, 62, 63, 64, 65, 66, 67, 68, 69, 70, 71, 72, 73, 74, 75, 76, 77, 78, 79, 80, 81, 82, 83, 84, 85, 86, 87, 88, 89, 90, 91, 92, 93, 94, 95, 96, 97, 98, 99, 100, 101, 102, 103, 104] rfl
  have hD9 := hD.sub (ws' := (zLW cI cB cL cZ cG SO PL DR TA RE FL RO HU ME TR NI PL FO aPL PL_rooms PL_doors PL_things PL_draw PL_drawTold PL_roomName PL_creaks PL_doorFrom PL_doorTo PL_thingName PL_in PL_was PL_ours PL_us PL_them FO aFO FO_size FO_units FO_told FO_steps FO_stack FO_known DR DF aDR DR_rooms DR_doors DR_things DR_draw DR_drawTold DR_roomName DR_creaks DR_doorFrom DR_doorTo DR_thingName DR_in DR_was DR_ours DR_us DR_them DF aDF DF_size DF_units DF_told DF_steps DF_stack DF_known TA aTA TA_size TA_bytes RE TO RP RE_fault RE_faultPlace TO TA aTO TO_kind TO_place TO_behind TO_word TO_value TO_own FL PL aFL FL_parting FL_next FL_far FL_near RO FL aRO RO_lying RO_lie RO_cost RO_rest HU FL aHU HU_asks ME FL aME ME_oldest ME_done ME_undone ME_now ME_ahead ME_kept ME_box ME_full TR ME NI FL aNI NI_count NI_time NI_minute NI_rooms NI_toldAt NI_untoldAt NI_open NI_into NI_onward MO aMO MO_taped MO_size MO_faultKind MO_faultPlace MO_at MO_end MO_token MO_number MO_name MO_bank MO_rb MO_codes MO_within MO_piled MO_unitsInRule MO_askThing MO_acts MO_undone MO_laid MO_heards MO_time MO_tape MO_text MO_rooms MO_doors MO_things MO_units MO_draw MO_creaks MO_one MO_other MO_inTold MO_wasTold MO_isOurs MO_toUs MO_toThem MO_ruleFrom MO_ruleTo MO_hasSure MO_isDraw MO_rName MO_tName MO_code MO_codeNumber MO_eWhat MO_eSign MO_pile MO_all MO_table MO_nearSide MO_was MO_toGoal MO_weight MO_laidRow MO_waysTo MO_waysThen MO_hunts MO_firsts MO_tours MO_taken MO_kept MO_hMinute MO_hCreaks MO_hRoom MO_hIs MO_hTold MO_hUntold MO_waysAt MO_waysOn MO_boxAll MO_isBoxed KRr KRf BRr BRf)) [0, 1, 2, 3, 4, 5, 6, 7, 8, 9, 10, 11, 12, 13, 14, 15, 16, 17, 18, 19, 20, 21, 22, 23, 24, 25, 26, 27, 28, 29, 30, 31, 32, 33, 34, 35, 36, 37, 38, 39, 40, 41, 42, 43, 44, 45, 46, 47, 48, 49, 50, 51, 52, 53, 54, 55, 56, 57, 58, 59, 60, 105, 106, 107, 108, 109, 110, 111, 112, 113, 114, 115, 116, 117, 118, 119, 120, 121, 122, 123, 124, 125, 126, 127, 128, 129, 130, 131, 132, 133, 134, 135, 136, 137, 138, 139, 140, 141, 142, 143, 144, 145, 146, 147, 148, 149, 150, 151, 152, 153, 154, 155, 61, 62, 63, 64, 65, 66, 67, 68, 69, 70, 71, 72, 73, 74, 75, 76, 77, 78, 79, 80, 81, 82, 83, 84, 85, 86, 87, 88, 89, 90, 91, 92, 93, 94, 95, 96, 97, 98, 99, 100, 101, 102, 103, 104] (by decide +kernel) rfl
  refine W.widen (k := 156) (n := 17443) (Nat.le_of_ble_eq_true rfl) (Nat.le_of_ble_eq_true rfl) ?_
  exact law_loop l hL C0 D cI cB cL cZ cG aS vS A hAe hStr hK 513 0 (by decide) (by decide) (by have h9 : (0 : Int32).toInt = 0 := (by decide); omega) PL DR TA RE FL RO HU ME TR NI SO PL_rooms aPL PL_doors PL_things FO PL_draw PL_drawTold PL_roomName PL_creaks PL_doorFrom PL_doorTo PL_thingName PL_in PL_was PL_ours PL_us PL_them aFO FO_size FO_units FO_told FO_steps FO_stack FO_known DR_rooms aDR DR_doors DR_things DF DR_draw DR_drawTold DR_roomName DR_creaks DR_doorFrom DR_doorTo DR_thingName DR_in DR_was DR_ours DR_us DR_them aDF DF_size DF_units DF_told DF_steps DF_stack DF_known aTA TA_size TA_bytes TO RP RE_fault RE_faultPlace aTO TO_kind TO_place TO_behind TO_word TO_value TO_own aFL FL_parting FL_next FL_far FL_near aRO RO_lying RO_lie RO_cost RO_rest aHU HU_asks aME ME_oldest ME_done ME_undone ME_now ME_ahead ME_kept KRr ME_box BRr ME_full NI_count NI_time aNI NI_minute NI_rooms NI_toldAt NI_untoldAt NI_open NI_into NI_onward KRf BRf aMO MO_taped MO_size MO_faultKind MO_faultPlace MO_at MO_end MO_token MO_number MO_name MO_bank MO_rb MO_codes MO_within MO_piled MO_unitsInRule MO_askThing MO_acts MO_undone MO_laid MO_heards MO_time MO MO_tape MO_text MO_rooms MO_doors MO_things MO_units MO_draw MO_creaks MO_one MO_other MO_inTold MO_wasTold MO_isOurs MO_toUs MO_toThem MO_ruleFrom MO_ruleTo MO_hasSure MO_isDraw MO_rName MO_tName MO_code MO_codeNumber MO_eWhat MO_eSign MO_pile MO_all MO_table MO_nearSide MO_was MO_toGoal MO_weight MO_laidRow MO_waysTo MO_waysThen MO_hunts MO_firsts MO_tours MO_taken MO_kept MO_hMinute MO_hCreaks MO_hRoom MO_hIs MO_hTold MO_hUntold MO_waysAt MO_waysOn MO_boxAll MO_isBoxed q_ME b_PL_rooms b_PL_doors b_PL_things b_FO_size b_DR_rooms b_DR_doors b_DR_things b_DF_size b_TA_size b_TO_behind b_RO_lying b_ME_oldest b_ME_done b_ME_undone b_NI_count b_NI_time s_PL_doorFrom_0 s_PL_doorTo_0 s_PL_in_0 s_PL_was_0 s_DR_doorFrom_0 s_DR_doorTo_0 s_DR_in_0 s_DR_was_0 s_FL_far_0 s_ME_now_0 s_ME_ahead_0 k_ME_kept k_ME_box s_NI_minute_0 w_KR w_BR b_MO_taped b_MO_size b_MO_faultKind b_MO_at b_MO_end b_MO_token b_MO_bank b_MO_rb b_MO_codes b_MO_within b_MO_piled b_MO_unitsInRule b_MO_askThing b_MO_acts b_MO_undone b_MO_laid b_MO_heards b_MO_time s_MO_rooms_0 s_MO_doors_0 s_MO_things_0 s_MO_creaks_0 s_MO_one_0 s_MO_other_0 s_MO_inTold_0 s_MO_wasTold_0 s_MO_ruleFrom_0 s_MO_ruleTo_0 s_MO_hasSure_0 s_MO_isDraw_0 s_MO_all_0 s_MO_table_0 s_MO_nearSide_0 s_MO_was_m s_MO_toGoal_0 s_MO_weight_0 s_MO_tours_0 s_MO_kept_m s_MO_boxAll_m s_MO_isBoxed_0 hq0 B0 T0 D0 (hti0.trans hti1.symm) H locs ls hP9 hD9 hS (lv_sub hl [0, 1, 2, 3] rfl)
-- ===== YOUR PART ENDS =====
set_option maxHeartbeats 4000000 in
theorem lw_walk (l : Launch) (hflags : l.flags = flags0) (b : Addr) (xs : List Int32) : MetFree l x (headSpec (Jvm.Cond.code x code maxLocals ret :: tables_1) room_1) (lw_P b xs) (fun _ _ _ _ _ => True) lw_Q := by
  refine MetFree.of_bodyS (code := code) (maxLocals := maxLocals) (ret := ret) (by decide) ?_ ?_
  · intro args s m h hn
    obtain ⟨meth, c, h1, h2, h3, h4, h5, h6, -, -⟩ := Cond.code_spec hn (atoms_spec (ws := Jvm.Cond.code x code maxLocals ret :: tables_1) h _ List.mem_cons_self)
    exact ⟨meth, c, h1, h2, h3, h4, h5, h6⟩
  · intro p e s m args below meth c s₁ B hml0 hP _
    obtain ⟨rfl, hx, hbd, hgv⟩ := hP
    obtain ⟨scr, harrAt, hlist, hof, hsmall⟩ := hx
    obtain ⟨hcb, hkn, -, -⟩ := State.arrayAt?_spec harrAt
    have hown : s.vm.findClass R_law = some m.cls := findClass_of_methodNamed B.named
    have hts0 : ∀ c ∈ (Jvm.Cond.code x code maxLocals ret :: tables_1), c.before #[Value.ref b] s = true := atoms_spec (ws := Jvm.Cond.code x code maxLocals ret :: tables_1) B.pre
    have hts : ∀ w ∈ lw_tbl, w.before #[Value.ref b] s = true := k2_hts_sels lw_privs (fun w hw => hts0 w (List.mem_cons_of_mem _ hw)) lw_privs_ok
    have hml : c.maxLocals = 4 := B.maxLocals_eq (hts0 _ List.mem_cons_self)
    have X₀ : Stand p l e room_1 s m #[Value.ref b] below meth c s₁ [] 0 0 := Stand.of_body B
    have hh0 : s₁.heap = s.heap := by rw [B.state]; rfl
    have hsz : scr.slots.size = xs.length := by rw [← Array.length_toList, hlist, List.length_map]
    have hval : ∀ j : Nat, j < xs.length → scr.slots[j]? = some (.int (xs.getD j 0)) := fun j hj => by
      rw [← Array.getElem?_toList, hlist]
      simp [hj]
    have hbl : b < s.heap.size := (Array.getElem?_eq_some_iff.mp hcb).1
    have hX : va_X b xs.length (fun j => xs.getD j 0) s s.heap := ⟨scr, hcb, hof, hkn, hsz, hval⟩
    have K : W p l e room_1 s m #[Value.ref b] below meth c s₁.heap [] 0 0 (lw_Z below #[Value.ref b] s) (entryFrame m ([Value.ref b] : List Value).toArray 4) := by
      rw [hh0]
      exact whole_start l hflags hbd ⟨B.exec, B.bytes, B.returns, hml, hown, hts, hX, hbl, B.notSynchronized, hgv⟩
    obtain ⟨t, a1, o, b1, b2, b3⟩ := K s₁ rfl X₀
    exact ⟨t, o, a1, b1, b2, b3⟩
theorem lw_pre_spec {args : Array Value} {s : State} (h : (Jvm.Cond.and given_1 narrow_1).before args s = true) (hr : rest_1_c.before args s = true) : ∃ (b : Addr) (xs : List Int32), lw_P b xs args s := by
  have hs := flat_of_before _ h
  have hq := flat_of_before _ hr
  have hc : (Cond.count 1).before args s = true := hs _ (by decide +kernel)
  have harr : (Cond.arrayOf (.arg 0) .int).before args s = true := hs _ (by decide +kernel)
  have hle : (Cond.le (.length (.arg 0)) (.int 3072)).before args s = true := hs _ (by decide +kernel)
  have hlen : (Cond.isInt (.length (.arg 0))).before args s = true := hq _ (by decide +kernel)
  have hall : (Cond.all (.arg 0) (.isInt (.elem (.arg 0) (.index 0)))).before args s = true := hq _ (by decide +kernel)
  obtain ⟨b, xs, hb, hx⟩ := State.ints_of_pre rfl harr hlen hall
  have hsm : xs.length < 2 ^ 31 := hx.choose_spec.2.2.2
  have hev : (Term.length (.arg 0)).eval args s none [] s = some (.int xs.length.toInt32) := hx.length_eval hb
  have hv := Cond.le_ints hev (show (Term.int 3072).eval args s none [] s = some (.int 3072) from rfl)
  have hd : xs.length.toInt32 ≤ 3072 := by
    simpa [Cond.before, Cond.holds, hv] using hle
  have hN : xs.length ≤ 3072 := (Int32.ofNat_le_ofNat hsm (by decide)).mp (show Int32.ofNat xs.length ≤ Int32.ofNat 3072 from hd)
  exact ⟨b, xs, Cond.one_arg hc (show args[0]? = some (.ref b) from hb), hx, hN, h⟩
theorem lw_comes (l : Launch) (hflags : l.flags = flags0) : Comes l x (Jvm.Cond.code x code maxLocals ret :: tables_1) room_1 (fun tb e args s => Calls_1 tb e args s ∧ rest_1 tb e args s ∧ Pre_1 tb e args s)
    (fun _ _ args s o t => lw_Q args s o t) := by
  intro p e ha hc hk s m args below hf hfit hheap happ hpre
  obtain ⟨b, xs, hP⟩ := lw_pre_spec hpre.2.2 hpre.2.1
  obtain ⟨k, o, h1, h2, h3, hQ⟩ := lw_walk l hflags b xs p e ha hc hk s m args below hf ((Spec.applies_iff_loose hf).mp happ).1 hP trivial
  exact ⟨k, o, h1, h2, h3, hQ⟩
theorem lw_frame {s t : State} {o : Outcome} {args : Array Value} (h : Framed s o t [] 600000 7302250) :
    Framed s o t (fieldLocs frame_1_writes args s ++ arrayLocs frame_1_arrays args s ++ staticLocs frame_1_statics s) 600000 7302250 := h
theorem lw_limb (L : Cond) (hL : ∀ (args : Array Value) (s t : State), L.after args s (.returned (some (.int 1))) t = true) :
    ArmFor flags0 classFile x code maxLocals ret World_1 tables_1 room_1 Calls_1 rest_1 Pre_1
      (fun tb e a s o t => postC L tb e a s o t ∧ Framed s o t (fieldLocs frame_1_writes a s ++ arrayLocs frame_1_arrays a s ++ staticLocs frame_1_statics s) 600000 7302250) := by
  intro l hflags _ _ p e ha hc hk s m args below hf hfit hheap happ hpre
  obtain ⟨k, o, h1, h2, h3, rfl, hF⟩ := lw_comes l hflags p e ha hc hk s m args below hf hfit hheap happ hpre
  exact ⟨k, _, h1, h2, h3, hL args s _, lw_frame hF⟩
theorem i_vc : Claimed_1_1 ∧ Claimed_1_2 := ⟨lw_limb limb_1_1 (fun args s t => by simp [limb_1_1, Cond.after, Cond.holds, Cond.value]), lw_limb limb_1_2 (fun args s t => Cond.after_iff.mpr (by
  first | (rw [show limb_1_2 = Cond.eq .result (.int 1) from rfl, Cond.eq_ints (x := 1) (y := 1) rfl rfl]; simp; done) | (simp [limb_1_2, Cond.value, Term.eval]; done)))⟩
