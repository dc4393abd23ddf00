set_option maxHeartbeats 8000000 in
set_option maxRecDepth 100000 in
/-- one call of either, on fresh ones -/
theorem law_body {p : Program} {e : Env} {s : State} {m : MethodId} {below : List Frame} {meth : Method} {c : Code} (l : Launch) {b L : Nat} {xs : Nat → Int32} (hL : L ≤ 6) (C0 : lw_At p s m meth c b L xs) (D : va_G) (cI cB cL cZ cG : ClassId) (a0 : Nat) (am : Nat) (aP : Nat) (aD : Nat) (aT : Nat) (aR : Nat) (aF : Nat) (aU : Nat) (aH : Nat) (aM : Nat) (aW : Nat) (aN : Nat) (pz : Nat → Nat) (su : Nat) (s0 : Nat) (s1 : Nat) (s2 : Nat) (pq : Nat → Nat) (sq : Nat) (z0 : Nat) (z1 : Nat) (z2 : Nat) (tb : Nat) (fb : Nat → Int32) (rt : Nat) (to : Nat) (fx : Nat) (fr : Nat) (fe : Nat) (fxf : Nat → Int32) (frf : Nat → Int32) (ul : Nat) (uc : Nat) (ue : Nat) (mo : Nat) (ma : Nat) (mk : Nat) (mb : Nat) (mf : Nat) (r0 : Nat) (r1 : Nat) (b0 : Nat) (b1 : Nat) (b2 : Nat) (fn : Nat → Int32) (w0 : Nat → Int32) (w1 : Nat → Int32) (u0 : Nat → Int32) (u1 : Nat → Int32) (u2 : Nat → Int32) (ff : Nat → Int32) (kr : Nat → Option Nat) (br : Nat → Option Nat) (n3 : Nat) (n4 : Nat) (n5 : Nat) (n6 : Nat) (n7 : Nat) (n8 : Nat) (n9 : Nat) (g3 : Nat → Int32) (g4 : Nat → Int32) (g5 : Nat → Int32) (g6 : Nat → Int32) (fo7 : Nat → Int32) (ad : Nat → Nat) (fR : Nat → Int32) (fD : Nat → Int32) (fT : Nat → Int32) (fU : Nat → Int32) (fW : Nat → Int32) (fS : Nat → Int32) (fX : Nat → Int32) (fA : Nat → Int32) (fB : Nat → Int32) (ft : Nat → Int32) (t0 : Nat → Int32) (t1 : Nat → Int32) (t2 : Nat → Int32) (t3 : Nat → Int32) (t4 : Nat → Int32) (t5 : Nat → Int32) (fk : Nat → Int32) (fw : Nat → Int32) (fbm : Nat → Int32) (hk_kr_0 : kr 0 = some r0) (hk_kr_1 : kr 1 = some r1) (hk_br_0 : br 0 = some b0) (hk_br_1 : br 1 = some b1) (hk_br_2 : br 2 = some b2) (hf_fn_30 : fn 30 = 0) (hf_fn_31 : fn 31 = 0) (hf_ff_0 : ff 0 = 0) (hf_ff_1 : ff 1 = 0) (hf_ff_2 : ff 2 = 0) (hf_fR_0 : fR 0 = 0) (hf_fR_1 : fR 1 = 0) (hf_fD_0 : fD 0 = 0) (hf_fD_1 : fD 1 = 0) (hf_fT_0 : fT 0 = 0) (hf_fT_1 : fT 1 = 0) (hf_fU_0 : fU 0 = 0) (hf_fU_1 : fU 1 = 0) (hf_fW_0 : fW 0 = 0) (hf_fW_1 : fW 1 = 0) (hf_fS_0 : fS 0 = 0) (hf_fS_1 : fS 1 = 0) (hf_fX_0 : fX 0 = 0) (hf_fX_1 : fX 1 = 0) (hf_fA_30 : fA 30 = 0) (hf_fA_31 : fA 31 = 0) (hf_fB_0 : fB 0 = 0) (hf_fB_1 : fB 1 = 0) (hf_fB_2 : fB 2 = 0) (hf_fk_U : ∀ j, fk j ≤ 0) (A : Nat → Prop) (hAe : A = fun q => s.heap.size ≤ q) (H : Heap) (locs : List Loc) (hK : va_K D classes [(cI, .int), (cB, .byte), (cL, .long), (cZ, .boolean), (cG, .array .int)] s) (hP : va_P D classes [(a0, .inr (11, [.ref aP, .ref aD, .ref aT, .ref aR, .ref aF, .ref aU, .ref aH, .ref aM, .ref aW, .ref aN])), (aP, .inr (5, PF pz su)), (su, .inr (1, [.ref s0, .ref s1, .ref s2, .int 0, .int 0, .int 0])), (aD, .inr (5, PF pq sq)), (sq, .inr (1, [.ref z0, .ref z1, .ref z2, .int 0, .int 0, .int 0])), (aT, .inr (8, [.ref tb, .int 0])), (tb, .inl (cB, 1600, .inl fb)), (aR, .inr (6, [.ref rt, .ref aD, .int 0, .int (-1)])), (rt, .inr (9, [.ref aT, .ref to, .int 0, .int 0, .int 0, .long 0, .int 0])), (aF, .inr (0, [.ref aP, .ref fx, .ref fr, .ref fe, .int 0])), (fx, .inl (cI, 8, .inl fxf)), (fr, .inl (cI, 64, .inl frf)), (aU, .inr (7, [.ref aF, .ref ul, .int 0, .ref uc, .ref ue])), (aM, .inr (3, [.ref aF, .ref mo, .ref ma, .ref mk, .int 0, .int 0, .int 0, .ref mb, .ref mf])), (mo, .inl (cI, 32, .inl fn)), (mk, .inl (cG, 41, .inr (.inr (.inr (.inr kr))))), (r0, .inl (cI, 32, .inl w0)), (r1, .inl (cI, 32, .inl w1)), (mb, .inl (cG, 3, .inr (.inr (.inr (.inr br))))), (b0, .inl (cI, 32, .inl u0)), (b1, .inl (cI, 32, .inl u1)), (b2, .inl (cI, 32, .inl u2)), (mf, .inl (cZ, 3, .inl ff)), (aW, .inr (10, [.ref aM])), (aN, .inr (4, [.ref aF, .int 0, .int 0, .ref n3, .ref n4, .ref n5, .ref n6, .ref n7, .ref n8, .ref n9])), (n3, .inl (cI, 30, .inl g3)), (n4, .inl (cI, 30, .inl g4)), (n5, .inl (cI, 30, .inl g5)), (n6, .inl (cI, 30, .inl g6)), (n7, .inl (cI, 8, .inl fo7)), (am, .inr (12, MF ad 0 0 0 (-1) 0 0 0 0 0 0 0 0 0 0 0 0 0 0 0 0 0)), ((ad 11), .inl (cI, 2, .inl fR)), ((ad 12), .inl (cI, 2, .inl fD)), ((ad 13), .inl (cI, 2, .inl fT)), ((ad 14), .inl (cI, 2, .inl fU)), ((ad 15), .inl (cI, 2, .inl fW)), ((ad 26), .inl (cZ, 2, .inl fS)), ((ad 27), .inl (cZ, 2, .inl fX)), ((ad 42), .inl (cI, 32, .inl fA)), ((ad 70), .inl (cZ, 3, .inl fB)), ((ad 0), .inl (cB, 1620, .inl ft)), ((ad 59), .inl (cI, 30, .inl t0)), ((ad 60), .inl (cI, 30, .inl t1)), ((ad 61), .inl (cI, 30, .inl t2)), ((ad 62), .inl (cI, 30, .inl t3)), ((ad 63), .inl (cI, 30, .inl t4)), ((ad 64), .inl (cI, 30, .inl t5)), ((ad 57), .inl (cI, 64, .inl fk)), ((ad 45), .inl (cI, 1312, .inl fw)), ((ad 69), .inl (cI, 96, .inl fbm))] H) (hD : va_D A [(a0, .inr (11, [.ref aP, .ref aD, .ref aT, .ref aR, .ref aF, .ref aU, .ref aH, .ref aM, .ref aW, .ref aN])), (aP, .inr (5, PF pz su)), (su, .inr (1, [.ref s0, .ref s1, .ref s2, .int 0, .int 0, .int 0])), (aD, .inr (5, PF pq sq)), (sq, .inr (1, [.ref z0, .ref z1, .ref z2, .int 0, .int 0, .int 0])), (aT, .inr (8, [.ref tb, .int 0])), (tb, .inl (cB, 1600, .inl fb)), (aR, .inr (6, [.ref rt, .ref aD, .int 0, .int (-1)])), (rt, .inr (9, [.ref aT, .ref to, .int 0, .int 0, .int 0, .long 0, .int 0])), (aF, .inr (0, [.ref aP, .ref fx, .ref fr, .ref fe, .int 0])), (fx, .inl (cI, 8, .inl fxf)), (fr, .inl (cI, 64, .inl frf)), (aU, .inr (7, [.ref aF, .ref ul, .int 0, .ref uc, .ref ue])), (aM, .inr (3, [.ref aF, .ref mo, .ref ma, .ref mk, .int 0, .int 0, .int 0, .ref mb, .ref mf])), (mo, .inl (cI, 32, .inl fn)), (mk, .inl (cG, 41, .inr (.inr (.inr (.inr kr))))), (r0, .inl (cI, 32, .inl w0)), (r1, .inl (cI, 32, .inl w1)), (mb, .inl (cG, 3, .inr (.inr (.inr (.inr br))))), (b0, .inl (cI, 32, .inl u0)), (b1, .inl (cI, 32, .inl u1)), (b2, .inl (cI, 32, .inl u2)), (mf, .inl (cZ, 3, .inl ff)), (aW, .inr (10, [.ref aM])), (aN, .inr (4, [.ref aF, .int 0, .int 0, .ref n3, .ref n4, .ref n5, .ref n6, .ref n7, .ref n8, .ref n9])), (n3, .inl (cI, 30, .inl g3)), (n4, .inl (cI, 30, .inl g4)), (n5, .inl (cI, 30, .inl g5)), (n6, .inl (cI, 30, .inl g6)), (n7, .inl (cI, 8, .inl fo7)), (am, .inr (12, MF ad 0 0 0 (-1) 0 0 0 0 0 0 0 0 0 0 0 0 0 0 0 0 0)), ((ad 11), .inl (cI, 2, .inl fR)), ((ad 12), .inl (cI, 2, .inl fD)), ((ad 13), .inl (cI, 2, .inl fT)), ((ad 14), .inl (cI, 2, .inl fU)), ((ad 15), .inl (cI, 2, .inl fW)), ((ad 26), .inl (cZ, 2, .inl fS)), ((ad 27), .inl (cZ, 2, .inl fX)), ((ad 42), .inl (cI, 32, .inl fA)), ((ad 70), .inl (cZ, 3, .inl fB)), ((ad 0), .inl (cB, 1620, .inl ft)), ((ad 59), .inl (cI, 30, .inl t0)), ((ad 60), .inl (cI, 30, .inl t1)), ((ad 61), .inl (cI, 30, .inl t2)), ((ad 62), .inl (cI, 30, .inl t3)), ((ad 63), .inl (cI, 30, .inl t4)), ((ad 64), .inl (cI, 30, .inl t5)), ((ad 57), .inl (cI, 64, .inl fk)), ((ad 45), .inl (cI, 1312, .inl fw)), ((ad 69), .inl (cI, 96, .inl fbm))]) (hS : va_S A s.heap H locs) (ls : Array Slot) (hl : lv_has ls 4 [(3, .int 0), (2, .ref am), (1, .ref a0), (0, .ref b)]) : W p l e room_1 s m #[Value.ref b] below meth c H locs 156 17443 (lw_Z below #[Value.ref b] s) (F0 m 18 ls []) := by
  obtain ⟨hx, hb, hr, hml, hown, hts0, hX, hbl, hlocks, hgv⟩ := C0
  have hts : ∀ w ∈ wsL_law, w.before #[Value.ref b] s = true := fun w h => hts0 w (wsL_law_in w h)
  have hA : ∀ q : Nat, s.heap.size ≤ q → A q := fun q h => by rw [hAe]; exact h
  have hbA : ¬ A b := by rw [hAe]; exact Nat.not_le.mpr hbl
  rcases (show L = 0 ∨ L = 1 ∨ L = 2 ∨ L = 3 ∨ L = 4 ∨ L = 5 ∨ L = 6 by omega) with rfl | rfl | rfl | rfl | rfl | rfl | rfl
  · refine lv_iload_n hx hb dL_law_18 rfl (lv_at hl 0 rfl) ?_
    refine lv_aload_n hx hb dL_law_19 rfl (lv_at hl 3 rfl) ?_
    refine va_slen hx hb hX hbl hbA hS dL_law_20 ?_
    refine lv_topi (fun y_1 ey_1 => ?_)
    obtain rfl : y_1 = 0 := ey_1.trans (by decide)
    refine lv_bipush (v := 6) hx hb dL_law_21 (by decide) ?_
    refine lv_isub hx hb dL_law_23 ?_
    refine lv_topi (fun y_2 ey_2 => ?_)
    obtain rfl : y_2 = (-6) := ey_2.trans (by decide)
    refine lv_icmp_gt (tgt := 1576) hx hb dL_law_24 (by decide) (fun _ => ?_) (fun c_3 => absurd (by decide) c_3)
    refine lv_iconst (v := 1) hx hb dL_law_1576 (by decide) ?_
    refine va_forget (fun q hq => by have h := hS.2.2 q hq; rw [hAe] at h; exact h) ?_
    refine W.widen (k := 600000) (n := 7302250) (Nat.le_of_ble_eq_true rfl) (Nat.le_of_ble_eq_true rfl) ?_
    exact lw_ret hx hb hr hlocks dL_law_1577
  · refine lv_iload_n hx hb dL_law_18 rfl (lv_at hl 0 rfl) ?_
    refine lv_aload_n hx hb dL_law_19 rfl (lv_at hl 3 rfl) ?_
    refine va_slen hx hb hX hbl hbA hS dL_law_20 ?_
    refine lv_topi (fun y_4 ey_4 => ?_)
    obtain rfl : y_4 = 1 := ey_4.trans (by decide)
    refine lv_bipush (v := 6) hx hb dL_law_21 (by decide) ?_
    refine lv_isub hx hb dL_law_23 ?_
    refine lv_topi (fun y_5 ey_5 => ?_)
    obtain rfl : y_5 = (-5) := ey_5.trans (by decide)
    refine lv_icmp_gt (tgt := 1576) hx hb dL_law_24 (by decide) (fun _ => ?_) (fun c_6 => absurd (by decide) c_6)
    refine lv_iconst (v := 1) hx hb dL_law_1576 (by decide) ?_
    refine va_forget (fun q hq => by have h := hS.2.2 q hq; rw [hAe] at h; exact h) ?_
    refine W.widen (k := 600000) (n := 7302250) (Nat.le_of_ble_eq_true rfl) (Nat.le_of_ble_eq_true rfl) ?_
    exact lw_ret hx hb hr hlocks dL_law_1577
  · refine lv_iload_n hx hb dL_law_18 rfl (lv_at hl 0 rfl) ?_
    refine lv_aload_n hx hb dL_law_19 rfl (lv_at hl 3 rfl) ?_
    refine va_slen hx hb hX hbl hbA hS dL_law_20 ?_
    refine lv_topi (fun y_7 ey_7 => ?_)
    obtain rfl : y_7 = 2 := ey_7.trans (by decide)
    refine lv_bipush (v := 6) hx hb dL_law_21 (by decide) ?_
    refine lv_isub hx hb dL_law_23 ?_
    refine lv_topi (fun y_8 ey_8 => ?_)
    obtain rfl : y_8 = (-4) := ey_8.trans (by decide)
    refine lv_icmp_gt (tgt := 1576) hx hb dL_law_24 (by decide) (fun _ => ?_) (fun c_9 => absurd (by decide) c_9)
    refine lv_iconst (v := 1) hx hb dL_law_1576 (by decide) ?_
    refine va_forget (fun q hq => by have h := hS.2.2 q hq; rw [hAe] at h; exact h) ?_
    refine W.widen (k := 600000) (n := 7302250) (Nat.le_of_ble_eq_true rfl) (Nat.le_of_ble_eq_true rfl) ?_
    exact lw_ret hx hb hr hlocks dL_law_1577
  · refine lv_iload_n hx hb dL_law_18 rfl (lv_at hl 0 rfl) ?_
    refine lv_aload_n hx hb dL_law_19 rfl (lv_at hl 3 rfl) ?_
    refine va_slen hx hb hX hbl hbA hS dL_law_20 ?_
    refine lv_topi (fun y_10 ey_10 => ?_)
    obtain rfl : y_10 = 3 := ey_10.trans (by decide)
    refine lv_bipush (v := 6) hx hb dL_law_21 (by decide) ?_
    refine lv_isub hx hb dL_law_23 ?_
    refine lv_topi (fun y_11 ey_11 => ?_)
    obtain rfl : y_11 = (-3) := ey_11.trans (by decide)
    refine lv_icmp_gt (tgt := 1576) hx hb dL_law_24 (by decide) (fun _ => ?_) (fun c_12 => absurd (by decide) c_12)
    refine lv_iconst (v := 1) hx hb dL_law_1576 (by decide) ?_
    refine va_forget (fun q hq => by have h := hS.2.2 q hq; rw [hAe] at h; exact h) ?_
    refine W.widen (k := 600000) (n := 7302250) (Nat.le_of_ble_eq_true rfl) (Nat.le_of_ble_eq_true rfl) ?_
    exact lw_ret hx hb hr hlocks dL_law_1577
  · refine lv_iload_n hx hb dL_law_18 rfl (lv_at hl 0 rfl) ?_
    refine lv_aload_n hx hb dL_law_19 rfl (lv_at hl 3 rfl) ?_
    refine va_slen hx hb hX hbl hbA hS dL_law_20 ?_
    refine lv_topi (fun y_13 ey_13 => ?_)
    obtain rfl : y_13 = 4 := ey_13.trans (by decide)
    refine lv_bipush (v := 6) hx hb dL_law_21 (by decide) ?_
    refine lv_isub hx hb dL_law_23 ?_
    refine lv_topi (fun y_14 ey_14 => ?_)
    obtain rfl : y_14 = (-2) := ey_14.trans (by decide)
    refine lv_icmp_gt (tgt := 1576) hx hb dL_law_24 (by decide) (fun _ => ?_) (fun c_15 => absurd (by decide) c_15)
    refine lv_iconst (v := 1) hx hb dL_law_1576 (by decide) ?_
    refine va_forget (fun q hq => by have h := hS.2.2 q hq; rw [hAe] at h; exact h) ?_
    refine W.widen (k := 600000) (n := 7302250) (Nat.le_of_ble_eq_true rfl) (Nat.le_of_ble_eq_true rfl) ?_
    exact lw_ret hx hb hr hlocks dL_law_1577
  · refine lv_iload_n hx hb dL_law_18 rfl (lv_at hl 0 rfl) ?_
    refine lv_aload_n hx hb dL_law_19 rfl (lv_at hl 3 rfl) ?_
    refine va_slen hx hb hX hbl hbA hS dL_law_20 ?_
    refine lv_topi (fun y_16 ey_16 => ?_)
    obtain rfl : y_16 = 5 := ey_16.trans (by decide)
    refine lv_bipush (v := 6) hx hb dL_law_21 (by decide) ?_
    refine lv_isub hx hb dL_law_23 ?_
    refine lv_topi (fun y_17 ey_17 => ?_)
    obtain rfl : y_17 = (-1) := ey_17.trans (by decide)
    refine lv_icmp_gt (tgt := 1576) hx hb dL_law_24 (by decide) (fun _ => ?_) (fun c_18 => absurd (by decide) c_18)
    refine lv_iconst (v := 1) hx hb dL_law_1576 (by decide) ?_
    refine va_forget (fun q hq => by have h := hS.2.2 q hq; rw [hAe] at h; exact h) ?_
    refine W.widen (k := 600000) (n := 7302250) (Nat.le_of_ble_eq_true rfl) (Nat.le_of_ble_eq_true rfl) ?_
    exact lw_ret hx hb hr hlocks dL_law_1577
  · refine lv_iload_n hx hb dL_law_18 rfl (lv_at hl 0 rfl) ?_
    refine lv_aload_n hx hb dL_law_19 rfl (lv_at hl 3 rfl) ?_
    refine va_slen hx hb hX hbl hbA hS dL_law_20 ?_
    refine lv_topi (fun y_19 ey_19 => ?_)
    obtain rfl : y_19 = 6 := ey_19.trans (by decide)
    refine lv_bipush (v := 6) hx hb dL_law_21 (by decide) ?_
    refine lv_isub hx hb dL_law_23 ?_
    refine lv_topi (fun y_20 ey_20 => ?_)
    obtain rfl : y_20 = 0 := ey_20.trans (by decide)
    refine lv_icmp_gt (tgt := 1576) hx hb dL_law_24 (by decide) (fun c_21 => absurd c_21 (by decide)) (fun _ => ?_)
    refine lv_aload_n hx hb dL_law_27 rfl (lv_at hl 3 rfl) ?_
    refine lv_iload_n hx hb dL_law_28 rfl (lv_at hl 0 rfl) ?_
    refine va_sld hx hb hX hbl hbA hS (show vp_in 0 6 from (by decide : ¬ ((0 : Int32) < 0 ∨ 6 ≤ Int32.toNatClampNeg 0))) dL_law_29 ?_
    refine lv_bipush (v := 63) hx hb dL_law_30 (by decide) ?_
    refine lv_iand hx hb dL_law_32 ?_
    obtain ⟨j, hj, ej⟩ := pk_andE (xs (Int32.toNatClampNeg 0)) (m := 63) 6 (by decide)
    refine lv_topi (fun y9 ey9 => ?_)
    obtain rfl : y9 = nI j := ey9.trans ej
    clear ej
    by_cases hj9 : j < 50
    · rcases (show j = 0 ∨ j = 1 ∨ j = 2 ∨ j = 3 ∨ j = 4 ∨ j = 5 ∨ j = 6 ∨ j = 7 ∨ j = 8 ∨ j = 9 ∨ j = 10 ∨ j = 11 ∨ j = 12 ∨ j = 13 ∨ j = 14 ∨ j = 15 ∨ j = 16 ∨ j = 17 ∨ j = 18 ∨ j = 19 ∨ j = 20 ∨ j = 21 ∨ j = 22 ∨ j = 23 ∨ j = 24 ∨ j = 25 ∨ j = 26 ∨ j = 27 ∨ j = 28 ∨ j = 29 ∨ j = 30 ∨ j = 31 ∨ j = 32 ∨ j = 33 ∨ j = 34 ∨ j = 35 ∨ j = 36 ∨ j = 37 ∨ j = 38 ∨ j = 39 ∨ j = 40 ∨ j = 41 ∨ j = 42 ∨ j = 43 ∨ j = 44 ∨ j = 45 ∨ j = 46 ∨ j = 47 ∨ j = 48 ∨ j = 49 by omega) with rfl | rfl | rfl | rfl | rfl | rfl | rfl | rfl | rfl | rfl | rfl | rfl | rfl | rfl | rfl | rfl | rfl | rfl | rfl | rfl | rfl | rfl | rfl | rfl | rfl | rfl | rfl | rfl | rfl | rfl | rfl | rfl | rfl | rfl | rfl | rfl | rfl | rfl | rfl | rfl | rfl | rfl | rfl | rfl | rfl | rfl | rfl | rfl | rfl | rfl
      · refine lv_tableIn (off := 215) (tgt := 248) hx hb dL_law_33 (by decide) (by decide) (by decide) (by decide) ?_
        refine lv_aload_n hx hb dL_law_248 rfl (lv_at hl 2 rfl) ?_
        refine lv_aload_n hx hb dL_law_249 rfl (lv_at hl 3 rfl) ?_
        refine lv_iload_n hx hb dL_law_250 rfl (lv_at hl 0 rfl) ?_
        refine lv_iconst (v := 1) hx hb dL_law_251 (by decide) ?_
        refine lv_iadd hx hb dL_law_252 ?_
        refine lv_topi (fun y_22 ey_22 => ?_)
        obtain rfl : y_22 = 1 := ey_22.trans (by decide)
        refine va_sld hx hb hX hbl hbA hS (show vp_in 1 6 from (by decide : ¬ ((1 : Int32) < 0 ∨ 6 ≤ Int32.toNatClampNeg 1))) dL_law_253 ?_
        refine lv_aload_n hx hb dL_law_254 rfl (lv_at hl 3 rfl) ?_
        refine lv_iload_n hx hb dL_law_255 rfl (lv_at hl 0 rfl) ?_
        refine lv_iconst (v := 2) hx hb dL_law_256 (by decide) ?_
        refine lv_iadd hx hb dL_law_257 ?_
        refine lv_topi (fun y_23 ey_23 => ?_)
        obtain rfl : y_23 = 2 := ey_23.trans (by decide)
        refine va_sld hx hb hX hbl hbA hS (show vp_in 2 6 from (by decide : ¬ ((2 : Int32) < 0 ∨ 6 ≤ Int32.toNatClampNeg 2))) dL_law_258 ?_
        refine lv_aload_n hx hb dL_law_259 rfl (lv_at hl 3 rfl) ?_
        refine lv_iload_n hx hb dL_law_260 rfl (lv_at hl 0 rfl) ?_
        refine lv_iconst (v := 3) hx hb dL_law_261 (by decide) ?_
        refine lv_iadd hx hb dL_law_262 ?_
        refine lv_topi (fun y_24 ey_24 => ?_)
        obtain rfl : y_24 = 3 := ey_24.trans (by decide)
        refine va_sld hx hb hX hbl hbA hS (show vp_in 3 6 from (by decide : ¬ ((3 : Int32) < 0 ∨ 6 ≤ Int32.toNatClampNeg 3))) dL_law_263 ?_
        refine lv_aload_n hx hb dL_law_264 rfl (lv_at hl 3 rfl) ?_
        refine lv_iload_n hx hb dL_law_265 rfl (lv_at hl 0 rfl) ?_
        refine lv_iconst (v := 4) hx hb dL_law_266 (by decide) ?_
        refine lv_iadd hx hb dL_law_267 ?_
        refine lv_topi (fun y_25 ey_25 => ?_)
        obtain rfl : y_25 = 4 := ey_25.trans (by decide)
        refine va_sld hx hb hX hbl hbA hS (show vp_in 4 6 from (by decide : ¬ ((4 : Int32) < 0 ∨ 6 ≤ Int32.toNatClampNeg 4))) dL_law_268 ?_
        refine lv_aload_n hx hb dL_law_269 rfl (lv_at hl 3 rfl) ?_
        refine lv_iload_n hx hb dL_law_270 rfl (lv_at hl 0 rfl) ?_
        refine lv_iconst (v := 5) hx hb dL_law_271 (by decide) ?_
        refine lv_iadd hx hb dL_law_272 ?_
        refine lv_topi (fun y_26 ey_26 => ?_)
        obtain rfl : y_26 = 5 := ey_26.trans (by decide)
        refine va_sld hx hb hX hbl hbA hS (show vp_in 5 6 from (by decide : ¬ ((5 : Int32) < 0 ∨ 6 ≤ Int32.toNatClampNeg 5))) dL_law_273 ?_
        have hPc := hP.sub (ws' := [(a0, .inr (11, [.ref aP, .ref aD, .ref aT, .ref aR, .ref aF, .ref aU, .ref aH, .ref aM, .ref aW, .ref aN])), (aT, .inr (8, [.ref tb, .int 0])), (tb, .inl (cB, 1600, .inl fb))]) [0, 5, 6] rfl
        have hDc := hD.sub (ws' := [(a0, .inr (11, [.ref aP, .ref aD, .ref aT, .ref aR, .ref aF, .ref aU, .ref aH, .ref aM, .ref aW, .ref aN])), (aT, .inr (8, [.ref tb, .int 0])), (tb, .inl (cB, 1600, .inl fb))]) [0, 5, 6] (by decide) rfl
        have hFc := va_free (wc := [(a0, .inr (11, [.ref aP, .ref aD, .ref aT, .ref aR, .ref aF, .ref aU, .ref aH, .ref aM, .ref aW, .ref aN])), (aT, .inr (8, [.ref tb, .int 0])), (tb, .inl (cB, 1600, .inl fb))]) hD hS hA [0, 5, 6] rfl
        refine va_calli (va_runV (As := [.int (xs (Int32.toNatClampNeg 1)), .int (xs (Int32.toNatClampNeg 2)), .int (xs (Int32.toNatClampNeg 3)), .int (xs (Int32.toNatClampNeg 4)), .int (xs (Int32.toNatClampNeg 5))]) (rest := []) ⟨hx, hb, hml, hown, hts⟩ (c_feed l D cI cB cL cZ a0 aP aD aT aR aF aU aH aM aW aN tb fb (xs (Int32.toNatClampNeg 1)) (xs (Int32.toNatClampNeg 2)) (xs (Int32.toNatClampNeg 3)) (xs (Int32.toNatClampNeg 4)) (xs (Int32.toNatClampNeg 5)) H.size) (cwV 5 hts gL_law_X11_feed rfl rfl rfl (by decide +kernel) ⟨Nat.le_of_ble_eq_true rfl, Nat.le_of_ble_eq_true rfl⟩) ⟨xp_blind, va_recv hK hPc (ci := 11) (q0 := 0) rfl rfl, fun U hU hW => xp_mk hU hW hPc (hK.sub (tys' := [(cI, .int), (cB, .byte), (cL, .long), (cZ, .boolean)]) [0, 1, 2, 3] rfl) hDc xNw_nil⟩ rfl rfl hl.1 rfl (lv_room (Nat.le_of_ble_eq_true rfl)) dL_law_274 ⟨Nat.le_of_ble_eq_true rfl, Nat.le_of_ble_eq_true rfl⟩) hS (fun q _ h => hFc q h) hFc (fun r_27 u9 t9 H1 locs ht9 hvm9 hr_27 hB9 hz9 hk9 hS => ?_)
        clear hB9 hz9 hPc hDc
        obtain ⟨hP, hD⟩ := va_join (wr := [(aP, .inr (5, PF pz su)), (su, .inr (1, [.ref s0, .ref s1, .ref s2, .int 0, .int 0, .int 0])), (aD, .inr (5, PF pq sq)), (sq, .inr (1, [.ref z0, .ref z1, .ref z2, .int 0, .int 0, .int 0])), (aR, .inr (6, [.ref rt, .ref aD, .int 0, .int (-1)])), (rt, .inr (9, [.ref aT, .ref to, .int 0, .int 0, .int 0, .long 0, .int 0])), (aF, .inr (0, [.ref aP, .ref fx, .ref fr, .ref fe, .int 0])), (fx, .inl (cI, 8, .inl fxf)), (fr, .inl (cI, 64, .inl frf)), (aU, .inr (7, [.ref aF, .ref ul, .int 0, .ref uc, .ref ue])), (aM, .inr (3, [.ref aF, .ref mo, .ref ma, .ref mk, .int 0, .int 0, .int 0, .ref mb, .ref mf])), (mo, .inl (cI, 32, .inl fn)), (mk, .inl (cG, 41, .inr (.inr (.inr (.inr kr))))), (r0, .inl (cI, 32, .inl w0)), (r1, .inl (cI, 32, .inl w1)), (mb, .inl (cG, 3, .inr (.inr (.inr (.inr br))))), (b0, .inl (cI, 32, .inl u0)), (b1, .inl (cI, 32, .inl u1)), (b2, .inl (cI, 32, .inl u2)), (mf, .inl (cZ, 3, .inl ff)), (aW, .inr (10, [.ref aM])), (aN, .inr (4, [.ref aF, .int 0, .int 0, .ref n3, .ref n4, .ref n5, .ref n6, .ref n7, .ref n8, .ref n9])), (n3, .inl (cI, 30, .inl g3)), (n4, .inl (cI, 30, .inl g4)), (n5, .inl (cI, 30, .inl g5)), (n6, .inl (cI, 30, .inl g6)), (n7, .inl (cI, 8, .inl fo7)), (am, .inr (12, MF ad 0 0 0 (-1) 0 0 0 0 0 0 0 0 0 0 0 0 0 0 0 0 0)), ((ad 11), .inl (cI, 2, .inl fR)), ((ad 12), .inl (cI, 2, .inl fD)), ((ad 13), .inl (cI, 2, .inl fT)), ((ad 14), .inl (cI, 2, .inl fU)), ((ad 15), .inl (cI, 2, .inl fW)), ((ad 26), .inl (cZ, 2, .inl fS)), ((ad 27), .inl (cZ, 2, .inl fX)), ((ad 42), .inl (cI, 32, .inl fA)), ((ad 70), .inl (cZ, 3, .inl fB)), ((ad 0), .inl (cB, 1620, .inl ft)), ((ad 59), .inl (cI, 30, .inl t0)), ((ad 60), .inl (cI, 30, .inl t1)), ((ad 61), .inl (cI, 30, .inl t2)), ((ad 62), .inl (cI, 30, .inl t3)), ((ad 63), .inl (cI, 30, .inl t4)), ((ad 64), .inl (cI, 30, .inl t5)), ((ad 57), .inl (cI, 64, .inl fk)), ((ad 45), .inl (cI, 1312, .inl fw)), ((ad 69), .inl (cI, 96, .inl fbm))]) (w1 := []) hP hD [0, 5, 6] [1, 2, 3, 4, 7, 8, 9, 10, 11, 12, 13, 14, 15, 16, 17, 18, 19, 20, 21, 22, 23, 24, 25, 26, 27, 28, 29, 30, 31, 32, 33, 34, 35, 36, 37, 38, 39, 40, 41, 42, 43, 44, 45, 46, 47, 48, 49] rfl rfl (by decide) (by decide) hk9 hFc (fun k q h => by simp at h) ⟨fun i j p q h => by simp at h, fun k q h => by simp at h⟩
        clear hk9 hFc ht9 hvm9
        generalize H1 = H at hP hS ⊢
        replace hP : va_P D classes [(aP, .inr (5, PF pz su)), (su, .inr (1, [.ref s0, .ref s1, .ref s2, .int 0, .int 0, .int 0])), (aD, .inr (5, PF pq sq)), (sq, .inr (1, [.ref z0, .ref z1, .ref z2, .int 0, .int 0, .int 0])), (aR, .inr (6, [.ref rt, .ref aD, .int 0, .int (-1)])), (rt, .inr (9, [.ref aT, .ref to, .int 0, .int 0, .int 0, .long 0, .int 0])), (aF, .inr (0, [.ref aP, .ref fx, .ref fr, .ref fe, .int 0])), (fx, .inl (cI, 8, .inl fxf)), (fr, .inl (cI, 64, .inl frf)), (aU, .inr (7, [.ref aF, .ref ul, .int 0, .ref uc, .ref ue])), (aM, .inr (3, [.ref aF, .ref mo, .ref ma, .ref mk, .int 0, .int 0, .int 0, .ref mb, .ref mf])), (mo, .inl (cI, 32, .inl fn)), (mk, .inl (cG, 41, .inr (.inr (.inr (.inr kr))))), (r0, .inl (cI, 32, .inl w0)), (r1, .inl (cI, 32, .inl w1)), (mb, .inl (cG, 3, .inr (.inr (.inr (.inr br))))), (b0, .inl (cI, 32, .inl u0)), (b1, .inl (cI, 32, .inl u1)), (b2, .inl (cI, 32, .inl u2)), (mf, .inl (cZ, 3, .inl ff)), (aW, .inr (10, [.ref aM])), (aN, .inr (4, [.ref aF, .int 0, .int 0, .ref n3, .ref n4, .ref n5, .ref n6, .ref n7, .ref n8, .ref n9])), (n3, .inl (cI, 30, .inl g3)), (n4, .inl (cI, 30, .inl g4)), (n5, .inl (cI, 30, .inl g5)), (n6, .inl (cI, 30, .inl g6)), (n7, .inl (cI, 8, .inl fo7)), (am, .inr (12, MF ad 0 0 0 (-1) 0 0 0 0 0 0 0 0 0 0 0 0 0 0 0 0 0)), ((ad 11), .inl (cI, 2, .inl fR)), ((ad 12), .inl (cI, 2, .inl fD)), ((ad 13), .inl (cI, 2, .inl fT)), ((ad 14), .inl (cI, 2, .inl fU)), ((ad 15), .inl (cI, 2, .inl fW)), ((ad 26), .inl (cZ, 2, .inl fS)), ((ad 27), .inl (cZ, 2, .inl fX)), ((ad 42), .inl (cI, 32, .inl fA)), ((ad 70), .inl (cZ, 3, .inl fB)), ((ad 0), .inl (cB, 1620, .inl ft)), ((ad 59), .inl (cI, 30, .inl t0)), ((ad 60), .inl (cI, 30, .inl t1)), ((ad 61), .inl (cI, 30, .inl t2)), ((ad 62), .inl (cI, 30, .inl t3)), ((ad 63), .inl (cI, 30, .inl t4)), ((ad 64), .inl (cI, 30, .inl t5)), ((ad 57), .inl (cI, 64, .inl fk)), ((ad 45), .inl (cI, 1312, .inl fw)), ((ad 69), .inl (cI, 96, .inl fbm))] H := hP
        replace hD : va_D A [(aP, .inr (5, PF pz su)), (su, .inr (1, [.ref s0, .ref s1, .ref s2, .int 0, .int 0, .int 0])), (aD, .inr (5, PF pq sq)), (sq, .inr (1, [.ref z0, .ref z1, .ref z2, .int 0, .int 0, .int 0])), (aR, .inr (6, [.ref rt, .ref aD, .int 0, .int (-1)])), (rt, .inr (9, [.ref aT, .ref to, .int 0, .int 0, .int 0, .long 0, .int 0])), (aF, .inr (0, [.ref aP, .ref fx, .ref fr, .ref fe, .int 0])), (fx, .inl (cI, 8, .inl fxf)), (fr, .inl (cI, 64, .inl frf)), (aU, .inr (7, [.ref aF, .ref ul, .int 0, .ref uc, .ref ue])), (aM, .inr (3, [.ref aF, .ref mo, .ref ma, .ref mk, .int 0, .int 0, .int 0, .ref mb, .ref mf])), (mo, .inl (cI, 32, .inl fn)), (mk, .inl (cG, 41, .inr (.inr (.inr (.inr kr))))), (r0, .inl (cI, 32, .inl w0)), (r1, .inl (cI, 32, .inl w1)), (mb, .inl (cG, 3, .inr (.inr (.inr (.inr br))))), (b0, .inl (cI, 32, .inl u0)), (b1, .inl (cI, 32, .inl u1)), (b2, .inl (cI, 32, .inl u2)), (mf, .inl (cZ, 3, .inl ff)), (aW, .inr (10, [.ref aM])), (aN, .inr (4, [.ref aF, .int 0, .int 0, .ref n3, .ref n4, .ref n5, .ref n6, .ref n7, .ref n8, .ref n9])), (n3, .inl (cI, 30, .inl g3)), (n4, .inl (cI, 30, .inl g4)), (n5, .inl (cI, 30, .inl g5)), (n6, .inl (cI, 30, .inl g6)), (n7, .inl (cI, 8, .inl fo7)), (am, .inr (12, MF ad 0 0 0 (-1) 0 0 0 0 0 0 0 0 0 0 0 0 0 0 0 0 0)), ((ad 11), .inl (cI, 2, .inl fR)), ((ad 12), .inl (cI, 2, .inl fD)), ((ad 13), .inl (cI, 2, .inl fT)), ((ad 14), .inl (cI, 2, .inl fU)), ((ad 15), .inl (cI, 2, .inl fW)), ((ad 26), .inl (cZ, 2, .inl fS)), ((ad 27), .inl (cZ, 2, .inl fX)), ((ad 42), .inl (cI, 32, .inl fA)), ((ad 70), .inl (cZ, 3, .inl fB)), ((ad 0), .inl (cB, 1620, .inl ft)), ((ad 59), .inl (cI, 30, .inl t0)), ((ad 60), .inl (cI, 30, .inl t1)), ((ad 61), .inl (cI, 30, .inl t2)), ((ad 62), .inl (cI, 30, .inl t3)), ((ad 63), .inl (cI, 30, .inl t4)), ((ad 64), .inl (cI, 30, .inl t5)), ((ad 57), .inl (cI, 64, .inl fk)), ((ad 45), .inl (cI, 1312, .inl fw)), ((ad 69), .inl (cI, 96, .inl fbm))] := hD
        subst hr_27
        refine lv_aload_n hx hb dL_law_277 rfl (lv_at hl 1 rfl) ?_
        refine lv_aload_n hx hb dL_law_278 rfl (lv_at hl 3 rfl) ?_
        refine lv_iload_n hx hb dL_law_279 rfl (lv_at hl 0 rfl) ?_
        refine lv_iconst (v := 1) hx hb dL_law_280 (by decide) ?_
        refine lv_iadd hx hb dL_law_281 ?_
        refine lv_topi (fun y_28 ey_28 => ?_)
        obtain rfl : y_28 = 1 := ey_28.trans (by decide)
        refine va_sld hx hb hX hbl hbA hS (show vp_in 1 6 from (by decide : ¬ ((1 : Int32) < 0 ∨ 6 ≤ Int32.toNatClampNeg 1))) dL_law_282 ?_
        refine lv_aload_n hx hb dL_law_283 rfl (lv_at hl 3 rfl) ?_
        refine lv_iload_n hx hb dL_law_284 rfl (lv_at hl 0 rfl) ?_
        refine lv_iconst (v := 2) hx hb dL_law_285 (by decide) ?_
        refine lv_iadd hx hb dL_law_286 ?_
        refine lv_topi (fun y_29 ey_29 => ?_)
        obtain rfl : y_29 = 2 := ey_29.trans (by decide)
        refine va_sld hx hb hX hbl hbA hS (show vp_in 2 6 from (by decide : ¬ ((2 : Int32) < 0 ∨ 6 ≤ Int32.toNatClampNeg 2))) dL_law_287 ?_
        refine lv_aload_n hx hb dL_law_288 rfl (lv_at hl 3 rfl) ?_
        refine lv_iload_n hx hb dL_law_289 rfl (lv_at hl 0 rfl) ?_
        refine lv_iconst (v := 3) hx hb dL_law_290 (by decide) ?_
        refine lv_iadd hx hb dL_law_291 ?_
        refine lv_topi (fun y_30 ey_30 => ?_)
        obtain rfl : y_30 = 3 := ey_30.trans (by decide)
        refine va_sld hx hb hX hbl hbA hS (show vp_in 3 6 from (by decide : ¬ ((3 : Int32) < 0 ∨ 6 ≤ Int32.toNatClampNeg 3))) dL_law_292 ?_
        refine lv_aload_n hx hb dL_law_293 rfl (lv_at hl 3 rfl) ?_
        refine lv_iload_n hx hb dL_law_294 rfl (lv_at hl 0 rfl) ?_
        refine lv_iconst (v := 4) hx hb dL_law_295 (by decide) ?_
        refine lv_iadd hx hb dL_law_296 ?_
        refine lv_topi (fun y_31 ey_31 => ?_)
        obtain rfl : y_31 = 4 := ey_31.trans (by decide)
        refine va_sld hx hb hX hbl hbA hS (show vp_in 4 6 from (by decide : ¬ ((4 : Int32) < 0 ∨ 6 ≤ Int32.toNatClampNeg 4))) dL_law_297 ?_
        refine lv_aload_n hx hb dL_law_298 rfl (lv_at hl 3 rfl) ?_
        refine lv_iload_n hx hb dL_law_299 rfl (lv_at hl 0 rfl) ?_
        refine lv_iconst (v := 5) hx hb dL_law_300 (by decide) ?_
        refine lv_iadd hx hb dL_law_301 ?_
        refine lv_topi (fun y_32 ey_32 => ?_)
        obtain rfl : y_32 = 5 := ey_32.trans (by decide)
        refine va_sld hx hb hX hbl hbA hS (show vp_in 5 6 from (by decide : ¬ ((5 : Int32) < 0 ∨ 6 ≤ Int32.toNatClampNeg 5))) dL_law_302 ?_
        have hPc := hP.sub (ws' := [(am, .inr (12, MF ad 0 0 0 (-1) 0 0 0 0 0 0 0 0 0 0 0 0 0 0 0 0 0)), ((ad 0), .inl (cB, 1620, .inl ft))]) [27, 37] rfl
        have hDc := hD.sub (ws' := [(am, .inr (12, MF ad 0 0 0 (-1) 0 0 0 0 0 0 0 0 0 0 0 0 0 0 0 0 0)), ((ad 0), .inl (cB, 1620, .inl ft))]) [27, 37] (by decide) rfl
        have hFc := va_free (wc := [(am, .inr (12, MF ad 0 0 0 (-1) 0 0 0 0 0 0 0 0 0 0 0 0 0 0 0 0 0)), ((ad 0), .inl (cB, 1620, .inl ft))]) hD hS hA [27, 37] rfl
        refine va_calli (va_runV (As := [.int (xs (Int32.toNatClampNeg 1)), .int (xs (Int32.toNatClampNeg 2)), .int (xs (Int32.toNatClampNeg 3)), .int (xs (Int32.toNatClampNeg 4)), .int (xs (Int32.toNatClampNeg 5))]) (rest := [.int 20]) ⟨hx, hb, hml, hown, hts⟩ (m_feed l D cI cB cL cZ am ad 0 0 0 0 0 0 0 0 0 0 0 0 ft (xs (Int32.toNatClampNeg 1)) (xs (Int32.toNatClampNeg 2)) (xs (Int32.toNatClampNeg 3)) (xs (Int32.toNatClampNeg 4)) (xs (Int32.toNatClampNeg 5)) H.size) (cwV 5 hts gL_law_X12_feed rfl rfl rfl (by decide +kernel) ⟨Nat.le_of_ble_eq_true rfl, Nat.le_of_ble_eq_true rfl⟩) ⟨xp_blind, va_recv hK hPc (ci := 12) (q0 := 0) rfl rfl, fun U hU hW => xp_mk hU hW hPc (hK.sub (tys' := [(cI, .int), (cB, .byte), (cL, .long), (cZ, .boolean)]) [0, 1, 2, 3] rfl) hDc xNw_nil⟩ rfl rfl hl.1 rfl (lv_room (Nat.le_of_ble_eq_true rfl)) dL_law_303 ⟨Nat.le_of_ble_eq_true rfl, Nat.le_of_ble_eq_true rfl⟩) hS (fun q _ h => hFc q h) hFc (fun r_33 u9 t9 H1 locs ht9 hvm9 hr_33 hB9 hz9 hk9 hS => ?_)
        clear hB9 hz9 hPc hDc
        obtain ⟨hP, hD⟩ := va_join (wr := [(aP, .inr (5, PF pz su)), (su, .inr (1, [.ref s0, .ref s1, .ref s2, .int 0, .int 0, .int 0])), (aD, .inr (5, PF pq sq)), (sq, .inr (1, [.ref z0, .ref z1, .ref z2, .int 0, .int 0, .int 0])), (aR, .inr (6, [.ref rt, .ref aD, .int 0, .int (-1)])), (rt, .inr (9, [.ref aT, .ref to, .int 0, .int 0, .int 0, .long 0, .int 0])), (aF, .inr (0, [.ref aP, .ref fx, .ref fr, .ref fe, .int 0])), (fx, .inl (cI, 8, .inl fxf)), (fr, .inl (cI, 64, .inl frf)), (aU, .inr (7, [.ref aF, .ref ul, .int 0, .ref uc, .ref ue])), (aM, .inr (3, [.ref aF, .ref mo, .ref ma, .ref mk, .int 0, .int 0, .int 0, .ref mb, .ref mf])), (mo, .inl (cI, 32, .inl fn)), (mk, .inl (cG, 41, .inr (.inr (.inr (.inr kr))))), (r0, .inl (cI, 32, .inl w0)), (r1, .inl (cI, 32, .inl w1)), (mb, .inl (cG, 3, .inr (.inr (.inr (.inr br))))), (b0, .inl (cI, 32, .inl u0)), (b1, .inl (cI, 32, .inl u1)), (b2, .inl (cI, 32, .inl u2)), (mf, .inl (cZ, 3, .inl ff)), (aW, .inr (10, [.ref aM])), (aN, .inr (4, [.ref aF, .int 0, .int 0, .ref n3, .ref n4, .ref n5, .ref n6, .ref n7, .ref n8, .ref n9])), (n3, .inl (cI, 30, .inl g3)), (n4, .inl (cI, 30, .inl g4)), (n5, .inl (cI, 30, .inl g5)), (n6, .inl (cI, 30, .inl g6)), (n7, .inl (cI, 8, .inl fo7)), ((ad 11), .inl (cI, 2, .inl fR)), ((ad 12), .inl (cI, 2, .inl fD)), ((ad 13), .inl (cI, 2, .inl fT)), ((ad 14), .inl (cI, 2, .inl fU)), ((ad 15), .inl (cI, 2, .inl fW)), ((ad 26), .inl (cZ, 2, .inl fS)), ((ad 27), .inl (cZ, 2, .inl fX)), ((ad 42), .inl (cI, 32, .inl fA)), ((ad 70), .inl (cZ, 3, .inl fB)), ((ad 59), .inl (cI, 30, .inl t0)), ((ad 60), .inl (cI, 30, .inl t1)), ((ad 61), .inl (cI, 30, .inl t2)), ((ad 62), .inl (cI, 30, .inl t3)), ((ad 63), .inl (cI, 30, .inl t4)), ((ad 64), .inl (cI, 30, .inl t5)), ((ad 57), .inl (cI, 64, .inl fk)), ((ad 45), .inl (cI, 1312, .inl fw)), ((ad 69), .inl (cI, 96, .inl fbm))]) (w1 := []) hP hD [27, 37] [0, 1, 2, 3, 4, 5, 6, 7, 8, 9, 10, 11, 12, 13, 14, 15, 16, 17, 18, 19, 20, 21, 22, 23, 24, 25, 26, 28, 29, 30, 31, 32, 33, 34, 35, 36, 38, 39, 40, 41, 42, 43, 44, 45, 46] rfl rfl (by decide) (by decide) hk9 hFc (fun k q h => by simp at h) ⟨fun i j p q h => by simp at h, fun k q h => by simp at h⟩
        clear hk9 hFc ht9 hvm9
        generalize H1 = H at hP hS ⊢
        replace hP : va_P D classes [(aP, .inr (5, PF pz su)), (su, .inr (1, [.ref s0, .ref s1, .ref s2, .int 0, .int 0, .int 0])), (aD, .inr (5, PF pq sq)), (sq, .inr (1, [.ref z0, .ref z1, .ref z2, .int 0, .int 0, .int 0])), (aR, .inr (6, [.ref rt, .ref aD, .int 0, .int (-1)])), (rt, .inr (9, [.ref aT, .ref to, .int 0, .int 0, .int 0, .long 0, .int 0])), (aF, .inr (0, [.ref aP, .ref fx, .ref fr, .ref fe, .int 0])), (fx, .inl (cI, 8, .inl fxf)), (fr, .inl (cI, 64, .inl frf)), (aU, .inr (7, [.ref aF, .ref ul, .int 0, .ref uc, .ref ue])), (aM, .inr (3, [.ref aF, .ref mo, .ref ma, .ref mk, .int 0, .int 0, .int 0, .ref mb, .ref mf])), (mo, .inl (cI, 32, .inl fn)), (mk, .inl (cG, 41, .inr (.inr (.inr (.inr kr))))), (r0, .inl (cI, 32, .inl w0)), (r1, .inl (cI, 32, .inl w1)), (mb, .inl (cG, 3, .inr (.inr (.inr (.inr br))))), (b0, .inl (cI, 32, .inl u0)), (b1, .inl (cI, 32, .inl u1)), (b2, .inl (cI, 32, .inl u2)), (mf, .inl (cZ, 3, .inl ff)), (aW, .inr (10, [.ref aM])), (aN, .inr (4, [.ref aF, .int 0, .int 0, .ref n3, .ref n4, .ref n5, .ref n6, .ref n7, .ref n8, .ref n9])), (n3, .inl (cI, 30, .inl g3)), (n4, .inl (cI, 30, .inl g4)), (n5, .inl (cI, 30, .inl g5)), (n6, .inl (cI, 30, .inl g6)), (n7, .inl (cI, 8, .inl fo7)), ((ad 11), .inl (cI, 2, .inl fR)), ((ad 12), .inl (cI, 2, .inl fD)), ((ad 13), .inl (cI, 2, .inl fT)), ((ad 14), .inl (cI, 2, .inl fU)), ((ad 15), .inl (cI, 2, .inl fW)), ((ad 26), .inl (cZ, 2, .inl fS)), ((ad 27), .inl (cZ, 2, .inl fX)), ((ad 42), .inl (cI, 32, .inl fA)), ((ad 70), .inl (cZ, 3, .inl fB)), ((ad 59), .inl (cI, 30, .inl t0)), ((ad 60), .inl (cI, 30, .inl t1)), ((ad 61), .inl (cI, 30, .inl t2)), ((ad 62), .inl (cI, 30, .inl t3)), ((ad 63), .inl (cI, 30, .inl t4)), ((ad 64), .inl (cI, 30, .inl t5)), ((ad 57), .inl (cI, 64, .inl fk)), ((ad 45), .inl (cI, 1312, .inl fw)), ((ad 69), .inl (cI, 96, .inl fbm))] H := hP
        replace hD : va_D A [(aP, .inr (5, PF pz su)), (su, .inr (1, [.ref s0, .ref s1, .ref s2, .int 0, .int 0, .int 0])), (aD, .inr (5, PF pq sq)), (sq, .inr (1, [.ref z0, .ref z1, .ref z2, .int 0, .int 0, .int 0])), (aR, .inr (6, [.ref rt, .ref aD, .int 0, .int (-1)])), (rt, .inr (9, [.ref aT, .ref to, .int 0, .int 0, .int 0, .long 0, .int 0])), (aF, .inr (0, [.ref aP, .ref fx, .ref fr, .ref fe, .int 0])), (fx, .inl (cI, 8, .inl fxf)), (fr, .inl (cI, 64, .inl frf)), (aU, .inr (7, [.ref aF, .ref ul, .int 0, .ref uc, .ref ue])), (aM, .inr (3, [.ref aF, .ref mo, .ref ma, .ref mk, .int 0, .int 0, .int 0, .ref mb, .ref mf])), (mo, .inl (cI, 32, .inl fn)), (mk, .inl (cG, 41, .inr (.inr (.inr (.inr kr))))), (r0, .inl (cI, 32, .inl w0)), (r1, .inl (cI, 32, .inl w1)), (mb, .inl (cG, 3, .inr (.inr (.inr (.inr br))))), (b0, .inl (cI, 32, .inl u0)), (b1, .inl (cI, 32, .inl u1)), (b2, .inl (cI, 32, .inl u2)), (mf, .inl (cZ, 3, .inl ff)), (aW, .inr (10, [.ref aM])), (aN, .inr (4, [.ref aF, .int 0, .int 0, .ref n3, .ref n4, .ref n5, .ref n6, .ref n7, .ref n8, .ref n9])), (n3, .inl (cI, 30, .inl g3)), (n4, .inl (cI, 30, .inl g4)), (n5, .inl (cI, 30, .inl g5)), (n6, .inl (cI, 30, .inl g6)), (n7, .inl (cI, 8, .inl fo7)), ((ad 11), .inl (cI, 2, .inl fR)), ((ad 12), .inl (cI, 2, .inl fD)), ((ad 13), .inl (cI, 2, .inl fT)), ((ad 14), .inl (cI, 2, .inl fU)), ((ad 15), .inl (cI, 2, .inl fW)), ((ad 26), .inl (cZ, 2, .inl fS)), ((ad 27), .inl (cZ, 2, .inl fX)), ((ad 42), .inl (cI, 32, .inl fA)), ((ad 70), .inl (cZ, 3, .inl fB)), ((ad 59), .inl (cI, 30, .inl t0)), ((ad 60), .inl (cI, 30, .inl t1)), ((ad 61), .inl (cI, 30, .inl t2)), ((ad 62), .inl (cI, 30, .inl t3)), ((ad 63), .inl (cI, 30, .inl t4)), ((ad 64), .inl (cI, 30, .inl t5)), ((ad 57), .inl (cI, 64, .inl fk)), ((ad 45), .inl (cI, 1312, .inl fw)), ((ad 69), .inl (cI, 96, .inl fbm))] := hD
        subst hr_33
        refine lv_icmp_eq (tgt := 1570) hx hb dL_law_306 (by decide) (fun _ => ?_) (fun c_34 => absurd (by decide) c_34)
        refine lv_iinc (v := 6) (lv' := [(3, .int 6), (2, .ref am), (1, .ref a0), (0, .ref b)]) hx hb dL_law_1570 hl (k := 0) rfl (by decide) (by decide) rfl (fun ls hl => ?_)
        refine lv_goto (tgt := 18) hx hb dL_law_1573 (by decide) ?_
        refine lv_iload_n hx hb dL_law_18 rfl (lv_at hl 0 rfl) ?_
        refine lv_aload_n hx hb dL_law_19 rfl (lv_at hl 3 rfl) ?_
        refine va_slen hx hb hX hbl hbA hS dL_law_20 ?_
        refine lv_topi (fun y_35 ey_35 => ?_)
        obtain rfl : y_35 = 6 := ey_35.trans (by decide)
        refine lv_bipush (v := 6) hx hb dL_law_21 (by decide) ?_
        refine lv_isub hx hb dL_law_23 ?_
        refine lv_topi (fun y_36 ey_36 => ?_)
        obtain rfl : y_36 = 0 := ey_36.trans (by decide)
        refine lv_icmp_gt (tgt := 1576) hx hb dL_law_24 (by decide) (fun _ => ?_) (fun c_37 => absurd (by decide) c_37)
        refine lv_iconst (v := 1) hx hb dL_law_1576 (by decide) ?_
        refine va_forget (fun q hq => by have h := hS.2.2 q hq; rw [hAe] at h; exact h) ?_
        refine W.widen (k := 600000) (n := 7302250) (Nat.le_of_ble_eq_true rfl) (Nat.le_of_ble_eq_true rfl) ?_
        exact lw_ret hx hb hr hlocks dL_law_1577
      · refine lv_tableIn (off := 278) (tgt := 311) hx hb dL_law_33 (by decide) (by decide) (by decide) (by decide) ?_
        refine lv_aload_n hx hb dL_law_311 rfl (lv_at hl 2 rfl) ?_
        refine lv_aload_n hx hb dL_law_312 rfl (lv_at hl 3 rfl) ?_
        refine lv_iload_n hx hb dL_law_313 rfl (lv_at hl 0 rfl) ?_
        refine lv_iconst (v := 1) hx hb dL_law_314 (by decide) ?_
        refine lv_iadd hx hb dL_law_315 ?_
        refine lv_topi (fun y_38 ey_38 => ?_)
        obtain rfl : y_38 = 1 := ey_38.trans (by decide)
        refine va_sld hx hb hX hbl hbA hS (show vp_in 1 6 from (by decide : ¬ ((1 : Int32) < 0 ∨ 6 ≤ Int32.toNatClampNeg 1))) dL_law_316 ?_
        have hPc := hP.sub (ws' := [(a0, .inr (11, [.ref aP, .ref aD, .ref aT, .ref aR, .ref aF, .ref aU, .ref aH, .ref aM, .ref aW, .ref aN])), (aT, .inr (8, [.ref tb, .int 0]))]) [0, 5] rfl
        have hDc := hD.sub (ws' := [(a0, .inr (11, [.ref aP, .ref aD, .ref aT, .ref aR, .ref aF, .ref aU, .ref aH, .ref aM, .ref aW, .ref aN])), (aT, .inr (8, [.ref tb, .int 0]))]) [0, 5] (by decide) rfl
        have hFc := va_free (wc := [(a0, .inr (11, [.ref aP, .ref aD, .ref aT, .ref aR, .ref aF, .ref aU, .ref aH, .ref aM, .ref aW, .ref aN])), (aT, .inr (8, [.ref tb, .int 0]))]) hD hS hA [0, 5] rfl
        refine va_calli (va_runV (As := [.int (xs (Int32.toNatClampNeg 1))]) (rest := []) ⟨hx, hb, hml, hown, hts⟩ (c_end l D cI cB cL cZ a0 aP aD aT aR aF aU aH aM aW aN tb (xs (Int32.toNatClampNeg 1)) H.size) (cwV 1 hts gL_law_X11_end rfl rfl rfl (by decide +kernel) ⟨Nat.le_of_ble_eq_true rfl, Nat.le_of_ble_eq_true rfl⟩) ⟨xp_blind, va_recv hK hPc (ci := 11) (q0 := 0) rfl rfl, fun U hU hW => xp_mk hU hW hPc (hK.sub (tys' := [(cI, .int), (cB, .byte), (cL, .long), (cZ, .boolean)]) [0, 1, 2, 3] rfl) hDc xNw_nil⟩ rfl rfl hl.1 rfl (lv_room (Nat.le_of_ble_eq_true rfl)) dL_law_317 ⟨Nat.le_of_ble_eq_true rfl, Nat.le_of_ble_eq_true rfl⟩) hS (fun q _ h => hFc q h) hFc (fun r_39 u9 t9 H1 locs ht9 hvm9 hr_39 hB9 hz9 hk9 hS => ?_)
        clear hB9 hz9 hPc hDc
        obtain ⟨hP, hD⟩ := va_join (wr := [(aP, .inr (5, PF pz su)), (su, .inr (1, [.ref s0, .ref s1, .ref s2, .int 0, .int 0, .int 0])), (aD, .inr (5, PF pq sq)), (sq, .inr (1, [.ref z0, .ref z1, .ref z2, .int 0, .int 0, .int 0])), (tb, .inl (cB, 1600, .inl fb)), (aR, .inr (6, [.ref rt, .ref aD, .int 0, .int (-1)])), (rt, .inr (9, [.ref aT, .ref to, .int 0, .int 0, .int 0, .long 0, .int 0])), (aF, .inr (0, [.ref aP, .ref fx, .ref fr, .ref fe, .int 0])), (fx, .inl (cI, 8, .inl fxf)), (fr, .inl (cI, 64, .inl frf)), (aU, .inr (7, [.ref aF, .ref ul, .int 0, .ref uc, .ref ue])), (aM, .inr (3, [.ref aF, .ref mo, .ref ma, .ref mk, .int 0, .int 0, .int 0, .ref mb, .ref mf])), (mo, .inl (cI, 32, .inl fn)), (mk, .inl (cG, 41, .inr (.inr (.inr (.inr kr))))), (r0, .inl (cI, 32, .inl w0)), (r1, .inl (cI, 32, .inl w1)), (mb, .inl (cG, 3, .inr (.inr (.inr (.inr br))))), (b0, .inl (cI, 32, .inl u0)), (b1, .inl (cI, 32, .inl u1)), (b2, .inl (cI, 32, .inl u2)), (mf, .inl (cZ, 3, .inl ff)), (aW, .inr (10, [.ref aM])), (aN, .inr (4, [.ref aF, .int 0, .int 0, .ref n3, .ref n4, .ref n5, .ref n6, .ref n7, .ref n8, .ref n9])), (n3, .inl (cI, 30, .inl g3)), (n4, .inl (cI, 30, .inl g4)), (n5, .inl (cI, 30, .inl g5)), (n6, .inl (cI, 30, .inl g6)), (n7, .inl (cI, 8, .inl fo7)), (am, .inr (12, MF ad 0 0 0 (-1) 0 0 0 0 0 0 0 0 0 0 0 0 0 0 0 0 0)), ((ad 11), .inl (cI, 2, .inl fR)), ((ad 12), .inl (cI, 2, .inl fD)), ((ad 13), .inl (cI, 2, .inl fT)), ((ad 14), .inl (cI, 2, .inl fU)), ((ad 15), .inl (cI, 2, .inl fW)), ((ad 26), .inl (cZ, 2, .inl fS)), ((ad 27), .inl (cZ, 2, .inl fX)), ((ad 42), .inl (cI, 32, .inl fA)), ((ad 70), .inl (cZ, 3, .inl fB)), ((ad 0), .inl (cB, 1620, .inl ft)), ((ad 59), .inl (cI, 30, .inl t0)), ((ad 60), .inl (cI, 30, .inl t1)), ((ad 61), .inl (cI, 30, .inl t2)), ((ad 62), .inl (cI, 30, .inl t3)), ((ad 63), .inl (cI, 30, .inl t4)), ((ad 64), .inl (cI, 30, .inl t5)), ((ad 57), .inl (cI, 64, .inl fk)), ((ad 45), .inl (cI, 1312, .inl fw)), ((ad 69), .inl (cI, 96, .inl fbm))]) (w1 := []) hP hD [0, 5] [1, 2, 3, 4, 6, 7, 8, 9, 10, 11, 12, 13, 14, 15, 16, 17, 18, 19, 20, 21, 22, 23, 24, 25, 26, 27, 28, 29, 30, 31, 32, 33, 34, 35, 36, 37, 38, 39, 40, 41, 42, 43, 44, 45, 46, 47, 48, 49] rfl rfl (by decide) (by decide) hk9 hFc (fun k q h => by simp at h) ⟨fun i j p q h => by simp at h, fun k q h => by simp at h⟩
        clear hk9 hFc ht9 hvm9
        generalize H1 = H at hP hS ⊢
        replace hP : va_P D classes [(aP, .inr (5, PF pz su)), (su, .inr (1, [.ref s0, .ref s1, .ref s2, .int 0, .int 0, .int 0])), (aD, .inr (5, PF pq sq)), (sq, .inr (1, [.ref z0, .ref z1, .ref z2, .int 0, .int 0, .int 0])), (tb, .inl (cB, 1600, .inl fb)), (aR, .inr (6, [.ref rt, .ref aD, .int 0, .int (-1)])), (rt, .inr (9, [.ref aT, .ref to, .int 0, .int 0, .int 0, .long 0, .int 0])), (aF, .inr (0, [.ref aP, .ref fx, .ref fr, .ref fe, .int 0])), (fx, .inl (cI, 8, .inl fxf)), (fr, .inl (cI, 64, .inl frf)), (aU, .inr (7, [.ref aF, .ref ul, .int 0, .ref uc, .ref ue])), (aM, .inr (3, [.ref aF, .ref mo, .ref ma, .ref mk, .int 0, .int 0, .int 0, .ref mb, .ref mf])), (mo, .inl (cI, 32, .inl fn)), (mk, .inl (cG, 41, .inr (.inr (.inr (.inr kr))))), (r0, .inl (cI, 32, .inl w0)), (r1, .inl (cI, 32, .inl w1)), (mb, .inl (cG, 3, .inr (.inr (.inr (.inr br))))), (b0, .inl (cI, 32, .inl u0)), (b1, .inl (cI, 32, .inl u1)), (b2, .inl (cI, 32, .inl u2)), (mf, .inl (cZ, 3, .inl ff)), (aW, .inr (10, [.ref aM])), (aN, .inr (4, [.ref aF, .int 0, .int 0, .ref n3, .ref n4, .ref n5, .ref n6, .ref n7, .ref n8, .ref n9])), (n3, .inl (cI, 30, .inl g3)), (n4, .inl (cI, 30, .inl g4)), (n5, .inl (cI, 30, .inl g5)), (n6, .inl (cI, 30, .inl g6)), (n7, .inl (cI, 8, .inl fo7)), (am, .inr (12, MF ad 0 0 0 (-1) 0 0 0 0 0 0 0 0 0 0 0 0 0 0 0 0 0)), ((ad 11), .inl (cI, 2, .inl fR)), ((ad 12), .inl (cI, 2, .inl fD)), ((ad 13), .inl (cI, 2, .inl fT)), ((ad 14), .inl (cI, 2, .inl fU)), ((ad 15), .inl (cI, 2, .inl fW)), ((ad 26), .inl (cZ, 2, .inl fS)), ((ad 27), .inl (cZ, 2, .inl fX)), ((ad 42), .inl (cI, 32, .inl fA)), ((ad 70), .inl (cZ, 3, .inl fB)), ((ad 0), .inl (cB, 1620, .inl ft)), ((ad 59), .inl (cI, 30, .inl t0)), ((ad 60), .inl (cI, 30, .inl t1)), ((ad 61), .inl (cI, 30, .inl t2)), ((ad 62), .inl (cI, 30, .inl t3)), ((ad 63), .inl (cI, 30, .inl t4)), ((ad 64), .inl (cI, 30, .inl t5)), ((ad 57), .inl (cI, 64, .inl fk)), ((ad 45), .inl (cI, 1312, .inl fw)), ((ad 69), .inl (cI, 96, .inl fbm))] H := hP
        replace hD : va_D A [(aP, .inr (5, PF pz su)), (su, .inr (1, [.ref s0, .ref s1, .ref s2, .int 0, .int 0, .int 0])), (aD, .inr (5, PF pq sq)), (sq, .inr (1, [.ref z0, .ref z1, .ref z2, .int 0, .int 0, .int 0])), (tb, .inl (cB, 1600, .inl fb)), (aR, .inr (6, [.ref rt, .ref aD, .int 0, .int (-1)])), (rt, .inr (9, [.ref aT, .ref to, .int 0, .int 0, .int 0, .long 0, .int 0])), (aF, .inr (0, [.ref aP, .ref fx, .ref fr, .ref fe, .int 0])), (fx, .inl (cI, 8, .inl fxf)), (fr, .inl (cI, 64, .inl frf)), (aU, .inr (7, [.ref aF, .ref ul, .int 0, .ref uc, .ref ue])), (aM, .inr (3, [.ref aF, .ref mo, .ref ma, .ref mk, .int 0, .int 0, .int 0, .ref mb, .ref mf])), (mo, .inl (cI, 32, .inl fn)), (mk, .inl (cG, 41, .inr (.inr (.inr (.inr kr))))), (r0, .inl (cI, 32, .inl w0)), (r1, .inl (cI, 32, .inl w1)), (mb, .inl (cG, 3, .inr (.inr (.inr (.inr br))))), (b0, .inl (cI, 32, .inl u0)), (b1, .inl (cI, 32, .inl u1)), (b2, .inl (cI, 32, .inl u2)), (mf, .inl (cZ, 3, .inl ff)), (aW, .inr (10, [.ref aM])), (aN, .inr (4, [.ref aF, .int 0, .int 0, .ref n3, .ref n4, .ref n5, .ref n6, .ref n7, .ref n8, .ref n9])), (n3, .inl (cI, 30, .inl g3)), (n4, .inl (cI, 30, .inl g4)), (n5, .inl (cI, 30, .inl g5)), (n6, .inl (cI, 30, .inl g6)), (n7, .inl (cI, 8, .inl fo7)), (am, .inr (12, MF ad 0 0 0 (-1) 0 0 0 0 0 0 0 0 0 0 0 0 0 0 0 0 0)), ((ad 11), .inl (cI, 2, .inl fR)), ((ad 12), .inl (cI, 2, .inl fD)), ((ad 13), .inl (cI, 2, .inl fT)), ((ad 14), .inl (cI, 2, .inl fU)), ((ad 15), .inl (cI, 2, .inl fW)), ((ad 26), .inl (cZ, 2, .inl fS)), ((ad 27), .inl (cZ, 2, .inl fX)), ((ad 42), .inl (cI, 32, .inl fA)), ((ad 70), .inl (cZ, 3, .inl fB)), ((ad 0), .inl (cB, 1620, .inl ft)), ((ad 59), .inl (cI, 30, .inl t0)), ((ad 60), .inl (cI, 30, .inl t1)), ((ad 61), .inl (cI, 30, .inl t2)), ((ad 62), .inl (cI, 30, .inl t3)), ((ad 63), .inl (cI, 30, .inl t4)), ((ad 64), .inl (cI, 30, .inl t5)), ((ad 57), .inl (cI, 64, .inl fk)), ((ad 45), .inl (cI, 1312, .inl fw)), ((ad 69), .inl (cI, 96, .inl fbm))] := hD
        subst hr_39
        refine lv_aload_n hx hb dL_law_320 rfl (lv_at hl 1 rfl) ?_
        refine lv_aload_n hx hb dL_law_321 rfl (lv_at hl 3 rfl) ?_
        refine lv_iload_n hx hb dL_law_322 rfl (lv_at hl 0 rfl) ?_
        refine lv_iconst (v := 1) hx hb dL_law_323 (by decide) ?_
        refine lv_iadd hx hb dL_law_324 ?_
        refine lv_topi (fun y_40 ey_40 => ?_)
        obtain rfl : y_40 = 1 := ey_40.trans (by decide)
        refine va_sld hx hb hX hbl hbA hS (show vp_in 1 6 from (by decide : ¬ ((1 : Int32) < 0 ∨ 6 ≤ Int32.toNatClampNeg 1))) dL_law_325 ?_
        have hPc := hP.sub (ws' := [(am, .inr (12, MF ad 0 0 0 (-1) 0 0 0 0 0 0 0 0 0 0 0 0 0 0 0 0 0))]) [28] rfl
        have hDc := hD.sub (ws' := [(am, .inr (12, MF ad 0 0 0 (-1) 0 0 0 0 0 0 0 0 0 0 0 0 0 0 0 0 0))]) [28] (by decide) rfl
        have hFc := va_free (wc := [(am, .inr (12, MF ad 0 0 0 (-1) 0 0 0 0 0 0 0 0 0 0 0 0 0 0 0 0 0))]) hD hS hA [28] rfl
        refine va_calli (va_runV (As := [.int (xs (Int32.toNatClampNeg 1))]) (rest := [.int (sp_nul xs (Int32.toNatClampNeg 1))]) ⟨hx, hb, hml, hown, hts⟩ (m_end l D cI cB cL cZ am ad 0 0 0 0 0 0 0 0 0 0 0 0 (xs (Int32.toNatClampNeg 1)) H.size) (cwV 1 hts gL_law_X12_end rfl rfl rfl (by decide +kernel) ⟨Nat.le_of_ble_eq_true rfl, Nat.le_of_ble_eq_true rfl⟩) ⟨xp_blind, va_recv hK hPc (ci := 12) (q0 := 0) rfl rfl, fun U hU hW => xp_mk hU hW hPc (hK.sub (tys' := [(cI, .int), (cB, .byte), (cL, .long), (cZ, .boolean)]) [0, 1, 2, 3] rfl) hDc xNw_nil⟩ rfl rfl hl.1 rfl (lv_room (Nat.le_of_ble_eq_true rfl)) dL_law_326 ⟨Nat.le_of_ble_eq_true rfl, Nat.le_of_ble_eq_true rfl⟩) hS (fun q _ h => hFc q h) hFc (fun r_41 u9 t9 H1 locs ht9 hvm9 hr_41 hB9 hz9 hk9 hS => ?_)
        clear hB9 hz9 hPc hDc
        obtain ⟨hP, hD⟩ := va_join (wr := [(aP, .inr (5, PF pz su)), (su, .inr (1, [.ref s0, .ref s1, .ref s2, .int 0, .int 0, .int 0])), (aD, .inr (5, PF pq sq)), (sq, .inr (1, [.ref z0, .ref z1, .ref z2, .int 0, .int 0, .int 0])), (tb, .inl (cB, 1600, .inl fb)), (aR, .inr (6, [.ref rt, .ref aD, .int 0, .int (-1)])), (rt, .inr (9, [.ref aT, .ref to, .int 0, .int 0, .int 0, .long 0, .int 0])), (aF, .inr (0, [.ref aP, .ref fx, .ref fr, .ref fe, .int 0])), (fx, .inl (cI, 8, .inl fxf)), (fr, .inl (cI, 64, .inl frf)), (aU, .inr (7, [.ref aF, .ref ul, .int 0, .ref uc, .ref ue])), (aM, .inr (3, [.ref aF, .ref mo, .ref ma, .ref mk, .int 0, .int 0, .int 0, .ref mb, .ref mf])), (mo, .inl (cI, 32, .inl fn)), (mk, .inl (cG, 41, .inr (.inr (.inr (.inr kr))))), (r0, .inl (cI, 32, .inl w0)), (r1, .inl (cI, 32, .inl w1)), (mb, .inl (cG, 3, .inr (.inr (.inr (.inr br))))), (b0, .inl (cI, 32, .inl u0)), (b1, .inl (cI, 32, .inl u1)), (b2, .inl (cI, 32, .inl u2)), (mf, .inl (cZ, 3, .inl ff)), (aW, .inr (10, [.ref aM])), (aN, .inr (4, [.ref aF, .int 0, .int 0, .ref n3, .ref n4, .ref n5, .ref n6, .ref n7, .ref n8, .ref n9])), (n3, .inl (cI, 30, .inl g3)), (n4, .inl (cI, 30, .inl g4)), (n5, .inl (cI, 30, .inl g5)), (n6, .inl (cI, 30, .inl g6)), (n7, .inl (cI, 8, .inl fo7)), ((ad 11), .inl (cI, 2, .inl fR)), ((ad 12), .inl (cI, 2, .inl fD)), ((ad 13), .inl (cI, 2, .inl fT)), ((ad 14), .inl (cI, 2, .inl fU)), ((ad 15), .inl (cI, 2, .inl fW)), ((ad 26), .inl (cZ, 2, .inl fS)), ((ad 27), .inl (cZ, 2, .inl fX)), ((ad 42), .inl (cI, 32, .inl fA)), ((ad 70), .inl (cZ, 3, .inl fB)), ((ad 0), .inl (cB, 1620, .inl ft)), ((ad 59), .inl (cI, 30, .inl t0)), ((ad 60), .inl (cI, 30, .inl t1)), ((ad 61), .inl (cI, 30, .inl t2)), ((ad 62), .inl (cI, 30, .inl t3)), ((ad 63), .inl (cI, 30, .inl t4)), ((ad 64), .inl (cI, 30, .inl t5)), ((ad 57), .inl (cI, 64, .inl fk)), ((ad 45), .inl (cI, 1312, .inl fw)), ((ad 69), .inl (cI, 96, .inl fbm))]) (w1 := []) hP hD [28] [0, 1, 2, 3, 4, 5, 6, 7, 8, 9, 10, 11, 12, 13, 14, 15, 16, 17, 18, 19, 20, 21, 22, 23, 24, 25, 26, 27, 29, 30, 31, 32, 33, 34, 35, 36, 37, 38, 39, 40, 41, 42, 43, 44, 45, 46, 47] rfl rfl (by decide) (by decide) hk9 hFc (fun k q h => by simp at h) ⟨fun i j p q h => by simp at h, fun k q h => by simp at h⟩
        clear hk9 hFc ht9 hvm9
        generalize H1 = H at hP hS ⊢
        replace hP : va_P D classes [(aP, .inr (5, PF pz su)), (su, .inr (1, [.ref s0, .ref s1, .ref s2, .int 0, .int 0, .int 0])), (aD, .inr (5, PF pq sq)), (sq, .inr (1, [.ref z0, .ref z1, .ref z2, .int 0, .int 0, .int 0])), (tb, .inl (cB, 1600, .inl fb)), (aR, .inr (6, [.ref rt, .ref aD, .int 0, .int (-1)])), (rt, .inr (9, [.ref aT, .ref to, .int 0, .int 0, .int 0, .long 0, .int 0])), (aF, .inr (0, [.ref aP, .ref fx, .ref fr, .ref fe, .int 0])), (fx, .inl (cI, 8, .inl fxf)), (fr, .inl (cI, 64, .inl frf)), (aU, .inr (7, [.ref aF, .ref ul, .int 0, .ref uc, .ref ue])), (aM, .inr (3, [.ref aF, .ref mo, .ref ma, .ref mk, .int 0, .int 0, .int 0, .ref mb, .ref mf])), (mo, .inl (cI, 32, .inl fn)), (mk, .inl (cG, 41, .inr (.inr (.inr (.inr kr))))), (r0, .inl (cI, 32, .inl w0)), (r1, .inl (cI, 32, .inl w1)), (mb, .inl (cG, 3, .inr (.inr (.inr (.inr br))))), (b0, .inl (cI, 32, .inl u0)), (b1, .inl (cI, 32, .inl u1)), (b2, .inl (cI, 32, .inl u2)), (mf, .inl (cZ, 3, .inl ff)), (aW, .inr (10, [.ref aM])), (aN, .inr (4, [.ref aF, .int 0, .int 0, .ref n3, .ref n4, .ref n5, .ref n6, .ref n7, .ref n8, .ref n9])), (n3, .inl (cI, 30, .inl g3)), (n4, .inl (cI, 30, .inl g4)), (n5, .inl (cI, 30, .inl g5)), (n6, .inl (cI, 30, .inl g6)), (n7, .inl (cI, 8, .inl fo7)), ((ad 11), .inl (cI, 2, .inl fR)), ((ad 12), .inl (cI, 2, .inl fD)), ((ad 13), .inl (cI, 2, .inl fT)), ((ad 14), .inl (cI, 2, .inl fU)), ((ad 15), .inl (cI, 2, .inl fW)), ((ad 26), .inl (cZ, 2, .inl fS)), ((ad 27), .inl (cZ, 2, .inl fX)), ((ad 42), .inl (cI, 32, .inl fA)), ((ad 70), .inl (cZ, 3, .inl fB)), ((ad 0), .inl (cB, 1620, .inl ft)), ((ad 59), .inl (cI, 30, .inl t0)), ((ad 60), .inl (cI, 30, .inl t1)), ((ad 61), .inl (cI, 30, .inl t2)), ((ad 62), .inl (cI, 30, .inl t3)), ((ad 63), .inl (cI, 30, .inl t4)), ((ad 64), .inl (cI, 30, .inl t5)), ((ad 57), .inl (cI, 64, .inl fk)), ((ad 45), .inl (cI, 1312, .inl fw)), ((ad 69), .inl (cI, 96, .inl fbm))] H := hP
        replace hD : va_D A [(aP, .inr (5, PF pz su)), (su, .inr (1, [.ref s0, .ref s1, .ref s2, .int 0, .int 0, .int 0])), (aD, .inr (5, PF pq sq)), (sq, .inr (1, [.ref z0, .ref z1, .ref z2, .int 0, .int 0, .int 0])), (tb, .inl (cB, 1600, .inl fb)), (aR, .inr (6, [.ref rt, .ref aD, .int 0, .int (-1)])), (rt, .inr (9, [.ref aT, .ref to, .int 0, .int 0, .int 0, .long 0, .int 0])), (aF, .inr (0, [.ref aP, .ref fx, .ref fr, .ref fe, .int 0])), (fx, .inl (cI, 8, .inl fxf)), (fr, .inl (cI, 64, .inl frf)), (aU, .inr (7, [.ref aF, .ref ul, .int 0, .ref uc, .ref ue])), (aM, .inr (3, [.ref aF, .ref mo, .ref ma, .ref mk, .int 0, .int 0, .int 0, .ref mb, .ref mf])), (mo, .inl (cI, 32, .inl fn)), (mk, .inl (cG, 41, .inr (.inr (.inr (.inr kr))))), (r0, .inl (cI, 32, .inl w0)), (r1, .inl (cI, 32, .inl w1)), (mb, .inl (cG, 3, .inr (.inr (.inr (.inr br))))), (b0, .inl (cI, 32, .inl u0)), (b1, .inl (cI, 32, .inl u1)), (b2, .inl (cI, 32, .inl u2)), (mf, .inl (cZ, 3, .inl ff)), (aW, .inr (10, [.ref aM])), (aN, .inr (4, [.ref aF, .int 0, .int 0, .ref n3, .ref n4, .ref n5, .ref n6, .ref n7, .ref n8, .ref n9])), (n3, .inl (cI, 30, .inl g3)), (n4, .inl (cI, 30, .inl g4)), (n5, .inl (cI, 30, .inl g5)), (n6, .inl (cI, 30, .inl g6)), (n7, .inl (cI, 8, .inl fo7)), ((ad 11), .inl (cI, 2, .inl fR)), ((ad 12), .inl (cI, 2, .inl fD)), ((ad 13), .inl (cI, 2, .inl fT)), ((ad 14), .inl (cI, 2, .inl fU)), ((ad 15), .inl (cI, 2, .inl fW)), ((ad 26), .inl (cZ, 2, .inl fS)), ((ad 27), .inl (cZ, 2, .inl fX)), ((ad 42), .inl (cI, 32, .inl fA)), ((ad 70), .inl (cZ, 3, .inl fB)), ((ad 0), .inl (cB, 1620, .inl ft)), ((ad 59), .inl (cI, 30, .inl t0)), ((ad 60), .inl (cI, 30, .inl t1)), ((ad 61), .inl (cI, 30, .inl t2)), ((ad 62), .inl (cI, 30, .inl t3)), ((ad 63), .inl (cI, 30, .inl t4)), ((ad 64), .inl (cI, 30, .inl t5)), ((ad 57), .inl (cI, 64, .inl fk)), ((ad 45), .inl (cI, 1312, .inl fw)), ((ad 69), .inl (cI, 96, .inl fbm))] := hD
        subst hr_41
        refine lv_icmp_eq (tgt := 1570) hx hb dL_law_329 (by decide) (fun _ => ?_) (fun c9 => absurd rfl c9)
        refine lv_iinc (v := 6) (lv' := [(3, .int 6), (2, .ref am), (1, .ref a0), (0, .ref b)]) hx hb dL_law_1570 hl (k := 0) rfl (by decide) (by decide) rfl (fun ls hl => ?_)
        refine lv_goto (tgt := 18) hx hb dL_law_1573 (by decide) ?_
        refine lv_iload_n hx hb dL_law_18 rfl (lv_at hl 0 rfl) ?_
        refine lv_aload_n hx hb dL_law_19 rfl (lv_at hl 3 rfl) ?_
        refine va_slen hx hb hX hbl hbA hS dL_law_20 ?_
        refine lv_topi (fun y_42 ey_42 => ?_)
        obtain rfl : y_42 = 6 := ey_42.trans (by decide)
        refine lv_bipush (v := 6) hx hb dL_law_21 (by decide) ?_
        refine lv_isub hx hb dL_law_23 ?_
        refine lv_topi (fun y_43 ey_43 => ?_)
        obtain rfl : y_43 = 0 := ey_43.trans (by decide)
        refine lv_icmp_gt (tgt := 1576) hx hb dL_law_24 (by decide) (fun _ => ?_) (fun c_44 => absurd (by decide) c_44)
        refine lv_iconst (v := 1) hx hb dL_law_1576 (by decide) ?_
        refine va_forget (fun q hq => by have h := hS.2.2 q hq; rw [hAe] at h; exact h) ?_
        refine W.widen (k := 600000) (n := 7302250) (Nat.le_of_ble_eq_true rfl) (Nat.le_of_ble_eq_true rfl) ?_
        exact lw_ret hx hb hr hlocks dL_law_1577
      · refine lv_tableIn (off := 301) (tgt := 334) hx hb dL_law_33 (by decide) (by decide) (by decide) (by decide) ?_
        refine lv_aload_n hx hb dL_law_334 rfl (lv_at hl 2 rfl) ?_
        have hPc := hP.sub (ws' := [(a0, .inr (11, [.ref aP, .ref aD, .ref aT, .ref aR, .ref aF, .ref aU, .ref aH, .ref aM, .ref aW, .ref aN])), (aD, .inr (5, PF pq sq)), (sq, .inr (1, [.ref z0, .ref z1, .ref z2, .int 0, .int 0, .int 0])), (aR, .inr (6, [.ref rt, .ref aD, .int 0, .int (-1)])), (rt, .inr (9, [.ref aT, .ref to, .int 0, .int 0, .int 0, .long 0, .int 0])), (aT, .inr (8, [.ref tb, .int 0])), (aF, .inr (0, [.ref aP, .ref fx, .ref fr, .ref fe, .int 0])), (fx, .inl (cI, 8, .inl fxf)), (fr, .inl (cI, 64, .inl frf)), (aM, .inr (3, [.ref aF, .ref mo, .ref ma, .ref mk, .int 0, .int 0, .int 0, .ref mb, .ref mf])), (mo, .inl (cI, 32, .inl fn)), (mk, .inl (cG, 41, .inr (.inr (.inr (.inr kr))))), (r0, .inl (cI, 32, .inl w0)), (mf, .inl (cZ, 3, .inl ff)), (aN, .inr (4, [.ref aF, .int 0, .int 0, .ref n3, .ref n4, .ref n5, .ref n6, .ref n7, .ref n8, .ref n9])), (aU, .inr (7, [.ref aF, .ref ul, .int 0, .ref uc, .ref ue]))]) [0, 3, 4, 7, 8, 5, 9, 10, 11, 13, 14, 15, 16, 22, 24, 12] rfl
        have hDc := hD.sub (ws' := [(a0, .inr (11, [.ref aP, .ref aD, .ref aT, .ref aR, .ref aF, .ref aU, .ref aH, .ref aM, .ref aW, .ref aN])), (aD, .inr (5, PF pq sq)), (sq, .inr (1, [.ref z0, .ref z1, .ref z2, .int 0, .int 0, .int 0])), (aR, .inr (6, [.ref rt, .ref aD, .int 0, .int (-1)])), (rt, .inr (9, [.ref aT, .ref to, .int 0, .int 0, .int 0, .long 0, .int 0])), (aT, .inr (8, [.ref tb, .int 0])), (aF, .inr (0, [.ref aP, .ref fx, .ref fr, .ref fe, .int 0])), (fx, .inl (cI, 8, .inl fxf)), (fr, .inl (cI, 64, .inl frf)), (aM, .inr (3, [.ref aF, .ref mo, .ref ma, .ref mk, .int 0, .int 0, .int 0, .ref mb, .ref mf])), (mo, .inl (cI, 32, .inl fn)), (mk, .inl (cG, 41, .inr (.inr (.inr (.inr kr))))), (r0, .inl (cI, 32, .inl w0)), (mf, .inl (cZ, 3, .inl ff)), (aN, .inr (4, [.ref aF, .int 0, .int 0, .ref n3, .ref n4, .ref n5, .ref n6, .ref n7, .ref n8, .ref n9])), (aU, .inr (7, [.ref aF, .ref ul, .int 0, .ref uc, .ref ue]))]) [0, 3, 4, 7, 8, 5, 9, 10, 11, 13, 14, 15, 16, 22, 24, 12] (by decide) rfl
        have hFc := va_free (wc := [(a0, .inr (11, [.ref aP, .ref aD, .ref aT, .ref aR, .ref aF, .ref aU, .ref aH, .ref aM, .ref aW, .ref aN])), (aD, .inr (5, PF pq sq)), (sq, .inr (1, [.ref z0, .ref z1, .ref z2, .int 0, .int 0, .int 0])), (aR, .inr (6, [.ref rt, .ref aD, .int 0, .int (-1)])), (rt, .inr (9, [.ref aT, .ref to, .int 0, .int 0, .int 0, .long 0, .int 0])), (aT, .inr (8, [.ref tb, .int 0])), (aF, .inr (0, [.ref aP, .ref fx, .ref fr, .ref fe, .int 0])), (fx, .inl (cI, 8, .inl fxf)), (fr, .inl (cI, 64, .inl frf)), (aM, .inr (3, [.ref aF, .ref mo, .ref ma, .ref mk, .int 0, .int 0, .int 0, .ref mb, .ref mf])), (mo, .inl (cI, 32, .inl fn)), (mk, .inl (cG, 41, .inr (.inr (.inr (.inr kr))))), (r0, .inl (cI, 32, .inl w0)), (mf, .inl (cZ, 3, .inl ff)), (aN, .inr (4, [.ref aF, .int 0, .int 0, .ref n3, .ref n4, .ref n5, .ref n6, .ref n7, .ref n8, .ref n9])), (aU, .inr (7, [.ref aF, .ref ul, .int 0, .ref uc, .ref ue]))]) hD hS hA [0, 3, 4, 7, 8, 5, 9, 10, 11, 13, 14, 15, 16, 22, 24, 12] rfl
        refine va_calli (va_runV (As := []) (rest := []) ⟨hx, hb, hml, hown, hts⟩ (c_house l D cI cB cL cZ cG a0 aP aD aT aR aF aU aH aM aW aN pq sq z0 z1 z2 rt tb to 0 0 0 0 0 fx fr fe fxf frf mo ma mk mb mf fn kr r0 w0 ff n3 n4 n5 n6 n7 n8 n9 ul uc ue H.size hk_kr_0) (cwV 0 hts gL_law_X11_house rfl rfl rfl (by decide +kernel) ⟨Nat.le_of_ble_eq_true rfl, Nat.le_of_ble_eq_true rfl⟩) ⟨xp_blind, va_recv hK hPc (ci := 11) (q0 := 0) rfl rfl, fun U hU hW => xp_mk hU hW hPc hK hDc xNw_nil⟩ rfl rfl hl.1 rfl (lv_room (Nat.le_of_ble_eq_true rfl)) dL_law_335 ⟨Nat.le_of_ble_eq_true rfl, Nat.le_of_ble_eq_true rfl⟩) hS (fun q _ h => hFc q h) hFc (fun r_45 u9 t9 H1 locs ht9 hvm9 hr_45 hB9 hz9 hk9 hS => ?_)
        clear hB9 hz9 hPc hDc
        obtain ⟨hP, hD⟩ := va_join (wr := [(aP, .inr (5, PF pz su)), (su, .inr (1, [.ref s0, .ref s1, .ref s2, .int 0, .int 0, .int 0])), (tb, .inl (cB, 1600, .inl fb)), (r1, .inl (cI, 32, .inl w1)), (mb, .inl (cG, 3, .inr (.inr (.inr (.inr br))))), (b0, .inl (cI, 32, .inl u0)), (b1, .inl (cI, 32, .inl u1)), (b2, .inl (cI, 32, .inl u2)), (aW, .inr (10, [.ref aM])), (n3, .inl (cI, 30, .inl g3)), (n4, .inl (cI, 30, .inl g4)), (n5, .inl (cI, 30, .inl g5)), (n6, .inl (cI, 30, .inl g6)), (n7, .inl (cI, 8, .inl fo7)), (am, .inr (12, MF ad 0 0 0 (-1) 0 0 0 0 0 0 0 0 0 0 0 0 0 0 0 0 0)), ((ad 11), .inl (cI, 2, .inl fR)), ((ad 12), .inl (cI, 2, .inl fD)), ((ad 13), .inl (cI, 2, .inl fT)), ((ad 14), .inl (cI, 2, .inl fU)), ((ad 15), .inl (cI, 2, .inl fW)), ((ad 26), .inl (cZ, 2, .inl fS)), ((ad 27), .inl (cZ, 2, .inl fX)), ((ad 42), .inl (cI, 32, .inl fA)), ((ad 70), .inl (cZ, 3, .inl fB)), ((ad 0), .inl (cB, 1620, .inl ft)), ((ad 59), .inl (cI, 30, .inl t0)), ((ad 60), .inl (cI, 30, .inl t1)), ((ad 61), .inl (cI, 30, .inl t2)), ((ad 62), .inl (cI, 30, .inl t3)), ((ad 63), .inl (cI, 30, .inl t4)), ((ad 64), .inl (cI, 30, .inl t5)), ((ad 57), .inl (cI, 64, .inl fk)), ((ad 45), .inl (cI, 1312, .inl fw)), ((ad 69), .inl (cI, 96, .inl fbm))]) (w1 := []) hP hD [0, 3, 4, 7, 8, 5, 9, 10, 11, 13, 14, 15, 16, 22, 24, 12] [1, 2, 6, 17, 18, 19, 20, 21, 23, 25, 26, 27, 28, 29, 30, 31, 32, 33, 34, 35, 36, 37, 38, 39, 40, 41, 42, 43, 44, 45, 46, 47, 48, 49] rfl rfl (by decide) (by decide) hk9 hFc (fun k q h => by simp at h) ⟨fun i j p q h => by simp at h, fun k q h => by simp at h⟩
        clear hk9 hFc ht9 hvm9
        generalize H1 = H at hP hS ⊢
        replace hP : va_P D classes [(aP, .inr (5, PF pz su)), (su, .inr (1, [.ref s0, .ref s1, .ref s2, .int 0, .int 0, .int 0])), (tb, .inl (cB, 1600, .inl fb)), (r1, .inl (cI, 32, .inl w1)), (mb, .inl (cG, 3, .inr (.inr (.inr (.inr br))))), (b0, .inl (cI, 32, .inl u0)), (b1, .inl (cI, 32, .inl u1)), (b2, .inl (cI, 32, .inl u2)), (aW, .inr (10, [.ref aM])), (n3, .inl (cI, 30, .inl g3)), (n4, .inl (cI, 30, .inl g4)), (n5, .inl (cI, 30, .inl g5)), (n6, .inl (cI, 30, .inl g6)), (n7, .inl (cI, 8, .inl fo7)), (am, .inr (12, MF ad 0 0 0 (-1) 0 0 0 0 0 0 0 0 0 0 0 0 0 0 0 0 0)), ((ad 11), .inl (cI, 2, .inl fR)), ((ad 12), .inl (cI, 2, .inl fD)), ((ad 13), .inl (cI, 2, .inl fT)), ((ad 14), .inl (cI, 2, .inl fU)), ((ad 15), .inl (cI, 2, .inl fW)), ((ad 26), .inl (cZ, 2, .inl fS)), ((ad 27), .inl (cZ, 2, .inl fX)), ((ad 42), .inl (cI, 32, .inl fA)), ((ad 70), .inl (cZ, 3, .inl fB)), ((ad 0), .inl (cB, 1620, .inl ft)), ((ad 59), .inl (cI, 30, .inl t0)), ((ad 60), .inl (cI, 30, .inl t1)), ((ad 61), .inl (cI, 30, .inl t2)), ((ad 62), .inl (cI, 30, .inl t3)), ((ad 63), .inl (cI, 30, .inl t4)), ((ad 64), .inl (cI, 30, .inl t5)), ((ad 57), .inl (cI, 64, .inl fk)), ((ad 45), .inl (cI, 1312, .inl fw)), ((ad 69), .inl (cI, 96, .inl fbm))] H := hP
        replace hD : va_D A [(aP, .inr (5, PF pz su)), (su, .inr (1, [.ref s0, .ref s1, .ref s2, .int 0, .int 0, .int 0])), (tb, .inl (cB, 1600, .inl fb)), (r1, .inl (cI, 32, .inl w1)), (mb, .inl (cG, 3, .inr (.inr (.inr (.inr br))))), (b0, .inl (cI, 32, .inl u0)), (b1, .inl (cI, 32, .inl u1)), (b2, .inl (cI, 32, .inl u2)), (aW, .inr (10, [.ref aM])), (n3, .inl (cI, 30, .inl g3)), (n4, .inl (cI, 30, .inl g4)), (n5, .inl (cI, 30, .inl g5)), (n6, .inl (cI, 30, .inl g6)), (n7, .inl (cI, 8, .inl fo7)), (am, .inr (12, MF ad 0 0 0 (-1) 0 0 0 0 0 0 0 0 0 0 0 0 0 0 0 0 0)), ((ad 11), .inl (cI, 2, .inl fR)), ((ad 12), .inl (cI, 2, .inl fD)), ((ad 13), .inl (cI, 2, .inl fT)), ((ad 14), .inl (cI, 2, .inl fU)), ((ad 15), .inl (cI, 2, .inl fW)), ((ad 26), .inl (cZ, 2, .inl fS)), ((ad 27), .inl (cZ, 2, .inl fX)), ((ad 42), .inl (cI, 32, .inl fA)), ((ad 70), .inl (cZ, 3, .inl fB)), ((ad 0), .inl (cB, 1620, .inl ft)), ((ad 59), .inl (cI, 30, .inl t0)), ((ad 60), .inl (cI, 30, .inl t1)), ((ad 61), .inl (cI, 30, .inl t2)), ((ad 62), .inl (cI, 30, .inl t3)), ((ad 63), .inl (cI, 30, .inl t4)), ((ad 64), .inl (cI, 30, .inl t5)), ((ad 57), .inl (cI, 64, .inl fk)), ((ad 45), .inl (cI, 1312, .inl fw)), ((ad 69), .inl (cI, 96, .inl fbm))] := hD
        subst hr_45
        refine lv_aload_n hx hb dL_law_338 rfl (lv_at hl 1 rfl) ?_
        have hPc := hP.sub (ws' := [(am, .inr (12, MF ad 0 0 0 (-1) 0 0 0 0 0 0 0 0 0 0 0 0 0 0 0 0 0)), ((ad 11), .inl (cI, 2, .inl fR)), ((ad 12), .inl (cI, 2, .inl fD)), ((ad 13), .inl (cI, 2, .inl fT)), ((ad 14), .inl (cI, 2, .inl fU)), ((ad 15), .inl (cI, 2, .inl fW)), ((ad 26), .inl (cZ, 2, .inl fS)), ((ad 27), .inl (cZ, 2, .inl fX)), ((ad 42), .inl (cI, 32, .inl fA)), ((ad 70), .inl (cZ, 3, .inl fB))]) [14, 15, 16, 17, 18, 19, 20, 21, 22, 23] rfl
        have hDc := hD.sub (ws' := [(am, .inr (12, MF ad 0 0 0 (-1) 0 0 0 0 0 0 0 0 0 0 0 0 0 0 0 0 0)), ((ad 11), .inl (cI, 2, .inl fR)), ((ad 12), .inl (cI, 2, .inl fD)), ((ad 13), .inl (cI, 2, .inl fT)), ((ad 14), .inl (cI, 2, .inl fU)), ((ad 15), .inl (cI, 2, .inl fW)), ((ad 26), .inl (cZ, 2, .inl fS)), ((ad 27), .inl (cZ, 2, .inl fX)), ((ad 42), .inl (cI, 32, .inl fA)), ((ad 70), .inl (cZ, 3, .inl fB))]) [14, 15, 16, 17, 18, 19, 20, 21, 22, 23] (by decide) rfl
        have hFc := va_free (wc := [(am, .inr (12, MF ad 0 0 0 (-1) 0 0 0 0 0 0 0 0 0 0 0 0 0 0 0 0 0)), ((ad 11), .inl (cI, 2, .inl fR)), ((ad 12), .inl (cI, 2, .inl fD)), ((ad 13), .inl (cI, 2, .inl fT)), ((ad 14), .inl (cI, 2, .inl fU)), ((ad 15), .inl (cI, 2, .inl fW)), ((ad 26), .inl (cZ, 2, .inl fS)), ((ad 27), .inl (cZ, 2, .inl fX)), ((ad 42), .inl (cI, 32, .inl fA)), ((ad 70), .inl (cZ, 3, .inl fB))]) hD hS hA [14, 15, 16, 17, 18, 19, 20, 21, 22, 23] rfl
        refine va_calli (va_runV (As := []) (rest := [.int 0]) ⟨hx, hb, hml, hown, hts⟩ (m_house l D cI cB cL cZ am ad 0 0 0 0 0 0 0 0 0 0 0 0 fR fD fT fU fW fS fX fA fB H.size hf_fR_0 hf_fR_1 hf_fD_0 hf_fD_1 hf_fT_0 hf_fT_1 hf_fU_0 hf_fU_1 hf_fW_0 hf_fW_1 hf_fS_0 hf_fS_1 hf_fX_0 hf_fX_1 hf_fA_30 hf_fA_31) (cwV 0 hts gL_law_X12_house rfl rfl rfl (by decide +kernel) ⟨Nat.le_of_ble_eq_true rfl, Nat.le_of_ble_eq_true rfl⟩) ⟨xp_blind, va_recv hK hPc (ci := 12) (q0 := 0) rfl rfl, fun U hU hW => xp_mk hU hW hPc (hK.sub (tys' := [(cI, .int), (cB, .byte), (cL, .long), (cZ, .boolean)]) [0, 1, 2, 3] rfl) hDc xNw_nil⟩ rfl rfl hl.1 rfl (lv_room (Nat.le_of_ble_eq_true rfl)) dL_law_339 ⟨Nat.le_of_ble_eq_true rfl, Nat.le_of_ble_eq_true rfl⟩) hS (fun q _ h => hFc q h) hFc (fun r_46 u9 t9 H1 locs ht9 hvm9 hr_46 hB9 hz9 hk9 hS => ?_)
        clear hB9 hz9 hPc hDc
        obtain ⟨hP, hD⟩ := va_join (wr := [(aP, .inr (5, PF pz su)), (su, .inr (1, [.ref s0, .ref s1, .ref s2, .int 0, .int 0, .int 0])), (tb, .inl (cB, 1600, .inl fb)), (r1, .inl (cI, 32, .inl w1)), (mb, .inl (cG, 3, .inr (.inr (.inr (.inr br))))), (b0, .inl (cI, 32, .inl u0)), (b1, .inl (cI, 32, .inl u1)), (b2, .inl (cI, 32, .inl u2)), (aW, .inr (10, [.ref aM])), (n3, .inl (cI, 30, .inl g3)), (n4, .inl (cI, 30, .inl g4)), (n5, .inl (cI, 30, .inl g5)), (n6, .inl (cI, 30, .inl g6)), (n7, .inl (cI, 8, .inl fo7)), ((ad 0), .inl (cB, 1620, .inl ft)), ((ad 59), .inl (cI, 30, .inl t0)), ((ad 60), .inl (cI, 30, .inl t1)), ((ad 61), .inl (cI, 30, .inl t2)), ((ad 62), .inl (cI, 30, .inl t3)), ((ad 63), .inl (cI, 30, .inl t4)), ((ad 64), .inl (cI, 30, .inl t5)), ((ad 57), .inl (cI, 64, .inl fk)), ((ad 45), .inl (cI, 1312, .inl fw)), ((ad 69), .inl (cI, 96, .inl fbm))]) (w1 := []) hP hD [14, 15, 16, 17, 18, 19, 20, 21, 22, 23] [0, 1, 2, 3, 4, 5, 6, 7, 8, 9, 10, 11, 12, 13, 24, 25, 26, 27, 28, 29, 30, 31, 32, 33] rfl rfl (by decide) (by decide) hk9 hFc (fun k q h => by simp at h) ⟨fun i j p q h => by simp at h, fun k q h => by simp at h⟩
        clear hk9 hFc ht9 hvm9
        generalize H1 = H at hP hS ⊢
        replace hP : va_P D classes [(aP, .inr (5, PF pz su)), (su, .inr (1, [.ref s0, .ref s1, .ref s2, .int 0, .int 0, .int 0])), (tb, .inl (cB, 1600, .inl fb)), (r1, .inl (cI, 32, .inl w1)), (mb, .inl (cG, 3, .inr (.inr (.inr (.inr br))))), (b0, .inl (cI, 32, .inl u0)), (b1, .inl (cI, 32, .inl u1)), (b2, .inl (cI, 32, .inl u2)), (aW, .inr (10, [.ref aM])), (n3, .inl (cI, 30, .inl g3)), (n4, .inl (cI, 30, .inl g4)), (n5, .inl (cI, 30, .inl g5)), (n6, .inl (cI, 30, .inl g6)), (n7, .inl (cI, 8, .inl fo7)), ((ad 0), .inl (cB, 1620, .inl ft)), ((ad 59), .inl (cI, 30, .inl t0)), ((ad 60), .inl (cI, 30, .inl t1)), ((ad 61), .inl (cI, 30, .inl t2)), ((ad 62), .inl (cI, 30, .inl t3)), ((ad 63), .inl (cI, 30, .inl t4)), ((ad 64), .inl (cI, 30, .inl t5)), ((ad 57), .inl (cI, 64, .inl fk)), ((ad 45), .inl (cI, 1312, .inl fw)), ((ad 69), .inl (cI, 96, .inl fbm))] H := hP
        replace hD : va_D A [(aP, .inr (5, PF pz su)), (su, .inr (1, [.ref s0, .ref s1, .ref s2, .int 0, .int 0, .int 0])), (tb, .inl (cB, 1600, .inl fb)), (r1, .inl (cI, 32, .inl w1)), (mb, .inl (cG, 3, .inr (.inr (.inr (.inr br))))), (b0, .inl (cI, 32, .inl u0)), (b1, .inl (cI, 32, .inl u1)), (b2, .inl (cI, 32, .inl u2)), (aW, .inr (10, [.ref aM])), (n3, .inl (cI, 30, .inl g3)), (n4, .inl (cI, 30, .inl g4)), (n5, .inl (cI, 30, .inl g5)), (n6, .inl (cI, 30, .inl g6)), (n7, .inl (cI, 8, .inl fo7)), ((ad 0), .inl (cB, 1620, .inl ft)), ((ad 59), .inl (cI, 30, .inl t0)), ((ad 60), .inl (cI, 30, .inl t1)), ((ad 61), .inl (cI, 30, .inl t2)), ((ad 62), .inl (cI, 30, .inl t3)), ((ad 63), .inl (cI, 30, .inl t4)), ((ad 64), .inl (cI, 30, .inl t5)), ((ad 57), .inl (cI, 64, .inl fk)), ((ad 45), .inl (cI, 1312, .inl fw)), ((ad 69), .inl (cI, 96, .inl fbm))] := hD
        subst hr_46
        refine lv_icmp_eq (tgt := 1570) hx hb dL_law_342 (by decide) (fun _ => ?_) (fun c_47 => absurd (by decide) c_47)
        refine lv_iinc (v := 6) (lv' := [(3, .int 6), (2, .ref am), (1, .ref a0), (0, .ref b)]) hx hb dL_law_1570 hl (k := 0) rfl (by decide) (by decide) rfl (fun ls hl => ?_)
        refine lv_goto (tgt := 18) hx hb dL_law_1573 (by decide) ?_
        refine lv_iload_n hx hb dL_law_18 rfl (lv_at hl 0 rfl) ?_
        refine lv_aload_n hx hb dL_law_19 rfl (lv_at hl 3 rfl) ?_
        refine va_slen hx hb hX hbl hbA hS dL_law_20 ?_
        refine lv_topi (fun y_48 ey_48 => ?_)
        obtain rfl : y_48 = 6 := ey_48.trans (by decide)
        refine lv_bipush (v := 6) hx hb dL_law_21 (by decide) ?_
        refine lv_isub hx hb dL_law_23 ?_
        refine lv_topi (fun y_49 ey_49 => ?_)
        obtain rfl : y_49 = 0 := ey_49.trans (by decide)
        refine lv_icmp_gt (tgt := 1576) hx hb dL_law_24 (by decide) (fun _ => ?_) (fun c_50 => absurd (by decide) c_50)
        refine lv_iconst (v := 1) hx hb dL_law_1576 (by decide) ?_
        refine va_forget (fun q hq => by have h := hS.2.2 q hq; rw [hAe] at h; exact h) ?_
        refine W.widen (k := 600000) (n := 7302250) (Nat.le_of_ble_eq_true rfl) (Nat.le_of_ble_eq_true rfl) ?_
        exact lw_ret hx hb hr hlocks dL_law_1577
      · refine lv_tableIn (off := 314) (tgt := 347) hx hb dL_law_33 (by decide) (by decide) (by decide) (by decide) ?_
        refine lv_aload_n hx hb dL_law_347 rfl (lv_at hl 2 rfl) ?_
        refine lv_aload_n hx hb dL_law_348 rfl (lv_at hl 3 rfl) ?_
        refine lv_iload_n hx hb dL_law_349 rfl (lv_at hl 0 rfl) ?_
        refine lv_iconst (v := 1) hx hb dL_law_350 (by decide) ?_
        refine lv_iadd hx hb dL_law_351 ?_
        refine lv_topi (fun y_51 ey_51 => ?_)
        obtain rfl : y_51 = 1 := ey_51.trans (by decide)
        refine va_sld hx hb hX hbl hbA hS (show vp_in 1 6 from (by decide : ¬ ((1 : Int32) < 0 ∨ 6 ≤ Int32.toNatClampNeg 1))) dL_law_352 ?_
        have hPc := hP.sub (ws' := [(a0, .inr (11, [.ref aP, .ref aD, .ref aT, .ref aR, .ref aF, .ref aU, .ref aH, .ref aM, .ref aW, .ref aN])), (aR, .inr (6, [.ref rt, .ref aD, .int 0, .int (-1)]))]) [0, 7] rfl
        refine vp_callSi (va_runV (As := [.int (xs (Int32.toNatClampNeg 1))]) (rest := []) ⟨hx, hb, hml, hown, hts⟩ (c_fault l D cI cB cL cZ a0 aP aD aT aR aF aU aH aM aW aN rt (xs (Int32.toNatClampNeg 1))) (cwV 1 hts gL_law_X11_fault rfl rfl rfl (by decide +kernel) ⟨Nat.le_of_ble_eq_true rfl, Nat.le_of_ble_eq_true rfl⟩) ⟨xr_blind, va_recv hK hPc (ci := 11) (q0 := 0) rfl rfl, fun U hU hW => xr_mk hU hW hPc (hK.sub (tys' := [(cI, .int), (cB, .byte), (cL, .long), (cZ, .boolean)]) [0, 1, 2, 3] rfl)⟩ rfl rfl hl.1 rfl (lv_room (Nat.le_of_ble_eq_true rfl)) dL_law_353 ⟨Nat.le_of_ble_eq_true rfl, Nat.le_of_ble_eq_true rfl⟩).run (fun r_52 hr_52 => ?_)
        clear hPc
        subst hr_52
        refine lv_aload_n hx hb dL_law_356 rfl (lv_at hl 1 rfl) ?_
        refine lv_aload_n hx hb dL_law_357 rfl (lv_at hl 3 rfl) ?_
        refine lv_iload_n hx hb dL_law_358 rfl (lv_at hl 0 rfl) ?_
        refine lv_iconst (v := 1) hx hb dL_law_359 (by decide) ?_
        refine lv_iadd hx hb dL_law_360 ?_
        refine lv_topi (fun y_53 ey_53 => ?_)
        obtain rfl : y_53 = 1 := ey_53.trans (by decide)
        refine va_sld hx hb hX hbl hbA hS (show vp_in 1 6 from (by decide : ¬ ((1 : Int32) < 0 ∨ 6 ≤ Int32.toNatClampNeg 1))) dL_law_361 ?_
        have hPc := hP.sub (ws' := [(am, .inr (12, MF ad 0 0 0 (-1) 0 0 0 0 0 0 0 0 0 0 0 0 0 0 0 0 0))]) [30] rfl
        refine vp_callSi (va_runV (As := [.int (xs (Int32.toNatClampNeg 1))]) (rest := [.int (sp_nul xs (Int32.toNatClampNeg 1))]) ⟨hx, hb, hml, hown, hts⟩ (m_fault l D cI cB cL cZ am ad 0 0 0 0 0 0 0 0 0 0 0 0 (xs (Int32.toNatClampNeg 1))) (cwV 1 hts gL_law_X12_fault rfl rfl rfl (by decide +kernel) ⟨Nat.le_of_ble_eq_true rfl, Nat.le_of_ble_eq_true rfl⟩) ⟨xr_blind, va_recv hK hPc (ci := 12) (q0 := 0) rfl rfl, fun U hU hW => xr_mk hU hW hPc (hK.sub (tys' := [(cI, .int), (cB, .byte), (cL, .long), (cZ, .boolean)]) [0, 1, 2, 3] rfl)⟩ rfl rfl hl.1 rfl (lv_room (Nat.le_of_ble_eq_true rfl)) dL_law_362 ⟨Nat.le_of_ble_eq_true rfl, Nat.le_of_ble_eq_true rfl⟩).run (fun r_54 hr_54 => ?_)
        clear hPc
        subst hr_54
        refine lv_icmp_eq (tgt := 1570) hx hb dL_law_365 (by decide) (fun _ => ?_) (fun c9 => absurd rfl c9)
        refine lv_iinc (v := 6) (lv' := [(3, .int 6), (2, .ref am), (1, .ref a0), (0, .ref b)]) hx hb dL_law_1570 hl (k := 0) rfl (by decide) (by decide) rfl (fun ls hl => ?_)
        refine lv_goto (tgt := 18) hx hb dL_law_1573 (by decide) ?_
        refine lv_iload_n hx hb dL_law_18 rfl (lv_at hl 0 rfl) ?_
        refine lv_aload_n hx hb dL_law_19 rfl (lv_at hl 3 rfl) ?_
        refine va_slen hx hb hX hbl hbA hS dL_law_20 ?_
        refine lv_topi (fun y_55 ey_55 => ?_)
        obtain rfl : y_55 = 6 := ey_55.trans (by decide)
        refine lv_bipush (v := 6) hx hb dL_law_21 (by decide) ?_
        refine lv_isub hx hb dL_law_23 ?_
        refine lv_topi (fun y_56 ey_56 => ?_)
        obtain rfl : y_56 = 0 := ey_56.trans (by decide)
        refine lv_icmp_gt (tgt := 1576) hx hb dL_law_24 (by decide) (fun _ => ?_) (fun c_57 => absurd (by decide) c_57)
        refine lv_iconst (v := 1) hx hb dL_law_1576 (by decide) ?_
        refine va_forget (fun q hq => by have h := hS.2.2 q hq; rw [hAe] at h; exact h) ?_
        refine W.widen (k := 600000) (n := 7302250) (Nat.le_of_ble_eq_true rfl) (Nat.le_of_ble_eq_true rfl) ?_
        exact lw_ret hx hb hr hlocks dL_law_1577
      · refine lv_tableIn (off := 337) (tgt := 370) hx hb dL_law_33 (by decide) (by decide) (by decide) (by decide) ?_
        refine lv_aload_n hx hb dL_law_370 rfl (lv_at hl 2 rfl) ?_
        refine lv_aload_n hx hb dL_law_371 rfl (lv_at hl 3 rfl) ?_
        refine lv_iload_n hx hb dL_law_372 rfl (lv_at hl 0 rfl) ?_
        refine lv_iconst (v := 1) hx hb dL_law_373 (by decide) ?_
        refine lv_iadd hx hb dL_law_374 ?_
        refine lv_topi (fun y_58 ey_58 => ?_)
        obtain rfl : y_58 = 1 := ey_58.trans (by decide)
        refine va_sld hx hb hX hbl hbA hS (show vp_in 1 6 from (by decide : ¬ ((1 : Int32) < 0 ∨ 6 ≤ Int32.toNatClampNeg 1))) dL_law_375 ?_
        refine lv_aload_n hx hb dL_law_376 rfl (lv_at hl 3 rfl) ?_
        refine lv_iload_n hx hb dL_law_377 rfl (lv_at hl 0 rfl) ?_
        refine lv_iconst (v := 2) hx hb dL_law_378 (by decide) ?_
        refine lv_iadd hx hb dL_law_379 ?_
        refine lv_topi (fun y_59 ey_59 => ?_)
        obtain rfl : y_59 = 2 := ey_59.trans (by decide)
        refine va_sld hx hb hX hbl hbA hS (show vp_in 2 6 from (by decide : ¬ ((2 : Int32) < 0 ∨ 6 ≤ Int32.toNatClampNeg 2))) dL_law_380 ?_
        have hPc := hP.sub (ws' := [(a0, .inr (11, [.ref aP, .ref aD, .ref aT, .ref aR, .ref aF, .ref aU, .ref aH, .ref aM, .ref aW, .ref aN])), (aP, .inr (5, PF pz su))]) [0, 1] rfl
        refine vp_callSi (va_runV (As := [.int (xs (Int32.toNatClampNeg 1)), .int (xs (Int32.toNatClampNeg 2))]) (rest := []) ⟨hx, hb, hml, hown, hts⟩ (c_room l D cI cB cL cZ a0 aP aD aT aR aF aU aH aM aW aN pz su (xs (Int32.toNatClampNeg 1)) (xs (Int32.toNatClampNeg 2))) (cwV 2 hts gL_law_X11_room rfl rfl rfl (by decide +kernel) ⟨Nat.le_of_ble_eq_true rfl, Nat.le_of_ble_eq_true rfl⟩) ⟨xr_blind, va_recv hK hPc (ci := 11) (q0 := 0) rfl rfl, fun U hU hW => xr_mk hU hW hPc (hK.sub (tys' := [(cI, .int), (cB, .byte), (cL, .long), (cZ, .boolean)]) [0, 1, 2, 3] rfl)⟩ rfl rfl hl.1 rfl (lv_room (Nat.le_of_ble_eq_true rfl)) dL_law_381 ⟨Nat.le_of_ble_eq_true rfl, Nat.le_of_ble_eq_true rfl⟩).run (fun r_60 hr_60 => ?_)
        clear hPc
        subst hr_60
        refine lv_aload_n hx hb dL_law_384 rfl (lv_at hl 1 rfl) ?_
        refine lv_aload_n hx hb dL_law_385 rfl (lv_at hl 3 rfl) ?_
        refine lv_iload_n hx hb dL_law_386 rfl (lv_at hl 0 rfl) ?_
        refine lv_iconst (v := 1) hx hb dL_law_387 (by decide) ?_
        refine lv_iadd hx hb dL_law_388 ?_
        refine lv_topi (fun y_61 ey_61 => ?_)
        obtain rfl : y_61 = 1 := ey_61.trans (by decide)
        refine va_sld hx hb hX hbl hbA hS (show vp_in 1 6 from (by decide : ¬ ((1 : Int32) < 0 ∨ 6 ≤ Int32.toNatClampNeg 1))) dL_law_389 ?_
        refine lv_aload_n hx hb dL_law_390 rfl (lv_at hl 3 rfl) ?_
        refine lv_iload_n hx hb dL_law_391 rfl (lv_at hl 0 rfl) ?_
        refine lv_iconst (v := 2) hx hb dL_law_392 (by decide) ?_
        refine lv_iadd hx hb dL_law_393 ?_
        refine lv_topi (fun y_62 ey_62 => ?_)
        obtain rfl : y_62 = 2 := ey_62.trans (by decide)
        refine va_sld hx hb hX hbl hbA hS (show vp_in 2 6 from (by decide : ¬ ((2 : Int32) < 0 ∨ 6 ≤ Int32.toNatClampNeg 2))) dL_law_394 ?_
        have hPc := hP.sub (ws' := [(am, .inr (12, MF ad 0 0 0 (-1) 0 0 0 0 0 0 0 0 0 0 0 0 0 0 0 0 0)), ((ad 11), .inl (cI, 2, .inl fR))]) [30, 31] rfl
        refine vp_callSi (va_runV (As := [.int (xs (Int32.toNatClampNeg 1)), .int (xs (Int32.toNatClampNeg 2))]) (rest := [.int (-1)]) ⟨hx, hb, hml, hown, hts⟩ (m_room l D cI cB cL cZ am ad 0 0 0 0 0 0 0 0 0 0 0 0 fR (xs (Int32.toNatClampNeg 1)) (xs (Int32.toNatClampNeg 2)) hf_fR_0) (cwV 2 hts gL_law_X12_room rfl rfl rfl (by decide +kernel) ⟨Nat.le_of_ble_eq_true rfl, Nat.le_of_ble_eq_true rfl⟩) ⟨xr_blind, va_recv hK hPc (ci := 12) (q0 := 0) rfl rfl, fun U hU hW => xr_mk hU hW hPc (hK.sub (tys' := [(cI, .int), (cB, .byte), (cL, .long), (cZ, .boolean)]) [0, 1, 2, 3] rfl)⟩ rfl rfl hl.1 rfl (lv_room (Nat.le_of_ble_eq_true rfl)) dL_law_395 ⟨Nat.le_of_ble_eq_true rfl, Nat.le_of_ble_eq_true rfl⟩).run (fun r_63 hr_63 => ?_)
        clear hPc
        subst hr_63
        refine lv_icmp_eq (tgt := 1570) hx hb dL_law_398 (by decide) (fun _ => ?_) (fun c_64 => absurd (by decide) c_64)
        refine lv_iinc (v := 6) (lv' := [(3, .int 6), (2, .ref am), (1, .ref a0), (0, .ref b)]) hx hb dL_law_1570 hl (k := 0) rfl (by decide) (by decide) rfl (fun ls hl => ?_)
        refine lv_goto (tgt := 18) hx hb dL_law_1573 (by decide) ?_
        refine lv_iload_n hx hb dL_law_18 rfl (lv_at hl 0 rfl) ?_
        refine lv_aload_n hx hb dL_law_19 rfl (lv_at hl 3 rfl) ?_
        refine va_slen hx hb hX hbl hbA hS dL_law_20 ?_
        refine lv_topi (fun y_65 ey_65 => ?_)
        obtain rfl : y_65 = 6 := ey_65.trans (by decide)
        refine lv_bipush (v := 6) hx hb dL_law_21 (by decide) ?_
        refine lv_isub hx hb dL_law_23 ?_
        refine lv_topi (fun y_66 ey_66 => ?_)
        obtain rfl : y_66 = 0 := ey_66.trans (by decide)
        refine lv_icmp_gt (tgt := 1576) hx hb dL_law_24 (by decide) (fun _ => ?_) (fun c_67 => absurd (by decide) c_67)
        refine lv_iconst (v := 1) hx hb dL_law_1576 (by decide) ?_
        refine va_forget (fun q hq => by have h := hS.2.2 q hq; rw [hAe] at h; exact h) ?_
        refine W.widen (k := 600000) (n := 7302250) (Nat.le_of_ble_eq_true rfl) (Nat.le_of_ble_eq_true rfl) ?_
        exact lw_ret hx hb hr hlocks dL_law_1577
      · refine lv_tableIn (off := 370) (tgt := 403) hx hb dL_law_33 (by decide) (by decide) (by decide) (by decide) ?_
        refine lv_aload_n hx hb dL_law_403 rfl (lv_at hl 2 rfl) ?_
        refine lv_aload_n hx hb dL_law_404 rfl (lv_at hl 3 rfl) ?_
        refine lv_iload_n hx hb dL_law_405 rfl (lv_at hl 0 rfl) ?_
        refine lv_iconst (v := 1) hx hb dL_law_406 (by decide) ?_
        refine lv_iadd hx hb dL_law_407 ?_
        refine lv_topi (fun y_68 ey_68 => ?_)
        obtain rfl : y_68 = 1 := ey_68.trans (by decide)
        refine va_sld hx hb hX hbl hbA hS (show vp_in 1 6 from (by decide : ¬ ((1 : Int32) < 0 ∨ 6 ≤ Int32.toNatClampNeg 1))) dL_law_408 ?_
        refine lv_aload_n hx hb dL_law_409 rfl (lv_at hl 3 rfl) ?_
        refine lv_iload_n hx hb dL_law_410 rfl (lv_at hl 0 rfl) ?_
        refine lv_iconst (v := 2) hx hb dL_law_411 (by decide) ?_
        refine lv_iadd hx hb dL_law_412 ?_
        refine lv_topi (fun y_69 ey_69 => ?_)
        obtain rfl : y_69 = 2 := ey_69.trans (by decide)
        refine va_sld hx hb hX hbl hbA hS (show vp_in 2 6 from (by decide : ¬ ((2 : Int32) < 0 ∨ 6 ≤ Int32.toNatClampNeg 2))) dL_law_413 ?_
        have hPc := hP.sub (ws' := [(a0, .inr (11, [.ref aP, .ref aD, .ref aT, .ref aR, .ref aF, .ref aU, .ref aH, .ref aM, .ref aW, .ref aN])), (aP, .inr (5, PF pz su))]) [0, 1] rfl
        refine vp_callSi (va_runV (As := [.int (xs (Int32.toNatClampNeg 1)), .int (xs (Int32.toNatClampNeg 2))]) (rest := []) ⟨hx, hb, hml, hown, hts⟩ (c_thing l D cI cB cL cZ a0 aP aD aT aR aF aU aH aM aW aN pz su (xs (Int32.toNatClampNeg 1)) (xs (Int32.toNatClampNeg 2))) (cwV 2 hts gL_law_X11_thing rfl rfl rfl (by decide +kernel) ⟨Nat.le_of_ble_eq_true rfl, Nat.le_of_ble_eq_true rfl⟩) ⟨xr_blind, va_recv hK hPc (ci := 11) (q0 := 0) rfl rfl, fun U hU hW => xr_mk hU hW hPc (hK.sub (tys' := [(cI, .int), (cB, .byte), (cL, .long), (cZ, .boolean)]) [0, 1, 2, 3] rfl)⟩ rfl rfl hl.1 rfl (lv_room (Nat.le_of_ble_eq_true rfl)) dL_law_414 ⟨Nat.le_of_ble_eq_true rfl, Nat.le_of_ble_eq_true rfl⟩).run (fun r_70 hr_70 => ?_)
        clear hPc
        subst hr_70
        refine lv_aload_n hx hb dL_law_417 rfl (lv_at hl 1 rfl) ?_
        refine lv_aload_n hx hb dL_law_418 rfl (lv_at hl 3 rfl) ?_
        refine lv_iload_n hx hb dL_law_419 rfl (lv_at hl 0 rfl) ?_
        refine lv_iconst (v := 1) hx hb dL_law_420 (by decide) ?_
        refine lv_iadd hx hb dL_law_421 ?_
        refine lv_topi (fun y_71 ey_71 => ?_)
        obtain rfl : y_71 = 1 := ey_71.trans (by decide)
        refine va_sld hx hb hX hbl hbA hS (show vp_in 1 6 from (by decide : ¬ ((1 : Int32) < 0 ∨ 6 ≤ Int32.toNatClampNeg 1))) dL_law_422 ?_
        refine lv_aload_n hx hb dL_law_423 rfl (lv_at hl 3 rfl) ?_
        refine lv_iload_n hx hb dL_law_424 rfl (lv_at hl 0 rfl) ?_
        refine lv_iconst (v := 2) hx hb dL_law_425 (by decide) ?_
        refine lv_iadd hx hb dL_law_426 ?_
        refine lv_topi (fun y_72 ey_72 => ?_)
        obtain rfl : y_72 = 2 := ey_72.trans (by decide)
        refine va_sld hx hb hX hbl hbA hS (show vp_in 2 6 from (by decide : ¬ ((2 : Int32) < 0 ∨ 6 ≤ Int32.toNatClampNeg 2))) dL_law_427 ?_
        have hPc := hP.sub (ws' := [(am, .inr (12, MF ad 0 0 0 (-1) 0 0 0 0 0 0 0 0 0 0 0 0 0 0 0 0 0)), ((ad 13), .inl (cI, 2, .inl fT))]) [30, 33] rfl
        refine vp_callSi (va_runV (As := [.int (xs (Int32.toNatClampNeg 1)), .int (xs (Int32.toNatClampNeg 2))]) (rest := [.int (-2)]) ⟨hx, hb, hml, hown, hts⟩ (m_thing l D cI cB cL cZ am ad 0 0 0 0 0 0 0 0 0 0 0 0 fT (xs (Int32.toNatClampNeg 1)) (xs (Int32.toNatClampNeg 2)) hf_fT_0) (cwV 2 hts gL_law_X12_thing rfl rfl rfl (by decide +kernel) ⟨Nat.le_of_ble_eq_true rfl, Nat.le_of_ble_eq_true rfl⟩) ⟨xr_blind, va_recv hK hPc (ci := 12) (q0 := 0) rfl rfl, fun U hU hW => xr_mk hU hW hPc (hK.sub (tys' := [(cI, .int), (cB, .byte), (cL, .long), (cZ, .boolean)]) [0, 1, 2, 3] rfl)⟩ rfl rfl hl.1 rfl (lv_room (Nat.le_of_ble_eq_true rfl)) dL_law_428 ⟨Nat.le_of_ble_eq_true rfl, Nat.le_of_ble_eq_true rfl⟩).run (fun r_73 hr_73 => ?_)
        clear hPc
        subst hr_73
        refine lv_icmp_eq (tgt := 1570) hx hb dL_law_431 (by decide) (fun _ => ?_) (fun c_74 => absurd (by decide) c_74)
        refine lv_iinc (v := 6) (lv' := [(3, .int 6), (2, .ref am), (1, .ref a0), (0, .ref b)]) hx hb dL_law_1570 hl (k := 0) rfl (by decide) (by decide) rfl (fun ls hl => ?_)
        refine lv_goto (tgt := 18) hx hb dL_law_1573 (by decide) ?_
        refine lv_iload_n hx hb dL_law_18 rfl (lv_at hl 0 rfl) ?_
        refine lv_aload_n hx hb dL_law_19 rfl (lv_at hl 3 rfl) ?_
        refine va_slen hx hb hX hbl hbA hS dL_law_20 ?_
        refine lv_topi (fun y_75 ey_75 => ?_)
        obtain rfl : y_75 = 6 := ey_75.trans (by decide)
        refine lv_bipush (v := 6) hx hb dL_law_21 (by decide) ?_
        refine lv_isub hx hb dL_law_23 ?_
        refine lv_topi (fun y_76 ey_76 => ?_)
        obtain rfl : y_76 = 0 := ey_76.trans (by decide)
        refine lv_icmp_gt (tgt := 1576) hx hb dL_law_24 (by decide) (fun _ => ?_) (fun c_77 => absurd (by decide) c_77)
        refine lv_iconst (v := 1) hx hb dL_law_1576 (by decide) ?_
        refine va_forget (fun q hq => by have h := hS.2.2 q hq; rw [hAe] at h; exact h) ?_
        refine W.widen (k := 600000) (n := 7302250) (Nat.le_of_ble_eq_true rfl) (Nat.le_of_ble_eq_true rfl) ?_
        exact lw_ret hx hb hr hlocks dL_law_1577
      · refine lv_tableIn (off := 403) (tgt := 436) hx hb dL_law_33 (by decide) (by decide) (by decide) (by decide) ?_
        refine lv_aload_n hx hb dL_law_436 rfl (lv_at hl 2 rfl) ?_
        refine lv_aload_n hx hb dL_law_437 rfl (lv_at hl 3 rfl) ?_
        refine lv_iload_n hx hb dL_law_438 rfl (lv_at hl 0 rfl) ?_
        refine lv_iconst (v := 1) hx hb dL_law_439 (by decide) ?_
        refine lv_iadd hx hb dL_law_440 ?_
        refine lv_topi (fun y_78 ey_78 => ?_)
        obtain rfl : y_78 = 1 := ey_78.trans (by decide)
        refine va_sld hx hb hX hbl hbA hS (show vp_in 1 6 from (by decide : ¬ ((1 : Int32) < 0 ∨ 6 ≤ Int32.toNatClampNeg 1))) dL_law_441 ?_
        refine lv_aload_n hx hb dL_law_442 rfl (lv_at hl 3 rfl) ?_
        refine lv_iload_n hx hb dL_law_443 rfl (lv_at hl 0 rfl) ?_
        refine lv_iconst (v := 2) hx hb dL_law_444 (by decide) ?_
        refine lv_iadd hx hb dL_law_445 ?_
        refine lv_topi (fun y_79 ey_79 => ?_)
        obtain rfl : y_79 = 2 := ey_79.trans (by decide)
        refine va_sld hx hb hX hbl hbA hS (show vp_in 2 6 from (by decide : ¬ ((2 : Int32) < 0 ∨ 6 ≤ Int32.toNatClampNeg 2))) dL_law_446 ?_
        have hPc := hP.sub (ws' := [(a0, .inr (11, [.ref aP, .ref aD, .ref aT, .ref aR, .ref aF, .ref aU, .ref aH, .ref aM, .ref aW, .ref aN])), (aP, .inr (5, PF pz su))]) [0, 1] rfl
        refine vp_callSi (va_runV (As := [.int (xs (Int32.toNatClampNeg 1)), .int (xs (Int32.toNatClampNeg 2))]) (rest := []) ⟨hx, hb, hml, hown, hts⟩ (c_door l D cI cB cL cZ a0 aP aD aT aR aF aU aH aM aW aN pz su (xs (Int32.toNatClampNeg 1)) (xs (Int32.toNatClampNeg 2))) (cwV 2 hts gL_law_X11_door rfl rfl rfl (by decide +kernel) ⟨Nat.le_of_ble_eq_true rfl, Nat.le_of_ble_eq_true rfl⟩) ⟨xr_blind, va_recv hK hPc (ci := 11) (q0 := 0) rfl rfl, fun U hU hW => xr_mk hU hW hPc (hK.sub (tys' := [(cI, .int), (cB, .byte), (cL, .long), (cZ, .boolean)]) [0, 1, 2, 3] rfl)⟩ rfl rfl hl.1 rfl (lv_room (Nat.le_of_ble_eq_true rfl)) dL_law_447 ⟨Nat.le_of_ble_eq_true rfl, Nat.le_of_ble_eq_true rfl⟩).run (fun r_80 hr_80 => ?_)
        clear hPc
        subst hr_80
        refine lv_aload_n hx hb dL_law_450 rfl (lv_at hl 1 rfl) ?_
        refine lv_aload_n hx hb dL_law_451 rfl (lv_at hl 3 rfl) ?_
        refine lv_iload_n hx hb dL_law_452 rfl (lv_at hl 0 rfl) ?_
        refine lv_iconst (v := 1) hx hb dL_law_453 (by decide) ?_
        refine lv_iadd hx hb dL_law_454 ?_
        refine lv_topi (fun y_81 ey_81 => ?_)
        obtain rfl : y_81 = 1 := ey_81.trans (by decide)
        refine va_sld hx hb hX hbl hbA hS (show vp_in 1 6 from (by decide : ¬ ((1 : Int32) < 0 ∨ 6 ≤ Int32.toNatClampNeg 1))) dL_law_455 ?_
        refine lv_aload_n hx hb dL_law_456 rfl (lv_at hl 3 rfl) ?_
        refine lv_iload_n hx hb dL_law_457 rfl (lv_at hl 0 rfl) ?_
        refine lv_iconst (v := 2) hx hb dL_law_458 (by decide) ?_
        refine lv_iadd hx hb dL_law_459 ?_
        refine lv_topi (fun y_82 ey_82 => ?_)
        obtain rfl : y_82 = 2 := ey_82.trans (by decide)
        refine va_sld hx hb hX hbl hbA hS (show vp_in 2 6 from (by decide : ¬ ((2 : Int32) < 0 ∨ 6 ≤ Int32.toNatClampNeg 2))) dL_law_460 ?_
        have hPc := hP.sub (ws' := [(am, .inr (12, MF ad 0 0 0 (-1) 0 0 0 0 0 0 0 0 0 0 0 0 0 0 0 0 0)), ((ad 12), .inl (cI, 2, .inl fD))]) [30, 32] rfl
        refine vp_callSi (va_runV (As := [.int (xs (Int32.toNatClampNeg 1)), .int (xs (Int32.toNatClampNeg 2))]) (rest := [.int (-1)]) ⟨hx, hb, hml, hown, hts⟩ (m_door l D cI cB cL cZ am ad 0 0 0 0 0 0 0 0 0 0 0 0 fD (xs (Int32.toNatClampNeg 1)) (xs (Int32.toNatClampNeg 2)) hf_fD_0) (cwV 2 hts gL_law_X12_door rfl rfl rfl (by decide +kernel) ⟨Nat.le_of_ble_eq_true rfl, Nat.le_of_ble_eq_true rfl⟩) ⟨xr_blind, va_recv hK hPc (ci := 12) (q0 := 0) rfl rfl, fun U hU hW => xr_mk hU hW hPc (hK.sub (tys' := [(cI, .int), (cB, .byte), (cL, .long), (cZ, .boolean)]) [0, 1, 2, 3] rfl)⟩ rfl rfl hl.1 rfl (lv_room (Nat.le_of_ble_eq_true rfl)) dL_law_461 ⟨Nat.le_of_ble_eq_true rfl, Nat.le_of_ble_eq_true rfl⟩).run (fun r_83 hr_83 => ?_)
        clear hPc
        subst hr_83
        refine lv_icmp_eq (tgt := 1570) hx hb dL_law_464 (by decide) (fun _ => ?_) (fun c_84 => absurd (by decide) c_84)
        refine lv_iinc (v := 6) (lv' := [(3, .int 6), (2, .ref am), (1, .ref a0), (0, .ref b)]) hx hb dL_law_1570 hl (k := 0) rfl (by decide) (by decide) rfl (fun ls hl => ?_)
        refine lv_goto (tgt := 18) hx hb dL_law_1573 (by decide) ?_
        refine lv_iload_n hx hb dL_law_18 rfl (lv_at hl 0 rfl) ?_
        refine lv_aload_n hx hb dL_law_19 rfl (lv_at hl 3 rfl) ?_
        refine va_slen hx hb hX hbl hbA hS dL_law_20 ?_
        refine lv_topi (fun y_85 ey_85 => ?_)
        obtain rfl : y_85 = 6 := ey_85.trans (by decide)
        refine lv_bipush (v := 6) hx hb dL_law_21 (by decide) ?_
        refine lv_isub hx hb dL_law_23 ?_
        refine lv_topi (fun y_86 ey_86 => ?_)
        obtain rfl : y_86 = 0 := ey_86.trans (by decide)
        refine lv_icmp_gt (tgt := 1576) hx hb dL_law_24 (by decide) (fun _ => ?_) (fun c_87 => absurd (by decide) c_87)
        refine lv_iconst (v := 1) hx hb dL_law_1576 (by decide) ?_
        refine va_forget (fun q hq => by have h := hS.2.2 q hq; rw [hAe] at h; exact h) ?_
        refine W.widen (k := 600000) (n := 7302250) (Nat.le_of_ble_eq_true rfl) (Nat.le_of_ble_eq_true rfl) ?_
        exact lw_ret hx hb hr hlocks dL_law_1577
      · refine lv_tableIn (off := 436) (tgt := 469) hx hb dL_law_33 (by decide) (by decide) (by decide) (by decide) ?_
        refine lv_aload_n hx hb dL_law_469 rfl (lv_at hl 2 rfl) ?_
        refine lv_aload_n hx hb dL_law_470 rfl (lv_at hl 3 rfl) ?_
        refine lv_iload_n hx hb dL_law_471 rfl (lv_at hl 0 rfl) ?_
        refine lv_iconst (v := 1) hx hb dL_law_472 (by decide) ?_
        refine lv_iadd hx hb dL_law_473 ?_
        refine lv_topi (fun y_88 ey_88 => ?_)
        obtain rfl : y_88 = 1 := ey_88.trans (by decide)
        refine va_sld hx hb hX hbl hbA hS (show vp_in 1 6 from (by decide : ¬ ((1 : Int32) < 0 ∨ 6 ≤ Int32.toNatClampNeg 1))) dL_law_474 ?_
        refine lv_aload_n hx hb dL_law_475 rfl (lv_at hl 3 rfl) ?_
        refine lv_iload_n hx hb dL_law_476 rfl (lv_at hl 0 rfl) ?_
        refine lv_iconst (v := 2) hx hb dL_law_477 (by decide) ?_
        refine lv_iadd hx hb dL_law_478 ?_
        refine lv_topi (fun y_89 ey_89 => ?_)
        obtain rfl : y_89 = 2 := ey_89.trans (by decide)
        refine va_sld hx hb hX hbl hbA hS (show vp_in 2 6 from (by decide : ¬ ((2 : Int32) < 0 ∨ 6 ≤ Int32.toNatClampNeg 2))) dL_law_479 ?_
        have hPc := hP.sub (ws' := [(a0, .inr (11, [.ref aP, .ref aD, .ref aT, .ref aR, .ref aF, .ref aU, .ref aH, .ref aM, .ref aW, .ref aN])), (aP, .inr (5, PF pz su))]) [0, 1] rfl
        refine vp_callSi (va_runV (As := [.int (xs (Int32.toNatClampNeg 1)), .int (xs (Int32.toNatClampNeg 2))]) (rest := []) ⟨hx, hb, hml, hown, hts⟩ (c_far l D cI cB cL cZ a0 aP aD aT aR aF aU aH aM aW aN pz su (xs (Int32.toNatClampNeg 1)) (xs (Int32.toNatClampNeg 2))) (cwV 2 hts gL_law_X11_far rfl rfl rfl (by decide +kernel) ⟨Nat.le_of_ble_eq_true rfl, Nat.le_of_ble_eq_true rfl⟩) ⟨xr_blind, va_recv hK hPc (ci := 11) (q0 := 0) rfl rfl, fun U hU hW => xr_mk hU hW hPc (hK.sub (tys' := [(cI, .int), (cB, .byte), (cL, .long), (cZ, .boolean)]) [0, 1, 2, 3] rfl)⟩ rfl rfl hl.1 rfl (lv_room (Nat.le_of_ble_eq_true rfl)) dL_law_480 ⟨Nat.le_of_ble_eq_true rfl, Nat.le_of_ble_eq_true rfl⟩).run (fun r_90 hr_90 => ?_)
        clear hPc
        subst hr_90
        refine lv_aload_n hx hb dL_law_483 rfl (lv_at hl 1 rfl) ?_
        refine lv_aload_n hx hb dL_law_484 rfl (lv_at hl 3 rfl) ?_
        refine lv_iload_n hx hb dL_law_485 rfl (lv_at hl 0 rfl) ?_
        refine lv_iconst (v := 1) hx hb dL_law_486 (by decide) ?_
        refine lv_iadd hx hb dL_law_487 ?_
        refine lv_topi (fun y_91 ey_91 => ?_)
        obtain rfl : y_91 = 1 := ey_91.trans (by decide)
        refine va_sld hx hb hX hbl hbA hS (show vp_in 1 6 from (by decide : ¬ ((1 : Int32) < 0 ∨ 6 ≤ Int32.toNatClampNeg 1))) dL_law_488 ?_
        refine lv_aload_n hx hb dL_law_489 rfl (lv_at hl 3 rfl) ?_
        refine lv_iload_n hx hb dL_law_490 rfl (lv_at hl 0 rfl) ?_
        refine lv_iconst (v := 2) hx hb dL_law_491 (by decide) ?_
        refine lv_iadd hx hb dL_law_492 ?_
        refine lv_topi (fun y_92 ey_92 => ?_)
        obtain rfl : y_92 = 2 := ey_92.trans (by decide)
        refine va_sld hx hb hX hbl hbA hS (show vp_in 2 6 from (by decide : ¬ ((2 : Int32) < 0 ∨ 6 ≤ Int32.toNatClampNeg 2))) dL_law_493 ?_
        have hPc := hP.sub (ws' := [(am, .inr (12, MF ad 0 0 0 (-1) 0 0 0 0 0 0 0 0 0 0 0 0 0 0 0 0 0)), ((ad 11), .inl (cI, 2, .inl fR))]) [30, 31] rfl
        refine vp_callSi (va_runV (As := [.int (xs (Int32.toNatClampNeg 1)), .int (xs (Int32.toNatClampNeg 2))]) (rest := [.int (-1)]) ⟨hx, hb, hml, hown, hts⟩ (m_far l D cI cB cL cZ am ad 0 0 0 0 0 0 0 0 0 0 0 0 fR (xs (Int32.toNatClampNeg 1)) (xs (Int32.toNatClampNeg 2)) hf_fR_0) (cwV 2 hts gL_law_X12_far rfl rfl rfl (by decide +kernel) ⟨Nat.le_of_ble_eq_true rfl, Nat.le_of_ble_eq_true rfl⟩) ⟨xr_blind, va_recv hK hPc (ci := 12) (q0 := 0) rfl rfl, fun U hU hW => xr_mk hU hW hPc (hK.sub (tys' := [(cI, .int), (cB, .byte), (cL, .long), (cZ, .boolean)]) [0, 1, 2, 3] rfl)⟩ rfl rfl hl.1 rfl (lv_room (Nat.le_of_ble_eq_true rfl)) dL_law_494 ⟨Nat.le_of_ble_eq_true rfl, Nat.le_of_ble_eq_true rfl⟩).run (fun r_93 hr_93 => ?_)
        clear hPc
        subst hr_93
        refine lv_icmp_eq (tgt := 1570) hx hb dL_law_497 (by decide) (fun _ => ?_) (fun c_94 => absurd (by decide) c_94)
        refine lv_iinc (v := 6) (lv' := [(3, .int 6), (2, .ref am), (1, .ref a0), (0, .ref b)]) hx hb dL_law_1570 hl (k := 0) rfl (by decide) (by decide) rfl (fun ls hl => ?_)
        refine lv_goto (tgt := 18) hx hb dL_law_1573 (by decide) ?_
        refine lv_iload_n hx hb dL_law_18 rfl (lv_at hl 0 rfl) ?_
        refine lv_aload_n hx hb dL_law_19 rfl (lv_at hl 3 rfl) ?_
        refine va_slen hx hb hX hbl hbA hS dL_law_20 ?_
        refine lv_topi (fun y_95 ey_95 => ?_)
        obtain rfl : y_95 = 6 := ey_95.trans (by decide)
        refine lv_bipush (v := 6) hx hb dL_law_21 (by decide) ?_
        refine lv_isub hx hb dL_law_23 ?_
        refine lv_topi (fun y_96 ey_96 => ?_)
        obtain rfl : y_96 = 0 := ey_96.trans (by decide)
        refine lv_icmp_gt (tgt := 1576) hx hb dL_law_24 (by decide) (fun _ => ?_) (fun c_97 => absurd (by decide) c_97)
        refine lv_iconst (v := 1) hx hb dL_law_1576 (by decide) ?_
        refine va_forget (fun q hq => by have h := hS.2.2 q hq; rw [hAe] at h; exact h) ?_
        refine W.widen (k := 600000) (n := 7302250) (Nat.le_of_ble_eq_true rfl) (Nat.le_of_ble_eq_true rfl) ?_
        exact lw_ret hx hb hr hlocks dL_law_1577
      · refine lv_tableIn (off := 469) (tgt := 502) hx hb dL_law_33 (by decide) (by decide) (by decide) (by decide) ?_
        refine lv_aload_n hx hb dL_law_502 rfl (lv_at hl 2 rfl) ?_
        refine lv_aload_n hx hb dL_law_503 rfl (lv_at hl 3 rfl) ?_
        refine lv_iload_n hx hb dL_law_504 rfl (lv_at hl 0 rfl) ?_
        refine lv_iconst (v := 1) hx hb dL_law_505 (by decide) ?_
        refine lv_iadd hx hb dL_law_506 ?_
        refine lv_topi (fun y_98 ey_98 => ?_)
        obtain rfl : y_98 = 1 := ey_98.trans (by decide)
        refine va_sld hx hb hX hbl hbA hS (show vp_in 1 6 from (by decide : ¬ ((1 : Int32) < 0 ∨ 6 ≤ Int32.toNatClampNeg 1))) dL_law_507 ?_
        have hPc := hP.sub (ws' := [(a0, .inr (11, [.ref aP, .ref aD, .ref aT, .ref aR, .ref aF, .ref aU, .ref aH, .ref aM, .ref aW, .ref aN])), (aP, .inr (5, PF pz su))]) [0, 1] rfl
        refine vp_callSi (va_runV (As := [.int (xs (Int32.toNatClampNeg 1))]) (rest := []) ⟨hx, hb, hml, hown, hts⟩ (c_tell l D cI cB cL cZ a0 aP aD aT aR aF aU aH aM aW aN pz su (xs (Int32.toNatClampNeg 1))) (cwV 1 hts gL_law_X11_tell rfl rfl rfl (by decide +kernel) ⟨Nat.le_of_ble_eq_true rfl, Nat.le_of_ble_eq_true rfl⟩) ⟨xr_blind, va_recv hK hPc (ci := 11) (q0 := 0) rfl rfl, fun U hU hW => xr_mk hU hW hPc (hK.sub (tys' := [(cI, .int), (cB, .byte), (cL, .long), (cZ, .boolean)]) [0, 1, 2, 3] rfl)⟩ rfl rfl hl.1 rfl (lv_room (Nat.le_of_ble_eq_true rfl)) dL_law_508 ⟨Nat.le_of_ble_eq_true rfl, Nat.le_of_ble_eq_true rfl⟩).run (fun r_99 hr_99 => ?_)
        clear hPc
        subst hr_99
        refine lv_aload_n hx hb dL_law_511 rfl (lv_at hl 1 rfl) ?_
        refine lv_aload_n hx hb dL_law_512 rfl (lv_at hl 3 rfl) ?_
        refine lv_iload_n hx hb dL_law_513 rfl (lv_at hl 0 rfl) ?_
        refine lv_iconst (v := 1) hx hb dL_law_514 (by decide) ?_
        refine lv_iadd hx hb dL_law_515 ?_
        refine lv_topi (fun y_100 ey_100 => ?_)
        obtain rfl : y_100 = 1 := ey_100.trans (by decide)
        refine va_sld hx hb hX hbl hbA hS (show vp_in 1 6 from (by decide : ¬ ((1 : Int32) < 0 ∨ 6 ≤ Int32.toNatClampNeg 1))) dL_law_516 ?_
        have hPc := hP.sub (ws' := [(am, .inr (12, MF ad 0 0 0 (-1) 0 0 0 0 0 0 0 0 0 0 0 0 0 0 0 0 0)), ((ad 13), .inl (cI, 2, .inl fT))]) [30, 33] rfl
        refine vp_callSi (va_runV (As := [.int (xs (Int32.toNatClampNeg 1))]) (rest := [.int (-1)]) ⟨hx, hb, hml, hown, hts⟩ (m_tell l D cI cB cL cZ am ad 0 0 0 0 0 0 0 0 0 0 0 0 fT (xs (Int32.toNatClampNeg 1)) hf_fT_0) (cwV 1 hts gL_law_X12_tell rfl rfl rfl (by decide +kernel) ⟨Nat.le_of_ble_eq_true rfl, Nat.le_of_ble_eq_true rfl⟩) ⟨xr_blind, va_recv hK hPc (ci := 12) (q0 := 0) rfl rfl, fun U hU hW => xr_mk hU hW hPc (hK.sub (tys' := [(cI, .int), (cB, .byte), (cL, .long), (cZ, .boolean)]) [0, 1, 2, 3] rfl)⟩ rfl rfl hl.1 rfl (lv_room (Nat.le_of_ble_eq_true rfl)) dL_law_517 ⟨Nat.le_of_ble_eq_true rfl, Nat.le_of_ble_eq_true rfl⟩).run (fun r_101 hr_101 => ?_)
        clear hPc
        subst hr_101
        refine lv_icmp_eq (tgt := 1570) hx hb dL_law_520 (by decide) (fun _ => ?_) (fun c_102 => absurd (by decide) c_102)
        refine lv_iinc (v := 6) (lv' := [(3, .int 6), (2, .ref am), (1, .ref a0), (0, .ref b)]) hx hb dL_law_1570 hl (k := 0) rfl (by decide) (by decide) rfl (fun ls hl => ?_)
        refine lv_goto (tgt := 18) hx hb dL_law_1573 (by decide) ?_
        refine lv_iload_n hx hb dL_law_18 rfl (lv_at hl 0 rfl) ?_
        refine lv_aload_n hx hb dL_law_19 rfl (lv_at hl 3 rfl) ?_
        refine va_slen hx hb hX hbl hbA hS dL_law_20 ?_
        refine lv_topi (fun y_103 ey_103 => ?_)
        obtain rfl : y_103 = 6 := ey_103.trans (by decide)
        refine lv_bipush (v := 6) hx hb dL_law_21 (by decide) ?_
        refine lv_isub hx hb dL_law_23 ?_
        refine lv_topi (fun y_104 ey_104 => ?_)
        obtain rfl : y_104 = 0 := ey_104.trans (by decide)
        refine lv_icmp_gt (tgt := 1576) hx hb dL_law_24 (by decide) (fun _ => ?_) (fun c_105 => absurd (by decide) c_105)
        refine lv_iconst (v := 1) hx hb dL_law_1576 (by decide) ?_
        refine va_forget (fun q hq => by have h := hS.2.2 q hq; rw [hAe] at h; exact h) ?_
        refine W.widen (k := 600000) (n := 7302250) (Nat.le_of_ble_eq_true rfl) (Nat.le_of_ble_eq_true rfl) ?_
        exact lw_ret hx hb hr hlocks dL_law_1577
      · refine lv_tableIn (off := 492) (tgt := 525) hx hb dL_law_33 (by decide) (by decide) (by decide) (by decide) ?_
        refine lv_aload_n hx hb dL_law_525 rfl (lv_at hl 2 rfl) ?_
        refine lv_aload_n hx hb dL_law_526 rfl (lv_at hl 3 rfl) ?_
        refine lv_iload_n hx hb dL_law_527 rfl (lv_at hl 0 rfl) ?_
        refine lv_iconst (v := 1) hx hb dL_law_528 (by decide) ?_
        refine lv_iadd hx hb dL_law_529 ?_
        refine lv_topi (fun y_106 ey_106 => ?_)
        obtain rfl : y_106 = 1 := ey_106.trans (by decide)
        refine va_sld hx hb hX hbl hbA hS (show vp_in 1 6 from (by decide : ¬ ((1 : Int32) < 0 ∨ 6 ≤ Int32.toNatClampNeg 1))) dL_law_530 ?_
        have hPc := hP.sub (ws' := [(a0, .inr (11, [.ref aP, .ref aD, .ref aT, .ref aR, .ref aF, .ref aU, .ref aH, .ref aM, .ref aW, .ref aN])), (aP, .inr (5, PF pz su))]) [0, 1] rfl
        refine vp_callSi (va_runV (As := [.int (xs (Int32.toNatClampNeg 1))]) (rest := []) ⟨hx, hb, hml, hown, hts⟩ (c_hear l D cI cB cL cZ a0 aP aD aT aR aF aU aH aM aW aN pz su (xs (Int32.toNatClampNeg 1))) (cwV 1 hts gL_law_X11_hear rfl rfl rfl (by decide +kernel) ⟨Nat.le_of_ble_eq_true rfl, Nat.le_of_ble_eq_true rfl⟩) ⟨xr_blind, va_recv hK hPc (ci := 11) (q0 := 0) rfl rfl, fun U hU hW => xr_mk hU hW hPc (hK.sub (tys' := [(cI, .int), (cB, .byte), (cL, .long), (cZ, .boolean)]) [0, 1, 2, 3] rfl)⟩ rfl rfl hl.1 rfl (lv_room (Nat.le_of_ble_eq_true rfl)) dL_law_531 ⟨Nat.le_of_ble_eq_true rfl, Nat.le_of_ble_eq_true rfl⟩).run (fun r_107 hr_107 => ?_)
        clear hPc
        subst hr_107
        refine lv_aload_n hx hb dL_law_534 rfl (lv_at hl 1 rfl) ?_
        refine lv_aload_n hx hb dL_law_535 rfl (lv_at hl 3 rfl) ?_
        refine lv_iload_n hx hb dL_law_536 rfl (lv_at hl 0 rfl) ?_
        refine lv_iconst (v := 1) hx hb dL_law_537 (by decide) ?_
        refine lv_iadd hx hb dL_law_538 ?_
        refine lv_topi (fun y_108 ey_108 => ?_)
        obtain rfl : y_108 = 1 := ey_108.trans (by decide)
        refine va_sld hx hb hX hbl hbA hS (show vp_in 1 6 from (by decide : ¬ ((1 : Int32) < 0 ∨ 6 ≤ Int32.toNatClampNeg 1))) dL_law_539 ?_
        have hPc := hP.sub (ws' := [(am, .inr (12, MF ad 0 0 0 (-1) 0 0 0 0 0 0 0 0 0 0 0 0 0 0 0 0 0)), ((ad 13), .inl (cI, 2, .inl fT))]) [30, 33] rfl
        refine vp_callSi (va_runV (As := [.int (xs (Int32.toNatClampNeg 1))]) (rest := [.int (-1)]) ⟨hx, hb, hml, hown, hts⟩ (m_hear l D cI cB cL cZ am ad 0 0 0 0 0 0 0 0 0 0 0 0 fT (xs (Int32.toNatClampNeg 1)) hf_fT_0) (cwV 1 hts gL_law_X12_hear rfl rfl rfl (by decide +kernel) ⟨Nat.le_of_ble_eq_true rfl, Nat.le_of_ble_eq_true rfl⟩) ⟨xr_blind, va_recv hK hPc (ci := 12) (q0 := 0) rfl rfl, fun U hU hW => xr_mk hU hW hPc (hK.sub (tys' := [(cI, .int), (cB, .byte), (cL, .long), (cZ, .boolean)]) [0, 1, 2, 3] rfl)⟩ rfl rfl hl.1 rfl (lv_room (Nat.le_of_ble_eq_true rfl)) dL_law_540 ⟨Nat.le_of_ble_eq_true rfl, Nat.le_of_ble_eq_true rfl⟩).run (fun r_109 hr_109 => ?_)
        clear hPc
        subst hr_109
        refine lv_icmp_eq (tgt := 1570) hx hb dL_law_543 (by decide) (fun _ => ?_) (fun c_110 => absurd (by decide) c_110)
        refine lv_iinc (v := 6) (lv' := [(3, .int 6), (2, .ref am), (1, .ref a0), (0, .ref b)]) hx hb dL_law_1570 hl (k := 0) rfl (by decide) (by decide) rfl (fun ls hl => ?_)
        refine lv_goto (tgt := 18) hx hb dL_law_1573 (by decide) ?_
        refine lv_iload_n hx hb dL_law_18 rfl (lv_at hl 0 rfl) ?_
        refine lv_aload_n hx hb dL_law_19 rfl (lv_at hl 3 rfl) ?_
        refine va_slen hx hb hX hbl hbA hS dL_law_20 ?_
        refine lv_topi (fun y_111 ey_111 => ?_)
        obtain rfl : y_111 = 6 := ey_111.trans (by decide)
        refine lv_bipush (v := 6) hx hb dL_law_21 (by decide) ?_
        refine lv_isub hx hb dL_law_23 ?_
        refine lv_topi (fun y_112 ey_112 => ?_)
        obtain rfl : y_112 = 0 := ey_112.trans (by decide)
        refine lv_icmp_gt (tgt := 1576) hx hb dL_law_24 (by decide) (fun _ => ?_) (fun c_113 => absurd (by decide) c_113)
        refine lv_iconst (v := 1) hx hb dL_law_1576 (by decide) ?_
        refine va_forget (fun q hq => by have h := hS.2.2 q hq; rw [hAe] at h; exact h) ?_
        refine W.widen (k := 600000) (n := 7302250) (Nat.le_of_ble_eq_true rfl) (Nat.le_of_ble_eq_true rfl) ?_
        exact lw_ret hx hb hr hlocks dL_law_1577
      · refine lv_tableIn (off := 515) (tgt := 548) hx hb dL_law_33 (by decide) (by decide) (by decide) (by decide) ?_
        refine lv_aload_n hx hb dL_law_548 rfl (lv_at hl 2 rfl) ?_
        refine lv_aload_n hx hb dL_law_549 rfl (lv_at hl 3 rfl) ?_
        refine lv_iload_n hx hb dL_law_550 rfl (lv_at hl 0 rfl) ?_
        refine lv_iconst (v := 1) hx hb dL_law_551 (by decide) ?_
        refine lv_iadd hx hb dL_law_552 ?_
        refine lv_topi (fun y_114 ey_114 => ?_)
        obtain rfl : y_114 = 1 := ey_114.trans (by decide)
        refine va_sld hx hb hX hbl hbA hS (show vp_in 1 6 from (by decide : ¬ ((1 : Int32) < 0 ∨ 6 ≤ Int32.toNatClampNeg 1))) dL_law_553 ?_
        refine lv_aload_n hx hb dL_law_554 rfl (lv_at hl 3 rfl) ?_
        refine lv_iload_n hx hb dL_law_555 rfl (lv_at hl 0 rfl) ?_
        refine lv_iconst (v := 2) hx hb dL_law_556 (by decide) ?_
        refine lv_iadd hx hb dL_law_557 ?_
        refine lv_topi (fun y_115 ey_115 => ?_)
        obtain rfl : y_115 = 2 := ey_115.trans (by decide)
        refine va_sld hx hb hX hbl hbA hS (show vp_in 2 6 from (by decide : ¬ ((2 : Int32) < 0 ∨ 6 ≤ Int32.toNatClampNeg 2))) dL_law_558 ?_
        have hPc := hP.sub (ws' := [(a0, .inr (11, [.ref aP, .ref aD, .ref aT, .ref aR, .ref aF, .ref aU, .ref aH, .ref aM, .ref aW, .ref aN])), (aP, .inr (5, PF pz su))]) [0, 1] rfl
        refine vp_callSi (va_runV (As := [.int (xs (Int32.toNatClampNeg 1)), .int (xs (Int32.toNatClampNeg 2))]) (rest := []) ⟨hx, hb, hml, hown, hts⟩ (c_carry l D cI cB cL cZ a0 aP aD aT aR aF aU aH aM aW aN pz su (xs (Int32.toNatClampNeg 1)) (xs (Int32.toNatClampNeg 2))) (cwV 2 hts gL_law_X11_carry rfl rfl rfl (by decide +kernel) ⟨Nat.le_of_ble_eq_true rfl, Nat.le_of_ble_eq_true rfl⟩) ⟨xr_blind, va_recv hK hPc (ci := 11) (q0 := 0) rfl rfl, fun U hU hW => xr_mk hU hW hPc (hK.sub (tys' := [(cI, .int), (cB, .byte), (cL, .long), (cZ, .boolean)]) [0, 1, 2, 3] rfl)⟩ rfl rfl hl.1 rfl (lv_room (Nat.le_of_ble_eq_true rfl)) dL_law_559 ⟨Nat.le_of_ble_eq_true rfl, Nat.le_of_ble_eq_true rfl⟩).run (fun r_116 hr_116 => ?_)
        clear hPc
        subst hr_116
        refine lv_aload_n hx hb dL_law_562 rfl (lv_at hl 1 rfl) ?_
        refine lv_aload_n hx hb dL_law_563 rfl (lv_at hl 3 rfl) ?_
        refine lv_iload_n hx hb dL_law_564 rfl (lv_at hl 0 rfl) ?_
        refine lv_iconst (v := 1) hx hb dL_law_565 (by decide) ?_
        refine lv_iadd hx hb dL_law_566 ?_
        refine lv_topi (fun y_117 ey_117 => ?_)
        obtain rfl : y_117 = 1 := ey_117.trans (by decide)
        refine va_sld hx hb hX hbl hbA hS (show vp_in 1 6 from (by decide : ¬ ((1 : Int32) < 0 ∨ 6 ≤ Int32.toNatClampNeg 1))) dL_law_567 ?_
        refine lv_aload_n hx hb dL_law_568 rfl (lv_at hl 3 rfl) ?_
        refine lv_iload_n hx hb dL_law_569 rfl (lv_at hl 0 rfl) ?_
        refine lv_iconst (v := 2) hx hb dL_law_570 (by decide) ?_
        refine lv_iadd hx hb dL_law_571 ?_
        refine lv_topi (fun y_118 ey_118 => ?_)
        obtain rfl : y_118 = 2 := ey_118.trans (by decide)
        refine va_sld hx hb hX hbl hbA hS (show vp_in 2 6 from (by decide : ¬ ((2 : Int32) < 0 ∨ 6 ≤ Int32.toNatClampNeg 2))) dL_law_572 ?_
        have hPc := hP.sub (ws' := [(am, .inr (12, MF ad 0 0 0 (-1) 0 0 0 0 0 0 0 0 0 0 0 0 0 0 0 0 0)), ((ad 13), .inl (cI, 2, .inl fT))]) [30, 33] rfl
        refine vp_callSi (va_runV (As := [.int (xs (Int32.toNatClampNeg 1)), .int (xs (Int32.toNatClampNeg 2))]) (rest := [.int (-1)]) ⟨hx, hb, hml, hown, hts⟩ (m_carry l D cI cB cL cZ am ad 0 0 0 0 0 0 0 0 0 0 0 0 fT (xs (Int32.toNatClampNeg 1)) (xs (Int32.toNatClampNeg 2)) hf_fT_0) (cwV 2 hts gL_law_X12_carry rfl rfl rfl (by decide +kernel) ⟨Nat.le_of_ble_eq_true rfl, Nat.le_of_ble_eq_true rfl⟩) ⟨xr_blind, va_recv hK hPc (ci := 12) (q0 := 0) rfl rfl, fun U hU hW => xr_mk hU hW hPc (hK.sub (tys' := [(cI, .int), (cB, .byte), (cL, .long), (cZ, .boolean)]) [0, 1, 2, 3] rfl)⟩ rfl rfl hl.1 rfl (lv_room (Nat.le_of_ble_eq_true rfl)) dL_law_573 ⟨Nat.le_of_ble_eq_true rfl, Nat.le_of_ble_eq_true rfl⟩).run (fun r_119 hr_119 => ?_)
        clear hPc
        subst hr_119
        refine lv_icmp_eq (tgt := 1570) hx hb dL_law_576 (by decide) (fun _ => ?_) (fun c_120 => absurd (by decide) c_120)
        refine lv_iinc (v := 6) (lv' := [(3, .int 6), (2, .ref am), (1, .ref a0), (0, .ref b)]) hx hb dL_law_1570 hl (k := 0) rfl (by decide) (by decide) rfl (fun ls hl => ?_)
        refine lv_goto (tgt := 18) hx hb dL_law_1573 (by decide) ?_
        refine lv_iload_n hx hb dL_law_18 rfl (lv_at hl 0 rfl) ?_
        refine lv_aload_n hx hb dL_law_19 rfl (lv_at hl 3 rfl) ?_
        refine va_slen hx hb hX hbl hbA hS dL_law_20 ?_
        refine lv_topi (fun y_121 ey_121 => ?_)
        obtain rfl : y_121 = 6 := ey_121.trans (by decide)
        refine lv_bipush (v := 6) hx hb dL_law_21 (by decide) ?_
        refine lv_isub hx hb dL_law_23 ?_
        refine lv_topi (fun y_122 ey_122 => ?_)
        obtain rfl : y_122 = 0 := ey_122.trans (by decide)
        refine lv_icmp_gt (tgt := 1576) hx hb dL_law_24 (by decide) (fun _ => ?_) (fun c_123 => absurd (by decide) c_123)
        refine lv_iconst (v := 1) hx hb dL_law_1576 (by decide) ?_
        refine va_forget (fun q hq => by have h := hS.2.2 q hq; rw [hAe] at h; exact h) ?_
        refine W.widen (k := 600000) (n := 7302250) (Nat.le_of_ble_eq_true rfl) (Nat.le_of_ble_eq_true rfl) ?_
        exact lw_ret hx hb hr hlocks dL_law_1577
      · refine lv_tableIn (off := 548) (tgt := 581) hx hb dL_law_33 (by decide) (by decide) (by decide) (by decide) ?_
        refine lv_aload_n hx hb dL_law_581 rfl (lv_at hl 2 rfl) ?_
        refine lv_aload_n hx hb dL_law_582 rfl (lv_at hl 3 rfl) ?_
        refine lv_iload_n hx hb dL_law_583 rfl (lv_at hl 0 rfl) ?_
        refine lv_iconst (v := 1) hx hb dL_law_584 (by decide) ?_
        refine lv_iadd hx hb dL_law_585 ?_
        refine lv_topi (fun y_124 ey_124 => ?_)
        obtain rfl : y_124 = 1 := ey_124.trans (by decide)
        refine va_sld hx hb hX hbl hbA hS (show vp_in 1 6 from (by decide : ¬ ((1 : Int32) < 0 ∨ 6 ≤ Int32.toNatClampNeg 1))) dL_law_586 ?_
        have hPc := hP.sub (ws' := [(a0, .inr (11, [.ref aP, .ref aD, .ref aT, .ref aR, .ref aF, .ref aU, .ref aH, .ref aM, .ref aW, .ref aN])), (aP, .inr (5, PF pz su))]) [0, 1] rfl
        refine vp_callSi (va_runV (As := [.int (xs (Int32.toNatClampNeg 1))]) (rest := []) ⟨hx, hb, hml, hown, hts⟩ (c_send l D cI cB cL cZ a0 aP aD aT aR aF aU aH aM aW aN pz su (xs (Int32.toNatClampNeg 1))) (cwV 1 hts gL_law_X11_send rfl rfl rfl (by decide +kernel) ⟨Nat.le_of_ble_eq_true rfl, Nat.le_of_ble_eq_true rfl⟩) ⟨xr_blind, va_recv hK hPc (ci := 11) (q0 := 0) rfl rfl, fun U hU hW => xr_mk hU hW hPc (hK.sub (tys' := [(cI, .int), (cB, .byte), (cL, .long), (cZ, .boolean)]) [0, 1, 2, 3] rfl)⟩ rfl rfl hl.1 rfl (lv_room (Nat.le_of_ble_eq_true rfl)) dL_law_587 ⟨Nat.le_of_ble_eq_true rfl, Nat.le_of_ble_eq_true rfl⟩).run (fun r_125 hr_125 => ?_)
        clear hPc
        subst hr_125
        refine lv_aload_n hx hb dL_law_590 rfl (lv_at hl 1 rfl) ?_
        refine lv_aload_n hx hb dL_law_591 rfl (lv_at hl 3 rfl) ?_
        refine lv_iload_n hx hb dL_law_592 rfl (lv_at hl 0 rfl) ?_
        refine lv_iconst (v := 1) hx hb dL_law_593 (by decide) ?_
        refine lv_iadd hx hb dL_law_594 ?_
        refine lv_topi (fun y_126 ey_126 => ?_)
        obtain rfl : y_126 = 1 := ey_126.trans (by decide)
        refine va_sld hx hb hX hbl hbA hS (show vp_in 1 6 from (by decide : ¬ ((1 : Int32) < 0 ∨ 6 ≤ Int32.toNatClampNeg 1))) dL_law_595 ?_
        have hPc := hP.sub (ws' := [(am, .inr (12, MF ad 0 0 0 (-1) 0 0 0 0 0 0 0 0 0 0 0 0 0 0 0 0 0)), ((ad 13), .inl (cI, 2, .inl fT))]) [30, 33] rfl
        refine vp_callSi (va_runV (As := [.int (xs (Int32.toNatClampNeg 1))]) (rest := [.int (-1)]) ⟨hx, hb, hml, hown, hts⟩ (m_send l D cI cB cL cZ am ad 0 0 0 0 0 0 0 0 0 0 0 0 fT (xs (Int32.toNatClampNeg 1)) hf_fT_0) (cwV 1 hts gL_law_X12_send rfl rfl rfl (by decide +kernel) ⟨Nat.le_of_ble_eq_true rfl, Nat.le_of_ble_eq_true rfl⟩) ⟨xr_blind, va_recv hK hPc (ci := 12) (q0 := 0) rfl rfl, fun U hU hW => xr_mk hU hW hPc (hK.sub (tys' := [(cI, .int), (cB, .byte), (cL, .long), (cZ, .boolean)]) [0, 1, 2, 3] rfl)⟩ rfl rfl hl.1 rfl (lv_room (Nat.le_of_ble_eq_true rfl)) dL_law_596 ⟨Nat.le_of_ble_eq_true rfl, Nat.le_of_ble_eq_true rfl⟩).run (fun r_127 hr_127 => ?_)
        clear hPc
        subst hr_127
        refine lv_icmp_eq (tgt := 1570) hx hb dL_law_599 (by decide) (fun _ => ?_) (fun c_128 => absurd (by decide) c_128)
        refine lv_iinc (v := 6) (lv' := [(3, .int 6), (2, .ref am), (1, .ref a0), (0, .ref b)]) hx hb dL_law_1570 hl (k := 0) rfl (by decide) (by decide) rfl (fun ls hl => ?_)
        refine lv_goto (tgt := 18) hx hb dL_law_1573 (by decide) ?_
        refine lv_iload_n hx hb dL_law_18 rfl (lv_at hl 0 rfl) ?_
        refine lv_aload_n hx hb dL_law_19 rfl (lv_at hl 3 rfl) ?_
        refine va_slen hx hb hX hbl hbA hS dL_law_20 ?_
        refine lv_topi (fun y_129 ey_129 => ?_)
        obtain rfl : y_129 = 6 := ey_129.trans (by decide)
        refine lv_bipush (v := 6) hx hb dL_law_21 (by decide) ?_
        refine lv_isub hx hb dL_law_23 ?_
        refine lv_topi (fun y_130 ey_130 => ?_)
        obtain rfl : y_130 = 0 := ey_130.trans (by decide)
        refine lv_icmp_gt (tgt := 1576) hx hb dL_law_24 (by decide) (fun _ => ?_) (fun c_131 => absurd (by decide) c_131)
        refine lv_iconst (v := 1) hx hb dL_law_1576 (by decide) ?_
        refine va_forget (fun q hq => by have h := hS.2.2 q hq; rw [hAe] at h; exact h) ?_
        refine W.widen (k := 600000) (n := 7302250) (Nat.le_of_ble_eq_true rfl) (Nat.le_of_ble_eq_true rfl) ?_
        exact lw_ret hx hb hr hlocks dL_law_1577
      · refine lv_tableIn (off := 571) (tgt := 604) hx hb dL_law_33 (by decide) (by decide) (by decide) (by decide) ?_
        refine lv_aload_n hx hb dL_law_604 rfl (lv_at hl 2 rfl) ?_
        have hPc := hP.sub (ws' := [(a0, .inr (11, [.ref aP, .ref aD, .ref aT, .ref aR, .ref aF, .ref aU, .ref aH, .ref aM, .ref aW, .ref aN])), (aM, .inr (3, [.ref aF, .ref mo, .ref ma, .ref mk, .int 0, .int 0, .int 0, .ref mb, .ref mf])), (mo, .inl (cI, 32, .inl fn)), (aF, .inr (0, [.ref aP, .ref fx, .ref fr, .ref fe, .int 0])), (aP, .inr (5, PF pz su)), (mk, .inl (cG, 41, .inr (.inr (.inr (.inr kr))))), (r1, .inl (cI, 32, .inl w1))]) [0, 13, 14, 9, 1, 15, 17] rfl
        have hDc := hD.sub (ws' := [(a0, .inr (11, [.ref aP, .ref aD, .ref aT, .ref aR, .ref aF, .ref aU, .ref aH, .ref aM, .ref aW, .ref aN])), (aM, .inr (3, [.ref aF, .ref mo, .ref ma, .ref mk, .int 0, .int 0, .int 0, .ref mb, .ref mf])), (mo, .inl (cI, 32, .inl fn)), (aF, .inr (0, [.ref aP, .ref fx, .ref fr, .ref fe, .int 0])), (aP, .inr (5, PF pz su)), (mk, .inl (cG, 41, .inr (.inr (.inr (.inr kr))))), (r1, .inl (cI, 32, .inl w1))]) [0, 13, 14, 9, 1, 15, 17] (by decide) rfl
        have hFc := va_free (wc := [(a0, .inr (11, [.ref aP, .ref aD, .ref aT, .ref aR, .ref aF, .ref aU, .ref aH, .ref aM, .ref aW, .ref aN])), (aM, .inr (3, [.ref aF, .ref mo, .ref ma, .ref mk, .int 0, .int 0, .int 0, .ref mb, .ref mf])), (mo, .inl (cI, 32, .inl fn)), (aF, .inr (0, [.ref aP, .ref fx, .ref fr, .ref fe, .int 0])), (aP, .inr (5, PF pz su)), (mk, .inl (cG, 41, .inr (.inr (.inr (.inr kr))))), (r1, .inl (cI, 32, .inl w1))]) hD hS hA [0, 13, 14, 9, 1, 15, 17] rfl
        refine va_calli (va_runV (As := []) (rest := []) ⟨hx, hb, hml, hown, hts⟩ (c_day l D cI cB cL cZ cG a0 aP aD aT aR aF aU aH aM aW aN mo ma mk mb mf fn fx fr fe pz su kr r1 w1 H.size hf_fn_30 hf_fn_31 hk_kr_1) (cwV 0 hts gL_law_X11_day rfl rfl rfl (by decide +kernel) ⟨Nat.le_of_ble_eq_true rfl, Nat.le_of_ble_eq_true rfl⟩) ⟨xp_blind, va_recv hK hPc (ci := 11) (q0 := 0) rfl rfl, fun U hU hW => xp_mk hU hW hPc hK hDc xNw_nil⟩ rfl rfl hl.1 rfl (lv_room (Nat.le_of_ble_eq_true rfl)) dL_law_605 ⟨Nat.le_of_ble_eq_true rfl, Nat.le_of_ble_eq_true rfl⟩) hS (fun q _ h => hFc q h) hFc (fun r_132 u9 t9 H1 locs ht9 hvm9 hr_132 hB9 hz9 hk9 hS => ?_)
        clear hB9 hz9 hPc hDc
        obtain ⟨hP, hD⟩ := va_join (wr := [(su, .inr (1, [.ref s0, .ref s1, .ref s2, .int 0, .int 0, .int 0])), (aD, .inr (5, PF pq sq)), (sq, .inr (1, [.ref z0, .ref z1, .ref z2, .int 0, .int 0, .int 0])), (aT, .inr (8, [.ref tb, .int 0])), (tb, .inl (cB, 1600, .inl fb)), (aR, .inr (6, [.ref rt, .ref aD, .int 0, .int (-1)])), (rt, .inr (9, [.ref aT, .ref to, .int 0, .int 0, .int 0, .long 0, .int 0])), (fx, .inl (cI, 8, .inl fxf)), (fr, .inl (cI, 64, .inl frf)), (aU, .inr (7, [.ref aF, .ref ul, .int 0, .ref uc, .ref ue])), (r0, .inl (cI, 32, .inl w0)), (mb, .inl (cG, 3, .inr (.inr (.inr (.inr br))))), (b0, .inl (cI, 32, .inl u0)), (b1, .inl (cI, 32, .inl u1)), (b2, .inl (cI, 32, .inl u2)), (mf, .inl (cZ, 3, .inl ff)), (aW, .inr (10, [.ref aM])), (aN, .inr (4, [.ref aF, .int 0, .int 0, .ref n3, .ref n4, .ref n5, .ref n6, .ref n7, .ref n8, .ref n9])), (n3, .inl (cI, 30, .inl g3)), (n4, .inl (cI, 30, .inl g4)), (n5, .inl (cI, 30, .inl g5)), (n6, .inl (cI, 30, .inl g6)), (n7, .inl (cI, 8, .inl fo7)), (am, .inr (12, MF ad 0 0 0 (-1) 0 0 0 0 0 0 0 0 0 0 0 0 0 0 0 0 0)), ((ad 11), .inl (cI, 2, .inl fR)), ((ad 12), .inl (cI, 2, .inl fD)), ((ad 13), .inl (cI, 2, .inl fT)), ((ad 14), .inl (cI, 2, .inl fU)), ((ad 15), .inl (cI, 2, .inl fW)), ((ad 26), .inl (cZ, 2, .inl fS)), ((ad 27), .inl (cZ, 2, .inl fX)), ((ad 42), .inl (cI, 32, .inl fA)), ((ad 70), .inl (cZ, 3, .inl fB)), ((ad 0), .inl (cB, 1620, .inl ft)), ((ad 59), .inl (cI, 30, .inl t0)), ((ad 60), .inl (cI, 30, .inl t1)), ((ad 61), .inl (cI, 30, .inl t2)), ((ad 62), .inl (cI, 30, .inl t3)), ((ad 63), .inl (cI, 30, .inl t4)), ((ad 64), .inl (cI, 30, .inl t5)), ((ad 57), .inl (cI, 64, .inl fk)), ((ad 45), .inl (cI, 1312, .inl fw)), ((ad 69), .inl (cI, 96, .inl fbm))]) (w1 := []) hP hD [0, 13, 14, 9, 1, 15, 17] [2, 3, 4, 5, 6, 7, 8, 10, 11, 12, 16, 18, 19, 20, 21, 22, 23, 24, 25, 26, 27, 28, 29, 30, 31, 32, 33, 34, 35, 36, 37, 38, 39, 40, 41, 42, 43, 44, 45, 46, 47, 48, 49] rfl rfl (by decide) (by decide) hk9 hFc (fun k q h => by simp at h) ⟨fun i j p q h => by simp at h, fun k q h => by simp at h⟩
        clear hk9 hFc ht9 hvm9
        generalize H1 = H at hP hS ⊢
        replace hP : va_P D classes [(su, .inr (1, [.ref s0, .ref s1, .ref s2, .int 0, .int 0, .int 0])), (aD, .inr (5, PF pq sq)), (sq, .inr (1, [.ref z0, .ref z1, .ref z2, .int 0, .int 0, .int 0])), (aT, .inr (8, [.ref tb, .int 0])), (tb, .inl (cB, 1600, .inl fb)), (aR, .inr (6, [.ref rt, .ref aD, .int 0, .int (-1)])), (rt, .inr (9, [.ref aT, .ref to, .int 0, .int 0, .int 0, .long 0, .int 0])), (fx, .inl (cI, 8, .inl fxf)), (fr, .inl (cI, 64, .inl frf)), (aU, .inr (7, [.ref aF, .ref ul, .int 0, .ref uc, .ref ue])), (r0, .inl (cI, 32, .inl w0)), (mb, .inl (cG, 3, .inr (.inr (.inr (.inr br))))), (b0, .inl (cI, 32, .inl u0)), (b1, .inl (cI, 32, .inl u1)), (b2, .inl (cI, 32, .inl u2)), (mf, .inl (cZ, 3, .inl ff)), (aW, .inr (10, [.ref aM])), (aN, .inr (4, [.ref aF, .int 0, .int 0, .ref n3, .ref n4, .ref n5, .ref n6, .ref n7, .ref n8, .ref n9])), (n3, .inl (cI, 30, .inl g3)), (n4, .inl (cI, 30, .inl g4)), (n5, .inl (cI, 30, .inl g5)), (n6, .inl (cI, 30, .inl g6)), (n7, .inl (cI, 8, .inl fo7)), (am, .inr (12, MF ad 0 0 0 (-1) 0 0 0 0 0 0 0 0 0 0 0 0 0 0 0 0 0)), ((ad 11), .inl (cI, 2, .inl fR)), ((ad 12), .inl (cI, 2, .inl fD)), ((ad 13), .inl (cI, 2, .inl fT)), ((ad 14), .inl (cI, 2, .inl fU)), ((ad 15), .inl (cI, 2, .inl fW)), ((ad 26), .inl (cZ, 2, .inl fS)), ((ad 27), .inl (cZ, 2, .inl fX)), ((ad 42), .inl (cI, 32, .inl fA)), ((ad 70), .inl (cZ, 3, .inl fB)), ((ad 0), .inl (cB, 1620, .inl ft)), ((ad 59), .inl (cI, 30, .inl t0)), ((ad 60), .inl (cI, 30, .inl t1)), ((ad 61), .inl (cI, 30, .inl t2)), ((ad 62), .inl (cI, 30, .inl t3)), ((ad 63), .inl (cI, 30, .inl t4)), ((ad 64), .inl (cI, 30, .inl t5)), ((ad 57), .inl (cI, 64, .inl fk)), ((ad 45), .inl (cI, 1312, .inl fw)), ((ad 69), .inl (cI, 96, .inl fbm))] H := hP
        replace hD : va_D A [(su, .inr (1, [.ref s0, .ref s1, .ref s2, .int 0, .int 0, .int 0])), (aD, .inr (5, PF pq sq)), (sq, .inr (1, [.ref z0, .ref z1, .ref z2, .int 0, .int 0, .int 0])), (aT, .inr (8, [.ref tb, .int 0])), (tb, .inl (cB, 1600, .inl fb)), (aR, .inr (6, [.ref rt, .ref aD, .int 0, .int (-1)])), (rt, .inr (9, [.ref aT, .ref to, .int 0, .int 0, .int 0, .long 0, .int 0])), (fx, .inl (cI, 8, .inl fxf)), (fr, .inl (cI, 64, .inl frf)), (aU, .inr (7, [.ref aF, .ref ul, .int 0, .ref uc, .ref ue])), (r0, .inl (cI, 32, .inl w0)), (mb, .inl (cG, 3, .inr (.inr (.inr (.inr br))))), (b0, .inl (cI, 32, .inl u0)), (b1, .inl (cI, 32, .inl u1)), (b2, .inl (cI, 32, .inl u2)), (mf, .inl (cZ, 3, .inl ff)), (aW, .inr (10, [.ref aM])), (aN, .inr (4, [.ref aF, .int 0, .int 0, .ref n3, .ref n4, .ref n5, .ref n6, .ref n7, .ref n8, .ref n9])), (n3, .inl (cI, 30, .inl g3)), (n4, .inl (cI, 30, .inl g4)), (n5, .inl (cI, 30, .inl g5)), (n6, .inl (cI, 30, .inl g6)), (n7, .inl (cI, 8, .inl fo7)), (am, .inr (12, MF ad 0 0 0 (-1) 0 0 0 0 0 0 0 0 0 0 0 0 0 0 0 0 0)), ((ad 11), .inl (cI, 2, .inl fR)), ((ad 12), .inl (cI, 2, .inl fD)), ((ad 13), .inl (cI, 2, .inl fT)), ((ad 14), .inl (cI, 2, .inl fU)), ((ad 15), .inl (cI, 2, .inl fW)), ((ad 26), .inl (cZ, 2, .inl fS)), ((ad 27), .inl (cZ, 2, .inl fX)), ((ad 42), .inl (cI, 32, .inl fA)), ((ad 70), .inl (cZ, 3, .inl fB)), ((ad 0), .inl (cB, 1620, .inl ft)), ((ad 59), .inl (cI, 30, .inl t0)), ((ad 60), .inl (cI, 30, .inl t1)), ((ad 61), .inl (cI, 30, .inl t2)), ((ad 62), .inl (cI, 30, .inl t3)), ((ad 63), .inl (cI, 30, .inl t4)), ((ad 64), .inl (cI, 30, .inl t5)), ((ad 57), .inl (cI, 64, .inl fk)), ((ad 45), .inl (cI, 1312, .inl fw)), ((ad 69), .inl (cI, 96, .inl fbm))] := hD
        subst hr_132
        refine lv_aload_n hx hb dL_law_608 rfl (lv_at hl 1 rfl) ?_
        have hPc := hP.sub (ws' := [(am, .inr (12, MF ad 0 0 0 (-1) 0 0 0 0 0 0 0 0 0 0 0 0 0 0 0 0 0)), ((ad 42), .inl (cI, 32, .inl fA)), ((ad 45), .inl (cI, 1312, .inl fw)), ((ad 13), .inl (cI, 2, .inl fT))]) [23, 31, 41, 26] rfl
        have hDc := hD.sub (ws' := [(am, .inr (12, MF ad 0 0 0 (-1) 0 0 0 0 0 0 0 0 0 0 0 0 0 0 0 0 0)), ((ad 42), .inl (cI, 32, .inl fA)), ((ad 45), .inl (cI, 1312, .inl fw)), ((ad 13), .inl (cI, 2, .inl fT))]) [23, 31, 41, 26] (by decide) rfl
        have hFc := va_free (wc := [(am, .inr (12, MF ad 0 0 0 (-1) 0 0 0 0 0 0 0 0 0 0 0 0 0 0 0 0 0)), ((ad 42), .inl (cI, 32, .inl fA)), ((ad 45), .inl (cI, 1312, .inl fw)), ((ad 13), .inl (cI, 2, .inl fT))]) hD hS hA [23, 31, 41, 26] rfl
        refine va_calli (va_runV (As := []) (rest := [.int 0]) ⟨hx, hb, hml, hown, hts⟩ (m_day l D cI cB cL cZ am ad 0 0 0 0 0 0 0 0 0 0 0 0 fA fw fT H.size hf_fA_30 hf_fT_0) (cwV 0 hts gL_law_X12_day rfl rfl rfl (by decide +kernel) ⟨Nat.le_of_ble_eq_true rfl, Nat.le_of_ble_eq_true rfl⟩) ⟨xp_blind, va_recv hK hPc (ci := 12) (q0 := 0) rfl rfl, fun U hU hW => xp_mk hU hW hPc (hK.sub (tys' := [(cI, .int), (cB, .byte), (cL, .long), (cZ, .boolean)]) [0, 1, 2, 3] rfl) hDc xNw_nil⟩ rfl rfl hl.1 rfl (lv_room (Nat.le_of_ble_eq_true rfl)) dL_law_609 ⟨Nat.le_of_ble_eq_true rfl, Nat.le_of_ble_eq_true rfl⟩) hS (fun q _ h => hFc q h) hFc (fun r_133 u9 t9 H1 locs ht9 hvm9 hr_133 hB9 hz9 hk9 hS => ?_)
        clear hB9 hz9 hPc hDc
        obtain ⟨hP, hD⟩ := va_join (wr := [(su, .inr (1, [.ref s0, .ref s1, .ref s2, .int 0, .int 0, .int 0])), (aD, .inr (5, PF pq sq)), (sq, .inr (1, [.ref z0, .ref z1, .ref z2, .int 0, .int 0, .int 0])), (aT, .inr (8, [.ref tb, .int 0])), (tb, .inl (cB, 1600, .inl fb)), (aR, .inr (6, [.ref rt, .ref aD, .int 0, .int (-1)])), (rt, .inr (9, [.ref aT, .ref to, .int 0, .int 0, .int 0, .long 0, .int 0])), (fx, .inl (cI, 8, .inl fxf)), (fr, .inl (cI, 64, .inl frf)), (aU, .inr (7, [.ref aF, .ref ul, .int 0, .ref uc, .ref ue])), (r0, .inl (cI, 32, .inl w0)), (mb, .inl (cG, 3, .inr (.inr (.inr (.inr br))))), (b0, .inl (cI, 32, .inl u0)), (b1, .inl (cI, 32, .inl u1)), (b2, .inl (cI, 32, .inl u2)), (mf, .inl (cZ, 3, .inl ff)), (aW, .inr (10, [.ref aM])), (aN, .inr (4, [.ref aF, .int 0, .int 0, .ref n3, .ref n4, .ref n5, .ref n6, .ref n7, .ref n8, .ref n9])), (n3, .inl (cI, 30, .inl g3)), (n4, .inl (cI, 30, .inl g4)), (n5, .inl (cI, 30, .inl g5)), (n6, .inl (cI, 30, .inl g6)), (n7, .inl (cI, 8, .inl fo7)), ((ad 11), .inl (cI, 2, .inl fR)), ((ad 12), .inl (cI, 2, .inl fD)), ((ad 14), .inl (cI, 2, .inl fU)), ((ad 15), .inl (cI, 2, .inl fW)), ((ad 26), .inl (cZ, 2, .inl fS)), ((ad 27), .inl (cZ, 2, .inl fX)), ((ad 70), .inl (cZ, 3, .inl fB)), ((ad 0), .inl (cB, 1620, .inl ft)), ((ad 59), .inl (cI, 30, .inl t0)), ((ad 60), .inl (cI, 30, .inl t1)), ((ad 61), .inl (cI, 30, .inl t2)), ((ad 62), .inl (cI, 30, .inl t3)), ((ad 63), .inl (cI, 30, .inl t4)), ((ad 64), .inl (cI, 30, .inl t5)), ((ad 57), .inl (cI, 64, .inl fk)), ((ad 69), .inl (cI, 96, .inl fbm))]) (w1 := []) hP hD [23, 31, 41, 26] [0, 1, 2, 3, 4, 5, 6, 7, 8, 9, 10, 11, 12, 13, 14, 15, 16, 17, 18, 19, 20, 21, 22, 24, 25, 27, 28, 29, 30, 32, 33, 34, 35, 36, 37, 38, 39, 40, 42] rfl rfl (by decide) (by decide) hk9 hFc (fun k q h => by simp at h) ⟨fun i j p q h => by simp at h, fun k q h => by simp at h⟩
        clear hk9 hFc ht9 hvm9
        generalize H1 = H at hP hS ⊢
        replace hP : va_P D classes [(su, .inr (1, [.ref s0, .ref s1, .ref s2, .int 0, .int 0, .int 0])), (aD, .inr (5, PF pq sq)), (sq, .inr (1, [.ref z0, .ref z1, .ref z2, .int 0, .int 0, .int 0])), (aT, .inr (8, [.ref tb, .int 0])), (tb, .inl (cB, 1600, .inl fb)), (aR, .inr (6, [.ref rt, .ref aD, .int 0, .int (-1)])), (rt, .inr (9, [.ref aT, .ref to, .int 0, .int 0, .int 0, .long 0, .int 0])), (fx, .inl (cI, 8, .inl fxf)), (fr, .inl (cI, 64, .inl frf)), (aU, .inr (7, [.ref aF, .ref ul, .int 0, .ref uc, .ref ue])), (r0, .inl (cI, 32, .inl w0)), (mb, .inl (cG, 3, .inr (.inr (.inr (.inr br))))), (b0, .inl (cI, 32, .inl u0)), (b1, .inl (cI, 32, .inl u1)), (b2, .inl (cI, 32, .inl u2)), (mf, .inl (cZ, 3, .inl ff)), (aW, .inr (10, [.ref aM])), (aN, .inr (4, [.ref aF, .int 0, .int 0, .ref n3, .ref n4, .ref n5, .ref n6, .ref n7, .ref n8, .ref n9])), (n3, .inl (cI, 30, .inl g3)), (n4, .inl (cI, 30, .inl g4)), (n5, .inl (cI, 30, .inl g5)), (n6, .inl (cI, 30, .inl g6)), (n7, .inl (cI, 8, .inl fo7)), ((ad 11), .inl (cI, 2, .inl fR)), ((ad 12), .inl (cI, 2, .inl fD)), ((ad 14), .inl (cI, 2, .inl fU)), ((ad 15), .inl (cI, 2, .inl fW)), ((ad 26), .inl (cZ, 2, .inl fS)), ((ad 27), .inl (cZ, 2, .inl fX)), ((ad 70), .inl (cZ, 3, .inl fB)), ((ad 0), .inl (cB, 1620, .inl ft)), ((ad 59), .inl (cI, 30, .inl t0)), ((ad 60), .inl (cI, 30, .inl t1)), ((ad 61), .inl (cI, 30, .inl t2)), ((ad 62), .inl (cI, 30, .inl t3)), ((ad 63), .inl (cI, 30, .inl t4)), ((ad 64), .inl (cI, 30, .inl t5)), ((ad 57), .inl (cI, 64, .inl fk)), ((ad 69), .inl (cI, 96, .inl fbm))] H := hP
        replace hD : va_D A [(su, .inr (1, [.ref s0, .ref s1, .ref s2, .int 0, .int 0, .int 0])), (aD, .inr (5, PF pq sq)), (sq, .inr (1, [.ref z0, .ref z1, .ref z2, .int 0, .int 0, .int 0])), (aT, .inr (8, [.ref tb, .int 0])), (tb, .inl (cB, 1600, .inl fb)), (aR, .inr (6, [.ref rt, .ref aD, .int 0, .int (-1)])), (rt, .inr (9, [.ref aT, .ref to, .int 0, .int 0, .int 0, .long 0, .int 0])), (fx, .inl (cI, 8, .inl fxf)), (fr, .inl (cI, 64, .inl frf)), (aU, .inr (7, [.ref aF, .ref ul, .int 0, .ref uc, .ref ue])), (r0, .inl (cI, 32, .inl w0)), (mb, .inl (cG, 3, .inr (.inr (.inr (.inr br))))), (b0, .inl (cI, 32, .inl u0)), (b1, .inl (cI, 32, .inl u1)), (b2, .inl (cI, 32, .inl u2)), (mf, .inl (cZ, 3, .inl ff)), (aW, .inr (10, [.ref aM])), (aN, .inr (4, [.ref aF, .int 0, .int 0, .ref n3, .ref n4, .ref n5, .ref n6, .ref n7, .ref n8, .ref n9])), (n3, .inl (cI, 30, .inl g3)), (n4, .inl (cI, 30, .inl g4)), (n5, .inl (cI, 30, .inl g5)), (n6, .inl (cI, 30, .inl g6)), (n7, .inl (cI, 8, .inl fo7)), ((ad 11), .inl (cI, 2, .inl fR)), ((ad 12), .inl (cI, 2, .inl fD)), ((ad 14), .inl (cI, 2, .inl fU)), ((ad 15), .inl (cI, 2, .inl fW)), ((ad 26), .inl (cZ, 2, .inl fS)), ((ad 27), .inl (cZ, 2, .inl fX)), ((ad 70), .inl (cZ, 3, .inl fB)), ((ad 0), .inl (cB, 1620, .inl ft)), ((ad 59), .inl (cI, 30, .inl t0)), ((ad 60), .inl (cI, 30, .inl t1)), ((ad 61), .inl (cI, 30, .inl t2)), ((ad 62), .inl (cI, 30, .inl t3)), ((ad 63), .inl (cI, 30, .inl t4)), ((ad 64), .inl (cI, 30, .inl t5)), ((ad 57), .inl (cI, 64, .inl fk)), ((ad 69), .inl (cI, 96, .inl fbm))] := hD
        subst hr_133
        refine lv_icmp_eq (tgt := 1570) hx hb dL_law_612 (by decide) (fun _ => ?_) (fun c_134 => absurd (by decide) c_134)
        refine lv_iinc (v := 6) (lv' := [(3, .int 6), (2, .ref am), (1, .ref a0), (0, .ref b)]) hx hb dL_law_1570 hl (k := 0) rfl (by decide) (by decide) rfl (fun ls hl => ?_)
        refine lv_goto (tgt := 18) hx hb dL_law_1573 (by decide) ?_
        refine lv_iload_n hx hb dL_law_18 rfl (lv_at hl 0 rfl) ?_
        refine lv_aload_n hx hb dL_law_19 rfl (lv_at hl 3 rfl) ?_
        refine va_slen hx hb hX hbl hbA hS dL_law_20 ?_
        refine lv_topi (fun y_135 ey_135 => ?_)
        obtain rfl : y_135 = 6 := ey_135.trans (by decide)
        refine lv_bipush (v := 6) hx hb dL_law_21 (by decide) ?_
        refine lv_isub hx hb dL_law_23 ?_
        refine lv_topi (fun y_136 ey_136 => ?_)
        obtain rfl : y_136 = 0 := ey_136.trans (by decide)
        refine lv_icmp_gt (tgt := 1576) hx hb dL_law_24 (by decide) (fun _ => ?_) (fun c_137 => absurd (by decide) c_137)
        refine lv_iconst (v := 1) hx hb dL_law_1576 (by decide) ?_
        refine va_forget (fun q hq => by have h := hS.2.2 q hq; rw [hAe] at h; exact h) ?_
        refine W.widen (k := 600000) (n := 7302250) (Nat.le_of_ble_eq_true rfl) (Nat.le_of_ble_eq_true rfl) ?_
        exact lw_ret hx hb hr hlocks dL_law_1577
      · refine lv_tableIn (off := 584) (tgt := 617) hx hb dL_law_33 (by decide) (by decide) (by decide) (by decide) ?_
        refine lv_aload_n hx hb dL_law_617 rfl (lv_at hl 2 rfl) ?_
        have hPc := hP.sub (ws' := [(a0, .inr (11, [.ref aP, .ref aD, .ref aT, .ref aR, .ref aF, .ref aU, .ref aH, .ref aM, .ref aW, .ref aN])), (aM, .inr (3, [.ref aF, .ref mo, .ref ma, .ref mk, .int 0, .int 0, .int 0, .ref mb, .ref mf]))]) [0, 13] rfl
        refine vp_callSi (va_runV (As := []) (rest := []) ⟨hx, hb, hml, hown, hts⟩ (c_undo l D cI cB cL cZ a0 aP aD aT aR aF aU aH aM aW aN aF mo ma mk mb mf) (cwV 0 hts gL_law_X11_undo rfl rfl rfl (by decide +kernel) ⟨Nat.le_of_ble_eq_true rfl, Nat.le_of_ble_eq_true rfl⟩) ⟨xr_blind, va_recv hK hPc (ci := 11) (q0 := 0) rfl rfl, fun U hU hW => xr_mk hU hW hPc (hK.sub (tys' := [(cI, .int), (cB, .byte), (cL, .long), (cZ, .boolean)]) [0, 1, 2, 3] rfl)⟩ rfl rfl hl.1 rfl (lv_room (Nat.le_of_ble_eq_true rfl)) dL_law_618 ⟨Nat.le_of_ble_eq_true rfl, Nat.le_of_ble_eq_true rfl⟩).run (fun r_138 hr_138 => ?_)
        clear hPc
        subst hr_138
        refine lv_aload_n hx hb dL_law_621 rfl (lv_at hl 1 rfl) ?_
        have hPc := hP.sub (ws' := [(am, .inr (12, MF ad 0 0 0 (-1) 0 0 0 0 0 0 0 0 0 0 0 0 0 0 0 0 0))]) [30] rfl
        refine vp_callSi (va_runV (As := []) (rest := [.int 0]) ⟨hx, hb, hml, hown, hts⟩ (m_undo l D cI cB cL cZ am ad 0 0 0 0 0 0 0 0 0 0 0 0) (cwV 0 hts gL_law_X12_undo rfl rfl rfl (by decide +kernel) ⟨Nat.le_of_ble_eq_true rfl, Nat.le_of_ble_eq_true rfl⟩) ⟨xr_blind, va_recv hK hPc (ci := 12) (q0 := 0) rfl rfl, fun U hU hW => xr_mk hU hW hPc (hK.sub (tys' := [(cI, .int), (cB, .byte), (cL, .long), (cZ, .boolean)]) [0, 1, 2, 3] rfl)⟩ rfl rfl hl.1 rfl (lv_room (Nat.le_of_ble_eq_true rfl)) dL_law_622 ⟨Nat.le_of_ble_eq_true rfl, Nat.le_of_ble_eq_true rfl⟩).run (fun r_139 hr_139 => ?_)
        clear hPc
        subst hr_139
        refine lv_icmp_eq (tgt := 1570) hx hb dL_law_625 (by decide) (fun _ => ?_) (fun c_140 => absurd (by decide) c_140)
        refine lv_iinc (v := 6) (lv' := [(3, .int 6), (2, .ref am), (1, .ref a0), (0, .ref b)]) hx hb dL_law_1570 hl (k := 0) rfl (by decide) (by decide) rfl (fun ls hl => ?_)
        refine lv_goto (tgt := 18) hx hb dL_law_1573 (by decide) ?_
        refine lv_iload_n hx hb dL_law_18 rfl (lv_at hl 0 rfl) ?_
        refine lv_aload_n hx hb dL_law_19 rfl (lv_at hl 3 rfl) ?_
        refine va_slen hx hb hX hbl hbA hS dL_law_20 ?_
        refine lv_topi (fun y_141 ey_141 => ?_)
        obtain rfl : y_141 = 6 := ey_141.trans (by decide)
        refine lv_bipush (v := 6) hx hb dL_law_21 (by decide) ?_
        refine lv_isub hx hb dL_law_23 ?_
        refine lv_topi (fun y_142 ey_142 => ?_)
        obtain rfl : y_142 = 0 := ey_142.trans (by decide)
        refine lv_icmp_gt (tgt := 1576) hx hb dL_law_24 (by decide) (fun _ => ?_) (fun c_143 => absurd (by decide) c_143)
        refine lv_iconst (v := 1) hx hb dL_law_1576 (by decide) ?_
        refine va_forget (fun q hq => by have h := hS.2.2 q hq; rw [hAe] at h; exact h) ?_
        refine W.widen (k := 600000) (n := 7302250) (Nat.le_of_ble_eq_true rfl) (Nat.le_of_ble_eq_true rfl) ?_
        exact lw_ret hx hb hr hlocks dL_law_1577
      · refine lv_tableIn (off := 597) (tgt := 630) hx hb dL_law_33 (by decide) (by decide) (by decide) (by decide) ?_
        refine lv_aload_n hx hb dL_law_630 rfl (lv_at hl 2 rfl) ?_
        have hPc := hP.sub (ws' := [(a0, .inr (11, [.ref aP, .ref aD, .ref aT, .ref aR, .ref aF, .ref aU, .ref aH, .ref aM, .ref aW, .ref aN])), (aM, .inr (3, [.ref aF, .ref mo, .ref ma, .ref mk, .int 0, .int 0, .int 0, .ref mb, .ref mf]))]) [0, 13] rfl
        refine vp_callSi (va_runV (As := []) (rest := []) ⟨hx, hb, hml, hown, hts⟩ (c_redo l D cI cB cL cZ a0 aP aD aT aR aF aU aH aM aW aN aF mo ma mk mb mf) (cwV 0 hts gL_law_X11_redo rfl rfl rfl (by decide +kernel) ⟨Nat.le_of_ble_eq_true rfl, Nat.le_of_ble_eq_true rfl⟩) ⟨xr_blind, va_recv hK hPc (ci := 11) (q0 := 0) rfl rfl, fun U hU hW => xr_mk hU hW hPc (hK.sub (tys' := [(cI, .int), (cB, .byte), (cL, .long), (cZ, .boolean)]) [0, 1, 2, 3] rfl)⟩ rfl rfl hl.1 rfl (lv_room (Nat.le_of_ble_eq_true rfl)) dL_law_631 ⟨Nat.le_of_ble_eq_true rfl, Nat.le_of_ble_eq_true rfl⟩).run (fun r_144 hr_144 => ?_)
        clear hPc
        subst hr_144
        refine lv_aload_n hx hb dL_law_634 rfl (lv_at hl 1 rfl) ?_
        have hPc := hP.sub (ws' := [(am, .inr (12, MF ad 0 0 0 (-1) 0 0 0 0 0 0 0 0 0 0 0 0 0 0 0 0 0))]) [30] rfl
        refine vp_callSi (va_runV (As := []) (rest := [.int 0]) ⟨hx, hb, hml, hown, hts⟩ (m_redo l D cI cB cL cZ am ad 0 0 0 0 0 0 0 0 0 0 0 0) (cwV 0 hts gL_law_X12_redo rfl rfl rfl (by decide +kernel) ⟨Nat.le_of_ble_eq_true rfl, Nat.le_of_ble_eq_true rfl⟩) ⟨xr_blind, va_recv hK hPc (ci := 12) (q0 := 0) rfl rfl, fun U hU hW => xr_mk hU hW hPc (hK.sub (tys' := [(cI, .int), (cB, .byte), (cL, .long), (cZ, .boolean)]) [0, 1, 2, 3] rfl)⟩ rfl rfl hl.1 rfl (lv_room (Nat.le_of_ble_eq_true rfl)) dL_law_635 ⟨Nat.le_of_ble_eq_true rfl, Nat.le_of_ble_eq_true rfl⟩).run (fun r_145 hr_145 => ?_)
        clear hPc
        subst hr_145
        refine lv_icmp_eq (tgt := 1570) hx hb dL_law_638 (by decide) (fun _ => ?_) (fun c_146 => absurd (by decide) c_146)
        refine lv_iinc (v := 6) (lv' := [(3, .int 6), (2, .ref am), (1, .ref a0), (0, .ref b)]) hx hb dL_law_1570 hl (k := 0) rfl (by decide) (by decide) rfl (fun ls hl => ?_)
        refine lv_goto (tgt := 18) hx hb dL_law_1573 (by decide) ?_
        refine lv_iload_n hx hb dL_law_18 rfl (lv_at hl 0 rfl) ?_
        refine lv_aload_n hx hb dL_law_19 rfl (lv_at hl 3 rfl) ?_
        refine va_slen hx hb hX hbl hbA hS dL_law_20 ?_
        refine lv_topi (fun y_147 ey_147 => ?_)
        obtain rfl : y_147 = 6 := ey_147.trans (by decide)
        refine lv_bipush (v := 6) hx hb dL_law_21 (by decide) ?_
        refine lv_isub hx hb dL_law_23 ?_
        refine lv_topi (fun y_148 ey_148 => ?_)
        obtain rfl : y_148 = 0 := ey_148.trans (by decide)
        refine lv_icmp_gt (tgt := 1576) hx hb dL_law_24 (by decide) (fun _ => ?_) (fun c_149 => absurd (by decide) c_149)
        refine lv_iconst (v := 1) hx hb dL_law_1576 (by decide) ?_
        refine va_forget (fun q hq => by have h := hS.2.2 q hq; rw [hAe] at h; exact h) ?_
        refine W.widen (k := 600000) (n := 7302250) (Nat.le_of_ble_eq_true rfl) (Nat.le_of_ble_eq_true rfl) ?_
        exact lw_ret hx hb hr hlocks dL_law_1577
      · refine lv_tableIn (off := 610) (tgt := 643) hx hb dL_law_33 (by decide) (by decide) (by decide) (by decide) ?_
        refine lv_aload_n hx hb dL_law_643 rfl (lv_at hl 2 rfl) ?_
        refine lv_aload_n hx hb dL_law_644 rfl (lv_at hl 3 rfl) ?_
        refine lv_iload_n hx hb dL_law_645 rfl (lv_at hl 0 rfl) ?_
        refine lv_iconst (v := 1) hx hb dL_law_646 (by decide) ?_
        refine lv_iadd hx hb dL_law_647 ?_
        refine lv_topi (fun y_150 ey_150 => ?_)
        obtain rfl : y_150 = 1 := ey_150.trans (by decide)
        refine va_sld hx hb hX hbl hbA hS (show vp_in 1 6 from (by decide : ¬ ((1 : Int32) < 0 ∨ 6 ≤ Int32.toNatClampNeg 1))) dL_law_648 ?_
        refine lv_aload_n hx hb dL_law_649 rfl (lv_at hl 3 rfl) ?_
        refine lv_iload_n hx hb dL_law_650 rfl (lv_at hl 0 rfl) ?_
        refine lv_iconst (v := 2) hx hb dL_law_651 (by decide) ?_
        refine lv_iadd hx hb dL_law_652 ?_
        refine lv_topi (fun y_151 ey_151 => ?_)
        obtain rfl : y_151 = 2 := ey_151.trans (by decide)
        refine va_sld hx hb hX hbl hbA hS (show vp_in 2 6 from (by decide : ¬ ((2 : Int32) < 0 ∨ 6 ≤ Int32.toNatClampNeg 2))) dL_law_653 ?_
        have hPc := hP.sub (ws' := [(a0, .inr (11, [.ref aP, .ref aD, .ref aT, .ref aR, .ref aF, .ref aU, .ref aH, .ref aM, .ref aW, .ref aN])), (aP, .inr (5, PF pz su)), (aU, .inr (7, [.ref aF, .ref ul, .int 0, .ref uc, .ref ue]))]) [0, 1, 12] rfl
        have hDc := hD.sub (ws' := [(a0, .inr (11, [.ref aP, .ref aD, .ref aT, .ref aR, .ref aF, .ref aU, .ref aH, .ref aM, .ref aW, .ref aN])), (aP, .inr (5, PF pz su)), (aU, .inr (7, [.ref aF, .ref ul, .int 0, .ref uc, .ref ue]))]) [0, 1, 12] (by decide) rfl
        have hFc := va_free (wc := [(a0, .inr (11, [.ref aP, .ref aD, .ref aT, .ref aR, .ref aF, .ref aU, .ref aH, .ref aM, .ref aW, .ref aN])), (aP, .inr (5, PF pz su)), (aU, .inr (7, [.ref aF, .ref ul, .int 0, .ref uc, .ref ue]))]) hD hS hA [0, 1, 12] rfl
        refine va_calli (va_runV (As := [.int (xs (Int32.toNatClampNeg 1)), .int (xs (Int32.toNatClampNeg 2))]) (rest := []) ⟨hx, hb, hml, hown, hts⟩ (c_way l D cI cB cL cZ a0 aP aD aT aR aF aU aH aM aW aN aF pz su ul uc ue (xs (Int32.toNatClampNeg 1)) (xs (Int32.toNatClampNeg 2)) H.size) (cwV 2 hts gL_law_X11_way rfl rfl rfl (by decide +kernel) ⟨Nat.le_of_ble_eq_true rfl, Nat.le_of_ble_eq_true rfl⟩) ⟨xp_blind, va_recv hK hPc (ci := 11) (q0 := 0) rfl rfl, fun U hU hW => xp_mk hU hW hPc (hK.sub (tys' := [(cI, .int), (cB, .byte), (cL, .long), (cZ, .boolean)]) [0, 1, 2, 3] rfl) hDc xNw_nil⟩ rfl rfl hl.1 rfl (lv_room (Nat.le_of_ble_eq_true rfl)) dL_law_654 ⟨Nat.le_of_ble_eq_true rfl, Nat.le_of_ble_eq_true rfl⟩) hS (fun q _ h => hFc q h) hFc (fun r_152 u9 t9 H1 locs ht9 hvm9 hr_152 hB9 hz9 hk9 hS => ?_)
        clear hB9 hz9 hPc hDc
        obtain ⟨hP, hD⟩ := va_join (wr := [(su, .inr (1, [.ref s0, .ref s1, .ref s2, .int 0, .int 0, .int 0])), (aD, .inr (5, PF pq sq)), (sq, .inr (1, [.ref z0, .ref z1, .ref z2, .int 0, .int 0, .int 0])), (aT, .inr (8, [.ref tb, .int 0])), (tb, .inl (cB, 1600, .inl fb)), (aR, .inr (6, [.ref rt, .ref aD, .int 0, .int (-1)])), (rt, .inr (9, [.ref aT, .ref to, .int 0, .int 0, .int 0, .long 0, .int 0])), (aF, .inr (0, [.ref aP, .ref fx, .ref fr, .ref fe, .int 0])), (fx, .inl (cI, 8, .inl fxf)), (fr, .inl (cI, 64, .inl frf)), (aM, .inr (3, [.ref aF, .ref mo, .ref ma, .ref mk, .int 0, .int 0, .int 0, .ref mb, .ref mf])), (mo, .inl (cI, 32, .inl fn)), (mk, .inl (cG, 41, .inr (.inr (.inr (.inr kr))))), (r0, .inl (cI, 32, .inl w0)), (r1, .inl (cI, 32, .inl w1)), (mb, .inl (cG, 3, .inr (.inr (.inr (.inr br))))), (b0, .inl (cI, 32, .inl u0)), (b1, .inl (cI, 32, .inl u1)), (b2, .inl (cI, 32, .inl u2)), (mf, .inl (cZ, 3, .inl ff)), (aW, .inr (10, [.ref aM])), (aN, .inr (4, [.ref aF, .int 0, .int 0, .ref n3, .ref n4, .ref n5, .ref n6, .ref n7, .ref n8, .ref n9])), (n3, .inl (cI, 30, .inl g3)), (n4, .inl (cI, 30, .inl g4)), (n5, .inl (cI, 30, .inl g5)), (n6, .inl (cI, 30, .inl g6)), (n7, .inl (cI, 8, .inl fo7)), (am, .inr (12, MF ad 0 0 0 (-1) 0 0 0 0 0 0 0 0 0 0 0 0 0 0 0 0 0)), ((ad 11), .inl (cI, 2, .inl fR)), ((ad 12), .inl (cI, 2, .inl fD)), ((ad 13), .inl (cI, 2, .inl fT)), ((ad 14), .inl (cI, 2, .inl fU)), ((ad 15), .inl (cI, 2, .inl fW)), ((ad 26), .inl (cZ, 2, .inl fS)), ((ad 27), .inl (cZ, 2, .inl fX)), ((ad 42), .inl (cI, 32, .inl fA)), ((ad 70), .inl (cZ, 3, .inl fB)), ((ad 0), .inl (cB, 1620, .inl ft)), ((ad 59), .inl (cI, 30, .inl t0)), ((ad 60), .inl (cI, 30, .inl t1)), ((ad 61), .inl (cI, 30, .inl t2)), ((ad 62), .inl (cI, 30, .inl t3)), ((ad 63), .inl (cI, 30, .inl t4)), ((ad 64), .inl (cI, 30, .inl t5)), ((ad 57), .inl (cI, 64, .inl fk)), ((ad 45), .inl (cI, 1312, .inl fw)), ((ad 69), .inl (cI, 96, .inl fbm))]) (w1 := []) hP hD [0, 1, 12] [2, 3, 4, 5, 6, 7, 8, 9, 10, 11, 13, 14, 15, 16, 17, 18, 19, 20, 21, 22, 23, 24, 25, 26, 27, 28, 29, 30, 31, 32, 33, 34, 35, 36, 37, 38, 39, 40, 41, 42, 43, 44, 45, 46, 47, 48, 49] rfl rfl (by decide) (by decide) hk9 hFc (fun k q h => by simp at h) ⟨fun i j p q h => by simp at h, fun k q h => by simp at h⟩
        clear hk9 hFc ht9 hvm9
        generalize H1 = H at hP hS ⊢
        replace hP : va_P D classes [(su, .inr (1, [.ref s0, .ref s1, .ref s2, .int 0, .int 0, .int 0])), (aD, .inr (5, PF pq sq)), (sq, .inr (1, [.ref z0, .ref z1, .ref z2, .int 0, .int 0, .int 0])), (aT, .inr (8, [.ref tb, .int 0])), (tb, .inl (cB, 1600, .inl fb)), (aR, .inr (6, [.ref rt, .ref aD, .int 0, .int (-1)])), (rt, .inr (9, [.ref aT, .ref to, .int 0, .int 0, .int 0, .long 0, .int 0])), (aF, .inr (0, [.ref aP, .ref fx, .ref fr, .ref fe, .int 0])), (fx, .inl (cI, 8, .inl fxf)), (fr, .inl (cI, 64, .inl frf)), (aM, .inr (3, [.ref aF, .ref mo, .ref ma, .ref mk, .int 0, .int 0, .int 0, .ref mb, .ref mf])), (mo, .inl (cI, 32, .inl fn)), (mk, .inl (cG, 41, .inr (.inr (.inr (.inr kr))))), (r0, .inl (cI, 32, .inl w0)), (r1, .inl (cI, 32, .inl w1)), (mb, .inl (cG, 3, .inr (.inr (.inr (.inr br))))), (b0, .inl (cI, 32, .inl u0)), (b1, .inl (cI, 32, .inl u1)), (b2, .inl (cI, 32, .inl u2)), (mf, .inl (cZ, 3, .inl ff)), (aW, .inr (10, [.ref aM])), (aN, .inr (4, [.ref aF, .int 0, .int 0, .ref n3, .ref n4, .ref n5, .ref n6, .ref n7, .ref n8, .ref n9])), (n3, .inl (cI, 30, .inl g3)), (n4, .inl (cI, 30, .inl g4)), (n5, .inl (cI, 30, .inl g5)), (n6, .inl (cI, 30, .inl g6)), (n7, .inl (cI, 8, .inl fo7)), (am, .inr (12, MF ad 0 0 0 (-1) 0 0 0 0 0 0 0 0 0 0 0 0 0 0 0 0 0)), ((ad 11), .inl (cI, 2, .inl fR)), ((ad 12), .inl (cI, 2, .inl fD)), ((ad 13), .inl (cI, 2, .inl fT)), ((ad 14), .inl (cI, 2, .inl fU)), ((ad 15), .inl (cI, 2, .inl fW)), ((ad 26), .inl (cZ, 2, .inl fS)), ((ad 27), .inl (cZ, 2, .inl fX)), ((ad 42), .inl (cI, 32, .inl fA)), ((ad 70), .inl (cZ, 3, .inl fB)), ((ad 0), .inl (cB, 1620, .inl ft)), ((ad 59), .inl (cI, 30, .inl t0)), ((ad 60), .inl (cI, 30, .inl t1)), ((ad 61), .inl (cI, 30, .inl t2)), ((ad 62), .inl (cI, 30, .inl t3)), ((ad 63), .inl (cI, 30, .inl t4)), ((ad 64), .inl (cI, 30, .inl t5)), ((ad 57), .inl (cI, 64, .inl fk)), ((ad 45), .inl (cI, 1312, .inl fw)), ((ad 69), .inl (cI, 96, .inl fbm))] H := hP
        replace hD : va_D A [(su, .inr (1, [.ref s0, .ref s1, .ref s2, .int 0, .int 0, .int 0])), (aD, .inr (5, PF pq sq)), (sq, .inr (1, [.ref z0, .ref z1, .ref z2, .int 0, .int 0, .int 0])), (aT, .inr (8, [.ref tb, .int 0])), (tb, .inl (cB, 1600, .inl fb)), (aR, .inr (6, [.ref rt, .ref aD, .int 0, .int (-1)])), (rt, .inr (9, [.ref aT, .ref to, .int 0, .int 0, .int 0, .long 0, .int 0])), (aF, .inr (0, [.ref aP, .ref fx, .ref fr, .ref fe, .int 0])), (fx, .inl (cI, 8, .inl fxf)), (fr, .inl (cI, 64, .inl frf)), (aM, .inr (3, [.ref aF, .ref mo, .ref ma, .ref mk, .int 0, .int 0, .int 0, .ref mb, .ref mf])), (mo, .inl (cI, 32, .inl fn)), (mk, .inl (cG, 41, .inr (.inr (.inr (.inr kr))))), (r0, .inl (cI, 32, .inl w0)), (r1, .inl (cI, 32, .inl w1)), (mb, .inl (cG, 3, .inr (.inr (.inr (.inr br))))), (b0, .inl (cI, 32, .inl u0)), (b1, .inl (cI, 32, .inl u1)), (b2, .inl (cI, 32, .inl u2)), (mf, .inl (cZ, 3, .inl ff)), (aW, .inr (10, [.ref aM])), (aN, .inr (4, [.ref aF, .int 0, .int 0, .ref n3, .ref n4, .ref n5, .ref n6, .ref n7, .ref n8, .ref n9])), (n3, .inl (cI, 30, .inl g3)), (n4, .inl (cI, 30, .inl g4)), (n5, .inl (cI, 30, .inl g5)), (n6, .inl (cI, 30, .inl g6)), (n7, .inl (cI, 8, .inl fo7)), (am, .inr (12, MF ad 0 0 0 (-1) 0 0 0 0 0 0 0 0 0 0 0 0 0 0 0 0 0)), ((ad 11), .inl (cI, 2, .inl fR)), ((ad 12), .inl (cI, 2, .inl fD)), ((ad 13), .inl (cI, 2, .inl fT)), ((ad 14), .inl (cI, 2, .inl fU)), ((ad 15), .inl (cI, 2, .inl fW)), ((ad 26), .inl (cZ, 2, .inl fS)), ((ad 27), .inl (cZ, 2, .inl fX)), ((ad 42), .inl (cI, 32, .inl fA)), ((ad 70), .inl (cZ, 3, .inl fB)), ((ad 0), .inl (cB, 1620, .inl ft)), ((ad 59), .inl (cI, 30, .inl t0)), ((ad 60), .inl (cI, 30, .inl t1)), ((ad 61), .inl (cI, 30, .inl t2)), ((ad 62), .inl (cI, 30, .inl t3)), ((ad 63), .inl (cI, 30, .inl t4)), ((ad 64), .inl (cI, 30, .inl t5)), ((ad 57), .inl (cI, 64, .inl fk)), ((ad 45), .inl (cI, 1312, .inl fw)), ((ad 69), .inl (cI, 96, .inl fbm))] := hD
        subst hr_152
        refine lv_aload_n hx hb dL_law_657 rfl (lv_at hl 1 rfl) ?_
        refine lv_aload_n hx hb dL_law_658 rfl (lv_at hl 3 rfl) ?_
        refine lv_iload_n hx hb dL_law_659 rfl (lv_at hl 0 rfl) ?_
        refine lv_iconst (v := 1) hx hb dL_law_660 (by decide) ?_
        refine lv_iadd hx hb dL_law_661 ?_
        refine lv_topi (fun y_153 ey_153 => ?_)
        obtain rfl : y_153 = 1 := ey_153.trans (by decide)
        refine va_sld hx hb hX hbl hbA hS (show vp_in 1 6 from (by decide : ¬ ((1 : Int32) < 0 ∨ 6 ≤ Int32.toNatClampNeg 1))) dL_law_662 ?_
        refine lv_aload_n hx hb dL_law_663 rfl (lv_at hl 3 rfl) ?_
        refine lv_iload_n hx hb dL_law_664 rfl (lv_at hl 0 rfl) ?_
        refine lv_iconst (v := 2) hx hb dL_law_665 (by decide) ?_
        refine lv_iadd hx hb dL_law_666 ?_
        refine lv_topi (fun y_154 ey_154 => ?_)
        obtain rfl : y_154 = 2 := ey_154.trans (by decide)
        refine va_sld hx hb hX hbl hbA hS (show vp_in 2 6 from (by decide : ¬ ((2 : Int32) < 0 ∨ 6 ≤ Int32.toNatClampNeg 2))) dL_law_667 ?_
        have hPc := hP.sub (ws' := [(am, .inr (12, MF ad 0 0 0 (-1) 0 0 0 0 0 0 0 0 0 0 0 0 0 0 0 0 0)), ((ad 11), .inl (cI, 2, .inl fR))]) [27, 28] rfl
        have hDc := hD.sub (ws' := [(am, .inr (12, MF ad 0 0 0 (-1) 0 0 0 0 0 0 0 0 0 0 0 0 0 0 0 0 0)), ((ad 11), .inl (cI, 2, .inl fR))]) [27, 28] (by decide) rfl
        have hFc := va_free (wc := [(am, .inr (12, MF ad 0 0 0 (-1) 0 0 0 0 0 0 0 0 0 0 0 0 0 0 0 0 0)), ((ad 11), .inl (cI, 2, .inl fR))]) hD hS hA [27, 28] rfl
        refine va_calli (va_runV (As := [.int (xs (Int32.toNatClampNeg 1)), .int (xs (Int32.toNatClampNeg 2))]) (rest := [.int (-1)]) ⟨hx, hb, hml, hown, hts⟩ (m_way l D cI cB cL cZ am ad 0 0 0 0 0 0 0 0 0 0 0 0 fR (xs (Int32.toNatClampNeg 1)) (xs (Int32.toNatClampNeg 2)) H.size hf_fR_0) (cwV 2 hts gL_law_X12_way rfl rfl rfl (by decide +kernel) ⟨Nat.le_of_ble_eq_true rfl, Nat.le_of_ble_eq_true rfl⟩) ⟨xp_blind, va_recv hK hPc (ci := 12) (q0 := 0) rfl rfl, fun U hU hW => xp_mk hU hW hPc (hK.sub (tys' := [(cI, .int), (cB, .byte), (cL, .long), (cZ, .boolean)]) [0, 1, 2, 3] rfl) hDc xNw_nil⟩ rfl rfl hl.1 rfl (lv_room (Nat.le_of_ble_eq_true rfl)) dL_law_668 ⟨Nat.le_of_ble_eq_true rfl, Nat.le_of_ble_eq_true rfl⟩) hS (fun q _ h => hFc q h) hFc (fun r_155 u9 t9 H1 locs ht9 hvm9 hr_155 hB9 hz9 hk9 hS => ?_)
        clear hB9 hz9 hPc hDc
        obtain ⟨hP, hD⟩ := va_join (wr := [(su, .inr (1, [.ref s0, .ref s1, .ref s2, .int 0, .int 0, .int 0])), (aD, .inr (5, PF pq sq)), (sq, .inr (1, [.ref z0, .ref z1, .ref z2, .int 0, .int 0, .int 0])), (aT, .inr (8, [.ref tb, .int 0])), (tb, .inl (cB, 1600, .inl fb)), (aR, .inr (6, [.ref rt, .ref aD, .int 0, .int (-1)])), (rt, .inr (9, [.ref aT, .ref to, .int 0, .int 0, .int 0, .long 0, .int 0])), (aF, .inr (0, [.ref aP, .ref fx, .ref fr, .ref fe, .int 0])), (fx, .inl (cI, 8, .inl fxf)), (fr, .inl (cI, 64, .inl frf)), (aM, .inr (3, [.ref aF, .ref mo, .ref ma, .ref mk, .int 0, .int 0, .int 0, .ref mb, .ref mf])), (mo, .inl (cI, 32, .inl fn)), (mk, .inl (cG, 41, .inr (.inr (.inr (.inr kr))))), (r0, .inl (cI, 32, .inl w0)), (r1, .inl (cI, 32, .inl w1)), (mb, .inl (cG, 3, .inr (.inr (.inr (.inr br))))), (b0, .inl (cI, 32, .inl u0)), (b1, .inl (cI, 32, .inl u1)), (b2, .inl (cI, 32, .inl u2)), (mf, .inl (cZ, 3, .inl ff)), (aW, .inr (10, [.ref aM])), (aN, .inr (4, [.ref aF, .int 0, .int 0, .ref n3, .ref n4, .ref n5, .ref n6, .ref n7, .ref n8, .ref n9])), (n3, .inl (cI, 30, .inl g3)), (n4, .inl (cI, 30, .inl g4)), (n5, .inl (cI, 30, .inl g5)), (n6, .inl (cI, 30, .inl g6)), (n7, .inl (cI, 8, .inl fo7)), ((ad 12), .inl (cI, 2, .inl fD)), ((ad 13), .inl (cI, 2, .inl fT)), ((ad 14), .inl (cI, 2, .inl fU)), ((ad 15), .inl (cI, 2, .inl fW)), ((ad 26), .inl (cZ, 2, .inl fS)), ((ad 27), .inl (cZ, 2, .inl fX)), ((ad 42), .inl (cI, 32, .inl fA)), ((ad 70), .inl (cZ, 3, .inl fB)), ((ad 0), .inl (cB, 1620, .inl ft)), ((ad 59), .inl (cI, 30, .inl t0)), ((ad 60), .inl (cI, 30, .inl t1)), ((ad 61), .inl (cI, 30, .inl t2)), ((ad 62), .inl (cI, 30, .inl t3)), ((ad 63), .inl (cI, 30, .inl t4)), ((ad 64), .inl (cI, 30, .inl t5)), ((ad 57), .inl (cI, 64, .inl fk)), ((ad 45), .inl (cI, 1312, .inl fw)), ((ad 69), .inl (cI, 96, .inl fbm))]) (w1 := []) hP hD [27, 28] [0, 1, 2, 3, 4, 5, 6, 7, 8, 9, 10, 11, 12, 13, 14, 15, 16, 17, 18, 19, 20, 21, 22, 23, 24, 25, 26, 29, 30, 31, 32, 33, 34, 35, 36, 37, 38, 39, 40, 41, 42, 43, 44, 45, 46] rfl rfl (by decide) (by decide) hk9 hFc (fun k q h => by simp at h) ⟨fun i j p q h => by simp at h, fun k q h => by simp at h⟩
        clear hk9 hFc ht9 hvm9
        generalize H1 = H at hP hS ⊢
        replace hP : va_P D classes [(su, .inr (1, [.ref s0, .ref s1, .ref s2, .int 0, .int 0, .int 0])), (aD, .inr (5, PF pq sq)), (sq, .inr (1, [.ref z0, .ref z1, .ref z2, .int 0, .int 0, .int 0])), (aT, .inr (8, [.ref tb, .int 0])), (tb, .inl (cB, 1600, .inl fb)), (aR, .inr (6, [.ref rt, .ref aD, .int 0, .int (-1)])), (rt, .inr (9, [.ref aT, .ref to, .int 0, .int 0, .int 0, .long 0, .int 0])), (aF, .inr (0, [.ref aP, .ref fx, .ref fr, .ref fe, .int 0])), (fx, .inl (cI, 8, .inl fxf)), (fr, .inl (cI, 64, .inl frf)), (aM, .inr (3, [.ref aF, .ref mo, .ref ma, .ref mk, .int 0, .int 0, .int 0, .ref mb, .ref mf])), (mo, .inl (cI, 32, .inl fn)), (mk, .inl (cG, 41, .inr (.inr (.inr (.inr kr))))), (r0, .inl (cI, 32, .inl w0)), (r1, .inl (cI, 32, .inl w1)), (mb, .inl (cG, 3, .inr (.inr (.inr (.inr br))))), (b0, .inl (cI, 32, .inl u0)), (b1, .inl (cI, 32, .inl u1)), (b2, .inl (cI, 32, .inl u2)), (mf, .inl (cZ, 3, .inl ff)), (aW, .inr (10, [.ref aM])), (aN, .inr (4, [.ref aF, .int 0, .int 0, .ref n3, .ref n4, .ref n5, .ref n6, .ref n7, .ref n8, .ref n9])), (n3, .inl (cI, 30, .inl g3)), (n4, .inl (cI, 30, .inl g4)), (n5, .inl (cI, 30, .inl g5)), (n6, .inl (cI, 30, .inl g6)), (n7, .inl (cI, 8, .inl fo7)), ((ad 12), .inl (cI, 2, .inl fD)), ((ad 13), .inl (cI, 2, .inl fT)), ((ad 14), .inl (cI, 2, .inl fU)), ((ad 15), .inl (cI, 2, .inl fW)), ((ad 26), .inl (cZ, 2, .inl fS)), ((ad 27), .inl (cZ, 2, .inl fX)), ((ad 42), .inl (cI, 32, .inl fA)), ((ad 70), .inl (cZ, 3, .inl fB)), ((ad 0), .inl (cB, 1620, .inl ft)), ((ad 59), .inl (cI, 30, .inl t0)), ((ad 60), .inl (cI, 30, .inl t1)), ((ad 61), .inl (cI, 30, .inl t2)), ((ad 62), .inl (cI, 30, .inl t3)), ((ad 63), .inl (cI, 30, .inl t4)), ((ad 64), .inl (cI, 30, .inl t5)), ((ad 57), .inl (cI, 64, .inl fk)), ((ad 45), .inl (cI, 1312, .inl fw)), ((ad 69), .inl (cI, 96, .inl fbm))] H := hP
        replace hD : va_D A [(su, .inr (1, [.ref s0, .ref s1, .ref s2, .int 0, .int 0, .int 0])), (aD, .inr (5, PF pq sq)), (sq, .inr (1, [.ref z0, .ref z1, .ref z2, .int 0, .int 0, .int 0])), (aT, .inr (8, [.ref tb, .int 0])), (tb, .inl (cB, 1600, .inl fb)), (aR, .inr (6, [.ref rt, .ref aD, .int 0, .int (-1)])), (rt, .inr (9, [.ref aT, .ref to, .int 0, .int 0, .int 0, .long 0, .int 0])), (aF, .inr (0, [.ref aP, .ref fx, .ref fr, .ref fe, .int 0])), (fx, .inl (cI, 8, .inl fxf)), (fr, .inl (cI, 64, .inl frf)), (aM, .inr (3, [.ref aF, .ref mo, .ref ma, .ref mk, .int 0, .int 0, .int 0, .ref mb, .ref mf])), (mo, .inl (cI, 32, .inl fn)), (mk, .inl (cG, 41, .inr (.inr (.inr (.inr kr))))), (r0, .inl (cI, 32, .inl w0)), (r1, .inl (cI, 32, .inl w1)), (mb, .inl (cG, 3, .inr (.inr (.inr (.inr br))))), (b0, .inl (cI, 32, .inl u0)), (b1, .inl (cI, 32, .inl u1)), (b2, .inl (cI, 32, .inl u2)), (mf, .inl (cZ, 3, .inl ff)), (aW, .inr (10, [.ref aM])), (aN, .inr (4, [.ref aF, .int 0, .int 0, .ref n3, .ref n4, .ref n5, .ref n6, .ref n7, .ref n8, .ref n9])), (n3, .inl (cI, 30, .inl g3)), (n4, .inl (cI, 30, .inl g4)), (n5, .inl (cI, 30, .inl g5)), (n6, .inl (cI, 30, .inl g6)), (n7, .inl (cI, 8, .inl fo7)), ((ad 12), .inl (cI, 2, .inl fD)), ((ad 13), .inl (cI, 2, .inl fT)), ((ad 14), .inl (cI, 2, .inl fU)), ((ad 15), .inl (cI, 2, .inl fW)), ((ad 26), .inl (cZ, 2, .inl fS)), ((ad 27), .inl (cZ, 2, .inl fX)), ((ad 42), .inl (cI, 32, .inl fA)), ((ad 70), .inl (cZ, 3, .inl fB)), ((ad 0), .inl (cB, 1620, .inl ft)), ((ad 59), .inl (cI, 30, .inl t0)), ((ad 60), .inl (cI, 30, .inl t1)), ((ad 61), .inl (cI, 30, .inl t2)), ((ad 62), .inl (cI, 30, .inl t3)), ((ad 63), .inl (cI, 30, .inl t4)), ((ad 64), .inl (cI, 30, .inl t5)), ((ad 57), .inl (cI, 64, .inl fk)), ((ad 45), .inl (cI, 1312, .inl fw)), ((ad 69), .inl (cI, 96, .inl fbm))] := hD
        subst hr_155
        refine lv_icmp_eq (tgt := 1570) hx hb dL_law_671 (by decide) (fun _ => ?_) (fun c_156 => absurd (by decide) c_156)
        refine lv_iinc (v := 6) (lv' := [(3, .int 6), (2, .ref am), (1, .ref a0), (0, .ref b)]) hx hb dL_law_1570 hl (k := 0) rfl (by decide) (by decide) rfl (fun ls hl => ?_)
        refine lv_goto (tgt := 18) hx hb dL_law_1573 (by decide) ?_
        refine lv_iload_n hx hb dL_law_18 rfl (lv_at hl 0 rfl) ?_
        refine lv_aload_n hx hb dL_law_19 rfl (lv_at hl 3 rfl) ?_
        refine va_slen hx hb hX hbl hbA hS dL_law_20 ?_
        refine lv_topi (fun y_157 ey_157 => ?_)
        obtain rfl : y_157 = 6 := ey_157.trans (by decide)
        refine lv_bipush (v := 6) hx hb dL_law_21 (by decide) ?_
        refine lv_isub hx hb dL_law_23 ?_
        refine lv_topi (fun y_158 ey_158 => ?_)
        obtain rfl : y_158 = 0 := ey_158.trans (by decide)
        refine lv_icmp_gt (tgt := 1576) hx hb dL_law_24 (by decide) (fun _ => ?_) (fun c_159 => absurd (by decide) c_159)
        refine lv_iconst (v := 1) hx hb dL_law_1576 (by decide) ?_
        refine va_forget (fun q hq => by have h := hS.2.2 q hq; rw [hAe] at h; exact h) ?_
        refine W.widen (k := 600000) (n := 7302250) (Nat.le_of_ble_eq_true rfl) (Nat.le_of_ble_eq_true rfl) ?_
        exact lw_ret hx hb hr hlocks dL_law_1577
      · refine lv_tableIn (off := 643) (tgt := 676) hx hb dL_law_33 (by decide) (by decide) (by decide) (by decide) ?_
        refine lv_aload_n hx hb dL_law_676 rfl (lv_at hl 2 rfl) ?_
        refine lv_aload_n hx hb dL_law_677 rfl (lv_at hl 3 rfl) ?_
        refine lv_iload_n hx hb dL_law_678 rfl (lv_at hl 0 rfl) ?_
        refine lv_iconst (v := 1) hx hb dL_law_679 (by decide) ?_
        refine lv_iadd hx hb dL_law_680 ?_
        refine lv_topi (fun y_160 ey_160 => ?_)
        obtain rfl : y_160 = 1 := ey_160.trans (by decide)
        refine va_sld hx hb hX hbl hbA hS (show vp_in 1 6 from (by decide : ¬ ((1 : Int32) < 0 ∨ 6 ≤ Int32.toNatClampNeg 1))) dL_law_681 ?_
        refine lv_aload_n hx hb dL_law_682 rfl (lv_at hl 3 rfl) ?_
        refine lv_iload_n hx hb dL_law_683 rfl (lv_at hl 0 rfl) ?_
        refine lv_iconst (v := 2) hx hb dL_law_684 (by decide) ?_
        refine lv_iadd hx hb dL_law_685 ?_
        refine lv_topi (fun y_161 ey_161 => ?_)
        obtain rfl : y_161 = 2 := ey_161.trans (by decide)
        refine va_sld hx hb hX hbl hbA hS (show vp_in 2 6 from (by decide : ¬ ((2 : Int32) < 0 ∨ 6 ≤ Int32.toNatClampNeg 2))) dL_law_686 ?_
        have hPc := hP.sub (ws' := [(a0, .inr (11, [.ref aP, .ref aD, .ref aT, .ref aR, .ref aF, .ref aU, .ref aH, .ref aM, .ref aW, .ref aN])), (aP, .inr (5, PF pz su)), (aU, .inr (7, [.ref aF, .ref ul, .int 0, .ref uc, .ref ue]))]) [0, 1, 12] rfl
        have hDc := hD.sub (ws' := [(a0, .inr (11, [.ref aP, .ref aD, .ref aT, .ref aR, .ref aF, .ref aU, .ref aH, .ref aM, .ref aW, .ref aN])), (aP, .inr (5, PF pz su)), (aU, .inr (7, [.ref aF, .ref ul, .int 0, .ref uc, .ref ue]))]) [0, 1, 12] (by decide) rfl
        have hFc := va_free (wc := [(a0, .inr (11, [.ref aP, .ref aD, .ref aT, .ref aR, .ref aF, .ref aU, .ref aH, .ref aM, .ref aW, .ref aN])), (aP, .inr (5, PF pz su)), (aU, .inr (7, [.ref aF, .ref ul, .int 0, .ref uc, .ref ue]))]) hD hS hA [0, 1, 12] rfl
        refine va_calli (va_runV (As := [.int (xs (Int32.toNatClampNeg 1)), .int (xs (Int32.toNatClampNeg 2))]) (rest := []) ⟨hx, hb, hml, hown, hts⟩ (c_quiet l D cI cB cL cZ a0 aP aD aT aR aF aU aH aM aW aN aF pz su ul uc ue (xs (Int32.toNatClampNeg 1)) (xs (Int32.toNatClampNeg 2)) H.size) (cwV 2 hts gL_law_X11_quiet rfl rfl rfl (by decide +kernel) ⟨Nat.le_of_ble_eq_true rfl, Nat.le_of_ble_eq_true rfl⟩) ⟨xp_blind, va_recv hK hPc (ci := 11) (q0 := 0) rfl rfl, fun U hU hW => xp_mk hU hW hPc (hK.sub (tys' := [(cI, .int), (cB, .byte), (cL, .long), (cZ, .boolean)]) [0, 1, 2, 3] rfl) hDc xNw_nil⟩ rfl rfl hl.1 rfl (lv_room (Nat.le_of_ble_eq_true rfl)) dL_law_687 ⟨Nat.le_of_ble_eq_true rfl, Nat.le_of_ble_eq_true rfl⟩) hS (fun q _ h => hFc q h) hFc (fun r_162 u9 t9 H1 locs ht9 hvm9 hr_162 hB9 hz9 hk9 hS => ?_)
        clear hB9 hz9 hPc hDc
        obtain ⟨hP, hD⟩ := va_join (wr := [(su, .inr (1, [.ref s0, .ref s1, .ref s2, .int 0, .int 0, .int 0])), (aD, .inr (5, PF pq sq)), (sq, .inr (1, [.ref z0, .ref z1, .ref z2, .int 0, .int 0, .int 0])), (aT, .inr (8, [.ref tb, .int 0])), (tb, .inl (cB, 1600, .inl fb)), (aR, .inr (6, [.ref rt, .ref aD, .int 0, .int (-1)])), (rt, .inr (9, [.ref aT, .ref to, .int 0, .int 0, .int 0, .long 0, .int 0])), (aF, .inr (0, [.ref aP, .ref fx, .ref fr, .ref fe, .int 0])), (fx, .inl (cI, 8, .inl fxf)), (fr, .inl (cI, 64, .inl frf)), (aM, .inr (3, [.ref aF, .ref mo, .ref ma, .ref mk, .int 0, .int 0, .int 0, .ref mb, .ref mf])), (mo, .inl (cI, 32, .inl fn)), (mk, .inl (cG, 41, .inr (.inr (.inr (.inr kr))))), (r0, .inl (cI, 32, .inl w0)), (r1, .inl (cI, 32, .inl w1)), (mb, .inl (cG, 3, .inr (.inr (.inr (.inr br))))), (b0, .inl (cI, 32, .inl u0)), (b1, .inl (cI, 32, .inl u1)), (b2, .inl (cI, 32, .inl u2)), (mf, .inl (cZ, 3, .inl ff)), (aW, .inr (10, [.ref aM])), (aN, .inr (4, [.ref aF, .int 0, .int 0, .ref n3, .ref n4, .ref n5, .ref n6, .ref n7, .ref n8, .ref n9])), (n3, .inl (cI, 30, .inl g3)), (n4, .inl (cI, 30, .inl g4)), (n5, .inl (cI, 30, .inl g5)), (n6, .inl (cI, 30, .inl g6)), (n7, .inl (cI, 8, .inl fo7)), (am, .inr (12, MF ad 0 0 0 (-1) 0 0 0 0 0 0 0 0 0 0 0 0 0 0 0 0 0)), ((ad 11), .inl (cI, 2, .inl fR)), ((ad 12), .inl (cI, 2, .inl fD)), ((ad 13), .inl (cI, 2, .inl fT)), ((ad 14), .inl (cI, 2, .inl fU)), ((ad 15), .inl (cI, 2, .inl fW)), ((ad 26), .inl (cZ, 2, .inl fS)), ((ad 27), .inl (cZ, 2, .inl fX)), ((ad 42), .inl (cI, 32, .inl fA)), ((ad 70), .inl (cZ, 3, .inl fB)), ((ad 0), .inl (cB, 1620, .inl ft)), ((ad 59), .inl (cI, 30, .inl t0)), ((ad 60), .inl (cI, 30, .inl t1)), ((ad 61), .inl (cI, 30, .inl t2)), ((ad 62), .inl (cI, 30, .inl t3)), ((ad 63), .inl (cI, 30, .inl t4)), ((ad 64), .inl (cI, 30, .inl t5)), ((ad 57), .inl (cI, 64, .inl fk)), ((ad 45), .inl (cI, 1312, .inl fw)), ((ad 69), .inl (cI, 96, .inl fbm))]) (w1 := []) hP hD [0, 1, 12] [2, 3, 4, 5, 6, 7, 8, 9, 10, 11, 13, 14, 15, 16, 17, 18, 19, 20, 21, 22, 23, 24, 25, 26, 27, 28, 29, 30, 31, 32, 33, 34, 35, 36, 37, 38, 39, 40, 41, 42, 43, 44, 45, 46, 47, 48, 49] rfl rfl (by decide) (by decide) hk9 hFc (fun k q h => by simp at h) ⟨fun i j p q h => by simp at h, fun k q h => by simp at h⟩
        clear hk9 hFc ht9 hvm9
        generalize H1 = H at hP hS ⊢
        replace hP : va_P D classes [(su, .inr (1, [.ref s0, .ref s1, .ref s2, .int 0, .int 0, .int 0])), (aD, .inr (5, PF pq sq)), (sq, .inr (1, [.ref z0, .ref z1, .ref z2, .int 0, .int 0, .int 0])), (aT, .inr (8, [.ref tb, .int 0])), (tb, .inl (cB, 1600, .inl fb)), (aR, .inr (6, [.ref rt, .ref aD, .int 0, .int (-1)])), (rt, .inr (9, [.ref aT, .ref to, .int 0, .int 0, .int 0, .long 0, .int 0])), (aF, .inr (0, [.ref aP, .ref fx, .ref fr, .ref fe, .int 0])), (fx, .inl (cI, 8, .inl fxf)), (fr, .inl (cI, 64, .inl frf)), (aM, .inr (3, [.ref aF, .ref mo, .ref ma, .ref mk, .int 0, .int 0, .int 0, .ref mb, .ref mf])), (mo, .inl (cI, 32, .inl fn)), (mk, .inl (cG, 41, .inr (.inr (.inr (.inr kr))))), (r0, .inl (cI, 32, .inl w0)), (r1, .inl (cI, 32, .inl w1)), (mb, .inl (cG, 3, .inr (.inr (.inr (.inr br))))), (b0, .inl (cI, 32, .inl u0)), (b1, .inl (cI, 32, .inl u1)), (b2, .inl (cI, 32, .inl u2)), (mf, .inl (cZ, 3, .inl ff)), (aW, .inr (10, [.ref aM])), (aN, .inr (4, [.ref aF, .int 0, .int 0, .ref n3, .ref n4, .ref n5, .ref n6, .ref n7, .ref n8, .ref n9])), (n3, .inl (cI, 30, .inl g3)), (n4, .inl (cI, 30, .inl g4)), (n5, .inl (cI, 30, .inl g5)), (n6, .inl (cI, 30, .inl g6)), (n7, .inl (cI, 8, .inl fo7)), (am, .inr (12, MF ad 0 0 0 (-1) 0 0 0 0 0 0 0 0 0 0 0 0 0 0 0 0 0)), ((ad 11), .inl (cI, 2, .inl fR)), ((ad 12), .inl (cI, 2, .inl fD)), ((ad 13), .inl (cI, 2, .inl fT)), ((ad 14), .inl (cI, 2, .inl fU)), ((ad 15), .inl (cI, 2, .inl fW)), ((ad 26), .inl (cZ, 2, .inl fS)), ((ad 27), .inl (cZ, 2, .inl fX)), ((ad 42), .inl (cI, 32, .inl fA)), ((ad 70), .inl (cZ, 3, .inl fB)), ((ad 0), .inl (cB, 1620, .inl ft)), ((ad 59), .inl (cI, 30, .inl t0)), ((ad 60), .inl (cI, 30, .inl t1)), ((ad 61), .inl (cI, 30, .inl t2)), ((ad 62), .inl (cI, 30, .inl t3)), ((ad 63), .inl (cI, 30, .inl t4)), ((ad 64), .inl (cI, 30, .inl t5)), ((ad 57), .inl (cI, 64, .inl fk)), ((ad 45), .inl (cI, 1312, .inl fw)), ((ad 69), .inl (cI, 96, .inl fbm))] H := hP
        replace hD : va_D A [(su, .inr (1, [.ref s0, .ref s1, .ref s2, .int 0, .int 0, .int 0])), (aD, .inr (5, PF pq sq)), (sq, .inr (1, [.ref z0, .ref z1, .ref z2, .int 0, .int 0, .int 0])), (aT, .inr (8, [.ref tb, .int 0])), (tb, .inl (cB, 1600, .inl fb)), (aR, .inr (6, [.ref rt, .ref aD, .int 0, .int (-1)])), (rt, .inr (9, [.ref aT, .ref to, .int 0, .int 0, .int 0, .long 0, .int 0])), (aF, .inr (0, [.ref aP, .ref fx, .ref fr, .ref fe, .int 0])), (fx, .inl (cI, 8, .inl fxf)), (fr, .inl (cI, 64, .inl frf)), (aM, .inr (3, [.ref aF, .ref mo, .ref ma, .ref mk, .int 0, .int 0, .int 0, .ref mb, .ref mf])), (mo, .inl (cI, 32, .inl fn)), (mk, .inl (cG, 41, .inr (.inr (.inr (.inr kr))))), (r0, .inl (cI, 32, .inl w0)), (r1, .inl (cI, 32, .inl w1)), (mb, .inl (cG, 3, .inr (.inr (.inr (.inr br))))), (b0, .inl (cI, 32, .inl u0)), (b1, .inl (cI, 32, .inl u1)), (b2, .inl (cI, 32, .inl u2)), (mf, .inl (cZ, 3, .inl ff)), (aW, .inr (10, [.ref aM])), (aN, .inr (4, [.ref aF, .int 0, .int 0, .ref n3, .ref n4, .ref n5, .ref n6, .ref n7, .ref n8, .ref n9])), (n3, .inl (cI, 30, .inl g3)), (n4, .inl (cI, 30, .inl g4)), (n5, .inl (cI, 30, .inl g5)), (n6, .inl (cI, 30, .inl g6)), (n7, .inl (cI, 8, .inl fo7)), (am, .inr (12, MF ad 0 0 0 (-1) 0 0 0 0 0 0 0 0 0 0 0 0 0 0 0 0 0)), ((ad 11), .inl (cI, 2, .inl fR)), ((ad 12), .inl (cI, 2, .inl fD)), ((ad 13), .inl (cI, 2, .inl fT)), ((ad 14), .inl (cI, 2, .inl fU)), ((ad 15), .inl (cI, 2, .inl fW)), ((ad 26), .inl (cZ, 2, .inl fS)), ((ad 27), .inl (cZ, 2, .inl fX)), ((ad 42), .inl (cI, 32, .inl fA)), ((ad 70), .inl (cZ, 3, .inl fB)), ((ad 0), .inl (cB, 1620, .inl ft)), ((ad 59), .inl (cI, 30, .inl t0)), ((ad 60), .inl (cI, 30, .inl t1)), ((ad 61), .inl (cI, 30, .inl t2)), ((ad 62), .inl (cI, 30, .inl t3)), ((ad 63), .inl (cI, 30, .inl t4)), ((ad 64), .inl (cI, 30, .inl t5)), ((ad 57), .inl (cI, 64, .inl fk)), ((ad 45), .inl (cI, 1312, .inl fw)), ((ad 69), .inl (cI, 96, .inl fbm))] := hD
        subst hr_162
        refine lv_aload_n hx hb dL_law_690 rfl (lv_at hl 1 rfl) ?_
        refine lv_aload_n hx hb dL_law_691 rfl (lv_at hl 3 rfl) ?_
        refine lv_iload_n hx hb dL_law_692 rfl (lv_at hl 0 rfl) ?_
        refine lv_iconst (v := 1) hx hb dL_law_693 (by decide) ?_
        refine lv_iadd hx hb dL_law_694 ?_
        refine lv_topi (fun y_163 ey_163 => ?_)
        obtain rfl : y_163 = 1 := ey_163.trans (by decide)
        refine va_sld hx hb hX hbl hbA hS (show vp_in 1 6 from (by decide : ¬ ((1 : Int32) < 0 ∨ 6 ≤ Int32.toNatClampNeg 1))) dL_law_695 ?_
        refine lv_aload_n hx hb dL_law_696 rfl (lv_at hl 3 rfl) ?_
        refine lv_iload_n hx hb dL_law_697 rfl (lv_at hl 0 rfl) ?_
        refine lv_iconst (v := 2) hx hb dL_law_698 (by decide) ?_
        refine lv_iadd hx hb dL_law_699 ?_
        refine lv_topi (fun y_164 ey_164 => ?_)
        obtain rfl : y_164 = 2 := ey_164.trans (by decide)
        refine va_sld hx hb hX hbl hbA hS (show vp_in 2 6 from (by decide : ¬ ((2 : Int32) < 0 ∨ 6 ≤ Int32.toNatClampNeg 2))) dL_law_700 ?_
        have hPc := hP.sub (ws' := [(am, .inr (12, MF ad 0 0 0 (-1) 0 0 0 0 0 0 0 0 0 0 0 0 0 0 0 0 0)), ((ad 11), .inl (cI, 2, .inl fR))]) [27, 28] rfl
        have hDc := hD.sub (ws' := [(am, .inr (12, MF ad 0 0 0 (-1) 0 0 0 0 0 0 0 0 0 0 0 0 0 0 0 0 0)), ((ad 11), .inl (cI, 2, .inl fR))]) [27, 28] (by decide) rfl
        have hFc := va_free (wc := [(am, .inr (12, MF ad 0 0 0 (-1) 0 0 0 0 0 0 0 0 0 0 0 0 0 0 0 0 0)), ((ad 11), .inl (cI, 2, .inl fR))]) hD hS hA [27, 28] rfl
        refine va_calli (va_runV (As := [.int (xs (Int32.toNatClampNeg 1)), .int (xs (Int32.toNatClampNeg 2))]) (rest := [.int (-1)]) ⟨hx, hb, hml, hown, hts⟩ (m_quiet l D cI cB cL cZ am ad 0 0 0 0 0 0 0 0 0 0 0 0 fR (xs (Int32.toNatClampNeg 1)) (xs (Int32.toNatClampNeg 2)) H.size hf_fR_0) (cwV 2 hts gL_law_X12_quiet rfl rfl rfl (by decide +kernel) ⟨Nat.le_of_ble_eq_true rfl, Nat.le_of_ble_eq_true rfl⟩) ⟨xp_blind, va_recv hK hPc (ci := 12) (q0 := 0) rfl rfl, fun U hU hW => xp_mk hU hW hPc (hK.sub (tys' := [(cI, .int), (cB, .byte), (cL, .long), (cZ, .boolean)]) [0, 1, 2, 3] rfl) hDc xNw_nil⟩ rfl rfl hl.1 rfl (lv_room (Nat.le_of_ble_eq_true rfl)) dL_law_701 ⟨Nat.le_of_ble_eq_true rfl, Nat.le_of_ble_eq_true rfl⟩) hS (fun q _ h => hFc q h) hFc (fun r_165 u9 t9 H1 locs ht9 hvm9 hr_165 hB9 hz9 hk9 hS => ?_)
        clear hB9 hz9 hPc hDc
        obtain ⟨hP, hD⟩ := va_join (wr := [(su, .inr (1, [.ref s0, .ref s1, .ref s2, .int 0, .int 0, .int 0])), (aD, .inr (5, PF pq sq)), (sq, .inr (1, [.ref z0, .ref z1, .ref z2, .int 0, .int 0, .int 0])), (aT, .inr (8, [.ref tb, .int 0])), (tb, .inl (cB, 1600, .inl fb)), (aR, .inr (6, [.ref rt, .ref aD, .int 0, .int (-1)])), (rt, .inr (9, [.ref aT, .ref to, .int 0, .int 0, .int 0, .long 0, .int 0])), (aF, .inr (0, [.ref aP, .ref fx, .ref fr, .ref fe, .int 0])), (fx, .inl (cI, 8, .inl fxf)), (fr, .inl (cI, 64, .inl frf)), (aM, .inr (3, [.ref aF, .ref mo, .ref ma, .ref mk, .int 0, .int 0, .int 0, .ref mb, .ref mf])), (mo, .inl (cI, 32, .inl fn)), (mk, .inl (cG, 41, .inr (.inr (.inr (.inr kr))))), (r0, .inl (cI, 32, .inl w0)), (r1, .inl (cI, 32, .inl w1)), (mb, .inl (cG, 3, .inr (.inr (.inr (.inr br))))), (b0, .inl (cI, 32, .inl u0)), (b1, .inl (cI, 32, .inl u1)), (b2, .inl (cI, 32, .inl u2)), (mf, .inl (cZ, 3, .inl ff)), (aW, .inr (10, [.ref aM])), (aN, .inr (4, [.ref aF, .int 0, .int 0, .ref n3, .ref n4, .ref n5, .ref n6, .ref n7, .ref n8, .ref n9])), (n3, .inl (cI, 30, .inl g3)), (n4, .inl (cI, 30, .inl g4)), (n5, .inl (cI, 30, .inl g5)), (n6, .inl (cI, 30, .inl g6)), (n7, .inl (cI, 8, .inl fo7)), ((ad 12), .inl (cI, 2, .inl fD)), ((ad 13), .inl (cI, 2, .inl fT)), ((ad 14), .inl (cI, 2, .inl fU)), ((ad 15), .inl (cI, 2, .inl fW)), ((ad 26), .inl (cZ, 2, .inl fS)), ((ad 27), .inl (cZ, 2, .inl fX)), ((ad 42), .inl (cI, 32, .inl fA)), ((ad 70), .inl (cZ, 3, .inl fB)), ((ad 0), .inl (cB, 1620, .inl ft)), ((ad 59), .inl (cI, 30, .inl t0)), ((ad 60), .inl (cI, 30, .inl t1)), ((ad 61), .inl (cI, 30, .inl t2)), ((ad 62), .inl (cI, 30, .inl t3)), ((ad 63), .inl (cI, 30, .inl t4)), ((ad 64), .inl (cI, 30, .inl t5)), ((ad 57), .inl (cI, 64, .inl fk)), ((ad 45), .inl (cI, 1312, .inl fw)), ((ad 69), .inl (cI, 96, .inl fbm))]) (w1 := []) hP hD [27, 28] [0, 1, 2, 3, 4, 5, 6, 7, 8, 9, 10, 11, 12, 13, 14, 15, 16, 17, 18, 19, 20, 21, 22, 23, 24, 25, 26, 29, 30, 31, 32, 33, 34, 35, 36, 37, 38, 39, 40, 41, 42, 43, 44, 45, 46] rfl rfl (by decide) (by decide) hk9 hFc (fun k q h => by simp at h) ⟨fun i j p q h => by simp at h, fun k q h => by simp at h⟩
        clear hk9 hFc ht9 hvm9
        generalize H1 = H at hP hS ⊢
        replace hP : va_P D classes [(su, .inr (1, [.ref s0, .ref s1, .ref s2, .int 0, .int 0, .int 0])), (aD, .inr (5, PF pq sq)), (sq, .inr (1, [.ref z0, .ref z1, .ref z2, .int 0, .int 0, .int 0])), (aT, .inr (8, [.ref tb, .int 0])), (tb, .inl (cB, 1600, .inl fb)), (aR, .inr (6, [.ref rt, .ref aD, .int 0, .int (-1)])), (rt, .inr (9, [.ref aT, .ref to, .int 0, .int 0, .int 0, .long 0, .int 0])), (aF, .inr (0, [.ref aP, .ref fx, .ref fr, .ref fe, .int 0])), (fx, .inl (cI, 8, .inl fxf)), (fr, .inl (cI, 64, .inl frf)), (aM, .inr (3, [.ref aF, .ref mo, .ref ma, .ref mk, .int 0, .int 0, .int 0, .ref mb, .ref mf])), (mo, .inl (cI, 32, .inl fn)), (mk, .inl (cG, 41, .inr (.inr (.inr (.inr kr))))), (r0, .inl (cI, 32, .inl w0)), (r1, .inl (cI, 32, .inl w1)), (mb, .inl (cG, 3, .inr (.inr (.inr (.inr br))))), (b0, .inl (cI, 32, .inl u0)), (b1, .inl (cI, 32, .inl u1)), (b2, .inl (cI, 32, .inl u2)), (mf, .inl (cZ, 3, .inl ff)), (aW, .inr (10, [.ref aM])), (aN, .inr (4, [.ref aF, .int 0, .int 0, .ref n3, .ref n4, .ref n5, .ref n6, .ref n7, .ref n8, .ref n9])), (n3, .inl (cI, 30, .inl g3)), (n4, .inl (cI, 30, .inl g4)), (n5, .inl (cI, 30, .inl g5)), (n6, .inl (cI, 30, .inl g6)), (n7, .inl (cI, 8, .inl fo7)), ((ad 12), .inl (cI, 2, .inl fD)), ((ad 13), .inl (cI, 2, .inl fT)), ((ad 14), .inl (cI, 2, .inl fU)), ((ad 15), .inl (cI, 2, .inl fW)), ((ad 26), .inl (cZ, 2, .inl fS)), ((ad 27), .inl (cZ, 2, .inl fX)), ((ad 42), .inl (cI, 32, .inl fA)), ((ad 70), .inl (cZ, 3, .inl fB)), ((ad 0), .inl (cB, 1620, .inl ft)), ((ad 59), .inl (cI, 30, .inl t0)), ((ad 60), .inl (cI, 30, .inl t1)), ((ad 61), .inl (cI, 30, .inl t2)), ((ad 62), .inl (cI, 30, .inl t3)), ((ad 63), .inl (cI, 30, .inl t4)), ((ad 64), .inl (cI, 30, .inl t5)), ((ad 57), .inl (cI, 64, .inl fk)), ((ad 45), .inl (cI, 1312, .inl fw)), ((ad 69), .inl (cI, 96, .inl fbm))] H := hP
        replace hD : va_D A [(su, .inr (1, [.ref s0, .ref s1, .ref s2, .int 0, .int 0, .int 0])), (aD, .inr (5, PF pq sq)), (sq, .inr (1, [.ref z0, .ref z1, .ref z2, .int 0, .int 0, .int 0])), (aT, .inr (8, [.ref tb, .int 0])), (tb, .inl (cB, 1600, .inl fb)), (aR, .inr (6, [.ref rt, .ref aD, .int 0, .int (-1)])), (rt, .inr (9, [.ref aT, .ref to, .int 0, .int 0, .int 0, .long 0, .int 0])), (aF, .inr (0, [.ref aP, .ref fx, .ref fr, .ref fe, .int 0])), (fx, .inl (cI, 8, .inl fxf)), (fr, .inl (cI, 64, .inl frf)), (aM, .inr (3, [.ref aF, .ref mo, .ref ma, .ref mk, .int 0, .int 0, .int 0, .ref mb, .ref mf])), (mo, .inl (cI, 32, .inl fn)), (mk, .inl (cG, 41, .inr (.inr (.inr (.inr kr))))), (r0, .inl (cI, 32, .inl w0)), (r1, .inl (cI, 32, .inl w1)), (mb, .inl (cG, 3, .inr (.inr (.inr (.inr br))))), (b0, .inl (cI, 32, .inl u0)), (b1, .inl (cI, 32, .inl u1)), (b2, .inl (cI, 32, .inl u2)), (mf, .inl (cZ, 3, .inl ff)), (aW, .inr (10, [.ref aM])), (aN, .inr (4, [.ref aF, .int 0, .int 0, .ref n3, .ref n4, .ref n5, .ref n6, .ref n7, .ref n8, .ref n9])), (n3, .inl (cI, 30, .inl g3)), (n4, .inl (cI, 30, .inl g4)), (n5, .inl (cI, 30, .inl g5)), (n6, .inl (cI, 30, .inl g6)), (n7, .inl (cI, 8, .inl fo7)), ((ad 12), .inl (cI, 2, .inl fD)), ((ad 13), .inl (cI, 2, .inl fT)), ((ad 14), .inl (cI, 2, .inl fU)), ((ad 15), .inl (cI, 2, .inl fW)), ((ad 26), .inl (cZ, 2, .inl fS)), ((ad 27), .inl (cZ, 2, .inl fX)), ((ad 42), .inl (cI, 32, .inl fA)), ((ad 70), .inl (cZ, 3, .inl fB)), ((ad 0), .inl (cB, 1620, .inl ft)), ((ad 59), .inl (cI, 30, .inl t0)), ((ad 60), .inl (cI, 30, .inl t1)), ((ad 61), .inl (cI, 30, .inl t2)), ((ad 62), .inl (cI, 30, .inl t3)), ((ad 63), .inl (cI, 30, .inl t4)), ((ad 64), .inl (cI, 30, .inl t5)), ((ad 57), .inl (cI, 64, .inl fk)), ((ad 45), .inl (cI, 1312, .inl fw)), ((ad 69), .inl (cI, 96, .inl fbm))] := hD
        subst hr_165
        refine lv_icmp_eq (tgt := 1570) hx hb dL_law_704 (by decide) (fun _ => ?_) (fun c_166 => absurd (by decide) c_166)
        refine lv_iinc (v := 6) (lv' := [(3, .int 6), (2, .ref am), (1, .ref a0), (0, .ref b)]) hx hb dL_law_1570 hl (k := 0) rfl (by decide) (by decide) rfl (fun ls hl => ?_)
        refine lv_goto (tgt := 18) hx hb dL_law_1573 (by decide) ?_
        refine lv_iload_n hx hb dL_law_18 rfl (lv_at hl 0 rfl) ?_
        refine lv_aload_n hx hb dL_law_19 rfl (lv_at hl 3 rfl) ?_
        refine va_slen hx hb hX hbl hbA hS dL_law_20 ?_
        refine lv_topi (fun y_167 ey_167 => ?_)
        obtain rfl : y_167 = 6 := ey_167.trans (by decide)
        refine lv_bipush (v := 6) hx hb dL_law_21 (by decide) ?_
        refine lv_isub hx hb dL_law_23 ?_
        refine lv_topi (fun y_168 ey_168 => ?_)
        obtain rfl : y_168 = 0 := ey_168.trans (by decide)
        refine lv_icmp_gt (tgt := 1576) hx hb dL_law_24 (by decide) (fun _ => ?_) (fun c_169 => absurd (by decide) c_169)
        refine lv_iconst (v := 1) hx hb dL_law_1576 (by decide) ?_
        refine va_forget (fun q hq => by have h := hS.2.2 q hq; rw [hAe] at h; exact h) ?_
        refine W.widen (k := 600000) (n := 7302250) (Nat.le_of_ble_eq_true rfl) (Nat.le_of_ble_eq_true rfl) ?_
        exact lw_ret hx hb hr hlocks dL_law_1577
      · refine lv_tableIn (off := 676) (tgt := 709) hx hb dL_law_33 (by decide) (by decide) (by decide) (by decide) ?_
        refine lv_aload_n hx hb dL_law_709 rfl (lv_at hl 2 rfl) ?_
        refine lv_aload_n hx hb dL_law_710 rfl (lv_at hl 3 rfl) ?_
        refine lv_iload_n hx hb dL_law_711 rfl (lv_at hl 0 rfl) ?_
        refine lv_iconst (v := 1) hx hb dL_law_712 (by decide) ?_
        refine lv_iadd hx hb dL_law_713 ?_
        refine lv_topi (fun y_170 ey_170 => ?_)
        obtain rfl : y_170 = 1 := ey_170.trans (by decide)
        refine va_sld hx hb hX hbl hbA hS (show vp_in 1 6 from (by decide : ¬ ((1 : Int32) < 0 ∨ 6 ≤ Int32.toNatClampNeg 1))) dL_law_714 ?_
        refine lv_aload_n hx hb dL_law_715 rfl (lv_at hl 3 rfl) ?_
        refine lv_iload_n hx hb dL_law_716 rfl (lv_at hl 0 rfl) ?_
        refine lv_iconst (v := 2) hx hb dL_law_717 (by decide) ?_
        refine lv_iadd hx hb dL_law_718 ?_
        refine lv_topi (fun y_171 ey_171 => ?_)
        obtain rfl : y_171 = 2 := ey_171.trans (by decide)
        refine va_sld hx hb hX hbl hbA hS (show vp_in 2 6 from (by decide : ¬ ((2 : Int32) < 0 ∨ 6 ≤ Int32.toNatClampNeg 2))) dL_law_719 ?_
        have hPc := hP.sub (ws' := [(a0, .inr (11, [.ref aP, .ref aD, .ref aT, .ref aR, .ref aF, .ref aU, .ref aH, .ref aM, .ref aW, .ref aN])), (aP, .inr (5, PF pz su))]) [0, 1] rfl
        refine vp_callSi (va_runV (As := [.int (xs (Int32.toNatClampNeg 1)), .int (xs (Int32.toNatClampNeg 2))]) (rest := []) ⟨hx, hb, hml, hown, hts⟩ (c_ways l D cI cB cL cZ a0 aP aD aT aR aF aU aH aM aW aN pz su (xs (Int32.toNatClampNeg 1)) (xs (Int32.toNatClampNeg 2))) (cwV 2 hts gL_law_X11_ways rfl rfl rfl (by decide +kernel) ⟨Nat.le_of_ble_eq_true rfl, Nat.le_of_ble_eq_true rfl⟩) ⟨xr_blind, va_recv hK hPc (ci := 11) (q0 := 0) rfl rfl, fun U hU hW => xr_mk hU hW hPc (hK.sub (tys' := [(cI, .int), (cB, .byte), (cL, .long), (cZ, .boolean)]) [0, 1, 2, 3] rfl)⟩ rfl rfl hl.1 rfl (lv_room (Nat.le_of_ble_eq_true rfl)) dL_law_720 ⟨Nat.le_of_ble_eq_true rfl, Nat.le_of_ble_eq_true rfl⟩).run (fun r_172 hr_172 => ?_)
        clear hPc
        subst hr_172
        refine lv_aload_n hx hb dL_law_723 rfl (lv_at hl 1 rfl) ?_
        refine lv_aload_n hx hb dL_law_724 rfl (lv_at hl 3 rfl) ?_
        refine lv_iload_n hx hb dL_law_725 rfl (lv_at hl 0 rfl) ?_
        refine lv_iconst (v := 1) hx hb dL_law_726 (by decide) ?_
        refine lv_iadd hx hb dL_law_727 ?_
        refine lv_topi (fun y_173 ey_173 => ?_)
        obtain rfl : y_173 = 1 := ey_173.trans (by decide)
        refine va_sld hx hb hX hbl hbA hS (show vp_in 1 6 from (by decide : ¬ ((1 : Int32) < 0 ∨ 6 ≤ Int32.toNatClampNeg 1))) dL_law_728 ?_
        refine lv_aload_n hx hb dL_law_729 rfl (lv_at hl 3 rfl) ?_
        refine lv_iload_n hx hb dL_law_730 rfl (lv_at hl 0 rfl) ?_
        refine lv_iconst (v := 2) hx hb dL_law_731 (by decide) ?_
        refine lv_iadd hx hb dL_law_732 ?_
        refine lv_topi (fun y_174 ey_174 => ?_)
        obtain rfl : y_174 = 2 := ey_174.trans (by decide)
        refine va_sld hx hb hX hbl hbA hS (show vp_in 2 6 from (by decide : ¬ ((2 : Int32) < 0 ∨ 6 ≤ Int32.toNatClampNeg 2))) dL_law_733 ?_
        have hPc := hP.sub (ws' := [(am, .inr (12, MF ad 0 0 0 (-1) 0 0 0 0 0 0 0 0 0 0 0 0 0 0 0 0 0)), ((ad 11), .inl (cI, 2, .inl fR))]) [30, 31] rfl
        refine vp_callSi (va_runV (As := [.int (xs (Int32.toNatClampNeg 1)), .int (xs (Int32.toNatClampNeg 2))]) (rest := [.int (-1)]) ⟨hx, hb, hml, hown, hts⟩ (m_ways l D cI cB cL cZ am ad 0 0 0 0 0 0 0 0 0 0 0 0 fR (xs (Int32.toNatClampNeg 1)) (xs (Int32.toNatClampNeg 2)) hf_fR_0) (cwV 2 hts gL_law_X12_ways rfl rfl rfl (by decide +kernel) ⟨Nat.le_of_ble_eq_true rfl, Nat.le_of_ble_eq_true rfl⟩) ⟨xr_blind, va_recv hK hPc (ci := 12) (q0 := 0) rfl rfl, fun U hU hW => xr_mk hU hW hPc (hK.sub (tys' := [(cI, .int), (cB, .byte), (cL, .long), (cZ, .boolean)]) [0, 1, 2, 3] rfl)⟩ rfl rfl hl.1 rfl (lv_room (Nat.le_of_ble_eq_true rfl)) dL_law_734 ⟨Nat.le_of_ble_eq_true rfl, Nat.le_of_ble_eq_true rfl⟩).run (fun r_175 hr_175 => ?_)
        clear hPc
        subst hr_175
        refine lv_icmp_eq (tgt := 1570) hx hb dL_law_737 (by decide) (fun _ => ?_) (fun c_176 => absurd (by decide) c_176)
        refine lv_iinc (v := 6) (lv' := [(3, .int 6), (2, .ref am), (1, .ref a0), (0, .ref b)]) hx hb dL_law_1570 hl (k := 0) rfl (by decide) (by decide) rfl (fun ls hl => ?_)
        refine lv_goto (tgt := 18) hx hb dL_law_1573 (by decide) ?_
        refine lv_iload_n hx hb dL_law_18 rfl (lv_at hl 0 rfl) ?_
        refine lv_aload_n hx hb dL_law_19 rfl (lv_at hl 3 rfl) ?_
        refine va_slen hx hb hX hbl hbA hS dL_law_20 ?_
        refine lv_topi (fun y_177 ey_177 => ?_)
        obtain rfl : y_177 = 6 := ey_177.trans (by decide)
        refine lv_bipush (v := 6) hx hb dL_law_21 (by decide) ?_
        refine lv_isub hx hb dL_law_23 ?_
        refine lv_topi (fun y_178 ey_178 => ?_)
        obtain rfl : y_178 = 0 := ey_178.trans (by decide)
        refine lv_icmp_gt (tgt := 1576) hx hb dL_law_24 (by decide) (fun _ => ?_) (fun c_179 => absurd (by decide) c_179)
        refine lv_iconst (v := 1) hx hb dL_law_1576 (by decide) ?_
        refine va_forget (fun q hq => by have h := hS.2.2 q hq; rw [hAe] at h; exact h) ?_
        refine W.widen (k := 600000) (n := 7302250) (Nat.le_of_ble_eq_true rfl) (Nat.le_of_ble_eq_true rfl) ?_
        exact lw_ret hx hb hr hlocks dL_law_1577
      · refine lv_tableIn (off := 709) (tgt := 742) hx hb dL_law_33 (by decide) (by decide) (by decide) (by decide) ?_
        refine lv_aload_n hx hb dL_law_742 rfl (lv_at hl 2 rfl) ?_
        have hPc := hP.sub (ws' := [(a0, .inr (11, [.ref aP, .ref aD, .ref aT, .ref aR, .ref aF, .ref aU, .ref aH, .ref aM, .ref aW, .ref aN])), (aF, .inr (0, [.ref aP, .ref fx, .ref fr, .ref fe, .int 0])), (aP, .inr (5, PF pz su))]) [0, 9, 1] rfl
        refine vp_callSi (va_runV (As := []) (rest := []) ⟨hx, hb, hml, hown, hts⟩ (c_pieces l D cI cB cL cZ a0 aP aD aT aR aF aU aH aM aW aN fx fr fe pz su) (cwV 0 hts gL_law_X11_pieces rfl rfl rfl (by decide +kernel) ⟨Nat.le_of_ble_eq_true rfl, Nat.le_of_ble_eq_true rfl⟩) ⟨xr_blind, va_recv hK hPc (ci := 11) (q0 := 0) rfl rfl, fun U hU hW => xr_mk hU hW hPc (hK.sub (tys' := [(cI, .int), (cB, .byte), (cL, .long), (cZ, .boolean)]) [0, 1, 2, 3] rfl)⟩ rfl rfl hl.1 rfl (lv_room (Nat.le_of_ble_eq_true rfl)) dL_law_743 ⟨Nat.le_of_ble_eq_true rfl, Nat.le_of_ble_eq_true rfl⟩).run (fun r_180 hr_180 => ?_)
        clear hPc
        subst hr_180
        refine lv_aload_n hx hb dL_law_746 rfl (lv_at hl 1 rfl) ?_
        have hPc := hP.sub (ws' := [(am, .inr (12, MF ad 0 0 0 (-1) 0 0 0 0 0 0 0 0 0 0 0 0 0 0 0 0 0)), ((ad 11), .inl (cI, 2, .inl fR))]) [30, 31] rfl
        refine vp_callSi (va_runV (As := []) (rest := [.int 0]) ⟨hx, hb, hml, hown, hts⟩ (m_pieces l D cI cB cL cZ am ad 0 0 0 0 0 0 0 0 0 0 0 0 fR hf_fR_0) (cwV 0 hts gL_law_X12_pieces rfl rfl rfl (by decide +kernel) ⟨Nat.le_of_ble_eq_true rfl, Nat.le_of_ble_eq_true rfl⟩) ⟨xr_blind, va_recv hK hPc (ci := 12) (q0 := 0) rfl rfl, fun U hU hW => xr_mk hU hW hPc (hK.sub (tys' := [(cI, .int), (cB, .byte), (cL, .long), (cZ, .boolean)]) [0, 1, 2, 3] rfl)⟩ rfl rfl hl.1 rfl (lv_room (Nat.le_of_ble_eq_true rfl)) dL_law_747 ⟨Nat.le_of_ble_eq_true rfl, Nat.le_of_ble_eq_true rfl⟩).run (fun r_181 hr_181 => ?_)
        clear hPc
        subst hr_181
        refine lv_icmp_eq (tgt := 1570) hx hb dL_law_750 (by decide) (fun _ => ?_) (fun c_182 => absurd (by decide) c_182)
        refine lv_iinc (v := 6) (lv' := [(3, .int 6), (2, .ref am), (1, .ref a0), (0, .ref b)]) hx hb dL_law_1570 hl (k := 0) rfl (by decide) (by decide) rfl (fun ls hl => ?_)
        refine lv_goto (tgt := 18) hx hb dL_law_1573 (by decide) ?_
        refine lv_iload_n hx hb dL_law_18 rfl (lv_at hl 0 rfl) ?_
        refine lv_aload_n hx hb dL_law_19 rfl (lv_at hl 3 rfl) ?_
        refine va_slen hx hb hX hbl hbA hS dL_law_20 ?_
        refine lv_topi (fun y_183 ey_183 => ?_)
        obtain rfl : y_183 = 6 := ey_183.trans (by decide)
        refine lv_bipush (v := 6) hx hb dL_law_21 (by decide) ?_
        refine lv_isub hx hb dL_law_23 ?_
        refine lv_topi (fun y_184 ey_184 => ?_)
        obtain rfl : y_184 = 0 := ey_184.trans (by decide)
        refine lv_icmp_gt (tgt := 1576) hx hb dL_law_24 (by decide) (fun _ => ?_) (fun c_185 => absurd (by decide) c_185)
        refine lv_iconst (v := 1) hx hb dL_law_1576 (by decide) ?_
        refine va_forget (fun q hq => by have h := hS.2.2 q hq; rw [hAe] at h; exact h) ?_
        refine W.widen (k := 600000) (n := 7302250) (Nat.le_of_ble_eq_true rfl) (Nat.le_of_ble_eq_true rfl) ?_
        exact lw_ret hx hb hr hlocks dL_law_1577
      · refine lv_tableIn (off := 722) (tgt := 755) hx hb dL_law_33 (by decide) (by decide) (by decide) (by decide) ?_
        refine lv_aload_n hx hb dL_law_755 rfl (lv_at hl 2 rfl) ?_
        have hPc := hP.sub (ws' := [(a0, .inr (11, [.ref aP, .ref aD, .ref aT, .ref aR, .ref aF, .ref aU, .ref aH, .ref aM, .ref aW, .ref aN])), (aF, .inr (0, [.ref aP, .ref fx, .ref fr, .ref fe, .int 0]))]) [0, 9] rfl
        refine vp_callSi (va_runV (As := []) (rest := []) ⟨hx, hb, hml, hown, hts⟩ (c_parts l D cI cB cL cZ a0 aP aD aT aR aF aU aH aM aW aN fx fr fe) (cwV 0 hts gL_law_X11_parts rfl rfl rfl (by decide +kernel) ⟨Nat.le_of_ble_eq_true rfl, Nat.le_of_ble_eq_true rfl⟩) ⟨xr_blind, va_recv hK hPc (ci := 11) (q0 := 0) rfl rfl, fun U hU hW => xr_mk hU hW hPc (hK.sub (tys' := [(cI, .int), (cB, .byte), (cL, .long), (cZ, .boolean)]) [0, 1, 2, 3] rfl)⟩ rfl rfl hl.1 rfl (lv_room (Nat.le_of_ble_eq_true rfl)) dL_law_756 ⟨Nat.le_of_ble_eq_true rfl, Nat.le_of_ble_eq_true rfl⟩).run (fun r_186 hr_186 => ?_)
        clear hPc
        subst hr_186
        refine lv_aload_n hx hb dL_law_759 rfl (lv_at hl 1 rfl) ?_
        have hPc := hP.sub (ws' := [(am, .inr (12, MF ad 0 0 0 (-1) 0 0 0 0 0 0 0 0 0 0 0 0 0 0 0 0 0)), ((ad 12), .inl (cI, 2, .inl fD))]) [30, 32] rfl
        refine vp_callSi (va_runV (As := []) (rest := [.int 0]) ⟨hx, hb, hml, hown, hts⟩ (m_parts l D cI cB cL cZ am ad 0 0 0 0 0 0 0 0 0 0 0 0 fD hf_fD_0) (cwV 0 hts gL_law_X12_parts rfl rfl rfl (by decide +kernel) ⟨Nat.le_of_ble_eq_true rfl, Nat.le_of_ble_eq_true rfl⟩) ⟨xr_blind, va_recv hK hPc (ci := 12) (q0 := 0) rfl rfl, fun U hU hW => xr_mk hU hW hPc (hK.sub (tys' := [(cI, .int), (cB, .byte), (cL, .long), (cZ, .boolean)]) [0, 1, 2, 3] rfl)⟩ rfl rfl hl.1 rfl (lv_room (Nat.le_of_ble_eq_true rfl)) dL_law_760 ⟨Nat.le_of_ble_eq_true rfl, Nat.le_of_ble_eq_true rfl⟩).run (fun r_187 hr_187 => ?_)
        clear hPc
        subst hr_187
        refine lv_icmp_eq (tgt := 1570) hx hb dL_law_763 (by decide) (fun _ => ?_) (fun c_188 => absurd (by decide) c_188)
        refine lv_iinc (v := 6) (lv' := [(3, .int 6), (2, .ref am), (1, .ref a0), (0, .ref b)]) hx hb dL_law_1570 hl (k := 0) rfl (by decide) (by decide) rfl (fun ls hl => ?_)
        refine lv_goto (tgt := 18) hx hb dL_law_1573 (by decide) ?_
        refine lv_iload_n hx hb dL_law_18 rfl (lv_at hl 0 rfl) ?_
        refine lv_aload_n hx hb dL_law_19 rfl (lv_at hl 3 rfl) ?_
        refine va_slen hx hb hX hbl hbA hS dL_law_20 ?_
        refine lv_topi (fun y_189 ey_189 => ?_)
        obtain rfl : y_189 = 6 := ey_189.trans (by decide)
        refine lv_bipush (v := 6) hx hb dL_law_21 (by decide) ?_
        refine lv_isub hx hb dL_law_23 ?_
        refine lv_topi (fun y_190 ey_190 => ?_)
        obtain rfl : y_190 = 0 := ey_190.trans (by decide)
        refine lv_icmp_gt (tgt := 1576) hx hb dL_law_24 (by decide) (fun _ => ?_) (fun c_191 => absurd (by decide) c_191)
        refine lv_iconst (v := 1) hx hb dL_law_1576 (by decide) ?_
        refine va_forget (fun q hq => by have h := hS.2.2 q hq; rw [hAe] at h; exact h) ?_
        refine W.widen (k := 600000) (n := 7302250) (Nat.le_of_ble_eq_true rfl) (Nat.le_of_ble_eq_true rfl) ?_
        exact lw_ret hx hb hr hlocks dL_law_1577
      · refine lv_tableIn (off := 735) (tgt := 768) hx hb dL_law_33 (by decide) (by decide) (by decide) (by decide) ?_
        refine lv_aload_n hx hb dL_law_768 rfl (lv_at hl 2 rfl) ?_
        refine lv_aload_n hx hb dL_law_769 rfl (lv_at hl 3 rfl) ?_
        refine lv_iload_n hx hb dL_law_770 rfl (lv_at hl 0 rfl) ?_
        refine lv_iconst (v := 1) hx hb dL_law_771 (by decide) ?_
        refine lv_iadd hx hb dL_law_772 ?_
        refine lv_topi (fun y_192 ey_192 => ?_)
        obtain rfl : y_192 = 1 := ey_192.trans (by decide)
        refine va_sld hx hb hX hbl hbA hS (show vp_in 1 6 from (by decide : ¬ ((1 : Int32) < 0 ∨ 6 ≤ Int32.toNatClampNeg 1))) dL_law_773 ?_
        have hPc := hP.sub (ws' := [(a0, .inr (11, [.ref aP, .ref aD, .ref aT, .ref aR, .ref aF, .ref aU, .ref aH, .ref aM, .ref aW, .ref aN])), (aP, .inr (5, PF pz su))]) [0, 1] rfl
        refine vp_callSi (va_runV (As := [.int (xs (Int32.toNatClampNeg 1))]) (rest := []) ⟨hx, hb, hml, hown, hts⟩ (c_hunt l D cI cB cL cZ a0 aP aD aT aR aF aU aH aM aW aN pz su (xs (Int32.toNatClampNeg 1))) (cwV 1 hts gL_law_X11_hunt rfl rfl rfl (by decide +kernel) ⟨Nat.le_of_ble_eq_true rfl, Nat.le_of_ble_eq_true rfl⟩) ⟨xr_blind, va_recv hK hPc (ci := 11) (q0 := 0) rfl rfl, fun U hU hW => xr_mk hU hW hPc (hK.sub (tys' := [(cI, .int), (cB, .byte), (cL, .long), (cZ, .boolean)]) [0, 1, 2, 3] rfl)⟩ rfl rfl hl.1 rfl (lv_room (Nat.le_of_ble_eq_true rfl)) dL_law_774 ⟨Nat.le_of_ble_eq_true rfl, Nat.le_of_ble_eq_true rfl⟩).run (fun r_193 hr_193 => ?_)
        clear hPc
        subst hr_193
        refine lv_aload_n hx hb dL_law_777 rfl (lv_at hl 1 rfl) ?_
        refine lv_aload_n hx hb dL_law_778 rfl (lv_at hl 3 rfl) ?_
        refine lv_iload_n hx hb dL_law_779 rfl (lv_at hl 0 rfl) ?_
        refine lv_iconst (v := 1) hx hb dL_law_780 (by decide) ?_
        refine lv_iadd hx hb dL_law_781 ?_
        refine lv_topi (fun y_194 ey_194 => ?_)
        obtain rfl : y_194 = 1 := ey_194.trans (by decide)
        refine va_sld hx hb hX hbl hbA hS (show vp_in 1 6 from (by decide : ¬ ((1 : Int32) < 0 ∨ 6 ≤ Int32.toNatClampNeg 1))) dL_law_782 ?_
        have hPc := hP.sub (ws' := [(am, .inr (12, MF ad 0 0 0 (-1) 0 0 0 0 0 0 0 0 0 0 0 0 0 0 0 0 0)), ((ad 11), .inl (cI, 2, .inl fR))]) [30, 31] rfl
        refine vp_callSi (va_runV (As := [.int (xs (Int32.toNatClampNeg 1))]) (rest := [.int (-1)]) ⟨hx, hb, hml, hown, hts⟩ (m_hunt l D cI cB cL cZ am ad 0 0 0 0 0 0 0 0 0 0 0 0 fR (xs (Int32.toNatClampNeg 1)) hf_fR_0) (cwV 1 hts gL_law_X12_hunt rfl rfl rfl (by decide +kernel) ⟨Nat.le_of_ble_eq_true rfl, Nat.le_of_ble_eq_true rfl⟩) ⟨xr_blind, va_recv hK hPc (ci := 12) (q0 := 0) rfl rfl, fun U hU hW => xr_mk hU hW hPc (hK.sub (tys' := [(cI, .int), (cB, .byte), (cL, .long), (cZ, .boolean)]) [0, 1, 2, 3] rfl)⟩ rfl rfl hl.1 rfl (lv_room (Nat.le_of_ble_eq_true rfl)) dL_law_783 ⟨Nat.le_of_ble_eq_true rfl, Nat.le_of_ble_eq_true rfl⟩).run (fun r_195 hr_195 => ?_)
        clear hPc
        subst hr_195
        refine lv_icmp_eq (tgt := 1570) hx hb dL_law_786 (by decide) (fun _ => ?_) (fun c_196 => absurd (by decide) c_196)
        refine lv_iinc (v := 6) (lv' := [(3, .int 6), (2, .ref am), (1, .ref a0), (0, .ref b)]) hx hb dL_law_1570 hl (k := 0) rfl (by decide) (by decide) rfl (fun ls hl => ?_)
        refine lv_goto (tgt := 18) hx hb dL_law_1573 (by decide) ?_
        refine lv_iload_n hx hb dL_law_18 rfl (lv_at hl 0 rfl) ?_
        refine lv_aload_n hx hb dL_law_19 rfl (lv_at hl 3 rfl) ?_
        refine va_slen hx hb hX hbl hbA hS dL_law_20 ?_
        refine lv_topi (fun y_197 ey_197 => ?_)
        obtain rfl : y_197 = 6 := ey_197.trans (by decide)
        refine lv_bipush (v := 6) hx hb dL_law_21 (by decide) ?_
        refine lv_isub hx hb dL_law_23 ?_
        refine lv_topi (fun y_198 ey_198 => ?_)
        obtain rfl : y_198 = 0 := ey_198.trans (by decide)
        refine lv_icmp_gt (tgt := 1576) hx hb dL_law_24 (by decide) (fun _ => ?_) (fun c_199 => absurd (by decide) c_199)
        refine lv_iconst (v := 1) hx hb dL_law_1576 (by decide) ?_
        refine va_forget (fun q hq => by have h := hS.2.2 q hq; rw [hAe] at h; exact h) ?_
        refine W.widen (k := 600000) (n := 7302250) (Nat.le_of_ble_eq_true rfl) (Nat.le_of_ble_eq_true rfl) ?_
        exact lw_ret hx hb hr hlocks dL_law_1577
      · refine lv_tableIn (off := 758) (tgt := 791) hx hb dL_law_33 (by decide) (by decide) (by decide) (by decide) ?_
        refine lv_aload_n hx hb dL_law_791 rfl (lv_at hl 2 rfl) ?_
        refine lv_aload_n hx hb dL_law_792 rfl (lv_at hl 3 rfl) ?_
        refine lv_iload_n hx hb dL_law_793 rfl (lv_at hl 0 rfl) ?_
        refine lv_iconst (v := 1) hx hb dL_law_794 (by decide) ?_
        refine lv_iadd hx hb dL_law_795 ?_
        refine lv_topi (fun y_200 ey_200 => ?_)
        obtain rfl : y_200 = 1 := ey_200.trans (by decide)
        refine va_sld hx hb hX hbl hbA hS (show vp_in 1 6 from (by decide : ¬ ((1 : Int32) < 0 ∨ 6 ≤ Int32.toNatClampNeg 1))) dL_law_796 ?_
        have hPc := hP.sub (ws' := [(a0, .inr (11, [.ref aP, .ref aD, .ref aT, .ref aR, .ref aF, .ref aU, .ref aH, .ref aM, .ref aW, .ref aN])), (aP, .inr (5, PF pz su))]) [0, 1] rfl
        refine vp_callSi (va_runV (As := [.int (xs (Int32.toNatClampNeg 1))]) (rest := []) ⟨hx, hb, hml, hown, hts⟩ (c_first l D cI cB cL cZ a0 aP aD aT aR aF aU aH aM aW aN pz su (xs (Int32.toNatClampNeg 1))) (cwV 1 hts gL_law_X11_first rfl rfl rfl (by decide +kernel) ⟨Nat.le_of_ble_eq_true rfl, Nat.le_of_ble_eq_true rfl⟩) ⟨xr_blind, va_recv hK hPc (ci := 11) (q0 := 0) rfl rfl, fun U hU hW => xr_mk hU hW hPc (hK.sub (tys' := [(cI, .int), (cB, .byte), (cL, .long), (cZ, .boolean)]) [0, 1, 2, 3] rfl)⟩ rfl rfl hl.1 rfl (lv_room (Nat.le_of_ble_eq_true rfl)) dL_law_797 ⟨Nat.le_of_ble_eq_true rfl, Nat.le_of_ble_eq_true rfl⟩).run (fun r_201 hr_201 => ?_)
        clear hPc
        subst hr_201
        refine lv_aload_n hx hb dL_law_800 rfl (lv_at hl 1 rfl) ?_
        refine lv_aload_n hx hb dL_law_801 rfl (lv_at hl 3 rfl) ?_
        refine lv_iload_n hx hb dL_law_802 rfl (lv_at hl 0 rfl) ?_
        refine lv_iconst (v := 1) hx hb dL_law_803 (by decide) ?_
        refine lv_iadd hx hb dL_law_804 ?_
        refine lv_topi (fun y_202 ey_202 => ?_)
        obtain rfl : y_202 = 1 := ey_202.trans (by decide)
        refine va_sld hx hb hX hbl hbA hS (show vp_in 1 6 from (by decide : ¬ ((1 : Int32) < 0 ∨ 6 ≤ Int32.toNatClampNeg 1))) dL_law_805 ?_
        have hPc := hP.sub (ws' := [(am, .inr (12, MF ad 0 0 0 (-1) 0 0 0 0 0 0 0 0 0 0 0 0 0 0 0 0 0)), ((ad 11), .inl (cI, 2, .inl fR))]) [30, 31] rfl
        refine vp_callSi (va_runV (As := [.int (xs (Int32.toNatClampNeg 1))]) (rest := [.int (-1)]) ⟨hx, hb, hml, hown, hts⟩ (m_first l D cI cB cL cZ am ad 0 0 0 0 0 0 0 0 0 0 0 0 fR (xs (Int32.toNatClampNeg 1)) hf_fR_0) (cwV 1 hts gL_law_X12_first rfl rfl rfl (by decide +kernel) ⟨Nat.le_of_ble_eq_true rfl, Nat.le_of_ble_eq_true rfl⟩) ⟨xr_blind, va_recv hK hPc (ci := 12) (q0 := 0) rfl rfl, fun U hU hW => xr_mk hU hW hPc (hK.sub (tys' := [(cI, .int), (cB, .byte), (cL, .long), (cZ, .boolean)]) [0, 1, 2, 3] rfl)⟩ rfl rfl hl.1 rfl (lv_room (Nat.le_of_ble_eq_true rfl)) dL_law_806 ⟨Nat.le_of_ble_eq_true rfl, Nat.le_of_ble_eq_true rfl⟩).run (fun r_203 hr_203 => ?_)
        clear hPc
        subst hr_203
        refine lv_icmp_eq (tgt := 1570) hx hb dL_law_809 (by decide) (fun _ => ?_) (fun c_204 => absurd (by decide) c_204)
        refine lv_iinc (v := 6) (lv' := [(3, .int 6), (2, .ref am), (1, .ref a0), (0, .ref b)]) hx hb dL_law_1570 hl (k := 0) rfl (by decide) (by decide) rfl (fun ls hl => ?_)
        refine lv_goto (tgt := 18) hx hb dL_law_1573 (by decide) ?_
        refine lv_iload_n hx hb dL_law_18 rfl (lv_at hl 0 rfl) ?_
        refine lv_aload_n hx hb dL_law_19 rfl (lv_at hl 3 rfl) ?_
        refine va_slen hx hb hX hbl hbA hS dL_law_20 ?_
        refine lv_topi (fun y_205 ey_205 => ?_)
        obtain rfl : y_205 = 6 := ey_205.trans (by decide)
        refine lv_bipush (v := 6) hx hb dL_law_21 (by decide) ?_
        refine lv_isub hx hb dL_law_23 ?_
        refine lv_topi (fun y_206 ey_206 => ?_)
        obtain rfl : y_206 = 0 := ey_206.trans (by decide)
        refine lv_icmp_gt (tgt := 1576) hx hb dL_law_24 (by decide) (fun _ => ?_) (fun c_207 => absurd (by decide) c_207)
        refine lv_iconst (v := 1) hx hb dL_law_1576 (by decide) ?_
        refine va_forget (fun q hq => by have h := hS.2.2 q hq; rw [hAe] at h; exact h) ?_
        refine W.widen (k := 600000) (n := 7302250) (Nat.le_of_ble_eq_true rfl) (Nat.le_of_ble_eq_true rfl) ?_
        exact lw_ret hx hb hr hlocks dL_law_1577
      · refine lv_tableIn (off := 781) (tgt := 814) hx hb dL_law_33 (by decide) (by decide) (by decide) (by decide) ?_
        refine lv_aload_n hx hb dL_law_814 rfl (lv_at hl 2 rfl) ?_
        refine lv_aload_n hx hb dL_law_815 rfl (lv_at hl 3 rfl) ?_
        refine lv_iload_n hx hb dL_law_816 rfl (lv_at hl 0 rfl) ?_
        refine lv_iconst (v := 1) hx hb dL_law_817 (by decide) ?_
        refine lv_iadd hx hb dL_law_818 ?_
        refine lv_topi (fun y_208 ey_208 => ?_)
        obtain rfl : y_208 = 1 := ey_208.trans (by decide)
        refine va_sld hx hb hX hbl hbA hS (show vp_in 1 6 from (by decide : ¬ ((1 : Int32) < 0 ∨ 6 ≤ Int32.toNatClampNeg 1))) dL_law_819 ?_
        refine lv_aload_n hx hb dL_law_820 rfl (lv_at hl 3 rfl) ?_
        refine lv_iload_n hx hb dL_law_821 rfl (lv_at hl 0 rfl) ?_
        refine lv_iconst (v := 2) hx hb dL_law_822 (by decide) ?_
        refine lv_iadd hx hb dL_law_823 ?_
        refine lv_topi (fun y_209 ey_209 => ?_)
        obtain rfl : y_209 = 2 := ey_209.trans (by decide)
        refine va_sld hx hb hX hbl hbA hS (show vp_in 2 6 from (by decide : ¬ ((2 : Int32) < 0 ∨ 6 ≤ Int32.toNatClampNeg 2))) dL_law_824 ?_
        refine lv_aload_n hx hb dL_law_825 rfl (lv_at hl 3 rfl) ?_
        refine lv_iload_n hx hb dL_law_826 rfl (lv_at hl 0 rfl) ?_
        refine lv_iconst (v := 3) hx hb dL_law_827 (by decide) ?_
        refine lv_iadd hx hb dL_law_828 ?_
        refine lv_topi (fun y_210 ey_210 => ?_)
        obtain rfl : y_210 = 3 := ey_210.trans (by decide)
        refine va_sld hx hb hX hbl hbA hS (show vp_in 3 6 from (by decide : ¬ ((3 : Int32) < 0 ∨ 6 ≤ Int32.toNatClampNeg 3))) dL_law_829 ?_
        have hPc := hP.sub (ws' := [(a0, .inr (11, [.ref aP, .ref aD, .ref aT, .ref aR, .ref aF, .ref aU, .ref aH, .ref aM, .ref aW, .ref aN])), (aP, .inr (5, PF pz su))]) [0, 1] rfl
        refine vp_callSi (va_runV (As := [.int (xs (Int32.toNatClampNeg 1)), .int (xs (Int32.toNatClampNeg 2)), .int (xs (Int32.toNatClampNeg 3))]) (rest := []) ⟨hx, hb, hml, hown, hts⟩ (c_meet l D cI cB cL cZ a0 aP aD aT aR aF aU aH aM aW aN pz su (xs (Int32.toNatClampNeg 1)) (xs (Int32.toNatClampNeg 2)) (xs (Int32.toNatClampNeg 3))) (cwV 3 hts gL_law_X11_meet rfl rfl rfl (by decide +kernel) ⟨Nat.le_of_ble_eq_true rfl, Nat.le_of_ble_eq_true rfl⟩) ⟨xr_blind, va_recv hK hPc (ci := 11) (q0 := 0) rfl rfl, fun U hU hW => xr_mk hU hW hPc (hK.sub (tys' := [(cI, .int), (cB, .byte), (cL, .long), (cZ, .boolean)]) [0, 1, 2, 3] rfl)⟩ rfl rfl hl.1 rfl (lv_room (Nat.le_of_ble_eq_true rfl)) dL_law_830 ⟨Nat.le_of_ble_eq_true rfl, Nat.le_of_ble_eq_true rfl⟩).run (fun r_211 hr_211 => ?_)
        clear hPc
        subst hr_211
        refine lv_aload_n hx hb dL_law_833 rfl (lv_at hl 1 rfl) ?_
        refine lv_aload_n hx hb dL_law_834 rfl (lv_at hl 3 rfl) ?_
        refine lv_iload_n hx hb dL_law_835 rfl (lv_at hl 0 rfl) ?_
        refine lv_iconst (v := 1) hx hb dL_law_836 (by decide) ?_
        refine lv_iadd hx hb dL_law_837 ?_
        refine lv_topi (fun y_212 ey_212 => ?_)
        obtain rfl : y_212 = 1 := ey_212.trans (by decide)
        refine va_sld hx hb hX hbl hbA hS (show vp_in 1 6 from (by decide : ¬ ((1 : Int32) < 0 ∨ 6 ≤ Int32.toNatClampNeg 1))) dL_law_838 ?_
        refine lv_aload_n hx hb dL_law_839 rfl (lv_at hl 3 rfl) ?_
        refine lv_iload_n hx hb dL_law_840 rfl (lv_at hl 0 rfl) ?_
        refine lv_iconst (v := 2) hx hb dL_law_841 (by decide) ?_
        refine lv_iadd hx hb dL_law_842 ?_
        refine lv_topi (fun y_213 ey_213 => ?_)
        obtain rfl : y_213 = 2 := ey_213.trans (by decide)
        refine va_sld hx hb hX hbl hbA hS (show vp_in 2 6 from (by decide : ¬ ((2 : Int32) < 0 ∨ 6 ≤ Int32.toNatClampNeg 2))) dL_law_843 ?_
        refine lv_aload_n hx hb dL_law_844 rfl (lv_at hl 3 rfl) ?_
        refine lv_iload_n hx hb dL_law_845 rfl (lv_at hl 0 rfl) ?_
        refine lv_iconst (v := 3) hx hb dL_law_846 (by decide) ?_
        refine lv_iadd hx hb dL_law_847 ?_
        refine lv_topi (fun y_214 ey_214 => ?_)
        obtain rfl : y_214 = 3 := ey_214.trans (by decide)
        refine va_sld hx hb hX hbl hbA hS (show vp_in 3 6 from (by decide : ¬ ((3 : Int32) < 0 ∨ 6 ≤ Int32.toNatClampNeg 3))) dL_law_848 ?_
        have hPc := hP.sub (ws' := [(am, .inr (12, MF ad 0 0 0 (-1) 0 0 0 0 0 0 0 0 0 0 0 0 0 0 0 0 0)), ((ad 11), .inl (cI, 2, .inl fR))]) [30, 31] rfl
        refine vp_callSi (va_runV (As := [.int (xs (Int32.toNatClampNeg 1)), .int (xs (Int32.toNatClampNeg 2)), .int (xs (Int32.toNatClampNeg 3))]) (rest := [.int (-1)]) ⟨hx, hb, hml, hown, hts⟩ (m_meet l D cI cB cL cZ am ad 0 0 0 0 0 0 0 0 0 0 0 0 fR (xs (Int32.toNatClampNeg 1)) (xs (Int32.toNatClampNeg 2)) (xs (Int32.toNatClampNeg 3)) hf_fR_0) (cwV 3 hts gL_law_X12_meet rfl rfl rfl (by decide +kernel) ⟨Nat.le_of_ble_eq_true rfl, Nat.le_of_ble_eq_true rfl⟩) ⟨xr_blind, va_recv hK hPc (ci := 12) (q0 := 0) rfl rfl, fun U hU hW => xr_mk hU hW hPc (hK.sub (tys' := [(cI, .int), (cB, .byte), (cL, .long), (cZ, .boolean)]) [0, 1, 2, 3] rfl)⟩ rfl rfl hl.1 rfl (lv_room (Nat.le_of_ble_eq_true rfl)) dL_law_849 ⟨Nat.le_of_ble_eq_true rfl, Nat.le_of_ble_eq_true rfl⟩).run (fun r_215 hr_215 => ?_)
        clear hPc
        subst hr_215
        refine lv_icmp_eq (tgt := 1570) hx hb dL_law_852 (by decide) (fun _ => ?_) (fun c_216 => absurd (by decide) c_216)
        refine lv_iinc (v := 6) (lv' := [(3, .int 6), (2, .ref am), (1, .ref a0), (0, .ref b)]) hx hb dL_law_1570 hl (k := 0) rfl (by decide) (by decide) rfl (fun ls hl => ?_)
        refine lv_goto (tgt := 18) hx hb dL_law_1573 (by decide) ?_
        refine lv_iload_n hx hb dL_law_18 rfl (lv_at hl 0 rfl) ?_
        refine lv_aload_n hx hb dL_law_19 rfl (lv_at hl 3 rfl) ?_
        refine va_slen hx hb hX hbl hbA hS dL_law_20 ?_
        refine lv_topi (fun y_217 ey_217 => ?_)
        obtain rfl : y_217 = 6 := ey_217.trans (by decide)
        refine lv_bipush (v := 6) hx hb dL_law_21 (by decide) ?_
        refine lv_isub hx hb dL_law_23 ?_
        refine lv_topi (fun y_218 ey_218 => ?_)
        obtain rfl : y_218 = 0 := ey_218.trans (by decide)
        refine lv_icmp_gt (tgt := 1576) hx hb dL_law_24 (by decide) (fun _ => ?_) (fun c_219 => absurd (by decide) c_219)
        refine lv_iconst (v := 1) hx hb dL_law_1576 (by decide) ?_
        refine va_forget (fun q hq => by have h := hS.2.2 q hq; rw [hAe] at h; exact h) ?_
        refine W.widen (k := 600000) (n := 7302250) (Nat.le_of_ble_eq_true rfl) (Nat.le_of_ble_eq_true rfl) ?_
        exact lw_ret hx hb hr hlocks dL_law_1577
      · refine lv_tableIn (off := 824) (tgt := 857) hx hb dL_law_33 (by decide) (by decide) (by decide) (by decide) ?_
        refine lv_aload_n hx hb dL_law_857 rfl (lv_at hl 2 rfl) ?_
        refine lv_aload_n hx hb dL_law_858 rfl (lv_at hl 3 rfl) ?_
        refine lv_iload_n hx hb dL_law_859 rfl (lv_at hl 0 rfl) ?_
        refine lv_iconst (v := 1) hx hb dL_law_860 (by decide) ?_
        refine lv_iadd hx hb dL_law_861 ?_
        refine lv_topi (fun y_220 ey_220 => ?_)
        obtain rfl : y_220 = 1 := ey_220.trans (by decide)
        refine va_sld hx hb hX hbl hbA hS (show vp_in 1 6 from (by decide : ¬ ((1 : Int32) < 0 ∨ 6 ≤ Int32.toNatClampNeg 1))) dL_law_862 ?_
        refine lv_aload_n hx hb dL_law_863 rfl (lv_at hl 3 rfl) ?_
        refine lv_iload_n hx hb dL_law_864 rfl (lv_at hl 0 rfl) ?_
        refine lv_iconst (v := 2) hx hb dL_law_865 (by decide) ?_
        refine lv_iadd hx hb dL_law_866 ?_
        refine lv_topi (fun y_221 ey_221 => ?_)
        obtain rfl : y_221 = 2 := ey_221.trans (by decide)
        refine va_sld hx hb hX hbl hbA hS (show vp_in 2 6 from (by decide : ¬ ((2 : Int32) < 0 ∨ 6 ≤ Int32.toNatClampNeg 2))) dL_law_867 ?_
        refine lv_aload_n hx hb dL_law_868 rfl (lv_at hl 3 rfl) ?_
        refine lv_iload_n hx hb dL_law_869 rfl (lv_at hl 0 rfl) ?_
        refine lv_iconst (v := 3) hx hb dL_law_870 (by decide) ?_
        refine lv_iadd hx hb dL_law_871 ?_
        refine lv_topi (fun y_222 ey_222 => ?_)
        obtain rfl : y_222 = 3 := ey_222.trans (by decide)
        refine va_sld hx hb hX hbl hbA hS (show vp_in 3 6 from (by decide : ¬ ((3 : Int32) < 0 ∨ 6 ≤ Int32.toNatClampNeg 3))) dL_law_872 ?_
        have hPc := hP.sub (ws' := [(a0, .inr (11, [.ref aP, .ref aD, .ref aT, .ref aR, .ref aF, .ref aU, .ref aH, .ref aM, .ref aW, .ref aN])), (aP, .inr (5, PF pz su))]) [0, 1] rfl
        refine vp_callSi (va_runV (As := [.int (xs (Int32.toNatClampNeg 1)), .int (xs (Int32.toNatClampNeg 2)), .int (xs (Int32.toNatClampNeg 3))]) (rest := []) ⟨hx, hb, hml, hown, hts⟩ (c_bar l D cI cB cL cZ a0 aP aD aT aR aF aU aH aM aW aN pz su (xs (Int32.toNatClampNeg 1)) (xs (Int32.toNatClampNeg 2)) (xs (Int32.toNatClampNeg 3))) (cwV 3 hts gL_law_X11_bar rfl rfl rfl (by decide +kernel) ⟨Nat.le_of_ble_eq_true rfl, Nat.le_of_ble_eq_true rfl⟩) ⟨xr_blind, va_recv hK hPc (ci := 11) (q0 := 0) rfl rfl, fun U hU hW => xr_mk hU hW hPc (hK.sub (tys' := [(cI, .int), (cB, .byte), (cL, .long), (cZ, .boolean)]) [0, 1, 2, 3] rfl)⟩ rfl rfl hl.1 rfl (lv_room (Nat.le_of_ble_eq_true rfl)) dL_law_873 ⟨Nat.le_of_ble_eq_true rfl, Nat.le_of_ble_eq_true rfl⟩).run (fun r_223 hr_223 => ?_)
        clear hPc
        subst hr_223
        refine lv_aload_n hx hb dL_law_876 rfl (lv_at hl 1 rfl) ?_
        refine lv_aload_n hx hb dL_law_877 rfl (lv_at hl 3 rfl) ?_
        refine lv_iload_n hx hb dL_law_878 rfl (lv_at hl 0 rfl) ?_
        refine lv_iconst (v := 1) hx hb dL_law_879 (by decide) ?_
        refine lv_iadd hx hb dL_law_880 ?_
        refine lv_topi (fun y_224 ey_224 => ?_)
        obtain rfl : y_224 = 1 := ey_224.trans (by decide)
        refine va_sld hx hb hX hbl hbA hS (show vp_in 1 6 from (by decide : ¬ ((1 : Int32) < 0 ∨ 6 ≤ Int32.toNatClampNeg 1))) dL_law_881 ?_
        refine lv_aload_n hx hb dL_law_882 rfl (lv_at hl 3 rfl) ?_
        refine lv_iload_n hx hb dL_law_883 rfl (lv_at hl 0 rfl) ?_
        refine lv_iconst (v := 2) hx hb dL_law_884 (by decide) ?_
        refine lv_iadd hx hb dL_law_885 ?_
        refine lv_topi (fun y_225 ey_225 => ?_)
        obtain rfl : y_225 = 2 := ey_225.trans (by decide)
        refine va_sld hx hb hX hbl hbA hS (show vp_in 2 6 from (by decide : ¬ ((2 : Int32) < 0 ∨ 6 ≤ Int32.toNatClampNeg 2))) dL_law_886 ?_
        refine lv_aload_n hx hb dL_law_887 rfl (lv_at hl 3 rfl) ?_
        refine lv_iload_n hx hb dL_law_888 rfl (lv_at hl 0 rfl) ?_
        refine lv_iconst (v := 3) hx hb dL_law_889 (by decide) ?_
        refine lv_iadd hx hb dL_law_890 ?_
        refine lv_topi (fun y_226 ey_226 => ?_)
        obtain rfl : y_226 = 3 := ey_226.trans (by decide)
        refine va_sld hx hb hX hbl hbA hS (show vp_in 3 6 from (by decide : ¬ ((3 : Int32) < 0 ∨ 6 ≤ Int32.toNatClampNeg 3))) dL_law_891 ?_
        have hPc := hP.sub (ws' := [(am, .inr (12, MF ad 0 0 0 (-1) 0 0 0 0 0 0 0 0 0 0 0 0 0 0 0 0 0)), ((ad 11), .inl (cI, 2, .inl fR))]) [30, 31] rfl
        refine vp_callSi (va_runV (As := [.int (xs (Int32.toNatClampNeg 1)), .int (xs (Int32.toNatClampNeg 2)), .int (xs (Int32.toNatClampNeg 3))]) (rest := [.int (-1)]) ⟨hx, hb, hml, hown, hts⟩ (m_bar l D cI cB cL cZ am ad 0 0 0 0 0 0 0 0 0 0 0 0 fR (xs (Int32.toNatClampNeg 1)) (xs (Int32.toNatClampNeg 2)) (xs (Int32.toNatClampNeg 3)) hf_fR_0) (cwV 3 hts gL_law_X12_bar rfl rfl rfl (by decide +kernel) ⟨Nat.le_of_ble_eq_true rfl, Nat.le_of_ble_eq_true rfl⟩) ⟨xr_blind, va_recv hK hPc (ci := 12) (q0 := 0) rfl rfl, fun U hU hW => xr_mk hU hW hPc (hK.sub (tys' := [(cI, .int), (cB, .byte), (cL, .long), (cZ, .boolean)]) [0, 1, 2, 3] rfl)⟩ rfl rfl hl.1 rfl (lv_room (Nat.le_of_ble_eq_true rfl)) dL_law_892 ⟨Nat.le_of_ble_eq_true rfl, Nat.le_of_ble_eq_true rfl⟩).run (fun r_227 hr_227 => ?_)
        clear hPc
        subst hr_227
        refine lv_icmp_eq (tgt := 1570) hx hb dL_law_895 (by decide) (fun _ => ?_) (fun c_228 => absurd (by decide) c_228)
        refine lv_iinc (v := 6) (lv' := [(3, .int 6), (2, .ref am), (1, .ref a0), (0, .ref b)]) hx hb dL_law_1570 hl (k := 0) rfl (by decide) (by decide) rfl (fun ls hl => ?_)
        refine lv_goto (tgt := 18) hx hb dL_law_1573 (by decide) ?_
        refine lv_iload_n hx hb dL_law_18 rfl (lv_at hl 0 rfl) ?_
        refine lv_aload_n hx hb dL_law_19 rfl (lv_at hl 3 rfl) ?_
        refine va_slen hx hb hX hbl hbA hS dL_law_20 ?_
        refine lv_topi (fun y_229 ey_229 => ?_)
        obtain rfl : y_229 = 6 := ey_229.trans (by decide)
        refine lv_bipush (v := 6) hx hb dL_law_21 (by decide) ?_
        refine lv_isub hx hb dL_law_23 ?_
        refine lv_topi (fun y_230 ey_230 => ?_)
        obtain rfl : y_230 = 0 := ey_230.trans (by decide)
        refine lv_icmp_gt (tgt := 1576) hx hb dL_law_24 (by decide) (fun _ => ?_) (fun c_231 => absurd (by decide) c_231)
        refine lv_iconst (v := 1) hx hb dL_law_1576 (by decide) ?_
        refine va_forget (fun q hq => by have h := hS.2.2 q hq; rw [hAe] at h; exact h) ?_
        refine W.widen (k := 600000) (n := 7302250) (Nat.le_of_ble_eq_true rfl) (Nat.le_of_ble_eq_true rfl) ?_
        exact lw_ret hx hb hr hlocks dL_law_1577
      · refine lv_tableIn (off := 867) (tgt := 900) hx hb dL_law_33 (by decide) (by decide) (by decide) (by decide) ?_
        refine lv_aload_n hx hb dL_law_900 rfl (lv_at hl 2 rfl) ?_
        refine lv_aload_n hx hb dL_law_901 rfl (lv_at hl 3 rfl) ?_
        refine lv_iload_n hx hb dL_law_902 rfl (lv_at hl 0 rfl) ?_
        refine lv_iconst (v := 1) hx hb dL_law_903 (by decide) ?_
        refine lv_iadd hx hb dL_law_904 ?_
        refine lv_topi (fun y_232 ey_232 => ?_)
        obtain rfl : y_232 = 1 := ey_232.trans (by decide)
        refine va_sld hx hb hX hbl hbA hS (show vp_in 1 6 from (by decide : ¬ ((1 : Int32) < 0 ∨ 6 ≤ Int32.toNatClampNeg 1))) dL_law_905 ?_
        refine lv_aload_n hx hb dL_law_906 rfl (lv_at hl 3 rfl) ?_
        refine lv_iload_n hx hb dL_law_907 rfl (lv_at hl 0 rfl) ?_
        refine lv_iconst (v := 2) hx hb dL_law_908 (by decide) ?_
        refine lv_iadd hx hb dL_law_909 ?_
        refine lv_topi (fun y_233 ey_233 => ?_)
        obtain rfl : y_233 = 2 := ey_233.trans (by decide)
        refine va_sld hx hb hX hbl hbA hS (show vp_in 2 6 from (by decide : ¬ ((2 : Int32) < 0 ∨ 6 ≤ Int32.toNatClampNeg 2))) dL_law_910 ?_
        have hPc := hP.sub (ws' := [(a0, .inr (11, [.ref aP, .ref aD, .ref aT, .ref aR, .ref aF, .ref aU, .ref aH, .ref aM, .ref aW, .ref aN])), (aP, .inr (5, PF pz su)), (aU, .inr (7, [.ref aF, .ref ul, .int 0, .ref uc, .ref ue]))]) [0, 1, 12] rfl
        have hDc := hD.sub (ws' := [(a0, .inr (11, [.ref aP, .ref aD, .ref aT, .ref aR, .ref aF, .ref aU, .ref aH, .ref aM, .ref aW, .ref aN])), (aP, .inr (5, PF pz su)), (aU, .inr (7, [.ref aF, .ref ul, .int 0, .ref uc, .ref ue]))]) [0, 1, 12] (by decide) rfl
        have hFc := va_free (wc := [(a0, .inr (11, [.ref aP, .ref aD, .ref aT, .ref aR, .ref aF, .ref aU, .ref aH, .ref aM, .ref aW, .ref aN])), (aP, .inr (5, PF pz su)), (aU, .inr (7, [.ref aF, .ref ul, .int 0, .ref uc, .ref ue]))]) hD hS hA [0, 1, 12] rfl
        refine va_calli (va_runV (As := [.int (xs (Int32.toNatClampNeg 1)), .int (xs (Int32.toNatClampNeg 2))]) (rest := []) ⟨hx, hb, hml, hown, hts⟩ (c_tour l D cI cB cL cZ a0 aP aD aT aR aF aU aH aM aW aN aF pz su ul uc ue (xs (Int32.toNatClampNeg 1)) (xs (Int32.toNatClampNeg 2)) H.size) (cwV 2 hts gL_law_X11_tour rfl rfl rfl (by decide +kernel) ⟨Nat.le_of_ble_eq_true rfl, Nat.le_of_ble_eq_true rfl⟩) ⟨xp_blind, va_recv hK hPc (ci := 11) (q0 := 0) rfl rfl, fun U hU hW => xp_mk hU hW hPc (hK.sub (tys' := [(cI, .int), (cB, .byte), (cL, .long), (cZ, .boolean)]) [0, 1, 2, 3] rfl) hDc xNw_nil⟩ rfl rfl hl.1 rfl (lv_room (Nat.le_of_ble_eq_true rfl)) dL_law_911 ⟨Nat.le_of_ble_eq_true rfl, Nat.le_of_ble_eq_true rfl⟩) hS (fun q _ h => hFc q h) hFc (fun r_234 u9 t9 H1 locs ht9 hvm9 hr_234 hB9 hz9 hk9 hS => ?_)
        clear hB9 hz9 hPc hDc
        obtain ⟨hP, hD⟩ := va_join (wr := [(su, .inr (1, [.ref s0, .ref s1, .ref s2, .int 0, .int 0, .int 0])), (aD, .inr (5, PF pq sq)), (sq, .inr (1, [.ref z0, .ref z1, .ref z2, .int 0, .int 0, .int 0])), (aT, .inr (8, [.ref tb, .int 0])), (tb, .inl (cB, 1600, .inl fb)), (aR, .inr (6, [.ref rt, .ref aD, .int 0, .int (-1)])), (rt, .inr (9, [.ref aT, .ref to, .int 0, .int 0, .int 0, .long 0, .int 0])), (aF, .inr (0, [.ref aP, .ref fx, .ref fr, .ref fe, .int 0])), (fx, .inl (cI, 8, .inl fxf)), (fr, .inl (cI, 64, .inl frf)), (aM, .inr (3, [.ref aF, .ref mo, .ref ma, .ref mk, .int 0, .int 0, .int 0, .ref mb, .ref mf])), (mo, .inl (cI, 32, .inl fn)), (mk, .inl (cG, 41, .inr (.inr (.inr (.inr kr))))), (r0, .inl (cI, 32, .inl w0)), (r1, .inl (cI, 32, .inl w1)), (mb, .inl (cG, 3, .inr (.inr (.inr (.inr br))))), (b0, .inl (cI, 32, .inl u0)), (b1, .inl (cI, 32, .inl u1)), (b2, .inl (cI, 32, .inl u2)), (mf, .inl (cZ, 3, .inl ff)), (aW, .inr (10, [.ref aM])), (aN, .inr (4, [.ref aF, .int 0, .int 0, .ref n3, .ref n4, .ref n5, .ref n6, .ref n7, .ref n8, .ref n9])), (n3, .inl (cI, 30, .inl g3)), (n4, .inl (cI, 30, .inl g4)), (n5, .inl (cI, 30, .inl g5)), (n6, .inl (cI, 30, .inl g6)), (n7, .inl (cI, 8, .inl fo7)), (am, .inr (12, MF ad 0 0 0 (-1) 0 0 0 0 0 0 0 0 0 0 0 0 0 0 0 0 0)), ((ad 11), .inl (cI, 2, .inl fR)), ((ad 12), .inl (cI, 2, .inl fD)), ((ad 13), .inl (cI, 2, .inl fT)), ((ad 14), .inl (cI, 2, .inl fU)), ((ad 15), .inl (cI, 2, .inl fW)), ((ad 26), .inl (cZ, 2, .inl fS)), ((ad 27), .inl (cZ, 2, .inl fX)), ((ad 42), .inl (cI, 32, .inl fA)), ((ad 70), .inl (cZ, 3, .inl fB)), ((ad 0), .inl (cB, 1620, .inl ft)), ((ad 59), .inl (cI, 30, .inl t0)), ((ad 60), .inl (cI, 30, .inl t1)), ((ad 61), .inl (cI, 30, .inl t2)), ((ad 62), .inl (cI, 30, .inl t3)), ((ad 63), .inl (cI, 30, .inl t4)), ((ad 64), .inl (cI, 30, .inl t5)), ((ad 57), .inl (cI, 64, .inl fk)), ((ad 45), .inl (cI, 1312, .inl fw)), ((ad 69), .inl (cI, 96, .inl fbm))]) (w1 := []) hP hD [0, 1, 12] [2, 3, 4, 5, 6, 7, 8, 9, 10, 11, 13, 14, 15, 16, 17, 18, 19, 20, 21, 22, 23, 24, 25, 26, 27, 28, 29, 30, 31, 32, 33, 34, 35, 36, 37, 38, 39, 40, 41, 42, 43, 44, 45, 46, 47, 48, 49] rfl rfl (by decide) (by decide) hk9 hFc (fun k q h => by simp at h) ⟨fun i j p q h => by simp at h, fun k q h => by simp at h⟩
        clear hk9 hFc ht9 hvm9
        generalize H1 = H at hP hS ⊢
        replace hP : va_P D classes [(su, .inr (1, [.ref s0, .ref s1, .ref s2, .int 0, .int 0, .int 0])), (aD, .inr (5, PF pq sq)), (sq, .inr (1, [.ref z0, .ref z1, .ref z2, .int 0, .int 0, .int 0])), (aT, .inr (8, [.ref tb, .int 0])), (tb, .inl (cB, 1600, .inl fb)), (aR, .inr (6, [.ref rt, .ref aD, .int 0, .int (-1)])), (rt, .inr (9, [.ref aT, .ref to, .int 0, .int 0, .int 0, .long 0, .int 0])), (aF, .inr (0, [.ref aP, .ref fx, .ref fr, .ref fe, .int 0])), (fx, .inl (cI, 8, .inl fxf)), (fr, .inl (cI, 64, .inl frf)), (aM, .inr (3, [.ref aF, .ref mo, .ref ma, .ref mk, .int 0, .int 0, .int 0, .ref mb, .ref mf])), (mo, .inl (cI, 32, .inl fn)), (mk, .inl (cG, 41, .inr (.inr (.inr (.inr kr))))), (r0, .inl (cI, 32, .inl w0)), (r1, .inl (cI, 32, .inl w1)), (mb, .inl (cG, 3, .inr (.inr (.inr (.inr br))))), (b0, .inl (cI, 32, .inl u0)), (b1, .inl (cI, 32, .inl u1)), (b2, .inl (cI, 32, .inl u2)), (mf, .inl (cZ, 3, .inl ff)), (aW, .inr (10, [.ref aM])), (aN, .inr (4, [.ref aF, .int 0, .int 0, .ref n3, .ref n4, .ref n5, .ref n6, .ref n7, .ref n8, .ref n9])), (n3, .inl (cI, 30, .inl g3)), (n4, .inl (cI, 30, .inl g4)), (n5, .inl (cI, 30, .inl g5)), (n6, .inl (cI, 30, .inl g6)), (n7, .inl (cI, 8, .inl fo7)), (am, .inr (12, MF ad 0 0 0 (-1) 0 0 0 0 0 0 0 0 0 0 0 0 0 0 0 0 0)), ((ad 11), .inl (cI, 2, .inl fR)), ((ad 12), .inl (cI, 2, .inl fD)), ((ad 13), .inl (cI, 2, .inl fT)), ((ad 14), .inl (cI, 2, .inl fU)), ((ad 15), .inl (cI, 2, .inl fW)), ((ad 26), .inl (cZ, 2, .inl fS)), ((ad 27), .inl (cZ, 2, .inl fX)), ((ad 42), .inl (cI, 32, .inl fA)), ((ad 70), .inl (cZ, 3, .inl fB)), ((ad 0), .inl (cB, 1620, .inl ft)), ((ad 59), .inl (cI, 30, .inl t0)), ((ad 60), .inl (cI, 30, .inl t1)), ((ad 61), .inl (cI, 30, .inl t2)), ((ad 62), .inl (cI, 30, .inl t3)), ((ad 63), .inl (cI, 30, .inl t4)), ((ad 64), .inl (cI, 30, .inl t5)), ((ad 57), .inl (cI, 64, .inl fk)), ((ad 45), .inl (cI, 1312, .inl fw)), ((ad 69), .inl (cI, 96, .inl fbm))] H := hP
        replace hD : va_D A [(su, .inr (1, [.ref s0, .ref s1, .ref s2, .int 0, .int 0, .int 0])), (aD, .inr (5, PF pq sq)), (sq, .inr (1, [.ref z0, .ref z1, .ref z2, .int 0, .int 0, .int 0])), (aT, .inr (8, [.ref tb, .int 0])), (tb, .inl (cB, 1600, .inl fb)), (aR, .inr (6, [.ref rt, .ref aD, .int 0, .int (-1)])), (rt, .inr (9, [.ref aT, .ref to, .int 0, .int 0, .int 0, .long 0, .int 0])), (aF, .inr (0, [.ref aP, .ref fx, .ref fr, .ref fe, .int 0])), (fx, .inl (cI, 8, .inl fxf)), (fr, .inl (cI, 64, .inl frf)), (aM, .inr (3, [.ref aF, .ref mo, .ref ma, .ref mk, .int 0, .int 0, .int 0, .ref mb, .ref mf])), (mo, .inl (cI, 32, .inl fn)), (mk, .inl (cG, 41, .inr (.inr (.inr (.inr kr))))), (r0, .inl (cI, 32, .inl w0)), (r1, .inl (cI, 32, .inl w1)), (mb, .inl (cG, 3, .inr (.inr (.inr (.inr br))))), (b0, .inl (cI, 32, .inl u0)), (b1, .inl (cI, 32, .inl u1)), (b2, .inl (cI, 32, .inl u2)), (mf, .inl (cZ, 3, .inl ff)), (aW, .inr (10, [.ref aM])), (aN, .inr (4, [.ref aF, .int 0, .int 0, .ref n3, .ref n4, .ref n5, .ref n6, .ref n7, .ref n8, .ref n9])), (n3, .inl (cI, 30, .inl g3)), (n4, .inl (cI, 30, .inl g4)), (n5, .inl (cI, 30, .inl g5)), (n6, .inl (cI, 30, .inl g6)), (n7, .inl (cI, 8, .inl fo7)), (am, .inr (12, MF ad 0 0 0 (-1) 0 0 0 0 0 0 0 0 0 0 0 0 0 0 0 0 0)), ((ad 11), .inl (cI, 2, .inl fR)), ((ad 12), .inl (cI, 2, .inl fD)), ((ad 13), .inl (cI, 2, .inl fT)), ((ad 14), .inl (cI, 2, .inl fU)), ((ad 15), .inl (cI, 2, .inl fW)), ((ad 26), .inl (cZ, 2, .inl fS)), ((ad 27), .inl (cZ, 2, .inl fX)), ((ad 42), .inl (cI, 32, .inl fA)), ((ad 70), .inl (cZ, 3, .inl fB)), ((ad 0), .inl (cB, 1620, .inl ft)), ((ad 59), .inl (cI, 30, .inl t0)), ((ad 60), .inl (cI, 30, .inl t1)), ((ad 61), .inl (cI, 30, .inl t2)), ((ad 62), .inl (cI, 30, .inl t3)), ((ad 63), .inl (cI, 30, .inl t4)), ((ad 64), .inl (cI, 30, .inl t5)), ((ad 57), .inl (cI, 64, .inl fk)), ((ad 45), .inl (cI, 1312, .inl fw)), ((ad 69), .inl (cI, 96, .inl fbm))] := hD
        subst hr_234
        refine lv_aload_n hx hb dL_law_914 rfl (lv_at hl 1 rfl) ?_
        refine lv_aload_n hx hb dL_law_915 rfl (lv_at hl 3 rfl) ?_
        refine lv_iload_n hx hb dL_law_916 rfl (lv_at hl 0 rfl) ?_
        refine lv_iconst (v := 1) hx hb dL_law_917 (by decide) ?_
        refine lv_iadd hx hb dL_law_918 ?_
        refine lv_topi (fun y_235 ey_235 => ?_)
        obtain rfl : y_235 = 1 := ey_235.trans (by decide)
        refine va_sld hx hb hX hbl hbA hS (show vp_in 1 6 from (by decide : ¬ ((1 : Int32) < 0 ∨ 6 ≤ Int32.toNatClampNeg 1))) dL_law_919 ?_
        refine lv_aload_n hx hb dL_law_920 rfl (lv_at hl 3 rfl) ?_
        refine lv_iload_n hx hb dL_law_921 rfl (lv_at hl 0 rfl) ?_
        refine lv_iconst (v := 2) hx hb dL_law_922 (by decide) ?_
        refine lv_iadd hx hb dL_law_923 ?_
        refine lv_topi (fun y_236 ey_236 => ?_)
        obtain rfl : y_236 = 2 := ey_236.trans (by decide)
        refine va_sld hx hb hX hbl hbA hS (show vp_in 2 6 from (by decide : ¬ ((2 : Int32) < 0 ∨ 6 ≤ Int32.toNatClampNeg 2))) dL_law_924 ?_
        have hPc := hP.sub (ws' := [(am, .inr (12, MF ad 0 0 0 (-1) 0 0 0 0 0 0 0 0 0 0 0 0 0 0 0 0 0)), ((ad 11), .inl (cI, 2, .inl fR))]) [27, 28] rfl
        have hDc := hD.sub (ws' := [(am, .inr (12, MF ad 0 0 0 (-1) 0 0 0 0 0 0 0 0 0 0 0 0 0 0 0 0 0)), ((ad 11), .inl (cI, 2, .inl fR))]) [27, 28] (by decide) rfl
        have hFc := va_free (wc := [(am, .inr (12, MF ad 0 0 0 (-1) 0 0 0 0 0 0 0 0 0 0 0 0 0 0 0 0 0)), ((ad 11), .inl (cI, 2, .inl fR))]) hD hS hA [27, 28] rfl
        refine va_calli (va_runV (As := [.int (xs (Int32.toNatClampNeg 1)), .int (xs (Int32.toNatClampNeg 2))]) (rest := [.int (-1)]) ⟨hx, hb, hml, hown, hts⟩ (m_tour l D cI cB cL cZ am ad 0 0 0 0 0 0 0 0 0 0 0 0 fR (xs (Int32.toNatClampNeg 1)) (xs (Int32.toNatClampNeg 2)) H.size hf_fR_0) (cwV 2 hts gL_law_X12_tour rfl rfl rfl (by decide +kernel) ⟨Nat.le_of_ble_eq_true rfl, Nat.le_of_ble_eq_true rfl⟩) ⟨xp_blind, va_recv hK hPc (ci := 12) (q0 := 0) rfl rfl, fun U hU hW => xp_mk hU hW hPc (hK.sub (tys' := [(cI, .int), (cB, .byte), (cL, .long), (cZ, .boolean)]) [0, 1, 2, 3] rfl) hDc xNw_nil⟩ rfl rfl hl.1 rfl (lv_room (Nat.le_of_ble_eq_true rfl)) dL_law_925 ⟨Nat.le_of_ble_eq_true rfl, Nat.le_of_ble_eq_true rfl⟩) hS (fun q _ h => hFc q h) hFc (fun r_237 u9 t9 H1 locs ht9 hvm9 hr_237 hB9 hz9 hk9 hS => ?_)
        clear hB9 hz9 hPc hDc
        obtain ⟨hP, hD⟩ := va_join (wr := [(su, .inr (1, [.ref s0, .ref s1, .ref s2, .int 0, .int 0, .int 0])), (aD, .inr (5, PF pq sq)), (sq, .inr (1, [.ref z0, .ref z1, .ref z2, .int 0, .int 0, .int 0])), (aT, .inr (8, [.ref tb, .int 0])), (tb, .inl (cB, 1600, .inl fb)), (aR, .inr (6, [.ref rt, .ref aD, .int 0, .int (-1)])), (rt, .inr (9, [.ref aT, .ref to, .int 0, .int 0, .int 0, .long 0, .int 0])), (aF, .inr (0, [.ref aP, .ref fx, .ref fr, .ref fe, .int 0])), (fx, .inl (cI, 8, .inl fxf)), (fr, .inl (cI, 64, .inl frf)), (aM, .inr (3, [.ref aF, .ref mo, .ref ma, .ref mk, .int 0, .int 0, .int 0, .ref mb, .ref mf])), (mo, .inl (cI, 32, .inl fn)), (mk, .inl (cG, 41, .inr (.inr (.inr (.inr kr))))), (r0, .inl (cI, 32, .inl w0)), (r1, .inl (cI, 32, .inl w1)), (mb, .inl (cG, 3, .inr (.inr (.inr (.inr br))))), (b0, .inl (cI, 32, .inl u0)), (b1, .inl (cI, 32, .inl u1)), (b2, .inl (cI, 32, .inl u2)), (mf, .inl (cZ, 3, .inl ff)), (aW, .inr (10, [.ref aM])), (aN, .inr (4, [.ref aF, .int 0, .int 0, .ref n3, .ref n4, .ref n5, .ref n6, .ref n7, .ref n8, .ref n9])), (n3, .inl (cI, 30, .inl g3)), (n4, .inl (cI, 30, .inl g4)), (n5, .inl (cI, 30, .inl g5)), (n6, .inl (cI, 30, .inl g6)), (n7, .inl (cI, 8, .inl fo7)), ((ad 12), .inl (cI, 2, .inl fD)), ((ad 13), .inl (cI, 2, .inl fT)), ((ad 14), .inl (cI, 2, .inl fU)), ((ad 15), .inl (cI, 2, .inl fW)), ((ad 26), .inl (cZ, 2, .inl fS)), ((ad 27), .inl (cZ, 2, .inl fX)), ((ad 42), .inl (cI, 32, .inl fA)), ((ad 70), .inl (cZ, 3, .inl fB)), ((ad 0), .inl (cB, 1620, .inl ft)), ((ad 59), .inl (cI, 30, .inl t0)), ((ad 60), .inl (cI, 30, .inl t1)), ((ad 61), .inl (cI, 30, .inl t2)), ((ad 62), .inl (cI, 30, .inl t3)), ((ad 63), .inl (cI, 30, .inl t4)), ((ad 64), .inl (cI, 30, .inl t5)), ((ad 57), .inl (cI, 64, .inl fk)), ((ad 45), .inl (cI, 1312, .inl fw)), ((ad 69), .inl (cI, 96, .inl fbm))]) (w1 := []) hP hD [27, 28] [0, 1, 2, 3, 4, 5, 6, 7, 8, 9, 10, 11, 12, 13, 14, 15, 16, 17, 18, 19, 20, 21, 22, 23, 24, 25, 26, 29, 30, 31, 32, 33, 34, 35, 36, 37, 38, 39, 40, 41, 42, 43, 44, 45, 46] rfl rfl (by decide) (by decide) hk9 hFc (fun k q h => by simp at h) ⟨fun i j p q h => by simp at h, fun k q h => by simp at h⟩
        clear hk9 hFc ht9 hvm9
        generalize H1 = H at hP hS ⊢
        replace hP : va_P D classes [(su, .inr (1, [.ref s0, .ref s1, .ref s2, .int 0, .int 0, .int 0])), (aD, .inr (5, PF pq sq)), (sq, .inr (1, [.ref z0, .ref z1, .ref z2, .int 0, .int 0, .int 0])), (aT, .inr (8, [.ref tb, .int 0])), (tb, .inl (cB, 1600, .inl fb)), (aR, .inr (6, [.ref rt, .ref aD, .int 0, .int (-1)])), (rt, .inr (9, [.ref aT, .ref to, .int 0, .int 0, .int 0, .long 0, .int 0])), (aF, .inr (0, [.ref aP, .ref fx, .ref fr, .ref fe, .int 0])), (fx, .inl (cI, 8, .inl fxf)), (fr, .inl (cI, 64, .inl frf)), (aM, .inr (3, [.ref aF, .ref mo, .ref ma, .ref mk, .int 0, .int 0, .int 0, .ref mb, .ref mf])), (mo, .inl (cI, 32, .inl fn)), (mk, .inl (cG, 41, .inr (.inr (.inr (.inr kr))))), (r0, .inl (cI, 32, .inl w0)), (r1, .inl (cI, 32, .inl w1)), (mb, .inl (cG, 3, .inr (.inr (.inr (.inr br))))), (b0, .inl (cI, 32, .inl u0)), (b1, .inl (cI, 32, .inl u1)), (b2, .inl (cI, 32, .inl u2)), (mf, .inl (cZ, 3, .inl ff)), (aW, .inr (10, [.ref aM])), (aN, .inr (4, [.ref aF, .int 0, .int 0, .ref n3, .ref n4, .ref n5, .ref n6, .ref n7, .ref n8, .ref n9])), (n3, .inl (cI, 30, .inl g3)), (n4, .inl (cI, 30, .inl g4)), (n5, .inl (cI, 30, .inl g5)), (n6, .inl (cI, 30, .inl g6)), (n7, .inl (cI, 8, .inl fo7)), ((ad 12), .inl (cI, 2, .inl fD)), ((ad 13), .inl (cI, 2, .inl fT)), ((ad 14), .inl (cI, 2, .inl fU)), ((ad 15), .inl (cI, 2, .inl fW)), ((ad 26), .inl (cZ, 2, .inl fS)), ((ad 27), .inl (cZ, 2, .inl fX)), ((ad 42), .inl (cI, 32, .inl fA)), ((ad 70), .inl (cZ, 3, .inl fB)), ((ad 0), .inl (cB, 1620, .inl ft)), ((ad 59), .inl (cI, 30, .inl t0)), ((ad 60), .inl (cI, 30, .inl t1)), ((ad 61), .inl (cI, 30, .inl t2)), ((ad 62), .inl (cI, 30, .inl t3)), ((ad 63), .inl (cI, 30, .inl t4)), ((ad 64), .inl (cI, 30, .inl t5)), ((ad 57), .inl (cI, 64, .inl fk)), ((ad 45), .inl (cI, 1312, .inl fw)), ((ad 69), .inl (cI, 96, .inl fbm))] H := hP
        replace hD : va_D A [(su, .inr (1, [.ref s0, .ref s1, .ref s2, .int 0, .int 0, .int 0])), (aD, .inr (5, PF pq sq)), (sq, .inr (1, [.ref z0, .ref z1, .ref z2, .int 0, .int 0, .int 0])), (aT, .inr (8, [.ref tb, .int 0])), (tb, .inl (cB, 1600, .inl fb)), (aR, .inr (6, [.ref rt, .ref aD, .int 0, .int (-1)])), (rt, .inr (9, [.ref aT, .ref to, .int 0, .int 0, .int 0, .long 0, .int 0])), (aF, .inr (0, [.ref aP, .ref fx, .ref fr, .ref fe, .int 0])), (fx, .inl (cI, 8, .inl fxf)), (fr, .inl (cI, 64, .inl frf)), (aM, .inr (3, [.ref aF, .ref mo, .ref ma, .ref mk, .int 0, .int 0, .int 0, .ref mb, .ref mf])), (mo, .inl (cI, 32, .inl fn)), (mk, .inl (cG, 41, .inr (.inr (.inr (.inr kr))))), (r0, .inl (cI, 32, .inl w0)), (r1, .inl (cI, 32, .inl w1)), (mb, .inl (cG, 3, .inr (.inr (.inr (.inr br))))), (b0, .inl (cI, 32, .inl u0)), (b1, .inl (cI, 32, .inl u1)), (b2, .inl (cI, 32, .inl u2)), (mf, .inl (cZ, 3, .inl ff)), (aW, .inr (10, [.ref aM])), (aN, .inr (4, [.ref aF, .int 0, .int 0, .ref n3, .ref n4, .ref n5, .ref n6, .ref n7, .ref n8, .ref n9])), (n3, .inl (cI, 30, .inl g3)), (n4, .inl (cI, 30, .inl g4)), (n5, .inl (cI, 30, .inl g5)), (n6, .inl (cI, 30, .inl g6)), (n7, .inl (cI, 8, .inl fo7)), ((ad 12), .inl (cI, 2, .inl fD)), ((ad 13), .inl (cI, 2, .inl fT)), ((ad 14), .inl (cI, 2, .inl fU)), ((ad 15), .inl (cI, 2, .inl fW)), ((ad 26), .inl (cZ, 2, .inl fS)), ((ad 27), .inl (cZ, 2, .inl fX)), ((ad 42), .inl (cI, 32, .inl fA)), ((ad 70), .inl (cZ, 3, .inl fB)), ((ad 0), .inl (cB, 1620, .inl ft)), ((ad 59), .inl (cI, 30, .inl t0)), ((ad 60), .inl (cI, 30, .inl t1)), ((ad 61), .inl (cI, 30, .inl t2)), ((ad 62), .inl (cI, 30, .inl t3)), ((ad 63), .inl (cI, 30, .inl t4)), ((ad 64), .inl (cI, 30, .inl t5)), ((ad 57), .inl (cI, 64, .inl fk)), ((ad 45), .inl (cI, 1312, .inl fw)), ((ad 69), .inl (cI, 96, .inl fbm))] := hD
        subst hr_237
        refine lv_icmp_eq (tgt := 1570) hx hb dL_law_928 (by decide) (fun _ => ?_) (fun c_238 => absurd (by decide) c_238)
        refine lv_iinc (v := 6) (lv' := [(3, .int 6), (2, .ref am), (1, .ref a0), (0, .ref b)]) hx hb dL_law_1570 hl (k := 0) rfl (by decide) (by decide) rfl (fun ls hl => ?_)
        refine lv_goto (tgt := 18) hx hb dL_law_1573 (by decide) ?_
        refine lv_iload_n hx hb dL_law_18 rfl (lv_at hl 0 rfl) ?_
        refine lv_aload_n hx hb dL_law_19 rfl (lv_at hl 3 rfl) ?_
        refine va_slen hx hb hX hbl hbA hS dL_law_20 ?_
        refine lv_topi (fun y_239 ey_239 => ?_)
        obtain rfl : y_239 = 6 := ey_239.trans (by decide)
        refine lv_bipush (v := 6) hx hb dL_law_21 (by decide) ?_
        refine lv_isub hx hb dL_law_23 ?_
        refine lv_topi (fun y_240 ey_240 => ?_)
        obtain rfl : y_240 = 0 := ey_240.trans (by decide)
        refine lv_icmp_gt (tgt := 1576) hx hb dL_law_24 (by decide) (fun _ => ?_) (fun c_241 => absurd (by decide) c_241)
        refine lv_iconst (v := 1) hx hb dL_law_1576 (by decide) ?_
        refine va_forget (fun q hq => by have h := hS.2.2 q hq; rw [hAe] at h; exact h) ?_
        refine W.widen (k := 600000) (n := 7302250) (Nat.le_of_ble_eq_true rfl) (Nat.le_of_ble_eq_true rfl) ?_
        exact lw_ret hx hb hr hlocks dL_law_1577
      · refine lv_tableIn (off := 900) (tgt := 933) hx hb dL_law_33 (by decide) (by decide) (by decide) (by decide) ?_
        refine lv_aload_n hx hb dL_law_933 rfl (lv_at hl 2 rfl) ?_
        have hPc := hP.sub (ws' := [(a0, .inr (11, [.ref aP, .ref aD, .ref aT, .ref aR, .ref aF, .ref aU, .ref aH, .ref aM, .ref aW, .ref aN])), (aF, .inr (0, [.ref aP, .ref fx, .ref fr, .ref fe, .int 0])), (aP, .inr (5, PF pz su))]) [0, 9, 1] rfl
        refine vp_callSi (va_runV (As := []) (rest := []) ⟨hx, hb, hml, hown, hts⟩ (c_centre l D cI cB cL cZ a0 aP aD aT aR aF aU aH aM aW aN fx fr fe pz su) (cwV 0 hts gL_law_X11_centre rfl rfl rfl (by decide +kernel) ⟨Nat.le_of_ble_eq_true rfl, Nat.le_of_ble_eq_true rfl⟩) ⟨xr_blind, va_recv hK hPc (ci := 11) (q0 := 0) rfl rfl, fun U hU hW => xr_mk hU hW hPc (hK.sub (tys' := [(cI, .int), (cB, .byte), (cL, .long), (cZ, .boolean)]) [0, 1, 2, 3] rfl)⟩ rfl rfl hl.1 rfl (lv_room (Nat.le_of_ble_eq_true rfl)) dL_law_934 ⟨Nat.le_of_ble_eq_true rfl, Nat.le_of_ble_eq_true rfl⟩).run (fun r_242 hr_242 => ?_)
        clear hPc
        subst hr_242
        refine lv_aload_n hx hb dL_law_937 rfl (lv_at hl 1 rfl) ?_
        have hPc := hP.sub (ws' := [(am, .inr (12, MF ad 0 0 0 (-1) 0 0 0 0 0 0 0 0 0 0 0 0 0 0 0 0 0)), ((ad 11), .inl (cI, 2, .inl fR))]) [30, 31] rfl
        refine vp_callSi (va_runV (As := []) (rest := [.int (-1)]) ⟨hx, hb, hml, hown, hts⟩ (m_centre l D cI cB cL cZ am ad 0 0 0 0 0 0 0 0 0 0 0 0 fR hf_fR_0) (cwV 0 hts gL_law_X12_centre rfl rfl rfl (by decide +kernel) ⟨Nat.le_of_ble_eq_true rfl, Nat.le_of_ble_eq_true rfl⟩) ⟨xr_blind, va_recv hK hPc (ci := 12) (q0 := 0) rfl rfl, fun U hU hW => xr_mk hU hW hPc (hK.sub (tys' := [(cI, .int), (cB, .byte), (cL, .long), (cZ, .boolean)]) [0, 1, 2, 3] rfl)⟩ rfl rfl hl.1 rfl (lv_room (Nat.le_of_ble_eq_true rfl)) dL_law_938 ⟨Nat.le_of_ble_eq_true rfl, Nat.le_of_ble_eq_true rfl⟩).run (fun r_243 hr_243 => ?_)
        clear hPc
        subst hr_243
        refine lv_icmp_eq (tgt := 1570) hx hb dL_law_941 (by decide) (fun _ => ?_) (fun c_244 => absurd (by decide) c_244)
        refine lv_iinc (v := 6) (lv' := [(3, .int 6), (2, .ref am), (1, .ref a0), (0, .ref b)]) hx hb dL_law_1570 hl (k := 0) rfl (by decide) (by decide) rfl (fun ls hl => ?_)
        refine lv_goto (tgt := 18) hx hb dL_law_1573 (by decide) ?_
        refine lv_iload_n hx hb dL_law_18 rfl (lv_at hl 0 rfl) ?_
        refine lv_aload_n hx hb dL_law_19 rfl (lv_at hl 3 rfl) ?_
        refine va_slen hx hb hX hbl hbA hS dL_law_20 ?_
        refine lv_topi (fun y_245 ey_245 => ?_)
        obtain rfl : y_245 = 6 := ey_245.trans (by decide)
        refine lv_bipush (v := 6) hx hb dL_law_21 (by decide) ?_
        refine lv_isub hx hb dL_law_23 ?_
        refine lv_topi (fun y_246 ey_246 => ?_)
        obtain rfl : y_246 = 0 := ey_246.trans (by decide)
        refine lv_icmp_gt (tgt := 1576) hx hb dL_law_24 (by decide) (fun _ => ?_) (fun c_247 => absurd (by decide) c_247)
        refine lv_iconst (v := 1) hx hb dL_law_1576 (by decide) ?_
        refine va_forget (fun q hq => by have h := hS.2.2 q hq; rw [hAe] at h; exact h) ?_
        refine W.widen (k := 600000) (n := 7302250) (Nat.le_of_ble_eq_true rfl) (Nat.le_of_ble_eq_true rfl) ?_
        exact lw_ret hx hb hr hlocks dL_law_1577
      · refine lv_tableIn (off := 913) (tgt := 946) hx hb dL_law_33 (by decide) (by decide) (by decide) (by decide) ?_
        refine lv_aload_n hx hb dL_law_946 rfl (lv_at hl 2 rfl) ?_
        have hPc := hP.sub (ws' := [(a0, .inr (11, [.ref aP, .ref aD, .ref aT, .ref aR, .ref aF, .ref aU, .ref aH, .ref aM, .ref aW, .ref aN])), (aP, .inr (5, PF pz su))]) [0, 1] rfl
        refine vp_callSi (va_runV (As := []) (rest := []) ⟨hx, hb, hml, hown, hts⟩ (c_nooks l D cI cB cL cZ a0 aP aD aT aR aF aU aH aM aW aN pz su) (cwV 0 hts gL_law_X11_nooks rfl rfl rfl (by decide +kernel) ⟨Nat.le_of_ble_eq_true rfl, Nat.le_of_ble_eq_true rfl⟩) ⟨xr_blind, va_recv hK hPc (ci := 11) (q0 := 0) rfl rfl, fun U hU hW => xr_mk hU hW hPc (hK.sub (tys' := [(cI, .int), (cB, .byte), (cL, .long), (cZ, .boolean)]) [0, 1, 2, 3] rfl)⟩ rfl rfl hl.1 rfl (lv_room (Nat.le_of_ble_eq_true rfl)) dL_law_947 ⟨Nat.le_of_ble_eq_true rfl, Nat.le_of_ble_eq_true rfl⟩).run (fun r_248 hr_248 => ?_)
        clear hPc
        subst hr_248
        refine lv_aload_n hx hb dL_law_950 rfl (lv_at hl 1 rfl) ?_
        have hPc := hP.sub (ws' := [(am, .inr (12, MF ad 0 0 0 (-1) 0 0 0 0 0 0 0 0 0 0 0 0 0 0 0 0 0)), ((ad 11), .inl (cI, 2, .inl fR))]) [30, 31] rfl
        refine vp_callSi (va_runV (As := []) (rest := [.int 0]) ⟨hx, hb, hml, hown, hts⟩ (m_nooks l D cI cB cL cZ am ad 0 0 0 0 0 0 0 0 0 0 0 0 fR hf_fR_0) (cwV 0 hts gL_law_X12_nooks rfl rfl rfl (by decide +kernel) ⟨Nat.le_of_ble_eq_true rfl, Nat.le_of_ble_eq_true rfl⟩) ⟨xr_blind, va_recv hK hPc (ci := 12) (q0 := 0) rfl rfl, fun U hU hW => xr_mk hU hW hPc (hK.sub (tys' := [(cI, .int), (cB, .byte), (cL, .long), (cZ, .boolean)]) [0, 1, 2, 3] rfl)⟩ rfl rfl hl.1 rfl (lv_room (Nat.le_of_ble_eq_true rfl)) dL_law_951 ⟨Nat.le_of_ble_eq_true rfl, Nat.le_of_ble_eq_true rfl⟩).run (fun r_249 hr_249 => ?_)
        clear hPc
        subst hr_249
        refine lv_icmp_eq (tgt := 1570) hx hb dL_law_954 (by decide) (fun _ => ?_) (fun c_250 => absurd (by decide) c_250)
        refine lv_iinc (v := 6) (lv' := [(3, .int 6), (2, .ref am), (1, .ref a0), (0, .ref b)]) hx hb dL_law_1570 hl (k := 0) rfl (by decide) (by decide) rfl (fun ls hl => ?_)
        refine lv_goto (tgt := 18) hx hb dL_law_1573 (by decide) ?_
        refine lv_iload_n hx hb dL_law_18 rfl (lv_at hl 0 rfl) ?_
        refine lv_aload_n hx hb dL_law_19 rfl (lv_at hl 3 rfl) ?_
        refine va_slen hx hb hX hbl hbA hS dL_law_20 ?_
        refine lv_topi (fun y_251 ey_251 => ?_)
        obtain rfl : y_251 = 6 := ey_251.trans (by decide)
        refine lv_bipush (v := 6) hx hb dL_law_21 (by decide) ?_
        refine lv_isub hx hb dL_law_23 ?_
        refine lv_topi (fun y_252 ey_252 => ?_)
        obtain rfl : y_252 = 0 := ey_252.trans (by decide)
        refine lv_icmp_gt (tgt := 1576) hx hb dL_law_24 (by decide) (fun _ => ?_) (fun c_253 => absurd (by decide) c_253)
        refine lv_iconst (v := 1) hx hb dL_law_1576 (by decide) ?_
        refine va_forget (fun q hq => by have h := hS.2.2 q hq; rw [hAe] at h; exact h) ?_
        refine W.widen (k := 600000) (n := 7302250) (Nat.le_of_ble_eq_true rfl) (Nat.le_of_ble_eq_true rfl) ?_
        exact lw_ret hx hb hr hlocks dL_law_1577
      · refine lv_tableIn (off := 926) (tgt := 959) hx hb dL_law_33 (by decide) (by decide) (by decide) (by decide) ?_
        refine lv_aload_n hx hb dL_law_959 rfl (lv_at hl 2 rfl) ?_
        refine lv_aload_n hx hb dL_law_960 rfl (lv_at hl 3 rfl) ?_
        refine lv_iload_n hx hb dL_law_961 rfl (lv_at hl 0 rfl) ?_
        refine lv_iconst (v := 1) hx hb dL_law_962 (by decide) ?_
        refine lv_iadd hx hb dL_law_963 ?_
        refine lv_topi (fun y_254 ey_254 => ?_)
        obtain rfl : y_254 = 1 := ey_254.trans (by decide)
        refine va_sld hx hb hX hbl hbA hS (show vp_in 1 6 from (by decide : ¬ ((1 : Int32) < 0 ∨ 6 ≤ Int32.toNatClampNeg 1))) dL_law_964 ?_
        refine lv_aload_n hx hb dL_law_965 rfl (lv_at hl 3 rfl) ?_
        refine lv_iload_n hx hb dL_law_966 rfl (lv_at hl 0 rfl) ?_
        refine lv_iconst (v := 2) hx hb dL_law_967 (by decide) ?_
        refine lv_iadd hx hb dL_law_968 ?_
        refine lv_topi (fun y_255 ey_255 => ?_)
        obtain rfl : y_255 = 2 := ey_255.trans (by decide)
        refine va_sld hx hb hX hbl hbA hS (show vp_in 2 6 from (by decide : ¬ ((2 : Int32) < 0 ∨ 6 ≤ Int32.toNatClampNeg 2))) dL_law_969 ?_
        have hPc := hP.sub (ws' := [(a0, .inr (11, [.ref aP, .ref aD, .ref aT, .ref aR, .ref aF, .ref aU, .ref aH, .ref aM, .ref aW, .ref aN])), (aP, .inr (5, PF pz su))]) [0, 1] rfl
        refine vp_callSi (va_runV (As := [.int (xs (Int32.toNatClampNeg 1)), .int (xs (Int32.toNatClampNeg 2))]) (rest := []) ⟨hx, hb, hml, hown, hts⟩ (c_echo l D cI cB cL cZ a0 aP aD aT aR aF aU aH aM aW aN pz su (xs (Int32.toNatClampNeg 1)) (xs (Int32.toNatClampNeg 2))) (cwV 2 hts gL_law_X11_echo rfl rfl rfl (by decide +kernel) ⟨Nat.le_of_ble_eq_true rfl, Nat.le_of_ble_eq_true rfl⟩) ⟨xr_blind, va_recv hK hPc (ci := 11) (q0 := 0) rfl rfl, fun U hU hW => xr_mk hU hW hPc (hK.sub (tys' := [(cI, .int), (cB, .byte), (cL, .long), (cZ, .boolean)]) [0, 1, 2, 3] rfl)⟩ rfl rfl hl.1 rfl (lv_room (Nat.le_of_ble_eq_true rfl)) dL_law_970 ⟨Nat.le_of_ble_eq_true rfl, Nat.le_of_ble_eq_true rfl⟩).run (fun r_256 hr_256 => ?_)
        clear hPc
        subst hr_256
        refine lv_aload_n hx hb dL_law_973 rfl (lv_at hl 1 rfl) ?_
        refine lv_aload_n hx hb dL_law_974 rfl (lv_at hl 3 rfl) ?_
        refine lv_iload_n hx hb dL_law_975 rfl (lv_at hl 0 rfl) ?_
        refine lv_iconst (v := 1) hx hb dL_law_976 (by decide) ?_
        refine lv_iadd hx hb dL_law_977 ?_
        refine lv_topi (fun y_257 ey_257 => ?_)
        obtain rfl : y_257 = 1 := ey_257.trans (by decide)
        refine va_sld hx hb hX hbl hbA hS (show vp_in 1 6 from (by decide : ¬ ((1 : Int32) < 0 ∨ 6 ≤ Int32.toNatClampNeg 1))) dL_law_978 ?_
        refine lv_aload_n hx hb dL_law_979 rfl (lv_at hl 3 rfl) ?_
        refine lv_iload_n hx hb dL_law_980 rfl (lv_at hl 0 rfl) ?_
        refine lv_iconst (v := 2) hx hb dL_law_981 (by decide) ?_
        refine lv_iadd hx hb dL_law_982 ?_
        refine lv_topi (fun y_258 ey_258 => ?_)
        obtain rfl : y_258 = 2 := ey_258.trans (by decide)
        refine va_sld hx hb hX hbl hbA hS (show vp_in 2 6 from (by decide : ¬ ((2 : Int32) < 0 ∨ 6 ≤ Int32.toNatClampNeg 2))) dL_law_983 ?_
        have hPc := hP.sub (ws' := [(am, .inr (12, MF ad 0 0 0 (-1) 0 0 0 0 0 0 0 0 0 0 0 0 0 0 0 0 0)), ((ad 11), .inl (cI, 2, .inl fR))]) [30, 31] rfl
        refine vp_callSi (va_runV (As := [.int (xs (Int32.toNatClampNeg 1)), .int (xs (Int32.toNatClampNeg 2))]) (rest := [.int (-1)]) ⟨hx, hb, hml, hown, hts⟩ (m_echo l D cI cB cL cZ am ad 0 0 0 0 0 0 0 0 0 0 0 0 fR (xs (Int32.toNatClampNeg 1)) (xs (Int32.toNatClampNeg 2)) hf_fR_0) (cwV 2 hts gL_law_X12_echo rfl rfl rfl (by decide +kernel) ⟨Nat.le_of_ble_eq_true rfl, Nat.le_of_ble_eq_true rfl⟩) ⟨xr_blind, va_recv hK hPc (ci := 12) (q0 := 0) rfl rfl, fun U hU hW => xr_mk hU hW hPc (hK.sub (tys' := [(cI, .int), (cB, .byte), (cL, .long), (cZ, .boolean)]) [0, 1, 2, 3] rfl)⟩ rfl rfl hl.1 rfl (lv_room (Nat.le_of_ble_eq_true rfl)) dL_law_984 ⟨Nat.le_of_ble_eq_true rfl, Nat.le_of_ble_eq_true rfl⟩).run (fun r_259 hr_259 => ?_)
        clear hPc
        subst hr_259
        refine lv_icmp_eq (tgt := 1570) hx hb dL_law_987 (by decide) (fun _ => ?_) (fun c_260 => absurd (by decide) c_260)
        refine lv_iinc (v := 6) (lv' := [(3, .int 6), (2, .ref am), (1, .ref a0), (0, .ref b)]) hx hb dL_law_1570 hl (k := 0) rfl (by decide) (by decide) rfl (fun ls hl => ?_)
        refine lv_goto (tgt := 18) hx hb dL_law_1573 (by decide) ?_
        refine lv_iload_n hx hb dL_law_18 rfl (lv_at hl 0 rfl) ?_
        refine lv_aload_n hx hb dL_law_19 rfl (lv_at hl 3 rfl) ?_
        refine va_slen hx hb hX hbl hbA hS dL_law_20 ?_
        refine lv_topi (fun y_261 ey_261 => ?_)
        obtain rfl : y_261 = 6 := ey_261.trans (by decide)
        refine lv_bipush (v := 6) hx hb dL_law_21 (by decide) ?_
        refine lv_isub hx hb dL_law_23 ?_
        refine lv_topi (fun y_262 ey_262 => ?_)
        obtain rfl : y_262 = 0 := ey_262.trans (by decide)
        refine lv_icmp_gt (tgt := 1576) hx hb dL_law_24 (by decide) (fun _ => ?_) (fun c_263 => absurd (by decide) c_263)
        refine lv_iconst (v := 1) hx hb dL_law_1576 (by decide) ?_
        refine va_forget (fun q hq => by have h := hS.2.2 q hq; rw [hAe] at h; exact h) ?_
        refine W.widen (k := 600000) (n := 7302250) (Nat.le_of_ble_eq_true rfl) (Nat.le_of_ble_eq_true rfl) ?_
        exact lw_ret hx hb hr hlocks dL_law_1577
      · refine lv_tableIn (off := 959) (tgt := 992) hx hb dL_law_33 (by decide) (by decide) (by decide) (by decide) ?_
        refine lv_aload_n hx hb dL_law_992 rfl (lv_at hl 2 rfl) ?_
        refine lv_aload_n hx hb dL_law_993 rfl (lv_at hl 3 rfl) ?_
        refine lv_iload_n hx hb dL_law_994 rfl (lv_at hl 0 rfl) ?_
        refine lv_iconst (v := 1) hx hb dL_law_995 (by decide) ?_
        refine lv_iadd hx hb dL_law_996 ?_
        refine lv_topi (fun y_264 ey_264 => ?_)
        obtain rfl : y_264 = 1 := ey_264.trans (by decide)
        refine va_sld hx hb hX hbl hbA hS (show vp_in 1 6 from (by decide : ¬ ((1 : Int32) < 0 ∨ 6 ≤ Int32.toNatClampNeg 1))) dL_law_997 ?_
        have hPc := hP.sub (ws' := [(a0, .inr (11, [.ref aP, .ref aD, .ref aT, .ref aR, .ref aF, .ref aU, .ref aH, .ref aM, .ref aW, .ref aN])), (aM, .inr (3, [.ref aF, .ref mo, .ref ma, .ref mk, .int 0, .int 0, .int 0, .ref mb, .ref mf])), (aF, .inr (0, [.ref aP, .ref fx, .ref fr, .ref fe, .int 0])), (aP, .inr (5, PF pz su))]) [0, 13, 9, 1] rfl
        refine vp_callSi (va_runV (As := [.int (xs (Int32.toNatClampNeg 1))]) (rest := []) ⟨hx, hb, hml, hown, hts⟩ (c_mend l D cI cB cL cZ a0 aP aD aT aR aF aU aH aM aW aN mo ma mk mb mf fx fr fe pz su (xs (Int32.toNatClampNeg 1))) (cwV 1 hts gL_law_X11_mend rfl rfl rfl (by decide +kernel) ⟨Nat.le_of_ble_eq_true rfl, Nat.le_of_ble_eq_true rfl⟩) ⟨xr_blind, va_recv hK hPc (ci := 11) (q0 := 0) rfl rfl, fun U hU hW => xr_mk hU hW hPc (hK.sub (tys' := [(cI, .int), (cB, .byte), (cL, .long), (cZ, .boolean)]) [0, 1, 2, 3] rfl)⟩ rfl rfl hl.1 rfl (lv_room (Nat.le_of_ble_eq_true rfl)) dL_law_998 ⟨Nat.le_of_ble_eq_true rfl, Nat.le_of_ble_eq_true rfl⟩).run (fun r_265 hr_265 => ?_)
        clear hPc
        subst hr_265
        refine lv_aload_n hx hb dL_law_1001 rfl (lv_at hl 1 rfl) ?_
        refine lv_aload_n hx hb dL_law_1002 rfl (lv_at hl 3 rfl) ?_
        refine lv_iload_n hx hb dL_law_1003 rfl (lv_at hl 0 rfl) ?_
        refine lv_iconst (v := 1) hx hb dL_law_1004 (by decide) ?_
        refine lv_iadd hx hb dL_law_1005 ?_
        refine lv_topi (fun y_266 ey_266 => ?_)
        obtain rfl : y_266 = 1 := ey_266.trans (by decide)
        refine va_sld hx hb hX hbl hbA hS (show vp_in 1 6 from (by decide : ¬ ((1 : Int32) < 0 ∨ 6 ≤ Int32.toNatClampNeg 1))) dL_law_1006 ?_
        have hPc := hP.sub (ws' := [(am, .inr (12, MF ad 0 0 0 (-1) 0 0 0 0 0 0 0 0 0 0 0 0 0 0 0 0 0)), ((ad 13), .inl (cI, 2, .inl fT))]) [30, 33] rfl
        refine vp_callSi (va_runV (As := [.int (xs (Int32.toNatClampNeg 1))]) (rest := [.int (sp_rng 99 xs (Int32.toNatClampNeg 1))]) ⟨hx, hb, hml, hown, hts⟩ (m_mend l D cI cB cL cZ am ad 0 0 0 0 0 0 0 0 0 0 0 0 fT (xs (Int32.toNatClampNeg 1)) hf_fT_0) (cwV 1 hts gL_law_X12_mend rfl rfl rfl (by decide +kernel) ⟨Nat.le_of_ble_eq_true rfl, Nat.le_of_ble_eq_true rfl⟩) ⟨xr_blind, va_recv hK hPc (ci := 12) (q0 := 0) rfl rfl, fun U hU hW => xr_mk hU hW hPc (hK.sub (tys' := [(cI, .int), (cB, .byte), (cL, .long), (cZ, .boolean)]) [0, 1, 2, 3] rfl)⟩ rfl rfl hl.1 rfl (lv_room (Nat.le_of_ble_eq_true rfl)) dL_law_1007 ⟨Nat.le_of_ble_eq_true rfl, Nat.le_of_ble_eq_true rfl⟩).run (fun r_267 hr_267 => ?_)
        clear hPc
        subst hr_267
        refine lv_icmp_eq (tgt := 1570) hx hb dL_law_1010 (by decide) (fun _ => ?_) (fun c9 => absurd rfl c9)
        refine lv_iinc (v := 6) (lv' := [(3, .int 6), (2, .ref am), (1, .ref a0), (0, .ref b)]) hx hb dL_law_1570 hl (k := 0) rfl (by decide) (by decide) rfl (fun ls hl => ?_)
        refine lv_goto (tgt := 18) hx hb dL_law_1573 (by decide) ?_
        refine lv_iload_n hx hb dL_law_18 rfl (lv_at hl 0 rfl) ?_
        refine lv_aload_n hx hb dL_law_19 rfl (lv_at hl 3 rfl) ?_
        refine va_slen hx hb hX hbl hbA hS dL_law_20 ?_
        refine lv_topi (fun y_268 ey_268 => ?_)
        obtain rfl : y_268 = 6 := ey_268.trans (by decide)
        refine lv_bipush (v := 6) hx hb dL_law_21 (by decide) ?_
        refine lv_isub hx hb dL_law_23 ?_
        refine lv_topi (fun y_269 ey_269 => ?_)
        obtain rfl : y_269 = 0 := ey_269.trans (by decide)
        refine lv_icmp_gt (tgt := 1576) hx hb dL_law_24 (by decide) (fun _ => ?_) (fun c_270 => absurd (by decide) c_270)
        refine lv_iconst (v := 1) hx hb dL_law_1576 (by decide) ?_
        refine va_forget (fun q hq => by have h := hS.2.2 q hq; rw [hAe] at h; exact h) ?_
        refine W.widen (k := 600000) (n := 7302250) (Nat.le_of_ble_eq_true rfl) (Nat.le_of_ble_eq_true rfl) ?_
        exact lw_ret hx hb hr hlocks dL_law_1577
      · refine lv_tableIn (off := 982) (tgt := 1015) hx hb dL_law_33 (by decide) (by decide) (by decide) (by decide) ?_
        refine lv_aload_n hx hb dL_law_1015 rfl (lv_at hl 2 rfl) ?_
        have hPc := hP.sub (ws' := [(a0, .inr (11, [.ref aP, .ref aD, .ref aT, .ref aR, .ref aF, .ref aU, .ref aH, .ref aM, .ref aW, .ref aN])), (aW, .inr (10, [.ref aM])), (aM, .inr (3, [.ref aF, .ref mo, .ref ma, .ref mk, .int 0, .int 0, .int 0, .ref mb, .ref mf])), (aF, .inr (0, [.ref aP, .ref fx, .ref fr, .ref fe, .int 0])), (aP, .inr (5, PF pz su))]) [0, 23, 13, 9, 1] rfl
        refine vp_callSi (va_runV (As := []) (rest := []) ⟨hx, hb, hml, hown, hts⟩ (c_regret l D cI cB cL cZ a0 aP aD aT aR aF aU aH aM aW aN mo ma mk mb mf fx fr fe pz su) (cwV 0 hts gL_law_X11_regret rfl rfl rfl (by decide +kernel) ⟨Nat.le_of_ble_eq_true rfl, Nat.le_of_ble_eq_true rfl⟩) ⟨xr_blind, va_recv hK hPc (ci := 11) (q0 := 0) rfl rfl, fun U hU hW => xr_mk hU hW hPc (hK.sub (tys' := [(cI, .int), (cB, .byte), (cL, .long), (cZ, .boolean)]) [0, 1, 2, 3] rfl)⟩ rfl rfl hl.1 rfl (lv_room (Nat.le_of_ble_eq_true rfl)) dL_law_1016 ⟨Nat.le_of_ble_eq_true rfl, Nat.le_of_ble_eq_true rfl⟩).run (fun r_271 hr_271 => ?_)
        clear hPc
        subst hr_271
        refine lv_aload_n hx hb dL_law_1019 rfl (lv_at hl 1 rfl) ?_
        have hPc := hP.sub (ws' := [(am, .inr (12, MF ad 0 0 0 (-1) 0 0 0 0 0 0 0 0 0 0 0 0 0 0 0 0 0)), ((ad 13), .inl (cI, 2, .inl fT))]) [30, 33] rfl
        refine vp_callSi (va_runV (As := []) (rest := [.int 0]) ⟨hx, hb, hml, hown, hts⟩ (m_regret l D cI cB cL cZ am ad 0 0 0 0 0 0 0 0 0 0 0 0 fT hf_fT_0) (cwV 0 hts gL_law_X12_regret rfl rfl rfl (by decide +kernel) ⟨Nat.le_of_ble_eq_true rfl, Nat.le_of_ble_eq_true rfl⟩) ⟨xr_blind, va_recv hK hPc (ci := 12) (q0 := 0) rfl rfl, fun U hU hW => xr_mk hU hW hPc (hK.sub (tys' := [(cI, .int), (cB, .byte), (cL, .long), (cZ, .boolean)]) [0, 1, 2, 3] rfl)⟩ rfl rfl hl.1 rfl (lv_room (Nat.le_of_ble_eq_true rfl)) dL_law_1020 ⟨Nat.le_of_ble_eq_true rfl, Nat.le_of_ble_eq_true rfl⟩).run (fun r_272 hr_272 => ?_)
        clear hPc
        subst hr_272
        refine lv_icmp_eq (tgt := 1570) hx hb dL_law_1023 (by decide) (fun _ => ?_) (fun c_273 => absurd (by decide) c_273)
        refine lv_iinc (v := 6) (lv' := [(3, .int 6), (2, .ref am), (1, .ref a0), (0, .ref b)]) hx hb dL_law_1570 hl (k := 0) rfl (by decide) (by decide) rfl (fun ls hl => ?_)
        refine lv_goto (tgt := 18) hx hb dL_law_1573 (by decide) ?_
        refine lv_iload_n hx hb dL_law_18 rfl (lv_at hl 0 rfl) ?_
        refine lv_aload_n hx hb dL_law_19 rfl (lv_at hl 3 rfl) ?_
        refine va_slen hx hb hX hbl hbA hS dL_law_20 ?_
        refine lv_topi (fun y_274 ey_274 => ?_)
        obtain rfl : y_274 = 6 := ey_274.trans (by decide)
        refine lv_bipush (v := 6) hx hb dL_law_21 (by decide) ?_
        refine lv_isub hx hb dL_law_23 ?_
        refine lv_topi (fun y_275 ey_275 => ?_)
        obtain rfl : y_275 = 0 := ey_275.trans (by decide)
        refine lv_icmp_gt (tgt := 1576) hx hb dL_law_24 (by decide) (fun _ => ?_) (fun c_276 => absurd (by decide) c_276)
        refine lv_iconst (v := 1) hx hb dL_law_1576 (by decide) ?_
        refine va_forget (fun q hq => by have h := hS.2.2 q hq; rw [hAe] at h; exact h) ?_
        refine W.widen (k := 600000) (n := 7302250) (Nat.le_of_ble_eq_true rfl) (Nat.le_of_ble_eq_true rfl) ?_
        exact lw_ret hx hb hr hlocks dL_law_1577
      · refine lv_tableIn (off := 995) (tgt := 1028) hx hb dL_law_33 (by decide) (by decide) (by decide) (by decide) ?_
        refine lv_aload_n hx hb dL_law_1028 rfl (lv_at hl 2 rfl) ?_
        refine lv_aload_n hx hb dL_law_1029 rfl (lv_at hl 3 rfl) ?_
        refine lv_iload_n hx hb dL_law_1030 rfl (lv_at hl 0 rfl) ?_
        refine lv_iconst (v := 1) hx hb dL_law_1031 (by decide) ?_
        refine lv_iadd hx hb dL_law_1032 ?_
        refine lv_topi (fun y_277 ey_277 => ?_)
        obtain rfl : y_277 = 1 := ey_277.trans (by decide)
        refine va_sld hx hb hX hbl hbA hS (show vp_in 1 6 from (by decide : ¬ ((1 : Int32) < 0 ∨ 6 ≤ Int32.toNatClampNeg 1))) dL_law_1033 ?_
        have hPc := hP.sub (ws' := [(a0, .inr (11, [.ref aP, .ref aD, .ref aT, .ref aR, .ref aF, .ref aU, .ref aH, .ref aM, .ref aW, .ref aN])), (aW, .inr (10, [.ref aM])), (aM, .inr (3, [.ref aF, .ref mo, .ref ma, .ref mk, .int 0, .int 0, .int 0, .ref mb, .ref mf])), (aF, .inr (0, [.ref aP, .ref fx, .ref fr, .ref fe, .int 0])), (aP, .inr (5, PF pz su))]) [0, 23, 13, 9, 1] rfl
        refine vp_callSi (va_runV (As := [.int (xs (Int32.toNatClampNeg 1))]) (rest := []) ⟨hx, hb, hml, hown, hts⟩ (c_trade l D cI cB cL cZ a0 aP aD aT aR aF aU aH aM aW aN mo ma mk mb mf fx fr fe pz su (xs (Int32.toNatClampNeg 1))) (cwV 1 hts gL_law_X11_trade rfl rfl rfl (by decide +kernel) ⟨Nat.le_of_ble_eq_true rfl, Nat.le_of_ble_eq_true rfl⟩) ⟨xr_blind, va_recv hK hPc (ci := 11) (q0 := 0) rfl rfl, fun U hU hW => xr_mk hU hW hPc (hK.sub (tys' := [(cI, .int), (cB, .byte), (cL, .long), (cZ, .boolean)]) [0, 1, 2, 3] rfl)⟩ rfl rfl hl.1 rfl (lv_room (Nat.le_of_ble_eq_true rfl)) dL_law_1034 ⟨Nat.le_of_ble_eq_true rfl, Nat.le_of_ble_eq_true rfl⟩).run (fun r_278 hr_278 => ?_)
        clear hPc
        subst hr_278
        refine lv_aload_n hx hb dL_law_1037 rfl (lv_at hl 1 rfl) ?_
        refine lv_aload_n hx hb dL_law_1038 rfl (lv_at hl 3 rfl) ?_
        refine lv_iload_n hx hb dL_law_1039 rfl (lv_at hl 0 rfl) ?_
        refine lv_iconst (v := 1) hx hb dL_law_1040 (by decide) ?_
        refine lv_iadd hx hb dL_law_1041 ?_
        refine lv_topi (fun y_279 ey_279 => ?_)
        obtain rfl : y_279 = 1 := ey_279.trans (by decide)
        refine va_sld hx hb hX hbl hbA hS (show vp_in 1 6 from (by decide : ¬ ((1 : Int32) < 0 ∨ 6 ≤ Int32.toNatClampNeg 1))) dL_law_1042 ?_
        have hPc := hP.sub (ws' := [(am, .inr (12, MF ad 0 0 0 (-1) 0 0 0 0 0 0 0 0 0 0 0 0 0 0 0 0 0)), ((ad 13), .inl (cI, 2, .inl fT))]) [30, 33] rfl
        refine vp_callSi (va_runV (As := [.int (xs (Int32.toNatClampNeg 1))]) (rest := [.int (-1)]) ⟨hx, hb, hml, hown, hts⟩ (m_trade l D cI cB cL cZ am ad 0 0 0 0 0 0 0 0 0 0 0 0 fT (xs (Int32.toNatClampNeg 1)) hf_fT_0) (cwV 1 hts gL_law_X12_trade rfl rfl rfl (by decide +kernel) ⟨Nat.le_of_ble_eq_true rfl, Nat.le_of_ble_eq_true rfl⟩) ⟨xr_blind, va_recv hK hPc (ci := 12) (q0 := 0) rfl rfl, fun U hU hW => xr_mk hU hW hPc (hK.sub (tys' := [(cI, .int), (cB, .byte), (cL, .long), (cZ, .boolean)]) [0, 1, 2, 3] rfl)⟩ rfl rfl hl.1 rfl (lv_room (Nat.le_of_ble_eq_true rfl)) dL_law_1043 ⟨Nat.le_of_ble_eq_true rfl, Nat.le_of_ble_eq_true rfl⟩).run (fun r_280 hr_280 => ?_)
        clear hPc
        subst hr_280
        refine lv_icmp_eq (tgt := 1570) hx hb dL_law_1046 (by decide) (fun _ => ?_) (fun c_281 => absurd (by decide) c_281)
        refine lv_iinc (v := 6) (lv' := [(3, .int 6), (2, .ref am), (1, .ref a0), (0, .ref b)]) hx hb dL_law_1570 hl (k := 0) rfl (by decide) (by decide) rfl (fun ls hl => ?_)
        refine lv_goto (tgt := 18) hx hb dL_law_1573 (by decide) ?_
        refine lv_iload_n hx hb dL_law_18 rfl (lv_at hl 0 rfl) ?_
        refine lv_aload_n hx hb dL_law_19 rfl (lv_at hl 3 rfl) ?_
        refine va_slen hx hb hX hbl hbA hS dL_law_20 ?_
        refine lv_topi (fun y_282 ey_282 => ?_)
        obtain rfl : y_282 = 6 := ey_282.trans (by decide)
        refine lv_bipush (v := 6) hx hb dL_law_21 (by decide) ?_
        refine lv_isub hx hb dL_law_23 ?_
        refine lv_topi (fun y_283 ey_283 => ?_)
        obtain rfl : y_283 = 0 := ey_283.trans (by decide)
        refine lv_icmp_gt (tgt := 1576) hx hb dL_law_24 (by decide) (fun _ => ?_) (fun c_284 => absurd (by decide) c_284)
        refine lv_iconst (v := 1) hx hb dL_law_1576 (by decide) ?_
        refine va_forget (fun q hq => by have h := hS.2.2 q hq; rw [hAe] at h; exact h) ?_
        refine W.widen (k := 600000) (n := 7302250) (Nat.le_of_ble_eq_true rfl) (Nat.le_of_ble_eq_true rfl) ?_
        exact lw_ret hx hb hr hlocks dL_law_1577
      · refine lv_tableIn (off := 1018) (tgt := 1051) hx hb dL_law_33 (by decide) (by decide) (by decide) (by decide) ?_
        refine lv_aload_n hx hb dL_law_1051 rfl (lv_at hl 2 rfl) ?_
        have hPc := hP.sub (ws' := [(a0, .inr (11, [.ref aP, .ref aD, .ref aT, .ref aR, .ref aF, .ref aU, .ref aH, .ref aM, .ref aW, .ref aN])), (aW, .inr (10, [.ref aM])), (aM, .inr (3, [.ref aF, .ref mo, .ref ma, .ref mk, .int 0, .int 0, .int 0, .ref mb, .ref mf])), (aF, .inr (0, [.ref aP, .ref fx, .ref fr, .ref fe, .int 0])), (aP, .inr (5, PF pz su))]) [0, 23, 13, 9, 1] rfl
        refine vp_callSi (va_runV (As := []) (rest := []) ⟨hx, hb, hml, hown, hts⟩ (c_trades l D cI cB cL cZ a0 aP aD aT aR aF aU aH aM aW aN mo ma mk mb mf fx fr fe pz su) (cwV 0 hts gL_law_X11_trades rfl rfl rfl (by decide +kernel) ⟨Nat.le_of_ble_eq_true rfl, Nat.le_of_ble_eq_true rfl⟩) ⟨xr_blind, va_recv hK hPc (ci := 11) (q0 := 0) rfl rfl, fun U hU hW => xr_mk hU hW hPc (hK.sub (tys' := [(cI, .int), (cB, .byte), (cL, .long), (cZ, .boolean)]) [0, 1, 2, 3] rfl)⟩ rfl rfl hl.1 rfl (lv_room (Nat.le_of_ble_eq_true rfl)) dL_law_1052 ⟨Nat.le_of_ble_eq_true rfl, Nat.le_of_ble_eq_true rfl⟩).run (fun r_285 hr_285 => ?_)
        clear hPc
        subst hr_285
        refine lv_aload_n hx hb dL_law_1055 rfl (lv_at hl 1 rfl) ?_
        have hPc := hP.sub (ws' := [(am, .inr (12, MF ad 0 0 0 (-1) 0 0 0 0 0 0 0 0 0 0 0 0 0 0 0 0 0)), ((ad 57), .inl (cI, 64, .inl fk)), ((ad 13), .inl (cI, 2, .inl fT))]) [30, 47, 33] rfl
        have hDc := hD.sub (ws' := [(am, .inr (12, MF ad 0 0 0 (-1) 0 0 0 0 0 0 0 0 0 0 0 0 0 0 0 0 0)), ((ad 57), .inl (cI, 64, .inl fk)), ((ad 13), .inl (cI, 2, .inl fT))]) [30, 47, 33] (by decide) rfl
        have hFc := va_free (wc := [(am, .inr (12, MF ad 0 0 0 (-1) 0 0 0 0 0 0 0 0 0 0 0 0 0 0 0 0 0)), ((ad 57), .inl (cI, 64, .inl fk)), ((ad 13), .inl (cI, 2, .inl fT))]) hD hS hA [30, 47, 33] rfl
        refine va_calli (va_runV (As := []) (rest := [.int 0]) ⟨hx, hb, hml, hown, hts⟩ (m_trades l D cI cB cL cZ am ad 0 0 0 0 0 0 0 0 0 0 0 0 fk fT H.size hf_fk_U hf_fT_0) (cwV 0 hts gL_law_X12_trades rfl rfl rfl (by decide +kernel) ⟨Nat.le_of_ble_eq_true rfl, Nat.le_of_ble_eq_true rfl⟩) ⟨xp_blind, va_recv hK hPc (ci := 12) (q0 := 0) rfl rfl, fun U hU hW => xp_mk hU hW hPc (hK.sub (tys' := [(cI, .int), (cB, .byte), (cL, .long), (cZ, .boolean)]) [0, 1, 2, 3] rfl) hDc xNw_nil⟩ rfl rfl hl.1 rfl (lv_room (Nat.le_of_ble_eq_true rfl)) dL_law_1056 ⟨Nat.le_of_ble_eq_true rfl, Nat.le_of_ble_eq_true rfl⟩) hS (fun q _ h => hFc q h) hFc (fun r_286 u9 t9 H1 locs ht9 hvm9 hr_286 hB9 hz9 hk9 hS => ?_)
        clear hB9 hz9 hPc hDc
        obtain ⟨hP, hD⟩ := va_join (wr := [(a0, .inr (11, [.ref aP, .ref aD, .ref aT, .ref aR, .ref aF, .ref aU, .ref aH, .ref aM, .ref aW, .ref aN])), (aP, .inr (5, PF pz su)), (su, .inr (1, [.ref s0, .ref s1, .ref s2, .int 0, .int 0, .int 0])), (aD, .inr (5, PF pq sq)), (sq, .inr (1, [.ref z0, .ref z1, .ref z2, .int 0, .int 0, .int 0])), (aT, .inr (8, [.ref tb, .int 0])), (tb, .inl (cB, 1600, .inl fb)), (aR, .inr (6, [.ref rt, .ref aD, .int 0, .int (-1)])), (rt, .inr (9, [.ref aT, .ref to, .int 0, .int 0, .int 0, .long 0, .int 0])), (aF, .inr (0, [.ref aP, .ref fx, .ref fr, .ref fe, .int 0])), (fx, .inl (cI, 8, .inl fxf)), (fr, .inl (cI, 64, .inl frf)), (aU, .inr (7, [.ref aF, .ref ul, .int 0, .ref uc, .ref ue])), (aM, .inr (3, [.ref aF, .ref mo, .ref ma, .ref mk, .int 0, .int 0, .int 0, .ref mb, .ref mf])), (mo, .inl (cI, 32, .inl fn)), (mk, .inl (cG, 41, .inr (.inr (.inr (.inr kr))))), (r0, .inl (cI, 32, .inl w0)), (r1, .inl (cI, 32, .inl w1)), (mb, .inl (cG, 3, .inr (.inr (.inr (.inr br))))), (b0, .inl (cI, 32, .inl u0)), (b1, .inl (cI, 32, .inl u1)), (b2, .inl (cI, 32, .inl u2)), (mf, .inl (cZ, 3, .inl ff)), (aW, .inr (10, [.ref aM])), (aN, .inr (4, [.ref aF, .int 0, .int 0, .ref n3, .ref n4, .ref n5, .ref n6, .ref n7, .ref n8, .ref n9])), (n3, .inl (cI, 30, .inl g3)), (n4, .inl (cI, 30, .inl g4)), (n5, .inl (cI, 30, .inl g5)), (n6, .inl (cI, 30, .inl g6)), (n7, .inl (cI, 8, .inl fo7)), ((ad 11), .inl (cI, 2, .inl fR)), ((ad 12), .inl (cI, 2, .inl fD)), ((ad 14), .inl (cI, 2, .inl fU)), ((ad 15), .inl (cI, 2, .inl fW)), ((ad 26), .inl (cZ, 2, .inl fS)), ((ad 27), .inl (cZ, 2, .inl fX)), ((ad 42), .inl (cI, 32, .inl fA)), ((ad 70), .inl (cZ, 3, .inl fB)), ((ad 0), .inl (cB, 1620, .inl ft)), ((ad 59), .inl (cI, 30, .inl t0)), ((ad 60), .inl (cI, 30, .inl t1)), ((ad 61), .inl (cI, 30, .inl t2)), ((ad 62), .inl (cI, 30, .inl t3)), ((ad 63), .inl (cI, 30, .inl t4)), ((ad 64), .inl (cI, 30, .inl t5)), ((ad 45), .inl (cI, 1312, .inl fw)), ((ad 69), .inl (cI, 96, .inl fbm))]) (w1 := []) hP hD [30, 47, 33] [0, 1, 2, 3, 4, 5, 6, 7, 8, 9, 10, 11, 12, 13, 14, 15, 16, 17, 18, 19, 20, 21, 22, 23, 24, 25, 26, 27, 28, 29, 31, 32, 34, 35, 36, 37, 38, 39, 40, 41, 42, 43, 44, 45, 46, 48, 49] rfl rfl (by decide) (by decide) hk9 hFc (fun k q h => by simp at h) ⟨fun i j p q h => by simp at h, fun k q h => by simp at h⟩
        clear hk9 hFc ht9 hvm9
        generalize H1 = H at hP hS ⊢
        replace hP : va_P D classes [(a0, .inr (11, [.ref aP, .ref aD, .ref aT, .ref aR, .ref aF, .ref aU, .ref aH, .ref aM, .ref aW, .ref aN])), (aP, .inr (5, PF pz su)), (su, .inr (1, [.ref s0, .ref s1, .ref s2, .int 0, .int 0, .int 0])), (aD, .inr (5, PF pq sq)), (sq, .inr (1, [.ref z0, .ref z1, .ref z2, .int 0, .int 0, .int 0])), (aT, .inr (8, [.ref tb, .int 0])), (tb, .inl (cB, 1600, .inl fb)), (aR, .inr (6, [.ref rt, .ref aD, .int 0, .int (-1)])), (rt, .inr (9, [.ref aT, .ref to, .int 0, .int 0, .int 0, .long 0, .int 0])), (aF, .inr (0, [.ref aP, .ref fx, .ref fr, .ref fe, .int 0])), (fx, .inl (cI, 8, .inl fxf)), (fr, .inl (cI, 64, .inl frf)), (aU, .inr (7, [.ref aF, .ref ul, .int 0, .ref uc, .ref ue])), (aM, .inr (3, [.ref aF, .ref mo, .ref ma, .ref mk, .int 0, .int 0, .int 0, .ref mb, .ref mf])), (mo, .inl (cI, 32, .inl fn)), (mk, .inl (cG, 41, .inr (.inr (.inr (.inr kr))))), (r0, .inl (cI, 32, .inl w0)), (r1, .inl (cI, 32, .inl w1)), (mb, .inl (cG, 3, .inr (.inr (.inr (.inr br))))), (b0, .inl (cI, 32, .inl u0)), (b1, .inl (cI, 32, .inl u1)), (b2, .inl (cI, 32, .inl u2)), (mf, .inl (cZ, 3, .inl ff)), (aW, .inr (10, [.ref aM])), (aN, .inr (4, [.ref aF, .int 0, .int 0, .ref n3, .ref n4, .ref n5, .ref n6, .ref n7, .ref n8, .ref n9])), (n3, .inl (cI, 30, .inl g3)), (n4, .inl (cI, 30, .inl g4)), (n5, .inl (cI, 30, .inl g5)), (n6, .inl (cI, 30, .inl g6)), (n7, .inl (cI, 8, .inl fo7)), ((ad 11), .inl (cI, 2, .inl fR)), ((ad 12), .inl (cI, 2, .inl fD)), ((ad 14), .inl (cI, 2, .inl fU)), ((ad 15), .inl (cI, 2, .inl fW)), ((ad 26), .inl (cZ, 2, .inl fS)), ((ad 27), .inl (cZ, 2, .inl fX)), ((ad 42), .inl (cI, 32, .inl fA)), ((ad 70), .inl (cZ, 3, .inl fB)), ((ad 0), .inl (cB, 1620, .inl ft)), ((ad 59), .inl (cI, 30, .inl t0)), ((ad 60), .inl (cI, 30, .inl t1)), ((ad 61), .inl (cI, 30, .inl t2)), ((ad 62), .inl (cI, 30, .inl t3)), ((ad 63), .inl (cI, 30, .inl t4)), ((ad 64), .inl (cI, 30, .inl t5)), ((ad 45), .inl (cI, 1312, .inl fw)), ((ad 69), .inl (cI, 96, .inl fbm))] H := hP
        replace hD : va_D A [(a0, .inr (11, [.ref aP, .ref aD, .ref aT, .ref aR, .ref aF, .ref aU, .ref aH, .ref aM, .ref aW, .ref aN])), (aP, .inr (5, PF pz su)), (su, .inr (1, [.ref s0, .ref s1, .ref s2, .int 0, .int 0, .int 0])), (aD, .inr (5, PF pq sq)), (sq, .inr (1, [.ref z0, .ref z1, .ref z2, .int 0, .int 0, .int 0])), (aT, .inr (8, [.ref tb, .int 0])), (tb, .inl (cB, 1600, .inl fb)), (aR, .inr (6, [.ref rt, .ref aD, .int 0, .int (-1)])), (rt, .inr (9, [.ref aT, .ref to, .int 0, .int 0, .int 0, .long 0, .int 0])), (aF, .inr (0, [.ref aP, .ref fx, .ref fr, .ref fe, .int 0])), (fx, .inl (cI, 8, .inl fxf)), (fr, .inl (cI, 64, .inl frf)), (aU, .inr (7, [.ref aF, .ref ul, .int 0, .ref uc, .ref ue])), (aM, .inr (3, [.ref aF, .ref mo, .ref ma, .ref mk, .int 0, .int 0, .int 0, .ref mb, .ref mf])), (mo, .inl (cI, 32, .inl fn)), (mk, .inl (cG, 41, .inr (.inr (.inr (.inr kr))))), (r0, .inl (cI, 32, .inl w0)), (r1, .inl (cI, 32, .inl w1)), (mb, .inl (cG, 3, .inr (.inr (.inr (.inr br))))), (b0, .inl (cI, 32, .inl u0)), (b1, .inl (cI, 32, .inl u1)), (b2, .inl (cI, 32, .inl u2)), (mf, .inl (cZ, 3, .inl ff)), (aW, .inr (10, [.ref aM])), (aN, .inr (4, [.ref aF, .int 0, .int 0, .ref n3, .ref n4, .ref n5, .ref n6, .ref n7, .ref n8, .ref n9])), (n3, .inl (cI, 30, .inl g3)), (n4, .inl (cI, 30, .inl g4)), (n5, .inl (cI, 30, .inl g5)), (n6, .inl (cI, 30, .inl g6)), (n7, .inl (cI, 8, .inl fo7)), ((ad 11), .inl (cI, 2, .inl fR)), ((ad 12), .inl (cI, 2, .inl fD)), ((ad 14), .inl (cI, 2, .inl fU)), ((ad 15), .inl (cI, 2, .inl fW)), ((ad 26), .inl (cZ, 2, .inl fS)), ((ad 27), .inl (cZ, 2, .inl fX)), ((ad 42), .inl (cI, 32, .inl fA)), ((ad 70), .inl (cZ, 3, .inl fB)), ((ad 0), .inl (cB, 1620, .inl ft)), ((ad 59), .inl (cI, 30, .inl t0)), ((ad 60), .inl (cI, 30, .inl t1)), ((ad 61), .inl (cI, 30, .inl t2)), ((ad 62), .inl (cI, 30, .inl t3)), ((ad 63), .inl (cI, 30, .inl t4)), ((ad 64), .inl (cI, 30, .inl t5)), ((ad 45), .inl (cI, 1312, .inl fw)), ((ad 69), .inl (cI, 96, .inl fbm))] := hD
        subst hr_286
        refine lv_icmp_eq (tgt := 1570) hx hb dL_law_1059 (by decide) (fun _ => ?_) (fun c_287 => absurd (by decide) c_287)
        refine lv_iinc (v := 6) (lv' := [(3, .int 6), (2, .ref am), (1, .ref a0), (0, .ref b)]) hx hb dL_law_1570 hl (k := 0) rfl (by decide) (by decide) rfl (fun ls hl => ?_)
        refine lv_goto (tgt := 18) hx hb dL_law_1573 (by decide) ?_
        refine lv_iload_n hx hb dL_law_18 rfl (lv_at hl 0 rfl) ?_
        refine lv_aload_n hx hb dL_law_19 rfl (lv_at hl 3 rfl) ?_
        refine va_slen hx hb hX hbl hbA hS dL_law_20 ?_
        refine lv_topi (fun y_288 ey_288 => ?_)
        obtain rfl : y_288 = 6 := ey_288.trans (by decide)
        refine lv_bipush (v := 6) hx hb dL_law_21 (by decide) ?_
        refine lv_isub hx hb dL_law_23 ?_
        refine lv_topi (fun y_289 ey_289 => ?_)
        obtain rfl : y_289 = 0 := ey_289.trans (by decide)
        refine lv_icmp_gt (tgt := 1576) hx hb dL_law_24 (by decide) (fun _ => ?_) (fun c_290 => absurd (by decide) c_290)
        refine lv_iconst (v := 1) hx hb dL_law_1576 (by decide) ?_
        refine va_forget (fun q hq => by have h := hS.2.2 q hq; rw [hAe] at h; exact h) ?_
        refine W.widen (k := 600000) (n := 7302250) (Nat.le_of_ble_eq_true rfl) (Nat.le_of_ble_eq_true rfl) ?_
        exact lw_ret hx hb hr hlocks dL_law_1577
      · refine lv_tableIn (off := 1031) (tgt := 1064) hx hb dL_law_33 (by decide) (by decide) (by decide) (by decide) ?_
        refine lv_aload_n hx hb dL_law_1064 rfl (lv_at hl 2 rfl) ?_
        refine lv_aload_n hx hb dL_law_1065 rfl (lv_at hl 3 rfl) ?_
        refine lv_iload_n hx hb dL_law_1066 rfl (lv_at hl 0 rfl) ?_
        refine lv_iconst (v := 1) hx hb dL_law_1067 (by decide) ?_
        refine lv_iadd hx hb dL_law_1068 ?_
        refine lv_topi (fun y_291 ey_291 => ?_)
        obtain rfl : y_291 = 1 := ey_291.trans (by decide)
        refine va_sld hx hb hX hbl hbA hS (show vp_in 1 6 from (by decide : ¬ ((1 : Int32) < 0 ∨ 6 ≤ Int32.toNatClampNeg 1))) dL_law_1069 ?_
        have hPc := hP.sub (ws' := [(a0, .inr (11, [.ref aP, .ref aD, .ref aT, .ref aR, .ref aF, .ref aU, .ref aH, .ref aM, .ref aW, .ref aN])), (aW, .inr (10, [.ref aM])), (aM, .inr (3, [.ref aF, .ref mo, .ref ma, .ref mk, .int 0, .int 0, .int 0, .ref mb, .ref mf])), (aF, .inr (0, [.ref aP, .ref fx, .ref fr, .ref fe, .int 0])), (aP, .inr (5, PF pz su))]) [0, 23, 13, 9, 1] rfl
        refine vp_callSi (va_runV (As := [.int (xs (Int32.toNatClampNeg 1))]) (rest := []) ⟨hx, hb, hml, hown, hts⟩ (c_wealth l D cI cB cL cZ a0 aP aD aT aR aF aU aH aM aW aN mo ma mk mb mf fx fr fe pz su (xs (Int32.toNatClampNeg 1))) (cwV 1 hts gL_law_X11_wealth rfl rfl rfl (by decide +kernel) ⟨Nat.le_of_ble_eq_true rfl, Nat.le_of_ble_eq_true rfl⟩) ⟨xr_blind, va_recv hK hPc (ci := 11) (q0 := 0) rfl rfl, fun U hU hW => xr_mk hU hW hPc (hK.sub (tys' := [(cI, .int), (cB, .byte), (cL, .long), (cZ, .boolean)]) [0, 1, 2, 3] rfl)⟩ rfl rfl hl.1 rfl (lv_room (Nat.le_of_ble_eq_true rfl)) dL_law_1070 ⟨Nat.le_of_ble_eq_true rfl, Nat.le_of_ble_eq_true rfl⟩).run (fun r_292 hr_292 => ?_)
        clear hPc
        subst hr_292
        refine lv_aload_n hx hb dL_law_1073 rfl (lv_at hl 1 rfl) ?_
        refine lv_aload_n hx hb dL_law_1074 rfl (lv_at hl 3 rfl) ?_
        refine lv_iload_n hx hb dL_law_1075 rfl (lv_at hl 0 rfl) ?_
        refine lv_iconst (v := 1) hx hb dL_law_1076 (by decide) ?_
        refine lv_iadd hx hb dL_law_1077 ?_
        refine lv_topi (fun y_293 ey_293 => ?_)
        obtain rfl : y_293 = 1 := ey_293.trans (by decide)
        refine va_sld hx hb hX hbl hbA hS (show vp_in 1 6 from (by decide : ¬ ((1 : Int32) < 0 ∨ 6 ≤ Int32.toNatClampNeg 1))) dL_law_1078 ?_
        have hPc := hP.sub (ws' := [(am, .inr (12, MF ad 0 0 0 (-1) 0 0 0 0 0 0 0 0 0 0 0 0 0 0 0 0 0)), ((ad 13), .inl (cI, 2, .inl fT))]) [30, 33] rfl
        refine vp_callSi (va_runV (As := [.int (xs (Int32.toNatClampNeg 1))]) (rest := [.int (sp_rng 1 xs (Int32.toNatClampNeg 1))]) ⟨hx, hb, hml, hown, hts⟩ (m_wealth l D cI cB cL cZ am ad 0 0 0 0 0 0 0 0 0 0 0 0 fT (xs (Int32.toNatClampNeg 1)) hf_fT_0) (cwV 1 hts gL_law_X12_wealth rfl rfl rfl (by decide +kernel) ⟨Nat.le_of_ble_eq_true rfl, Nat.le_of_ble_eq_true rfl⟩) ⟨xr_blind, va_recv hK hPc (ci := 12) (q0 := 0) rfl rfl, fun U hU hW => xr_mk hU hW hPc (hK.sub (tys' := [(cI, .int), (cB, .byte), (cL, .long), (cZ, .boolean)]) [0, 1, 2, 3] rfl)⟩ rfl rfl hl.1 rfl (lv_room (Nat.le_of_ble_eq_true rfl)) dL_law_1079 ⟨Nat.le_of_ble_eq_true rfl, Nat.le_of_ble_eq_true rfl⟩).run (fun r_294 hr_294 => ?_)
        clear hPc
        subst hr_294
        refine lv_icmp_eq (tgt := 1570) hx hb dL_law_1082 (by decide) (fun _ => ?_) (fun c9 => absurd rfl c9)
        refine lv_iinc (v := 6) (lv' := [(3, .int 6), (2, .ref am), (1, .ref a0), (0, .ref b)]) hx hb dL_law_1570 hl (k := 0) rfl (by decide) (by decide) rfl (fun ls hl => ?_)
        refine lv_goto (tgt := 18) hx hb dL_law_1573 (by decide) ?_
        refine lv_iload_n hx hb dL_law_18 rfl (lv_at hl 0 rfl) ?_
        refine lv_aload_n hx hb dL_law_19 rfl (lv_at hl 3 rfl) ?_
        refine va_slen hx hb hX hbl hbA hS dL_law_20 ?_
        refine lv_topi (fun y_295 ey_295 => ?_)
        obtain rfl : y_295 = 6 := ey_295.trans (by decide)
        refine lv_bipush (v := 6) hx hb dL_law_21 (by decide) ?_
        refine lv_isub hx hb dL_law_23 ?_
        refine lv_topi (fun y_296 ey_296 => ?_)
        obtain rfl : y_296 = 0 := ey_296.trans (by decide)
        refine lv_icmp_gt (tgt := 1576) hx hb dL_law_24 (by decide) (fun _ => ?_) (fun c_297 => absurd (by decide) c_297)
        refine lv_iconst (v := 1) hx hb dL_law_1576 (by decide) ?_
        refine va_forget (fun q hq => by have h := hS.2.2 q hq; rw [hAe] at h; exact h) ?_
        refine W.widen (k := 600000) (n := 7302250) (Nat.le_of_ble_eq_true rfl) (Nat.le_of_ble_eq_true rfl) ?_
        exact lw_ret hx hb hr hlocks dL_law_1577
      · refine lv_tableIn (off := 1054) (tgt := 1087) hx hb dL_law_33 (by decide) (by decide) (by decide) (by decide) ?_
        refine lv_aload_n hx hb dL_law_1087 rfl (lv_at hl 2 rfl) ?_
        have hPc := hP.sub (ws' := [(a0, .inr (11, [.ref aP, .ref aD, .ref aT, .ref aR, .ref aF, .ref aU, .ref aH, .ref aM, .ref aW, .ref aN])), (aP, .inr (5, PF pz su))]) [0, 1] rfl
        refine vp_callSi (va_runV (As := []) (rest := []) ⟨hx, hb, hml, hown, hts⟩ (c_off l D cI cB cL cZ a0 aP aD aT aR aF aU aH aM aW aN pz su) (cwV 0 hts gL_law_X11_off rfl rfl rfl (by decide +kernel) ⟨Nat.le_of_ble_eq_true rfl, Nat.le_of_ble_eq_true rfl⟩) ⟨xr_blind, va_recv hK hPc (ci := 11) (q0 := 0) rfl rfl, fun U hU hW => xr_mk hU hW hPc (hK.sub (tys' := [(cI, .int), (cB, .byte), (cL, .long), (cZ, .boolean)]) [0, 1, 2, 3] rfl)⟩ rfl rfl hl.1 rfl (lv_room (Nat.le_of_ble_eq_true rfl)) dL_law_1088 ⟨Nat.le_of_ble_eq_true rfl, Nat.le_of_ble_eq_true rfl⟩).run (fun r_298 hr_298 => ?_)
        clear hPc
        subst hr_298
        refine lv_aload_n hx hb dL_law_1091 rfl (lv_at hl 1 rfl) ?_
        have hPc := hP.sub (ws' := [(am, .inr (12, MF ad 0 0 0 (-1) 0 0 0 0 0 0 0 0 0 0 0 0 0 0 0 0 0)), ((ad 13), .inl (cI, 2, .inl fT))]) [30, 33] rfl
        refine vp_callSi (va_runV (As := []) (rest := [.int 0]) ⟨hx, hb, hml, hown, hts⟩ (m_off l D cI cB cL cZ am ad 0 0 0 0 0 0 0 0 0 0 0 0 fT hf_fT_0) (cwV 0 hts gL_law_X12_off rfl rfl rfl (by decide +kernel) ⟨Nat.le_of_ble_eq_true rfl, Nat.le_of_ble_eq_true rfl⟩) ⟨xr_blind, va_recv hK hPc (ci := 12) (q0 := 0) rfl rfl, fun U hU hW => xr_mk hU hW hPc (hK.sub (tys' := [(cI, .int), (cB, .byte), (cL, .long), (cZ, .boolean)]) [0, 1, 2, 3] rfl)⟩ rfl rfl hl.1 rfl (lv_room (Nat.le_of_ble_eq_true rfl)) dL_law_1092 ⟨Nat.le_of_ble_eq_true rfl, Nat.le_of_ble_eq_true rfl⟩).run (fun r_299 hr_299 => ?_)
        clear hPc
        subst hr_299
        refine lv_icmp_eq (tgt := 1570) hx hb dL_law_1095 (by decide) (fun _ => ?_) (fun c_300 => absurd (by decide) c_300)
        refine lv_iinc (v := 6) (lv' := [(3, .int 6), (2, .ref am), (1, .ref a0), (0, .ref b)]) hx hb dL_law_1570 hl (k := 0) rfl (by decide) (by decide) rfl (fun ls hl => ?_)
        refine lv_goto (tgt := 18) hx hb dL_law_1573 (by decide) ?_
        refine lv_iload_n hx hb dL_law_18 rfl (lv_at hl 0 rfl) ?_
        refine lv_aload_n hx hb dL_law_19 rfl (lv_at hl 3 rfl) ?_
        refine va_slen hx hb hX hbl hbA hS dL_law_20 ?_
        refine lv_topi (fun y_301 ey_301 => ?_)
        obtain rfl : y_301 = 6 := ey_301.trans (by decide)
        refine lv_bipush (v := 6) hx hb dL_law_21 (by decide) ?_
        refine lv_isub hx hb dL_law_23 ?_
        refine lv_topi (fun y_302 ey_302 => ?_)
        obtain rfl : y_302 = 0 := ey_302.trans (by decide)
        refine lv_icmp_gt (tgt := 1576) hx hb dL_law_24 (by decide) (fun _ => ?_) (fun c_303 => absurd (by decide) c_303)
        refine lv_iconst (v := 1) hx hb dL_law_1576 (by decide) ?_
        refine va_forget (fun q hq => by have h := hS.2.2 q hq; rw [hAe] at h; exact h) ?_
        refine W.widen (k := 600000) (n := 7302250) (Nat.le_of_ble_eq_true rfl) (Nat.le_of_ble_eq_true rfl) ?_
        exact lw_ret hx hb hr hlocks dL_law_1577
      · refine lv_tableIn (off := 1067) (tgt := 1100) hx hb dL_law_33 (by decide) (by decide) (by decide) (by decide) ?_
        refine lv_aload_n hx hb dL_law_1100 rfl (lv_at hl 2 rfl) ?_
        have hPc := hP.sub (ws' := [(a0, .inr (11, [.ref aP, .ref aD, .ref aT, .ref aR, .ref aF, .ref aU, .ref aH, .ref aM, .ref aW, .ref aN])), (aM, .inr (3, [.ref aF, .ref mo, .ref ma, .ref mk, .int 0, .int 0, .int 0, .ref mb, .ref mf])), (aF, .inr (0, [.ref aP, .ref fx, .ref fr, .ref fe, .int 0])), (aP, .inr (5, PF pz su))]) [0, 13, 9, 1] rfl
        refine vp_callSi (va_runV (As := []) (rest := []) ⟨hx, hb, hml, hown, hts⟩ (c_right l D cI cB cL cZ a0 aP aD aT aR aF aU aH aM aW aN mo ma mk mb mf fx fr fe pz su) (cwV 0 hts gL_law_X11_right rfl rfl rfl (by decide +kernel) ⟨Nat.le_of_ble_eq_true rfl, Nat.le_of_ble_eq_true rfl⟩) ⟨xr_blind, va_recv hK hPc (ci := 11) (q0 := 0) rfl rfl, fun U hU hW => xr_mk hU hW hPc (hK.sub (tys' := [(cI, .int), (cB, .byte), (cL, .long), (cZ, .boolean)]) [0, 1, 2, 3] rfl)⟩ rfl rfl hl.1 rfl (lv_room (Nat.le_of_ble_eq_true rfl)) dL_law_1101 ⟨Nat.le_of_ble_eq_true rfl, Nat.le_of_ble_eq_true rfl⟩).run (fun r_304 hr_304 => ?_)
        clear hPc
        subst hr_304
        refine lv_aload_n hx hb dL_law_1104 rfl (lv_at hl 1 rfl) ?_
        have hPc := hP.sub (ws' := [(am, .inr (12, MF ad 0 0 0 (-1) 0 0 0 0 0 0 0 0 0 0 0 0 0 0 0 0 0)), ((ad 13), .inl (cI, 2, .inl fT))]) [30, 33] rfl
        refine vp_callSi (va_runV (As := []) (rest := [.int 0]) ⟨hx, hb, hml, hown, hts⟩ (m_right l D cI cB cL cZ am ad 0 0 0 0 0 0 0 0 0 0 0 0 fT hf_fT_0) (cwV 0 hts gL_law_X12_right rfl rfl rfl (by decide +kernel) ⟨Nat.le_of_ble_eq_true rfl, Nat.le_of_ble_eq_true rfl⟩) ⟨xr_blind, va_recv hK hPc (ci := 12) (q0 := 0) rfl rfl, fun U hU hW => xr_mk hU hW hPc (hK.sub (tys' := [(cI, .int), (cB, .byte), (cL, .long), (cZ, .boolean)]) [0, 1, 2, 3] rfl)⟩ rfl rfl hl.1 rfl (lv_room (Nat.le_of_ble_eq_true rfl)) dL_law_1105 ⟨Nat.le_of_ble_eq_true rfl, Nat.le_of_ble_eq_true rfl⟩).run (fun r_305 hr_305 => ?_)
        clear hPc
        subst hr_305
        refine lv_icmp_eq (tgt := 1570) hx hb dL_law_1108 (by decide) (fun _ => ?_) (fun c_306 => absurd (by decide) c_306)
        refine lv_iinc (v := 6) (lv' := [(3, .int 6), (2, .ref am), (1, .ref a0), (0, .ref b)]) hx hb dL_law_1570 hl (k := 0) rfl (by decide) (by decide) rfl (fun ls hl => ?_)
        refine lv_goto (tgt := 18) hx hb dL_law_1573 (by decide) ?_
        refine lv_iload_n hx hb dL_law_18 rfl (lv_at hl 0 rfl) ?_
        refine lv_aload_n hx hb dL_law_19 rfl (lv_at hl 3 rfl) ?_
        refine va_slen hx hb hX hbl hbA hS dL_law_20 ?_
        refine lv_topi (fun y_307 ey_307 => ?_)
        obtain rfl : y_307 = 6 := ey_307.trans (by decide)
        refine lv_bipush (v := 6) hx hb dL_law_21 (by decide) ?_
        refine lv_isub hx hb dL_law_23 ?_
        refine lv_topi (fun y_308 ey_308 => ?_)
        obtain rfl : y_308 = 0 := ey_308.trans (by decide)
        refine lv_icmp_gt (tgt := 1576) hx hb dL_law_24 (by decide) (fun _ => ?_) (fun c_309 => absurd (by decide) c_309)
        refine lv_iconst (v := 1) hx hb dL_law_1576 (by decide) ?_
        refine va_forget (fun q hq => by have h := hS.2.2 q hq; rw [hAe] at h; exact h) ?_
        refine W.widen (k := 600000) (n := 7302250) (Nat.le_of_ble_eq_true rfl) (Nat.le_of_ble_eq_true rfl) ?_
        exact lw_ret hx hb hr hlocks dL_law_1577
      · refine lv_tableIn (off := 1080) (tgt := 1113) hx hb dL_law_33 (by decide) (by decide) (by decide) (by decide) ?_
        refine lv_aload_n hx hb dL_law_1113 rfl (lv_at hl 2 rfl) ?_
        refine lv_aload_n hx hb dL_law_1114 rfl (lv_at hl 3 rfl) ?_
        refine lv_iload_n hx hb dL_law_1115 rfl (lv_at hl 0 rfl) ?_
        refine lv_iconst (v := 1) hx hb dL_law_1116 (by decide) ?_
        refine lv_iadd hx hb dL_law_1117 ?_
        refine lv_topi (fun y_310 ey_310 => ?_)
        obtain rfl : y_310 = 1 := ey_310.trans (by decide)
        refine va_sld hx hb hX hbl hbA hS (show vp_in 1 6 from (by decide : ¬ ((1 : Int32) < 0 ∨ 6 ≤ Int32.toNatClampNeg 1))) dL_law_1118 ?_
        have hPc := hP.sub (ws' := [(a0, .inr (11, [.ref aP, .ref aD, .ref aT, .ref aR, .ref aF, .ref aU, .ref aH, .ref aM, .ref aW, .ref aN])), (aP, .inr (5, PF pz su))]) [0, 1] rfl
        refine vp_callSi (va_runV (As := [.int (xs (Int32.toNatClampNeg 1))]) (rest := []) ⟨hx, hb, hml, hown, hts⟩ (c_deep l D cI cB cL cZ a0 aP aD aT aR aF aU aH aM aW aN pz su (xs (Int32.toNatClampNeg 1))) (cwV 1 hts gL_law_X11_deep rfl rfl rfl (by decide +kernel) ⟨Nat.le_of_ble_eq_true rfl, Nat.le_of_ble_eq_true rfl⟩) ⟨xr_blind, va_recv hK hPc (ci := 11) (q0 := 0) rfl rfl, fun U hU hW => xr_mk hU hW hPc (hK.sub (tys' := [(cI, .int), (cB, .byte), (cL, .long), (cZ, .boolean)]) [0, 1, 2, 3] rfl)⟩ rfl rfl hl.1 rfl (lv_room (Nat.le_of_ble_eq_true rfl)) dL_law_1119 ⟨Nat.le_of_ble_eq_true rfl, Nat.le_of_ble_eq_true rfl⟩).run (fun r_311 hr_311 => ?_)
        clear hPc
        subst hr_311
        refine lv_aload_n hx hb dL_law_1122 rfl (lv_at hl 1 rfl) ?_
        refine lv_aload_n hx hb dL_law_1123 rfl (lv_at hl 3 rfl) ?_
        refine lv_iload_n hx hb dL_law_1124 rfl (lv_at hl 0 rfl) ?_
        refine lv_iconst (v := 1) hx hb dL_law_1125 (by decide) ?_
        refine lv_iadd hx hb dL_law_1126 ?_
        refine lv_topi (fun y_312 ey_312 => ?_)
        obtain rfl : y_312 = 1 := ey_312.trans (by decide)
        refine va_sld hx hb hX hbl hbA hS (show vp_in 1 6 from (by decide : ¬ ((1 : Int32) < 0 ∨ 6 ≤ Int32.toNatClampNeg 1))) dL_law_1127 ?_
        have hPc := hP.sub (ws' := [(am, .inr (12, MF ad 0 0 0 (-1) 0 0 0 0 0 0 0 0 0 0 0 0 0 0 0 0 0)), ((ad 13), .inl (cI, 2, .inl fT))]) [30, 33] rfl
        refine vp_callSi (va_runV (As := [.int (xs (Int32.toNatClampNeg 1))]) (rest := [.int (sp_rng 99 xs (Int32.toNatClampNeg 1))]) ⟨hx, hb, hml, hown, hts⟩ (m_deep l D cI cB cL cZ am ad 0 0 0 0 0 0 0 0 0 0 0 0 fT (xs (Int32.toNatClampNeg 1)) hf_fT_0) (cwV 1 hts gL_law_X12_deep rfl rfl rfl (by decide +kernel) ⟨Nat.le_of_ble_eq_true rfl, Nat.le_of_ble_eq_true rfl⟩) ⟨xr_blind, va_recv hK hPc (ci := 12) (q0 := 0) rfl rfl, fun U hU hW => xr_mk hU hW hPc (hK.sub (tys' := [(cI, .int), (cB, .byte), (cL, .long), (cZ, .boolean)]) [0, 1, 2, 3] rfl)⟩ rfl rfl hl.1 rfl (lv_room (Nat.le_of_ble_eq_true rfl)) dL_law_1128 ⟨Nat.le_of_ble_eq_true rfl, Nat.le_of_ble_eq_true rfl⟩).run (fun r_313 hr_313 => ?_)
        clear hPc
        subst hr_313
        refine lv_icmp_eq (tgt := 1570) hx hb dL_law_1131 (by decide) (fun _ => ?_) (fun c9 => absurd rfl c9)
        refine lv_iinc (v := 6) (lv' := [(3, .int 6), (2, .ref am), (1, .ref a0), (0, .ref b)]) hx hb dL_law_1570 hl (k := 0) rfl (by decide) (by decide) rfl (fun ls hl => ?_)
        refine lv_goto (tgt := 18) hx hb dL_law_1573 (by decide) ?_
        refine lv_iload_n hx hb dL_law_18 rfl (lv_at hl 0 rfl) ?_
        refine lv_aload_n hx hb dL_law_19 rfl (lv_at hl 3 rfl) ?_
        refine va_slen hx hb hX hbl hbA hS dL_law_20 ?_
        refine lv_topi (fun y_314 ey_314 => ?_)
        obtain rfl : y_314 = 6 := ey_314.trans (by decide)
        refine lv_bipush (v := 6) hx hb dL_law_21 (by decide) ?_
        refine lv_isub hx hb dL_law_23 ?_
        refine lv_topi (fun y_315 ey_315 => ?_)
        obtain rfl : y_315 = 0 := ey_315.trans (by decide)
        refine lv_icmp_gt (tgt := 1576) hx hb dL_law_24 (by decide) (fun _ => ?_) (fun c_316 => absurd (by decide) c_316)
        refine lv_iconst (v := 1) hx hb dL_law_1576 (by decide) ?_
        refine va_forget (fun q hq => by have h := hS.2.2 q hq; rw [hAe] at h; exact h) ?_
        refine W.widen (k := 600000) (n := 7302250) (Nat.le_of_ble_eq_true rfl) (Nat.le_of_ble_eq_true rfl) ?_
        exact lw_ret hx hb hr hlocks dL_law_1577
      · refine lv_tableIn (off := 1103) (tgt := 1136) hx hb dL_law_33 (by decide) (by decide) (by decide) (by decide) ?_
        refine lv_aload_n hx hb dL_law_1136 rfl (lv_at hl 2 rfl) ?_
        refine lv_aload_n hx hb dL_law_1137 rfl (lv_at hl 3 rfl) ?_
        refine lv_iload_n hx hb dL_law_1138 rfl (lv_at hl 0 rfl) ?_
        refine lv_iconst (v := 1) hx hb dL_law_1139 (by decide) ?_
        refine lv_iadd hx hb dL_law_1140 ?_
        refine lv_topi (fun y_317 ey_317 => ?_)
        obtain rfl : y_317 = 1 := ey_317.trans (by decide)
        refine va_sld hx hb hX hbl hbA hS (show vp_in 1 6 from (by decide : ¬ ((1 : Int32) < 0 ∨ 6 ≤ Int32.toNatClampNeg 1))) dL_law_1141 ?_
        refine lv_aload_n hx hb dL_law_1142 rfl (lv_at hl 3 rfl) ?_
        refine lv_iload_n hx hb dL_law_1143 rfl (lv_at hl 0 rfl) ?_
        refine lv_iconst (v := 2) hx hb dL_law_1144 (by decide) ?_
        refine lv_iadd hx hb dL_law_1145 ?_
        refine lv_topi (fun y_318 ey_318 => ?_)
        obtain rfl : y_318 = 2 := ey_318.trans (by decide)
        refine va_sld hx hb hX hbl hbA hS (show vp_in 2 6 from (by decide : ¬ ((2 : Int32) < 0 ∨ 6 ≤ Int32.toNatClampNeg 2))) dL_law_1146 ?_
        refine lv_aload_n hx hb dL_law_1147 rfl (lv_at hl 3 rfl) ?_
        refine lv_iload_n hx hb dL_law_1148 rfl (lv_at hl 0 rfl) ?_
        refine lv_iconst (v := 3) hx hb dL_law_1149 (by decide) ?_
        refine lv_iadd hx hb dL_law_1150 ?_
        refine lv_topi (fun y_319 ey_319 => ?_)
        obtain rfl : y_319 = 3 := ey_319.trans (by decide)
        refine va_sld hx hb hX hbl hbA hS (show vp_in 3 6 from (by decide : ¬ ((3 : Int32) < 0 ∨ 6 ≤ Int32.toNatClampNeg 3))) dL_law_1151 ?_
        have hPc := hP.sub (ws' := [(a0, .inr (11, [.ref aP, .ref aD, .ref aT, .ref aR, .ref aF, .ref aU, .ref aH, .ref aM, .ref aW, .ref aN])), (aP, .inr (5, PF pz su))]) [0, 1] rfl
        refine vp_callSi (va_runV (As := [.int (xs (Int32.toNatClampNeg 1)), .int (xs (Int32.toNatClampNeg 2)), .int (xs (Int32.toNatClampNeg 3))]) (rest := []) ⟨hx, hb, hml, hown, hts⟩ (c_stay l D cI cB cL cZ a0 aP aD aT aR aF aU aH aM aW aN pz su (xs (Int32.toNatClampNeg 1)) (xs (Int32.toNatClampNeg 2)) (xs (Int32.toNatClampNeg 3))) (cwV 3 hts gL_law_X11_stay rfl rfl rfl (by decide +kernel) ⟨Nat.le_of_ble_eq_true rfl, Nat.le_of_ble_eq_true rfl⟩) ⟨xr_blind, va_recv hK hPc (ci := 11) (q0 := 0) rfl rfl, fun U hU hW => xr_mk hU hW hPc (hK.sub (tys' := [(cI, .int), (cB, .byte), (cL, .long), (cZ, .boolean)]) [0, 1, 2, 3] rfl)⟩ rfl rfl hl.1 rfl (lv_room (Nat.le_of_ble_eq_true rfl)) dL_law_1152 ⟨Nat.le_of_ble_eq_true rfl, Nat.le_of_ble_eq_true rfl⟩).run (fun r_320 hr_320 => ?_)
        clear hPc
        subst hr_320
        refine lv_aload_n hx hb dL_law_1155 rfl (lv_at hl 1 rfl) ?_
        refine lv_aload_n hx hb dL_law_1156 rfl (lv_at hl 3 rfl) ?_
        refine lv_iload_n hx hb dL_law_1157 rfl (lv_at hl 0 rfl) ?_
        refine lv_iconst (v := 1) hx hb dL_law_1158 (by decide) ?_
        refine lv_iadd hx hb dL_law_1159 ?_
        refine lv_topi (fun y_321 ey_321 => ?_)
        obtain rfl : y_321 = 1 := ey_321.trans (by decide)
        refine va_sld hx hb hX hbl hbA hS (show vp_in 1 6 from (by decide : ¬ ((1 : Int32) < 0 ∨ 6 ≤ Int32.toNatClampNeg 1))) dL_law_1160 ?_
        refine lv_aload_n hx hb dL_law_1161 rfl (lv_at hl 3 rfl) ?_
        refine lv_iload_n hx hb dL_law_1162 rfl (lv_at hl 0 rfl) ?_
        refine lv_iconst (v := 2) hx hb dL_law_1163 (by decide) ?_
        refine lv_iadd hx hb dL_law_1164 ?_
        refine lv_topi (fun y_322 ey_322 => ?_)
        obtain rfl : y_322 = 2 := ey_322.trans (by decide)
        refine va_sld hx hb hX hbl hbA hS (show vp_in 2 6 from (by decide : ¬ ((2 : Int32) < 0 ∨ 6 ≤ Int32.toNatClampNeg 2))) dL_law_1165 ?_
        refine lv_aload_n hx hb dL_law_1166 rfl (lv_at hl 3 rfl) ?_
        refine lv_iload_n hx hb dL_law_1167 rfl (lv_at hl 0 rfl) ?_
        refine lv_iconst (v := 3) hx hb dL_law_1168 (by decide) ?_
        refine lv_iadd hx hb dL_law_1169 ?_
        refine lv_topi (fun y_323 ey_323 => ?_)
        obtain rfl : y_323 = 3 := ey_323.trans (by decide)
        refine va_sld hx hb hX hbl hbA hS (show vp_in 3 6 from (by decide : ¬ ((3 : Int32) < 0 ∨ 6 ≤ Int32.toNatClampNeg 3))) dL_law_1170 ?_
        have hPc := hP.sub (ws' := [(am, .inr (12, MF ad 0 0 0 (-1) 0 0 0 0 0 0 0 0 0 0 0 0 0 0 0 0 0)), ((ad 13), .inl (cI, 2, .inl fT))]) [30, 33] rfl
        refine vp_callSi (va_runV (As := [.int (xs (Int32.toNatClampNeg 1)), .int (xs (Int32.toNatClampNeg 2)), .int (xs (Int32.toNatClampNeg 3))]) (rest := [.int (-1)]) ⟨hx, hb, hml, hown, hts⟩ (m_stay l D cI cB cL cZ am ad 0 0 0 0 0 0 0 0 0 0 0 0 fT (xs (Int32.toNatClampNeg 1)) (xs (Int32.toNatClampNeg 2)) (xs (Int32.toNatClampNeg 3)) hf_fT_0) (cwV 3 hts gL_law_X12_stay rfl rfl rfl (by decide +kernel) ⟨Nat.le_of_ble_eq_true rfl, Nat.le_of_ble_eq_true rfl⟩) ⟨xr_blind, va_recv hK hPc (ci := 12) (q0 := 0) rfl rfl, fun U hU hW => xr_mk hU hW hPc (hK.sub (tys' := [(cI, .int), (cB, .byte), (cL, .long), (cZ, .boolean)]) [0, 1, 2, 3] rfl)⟩ rfl rfl hl.1 rfl (lv_room (Nat.le_of_ble_eq_true rfl)) dL_law_1171 ⟨Nat.le_of_ble_eq_true rfl, Nat.le_of_ble_eq_true rfl⟩).run (fun r_324 hr_324 => ?_)
        clear hPc
        subst hr_324
        refine lv_icmp_eq (tgt := 1570) hx hb dL_law_1174 (by decide) (fun _ => ?_) (fun c_325 => absurd (by decide) c_325)
        refine lv_iinc (v := 6) (lv' := [(3, .int 6), (2, .ref am), (1, .ref a0), (0, .ref b)]) hx hb dL_law_1570 hl (k := 0) rfl (by decide) (by decide) rfl (fun ls hl => ?_)
        refine lv_goto (tgt := 18) hx hb dL_law_1573 (by decide) ?_
        refine lv_iload_n hx hb dL_law_18 rfl (lv_at hl 0 rfl) ?_
        refine lv_aload_n hx hb dL_law_19 rfl (lv_at hl 3 rfl) ?_
        refine va_slen hx hb hX hbl hbA hS dL_law_20 ?_
        refine lv_topi (fun y_326 ey_326 => ?_)
        obtain rfl : y_326 = 6 := ey_326.trans (by decide)
        refine lv_bipush (v := 6) hx hb dL_law_21 (by decide) ?_
        refine lv_isub hx hb dL_law_23 ?_
        refine lv_topi (fun y_327 ey_327 => ?_)
        obtain rfl : y_327 = 0 := ey_327.trans (by decide)
        refine lv_icmp_gt (tgt := 1576) hx hb dL_law_24 (by decide) (fun _ => ?_) (fun c_328 => absurd (by decide) c_328)
        refine lv_iconst (v := 1) hx hb dL_law_1576 (by decide) ?_
        refine va_forget (fun q hq => by have h := hS.2.2 q hq; rw [hAe] at h; exact h) ?_
        refine W.widen (k := 600000) (n := 7302250) (Nat.le_of_ble_eq_true rfl) (Nat.le_of_ble_eq_true rfl) ?_
        exact lw_ret hx hb hr hlocks dL_law_1577
      · refine lv_tableIn (off := 1146) (tgt := 1179) hx hb dL_law_33 (by decide) (by decide) (by decide) (by decide) ?_
        refine lv_aload_n hx hb dL_law_1179 rfl (lv_at hl 2 rfl) ?_
        refine lv_aload_n hx hb dL_law_1180 rfl (lv_at hl 3 rfl) ?_
        refine lv_iload_n hx hb dL_law_1181 rfl (lv_at hl 0 rfl) ?_
        refine lv_iconst (v := 1) hx hb dL_law_1182 (by decide) ?_
        refine lv_iadd hx hb dL_law_1183 ?_
        refine lv_topi (fun y_329 ey_329 => ?_)
        obtain rfl : y_329 = 1 := ey_329.trans (by decide)
        refine va_sld hx hb hX hbl hbA hS (show vp_in 1 6 from (by decide : ¬ ((1 : Int32) < 0 ∨ 6 ≤ Int32.toNatClampNeg 1))) dL_law_1184 ?_
        refine lv_aload_n hx hb dL_law_1185 rfl (lv_at hl 3 rfl) ?_
        refine lv_iload_n hx hb dL_law_1186 rfl (lv_at hl 0 rfl) ?_
        refine lv_iconst (v := 2) hx hb dL_law_1187 (by decide) ?_
        refine lv_iadd hx hb dL_law_1188 ?_
        refine lv_topi (fun y_330 ey_330 => ?_)
        obtain rfl : y_330 = 2 := ey_330.trans (by decide)
        refine va_sld hx hb hX hbl hbA hS (show vp_in 2 6 from (by decide : ¬ ((2 : Int32) < 0 ∨ 6 ≤ Int32.toNatClampNeg 2))) dL_law_1189 ?_
        have hPc := hP.sub (ws' := [(a0, .inr (11, [.ref aP, .ref aD, .ref aT, .ref aR, .ref aF, .ref aU, .ref aH, .ref aM, .ref aW, .ref aN])), (aP, .inr (5, PF pz su))]) [0, 1] rfl
        refine vp_callSi (va_runV (As := [.int (xs (Int32.toNatClampNeg 1)), .int (xs (Int32.toNatClampNeg 2))]) (rest := []) ⟨hx, hb, hml, hown, hts⟩ (c_will l D cI cB cL cZ a0 aP aD aT aR aF aU aH aM aW aN pz su (xs (Int32.toNatClampNeg 1)) (xs (Int32.toNatClampNeg 2))) (cwV 2 hts gL_law_X11_will rfl rfl rfl (by decide +kernel) ⟨Nat.le_of_ble_eq_true rfl, Nat.le_of_ble_eq_true rfl⟩) ⟨xr_blind, va_recv hK hPc (ci := 11) (q0 := 0) rfl rfl, fun U hU hW => xr_mk hU hW hPc (hK.sub (tys' := [(cI, .int), (cB, .byte), (cL, .long), (cZ, .boolean)]) [0, 1, 2, 3] rfl)⟩ rfl rfl hl.1 rfl (lv_room (Nat.le_of_ble_eq_true rfl)) dL_law_1190 ⟨Nat.le_of_ble_eq_true rfl, Nat.le_of_ble_eq_true rfl⟩).run (fun r_331 hr_331 => ?_)
        clear hPc
        subst hr_331
        refine lv_aload_n hx hb dL_law_1193 rfl (lv_at hl 1 rfl) ?_
        refine lv_aload_n hx hb dL_law_1194 rfl (lv_at hl 3 rfl) ?_
        refine lv_iload_n hx hb dL_law_1195 rfl (lv_at hl 0 rfl) ?_
        refine lv_iconst (v := 1) hx hb dL_law_1196 (by decide) ?_
        refine lv_iadd hx hb dL_law_1197 ?_
        refine lv_topi (fun y_332 ey_332 => ?_)
        obtain rfl : y_332 = 1 := ey_332.trans (by decide)
        refine va_sld hx hb hX hbl hbA hS (show vp_in 1 6 from (by decide : ¬ ((1 : Int32) < 0 ∨ 6 ≤ Int32.toNatClampNeg 1))) dL_law_1198 ?_
        refine lv_aload_n hx hb dL_law_1199 rfl (lv_at hl 3 rfl) ?_
        refine lv_iload_n hx hb dL_law_1200 rfl (lv_at hl 0 rfl) ?_
        refine lv_iconst (v := 2) hx hb dL_law_1201 (by decide) ?_
        refine lv_iadd hx hb dL_law_1202 ?_
        refine lv_topi (fun y_333 ey_333 => ?_)
        obtain rfl : y_333 = 2 := ey_333.trans (by decide)
        refine va_sld hx hb hX hbl hbA hS (show vp_in 2 6 from (by decide : ¬ ((2 : Int32) < 0 ∨ 6 ≤ Int32.toNatClampNeg 2))) dL_law_1203 ?_
        have hPc := hP.sub (ws' := [(am, .inr (12, MF ad 0 0 0 (-1) 0 0 0 0 0 0 0 0 0 0 0 0 0 0 0 0 0)), ((ad 13), .inl (cI, 2, .inl fT))]) [30, 33] rfl
        refine vp_callSi (va_runV (As := [.int (xs (Int32.toNatClampNeg 1)), .int (xs (Int32.toNatClampNeg 2))]) (rest := [.int (-1)]) ⟨hx, hb, hml, hown, hts⟩ (m_will l D cI cB cL cZ am ad 0 0 0 0 0 0 0 0 0 0 0 0 fT (xs (Int32.toNatClampNeg 1)) (xs (Int32.toNatClampNeg 2)) hf_fT_0) (cwV 2 hts gL_law_X12_will rfl rfl rfl (by decide +kernel) ⟨Nat.le_of_ble_eq_true rfl, Nat.le_of_ble_eq_true rfl⟩) ⟨xr_blind, va_recv hK hPc (ci := 12) (q0 := 0) rfl rfl, fun U hU hW => xr_mk hU hW hPc (hK.sub (tys' := [(cI, .int), (cB, .byte), (cL, .long), (cZ, .boolean)]) [0, 1, 2, 3] rfl)⟩ rfl rfl hl.1 rfl (lv_room (Nat.le_of_ble_eq_true rfl)) dL_law_1204 ⟨Nat.le_of_ble_eq_true rfl, Nat.le_of_ble_eq_true rfl⟩).run (fun r_334 hr_334 => ?_)
        clear hPc
        subst hr_334
        refine lv_icmp_eq (tgt := 1570) hx hb dL_law_1207 (by decide) (fun _ => ?_) (fun c_335 => absurd (by decide) c_335)
        refine lv_iinc (v := 6) (lv' := [(3, .int 6), (2, .ref am), (1, .ref a0), (0, .ref b)]) hx hb dL_law_1570 hl (k := 0) rfl (by decide) (by decide) rfl (fun ls hl => ?_)
        refine lv_goto (tgt := 18) hx hb dL_law_1573 (by decide) ?_
        refine lv_iload_n hx hb dL_law_18 rfl (lv_at hl 0 rfl) ?_
        refine lv_aload_n hx hb dL_law_19 rfl (lv_at hl 3 rfl) ?_
        refine va_slen hx hb hX hbl hbA hS dL_law_20 ?_
        refine lv_topi (fun y_336 ey_336 => ?_)
        obtain rfl : y_336 = 6 := ey_336.trans (by decide)
        refine lv_bipush (v := 6) hx hb dL_law_21 (by decide) ?_
        refine lv_isub hx hb dL_law_23 ?_
        refine lv_topi (fun y_337 ey_337 => ?_)
        obtain rfl : y_337 = 0 := ey_337.trans (by decide)
        refine lv_icmp_gt (tgt := 1576) hx hb dL_law_24 (by decide) (fun _ => ?_) (fun c_338 => absurd (by decide) c_338)
        refine lv_iconst (v := 1) hx hb dL_law_1576 (by decide) ?_
        refine va_forget (fun q hq => by have h := hS.2.2 q hq; rw [hAe] at h; exact h) ?_
        refine W.widen (k := 600000) (n := 7302250) (Nat.le_of_ble_eq_true rfl) (Nat.le_of_ble_eq_true rfl) ?_
        exact lw_ret hx hb hr hlocks dL_law_1577
      · refine lv_tableIn (off := 1179) (tgt := 1212) hx hb dL_law_33 (by decide) (by decide) (by decide) (by decide) ?_
        refine lv_aload_n hx hb dL_law_1212 rfl (lv_at hl 2 rfl) ?_
        have hPc := hP.sub (ws' := [(a0, .inr (11, [.ref aP, .ref aD, .ref aT, .ref aR, .ref aF, .ref aU, .ref aH, .ref aM, .ref aW, .ref aN])), (aM, .inr (3, [.ref aF, .ref mo, .ref ma, .ref mk, .int 0, .int 0, .int 0, .ref mb, .ref mf])), (aF, .inr (0, [.ref aP, .ref fx, .ref fr, .ref fe, .int 0])), (aP, .inr (5, PF pz su))]) [0, 13, 9, 1] rfl
        refine vp_callSi (va_runV (As := []) (rest := []) ⟨hx, hb, hml, hown, hts⟩ (c_lost l D cI cB cL cZ a0 aP aD aT aR aF aU aH aM aW aN mo ma mk mb mf fx fr fe pz su) (cwV 0 hts gL_law_X11_lost rfl rfl rfl (by decide +kernel) ⟨Nat.le_of_ble_eq_true rfl, Nat.le_of_ble_eq_true rfl⟩) ⟨xr_blind, va_recv hK hPc (ci := 11) (q0 := 0) rfl rfl, fun U hU hW => xr_mk hU hW hPc (hK.sub (tys' := [(cI, .int), (cB, .byte), (cL, .long), (cZ, .boolean)]) [0, 1, 2, 3] rfl)⟩ rfl rfl hl.1 rfl (lv_room (Nat.le_of_ble_eq_true rfl)) dL_law_1213 ⟨Nat.le_of_ble_eq_true rfl, Nat.le_of_ble_eq_true rfl⟩).run (fun r_339 hr_339 => ?_)
        clear hPc
        subst hr_339
        refine lv_aload_n hx hb dL_law_1216 rfl (lv_at hl 1 rfl) ?_
        have hPc := hP.sub (ws' := [(am, .inr (12, MF ad 0 0 0 (-1) 0 0 0 0 0 0 0 0 0 0 0 0 0 0 0 0 0)), ((ad 13), .inl (cI, 2, .inl fT))]) [30, 33] rfl
        refine vp_callSi (va_runV (As := []) (rest := [.int (-1)]) ⟨hx, hb, hml, hown, hts⟩ (m_lost l D cI cB cL cZ am ad 0 0 0 0 0 0 0 0 0 0 0 0 fT hf_fT_0) (cwV 0 hts gL_law_X12_lost rfl rfl rfl (by decide +kernel) ⟨Nat.le_of_ble_eq_true rfl, Nat.le_of_ble_eq_true rfl⟩) ⟨xr_blind, va_recv hK hPc (ci := 12) (q0 := 0) rfl rfl, fun U hU hW => xr_mk hU hW hPc (hK.sub (tys' := [(cI, .int), (cB, .byte), (cL, .long), (cZ, .boolean)]) [0, 1, 2, 3] rfl)⟩ rfl rfl hl.1 rfl (lv_room (Nat.le_of_ble_eq_true rfl)) dL_law_1217 ⟨Nat.le_of_ble_eq_true rfl, Nat.le_of_ble_eq_true rfl⟩).run (fun r_340 hr_340 => ?_)
        clear hPc
        subst hr_340
        refine lv_icmp_eq (tgt := 1570) hx hb dL_law_1220 (by decide) (fun _ => ?_) (fun c_341 => absurd (by decide) c_341)
        refine lv_iinc (v := 6) (lv' := [(3, .int 6), (2, .ref am), (1, .ref a0), (0, .ref b)]) hx hb dL_law_1570 hl (k := 0) rfl (by decide) (by decide) rfl (fun ls hl => ?_)
        refine lv_goto (tgt := 18) hx hb dL_law_1573 (by decide) ?_
        refine lv_iload_n hx hb dL_law_18 rfl (lv_at hl 0 rfl) ?_
        refine lv_aload_n hx hb dL_law_19 rfl (lv_at hl 3 rfl) ?_
        refine va_slen hx hb hX hbl hbA hS dL_law_20 ?_
        refine lv_topi (fun y_342 ey_342 => ?_)
        obtain rfl : y_342 = 6 := ey_342.trans (by decide)
        refine lv_bipush (v := 6) hx hb dL_law_21 (by decide) ?_
        refine lv_isub hx hb dL_law_23 ?_
        refine lv_topi (fun y_343 ey_343 => ?_)
        obtain rfl : y_343 = 0 := ey_343.trans (by decide)
        refine lv_icmp_gt (tgt := 1576) hx hb dL_law_24 (by decide) (fun _ => ?_) (fun c_344 => absurd (by decide) c_344)
        refine lv_iconst (v := 1) hx hb dL_law_1576 (by decide) ?_
        refine va_forget (fun q hq => by have h := hS.2.2 q hq; rw [hAe] at h; exact h) ?_
        refine W.widen (k := 600000) (n := 7302250) (Nat.le_of_ble_eq_true rfl) (Nat.le_of_ble_eq_true rfl) ?_
        exact lw_ret hx hb hr hlocks dL_law_1577
      · refine lv_tableIn (off := 1192) (tgt := 1225) hx hb dL_law_33 (by decide) (by decide) (by decide) (by decide) ?_
        refine lv_aload_n hx hb dL_law_1225 rfl (lv_at hl 2 rfl) ?_
        refine lv_aload_n hx hb dL_law_1226 rfl (lv_at hl 3 rfl) ?_
        refine lv_iload_n hx hb dL_law_1227 rfl (lv_at hl 0 rfl) ?_
        refine lv_iconst (v := 1) hx hb dL_law_1228 (by decide) ?_
        refine lv_iadd hx hb dL_law_1229 ?_
        refine lv_topi (fun y_345 ey_345 => ?_)
        obtain rfl : y_345 = 1 := ey_345.trans (by decide)
        refine va_sld hx hb hX hbl hbA hS (show vp_in 1 6 from (by decide : ¬ ((1 : Int32) < 0 ∨ 6 ≤ Int32.toNatClampNeg 1))) dL_law_1230 ?_
        have hPc := hP.sub (ws' := [(a0, .inr (11, [.ref aP, .ref aD, .ref aT, .ref aR, .ref aF, .ref aU, .ref aH, .ref aM, .ref aW, .ref aN])), (aU, .inr (7, [.ref aF, .ref ul, .int 0, .ref uc, .ref ue]))]) [0, 12] rfl
        refine vp_callSi (va_runV (As := [.int (xs (Int32.toNatClampNeg 1))]) (rest := []) ⟨hx, hb, hml, hown, hts⟩ (c_lies l D cI cB cL cZ a0 aP aD aT aR aF aU aH aM aW aN ul uc ue (xs (Int32.toNatClampNeg 1))) (cwV 1 hts gL_law_X11_lies rfl rfl rfl (by decide +kernel) ⟨Nat.le_of_ble_eq_true rfl, Nat.le_of_ble_eq_true rfl⟩) ⟨xr_blind, va_recv hK hPc (ci := 11) (q0 := 0) rfl rfl, fun U hU hW => xr_mk hU hW hPc (hK.sub (tys' := [(cI, .int), (cB, .byte), (cL, .long), (cZ, .boolean)]) [0, 1, 2, 3] rfl)⟩ rfl rfl hl.1 rfl (lv_room (Nat.le_of_ble_eq_true rfl)) dL_law_1231 ⟨Nat.le_of_ble_eq_true rfl, Nat.le_of_ble_eq_true rfl⟩).run (fun r_346 hr_346 => ?_)
        clear hPc
        subst hr_346
        refine lv_aload_n hx hb dL_law_1234 rfl (lv_at hl 1 rfl) ?_
        refine lv_aload_n hx hb dL_law_1235 rfl (lv_at hl 3 rfl) ?_
        refine lv_iload_n hx hb dL_law_1236 rfl (lv_at hl 0 rfl) ?_
        refine lv_iconst (v := 1) hx hb dL_law_1237 (by decide) ?_
        refine lv_iadd hx hb dL_law_1238 ?_
        refine lv_topi (fun y_347 ey_347 => ?_)
        obtain rfl : y_347 = 1 := ey_347.trans (by decide)
        refine va_sld hx hb hX hbl hbA hS (show vp_in 1 6 from (by decide : ¬ ((1 : Int32) < 0 ∨ 6 ≤ Int32.toNatClampNeg 1))) dL_law_1239 ?_
        have hPc := hP.sub (ws' := [(am, .inr (12, MF ad 0 0 0 (-1) 0 0 0 0 0 0 0 0 0 0 0 0 0 0 0 0 0))]) [30] rfl
        refine vp_callSi (va_runV (As := [.int (xs (Int32.toNatClampNeg 1))]) (rest := [.int (-1)]) ⟨hx, hb, hml, hown, hts⟩ (m_lies l D cI cB cL cZ am ad 0 0 0 0 0 0 0 0 0 0 0 0 (xs (Int32.toNatClampNeg 1))) (cwV 1 hts gL_law_X12_lies rfl rfl rfl (by decide +kernel) ⟨Nat.le_of_ble_eq_true rfl, Nat.le_of_ble_eq_true rfl⟩) ⟨xr_blind, va_recv hK hPc (ci := 12) (q0 := 0) rfl rfl, fun U hU hW => xr_mk hU hW hPc (hK.sub (tys' := [(cI, .int), (cB, .byte), (cL, .long), (cZ, .boolean)]) [0, 1, 2, 3] rfl)⟩ rfl rfl hl.1 rfl (lv_room (Nat.le_of_ble_eq_true rfl)) dL_law_1240 ⟨Nat.le_of_ble_eq_true rfl, Nat.le_of_ble_eq_true rfl⟩).run (fun r_348 hr_348 => ?_)
        clear hPc
        subst hr_348
        refine lv_icmp_eq (tgt := 1570) hx hb dL_law_1243 (by decide) (fun _ => ?_) (fun c_349 => absurd (by decide) c_349)
        refine lv_iinc (v := 6) (lv' := [(3, .int 6), (2, .ref am), (1, .ref a0), (0, .ref b)]) hx hb dL_law_1570 hl (k := 0) rfl (by decide) (by decide) rfl (fun ls hl => ?_)
        refine lv_goto (tgt := 18) hx hb dL_law_1573 (by decide) ?_
        refine lv_iload_n hx hb dL_law_18 rfl (lv_at hl 0 rfl) ?_
        refine lv_aload_n hx hb dL_law_19 rfl (lv_at hl 3 rfl) ?_
        refine va_slen hx hb hX hbl hbA hS dL_law_20 ?_
        refine lv_topi (fun y_350 ey_350 => ?_)
        obtain rfl : y_350 = 6 := ey_350.trans (by decide)
        refine lv_bipush (v := 6) hx hb dL_law_21 (by decide) ?_
        refine lv_isub hx hb dL_law_23 ?_
        refine lv_topi (fun y_351 ey_351 => ?_)
        obtain rfl : y_351 = 0 := ey_351.trans (by decide)
        refine lv_icmp_gt (tgt := 1576) hx hb dL_law_24 (by decide) (fun _ => ?_) (fun c_352 => absurd (by decide) c_352)
        refine lv_iconst (v := 1) hx hb dL_law_1576 (by decide) ?_
        refine va_forget (fun q hq => by have h := hS.2.2 q hq; rw [hAe] at h; exact h) ?_
        refine W.widen (k := 600000) (n := 7302250) (Nat.le_of_ble_eq_true rfl) (Nat.le_of_ble_eq_true rfl) ?_
        exact lw_ret hx hb hr hlocks dL_law_1577
      · refine lv_tableIn (off := 1215) (tgt := 1248) hx hb dL_law_33 (by decide) (by decide) (by decide) (by decide) ?_
        refine lv_aload_n hx hb dL_law_1248 rfl (lv_at hl 2 rfl) ?_
        refine lv_aload_n hx hb dL_law_1249 rfl (lv_at hl 3 rfl) ?_
        refine lv_iload_n hx hb dL_law_1250 rfl (lv_at hl 0 rfl) ?_
        refine lv_iconst (v := 1) hx hb dL_law_1251 (by decide) ?_
        refine lv_iadd hx hb dL_law_1252 ?_
        refine lv_topi (fun y_353 ey_353 => ?_)
        obtain rfl : y_353 = 1 := ey_353.trans (by decide)
        refine va_sld hx hb hX hbl hbA hS (show vp_in 1 6 from (by decide : ¬ ((1 : Int32) < 0 ∨ 6 ≤ Int32.toNatClampNeg 1))) dL_law_1253 ?_
        refine lv_aload_n hx hb dL_law_1254 rfl (lv_at hl 3 rfl) ?_
        refine lv_iload_n hx hb dL_law_1255 rfl (lv_at hl 0 rfl) ?_
        refine lv_iconst (v := 2) hx hb dL_law_1256 (by decide) ?_
        refine lv_iadd hx hb dL_law_1257 ?_
        refine lv_topi (fun y_354 ey_354 => ?_)
        obtain rfl : y_354 = 2 := ey_354.trans (by decide)
        refine va_sld hx hb hX hbl hbA hS (show vp_in 2 6 from (by decide : ¬ ((2 : Int32) < 0 ∨ 6 ≤ Int32.toNatClampNeg 2))) dL_law_1258 ?_
        refine lv_aload_n hx hb dL_law_1259 rfl (lv_at hl 3 rfl) ?_
        refine lv_iload_n hx hb dL_law_1260 rfl (lv_at hl 0 rfl) ?_
        refine lv_iconst (v := 3) hx hb dL_law_1261 (by decide) ?_
        refine lv_iadd hx hb dL_law_1262 ?_
        refine lv_topi (fun y_355 ey_355 => ?_)
        obtain rfl : y_355 = 3 := ey_355.trans (by decide)
        refine va_sld hx hb hX hbl hbA hS (show vp_in 3 6 from (by decide : ¬ ((3 : Int32) < 0 ∨ 6 ≤ Int32.toNatClampNeg 3))) dL_law_1263 ?_
        refine lv_if_eq (tgt := 1271) hx hb dL_law_1264 (by decide) (fun c_356 => ?_) (fun c_356 => ?_)
        · refine lv_iconst (v := 0) hx hb dL_law_1271 (by decide) ?_
          have hPc := hP.sub (ws' := [(a0, .inr (11, [.ref aP, .ref aD, .ref aT, .ref aR, .ref aF, .ref aU, .ref aH, .ref aM, .ref aW, .ref aN])), (aF, .inr (0, [.ref aP, .ref fx, .ref fr, .ref fe, .int 0])), (aP, .inr (5, PF pz su)), (aN, .inr (4, [.ref aF, .int 0, .int 0, .ref n3, .ref n4, .ref n5, .ref n6, .ref n7, .ref n8, .ref n9])), (n3, .inl (cI, 30, .inl g3)), (n4, .inl (cI, 30, .inl g4)), (n5, .inl (cI, 30, .inl g5)), (n6, .inl (cI, 30, .inl g6))]) [0, 9, 1, 24, 25, 26, 27, 28] rfl
          have hDc := hD.sub (ws' := [(a0, .inr (11, [.ref aP, .ref aD, .ref aT, .ref aR, .ref aF, .ref aU, .ref aH, .ref aM, .ref aW, .ref aN])), (aF, .inr (0, [.ref aP, .ref fx, .ref fr, .ref fe, .int 0])), (aP, .inr (5, PF pz su)), (aN, .inr (4, [.ref aF, .int 0, .int 0, .ref n3, .ref n4, .ref n5, .ref n6, .ref n7, .ref n8, .ref n9])), (n3, .inl (cI, 30, .inl g3)), (n4, .inl (cI, 30, .inl g4)), (n5, .inl (cI, 30, .inl g5)), (n6, .inl (cI, 30, .inl g6))]) [0, 9, 1, 24, 25, 26, 27, 28] (by decide) rfl
          have hFc := va_free (wc := [(a0, .inr (11, [.ref aP, .ref aD, .ref aT, .ref aR, .ref aF, .ref aU, .ref aH, .ref aM, .ref aW, .ref aN])), (aF, .inr (0, [.ref aP, .ref fx, .ref fr, .ref fe, .int 0])), (aP, .inr (5, PF pz su)), (aN, .inr (4, [.ref aF, .int 0, .int 0, .ref n3, .ref n4, .ref n5, .ref n6, .ref n7, .ref n8, .ref n9])), (n3, .inl (cI, 30, .inl g3)), (n4, .inl (cI, 30, .inl g4)), (n5, .inl (cI, 30, .inl g5)), (n6, .inl (cI, 30, .inl g6))]) hD hS hA [0, 9, 1, 24, 25, 26, 27, 28] rfl
          refine va_calli (va_runV (As := [.int (xs (Int32.toNatClampNeg 1)), .int (xs (Int32.toNatClampNeg 2)), .int 0]) (rest := []) ⟨hx, hb, hml, hown, hts⟩ (c_heard l D cI cB cL cZ a0 aP aD aT aR aF aU aH aM aW aN fx fr fe pz su aF n3 n4 n5 n6 n7 n8 n9 g3 g4 g5 g6 (xs (Int32.toNatClampNeg 1)) (xs (Int32.toNatClampNeg 2)) 0 H.size) (cwV 3 hts gL_law_X11_heard rfl rfl rfl (by decide +kernel) ⟨Nat.le_of_ble_eq_true rfl, Nat.le_of_ble_eq_true rfl⟩) ⟨xp_blind, va_recv hK hPc (ci := 11) (q0 := 0) rfl rfl, fun U hU hW => xp_mk hU hW hPc (hK.sub (tys' := [(cI, .int), (cB, .byte), (cL, .long), (cZ, .boolean)]) [0, 1, 2, 3] rfl) hDc xNw_nil⟩ rfl rfl hl.1 rfl (lv_room (Nat.le_of_ble_eq_true rfl)) dL_law_1272 ⟨Nat.le_of_ble_eq_true rfl, Nat.le_of_ble_eq_true rfl⟩) hS (fun q _ h => hFc q h) hFc (fun r_357 u9 t9 H1 locs ht9 hvm9 hr_357 hB9 hz9 hk9 hS => ?_)
          clear hB9 hz9 hPc hDc
          obtain ⟨hP, hD⟩ := va_join (wr := [(su, .inr (1, [.ref s0, .ref s1, .ref s2, .int 0, .int 0, .int 0])), (aD, .inr (5, PF pq sq)), (sq, .inr (1, [.ref z0, .ref z1, .ref z2, .int 0, .int 0, .int 0])), (aT, .inr (8, [.ref tb, .int 0])), (tb, .inl (cB, 1600, .inl fb)), (aR, .inr (6, [.ref rt, .ref aD, .int 0, .int (-1)])), (rt, .inr (9, [.ref aT, .ref to, .int 0, .int 0, .int 0, .long 0, .int 0])), (fx, .inl (cI, 8, .inl fxf)), (fr, .inl (cI, 64, .inl frf)), (aU, .inr (7, [.ref aF, .ref ul, .int 0, .ref uc, .ref ue])), (aM, .inr (3, [.ref aF, .ref mo, .ref ma, .ref mk, .int 0, .int 0, .int 0, .ref mb, .ref mf])), (mo, .inl (cI, 32, .inl fn)), (mk, .inl (cG, 41, .inr (.inr (.inr (.inr kr))))), (r0, .inl (cI, 32, .inl w0)), (r1, .inl (cI, 32, .inl w1)), (mb, .inl (cG, 3, .inr (.inr (.inr (.inr br))))), (b0, .inl (cI, 32, .inl u0)), (b1, .inl (cI, 32, .inl u1)), (b2, .inl (cI, 32, .inl u2)), (mf, .inl (cZ, 3, .inl ff)), (aW, .inr (10, [.ref aM])), (n7, .inl (cI, 8, .inl fo7)), (am, .inr (12, MF ad 0 0 0 (-1) 0 0 0 0 0 0 0 0 0 0 0 0 0 0 0 0 0)), ((ad 11), .inl (cI, 2, .inl fR)), ((ad 12), .inl (cI, 2, .inl fD)), ((ad 13), .inl (cI, 2, .inl fT)), ((ad 14), .inl (cI, 2, .inl fU)), ((ad 15), .inl (cI, 2, .inl fW)), ((ad 26), .inl (cZ, 2, .inl fS)), ((ad 27), .inl (cZ, 2, .inl fX)), ((ad 42), .inl (cI, 32, .inl fA)), ((ad 70), .inl (cZ, 3, .inl fB)), ((ad 0), .inl (cB, 1620, .inl ft)), ((ad 59), .inl (cI, 30, .inl t0)), ((ad 60), .inl (cI, 30, .inl t1)), ((ad 61), .inl (cI, 30, .inl t2)), ((ad 62), .inl (cI, 30, .inl t3)), ((ad 63), .inl (cI, 30, .inl t4)), ((ad 64), .inl (cI, 30, .inl t5)), ((ad 57), .inl (cI, 64, .inl fk)), ((ad 45), .inl (cI, 1312, .inl fw)), ((ad 69), .inl (cI, 96, .inl fbm))]) (w1 := []) hP hD [0, 9, 1, 24, 25, 26, 27, 28] [2, 3, 4, 5, 6, 7, 8, 10, 11, 12, 13, 14, 15, 16, 17, 18, 19, 20, 21, 22, 23, 29, 30, 31, 32, 33, 34, 35, 36, 37, 38, 39, 40, 41, 42, 43, 44, 45, 46, 47, 48, 49] rfl rfl (by decide) (by decide) hk9 hFc (fun k q h => by simp at h) ⟨fun i j p q h => by simp at h, fun k q h => by simp at h⟩
          clear hk9 hFc ht9 hvm9
          generalize H1 = H at hP hS ⊢
          replace hP : va_P D classes [(su, .inr (1, [.ref s0, .ref s1, .ref s2, .int 0, .int 0, .int 0])), (aD, .inr (5, PF pq sq)), (sq, .inr (1, [.ref z0, .ref z1, .ref z2, .int 0, .int 0, .int 0])), (aT, .inr (8, [.ref tb, .int 0])), (tb, .inl (cB, 1600, .inl fb)), (aR, .inr (6, [.ref rt, .ref aD, .int 0, .int (-1)])), (rt, .inr (9, [.ref aT, .ref to, .int 0, .int 0, .int 0, .long 0, .int 0])), (fx, .inl (cI, 8, .inl fxf)), (fr, .inl (cI, 64, .inl frf)), (aU, .inr (7, [.ref aF, .ref ul, .int 0, .ref uc, .ref ue])), (aM, .inr (3, [.ref aF, .ref mo, .ref ma, .ref mk, .int 0, .int 0, .int 0, .ref mb, .ref mf])), (mo, .inl (cI, 32, .inl fn)), (mk, .inl (cG, 41, .inr (.inr (.inr (.inr kr))))), (r0, .inl (cI, 32, .inl w0)), (r1, .inl (cI, 32, .inl w1)), (mb, .inl (cG, 3, .inr (.inr (.inr (.inr br))))), (b0, .inl (cI, 32, .inl u0)), (b1, .inl (cI, 32, .inl u1)), (b2, .inl (cI, 32, .inl u2)), (mf, .inl (cZ, 3, .inl ff)), (aW, .inr (10, [.ref aM])), (n7, .inl (cI, 8, .inl fo7)), (am, .inr (12, MF ad 0 0 0 (-1) 0 0 0 0 0 0 0 0 0 0 0 0 0 0 0 0 0)), ((ad 11), .inl (cI, 2, .inl fR)), ((ad 12), .inl (cI, 2, .inl fD)), ((ad 13), .inl (cI, 2, .inl fT)), ((ad 14), .inl (cI, 2, .inl fU)), ((ad 15), .inl (cI, 2, .inl fW)), ((ad 26), .inl (cZ, 2, .inl fS)), ((ad 27), .inl (cZ, 2, .inl fX)), ((ad 42), .inl (cI, 32, .inl fA)), ((ad 70), .inl (cZ, 3, .inl fB)), ((ad 0), .inl (cB, 1620, .inl ft)), ((ad 59), .inl (cI, 30, .inl t0)), ((ad 60), .inl (cI, 30, .inl t1)), ((ad 61), .inl (cI, 30, .inl t2)), ((ad 62), .inl (cI, 30, .inl t3)), ((ad 63), .inl (cI, 30, .inl t4)), ((ad 64), .inl (cI, 30, .inl t5)), ((ad 57), .inl (cI, 64, .inl fk)), ((ad 45), .inl (cI, 1312, .inl fw)), ((ad 69), .inl (cI, 96, .inl fbm))] H := hP
          replace hD : va_D A [(su, .inr (1, [.ref s0, .ref s1, .ref s2, .int 0, .int 0, .int 0])), (aD, .inr (5, PF pq sq)), (sq, .inr (1, [.ref z0, .ref z1, .ref z2, .int 0, .int 0, .int 0])), (aT, .inr (8, [.ref tb, .int 0])), (tb, .inl (cB, 1600, .inl fb)), (aR, .inr (6, [.ref rt, .ref aD, .int 0, .int (-1)])), (rt, .inr (9, [.ref aT, .ref to, .int 0, .int 0, .int 0, .long 0, .int 0])), (fx, .inl (cI, 8, .inl fxf)), (fr, .inl (cI, 64, .inl frf)), (aU, .inr (7, [.ref aF, .ref ul, .int 0, .ref uc, .ref ue])), (aM, .inr (3, [.ref aF, .ref mo, .ref ma, .ref mk, .int 0, .int 0, .int 0, .ref mb, .ref mf])), (mo, .inl (cI, 32, .inl fn)), (mk, .inl (cG, 41, .inr (.inr (.inr (.inr kr))))), (r0, .inl (cI, 32, .inl w0)), (r1, .inl (cI, 32, .inl w1)), (mb, .inl (cG, 3, .inr (.inr (.inr (.inr br))))), (b0, .inl (cI, 32, .inl u0)), (b1, .inl (cI, 32, .inl u1)), (b2, .inl (cI, 32, .inl u2)), (mf, .inl (cZ, 3, .inl ff)), (aW, .inr (10, [.ref aM])), (n7, .inl (cI, 8, .inl fo7)), (am, .inr (12, MF ad 0 0 0 (-1) 0 0 0 0 0 0 0 0 0 0 0 0 0 0 0 0 0)), ((ad 11), .inl (cI, 2, .inl fR)), ((ad 12), .inl (cI, 2, .inl fD)), ((ad 13), .inl (cI, 2, .inl fT)), ((ad 14), .inl (cI, 2, .inl fU)), ((ad 15), .inl (cI, 2, .inl fW)), ((ad 26), .inl (cZ, 2, .inl fS)), ((ad 27), .inl (cZ, 2, .inl fX)), ((ad 42), .inl (cI, 32, .inl fA)), ((ad 70), .inl (cZ, 3, .inl fB)), ((ad 0), .inl (cB, 1620, .inl ft)), ((ad 59), .inl (cI, 30, .inl t0)), ((ad 60), .inl (cI, 30, .inl t1)), ((ad 61), .inl (cI, 30, .inl t2)), ((ad 62), .inl (cI, 30, .inl t3)), ((ad 63), .inl (cI, 30, .inl t4)), ((ad 64), .inl (cI, 30, .inl t5)), ((ad 57), .inl (cI, 64, .inl fk)), ((ad 45), .inl (cI, 1312, .inl fw)), ((ad 69), .inl (cI, 96, .inl fbm))] := hD
          subst hr_357
          refine lv_aload_n hx hb dL_law_1275 rfl (lv_at hl 1 rfl) ?_
          refine lv_aload_n hx hb dL_law_1276 rfl (lv_at hl 3 rfl) ?_
          refine lv_iload_n hx hb dL_law_1277 rfl (lv_at hl 0 rfl) ?_
          refine lv_iconst (v := 1) hx hb dL_law_1278 (by decide) ?_
          refine lv_iadd hx hb dL_law_1279 ?_
          refine lv_topi (fun y_358 ey_358 => ?_)
          obtain rfl : y_358 = 1 := ey_358.trans (by decide)
          refine va_sld hx hb hX hbl hbA hS (show vp_in 1 6 from (by decide : ¬ ((1 : Int32) < 0 ∨ 6 ≤ Int32.toNatClampNeg 1))) dL_law_1280 ?_
          refine lv_aload_n hx hb dL_law_1281 rfl (lv_at hl 3 rfl) ?_
          refine lv_iload_n hx hb dL_law_1282 rfl (lv_at hl 0 rfl) ?_
          refine lv_iconst (v := 2) hx hb dL_law_1283 (by decide) ?_
          refine lv_iadd hx hb dL_law_1284 ?_
          refine lv_topi (fun y_359 ey_359 => ?_)
          obtain rfl : y_359 = 2 := ey_359.trans (by decide)
          refine va_sld hx hb hX hbl hbA hS (show vp_in 2 6 from (by decide : ¬ ((2 : Int32) < 0 ∨ 6 ≤ Int32.toNatClampNeg 2))) dL_law_1285 ?_
          refine lv_aload_n hx hb dL_law_1286 rfl (lv_at hl 3 rfl) ?_
          refine lv_iload_n hx hb dL_law_1287 rfl (lv_at hl 0 rfl) ?_
          refine lv_iconst (v := 3) hx hb dL_law_1288 (by decide) ?_
          refine lv_iadd hx hb dL_law_1289 ?_
          refine lv_topi (fun y_360 ey_360 => ?_)
          obtain rfl : y_360 = 3 := ey_360.trans (by decide)
          refine va_sld hx hb hX hbl hbA hS (show vp_in 3 6 from (by decide : ¬ ((3 : Int32) < 0 ∨ 6 ≤ Int32.toNatClampNeg 3))) dL_law_1290 ?_
          refine lv_if_eq (tgt := 1298) hx hb dL_law_1291 (by decide) (fun c_361 => ?_) (fun c_361 => ?_)
          · refine lv_iconst (v := 0) hx hb dL_law_1298 (by decide) ?_
            have hPc := hP.sub (ws' := [(am, .inr (12, MF ad 0 0 0 (-1) 0 0 0 0 0 0 0 0 0 0 0 0 0 0 0 0 0)), ((ad 59), .inl (cI, 30, .inl t0)), ((ad 60), .inl (cI, 30, .inl t1)), ((ad 61), .inl (cI, 30, .inl t2)), ((ad 62), .inl (cI, 30, .inl t3)), ((ad 63), .inl (cI, 30, .inl t4)), ((ad 64), .inl (cI, 30, .inl t5))]) [22, 33, 34, 35, 36, 37, 38] rfl
            have hDc := hD.sub (ws' := [(am, .inr (12, MF ad 0 0 0 (-1) 0 0 0 0 0 0 0 0 0 0 0 0 0 0 0 0 0)), ((ad 59), .inl (cI, 30, .inl t0)), ((ad 60), .inl (cI, 30, .inl t1)), ((ad 61), .inl (cI, 30, .inl t2)), ((ad 62), .inl (cI, 30, .inl t3)), ((ad 63), .inl (cI, 30, .inl t4)), ((ad 64), .inl (cI, 30, .inl t5))]) [22, 33, 34, 35, 36, 37, 38] (by decide) rfl
            have hFc := va_free (wc := [(am, .inr (12, MF ad 0 0 0 (-1) 0 0 0 0 0 0 0 0 0 0 0 0 0 0 0 0 0)), ((ad 59), .inl (cI, 30, .inl t0)), ((ad 60), .inl (cI, 30, .inl t1)), ((ad 61), .inl (cI, 30, .inl t2)), ((ad 62), .inl (cI, 30, .inl t3)), ((ad 63), .inl (cI, 30, .inl t4)), ((ad 64), .inl (cI, 30, .inl t5))]) hD hS hA [22, 33, 34, 35, 36, 37, 38] rfl
            refine va_calli (va_runV (As := [.int (xs (Int32.toNatClampNeg 1)), .int (xs (Int32.toNatClampNeg 2)), .int 0]) (rest := [.int (sp_heard xs (Int32.toNatClampNeg 1) xs (Int32.toNatClampNeg 2))]) ⟨hx, hb, hml, hown, hts⟩ (m_heard l D cI cB cL cZ am ad 0 0 0 0 0 0 0 0 0 0 0 0 t0 t1 t2 t3 t4 t5 (xs (Int32.toNatClampNeg 1)) (xs (Int32.toNatClampNeg 2)) 0 H.size) (cwV 3 hts gL_law_X12_heard rfl rfl rfl (by decide +kernel) ⟨Nat.le_of_ble_eq_true rfl, Nat.le_of_ble_eq_true rfl⟩) ⟨xp_blind, va_recv hK hPc (ci := 12) (q0 := 0) rfl rfl, fun U hU hW => xp_mk hU hW hPc (hK.sub (tys' := [(cI, .int), (cB, .byte), (cL, .long), (cZ, .boolean)]) [0, 1, 2, 3] rfl) hDc xNw_nil⟩ rfl rfl hl.1 rfl (lv_room (Nat.le_of_ble_eq_true rfl)) dL_law_1299 ⟨Nat.le_of_ble_eq_true rfl, Nat.le_of_ble_eq_true rfl⟩) hS (fun q _ h => hFc q h) hFc (fun r_362 u9 t9 H1 locs ht9 hvm9 hr_362 hB9 hz9 hk9 hS => ?_)
            clear hB9 hz9 hPc hDc
            obtain ⟨hP, hD⟩ := va_join (wr := [(su, .inr (1, [.ref s0, .ref s1, .ref s2, .int 0, .int 0, .int 0])), (aD, .inr (5, PF pq sq)), (sq, .inr (1, [.ref z0, .ref z1, .ref z2, .int 0, .int 0, .int 0])), (aT, .inr (8, [.ref tb, .int 0])), (tb, .inl (cB, 1600, .inl fb)), (aR, .inr (6, [.ref rt, .ref aD, .int 0, .int (-1)])), (rt, .inr (9, [.ref aT, .ref to, .int 0, .int 0, .int 0, .long 0, .int 0])), (fx, .inl (cI, 8, .inl fxf)), (fr, .inl (cI, 64, .inl frf)), (aU, .inr (7, [.ref aF, .ref ul, .int 0, .ref uc, .ref ue])), (aM, .inr (3, [.ref aF, .ref mo, .ref ma, .ref mk, .int 0, .int 0, .int 0, .ref mb, .ref mf])), (mo, .inl (cI, 32, .inl fn)), (mk, .inl (cG, 41, .inr (.inr (.inr (.inr kr))))), (r0, .inl (cI, 32, .inl w0)), (r1, .inl (cI, 32, .inl w1)), (mb, .inl (cG, 3, .inr (.inr (.inr (.inr br))))), (b0, .inl (cI, 32, .inl u0)), (b1, .inl (cI, 32, .inl u1)), (b2, .inl (cI, 32, .inl u2)), (mf, .inl (cZ, 3, .inl ff)), (aW, .inr (10, [.ref aM])), (n7, .inl (cI, 8, .inl fo7)), ((ad 11), .inl (cI, 2, .inl fR)), ((ad 12), .inl (cI, 2, .inl fD)), ((ad 13), .inl (cI, 2, .inl fT)), ((ad 14), .inl (cI, 2, .inl fU)), ((ad 15), .inl (cI, 2, .inl fW)), ((ad 26), .inl (cZ, 2, .inl fS)), ((ad 27), .inl (cZ, 2, .inl fX)), ((ad 42), .inl (cI, 32, .inl fA)), ((ad 70), .inl (cZ, 3, .inl fB)), ((ad 0), .inl (cB, 1620, .inl ft)), ((ad 57), .inl (cI, 64, .inl fk)), ((ad 45), .inl (cI, 1312, .inl fw)), ((ad 69), .inl (cI, 96, .inl fbm))]) (w1 := []) hP hD [22, 33, 34, 35, 36, 37, 38] [0, 1, 2, 3, 4, 5, 6, 7, 8, 9, 10, 11, 12, 13, 14, 15, 16, 17, 18, 19, 20, 21, 23, 24, 25, 26, 27, 28, 29, 30, 31, 32, 39, 40, 41] rfl rfl (by decide) (by decide) hk9 hFc (fun k q h => by simp at h) ⟨fun i j p q h => by simp at h, fun k q h => by simp at h⟩
            clear hk9 hFc ht9 hvm9
            generalize H1 = H at hP hS ⊢
            replace hP : va_P D classes [(su, .inr (1, [.ref s0, .ref s1, .ref s2, .int 0, .int 0, .int 0])), (aD, .inr (5, PF pq sq)), (sq, .inr (1, [.ref z0, .ref z1, .ref z2, .int 0, .int 0, .int 0])), (aT, .inr (8, [.ref tb, .int 0])), (tb, .inl (cB, 1600, .inl fb)), (aR, .inr (6, [.ref rt, .ref aD, .int 0, .int (-1)])), (rt, .inr (9, [.ref aT, .ref to, .int 0, .int 0, .int 0, .long 0, .int 0])), (fx, .inl (cI, 8, .inl fxf)), (fr, .inl (cI, 64, .inl frf)), (aU, .inr (7, [.ref aF, .ref ul, .int 0, .ref uc, .ref ue])), (aM, .inr (3, [.ref aF, .ref mo, .ref ma, .ref mk, .int 0, .int 0, .int 0, .ref mb, .ref mf])), (mo, .inl (cI, 32, .inl fn)), (mk, .inl (cG, 41, .inr (.inr (.inr (.inr kr))))), (r0, .inl (cI, 32, .inl w0)), (r1, .inl (cI, 32, .inl w1)), (mb, .inl (cG, 3, .inr (.inr (.inr (.inr br))))), (b0, .inl (cI, 32, .inl u0)), (b1, .inl (cI, 32, .inl u1)), (b2, .inl (cI, 32, .inl u2)), (mf, .inl (cZ, 3, .inl ff)), (aW, .inr (10, [.ref aM])), (n7, .inl (cI, 8, .inl fo7)), ((ad 11), .inl (cI, 2, .inl fR)), ((ad 12), .inl (cI, 2, .inl fD)), ((ad 13), .inl (cI, 2, .inl fT)), ((ad 14), .inl (cI, 2, .inl fU)), ((ad 15), .inl (cI, 2, .inl fW)), ((ad 26), .inl (cZ, 2, .inl fS)), ((ad 27), .inl (cZ, 2, .inl fX)), ((ad 42), .inl (cI, 32, .inl fA)), ((ad 70), .inl (cZ, 3, .inl fB)), ((ad 0), .inl (cB, 1620, .inl ft)), ((ad 57), .inl (cI, 64, .inl fk)), ((ad 45), .inl (cI, 1312, .inl fw)), ((ad 69), .inl (cI, 96, .inl fbm))] H := hP
            replace hD : va_D A [(su, .inr (1, [.ref s0, .ref s1, .ref s2, .int 0, .int 0, .int 0])), (aD, .inr (5, PF pq sq)), (sq, .inr (1, [.ref z0, .ref z1, .ref z2, .int 0, .int 0, .int 0])), (aT, .inr (8, [.ref tb, .int 0])), (tb, .inl (cB, 1600, .inl fb)), (aR, .inr (6, [.ref rt, .ref aD, .int 0, .int (-1)])), (rt, .inr (9, [.ref aT, .ref to, .int 0, .int 0, .int 0, .long 0, .int 0])), (fx, .inl (cI, 8, .inl fxf)), (fr, .inl (cI, 64, .inl frf)), (aU, .inr (7, [.ref aF, .ref ul, .int 0, .ref uc, .ref ue])), (aM, .inr (3, [.ref aF, .ref mo, .ref ma, .ref mk, .int 0, .int 0, .int 0, .ref mb, .ref mf])), (mo, .inl (cI, 32, .inl fn)), (mk, .inl (cG, 41, .inr (.inr (.inr (.inr kr))))), (r0, .inl (cI, 32, .inl w0)), (r1, .inl (cI, 32, .inl w1)), (mb, .inl (cG, 3, .inr (.inr (.inr (.inr br))))), (b0, .inl (cI, 32, .inl u0)), (b1, .inl (cI, 32, .inl u1)), (b2, .inl (cI, 32, .inl u2)), (mf, .inl (cZ, 3, .inl ff)), (aW, .inr (10, [.ref aM])), (n7, .inl (cI, 8, .inl fo7)), ((ad 11), .inl (cI, 2, .inl fR)), ((ad 12), .inl (cI, 2, .inl fD)), ((ad 13), .inl (cI, 2, .inl fT)), ((ad 14), .inl (cI, 2, .inl fU)), ((ad 15), .inl (cI, 2, .inl fW)), ((ad 26), .inl (cZ, 2, .inl fS)), ((ad 27), .inl (cZ, 2, .inl fX)), ((ad 42), .inl (cI, 32, .inl fA)), ((ad 70), .inl (cZ, 3, .inl fB)), ((ad 0), .inl (cB, 1620, .inl ft)), ((ad 57), .inl (cI, 64, .inl fk)), ((ad 45), .inl (cI, 1312, .inl fw)), ((ad 69), .inl (cI, 96, .inl fbm))] := hD
            subst hr_362
            refine lv_icmp_eq (tgt := 1570) hx hb dL_law_1302 (by decide) (fun _ => ?_) (fun c9 => absurd rfl c9)
            refine lv_iinc (v := 6) (lv' := [(3, .int 6), (2, .ref am), (1, .ref a0), (0, .ref b)]) hx hb dL_law_1570 hl (k := 0) rfl (by decide) (by decide) rfl (fun ls hl => ?_)
            refine lv_goto (tgt := 18) hx hb dL_law_1573 (by decide) ?_
            refine lv_iload_n hx hb dL_law_18 rfl (lv_at hl 0 rfl) ?_
            refine lv_aload_n hx hb dL_law_19 rfl (lv_at hl 3 rfl) ?_
            refine va_slen hx hb hX hbl hbA hS dL_law_20 ?_
            refine lv_topi (fun y_363 ey_363 => ?_)
            obtain rfl : y_363 = 6 := ey_363.trans (by decide)
            refine lv_bipush (v := 6) hx hb dL_law_21 (by decide) ?_
            refine lv_isub hx hb dL_law_23 ?_
            refine lv_topi (fun y_364 ey_364 => ?_)
            obtain rfl : y_364 = 0 := ey_364.trans (by decide)
            refine lv_icmp_gt (tgt := 1576) hx hb dL_law_24 (by decide) (fun _ => ?_) (fun c_365 => absurd (by decide) c_365)
            refine lv_iconst (v := 1) hx hb dL_law_1576 (by decide) ?_
            refine va_forget (fun q hq => by have h := hS.2.2 q hq; rw [hAe] at h; exact h) ?_
            refine W.widen (k := 600000) (n := 7302250) (Nat.le_of_ble_eq_true rfl) (Nat.le_of_ble_eq_true rfl) ?_
            exact lw_ret hx hb hr hlocks dL_law_1577
          · refine lv_iconst (v := 1) hx hb dL_law_1294 (by decide) ?_
            refine lv_goto (tgt := 1299) hx hb dL_law_1295 (by decide) ?_
            have hPc := hP.sub (ws' := [(am, .inr (12, MF ad 0 0 0 (-1) 0 0 0 0 0 0 0 0 0 0 0 0 0 0 0 0 0)), ((ad 59), .inl (cI, 30, .inl t0)), ((ad 60), .inl (cI, 30, .inl t1)), ((ad 61), .inl (cI, 30, .inl t2)), ((ad 62), .inl (cI, 30, .inl t3)), ((ad 63), .inl (cI, 30, .inl t4)), ((ad 64), .inl (cI, 30, .inl t5))]) [22, 33, 34, 35, 36, 37, 38] rfl
            have hDc := hD.sub (ws' := [(am, .inr (12, MF ad 0 0 0 (-1) 0 0 0 0 0 0 0 0 0 0 0 0 0 0 0 0 0)), ((ad 59), .inl (cI, 30, .inl t0)), ((ad 60), .inl (cI, 30, .inl t1)), ((ad 61), .inl (cI, 30, .inl t2)), ((ad 62), .inl (cI, 30, .inl t3)), ((ad 63), .inl (cI, 30, .inl t4)), ((ad 64), .inl (cI, 30, .inl t5))]) [22, 33, 34, 35, 36, 37, 38] (by decide) rfl
            have hFc := va_free (wc := [(am, .inr (12, MF ad 0 0 0 (-1) 0 0 0 0 0 0 0 0 0 0 0 0 0 0 0 0 0)), ((ad 59), .inl (cI, 30, .inl t0)), ((ad 60), .inl (cI, 30, .inl t1)), ((ad 61), .inl (cI, 30, .inl t2)), ((ad 62), .inl (cI, 30, .inl t3)), ((ad 63), .inl (cI, 30, .inl t4)), ((ad 64), .inl (cI, 30, .inl t5))]) hD hS hA [22, 33, 34, 35, 36, 37, 38] rfl
            refine va_calli (va_runV (As := [.int (xs (Int32.toNatClampNeg 1)), .int (xs (Int32.toNatClampNeg 2)), .int 1]) (rest := [.int (sp_heard xs (Int32.toNatClampNeg 1) xs (Int32.toNatClampNeg 2))]) ⟨hx, hb, hml, hown, hts⟩ (m_heard l D cI cB cL cZ am ad 0 0 0 0 0 0 0 0 0 0 0 0 t0 t1 t2 t3 t4 t5 (xs (Int32.toNatClampNeg 1)) (xs (Int32.toNatClampNeg 2)) 1 H.size) (cwV 3 hts gL_law_X12_heard rfl rfl rfl (by decide +kernel) ⟨Nat.le_of_ble_eq_true rfl, Nat.le_of_ble_eq_true rfl⟩) ⟨xp_blind, va_recv hK hPc (ci := 12) (q0 := 0) rfl rfl, fun U hU hW => xp_mk hU hW hPc (hK.sub (tys' := [(cI, .int), (cB, .byte), (cL, .long), (cZ, .boolean)]) [0, 1, 2, 3] rfl) hDc xNw_nil⟩ rfl rfl hl.1 rfl (lv_room (Nat.le_of_ble_eq_true rfl)) dL_law_1299 ⟨Nat.le_of_ble_eq_true rfl, Nat.le_of_ble_eq_true rfl⟩) hS (fun q _ h => hFc q h) hFc (fun r_366 u9 t9 H1 locs ht9 hvm9 hr_366 hB9 hz9 hk9 hS => ?_)
            clear hB9 hz9 hPc hDc
            obtain ⟨hP, hD⟩ := va_join (wr := [(su, .inr (1, [.ref s0, .ref s1, .ref s2, .int 0, .int 0, .int 0])), (aD, .inr (5, PF pq sq)), (sq, .inr (1, [.ref z0, .ref z1, .ref z2, .int 0, .int 0, .int 0])), (aT, .inr (8, [.ref tb, .int 0])), (tb, .inl (cB, 1600, .inl fb)), (aR, .inr (6, [.ref rt, .ref aD, .int 0, .int (-1)])), (rt, .inr (9, [.ref aT, .ref to, .int 0, .int 0, .int 0, .long 0, .int 0])), (fx, .inl (cI, 8, .inl fxf)), (fr, .inl (cI, 64, .inl frf)), (aU, .inr (7, [.ref aF, .ref ul, .int 0, .ref uc, .ref ue])), (aM, .inr (3, [.ref aF, .ref mo, .ref ma, .ref mk, .int 0, .int 0, .int 0, .ref mb, .ref mf])), (mo, .inl (cI, 32, .inl fn)), (mk, .inl (cG, 41, .inr (.inr (.inr (.inr kr))))), (r0, .inl (cI, 32, .inl w0)), (r1, .inl (cI, 32, .inl w1)), (mb, .inl (cG, 3, .inr (.inr (.inr (.inr br))))), (b0, .inl (cI, 32, .inl u0)), (b1, .inl (cI, 32, .inl u1)), (b2, .inl (cI, 32, .inl u2)), (mf, .inl (cZ, 3, .inl ff)), (aW, .inr (10, [.ref aM])), (n7, .inl (cI, 8, .inl fo7)), ((ad 11), .inl (cI, 2, .inl fR)), ((ad 12), .inl (cI, 2, .inl fD)), ((ad 13), .inl (cI, 2, .inl fT)), ((ad 14), .inl (cI, 2, .inl fU)), ((ad 15), .inl (cI, 2, .inl fW)), ((ad 26), .inl (cZ, 2, .inl fS)), ((ad 27), .inl (cZ, 2, .inl fX)), ((ad 42), .inl (cI, 32, .inl fA)), ((ad 70), .inl (cZ, 3, .inl fB)), ((ad 0), .inl (cB, 1620, .inl ft)), ((ad 57), .inl (cI, 64, .inl fk)), ((ad 45), .inl (cI, 1312, .inl fw)), ((ad 69), .inl (cI, 96, .inl fbm))]) (w1 := []) hP hD [22, 33, 34, 35, 36, 37, 38] [0, 1, 2, 3, 4, 5, 6, 7, 8, 9, 10, 11, 12, 13, 14, 15, 16, 17, 18, 19, 20, 21, 23, 24, 25, 26, 27, 28, 29, 30, 31, 32, 39, 40, 41] rfl rfl (by decide) (by decide) hk9 hFc (fun k q h => by simp at h) ⟨fun i j p q h => by simp at h, fun k q h => by simp at h⟩
            clear hk9 hFc ht9 hvm9
            generalize H1 = H at hP hS ⊢
            replace hP : va_P D classes [(su, .inr (1, [.ref s0, .ref s1, .ref s2, .int 0, .int 0, .int 0])), (aD, .inr (5, PF pq sq)), (sq, .inr (1, [.ref z0, .ref z1, .ref z2, .int 0, .int 0, .int 0])), (aT, .inr (8, [.ref tb, .int 0])), (tb, .inl (cB, 1600, .inl fb)), (aR, .inr (6, [.ref rt, .ref aD, .int 0, .int (-1)])), (rt, .inr (9, [.ref aT, .ref to, .int 0, .int 0, .int 0, .long 0, .int 0])), (fx, .inl (cI, 8, .inl fxf)), (fr, .inl (cI, 64, .inl frf)), (aU, .inr (7, [.ref aF, .ref ul, .int 0, .ref uc, .ref ue])), (aM, .inr (3, [.ref aF, .ref mo, .ref ma, .ref mk, .int 0, .int 0, .int 0, .ref mb, .ref mf])), (mo, .inl (cI, 32, .inl fn)), (mk, .inl (cG, 41, .inr (.inr (.inr (.inr kr))))), (r0, .inl (cI, 32, .inl w0)), (r1, .inl (cI, 32, .inl w1)), (mb, .inl (cG, 3, .inr (.inr (.inr (.inr br))))), (b0, .inl (cI, 32, .inl u0)), (b1, .inl (cI, 32, .inl u1)), (b2, .inl (cI, 32, .inl u2)), (mf, .inl (cZ, 3, .inl ff)), (aW, .inr (10, [.ref aM])), (n7, .inl (cI, 8, .inl fo7)), ((ad 11), .inl (cI, 2, .inl fR)), ((ad 12), .inl (cI, 2, .inl fD)), ((ad 13), .inl (cI, 2, .inl fT)), ((ad 14), .inl (cI, 2, .inl fU)), ((ad 15), .inl (cI, 2, .inl fW)), ((ad 26), .inl (cZ, 2, .inl fS)), ((ad 27), .inl (cZ, 2, .inl fX)), ((ad 42), .inl (cI, 32, .inl fA)), ((ad 70), .inl (cZ, 3, .inl fB)), ((ad 0), .inl (cB, 1620, .inl ft)), ((ad 57), .inl (cI, 64, .inl fk)), ((ad 45), .inl (cI, 1312, .inl fw)), ((ad 69), .inl (cI, 96, .inl fbm))] H := hP
            replace hD : va_D A [(su, .inr (1, [.ref s0, .ref s1, .ref s2, .int 0, .int 0, .int 0])), (aD, .inr (5, PF pq sq)), (sq, .inr (1, [.ref z0, .ref z1, .ref z2, .int 0, .int 0, .int 0])), (aT, .inr (8, [.ref tb, .int 0])), (tb, .inl (cB, 1600, .inl fb)), (aR, .inr (6, [.ref rt, .ref aD, .int 0, .int (-1)])), (rt, .inr (9, [.ref aT, .ref to, .int 0, .int 0, .int 0, .long 0, .int 0])), (fx, .inl (cI, 8, .inl fxf)), (fr, .inl (cI, 64, .inl frf)), (aU, .inr (7, [.ref aF, .ref ul, .int 0, .ref uc, .ref ue])), (aM, .inr (3, [.ref aF, .ref mo, .ref ma, .ref mk, .int 0, .int 0, .int 0, .ref mb, .ref mf])), (mo, .inl (cI, 32, .inl fn)), (mk, .inl (cG, 41, .inr (.inr (.inr (.inr kr))))), (r0, .inl (cI, 32, .inl w0)), (r1, .inl (cI, 32, .inl w1)), (mb, .inl (cG, 3, .inr (.inr (.inr (.inr br))))), (b0, .inl (cI, 32, .inl u0)), (b1, .inl (cI, 32, .inl u1)), (b2, .inl (cI, 32, .inl u2)), (mf, .inl (cZ, 3, .inl ff)), (aW, .inr (10, [.ref aM])), (n7, .inl (cI, 8, .inl fo7)), ((ad 11), .inl (cI, 2, .inl fR)), ((ad 12), .inl (cI, 2, .inl fD)), ((ad 13), .inl (cI, 2, .inl fT)), ((ad 14), .inl (cI, 2, .inl fU)), ((ad 15), .inl (cI, 2, .inl fW)), ((ad 26), .inl (cZ, 2, .inl fS)), ((ad 27), .inl (cZ, 2, .inl fX)), ((ad 42), .inl (cI, 32, .inl fA)), ((ad 70), .inl (cZ, 3, .inl fB)), ((ad 0), .inl (cB, 1620, .inl ft)), ((ad 57), .inl (cI, 64, .inl fk)), ((ad 45), .inl (cI, 1312, .inl fw)), ((ad 69), .inl (cI, 96, .inl fbm))] := hD
            subst hr_366
            refine lv_icmp_eq (tgt := 1570) hx hb dL_law_1302 (by decide) (fun _ => ?_) (fun c9 => absurd rfl c9)
            refine lv_iinc (v := 6) (lv' := [(3, .int 6), (2, .ref am), (1, .ref a0), (0, .ref b)]) hx hb dL_law_1570 hl (k := 0) rfl (by decide) (by decide) rfl (fun ls hl => ?_)
            refine lv_goto (tgt := 18) hx hb dL_law_1573 (by decide) ?_
            refine lv_iload_n hx hb dL_law_18 rfl (lv_at hl 0 rfl) ?_
            refine lv_aload_n hx hb dL_law_19 rfl (lv_at hl 3 rfl) ?_
            refine va_slen hx hb hX hbl hbA hS dL_law_20 ?_
            refine lv_topi (fun y_367 ey_367 => ?_)
            obtain rfl : y_367 = 6 := ey_367.trans (by decide)
            refine lv_bipush (v := 6) hx hb dL_law_21 (by decide) ?_
            refine lv_isub hx hb dL_law_23 ?_
            refine lv_topi (fun y_368 ey_368 => ?_)
            obtain rfl : y_368 = 0 := ey_368.trans (by decide)
            refine lv_icmp_gt (tgt := 1576) hx hb dL_law_24 (by decide) (fun _ => ?_) (fun c_369 => absurd (by decide) c_369)
            refine lv_iconst (v := 1) hx hb dL_law_1576 (by decide) ?_
            refine va_forget (fun q hq => by have h := hS.2.2 q hq; rw [hAe] at h; exact h) ?_
            refine W.widen (k := 600000) (n := 7302250) (Nat.le_of_ble_eq_true rfl) (Nat.le_of_ble_eq_true rfl) ?_
            exact lw_ret hx hb hr hlocks dL_law_1577
        · refine lv_iconst (v := 1) hx hb dL_law_1267 (by decide) ?_
          refine lv_goto (tgt := 1272) hx hb dL_law_1268 (by decide) ?_
          have hPc := hP.sub (ws' := [(a0, .inr (11, [.ref aP, .ref aD, .ref aT, .ref aR, .ref aF, .ref aU, .ref aH, .ref aM, .ref aW, .ref aN])), (aF, .inr (0, [.ref aP, .ref fx, .ref fr, .ref fe, .int 0])), (aP, .inr (5, PF pz su)), (aN, .inr (4, [.ref aF, .int 0, .int 0, .ref n3, .ref n4, .ref n5, .ref n6, .ref n7, .ref n8, .ref n9])), (n3, .inl (cI, 30, .inl g3)), (n4, .inl (cI, 30, .inl g4)), (n5, .inl (cI, 30, .inl g5)), (n6, .inl (cI, 30, .inl g6))]) [0, 9, 1, 24, 25, 26, 27, 28] rfl
          have hDc := hD.sub (ws' := [(a0, .inr (11, [.ref aP, .ref aD, .ref aT, .ref aR, .ref aF, .ref aU, .ref aH, .ref aM, .ref aW, .ref aN])), (aF, .inr (0, [.ref aP, .ref fx, .ref fr, .ref fe, .int 0])), (aP, .inr (5, PF pz su)), (aN, .inr (4, [.ref aF, .int 0, .int 0, .ref n3, .ref n4, .ref n5, .ref n6, .ref n7, .ref n8, .ref n9])), (n3, .inl (cI, 30, .inl g3)), (n4, .inl (cI, 30, .inl g4)), (n5, .inl (cI, 30, .inl g5)), (n6, .inl (cI, 30, .inl g6))]) [0, 9, 1, 24, 25, 26, 27, 28] (by decide) rfl
          have hFc := va_free (wc := [(a0, .inr (11, [.ref aP, .ref aD, .ref aT, .ref aR, .ref aF, .ref aU, .ref aH, .ref aM, .ref aW, .ref aN])), (aF, .inr (0, [.ref aP, .ref fx, .ref fr, .ref fe, .int 0])), (aP, .inr (5, PF pz su)), (aN, .inr (4, [.ref aF, .int 0, .int 0, .ref n3, .ref n4, .ref n5, .ref n6, .ref n7, .ref n8, .ref n9])), (n3, .inl (cI, 30, .inl g3)), (n4, .inl (cI, 30, .inl g4)), (n5, .inl (cI, 30, .inl g5)), (n6, .inl (cI, 30, .inl g6))]) hD hS hA [0, 9, 1, 24, 25, 26, 27, 28] rfl
          refine va_calli (va_runV (As := [.int (xs (Int32.toNatClampNeg 1)), .int (xs (Int32.toNatClampNeg 2)), .int 1]) (rest := []) ⟨hx, hb, hml, hown, hts⟩ (c_heard l D cI cB cL cZ a0 aP aD aT aR aF aU aH aM aW aN fx fr fe pz su aF n3 n4 n5 n6 n7 n8 n9 g3 g4 g5 g6 (xs (Int32.toNatClampNeg 1)) (xs (Int32.toNatClampNeg 2)) 1 H.size) (cwV 3 hts gL_law_X11_heard rfl rfl rfl (by decide +kernel) ⟨Nat.le_of_ble_eq_true rfl, Nat.le_of_ble_eq_true rfl⟩) ⟨xp_blind, va_recv hK hPc (ci := 11) (q0 := 0) rfl rfl, fun U hU hW => xp_mk hU hW hPc (hK.sub (tys' := [(cI, .int), (cB, .byte), (cL, .long), (cZ, .boolean)]) [0, 1, 2, 3] rfl) hDc xNw_nil⟩ rfl rfl hl.1 rfl (lv_room (Nat.le_of_ble_eq_true rfl)) dL_law_1272 ⟨Nat.le_of_ble_eq_true rfl, Nat.le_of_ble_eq_true rfl⟩) hS (fun q _ h => hFc q h) hFc (fun r_370 u9 t9 H1 locs ht9 hvm9 hr_370 hB9 hz9 hk9 hS => ?_)
          clear hB9 hz9 hPc hDc
          obtain ⟨hP, hD⟩ := va_join (wr := [(su, .inr (1, [.ref s0, .ref s1, .ref s2, .int 0, .int 0, .int 0])), (aD, .inr (5, PF pq sq)), (sq, .inr (1, [.ref z0, .ref z1, .ref z2, .int 0, .int 0, .int 0])), (aT, .inr (8, [.ref tb, .int 0])), (tb, .inl (cB, 1600, .inl fb)), (aR, .inr (6, [.ref rt, .ref aD, .int 0, .int (-1)])), (rt, .inr (9, [.ref aT, .ref to, .int 0, .int 0, .int 0, .long 0, .int 0])), (fx, .inl (cI, 8, .inl fxf)), (fr, .inl (cI, 64, .inl frf)), (aU, .inr (7, [.ref aF, .ref ul, .int 0, .ref uc, .ref ue])), (aM, .inr (3, [.ref aF, .ref mo, .ref ma, .ref mk, .int 0, .int 0, .int 0, .ref mb, .ref mf])), (mo, .inl (cI, 32, .inl fn)), (mk, .inl (cG, 41, .inr (.inr (.inr (.inr kr))))), (r0, .inl (cI, 32, .inl w0)), (r1, .inl (cI, 32, .inl w1)), (mb, .inl (cG, 3, .inr (.inr (.inr (.inr br))))), (b0, .inl (cI, 32, .inl u0)), (b1, .inl (cI, 32, .inl u1)), (b2, .inl (cI, 32, .inl u2)), (mf, .inl (cZ, 3, .inl ff)), (aW, .inr (10, [.ref aM])), (n7, .inl (cI, 8, .inl fo7)), (am, .inr (12, MF ad 0 0 0 (-1) 0 0 0 0 0 0 0 0 0 0 0 0 0 0 0 0 0)), ((ad 11), .inl (cI, 2, .inl fR)), ((ad 12), .inl (cI, 2, .inl fD)), ((ad 13), .inl (cI, 2, .inl fT)), ((ad 14), .inl (cI, 2, .inl fU)), ((ad 15), .inl (cI, 2, .inl fW)), ((ad 26), .inl (cZ, 2, .inl fS)), ((ad 27), .inl (cZ, 2, .inl fX)), ((ad 42), .inl (cI, 32, .inl fA)), ((ad 70), .inl (cZ, 3, .inl fB)), ((ad 0), .inl (cB, 1620, .inl ft)), ((ad 59), .inl (cI, 30, .inl t0)), ((ad 60), .inl (cI, 30, .inl t1)), ((ad 61), .inl (cI, 30, .inl t2)), ((ad 62), .inl (cI, 30, .inl t3)), ((ad 63), .inl (cI, 30, .inl t4)), ((ad 64), .inl (cI, 30, .inl t5)), ((ad 57), .inl (cI, 64, .inl fk)), ((ad 45), .inl (cI, 1312, .inl fw)), ((ad 69), .inl (cI, 96, .inl fbm))]) (w1 := []) hP hD [0, 9, 1, 24, 25, 26, 27, 28] [2, 3, 4, 5, 6, 7, 8, 10, 11, 12, 13, 14, 15, 16, 17, 18, 19, 20, 21, 22, 23, 29, 30, 31, 32, 33, 34, 35, 36, 37, 38, 39, 40, 41, 42, 43, 44, 45, 46, 47, 48, 49] rfl rfl (by decide) (by decide) hk9 hFc (fun k q h => by simp at h) ⟨fun i j p q h => by simp at h, fun k q h => by simp at h⟩
          clear hk9 hFc ht9 hvm9
          generalize H1 = H at hP hS ⊢
          replace hP : va_P D classes [(su, .inr (1, [.ref s0, .ref s1, .ref s2, .int 0, .int 0, .int 0])), (aD, .inr (5, PF pq sq)), (sq, .inr (1, [.ref z0, .ref z1, .ref z2, .int 0, .int 0, .int 0])), (aT, .inr (8, [.ref tb, .int 0])), (tb, .inl (cB, 1600, .inl fb)), (aR, .inr (6, [.ref rt, .ref aD, .int 0, .int (-1)])), (rt, .inr (9, [.ref aT, .ref to, .int 0, .int 0, .int 0, .long 0, .int 0])), (fx, .inl (cI, 8, .inl fxf)), (fr, .inl (cI, 64, .inl frf)), (aU, .inr (7, [.ref aF, .ref ul, .int 0, .ref uc, .ref ue])), (aM, .inr (3, [.ref aF, .ref mo, .ref ma, .ref mk, .int 0, .int 0, .int 0, .ref mb, .ref mf])), (mo, .inl (cI, 32, .inl fn)), (mk, .inl (cG, 41, .inr (.inr (.inr (.inr kr))))), (r0, .inl (cI, 32, .inl w0)), (r1, .inl (cI, 32, .inl w1)), (mb, .inl (cG, 3, .inr (.inr (.inr (.inr br))))), (b0, .inl (cI, 32, .inl u0)), (b1, .inl (cI, 32, .inl u1)), (b2, .inl (cI, 32, .inl u2)), (mf, .inl (cZ, 3, .inl ff)), (aW, .inr (10, [.ref aM])), (n7, .inl (cI, 8, .inl fo7)), (am, .inr (12, MF ad 0 0 0 (-1) 0 0 0 0 0 0 0 0 0 0 0 0 0 0 0 0 0)), ((ad 11), .inl (cI, 2, .inl fR)), ((ad 12), .inl (cI, 2, .inl fD)), ((ad 13), .inl (cI, 2, .inl fT)), ((ad 14), .inl (cI, 2, .inl fU)), ((ad 15), .inl (cI, 2, .inl fW)), ((ad 26), .inl (cZ, 2, .inl fS)), ((ad 27), .inl (cZ, 2, .inl fX)), ((ad 42), .inl (cI, 32, .inl fA)), ((ad 70), .inl (cZ, 3, .inl fB)), ((ad 0), .inl (cB, 1620, .inl ft)), ((ad 59), .inl (cI, 30, .inl t0)), ((ad 60), .inl (cI, 30, .inl t1)), ((ad 61), .inl (cI, 30, .inl t2)), ((ad 62), .inl (cI, 30, .inl t3)), ((ad 63), .inl (cI, 30, .inl t4)), ((ad 64), .inl (cI, 30, .inl t5)), ((ad 57), .inl (cI, 64, .inl fk)), ((ad 45), .inl (cI, 1312, .inl fw)), ((ad 69), .inl (cI, 96, .inl fbm))] H := hP
          replace hD : va_D A [(su, .inr (1, [.ref s0, .ref s1, .ref s2, .int 0, .int 0, .int 0])), (aD, .inr (5, PF pq sq)), (sq, .inr (1, [.ref z0, .ref z1, .ref z2, .int 0, .int 0, .int 0])), (aT, .inr (8, [.ref tb, .int 0])), (tb, .inl (cB, 1600, .inl fb)), (aR, .inr (6, [.ref rt, .ref aD, .int 0, .int (-1)])), (rt, .inr (9, [.ref aT, .ref to, .int 0, .int 0, .int 0, .long 0, .int 0])), (fx, .inl (cI, 8, .inl fxf)), (fr, .inl (cI, 64, .inl frf)), (aU, .inr (7, [.ref aF, .ref ul, .int 0, .ref uc, .ref ue])), (aM, .inr (3, [.ref aF, .ref mo, .ref ma, .ref mk, .int 0, .int 0, .int 0, .ref mb, .ref mf])), (mo, .inl (cI, 32, .inl fn)), (mk, .inl (cG, 41, .inr (.inr (.inr (.inr kr))))), (r0, .inl (cI, 32, .inl w0)), (r1, .inl (cI, 32, .inl w1)), (mb, .inl (cG, 3, .inr (.inr (.inr (.inr br))))), (b0, .inl (cI, 32, .inl u0)), (b1, .inl (cI, 32, .inl u1)), (b2, .inl (cI, 32, .inl u2)), (mf, .inl (cZ, 3, .inl ff)), (aW, .inr (10, [.ref aM])), (n7, .inl (cI, 8, .inl fo7)), (am, .inr (12, MF ad 0 0 0 (-1) 0 0 0 0 0 0 0 0 0 0 0 0 0 0 0 0 0)), ((ad 11), .inl (cI, 2, .inl fR)), ((ad 12), .inl (cI, 2, .inl fD)), ((ad 13), .inl (cI, 2, .inl fT)), ((ad 14), .inl (cI, 2, .inl fU)), ((ad 15), .inl (cI, 2, .inl fW)), ((ad 26), .inl (cZ, 2, .inl fS)), ((ad 27), .inl (cZ, 2, .inl fX)), ((ad 42), .inl (cI, 32, .inl fA)), ((ad 70), .inl (cZ, 3, .inl fB)), ((ad 0), .inl (cB, 1620, .inl ft)), ((ad 59), .inl (cI, 30, .inl t0)), ((ad 60), .inl (cI, 30, .inl t1)), ((ad 61), .inl (cI, 30, .inl t2)), ((ad 62), .inl (cI, 30, .inl t3)), ((ad 63), .inl (cI, 30, .inl t4)), ((ad 64), .inl (cI, 30, .inl t5)), ((ad 57), .inl (cI, 64, .inl fk)), ((ad 45), .inl (cI, 1312, .inl fw)), ((ad 69), .inl (cI, 96, .inl fbm))] := hD
          subst hr_370
          refine lv_aload_n hx hb dL_law_1275 rfl (lv_at hl 1 rfl) ?_
          refine lv_aload_n hx hb dL_law_1276 rfl (lv_at hl 3 rfl) ?_
          refine lv_iload_n hx hb dL_law_1277 rfl (lv_at hl 0 rfl) ?_
          refine lv_iconst (v := 1) hx hb dL_law_1278 (by decide) ?_
          refine lv_iadd hx hb dL_law_1279 ?_
          refine lv_topi (fun y_371 ey_371 => ?_)
          obtain rfl : y_371 = 1 := ey_371.trans (by decide)
          refine va_sld hx hb hX hbl hbA hS (show vp_in 1 6 from (by decide : ¬ ((1 : Int32) < 0 ∨ 6 ≤ Int32.toNatClampNeg 1))) dL_law_1280 ?_
          refine lv_aload_n hx hb dL_law_1281 rfl (lv_at hl 3 rfl) ?_
          refine lv_iload_n hx hb dL_law_1282 rfl (lv_at hl 0 rfl) ?_
          refine lv_iconst (v := 2) hx hb dL_law_1283 (by decide) ?_
          refine lv_iadd hx hb dL_law_1284 ?_
          refine lv_topi (fun y_372 ey_372 => ?_)
          obtain rfl : y_372 = 2 := ey_372.trans (by decide)
          refine va_sld hx hb hX hbl hbA hS (show vp_in 2 6 from (by decide : ¬ ((2 : Int32) < 0 ∨ 6 ≤ Int32.toNatClampNeg 2))) dL_law_1285 ?_
          refine lv_aload_n hx hb dL_law_1286 rfl (lv_at hl 3 rfl) ?_
          refine lv_iload_n hx hb dL_law_1287 rfl (lv_at hl 0 rfl) ?_
          refine lv_iconst (v := 3) hx hb dL_law_1288 (by decide) ?_
          refine lv_iadd hx hb dL_law_1289 ?_
          refine lv_topi (fun y_373 ey_373 => ?_)
          obtain rfl : y_373 = 3 := ey_373.trans (by decide)
          refine va_sld hx hb hX hbl hbA hS (show vp_in 3 6 from (by decide : ¬ ((3 : Int32) < 0 ∨ 6 ≤ Int32.toNatClampNeg 3))) dL_law_1290 ?_
          refine lv_if_eq (tgt := 1298) hx hb dL_law_1291 (by decide) (fun c_374 => ?_) (fun c_374 => ?_)
          · refine lv_iconst (v := 0) hx hb dL_law_1298 (by decide) ?_
            have hPc := hP.sub (ws' := [(am, .inr (12, MF ad 0 0 0 (-1) 0 0 0 0 0 0 0 0 0 0 0 0 0 0 0 0 0)), ((ad 59), .inl (cI, 30, .inl t0)), ((ad 60), .inl (cI, 30, .inl t1)), ((ad 61), .inl (cI, 30, .inl t2)), ((ad 62), .inl (cI, 30, .inl t3)), ((ad 63), .inl (cI, 30, .inl t4)), ((ad 64), .inl (cI, 30, .inl t5))]) [22, 33, 34, 35, 36, 37, 38] rfl
            have hDc := hD.sub (ws' := [(am, .inr (12, MF ad 0 0 0 (-1) 0 0 0 0 0 0 0 0 0 0 0 0 0 0 0 0 0)), ((ad 59), .inl (cI, 30, .inl t0)), ((ad 60), .inl (cI, 30, .inl t1)), ((ad 61), .inl (cI, 30, .inl t2)), ((ad 62), .inl (cI, 30, .inl t3)), ((ad 63), .inl (cI, 30, .inl t4)), ((ad 64), .inl (cI, 30, .inl t5))]) [22, 33, 34, 35, 36, 37, 38] (by decide) rfl
            have hFc := va_free (wc := [(am, .inr (12, MF ad 0 0 0 (-1) 0 0 0 0 0 0 0 0 0 0 0 0 0 0 0 0 0)), ((ad 59), .inl (cI, 30, .inl t0)), ((ad 60), .inl (cI, 30, .inl t1)), ((ad 61), .inl (cI, 30, .inl t2)), ((ad 62), .inl (cI, 30, .inl t3)), ((ad 63), .inl (cI, 30, .inl t4)), ((ad 64), .inl (cI, 30, .inl t5))]) hD hS hA [22, 33, 34, 35, 36, 37, 38] rfl
            refine va_calli (va_runV (As := [.int (xs (Int32.toNatClampNeg 1)), .int (xs (Int32.toNatClampNeg 2)), .int 0]) (rest := [.int (sp_heard xs (Int32.toNatClampNeg 1) xs (Int32.toNatClampNeg 2))]) ⟨hx, hb, hml, hown, hts⟩ (m_heard l D cI cB cL cZ am ad 0 0 0 0 0 0 0 0 0 0 0 0 t0 t1 t2 t3 t4 t5 (xs (Int32.toNatClampNeg 1)) (xs (Int32.toNatClampNeg 2)) 0 H.size) (cwV 3 hts gL_law_X12_heard rfl rfl rfl (by decide +kernel) ⟨Nat.le_of_ble_eq_true rfl, Nat.le_of_ble_eq_true rfl⟩) ⟨xp_blind, va_recv hK hPc (ci := 12) (q0 := 0) rfl rfl, fun U hU hW => xp_mk hU hW hPc (hK.sub (tys' := [(cI, .int), (cB, .byte), (cL, .long), (cZ, .boolean)]) [0, 1, 2, 3] rfl) hDc xNw_nil⟩ rfl rfl hl.1 rfl (lv_room (Nat.le_of_ble_eq_true rfl)) dL_law_1299 ⟨Nat.le_of_ble_eq_true rfl, Nat.le_of_ble_eq_true rfl⟩) hS (fun q _ h => hFc q h) hFc (fun r_375 u9 t9 H1 locs ht9 hvm9 hr_375 hB9 hz9 hk9 hS => ?_)
            clear hB9 hz9 hPc hDc
            obtain ⟨hP, hD⟩ := va_join (wr := [(su, .inr (1, [.ref s0, .ref s1, .ref s2, .int 0, .int 0, .int 0])), (aD, .inr (5, PF pq sq)), (sq, .inr (1, [.ref z0, .ref z1, .ref z2, .int 0, .int 0, .int 0])), (aT, .inr (8, [.ref tb, .int 0])), (tb, .inl (cB, 1600, .inl fb)), (aR, .inr (6, [.ref rt, .ref aD, .int 0, .int (-1)])), (rt, .inr (9, [.ref aT, .ref to, .int 0, .int 0, .int 0, .long 0, .int 0])), (fx, .inl (cI, 8, .inl fxf)), (fr, .inl (cI, 64, .inl frf)), (aU, .inr (7, [.ref aF, .ref ul, .int 0, .ref uc, .ref ue])), (aM, .inr (3, [.ref aF, .ref mo, .ref ma, .ref mk, .int 0, .int 0, .int 0, .ref mb, .ref mf])), (mo, .inl (cI, 32, .inl fn)), (mk, .inl (cG, 41, .inr (.inr (.inr (.inr kr))))), (r0, .inl (cI, 32, .inl w0)), (r1, .inl (cI, 32, .inl w1)), (mb, .inl (cG, 3, .inr (.inr (.inr (.inr br))))), (b0, .inl (cI, 32, .inl u0)), (b1, .inl (cI, 32, .inl u1)), (b2, .inl (cI, 32, .inl u2)), (mf, .inl (cZ, 3, .inl ff)), (aW, .inr (10, [.ref aM])), (n7, .inl (cI, 8, .inl fo7)), ((ad 11), .inl (cI, 2, .inl fR)), ((ad 12), .inl (cI, 2, .inl fD)), ((ad 13), .inl (cI, 2, .inl fT)), ((ad 14), .inl (cI, 2, .inl fU)), ((ad 15), .inl (cI, 2, .inl fW)), ((ad 26), .inl (cZ, 2, .inl fS)), ((ad 27), .inl (cZ, 2, .inl fX)), ((ad 42), .inl (cI, 32, .inl fA)), ((ad 70), .inl (cZ, 3, .inl fB)), ((ad 0), .inl (cB, 1620, .inl ft)), ((ad 57), .inl (cI, 64, .inl fk)), ((ad 45), .inl (cI, 1312, .inl fw)), ((ad 69), .inl (cI, 96, .inl fbm))]) (w1 := []) hP hD [22, 33, 34, 35, 36, 37, 38] [0, 1, 2, 3, 4, 5, 6, 7, 8, 9, 10, 11, 12, 13, 14, 15, 16, 17, 18, 19, 20, 21, 23, 24, 25, 26, 27, 28, 29, 30, 31, 32, 39, 40, 41] rfl rfl (by decide) (by decide) hk9 hFc (fun k q h => by simp at h) ⟨fun i j p q h => by simp at h, fun k q h => by simp at h⟩
            clear hk9 hFc ht9 hvm9
            generalize H1 = H at hP hS ⊢
            replace hP : va_P D classes [(su, .inr (1, [.ref s0, .ref s1, .ref s2, .int 0, .int 0, .int 0])), (aD, .inr (5, PF pq sq)), (sq, .inr (1, [.ref z0, .ref z1, .ref z2, .int 0, .int 0, .int 0])), (aT, .inr (8, [.ref tb, .int 0])), (tb, .inl (cB, 1600, .inl fb)), (aR, .inr (6, [.ref rt, .ref aD, .int 0, .int (-1)])), (rt, .inr (9, [.ref aT, .ref to, .int 0, .int 0, .int 0, .long 0, .int 0])), (fx, .inl (cI, 8, .inl fxf)), (fr, .inl (cI, 64, .inl frf)), (aU, .inr (7, [.ref aF, .ref ul, .int 0, .ref uc, .ref ue])), (aM, .inr (3, [.ref aF, .ref mo, .ref ma, .ref mk, .int 0, .int 0, .int 0, .ref mb, .ref mf])), (mo, .inl (cI, 32, .inl fn)), (mk, .inl (cG, 41, .inr (.inr (.inr (.inr kr))))), (r0, .inl (cI, 32, .inl w0)), (r1, .inl (cI, 32, .inl w1)), (mb, .inl (cG, 3, .inr (.inr (.inr (.inr br))))), (b0, .inl (cI, 32, .inl u0)), (b1, .inl (cI, 32, .inl u1)), (b2, .inl (cI, 32, .inl u2)), (mf, .inl (cZ, 3, .inl ff)), (aW, .inr (10, [.ref aM])), (n7, .inl (cI, 8, .inl fo7)), ((ad 11), .inl (cI, 2, .inl fR)), ((ad 12), .inl (cI, 2, .inl fD)), ((ad 13), .inl (cI, 2, .inl fT)), ((ad 14), .inl (cI, 2, .inl fU)), ((ad 15), .inl (cI, 2, .inl fW)), ((ad 26), .inl (cZ, 2, .inl fS)), ((ad 27), .inl (cZ, 2, .inl fX)), ((ad 42), .inl (cI, 32, .inl fA)), ((ad 70), .inl (cZ, 3, .inl fB)), ((ad 0), .inl (cB, 1620, .inl ft)), ((ad 57), .inl (cI, 64, .inl fk)), ((ad 45), .inl (cI, 1312, .inl fw)), ((ad 69), .inl (cI, 96, .inl fbm))] H := hP
            replace hD : va_D A [(su, .inr (1, [.ref s0, .ref s1, .ref s2, .int 0, .int 0, .int 0])), (aD, .inr (5, PF pq sq)), (sq, .inr (1, [.ref z0, .ref z1, .ref z2, .int 0, .int 0, .int 0])), (aT, .inr (8, [.ref tb, .int 0])), (tb, .inl (cB, 1600, .inl fb)), (aR, .inr (6, [.ref rt, .ref aD, .int 0, .int (-1)])), (rt, .inr (9, [.ref aT, .ref to, .int 0, .int 0, .int 0, .long 0, .int 0])), (fx, .inl (cI, 8, .inl fxf)), (fr, .inl (cI, 64, .inl frf)), (aU, .inr (7, [.ref aF, .ref ul, .int 0, .ref uc, .ref ue])), (aM, .inr (3, [.ref aF, .ref mo, .ref ma, .ref mk, .int 0, .int 0, .int 0, .ref mb, .ref mf])), (mo, .inl (cI, 32, .inl fn)), (mk, .inl (cG, 41, .inr (.inr (.inr (.inr kr))))), (r0, .inl (cI, 32, .inl w0)), (r1, .inl (cI, 32, .inl w1)), (mb, .inl (cG, 3, .inr (.inr (.inr (.inr br))))), (b0, .inl (cI, 32, .inl u0)), (b1, .inl (cI, 32, .inl u1)), (b2, .inl (cI, 32, .inl u2)), (mf, .inl (cZ, 3, .inl ff)), (aW, .inr (10, [.ref aM])), (n7, .inl (cI, 8, .inl fo7)), ((ad 11), .inl (cI, 2, .inl fR)), ((ad 12), .inl (cI, 2, .inl fD)), ((ad 13), .inl (cI, 2, .inl fT)), ((ad 14), .inl (cI, 2, .inl fU)), ((ad 15), .inl (cI, 2, .inl fW)), ((ad 26), .inl (cZ, 2, .inl fS)), ((ad 27), .inl (cZ, 2, .inl fX)), ((ad 42), .inl (cI, 32, .inl fA)), ((ad 70), .inl (cZ, 3, .inl fB)), ((ad 0), .inl (cB, 1620, .inl ft)), ((ad 57), .inl (cI, 64, .inl fk)), ((ad 45), .inl (cI, 1312, .inl fw)), ((ad 69), .inl (cI, 96, .inl fbm))] := hD
            subst hr_375
            refine lv_icmp_eq (tgt := 1570) hx hb dL_law_1302 (by decide) (fun _ => ?_) (fun c9 => absurd rfl c9)
            refine lv_iinc (v := 6) (lv' := [(3, .int 6), (2, .ref am), (1, .ref a0), (0, .ref b)]) hx hb dL_law_1570 hl (k := 0) rfl (by decide) (by decide) rfl (fun ls hl => ?_)
            refine lv_goto (tgt := 18) hx hb dL_law_1573 (by decide) ?_
            refine lv_iload_n hx hb dL_law_18 rfl (lv_at hl 0 rfl) ?_
            refine lv_aload_n hx hb dL_law_19 rfl (lv_at hl 3 rfl) ?_
            refine va_slen hx hb hX hbl hbA hS dL_law_20 ?_
            refine lv_topi (fun y_376 ey_376 => ?_)
            obtain rfl : y_376 = 6 := ey_376.trans (by decide)
            refine lv_bipush (v := 6) hx hb dL_law_21 (by decide) ?_
            refine lv_isub hx hb dL_law_23 ?_
            refine lv_topi (fun y_377 ey_377 => ?_)
            obtain rfl : y_377 = 0 := ey_377.trans (by decide)
            refine lv_icmp_gt (tgt := 1576) hx hb dL_law_24 (by decide) (fun _ => ?_) (fun c_378 => absurd (by decide) c_378)
            refine lv_iconst (v := 1) hx hb dL_law_1576 (by decide) ?_
            refine va_forget (fun q hq => by have h := hS.2.2 q hq; rw [hAe] at h; exact h) ?_
            refine W.widen (k := 600000) (n := 7302250) (Nat.le_of_ble_eq_true rfl) (Nat.le_of_ble_eq_true rfl) ?_
            exact lw_ret hx hb hr hlocks dL_law_1577
          · refine lv_iconst (v := 1) hx hb dL_law_1294 (by decide) ?_
            refine lv_goto (tgt := 1299) hx hb dL_law_1295 (by decide) ?_
            have hPc := hP.sub (ws' := [(am, .inr (12, MF ad 0 0 0 (-1) 0 0 0 0 0 0 0 0 0 0 0 0 0 0 0 0 0)), ((ad 59), .inl (cI, 30, .inl t0)), ((ad 60), .inl (cI, 30, .inl t1)), ((ad 61), .inl (cI, 30, .inl t2)), ((ad 62), .inl (cI, 30, .inl t3)), ((ad 63), .inl (cI, 30, .inl t4)), ((ad 64), .inl (cI, 30, .inl t5))]) [22, 33, 34, 35, 36, 37, 38] rfl
            have hDc := hD.sub (ws' := [(am, .inr (12, MF ad 0 0 0 (-1) 0 0 0 0 0 0 0 0 0 0 0 0 0 0 0 0 0)), ((ad 59), .inl (cI, 30, .inl t0)), ((ad 60), .inl (cI, 30, .inl t1)), ((ad 61), .inl (cI, 30, .inl t2)), ((ad 62), .inl (cI, 30, .inl t3)), ((ad 63), .inl (cI, 30, .inl t4)), ((ad 64), .inl (cI, 30, .inl t5))]) [22, 33, 34, 35, 36, 37, 38] (by decide) rfl
            have hFc := va_free (wc := [(am, .inr (12, MF ad 0 0 0 (-1) 0 0 0 0 0 0 0 0 0 0 0 0 0 0 0 0 0)), ((ad 59), .inl (cI, 30, .inl t0)), ((ad 60), .inl (cI, 30, .inl t1)), ((ad 61), .inl (cI, 30, .inl t2)), ((ad 62), .inl (cI, 30, .inl t3)), ((ad 63), .inl (cI, 30, .inl t4)), ((ad 64), .inl (cI, 30, .inl t5))]) hD hS hA [22, 33, 34, 35, 36, 37, 38] rfl
            refine va_calli (va_runV (As := [.int (xs (Int32.toNatClampNeg 1)), .int (xs (Int32.toNatClampNeg 2)), .int 1]) (rest := [.int (sp_heard xs (Int32.toNatClampNeg 1) xs (Int32.toNatClampNeg 2))]) ⟨hx, hb, hml, hown, hts⟩ (m_heard l D cI cB cL cZ am ad 0 0 0 0 0 0 0 0 0 0 0 0 t0 t1 t2 t3 t4 t5 (xs (Int32.toNatClampNeg 1)) (xs (Int32.toNatClampNeg 2)) 1 H.size) (cwV 3 hts gL_law_X12_heard rfl rfl rfl (by decide +kernel) ⟨Nat.le_of_ble_eq_true rfl, Nat.le_of_ble_eq_true rfl⟩) ⟨xp_blind, va_recv hK hPc (ci := 12) (q0 := 0) rfl rfl, fun U hU hW => xp_mk hU hW hPc (hK.sub (tys' := [(cI, .int), (cB, .byte), (cL, .long), (cZ, .boolean)]) [0, 1, 2, 3] rfl) hDc xNw_nil⟩ rfl rfl hl.1 rfl (lv_room (Nat.le_of_ble_eq_true rfl)) dL_law_1299 ⟨Nat.le_of_ble_eq_true rfl, Nat.le_of_ble_eq_true rfl⟩) hS (fun q _ h => hFc q h) hFc (fun r_379 u9 t9 H1 locs ht9 hvm9 hr_379 hB9 hz9 hk9 hS => ?_)
            clear hB9 hz9 hPc hDc
            obtain ⟨hP, hD⟩ := va_join (wr := [(su, .inr (1, [.ref s0, .ref s1, .ref s2, .int 0, .int 0, .int 0])), (aD, .inr (5, PF pq sq)), (sq, .inr (1, [.ref z0, .ref z1, .ref z2, .int 0, .int 0, .int 0])), (aT, .inr (8, [.ref tb, .int 0])), (tb, .inl (cB, 1600, .inl fb)), (aR, .inr (6, [.ref rt, .ref aD, .int 0, .int (-1)])), (rt, .inr (9, [.ref aT, .ref to, .int 0, .int 0, .int 0, .long 0, .int 0])), (fx, .inl (cI, 8, .inl fxf)), (fr, .inl (cI, 64, .inl frf)), (aU, .inr (7, [.ref aF, .ref ul, .int 0, .ref uc, .ref ue])), (aM, .inr (3, [.ref aF, .ref mo, .ref ma, .ref mk, .int 0, .int 0, .int 0, .ref mb, .ref mf])), (mo, .inl (cI, 32, .inl fn)), (mk, .inl (cG, 41, .inr (.inr (.inr (.inr kr))))), (r0, .inl (cI, 32, .inl w0)), (r1, .inl (cI, 32, .inl w1)), (mb, .inl (cG, 3, .inr (.inr (.inr (.inr br))))), (b0, .inl (cI, 32, .inl u0)), (b1, .inl (cI, 32, .inl u1)), (b2, .inl (cI, 32, .inl u2)), (mf, .inl (cZ, 3, .inl ff)), (aW, .inr (10, [.ref aM])), (n7, .inl (cI, 8, .inl fo7)), ((ad 11), .inl (cI, 2, .inl fR)), ((ad 12), .inl (cI, 2, .inl fD)), ((ad 13), .inl (cI, 2, .inl fT)), ((ad 14), .inl (cI, 2, .inl fU)), ((ad 15), .inl (cI, 2, .inl fW)), ((ad 26), .inl (cZ, 2, .inl fS)), ((ad 27), .inl (cZ, 2, .inl fX)), ((ad 42), .inl (cI, 32, .inl fA)), ((ad 70), .inl (cZ, 3, .inl fB)), ((ad 0), .inl (cB, 1620, .inl ft)), ((ad 57), .inl (cI, 64, .inl fk)), ((ad 45), .inl (cI, 1312, .inl fw)), ((ad 69), .inl (cI, 96, .inl fbm))]) (w1 := []) hP hD [22, 33, 34, 35, 36, 37, 38] [0, 1, 2, 3, 4, 5, 6, 7, 8, 9, 10, 11, 12, 13, 14, 15, 16, 17, 18, 19, 20, 21, 23, 24, 25, 26, 27, 28, 29, 30, 31, 32, 39, 40, 41] rfl rfl (by decide) (by decide) hk9 hFc (fun k q h => by simp at h) ⟨fun i j p q h => by simp at h, fun k q h => by simp at h⟩
            clear hk9 hFc ht9 hvm9
            generalize H1 = H at hP hS ⊢
            replace hP : va_P D classes [(su, .inr (1, [.ref s0, .ref s1, .ref s2, .int 0, .int 0, .int 0])), (aD, .inr (5, PF pq sq)), (sq, .inr (1, [.ref z0, .ref z1, .ref z2, .int 0, .int 0, .int 0])), (aT, .inr (8, [.ref tb, .int 0])), (tb, .inl (cB, 1600, .inl fb)), (aR, .inr (6, [.ref rt, .ref aD, .int 0, .int (-1)])), (rt, .inr (9, [.ref aT, .ref to, .int 0, .int 0, .int 0, .long 0, .int 0])), (fx, .inl (cI, 8, .inl fxf)), (fr, .inl (cI, 64, .inl frf)), (aU, .inr (7, [.ref aF, .ref ul, .int 0, .ref uc, .ref ue])), (aM, .inr (3, [.ref aF, .ref mo, .ref ma, .ref mk, .int 0, .int 0, .int 0, .ref mb, .ref mf])), (mo, .inl (cI, 32, .inl fn)), (mk, .inl (cG, 41, .inr (.inr (.inr (.inr kr))))), (r0, .inl (cI, 32, .inl w0)), (r1, .inl (cI, 32, .inl w1)), (mb, .inl (cG, 3, .inr (.inr (.inr (.inr br))))), (b0, .inl (cI, 32, .inl u0)), (b1, .inl (cI, 32, .inl u1)), (b2, .inl (cI, 32, .inl u2)), (mf, .inl (cZ, 3, .inl ff)), (aW, .inr (10, [.ref aM])), (n7, .inl (cI, 8, .inl fo7)), ((ad 11), .inl (cI, 2, .inl fR)), ((ad 12), .inl (cI, 2, .inl fD)), ((ad 13), .inl (cI, 2, .inl fT)), ((ad 14), .inl (cI, 2, .inl fU)), ((ad 15), .inl (cI, 2, .inl fW)), ((ad 26), .inl (cZ, 2, .inl fS)), ((ad 27), .inl (cZ, 2, .inl fX)), ((ad 42), .inl (cI, 32, .inl fA)), ((ad 70), .inl (cZ, 3, .inl fB)), ((ad 0), .inl (cB, 1620, .inl ft)), ((ad 57), .inl (cI, 64, .inl fk)), ((ad 45), .inl (cI, 1312, .inl fw)), ((ad 69), .inl (cI, 96, .inl fbm))] H := hP
            replace hD : va_D A [(su, .inr (1, [.ref s0, .ref s1, .ref s2, .int 0, .int 0, .int 0])), (aD, .inr (5, PF pq sq)), (sq, .inr (1, [.ref z0, .ref z1, .ref z2, .int 0, .int 0, .int 0])), (aT, .inr (8, [.ref tb, .int 0])), (tb, .inl (cB, 1600, .inl fb)), (aR, .inr (6, [.ref rt, .ref aD, .int 0, .int (-1)])), (rt, .inr (9, [.ref aT, .ref to, .int 0, .int 0, .int 0, .long 0, .int 0])), (fx, .inl (cI, 8, .inl fxf)), (fr, .inl (cI, 64, .inl frf)), (aU, .inr (7, [.ref aF, .ref ul, .int 0, .ref uc, .ref ue])), (aM, .inr (3, [.ref aF, .ref mo, .ref ma, .ref mk, .int 0, .int 0, .int 0, .ref mb, .ref mf])), (mo, .inl (cI, 32, .inl fn)), (mk, .inl (cG, 41, .inr (.inr (.inr (.inr kr))))), (r0, .inl (cI, 32, .inl w0)), (r1, .inl (cI, 32, .inl w1)), (mb, .inl (cG, 3, .inr (.inr (.inr (.inr br))))), (b0, .inl (cI, 32, .inl u0)), (b1, .inl (cI, 32, .inl u1)), (b2, .inl (cI, 32, .inl u2)), (mf, .inl (cZ, 3, .inl ff)), (aW, .inr (10, [.ref aM])), (n7, .inl (cI, 8, .inl fo7)), ((ad 11), .inl (cI, 2, .inl fR)), ((ad 12), .inl (cI, 2, .inl fD)), ((ad 13), .inl (cI, 2, .inl fT)), ((ad 14), .inl (cI, 2, .inl fU)), ((ad 15), .inl (cI, 2, .inl fW)), ((ad 26), .inl (cZ, 2, .inl fS)), ((ad 27), .inl (cZ, 2, .inl fX)), ((ad 42), .inl (cI, 32, .inl fA)), ((ad 70), .inl (cZ, 3, .inl fB)), ((ad 0), .inl (cB, 1620, .inl ft)), ((ad 57), .inl (cI, 64, .inl fk)), ((ad 45), .inl (cI, 1312, .inl fw)), ((ad 69), .inl (cI, 96, .inl fbm))] := hD
            subst hr_379
            refine lv_icmp_eq (tgt := 1570) hx hb dL_law_1302 (by decide) (fun _ => ?_) (fun c9 => absurd rfl c9)
            refine lv_iinc (v := 6) (lv' := [(3, .int 6), (2, .ref am), (1, .ref a0), (0, .ref b)]) hx hb dL_law_1570 hl (k := 0) rfl (by decide) (by decide) rfl (fun ls hl => ?_)
            refine lv_goto (tgt := 18) hx hb dL_law_1573 (by decide) ?_
            refine lv_iload_n hx hb dL_law_18 rfl (lv_at hl 0 rfl) ?_
            refine lv_aload_n hx hb dL_law_19 rfl (lv_at hl 3 rfl) ?_
            refine va_slen hx hb hX hbl hbA hS dL_law_20 ?_
            refine lv_topi (fun y_380 ey_380 => ?_)
            obtain rfl : y_380 = 6 := ey_380.trans (by decide)
            refine lv_bipush (v := 6) hx hb dL_law_21 (by decide) ?_
            refine lv_isub hx hb dL_law_23 ?_
            refine lv_topi (fun y_381 ey_381 => ?_)
            obtain rfl : y_381 = 0 := ey_381.trans (by decide)
            refine lv_icmp_gt (tgt := 1576) hx hb dL_law_24 (by decide) (fun _ => ?_) (fun c_382 => absurd (by decide) c_382)
            refine lv_iconst (v := 1) hx hb dL_law_1576 (by decide) ?_
            refine va_forget (fun q hq => by have h := hS.2.2 q hq; rw [hAe] at h; exact h) ?_
            refine W.widen (k := 600000) (n := 7302250) (Nat.le_of_ble_eq_true rfl) (Nat.le_of_ble_eq_true rfl) ?_
            exact lw_ret hx hb hr hlocks dL_law_1577
      · refine lv_tableIn (off := 1274) (tgt := 1307) hx hb dL_law_33 (by decide) (by decide) (by decide) (by decide) ?_
        refine lv_aload_n hx hb dL_law_1307 rfl (lv_at hl 2 rfl) ?_
        refine lv_aload_n hx hb dL_law_1308 rfl (lv_at hl 3 rfl) ?_
        refine lv_iload_n hx hb dL_law_1309 rfl (lv_at hl 0 rfl) ?_
        refine lv_iconst (v := 1) hx hb dL_law_1310 (by decide) ?_
        refine lv_iadd hx hb dL_law_1311 ?_
        refine lv_topi (fun y_383 ey_383 => ?_)
        obtain rfl : y_383 = 1 := ey_383.trans (by decide)
        refine va_sld hx hb hX hbl hbA hS (show vp_in 1 6 from (by decide : ¬ ((1 : Int32) < 0 ∨ 6 ≤ Int32.toNatClampNeg 1))) dL_law_1312 ?_
        refine lv_aload_n hx hb dL_law_1313 rfl (lv_at hl 3 rfl) ?_
        refine lv_iload_n hx hb dL_law_1314 rfl (lv_at hl 0 rfl) ?_
        refine lv_iconst (v := 2) hx hb dL_law_1315 (by decide) ?_
        refine lv_iadd hx hb dL_law_1316 ?_
        refine lv_topi (fun y_384 ey_384 => ?_)
        obtain rfl : y_384 = 2 := ey_384.trans (by decide)
        refine va_sld hx hb hX hbl hbA hS (show vp_in 2 6 from (by decide : ¬ ((2 : Int32) < 0 ∨ 6 ≤ Int32.toNatClampNeg 2))) dL_law_1317 ?_
        refine lv_aload_n hx hb dL_law_1318 rfl (lv_at hl 3 rfl) ?_
        refine lv_iload_n hx hb dL_law_1319 rfl (lv_at hl 0 rfl) ?_
        refine lv_iconst (v := 3) hx hb dL_law_1320 (by decide) ?_
        refine lv_iadd hx hb dL_law_1321 ?_
        refine lv_topi (fun y_385 ey_385 => ?_)
        obtain rfl : y_385 = 3 := ey_385.trans (by decide)
        refine va_sld hx hb hX hbl hbA hS (show vp_in 3 6 from (by decide : ¬ ((3 : Int32) < 0 ∨ 6 ≤ Int32.toNatClampNeg 3))) dL_law_1322 ?_
        refine lv_if_eq (tgt := 1330) hx hb dL_law_1323 (by decide) (fun c_386 => ?_) (fun c_386 => ?_)
        · refine lv_iconst (v := 0) hx hb dL_law_1330 (by decide) ?_
          have hPc := hP.sub (ws' := [(a0, .inr (11, [.ref aP, .ref aD, .ref aT, .ref aR, .ref aF, .ref aU, .ref aH, .ref aM, .ref aW, .ref aN])), (aP, .inr (5, PF pz su))]) [0, 1] rfl
          refine vp_callSi (va_runV (As := [.int (xs (Int32.toNatClampNeg 1)), .int (xs (Int32.toNatClampNeg 2)), .int 0]) (rest := []) ⟨hx, hb, hml, hown, hts⟩ (c_seen l D cI cB cL cZ a0 aP aD aT aR aF aU aH aM aW aN pz su (xs (Int32.toNatClampNeg 1)) (xs (Int32.toNatClampNeg 2)) 0) (cwV 3 hts gL_law_X11_seen rfl rfl rfl (by decide +kernel) ⟨Nat.le_of_ble_eq_true rfl, Nat.le_of_ble_eq_true rfl⟩) ⟨xr_blind, va_recv hK hPc (ci := 11) (q0 := 0) rfl rfl, fun U hU hW => xr_mk hU hW hPc (hK.sub (tys' := [(cI, .int), (cB, .byte), (cL, .long), (cZ, .boolean)]) [0, 1, 2, 3] rfl)⟩ rfl rfl hl.1 rfl (lv_room (Nat.le_of_ble_eq_true rfl)) dL_law_1331 ⟨Nat.le_of_ble_eq_true rfl, Nat.le_of_ble_eq_true rfl⟩).run (fun r_387 hr_387 => ?_)
          clear hPc
          subst hr_387
          refine lv_aload_n hx hb dL_law_1334 rfl (lv_at hl 1 rfl) ?_
          refine lv_aload_n hx hb dL_law_1335 rfl (lv_at hl 3 rfl) ?_
          refine lv_iload_n hx hb dL_law_1336 rfl (lv_at hl 0 rfl) ?_
          refine lv_iconst (v := 1) hx hb dL_law_1337 (by decide) ?_
          refine lv_iadd hx hb dL_law_1338 ?_
          refine lv_topi (fun y_388 ey_388 => ?_)
          obtain rfl : y_388 = 1 := ey_388.trans (by decide)
          refine va_sld hx hb hX hbl hbA hS (show vp_in 1 6 from (by decide : ¬ ((1 : Int32) < 0 ∨ 6 ≤ Int32.toNatClampNeg 1))) dL_law_1339 ?_
          refine lv_aload_n hx hb dL_law_1340 rfl (lv_at hl 3 rfl) ?_
          refine lv_iload_n hx hb dL_law_1341 rfl (lv_at hl 0 rfl) ?_
          refine lv_iconst (v := 2) hx hb dL_law_1342 (by decide) ?_
          refine lv_iadd hx hb dL_law_1343 ?_
          refine lv_topi (fun y_389 ey_389 => ?_)
          obtain rfl : y_389 = 2 := ey_389.trans (by decide)
          refine va_sld hx hb hX hbl hbA hS (show vp_in 2 6 from (by decide : ¬ ((2 : Int32) < 0 ∨ 6 ≤ Int32.toNatClampNeg 2))) dL_law_1344 ?_
          refine lv_aload_n hx hb dL_law_1345 rfl (lv_at hl 3 rfl) ?_
          refine lv_iload_n hx hb dL_law_1346 rfl (lv_at hl 0 rfl) ?_
          refine lv_iconst (v := 3) hx hb dL_law_1347 (by decide) ?_
          refine lv_iadd hx hb dL_law_1348 ?_
          refine lv_topi (fun y_390 ey_390 => ?_)
          obtain rfl : y_390 = 3 := ey_390.trans (by decide)
          refine va_sld hx hb hX hbl hbA hS (show vp_in 3 6 from (by decide : ¬ ((3 : Int32) < 0 ∨ 6 ≤ Int32.toNatClampNeg 3))) dL_law_1349 ?_
          refine lv_if_eq (tgt := 1357) hx hb dL_law_1350 (by decide) (fun c_391 => ?_) (fun c_391 => ?_)
          · refine lv_iconst (v := 0) hx hb dL_law_1357 (by decide) ?_
            have hPc := hP.sub (ws' := [(am, .inr (12, MF ad 0 0 0 (-1) 0 0 0 0 0 0 0 0 0 0 0 0 0 0 0 0 0)), ((ad 11), .inl (cI, 2, .inl fR))]) [30, 31] rfl
            refine vp_callSi (va_runV (As := [.int (xs (Int32.toNatClampNeg 1)), .int (xs (Int32.toNatClampNeg 2)), .int 0]) (rest := [.int (-1)]) ⟨hx, hb, hml, hown, hts⟩ (m_seen l D cI cB cL cZ am ad 0 0 0 0 0 0 0 0 0 0 0 0 fR (xs (Int32.toNatClampNeg 1)) (xs (Int32.toNatClampNeg 2)) 0 hf_fR_0) (cwV 3 hts gL_law_X12_seen rfl rfl rfl (by decide +kernel) ⟨Nat.le_of_ble_eq_true rfl, Nat.le_of_ble_eq_true rfl⟩) ⟨xr_blind, va_recv hK hPc (ci := 12) (q0 := 0) rfl rfl, fun U hU hW => xr_mk hU hW hPc (hK.sub (tys' := [(cI, .int), (cB, .byte), (cL, .long), (cZ, .boolean)]) [0, 1, 2, 3] rfl)⟩ rfl rfl hl.1 rfl (lv_room (Nat.le_of_ble_eq_true rfl)) dL_law_1358 ⟨Nat.le_of_ble_eq_true rfl, Nat.le_of_ble_eq_true rfl⟩).run (fun r_392 hr_392 => ?_)
            clear hPc
            subst hr_392
            refine lv_icmp_eq (tgt := 1570) hx hb dL_law_1361 (by decide) (fun _ => ?_) (fun c_393 => absurd (by decide) c_393)
            refine lv_iinc (v := 6) (lv' := [(3, .int 6), (2, .ref am), (1, .ref a0), (0, .ref b)]) hx hb dL_law_1570 hl (k := 0) rfl (by decide) (by decide) rfl (fun ls hl => ?_)
            refine lv_goto (tgt := 18) hx hb dL_law_1573 (by decide) ?_
            refine lv_iload_n hx hb dL_law_18 rfl (lv_at hl 0 rfl) ?_
            refine lv_aload_n hx hb dL_law_19 rfl (lv_at hl 3 rfl) ?_
            refine va_slen hx hb hX hbl hbA hS dL_law_20 ?_
            refine lv_topi (fun y_394 ey_394 => ?_)
            obtain rfl : y_394 = 6 := ey_394.trans (by decide)
            refine lv_bipush (v := 6) hx hb dL_law_21 (by decide) ?_
            refine lv_isub hx hb dL_law_23 ?_
            refine lv_topi (fun y_395 ey_395 => ?_)
            obtain rfl : y_395 = 0 := ey_395.trans (by decide)
            refine lv_icmp_gt (tgt := 1576) hx hb dL_law_24 (by decide) (fun _ => ?_) (fun c_396 => absurd (by decide) c_396)
            refine lv_iconst (v := 1) hx hb dL_law_1576 (by decide) ?_
            refine va_forget (fun q hq => by have h := hS.2.2 q hq; rw [hAe] at h; exact h) ?_
            refine W.widen (k := 600000) (n := 7302250) (Nat.le_of_ble_eq_true rfl) (Nat.le_of_ble_eq_true rfl) ?_
            exact lw_ret hx hb hr hlocks dL_law_1577
          · refine lv_iconst (v := 1) hx hb dL_law_1353 (by decide) ?_
            refine lv_goto (tgt := 1358) hx hb dL_law_1354 (by decide) ?_
            have hPc := hP.sub (ws' := [(am, .inr (12, MF ad 0 0 0 (-1) 0 0 0 0 0 0 0 0 0 0 0 0 0 0 0 0 0)), ((ad 11), .inl (cI, 2, .inl fR))]) [30, 31] rfl
            refine vp_callSi (va_runV (As := [.int (xs (Int32.toNatClampNeg 1)), .int (xs (Int32.toNatClampNeg 2)), .int 1]) (rest := [.int (-1)]) ⟨hx, hb, hml, hown, hts⟩ (m_seen l D cI cB cL cZ am ad 0 0 0 0 0 0 0 0 0 0 0 0 fR (xs (Int32.toNatClampNeg 1)) (xs (Int32.toNatClampNeg 2)) 1 hf_fR_0) (cwV 3 hts gL_law_X12_seen rfl rfl rfl (by decide +kernel) ⟨Nat.le_of_ble_eq_true rfl, Nat.le_of_ble_eq_true rfl⟩) ⟨xr_blind, va_recv hK hPc (ci := 12) (q0 := 0) rfl rfl, fun U hU hW => xr_mk hU hW hPc (hK.sub (tys' := [(cI, .int), (cB, .byte), (cL, .long), (cZ, .boolean)]) [0, 1, 2, 3] rfl)⟩ rfl rfl hl.1 rfl (lv_room (Nat.le_of_ble_eq_true rfl)) dL_law_1358 ⟨Nat.le_of_ble_eq_true rfl, Nat.le_of_ble_eq_true rfl⟩).run (fun r_397 hr_397 => ?_)
            clear hPc
            subst hr_397
            refine lv_icmp_eq (tgt := 1570) hx hb dL_law_1361 (by decide) (fun _ => ?_) (fun c_398 => absurd (by decide) c_398)
            refine lv_iinc (v := 6) (lv' := [(3, .int 6), (2, .ref am), (1, .ref a0), (0, .ref b)]) hx hb dL_law_1570 hl (k := 0) rfl (by decide) (by decide) rfl (fun ls hl => ?_)
            refine lv_goto (tgt := 18) hx hb dL_law_1573 (by decide) ?_
            refine lv_iload_n hx hb dL_law_18 rfl (lv_at hl 0 rfl) ?_
            refine lv_aload_n hx hb dL_law_19 rfl (lv_at hl 3 rfl) ?_
            refine va_slen hx hb hX hbl hbA hS dL_law_20 ?_
            refine lv_topi (fun y_399 ey_399 => ?_)
            obtain rfl : y_399 = 6 := ey_399.trans (by decide)
            refine lv_bipush (v := 6) hx hb dL_law_21 (by decide) ?_
            refine lv_isub hx hb dL_law_23 ?_
            refine lv_topi (fun y_400 ey_400 => ?_)
            obtain rfl : y_400 = 0 := ey_400.trans (by decide)
            refine lv_icmp_gt (tgt := 1576) hx hb dL_law_24 (by decide) (fun _ => ?_) (fun c_401 => absurd (by decide) c_401)
            refine lv_iconst (v := 1) hx hb dL_law_1576 (by decide) ?_
            refine va_forget (fun q hq => by have h := hS.2.2 q hq; rw [hAe] at h; exact h) ?_
            refine W.widen (k := 600000) (n := 7302250) (Nat.le_of_ble_eq_true rfl) (Nat.le_of_ble_eq_true rfl) ?_
            exact lw_ret hx hb hr hlocks dL_law_1577
        · refine lv_iconst (v := 1) hx hb dL_law_1326 (by decide) ?_
          refine lv_goto (tgt := 1331) hx hb dL_law_1327 (by decide) ?_
          have hPc := hP.sub (ws' := [(a0, .inr (11, [.ref aP, .ref aD, .ref aT, .ref aR, .ref aF, .ref aU, .ref aH, .ref aM, .ref aW, .ref aN])), (aP, .inr (5, PF pz su))]) [0, 1] rfl
          refine vp_callSi (va_runV (As := [.int (xs (Int32.toNatClampNeg 1)), .int (xs (Int32.toNatClampNeg 2)), .int 1]) (rest := []) ⟨hx, hb, hml, hown, hts⟩ (c_seen l D cI cB cL cZ a0 aP aD aT aR aF aU aH aM aW aN pz su (xs (Int32.toNatClampNeg 1)) (xs (Int32.toNatClampNeg 2)) 1) (cwV 3 hts gL_law_X11_seen rfl rfl rfl (by decide +kernel) ⟨Nat.le_of_ble_eq_true rfl, Nat.le_of_ble_eq_true rfl⟩) ⟨xr_blind, va_recv hK hPc (ci := 11) (q0 := 0) rfl rfl, fun U hU hW => xr_mk hU hW hPc (hK.sub (tys' := [(cI, .int), (cB, .byte), (cL, .long), (cZ, .boolean)]) [0, 1, 2, 3] rfl)⟩ rfl rfl hl.1 rfl (lv_room (Nat.le_of_ble_eq_true rfl)) dL_law_1331 ⟨Nat.le_of_ble_eq_true rfl, Nat.le_of_ble_eq_true rfl⟩).run (fun r_402 hr_402 => ?_)
          clear hPc
          subst hr_402
          refine lv_aload_n hx hb dL_law_1334 rfl (lv_at hl 1 rfl) ?_
          refine lv_aload_n hx hb dL_law_1335 rfl (lv_at hl 3 rfl) ?_
          refine lv_iload_n hx hb dL_law_1336 rfl (lv_at hl 0 rfl) ?_
          refine lv_iconst (v := 1) hx hb dL_law_1337 (by decide) ?_
          refine lv_iadd hx hb dL_law_1338 ?_
          refine lv_topi (fun y_403 ey_403 => ?_)
          obtain rfl : y_403 = 1 := ey_403.trans (by decide)
          refine va_sld hx hb hX hbl hbA hS (show vp_in 1 6 from (by decide : ¬ ((1 : Int32) < 0 ∨ 6 ≤ Int32.toNatClampNeg 1))) dL_law_1339 ?_
          refine lv_aload_n hx hb dL_law_1340 rfl (lv_at hl 3 rfl) ?_
          refine lv_iload_n hx hb dL_law_1341 rfl (lv_at hl 0 rfl) ?_
          refine lv_iconst (v := 2) hx hb dL_law_1342 (by decide) ?_
          refine lv_iadd hx hb dL_law_1343 ?_
          refine lv_topi (fun y_404 ey_404 => ?_)
          obtain rfl : y_404 = 2 := ey_404.trans (by decide)
          refine va_sld hx hb hX hbl hbA hS (show vp_in 2 6 from (by decide : ¬ ((2 : Int32) < 0 ∨ 6 ≤ Int32.toNatClampNeg 2))) dL_law_1344 ?_
          refine lv_aload_n hx hb dL_law_1345 rfl (lv_at hl 3 rfl) ?_
          refine lv_iload_n hx hb dL_law_1346 rfl (lv_at hl 0 rfl) ?_
          refine lv_iconst (v := 3) hx hb dL_law_1347 (by decide) ?_
          refine lv_iadd hx hb dL_law_1348 ?_
          refine lv_topi (fun y_405 ey_405 => ?_)
          obtain rfl : y_405 = 3 := ey_405.trans (by decide)
          refine va_sld hx hb hX hbl hbA hS (show vp_in 3 6 from (by decide : ¬ ((3 : Int32) < 0 ∨ 6 ≤ Int32.toNatClampNeg 3))) dL_law_1349 ?_
          refine lv_if_eq (tgt := 1357) hx hb dL_law_1350 (by decide) (fun c_406 => ?_) (fun c_406 => ?_)
          · refine lv_iconst (v := 0) hx hb dL_law_1357 (by decide) ?_
            have hPc := hP.sub (ws' := [(am, .inr (12, MF ad 0 0 0 (-1) 0 0 0 0 0 0 0 0 0 0 0 0 0 0 0 0 0)), ((ad 11), .inl (cI, 2, .inl fR))]) [30, 31] rfl
            refine vp_callSi (va_runV (As := [.int (xs (Int32.toNatClampNeg 1)), .int (xs (Int32.toNatClampNeg 2)), .int 0]) (rest := [.int (-1)]) ⟨hx, hb, hml, hown, hts⟩ (m_seen l D cI cB cL cZ am ad 0 0 0 0 0 0 0 0 0 0 0 0 fR (xs (Int32.toNatClampNeg 1)) (xs (Int32.toNatClampNeg 2)) 0 hf_fR_0) (cwV 3 hts gL_law_X12_seen rfl rfl rfl (by decide +kernel) ⟨Nat.le_of_ble_eq_true rfl, Nat.le_of_ble_eq_true rfl⟩) ⟨xr_blind, va_recv hK hPc (ci := 12) (q0 := 0) rfl rfl, fun U hU hW => xr_mk hU hW hPc (hK.sub (tys' := [(cI, .int), (cB, .byte), (cL, .long), (cZ, .boolean)]) [0, 1, 2, 3] rfl)⟩ rfl rfl hl.1 rfl (lv_room (Nat.le_of_ble_eq_true rfl)) dL_law_1358 ⟨Nat.le_of_ble_eq_true rfl, Nat.le_of_ble_eq_true rfl⟩).run (fun r_407 hr_407 => ?_)
            clear hPc
            subst hr_407
            refine lv_icmp_eq (tgt := 1570) hx hb dL_law_1361 (by decide) (fun _ => ?_) (fun c_408 => absurd (by decide) c_408)
            refine lv_iinc (v := 6) (lv' := [(3, .int 6), (2, .ref am), (1, .ref a0), (0, .ref b)]) hx hb dL_law_1570 hl (k := 0) rfl (by decide) (by decide) rfl (fun ls hl => ?_)
            refine lv_goto (tgt := 18) hx hb dL_law_1573 (by decide) ?_
            refine lv_iload_n hx hb dL_law_18 rfl (lv_at hl 0 rfl) ?_
            refine lv_aload_n hx hb dL_law_19 rfl (lv_at hl 3 rfl) ?_
            refine va_slen hx hb hX hbl hbA hS dL_law_20 ?_
            refine lv_topi (fun y_409 ey_409 => ?_)
            obtain rfl : y_409 = 6 := ey_409.trans (by decide)
            refine lv_bipush (v := 6) hx hb dL_law_21 (by decide) ?_
            refine lv_isub hx hb dL_law_23 ?_
            refine lv_topi (fun y_410 ey_410 => ?_)
            obtain rfl : y_410 = 0 := ey_410.trans (by decide)
            refine lv_icmp_gt (tgt := 1576) hx hb dL_law_24 (by decide) (fun _ => ?_) (fun c_411 => absurd (by decide) c_411)
            refine lv_iconst (v := 1) hx hb dL_law_1576 (by decide) ?_
            refine va_forget (fun q hq => by have h := hS.2.2 q hq; rw [hAe] at h; exact h) ?_
            refine W.widen (k := 600000) (n := 7302250) (Nat.le_of_ble_eq_true rfl) (Nat.le_of_ble_eq_true rfl) ?_
            exact lw_ret hx hb hr hlocks dL_law_1577
          · refine lv_iconst (v := 1) hx hb dL_law_1353 (by decide) ?_
            refine lv_goto (tgt := 1358) hx hb dL_law_1354 (by decide) ?_
            have hPc := hP.sub (ws' := [(am, .inr (12, MF ad 0 0 0 (-1) 0 0 0 0 0 0 0 0 0 0 0 0 0 0 0 0 0)), ((ad 11), .inl (cI, 2, .inl fR))]) [30, 31] rfl
            refine vp_callSi (va_runV (As := [.int (xs (Int32.toNatClampNeg 1)), .int (xs (Int32.toNatClampNeg 2)), .int 1]) (rest := [.int (-1)]) ⟨hx, hb, hml, hown, hts⟩ (m_seen l D cI cB cL cZ am ad 0 0 0 0 0 0 0 0 0 0 0 0 fR (xs (Int32.toNatClampNeg 1)) (xs (Int32.toNatClampNeg 2)) 1 hf_fR_0) (cwV 3 hts gL_law_X12_seen rfl rfl rfl (by decide +kernel) ⟨Nat.le_of_ble_eq_true rfl, Nat.le_of_ble_eq_true rfl⟩) ⟨xr_blind, va_recv hK hPc (ci := 12) (q0 := 0) rfl rfl, fun U hU hW => xr_mk hU hW hPc (hK.sub (tys' := [(cI, .int), (cB, .byte), (cL, .long), (cZ, .boolean)]) [0, 1, 2, 3] rfl)⟩ rfl rfl hl.1 rfl (lv_room (Nat.le_of_ble_eq_true rfl)) dL_law_1358 ⟨Nat.le_of_ble_eq_true rfl, Nat.le_of_ble_eq_true rfl⟩).run (fun r_412 hr_412 => ?_)
            clear hPc
            subst hr_412
            refine lv_icmp_eq (tgt := 1570) hx hb dL_law_1361 (by decide) (fun _ => ?_) (fun c_413 => absurd (by decide) c_413)
            refine lv_iinc (v := 6) (lv' := [(3, .int 6), (2, .ref am), (1, .ref a0), (0, .ref b)]) hx hb dL_law_1570 hl (k := 0) rfl (by decide) (by decide) rfl (fun ls hl => ?_)
            refine lv_goto (tgt := 18) hx hb dL_law_1573 (by decide) ?_
            refine lv_iload_n hx hb dL_law_18 rfl (lv_at hl 0 rfl) ?_
            refine lv_aload_n hx hb dL_law_19 rfl (lv_at hl 3 rfl) ?_
            refine va_slen hx hb hX hbl hbA hS dL_law_20 ?_
            refine lv_topi (fun y_414 ey_414 => ?_)
            obtain rfl : y_414 = 6 := ey_414.trans (by decide)
            refine lv_bipush (v := 6) hx hb dL_law_21 (by decide) ?_
            refine lv_isub hx hb dL_law_23 ?_
            refine lv_topi (fun y_415 ey_415 => ?_)
            obtain rfl : y_415 = 0 := ey_415.trans (by decide)
            refine lv_icmp_gt (tgt := 1576) hx hb dL_law_24 (by decide) (fun _ => ?_) (fun c_416 => absurd (by decide) c_416)
            refine lv_iconst (v := 1) hx hb dL_law_1576 (by decide) ?_
            refine va_forget (fun q hq => by have h := hS.2.2 q hq; rw [hAe] at h; exact h) ?_
            refine W.widen (k := 600000) (n := 7302250) (Nat.le_of_ble_eq_true rfl) (Nat.le_of_ble_eq_true rfl) ?_
            exact lw_ret hx hb hr hlocks dL_law_1577
      · refine lv_tableIn (off := 1333) (tgt := 1366) hx hb dL_law_33 (by decide) (by decide) (by decide) (by decide) ?_
        refine lv_aload_n hx hb dL_law_1366 rfl (lv_at hl 2 rfl) ?_
        refine lv_aload_n hx hb dL_law_1367 rfl (lv_at hl 3 rfl) ?_
        refine lv_iload_n hx hb dL_law_1368 rfl (lv_at hl 0 rfl) ?_
        refine lv_iconst (v := 1) hx hb dL_law_1369 (by decide) ?_
        refine lv_iadd hx hb dL_law_1370 ?_
        refine lv_topi (fun y_417 ey_417 => ?_)
        obtain rfl : y_417 = 1 := ey_417.trans (by decide)
        refine va_sld hx hb hX hbl hbA hS (show vp_in 1 6 from (by decide : ¬ ((1 : Int32) < 0 ∨ 6 ≤ Int32.toNatClampNeg 1))) dL_law_1371 ?_
        have hPc := hP.sub (ws' := [(a0, .inr (11, [.ref aP, .ref aD, .ref aT, .ref aR, .ref aF, .ref aU, .ref aH, .ref aM, .ref aW, .ref aN])), (aN, .inr (4, [.ref aF, .int 0, .int 0, .ref n3, .ref n4, .ref n5, .ref n6, .ref n7, .ref n8, .ref n9]))]) [0, 24] rfl
        refine vp_callSi (va_runV (As := [.int (xs (Int32.toNatClampNeg 1))]) (rest := []) ⟨hx, hb, hml, hown, hts⟩ (c_untell l D cI cB cL cZ a0 aP aD aT aR aF aU aH aM aW aN aF n3 n4 n5 n6 n7 n8 n9 (xs (Int32.toNatClampNeg 1))) (cwV 1 hts gL_law_X11_untell rfl rfl rfl (by decide +kernel) ⟨Nat.le_of_ble_eq_true rfl, Nat.le_of_ble_eq_true rfl⟩) ⟨xr_blind, va_recv hK hPc (ci := 11) (q0 := 0) rfl rfl, fun U hU hW => xr_mk hU hW hPc (hK.sub (tys' := [(cI, .int), (cB, .byte), (cL, .long), (cZ, .boolean)]) [0, 1, 2, 3] rfl)⟩ rfl rfl hl.1 rfl (lv_room (Nat.le_of_ble_eq_true rfl)) dL_law_1372 ⟨Nat.le_of_ble_eq_true rfl, Nat.le_of_ble_eq_true rfl⟩).run (fun r_418 hr_418 => ?_)
        clear hPc
        subst hr_418
        refine lv_aload_n hx hb dL_law_1375 rfl (lv_at hl 1 rfl) ?_
        refine lv_aload_n hx hb dL_law_1376 rfl (lv_at hl 3 rfl) ?_
        refine lv_iload_n hx hb dL_law_1377 rfl (lv_at hl 0 rfl) ?_
        refine lv_iconst (v := 1) hx hb dL_law_1378 (by decide) ?_
        refine lv_iadd hx hb dL_law_1379 ?_
        refine lv_topi (fun y_419 ey_419 => ?_)
        obtain rfl : y_419 = 1 := ey_419.trans (by decide)
        refine va_sld hx hb hX hbl hbA hS (show vp_in 1 6 from (by decide : ¬ ((1 : Int32) < 0 ∨ 6 ≤ Int32.toNatClampNeg 1))) dL_law_1380 ?_
        have hPc := hP.sub (ws' := [(am, .inr (12, MF ad 0 0 0 (-1) 0 0 0 0 0 0 0 0 0 0 0 0 0 0 0 0 0))]) [30] rfl
        refine vp_callSi (va_runV (As := [.int (xs (Int32.toNatClampNeg 1))]) (rest := [.int 0]) ⟨hx, hb, hml, hown, hts⟩ (m_untell l D cI cB cL cZ am ad 0 0 0 0 0 0 0 0 0 0 0 0 (xs (Int32.toNatClampNeg 1))) (cwV 1 hts gL_law_X12_untell rfl rfl rfl (by decide +kernel) ⟨Nat.le_of_ble_eq_true rfl, Nat.le_of_ble_eq_true rfl⟩) ⟨xr_blind, va_recv hK hPc (ci := 12) (q0 := 0) rfl rfl, fun U hU hW => xr_mk hU hW hPc (hK.sub (tys' := [(cI, .int), (cB, .byte), (cL, .long), (cZ, .boolean)]) [0, 1, 2, 3] rfl)⟩ rfl rfl hl.1 rfl (lv_room (Nat.le_of_ble_eq_true rfl)) dL_law_1381 ⟨Nat.le_of_ble_eq_true rfl, Nat.le_of_ble_eq_true rfl⟩).run (fun r_420 hr_420 => ?_)
        clear hPc
        subst hr_420
        refine lv_icmp_eq (tgt := 1570) hx hb dL_law_1384 (by decide) (fun _ => ?_) (fun c_421 => absurd (by decide) c_421)
        refine lv_iinc (v := 6) (lv' := [(3, .int 6), (2, .ref am), (1, .ref a0), (0, .ref b)]) hx hb dL_law_1570 hl (k := 0) rfl (by decide) (by decide) rfl (fun ls hl => ?_)
        refine lv_goto (tgt := 18) hx hb dL_law_1573 (by decide) ?_
        refine lv_iload_n hx hb dL_law_18 rfl (lv_at hl 0 rfl) ?_
        refine lv_aload_n hx hb dL_law_19 rfl (lv_at hl 3 rfl) ?_
        refine va_slen hx hb hX hbl hbA hS dL_law_20 ?_
        refine lv_topi (fun y_422 ey_422 => ?_)
        obtain rfl : y_422 = 6 := ey_422.trans (by decide)
        refine lv_bipush (v := 6) hx hb dL_law_21 (by decide) ?_
        refine lv_isub hx hb dL_law_23 ?_
        refine lv_topi (fun y_423 ey_423 => ?_)
        obtain rfl : y_423 = 0 := ey_423.trans (by decide)
        refine lv_icmp_gt (tgt := 1576) hx hb dL_law_24 (by decide) (fun _ => ?_) (fun c_424 => absurd (by decide) c_424)
        refine lv_iconst (v := 1) hx hb dL_law_1576 (by decide) ?_
        refine va_forget (fun q hq => by have h := hS.2.2 q hq; rw [hAe] at h; exact h) ?_
        refine W.widen (k := 600000) (n := 7302250) (Nat.le_of_ble_eq_true rfl) (Nat.le_of_ble_eq_true rfl) ?_
        exact lw_ret hx hb hr hlocks dL_law_1577
      · refine lv_tableIn (off := 1356) (tgt := 1389) hx hb dL_law_33 (by decide) (by decide) (by decide) (by decide) ?_
        refine lv_aload_n hx hb dL_law_1389 rfl (lv_at hl 2 rfl) ?_
        refine lv_aload_n hx hb dL_law_1390 rfl (lv_at hl 3 rfl) ?_
        refine lv_iload_n hx hb dL_law_1391 rfl (lv_at hl 0 rfl) ?_
        refine lv_iconst (v := 1) hx hb dL_law_1392 (by decide) ?_
        refine lv_iadd hx hb dL_law_1393 ?_
        refine lv_topi (fun y_425 ey_425 => ?_)
        obtain rfl : y_425 = 1 := ey_425.trans (by decide)
        refine va_sld hx hb hX hbl hbA hS (show vp_in 1 6 from (by decide : ¬ ((1 : Int32) < 0 ∨ 6 ≤ Int32.toNatClampNeg 1))) dL_law_1394 ?_
        have hPc := hP.sub (ws' := [(a0, .inr (11, [.ref aP, .ref aD, .ref aT, .ref aR, .ref aF, .ref aU, .ref aH, .ref aM, .ref aW, .ref aN])), (aN, .inr (4, [.ref aF, .int 0, .int 0, .ref n3, .ref n4, .ref n5, .ref n6, .ref n7, .ref n8, .ref n9]))]) [0, 24] rfl
        have hDc := hD.sub (ws' := [(a0, .inr (11, [.ref aP, .ref aD, .ref aT, .ref aR, .ref aF, .ref aU, .ref aH, .ref aM, .ref aW, .ref aN])), (aN, .inr (4, [.ref aF, .int 0, .int 0, .ref n3, .ref n4, .ref n5, .ref n6, .ref n7, .ref n8, .ref n9]))]) [0, 24] (by decide) rfl
        have hFc := va_free (wc := [(a0, .inr (11, [.ref aP, .ref aD, .ref aT, .ref aR, .ref aF, .ref aU, .ref aH, .ref aM, .ref aW, .ref aN])), (aN, .inr (4, [.ref aF, .int 0, .int 0, .ref n3, .ref n4, .ref n5, .ref n6, .ref n7, .ref n8, .ref n9]))]) hD hS hA [0, 24] rfl
        refine va_calli (va_runV (As := [.int (xs (Int32.toNatClampNeg 1))]) (rest := []) ⟨hx, hb, hml, hown, hts⟩ (c_later l D cI cB cL cZ a0 aP aD aT aR aF aU aH aM aW aN aF n3 n4 n5 n6 n7 n8 n9 (xs (Int32.toNatClampNeg 1)) H.size) (cwV 1 hts gL_law_X11_later rfl rfl rfl (by decide +kernel) ⟨Nat.le_of_ble_eq_true rfl, Nat.le_of_ble_eq_true rfl⟩) ⟨xp_blind, va_recv hK hPc (ci := 11) (q0 := 0) rfl rfl, fun U hU hW => xp_mk hU hW hPc (hK.sub (tys' := [(cI, .int), (cB, .byte), (cL, .long), (cZ, .boolean)]) [0, 1, 2, 3] rfl) hDc xNw_nil⟩ rfl rfl hl.1 rfl (lv_room (Nat.le_of_ble_eq_true rfl)) dL_law_1395 ⟨Nat.le_of_ble_eq_true rfl, Nat.le_of_ble_eq_true rfl⟩) hS (fun q _ h => hFc q h) hFc (fun r_426 u9 t9 H1 locs ht9 hvm9 hr_426 hB9 hz9 hk9 hS => ?_)
        clear hB9 hz9 hPc hDc
        obtain ⟨hP, hD⟩ := va_join (wr := [(aP, .inr (5, PF pz su)), (su, .inr (1, [.ref s0, .ref s1, .ref s2, .int 0, .int 0, .int 0])), (aD, .inr (5, PF pq sq)), (sq, .inr (1, [.ref z0, .ref z1, .ref z2, .int 0, .int 0, .int 0])), (aT, .inr (8, [.ref tb, .int 0])), (tb, .inl (cB, 1600, .inl fb)), (aR, .inr (6, [.ref rt, .ref aD, .int 0, .int (-1)])), (rt, .inr (9, [.ref aT, .ref to, .int 0, .int 0, .int 0, .long 0, .int 0])), (aF, .inr (0, [.ref aP, .ref fx, .ref fr, .ref fe, .int 0])), (fx, .inl (cI, 8, .inl fxf)), (fr, .inl (cI, 64, .inl frf)), (aU, .inr (7, [.ref aF, .ref ul, .int 0, .ref uc, .ref ue])), (aM, .inr (3, [.ref aF, .ref mo, .ref ma, .ref mk, .int 0, .int 0, .int 0, .ref mb, .ref mf])), (mo, .inl (cI, 32, .inl fn)), (mk, .inl (cG, 41, .inr (.inr (.inr (.inr kr))))), (r0, .inl (cI, 32, .inl w0)), (r1, .inl (cI, 32, .inl w1)), (mb, .inl (cG, 3, .inr (.inr (.inr (.inr br))))), (b0, .inl (cI, 32, .inl u0)), (b1, .inl (cI, 32, .inl u1)), (b2, .inl (cI, 32, .inl u2)), (mf, .inl (cZ, 3, .inl ff)), (aW, .inr (10, [.ref aM])), (n3, .inl (cI, 30, .inl g3)), (n4, .inl (cI, 30, .inl g4)), (n5, .inl (cI, 30, .inl g5)), (n6, .inl (cI, 30, .inl g6)), (n7, .inl (cI, 8, .inl fo7)), (am, .inr (12, MF ad 0 0 0 (-1) 0 0 0 0 0 0 0 0 0 0 0 0 0 0 0 0 0)), ((ad 11), .inl (cI, 2, .inl fR)), ((ad 12), .inl (cI, 2, .inl fD)), ((ad 13), .inl (cI, 2, .inl fT)), ((ad 14), .inl (cI, 2, .inl fU)), ((ad 15), .inl (cI, 2, .inl fW)), ((ad 26), .inl (cZ, 2, .inl fS)), ((ad 27), .inl (cZ, 2, .inl fX)), ((ad 42), .inl (cI, 32, .inl fA)), ((ad 70), .inl (cZ, 3, .inl fB)), ((ad 0), .inl (cB, 1620, .inl ft)), ((ad 59), .inl (cI, 30, .inl t0)), ((ad 60), .inl (cI, 30, .inl t1)), ((ad 61), .inl (cI, 30, .inl t2)), ((ad 62), .inl (cI, 30, .inl t3)), ((ad 63), .inl (cI, 30, .inl t4)), ((ad 64), .inl (cI, 30, .inl t5)), ((ad 57), .inl (cI, 64, .inl fk)), ((ad 45), .inl (cI, 1312, .inl fw)), ((ad 69), .inl (cI, 96, .inl fbm))]) (w1 := []) hP hD [0, 24] [1, 2, 3, 4, 5, 6, 7, 8, 9, 10, 11, 12, 13, 14, 15, 16, 17, 18, 19, 20, 21, 22, 23, 25, 26, 27, 28, 29, 30, 31, 32, 33, 34, 35, 36, 37, 38, 39, 40, 41, 42, 43, 44, 45, 46, 47, 48, 49] rfl rfl (by decide) (by decide) hk9 hFc (fun k q h => by simp at h) ⟨fun i j p q h => by simp at h, fun k q h => by simp at h⟩
        clear hk9 hFc ht9 hvm9
        generalize H1 = H at hP hS ⊢
        replace hP : va_P D classes [(aP, .inr (5, PF pz su)), (su, .inr (1, [.ref s0, .ref s1, .ref s2, .int 0, .int 0, .int 0])), (aD, .inr (5, PF pq sq)), (sq, .inr (1, [.ref z0, .ref z1, .ref z2, .int 0, .int 0, .int 0])), (aT, .inr (8, [.ref tb, .int 0])), (tb, .inl (cB, 1600, .inl fb)), (aR, .inr (6, [.ref rt, .ref aD, .int 0, .int (-1)])), (rt, .inr (9, [.ref aT, .ref to, .int 0, .int 0, .int 0, .long 0, .int 0])), (aF, .inr (0, [.ref aP, .ref fx, .ref fr, .ref fe, .int 0])), (fx, .inl (cI, 8, .inl fxf)), (fr, .inl (cI, 64, .inl frf)), (aU, .inr (7, [.ref aF, .ref ul, .int 0, .ref uc, .ref ue])), (aM, .inr (3, [.ref aF, .ref mo, .ref ma, .ref mk, .int 0, .int 0, .int 0, .ref mb, .ref mf])), (mo, .inl (cI, 32, .inl fn)), (mk, .inl (cG, 41, .inr (.inr (.inr (.inr kr))))), (r0, .inl (cI, 32, .inl w0)), (r1, .inl (cI, 32, .inl w1)), (mb, .inl (cG, 3, .inr (.inr (.inr (.inr br))))), (b0, .inl (cI, 32, .inl u0)), (b1, .inl (cI, 32, .inl u1)), (b2, .inl (cI, 32, .inl u2)), (mf, .inl (cZ, 3, .inl ff)), (aW, .inr (10, [.ref aM])), (n3, .inl (cI, 30, .inl g3)), (n4, .inl (cI, 30, .inl g4)), (n5, .inl (cI, 30, .inl g5)), (n6, .inl (cI, 30, .inl g6)), (n7, .inl (cI, 8, .inl fo7)), (am, .inr (12, MF ad 0 0 0 (-1) 0 0 0 0 0 0 0 0 0 0 0 0 0 0 0 0 0)), ((ad 11), .inl (cI, 2, .inl fR)), ((ad 12), .inl (cI, 2, .inl fD)), ((ad 13), .inl (cI, 2, .inl fT)), ((ad 14), .inl (cI, 2, .inl fU)), ((ad 15), .inl (cI, 2, .inl fW)), ((ad 26), .inl (cZ, 2, .inl fS)), ((ad 27), .inl (cZ, 2, .inl fX)), ((ad 42), .inl (cI, 32, .inl fA)), ((ad 70), .inl (cZ, 3, .inl fB)), ((ad 0), .inl (cB, 1620, .inl ft)), ((ad 59), .inl (cI, 30, .inl t0)), ((ad 60), .inl (cI, 30, .inl t1)), ((ad 61), .inl (cI, 30, .inl t2)), ((ad 62), .inl (cI, 30, .inl t3)), ((ad 63), .inl (cI, 30, .inl t4)), ((ad 64), .inl (cI, 30, .inl t5)), ((ad 57), .inl (cI, 64, .inl fk)), ((ad 45), .inl (cI, 1312, .inl fw)), ((ad 69), .inl (cI, 96, .inl fbm))] H := hP
        replace hD : va_D A [(aP, .inr (5, PF pz su)), (su, .inr (1, [.ref s0, .ref s1, .ref s2, .int 0, .int 0, .int 0])), (aD, .inr (5, PF pq sq)), (sq, .inr (1, [.ref z0, .ref z1, .ref z2, .int 0, .int 0, .int 0])), (aT, .inr (8, [.ref tb, .int 0])), (tb, .inl (cB, 1600, .inl fb)), (aR, .inr (6, [.ref rt, .ref aD, .int 0, .int (-1)])), (rt, .inr (9, [.ref aT, .ref to, .int 0, .int 0, .int 0, .long 0, .int 0])), (aF, .inr (0, [.ref aP, .ref fx, .ref fr, .ref fe, .int 0])), (fx, .inl (cI, 8, .inl fxf)), (fr, .inl (cI, 64, .inl frf)), (aU, .inr (7, [.ref aF, .ref ul, .int 0, .ref uc, .ref ue])), (aM, .inr (3, [.ref aF, .ref mo, .ref ma, .ref mk, .int 0, .int 0, .int 0, .ref mb, .ref mf])), (mo, .inl (cI, 32, .inl fn)), (mk, .inl (cG, 41, .inr (.inr (.inr (.inr kr))))), (r0, .inl (cI, 32, .inl w0)), (r1, .inl (cI, 32, .inl w1)), (mb, .inl (cG, 3, .inr (.inr (.inr (.inr br))))), (b0, .inl (cI, 32, .inl u0)), (b1, .inl (cI, 32, .inl u1)), (b2, .inl (cI, 32, .inl u2)), (mf, .inl (cZ, 3, .inl ff)), (aW, .inr (10, [.ref aM])), (n3, .inl (cI, 30, .inl g3)), (n4, .inl (cI, 30, .inl g4)), (n5, .inl (cI, 30, .inl g5)), (n6, .inl (cI, 30, .inl g6)), (n7, .inl (cI, 8, .inl fo7)), (am, .inr (12, MF ad 0 0 0 (-1) 0 0 0 0 0 0 0 0 0 0 0 0 0 0 0 0 0)), ((ad 11), .inl (cI, 2, .inl fR)), ((ad 12), .inl (cI, 2, .inl fD)), ((ad 13), .inl (cI, 2, .inl fT)), ((ad 14), .inl (cI, 2, .inl fU)), ((ad 15), .inl (cI, 2, .inl fW)), ((ad 26), .inl (cZ, 2, .inl fS)), ((ad 27), .inl (cZ, 2, .inl fX)), ((ad 42), .inl (cI, 32, .inl fA)), ((ad 70), .inl (cZ, 3, .inl fB)), ((ad 0), .inl (cB, 1620, .inl ft)), ((ad 59), .inl (cI, 30, .inl t0)), ((ad 60), .inl (cI, 30, .inl t1)), ((ad 61), .inl (cI, 30, .inl t2)), ((ad 62), .inl (cI, 30, .inl t3)), ((ad 63), .inl (cI, 30, .inl t4)), ((ad 64), .inl (cI, 30, .inl t5)), ((ad 57), .inl (cI, 64, .inl fk)), ((ad 45), .inl (cI, 1312, .inl fw)), ((ad 69), .inl (cI, 96, .inl fbm))] := hD
        subst hr_426
        refine lv_aload_n hx hb dL_law_1398 rfl (lv_at hl 1 rfl) ?_
        refine lv_aload_n hx hb dL_law_1399 rfl (lv_at hl 3 rfl) ?_
        refine lv_iload_n hx hb dL_law_1400 rfl (lv_at hl 0 rfl) ?_
        refine lv_iconst (v := 1) hx hb dL_law_1401 (by decide) ?_
        refine lv_iadd hx hb dL_law_1402 ?_
        refine lv_topi (fun y_427 ey_427 => ?_)
        obtain rfl : y_427 = 1 := ey_427.trans (by decide)
        refine va_sld hx hb hX hbl hbA hS (show vp_in 1 6 from (by decide : ¬ ((1 : Int32) < 0 ∨ 6 ≤ Int32.toNatClampNeg 1))) dL_law_1403 ?_
        have hPc := hP.sub (ws' := [(am, .inr (12, MF ad 0 0 0 (-1) 0 0 0 0 0 0 0 0 0 0 0 0 0 0 0 0 0))]) [28] rfl
        have hDc := hD.sub (ws' := [(am, .inr (12, MF ad 0 0 0 (-1) 0 0 0 0 0 0 0 0 0 0 0 0 0 0 0 0 0))]) [28] (by decide) rfl
        have hFc := va_free (wc := [(am, .inr (12, MF ad 0 0 0 (-1) 0 0 0 0 0 0 0 0 0 0 0 0 0 0 0 0 0))]) hD hS hA [28] rfl
        refine va_calli (va_runV (As := [.int (xs (Int32.toNatClampNeg 1))]) (rest := [.int (sp_later xs (Int32.toNatClampNeg 1))]) ⟨hx, hb, hml, hown, hts⟩ (m_later l D cI cB cL cZ am ad 0 0 0 0 0 0 0 0 0 0 0 0 (xs (Int32.toNatClampNeg 1)) H.size) (cwV 1 hts gL_law_X12_later rfl rfl rfl (by decide +kernel) ⟨Nat.le_of_ble_eq_true rfl, Nat.le_of_ble_eq_true rfl⟩) ⟨xp_blind, va_recv hK hPc (ci := 12) (q0 := 0) rfl rfl, fun U hU hW => xp_mk hU hW hPc (hK.sub (tys' := [(cI, .int), (cB, .byte), (cL, .long), (cZ, .boolean)]) [0, 1, 2, 3] rfl) hDc xNw_nil⟩ rfl rfl hl.1 rfl (lv_room (Nat.le_of_ble_eq_true rfl)) dL_law_1404 ⟨Nat.le_of_ble_eq_true rfl, Nat.le_of_ble_eq_true rfl⟩) hS (fun q _ h => hFc q h) hFc (fun r_428 u9 t9 H1 locs ht9 hvm9 hr_428 hB9 hz9 hk9 hS => ?_)
        clear hB9 hz9 hPc hDc
        obtain ⟨hP, hD⟩ := va_join (wr := [(aP, .inr (5, PF pz su)), (su, .inr (1, [.ref s0, .ref s1, .ref s2, .int 0, .int 0, .int 0])), (aD, .inr (5, PF pq sq)), (sq, .inr (1, [.ref z0, .ref z1, .ref z2, .int 0, .int 0, .int 0])), (aT, .inr (8, [.ref tb, .int 0])), (tb, .inl (cB, 1600, .inl fb)), (aR, .inr (6, [.ref rt, .ref aD, .int 0, .int (-1)])), (rt, .inr (9, [.ref aT, .ref to, .int 0, .int 0, .int 0, .long 0, .int 0])), (aF, .inr (0, [.ref aP, .ref fx, .ref fr, .ref fe, .int 0])), (fx, .inl (cI, 8, .inl fxf)), (fr, .inl (cI, 64, .inl frf)), (aU, .inr (7, [.ref aF, .ref ul, .int 0, .ref uc, .ref ue])), (aM, .inr (3, [.ref aF, .ref mo, .ref ma, .ref mk, .int 0, .int 0, .int 0, .ref mb, .ref mf])), (mo, .inl (cI, 32, .inl fn)), (mk, .inl (cG, 41, .inr (.inr (.inr (.inr kr))))), (r0, .inl (cI, 32, .inl w0)), (r1, .inl (cI, 32, .inl w1)), (mb, .inl (cG, 3, .inr (.inr (.inr (.inr br))))), (b0, .inl (cI, 32, .inl u0)), (b1, .inl (cI, 32, .inl u1)), (b2, .inl (cI, 32, .inl u2)), (mf, .inl (cZ, 3, .inl ff)), (aW, .inr (10, [.ref aM])), (n3, .inl (cI, 30, .inl g3)), (n4, .inl (cI, 30, .inl g4)), (n5, .inl (cI, 30, .inl g5)), (n6, .inl (cI, 30, .inl g6)), (n7, .inl (cI, 8, .inl fo7)), ((ad 11), .inl (cI, 2, .inl fR)), ((ad 12), .inl (cI, 2, .inl fD)), ((ad 13), .inl (cI, 2, .inl fT)), ((ad 14), .inl (cI, 2, .inl fU)), ((ad 15), .inl (cI, 2, .inl fW)), ((ad 26), .inl (cZ, 2, .inl fS)), ((ad 27), .inl (cZ, 2, .inl fX)), ((ad 42), .inl (cI, 32, .inl fA)), ((ad 70), .inl (cZ, 3, .inl fB)), ((ad 0), .inl (cB, 1620, .inl ft)), ((ad 59), .inl (cI, 30, .inl t0)), ((ad 60), .inl (cI, 30, .inl t1)), ((ad 61), .inl (cI, 30, .inl t2)), ((ad 62), .inl (cI, 30, .inl t3)), ((ad 63), .inl (cI, 30, .inl t4)), ((ad 64), .inl (cI, 30, .inl t5)), ((ad 57), .inl (cI, 64, .inl fk)), ((ad 45), .inl (cI, 1312, .inl fw)), ((ad 69), .inl (cI, 96, .inl fbm))]) (w1 := []) hP hD [28] [0, 1, 2, 3, 4, 5, 6, 7, 8, 9, 10, 11, 12, 13, 14, 15, 16, 17, 18, 19, 20, 21, 22, 23, 24, 25, 26, 27, 29, 30, 31, 32, 33, 34, 35, 36, 37, 38, 39, 40, 41, 42, 43, 44, 45, 46, 47] rfl rfl (by decide) (by decide) hk9 hFc (fun k q h => by simp at h) ⟨fun i j p q h => by simp at h, fun k q h => by simp at h⟩
        clear hk9 hFc ht9 hvm9
        generalize H1 = H at hP hS ⊢
        replace hP : va_P D classes [(aP, .inr (5, PF pz su)), (su, .inr (1, [.ref s0, .ref s1, .ref s2, .int 0, .int 0, .int 0])), (aD, .inr (5, PF pq sq)), (sq, .inr (1, [.ref z0, .ref z1, .ref z2, .int 0, .int 0, .int 0])), (aT, .inr (8, [.ref tb, .int 0])), (tb, .inl (cB, 1600, .inl fb)), (aR, .inr (6, [.ref rt, .ref aD, .int 0, .int (-1)])), (rt, .inr (9, [.ref aT, .ref to, .int 0, .int 0, .int 0, .long 0, .int 0])), (aF, .inr (0, [.ref aP, .ref fx, .ref fr, .ref fe, .int 0])), (fx, .inl (cI, 8, .inl fxf)), (fr, .inl (cI, 64, .inl frf)), (aU, .inr (7, [.ref aF, .ref ul, .int 0, .ref uc, .ref ue])), (aM, .inr (3, [.ref aF, .ref mo, .ref ma, .ref mk, .int 0, .int 0, .int 0, .ref mb, .ref mf])), (mo, .inl (cI, 32, .inl fn)), (mk, .inl (cG, 41, .inr (.inr (.inr (.inr kr))))), (r0, .inl (cI, 32, .inl w0)), (r1, .inl (cI, 32, .inl w1)), (mb, .inl (cG, 3, .inr (.inr (.inr (.inr br))))), (b0, .inl (cI, 32, .inl u0)), (b1, .inl (cI, 32, .inl u1)), (b2, .inl (cI, 32, .inl u2)), (mf, .inl (cZ, 3, .inl ff)), (aW, .inr (10, [.ref aM])), (n3, .inl (cI, 30, .inl g3)), (n4, .inl (cI, 30, .inl g4)), (n5, .inl (cI, 30, .inl g5)), (n6, .inl (cI, 30, .inl g6)), (n7, .inl (cI, 8, .inl fo7)), ((ad 11), .inl (cI, 2, .inl fR)), ((ad 12), .inl (cI, 2, .inl fD)), ((ad 13), .inl (cI, 2, .inl fT)), ((ad 14), .inl (cI, 2, .inl fU)), ((ad 15), .inl (cI, 2, .inl fW)), ((ad 26), .inl (cZ, 2, .inl fS)), ((ad 27), .inl (cZ, 2, .inl fX)), ((ad 42), .inl (cI, 32, .inl fA)), ((ad 70), .inl (cZ, 3, .inl fB)), ((ad 0), .inl (cB, 1620, .inl ft)), ((ad 59), .inl (cI, 30, .inl t0)), ((ad 60), .inl (cI, 30, .inl t1)), ((ad 61), .inl (cI, 30, .inl t2)), ((ad 62), .inl (cI, 30, .inl t3)), ((ad 63), .inl (cI, 30, .inl t4)), ((ad 64), .inl (cI, 30, .inl t5)), ((ad 57), .inl (cI, 64, .inl fk)), ((ad 45), .inl (cI, 1312, .inl fw)), ((ad 69), .inl (cI, 96, .inl fbm))] H := hP
        replace hD : va_D A [(aP, .inr (5, PF pz su)), (su, .inr (1, [.ref s0, .ref s1, .ref s2, .int 0, .int 0, .int 0])), (aD, .inr (5, PF pq sq)), (sq, .inr (1, [.ref z0, .ref z1, .ref z2, .int 0, .int 0, .int 0])), (aT, .inr (8, [.ref tb, .int 0])), (tb, .inl (cB, 1600, .inl fb)), (aR, .inr (6, [.ref rt, .ref aD, .int 0, .int (-1)])), (rt, .inr (9, [.ref aT, .ref to, .int 0, .int 0, .int 0, .long 0, .int 0])), (aF, .inr (0, [.ref aP, .ref fx, .ref fr, .ref fe, .int 0])), (fx, .inl (cI, 8, .inl fxf)), (fr, .inl (cI, 64, .inl frf)), (aU, .inr (7, [.ref aF, .ref ul, .int 0, .ref uc, .ref ue])), (aM, .inr (3, [.ref aF, .ref mo, .ref ma, .ref mk, .int 0, .int 0, .int 0, .ref mb, .ref mf])), (mo, .inl (cI, 32, .inl fn)), (mk, .inl (cG, 41, .inr (.inr (.inr (.inr kr))))), (r0, .inl (cI, 32, .inl w0)), (r1, .inl (cI, 32, .inl w1)), (mb, .inl (cG, 3, .inr (.inr (.inr (.inr br))))), (b0, .inl (cI, 32, .inl u0)), (b1, .inl (cI, 32, .inl u1)), (b2, .inl (cI, 32, .inl u2)), (mf, .inl (cZ, 3, .inl ff)), (aW, .inr (10, [.ref aM])), (n3, .inl (cI, 30, .inl g3)), (n4, .inl (cI, 30, .inl g4)), (n5, .inl (cI, 30, .inl g5)), (n6, .inl (cI, 30, .inl g6)), (n7, .inl (cI, 8, .inl fo7)), ((ad 11), .inl (cI, 2, .inl fR)), ((ad 12), .inl (cI, 2, .inl fD)), ((ad 13), .inl (cI, 2, .inl fT)), ((ad 14), .inl (cI, 2, .inl fU)), ((ad 15), .inl (cI, 2, .inl fW)), ((ad 26), .inl (cZ, 2, .inl fS)), ((ad 27), .inl (cZ, 2, .inl fX)), ((ad 42), .inl (cI, 32, .inl fA)), ((ad 70), .inl (cZ, 3, .inl fB)), ((ad 0), .inl (cB, 1620, .inl ft)), ((ad 59), .inl (cI, 30, .inl t0)), ((ad 60), .inl (cI, 30, .inl t1)), ((ad 61), .inl (cI, 30, .inl t2)), ((ad 62), .inl (cI, 30, .inl t3)), ((ad 63), .inl (cI, 30, .inl t4)), ((ad 64), .inl (cI, 30, .inl t5)), ((ad 57), .inl (cI, 64, .inl fk)), ((ad 45), .inl (cI, 1312, .inl fw)), ((ad 69), .inl (cI, 96, .inl fbm))] := hD
        subst hr_428
        refine lv_icmp_eq (tgt := 1570) hx hb dL_law_1407 (by decide) (fun _ => ?_) (fun c9 => absurd rfl c9)
        refine lv_iinc (v := 6) (lv' := [(3, .int 6), (2, .ref am), (1, .ref a0), (0, .ref b)]) hx hb dL_law_1570 hl (k := 0) rfl (by decide) (by decide) rfl (fun ls hl => ?_)
        refine lv_goto (tgt := 18) hx hb dL_law_1573 (by decide) ?_
        refine lv_iload_n hx hb dL_law_18 rfl (lv_at hl 0 rfl) ?_
        refine lv_aload_n hx hb dL_law_19 rfl (lv_at hl 3 rfl) ?_
        refine va_slen hx hb hX hbl hbA hS dL_law_20 ?_
        refine lv_topi (fun y_429 ey_429 => ?_)
        obtain rfl : y_429 = 6 := ey_429.trans (by decide)
        refine lv_bipush (v := 6) hx hb dL_law_21 (by decide) ?_
        refine lv_isub hx hb dL_law_23 ?_
        refine lv_topi (fun y_430 ey_430 => ?_)
        obtain rfl : y_430 = 0 := ey_430.trans (by decide)
        refine lv_icmp_gt (tgt := 1576) hx hb dL_law_24 (by decide) (fun _ => ?_) (fun c_431 => absurd (by decide) c_431)
        refine lv_iconst (v := 1) hx hb dL_law_1576 (by decide) ?_
        refine va_forget (fun q hq => by have h := hS.2.2 q hq; rw [hAe] at h; exact h) ?_
        refine W.widen (k := 600000) (n := 7302250) (Nat.le_of_ble_eq_true rfl) (Nat.le_of_ble_eq_true rfl) ?_
        exact lw_ret hx hb hr hlocks dL_law_1577
      · refine lv_tableIn (off := 1379) (tgt := 1412) hx hb dL_law_33 (by decide) (by decide) (by decide) (by decide) ?_
        refine lv_aload_n hx hb dL_law_1412 rfl (lv_at hl 2 rfl) ?_
        refine lv_aload_n hx hb dL_law_1413 rfl (lv_at hl 3 rfl) ?_
        refine lv_iload_n hx hb dL_law_1414 rfl (lv_at hl 0 rfl) ?_
        refine lv_iconst (v := 1) hx hb dL_law_1415 (by decide) ?_
        refine lv_iadd hx hb dL_law_1416 ?_
        refine lv_topi (fun y_432 ey_432 => ?_)
        obtain rfl : y_432 = 1 := ey_432.trans (by decide)
        refine va_sld hx hb hX hbl hbA hS (show vp_in 1 6 from (by decide : ¬ ((1 : Int32) < 0 ∨ 6 ≤ Int32.toNatClampNeg 1))) dL_law_1417 ?_
        have hPc := hP.sub (ws' := [(a0, .inr (11, [.ref aP, .ref aD, .ref aT, .ref aR, .ref aF, .ref aU, .ref aH, .ref aM, .ref aW, .ref aN])), (aN, .inr (4, [.ref aF, .int 0, .int 0, .ref n3, .ref n4, .ref n5, .ref n6, .ref n7, .ref n8, .ref n9])), (n7, .inl (cI, 8, .inl fo7)), (aF, .inr (0, [.ref aP, .ref fx, .ref fr, .ref fe, .int 0])), (aP, .inr (5, PF pz su))]) [0, 24, 29, 9, 1] rfl
        have hDc := hD.sub (ws' := [(a0, .inr (11, [.ref aP, .ref aD, .ref aT, .ref aR, .ref aF, .ref aU, .ref aH, .ref aM, .ref aW, .ref aN])), (aN, .inr (4, [.ref aF, .int 0, .int 0, .ref n3, .ref n4, .ref n5, .ref n6, .ref n7, .ref n8, .ref n9])), (n7, .inl (cI, 8, .inl fo7)), (aF, .inr (0, [.ref aP, .ref fx, .ref fr, .ref fe, .int 0])), (aP, .inr (5, PF pz su))]) [0, 24, 29, 9, 1] (by decide) rfl
        have hFc := va_free (wc := [(a0, .inr (11, [.ref aP, .ref aD, .ref aT, .ref aR, .ref aF, .ref aU, .ref aH, .ref aM, .ref aW, .ref aN])), (aN, .inr (4, [.ref aF, .int 0, .int 0, .ref n3, .ref n4, .ref n5, .ref n6, .ref n7, .ref n8, .ref n9])), (n7, .inl (cI, 8, .inl fo7)), (aF, .inr (0, [.ref aP, .ref fx, .ref fr, .ref fe, .int 0])), (aP, .inr (5, PF pz su))]) hD hS hA [0, 24, 29, 9, 1] rfl
        refine va_calli (va_runV (As := [.int (xs (Int32.toNatClampNeg 1))]) (rest := []) ⟨hx, hb, hml, hown, hts⟩ (c_walks l D cI cB cL cZ a0 aP aD aT aR aF aU aH aM aW aN n3 n4 n5 n6 n7 n8 n9 fo7 fx fr fe pz su (xs (Int32.toNatClampNeg 1)) H.size) (cwV 1 hts gL_law_X11_walks rfl rfl rfl (by decide +kernel) ⟨Nat.le_of_ble_eq_true rfl, Nat.le_of_ble_eq_true rfl⟩) ⟨xp_blind, va_recv hK hPc (ci := 11) (q0 := 0) rfl rfl, fun U hU hW => xp_mk hU hW hPc (hK.sub (tys' := [(cI, .int), (cB, .byte), (cL, .long), (cZ, .boolean)]) [0, 1, 2, 3] rfl) hDc xNw_nil⟩ rfl rfl hl.1 rfl (lv_room (Nat.le_of_ble_eq_true rfl)) dL_law_1418 ⟨Nat.le_of_ble_eq_true rfl, Nat.le_of_ble_eq_true rfl⟩) hS (fun q _ h => hFc q h) hFc (fun r_433 u9 t9 H1 locs ht9 hvm9 hr_433 hB9 hz9 hk9 hS => ?_)
        clear hB9 hz9 hPc hDc
        obtain ⟨hP, hD⟩ := va_join (wr := [(su, .inr (1, [.ref s0, .ref s1, .ref s2, .int 0, .int 0, .int 0])), (aD, .inr (5, PF pq sq)), (sq, .inr (1, [.ref z0, .ref z1, .ref z2, .int 0, .int 0, .int 0])), (aT, .inr (8, [.ref tb, .int 0])), (tb, .inl (cB, 1600, .inl fb)), (aR, .inr (6, [.ref rt, .ref aD, .int 0, .int (-1)])), (rt, .inr (9, [.ref aT, .ref to, .int 0, .int 0, .int 0, .long 0, .int 0])), (fx, .inl (cI, 8, .inl fxf)), (fr, .inl (cI, 64, .inl frf)), (aU, .inr (7, [.ref aF, .ref ul, .int 0, .ref uc, .ref ue])), (aM, .inr (3, [.ref aF, .ref mo, .ref ma, .ref mk, .int 0, .int 0, .int 0, .ref mb, .ref mf])), (mo, .inl (cI, 32, .inl fn)), (mk, .inl (cG, 41, .inr (.inr (.inr (.inr kr))))), (r0, .inl (cI, 32, .inl w0)), (r1, .inl (cI, 32, .inl w1)), (mb, .inl (cG, 3, .inr (.inr (.inr (.inr br))))), (b0, .inl (cI, 32, .inl u0)), (b1, .inl (cI, 32, .inl u1)), (b2, .inl (cI, 32, .inl u2)), (mf, .inl (cZ, 3, .inl ff)), (aW, .inr (10, [.ref aM])), (n3, .inl (cI, 30, .inl g3)), (n4, .inl (cI, 30, .inl g4)), (n5, .inl (cI, 30, .inl g5)), (n6, .inl (cI, 30, .inl g6)), (am, .inr (12, MF ad 0 0 0 (-1) 0 0 0 0 0 0 0 0 0 0 0 0 0 0 0 0 0)), ((ad 11), .inl (cI, 2, .inl fR)), ((ad 12), .inl (cI, 2, .inl fD)), ((ad 13), .inl (cI, 2, .inl fT)), ((ad 14), .inl (cI, 2, .inl fU)), ((ad 15), .inl (cI, 2, .inl fW)), ((ad 26), .inl (cZ, 2, .inl fS)), ((ad 27), .inl (cZ, 2, .inl fX)), ((ad 42), .inl (cI, 32, .inl fA)), ((ad 70), .inl (cZ, 3, .inl fB)), ((ad 0), .inl (cB, 1620, .inl ft)), ((ad 59), .inl (cI, 30, .inl t0)), ((ad 60), .inl (cI, 30, .inl t1)), ((ad 61), .inl (cI, 30, .inl t2)), ((ad 62), .inl (cI, 30, .inl t3)), ((ad 63), .inl (cI, 30, .inl t4)), ((ad 64), .inl (cI, 30, .inl t5)), ((ad 57), .inl (cI, 64, .inl fk)), ((ad 45), .inl (cI, 1312, .inl fw)), ((ad 69), .inl (cI, 96, .inl fbm))]) (w1 := []) hP hD [0, 24, 29, 9, 1] [2, 3, 4, 5, 6, 7, 8, 10, 11, 12, 13, 14, 15, 16, 17, 18, 19, 20, 21, 22, 23, 25, 26, 27, 28, 30, 31, 32, 33, 34, 35, 36, 37, 38, 39, 40, 41, 42, 43, 44, 45, 46, 47, 48, 49] rfl rfl (by decide) (by decide) hk9 hFc (fun k q h => by simp at h) ⟨fun i j p q h => by simp at h, fun k q h => by simp at h⟩
        clear hk9 hFc ht9 hvm9
        generalize H1 = H at hP hS ⊢
        replace hP : va_P D classes [(su, .inr (1, [.ref s0, .ref s1, .ref s2, .int 0, .int 0, .int 0])), (aD, .inr (5, PF pq sq)), (sq, .inr (1, [.ref z0, .ref z1, .ref z2, .int 0, .int 0, .int 0])), (aT, .inr (8, [.ref tb, .int 0])), (tb, .inl (cB, 1600, .inl fb)), (aR, .inr (6, [.ref rt, .ref aD, .int 0, .int (-1)])), (rt, .inr (9, [.ref aT, .ref to, .int 0, .int 0, .int 0, .long 0, .int 0])), (fx, .inl (cI, 8, .inl fxf)), (fr, .inl (cI, 64, .inl frf)), (aU, .inr (7, [.ref aF, .ref ul, .int 0, .ref uc, .ref ue])), (aM, .inr (3, [.ref aF, .ref mo, .ref ma, .ref mk, .int 0, .int 0, .int 0, .ref mb, .ref mf])), (mo, .inl (cI, 32, .inl fn)), (mk, .inl (cG, 41, .inr (.inr (.inr (.inr kr))))), (r0, .inl (cI, 32, .inl w0)), (r1, .inl (cI, 32, .inl w1)), (mb, .inl (cG, 3, .inr (.inr (.inr (.inr br))))), (b0, .inl (cI, 32, .inl u0)), (b1, .inl (cI, 32, .inl u1)), (b2, .inl (cI, 32, .inl u2)), (mf, .inl (cZ, 3, .inl ff)), (aW, .inr (10, [.ref aM])), (n3, .inl (cI, 30, .inl g3)), (n4, .inl (cI, 30, .inl g4)), (n5, .inl (cI, 30, .inl g5)), (n6, .inl (cI, 30, .inl g6)), (am, .inr (12, MF ad 0 0 0 (-1) 0 0 0 0 0 0 0 0 0 0 0 0 0 0 0 0 0)), ((ad 11), .inl (cI, 2, .inl fR)), ((ad 12), .inl (cI, 2, .inl fD)), ((ad 13), .inl (cI, 2, .inl fT)), ((ad 14), .inl (cI, 2, .inl fU)), ((ad 15), .inl (cI, 2, .inl fW)), ((ad 26), .inl (cZ, 2, .inl fS)), ((ad 27), .inl (cZ, 2, .inl fX)), ((ad 42), .inl (cI, 32, .inl fA)), ((ad 70), .inl (cZ, 3, .inl fB)), ((ad 0), .inl (cB, 1620, .inl ft)), ((ad 59), .inl (cI, 30, .inl t0)), ((ad 60), .inl (cI, 30, .inl t1)), ((ad 61), .inl (cI, 30, .inl t2)), ((ad 62), .inl (cI, 30, .inl t3)), ((ad 63), .inl (cI, 30, .inl t4)), ((ad 64), .inl (cI, 30, .inl t5)), ((ad 57), .inl (cI, 64, .inl fk)), ((ad 45), .inl (cI, 1312, .inl fw)), ((ad 69), .inl (cI, 96, .inl fbm))] H := hP
        replace hD : va_D A [(su, .inr (1, [.ref s0, .ref s1, .ref s2, .int 0, .int 0, .int 0])), (aD, .inr (5, PF pq sq)), (sq, .inr (1, [.ref z0, .ref z1, .ref z2, .int 0, .int 0, .int 0])), (aT, .inr (8, [.ref tb, .int 0])), (tb, .inl (cB, 1600, .inl fb)), (aR, .inr (6, [.ref rt, .ref aD, .int 0, .int (-1)])), (rt, .inr (9, [.ref aT, .ref to, .int 0, .int 0, .int 0, .long 0, .int 0])), (fx, .inl (cI, 8, .inl fxf)), (fr, .inl (cI, 64, .inl frf)), (aU, .inr (7, [.ref aF, .ref ul, .int 0, .ref uc, .ref ue])), (aM, .inr (3, [.ref aF, .ref mo, .ref ma, .ref mk, .int 0, .int 0, .int 0, .ref mb, .ref mf])), (mo, .inl (cI, 32, .inl fn)), (mk, .inl (cG, 41, .inr (.inr (.inr (.inr kr))))), (r0, .inl (cI, 32, .inl w0)), (r1, .inl (cI, 32, .inl w1)), (mb, .inl (cG, 3, .inr (.inr (.inr (.inr br))))), (b0, .inl (cI, 32, .inl u0)), (b1, .inl (cI, 32, .inl u1)), (b2, .inl (cI, 32, .inl u2)), (mf, .inl (cZ, 3, .inl ff)), (aW, .inr (10, [.ref aM])), (n3, .inl (cI, 30, .inl g3)), (n4, .inl (cI, 30, .inl g4)), (n5, .inl (cI, 30, .inl g5)), (n6, .inl (cI, 30, .inl g6)), (am, .inr (12, MF ad 0 0 0 (-1) 0 0 0 0 0 0 0 0 0 0 0 0 0 0 0 0 0)), ((ad 11), .inl (cI, 2, .inl fR)), ((ad 12), .inl (cI, 2, .inl fD)), ((ad 13), .inl (cI, 2, .inl fT)), ((ad 14), .inl (cI, 2, .inl fU)), ((ad 15), .inl (cI, 2, .inl fW)), ((ad 26), .inl (cZ, 2, .inl fS)), ((ad 27), .inl (cZ, 2, .inl fX)), ((ad 42), .inl (cI, 32, .inl fA)), ((ad 70), .inl (cZ, 3, .inl fB)), ((ad 0), .inl (cB, 1620, .inl ft)), ((ad 59), .inl (cI, 30, .inl t0)), ((ad 60), .inl (cI, 30, .inl t1)), ((ad 61), .inl (cI, 30, .inl t2)), ((ad 62), .inl (cI, 30, .inl t3)), ((ad 63), .inl (cI, 30, .inl t4)), ((ad 64), .inl (cI, 30, .inl t5)), ((ad 57), .inl (cI, 64, .inl fk)), ((ad 45), .inl (cI, 1312, .inl fw)), ((ad 69), .inl (cI, 96, .inl fbm))] := hD
        subst hr_433
        refine lv_aload_n hx hb dL_law_1421 rfl (lv_at hl 1 rfl) ?_
        refine lv_aload_n hx hb dL_law_1422 rfl (lv_at hl 3 rfl) ?_
        refine lv_iload_n hx hb dL_law_1423 rfl (lv_at hl 0 rfl) ?_
        refine lv_iconst (v := 1) hx hb dL_law_1424 (by decide) ?_
        refine lv_iadd hx hb dL_law_1425 ?_
        refine lv_topi (fun y_434 ey_434 => ?_)
        obtain rfl : y_434 = 1 := ey_434.trans (by decide)
        refine va_sld hx hb hX hbl hbA hS (show vp_in 1 6 from (by decide : ¬ ((1 : Int32) < 0 ∨ 6 ≤ Int32.toNatClampNeg 1))) dL_law_1426 ?_
        have hPc := hP.sub (ws' := [(am, .inr (12, MF ad 0 0 0 (-1) 0 0 0 0 0 0 0 0 0 0 0 0 0 0 0 0 0)), ((ad 11), .inl (cI, 2, .inl fR))]) [25, 26] rfl
        refine vp_callSi (va_runV (As := [.int (xs (Int32.toNatClampNeg 1))]) (rest := [.int 0]) ⟨hx, hb, hml, hown, hts⟩ (m_walks l D cI cB cL cZ am ad 0 0 0 0 0 0 0 0 0 0 0 0 fR (xs (Int32.toNatClampNeg 1)) hf_fR_0) (cwV 1 hts gL_law_X12_walks rfl rfl rfl (by decide +kernel) ⟨Nat.le_of_ble_eq_true rfl, Nat.le_of_ble_eq_true rfl⟩) ⟨xr_blind, va_recv hK hPc (ci := 12) (q0 := 0) rfl rfl, fun U hU hW => xr_mk hU hW hPc (hK.sub (tys' := [(cI, .int), (cB, .byte), (cL, .long), (cZ, .boolean)]) [0, 1, 2, 3] rfl)⟩ rfl rfl hl.1 rfl (lv_room (Nat.le_of_ble_eq_true rfl)) dL_law_1427 ⟨Nat.le_of_ble_eq_true rfl, Nat.le_of_ble_eq_true rfl⟩).run (fun r_435 hr_435 => ?_)
        clear hPc
        subst hr_435
        refine lv_icmp_eq (tgt := 1570) hx hb dL_law_1430 (by decide) (fun _ => ?_) (fun c_436 => absurd (by decide) c_436)
        refine lv_iinc (v := 6) (lv' := [(3, .int 6), (2, .ref am), (1, .ref a0), (0, .ref b)]) hx hb dL_law_1570 hl (k := 0) rfl (by decide) (by decide) rfl (fun ls hl => ?_)
        refine lv_goto (tgt := 18) hx hb dL_law_1573 (by decide) ?_
        refine lv_iload_n hx hb dL_law_18 rfl (lv_at hl 0 rfl) ?_
        refine lv_aload_n hx hb dL_law_19 rfl (lv_at hl 3 rfl) ?_
        refine va_slen hx hb hX hbl hbA hS dL_law_20 ?_
        refine lv_topi (fun y_437 ey_437 => ?_)
        obtain rfl : y_437 = 6 := ey_437.trans (by decide)
        refine lv_bipush (v := 6) hx hb dL_law_21 (by decide) ?_
        refine lv_isub hx hb dL_law_23 ?_
        refine lv_topi (fun y_438 ey_438 => ?_)
        obtain rfl : y_438 = 0 := ey_438.trans (by decide)
        refine lv_icmp_gt (tgt := 1576) hx hb dL_law_24 (by decide) (fun _ => ?_) (fun c_439 => absurd (by decide) c_439)
        refine lv_iconst (v := 1) hx hb dL_law_1576 (by decide) ?_
        refine va_forget (fun q hq => by have h := hS.2.2 q hq; rw [hAe] at h; exact h) ?_
        refine W.widen (k := 600000) (n := 7302250) (Nat.le_of_ble_eq_true rfl) (Nat.le_of_ble_eq_true rfl) ?_
        exact lw_ret hx hb hr hlocks dL_law_1577
      · refine lv_tableIn (off := 1402) (tgt := 1435) hx hb dL_law_33 (by decide) (by decide) (by decide) (by decide) ?_
        refine lv_aload_n hx hb dL_law_1435 rfl (lv_at hl 2 rfl) ?_
        refine lv_aload_n hx hb dL_law_1436 rfl (lv_at hl 3 rfl) ?_
        refine lv_iload_n hx hb dL_law_1437 rfl (lv_at hl 0 rfl) ?_
        refine lv_iconst (v := 1) hx hb dL_law_1438 (by decide) ?_
        refine lv_iadd hx hb dL_law_1439 ?_
        refine lv_topi (fun y_440 ey_440 => ?_)
        obtain rfl : y_440 = 1 := ey_440.trans (by decide)
        refine va_sld hx hb hX hbl hbA hS (show vp_in 1 6 from (by decide : ¬ ((1 : Int32) < 0 ∨ 6 ≤ Int32.toNatClampNeg 1))) dL_law_1440 ?_
        refine lv_aload_n hx hb dL_law_1441 rfl (lv_at hl 3 rfl) ?_
        refine lv_iload_n hx hb dL_law_1442 rfl (lv_at hl 0 rfl) ?_
        refine lv_iconst (v := 2) hx hb dL_law_1443 (by decide) ?_
        refine lv_iadd hx hb dL_law_1444 ?_
        refine lv_topi (fun y_441 ey_441 => ?_)
        obtain rfl : y_441 = 2 := ey_441.trans (by decide)
        refine va_sld hx hb hX hbl hbA hS (show vp_in 2 6 from (by decide : ¬ ((2 : Int32) < 0 ∨ 6 ≤ Int32.toNatClampNeg 2))) dL_law_1445 ?_
        have hPc := hP.sub (ws' := [(a0, .inr (11, [.ref aP, .ref aD, .ref aT, .ref aR, .ref aF, .ref aU, .ref aH, .ref aM, .ref aW, .ref aN])), (aN, .inr (4, [.ref aF, .int 0, .int 0, .ref n3, .ref n4, .ref n5, .ref n6, .ref n7, .ref n8, .ref n9])), (n7, .inl (cI, 8, .inl fo7)), (aF, .inr (0, [.ref aP, .ref fx, .ref fr, .ref fe, .int 0])), (aP, .inr (5, PF pz su))]) [0, 24, 29, 9, 1] rfl
        have hDc := hD.sub (ws' := [(a0, .inr (11, [.ref aP, .ref aD, .ref aT, .ref aR, .ref aF, .ref aU, .ref aH, .ref aM, .ref aW, .ref aN])), (aN, .inr (4, [.ref aF, .int 0, .int 0, .ref n3, .ref n4, .ref n5, .ref n6, .ref n7, .ref n8, .ref n9])), (n7, .inl (cI, 8, .inl fo7)), (aF, .inr (0, [.ref aP, .ref fx, .ref fr, .ref fe, .int 0])), (aP, .inr (5, PF pz su))]) [0, 24, 29, 9, 1] (by decide) rfl
        have hFc := va_free (wc := [(a0, .inr (11, [.ref aP, .ref aD, .ref aT, .ref aR, .ref aF, .ref aU, .ref aH, .ref aM, .ref aW, .ref aN])), (aN, .inr (4, [.ref aF, .int 0, .int 0, .ref n3, .ref n4, .ref n5, .ref n6, .ref n7, .ref n8, .ref n9])), (n7, .inl (cI, 8, .inl fo7)), (aF, .inr (0, [.ref aP, .ref fx, .ref fr, .ref fe, .int 0])), (aP, .inr (5, PF pz su))]) hD hS hA [0, 24, 29, 9, 1] rfl
        refine va_calli (va_runV (As := [.int (xs (Int32.toNatClampNeg 1)), .int (xs (Int32.toNatClampNeg 2))]) (rest := []) ⟨hx, hb, hml, hown, hts⟩ (c_certain l D cI cB cL cZ a0 aP aD aT aR aF aU aH aM aW aN n3 n4 n5 n6 n7 n8 n9 fo7 fx fr fe pz su (xs (Int32.toNatClampNeg 1)) (xs (Int32.toNatClampNeg 2)) H.size) (cwV 2 hts gL_law_X11_certain rfl rfl rfl (by decide +kernel) ⟨Nat.le_of_ble_eq_true rfl, Nat.le_of_ble_eq_true rfl⟩) ⟨xp_blind, va_recv hK hPc (ci := 11) (q0 := 0) rfl rfl, fun U hU hW => xp_mk hU hW hPc (hK.sub (tys' := [(cI, .int), (cB, .byte), (cL, .long), (cZ, .boolean)]) [0, 1, 2, 3] rfl) hDc xNw_nil⟩ rfl rfl hl.1 rfl (lv_room (Nat.le_of_ble_eq_true rfl)) dL_law_1446 ⟨Nat.le_of_ble_eq_true rfl, Nat.le_of_ble_eq_true rfl⟩) hS (fun q _ h => hFc q h) hFc (fun r_442 u9 t9 H1 locs ht9 hvm9 hr_442 hB9 hz9 hk9 hS => ?_)
        clear hB9 hz9 hPc hDc
        obtain ⟨hP, hD⟩ := va_join (wr := [(su, .inr (1, [.ref s0, .ref s1, .ref s2, .int 0, .int 0, .int 0])), (aD, .inr (5, PF pq sq)), (sq, .inr (1, [.ref z0, .ref z1, .ref z2, .int 0, .int 0, .int 0])), (aT, .inr (8, [.ref tb, .int 0])), (tb, .inl (cB, 1600, .inl fb)), (aR, .inr (6, [.ref rt, .ref aD, .int 0, .int (-1)])), (rt, .inr (9, [.ref aT, .ref to, .int 0, .int 0, .int 0, .long 0, .int 0])), (fx, .inl (cI, 8, .inl fxf)), (fr, .inl (cI, 64, .inl frf)), (aU, .inr (7, [.ref aF, .ref ul, .int 0, .ref uc, .ref ue])), (aM, .inr (3, [.ref aF, .ref mo, .ref ma, .ref mk, .int 0, .int 0, .int 0, .ref mb, .ref mf])), (mo, .inl (cI, 32, .inl fn)), (mk, .inl (cG, 41, .inr (.inr (.inr (.inr kr))))), (r0, .inl (cI, 32, .inl w0)), (r1, .inl (cI, 32, .inl w1)), (mb, .inl (cG, 3, .inr (.inr (.inr (.inr br))))), (b0, .inl (cI, 32, .inl u0)), (b1, .inl (cI, 32, .inl u1)), (b2, .inl (cI, 32, .inl u2)), (mf, .inl (cZ, 3, .inl ff)), (aW, .inr (10, [.ref aM])), (n3, .inl (cI, 30, .inl g3)), (n4, .inl (cI, 30, .inl g4)), (n5, .inl (cI, 30, .inl g5)), (n6, .inl (cI, 30, .inl g6)), (am, .inr (12, MF ad 0 0 0 (-1) 0 0 0 0 0 0 0 0 0 0 0 0 0 0 0 0 0)), ((ad 11), .inl (cI, 2, .inl fR)), ((ad 12), .inl (cI, 2, .inl fD)), ((ad 13), .inl (cI, 2, .inl fT)), ((ad 14), .inl (cI, 2, .inl fU)), ((ad 15), .inl (cI, 2, .inl fW)), ((ad 26), .inl (cZ, 2, .inl fS)), ((ad 27), .inl (cZ, 2, .inl fX)), ((ad 42), .inl (cI, 32, .inl fA)), ((ad 70), .inl (cZ, 3, .inl fB)), ((ad 0), .inl (cB, 1620, .inl ft)), ((ad 59), .inl (cI, 30, .inl t0)), ((ad 60), .inl (cI, 30, .inl t1)), ((ad 61), .inl (cI, 30, .inl t2)), ((ad 62), .inl (cI, 30, .inl t3)), ((ad 63), .inl (cI, 30, .inl t4)), ((ad 64), .inl (cI, 30, .inl t5)), ((ad 57), .inl (cI, 64, .inl fk)), ((ad 45), .inl (cI, 1312, .inl fw)), ((ad 69), .inl (cI, 96, .inl fbm))]) (w1 := []) hP hD [0, 24, 29, 9, 1] [2, 3, 4, 5, 6, 7, 8, 10, 11, 12, 13, 14, 15, 16, 17, 18, 19, 20, 21, 22, 23, 25, 26, 27, 28, 30, 31, 32, 33, 34, 35, 36, 37, 38, 39, 40, 41, 42, 43, 44, 45, 46, 47, 48, 49] rfl rfl (by decide) (by decide) hk9 hFc (fun k q h => by simp at h) ⟨fun i j p q h => by simp at h, fun k q h => by simp at h⟩
        clear hk9 hFc ht9 hvm9
        generalize H1 = H at hP hS ⊢
        replace hP : va_P D classes [(su, .inr (1, [.ref s0, .ref s1, .ref s2, .int 0, .int 0, .int 0])), (aD, .inr (5, PF pq sq)), (sq, .inr (1, [.ref z0, .ref z1, .ref z2, .int 0, .int 0, .int 0])), (aT, .inr (8, [.ref tb, .int 0])), (tb, .inl (cB, 1600, .inl fb)), (aR, .inr (6, [.ref rt, .ref aD, .int 0, .int (-1)])), (rt, .inr (9, [.ref aT, .ref to, .int 0, .int 0, .int 0, .long 0, .int 0])), (fx, .inl (cI, 8, .inl fxf)), (fr, .inl (cI, 64, .inl frf)), (aU, .inr (7, [.ref aF, .ref ul, .int 0, .ref uc, .ref ue])), (aM, .inr (3, [.ref aF, .ref mo, .ref ma, .ref mk, .int 0, .int 0, .int 0, .ref mb, .ref mf])), (mo, .inl (cI, 32, .inl fn)), (mk, .inl (cG, 41, .inr (.inr (.inr (.inr kr))))), (r0, .inl (cI, 32, .inl w0)), (r1, .inl (cI, 32, .inl w1)), (mb, .inl (cG, 3, .inr (.inr (.inr (.inr br))))), (b0, .inl (cI, 32, .inl u0)), (b1, .inl (cI, 32, .inl u1)), (b2, .inl (cI, 32, .inl u2)), (mf, .inl (cZ, 3, .inl ff)), (aW, .inr (10, [.ref aM])), (n3, .inl (cI, 30, .inl g3)), (n4, .inl (cI, 30, .inl g4)), (n5, .inl (cI, 30, .inl g5)), (n6, .inl (cI, 30, .inl g6)), (am, .inr (12, MF ad 0 0 0 (-1) 0 0 0 0 0 0 0 0 0 0 0 0 0 0 0 0 0)), ((ad 11), .inl (cI, 2, .inl fR)), ((ad 12), .inl (cI, 2, .inl fD)), ((ad 13), .inl (cI, 2, .inl fT)), ((ad 14), .inl (cI, 2, .inl fU)), ((ad 15), .inl (cI, 2, .inl fW)), ((ad 26), .inl (cZ, 2, .inl fS)), ((ad 27), .inl (cZ, 2, .inl fX)), ((ad 42), .inl (cI, 32, .inl fA)), ((ad 70), .inl (cZ, 3, .inl fB)), ((ad 0), .inl (cB, 1620, .inl ft)), ((ad 59), .inl (cI, 30, .inl t0)), ((ad 60), .inl (cI, 30, .inl t1)), ((ad 61), .inl (cI, 30, .inl t2)), ((ad 62), .inl (cI, 30, .inl t3)), ((ad 63), .inl (cI, 30, .inl t4)), ((ad 64), .inl (cI, 30, .inl t5)), ((ad 57), .inl (cI, 64, .inl fk)), ((ad 45), .inl (cI, 1312, .inl fw)), ((ad 69), .inl (cI, 96, .inl fbm))] H := hP
        replace hD : va_D A [(su, .inr (1, [.ref s0, .ref s1, .ref s2, .int 0, .int 0, .int 0])), (aD, .inr (5, PF pq sq)), (sq, .inr (1, [.ref z0, .ref z1, .ref z2, .int 0, .int 0, .int 0])), (aT, .inr (8, [.ref tb, .int 0])), (tb, .inl (cB, 1600, .inl fb)), (aR, .inr (6, [.ref rt, .ref aD, .int 0, .int (-1)])), (rt, .inr (9, [.ref aT, .ref to, .int 0, .int 0, .int 0, .long 0, .int 0])), (fx, .inl (cI, 8, .inl fxf)), (fr, .inl (cI, 64, .inl frf)), (aU, .inr (7, [.ref aF, .ref ul, .int 0, .ref uc, .ref ue])), (aM, .inr (3, [.ref aF, .ref mo, .ref ma, .ref mk, .int 0, .int 0, .int 0, .ref mb, .ref mf])), (mo, .inl (cI, 32, .inl fn)), (mk, .inl (cG, 41, .inr (.inr (.inr (.inr kr))))), (r0, .inl (cI, 32, .inl w0)), (r1, .inl (cI, 32, .inl w1)), (mb, .inl (cG, 3, .inr (.inr (.inr (.inr br))))), (b0, .inl (cI, 32, .inl u0)), (b1, .inl (cI, 32, .inl u1)), (b2, .inl (cI, 32, .inl u2)), (mf, .inl (cZ, 3, .inl ff)), (aW, .inr (10, [.ref aM])), (n3, .inl (cI, 30, .inl g3)), (n4, .inl (cI, 30, .inl g4)), (n5, .inl (cI, 30, .inl g5)), (n6, .inl (cI, 30, .inl g6)), (am, .inr (12, MF ad 0 0 0 (-1) 0 0 0 0 0 0 0 0 0 0 0 0 0 0 0 0 0)), ((ad 11), .inl (cI, 2, .inl fR)), ((ad 12), .inl (cI, 2, .inl fD)), ((ad 13), .inl (cI, 2, .inl fT)), ((ad 14), .inl (cI, 2, .inl fU)), ((ad 15), .inl (cI, 2, .inl fW)), ((ad 26), .inl (cZ, 2, .inl fS)), ((ad 27), .inl (cZ, 2, .inl fX)), ((ad 42), .inl (cI, 32, .inl fA)), ((ad 70), .inl (cZ, 3, .inl fB)), ((ad 0), .inl (cB, 1620, .inl ft)), ((ad 59), .inl (cI, 30, .inl t0)), ((ad 60), .inl (cI, 30, .inl t1)), ((ad 61), .inl (cI, 30, .inl t2)), ((ad 62), .inl (cI, 30, .inl t3)), ((ad 63), .inl (cI, 30, .inl t4)), ((ad 64), .inl (cI, 30, .inl t5)), ((ad 57), .inl (cI, 64, .inl fk)), ((ad 45), .inl (cI, 1312, .inl fw)), ((ad 69), .inl (cI, 96, .inl fbm))] := hD
        subst hr_442
        refine lv_aload_n hx hb dL_law_1449 rfl (lv_at hl 1 rfl) ?_
        refine lv_aload_n hx hb dL_law_1450 rfl (lv_at hl 3 rfl) ?_
        refine lv_iload_n hx hb dL_law_1451 rfl (lv_at hl 0 rfl) ?_
        refine lv_iconst (v := 1) hx hb dL_law_1452 (by decide) ?_
        refine lv_iadd hx hb dL_law_1453 ?_
        refine lv_topi (fun y_443 ey_443 => ?_)
        obtain rfl : y_443 = 1 := ey_443.trans (by decide)
        refine va_sld hx hb hX hbl hbA hS (show vp_in 1 6 from (by decide : ¬ ((1 : Int32) < 0 ∨ 6 ≤ Int32.toNatClampNeg 1))) dL_law_1454 ?_
        refine lv_aload_n hx hb dL_law_1455 rfl (lv_at hl 3 rfl) ?_
        refine lv_iload_n hx hb dL_law_1456 rfl (lv_at hl 0 rfl) ?_
        refine lv_iconst (v := 2) hx hb dL_law_1457 (by decide) ?_
        refine lv_iadd hx hb dL_law_1458 ?_
        refine lv_topi (fun y_444 ey_444 => ?_)
        obtain rfl : y_444 = 2 := ey_444.trans (by decide)
        refine va_sld hx hb hX hbl hbA hS (show vp_in 2 6 from (by decide : ¬ ((2 : Int32) < 0 ∨ 6 ≤ Int32.toNatClampNeg 2))) dL_law_1459 ?_
        have hPc := hP.sub (ws' := [(am, .inr (12, MF ad 0 0 0 (-1) 0 0 0 0 0 0 0 0 0 0 0 0 0 0 0 0 0)), ((ad 11), .inl (cI, 2, .inl fR))]) [25, 26] rfl
        refine vp_callSi (va_runV (As := [.int (xs (Int32.toNatClampNeg 1)), .int (xs (Int32.toNatClampNeg 2))]) (rest := [.int (-1)]) ⟨hx, hb, hml, hown, hts⟩ (m_certain l D cI cB cL cZ am ad 0 0 0 0 0 0 0 0 0 0 0 0 fR (xs (Int32.toNatClampNeg 1)) (xs (Int32.toNatClampNeg 2)) hf_fR_0) (cwV 2 hts gL_law_X12_certain rfl rfl rfl (by decide +kernel) ⟨Nat.le_of_ble_eq_true rfl, Nat.le_of_ble_eq_true rfl⟩) ⟨xr_blind, va_recv hK hPc (ci := 12) (q0 := 0) rfl rfl, fun U hU hW => xr_mk hU hW hPc (hK.sub (tys' := [(cI, .int), (cB, .byte), (cL, .long), (cZ, .boolean)]) [0, 1, 2, 3] rfl)⟩ rfl rfl hl.1 rfl (lv_room (Nat.le_of_ble_eq_true rfl)) dL_law_1460 ⟨Nat.le_of_ble_eq_true rfl, Nat.le_of_ble_eq_true rfl⟩).run (fun r_445 hr_445 => ?_)
        clear hPc
        subst hr_445
        refine lv_icmp_eq (tgt := 1570) hx hb dL_law_1463 (by decide) (fun _ => ?_) (fun c_446 => absurd (by decide) c_446)
        refine lv_iinc (v := 6) (lv' := [(3, .int 6), (2, .ref am), (1, .ref a0), (0, .ref b)]) hx hb dL_law_1570 hl (k := 0) rfl (by decide) (by decide) rfl (fun ls hl => ?_)
        refine lv_goto (tgt := 18) hx hb dL_law_1573 (by decide) ?_
        refine lv_iload_n hx hb dL_law_18 rfl (lv_at hl 0 rfl) ?_
        refine lv_aload_n hx hb dL_law_19 rfl (lv_at hl 3 rfl) ?_
        refine va_slen hx hb hX hbl hbA hS dL_law_20 ?_
        refine lv_topi (fun y_447 ey_447 => ?_)
        obtain rfl : y_447 = 6 := ey_447.trans (by decide)
        refine lv_bipush (v := 6) hx hb dL_law_21 (by decide) ?_
        refine lv_isub hx hb dL_law_23 ?_
        refine lv_topi (fun y_448 ey_448 => ?_)
        obtain rfl : y_448 = 0 := ey_448.trans (by decide)
        refine lv_icmp_gt (tgt := 1576) hx hb dL_law_24 (by decide) (fun _ => ?_) (fun c_449 => absurd (by decide) c_449)
        refine lv_iconst (v := 1) hx hb dL_law_1576 (by decide) ?_
        refine va_forget (fun q hq => by have h := hS.2.2 q hq; rw [hAe] at h; exact h) ?_
        refine W.widen (k := 600000) (n := 7302250) (Nat.le_of_ble_eq_true rfl) (Nat.le_of_ble_eq_true rfl) ?_
        exact lw_ret hx hb hr hlocks dL_law_1577
      · refine lv_tableIn (off := 1435) (tgt := 1468) hx hb dL_law_33 (by decide) (by decide) (by decide) (by decide) ?_
        refine lv_aload_n hx hb dL_law_1468 rfl (lv_at hl 2 rfl) ?_
        refine lv_aload_n hx hb dL_law_1469 rfl (lv_at hl 3 rfl) ?_
        refine lv_iload_n hx hb dL_law_1470 rfl (lv_at hl 0 rfl) ?_
        refine lv_iconst (v := 1) hx hb dL_law_1471 (by decide) ?_
        refine lv_iadd hx hb dL_law_1472 ?_
        refine lv_topi (fun y_450 ey_450 => ?_)
        obtain rfl : y_450 = 1 := ey_450.trans (by decide)
        refine va_sld hx hb hX hbl hbA hS (show vp_in 1 6 from (by decide : ¬ ((1 : Int32) < 0 ∨ 6 ≤ Int32.toNatClampNeg 1))) dL_law_1473 ?_
        refine lv_aload_n hx hb dL_law_1474 rfl (lv_at hl 3 rfl) ?_
        refine lv_iload_n hx hb dL_law_1475 rfl (lv_at hl 0 rfl) ?_
        refine lv_iconst (v := 2) hx hb dL_law_1476 (by decide) ?_
        refine lv_iadd hx hb dL_law_1477 ?_
        refine lv_topi (fun y_451 ey_451 => ?_)
        obtain rfl : y_451 = 2 := ey_451.trans (by decide)
        refine va_sld hx hb hX hbl hbA hS (show vp_in 2 6 from (by decide : ¬ ((2 : Int32) < 0 ∨ 6 ≤ Int32.toNatClampNeg 2))) dL_law_1478 ?_
        have hPc := hP.sub (ws' := [(a0, .inr (11, [.ref aP, .ref aD, .ref aT, .ref aR, .ref aF, .ref aU, .ref aH, .ref aM, .ref aW, .ref aN])), (aN, .inr (4, [.ref aF, .int 0, .int 0, .ref n3, .ref n4, .ref n5, .ref n6, .ref n7, .ref n8, .ref n9])), (n7, .inl (cI, 8, .inl fo7)), (aF, .inr (0, [.ref aP, .ref fx, .ref fr, .ref fe, .int 0])), (aP, .inr (5, PF pz su))]) [0, 24, 29, 9, 1] rfl
        have hDc := hD.sub (ws' := [(a0, .inr (11, [.ref aP, .ref aD, .ref aT, .ref aR, .ref aF, .ref aU, .ref aH, .ref aM, .ref aW, .ref aN])), (aN, .inr (4, [.ref aF, .int 0, .int 0, .ref n3, .ref n4, .ref n5, .ref n6, .ref n7, .ref n8, .ref n9])), (n7, .inl (cI, 8, .inl fo7)), (aF, .inr (0, [.ref aP, .ref fx, .ref fr, .ref fe, .int 0])), (aP, .inr (5, PF pz su))]) [0, 24, 29, 9, 1] (by decide) rfl
        have hFc := va_free (wc := [(a0, .inr (11, [.ref aP, .ref aD, .ref aT, .ref aR, .ref aF, .ref aU, .ref aH, .ref aM, .ref aW, .ref aN])), (aN, .inr (4, [.ref aF, .int 0, .int 0, .ref n3, .ref n4, .ref n5, .ref n6, .ref n7, .ref n8, .ref n9])), (n7, .inl (cI, 8, .inl fo7)), (aF, .inr (0, [.ref aP, .ref fx, .ref fr, .ref fe, .int 0])), (aP, .inr (5, PF pz su))]) hD hS hA [0, 24, 29, 9, 1] rfl
        refine va_calli (va_runV (As := [.int (xs (Int32.toNatClampNeg 1)), .int (xs (Int32.toNatClampNeg 2))]) (rest := []) ⟨hx, hb, hml, hown, hts⟩ (c_ask l D cI cB cL cZ a0 aP aD aT aR aF aU aH aM aW aN n3 n4 n5 n6 n7 n8 n9 fo7 fx fr fe pz su (xs (Int32.toNatClampNeg 1)) (xs (Int32.toNatClampNeg 2)) H.size) (cwV 2 hts gL_law_X11_ask rfl rfl rfl (by decide +kernel) ⟨Nat.le_of_ble_eq_true rfl, Nat.le_of_ble_eq_true rfl⟩) ⟨xp_blind, va_recv hK hPc (ci := 11) (q0 := 0) rfl rfl, fun U hU hW => xp_mk hU hW hPc (hK.sub (tys' := [(cI, .int), (cB, .byte), (cL, .long), (cZ, .boolean)]) [0, 1, 2, 3] rfl) hDc xNw_nil⟩ rfl rfl hl.1 rfl (lv_room (Nat.le_of_ble_eq_true rfl)) dL_law_1479 ⟨Nat.le_of_ble_eq_true rfl, Nat.le_of_ble_eq_true rfl⟩) hS (fun q _ h => hFc q h) hFc (fun r_452 u9 t9 H1 locs ht9 hvm9 hr_452 hB9 hz9 hk9 hS => ?_)
        clear hB9 hz9 hPc hDc
        obtain ⟨hP, hD⟩ := va_join (wr := [(su, .inr (1, [.ref s0, .ref s1, .ref s2, .int 0, .int 0, .int 0])), (aD, .inr (5, PF pq sq)), (sq, .inr (1, [.ref z0, .ref z1, .ref z2, .int 0, .int 0, .int 0])), (aT, .inr (8, [.ref tb, .int 0])), (tb, .inl (cB, 1600, .inl fb)), (aR, .inr (6, [.ref rt, .ref aD, .int 0, .int (-1)])), (rt, .inr (9, [.ref aT, .ref to, .int 0, .int 0, .int 0, .long 0, .int 0])), (fx, .inl (cI, 8, .inl fxf)), (fr, .inl (cI, 64, .inl frf)), (aU, .inr (7, [.ref aF, .ref ul, .int 0, .ref uc, .ref ue])), (aM, .inr (3, [.ref aF, .ref mo, .ref ma, .ref mk, .int 0, .int 0, .int 0, .ref mb, .ref mf])), (mo, .inl (cI, 32, .inl fn)), (mk, .inl (cG, 41, .inr (.inr (.inr (.inr kr))))), (r0, .inl (cI, 32, .inl w0)), (r1, .inl (cI, 32, .inl w1)), (mb, .inl (cG, 3, .inr (.inr (.inr (.inr br))))), (b0, .inl (cI, 32, .inl u0)), (b1, .inl (cI, 32, .inl u1)), (b2, .inl (cI, 32, .inl u2)), (mf, .inl (cZ, 3, .inl ff)), (aW, .inr (10, [.ref aM])), (n3, .inl (cI, 30, .inl g3)), (n4, .inl (cI, 30, .inl g4)), (n5, .inl (cI, 30, .inl g5)), (n6, .inl (cI, 30, .inl g6)), (am, .inr (12, MF ad 0 0 0 (-1) 0 0 0 0 0 0 0 0 0 0 0 0 0 0 0 0 0)), ((ad 11), .inl (cI, 2, .inl fR)), ((ad 12), .inl (cI, 2, .inl fD)), ((ad 13), .inl (cI, 2, .inl fT)), ((ad 14), .inl (cI, 2, .inl fU)), ((ad 15), .inl (cI, 2, .inl fW)), ((ad 26), .inl (cZ, 2, .inl fS)), ((ad 27), .inl (cZ, 2, .inl fX)), ((ad 42), .inl (cI, 32, .inl fA)), ((ad 70), .inl (cZ, 3, .inl fB)), ((ad 0), .inl (cB, 1620, .inl ft)), ((ad 59), .inl (cI, 30, .inl t0)), ((ad 60), .inl (cI, 30, .inl t1)), ((ad 61), .inl (cI, 30, .inl t2)), ((ad 62), .inl (cI, 30, .inl t3)), ((ad 63), .inl (cI, 30, .inl t4)), ((ad 64), .inl (cI, 30, .inl t5)), ((ad 57), .inl (cI, 64, .inl fk)), ((ad 45), .inl (cI, 1312, .inl fw)), ((ad 69), .inl (cI, 96, .inl fbm))]) (w1 := []) hP hD [0, 24, 29, 9, 1] [2, 3, 4, 5, 6, 7, 8, 10, 11, 12, 13, 14, 15, 16, 17, 18, 19, 20, 21, 22, 23, 25, 26, 27, 28, 30, 31, 32, 33, 34, 35, 36, 37, 38, 39, 40, 41, 42, 43, 44, 45, 46, 47, 48, 49] rfl rfl (by decide) (by decide) hk9 hFc (fun k q h => by simp at h) ⟨fun i j p q h => by simp at h, fun k q h => by simp at h⟩
        clear hk9 hFc ht9 hvm9
        generalize H1 = H at hP hS ⊢
        replace hP : va_P D classes [(su, .inr (1, [.ref s0, .ref s1, .ref s2, .int 0, .int 0, .int 0])), (aD, .inr (5, PF pq sq)), (sq, .inr (1, [.ref z0, .ref z1, .ref z2, .int 0, .int 0, .int 0])), (aT, .inr (8, [.ref tb, .int 0])), (tb, .inl (cB, 1600, .inl fb)), (aR, .inr (6, [.ref rt, .ref aD, .int 0, .int (-1)])), (rt, .inr (9, [.ref aT, .ref to, .int 0, .int 0, .int 0, .long 0, .int 0])), (fx, .inl (cI, 8, .inl fxf)), (fr, .inl (cI, 64, .inl frf)), (aU, .inr (7, [.ref aF, .ref ul, .int 0, .ref uc, .ref ue])), (aM, .inr (3, [.ref aF, .ref mo, .ref ma, .ref mk, .int 0, .int 0, .int 0, .ref mb, .ref mf])), (mo, .inl (cI, 32, .inl fn)), (mk, .inl (cG, 41, .inr (.inr (.inr (.inr kr))))), (r0, .inl (cI, 32, .inl w0)), (r1, .inl (cI, 32, .inl w1)), (mb, .inl (cG, 3, .inr (.inr (.inr (.inr br))))), (b0, .inl (cI, 32, .inl u0)), (b1, .inl (cI, 32, .inl u1)), (b2, .inl (cI, 32, .inl u2)), (mf, .inl (cZ, 3, .inl ff)), (aW, .inr (10, [.ref aM])), (n3, .inl (cI, 30, .inl g3)), (n4, .inl (cI, 30, .inl g4)), (n5, .inl (cI, 30, .inl g5)), (n6, .inl (cI, 30, .inl g6)), (am, .inr (12, MF ad 0 0 0 (-1) 0 0 0 0 0 0 0 0 0 0 0 0 0 0 0 0 0)), ((ad 11), .inl (cI, 2, .inl fR)), ((ad 12), .inl (cI, 2, .inl fD)), ((ad 13), .inl (cI, 2, .inl fT)), ((ad 14), .inl (cI, 2, .inl fU)), ((ad 15), .inl (cI, 2, .inl fW)), ((ad 26), .inl (cZ, 2, .inl fS)), ((ad 27), .inl (cZ, 2, .inl fX)), ((ad 42), .inl (cI, 32, .inl fA)), ((ad 70), .inl (cZ, 3, .inl fB)), ((ad 0), .inl (cB, 1620, .inl ft)), ((ad 59), .inl (cI, 30, .inl t0)), ((ad 60), .inl (cI, 30, .inl t1)), ((ad 61), .inl (cI, 30, .inl t2)), ((ad 62), .inl (cI, 30, .inl t3)), ((ad 63), .inl (cI, 30, .inl t4)), ((ad 64), .inl (cI, 30, .inl t5)), ((ad 57), .inl (cI, 64, .inl fk)), ((ad 45), .inl (cI, 1312, .inl fw)), ((ad 69), .inl (cI, 96, .inl fbm))] H := hP
        replace hD : va_D A [(su, .inr (1, [.ref s0, .ref s1, .ref s2, .int 0, .int 0, .int 0])), (aD, .inr (5, PF pq sq)), (sq, .inr (1, [.ref z0, .ref z1, .ref z2, .int 0, .int 0, .int 0])), (aT, .inr (8, [.ref tb, .int 0])), (tb, .inl (cB, 1600, .inl fb)), (aR, .inr (6, [.ref rt, .ref aD, .int 0, .int (-1)])), (rt, .inr (9, [.ref aT, .ref to, .int 0, .int 0, .int 0, .long 0, .int 0])), (fx, .inl (cI, 8, .inl fxf)), (fr, .inl (cI, 64, .inl frf)), (aU, .inr (7, [.ref aF, .ref ul, .int 0, .ref uc, .ref ue])), (aM, .inr (3, [.ref aF, .ref mo, .ref ma, .ref mk, .int 0, .int 0, .int 0, .ref mb, .ref mf])), (mo, .inl (cI, 32, .inl fn)), (mk, .inl (cG, 41, .inr (.inr (.inr (.inr kr))))), (r0, .inl (cI, 32, .inl w0)), (r1, .inl (cI, 32, .inl w1)), (mb, .inl (cG, 3, .inr (.inr (.inr (.inr br))))), (b0, .inl (cI, 32, .inl u0)), (b1, .inl (cI, 32, .inl u1)), (b2, .inl (cI, 32, .inl u2)), (mf, .inl (cZ, 3, .inl ff)), (aW, .inr (10, [.ref aM])), (n3, .inl (cI, 30, .inl g3)), (n4, .inl (cI, 30, .inl g4)), (n5, .inl (cI, 30, .inl g5)), (n6, .inl (cI, 30, .inl g6)), (am, .inr (12, MF ad 0 0 0 (-1) 0 0 0 0 0 0 0 0 0 0 0 0 0 0 0 0 0)), ((ad 11), .inl (cI, 2, .inl fR)), ((ad 12), .inl (cI, 2, .inl fD)), ((ad 13), .inl (cI, 2, .inl fT)), ((ad 14), .inl (cI, 2, .inl fU)), ((ad 15), .inl (cI, 2, .inl fW)), ((ad 26), .inl (cZ, 2, .inl fS)), ((ad 27), .inl (cZ, 2, .inl fX)), ((ad 42), .inl (cI, 32, .inl fA)), ((ad 70), .inl (cZ, 3, .inl fB)), ((ad 0), .inl (cB, 1620, .inl ft)), ((ad 59), .inl (cI, 30, .inl t0)), ((ad 60), .inl (cI, 30, .inl t1)), ((ad 61), .inl (cI, 30, .inl t2)), ((ad 62), .inl (cI, 30, .inl t3)), ((ad 63), .inl (cI, 30, .inl t4)), ((ad 64), .inl (cI, 30, .inl t5)), ((ad 57), .inl (cI, 64, .inl fk)), ((ad 45), .inl (cI, 1312, .inl fw)), ((ad 69), .inl (cI, 96, .inl fbm))] := hD
        subst hr_452
        refine lv_aload_n hx hb dL_law_1482 rfl (lv_at hl 1 rfl) ?_
        refine lv_aload_n hx hb dL_law_1483 rfl (lv_at hl 3 rfl) ?_
        refine lv_iload_n hx hb dL_law_1484 rfl (lv_at hl 0 rfl) ?_
        refine lv_iconst (v := 1) hx hb dL_law_1485 (by decide) ?_
        refine lv_iadd hx hb dL_law_1486 ?_
        refine lv_topi (fun y_453 ey_453 => ?_)
        obtain rfl : y_453 = 1 := ey_453.trans (by decide)
        refine va_sld hx hb hX hbl hbA hS (show vp_in 1 6 from (by decide : ¬ ((1 : Int32) < 0 ∨ 6 ≤ Int32.toNatClampNeg 1))) dL_law_1487 ?_
        refine lv_aload_n hx hb dL_law_1488 rfl (lv_at hl 3 rfl) ?_
        refine lv_iload_n hx hb dL_law_1489 rfl (lv_at hl 0 rfl) ?_
        refine lv_iconst (v := 2) hx hb dL_law_1490 (by decide) ?_
        refine lv_iadd hx hb dL_law_1491 ?_
        refine lv_topi (fun y_454 ey_454 => ?_)
        obtain rfl : y_454 = 2 := ey_454.trans (by decide)
        refine va_sld hx hb hX hbl hbA hS (show vp_in 2 6 from (by decide : ¬ ((2 : Int32) < 0 ∨ 6 ≤ Int32.toNatClampNeg 2))) dL_law_1492 ?_
        have hPc := hP.sub (ws' := [(am, .inr (12, MF ad 0 0 0 (-1) 0 0 0 0 0 0 0 0 0 0 0 0 0 0 0 0 0)), ((ad 11), .inl (cI, 2, .inl fR))]) [25, 26] rfl
        refine vp_callSi (va_runV (As := [.int (xs (Int32.toNatClampNeg 1)), .int (xs (Int32.toNatClampNeg 2))]) (rest := [.int (-1)]) ⟨hx, hb, hml, hown, hts⟩ (m_ask l D cI cB cL cZ am ad 0 0 0 0 0 0 0 0 0 0 0 0 fR (xs (Int32.toNatClampNeg 1)) (xs (Int32.toNatClampNeg 2)) hf_fR_0) (cwV 2 hts gL_law_X12_ask rfl rfl rfl (by decide +kernel) ⟨Nat.le_of_ble_eq_true rfl, Nat.le_of_ble_eq_true rfl⟩) ⟨xr_blind, va_recv hK hPc (ci := 12) (q0 := 0) rfl rfl, fun U hU hW => xr_mk hU hW hPc (hK.sub (tys' := [(cI, .int), (cB, .byte), (cL, .long), (cZ, .boolean)]) [0, 1, 2, 3] rfl)⟩ rfl rfl hl.1 rfl (lv_room (Nat.le_of_ble_eq_true rfl)) dL_law_1493 ⟨Nat.le_of_ble_eq_true rfl, Nat.le_of_ble_eq_true rfl⟩).run (fun r_455 hr_455 => ?_)
        clear hPc
        subst hr_455
        refine lv_icmp_eq (tgt := 1570) hx hb dL_law_1496 (by decide) (fun _ => ?_) (fun c_456 => absurd (by decide) c_456)
        refine lv_iinc (v := 6) (lv' := [(3, .int 6), (2, .ref am), (1, .ref a0), (0, .ref b)]) hx hb dL_law_1570 hl (k := 0) rfl (by decide) (by decide) rfl (fun ls hl => ?_)
        refine lv_goto (tgt := 18) hx hb dL_law_1573 (by decide) ?_
        refine lv_iload_n hx hb dL_law_18 rfl (lv_at hl 0 rfl) ?_
        refine lv_aload_n hx hb dL_law_19 rfl (lv_at hl 3 rfl) ?_
        refine va_slen hx hb hX hbl hbA hS dL_law_20 ?_
        refine lv_topi (fun y_457 ey_457 => ?_)
        obtain rfl : y_457 = 6 := ey_457.trans (by decide)
        refine lv_bipush (v := 6) hx hb dL_law_21 (by decide) ?_
        refine lv_isub hx hb dL_law_23 ?_
        refine lv_topi (fun y_458 ey_458 => ?_)
        obtain rfl : y_458 = 0 := ey_458.trans (by decide)
        refine lv_icmp_gt (tgt := 1576) hx hb dL_law_24 (by decide) (fun _ => ?_) (fun c_459 => absurd (by decide) c_459)
        refine lv_iconst (v := 1) hx hb dL_law_1576 (by decide) ?_
        refine va_forget (fun q hq => by have h := hS.2.2 q hq; rw [hAe] at h; exact h) ?_
        refine W.widen (k := 600000) (n := 7302250) (Nat.le_of_ble_eq_true rfl) (Nat.le_of_ble_eq_true rfl) ?_
        exact lw_ret hx hb hr hlocks dL_law_1577
      · refine lv_tableIn (off := 1468) (tgt := 1501) hx hb dL_law_33 (by decide) (by decide) (by decide) (by decide) ?_
        refine lv_aload_n hx hb dL_law_1501 rfl (lv_at hl 2 rfl) ?_
        refine lv_aload_n hx hb dL_law_1502 rfl (lv_at hl 3 rfl) ?_
        refine lv_iload_n hx hb dL_law_1503 rfl (lv_at hl 0 rfl) ?_
        refine lv_iconst (v := 1) hx hb dL_law_1504 (by decide) ?_
        refine lv_iadd hx hb dL_law_1505 ?_
        refine lv_topi (fun y_460 ey_460 => ?_)
        obtain rfl : y_460 = 1 := ey_460.trans (by decide)
        refine va_sld hx hb hX hbl hbA hS (show vp_in 1 6 from (by decide : ¬ ((1 : Int32) < 0 ∨ 6 ≤ Int32.toNatClampNeg 1))) dL_law_1506 ?_
        have hPc := hP.sub (ws' := [(a0, .inr (11, [.ref aP, .ref aD, .ref aT, .ref aR, .ref aF, .ref aU, .ref aH, .ref aM, .ref aW, .ref aN])), (aM, .inr (3, [.ref aF, .ref mo, .ref ma, .ref mk, .int 0, .int 0, .int 0, .ref mb, .ref mf])), (mo, .inl (cI, 32, .inl fn)), (mb, .inl (cG, 3, .inr (.inr (.inr (.inr br))))), (b0, .inl (cI, 32, .inl u0)), (b1, .inl (cI, 32, .inl u1)), (b2, .inl (cI, 32, .inl u2)), (mf, .inl (cZ, 3, .inl ff))]) [0, 13, 14, 18, 19, 20, 21, 22] rfl
        have hDc := hD.sub (ws' := [(a0, .inr (11, [.ref aP, .ref aD, .ref aT, .ref aR, .ref aF, .ref aU, .ref aH, .ref aM, .ref aW, .ref aN])), (aM, .inr (3, [.ref aF, .ref mo, .ref ma, .ref mk, .int 0, .int 0, .int 0, .ref mb, .ref mf])), (mo, .inl (cI, 32, .inl fn)), (mb, .inl (cG, 3, .inr (.inr (.inr (.inr br))))), (b0, .inl (cI, 32, .inl u0)), (b1, .inl (cI, 32, .inl u1)), (b2, .inl (cI, 32, .inl u2)), (mf, .inl (cZ, 3, .inl ff))]) [0, 13, 14, 18, 19, 20, 21, 22] (by decide) rfl
        have hFc := va_free (wc := [(a0, .inr (11, [.ref aP, .ref aD, .ref aT, .ref aR, .ref aF, .ref aU, .ref aH, .ref aM, .ref aW, .ref aN])), (aM, .inr (3, [.ref aF, .ref mo, .ref ma, .ref mk, .int 0, .int 0, .int 0, .ref mb, .ref mf])), (mo, .inl (cI, 32, .inl fn)), (mb, .inl (cG, 3, .inr (.inr (.inr (.inr br))))), (b0, .inl (cI, 32, .inl u0)), (b1, .inl (cI, 32, .inl u1)), (b2, .inl (cI, 32, .inl u2)), (mf, .inl (cZ, 3, .inl ff))]) hD hS hA [0, 13, 14, 18, 19, 20, 21, 22] rfl
        refine va_calli (va_runV (As := [.int (xs (Int32.toNatClampNeg 1))]) (rest := []) ⟨hx, hb, hml, hown, hts⟩ (c_image l D cI cB cL cZ cG a0 aP aD aT aR aF aU aH aM aW aN aF mo ma mk mb mf fn br b0 b1 b2 u0 u1 u2 ff (xs (Int32.toNatClampNeg 1)) H.size hf_fn_30 hf_fn_31 hk_br_0 hk_br_1 hk_br_2) (cwV 1 hts gL_law_X11_image rfl rfl rfl (by decide +kernel) ⟨Nat.le_of_ble_eq_true rfl, Nat.le_of_ble_eq_true rfl⟩) ⟨xp_blind, va_recv hK hPc (ci := 11) (q0 := 0) rfl rfl, fun U hU hW => xp_mk hU hW hPc hK hDc xNw_nil⟩ rfl rfl hl.1 rfl (lv_room (Nat.le_of_ble_eq_true rfl)) dL_law_1507 ⟨Nat.le_of_ble_eq_true rfl, Nat.le_of_ble_eq_true rfl⟩) hS (fun q _ h => hFc q h) hFc (fun r_461 u9 t9 H1 locs ht9 hvm9 hr_461 hB9 hz9 hk9 hS => ?_)
        clear hB9 hz9 hPc hDc
        obtain ⟨hP, hD⟩ := va_join (wr := [(aP, .inr (5, PF pz su)), (su, .inr (1, [.ref s0, .ref s1, .ref s2, .int 0, .int 0, .int 0])), (aD, .inr (5, PF pq sq)), (sq, .inr (1, [.ref z0, .ref z1, .ref z2, .int 0, .int 0, .int 0])), (aT, .inr (8, [.ref tb, .int 0])), (tb, .inl (cB, 1600, .inl fb)), (aR, .inr (6, [.ref rt, .ref aD, .int 0, .int (-1)])), (rt, .inr (9, [.ref aT, .ref to, .int 0, .int 0, .int 0, .long 0, .int 0])), (aF, .inr (0, [.ref aP, .ref fx, .ref fr, .ref fe, .int 0])), (fx, .inl (cI, 8, .inl fxf)), (fr, .inl (cI, 64, .inl frf)), (aU, .inr (7, [.ref aF, .ref ul, .int 0, .ref uc, .ref ue])), (mk, .inl (cG, 41, .inr (.inr (.inr (.inr kr))))), (r0, .inl (cI, 32, .inl w0)), (r1, .inl (cI, 32, .inl w1)), (aW, .inr (10, [.ref aM])), (aN, .inr (4, [.ref aF, .int 0, .int 0, .ref n3, .ref n4, .ref n5, .ref n6, .ref n7, .ref n8, .ref n9])), (n3, .inl (cI, 30, .inl g3)), (n4, .inl (cI, 30, .inl g4)), (n5, .inl (cI, 30, .inl g5)), (n6, .inl (cI, 30, .inl g6)), (n7, .inl (cI, 8, .inl fo7)), (am, .inr (12, MF ad 0 0 0 (-1) 0 0 0 0 0 0 0 0 0 0 0 0 0 0 0 0 0)), ((ad 11), .inl (cI, 2, .inl fR)), ((ad 12), .inl (cI, 2, .inl fD)), ((ad 13), .inl (cI, 2, .inl fT)), ((ad 14), .inl (cI, 2, .inl fU)), ((ad 15), .inl (cI, 2, .inl fW)), ((ad 26), .inl (cZ, 2, .inl fS)), ((ad 27), .inl (cZ, 2, .inl fX)), ((ad 42), .inl (cI, 32, .inl fA)), ((ad 70), .inl (cZ, 3, .inl fB)), ((ad 0), .inl (cB, 1620, .inl ft)), ((ad 59), .inl (cI, 30, .inl t0)), ((ad 60), .inl (cI, 30, .inl t1)), ((ad 61), .inl (cI, 30, .inl t2)), ((ad 62), .inl (cI, 30, .inl t3)), ((ad 63), .inl (cI, 30, .inl t4)), ((ad 64), .inl (cI, 30, .inl t5)), ((ad 57), .inl (cI, 64, .inl fk)), ((ad 45), .inl (cI, 1312, .inl fw)), ((ad 69), .inl (cI, 96, .inl fbm))]) (w1 := []) hP hD [0, 13, 14, 18, 19, 20, 21, 22] [1, 2, 3, 4, 5, 6, 7, 8, 9, 10, 11, 12, 15, 16, 17, 23, 24, 25, 26, 27, 28, 29, 30, 31, 32, 33, 34, 35, 36, 37, 38, 39, 40, 41, 42, 43, 44, 45, 46, 47, 48, 49] rfl rfl (by decide) (by decide) hk9 hFc (fun k q h => by simp at h) ⟨fun i j p q h => by simp at h, fun k q h => by simp at h⟩
        clear hk9 hFc ht9 hvm9
        generalize H1 = H at hP hS ⊢
        replace hP : va_P D classes [(aP, .inr (5, PF pz su)), (su, .inr (1, [.ref s0, .ref s1, .ref s2, .int 0, .int 0, .int 0])), (aD, .inr (5, PF pq sq)), (sq, .inr (1, [.ref z0, .ref z1, .ref z2, .int 0, .int 0, .int 0])), (aT, .inr (8, [.ref tb, .int 0])), (tb, .inl (cB, 1600, .inl fb)), (aR, .inr (6, [.ref rt, .ref aD, .int 0, .int (-1)])), (rt, .inr (9, [.ref aT, .ref to, .int 0, .int 0, .int 0, .long 0, .int 0])), (aF, .inr (0, [.ref aP, .ref fx, .ref fr, .ref fe, .int 0])), (fx, .inl (cI, 8, .inl fxf)), (fr, .inl (cI, 64, .inl frf)), (aU, .inr (7, [.ref aF, .ref ul, .int 0, .ref uc, .ref ue])), (mk, .inl (cG, 41, .inr (.inr (.inr (.inr kr))))), (r0, .inl (cI, 32, .inl w0)), (r1, .inl (cI, 32, .inl w1)), (aW, .inr (10, [.ref aM])), (aN, .inr (4, [.ref aF, .int 0, .int 0, .ref n3, .ref n4, .ref n5, .ref n6, .ref n7, .ref n8, .ref n9])), (n3, .inl (cI, 30, .inl g3)), (n4, .inl (cI, 30, .inl g4)), (n5, .inl (cI, 30, .inl g5)), (n6, .inl (cI, 30, .inl g6)), (n7, .inl (cI, 8, .inl fo7)), (am, .inr (12, MF ad 0 0 0 (-1) 0 0 0 0 0 0 0 0 0 0 0 0 0 0 0 0 0)), ((ad 11), .inl (cI, 2, .inl fR)), ((ad 12), .inl (cI, 2, .inl fD)), ((ad 13), .inl (cI, 2, .inl fT)), ((ad 14), .inl (cI, 2, .inl fU)), ((ad 15), .inl (cI, 2, .inl fW)), ((ad 26), .inl (cZ, 2, .inl fS)), ((ad 27), .inl (cZ, 2, .inl fX)), ((ad 42), .inl (cI, 32, .inl fA)), ((ad 70), .inl (cZ, 3, .inl fB)), ((ad 0), .inl (cB, 1620, .inl ft)), ((ad 59), .inl (cI, 30, .inl t0)), ((ad 60), .inl (cI, 30, .inl t1)), ((ad 61), .inl (cI, 30, .inl t2)), ((ad 62), .inl (cI, 30, .inl t3)), ((ad 63), .inl (cI, 30, .inl t4)), ((ad 64), .inl (cI, 30, .inl t5)), ((ad 57), .inl (cI, 64, .inl fk)), ((ad 45), .inl (cI, 1312, .inl fw)), ((ad 69), .inl (cI, 96, .inl fbm))] H := hP
        replace hD : va_D A [(aP, .inr (5, PF pz su)), (su, .inr (1, [.ref s0, .ref s1, .ref s2, .int 0, .int 0, .int 0])), (aD, .inr (5, PF pq sq)), (sq, .inr (1, [.ref z0, .ref z1, .ref z2, .int 0, .int 0, .int 0])), (aT, .inr (8, [.ref tb, .int 0])), (tb, .inl (cB, 1600, .inl fb)), (aR, .inr (6, [.ref rt, .ref aD, .int 0, .int (-1)])), (rt, .inr (9, [.ref aT, .ref to, .int 0, .int 0, .int 0, .long 0, .int 0])), (aF, .inr (0, [.ref aP, .ref fx, .ref fr, .ref fe, .int 0])), (fx, .inl (cI, 8, .inl fxf)), (fr, .inl (cI, 64, .inl frf)), (aU, .inr (7, [.ref aF, .ref ul, .int 0, .ref uc, .ref ue])), (mk, .inl (cG, 41, .inr (.inr (.inr (.inr kr))))), (r0, .inl (cI, 32, .inl w0)), (r1, .inl (cI, 32, .inl w1)), (aW, .inr (10, [.ref aM])), (aN, .inr (4, [.ref aF, .int 0, .int 0, .ref n3, .ref n4, .ref n5, .ref n6, .ref n7, .ref n8, .ref n9])), (n3, .inl (cI, 30, .inl g3)), (n4, .inl (cI, 30, .inl g4)), (n5, .inl (cI, 30, .inl g5)), (n6, .inl (cI, 30, .inl g6)), (n7, .inl (cI, 8, .inl fo7)), (am, .inr (12, MF ad 0 0 0 (-1) 0 0 0 0 0 0 0 0 0 0 0 0 0 0 0 0 0)), ((ad 11), .inl (cI, 2, .inl fR)), ((ad 12), .inl (cI, 2, .inl fD)), ((ad 13), .inl (cI, 2, .inl fT)), ((ad 14), .inl (cI, 2, .inl fU)), ((ad 15), .inl (cI, 2, .inl fW)), ((ad 26), .inl (cZ, 2, .inl fS)), ((ad 27), .inl (cZ, 2, .inl fX)), ((ad 42), .inl (cI, 32, .inl fA)), ((ad 70), .inl (cZ, 3, .inl fB)), ((ad 0), .inl (cB, 1620, .inl ft)), ((ad 59), .inl (cI, 30, .inl t0)), ((ad 60), .inl (cI, 30, .inl t1)), ((ad 61), .inl (cI, 30, .inl t2)), ((ad 62), .inl (cI, 30, .inl t3)), ((ad 63), .inl (cI, 30, .inl t4)), ((ad 64), .inl (cI, 30, .inl t5)), ((ad 57), .inl (cI, 64, .inl fk)), ((ad 45), .inl (cI, 1312, .inl fw)), ((ad 69), .inl (cI, 96, .inl fbm))] := hD
        subst hr_461
        refine lv_aload_n hx hb dL_law_1510 rfl (lv_at hl 1 rfl) ?_
        refine lv_aload_n hx hb dL_law_1511 rfl (lv_at hl 3 rfl) ?_
        refine lv_iload_n hx hb dL_law_1512 rfl (lv_at hl 0 rfl) ?_
        refine lv_iconst (v := 1) hx hb dL_law_1513 (by decide) ?_
        refine lv_iadd hx hb dL_law_1514 ?_
        refine lv_topi (fun y_462 ey_462 => ?_)
        obtain rfl : y_462 = 1 := ey_462.trans (by decide)
        refine va_sld hx hb hX hbl hbA hS (show vp_in 1 6 from (by decide : ¬ ((1 : Int32) < 0 ∨ 6 ≤ Int32.toNatClampNeg 1))) dL_law_1515 ?_
        have hPc := hP.sub (ws' := [(am, .inr (12, MF ad 0 0 0 (-1) 0 0 0 0 0 0 0 0 0 0 0 0 0 0 0 0 0)), ((ad 42), .inl (cI, 32, .inl fA)), ((ad 69), .inl (cI, 96, .inl fbm)), ((ad 70), .inl (cZ, 3, .inl fB))]) [22, 30, 41, 31] rfl
        have hDc := hD.sub (ws' := [(am, .inr (12, MF ad 0 0 0 (-1) 0 0 0 0 0 0 0 0 0 0 0 0 0 0 0 0 0)), ((ad 42), .inl (cI, 32, .inl fA)), ((ad 69), .inl (cI, 96, .inl fbm)), ((ad 70), .inl (cZ, 3, .inl fB))]) [22, 30, 41, 31] (by decide) rfl
        have hFc := va_free (wc := [(am, .inr (12, MF ad 0 0 0 (-1) 0 0 0 0 0 0 0 0 0 0 0 0 0 0 0 0 0)), ((ad 42), .inl (cI, 32, .inl fA)), ((ad 69), .inl (cI, 96, .inl fbm)), ((ad 70), .inl (cZ, 3, .inl fB))]) hD hS hA [22, 30, 41, 31] rfl
        refine va_calli (va_runV (As := [.int (xs (Int32.toNatClampNeg 1))]) (rest := [.int (sp_rng 2 xs (Int32.toNatClampNeg 1))]) ⟨hx, hb, hml, hown, hts⟩ (m_image l D cI cB cL cZ am ad 0 0 0 0 0 0 0 0 0 0 0 0 fA fbm fB (xs (Int32.toNatClampNeg 1)) H.size hf_fA_30) (cwV 1 hts gL_law_X12_image rfl rfl rfl (by decide +kernel) ⟨Nat.le_of_ble_eq_true rfl, Nat.le_of_ble_eq_true rfl⟩) ⟨xp_blind, va_recv hK hPc (ci := 12) (q0 := 0) rfl rfl, fun U hU hW => xp_mk hU hW hPc (hK.sub (tys' := [(cI, .int), (cB, .byte), (cL, .long), (cZ, .boolean)]) [0, 1, 2, 3] rfl) hDc xNw_nil⟩ rfl rfl hl.1 rfl (lv_room (Nat.le_of_ble_eq_true rfl)) dL_law_1516 ⟨Nat.le_of_ble_eq_true rfl, Nat.le_of_ble_eq_true rfl⟩) hS (fun q _ h => hFc q h) hFc (fun r_463 u9 t9 H1 locs ht9 hvm9 hr_463 hB9 hz9 hk9 hS => ?_)
        clear hB9 hz9 hPc hDc
        obtain ⟨hP, hD⟩ := va_join (wr := [(aP, .inr (5, PF pz su)), (su, .inr (1, [.ref s0, .ref s1, .ref s2, .int 0, .int 0, .int 0])), (aD, .inr (5, PF pq sq)), (sq, .inr (1, [.ref z0, .ref z1, .ref z2, .int 0, .int 0, .int 0])), (aT, .inr (8, [.ref tb, .int 0])), (tb, .inl (cB, 1600, .inl fb)), (aR, .inr (6, [.ref rt, .ref aD, .int 0, .int (-1)])), (rt, .inr (9, [.ref aT, .ref to, .int 0, .int 0, .int 0, .long 0, .int 0])), (aF, .inr (0, [.ref aP, .ref fx, .ref fr, .ref fe, .int 0])), (fx, .inl (cI, 8, .inl fxf)), (fr, .inl (cI, 64, .inl frf)), (aU, .inr (7, [.ref aF, .ref ul, .int 0, .ref uc, .ref ue])), (mk, .inl (cG, 41, .inr (.inr (.inr (.inr kr))))), (r0, .inl (cI, 32, .inl w0)), (r1, .inl (cI, 32, .inl w1)), (aW, .inr (10, [.ref aM])), (aN, .inr (4, [.ref aF, .int 0, .int 0, .ref n3, .ref n4, .ref n5, .ref n6, .ref n7, .ref n8, .ref n9])), (n3, .inl (cI, 30, .inl g3)), (n4, .inl (cI, 30, .inl g4)), (n5, .inl (cI, 30, .inl g5)), (n6, .inl (cI, 30, .inl g6)), (n7, .inl (cI, 8, .inl fo7)), ((ad 11), .inl (cI, 2, .inl fR)), ((ad 12), .inl (cI, 2, .inl fD)), ((ad 13), .inl (cI, 2, .inl fT)), ((ad 14), .inl (cI, 2, .inl fU)), ((ad 15), .inl (cI, 2, .inl fW)), ((ad 26), .inl (cZ, 2, .inl fS)), ((ad 27), .inl (cZ, 2, .inl fX)), ((ad 0), .inl (cB, 1620, .inl ft)), ((ad 59), .inl (cI, 30, .inl t0)), ((ad 60), .inl (cI, 30, .inl t1)), ((ad 61), .inl (cI, 30, .inl t2)), ((ad 62), .inl (cI, 30, .inl t3)), ((ad 63), .inl (cI, 30, .inl t4)), ((ad 64), .inl (cI, 30, .inl t5)), ((ad 57), .inl (cI, 64, .inl fk)), ((ad 45), .inl (cI, 1312, .inl fw))]) (w1 := []) hP hD [22, 30, 41, 31] [0, 1, 2, 3, 4, 5, 6, 7, 8, 9, 10, 11, 12, 13, 14, 15, 16, 17, 18, 19, 20, 21, 23, 24, 25, 26, 27, 28, 29, 32, 33, 34, 35, 36, 37, 38, 39, 40] rfl rfl (by decide) (by decide) hk9 hFc (fun k q h => by simp at h) ⟨fun i j p q h => by simp at h, fun k q h => by simp at h⟩
        clear hk9 hFc ht9 hvm9
        generalize H1 = H at hP hS ⊢
        replace hP : va_P D classes [(aP, .inr (5, PF pz su)), (su, .inr (1, [.ref s0, .ref s1, .ref s2, .int 0, .int 0, .int 0])), (aD, .inr (5, PF pq sq)), (sq, .inr (1, [.ref z0, .ref z1, .ref z2, .int 0, .int 0, .int 0])), (aT, .inr (8, [.ref tb, .int 0])), (tb, .inl (cB, 1600, .inl fb)), (aR, .inr (6, [.ref rt, .ref aD, .int 0, .int (-1)])), (rt, .inr (9, [.ref aT, .ref to, .int 0, .int 0, .int 0, .long 0, .int 0])), (aF, .inr (0, [.ref aP, .ref fx, .ref fr, .ref fe, .int 0])), (fx, .inl (cI, 8, .inl fxf)), (fr, .inl (cI, 64, .inl frf)), (aU, .inr (7, [.ref aF, .ref ul, .int 0, .ref uc, .ref ue])), (mk, .inl (cG, 41, .inr (.inr (.inr (.inr kr))))), (r0, .inl (cI, 32, .inl w0)), (r1, .inl (cI, 32, .inl w1)), (aW, .inr (10, [.ref aM])), (aN, .inr (4, [.ref aF, .int 0, .int 0, .ref n3, .ref n4, .ref n5, .ref n6, .ref n7, .ref n8, .ref n9])), (n3, .inl (cI, 30, .inl g3)), (n4, .inl (cI, 30, .inl g4)), (n5, .inl (cI, 30, .inl g5)), (n6, .inl (cI, 30, .inl g6)), (n7, .inl (cI, 8, .inl fo7)), ((ad 11), .inl (cI, 2, .inl fR)), ((ad 12), .inl (cI, 2, .inl fD)), ((ad 13), .inl (cI, 2, .inl fT)), ((ad 14), .inl (cI, 2, .inl fU)), ((ad 15), .inl (cI, 2, .inl fW)), ((ad 26), .inl (cZ, 2, .inl fS)), ((ad 27), .inl (cZ, 2, .inl fX)), ((ad 0), .inl (cB, 1620, .inl ft)), ((ad 59), .inl (cI, 30, .inl t0)), ((ad 60), .inl (cI, 30, .inl t1)), ((ad 61), .inl (cI, 30, .inl t2)), ((ad 62), .inl (cI, 30, .inl t3)), ((ad 63), .inl (cI, 30, .inl t4)), ((ad 64), .inl (cI, 30, .inl t5)), ((ad 57), .inl (cI, 64, .inl fk)), ((ad 45), .inl (cI, 1312, .inl fw))] H := hP
        replace hD : va_D A [(aP, .inr (5, PF pz su)), (su, .inr (1, [.ref s0, .ref s1, .ref s2, .int 0, .int 0, .int 0])), (aD, .inr (5, PF pq sq)), (sq, .inr (1, [.ref z0, .ref z1, .ref z2, .int 0, .int 0, .int 0])), (aT, .inr (8, [.ref tb, .int 0])), (tb, .inl (cB, 1600, .inl fb)), (aR, .inr (6, [.ref rt, .ref aD, .int 0, .int (-1)])), (rt, .inr (9, [.ref aT, .ref to, .int 0, .int 0, .int 0, .long 0, .int 0])), (aF, .inr (0, [.ref aP, .ref fx, .ref fr, .ref fe, .int 0])), (fx, .inl (cI, 8, .inl fxf)), (fr, .inl (cI, 64, .inl frf)), (aU, .inr (7, [.ref aF, .ref ul, .int 0, .ref uc, .ref ue])), (mk, .inl (cG, 41, .inr (.inr (.inr (.inr kr))))), (r0, .inl (cI, 32, .inl w0)), (r1, .inl (cI, 32, .inl w1)), (aW, .inr (10, [.ref aM])), (aN, .inr (4, [.ref aF, .int 0, .int 0, .ref n3, .ref n4, .ref n5, .ref n6, .ref n7, .ref n8, .ref n9])), (n3, .inl (cI, 30, .inl g3)), (n4, .inl (cI, 30, .inl g4)), (n5, .inl (cI, 30, .inl g5)), (n6, .inl (cI, 30, .inl g6)), (n7, .inl (cI, 8, .inl fo7)), ((ad 11), .inl (cI, 2, .inl fR)), ((ad 12), .inl (cI, 2, .inl fD)), ((ad 13), .inl (cI, 2, .inl fT)), ((ad 14), .inl (cI, 2, .inl fU)), ((ad 15), .inl (cI, 2, .inl fW)), ((ad 26), .inl (cZ, 2, .inl fS)), ((ad 27), .inl (cZ, 2, .inl fX)), ((ad 0), .inl (cB, 1620, .inl ft)), ((ad 59), .inl (cI, 30, .inl t0)), ((ad 60), .inl (cI, 30, .inl t1)), ((ad 61), .inl (cI, 30, .inl t2)), ((ad 62), .inl (cI, 30, .inl t3)), ((ad 63), .inl (cI, 30, .inl t4)), ((ad 64), .inl (cI, 30, .inl t5)), ((ad 57), .inl (cI, 64, .inl fk)), ((ad 45), .inl (cI, 1312, .inl fw))] := hD
        subst hr_463
        refine lv_icmp_eq (tgt := 1570) hx hb dL_law_1519 (by decide) (fun _ => ?_) (fun c9 => absurd rfl c9)
        refine lv_iinc (v := 6) (lv' := [(3, .int 6), (2, .ref am), (1, .ref a0), (0, .ref b)]) hx hb dL_law_1570 hl (k := 0) rfl (by decide) (by decide) rfl (fun ls hl => ?_)
        refine lv_goto (tgt := 18) hx hb dL_law_1573 (by decide) ?_
        refine lv_iload_n hx hb dL_law_18 rfl (lv_at hl 0 rfl) ?_
        refine lv_aload_n hx hb dL_law_19 rfl (lv_at hl 3 rfl) ?_
        refine va_slen hx hb hX hbl hbA hS dL_law_20 ?_
        refine lv_topi (fun y_464 ey_464 => ?_)
        obtain rfl : y_464 = 6 := ey_464.trans (by decide)
        refine lv_bipush (v := 6) hx hb dL_law_21 (by decide) ?_
        refine lv_isub hx hb dL_law_23 ?_
        refine lv_topi (fun y_465 ey_465 => ?_)
        obtain rfl : y_465 = 0 := ey_465.trans (by decide)
        refine lv_icmp_gt (tgt := 1576) hx hb dL_law_24 (by decide) (fun _ => ?_) (fun c_466 => absurd (by decide) c_466)
        refine lv_iconst (v := 1) hx hb dL_law_1576 (by decide) ?_
        refine va_forget (fun q hq => by have h := hS.2.2 q hq; rw [hAe] at h; exact h) ?_
        refine W.widen (k := 600000) (n := 7302250) (Nat.le_of_ble_eq_true rfl) (Nat.le_of_ble_eq_true rfl) ?_
        exact lw_ret hx hb hr hlocks dL_law_1577
      · refine lv_tableIn (off := 1491) (tgt := 1524) hx hb dL_law_33 (by decide) (by decide) (by decide) (by decide) ?_
        refine lv_aload_n hx hb dL_law_1524 rfl (lv_at hl 2 rfl) ?_
        refine lv_aload_n hx hb dL_law_1525 rfl (lv_at hl 3 rfl) ?_
        refine lv_iload_n hx hb dL_law_1526 rfl (lv_at hl 0 rfl) ?_
        refine lv_iconst (v := 1) hx hb dL_law_1527 (by decide) ?_
        refine lv_iadd hx hb dL_law_1528 ?_
        refine lv_topi (fun y_467 ey_467 => ?_)
        obtain rfl : y_467 = 1 := ey_467.trans (by decide)
        refine va_sld hx hb hX hbl hbA hS (show vp_in 1 6 from (by decide : ¬ ((1 : Int32) < 0 ∨ 6 ≤ Int32.toNatClampNeg 1))) dL_law_1529 ?_
        have hPc := hP.sub (ws' := [(a0, .inr (11, [.ref aP, .ref aD, .ref aT, .ref aR, .ref aF, .ref aU, .ref aH, .ref aM, .ref aW, .ref aN])), (aM, .inr (3, [.ref aF, .ref mo, .ref ma, .ref mk, .int 0, .int 0, .int 0, .ref mb, .ref mf])), (mf, .inl (cZ, 3, .inl ff))]) [0, 13, 22] rfl
        refine vp_callSi (va_runV (As := [.int (xs (Int32.toNatClampNeg 1))]) (rest := []) ⟨hx, hb, hml, hown, hts⟩ (c_back l D cI cB cL cZ a0 aP aD aT aR aF aU aH aM aW aN aF mo ma mk mb mf ff (xs (Int32.toNatClampNeg 1)) hf_ff_0 hf_ff_1 hf_ff_2) (cwV 1 hts gL_law_X11_back rfl rfl rfl (by decide +kernel) ⟨Nat.le_of_ble_eq_true rfl, Nat.le_of_ble_eq_true rfl⟩) ⟨xr_blind, va_recv hK hPc (ci := 11) (q0 := 0) rfl rfl, fun U hU hW => xr_mk hU hW hPc (hK.sub (tys' := [(cI, .int), (cB, .byte), (cL, .long), (cZ, .boolean)]) [0, 1, 2, 3] rfl)⟩ rfl rfl hl.1 rfl (lv_room (Nat.le_of_ble_eq_true rfl)) dL_law_1530 ⟨Nat.le_of_ble_eq_true rfl, Nat.le_of_ble_eq_true rfl⟩).run (fun r_468 hr_468 => ?_)
        clear hPc
        subst hr_468
        refine lv_aload_n hx hb dL_law_1533 rfl (lv_at hl 1 rfl) ?_
        refine lv_aload_n hx hb dL_law_1534 rfl (lv_at hl 3 rfl) ?_
        refine lv_iload_n hx hb dL_law_1535 rfl (lv_at hl 0 rfl) ?_
        refine lv_iconst (v := 1) hx hb dL_law_1536 (by decide) ?_
        refine lv_iadd hx hb dL_law_1537 ?_
        refine lv_topi (fun y_469 ey_469 => ?_)
        obtain rfl : y_469 = 1 := ey_469.trans (by decide)
        refine va_sld hx hb hX hbl hbA hS (show vp_in 1 6 from (by decide : ¬ ((1 : Int32) < 0 ∨ 6 ≤ Int32.toNatClampNeg 1))) dL_law_1538 ?_
        have hPc := hP.sub (ws' := [(am, .inr (12, MF ad 0 0 0 (-1) 0 0 0 0 0 0 0 0 0 0 0 0 0 0 0 0 0)), ((ad 70), .inl (cZ, 3, .inl fB))]) [30, 39] rfl
        refine vp_callSi (va_runV (As := [.int (xs (Int32.toNatClampNeg 1))]) (rest := [.int (-1)]) ⟨hx, hb, hml, hown, hts⟩ (m_back l D cI cB cL cZ am ad 0 0 0 0 0 0 0 0 0 0 0 0 fB (xs (Int32.toNatClampNeg 1)) hf_fB_0 hf_fB_1 hf_fB_2) (cwV 1 hts gL_law_X12_back rfl rfl rfl (by decide +kernel) ⟨Nat.le_of_ble_eq_true rfl, Nat.le_of_ble_eq_true rfl⟩) ⟨xr_blind, va_recv hK hPc (ci := 12) (q0 := 0) rfl rfl, fun U hU hW => xr_mk hU hW hPc (hK.sub (tys' := [(cI, .int), (cB, .byte), (cL, .long), (cZ, .boolean)]) [0, 1, 2, 3] rfl)⟩ rfl rfl hl.1 rfl (lv_room (Nat.le_of_ble_eq_true rfl)) dL_law_1539 ⟨Nat.le_of_ble_eq_true rfl, Nat.le_of_ble_eq_true rfl⟩).run (fun r_470 hr_470 => ?_)
        clear hPc
        subst hr_470
        refine lv_icmp_eq (tgt := 1570) hx hb dL_law_1542 (by decide) (fun _ => ?_) (fun c_471 => absurd (by decide) c_471)
        refine lv_iinc (v := 6) (lv' := [(3, .int 6), (2, .ref am), (1, .ref a0), (0, .ref b)]) hx hb dL_law_1570 hl (k := 0) rfl (by decide) (by decide) rfl (fun ls hl => ?_)
        refine lv_goto (tgt := 18) hx hb dL_law_1573 (by decide) ?_
        refine lv_iload_n hx hb dL_law_18 rfl (lv_at hl 0 rfl) ?_
        refine lv_aload_n hx hb dL_law_19 rfl (lv_at hl 3 rfl) ?_
        refine va_slen hx hb hX hbl hbA hS dL_law_20 ?_
        refine lv_topi (fun y_472 ey_472 => ?_)
        obtain rfl : y_472 = 6 := ey_472.trans (by decide)
        refine lv_bipush (v := 6) hx hb dL_law_21 (by decide) ?_
        refine lv_isub hx hb dL_law_23 ?_
        refine lv_topi (fun y_473 ey_473 => ?_)
        obtain rfl : y_473 = 0 := ey_473.trans (by decide)
        refine lv_icmp_gt (tgt := 1576) hx hb dL_law_24 (by decide) (fun _ => ?_) (fun c_474 => absurd (by decide) c_474)
        refine lv_iconst (v := 1) hx hb dL_law_1576 (by decide) ?_
        refine va_forget (fun q hq => by have h := hS.2.2 q hq; rw [hAe] at h; exact h) ?_
        refine W.widen (k := 600000) (n := 7302250) (Nat.le_of_ble_eq_true rfl) (Nat.le_of_ble_eq_true rfl) ?_
        exact lw_ret hx hb hr hlocks dL_law_1577
      · refine lv_tableIn (off := 1514) (tgt := 1547) hx hb dL_law_33 (by decide) (by decide) (by decide) (by decide) ?_
        refine lv_aload_n hx hb dL_law_1547 rfl (lv_at hl 2 rfl) ?_
        refine lv_aload_n hx hb dL_law_1548 rfl (lv_at hl 3 rfl) ?_
        refine lv_iload_n hx hb dL_law_1549 rfl (lv_at hl 0 rfl) ?_
        refine lv_iconst (v := 1) hx hb dL_law_1550 (by decide) ?_
        refine lv_iadd hx hb dL_law_1551 ?_
        refine lv_topi (fun y_475 ey_475 => ?_)
        obtain rfl : y_475 = 1 := ey_475.trans (by decide)
        refine va_sld hx hb hX hbl hbA hS (show vp_in 1 6 from (by decide : ¬ ((1 : Int32) < 0 ∨ 6 ≤ Int32.toNatClampNeg 1))) dL_law_1552 ?_
        have hPc := hP.sub (ws' := [(a0, .inr (11, [.ref aP, .ref aD, .ref aT, .ref aR, .ref aF, .ref aU, .ref aH, .ref aM, .ref aW, .ref aN])), (aP, .inr (5, PF pz su)), (aM, .inr (3, [.ref aF, .ref mo, .ref ma, .ref mk, .int 0, .int 0, .int 0, .ref mb, .ref mf])), (mo, .inl (cI, 32, .inl fn)), (aN, .inr (4, [.ref aF, .int 0, .int 0, .ref n3, .ref n4, .ref n5, .ref n6, .ref n7, .ref n8, .ref n9])), (aT, .inr (8, [.ref tb, .int 0])), (su, .inr (1, [.ref s0, .ref s1, .ref s2, .int 0, .int 0, .int 0])), (aU, .inr (7, [.ref aF, .ref ul, .int 0, .ref uc, .ref ue]))]) [0, 1, 13, 14, 24, 5, 2, 12] rfl
        refine vp_callSi (va_runV (As := [.int (xs (Int32.toNatClampNeg 1))]) (rest := []) ⟨hx, hb, hml, hown, hts⟩ (c_about l D cI cB cL cZ a0 aP aD aT aR aF aU aH aM aW aN aF aF aF pz su mo ma mk mb mf fn n3 n4 n5 n6 n7 n8 n9 tb s0 s1 s2 ul uc ue (xs (Int32.toNatClampNeg 1)) hf_fn_30 hf_fn_31) (cwV 1 hts gL_law_X11_about rfl rfl rfl (by decide +kernel) ⟨Nat.le_of_ble_eq_true rfl, Nat.le_of_ble_eq_true rfl⟩) ⟨xr_blind, va_recv hK hPc (ci := 11) (q0 := 0) rfl rfl, fun U hU hW => xr_mk hU hW hPc (hK.sub (tys' := [(cI, .int), (cB, .byte), (cL, .long), (cZ, .boolean)]) [0, 1, 2, 3] rfl)⟩ rfl rfl hl.1 rfl (lv_room (Nat.le_of_ble_eq_true rfl)) dL_law_1553 ⟨Nat.le_of_ble_eq_true rfl, Nat.le_of_ble_eq_true rfl⟩).run (fun r_476 hr_476 => ?_)
        clear hPc
        subst hr_476
        refine lv_aload_n hx hb dL_law_1556 rfl (lv_at hl 1 rfl) ?_
        refine lv_aload_n hx hb dL_law_1557 rfl (lv_at hl 3 rfl) ?_
        refine lv_iload_n hx hb dL_law_1558 rfl (lv_at hl 0 rfl) ?_
        refine lv_iconst (v := 1) hx hb dL_law_1559 (by decide) ?_
        refine lv_iadd hx hb dL_law_1560 ?_
        refine lv_topi (fun y_477 ey_477 => ?_)
        obtain rfl : y_477 = 1 := ey_477.trans (by decide)
        refine va_sld hx hb hX hbl hbA hS (show vp_in 1 6 from (by decide : ¬ ((1 : Int32) < 0 ∨ 6 ≤ Int32.toNatClampNeg 1))) dL_law_1561 ?_
        have hPc := hP.sub (ws' := [(am, .inr (12, MF ad 0 0 0 (-1) 0 0 0 0 0 0 0 0 0 0 0 0 0 0 0 0 0)), ((ad 11), .inl (cI, 2, .inl fR)), ((ad 12), .inl (cI, 2, .inl fD)), ((ad 13), .inl (cI, 2, .inl fT)), ((ad 42), .inl (cI, 32, .inl fA)), ((ad 14), .inl (cI, 2, .inl fU))]) [30, 31, 32, 33, 38, 34] rfl
        refine vp_callSi (va_runV (As := [.int (xs (Int32.toNatClampNeg 1))]) (rest := [.int (sp_rng 11 xs (Int32.toNatClampNeg 1))]) ⟨hx, hb, hml, hown, hts⟩ (m_about l D cI cB cL cZ am ad 0 0 0 0 0 0 0 0 0 0 0 0 fR fD fT fA fU (xs (Int32.toNatClampNeg 1)) hf_fR_0 hf_fD_0 hf_fT_0 hf_fA_30 hf_fA_31 hf_fU_0) (cwV 1 hts gL_law_X12_about rfl rfl rfl (by decide +kernel) ⟨Nat.le_of_ble_eq_true rfl, Nat.le_of_ble_eq_true rfl⟩) ⟨xr_blind, va_recv hK hPc (ci := 12) (q0 := 0) rfl rfl, fun U hU hW => xr_mk hU hW hPc (hK.sub (tys' := [(cI, .int), (cB, .byte), (cL, .long), (cZ, .boolean)]) [0, 1, 2, 3] rfl)⟩ rfl rfl hl.1 rfl (lv_room (Nat.le_of_ble_eq_true rfl)) dL_law_1562 ⟨Nat.le_of_ble_eq_true rfl, Nat.le_of_ble_eq_true rfl⟩).run (fun r_478 hr_478 => ?_)
        clear hPc
        subst hr_478
        refine lv_icmp_eq (tgt := 1570) hx hb dL_law_1565 (by decide) (fun _ => ?_) (fun c9 => absurd rfl c9)
        refine lv_iinc (v := 6) (lv' := [(3, .int 6), (2, .ref am), (1, .ref a0), (0, .ref b)]) hx hb dL_law_1570 hl (k := 0) rfl (by decide) (by decide) rfl (fun ls hl => ?_)
        refine lv_goto (tgt := 18) hx hb dL_law_1573 (by decide) ?_
        refine lv_iload_n hx hb dL_law_18 rfl (lv_at hl 0 rfl) ?_
        refine lv_aload_n hx hb dL_law_19 rfl (lv_at hl 3 rfl) ?_
        refine va_slen hx hb hX hbl hbA hS dL_law_20 ?_
        refine lv_topi (fun y_479 ey_479 => ?_)
        obtain rfl : y_479 = 6 := ey_479.trans (by decide)
        refine lv_bipush (v := 6) hx hb dL_law_21 (by decide) ?_
        refine lv_isub hx hb dL_law_23 ?_
        refine lv_topi (fun y_480 ey_480 => ?_)
        obtain rfl : y_480 = 0 := ey_480.trans (by decide)
        refine lv_icmp_gt (tgt := 1576) hx hb dL_law_24 (by decide) (fun _ => ?_) (fun c_481 => absurd (by decide) c_481)
        refine lv_iconst (v := 1) hx hb dL_law_1576 (by decide) ?_
        refine va_forget (fun q hq => by have h := hS.2.2 q hq; rw [hAe] at h; exact h) ?_
        refine W.widen (k := 600000) (n := 7302250) (Nat.le_of_ble_eq_true rfl) (Nat.le_of_ble_eq_true rfl) ?_
        exact lw_ret hx hb hr hlocks dL_law_1577
    · refine lv_tableOut (tgt := 1570) hx hb dL_law_33 (Or.inr (by rw [nI_toInt (by omega)]; omega)) (by decide) ?_
      refine lv_iinc (v := 6) (lv' := [(3, .int 6), (2, .ref am), (1, .ref a0), (0, .ref b)]) hx hb dL_law_1570 hl (k := 0) rfl (by decide) (by decide) rfl (fun ls hl => ?_)
      refine lv_goto (tgt := 18) hx hb dL_law_1573 (by decide) ?_
      refine lv_iload_n hx hb dL_law_18 rfl (lv_at hl 0 rfl) ?_
      refine lv_aload_n hx hb dL_law_19 rfl (lv_at hl 3 rfl) ?_
      refine va_slen hx hb hX hbl hbA hS dL_law_20 ?_
      refine lv_topi (fun y_482 ey_482 => ?_)
      obtain rfl : y_482 = 6 := ey_482.trans (by decide)
      refine lv_bipush (v := 6) hx hb dL_law_21 (by decide) ?_
      refine lv_isub hx hb dL_law_23 ?_
      refine lv_topi (fun y_483 ey_483 => ?_)
      obtain rfl : y_483 = 0 := ey_483.trans (by decide)
      refine lv_icmp_gt (tgt := 1576) hx hb dL_law_24 (by decide) (fun _ => ?_) (fun c_484 => absurd (by decide) c_484)
      refine lv_iconst (v := 1) hx hb dL_law_1576 (by decide) ?_
      refine va_forget (fun q hq => by have h := hS.2.2 q hq; rw [hAe] at h; exact h) ?_
      refine W.widen (k := 600000) (n := 7302250) (Nat.le_of_ble_eq_true rfl) (Nat.le_of_ble_eq_true rfl) ?_
      exact lw_ret hx hb hr hlocks dL_law_1577
