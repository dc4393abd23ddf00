/-! what the contracts are stated with -/
def xr (D : va_G) (tys : List (ClassId × FieldType)) (ws : va_W) (av : List Value) : Array Value → State → Prop := va_Pc av (fun U => va_P D classes ws U.heap ∧ va_K D classes tys U)
theorem xr_blind {D : va_G} {tys : List (ClassId × FieldType)} {ws : va_W} {av : List Value} : FrameBlind (xr D tys ws av) := fun a U g mk q => by
  obtain ⟨q0, qP, qK⟩ := q
  exact ⟨q0, qP, va_K.moved (u := U) (U := U.calling g mk a) (Vm.Alike.refl U.vm) qK⟩
theorem xr_mk {D : va_G} {tys : List (ClassId × FieldType)} {ws : va_W} {av : List Value} {s U : State} {H : Heap} (hU : U.heap = H) (hW : s.WarmedH U.vm) (hP : va_P D classes ws H) (hK : va_K D classes tys s) : xr D tys ws av av.toArray U := ⟨rfl, by rw [hU]; exact hP, va_K.moved hW.alike hK⟩
abbrev xNs : Type := List (String × Nat × MethodName × String)
def xNw (ns : xNs) (U : State) : Prop := ∀ q ∈ ns, va_Nw (.methodLinkNest q.1 q.2.1 q.2.2.1 q.2.2.2) U
def xp (D : va_G) (tys : List (ClassId × FieldType)) (ws : va_W) (sz : Nat) (ns : xNs) (av : List Value) : Array Value → State → Prop := va_Pc av (fun U => U.heap.size = sz ∧ va_P D classes ws U.heap ∧ va_K D classes tys U ∧ va_D (fun _ => True) ws ∧ xNw ns U)
theorem xp_blind {D : va_G} {tys : List (ClassId × FieldType)} {ws : va_W} {sz : Nat} {ns : xNs} {av : List Value} : FrameBlind (xp D tys ws sz ns av) := fun a U g mk q => by
  obtain ⟨q0, q1, qP, qK, qD, qN⟩ := q
  exact ⟨q0, q1, qP, va_K.moved (u := U) (U := U.calling g mk a) (Vm.Alike.refl U.vm) qK, qD, fun q hq => va_Nw.same rfl rfl (qN q hq)⟩
theorem xp_mk {D : va_G} {tys : List (ClassId × FieldType)} {ws : va_W} {ns : xNs} {av : List Value} {s U : State} {H : Heap} {A : Nat → Prop} (hU : U.heap = H) (hW : s.WarmedH U.vm) (hP : va_P D classes ws H) (hK : va_K D classes tys s) (hD : va_D A ws) (hN : xNw ns s) : xp D tys ws H.size ns av av.toArray U := ⟨rfl, by rw [hU], by rw [hU]; exact hP, va_K.moved hW.alike hK, hD.weaken (fun _ _ _ _ => trivial), fun q hq => va_Nw.warmM hW (hN q hq)⟩
theorem xNw_nil {U : State} : xNw [] U := fun _ h => by cases h
abbrev xB (D : va_G) (A : Nat → Prop) (ws : va_W) (t : State) : Prop := va_P D classes ws t.heap ∧ va_D A ws
theorem zz_left {D : va_G} {cl : List vw_C} {w1 w2 : va_W} {H : Heap} (h : va_P D cl (w1 ++ w2) H) : va_P D cl w1 H := fun k q hk => h k q (by rw [List.getElem?_append_left (List.getElem?_eq_some_iff.mp hk).1]; exact hk)
theorem zz_leftD {A : Nat → Prop} {w1 w2 : va_W} (h : va_D A (w1 ++ w2)) : va_D A w1 := ⟨fun i j p q hi hj e => h.1 i j p q (by rw [List.getElem?_append_left (List.getElem?_eq_some_iff.mp hi).1]; exact hi) (by rw [List.getElem?_append_left (List.getElem?_eq_some_iff.mp hj).1]; exact hj) e, fun k q hk => h.2 k q (by rw [List.getElem?_append_left (List.getElem?_eq_some_iff.mp hk).1]; exact hk)⟩
theorem zz_upd0 {f : Nat → Int32} {j k : Nat} {v : Int32} (h : f j = v) : upd f k v j = v := by
  by_cases e : j = k
  · subst e; exact pk_us
  · rw [pk_un e]; exact h
theorem zz_ge {x : Int32} (h : ¬ x < 0) : 0 ≤ x := Int32.not_lt.mp h
section ZZ
variable {p : Program} {l : Launch} {e : Env} {R : Room} {s : State} {m : MethodId} {args : Array Value} {below : List Frame} {meth : Method} {c : Code} {H : Heap} {locs : List Loc} {cells slots : Nat} {Q : State → Prop}
variable {cc : ByteArray} {pc : Nat} {ls : Array Slot} {rest : List Value} {D : va_G} {cl : List vw_C} {A : Nat → Prop} {a : Nat} {tys : List (ClassId × FieldType)} {ws : va_W} {H0 : Heap}
/-- a new array whose class is known already -/
theorem zz_newC (hexec : p.tables.exec = Jvm.exec) (hb : c.code = cc) {atype : ArrayType} (harr : (Cond.arrayClass (newarray.typeOf atype)).before args s = true) {ty : FieldType} (hty : newarray.typeOf atype = ty) (hK : va_K D cl tys s) (hP : va_P D cl ws H) (hD : va_D A ws) (hS : va_S A H0 H locs) (hA : ∀ q, H0.size ≤ q → A q)
    {n : Int32} {N' : Nat} {a0 : vp_A} (ha : ∀ cA : ClassId, vp_cell cA a0 = arrV cA N' (fun _ => defaultValue ty)) (hn : ¬ n < 0) (hN : n.toNatClampNeg = N') (hbytes : N' * componentBytes ty ≤ 536870912) (hcells : cells + 1 ≤ R.cells) (hslots : slots + N' ≤ R.slots) (hdg : decode cc pc = .ok (.newarray atype, 2))
    (t0 : Nat) {c0 : ClassId} (ht : tys[t0]? = some (c0, ty)) (hR : ∀ c9, va_RA s c9 ty → s.vm.findClass ("[" ++ ty.toString) = some c9)
    (kk : ∀ (q : Nat) (H1 : Heap), va_P D cl (ws ++ [(q, .inl (c0, a0))]) H1 → va_D A (ws ++ [(q, .inl (c0, a0))]) → va_S A H0 H1 locs →
      W p l e R s m args below meth c H1 locs (cells + 1) (slots + N') Q (F0 m (pc + 2) ls (.ref q :: rest))) : W p l e R s m args below meth c H locs cells slots Q (F0 m pc ls (.int n :: rest)) := by
  refine va_newa hexec hb harr hty hK hP hD hS hA ha hn hN hbytes hcells hslots hdg (fun q cA H1 hK2 hP2 hD2 hS2 => ?_)
  have h1 := hR _ (hK.2 t0 _ ht).2
  have h2 := hR _ (hK2.2 tys.length (cA, ty) (by simp)).2
  have e : cA = c0 := Option.some.inj (h2.symm.trans h1)
  subst e
  exact kk q H1 hP2 hD2 hS2
/-- a new array of which nothing is kept but its address -/
theorem zz_newD (hexec : p.tables.exec = Jvm.exec) (hb : c.code = cc) {atype : ArrayType} (harr : (Cond.arrayClass (newarray.typeOf atype)).before args s = true) {ty : FieldType} (hty : newarray.typeOf atype = ty) (hK : va_K D cl tys s) (hP : va_P D cl ws H) (hD : va_D A ws) (hS : va_S A H0 H locs) (hA : ∀ q, H0.size ≤ q → A q)
    {n : Int32} {N' : Nat} {a0 : vp_A} (ha : ∀ cA : ClassId, vp_cell cA a0 = arrV cA N' (fun _ => defaultValue ty)) (hn : ¬ n < 0) (hN : n.toNatClampNeg = N') (hbytes : N' * componentBytes ty ≤ 536870912) (hcells : cells + 1 ≤ R.cells) (hslots : slots + N' ≤ R.slots) (hdg : decode cc pc = .ok (.newarray atype, 2))
    (kk : ∀ (q : Nat) (H1 : Heap), va_P D cl ws H1 → va_D A ws → va_S A H0 H1 locs →
      W p l e R s m args below meth c H1 locs (cells + 1) (slots + N') Q (F0 m (pc + 2) ls (.ref q :: rest))) : W p l e R s m args below meth c H locs cells slots Q (F0 m pc ls (.int n :: rest)) := by
  refine va_newa hexec hb harr hty hK hP hD hS hA ha hn hN hbytes hcells hslots hdg (fun q cA H1 hK2 hP2 hD2 hS2 => ?_)
  exact kk q H1 (zz_left hP2) (zz_leftD hD2) hS2
/-- a row out of an array of arrays -/
theorem zz_alda (hexec : p.tables.exec = Jvm.exec) (hb : c.code = cc) (hK : va_K D cl tys s) (hP : va_P D cl ws H) (q0 t0 : Nat) {cA : ClassId} {C : FieldType} {n : Nat} {f : Nat → Option Nat} (ha : ws[q0]? = some (a, .inl (cA, n, .inr (.inr (.inr (.inr f)))))) (ht : tys[t0]? = some (cA, .array C)) {i : Int32} (hin : vp_in i n) {v : Nat} (hv : f i.toNatClampNeg = some v) (hdg : decode cc pc = .ok (.aaload, 1))
    (kk : W p l e R s m args below meth c H locs cells slots Q (F0 m (pc + 1) ls (.ref v :: rest))) : W p l e R s m args below meth c H locs cells slots Q (F0 m pc ls (.int i :: .ref a :: rest)) := by
  have hlt : i.toNatClampNeg < n := Nat.not_le.mp fun q => hin (Or.inr q)
  have hc := hP q0 _ ha
  have hcell : H[a]? = some (arrV cA n (fun j => va_rf (f j))) := hc
  exact W.aald (v := .ref v) (ty := .array C) hexec hb hcell ((hK.2 t0 _ ht).1 n (fun j => va_rf (f j))) rfl (fun q => by cases q) (by rw [arrV_size]; exact hin) (by rw [arrV_read _ _ hlt, hv]; rfl) rfl rfl hdg kk
end ZZ
theorem zz_arr {args : Array Value} {s : State} {ty : FieldType} (h : (Cond.arrayClass ty).before args s = true) (hR : ∀ c9, s.vm.findClass ("[" ++ ty.toString) = some c9 → va_RA s c9 ty) : ∃ c9 : ClassId, ArrOfT s c9 ty ∧ va_RA s c9 ty := by
  obtain ⟨cA, kA, comp, hf, hk, hkind⟩ := Cond.arrayClass_spec h
  exact ⟨cA, fun n z => ⟨(fun q hq => by cases hq), kA, hk, comp, hkind⟩, hR cA hf⟩
theorem zz_ab1 {x a b : Int32} (h1 : ¬ x < a) (h2 : ¬ b < x) (h : b < a) : False := by
  rw [Int32.lt_iff_toInt_lt] at h1 h2 h; omega
theorem zz_ab2 {x a b : Int32} (h1 : ¬ x < a) (h2 : x < b) (h : b ≤ a) : False := by
  rw [Int32.lt_iff_toInt_lt] at h1 h2; rw [Int32.le_iff_toInt_le] at h; omega
theorem zz_ab3 {x a b : Int32} (h1 : a < x) (h2 : ¬ b < x) (h : b ≤ a) : False := by
  rw [Int32.lt_iff_toInt_lt] at h1 h2; rw [Int32.le_iff_toInt_le] at h; omega
theorem zz_ab4 {x a b : Int32} (h1 : a < x) (h2 : x < b) (h : b ≤ a) : False := by
  rw [Int32.lt_iff_toInt_lt] at h1 h2; rw [Int32.le_iff_toInt_le] at h; omega
theorem zz_nlt {x a : Int32} (h : a ≤ x) : ¬ x < a := Int32.not_lt.mpr h
theorem zz_mlt {x a : Int32} (h : ¬ a ≤ x) : x < a := Int32.not_le.mp h
theorem zz_pin {x a : Int32} (h1 : ¬ x < a) (h2 : ¬ a < x) : x = a := by
  rw [Int32.lt_iff_toInt_lt] at h1 h2
  exact Int32.toInt_inj.mp (by omega)
/-- in 0 .. h: 0, else NONE -/
def sp_rng (h x : Int32) : Int32 := if x < 0 then -1 else if h < x then -1 else 0
theorem sp_rng_lt {h x : Int32} (h1 : x < 0) : sp_rng h x = -1 := if_pos h1
theorem sp_rng_gt {h x : Int32} (h0 : ¬ x < 0) (h1 : h < x) : sp_rng h x = -1 := by unfold sp_rng; rw [if_neg h0, if_pos h1]
theorem sp_rng_in {h x : Int32} (h0 : ¬ x < 0) (h1 : ¬ h < x) : sp_rng h x = 0 := by unfold sp_rng; rw [if_neg h0, if_neg h1]
/-- 0: 0, else NONE -/
def sp_nul (x : Int32) : Int32 := if x = 0 then 0 else -1
theorem sp_nul_ne {x : Int32} (h : ¬ x = 0) : sp_nul x = -1 := if_neg h
theorem sp_nul_lt {x : Int32} (h : x < 0) : sp_nul x = -1 := if_neg (fun e => by rw [e] at h; exact absurd h (by decide))
theorem sp_nul_gt {x : Int32} (h : 0 < x) : sp_nul x = -1 := if_neg (fun e => by rw [e] at h; exact absurd h (by decide))
def sp_later (x : Int32) : Int32 := if x < 0 then -1 else if 1000 < x then -1 else x
theorem sp_later_lt {x : Int32} (h1 : x < 0) : sp_later x = -1 := if_pos h1
theorem sp_later_gt {x : Int32} (h0 : ¬ x < 0) (h1 : 1000 < x) : sp_later x = -1 := by unfold sp_later; rw [if_neg h0, if_pos h1]
theorem sp_later_in {x : Int32} (h0 : ¬ x < 0) (h1 : ¬ 1000 < x) : sp_later x = x := by unfold sp_later; rw [if_neg h0, if_neg h1]
def sp_heard (m x : Int32) : Int32 := if x < 0 then -1 else if 9 < x then -1 else sp_rng 7 m
theorem sp_heard_lt {m x : Int32} (h1 : x < 0) : sp_heard m x = -1 := if_pos h1
theorem sp_heard_gt {m x : Int32} (h0 : ¬ x < 0) (h1 : 9 < x) : sp_heard m x = -1 := by unfold sp_heard; rw [if_neg h0, if_pos h1]
theorem sp_heard_in {m x : Int32} (h0 : ¬ x < 0) (h1 : ¬ 9 < x) : sp_heard m x = sp_rng 7 m := by unfold sp_heard; rw [if_neg h0, if_neg h1]
