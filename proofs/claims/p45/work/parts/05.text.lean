/-! the text of the signs -/
def xTs : String := ";()<>=+-*/%"
def xBs : List Int32 := [59, 40, 41, 60, 62, 61, 43, 45, 42, 47, 37]
def xT (aS vS : Nat) (A : Nat → Prop) (U : State) (H : Heap) : Prop := vk_R RX9 86 xTs aS U ∧ va_O "java/lang/String" aS A U H ∧ va_OF "java/lang/String" "coder" "B" (.int 0) aS A U H ∧ va_OF "java/lang/String" "value" "[B" (.ref vS) aS A U H ∧ va_T .byte vS 11 (fun j => .int (xBs.getD j 0)) A U H ∧ va_Z "java/lang/String" "COMPACT_STRINGS" "Z" (.int 1) A U H
theorem xT.go {aS vS : Nat} {A B : Nat → Prop} {s U : State} {H0 H : Heap} (h : xT aS vS A s H0) (hk : ∀ a : Nat, a < H0.size → ¬ A a → H[a]? = H0[a]?) (hB : ∀ q, B q → A q) (hW : s.WarmedH U.vm) : xT aS vS B U H :=
  ⟨vk_R.warm hW h.1, ((h.2.1.kept hk).narrow hB).moved hW.alike, ((h.2.2.1.kept hk).narrow hB).moved hW.alike, ((h.2.2.2.1.kept hk).narrow hB).moved hW.alike, ((h.2.2.2.2.1.kept hk).narrow hB).moved hW.alike, ((h.2.2.2.2.2.kept hk).narrow hB).moved hW.alike⟩
theorem xT.recv {aS vS : Nat} {A : Nat → Prop} {s : State} {H : Heap} {locs : List Loc} (h : xT aS vS A s s.heap) (hS : va_S A s.heap H locs) : ∃ cell : Cell, H[aS]? = some cell ∧ cell.vm.isStatics = false ∧ s.vm.findClass "java/lang/String" = some cell.cls := by
  obtain ⟨cell, h1, h2, h3, -⟩ := h.2.1.kept hS.2.1
  exact ⟨cell, h1, h2, h3⟩
theorem xT.same {aS vS : Nat} {A : Nat → Prop} {U : State} {g : JFrame} {mk : MethodId} {a : Array Value} (h : xT aS vS A U U.heap) : xT aS vS A (U.calling g mk a) U.heap :=
  ⟨vk_R.same rfl h.1, h.2.1.moved (Vm.Alike.refl U.vm), h.2.2.1.moved (Vm.Alike.refl U.vm), h.2.2.2.1.moved (Vm.Alike.refl U.vm), h.2.2.2.2.1.moved (Vm.Alike.refl U.vm), h.2.2.2.2.2.moved (Vm.Alike.refl U.vm)⟩
def xrT (D : va_G) (tys : List (ClassId × FieldType)) (ws : va_W) (aS vS : Nat) (av : List Value) : Array Value → State → Prop := va_Pc av (fun U => va_P D classes ws U.heap ∧ va_K D classes tys U ∧ xT aS vS (fun _ => False) U U.heap)
theorem xrT_blind {D : va_G} {tys : List (ClassId × FieldType)} {ws : va_W} {aS vS : Nat} {av : List Value} : FrameBlind (xrT D tys ws aS vS av) := fun a U g mk q => by
  obtain ⟨q0, qP, qK, qS⟩ := q
  exact ⟨q0, qP, va_K.moved (u := U) (U := U.calling g mk a) (Vm.Alike.refl U.vm) qK, xT.same qS⟩
theorem xrT_mk {D : va_G} {tys : List (ClassId × FieldType)} {ws : va_W} {aS vS : Nat} {av : List Value} {A : Nat → Prop} {s U : State} {H : Heap} {locs : List Loc} (hU : U.heap = H) (hW : s.WarmedH U.vm) (hP : va_P D classes ws H) (hK : va_K D classes tys s) (h : xT aS vS A s s.heap) (hS : va_S A s.heap H locs) : xrT D tys ws aS vS av av.toArray U :=
  ⟨rfl, by rw [hU]; exact hP, va_K.moved hW.alike hK, by rw [hU]; exact xT.go h hS.2.1 (fun _ h => h.elim) hW⟩
def xpT (D : va_G) (tys : List (ClassId × FieldType)) (ws : va_W) (sz : Nat) (aS vS : Nat) (av : List Value) : Array Value → State → Prop := va_Pc av (fun U => U.heap.size = sz ∧ va_P D classes ws U.heap ∧ va_K D classes tys U ∧ va_D (fun _ => True) ws ∧ xT aS vS (va_A ws sz) U U.heap)
theorem xpT_blind {D : va_G} {tys : List (ClassId × FieldType)} {ws : va_W} {sz : Nat} {aS vS : Nat} {av : List Value} : FrameBlind (xpT D tys ws sz aS vS av) := fun a U g mk q => by
  obtain ⟨q0, q1, qP, qK, qD, qS⟩ := q
  exact ⟨q0, q1, qP, va_K.moved (u := U) (U := U.calling g mk a) (Vm.Alike.refl U.vm) qK, qD, xT.same qS⟩
theorem xpT_mk {D : va_G} {tys : List (ClassId × FieldType)} {ws : va_W} {aS vS : Nat} {av : List Value} {s U : State} {H : Heap} {A A9 : Nat → Prop} {locs : List Loc} (hU : U.heap = H) (hW : s.WarmedH U.vm) (hP : va_P D classes ws H) (hK : va_K D classes tys s) (hD : va_D A9 ws) (hX : xT aS vS A s s.heap) (hS : va_S A s.heap H locs) (hF : ∀ q, va_A ws H.size q → A q) : xpT D tys ws H.size aS vS av av.toArray U :=
  ⟨rfl, by rw [hU], by rw [hU]; exact hP, va_K.moved hW.alike hK, hD.weaken (fun _ _ _ _ => trivial), by rw [hU]; exact xT.go hX hS.2.1 hF hW⟩
theorem zB_cst {x k : Int32} {a : Int} (h : zB x a a) (e : k.toInt = a) : x = k := by
  have p1 := h.1; have p2 := h.2
  exact Int32.toInt_inj.mp (by omega)
