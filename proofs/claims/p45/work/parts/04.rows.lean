/-- f but row i -/
def rup (f : Nat → Nat → Int32) (i : Nat) (g : Nat → Int32) : Nat → Nat → Int32 := fun k => if k = i then g else f k
theorem rup_ok {n : Nat} {f : Nat → Nat → Int32} {i : Nat} {g : Nat → Int32} {p q : Nat} {a b : Int} (h : ∀ j, j < n → zA (f j) p q a b) (hg : zA g p q a b) : ∀ j, j < n → zA (rup f i g j) p q a b := by
  intro j hj
  unfold rup
  split
  · exact hg
  · exact h j hj
def rw41 (cI : ClassId) (r : Nat → Nat) (f : Nat → Nat → Int32) : va_W := [(r 0, .inl (cI, 32, .inl (f 0))), (r 1, .inl (cI, 32, .inl (f 1))), (r 2, .inl (cI, 32, .inl (f 2))), (r 3, .inl (cI, 32, .inl (f 3))), (r 4, .inl (cI, 32, .inl (f 4))), (r 5, .inl (cI, 32, .inl (f 5))), (r 6, .inl (cI, 32, .inl (f 6))), (r 7, .inl (cI, 32, .inl (f 7))), (r 8, .inl (cI, 32, .inl (f 8))), (r 9, .inl (cI, 32, .inl (f 9))), (r 10, .inl (cI, 32, .inl (f 10))), (r 11, .inl (cI, 32, .inl (f 11))), (r 12, .inl (cI, 32, .inl (f 12))), (r 13, .inl (cI, 32, .inl (f 13))), (r 14, .inl (cI, 32, .inl (f 14))), (r 15, .inl (cI, 32, .inl (f 15))), (r 16, .inl (cI, 32, .inl (f 16))), (r 17, .inl (cI, 32, .inl (f 17))), (r 18, .inl (cI, 32, .inl (f 18))), (r 19, .inl (cI, 32, .inl (f 19))), (r 20, .inl (cI, 32, .inl (f 20))), (r 21, .inl (cI, 32, .inl (f 21))), (r 22, .inl (cI, 32, .inl (f 22))), (r 23, .inl (cI, 32, .inl (f 23))), (r 24, .inl (cI, 32, .inl (f 24))), (r 25, .inl (cI, 32, .inl (f 25))), (r 26, .inl (cI, 32, .inl (f 26))), (r 27, .inl (cI, 32, .inl (f 27))), (r 28, .inl (cI, 32, .inl (f 28))), (r 29, .inl (cI, 32, .inl (f 29))), (r 30, .inl (cI, 32, .inl (f 30))), (r 31, .inl (cI, 32, .inl (f 31))), (r 32, .inl (cI, 32, .inl (f 32))), (r 33, .inl (cI, 32, .inl (f 33))), (r 34, .inl (cI, 32, .inl (f 34))), (r 35, .inl (cI, 32, .inl (f 35))), (r 36, .inl (cI, 32, .inl (f 36))), (r 37, .inl (cI, 32, .inl (f 37))), (r 38, .inl (cI, 32, .inl (f 38))), (r 39, .inl (cI, 32, .inl (f 39))), (r 40, .inl (cI, 32, .inl (f 40)))]
def rw3 (cI : ClassId) (r : Nat → Nat) (f : Nat → Nat → Int32) : va_W := [(r 0, .inl (cI, 32, .inl (f 0))), (r 1, .inl (cI, 32, .inl (f 1))), (r 2, .inl (cI, 32, .inl (f 2)))]
theorem zsp_3 {x : Int32} (h : zB x 0 2) : x = 0 ∨ x = 1 ∨ x = 2 := by
  obtain ⟨k, rfl, e, q1, q2⟩ := zB_nat h (by decide)
  rcases (show k = 0 ∨ k = 1 ∨ k = 2 by omega) with rfl | rfl | rfl <;> decide
theorem zsp_41 {x : Int32} (h : zB x 0 40) : x = 0 ∨ x = 1 ∨ x = 2 ∨ x = 3 ∨ x = 4 ∨ x = 5 ∨ x = 6 ∨ x = 7 ∨ x = 8 ∨ x = 9 ∨ x = 10 ∨ x = 11 ∨ x = 12 ∨ x = 13 ∨ x = 14 ∨ x = 15 ∨ x = 16 ∨ x = 17 ∨ x = 18 ∨ x = 19 ∨ x = 20 ∨ x = 21 ∨ x = 22 ∨ x = 23 ∨ x = 24 ∨ x = 25 ∨ x = 26 ∨ x = 27 ∨ x = 28 ∨ x = 29 ∨ x = 30 ∨ x = 31 ∨ x = 32 ∨ x = 33 ∨ x = 34 ∨ x = 35 ∨ x = 36 ∨ x = 37 ∨ x = 38 ∨ x = 39 ∨ x = 40 := by
  obtain ⟨k, rfl, e, q1, q2⟩ := zB_nat h (by decide)
  rcases (show k = 0 ∨ k = 1 ∨ k = 2 ∨ k = 3 ∨ k = 4 ∨ k = 5 ∨ k = 6 ∨ k = 7 ∨ k = 8 ∨ k = 9 ∨ k = 10 ∨ k = 11 ∨ k = 12 ∨ k = 13 ∨ k = 14 ∨ k = 15 ∨ k = 16 ∨ k = 17 ∨ k = 18 ∨ k = 19 ∨ k = 20 ∨ k = 21 ∨ k = 22 ∨ k = 23 ∨ k = 24 ∨ k = 25 ∨ k = 26 ∨ k = 27 ∨ k = 28 ∨ k = 29 ∨ k = 30 ∨ k = 31 ∨ k = 32 ∨ k = 33 ∨ k = 34 ∨ k = 35 ∨ k = 36 ∨ k = 37 ∨ k = 38 ∨ k = 39 ∨ k = 40 by omega) with rfl | rfl | rfl | rfl | rfl | rfl | rfl | rfl | rfl | rfl | rfl | rfl | rfl | rfl | rfl | rfl | rfl | rfl | rfl | rfl | rfl | rfl | rfl | rfl | rfl | rfl | rfl | rfl | rfl | rfl | rfl | rfl | rfl | rfl | rfl | rfl | rfl | rfl | rfl | rfl | rfl <;> decide
theorem zA_cpy {f g h : Nat → Int32} {p n : Nat} {a b : Int} (e : h = va_cpy f g 0 0 32) (hf : zA f p n a b) (hn : n ≤ 32 := by decide) : zA h p n a b := by
  subst e
  intro j q r
  have z : va_cpy f g 0 0 32 j = f j := by
    unfold va_cpy
    rw [if_pos ⟨Nat.zero_le _, by omega⟩]
    simp
  rw [z]; exact hf j q r
section ZZ2
variable {p : Program} {l : Launch} {e : Env} {R : Room} {s : State} {m : MethodId} {args : Array Value} {below : List Frame} {meth : Method} {c : Code} {H : Heap} {locs : List Loc} {cells slots : Nat} {Q : State → Prop}
variable {cc : ByteArray} {pc : Nat} {ls : Array Slot} {rest : List Value} {D : va_G} {cl : List vw_C} {A : Nat → Prop} {a : Nat} {tys : List (ClassId × FieldType)} {ws : va_W} {H0 : Heap}
/-- a row out of an array of arrays -/
theorem zz_alda (hexec : p.tables.exec = Jvm.exec) (hb : c.code = cc) (hK : va_K D cl tys s) (hP : va_P D cl ws H) (q0 t0 : Nat) {cA : ClassId} {C : FieldType} {n : Nat} {f : Nat → Option Nat} (ha : ws[q0]? = some (a, .inl (cA, n, .inr (.inr (.inr (.inr f)))))) (ht : tys[t0]? = some (cA, .array C)) {i : Int32} (hin : vp_in i n) {v : Nat} (hv : f i.toNatClampNeg = some v) (hdg : decode cc pc = .ok (.aaload, 1))
    (kk : W p l e R s m args below meth c H locs cells slots Q (F0 m (pc + 1) ls (.ref v :: rest))) : W p l e R s m args below meth c H locs cells slots Q (F0 m pc ls (.int i :: .ref a :: rest)) := by
  have hlt : i.toNatClampNeg < n := Nat.not_le.mp fun q => hin (Or.inr q)
  have hc := hP q0 _ ha
  have hcell : H[a]? = some (arrV cA n (fun j => va_rf (f j))) := hc
  exact W.aald (v := .ref v) (ty := .array C) hexec hb hcell ((hK.2 t0 _ ht).1 n (fun j => va_rf (f j))) rfl (fun q => by cases q) (by rw [arrV_size]; exact hin) (by rw [arrV_read _ _ hlt, hv]; rfl) rfl rfl hdg kk
theorem zi_copy {cc : ByteArray} (hexec : p.tables.exec = Jvm.exec) (hb : c.code = cc) (hml : c.maxLocals = ls.size) {own : String} {index : Nat} (hown : s.vm.findClass own = some m.cls) (hlink : (Cond.methodLink own index arraycopyName).before args s = true) (hnat : (Cond.native arraycopyName).before args s = true) (hstat : (Cond.static arraycopyName).before args s = true) (hini : (Cond.initialized "java/lang/System").before args s = true)
    (hK : va_K D cl tys s) (hP : va_P D cl ws H) (hD : va_D A ws) (hS : va_S A H0 H locs) (q0 q1 : Nat) {a0 : Nat} {c0 : ClassId} {f g : Nat → Int32} (ha0 : ws[q0]? = some (a0, .inl (c0, 32, .inl f))) (ha1 : ws[q1]? = some (a, .inl (c0, 32, .inl g))) (ht0 : tys[0]? = some (c0, .int))
    (hframes : 1 ≤ R.frames) (hlocals : (rest.map fun v => v.category).sum + (nativeFrameWords "java/lang/System" "arraycopy" 5 + 11) ≤ R.locals) (hdg : decode cc pc = .ok (.invokestatic index, 3))
    (kk : ∀ (H1 : Heap) (locs1 : List Loc) (h : Nat → Int32), h = va_cpy f g 0 0 32 → va_P D cl (ws.set q1 (a, .inl (c0, 32, .inl h))) H1 → va_D A (ws.set q1 (a, .inl (c0, 32, .inl h))) → va_S A H0 H1 locs1 → W p l e R s m args below meth c H1 locs1 cells slots Q (F0 m (pc + 3) ls rest)) : W p l e R s m args below meth c H locs cells slots Q (F0 m pc ls (.int 32 :: .int 0 :: .ref a :: .int 0 :: .ref a0 :: rest)) :=
  va_copyi hexec hb hml hown hlink hnat hstat hini hK hP hD hS q0 q1 0 0 ha0 ha1 ht0 ht0 rfl (by decide) (by decide) (by decide) (by decide +kernel) (by decide +kernel) (fun _ _ => rfl) hframes hlocals hdg (fun H1 locs1 h1 h2 h3 => kk H1 locs1 _ rfl h1 h2 h3)
end ZZ2
