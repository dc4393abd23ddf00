theorem zz_updU {f : Nat → Int32} {k : Nat} {v : Int32} (h : ∀ j, f j ≤ 0) (hv : v ≤ 0) : ∀ j, upd f k v j ≤ 0 := fun j => by
  by_cases e : j = k
  · subst e; rw [pk_us]; exact hv
  · rw [pk_un e]; exact h j
