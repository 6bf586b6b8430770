theorem upd_same {f : Nat → Int32} {k : Nat} {x : Int32} (h : f k = x) : upd f k x = f := by
  funext j
  by_cases q : j = k
  · subst q
    simp [upd, h]
  · simp [upd, q]
theorem upd_upd (f : Nat → Int32) (k : Nat) (x y : Int32) : upd (upd f k x) k y = upd f k y := by
  funext j
  by_cases q : j = k
  · simp [upd, q]
  · simp [upd, q]
