theorem nn_eq {n : Nat} {c : Int32} (h : n < 2 ^ 31) (hc : c < 0) : ¬ nI n = c := fun e => nI_pos h (e ▸ hc)
theorem nn_lt {n : Nat} {c : Int32} (h : n < 2 ^ 31) (hc : c < 0) : ¬ nI n < c := fun e => by
  have h1 := nI_toInt h
  rw [lt_ti] at e hc
  have h2 : (0 : Int32).toInt = 0 := rfl
  omega
theorem nn_le {n : Nat} {c : Int32} (h : n < 2 ^ 31) (hc : c < 0) : ¬ nI n ≤ c := fun e => by
  have h1 := nI_toInt h
  rw [lt_ti] at hc
  rw [le_ti] at e
  have h2 : (0 : Int32).toInt = 0 := rfl
  omega
theorem nn_gt {n : Nat} {c : Int32} (h : n < 2 ^ 31) (hc : c < 0) : c < nI n := by
  have h1 := nI_toInt h
  rw [lt_ti] at hc ⊢
  have h2 : (0 : Int32).toInt = 0 := rfl
  omega
theorem nn_ge {n : Nat} {c : Int32} (h : n < 2 ^ 31) (hc : c < 0) : c ≤ nI n := by
  have h1 := nI_toInt h
  rw [lt_ti] at hc
  rw [le_ti]
  have h2 : (0 : Int32).toInt = 0 := rfl
  omega
def fl (n : Nat) (v : Int32) (f : Nat → Int32) : Nat → Int32 := fun j => if j < n then v else f j
theorem fl_0 (v : Int32) (f : Nat → Int32) : fl 0 v f = f := by
  funext j
  simp [fl]
theorem fl_s (n : Nat) (v : Int32) (f : Nat → Int32) : upd (fl n v f) n v = fl (n + 1) v f := by
  funext j
  by_cases h : j = n
  · subst h
    simp [upd, fl]
  · have e : (j < n + 1) = (j < n) := by
      apply propext
      omega
    simp [upd, fl, h, e]
