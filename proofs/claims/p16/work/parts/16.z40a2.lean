theorem ex_ne0 {n : Nat} (h : ¬ nI n = 0) : 0 < n := Nat.pos_of_ne_zero fun q => h (by rw [q]; rfl)
