theorem mv_s {b : Nat} : ∀ (n k : Nat) (a : Nat → Int32), k + n = b → (∀ j, k ≤ j → j < b → F_X12_moves_L2 b n k a j = a (b + j)) ∧ ∀ j, (j < k ∨ b ≤ j) → F_X12_moves_L2 b n k a j = a j
  | 0, k, a, h => ⟨fun j h1 h2 => absurd h2 (by omega), fun _ _ => rfl⟩
  | n + 1, k, a, h => by
    obtain ⟨i1, i2⟩ := mv_s (b := b) n (k + 1) (upd a k (a (b + k))) (by omega)
    rw [F_X12_moves_L2_s]
    refine ⟨fun j h1 h2 => ?_, fun j hj => ?_⟩
    · by_cases q : j = k
      · subst q
        rw [i2 j (Or.inl (by omega)), pk_us]
      · rw [i1 j (by omega) h2, pk_un (by omega)]
    · rw [i2 j (by omega), pk_un (by omega)]
theorem mv_y {b j : Nat} {a : Nat → Int32} (h : j < b) : F_X12_moves b a j = a (b + j) := (mv_s (b - 0) 0 a (by omega)).1 j (Nat.zero_le _) h
theorem mv_n {b j : Nat} {a : Nat → Int32} (h : b ≤ j) : F_X12_moves b a j = a j := (mv_s (b - 0) 0 a (by omega)).2 j (Or.inr h)
theorem mvL_s {b : Nat} : ∀ (n k : Nat) (a : Nat → Int64), k + n = b → (∀ j, k ≤ j → j < b → F_X12_movesNames_L2 b n k a j = a (b + j)) ∧ ∀ j, (j < k ∨ b ≤ j) → F_X12_movesNames_L2 b n k a j = a j
  | 0, k, a, h => ⟨fun j h1 h2 => absurd h2 (by omega), fun _ _ => rfl⟩
  | n + 1, k, a, h => by
    obtain ⟨i1, i2⟩ := mvL_s (b := b) n (k + 1) (vp_updL a k (a (b + k))) (by omega)
    rw [F_X12_movesNames_L2_s]
    refine ⟨fun j h1 h2 => ?_, fun j hj => ?_⟩
    · by_cases q : j = k
      · subst q
        rw [i2 j (Or.inl (by omega)), upL_s]
      · rw [i1 j (by omega) h2, upL_n (by omega)]
    · rw [i2 j (by omega), upL_n (by omega)]
theorem mvL_y {b j : Nat} {a : Nat → Int64} (h : j < b) : F_X12_movesNames b a j = a (b + j) := (mvL_s (b - 0) 0 a (by omega)).1 j (Nat.zero_le _) h
theorem mvL_n {b j : Nat} {a : Nat → Int64} (h : b ≤ j) : F_X12_movesNames b a j = a j := (mvL_s (b - 0) 0 a (by omega)).2 j (Or.inr h)
