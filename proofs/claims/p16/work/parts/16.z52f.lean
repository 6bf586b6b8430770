theorem rS_in {np : Nat} {zf ze s : Nat → Int32} : ∀ (n k : Nat) (a : Int32), k + n ≤ 6 → vp_in a 64 → vp_in (F_X12_sitting_L4 zf ze s n k a) 64
  | 0, _, _, _, h => h
  | n + 1, k, a, hk, h => by
    rw [F_X12_sitting_L4_s]
    have h1 : vp_in (a ||| (1 <<< (nI k &&& 31))) 64 := vp_or6 h ((by decide +kernel : ∀ k, k < 6 → ((1 : Int32) <<< (nI k &&& 31)).toNatClampNeg < 64 ∧ nI ((1 : Int32) <<< (nI k &&& 31)).toNatClampNeg = (1 : Int32) <<< (nI k &&& 31)) k (by omega))
    have h0 : vp_in (a ||| 0) 64 := vp_or6 h (by decide)
    split
    · exact rS_in (np := np) n (k + 1) _ (by omega) h1
    · exact rS_in (np := np) n (k + 1) _ (by omega) h0
theorem sit_in {np : Nat} {zf ze s : Nat → Int32} (h : np ≤ 6) : vp_in (F_X12_sitting np zf ze s) 64 := rS_in (np := np) (np - 0) 0 0 (by omega) (vin (by decide))
theorem orA : ∀ a, a < 64 → ∀ b, b < 64 → nI a ||| nI b = nI (a ||| b) := by decide +kernel
theorem orB : ∀ a, a < 64 → ∀ b, b < 64 → (a ||| b) < 64 ∧ ((a ||| b) = a ∨ bits6 a + 1 ≤ bits6 (a ||| b)) := by decide +kernel

def spI (z : Nat) (a w : Int32) : Prop := vp_in a 64 ∧ 1 ≤ z ∧ (¬ a = w → 8 ≤ z + bits6 a.toNatClampNeg)

theorem sp_i {a b : Int32} (ha : vp_in a 64) : spI 8 (a &&& b) (-1) := ⟨vp_any b ha, by decide, fun _ => Nat.le_add_right _ _⟩
