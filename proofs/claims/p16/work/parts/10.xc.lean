/-! the class's words and the reference's: each is told by the other; own -/
def n3 (f : Nat → Int32) (a : Nat) : Nat → Nat
  | 0 => 0
  | k + 1 => n3 f a k * 32 + ((f (a + k)).toInt - 96).toNat
def n2 (f : Nat → Int32) (a : Nat) : Nat → Nat
  | 0 => 0
  | k + 1 => n2 f a k * 27 + ((f (a + k)).toInt - 96).toNat
def lets (f : Nat → Int32) (a k : Nat) : Prop := ∀ j, j < k → bLe (f (a + j)) = true
section WN
variable {f : Nat → Int32} {a : Nat}
theorem lets.d {k : Nat} (h : lets f a (k + 1)) : lets f a k := fun j hj => h j (by omega)
theorem lets.t {k : Nat} (h : lets f a (k + 1)) : 97 ≤ (f (a + k)).toInt ∧ (f (a + k)).toInt ≤ 122 := bLe_r (h k (Nat.lt_succ_self k))
theorem n3_b : ∀ k : Nat, lets f a k → n3 f a k < 32 ^ k
  | 0, _ => Nat.zero_lt_one
  | k + 1, h => by
    have h1 := n3_b k h.d
    have h2 := h.t
    have e : 32 ^ (k + 1) = 32 ^ k * 32 := Nat.pow_succ ..
    rw [e]
    show n3 f a k * 32 + _ < _
    omega
theorem n2_b : ∀ k : Nat, lets f a k → n2 f a k < 27 ^ k
  | 0, _ => Nat.zero_lt_one
  | k + 1, h => by
    have h1 := n2_b k h.d
    have h2 := h.t
    have e : 27 ^ (k + 1) = 27 ^ k * 27 := Nat.pow_succ ..
    rw [e]
    show n2 f a k * 27 + _ < _
    omega
theorem n3_b8 {k : Nat} (hk : k ≤ 8) (h : lets f a k) : n3 f a k < 1099511627776 := Nat.lt_of_lt_of_le (n3_b k h) (Nat.le_trans (Nat.pow_le_pow_right (by decide) hk) (by decide))
theorem n2_b8 {k : Nat} (hk : k ≤ 8) (h : lets f a k) : n2 f a k < 1099511627776 := Nat.lt_of_lt_of_le (n2_b k h) (Nat.le_trans (Nat.pow_le_pow_right (by decide) hk) (by decide))
theorem w3_n : ∀ k : Nat, k ≤ 8 → lets f a k → (w3 f a k).toInt = (n3 f a k : Int)
  | 0, _, _ => rfl
  | k + 1, hk, h => by
    have h1 := w3_n k (by omega) h.d
    have h2 := h.t
    have h3 := n3_b8 (by omega) h.d
    have e97 : (97 : Int32).toInt = 97 := rfl
    have e1 : (1 : Int32).toInt = 1 := rfl
    have e32 : (32 : Int64).toInt = 32 := rfl
    have s1 : (f (a + k) - 97).toInt = (f (a + k)).toInt - 97 := by
      rw [i32_sub (by rw [e97]; unfold mnI; omega) (by rw [e97]; unfold mxI; omega), e97]
    have s2 : (f (a + k) - 97 + 1).toInt = (f (a + k)).toInt - 96 := by
      rw [i32_add (by rw [s1, e1]; unfold mnI; omega) (by rw [s1, e1]; unfold mxI; omega), s1, e1]
      omega
    have s3 : (w3 f a k * 32).toInt = (n3 f a k : Int) * 32 := by
      rw [i64_mul (by rw [h1, e32]; unfold mnL; omega) (by rw [h1, e32]; unfold mxL; omega), h1, e32]
    show (w3 f a k * 32 + (f (a + k) - 97 + 1).toInt64).toInt = ((n3 f a k * 32 + ((f (a + k)).toInt - 96).toNat : Nat) : Int)
    rw [i64_add (by rw [s3, Int32.toInt_toInt64, s2]; unfold mnL; omega) (by rw [s3, Int32.toInt_toInt64, s2]; unfold mxL; omega), s3, Int32.toInt_toInt64, s2]
    omega
theorem w2_n : ∀ k : Nat, k ≤ 8 → lets f a k → (w2 f a k).toInt = (n2 f a k : Int)
  | 0, _, _ => rfl
  | k + 1, hk, h => by
    have h1 := w2_n k (by omega) h.d
    have h2 := h.t
    have h3 := n2_b8 (by omega) h.d
    have e96 : (96 : Int64).toInt = 96 := rfl
    have e27 : (27 : Int64).toInt = 27 := rfl
    have s3 : (w2 f a k * 27).toInt = (n2 f a k : Int) * 27 := by
      rw [i64_mul (by rw [h1, e27]; unfold mnL; omega) (by rw [h1, e27]; unfold mxL; omega), h1, e27]
    have s4 : (w2 f a k * 27 + (f (a + k)).toInt64).toInt = (n2 f a k : Int) * 27 + (f (a + k)).toInt := by
      rw [i64_add (by rw [s3, Int32.toInt_toInt64]; unfold mnL; omega) (by rw [s3, Int32.toInt_toInt64]; unfold mxL; omega), s3, Int32.toInt_toInt64]
    show (w2 f a k * 27 + (f (a + k)).toInt64 - 96).toInt = ((n2 f a k * 27 + ((f (a + k)).toInt - 96).toNat : Nat) : Int)
    rw [i64_sub (by rw [s4, e96]; unfold mnL; omega) (by rw [s4, e96]; unfold mxL; omega), s4, e96]
    omega
end WN
def cvN : Nat → Nat → Nat
  | 0, _ => 0
  | k + 1, m => cvN k (m / 32) * 27 + m % 32
def bkN : Nat → Nat → Nat
  | 0, _ => 0
  | k + 1, m => bkN k (m / 27) * 32 + m % 27
theorem cvN_0 : ∀ k, cvN k 0 = 0
  | 0 => rfl
  | k + 1 => by
    show cvN k (0 / 32) * 27 + 0 % 32 = 0
    rw [Nat.zero_div, cvN_0 k]
theorem bkN_0 : ∀ k, bkN k 0 = 0
  | 0 => rfl
  | k + 1 => by
    show bkN k (0 / 27) * 32 + 0 % 27 = 0
    rw [Nat.zero_div, bkN_0 k]
theorem cv_n {f : Nat → Int32} {a : Nat} : ∀ (k K : Nat), k ≤ K → lets f a k → cvN K (n3 f a k) = n2 f a k
  | 0, K, _, _ => cvN_0 K
  | k + 1, 0, h, _ => absurd h (by omega)
  | k + 1, K + 1, h, hl => by
    have h2 := hl.t
    have ih := cv_n k K (by omega) hl.d
    show cvN K ((n3 f a k * 32 + ((f (a + k)).toInt - 96).toNat) / 32) * 27 + (n3 f a k * 32 + ((f (a + k)).toInt - 96).toNat) % 32 = n2 f a k * 27 + ((f (a + k)).toInt - 96).toNat
    rw [show (n3 f a k * 32 + ((f (a + k)).toInt - 96).toNat) / 32 = n3 f a k by omega, show (n3 f a k * 32 + ((f (a + k)).toInt - 96).toNat) % 32 = ((f (a + k)).toInt - 96).toNat by omega, ih]
theorem bk_n {f : Nat → Int32} {a : Nat} : ∀ (k K : Nat), k ≤ K → lets f a k → bkN K (n2 f a k) = n3 f a k
  | 0, K, _, _ => bkN_0 K
  | k + 1, 0, h, _ => absurd h (by omega)
  | k + 1, K + 1, h, hl => by
    have h2 := hl.t
    have ih := bk_n k K (by omega) hl.d
    show bkN K ((n2 f a k * 27 + ((f (a + k)).toInt - 96).toNat) / 27) * 32 + (n2 f a k * 27 + ((f (a + k)).toInt - 96).toNat) % 27 = n3 f a k * 32 + ((f (a + k)).toInt - 96).toNat
    rw [show (n2 f a k * 27 + ((f (a + k)).toInt - 96).toNat) / 27 = n2 f a k by omega, show (n2 f a k * 27 + ((f (a + k)).toInt - 96).toNat) % 27 = ((f (a + k)).toInt - 96).toNat by omega, ih]
def cvt (w : Int64) : Int64 := Int64.ofInt (cvN 8 w.toInt.toNat : Nat)
def bkt (w : Int64) : Int64 := Int64.ofInt (bkN 8 w.toInt.toNat : Nat)
theorem skf_all {p : Int32 → Bool} {f : Nat → Int32} {L : Nat} : ∀ (k n j : Nat), n ≤ j → j < skf p f L k n → p (f j) = true
  | 0, n, j, h1, h2 => absurd h2 (by show ¬ j < n; omega)
  | k + 1, n, j, h1, h2 => by
    unfold skf at h2
    split at h2
    · rename_i q
      by_cases e : n = j
      · rw [← e]
        exact q.2
      · exact skf_all k (n + 1) j (by omega) h2
    · omega
theorem sk_all {p : Int32 → Bool} {f : Nat → Int32} {L n j : Nat} (h1 : n ≤ j) (h2 : j < sk p f L n) : p (f j) = true := skf_all _ _ _ h1 h2
section TI
variable {f : Nat → Int32} {L n : Nat}
theorem tK1_inv (h : tK f L n = 1) : tP f L n < L ∧ bLe (f (tP f L n)) = true ∧ tN f L n - tP f L n ≤ 8 ∧ lets f (tP f L n) (tN f L n - tP f L n) := by
  unfold tK at h
  split at h
  · rename_i q
    split at h
    · rename_i b
      split at h
      · rename_i e
        have hN := tN_w q b
        refine ⟨q, b, by rw [hN]; exact e, fun j hj => ?_⟩
        rw [hN] at hj
        exact sk_all (n := tP f L n) (L := L) (by omega) (by omega)
      · exact absurd h (by decide)
    · split at h
      · split at h <;> exact absurd h (by decide)
      · split at h <;> exact absurd h (by decide)
  · exact absurd h (by decide)
theorem rW_c (h : tK f L n = 1) : rW f L n = cvt (tW f L n) := by
  obtain ⟨_, _, h8, hl⟩ := tK1_inv h
  have e3 := w3_n _ h8 hl
  have e2 := w2_n _ h8 hl
  have b2 := n2_b8 h8 hl
  unfold cvt
  rw [show tW f L n = w3 f (tP f L n) (tN f L n - tP f L n) from rfl, e3, Int.toNat_natCast, cv_n _ 8 h8 hl]
  exact i64_eq e2
theorem tW_b (h : tK f L n = 1) : bkt (rW f L n) = tW f L n := by
  obtain ⟨_, _, h8, hl⟩ := tK1_inv h
  have e3 := w3_n _ h8 hl
  have e2 := w2_n _ h8 hl
  unfold bkt
  rw [show rW f L n = w2 f (tP f L n) (tN f L n - tP f L n) from rfl, e2, Int.toNat_natCast, bk_n _ 8 h8 hl]
  exact (i64_eq e3).symm
/-- a word that is told: the class's and the reference's -/
theorem rW_iff (h : tK f L n = 1) {c3 c2 : Int64} (h1 : cvt c3 = c2) (h2 : bkt c2 = c3) : rW f L n = c2 ↔ tW f L n = c3 :=
  ⟨fun e => by rw [← tW_b h, e, h2], fun e => by rw [rW_c h, e, h1]⟩
end TI
