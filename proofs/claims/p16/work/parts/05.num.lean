/-! numbers: what the machine's operations do to toInt -/
def mnI : Int := -2147483648
def mxI : Int := 2147483647
def mnL : Int := -9223372036854775808
def mxL : Int := 9223372036854775807
theorem i32_lo (x : Int32) : mnI ≤ x.toInt := Int32.le_toInt x
theorem i32_hi (x : Int32) : x.toInt ≤ mxI := by
  have h := Int32.toInt_lt x
  unfold mxI
  omega
theorem i64_lo (x : Int64) : mnL ≤ x.toInt := Int64.le_toInt x
theorem i64_hi (x : Int64) : x.toInt ≤ mxL := by
  have h := Int64.toInt_lt x
  unfold mxL
  omega
theorem bm32 {z : Int} (h1 : mnI ≤ z) (h2 : z ≤ mxI) : z.bmod (2 ^ 32) = z := by
  unfold mnI at h1
  unfold mxI at h2
  exact Int.bmod_eq_of_le (by omega) (by omega)
theorem bm64 {z : Int} (h1 : mnL ≤ z) (h2 : z ≤ mxL) : z.bmod (2 ^ 64) = z := by
  unfold mnL at h1
  unfold mxL at h2
  exact Int.bmod_eq_of_le (by omega) (by omega)
theorem i32_of {z : Int} (h1 : mnI ≤ z) (h2 : z ≤ mxI) : (Int32.ofInt z).toInt = z := by
  rw [Int32.toInt_ofInt]
  exact bm32 h1 h2
theorem i64_of {z : Int} (h1 : mnL ≤ z) (h2 : z ≤ mxL) : (Int64.ofInt z).toInt = z := by
  rw [Int64.toInt_ofInt]
  exact bm64 h1 h2
theorem i32_eq {x : Int32} {z : Int} (h : x.toInt = z) : x = Int32.ofInt z := by rw [← h, Int32.ofInt_toInt]
theorem i64_eq {x : Int64} {z : Int} (h : x.toInt = z) : x = Int64.ofInt z := by rw [← h, Int64.ofInt_toInt]
theorem i32_add {x y : Int32} (h1 : mnI ≤ x.toInt + y.toInt) (h2 : x.toInt + y.toInt ≤ mxI) : (x + y).toInt = x.toInt + y.toInt := by
  rw [Int32.toInt_add]
  exact bm32 h1 h2
theorem i32_sub {x y : Int32} (h1 : mnI ≤ x.toInt - y.toInt) (h2 : x.toInt - y.toInt ≤ mxI) : (x - y).toInt = x.toInt - y.toInt := by
  rw [Int32.toInt_sub]
  exact bm32 h1 h2
theorem i32_mul {x y : Int32} (h1 : mnI ≤ x.toInt * y.toInt) (h2 : x.toInt * y.toInt ≤ mxI) : (x * y).toInt = x.toInt * y.toInt := by
  rw [Int32.toInt_mul]
  exact bm32 h1 h2
theorem i64_add {x y : Int64} (h1 : mnL ≤ x.toInt + y.toInt) (h2 : x.toInt + y.toInt ≤ mxL) : (x + y).toInt = x.toInt + y.toInt := by
  rw [Int64.toInt_add]
  exact bm64 h1 h2
theorem i64_sub {x y : Int64} (h1 : mnL ≤ x.toInt - y.toInt) (h2 : x.toInt - y.toInt ≤ mxL) : (x - y).toInt = x.toInt - y.toInt := by
  rw [Int64.toInt_sub]
  exact bm64 h1 h2
theorem i64_mul {x y : Int64} (h1 : mnL ≤ x.toInt * y.toInt) (h2 : x.toInt * y.toInt ≤ mxL) : (x * y).toInt = x.toInt * y.toInt := by
  rw [Int64.toInt_mul]
  exact bm64 h1 h2
/-- a quotient by what is above 0 -/
theorem tdiv_rng {x y lo hi : Int} (hy : 0 < y) (h1 : lo ≤ x) (h2 : x ≤ hi) (hlo : 0 ≤ lo) : 0 ≤ x.tdiv y ∧ x.tdiv y ≤ hi := by
  have hx : 0 ≤ x := by omega
  rw [Int.tdiv_eq_ediv_of_nonneg hx]
  exact ⟨Int.ediv_nonneg hx (by omega), Int.le_trans (Int.ediv_le_self y hx) h2⟩
theorem i32_div {x y : Int32} (hx : 0 ≤ x.toInt) (hy : 0 < y.toInt) : (x / y).toInt = x.toInt / y.toInt := by
  rw [Int32.toInt_div, Int.tdiv_eq_ediv_of_nonneg hx]
  have h1 := i32_hi x
  have h2 : 0 ≤ x.toInt / y.toInt := Int.ediv_nonneg hx (by omega)
  have h3 : x.toInt / y.toInt ≤ x.toInt := Int.ediv_le_self _ hx
  exact bm32 (by unfold mnI; omega) (by omega)
theorem i64_div {x y : Int64} (hx : 0 ≤ x.toInt) (hy : 0 < y.toInt) : (x / y).toInt = x.toInt / y.toInt := by
  rw [Int64.toInt_div, Int.tdiv_eq_ediv_of_nonneg hx]
  have h1 := i64_hi x
  have h2 : 0 ≤ x.toInt / y.toInt := Int.ediv_nonneg hx (by omega)
  have h3 : x.toInt / y.toInt ≤ x.toInt := Int.ediv_le_self _ hx
  exact bm64 (by unfold mnL; omega) (by omega)
theorem emod_as {a b : Int} (ha : 0 ≤ a) (hb : 0 < b) : 0 ≤ a / b * b ∧ a / b * b ≤ a ∧ a - a / b * b = a % b := by
  have h0 : 0 ≤ a / b := Int.ediv_nonneg ha (by omega)
  have h1 := Int.mul_ediv_add_emod a b
  have h2 := Int.emod_nonneg a (by omega : b ≠ 0)
  have h3 : a / b * b = b * (a / b) := Int.mul_comm _ _
  have h4 : 0 ≤ a / b * b := Int.mul_nonneg h0 (by omega)
  refine ⟨h4, by omega, by omega⟩
theorem i32_rem {x y : Int32} (hx : 0 ≤ x.toInt) (hy : 0 < y.toInt) : (x - x / y * y).toInt = x.toInt % y.toInt := by
  have hd := i32_div hx hy
  obtain ⟨h1, h2, h3⟩ := emod_as hx hy
  have hh := i32_hi x
  have hm : (x / y * y).toInt = x.toInt / y.toInt * y.toInt := by
    rw [← hd]
    exact i32_mul (by rw [hd]; unfold mnI; omega) (by rw [hd]; omega)
  rw [i32_sub (by rw [hm]; unfold mnI; omega) (by rw [hm]; omega), hm]
  exact h3
theorem i64_rem {x y : Int64} (hx : 0 ≤ x.toInt) (hy : 0 < y.toInt) : (x - x / y * y).toInt = x.toInt % y.toInt := by
  have hd := i64_div hx hy
  obtain ⟨h1, h2, h3⟩ := emod_as hx hy
  have hh := i64_hi x
  have hm : (x / y * y).toInt = x.toInt / y.toInt * y.toInt := by
    rw [← hd]
    exact i64_mul (by rw [hd]; unfold mnL; omega) (by rw [hd]; omega)
  rw [i64_sub (by rw [hm]; unfold mnL; omega) (by rw [hm]; omega), hm]
  exact h3
/-- of what is not below 0: its bits as a Nat -/
theorem i32_nat {x : Int32} (h : 0 ≤ x.toInt) : x.toInt = (x.toBitVec.toNat : Int) := by
  have h1 : x.toInt = x.toBitVec.toInt := rfl
  rw [h1] at h ⊢
  rw [BitVec.toInt_eq_toNat_cond] at h ⊢
  have h3 : x.toBitVec.toNat < 2 ^ 32 := x.toBitVec.isLt
  by_cases q : 2 * x.toBitVec.toNat < 2 ^ 32
  · rw [if_pos q]
  · rw [if_neg q] at h
    omega
theorem i32_ofnat {x : Int32} (h : x.toBitVec.toNat < 2 ^ 31) : x.toInt = (x.toBitVec.toNat : Int) := by
  have h1 : x.toInt = x.toBitVec.toInt := rfl
  rw [h1]
  exact BitVec.toInt_eq_toNat_of_lt (by omega)
theorem i32_natlt {x : Int32} (h : 0 ≤ x.toInt) : x.toBitVec.toNat < 2 ^ 31 := by
  have h1 := i32_nat h
  have h2 := i32_hi x
  unfold mxI at h2
  omega
theorem i32_and_l {x y : Int32} (h : 0 ≤ x.toInt) : 0 ≤ (x &&& y).toInt ∧ (x &&& y).toInt ≤ x.toInt := by
  have h1 := i32_natlt h
  have h2 : (x &&& y).toBitVec.toNat ≤ x.toBitVec.toNat := by
    rw [Int32.toBitVec_and, BitVec.toNat_and]
    exact Nat.and_le_left
  have h3 : (x &&& y).toBitVec.toNat < 2 ^ 31 := by omega
  rw [i32_ofnat h3, i32_nat h]
  omega
theorem i32_and_r {x y : Int32} (h : 0 ≤ y.toInt) : 0 ≤ (x &&& y).toInt ∧ (x &&& y).toInt ≤ y.toInt := by
  have h1 := i32_natlt h
  have h2 : (x &&& y).toBitVec.toNat ≤ y.toBitVec.toNat := by
    rw [Int32.toBitVec_and, BitVec.toNat_and]
    exact Nat.and_le_right
  have h3 : (x &&& y).toBitVec.toNat < 2 ^ 31 := by omega
  rw [i32_ofnat h3, i32_nat h]
  omega
theorem i32_or {x y : Int32} {b : Nat} (hx : 0 ≤ x.toInt) (hy : 0 ≤ y.toInt) (hb : b ≤ 31) (h1 : x.toInt < 2 ^ b) (h2 : y.toInt < 2 ^ b) : x.toInt ≤ (x ||| y).toInt ∧ y.toInt ≤ (x ||| y).toInt ∧ (x ||| y).toInt < 2 ^ b := by
  have a1 := i32_nat hx
  have a2 := i32_nat hy
  have p : ((2 ^ b : Nat) : Int) = (2 : Int) ^ b := by simp
  have b1 : x.toBitVec.toNat < 2 ^ b := by
    have : ((x.toBitVec.toNat : Nat) : Int) < ((2 ^ b : Nat) : Int) := by rw [← a1, p]; exact h1
    exact Int.ofNat_lt.mp this
  have b2 : y.toBitVec.toNat < 2 ^ b := by
    have : ((y.toBitVec.toNat : Nat) : Int) < ((2 ^ b : Nat) : Int) := by rw [← a2, p]; exact h2
    exact Int.ofNat_lt.mp this
  have e : (x ||| y).toBitVec.toNat = x.toBitVec.toNat ||| y.toBitVec.toNat := by rw [Int32.toBitVec_or, BitVec.toNat_or]
  have b3 : (x ||| y).toBitVec.toNat < 2 ^ b := by rw [e]; exact Nat.or_lt_two_pow b1 b2
  have b4 : 2 ^ b ≤ 2 ^ 31 := Nat.pow_le_pow_right (by omega) hb
  have a3 := i32_ofnat (x := x ||| y) (by omega)
  have c1 : x.toBitVec.toNat ≤ (x ||| y).toBitVec.toNat := by rw [e]; exact Nat.left_le_or
  have c2 : y.toBitVec.toNat ≤ (x ||| y).toBitVec.toNat := by rw [e]; exact Nat.right_le_or
  rw [a1, a2, a3]
  refine ⟨by omega, by omega, ?_⟩
  rw [← p]
  exact Int.ofNat_lt.mpr b3
theorem i32_shl1 : ∀ n : Nat, n < 31 → ((1 : Int32) <<< (Int32.ofInt (n : Int) &&& 31)).toInt = 2 ^ n := by decide +kernel
theorem i32_lcmp {r : Int32} (h : r = -1 ∨ r = 0 ∨ r = 1) : -1 ≤ r.toInt ∧ r.toInt ≤ 1 := by
  rcases h with h | h | h <;> subst h <;> decide
theorem i32_u16 (x : Int32) : 0 ≤ ((x.toUInt32 % 65536).toInt32).toInt ∧ ((x.toUInt32 % 65536).toInt32).toInt ≤ 65535 := by
  have h : (x.toUInt32 % 65536).toNat < 65536 := by
    rw [UInt32.toNat_mod]
    exact Nat.mod_lt _ (by decide)
  have e : ((x.toUInt32 % 65536).toInt32).toBitVec.toNat = (x.toUInt32 % 65536).toNat := rfl
  rw [i32_ofnat (by rw [e]; omega), e]
  omega
theorem i32_b (x : Int32) : -128 ≤ (x.toInt8.toInt32).toInt ∧ (x.toInt8.toInt32).toInt ≤ 127 := by
  rw [Int8.toInt_toInt32]
  have h1 := Int8.le_toInt x.toInt8
  have h2 := Int8.toInt_lt x.toInt8
  omega
