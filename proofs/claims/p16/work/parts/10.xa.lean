/-! the signs and the tokens, as functions of the tape; own -/
def bBl (v : Int32) : Bool := decide (v = 10) || decide (v = 32)
def bLe (v : Int32) : Bool := decide (97 ≤ v) && decide (v ≤ 122)
def bDi (v : Int32) : Bool := decide (48 ≤ v) && decide (v ≤ 57)
theorem bBl_t {v : Int32} (h : v = 10 ∨ v = 32) : bBl v = true := by unfold bBl; rcases h with h | h <;> simp [h]
theorem bBl_f {v : Int32} (h1 : ¬ v = 10) (h2 : ¬ v = 32) : bBl v = false := by unfold bBl; simp [h1, h2]
theorem bLe_t {v : Int32} (h1 : ¬ v < 97) (h2 : ¬ 122 < v) : bLe v = true := by
  unfold bLe
  rw [decide_eq_true (Int32.not_lt.mp h1), decide_eq_true (Int32.not_lt.mp h2)]
  rfl
theorem bLe_f1 {v : Int32} (h1 : v < 97) : bLe v = false := by
  unfold bLe
  rw [decide_eq_false (Int32.not_le.mpr h1)]
  rfl
theorem bLe_f2 {v : Int32} (h1 : 122 < v) : bLe v = false := by
  unfold bLe
  rw [decide_eq_false (p := v ≤ 122) (Int32.not_le.mpr h1), Bool.and_false]
theorem bDi_t {v : Int32} (h1 : ¬ v < 48) (h2 : ¬ 57 < v) : bDi v = true := by
  unfold bDi
  rw [decide_eq_true (Int32.not_lt.mp h1), decide_eq_true (Int32.not_lt.mp h2)]
  rfl
theorem bDi_f1 {v : Int32} (h1 : v < 48) : bDi v = false := by
  unfold bDi
  rw [decide_eq_false (Int32.not_le.mpr h1)]
  rfl
theorem bDi_f2 {v : Int32} (h1 : 57 < v) : bDi v = false := by
  unfold bDi
  rw [decide_eq_false (p := v ≤ 57) (Int32.not_le.mpr h1), Bool.and_false]
theorem bLe_r {v : Int32} (h : bLe v = true) : 97 ≤ v.toInt ∧ v.toInt ≤ 122 := by
  unfold bLe at h
  simp only [Bool.and_eq_true, decide_eq_true_eq, Int32.le_iff_toInt_le] at h
  exact h
theorem bDi_r {v : Int32} (h : bDi v = true) : 48 ≤ v.toInt ∧ v.toInt ≤ 57 := by
  unfold bDi at h
  simp only [Bool.and_eq_true, decide_eq_true_eq, Int32.le_iff_toInt_le] at h
  exact h
/-- a sign as a char -/
theorem i2c_id {v : Int32} (h1 : 0 ≤ v.toInt) (h2 : v.toInt ≤ 65535) : (v.toUInt32 % 65536).toInt32 = v := by
  have h3 := i32_nat h1
  have h4 : v.toBitVec.toNat < 65536 := by omega
  apply Int32.toBitVec_inj.mp
  apply BitVec.eq_of_toNat_eq
  have e : ((v.toUInt32 % 65536).toInt32).toBitVec.toNat = (v.toUInt32 % 65536).toNat := rfl
  have e2 : v.toUInt32.toNat = v.toBitVec.toNat := rfl
  rw [e, UInt32.toNat_mod, e2]
  exact Nat.mod_eq_of_lt h4
/-- from n on the first of L that p doesn't hold of -/
def skf (p : Int32 → Bool) (f : Nat → Int32) (L : Nat) : Nat → Nat → Nat
  | 0, n => n
  | k + 1, n => if n < L ∧ p (f n) = true then skf p f L k (n + 1) else n
def sk (p : Int32 → Bool) (f : Nat → Int32) (L n : Nat) : Nat := skf p f L (L - n) n
section SK
variable {p : Int32 → Bool} {f : Nat → Int32} {L n : Nat}
theorem sk_go (h : n < L) (hp : p (f n) = true) : sk p f L n = sk p f L (n + 1) := by
  unfold sk
  obtain ⟨k, hk⟩ : ∃ k, L - n = k + 1 := ⟨L - n - 1, by omega⟩
  rw [hk, show L - (n + 1) = k by omega]
  show (if n < L ∧ p (f n) = true then skf p f L k (n + 1) else n) = _
  rw [if_pos ⟨h, hp⟩]
theorem sk_stop (h : n < L → p (f n) = false) : sk p f L n = n := by
  unfold sk
  cases e : L - n with
  | zero => rfl
  | succ k =>
    show (if n < L ∧ p (f n) = true then skf p f L k (n + 1) else n) = n
    rw [if_neg (fun q => by rw [h q.1] at q; exact absurd q.2 (by decide))]
theorem skf_b : ∀ (k n : Nat), n ≤ skf p f L k n ∧ (n ≤ L → skf p f L k n ≤ L)
  | 0, n => ⟨Nat.le_refl _, id⟩
  | k + 1, n => by
    have h := skf_b k (n + 1)
    unfold skf
    split
    · rename_i q
      exact ⟨by omega, fun _ => h.2 q.1⟩
    · exact ⟨Nat.le_refl _, id⟩
theorem sk_ge : n ≤ sk p f L n := (skf_b _ _).1
theorem sk_le (h : n ≤ L) : sk p f L n ≤ L := (skf_b _ _).2 h
end SK
/-- a word as the class keeps it, k letters from a on; a number -/
def w3 (f : Nat → Int32) (a : Nat) : Nat → Int64
  | 0 => 0
  | k + 1 => w3 f a k * 32 + (f (a + k) - 97 + 1).toInt64
def dg (f : Nat → Int32) (a : Nat) : Nat → Int32
  | 0 => 0
  | k + 1 => dg f a k * 10 + f (a + k) - 48
def tP (f : Nat → Int32) (L n : Nat) : Nat := sk bBl f L n
def bSg (v : Int32) : Bool := v == 40 || v == 41 || v == 60 || v == 61 || v == 43 || v == 45 || v == 42 || v == 59
def tN (f : Nat → Int32) (L n : Nat) : Nat := if tP f L n < L then (if bLe (f (tP f L n)) = true then sk bLe f L (tP f L n) else if bDi (f (tP f L n)) = true then sk bDi f L (tP f L n) else tP f L n + 1) else tP f L n
def tK (f : Nat → Int32) (L n : Nat) : Int32 := if tP f L n < L then (if bLe (f (tP f L n)) = true then (if sk bLe f L (tP f L n) - tP f L n ≤ 8 then 1 else 4) else if bDi (f (tP f L n)) = true then (if sk bDi f L (tP f L n) - tP f L n ≤ 4 then 2 else 4) else if bSg (f (tP f L n)) = true then 3 else 4) else 0
def tW (f : Nat → Int32) (L n : Nat) : Int64 := w3 f (tP f L n) (tN f L n - tP f L n)
def tV (f : Nat → Int32) (L n : Nat) : Int32 := dg f (tP f L n) (tN f L n - tP f L n)
theorem nlen {L n : Nat} (hL : L ≤ 1000) (hn : n ≤ L) (c : ¬ nI L ≤ nI n) : n < L := Nat.lt_of_not_le fun q => c (nI_le q (by omega))
theorem nlex {L n : Nat} (hL : L ≤ 1000) (hn : n ≤ L) (c : nI L ≤ nI n) : n = L := Nat.le_antisymm hn (Nat.le_of_not_lt fun q => nI_ge q (by omega) c)
theorem nltn {L n : Nat} (hL : L ≤ 1000) (hn : n ≤ L) (c : nI n < nI L) : n < L := Nat.lt_of_not_le fun q => nI_nlt q (by omega) c
theorem nltx {L n : Nat} (hL : L ≤ 1000) (hn : n ≤ L) (c : ¬ nI n < nI L) : n = L := Nat.le_antisymm hn (Nat.le_of_not_lt fun q => c (nI_lt q (by omega)))
theorem ex_lc1 (x : Int64) : lg_cmp x x = 0 := by
  unfold lg_cmp
  rw [if_neg (by rw [gt_iff_lt, Int64.lt_iff_toInt_lt]; omega), if_pos rfl]
theorem ex_lc2 {x y : Int64} (h : lg_cmp x y = 0) : x = y := by
  unfold lg_cmp at h
  by_cases g : x > y
  · rw [if_pos g] at h
    exact absurd h (by decide)
  · rw [if_neg g] at h
    by_cases k : x = y
    · exact k
    · rw [if_neg k] at h
      exact absurd h (by decide)
theorem shr0 (x : Int32) : x >>> ((0 : Int32) &&& 31) = x := by
  rw [Int32.zero_and, Int32.shiftRight_zero]
theorem and255 {v : Int32} (h1 : 0 ≤ v.toInt) (h2 : v.toInt ≤ 127) : v &&& 255 = v := by
  obtain ⟨n, hn, rfl⟩ : ∃ n : Nat, n ≤ 127 ∧ v = nI n := ⟨v.toInt.toNat, by omega, by
    apply Int32.toInt_inj.mp
    rw [nI_toInt (by omega)]
    omega⟩
  exact (show ∀ n : Nat, n ≤ 127 → nI n &&& 255 = nI n by decide +kernel) n hn
/-- a text's letters as the class keeps a word -/
def wl (bs : List Int32) : Nat → Int64
  | 0 => 0
  | k + 1 => wl bs k * 32 + (bs.getD k 0 - 97 + 1).toInt64
def bw (z : Lit) : Int64 := wl z.2.2.2 z.2.2.2.length
theorem lit_b {k : Nat} {z : Lit} (hz : lits[k]? = some z) (j : Nat) (hj : j < z.2.2.2.length) : 0 ≤ (z.2.2.2.getD j 0).toInt ∧ (z.2.2.2.getD j 0).toInt ≤ 127 := by
  have hm : z.2.2.2.getD j 0 ∈ z.2.2.2 := by
    rw [List.getD_eq_getElem?_getD, List.getElem?_eq_getElem hj]
    exact List.getElem_mem hj
  have hr := List.all_eq_true.mp (List.all_eq_true.mp lits_b z (List.mem_of_getElem? hz)) _ hm
  simp only [Bool.and_eq_true, decide_eq_true_eq] at hr
  exact hr
theorem lit_n {k : Nat} {z : Lit} (hz : lits[k]? = some z) : z.2.2.2.length < 1000 := by
  have h : ∀ z ∈ lits, z.2.2.2.length < 1000 := by decide +kernel
  exact h z (List.mem_of_getElem? hz)
theorem ex_nar {v : Int32} (h1 : 0 ≤ v.toInt) (h2 : v.toInt ≤ 127) : narrow .char (.int v) = .int v := by
  show Value.int v.toUInt32.toUInt16.toUInt32.toInt32 = .int v
  rw [narC h1 (by omega)]
