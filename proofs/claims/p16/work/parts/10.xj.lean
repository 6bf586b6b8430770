/-! what both readers keep between the lines; own -/
theorem sNum_v {f : Nat → Int32} {L n m : Nat} {lo hi v : Int32} (h : sNum f L lo hi n = .inr (m, v)) : lo ≤ v ∧ v ≤ hi := by
  unfold sNum at h
  split at h
  · split at h
    · rename_i q
      cases h
      exact q
    · cases h
  · cases h
theorem sBoth_v {f : Nat → Int32} {L n m : Nat} {w : Int64} {hi v : Int32} (h : sBoth f L w hi n = .inr (m, v)) : 0 ≤ v ∧ v ≤ hi := by
  unfold sBoth at h
  cases e1 : sWord f L w n with
  | inl x => rw [e1] at h; cases h
  | inr n1 =>
    rw [e1] at h
    exact sNum_v h
theorem sSick_v {f : Nat → Int32} {L : Nat} {bs : List Int32} {pn : Nat → Int64} {np n m : Nat} {sf : Nat → Int32} {a : Nat} {p q : Int32} (h : sSick f L bs pn np sf n = .inr (m, a, p, q)) : 0 ≤ p ∧ p ≤ q := by
  unfold sSick at h
  cases e1 : sPers f L bs pn np n with
  | inl x => rw [e1] at h; cases h
  | inr x =>
    obtain ⟨n1, w1⟩ := x
    rw [e1] at h
    dsimp only at h
    split at h
    · cases e2 : sBoth f L (bw (zl 19)) 99 n1 with
      | inl x => rw [e2] at h; cases h
      | inr x =>
        obtain ⟨n2, a1⟩ := x
        rw [e2] at h
        dsimp only at h
        cases e3 : sWord f L (bw (zl 20)) n2 with
        | inl x => rw [e3] at h; cases h
        | inr n3 =>
          rw [e3] at h
          dsimp only at h
          cases e4 : sNum f L a1 99 n3 with
          | inl x => rw [e4] at h; cases h
          | inr x =>
            obtain ⟨n4, b1⟩ := x
            rw [e4] at h
            dsimp only at h
            cases e5 : sEnd f L n4 with
            | inl x => rw [e5] at h; cases h
            | inr n5 =>
              rw [e5] at h
              cases h
              exact ⟨(sBoth_v e2).1, (sNum_v e4).1⟩
    · cases h
theorem upL_s {f : Nat → Int64} {k : Nat} {x : Int64} : vp_updL f k x k = x := if_pos rfl
theorem upL_n {f : Nat → Int64} {k j : Nat} {x : Int64} (h : j ≠ k) : vp_updL f k x j = f j := if_neg h
theorem nmRel_s {pn rp : Nat → Int64} {off np : Nat} {w : Int64} (h : nmRel pn rp off np) (hw : bkt (cvt w) = w) : nmRel (vp_updL pn np w) (vp_updL rp (off + np) (cvt w)) off (np + 1) := by
  intro i hi
  by_cases e : i = np
  · rw [e, upL_s, upL_s]
    exact ⟨rfl, hw⟩
  · rw [upL_n e, upL_n (by omega)]
    exact h i (by omega)
theorem up_rel0 {F G : Nat → Int32} {np : Nat} (h : ∀ q, q < np → F (6 + q) = G q) (h0 : G np = 0) : ∀ q, q < np + 1 → upd F (6 + np) 0 (6 + q) = G q := by
  intro q hq
  by_cases e : q = np
  · rw [e, pk_us, h0]
  · rw [pk_un (by omega)]
    exact h q (by omega)
theorem m1_lt : (-1 : Int32) < 0 := by decide
theorem sk_p {F G : Nat → Int32} {np : Nat} (h : ∀ q, q < np → (F (6 + q) < 0 ↔ G q = -1)) (h0 : G np = -1) : ∀ q, q < np + 1 → (upd F (6 + np) (-1) (6 + q) < 0 ↔ G q = -1) := by
  intro q hq
  by_cases e : q = np
  · rw [e, pk_us, h0]
    exact ⟨fun _ => rfl, fun _ => m1_lt⟩
  · rw [pk_un (by omega)]
    exact h q (by omega)
theorem sk_s {F G : Nat → Int32} {np a : Nat} {p q : Int32} (h : ∀ q, q < np → (F (6 + q) < 0 ↔ G q = -1)) (hv : 0 ≤ p ∧ p ≤ q) : ∀ j, j < np → (upd F (6 + a) q (6 + j) < 0 ↔ upd G a p j = -1) := by
  intro j hj
  by_cases e : j = a
  · rw [e, pk_us, pk_us]
    have h1 := hv.1
    have h2 := hv.2
    constructor
    · intro z
      exact absurd (Int32.le_trans h1 h2) (Int32.not_le.mpr z)
    · intro z
      rw [z] at h1
      exact absurd h1 (by decide)
  · rw [pk_un (by omega), pk_un e]
    exact h j hj
theorem cup_rel {F G : Nat → Int32} {np a b : Nat} (h : ∀ q, q < np → F (6 + q) = G q) (ha : a < np ∧ b < np) : ∀ q, q < np → upd (upd F (6 + a) (F (6 + a) ||| (1 <<< (nI b &&& 31)))) (6 + b) ((upd F (6 + a) (F (6 + a) ||| (1 <<< (nI b &&& 31)))) (6 + b) ||| (1 <<< (nI a &&& 31))) (6 + q) = cupU G a b q := by
  intro q hq
  unfold cupU
  have h1 : ∀ q, q < np → upd F (6 + a) (F (6 + a) ||| (1 <<< (nI b &&& 31))) (6 + q) = upd G a (G a ||| (1 <<< (nI b &&& 31))) q := by
    intro q hq
    by_cases e : q = a
    · rw [e, pk_us, pk_us, h a ha.1]
    · rw [pk_un (by omega), pk_un e]
      exact h q hq
  by_cases e : q = b
  · rw [e, pk_us, pk_us, h1 b ha.2]
  · rw [pk_un (by omega), pk_un e]
    exact h1 q hq
theorem cup_far {G : Nat → Int32} {np a b : Nat} (ha : a < np ∧ b < np) {q : Nat} (hq : np ≤ q) : cupU G a b q = G q := by
  unfold cupU
  rw [pk_un (by omega), pk_un (by omega)]
theorem fil_lt {n j : Nat} {v : Int32} {F : Nat → Int32} (h : j < n) : fil n v F j = v := by
  unfold fil
  rw [if_pos h]
