/-! what the parts of the language come to, as functions of the tape; own -/
abbrev PR (α : Type) : Type := Int32 ⊕ α
def fq (k : Int32) (p : Nat) : Int32 := k + 16 * nI p
def nmG (bs : List Int32) (w : Int64) : Nat → Nat → Int64 → Bool
  | 0, _, _ => true
  | m + 1, i, code => if bs.getD i 0 = 32 then (if code = w then false else nmG bs w m (i + 1) 0) else nmG bs w m (i + 1) (code * 32 + (bs.getD i 0 - 97 + 1).toInt64)
def nmR (bs : List Int32) (w : Int64) : Bool := nmG bs w bs.length 0 0
theorem nmG_y {bs : List Int32} {w code : Int64} {m i : Nat} (h1 : bs.getD i 0 = 32) (h2 : code = w) : nmG bs w (m + 1) i code = false := by
  show (if bs.getD i 0 = 32 then (if code = w then false else nmG bs w m (i + 1) 0) else _) = false
  rw [if_pos h1, if_pos h2]
theorem nmG_n {bs : List Int32} {w code : Int64} {m i : Nat} (h1 : bs.getD i 0 = 32) (h2 : ¬ code = w) : nmG bs w (m + 1) i code = nmG bs w m (i + 1) 0 := by
  show (if bs.getD i 0 = 32 then (if code = w then false else nmG bs w m (i + 1) 0) else _) = _
  rw [if_pos h1, if_neg h2]
theorem nmG_l {bs : List Int32} {w code : Int64} {m i : Nat} (h1 : ¬ bs.getD i 0 = 32) : nmG bs w (m + 1) i code = nmG bs w m (i + 1) (code * 32 + (bs.getD i 0 - 97 + 1).toInt64) := by
  show (if bs.getD i 0 = 32 then _ else nmG bs w m (i + 1) (code * 32 + (bs.getD i 0 - 97 + 1).toInt64)) = _
  rw [if_neg h1]
section SP
variable (f : Nat → Int32) (L : Nat)
def sWord (w : Int64) (n : Nat) : PR Nat := if tK f L n = 1 ∧ tW f L n = w then .inr (tN f L n) else .inl (fq 1 (tP f L n))
def sEnd (n : Nat) : PR Nat := if tK f L n = 3 ∧ f (tP f L n) = 59 then .inr (tN f L n) else .inl (fq 1 (tP f L n))
def sNum (lo hi : Int32) (n : Nat) : PR (Nat × Int32) := if tK f L n = 2 then (if lo ≤ tV f L n ∧ tV f L n ≤ hi then .inr (tN f L n, tV f L n) else .inl (fq 4 (tP f L n))) else .inl (fq 1 (tP f L n))
def sBoth (w : Int64) (hi : Int32) (n : Nat) : PR (Nat × Int32) := match sWord f L w n with
  | .inl F => .inl F
  | .inr n1 => sNum f L 0 hi n1
end SP
section TB
variable {f : Nat → Int32} {L n : Nat}
theorem tP_le (h : n ≤ L) : tP f L n ≤ L := sk_le h
theorem tP_ge : n ≤ tP f L n := sk_ge
theorem tN_le (h : n ≤ L) : tN f L n ≤ L := by
  unfold tN
  split
  · rename_i q
    split
    · exact sk_le (by omega)
    · split
      · exact sk_le (by omega)
      · omega
  · exact tP_le h
theorem tN_ge : tP f L n ≤ tN f L n := by
  unfold tN
  split
  · split
    · exact sk_ge
    · split
      · exact sk_ge
      · omega
  · exact Nat.le_refl _
theorem tK_0 (h : ¬ tP f L n < L) : tK f L n = 0 ∧ tN f L n = tP f L n := by
  unfold tK tN
  rw [if_neg h, if_neg h]
  exact ⟨rfl, rfl⟩
theorem tN_w (h : tP f L n < L) (hb : bLe (f (tP f L n)) = true) : tN f L n = sk bLe f L (tP f L n) := by
  unfold tN
  rw [if_pos h, if_pos hb]
theorem tK_1 (h : tP f L n < L) (hb : bLe (f (tP f L n)) = true) (h8 : sk bLe f L (tP f L n) - tP f L n ≤ 8) : tK f L n = 1 := by
  unfold tK
  rw [if_pos h, if_pos hb, if_pos h8]
theorem tK_14 (h : tP f L n < L) (hb : bLe (f (tP f L n)) = true) (h8 : ¬ sk bLe f L (tP f L n) - tP f L n ≤ 8) : tK f L n = 4 := by
  unfold tK
  rw [if_pos h, if_pos hb, if_neg h8]
theorem tN_d (h : tP f L n < L) (hb : bLe (f (tP f L n)) = false) (hd : bDi (f (tP f L n)) = true) : tN f L n = sk bDi f L (tP f L n) := by
  unfold tN
  rw [if_pos h, if_neg (by rw [hb]; decide), if_pos hd]
theorem tK_2 (h : tP f L n < L) (hb : bLe (f (tP f L n)) = false) (hd : bDi (f (tP f L n)) = true) (h4 : sk bDi f L (tP f L n) - tP f L n ≤ 4) : tK f L n = 2 := by
  unfold tK
  rw [if_pos h, if_neg (by rw [hb]; decide), if_pos hd, if_pos h4]
theorem tK_24 (h : tP f L n < L) (hb : bLe (f (tP f L n)) = false) (hd : bDi (f (tP f L n)) = true) (h4 : ¬ sk bDi f L (tP f L n) - tP f L n ≤ 4) : tK f L n = 4 := by
  unfold tK
  rw [if_pos h, if_neg (by rw [hb]; decide), if_pos hd, if_neg h4]
theorem tN_s (h : tP f L n < L) (hb : bLe (f (tP f L n)) = false) (hd : bDi (f (tP f L n)) = false) : tN f L n = tP f L n + 1 := by
  unfold tN
  rw [if_pos h, if_neg (by rw [hb]; decide), if_neg (by rw [hd]; decide)]
theorem tK_3 (h : tP f L n < L) (hb : bLe (f (tP f L n)) = false) (hd : bDi (f (tP f L n)) = false) (hs : bSg (f (tP f L n)) = true) : tK f L n = 3 := by
  unfold tK
  rw [if_pos h, if_neg (by rw [hb]; decide), if_neg (by rw [hd]; decide), if_pos hs]
theorem tK_34 (h : tP f L n < L) (hb : bLe (f (tP f L n)) = false) (hd : bDi (f (tP f L n)) = false) (hs : bSg (f (tP f L n)) = false) : tK f L n = 4 := by
  unfold tK
  rw [if_pos h, if_neg (by rw [hb]; decide), if_neg (by rw [hd]; decide), if_neg (by rw [hs]; decide)]
end TB
/-! where a sign lies in a text -/
def ioG (bs : List Int32) (v : Int32) : Nat → Nat → Int32
  | 0, _ => -1
  | m + 1, i => if bs.getD i 0 = v then nI i else ioG bs v m (i + 1)
theorem ioG_y {bs : List Int32} {v : Int32} {m i : Nat} (h : bs.getD i 0 = v) : ioG bs v (m + 1) i = nI i := by
  show (if bs.getD i 0 = v then nI i else _) = _
  rw [if_pos h]
theorem ioG_n {bs : List Int32} {v : Int32} {m i : Nat} (h : ¬ bs.getD i 0 = v) : ioG bs v (m + 1) i = ioG bs v m (i + 1) := by
  show (if bs.getD i 0 = v then nI i else ioG bs v m (i + 1)) = _
  rw [if_neg h]
theorem i2b_id {v : Int32} (h1 : 0 ≤ v.toInt) (h2 : v.toInt ≤ 127) : v.toInt8.toInt32 = v := by
  obtain ⟨n, hn, rfl⟩ : ∃ n : Nat, n ≤ 127 ∧ v = nI n := ⟨v.toInt.toNat, by omega, by
    apply Int32.toInt_inj.mp
    rw [nI_toInt (by omega)]
    omega⟩
  exact (show ∀ n : Nat, n ≤ 127 → (nI n).toInt8.toInt32 = nI n by decide +kernel) n hn
theorem io_sg (v : Int32) : (ioG [40, 41, 60, 61, 43, 45, 42, 59] v 8 0 < 0 ∧ bSg v = false) ∨ (¬ ioG [40, 41, 60, 61, 43, 45, 42, 59] v 8 0 < 0 ∧ bSg v = true) := by
  by_cases h0 : v = 40
  · subst h0; exact Or.inr ⟨by decide, by decide⟩
  by_cases h1 : v = 41
  · subst h1; exact Or.inr ⟨by decide, by decide⟩
  by_cases h2 : v = 60
  · subst h2; exact Or.inr ⟨by decide, by decide⟩
  by_cases h3 : v = 61
  · subst h3; exact Or.inr ⟨by decide, by decide⟩
  by_cases h4 : v = 43
  · subst h4; exact Or.inr ⟨by decide, by decide⟩
  by_cases h5 : v = 45
  · subst h5; exact Or.inr ⟨by decide, by decide⟩
  by_cases h6 : v = 42
  · subst h6; exact Or.inr ⟨by decide, by decide⟩
  by_cases h7 : v = 59
  · subst h7; exact Or.inr ⟨by decide, by decide⟩
  refine Or.inl ⟨?_, ?_⟩
  · rw [ioG_n (fun q => h0 q.symm), ioG_n (fun q => h1 q.symm), ioG_n (fun q => h2 q.symm), ioG_n (fun q => h3 q.symm), ioG_n (fun q => h4 q.symm), ioG_n (fun q => h5 q.symm), ioG_n (fun q => h6 q.symm), ioG_n (fun q => h7 q.symm)]
    exact (show ((-1 : Int32) < 0) by decide)
  · unfold bSg
    simp [h0, h1, h2, h3, h4, h5, h6, h7]
def sName (f : Nat → Int32) (L : Nat) (bs : List Int32) (n : Nat) : PR (Nat × Int64) := if tK f L n = 1 ∧ nmR bs (tW f L n) = true then .inr (tN f L n, tW f L n) else .inl (fq 1 (tP f L n))
def sPers (f : Nat → Int32) (L : Nat) (bs : List Int32) (F : Nat → Int64) (np : Nat) (n : Nat) : PR (Nat × Int64) := match sName f L bs n with
  | .inl e => .inl e
  | .inr (n1, w) => if pnF F np w = -1 then .inl (fq 2 (tP f L n)) else .inr (n1, w)
theorem lt_tl {k n m : Nat} (h : k < n) : k < m + n := Nat.lt_of_lt_of_le h (Nat.le_add_left n m)
theorem bSg_iff (v : Int32) : bSg v = true ↔ (40 ≤ v.toInt ∧ v.toInt ≤ 43) ∨ v.toInt = 45 ∨ (59 ≤ v.toInt ∧ v.toInt ≤ 61) := by
  have e0 : (40 : Int32).toInt = 40 := rfl
  have e1 : (41 : Int32).toInt = 41 := rfl
  have e2 : (42 : Int32).toInt = 42 := rfl
  have e3 : (43 : Int32).toInt = 43 := rfl
  have e4 : (45 : Int32).toInt = 45 := rfl
  have e5 : (59 : Int32).toInt = 59 := rfl
  have e6 : (60 : Int32).toInt = 60 := rfl
  have e7 : (61 : Int32).toInt = 61 := rfl
  unfold bSg
  simp only [Bool.or_eq_true, beq_iff_eq, ← Int32.toInt_inj, e0, e1, e2, e3, e4, e5, e6, e7]
  omega
theorem bSg_f {v : Int32} (h : ¬ ((40 ≤ v.toInt ∧ v.toInt ≤ 43) ∨ v.toInt = 45 ∨ (59 ≤ v.toInt ∧ v.toInt ≤ 61))) : bSg v = false := by
  cases e : bSg v with
  | false => rfl
  | true => exact absurd ((bSg_iff v).mp e) h
/-- a word as the reference keeps it -/
def w2 (f : Nat → Int32) (a : Nat) : Nat → Int64
  | 0 => 0
  | k + 1 => w2 f a k * 27 + (f (a + k)).toInt64 - 96
def rW (f : Nat → Int32) (L n : Nat) : Int64 := w2 f (tP f L n) (tN f L n - tP f L n)
def mn (a b : Nat) : Nat := if a < b then a else b
theorem mn_lt {k m : Nat} (h : k ≤ m) : mn k m = k := by
  unfold mn
  split <;> omega
theorem mn_ge {k m : Nat} (h : m ≤ k) : mn k m = m := by
  unfold mn
  split <;> omega
theorem w2_s {f : Nat → Int32} {p k : Nat} (h : k < 8) : w2 f p (mn k 8) * 27 + (f (p + k)).toInt64 - 96 = w2 f p (mn (k + 1) 8) := by
  rw [mn_lt (Nat.le_of_lt h), mn_lt (show k + 1 ≤ 8 from h)]
  rfl
theorem w2_t {f : Nat → Int32} {p k : Nat} (h : 8 ≤ k) : w2 f p (mn k 8) = w2 f p (mn (k + 1) 8) := by rw [mn_ge h, mn_ge (show 8 ≤ k + 1 by omega)]
theorem dg_s {f : Nat → Int32} {p k : Nat} (h : k < 4) : dg f p (mn k 4) * 10 + f (p + k) - 48 = dg f p (mn (k + 1) 4) := by
  rw [mn_lt (Nat.le_of_lt h), mn_lt (show k + 1 ≤ 4 from h)]
  rfl
theorem dg_t {f : Nat → Int32} {p k : Nat} (h : 4 ≤ k) : dg f p (mn k 4) = dg f p (mn (k + 1) 4) := by rw [mn_ge h, mn_ge (show 4 ≤ k + 1 by omega)]
theorem pnG_y {F : Nat → Int64} {w : Int64} {i m : Nat} (h : F i = w) : pnG F w i (m + 1) = nI i := by
  show (if F i = w then nI i else pnG F w (i + 1) m) = nI i
  rw [if_pos h]
theorem pnG_n {F : Nat → Int64} {w : Int64} {i m : Nat} (h : ¬ F i = w) : pnG F w i (m + 1) = pnG F w (i + 1) m := by
  show (if F i = w then nI i else pnG F w (i + 1) m) = _
  rw [if_neg h]
theorem sName_y {f : Nat → Int32} {L n : Nat} {bs : List Int32} {w : Int64} (h : tK f L n = 1 ∧ nmR bs w = true) (e : w = tW f L n) : sName f L bs n = .inr (tN f L n, w) := by
  subst e
  unfold sName
  rw [if_pos h]
theorem sName_n {f : Nat → Int32} {L n : Nat} {bs : List Int32} {w : Int64} (h : ¬ (tK f L n = 1 ∧ nmR bs w = true)) (e : tK f L n = 1 → w = tW f L n) : sName f L bs n = .inl (fq 1 (tP f L n)) := by
  unfold sName
  rw [if_neg (fun q => h ⟨q.1, by rw [e q.1]; exact q.2⟩)]
theorem sPers_y {f : Nat → Int32} {L n n1 : Nat} {bs : List Int32} {F : Nat → Int64} {np : Nat} {w : Int64} (h : sName f L bs n = .inr (n1, w)) (c : ¬ pnF F np w = -1) : sPers f L bs F np n = .inr (n1, w) := by
  unfold sPers
  rw [h]
  dsimp only
  rw [if_neg c]
theorem sPers_2 {f : Nat → Int32} {L n n1 : Nat} {bs : List Int32} {F : Nat → Int64} {np : Nat} {w : Int64} (h : sName f L bs n = .inr (n1, w)) (c : pnF F np w = -1) : sPers f L bs F np n = .inl (fq 2 (tP f L n)) := by
  unfold sPers
  rw [h]
  dsimp only
  rw [if_pos c]
theorem sPers_1 {f : Nat → Int32} {L n : Nat} {bs : List Int32} {F : Nat → Int64} {np : Nat} {e : Int32} (h : sName f L bs n = .inl e) : sPers f L bs F np n = .inl e := by
  unfold sPers
  rw [h]
def sNew (f : Nat → Int32) (L : Nat) (bs : List Int32) (pn dn : Nat → Int64) (np nd : Nat) (n : Nat) : PR (Nat × Int64) := match sName f L bs n with
  | .inl e => .inl e
  | .inr (n1, w) => if pnF pn np w = -1 ∧ pnF dn nd w = -1 then .inr (n1, w) else .inl (fq 3 (tP f L n))
theorem sNew_y {f : Nat → Int32} {L n n1 : Nat} {bs : List Int32} {pn dn : Nat → Int64} {np nd : Nat} {w : Int64} (h : sName f L bs n = .inr (n1, w)) (c : pnF pn np w = -1 ∧ pnF dn nd w = -1) : sNew f L bs pn dn np nd n = .inr (n1, w) := by
  unfold sNew
  rw [h]
  dsimp only
  rw [if_pos c]
theorem sNew_3 {f : Nat → Int32} {L n n1 : Nat} {bs : List Int32} {pn dn : Nat → Int64} {np nd : Nat} {w : Int64} (h : sName f L bs n = .inr (n1, w)) (c : ¬ (pnF pn np w = -1 ∧ pnF dn nd w = -1)) : sNew f L bs pn dn np nd n = .inl (fq 3 (tP f L n)) := by
  unfold sNew
  rw [h]
  dsimp only
  rw [if_neg c]
theorem sNew_1 {f : Nat → Int32} {L n : Nat} {bs : List Int32} {pn dn : Nat → Int64} {np nd : Nat} {e : Int32} (h : sName f L bs n = .inl e) : sNew f L bs pn dn np nd n = .inl e := by
  unfold sNew
  rw [h]
def zl (k : Nat) : Lit := lits.getD k ("", 0, "", [])
section SL
variable (f : Nat → Int32) (L : Nat)
def sKind (n : Nat) : PR (Nat × Int32) := if tK f L n = 1 ∧ tW f L n = bw (zl 12) then .inr (tN f L n, 0) else if tK f L n = 1 ∧ tW f L n = bw (zl 13) then .inr (tN f L n, 1) else if tK f L n = 1 ∧ tW f L n = bw (zl 14) then .inr (tN f L n, 2) else if tK f L n = 1 ∧ tW f L n = bw (zl 15) then .inr (tN f L n, 3) else .inl (fq 1 (tP f L n))
def sPe (bs : List Int32) (pn dn : Nat → Int64) (np nd : Nat) (pl : Int32) (n : Nat) : PR (Nat × Int64 × Int32 × Int32 × Int32 × Int32) := if 6 ≤ np then .inl (5 + 16 * pl) else match sNew f L bs pn dn np nd n with
  | .inl e => .inl e
  | .inr (n1, w) => match sKind f L n1 with
    | .inl e => .inl e
    | .inr (n2, k) => match sBoth f L (bw (zl 9)) 9 n2 with
      | .inl e => .inl e
      | .inr (n3, h) => match sBoth f L (bw (zl 10)) 9 n3 with
        | .inl e => .inl e
        | .inr (n4, t) => match sBoth f L (bw (zl 11)) 99 n4 with
          | .inl e => .inl e
          | .inr (n5, v) => match sEnd f L n5 with
            | .inl e => .inl e
            | .inr n6 => .inr (n6, w, k, h, t, v)
def sDi (bs : List Int32) (pn dn : Nat → Int64) (np nd : Nat) (pl : Int32) (n : Nat) : PR (Nat × Int64 × Int32 × Int32 × Int32) := if 5 ≤ nd then .inl (5 + 16 * pl) else match sNew f L bs pn dn np nd n with
  | .inl e => .inl e
  | .inr (n1, w) => match sBoth f L (bw (zl 16)) 20 n1 with
    | .inl e => .inl e
    | .inr (n2, b) => match sBoth f L (bw (zl 17)) 9 n2 with
      | .inl e => .inl e
      | .inr (n3, s) => match sBoth f L (bw (zl 18)) 20 n3 with
        | .inl e => .inl e
        | .inr (n4, c) => match sEnd f L n4 with
          | .inl e => .inl e
          | .inr n5 => .inr (n5, w, b, s, c)
end SL
/-- store N, rest N -/
def sOne (f : Nat → Int32) (L : Nat) (was : Int32) (hi : Int32) (pl : Int32) (n : Nat) : PR (Nat × Int32) := if was = 0 then (match sNum f L 0 hi n with
  | .inl e => .inl e
  | .inr (n1, v) => match sEnd f L n1 with
    | .inl e => .inl e
    | .inr n2 => .inr (n2, v)) else .inl (3 + 16 * pl)
theorem pnG_ix {F : Nat → Int64} {w : Int64} : ∀ (m i : Nat), ¬ pnG F w i m = -1 → ∃ j, i ≤ j ∧ j < i + m ∧ pnG F w i m = nI j ∧ F j = w
  | 0, i, h => absurd rfl h
  | m + 1, i, h => by
    by_cases e : F i = w
    · exact ⟨i, Nat.le_refl _, by omega, pnG_y e, e⟩
    · rw [pnG_n e] at h ⊢
      obtain ⟨j, h1, h2, h3, h4⟩ := pnG_ix m (i + 1) h
      exact ⟨j, by omega, by omega, h3, h4⟩
theorem pnF_ix {F : Nat → Int64} {m : Nat} {w : Int64} (h : ¬ pnF F m w = -1) : ∃ j, j < m ∧ pnF F m w = nI j := by
  obtain ⟨j, _, h2, h3, _⟩ := pnG_ix m 0 h
  exact ⟨j, by omega, h3⟩
theorem nI_nm1 {n : Nat} (h : n < 2 ^ 31) : ¬ nI n = -1 := fun q => nI_pos h (by rw [q]; decide)
section SM
variable (f : Nat → Int32) (L : Nat)
def sCup (bs : List Int32) (pn : Nat → Int64) (np : Nat) (cu : Nat → Int32) (n : Nat) : PR (Nat × Nat × Nat) := match sPers f L bs pn np n with
  | .inl e => .inl e
  | .inr (n1, w1) => match sPers f L bs pn np n1 with
    | .inl e => .inl e
    | .inr (n2, w2) => if pnF pn np w1 = pnF pn np w2 ∨ (cu (pnF pn np w1).toNatClampNeg >>> (pnF pn np w2 &&& 31)) &&& 1 = 1 then .inl (fq 3 (tP f L n1)) else match sEnd f L n2 with
      | .inl e => .inl e
      | .inr n3 => .inr (n3, (pnF pn np w1).toNatClampNeg, (pnF pn np w2).toNatClampNeg)
def sSick (bs : List Int32) (pn : Nat → Int64) (np : Nat) (sf : Nat → Int32) (n : Nat) : PR (Nat × Nat × Int32 × Int32) := match sPers f L bs pn np n with
  | .inl e => .inl e
  | .inr (n1, w1) => if sf (pnF pn np w1).toNatClampNeg = -1 then (match sBoth f L (bw (zl 19)) 99 n1 with
    | .inl e => .inl e
    | .inr (n2, a) => match sWord f L (bw (zl 20)) n2 with
      | .inl e => .inl e
      | .inr n3 => match sNum f L a 99 n3 with
        | .inl e => .inl e
        | .inr (n4, b) => match sEnd f L n4 with
          | .inl e => .inl e
          | .inr n5 => .inr (n5, (pnF pn np w1).toNatClampNeg, a, b)) else .inl (fq 3 (tP f L n))
end SM
def cupU (cu : Nat → Int32) (i j : Nat) : Nat → Int32 := upd (upd cu i (cu i ||| (1 <<< (nI j &&& 31)))) j ((upd cu i (cu i ||| (1 <<< (nI j &&& 31)))) j ||| (1 <<< (nI i &&& 31)))
theorem lk_out {ps : List (Int × Int)} {d z : Int} (h : ∀ q ∈ ps, ¬ q.1 = z) : Op.lookupswitch.offset ps d z = d := (lks_ok ps d z).elim id (fun q => absurd rfl (h _ q))
/-- how much a joint binds -/
def bnd3 (v : Int32) : Int32 := if v = -13 then 1 else if v = -12 then 1 else if v = -11 then 2 else if v = -10 then 2 else if v = -9 then 3 else if v = -8 then 3 else if v = -7 then 4 else 0
/-- how many wait when those that bind at least lo are steps -/
def setJ (wt : Nat → Int32) (lo : Int32) : Nat → Nat
  | 0 => 0
  | w + 1 => if bnd3 (wt w) < lo then w + 1 else setJ wt lo w
theorem setJ_y {wt : Nat → Int32} {lo : Int32} {w : Nat} (h : bnd3 (wt w) < lo) : setJ wt lo (w + 1) = w + 1 := by
  show (if bnd3 (wt w) < lo then w + 1 else setJ wt lo w) = _
  rw [if_pos h]
theorem setJ_n {wt : Nat → Int32} {lo : Int32} {w : Nat} (h : ¬ bnd3 (wt w) < lo) : setJ wt lo (w + 1) = setJ wt lo w := by
  show (if bnd3 (wt w) < lo then w + 1 else setJ wt lo w) = _
  rw [if_neg h]
theorem setJ_le {wt : Nat → Int32} {lo : Int32} : ∀ w, setJ wt lo w ≤ w
  | 0 => Nat.le_refl _
  | w + 1 => by
    have h := setJ_le (wt := wt) (lo := lo) w
    unfold setJ
    split <;> omega
/-- how many wait, and how deep it is, when the nots that wait last are steps -/
def setN (wt : Nat → Int32) : Nat → Int32 → Nat × Int32
  | 0, d => (0, d)
  | w + 1, d => if wt w = -6 then setN wt w (d - 1) else (w + 1, d)
theorem setN_y {wt : Nat → Int32} {w : Nat} {d : Int32} (h : wt w = -6) : setN wt (w + 1) d = setN wt w (d - 1) := by
  show (if wt w = -6 then setN wt w (d - 1) else (w + 1, d)) = _
  rw [if_pos h]
theorem setN_n {wt : Nat → Int32} {w : Nat} {d : Int32} (h : ¬ wt w = -6) : setN wt (w + 1) d = (w + 1, d) := by
  show (if wt w = -6 then setN wt w (d - 1) else (w + 1, d)) = _
  rw [if_neg h]
theorem setN_le {wt : Nat → Int32} : ∀ (w : Nat) (d : Int32), (setN wt w d).1 ≤ w
  | 0, _ => Nat.le_refl _
  | w + 1, d => by
    have h := setN_le (wt := wt) w (d - 1)
    unfold setN
    split
    · omega
    · exact Nat.le_refl _
def adW (wt : Nat → Int32) (w : Nat) (x : Int32) : Nat → Int32 := if w < 40 then upd wt w x else wt
def adN (w : Nat) : Nat := if w < 40 then w + 1 else w
theorem adN_le {w : Nat} (h : w ≤ 40) : adN w ≤ 40 := by
  unfold adN
  split <;> omega
def lsW (wt : Nat → Int32) : Nat → Int32
  | 0 => -15
  | w + 1 => wt w
theorem ex_ow {n : Nat} (h : 0 < n) : ∃ m, n = m + 1 := ⟨n - 1, by omega⟩
theorem mx0 {n : Nat} (h : n ≤ 40) : (if (0 : Int32) < nI n - 1 then nI n - 1 else 0) = nI (n - 1) := by
  exact (show ∀ n : Nat, n ≤ 40 → (if (0 : Int32) < nI n - 1 then nI n - 1 else 0) = nI (n - 1) by decide +kernel) n h
theorem bnd3_r (v : Int32) : bnd3 v = 0 ∨ bnd3 v = 1 ∨ bnd3 v = 2 ∨ bnd3 v = 3 ∨ bnd3 v = 4 := by
  unfold bnd3
  repeat (split; · decide)
  decide
theorem mx1 {v : Int32} (h : ¬ bnd3 v = 0) : (if 1 < bnd3 v then bnd3 v else 1) = bnd3 v := by
  rcases bnd3_r v with e | e | e | e | e
  · exact absurd e h
  · rw [e]; decide
  · rw [e]; decide
  · rw [e]; decide
  · rw [e]; decide
/-- what a token is as a part of E, and as a joint -/
def pt (f : Nat → Int32) (L n : Nat) : Int32 := if tK f L n = 2 then tV f L n else if tK f L n = 3 ∧ f (tP f L n) = 40 then -14 else if tK f L n = 1 ∧ tW f L n = bw (zl 21) then -6 else if tK f L n = 1 ∧ tW f L n = bw (zl 22) then -1 else if tK f L n = 1 ∧ tW f L n = bw (zl 23) then -2 else if tK f L n = 1 ∧ tW f L n = bw (zl 24) then -3 else if tK f L n = 1 ∧ tW f L n = bw (zl 25) then -4 else if tK f L n = 1 ∧ tW f L n = bw (zl 26) then -5 else -15
def sgj (v : Int32) : Int32 := if v = 42 then -7 else if v = 43 then -8 else if v = 45 then -9 else if v = 60 then -10 else if v = 61 then -11 else -15
def jt (f : Nat → Int32) (L n : Nat) : Int32 := if tK f L n = 1 ∧ tW f L n = bw (zl 27) then -12 else if tK f L n = 1 ∧ tW f L n = bw (zl 28) then -13 else if tK f L n = 3 then sgj (f (tP f L n)) else -15
def fil (n : Nat) (v : Int32) (f : Nat → Int32) : Nat → Int32 := fun j => if j < n then v else f j
theorem fil_0 (v : Int32) (f : Nat → Int32) : fil 0 v f = f := by
  funext j
  unfold fil
  rw [if_neg (Nat.not_lt_zero j)]
theorem fil_s {i : Nat} {v : Int32} {f : Nat → Int32} : upd (fil i v f) i v = fil (i + 1) v f := by
  funext j
  by_cases h : j = i
  · subst h
    rw [pk_us]
    unfold fil
    rw [if_pos (Nat.lt_succ_self j)]
  · rw [pk_un h]
    unfold fil
    by_cases q : j < i
    · rw [if_pos q, if_pos (by omega)]
    · rw [if_neg q, if_neg (by omega)]
