/-! weeks told, as functions of the signs; own -/
def wHow (f : Nat → Int32) (L : Nat) (n : Nat) : PR (Nat × Int32) := if tK f L n = 1 ∧ tW f L n = bw (zl 34) then .inr (tN f L n, 2) else if tK f L n = 1 ∧ tW f L n = bw (zl 35) then .inr (tN f L n, 3) else .inl (fq 1 (tP f L n))
def wMeal (f : Nat → Int32) (L : Nat) (bs : List Int32) (pn dn : Nat → Int64) (np nd : Nat) (n : Nat) : PR (Nat × Nat × Nat) := match sPers f L bs pn np n with
  | .inl e => .inl e
  | .inr (n1, w1) => match sPers f L bs dn nd n1 with
    | .inl e => .inl e
    | .inr (n2, w2) => .inr (n2, (pnF pn np w1).toNatClampNeg, (pnF dn nd w2).toNatClampNeg)
abbrev wIs (f : Nat → Int32) (L k n : Nat) : Prop := tK f L n = 1 ∧ tW f L n = bw (zl k)
abbrev WR := Nat × (Nat → Int32) × (Nat → Int32) × (Nat → Int32)
def wLine (f : Nat → Int32) (L : Nat) (bs : List Int32) (pn dn : Nat → Int64) (np nd ln : Nat) (wh ww wd : Nat → Int32) (m : Nat) : PR WR :=
  if wIs f L 31 m then (if 40 ≤ ln then .inl (fq 5 (tP f L m)) else match wMeal f L bs pn dn np nd (tN f L m) with
    | .inl e => .inl e
    | .inr (n1, a, b) => match wHow f L n1 with
      | .inl e => .inl e
      | .inr (n2, h) => match sEnd f L n2 with
        | .inl e => .inl e
        | .inr n3 => .inr (n3, upd (upd wh ln 0) ln h, upd ww ln (nI a), upd wd ln (nI b)))
  else if wIs f L 32 m then (if 40 ≤ ln then .inl (fq 5 (tP f L m)) else match wMeal f L bs pn dn np nd (tN f L m) with
    | .inl e => .inl e
    | .inr (n1, a, b) => match sEnd f L n1 with
      | .inl e => .inl e
      | .inr n3 => .inr (n3, upd wh ln 1, upd ww ln (nI a), upd wd ln (nI b)))
  else if wIs f L 33 m then (if 40 ≤ ln then .inl (fq 5 (tP f L m)) else match sEnd f L (tN f L m) with
    | .inl e => .inl e
    | .inr n3 => .inr (n3, upd wh ln 0, ww, wd))
  else .inl (fq 1 (tP f L m))
def wRun (f : Nat → Int32) (L : Nat) (bs : List Int32) (pn dn : Nat → Int64) (np nd : Nat) : Nat → Nat → (Nat → Int32) → (Nat → Int32) → (Nat → Int32) → Nat → PR WR
  | 0, _, _, _, _, _ => .inl 0
  | k + 1, ln, wh, ww, wd, m => if tK f L m = 0 then .inr (ln, wh, ww, wd) else match wLine f L bs pn dn np nd ln wh ww wd m with
    | .inl e => .inl e
    | .inr (m2, wh2, ww2, wd2) => wRun f L bs pn dn np nd k (ln + 1) wh2 ww2 wd2 m2
def wOK (ww wd : Nat → Int32) : Prop := ∀ j, j < 40 → vp_in (ww j) 6 ∧ vp_in (wd j) 5
theorem vp_nI {a n : Nat} (h : a < n) (hn : n < 2 ^ 31) : vp_in (nI a) n := vp_in_nI h hn
theorem wOK_a {ww wd : Nat → Int32} {l a : Nat} (h : wOK ww wd) (ha : a < 6) : wOK (upd ww l (nI a)) wd := by
  intro j hj
  by_cases q : j = l
  · rw [q, pk_us]
    exact ⟨vp_nI ha (by decide), (h l (q ▸ hj)).2⟩
  · rw [pk_un q]
    exact h j hj
theorem wOK_b {ww wd : Nat → Int32} {l b : Nat} (h : wOK ww wd) (hb : b < 5) : wOK ww (upd wd l (nI b)) := by
  intro j hj
  by_cases q : j = l
  · rw [q, pk_us]
    exact ⟨(h l (q ▸ hj)).1, vp_nI hb (by decide)⟩
  · rw [pk_un q]
    exact h j hj
section WL
variable {f : Nat → Int32} {L : Nat} {bs : List Int32} {pn dn : Nat → Int64} {np nd ln m n n1 n2 n3 a b k : Nat} {wh ww wd wh2 ww2 wd2 : Nat → Int32} {w1 w2 : Int64} {e h : Int32}
theorem wMe_y (h1 : sPers f L bs pn np n = .inr (n1, w1)) (h2 : sPers f L bs dn nd n1 = .inr (n2, w2)) (ea : pnF pn np w1 = nI a) (eb : pnF dn nd w2 = nI b) (ha : a < 2 ^ 31) (hb : b < 2 ^ 31) : wMeal f L bs pn dn np nd n = .inr (n2, a, b) := by
  unfold wMeal
  rw [h1]
  dsimp only
  rw [h2]
  dsimp only
  rw [ea, eb, nI_clamp ha, nI_clamp hb]
theorem wMe_1 (h1 : sPers f L bs pn np n = .inl e) : wMeal f L bs pn dn np nd n = .inl e := by
  unfold wMeal
  rw [h1]
theorem wMe_2 (h1 : sPers f L bs pn np n = .inr (n1, w1)) (h2 : sPers f L bs dn nd n1 = .inl e) : wMeal f L bs pn dn np nd n = .inl e := by
  unfold wMeal
  rw [h1]
  dsimp only
  rw [h2]
theorem wL_0 (h1 : ¬ wIs f L 31 m) (h2 : ¬ wIs f L 32 m) (h3 : ¬ wIs f L 33 m) : wLine f L bs pn dn np nd ln wh ww wd m = .inl (fq 1 (tP f L m)) := by
  unfold wLine
  rw [if_neg h1, if_neg h2, if_neg h3]
theorem wL_m (h1 : wIs f L 31 m ∨ wIs f L 32 m ∨ wIs f L 33 m) (h : 40 ≤ ln) : wLine f L bs pn dn np nd ln wh ww wd m = .inl (fq 5 (tP f L m)) := by
  unfold wLine
  by_cases q1 : wIs f L 31 m
  · rw [if_pos q1, if_pos h]
  · rw [if_neg q1]
    by_cases q2 : wIs f L 32 m
    · rw [if_pos q2, if_pos h]
    · rw [if_neg q2, if_pos ((h1.resolve_left q1).resolve_left q2), if_pos h]
theorem wL_ef (h1 : wIs f L 31 m) (h0 : ¬ 40 ≤ ln) (h2 : wMeal f L bs pn dn np nd (tN f L m) = .inl e) : wLine f L bs pn dn np nd ln wh ww wd m = .inl e := by
  unfold wLine
  rw [if_pos h1, if_neg h0, h2]
theorem wL_ef2 (h1 : wIs f L 31 m) (h0 : ¬ 40 ≤ ln) (h2 : wMeal f L bs pn dn np nd (tN f L m) = .inr (n1, a, b)) (h3 : wHow f L n1 = .inl e) : wLine f L bs pn dn np nd ln wh ww wd m = .inl e := by
  unfold wLine
  rw [if_pos h1, if_neg h0, h2]
  dsimp only
  rw [h3]
theorem wL_ef3 (h1 : wIs f L 31 m) (h0 : ¬ 40 ≤ ln) (h2 : wMeal f L bs pn dn np nd (tN f L m) = .inr (n1, a, b)) (h3 : wHow f L n1 = .inr (n2, h)) (h4 : sEnd f L n2 = .inl e) : wLine f L bs pn dn np nd ln wh ww wd m = .inl e := by
  unfold wLine
  rw [if_pos h1, if_neg h0, h2]
  dsimp only
  rw [h3]
  dsimp only
  rw [h4]
theorem wL_e (h1 : wIs f L 31 m) (h0 : ¬ 40 ≤ ln) (h2 : wMeal f L bs pn dn np nd (tN f L m) = .inr (n1, a, b)) (h3 : wHow f L n1 = .inr (n2, h)) (h4 : sEnd f L n2 = .inr n3) : wLine f L bs pn dn np nd ln wh ww wd m = .inr (n3, upd (upd wh ln 0) ln h, upd ww ln (nI a), upd wd ln (nI b)) := by
  unfold wLine
  rw [if_pos h1, if_neg h0, h2]
  dsimp only
  rw [h3]
  dsimp only
  rw [h4]
theorem wL_af (hn : ¬ wIs f L 31 m) (h1 : wIs f L 32 m) (h0 : ¬ 40 ≤ ln) (h2 : wMeal f L bs pn dn np nd (tN f L m) = .inl e) : wLine f L bs pn dn np nd ln wh ww wd m = .inl e := by
  unfold wLine
  rw [if_neg hn, if_pos h1, if_neg h0, h2]
theorem wL_af3 (hn : ¬ wIs f L 31 m) (h1 : wIs f L 32 m) (h0 : ¬ 40 ≤ ln) (h2 : wMeal f L bs pn dn np nd (tN f L m) = .inr (n1, a, b)) (h4 : sEnd f L n1 = .inl e) : wLine f L bs pn dn np nd ln wh ww wd m = .inl e := by
  unfold wLine
  rw [if_neg hn, if_pos h1, if_neg h0, h2]
  dsimp only
  rw [h4]
theorem wL_a (hn : ¬ wIs f L 31 m) (h1 : wIs f L 32 m) (h0 : ¬ 40 ≤ ln) (h2 : wMeal f L bs pn dn np nd (tN f L m) = .inr (n1, a, b)) (h4 : sEnd f L n1 = .inr n3) : wLine f L bs pn dn np nd ln wh ww wd m = .inr (n3, upd wh ln 1, upd ww ln (nI a), upd wd ln (nI b)) := by
  unfold wLine
  rw [if_neg hn, if_pos h1, if_neg h0, h2]
  dsimp only
  rw [h4]
theorem wL_nf (hn : ¬ wIs f L 31 m) (hn2 : ¬ wIs f L 32 m) (h1 : wIs f L 33 m) (h0 : ¬ 40 ≤ ln) (h4 : sEnd f L (tN f L m) = .inl e) : wLine f L bs pn dn np nd ln wh ww wd m = .inl e := by
  unfold wLine
  rw [if_neg hn, if_neg hn2, if_pos h1, if_neg h0, h4]
theorem wL_n (hn : ¬ wIs f L 31 m) (hn2 : ¬ wIs f L 32 m) (h1 : wIs f L 33 m) (h0 : ¬ 40 ≤ ln) (h4 : sEnd f L (tN f L m) = .inr n3) : wLine f L bs pn dn np nd ln wh ww wd m = .inr (n3, upd wh ln 0, ww, wd) := by
  unfold wLine
  rw [if_neg hn, if_neg hn2, if_pos h1, if_neg h0, h4]
theorem wR_e (h : tK f L m = 0) : wRun f L bs pn dn np nd (k + 1) ln wh ww wd m = .inr (ln, wh, ww, wd) := by
  unfold wRun
  rw [if_pos h]
theorem wR_f (h : ¬ tK f L m = 0) (h2 : wLine f L bs pn dn np nd ln wh ww wd m = .inl e) : wRun f L bs pn dn np nd (k + 1) ln wh ww wd m = .inl e := by
  unfold wRun
  rw [if_neg h, h2]
theorem wR_s (h : ¬ tK f L m = 0) (h2 : wLine f L bs pn dn np nd ln wh ww wd m = .inr (n2, wh2, ww2, wd2)) : wRun f L bs pn dn np nd (k + 1) ln wh ww wd m = wRun f L bs pn dn np nd k (ln + 1) wh2 ww2 wd2 n2 := by
  conv => lhs; unfold wRun
  rw [if_neg h, h2]
end WL
