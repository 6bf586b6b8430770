/-- who and what of the reference's lines -/
def lOK (lx ly : Nat → Int32) : Prop := ∀ j, j < 240 → vp_in (lx j) 6 ∧ vp_in (ly j) 5
theorem lOK_a {ww wd : Nat → Int32} {l a : Nat} (h : lOK ww wd) (ha : a < 6) : lOK (upd ww l (nI a)) wd := by
  intro j hj
  by_cases q : j = l
  · rw [q, pk_us]
    exact ⟨vp_nI ha (by decide), (h l (q ▸ hj)).2⟩
  · rw [pk_un q]
    exact h j hj
theorem lOK_b {ww wd : Nat → Int32} {l b : Nat} (h : lOK ww wd) (hb : b < 5) : lOK ww (upd wd l (nI b)) := by
  intro j hj
  by_cases q : j = l
  · rw [q, pk_us]
    exact ⟨(h l (q ▸ hj)).1, vp_nI hb (by decide)⟩
  · rw [pk_un q]
    exact h j hj
def lKq (q : Nat) (lx ly lz lx2 ly2 lz2 : Nat → Int32) : Prop := ∀ k, ¬ k = q → lx2 k = lx k ∧ ly2 k = ly k ∧ lz2 k = lz k
/-- a line of the class, a line of the reference -/
def lnRel (h w d x p y z : Int32) : Prop := (h = 0 ∧ x = 2) ∨ (h = 1 ∧ x = 1 ∧ w = p ∧ d = y) ∨ (h = 2 ∧ x = 0 ∧ z = 1 ∧ w = p ∧ d = y) ∨ (h = 3 ∧ x = 0 ∧ z = 0 ∧ w = p ∧ d = y)
def linesRel (off ln : Nat) (wh ww wd lw lx ly lz : Nat → Int32) : Prop := ∀ j, j < ln → lnRel (wh j) (ww j) (wd j) (lw (off + j)) (lx (off + j)) (ly (off + j)) (lz (off + j))
def lKeep (lw lx ly lz lw2 lx2 ly2 lz2 : Nat → Int32) : Prop := ∀ k, k < 200 → lw2 k = lw k ∧ lx2 k = lx k ∧ ly2 k = ly k ∧ lz2 k = lz k
section LR
variable {ln a b : Nat} {wh ww wd lw lx ly lz : Nat → Int32} {h sl : Int32}
theorem lr_e (q : linesRel 200 ln wh ww wd lw lx ly lz) (hs : (h = 2 ∧ sl = 1) ∨ (h = 3 ∧ sl = 0)) : linesRel 200 (ln + 1) (upd (upd wh ln 0) ln h) (upd ww ln (nI a)) (upd wd ln (nI b)) (upd lw (200 + ln) 0) (upd lx (200 + ln) (nI a)) (upd ly (200 + ln) (nI b)) (upd (upd lz (200 + ln) 0) (200 + ln) sl) := by
  intro j hj
  by_cases c : j = ln
  · subst c
    simp only [pk_us]
    rcases hs with ⟨rfl, rfl⟩ | ⟨rfl, rfl⟩
    · exact Or.inr (Or.inr (Or.inl ⟨rfl, rfl, rfl, rfl, rfl⟩))
    · exact Or.inr (Or.inr (Or.inr ⟨rfl, rfl, rfl, rfl, rfl⟩))
  · have e1 : ∀ (f : Nat → Int32) x, upd f ln x j = f j := fun f x => pk_un c
    have e2 : ∀ (f : Nat → Int32) x, upd f (200 + ln) x (200 + j) = f (200 + j) := fun f x => pk_un (by omega)
    simp only [e1, e2]
    exact q j (by omega)
theorem lr_a (q : linesRel 200 ln wh ww wd lw lx ly lz) : linesRel 200 (ln + 1) (upd wh ln 1) (upd ww ln (nI a)) (upd wd ln (nI b)) (upd lw (200 + ln) 1) (upd lx (200 + ln) (nI a)) (upd ly (200 + ln) (nI b)) (upd lz (200 + ln) 0) := by
  intro j hj
  by_cases c : j = ln
  · subst c
    simp only [pk_us]
    exact Or.inr (Or.inl ⟨rfl, rfl, rfl, rfl⟩)
  · have e1 : ∀ (f : Nat → Int32) x, upd f ln x j = f j := fun f x => pk_un c
    have e2 : ∀ (f : Nat → Int32) x, upd f (200 + ln) x (200 + j) = f (200 + j) := fun f x => pk_un (by omega)
    simp only [e1, e2]
    exact q j (by omega)
theorem lr_n (q : linesRel 200 ln wh ww wd lw lx ly lz) : linesRel 200 (ln + 1) (upd wh ln 0) ww wd (upd lw (200 + ln) 2) lx ly lz := by
  intro j hj
  by_cases c : j = ln
  · subst c
    simp only [pk_us]
    exact Or.inl ⟨rfl, rfl⟩
  · have e1 : ∀ (f : Nat → Int32) x, upd f ln x j = f j := fun f x => pk_un c
    have e2 : ∀ (f : Nat → Int32) x, upd f (200 + ln) x (200 + j) = f (200 + j) := fun f x => pk_un (by omega)
    simp only [e1, e2]
    exact q j (by omega)
end LR
def wEat (f : Nat → Int32) (L : Nat) (bs : List Int32) (pn dn : Nat → Int64) (np nd : Nat) (n : Nat) : PR (Nat × Nat × Nat × Int32) := match wMeal f L bs pn dn np nd n with
  | .inl e => .inl e
  | .inr (n1, a, b) => match wHow f L n1 with
    | .inl e => .inl e
    | .inr (n2, h) => .inr (n2, a, b, h)
section WE
variable {f : Nat → Int32} {L : Nat} {bs : List Int32} {pn dn : Nat → Int64} {np nd ln m n n1 n2 n3 a b k : Nat} {wh ww wd : Nat → Int32} {e h : Int32}
theorem wE_1 (h1 : wMeal f L bs pn dn np nd n = .inl e) : wEat f L bs pn dn np nd n = .inl e := by
  unfold wEat
  rw [h1]
theorem wE_2 (h1 : wMeal f L bs pn dn np nd n = .inr (n1, a, b)) (h2 : wHow f L n1 = .inl e) : wEat f L bs pn dn np nd n = .inl e := by
  unfold wEat
  rw [h1]
  dsimp only
  rw [h2]
theorem wE_y (h1 : wMeal f L bs pn dn np nd n = .inr (n1, a, b)) (h2 : wHow f L n1 = .inr (n2, h)) : wEat f L bs pn dn np nd n = .inr (n2, a, b, h) := by
  unfold wEat
  rw [h1]
  dsimp only
  rw [h2]
theorem wL_E1 (h1 : wIs f L 31 m) (h0 : ¬ 40 ≤ ln) (h2 : wEat f L bs pn dn np nd (tN f L m) = .inl e) : wLine f L bs pn dn np nd ln wh ww wd m = .inl e := by
  unfold wEat at h2
  unfold wLine
  rw [if_pos h1, if_neg h0]
  cases q : wMeal f L bs pn dn np nd (tN f L m) with
  | inl e2 =>
    rw [q] at h2
    exact congrArg _ (Sum.inl.inj h2)
  | inr x =>
    obtain ⟨n1, a, b⟩ := x
    rw [q] at h2
    dsimp only at h2 ⊢
    cases q2 : wHow f L n1 with
    | inl e2 =>
      rw [q2] at h2
      exact congrArg _ (Sum.inl.inj h2)
    | inr y =>
      rw [q2] at h2
      exact absurd h2 (by intro z; injection z)
theorem wL_Ey (h1 : wIs f L 31 m) (h0 : ¬ 40 ≤ ln) (h2 : wEat f L bs pn dn np nd (tN f L m) = .inr (n2, a, b, h)) : wLine f L bs pn dn np nd ln wh ww wd m = match sEnd f L n2 with
    | .inl e => .inl e
    | .inr n3 => .inr (n3, upd (upd wh ln 0) ln h, upd ww ln (nI a), upd wd ln (nI b)) := by
  unfold wEat at h2
  unfold wLine
  rw [if_pos h1, if_neg h0]
  cases q : wMeal f L bs pn dn np nd (tN f L m) with
  | inl e2 =>
    rw [q] at h2
    exact absurd h2 (by intro z; injection z)
  | inr x =>
    obtain ⟨n1, a', b'⟩ := x
    rw [q] at h2
    dsimp only at h2 ⊢
    cases q2 : wHow f L n1 with
    | inl e2 =>
      rw [q2] at h2
      exact absurd h2 (by intro z; injection z)
    | inr y =>
      obtain ⟨n2', h'⟩ := y
      rw [q2] at h2
      injection h2 with h3
      obtain ⟨rfl, rfl, rfl, rfl⟩ : n2' = n2 ∧ a' = a ∧ b' = b ∧ h' = h := by
        injection h3 with e1 e2
        injection e2 with e2 e3
        injection e3 with e3 e4
        exact ⟨e1, e2, e3, e4⟩
      rfl
theorem wL_Ef (h1 : wIs f L 31 m) (h0 : ¬ 40 ≤ ln) (h2 : wEat f L bs pn dn np nd (tN f L m) = .inr (n2, a, b, h)) (h4 : sEnd f L n2 = .inl e) : wLine f L bs pn dn np nd ln wh ww wd m = .inl e := by
  rw [wL_Ey h1 h0 h2, h4]
theorem wL_Eo (h1 : wIs f L 31 m) (h0 : ¬ 40 ≤ ln) (h2 : wEat f L bs pn dn np nd (tN f L m) = .inr (n2, a, b, h)) (h4 : sEnd f L n2 = .inr n3) : wLine f L bs pn dn np nd ln wh ww wd m = .inr (n3, upd (upd wh ln 0) ln h, upd ww ln (nI a), upd wd ln (nI b)) := by
  rw [wL_Ey h1 h0 h2, h4]
end WE
