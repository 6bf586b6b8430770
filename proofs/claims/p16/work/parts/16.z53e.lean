theorem lyT {fm tm : Nat} (hne : ¬ fm = tm) : ∀ (n k : Nat) (a b c d : Nat → Int32), k + n = 40 →
    (∀ j, k ≤ j → j < 40 → (F_X12_laysLines_L14 fm tm n k a b c d).1 (40 * tm + j) = a (40 * fm + j) ∧ (F_X12_laysLines_L14 fm tm n k a b c d).2.1 (40 * tm + j) = b (40 * fm + j) ∧ (F_X12_laysLines_L14 fm tm n k a b c d).2.2.1 (40 * tm + j) = c (40 * fm + j) ∧ (F_X12_laysLines_L14 fm tm n k a b c d).2.2.2 (40 * tm + j) = vp_nar .boolean (d (40 * fm + j)))
    ∧ (∀ i, (i < 40 * tm + k ∨ 40 * tm + 40 ≤ i) → (F_X12_laysLines_L14 fm tm n k a b c d).1 i = a i ∧ (F_X12_laysLines_L14 fm tm n k a b c d).2.1 i = b i ∧ (F_X12_laysLines_L14 fm tm n k a b c d).2.2.1 i = c i ∧ (F_X12_laysLines_L14 fm tm n k a b c d).2.2.2 i = d i)
  | 0, k, a, b, c, d, h => ⟨fun j h1 h2 => absurd h2 (by omega), fun i _ => ⟨rfl, rfl, rfl, rfl⟩⟩
  | n + 1, k, a, b, c, d, h => by
    obtain ⟨i1, i2⟩ := lyT hne n (k + 1) (upd a (40 * tm + k) (a (40 * fm + k))) (upd b (40 * tm + k) (b (40 * fm + k))) (upd c (40 * tm + k) (c (40 * fm + k))) (upd d (40 * tm + k) (vp_nar .boolean (d (40 * fm + k)))) (by omega)
    rw [F_X12_laysLines_L14_s]
    refine ⟨fun j h1 h2 => ?_, fun i hi => ?_⟩
    · by_cases q : j = k
      · subst q
        have h3 := i2 (40 * tm + j) (Or.inl (by omega))
        rw [pk_us, pk_us, pk_us, pk_us] at h3
        exact h3
      · have h3 := i1 j (by omega) h2
        have e : ∀ (g : Nat → Int32) x, upd g (40 * tm + k) x (40 * fm + j) = g (40 * fm + j) := fun g x => pk_un (by omega)
        rw [e, e, e, e] at h3
        exact h3
    · have h3 := i2 i (by omega)
      have e : ∀ (g : Nat → Int32) x, upd g (40 * tm + k) x i = g i := fun g x => pk_un (by omega)
      rw [e, e, e, e] at h3
      exact h3
section LYS
variable {fm tm ln : Nat} {li lw lx ly lz wh ww wd : Nat → Int32}
theorem lyA (hne : ¬ fm = tm) {j : Nat} (hj : j < 40) : (F_X12_laysLines fm tm li lw lx ly lz).2.1 (40 * tm + j) = lw (40 * fm + j) ∧ (F_X12_laysLines fm tm li lw lx ly lz).2.2.1 (40 * tm + j) = lx (40 * fm + j) ∧ (F_X12_laysLines fm tm li lw lx ly lz).2.2.2.1 (40 * tm + j) = ly (40 * fm + j) ∧ (F_X12_laysLines fm tm li lw lx ly lz).2.2.2.2 (40 * tm + j) = vp_nar .boolean (lz (40 * fm + j)) := (lyT hne (40 - 0) 0 lw lx ly lz rfl).1 j (Nat.zero_le _) hj
theorem lyB (hne : ¬ fm = tm) {i : Nat} (hi : i < 40 * tm ∨ 40 * tm + 40 ≤ i) : (F_X12_laysLines fm tm li lw lx ly lz).2.1 i = lw i ∧ (F_X12_laysLines fm tm li lw lx ly lz).2.2.1 i = lx i ∧ (F_X12_laysLines fm tm li lw lx ly lz).2.2.2.1 i = ly i ∧ (F_X12_laysLines fm tm li lw lx ly lz).2.2.2.2 i = lz i := (lyT hne (40 - 0) 0 lw lx ly lz rfl).2 i hi
theorem lyR (hne : ¬ fm = tm) (hln : ln ≤ 40) (h : linesRel (40 * fm) ln wh ww wd lw lx ly lz) : linesRel (40 * tm) ln wh ww wd (F_X12_laysLines fm tm li lw lx ly lz).2.1 (F_X12_laysLines fm tm li lw lx ly lz).2.2.1 (F_X12_laysLines fm tm li lw lx ly lz).2.2.2.1 (F_X12_laysLines fm tm li lw lx ly lz).2.2.2.2 := by
  intro j hj
  obtain ⟨e1, e2, e3, e4⟩ := lyA (li := li) (lw := lw) (lx := lx) (ly := ly) (lz := lz) hne (show j < 40 by omega)
  rw [e1, e2, e3, e4]
  rcases h j hj with q | q | ⟨q1, q2, q3, q4⟩ | ⟨q1, q2, q3, q4⟩
  · exact Or.inl q
  · exact Or.inr (Or.inl q)
  · exact Or.inr (Or.inr (Or.inl ⟨q1, q2, by rw [q3]; rfl, q4⟩))
  · exact Or.inr (Or.inr (Or.inr ⟨q1, q2, by rw [q3]; rfl, q4⟩))
theorem lyO (hne : ¬ fm = tm) (hfm : fm < 6) (h : lOK lx ly) : lOK (F_X12_laysLines fm tm li lw lx ly lz).2.2.1 (F_X12_laysLines fm tm li lw lx ly lz).2.2.2.1 := by
  intro i hi
  by_cases q : i < 40 * tm ∨ 40 * tm + 40 ≤ i
  · obtain ⟨e1, e2, e3, e4⟩ := lyB (li := li) (lw := lw) (lx := lx) (ly := ly) (lz := lz) hne q
    rw [e2, e3]
    exact h i hi
  · obtain ⟨j, hj, rfl⟩ : ∃ j, j < 40 ∧ i = 40 * tm + j := ⟨i - 40 * tm, by omega, by omega⟩
    obtain ⟨e1, e2, e3, e4⟩ := lyA (li := li) (lw := lw) (lx := lx) (ly := ly) (lz := lz) hne hj
    rw [e2, e3]
    exact h (40 * fm + j) (by omega)
end LYS
