/-! E, as the class reads it: what waits, how deep, how many are open; own -/
def eR (f : Nat → Int32) (L : Nat) : Nat → Int32 → Nat → (Nat → Int32) → Nat → Int32 → Int32 → PR Nat
  | 0, _, _, _, _, _, _ => .inl 0
  | k + 1, wa, n, wt, wn, dp, op =>
    if wa = 0 then
      (if (tK f L n = 3 ∧ f (tP f L n) = 59) ∧ op = 0 then .inr (tN f L n)
      else if (tK f L n = 3 ∧ f (tP f L n) = 41) ∧ 0 < op then eR f L k 0 (tN f L n) wt (setN wt (setJ wt 1 wn - 1) (dp - 1)).1 (setN wt (setJ wt 1 wn - 1) (dp - 1)).2 (op - 1)
      else if bnd3 (jt f L n) = 0 ∨ (bnd3 (jt f L n) = 2 ∧ bnd3 (lsW wt (setJ wt 3 wn)) = 2) then .inl (fq 1 (tP f L n))
      else if bnd3 (jt f L n) = 2 then eR f L k 1 (tN f L n) (adW wt (setJ wt (bnd3 (jt f L n)) (setJ wt 3 wn)) (jt f L n)) (adN (setJ wt (bnd3 (jt f L n)) (setJ wt 3 wn))) dp op
      else eR f L k 1 (tN f L n) (adW wt (setJ wt (bnd3 (jt f L n)) wn) (jt f L n)) (adN (setJ wt (bnd3 (jt f L n)) wn)) dp op)
    else
      (if pt f L n = -15 then .inl (fq 1 (tP f L n))
      else if dp < 5 then
        (if pt f L n = -6 ∨ pt f L n = -14 then eR f L k 1 (tN f L n) (adW wt wn (pt f L n)) (adN wn) (dp + 1) (op + (if pt f L n = -14 then 1 else 0))
        else eR f L k 0 (tN f L n) wt (setN wt wn dp).1 (setN wt wn dp).2 op)
      else .inl (fq 5 (tP f L n)))
section ER
variable {f : Nat → Int32} {L k n wn : Nat} {wa dp op : Int32} {wt : Nat → Int32}
theorem eR_P1 (h0 : ¬ wa = 0) (h1 : pt f L n = -15) : eR f L (k + 1) wa n wt wn dp op = .inl (fq 1 (tP f L n)) := by rw [eR, if_neg h0, if_pos h1]
theorem eR_P5 (h0 : ¬ wa = 0) (h1 : ¬ pt f L n = -15) (h2 : ¬ dp < 5) : eR f L (k + 1) wa n wt wn dp op = .inl (fq 5 (tP f L n)) := by rw [eR, if_neg h0, if_neg h1, if_neg h2]
theorem eR_Pa (h0 : ¬ wa = 0) (h1 : ¬ pt f L n = -15) (h2 : dp < 5) (h3 : pt f L n = -6 ∨ pt f L n = -14) : eR f L (k + 1) wa n wt wn dp op = eR f L k 1 (tN f L n) (adW wt wn (pt f L n)) (adN wn) (dp + 1) (op + (if pt f L n = -14 then 1 else 0)) := by rw [eR, if_neg h0, if_neg h1, if_pos h2, if_pos h3]
theorem eR_Pb (h0 : ¬ wa = 0) (h1 : ¬ pt f L n = -15) (h2 : dp < 5) (h3 : ¬ (pt f L n = -6 ∨ pt f L n = -14)) : eR f L (k + 1) wa n wt wn dp op = eR f L k 0 (tN f L n) wt (setN wt wn dp).1 (setN wt wn dp).2 op := by rw [eR, if_neg h0, if_neg h1, if_pos h2, if_neg h3]
theorem eR_J9 (h0 : wa = 0) (h1 : (tK f L n = 3 ∧ f (tP f L n) = 59) ∧ op = 0) : eR f L (k + 1) wa n wt wn dp op = .inr (tN f L n) := by rw [eR, if_pos h0, if_pos h1]
theorem eR_J1 (h0 : wa = 0) (h1 : ¬ ((tK f L n = 3 ∧ f (tP f L n) = 59) ∧ op = 0)) (h2 : (tK f L n = 3 ∧ f (tP f L n) = 41) ∧ 0 < op) : eR f L (k + 1) wa n wt wn dp op = eR f L k 0 (tN f L n) wt (setN wt (setJ wt 1 wn - 1) (dp - 1)).1 (setN wt (setJ wt 1 wn - 1) (dp - 1)).2 (op - 1) := by rw [eR, if_pos h0, if_neg h1, if_pos h2]
theorem eR_Jf (h0 : wa = 0) (h1 : ¬ ((tK f L n = 3 ∧ f (tP f L n) = 59) ∧ op = 0)) (h2 : ¬ ((tK f L n = 3 ∧ f (tP f L n) = 41) ∧ 0 < op)) (h3 : bnd3 (jt f L n) = 0 ∨ (bnd3 (jt f L n) = 2 ∧ bnd3 (lsW wt (setJ wt 3 wn)) = 2)) : eR f L (k + 1) wa n wt wn dp op = .inl (fq 1 (tP f L n)) := by rw [eR, if_pos h0, if_neg h1, if_neg h2, if_pos h3]
theorem eR_J2 (h0 : wa = 0) (h1 : ¬ ((tK f L n = 3 ∧ f (tP f L n) = 59) ∧ op = 0)) (h2 : ¬ ((tK f L n = 3 ∧ f (tP f L n) = 41) ∧ 0 < op)) (h3 : bnd3 (jt f L n) = 2) (h4 : ¬ bnd3 (lsW wt (setJ wt 3 wn)) = 2) : eR f L (k + 1) wa n wt wn dp op = eR f L k 1 (tN f L n) (adW wt (setJ wt (bnd3 (jt f L n)) (setJ wt 3 wn)) (jt f L n)) (adN (setJ wt (bnd3 (jt f L n)) (setJ wt 3 wn))) dp op := by rw [eR, if_pos h0, if_neg h1, if_neg h2, if_neg (fun q => q.elim (fun q => absurd (q.symm.trans h3) (by decide)) (fun q => h4 q.2)), if_pos h3]
theorem eR_Jn (h0 : wa = 0) (h1 : ¬ ((tK f L n = 3 ∧ f (tP f L n) = 59) ∧ op = 0)) (h2 : ¬ ((tK f L n = 3 ∧ f (tP f L n) = 41) ∧ 0 < op)) (h3 : ¬ bnd3 (jt f L n) = 0) (h4 : ¬ bnd3 (jt f L n) = 2) : eR f L (k + 1) wa n wt wn dp op = eR f L k 1 (tN f L n) (adW wt (setJ wt (bnd3 (jt f L n)) wn) (jt f L n)) (adN (setJ wt (bnd3 (jt f L n)) wn)) dp op := by rw [eR, if_pos h0, if_neg h1, if_neg h2, if_neg (fun q => q.elim h3 (fun q => h4 q.1)), if_neg h4]
end ER
section TG
variable {f : Nat → Int32} {L n : Nat}
/-- a token that is one takes a sign at least -/
theorem tN_gt (h : ¬ tK f L n = 0) : n < tN f L n := by
  have h1 := tP_ge (f := f) (L := L) (n := n)
  by_cases q : tP f L n < L
  · refine Nat.lt_of_le_of_lt h1 ?_
    unfold tN
    rw [if_pos q]
    split
    · rename_i b
      rw [sk_go q b]
      exact Nat.lt_of_lt_of_le (Nat.lt_succ_self _) sk_ge
    · split
      · rename_i b
        rw [sk_go q b]
        exact Nat.lt_of_lt_of_le (Nat.lt_succ_self _) sk_ge
      · exact Nat.lt_succ_self _
  · exact absurd (tK_0 q).1 h
theorem pt_0 (h : tK f L n = 0) : pt f L n = -15 := by
  unfold pt
  rw [if_neg (by rw [h]; decide), if_neg (fun q => absurd (h.symm.trans q.1) (by decide)), if_neg (fun q => absurd (h.symm.trans q.1) (by decide)), if_neg (fun q => absurd (h.symm.trans q.1) (by decide)), if_neg (fun q => absurd (h.symm.trans q.1) (by decide)), if_neg (fun q => absurd (h.symm.trans q.1) (by decide)), if_neg (fun q => absurd (h.symm.trans q.1) (by decide)), if_neg (fun q => absurd (h.symm.trans q.1) (by decide))]
theorem jt_0 (h : tK f L n = 0) : jt f L n = -15 := by
  unfold jt
  rw [if_neg (fun q => absurd (h.symm.trans q.1) (by decide)), if_neg (fun q => absurd (h.symm.trans q.1) (by decide)), if_neg (by rw [h]; decide)]
end TG
