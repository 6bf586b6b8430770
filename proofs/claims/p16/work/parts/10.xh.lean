/-! E, as the reference reads it: levels, what opened each, whether it was compared there; own -/
def ppN (opn : Nat → Int32) : Nat → Nat
  | 0 => 0
  | d + 1 => if opn (d + 1) = 1 then ppN opn d else d + 1
theorem ppN_y {opn : Nat → Int32} {d : Nat} (h : opn (d + 1) = 1) : ppN opn (d + 1) = ppN opn d := by
  show (if opn (d + 1) = 1 then ppN opn d else d + 1) = _
  rw [if_pos h]
theorem ppN_n {opn : Nat → Int32} {d : Nat} (h : d = 0 ∨ ¬ opn d = 1) : ppN opn d = d := by
  cases d with
  | zero => rfl
  | succ d =>
    show (if opn (d + 1) = 1 then ppN opn d else d + 1) = _
    rw [if_neg (h.elim (fun q => absurd q (Nat.succ_ne_zero d)) id)]
theorem ppN_le {opn : Nat → Int32} : ∀ d, ppN opn d ≤ d
  | 0 => Nat.le_refl _
  | d + 1 => by
    have h := ppN_le (opn := opn) d
    unfold ppN
    split
    · omega
    · exact Nat.le_refl _
theorem nI_pi (k : Nat) : nI (k + 1) + Int32.ofInt (-1) = nI k := by
  have e : nI (k + 1) = nI k + 1 := (nI_1 k).symm
  rw [e, Int32.add_assoc, show (1 : Int32) + Int32.ofInt (-1) = 0 by decide, Int32.add_zero]
def es_E (f : Nat → Int32) (L : Nat) : Nat → Int32 → Nat → Nat → (Nat → Int32) → (Nat → Int32) → PR Nat
  | 0, _, _, _, _, _ => .inl 0
  | k + 1, wa, n, d, opn, cmp =>
    if wa = 0 then
      (if bnd3 (jt f L n) = 3 ∨ bnd3 (jt f L n) = 4 then es_E f L k 1 (tN f L n) d opn cmp
      else if bnd3 (jt f L n) = 2 ∧ cmp d = 0 then es_E f L k 1 (tN f L n) d opn (upd cmp d 1)
      else if bnd3 (jt f L n) = 1 then es_E f L k 1 (tN f L n) d opn (upd cmp d 0)
      else if (tK f L n = 3 ∧ f (tP f L n) = 41) ∧ 0 < d then es_E f L k 0 (tN f L n) (ppN opn (d - 1)) opn cmp
      else if d = 0 ∧ (tK f L n = 3 ∧ f (tP f L n) = 59) then .inr (tN f L n)
      else .inl (fq 1 (tP f L n)))
    else
      (if pt f L n = -15 then .inl (fq 1 (tP f L n))
      else if d < 5 then
        (if pt f L n = -6 ∨ pt f L n = -14 then es_E f L k 1 (tN f L n) (d + 1) (upd opn (d + 1) (if pt f L n = -6 then 1 else 2)) (upd cmp (d + 1) 0)
        else es_E f L k 0 (tN f L n) (ppN opn d) opn cmp)
      else .inl (fq 5 (tP f L n)))
section JQ
variable {f : Nat → Int32} {L n : Nat}
theorem tK_lt (h : ¬ tK f L n = 0) : n < L := Nat.lt_of_le_of_lt tP_ge (Decidable.byContradiction fun q => h (tK_0 q).1)
theorem jt_s (h : tK f L n = 3) : jt f L n = sgj (f (tP f L n)) := by
  unfold jt
  rw [if_neg (fun q => absurd (h.symm.trans q.1) (by decide)), if_neg (fun q => absurd (h.symm.trans q.1) (by decide)), if_pos h]
theorem jt_c {c : Int32} (h : tK f L n = 3 ∧ f (tP f L n) = c) : jt f L n = sgj c := by rw [jt_s h.1, h.2]
theorem jt_and (h : tK f L n = 1 ∧ tW f L n = bw (zl 27)) : jt f L n = -12 := by
  unfold jt
  rw [if_pos h]
theorem jt_or (h : tK f L n = 1 ∧ tW f L n = bw (zl 28)) : jt f L n = -13 := by
  unfold jt
  rw [if_neg (fun q => absurd (h.2.symm.trans q.2) (by decide +kernel)), if_pos h]
theorem jt_n (ha : ¬ (tK f L n = 1 ∧ tW f L n = bw (zl 27))) (ho : ¬ (tK f L n = 1 ∧ tW f L n = bw (zl 28))) (h1 : ¬ (tK f L n = 3 ∧ f (tP f L n) = 43)) (h2 : ¬ (tK f L n = 3 ∧ f (tP f L n) = 45)) (h3 : ¬ (tK f L n = 3 ∧ f (tP f L n) = 42)) (h4 : ¬ (tK f L n = 3 ∧ f (tP f L n) = 60)) (h5 : ¬ (tK f L n = 3 ∧ f (tP f L n) = 61)) : bnd3 (jt f L n) = 0 := by
  by_cases q : tK f L n = 3
  · have e : jt f L n = -15 := by
      rw [jt_s q]
      unfold sgj
      rw [if_neg (fun z => h3 ⟨q, z⟩), if_neg (fun z => h1 ⟨q, z⟩), if_neg (fun z => h2 ⟨q, z⟩), if_neg (fun z => h4 ⟨q, z⟩), if_neg (fun z => h5 ⟨q, z⟩)]
    rw [e]
    decide
  · have e : jt f L n = -15 := by
      unfold jt
      rw [if_neg ha, if_neg ho, if_neg q]
    rw [e]
    decide
theorem jt_b {c k : Int32} (h : tK f L n = 3 ∧ f (tP f L n) = c) (e : bnd3 (sgj c) = k) : bnd3 (jt f L n) = k := by rw [jt_c h, e]
/-- one of the five facts -/
def es_F (f : Nat → Int32) (L n : Nat) : Prop := tK f L n = 1 ∧ (tW f L n = bw (zl 22) ∨ tW f L n = bw (zl 23) ∨ tW f L n = bw (zl 24) ∨ tW f L n = bw (zl 25) ∨ tW f L n = bw (zl 26))
theorem pt_not (h : tK f L n = 1 ∧ tW f L n = bw (zl 21)) : pt f L n = -6 := by
  unfold pt
  rw [if_neg (by rw [h.1]; decide), if_neg (fun q => absurd (h.1.symm.trans q.1) (by decide)), if_pos h]
theorem pt_op (h : tK f L n = 3 ∧ f (tP f L n) = 40) : pt f L n = -14 := by
  unfold pt
  rw [if_neg (by rw [h.1]; decide), if_pos h]
theorem pt_none (hF : ¬ es_F f L n) (hn : ¬ (tK f L n = 1 ∧ tW f L n = bw (zl 21))) (ho : ¬ (tK f L n = 3 ∧ f (tP f L n) = 40)) (h2 : ¬ tK f L n = 2) : pt f L n = -15 := by
  unfold pt
  rw [if_neg h2, if_neg ho, if_neg hn, if_neg (fun q => hF ⟨q.1, Or.inl q.2⟩), if_neg (fun q => hF ⟨q.1, Or.inr (Or.inl q.2)⟩), if_neg (fun q => hF ⟨q.1, Or.inr (Or.inr (Or.inl q.2))⟩), if_neg (fun q => hF ⟨q.1, Or.inr (Or.inr (Or.inr (Or.inl q.2)))⟩), if_neg (fun q => hF ⟨q.1, Or.inr (Or.inr (Or.inr (Or.inr q.2)))⟩)]
theorem pt_F (h : es_F f L n) : ¬ pt f L n = -15 ∧ ¬ (pt f L n = -6 ∨ pt f L n = -14) := by
  obtain ⟨h1, h2⟩ := h
  rcases h2 with e | e | e | e | e
  · have ez : pt f L n = -1 := by
      unfold pt
      rw [if_neg (by rw [h1]; decide), if_neg (fun q => absurd (h1.symm.trans q.1) (by decide)), if_neg (fun q => absurd (e.symm.trans q.2) (by decide +kernel)), if_pos ⟨h1, e⟩]
    rw [ez]
    decide
  · have ez : pt f L n = -2 := by
      unfold pt
      rw [if_neg (by rw [h1]; decide), if_neg (fun q => absurd (h1.symm.trans q.1) (by decide)), if_neg (fun q => absurd (e.symm.trans q.2) (by decide +kernel)), if_neg (fun q => absurd (e.symm.trans q.2) (by decide +kernel)), if_pos ⟨h1, e⟩]
    rw [ez]
    decide
  · have ez : pt f L n = -3 := by
      unfold pt
      rw [if_neg (by rw [h1]; decide), if_neg (fun q => absurd (h1.symm.trans q.1) (by decide)), if_neg (fun q => absurd (e.symm.trans q.2) (by decide +kernel)), if_neg (fun q => absurd (e.symm.trans q.2) (by decide +kernel)), if_neg (fun q => absurd (e.symm.trans q.2) (by decide +kernel)), if_pos ⟨h1, e⟩]
    rw [ez]
    decide
  · have ez : pt f L n = -4 := by
      unfold pt
      rw [if_neg (by rw [h1]; decide), if_neg (fun q => absurd (h1.symm.trans q.1) (by decide)), if_neg (fun q => absurd (e.symm.trans q.2) (by decide +kernel)), if_neg (fun q => absurd (e.symm.trans q.2) (by decide +kernel)), if_neg (fun q => absurd (e.symm.trans q.2) (by decide +kernel)), if_neg (fun q => absurd (e.symm.trans q.2) (by decide +kernel)), if_pos ⟨h1, e⟩]
    rw [ez]
    decide
  · have ez : pt f L n = -5 := by
      unfold pt
      rw [if_neg (by rw [h1]; decide), if_neg (fun q => absurd (h1.symm.trans q.1) (by decide)), if_neg (fun q => absurd (e.symm.trans q.2) (by decide +kernel)), if_neg (fun q => absurd (e.symm.trans q.2) (by decide +kernel)), if_neg (fun q => absurd (e.symm.trans q.2) (by decide +kernel)), if_neg (fun q => absurd (e.symm.trans q.2) (by decide +kernel)), if_neg (fun q => absurd (e.symm.trans q.2) (by decide +kernel)), if_pos ⟨h1, e⟩]
    rw [ez]
    decide
theorem tK2_inv (h : tK f L n = 2) : tN f L n - tP f L n ≤ 4 ∧ ∀ j, j < tN f L n - tP f L n → bDi (f (tP f L n + j)) = true := by
  unfold tK at h
  split at h
  · rename_i q
    split at h
    · split at h <;> exact absurd h (by decide)
    · rename_i b
      split at h
      · rename_i b2
        split at h
        · rename_i e
          have hN := tN_d q (by simpa using b) b2
          refine ⟨by rw [hN]; exact e, fun j hj => ?_⟩
          rw [hN] at hj
          exact sk_all (n := tP f L n) (L := L) (by omega) (by omega)
        · exact absurd h (by decide)
      · split at h <;> exact absurd h (by decide)
  · exact absurd h (by decide)
theorem dg_b {a : Nat} : ∀ k : Nat, k ≤ 4 → (∀ j, j < k → bDi (f (a + j)) = true) → 0 ≤ (dg f a k).toInt ∧ (dg f a k).toInt < ((10 ^ k : Nat) : Int)
  | 0, _, _ => (show (0 : Int) ≤ (0 : Int32).toInt ∧ (0 : Int32).toInt < ((10 ^ 0 : Nat) : Int) from by decide)
  | k + 1, hk, h => by
    have h1 := dg_b k (by omega) (fun j hj => h j (by omega))
    have h2 := bDi_r (h k (Nat.lt_succ_self k))
    have h3 : 10 ^ k ≤ 1000 := Nat.le_trans (Nat.pow_le_pow_right (by decide) (show k ≤ 3 by omega)) (by decide)
    have e4 : 10 ^ (k + 1) = 10 ^ k * 10 := Nat.pow_succ ..
    have e10 : (10 : Int32).toInt = 10 := rfl
    have e48 : (48 : Int32).toInt = 48 := rfl
    have s1 : (dg f a k * 10).toInt = (dg f a k).toInt * 10 := by
      rw [i32_mul (by rw [e10]; unfold mnI; omega) (by rw [e10]; unfold mxI; omega), e10]
    have s2 : (dg f a k * 10 + f (a + k)).toInt = (dg f a k).toInt * 10 + (f (a + k)).toInt := by
      rw [i32_add (by rw [s1]; unfold mnI; omega) (by rw [s1]; unfold mxI; omega), s1]
    have s3 : (dg f a k * 10 + f (a + k) - 48).toInt = (dg f a k).toInt * 10 + (f (a + k)).toInt - 48 := by
      rw [i32_sub (by rw [s2, e48]; unfold mnI; omega) (by rw [s2, e48]; unfold mxI; omega), s2, e48]
    show 0 ≤ (dg f a k * 10 + f (a + k) - 48).toInt ∧ (dg f a k * 10 + f (a + k) - 48).toInt < _
    rw [s3, e4]
    omega
theorem pt_num (h : tK f L n = 2) : ¬ pt f L n = -15 ∧ ¬ (pt f L n = -6 ∨ pt f L n = -14) := by
  have e : pt f L n = tV f L n := by
    unfold pt
    rw [if_pos h]
  obtain ⟨h1, h2⟩ := tK2_inv h
  have h3 : 0 ≤ (tV f L n).toInt := (dg_b _ h1 h2).1
  rw [e]
  refine ⟨fun q => ?_, fun q => ?_⟩
  · rw [q] at h3
    exact absurd h3 (by decide)
  · rcases q with q | q <;> (rw [q] at h3; exact absurd h3 (by decide))
end JQ
section RE
variable {f : Nat → Int32} {L k n d : Nat} {wa : Int32} {opn cmp : Nat → Int32}
theorem es_E_P1 (h0 : ¬ wa = 0) (h1 : pt f L n = -15) : es_E f L (k + 1) wa n d opn cmp = .inl (fq 1 (tP f L n)) := by rw [es_E, if_neg h0, if_pos h1]
theorem es_E_P5 (h0 : ¬ wa = 0) (h1 : ¬ pt f L n = -15) (h2 : ¬ d < 5) : es_E f L (k + 1) wa n d opn cmp = .inl (fq 5 (tP f L n)) := by rw [es_E, if_neg h0, if_neg h1, if_neg h2]
theorem es_E_Pa (h0 : ¬ wa = 0) (h1 : ¬ pt f L n = -15) (h2 : d < 5) (h3 : pt f L n = -6 ∨ pt f L n = -14) : es_E f L (k + 1) wa n d opn cmp = es_E f L k 1 (tN f L n) (d + 1) (upd opn (d + 1) (if pt f L n = -6 then 1 else 2)) (upd cmp (d + 1) 0) := by rw [es_E, if_neg h0, if_neg h1, if_pos h2, if_pos h3]
theorem es_E_Pn (h0 : ¬ wa = 0) (h2 : d < 5) (h3 : pt f L n = -6) : es_E f L (k + 1) wa n d opn cmp = es_E f L k 1 (tN f L n) (d + 1) (upd opn (d + 1) 1) (upd cmp (d + 1) 0) := by rw [es_E_Pa h0 (by rw [h3]; decide) h2 (Or.inl h3), if_pos h3]
theorem es_E_Po (h0 : ¬ wa = 0) (h2 : d < 5) (h3 : pt f L n = -14) : es_E f L (k + 1) wa n d opn cmp = es_E f L k 1 (tN f L n) (d + 1) (upd opn (d + 1) 2) (upd cmp (d + 1) 0) := by rw [es_E_Pa h0 (by rw [h3]; decide) h2 (Or.inr h3), if_neg (by rw [h3]; decide)]
theorem es_E_Pb (h0 : ¬ wa = 0) (h1 : ¬ pt f L n = -15) (h2 : d < 5) (h3 : ¬ (pt f L n = -6 ∨ pt f L n = -14)) : es_E f L (k + 1) wa n d opn cmp = es_E f L k 0 (tN f L n) (ppN opn d) opn cmp := by rw [es_E, if_neg h0, if_neg h1, if_pos h2, if_neg h3]
theorem es_E_J4 (h0 : wa = 0) (h1 : bnd3 (jt f L n) = 3 ∨ bnd3 (jt f L n) = 4) : es_E f L (k + 1) wa n d opn cmp = es_E f L k 1 (tN f L n) d opn cmp := by rw [es_E, if_pos h0, if_pos h1]
theorem es_E_J2 (h0 : wa = 0) (h1 : bnd3 (jt f L n) = 2) (h2 : cmp d = 0) : es_E f L (k + 1) wa n d opn cmp = es_E f L k 1 (tN f L n) d opn (upd cmp d 1) := by rw [es_E, if_pos h0, if_neg (by rw [h1]; decide), if_pos ⟨h1, h2⟩]
theorem es_E_J1 (h0 : wa = 0) (h1 : bnd3 (jt f L n) = 1) : es_E f L (k + 1) wa n d opn cmp = es_E f L k 1 (tN f L n) d opn (upd cmp d 0) := by rw [es_E, if_pos h0, if_neg (by rw [h1]; decide), if_neg (fun q => absurd (h1.symm.trans q.1) (by decide)), if_pos h1]
theorem es_E_Jc (h0 : wa = 0) (h1 : tK f L n = 3 ∧ f (tP f L n) = 41) : es_E f L (k + 1) wa n (d + 1) opn cmp = es_E f L k 0 (tN f L n) (ppN opn d) opn cmp := by
  have hj : bnd3 (jt f L n) = 0 := jt_b h1 (by decide)
  rw [es_E, if_pos h0, if_neg (by rw [hj]; decide), if_neg (fun q => absurd (hj.symm.trans q.1) (by decide)), if_neg (by rw [hj]; decide), if_pos ⟨h1, Nat.succ_pos d⟩, Nat.add_sub_cancel]
theorem es_E_J9 (h0 : wa = 0) (h1 : tK f L n = 3 ∧ f (tP f L n) = 59) (h2 : d = 0) : es_E f L (k + 1) wa n d opn cmp = .inr (tN f L n) := by
  have hj : bnd3 (jt f L n) = 0 := jt_b h1 (by decide)
  rw [es_E, if_pos h0, if_neg (by rw [hj]; decide), if_neg (fun q => absurd (hj.symm.trans q.1) (by decide)), if_neg (by rw [hj]; decide), if_neg (fun q => absurd (h1.2.symm.trans q.1.2) (by decide)), if_pos ⟨h2, h1⟩]
theorem es_E_Jf (h0 : wa = 0) (hj : bnd3 (jt f L n) = 0) (h2 : ¬ ((tK f L n = 3 ∧ f (tP f L n) = 41) ∧ 0 < d)) (h3 : ¬ (d = 0 ∧ (tK f L n = 3 ∧ f (tP f L n) = 59))) : es_E f L (k + 1) wa n d opn cmp = .inl (fq 1 (tP f L n)) := by
  rw [es_E, if_pos h0, if_neg (by rw [hj]; decide), if_neg (fun q => absurd (hj.symm.trans q.1) (by decide)), if_neg (by rw [hj]; decide), if_neg h2, if_neg h3]
theorem jt_41 (h : tK f L n = 3 ∧ f (tP f L n) = 41) : bnd3 (jt f L n) = 0 := jt_b h (by decide)
theorem jt_59 (h : tK f L n = 3 ∧ f (tP f L n) = 59) : bnd3 (jt f L n) = 0 := jt_b h (by decide)
theorem es_E_J0 (h0 : wa = 0) (hj : bnd3 (jt f L n) = 2) (h2 : ¬ cmp d = 0) : es_E f L (k + 1) wa n d opn cmp = .inl (fq 1 (tP f L n)) := by
  rw [es_E, if_pos h0, if_neg (by rw [hj]; decide), if_neg (fun q => h2 q.2), if_neg (by rw [hj]; decide), if_neg (fun q => absurd (hj.symm.trans (jt_41 q.1)) (by decide)), if_neg (fun q => absurd (hj.symm.trans (jt_59 q.2)) (by decide))]
end RE
