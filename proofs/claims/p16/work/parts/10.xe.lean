/-! a commune, as the class reads it; own -/
def sSha (f : Nat → Int32) (L : Nat) (was pl : Int32) (wt : Nat → Int32) (n : Nat) : PR Nat := if was = 0 then eR f L 1001 1 n wt 0 0 0 else .inl (3 + 16 * pl)
abbrev CD : Type := Nat × Nat × (Nat → Int64) × (Nat → Int64) × (Nat → Int32) × (Nat → Int32) × (Nat → Int32) × (Nat → Int32) × (Nat → Int32) × (Nat → Int32) × (Nat → Int32) × (Nat → Int32) × (Nat → Int32) × (Nat → Int32) × Int32 × Int32 × Int32 × Int32 × Int32
def cL (f : Nat → Int32) (L : Nat) (bs : List Int32) (wt : Nat → Int32) (np : Nat) (nd : Nat) (pn : Nat → Int64) (dn : Nat → Int64) (kd : Nat → Int32) (hg : Nat → Int32) (ta : Nat → Int32) (vo : Nat → Int32) (sf : Nat → Int32) (st : Nat → Int32) (cu : Nat → Int32) (bi : Nat → Int32) (sa : Nat → Int32) (co : Nat → Int32) (sto : Int32) (res : Int32) (s0 : Int32) (r0 : Int32) (h0 : Int32) (n : Nat) : PR (Nat × CD) :=
  if tK f L n = 1 ∧ tW f L n = bw (zl 2) then (match sPe f L bs pn dn np nd (nI (tP f L n)) (tN f L n) with
    | .inl e => .inl e
    | .inr (n2, w, k, h, s, v) => .inr (n2, (np + 1, nd, vp_updL pn np w, dn, upd kd np k, upd hg np h, upd ta np s, upd vo np v, sf, st, cu, bi, sa, co, sto, res, s0, r0, h0))) else
  if tK f L n = 1 ∧ tW f L n = bw (zl 3) then (match sDi f L bs pn dn np nd (nI (tP f L n)) (tN f L n) with
    | .inl e => .inl e
    | .inr (n2, w, b, s, v) => .inr (n2, (np, nd + 1, pn, vp_updL dn nd w, kd, hg, ta, vo, sf, st, cu, upd bi nd b, upd sa nd s, upd co nd v, sto, res, s0, r0, h0))) else
  if tK f L n = 1 ∧ tW f L n = bw (zl 4) then (match sCup f L bs pn np cu (tN f L n) with
    | .inl e => .inl e
    | .inr (n2, a, b) => .inr (n2, (np, nd, pn, dn, kd, hg, ta, vo, sf, st, cupU cu a b, bi, sa, co, sto, res, s0, r0, h0))) else
  if tK f L n = 1 ∧ tW f L n = bw (zl 5) then (match sSick f L bs pn np sf (tN f L n) with
    | .inl e => .inl e
    | .inr (n2, a, p, q) => .inr (n2, (np, nd, pn, dn, kd, hg, ta, vo, upd sf a p, upd st a q, cu, bi, sa, co, sto, res, s0, r0, h0))) else
  if tK f L n = 1 ∧ tW f L n = bw (zl 6) then (match sOne f L s0 999 (nI (tP f L n)) (tN f L n) with
    | .inl e => .inl e
    | .inr (n2, v) => .inr (n2, (np, nd, pn, dn, kd, hg, ta, vo, sf, st, cu, bi, sa, co, v, res, 1, r0, h0))) else
  if tK f L n = 1 ∧ tW f L n = bw (zl 7) then (match sOne f L r0 7 (nI (tP f L n)) (tN f L n) with
    | .inl e => .inl e
    | .inr (n2, v) => .inr (n2, (np, nd, pn, dn, kd, hg, ta, vo, sf, st, cu, bi, sa, co, sto, v, s0, 1, h0))) else
  if tK f L n = 1 ∧ tW f L n = bw (zl 8) then (match sSha f L h0 (nI (tP f L n)) wt (tN f L n) with
    | .inl e => .inl e
    | .inr n2 => .inr (n2, (np, nd, pn, dn, kd, hg, ta, vo, sf, st, cu, bi, sa, co, sto, res, s0, r0, 1))) else
  .inl (fq 1 (tP f L n))
def cRun (f : Nat → Int32) (L : Nat) (bs : List Int32) (wt : Nat → Int32) : Nat → CD → Nat → PR CD
  | 0, _, _ => .inl 0
  | k + 1, D, n => if tK f L n = 0 then .inr D else match (match D with | (np, nd, pn, dn, kd, hg, ta, vo, sf, st, cu, bi, sa, co, sto, res, s0, r0, h0) => cL f L bs wt np nd pn dn kd hg ta vo sf st cu bi sa co sto res s0 r0 h0 n) with
    | .inl e => .inl e
    | .inr (n2, D2) => cRun f L bs wt k D2 n2
section CRN
variable {f : Nat → Int32} {L : Nat} {bs : List Int32} {wt : Nat → Int32} {np : Nat} {nd : Nat} {pn : Nat → Int64} {dn : Nat → Int64} {kd : Nat → Int32} {hg : Nat → Int32} {ta : Nat → Int32} {vo : Nat → Int32} {sf : Nat → Int32} {st : Nat → Int32} {cu : Nat → Int32} {bi : Nat → Int32} {sa : Nat → Int32} {co : Nat → Int32} {sto : Int32} {res : Int32} {s0 : Int32} {r0 : Int32} {h0 : Int32} {n k0 : Nat}
theorem cR_e (h : tK f L n = 0) : cRun f L bs wt (k0 + 1) (np, nd, pn, dn, kd, hg, ta, vo, sf, st, cu, bi, sa, co, sto, res, s0, r0, h0) n = .inr (np, nd, pn, dn, kd, hg, ta, vo, sf, st, cu, bi, sa, co, sto, res, s0, r0, h0) := by rw [cRun, if_pos h]
theorem cR_f {e : Int32} (h : ¬ tK f L n = 0) (q : cL f L bs wt np nd pn dn kd hg ta vo sf st cu bi sa co sto res s0 r0 h0 n = .inl e) : cRun f L bs wt (k0 + 1) (np, nd, pn, dn, kd, hg, ta, vo, sf, st, cu, bi, sa, co, sto, res, s0, r0, h0) n = .inl e := by
  rw [cRun, if_neg h]
  rw [q]
theorem cR_s {n2 : Nat} {D2 : CD} (h : ¬ tK f L n = 0) (q : cL f L bs wt np nd pn dn kd hg ta vo sf st cu bi sa co sto res s0 r0 h0 n = .inr (n2, D2)) : cRun f L bs wt (k0 + 1) (np, nd, pn, dn, kd, hg, ta, vo, sf, st, cu, bi, sa, co, sto, res, s0, r0, h0) n = cRun f L bs wt k0 D2 n2 := by
  rw [cRun, if_neg h]
  rw [q]
theorem cL_p {n2 : Nat} {w : Int64} {k h s v : Int32} (hq0 : tK f L n = 1 ∧ tW f L n = bw (zl 2)) (e : sPe f L bs pn dn np nd (nI (tP f L n)) (tN f L n) = .inr (n2, w, k, h, s, v)) : cL f L bs wt np nd pn dn kd hg ta vo sf st cu bi sa co sto res s0 r0 h0 n = .inr (n2, (np + 1, nd, vp_updL pn np w, dn, upd kd np k, upd hg np h, upd ta np s, upd vo np v, sf, st, cu, bi, sa, co, sto, res, s0, r0, h0)) := by
  unfold cL
  rw [if_pos hq0, e]
theorem cL_pf {x : Int32} (hq0 : tK f L n = 1 ∧ tW f L n = bw (zl 2)) (e : sPe f L bs pn dn np nd (nI (tP f L n)) (tN f L n) = .inl x) : cL f L bs wt np nd pn dn kd hg ta vo sf st cu bi sa co sto res s0 r0 h0 n = .inl x := by
  unfold cL
  rw [if_pos hq0, e]
theorem cL_d {n2 : Nat} {w : Int64} {b s v : Int32} (hq0 : ¬ (tK f L n = 1 ∧ tW f L n = bw (zl 2))) (hq1 : tK f L n = 1 ∧ tW f L n = bw (zl 3)) (e : sDi f L bs pn dn np nd (nI (tP f L n)) (tN f L n) = .inr (n2, w, b, s, v)) : cL f L bs wt np nd pn dn kd hg ta vo sf st cu bi sa co sto res s0 r0 h0 n = .inr (n2, (np, nd + 1, pn, vp_updL dn nd w, kd, hg, ta, vo, sf, st, cu, upd bi nd b, upd sa nd s, upd co nd v, sto, res, s0, r0, h0)) := by
  unfold cL
  rw [if_neg hq0, if_pos hq1, e]
theorem cL_df {x : Int32} (hq0 : ¬ (tK f L n = 1 ∧ tW f L n = bw (zl 2))) (hq1 : tK f L n = 1 ∧ tW f L n = bw (zl 3)) (e : sDi f L bs pn dn np nd (nI (tP f L n)) (tN f L n) = .inl x) : cL f L bs wt np nd pn dn kd hg ta vo sf st cu bi sa co sto res s0 r0 h0 n = .inl x := by
  unfold cL
  rw [if_neg hq0, if_pos hq1, e]
theorem cL_c {n2 a b : Nat} (hq0 : ¬ (tK f L n = 1 ∧ tW f L n = bw (zl 2))) (hq1 : ¬ (tK f L n = 1 ∧ tW f L n = bw (zl 3))) (hq2 : tK f L n = 1 ∧ tW f L n = bw (zl 4)) (e : sCup f L bs pn np cu (tN f L n) = .inr (n2, a, b)) : cL f L bs wt np nd pn dn kd hg ta vo sf st cu bi sa co sto res s0 r0 h0 n = .inr (n2, (np, nd, pn, dn, kd, hg, ta, vo, sf, st, cupU cu a b, bi, sa, co, sto, res, s0, r0, h0)) := by
  unfold cL
  rw [if_neg hq0, if_neg hq1, if_pos hq2, e]
theorem cL_cf {x : Int32} (hq0 : ¬ (tK f L n = 1 ∧ tW f L n = bw (zl 2))) (hq1 : ¬ (tK f L n = 1 ∧ tW f L n = bw (zl 3))) (hq2 : tK f L n = 1 ∧ tW f L n = bw (zl 4)) (e : sCup f L bs pn np cu (tN f L n) = .inl x) : cL f L bs wt np nd pn dn kd hg ta vo sf st cu bi sa co sto res s0 r0 h0 n = .inl x := by
  unfold cL
  rw [if_neg hq0, if_neg hq1, if_pos hq2, e]
theorem cL_s {n2 a : Nat} {p q : Int32} (hq0 : ¬ (tK f L n = 1 ∧ tW f L n = bw (zl 2))) (hq1 : ¬ (tK f L n = 1 ∧ tW f L n = bw (zl 3))) (hq2 : ¬ (tK f L n = 1 ∧ tW f L n = bw (zl 4))) (hq3 : tK f L n = 1 ∧ tW f L n = bw (zl 5)) (e : sSick f L bs pn np sf (tN f L n) = .inr (n2, a, p, q)) : cL f L bs wt np nd pn dn kd hg ta vo sf st cu bi sa co sto res s0 r0 h0 n = .inr (n2, (np, nd, pn, dn, kd, hg, ta, vo, upd sf a p, upd st a q, cu, bi, sa, co, sto, res, s0, r0, h0)) := by
  unfold cL
  rw [if_neg hq0, if_neg hq1, if_neg hq2, if_pos hq3, e]
theorem cL_sf {x : Int32} (hq0 : ¬ (tK f L n = 1 ∧ tW f L n = bw (zl 2))) (hq1 : ¬ (tK f L n = 1 ∧ tW f L n = bw (zl 3))) (hq2 : ¬ (tK f L n = 1 ∧ tW f L n = bw (zl 4))) (hq3 : tK f L n = 1 ∧ tW f L n = bw (zl 5)) (e : sSick f L bs pn np sf (tN f L n) = .inl x) : cL f L bs wt np nd pn dn kd hg ta vo sf st cu bi sa co sto res s0 r0 h0 n = .inl x := by
  unfold cL
  rw [if_neg hq0, if_neg hq1, if_neg hq2, if_pos hq3, e]
theorem cL_o {n2 : Nat} {v : Int32} (hq0 : ¬ (tK f L n = 1 ∧ tW f L n = bw (zl 2))) (hq1 : ¬ (tK f L n = 1 ∧ tW f L n = bw (zl 3))) (hq2 : ¬ (tK f L n = 1 ∧ tW f L n = bw (zl 4))) (hq3 : ¬ (tK f L n = 1 ∧ tW f L n = bw (zl 5))) (hq4 : tK f L n = 1 ∧ tW f L n = bw (zl 6)) (e : sOne f L s0 999 (nI (tP f L n)) (tN f L n) = .inr (n2, v)) : cL f L bs wt np nd pn dn kd hg ta vo sf st cu bi sa co sto res s0 r0 h0 n = .inr (n2, (np, nd, pn, dn, kd, hg, ta, vo, sf, st, cu, bi, sa, co, v, res, 1, r0, h0)) := by
  unfold cL
  rw [if_neg hq0, if_neg hq1, if_neg hq2, if_neg hq3, if_pos hq4, e]
theorem cL_of {x : Int32} (hq0 : ¬ (tK f L n = 1 ∧ tW f L n = bw (zl 2))) (hq1 : ¬ (tK f L n = 1 ∧ tW f L n = bw (zl 3))) (hq2 : ¬ (tK f L n = 1 ∧ tW f L n = bw (zl 4))) (hq3 : ¬ (tK f L n = 1 ∧ tW f L n = bw (zl 5))) (hq4 : tK f L n = 1 ∧ tW f L n = bw (zl 6)) (e : sOne f L s0 999 (nI (tP f L n)) (tN f L n) = .inl x) : cL f L bs wt np nd pn dn kd hg ta vo sf st cu bi sa co sto res s0 r0 h0 n = .inl x := by
  unfold cL
  rw [if_neg hq0, if_neg hq1, if_neg hq2, if_neg hq3, if_pos hq4, e]
theorem cL_r {n2 : Nat} {v : Int32} (hq0 : ¬ (tK f L n = 1 ∧ tW f L n = bw (zl 2))) (hq1 : ¬ (tK f L n = 1 ∧ tW f L n = bw (zl 3))) (hq2 : ¬ (tK f L n = 1 ∧ tW f L n = bw (zl 4))) (hq3 : ¬ (tK f L n = 1 ∧ tW f L n = bw (zl 5))) (hq4 : ¬ (tK f L n = 1 ∧ tW f L n = bw (zl 6))) (hq5 : tK f L n = 1 ∧ tW f L n = bw (zl 7)) (e : sOne f L r0 7 (nI (tP f L n)) (tN f L n) = .inr (n2, v)) : cL f L bs wt np nd pn dn kd hg ta vo sf st cu bi sa co sto res s0 r0 h0 n = .inr (n2, (np, nd, pn, dn, kd, hg, ta, vo, sf, st, cu, bi, sa, co, sto, v, s0, 1, h0)) := by
  unfold cL
  rw [if_neg hq0, if_neg hq1, if_neg hq2, if_neg hq3, if_neg hq4, if_pos hq5, e]
theorem cL_rf {x : Int32} (hq0 : ¬ (tK f L n = 1 ∧ tW f L n = bw (zl 2))) (hq1 : ¬ (tK f L n = 1 ∧ tW f L n = bw (zl 3))) (hq2 : ¬ (tK f L n = 1 ∧ tW f L n = bw (zl 4))) (hq3 : ¬ (tK f L n = 1 ∧ tW f L n = bw (zl 5))) (hq4 : ¬ (tK f L n = 1 ∧ tW f L n = bw (zl 6))) (hq5 : tK f L n = 1 ∧ tW f L n = bw (zl 7)) (e : sOne f L r0 7 (nI (tP f L n)) (tN f L n) = .inl x) : cL f L bs wt np nd pn dn kd hg ta vo sf st cu bi sa co sto res s0 r0 h0 n = .inl x := by
  unfold cL
  rw [if_neg hq0, if_neg hq1, if_neg hq2, if_neg hq3, if_neg hq4, if_pos hq5, e]
theorem cL_h {n2 : Nat} (hq0 : ¬ (tK f L n = 1 ∧ tW f L n = bw (zl 2))) (hq1 : ¬ (tK f L n = 1 ∧ tW f L n = bw (zl 3))) (hq2 : ¬ (tK f L n = 1 ∧ tW f L n = bw (zl 4))) (hq3 : ¬ (tK f L n = 1 ∧ tW f L n = bw (zl 5))) (hq4 : ¬ (tK f L n = 1 ∧ tW f L n = bw (zl 6))) (hq5 : ¬ (tK f L n = 1 ∧ tW f L n = bw (zl 7))) (hq6 : tK f L n = 1 ∧ tW f L n = bw (zl 8)) (e : sSha f L h0 (nI (tP f L n)) wt (tN f L n) = .inr n2) : cL f L bs wt np nd pn dn kd hg ta vo sf st cu bi sa co sto res s0 r0 h0 n = .inr (n2, (np, nd, pn, dn, kd, hg, ta, vo, sf, st, cu, bi, sa, co, sto, res, s0, r0, 1)) := by
  unfold cL
  rw [if_neg hq0, if_neg hq1, if_neg hq2, if_neg hq3, if_neg hq4, if_neg hq5, if_pos hq6, e]
theorem cL_hf {x : Int32} (hq0 : ¬ (tK f L n = 1 ∧ tW f L n = bw (zl 2))) (hq1 : ¬ (tK f L n = 1 ∧ tW f L n = bw (zl 3))) (hq2 : ¬ (tK f L n = 1 ∧ tW f L n = bw (zl 4))) (hq3 : ¬ (tK f L n = 1 ∧ tW f L n = bw (zl 5))) (hq4 : ¬ (tK f L n = 1 ∧ tW f L n = bw (zl 6))) (hq5 : ¬ (tK f L n = 1 ∧ tW f L n = bw (zl 7))) (hq6 : tK f L n = 1 ∧ tW f L n = bw (zl 8)) (e : sSha f L h0 (nI (tP f L n)) wt (tN f L n) = .inl x) : cL f L bs wt np nd pn dn kd hg ta vo sf st cu bi sa co sto res s0 r0 h0 n = .inl x := by
  unfold cL
  rw [if_neg hq0, if_neg hq1, if_neg hq2, if_neg hq3, if_neg hq4, if_neg hq5, if_pos hq6, e]
theorem cL_z (hq0 : ¬ (tK f L n = 1 ∧ tW f L n = bw (zl 2))) (hq1 : ¬ (tK f L n = 1 ∧ tW f L n = bw (zl 3))) (hq2 : ¬ (tK f L n = 1 ∧ tW f L n = bw (zl 4))) (hq3 : ¬ (tK f L n = 1 ∧ tW f L n = bw (zl 5))) (hq4 : ¬ (tK f L n = 1 ∧ tW f L n = bw (zl 6))) (hq5 : ¬ (tK f L n = 1 ∧ tW f L n = bw (zl 7))) (hq6 : ¬ (tK f L n = 1 ∧ tW f L n = bw (zl 8))) : cL f L bs wt np nd pn dn kd hg ta vo sf st cu bi sa co sto res s0 r0 h0 n = .inl (fq 1 (tP f L n)) := by
  unfold cL
  rw [if_neg hq0, if_neg hq1, if_neg hq2, if_neg hq3, if_neg hq4, if_neg hq5, if_neg hq6]
end CRN
