/-! a contract for every number of a symbol, put together; own -/
def dAV : DecidableEq AV := inferInstance
def dLA : DecidableEq (List AV) := inferInstance
def dNL : DecidableEq (Nat × List AV) := @instDecidableEqProd _ _ inferInstance dLA
def dNN : DecidableEq (Nat × Nat × List Nat) := inferInstance
def dS3 : DecidableEq ((Nat × List AV) ⊕ (Nat × Nat × List Nat)) := @instDecidableEqSum _ _ dNL dNN
def dS2 : DecidableEq (Nat ⊕ ((Nat × List AV) ⊕ (Nat × Nat × List Nat))) := @instDecidableEqSum _ _ inferInstance dS3
def dS1 : DecidableEq ((Nat × Nat × Nat) ⊕ (Nat ⊕ ((Nat × List AV) ⊕ (Nat × Nat × List Nat)))) := @instDecidableEqSum _ _ inferInstance dS2
def dAC : DecidableEq AC := @instDecidableEqSum _ _ dNL dS1
def dLC : DecidableEq (List AC) := @instDecidableEqList _ dAC
def eqW (a b : AW) : Bool := decide (a.1 = b.1) && decide (a.2.1 = b.2.1) && decide (a.2.2.1 = b.2.2.1) && @decide (a.2.2.2 = b.2.2.2) (dLC _ _)
theorem eqW_ok {a b : AW} (h : eqW a b = true) : a = b := by
  simp only [eqW, Bool.and_eq_true, decide_eq_true_eq] at h
  obtain ⟨⟨⟨h1, h2⟩, h3⟩, h4⟩ := h
  exact Prod.ext h1 (Prod.ext h2 (Prod.ext h3 h4))
def eqL : List (AW × Option AV) → List (AW × Option AV) → Bool
  | [], [] => true
  | a :: r, b :: s => eqW a.1 b.1 && decide (a.2 = b.2) && eqL r s
  | _, _ => false
theorem eqL_ok : ∀ {a b : List (AW × Option AV)}, eqL a b = true → a = b
  | [], [], _ => rfl
  | a :: r, b :: s, h => by
    simp only [eqL, Bool.and_eq_true, decide_eq_true_eq] at h
    obtain ⟨⟨h1, h2⟩, h3⟩ := h
    rw [eqL_ok h3, Prod.ext (eqW_ok h1) h2]
  | [], _ :: _, h => by cases h
  | _ :: _, [], h => by cases h
def eqC (a b : Con) : Bool := decide (a.1 = b.1) && decide (a.2.1 = b.2.1) && decide (a.2.2.1 = b.2.2.1) && decide (a.2.2.2.1 = b.2.2.2.1) && eqW a.2.2.2.2.1 b.2.2.2.2.1 && eqL a.2.2.2.2.2 b.2.2.2.2.2
theorem eqC_ok {a b : Con} (h : eqC a b = true) : a = b := by
  simp only [eqC, Bool.and_eq_true, decide_eq_true_eq] at h
  obtain ⟨⟨⟨⟨⟨h1, h2⟩, h3⟩, h4⟩, h5⟩, h6⟩ := h
  exact Prod.ext h1 (Prod.ext h2 (Prod.ext h3 (Prod.ext h4 (Prod.ext (eqW_ok h5) (eqL_ok h6)))))
def setC (c : Con) (k : Nat) (v : Int) : Con := (c.1, c.2.1, c.2.2.1, c.2.2.2.1, (c.2.2.2.2.1.1.set k (v, v), c.2.2.2.2.1.2), c.2.2.2.2.2)
theorem zB_set {bs : BS} {σ : List Int} {k : Nat} {t : Int} (h : zB bs σ) (ht : σ[k]? = some t) : zB (bs.set k (t, t)) σ := by
  have h1 := P2.set (k := k) (a := (t, t)) (b := t) h ⟨Int.le_refl _, Int.le_refl _⟩
  have h2 : σ.set k t = σ := by
    apply List.ext_getElem?
    intro j
    by_cases e : j = k
    · subst e
      rw [List.getElem?_set_self', ht]
      rfl
    · rw [List.getElem?_set_ne (fun z => e z.symm)]
  rw [h2] at h1
  exact h1
theorem xp_set {c : Con} {k : Nat} {v : Int} {t : Nat} : xp t (setC c k v).2.2.2.2.1 = xp t c.2.2.2.2.1 := by
  unfold xp xpF
  have e : (setC c k v).2.2.2.2.1.1.length = c.2.2.2.2.1.1.length := List.length_set ..
  rw [e]
  rfl
theorem con_union {MT : Nat → MI} {l : Launch} {c : Con} {L : List Con} (k : Nat) (lo : Int) (n : Nat) (hk : c.2.2.2.2.1.1[k]? = some (lo, lo + n - 1)) (h : ∀ q ∈ L, ConOK MT l q) (hL : (List.range n).all (fun i => L.any (fun q => eqC q (setC c k (lo + i)))) = true) : ConOK MT l c := by
  intro D cy ω ad σ φ av ws sz hpre
  obtain ⟨⟨hB, hF, hC, hW⟩, hA, hω, hx⟩ := hpre
  obtain ⟨t, t1, t2⟩ := P2.get hB hk
  have hi : (t - lo).toNat < n := by
    have := t2.1
    have := t2.2
    dsimp only at *
    omega
  have h1 := List.all_eq_true.mp hL (t - lo).toNat (List.mem_range.mpr hi)
  have e1 : lo + ((t - lo).toNat : Int) = t := by
    have := t2.1
    dsimp only at *
    omega
  rw [e1] at h1
  obtain ⟨q, q1, q2⟩ := List.any_eq_true.mp h1
  have h2 := h q q1
  rw [eqC_ok q2] at h2
  exact h2 D cy ω ad σ φ av ws sz ⟨⟨zB_set hB t1, hF, hC, hW⟩, hA, hω, fun t' ht hn => by rw [xp_set]; exact hx t' ht hn⟩
