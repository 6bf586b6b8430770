/-! a contract for every number of a symbol, put together; own -/
def setC (c : Con) (k : Nat) (v : Int) : Con := (c.1, c.2.1, c.2.2.1, c.2.2.2.1, (c.2.2.2.2.1.1.set k (v, v), c.2.2.2.2.1.2), c.2.2.2.2.2)
theorem zB_set {bs : BS} {σ : List Int} {k : Nat} {t : Int} (h : zB bs σ) (ht : σ[k]? = some t) : zB (bs.set k (t, t)) σ := by
  have h1 := P2.set (k := k) (a := (t, t)) (b := t) h ⟨Int.le_refl _, Int.le_refl _⟩
  have h2 : σ.set k t = σ := by
    apply List.ext_getElem?
    intro j
    by_cases e : j = k
    · subst e
      rw [List.getElem?_set_self', ht]
      rfl
    · rw [List.getElem?_set_ne (fun z => e z.symm)]
  rw [h2] at h1
  exact h1
theorem con_union {MT : Nat → MI} {l : Launch} {c : Con} {L : List Con} (k : Nat) (lo : Int) (n : Nat) (hk : c.2.2.2.2.1.1[k]? = some (lo, lo + n - 1)) (h : ∀ q ∈ L, ConOK MT l q) (hL : (List.range n).all (fun i => L.contains (setC c k (lo + i))) = true) : ConOK MT l c := by
  intro D cy ω ad σ φ av ws sz hpre
  obtain ⟨⟨hB, hF, hC, hW⟩, hA, hω, hx⟩ := hpre
  obtain ⟨t, t1, t2⟩ := P2.get hB hk
  have hi : (t - lo).toNat < n := by
    have := t2.1
    have := t2.2
    dsimp only at *
    omega
  have h1 := List.all_eq_true.mp hL (t - lo).toNat (List.mem_range.mpr hi)
  have e1 : lo + ((t - lo).toNat : Int) = t := by
    have := t2.1
    dsimp only at *
    omega
  rw [e1] at h1
  have h2 := h (setC c k t) (by simpa using h1)
  exact h2 D cy ω ad σ φ av ws sz ⟨⟨zB_set hB t1, hF, hC, hW⟩, hA, hω, fun hn => by cases hn⟩
