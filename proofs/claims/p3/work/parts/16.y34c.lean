/-! what an exact contract says of one field and the result, said by a symbol; own -/
theorem nI_ofI {x : Int32} (h0 : (0 : Int) ≤ x.toInt) (h1 : x.toInt < 2147483648) : x = nI x.toInt.toNat := by
  apply Int32.toInt_inj.mp
  rw [nI_toInt (by omega)]
  omega
/-- a field that counts -/
theorem fld_n {bs : BS} {σ : List Int} {k : Nat} {hi : Int} {x : Int32} (hB : zB bs σ) (hk : bs[k]? = some (0, hi)) (hx : vl σ (k, 0) x.toInt) (hh : hi < 2147483648) : ∃ n : Nat, x = nI n ∧ (n : Int) ≤ hi ∧ σ[k]? = some (n : Int) := by
  obtain ⟨t, h1, h2⟩ := hx
  have h3 := zB_at hB hk h1
  have h4 : x.toInt = t := by
    have h2' : x.toInt = t + 0 := h2
    omega
  have h5 : (0 : Int) ≤ t ∧ t ≤ hi := h3
  refine ⟨x.toInt.toNat, nI_ofI (by omega) (by omega), by omega, ?_⟩
  rw [h4] 
  have e : ((t.toNat : Nat) : Int) = t := by omega
  rw [e]
  exact h1
theorem P_set {D : va_G} {ws : va_W} {H : Heap} {k : Nat} {q : Nat × va_E} (hP : va_P D vwCl ws H) (hq : va_at D vwCl q H) : va_P D vwCl (ws.set k q) H := by
  intro i z hz
  rw [List.getElem?_set] at hz
  split at hz
  · split at hz
    · cases hz
      exact hq
    · cases hz
  · exact hP i z hz
def rk0 (r : Option AV) (d : Int) : Bool := match r with
  | some (.inl (k, e)) => Nat.beq k 0 && decide (e = d)
  | _ => false
theorem rk0_v {r : Option AV} {d : Int} {v : Option Value} {σ : List Int} {ω : List Value} {ad : Nat → Nat} (h : rk0 r d = true) (h0 : σ[0]? = some 0) (hr : rOK σ ω ad r v) : ∃ x : Int32, v = some (.int x) ∧ x.toInt = d := by
  unfold rk0 at h
  split at h
  · rename_i k e
    obtain ⟨a, b⟩ := Bool.and_eq_true_iff.mp h
    have a' : k = 0 := Nat.eq_of_beq_eq_true a
    have b' : e = d := of_decide_eq_true b
    subst a' b'
    obtain ⟨x, rfl, h1, _⟩ := hr
    obtain ⟨y, rfl, t, h2, h3⟩ := h1
    have h2' : σ[0]? = some t := h2
    rw [h0] at h2'
    cases h2'
    refine ⟨y, rfl, ?_⟩
    have h3' : y.toInt = 0 + e := h3
    omega
  · cases h
def stF (j g : Nat) (o : Option AC) : AC := match o with
  | some (.inl (ci, fs)) => .inl (ci, fs.set j (vi g 0))
  | some c => c
  | none => cj 0
def altG (m j g tc : Nat) (tcell : AC) (alt : AW × Option AV) : AW × Option AV := if rk0 alt.2 0 then ((alt.1.1, alt.1.2.1, alt.1.2.2.1, (alt.1.2.2.2.set tc tcell).set m (stF j g alt.1.2.2.2[m]?)), alt.2) else ((alt.1.1.set g (0, 0), alt.1.2.1, alt.1.2.2.1, alt.1.2.2.2.set tc tcell), alt.2)
def conG (m j g tc : Nat) (tcell : AC) (c : Con) : Con := (c.1, c.2.1, c.2.2.1, c.2.2.2.1, c.2.2.2.2.1, c.2.2.2.2.2.map (altG m j g tc tcell))
def isCj (m ci j : Nat) (cl : List AC) : Bool := match cl[m]? with
  | some (.inl (c, fs)) => Nat.beq c ci && Nat.blt j fs.length
  | _ => false
def okG (m ci j : Nat) (alt : AW × Option AV) : Bool := (rk0 alt.2 0 || rk0 alt.2 1) && isCj m ci j alt.1.2.2.2
theorem con_G {MT : Nat → MI} {l : Launch} {cR : Con} {y : MethodName} {cc : ByteArray} {nL : Nat} (m ci j g tc : Nat) (tcell : AC) {rw_ : vw_C} (hcl : vwCl[ci]? = some rw_) (hj : j < rw_.2.2) (hMT : MT cR.1 = (y, cc, nL, some .boolean)) (h0 : cR.2.2.2.2.1.1[0]? = some (0, 0)) (hk : cR.2.2.2.2.2.all (okG m ci j) = true) (hmt : m ≠ tc) (hR : ConOK MT l cR)
    (HX : ∀ (D : va_G) (cy : Nat → ClassId) (ω : List Value) (ad : Nat → Nat) (σ : List Int) (φ : List (Nat → Int32)) (av : List Value) (ws : va_W), ConPre cy ω ad cR σ φ av ws → ∃ (as : List MV) (cs : EW) (Q : EW → Option MV → Prop), as.map (ex_v ad) = av ∧ ws.Perm (ex_w cy ad cs) ∧ ex_M l y cc nL (some .boolean) cR.2.1.1 cR.2.1.2 as cs Q ∧ ∀ (v : Option Value) (h : Heap), ex_Q D cy ad [] (cs.map Prod.fst) Q v h → (∃ e : va_E, va_at D vwCl (ad tc, e) h ∧ gc cy σ φ ω ad tcell e) ∧ ((v = some (.int 1) ∧ σ[g]? = some 0) ∨ (v = some (.int 0) ∧ ∃ (x : Int32) (vs : List Value), va_at D vwCl (ad m, .inr (ci, vs)) h ∧ vp_V vs j = .int x ∧ σ[g]? = some x.toInt))) : ConOK MT l (conG m j g tc tcell cR) := by
  refine con_join (cR := cR) (cG := conG m j g tc tcell cR) hMT rfl rfl hR (fun D cy ω ad σ φ av ws hpre => ?_)
  have hpre' : ConPre cy ω ad cR σ φ av ws := hpre
  obtain ⟨as, cs, Q, a1, a2, a3, a4⟩ := HX D cy ω ad σ φ av ws hpre'
  refine ⟨σ, as, cs, Q, hpre', a1, a2, a3, fun v h hpost hex => ?_⟩
  obtain ⟨⟨e, he, hge⟩, hb⟩ := a4 v h hex
  obtain ⟨alt, ha, τ, ψ, ws', ⟨zB', zF', zC', gw'⟩, hr, hP⟩ := hpost
  have hck := List.all_eq_true.mp hk alt ha
  obtain ⟨k1, k2⟩ := Bool.and_eq_true_iff.mp hck
  have hs0 : σ[0]? = some (0 : Int) := by
    obtain ⟨z, z1, z2⟩ := P2.get hpre'.1.1 h0
    have e0 : z = 0 := by
      have z2' : (0 : Int) ≤ z ∧ z ≤ 0 := z2
      omega
    rw [e0] at z1
    exact z1
  have hs0' : (σ ++ τ)[0]? = some (0 : Int) := gapp hs0
  have gw1 := gw.set (k0 := tc) gw' (hge.app (τ := τ) (ψ := ψ))
  have hP1 := P_set (k := tc) hP he
  rcases hb with ⟨rfl, hg⟩ | ⟨rfl, x, vs, hv, hvx, hg⟩
  · have hn : rk0 alt.2 0 = false := by
      cases q : rk0 alt.2 0 with
      | false => rfl
      | true =>
        obtain ⟨z, z1, z2⟩ := rk0_v q hs0' hr
        cases z1
        exact absurd z2 (by decide)
    refine ⟨altG m j g tc tcell alt, List.mem_map.mpr ⟨alt, ha, rfl⟩, τ, ψ, _, ?_, ?_, hP1⟩
    · unfold altG
      rw [hn, if_neg Bool.false_ne_true]
      exact ⟨P2_setl zB' (gapp hg) ⟨Int.le_refl 0, Int.le_refl 0⟩, zF', zC', gw1⟩
    · unfold altG
      rw [hn, if_neg Bool.false_ne_true]
      exact hr
  · have hn : rk0 alt.2 0 = true := by
      rcases Bool.or_eq_true_iff.mp k1 with q | q
      · exact q
      · obtain ⟨z, z1, z2⟩ := rk0_v q hs0' hr
        cases z1
        exact absurd z2 (by decide)
    unfold isCj at k2
    split at k2
    · rename_i c fs hc
      obtain ⟨b1, b2⟩ := Bool.and_eq_true_iff.mp k2
      have b1' : c = ci := Nat.eq_of_beq_eq_true b1
      subst b1'
      obtain ⟨em, hm, vs', hvs, hgf⟩ := gw'.2 m _ hc
      subst hvs
      have hat := hP m _ hm
      have hf := at_f hat hv hcl hj
      have hgm : gc cy (σ ++ τ) (φ ++ ψ) ω ad (.inl (c, fs.set j (vi g 0))) (.inr (c, vs')) := by
        refine ⟨vs', rfl, ?_⟩
        have hlt : j < vs'.length := by
          rw [← P2.len hgf]
          exact Nat.le_of_ble_eq_true b2
        have hvj : vs'[j]? = some (.int x) := by
          have e1 : vp_V vs' j = .int x := hf.trans hvx
          unfold vp_V at e1
          rw [List.getD_eq_getElem?_getD, List.getElem?_eq_getElem hlt] at e1
          rw [List.getElem?_eq_getElem hlt]
          exact congrArg some e1
        exact P2_setl hgf hvj ⟨x, rfl, x.toInt, gapp hg, (Int.add_zero _).symm⟩
      have hm1 : (ws'.set tc (ad tc, e))[m]? = some (ad m, .inr (c, vs')) := by
        rw [List.getElem?_set_ne (fun q => hmt q.symm)]
        exact hm
      have gw2 := gw.set (k0 := m) gw1 hgm
      refine ⟨altG m j g tc tcell alt, List.mem_map.mpr ⟨alt, ha, rfl⟩, τ, ψ, _, ?_, ?_, P_set (k := m) hP1 hat⟩
      · unfold altG
        rw [hn, if_pos rfl, hc]
        exact ⟨zB', zF', zC', gw2⟩
      · unfold altG
        rw [hn, if_pos rfl]
        exact hr
    · cases k2
