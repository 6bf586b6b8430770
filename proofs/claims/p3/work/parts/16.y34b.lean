/-! a contract over the reference's signs as one place and what stands there, made one over them as a row; own -/
theorem full_i (x : Int32) : (-2147483648 : Int) ≤ x.toInt ∧ x.toInt ≤ 2147483647 := by
  have h1 := x.toInt_lt
  have h2 := x.le_toInt
  exact ⟨by simpa using h2, by omega⟩
def bsR (B : BS) (p s : Nat) (bs : BS) : BS := (bs.set p ((B[p]?).getD (0, 0))).set s ((B[s]?).getD (0, 0))
def altW (B : BS) (j p s : Nat) (alt : AW × Option AV) : AW × Option AV := ((bsR B p s alt.1.1, alt.1.2.1 ++ [((-2147483648), 2147483647)], alt.1.2.2.1, alt.1.2.2.2.set j (ca 1 1000 alt.1.2.1.length)), alt.2)
def conW (j K p s : Nat) (c : Con) : Con := (c.1, c.2.1, c.2.2.1, c.2.2.2.1, (c.2.2.2.2.1.1, c.2.2.2.2.1.2.1, c.2.2.2.2.1.2.2.1, c.2.2.2.2.1.2.2.2.set j (ca 1 1000 K)), c.2.2.2.2.2.map (altW c.2.2.2.2.1.1 j p s))
def isT (o : Option AC) : Bool := match o with
  | some (.inr (.inr (.inr (.inl (n, _))))) => Nat.beq n 1000
  | _ => false
def offW (j p s : Nat) (cl : List AC) : Bool := (List.range cl.length).all (fun k => Nat.beq k j || (match cl[k]? with
  | some c => acN (nps p s) c
  | none => true))
def ckW (j p s : Nat) (alt : AW × Option AV) : Bool := isT alt.1.2.2.2[j]? && offW j p s alt.1.2.2.2 && alt.1.2.2.1.all (fun q => nps p s q.1 && nps p s q.2.1) && (match alt.2 with
  | some a => avN (nps p s) a
  | none => true)
theorem offW_get {j p s : Nat} {cl : List AC} (h : offW j p s cl = true) {k : Nat} {c : AC} (hk : cl[k]? = some c) (hj : k ≠ j) : acN (nps p s) c = true := by
  have h1 := List.all_eq_true.mp h k (List.mem_range.mpr (List.getElem?_eq_some_iff.mp hk).1)
  rw [hk] at h1
  have h2 : Nat.beq k j = false := by
    cases q : Nat.beq k j with
    | false => rfl
    | true => exact absurd (Nat.eq_of_beq_eq_true q) hj
  rw [h2] at h1
  exact h1
theorem bsR_B {B bs : BS} {p s : Nat} {σ σ' τ : List Int} (hl : σ.length = σ'.length) (hN : ∀ k, nps p s k = true → σ'[k]? = σ[k]?) (hB : zB B σ) (hp : p < σ.length) (hs : s < σ.length) (h : zB bs (σ' ++ τ)) : zB (bsR B p s bs) (σ ++ τ) := by
  have h1 := P2.len h
  have h2 := P2.len hB
  unfold bsR
  refine zB_of (by rw [List.length_set, List.length_set, h1, List.length_append, List.length_append, hl]) (fun k b x hb hx => ?_)
  by_cases e1 : k = s
  · subst e1
    have hk : k < bs.length := by rw [h1, List.length_append, ← hl]; omega
    rw [List.getElem?_set_self (by rw [List.length_set]; exact hk)] at hb
    rw [List.getElem?_append_left hs] at hx
    cases hb
    obtain ⟨b0, hb0⟩ : ∃ b0, B[k]? = some b0 := ⟨_, List.getElem?_eq_getElem (by omega)⟩
    rw [hb0]
    exact zB_at hB hb0 hx
  · rw [List.getElem?_set_ne (fun e => e1 e.symm)] at hb
    by_cases e2 : k = p
    · subst e2
      have hk : k < bs.length := by rw [h1, List.length_append, ← hl]; omega
      rw [List.getElem?_set_self hk] at hb
      rw [List.getElem?_append_left hp] at hx
      cases hb
      obtain ⟨b0, hb0⟩ : ∃ b0, B[k]? = some b0 := ⟨_, List.getElem?_eq_getElem (by omega)⟩
      rw [hb0]
      exact zB_at hB hb0 hx
    · rw [List.getElem?_set_ne (fun e => e2 e.symm)] at hb
      have h3 : (σ' ++ τ)[k]? = some x := by
        rw [app_N hl.symm hN k (nps_ok e2 e1)]
        exact hx
      exact zB_at h hb h3
theorem ob_1000 {cy : Nat → ClassId} {e : va_E} {g : Nat → Value} (h : OB cy 1000 e g) : ∃ f : Nat → Int32, e = .inl (cy 1, 1000, .inl f) := by
  unfold OB at h
  rw [if_neg (by decide), if_pos rfl] at h
  obtain ⟨f, p, h1, _⟩ := h
  exact ⟨f, h1⟩
theorem gc_1000 {cy : Nat → ClassId} {σ : List Int} {φ : List (Nat → Int32)} {ω : List Value} {ad : Nat → Nat} {p s : Nat} {f : Nat → Int32} (hp : σ[p]? = some 0) (hs : σ[s]? = some (f 0).toInt) : gc cy σ φ ω ad (crc 1000 [vi p 0, vi s 0]) (.inl (cy 1, 1000, .inl f)) := by
  refine ⟨fun i => if i = 0 then .int (nI 0) else .int (f 0), ?_, rfl, fun j av hj => ?_⟩
  · unfold OB
    rw [if_neg (by decide), if_pos rfl]
    exact ⟨f, 0, rfl, by decide, rfl, rfl⟩
  · match j, hj with
    | 0, hj =>
      cases hj
      exact ⟨nI 0, rfl, 0, hp, rfl⟩
    | 1, hj =>
      cases hj
      exact ⟨f 0, rfl, (f 0).toInt, hs, (Int.add_zero _).symm⟩
    | j + 2, hj => cases hj
theorem isT_ob {cy : Nat → ClassId} {σ : List Int} {φ : List (Nat → Int32)} {ω : List Value} {ad : Nat → Nat} {cl : List AC} {ws : va_W} {j : Nat} (h : isT cl[j]? = true) (hW : gw cy σ φ ω ad cl ws) : ∃ f : Nat → Int32, ws[j]? = some (ad j, .inl (cy 1, 1000, .inl f)) := by
  unfold isT at h
  split at h
  · rename_i n fs q
    have e : n = 1000 := Nat.eq_of_beq_eq_true h
    subst e
    obtain ⟨en, h1, g, h2, _⟩ := hW.2 j _ q
    obtain ⟨f, rfl⟩ := ob_1000 h2
    exact ⟨f, h1⟩
  · cases h
theorem con_W {MT : Nat → MI} {l : Launch} {cR : Con} (j K p s : Nat) (hn : p ≠ s) (hj : cR.2.2.2.2.1.2.2.2[j]? = some (crc 1000 [vi p 0, vi s 0])) (bp : cR.2.2.2.2.1.1[p]? = some (0, 999)) (bS : cR.2.2.2.2.1.1[s]? = some ((-2147483648), 2147483647))
    (k1 : offW j p s cR.2.2.2.2.1.2.2.2 = true) (k2 : cR.2.2.2.2.1.2.2.1.all (fun q => nps p s q.1 && nps p s q.2.1) = true) (k3 : cR.2.2.2.1.all (avN (nps p s)) = true) (k4 : [1, 2].all (fun t => !(xal cR.1 t) || (xp t cR.2.2.2.2.1).isNone) = true) (k5 : cR.2.2.2.2.2.all (ckW j p s) = true) (hR : ConOK MT l cR) : ConOK MT l (conW j K p s cR) := by
  refine con_pre (cR := cR) (cG := conW j K p s cR) rfl rfl hR (fun D cy ω ad σ φ av ws hpre => ?_)
  obtain ⟨⟨hB, hF, hC, hW⟩, hAv, hω, hxp⟩ := hpre
  have hjl : j < cR.2.2.2.2.1.2.2.2.length := (List.getElem?_eq_some_iff.mp hj).1
  have hl := P2.len hB
  have hpl : p < σ.length := by
    rw [← hl]
    exact (List.getElem?_eq_some_iff.mp bp).1
  have hsl : s < σ.length := by
    rw [← hl]
    exact (List.getElem?_eq_some_iff.mp bS).1
  obtain ⟨ej, wj, f, hf, rfl⟩ := hW.2 j (ca 1 1000 K) (List.getElem?_set_self hjl)
  have hN : ∀ k, nps p s k = true → (st2v σ p s 0 (f 0).toInt)[k]? = σ[k]? := st2v_N
  have hN' : ∀ k, nps p s k = true → σ[k]? = (st2v σ p s 0 (f 0).toInt)[k]? := fun k hk => (hN k hk).symm
  refine ⟨st2v σ p s 0 (f 0).toInt, ⟨⟨st2v_B hn hB (fun b hb => ?_) (fun b hb => ?_), hF, zC_N hN' k2 hC, ?_, fun k c hk => ?_⟩, P2_all (p := avN (nps p s)) (R := gx σ ω ad) (S := gx (st2v σ p s 0 (f 0).toInt) ω ad) (fun a b q r => gx_N hN' q r) k3 hAv, hω, fun t ht hx => ?_⟩, fun v h hpost => ?_⟩
  · have hb' : cR.2.2.2.2.1.1[p]? = some b := hb
    rw [bp] at hb'
    cases hb'
    decide
  · have hb' : cR.2.2.2.2.1.1[s]? = some b := hb
    rw [bS] at hb'
    cases hb'
    exact full_i (f 0)
  · have h1 := hW.1
    have h2 : (cR.2.2.2.2.1.2.2.2.set j (ca 1 1000 K)).length = ws.length := h1
    rw [List.length_set] at h2
    exact h2
  · by_cases e : k = j
    · subst e
      rw [hj] at hk
      cases hk
      exact ⟨_, wj, gc_1000 (st2v_p hpl hn) (st2v_s hsl)⟩
    · obtain ⟨en, h1, h2⟩ := hW.2 k c (by
        show (cR.2.2.2.2.1.2.2.2.set j (ca 1 1000 K))[k]? = some c
        rw [List.getElem?_set_ne (fun z => e z.symm)]
        exact hk)
      exact ⟨en, h1, gc_N hN' (offW_get k1 hk e) h2⟩
  · have h1 := List.all_eq_true.mp k4 t ht
    rw [hx] at h1
    have h2 : xp t cR.2.2.2.2.1 = none := Option.isNone_iff_eq_none.mp (by simpa using h1)
    rw [h2]
    trivial
  · obtain ⟨alt, ha, τ, ψ, ws', ⟨zB', zF', zC', gw'⟩, hr, hP⟩ := hpost
    have hck := List.all_eq_true.mp k5 alt ha
    simp only [ckW, Bool.and_eq_true] at hck
    obtain ⟨⟨⟨c1, c2⟩, c3⟩, c4⟩ := hck
    obtain ⟨f', wj'⟩ := isT_ob c1 gw'
    have hA := app_N (τ := τ) st2v_len hN
    have hlf := P2.len zF'
    refine ⟨altW cR.2.2.2.2.1.1 j p s alt, List.mem_map.mpr ⟨alt, ha, rfl⟩, τ, ψ ++ [f'], ws', ⟨bsR_B st2v_len.symm hN hB hpl hsl zB', ?_, zC_N hA c3 zC', ?_, fun k c hk => ?_⟩, ?_, hP⟩
    · rw [← List.append_assoc]
      exact P2.app zF' ⟨fun i => full_i (f' i), trivial⟩
    · show (alt.1.2.2.2.set j (ca 1 1000 alt.1.2.1.length)).length = ws'.length
      rw [List.length_set]
      exact gw'.1
    · have hk' : (alt.1.2.2.2.set j (ca 1 1000 alt.1.2.1.length))[k]? = some c := hk
      by_cases e : k = j
      · subst e
        have hlt : k < alt.1.2.2.2.length := by
          have := (List.getElem?_eq_some_iff.mp hk').1
          rw [List.length_set] at this
          exact this
        rw [List.getElem?_set_self hlt] at hk'
        cases hk'
        refine ⟨_, wj', f', ?_, rfl⟩
        rw [← List.append_assoc, hlf]
        exact gend
      · rw [List.getElem?_set_ne (fun z => e z.symm)] at hk'
        obtain ⟨en, h1, h2⟩ := gw'.2 k c hk'
        refine ⟨en, h1, ?_⟩
        have h3 := gc_N hA (offW_get c2 hk' e) h2
        have h4 := h3.app (τ := []) (ψ := [f'])
        rw [List.append_nil, List.append_assoc] at h4
        exact h4
    · have hr' : rOK ((st2v σ p s 0 (f 0).toInt) ++ τ) ω ad alt.2 v := hr
      show rOK (σ ++ τ) ω ad alt.2 v
      cases q : alt.2 with
      | none =>
        rw [q] at hr'
        exact hr'
      | some a =>
        rw [q] at hr' c4
        obtain ⟨x, h1, h2⟩ := hr'
        exact ⟨x, h1, gx_N hA c4 h2⟩
