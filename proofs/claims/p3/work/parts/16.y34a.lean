/-! two contracts of one method as one; a contract over a world told otherwise; own -/
theorem met_w {l : Launch} {y : MethodName} {ws : List Cond} {rm : Room} {P P' : Array Value → State → Prop} {Q Q' : Array Value → State → Outcome → State → Prop} {mc ms : Nat} {free : Addr → Prop} (hP : ∀ a s, P a s → P' a s) (hQ : ∀ a s o t, P a s → Q' a s o t → Q a s o t) (h : Met l y ws rm P' Q' mc ms free) : Met l y ws rm P Q mc ms free := by
  intro p e ha hf hc s m args below hfr hap hp hk
  obtain ⟨n, o, a1, b1, c1, d1⟩ := h p e ha hf hc s m args below hfr hap (hP _ _ hp) hk
  exact ⟨n, o, a1, b1, c1, hQ _ _ _ _ hp d1.1, d1.2⟩
theorem va_A_pm {ws ws' : va_W} {sz : Nat} (h : ws.Perm ws') : va_A ws sz = va_A ws' sz := by
  funext q
  apply propext
  unfold va_A
  constructor
  · rintro (⟨k, e, hk⟩ | hq)
    · obtain ⟨i, hi⟩ := List.getElem?_of_mem (h.mem_iff.mp (List.mem_of_getElem? hk))
      exact Or.inl ⟨i, e, hi⟩
    · exact Or.inr hq
  · rintro (⟨k, e, hk⟩ | hq)
    · obtain ⟨i, hi⟩ := List.getElem?_of_mem (h.mem_iff.mpr (List.mem_of_getElem? hk))
      exact Or.inl ⟨i, e, hi⟩
    · exact Or.inr hq
theorem preX_pm {D : va_G} {cy : Nat → ClassId} {ad : Nat → Nat} {av : List Value} {sz : Nat} {ws ws' : va_W} (h : ws.Perm ws') {a : Array Value} {s : State} (hp : preX D cy ad av sz ws a s) : preX D cy ad av sz ws' a s := by
  obtain ⟨⟨q0, q1, qP, qK, qD⟩, hF⟩ := hp
  refine ⟨⟨q0, q1, ex_tP h qP, qK, ex_tD h qD⟩, ?_⟩
  rw [← va_A_pm h]
  exact hF
theorem pm_pick {α : Type} {js : List Nat} {cs cs' : List α} (hj : js.Perm (List.range cs.length)) (he : js.filterMap (fun i => cs[i]?) = cs') : cs.Perm cs' := by
  have h1 : (List.range cs.length).filterMap (fun i => cs[i]?) = cs := fm_of (ex_tm cs)
  have h2 := List.Perm.filterMap (fun i => cs[i]?) hj.symm
  rw [h1, he] at h2
  exact h2
theorem at_f {D : va_G} {ci a : Nat} {vs vs' : List Value} {H : Heap} (h : va_at D vwCl (a, .inr (ci, vs)) H) (h' : va_at D vwCl (a, .inr (ci, vs')) H) {r : vw_C} (hr : vwCl[ci]? = some r) {k : Nat} (hk : k < r.2.2) : vp_V vs k = vp_V vs' k := by
  obtain ⟨r1, e1, cell, q1, _, _, s1⟩ := h
  obtain ⟨r2, e2, cell', q2, _, _, s2⟩ := h'
  have e1' : vwCl[ci]? = some r1 := e1
  have e2' : vwCl[ci]? = some r2 := e2
  rw [hr] at e1' e2'
  cases e1'
  cases e2'
  have q : cell = cell' := Option.some.inj (q1.symm.trans q2)
  subst q
  exact Option.some.inj ((s1 k hk).symm.trans (s2 k hk))
theorem qi_and {P1 P2 P : Option Value → Heap → Prop} {A A' : Nat → Prop} {a : Array Value} {s t : State} {o : Outcome} (h1 : qi (fun r h => P1 (some (.int r)) h) A a s o t) (h2 : qi (fun r h => P2 (some (.int r)) h) A' a s o t) (hp : ∀ v h, P1 v h → P2 v h → P v h) : qi (fun r h => P (some (.int r)) h) A a s o t := by
  obtain ⟨⟨r, u, e1, e2, b1⟩, f1⟩ := h1
  obtain ⟨⟨r', u', e3, e4, b2⟩, f2⟩ := h2
  have e5 : r = u := e2
  have e6 : r' = u' := e4
  subst e5 e6
  have e := e1.symm.trans e3
  injection e with e
  injection e with e
  injection e with e
  subst e
  exact ⟨⟨r, r, e1, rfl, hp _ _ b1 b2⟩, f1⟩
theorem ConQ_mono {ret : Option FieldType} {P P' : Option Value → Heap → Prop} {A : Nat → Prop} {a : Array Value} {s t : State} {o : Outcome} (hp : ∀ v h, P v h → P' v h) (h : ConQ ret P A a s o t) : ConQ ret P' A a s o t := by
  unfold ConQ at h ⊢
  split at h
  · obtain ⟨⟨u, e1, e2, b1⟩, f1⟩ := h
    exact ⟨⟨u, e1, e2, hp _ _ b1⟩, f1⟩
  · obtain ⟨⟨r, u, e1, e2, b1⟩, f1⟩ := h
    exact ⟨⟨r, u, e1, e2, hp _ _ b1⟩, f1⟩
  · obtain ⟨⟨r, u, e1, e2, b1⟩, f1⟩ := h
    exact ⟨⟨r, u, e1, e2, hp _ _ b1⟩, f1⟩
/-- from a contract another, told of the same world otherwise -/
theorem con_pre {MT : Nat → MI} {l : Launch} {cR cG : Con} (h1 : cG.1 = cR.1) (h2 : cG.2.1 = cR.2.1) (hR : ConOK MT l cR) (H : ∀ (D : va_G) (cy : Nat → ClassId) (ω : List Value) (ad : Nat → Nat) (σ : List Int) (φ : List (Nat → Int32)) (av : List Value) (ws : va_W), ConPre cy ω ad cG σ φ av ws → ∃ σ' : List Int, ConPre cy ω ad cR σ' φ av ws ∧ ∀ (v : Option Value) (h : Heap), ConPost D cy ω ad cR.2.2.2.2.2 σ' φ v h → ConPost D cy ω ad cG.2.2.2.2.2 σ φ v h) : ConOK MT l cG := by
  intro D cy ω ad σ φ av ws sz hpre
  obtain ⟨σ', hp, hpost⟩ := H D cy ω ad σ φ av ws hpre
  have hA := hR D cy ω ad σ' φ av ws sz hp
  rw [h1, h2]
  exact met_w (fun _ _ h => h) (fun _ _ _ _ _ hq => ConQ_mono hpost hq) hA
/-- from a contract and an exact one another -/
theorem con_join {MT : Nat → MI} {l : Launch} {cR cG : Con} {y : MethodName} {cc : ByteArray} {nL : Nat} (hMT : MT cR.1 = (y, cc, nL, some .boolean)) (h1 : cG.1 = cR.1) (h2 : cG.2.1 = cR.2.1) (hR : ConOK MT l cR)
    (H : ∀ (D : va_G) (cy : Nat → ClassId) (ω : List Value) (ad : Nat → Nat) (σ : List Int) (φ : List (Nat → Int32)) (av : List Value) (ws : va_W), ConPre cy ω ad cG σ φ av ws → ∃ (σ' : List Int) (as : List MV) (cs : EW) (Q : EW → Option MV → Prop), ConPre cy ω ad cR σ' φ av ws ∧ as.map (ex_v ad) = av ∧ ws.Perm (ex_w cy ad cs) ∧ ex_M l y cc nL (some .boolean) cR.2.1.1 cR.2.1.2 as cs Q ∧ ∀ (v : Option Value) (h : Heap), ConPost D cy ω ad cR.2.2.2.2.2 σ' φ v h → ex_Q D cy ad [] (cs.map Prod.fst) Q v h → ConPost D cy ω ad cG.2.2.2.2.2 σ φ v h) : ConOK MT l cG := by
  intro D cy ω ad σ φ av ws sz hpre
  obtain ⟨σ', as, cs, Q, hp, ha, hw, hM, hpost⟩ := H D cy ω ad σ φ av ws hpre
  have hA := hR D cy ω ad σ' φ av ws sz hp
  have hE := hM D cy ad [] sz
  rw [h1, h2]
  rw [hMT] at hA ⊢
  have k1 : ∀ (a : Array Value) (s : State), preX D cy ad av sz ws a s → preX D cy ad av sz ws a s ∧ preX D cy ad (as.map (ex_v ad)) sz (ex_w cy ad cs ++ []) a s := fun a s h => ⟨h, by
    rw [ha, List.append_nil]
    exact preX_pm hw h⟩
  exact met_w k1 (fun a s o t _ hq => qi_and (P1 := ConPost D cy ω ad cR.2.2.2.2.2 σ' φ) (P2 := ex_Q D cy ad [] (cs.map Prod.fst) Q) hq.1 hq.2 hpost) (ex_and hA hE)
/-! what doesn't speak of some symbols -/
def avN (n : Nat → Bool) (a : AV) : Bool := match a with
  | .inl e => n e.1
  | .inr (.inl e) => n e.1
  | _ => true
def acN (n : Nat → Bool) (c : AC) : Bool := match c with
  | .inl (_, fs) => fs.all (avN n)
  | .inr (.inr (.inr (.inl (_, fs)))) => fs.all (avN n)
  | _ => true
theorem P2_all {α β : Type} {R S : α → β → Prop} {p : α → Bool} (hf : ∀ a b, p a = true → R a b → S a b) : ∀ {as : List α} {bs : List β}, as.all p = true → P2 R as bs → P2 S as bs
  | [], [], _, _ => trivial
  | a :: as, b :: bs, hp, h => by
    have hp' : p a = true ∧ as.all p = true := by simpa using hp
    exact ⟨hf a b hp'.1 h.1, P2_all hf hp'.2 h.2⟩
  | [], _ :: _, _, h => h.elim
  | _ :: _, [], _, h => h.elim
theorem P2_setl {α β : Type} {R : α → β → Prop} : ∀ {as : List α} {bs : List β} {k : Nat} {a' : α} {b : β}, P2 R as bs → bs[k]? = some b → R a' b → P2 R (as.set k a') bs
  | [], [], _, _, _, _, h, _ => by simp at h
  | _ :: _, x :: _, 0, _, b, h, hk, hr => by
    have e : x = b := by simpa using hk
    subst e
    exact ⟨hr, h.2⟩
  | _ :: _, _ :: _, k + 1, _, _, h, hk, hr => ⟨h.1, P2_setl h.2 (by simpa using hk) hr⟩
  | [], _ :: _, _, _, _, h, _, _ => h.elim
  | _ :: _, [], _, _, _, h, _, _ => h.elim
section AGN
variable {n : Nat → Bool} {σ σ' : List Int}
theorem gv_N (hσ : ∀ k, n k = true → σ[k]? = σ'[k]?) {ω : List Value} {ad : Nat → Nat} {a : AV} {v : Value} (ha : avN n a = true) (h : gv σ ω ad a v) : gv σ' ω ad a v := by
  rcases a with e | e | c | c | k
  · obtain ⟨x, h1, t, h2, h3⟩ := h
    exact ⟨x, h1, t, by rw [← hσ _ ha]; exact h2, h3⟩
  · obtain ⟨x, h1, t, h2, h3⟩ := h
    exact ⟨x, h1, t, by rw [← hσ _ ha]; exact h2, h3⟩
  · exact h
  · exact h
  · exact h
theorem gx_N (hσ : ∀ k, n k = true → σ[k]? = σ'[k]?) {ω : List Value} {ad : Nat → Nat} {a : AV} {v : Value} (ha : avN n a = true) (h : gx σ ω ad a v) : gx σ' ω ad a v := ⟨gv_N hσ ha h.1, h.2⟩
theorem gc_N (hσ : ∀ k, n k = true → σ[k]? = σ'[k]?) {cy : Nat → ClassId} {φ : List (Nat → Int32)} {ω : List Value} {ad : Nat → Nat} {c : AC} {e : va_E} (ha : acN n c = true) (h : gc cy σ φ ω ad c e) : gc cy σ' φ ω ad c e := by
  rcases c with ⟨ci, fs⟩ | ⟨kd, m, k⟩ | m | ⟨m, fs⟩ | ⟨kd, m, cs⟩
  · obtain ⟨vs, h1, h2⟩ := h
    have ha' : fs.all (avN n) = true := ha
    exact ⟨vs, h1, P2_all (p := avN n) (R := gv σ ω ad) (S := gv σ' ω ad) (fun a b q r => gv_N hσ q r) ha' h2⟩
  · exact h
  · exact h
  · obtain ⟨g, h1, h2, h3⟩ := h
    have ha' : fs.all (avN n) = true := ha
    exact ⟨g, h1, h2, fun j av hj => gv_N hσ (List.all_eq_true.mp ha' av (List.mem_of_getElem? hj)) (h3 j av hj)⟩
  · exact h
theorem zC_N (hσ : ∀ k, n k = true → σ[k]? = σ'[k]?) {cs : CS} (ha : cs.all (fun q => n q.1 && n q.2.1) = true) (h : zC cs σ) : zC cs σ' := by
  intro q hq
  obtain ⟨x, y, h1, h2, h3⟩ := h q hq
  have h4 := Bool.and_eq_true_iff.mp (List.all_eq_true.mp ha q hq)
  exact ⟨x, y, by rw [← hσ _ h4.1]; exact h1, by rw [← hσ _ h4.2]; exact h2, h3⟩
end AGN
theorem zB_of {bs : BS} {σ : List Int} (hl : bs.length = σ.length) (h : ∀ (k : Nat) (b : Int × Int) (x : Int), bs[k]? = some b → σ[k]? = some x → b.1 ≤ x ∧ x ≤ b.2) : zB bs σ := P2.of hl h
theorem zB_at {bs : BS} {σ : List Int} {k : Nat} {b : Int × Int} {x : Int} (h : zB bs σ) (h1 : bs[k]? = some b) (h2 : σ[k]? = some x) : b.1 ≤ x ∧ x ≤ b.2 := by
  obtain ⟨y, h3, h4⟩ := P2.get h h1
  rw [h2] at h3
  cases h3
  exact h4
theorem app_N {n : Nat → Bool} {σ σ' τ : List Int} (hl : σ.length = σ'.length) (hσ : ∀ k, n k = true → σ[k]? = σ'[k]?) : ∀ k, n k = true → (σ ++ τ)[k]? = (σ' ++ τ)[k]? := by
  intro k hk
  by_cases q : k < σ.length
  · rw [List.getElem?_append_left q, List.getElem?_append_left (by omega)]
    exact hσ k hk
  · rw [List.getElem?_append_right (by omega), List.getElem?_append_right (by omega), hl]
def nps (p s k : Nat) : Bool := !(Nat.beq k p) && !(Nat.beq k s)
theorem nps_ok {p s k : Nat} (h1 : k ≠ p) (h2 : k ≠ s) : nps p s k = true := by
  have a : Nat.beq k p = false := by
    cases q : Nat.beq k p with
    | false => rfl
    | true => exact absurd (Nat.eq_of_beq_eq_true q) h1
  have b : Nat.beq k s = false := by
    cases q : Nat.beq k s with
    | false => rfl
    | true => exact absurd (Nat.eq_of_beq_eq_true q) h2
  unfold nps
  rw [a, b]
  rfl
def st2v (σ : List Int) (p s : Nat) (x y : Int) : List Int := (σ.set p x).set s y
theorem st2v_len {σ : List Int} {p s : Nat} {x y : Int} : (st2v σ p s x y).length = σ.length := by
  unfold st2v
  rw [List.length_set, List.length_set]
theorem st2v_N {σ : List Int} {p s : Nat} {x y : Int} : ∀ k, nps p s k = true → (st2v σ p s x y)[k]? = σ[k]? := by
  intro k hk
  have h := Bool.and_eq_true_iff.mp hk
  have h1 : k ≠ p := fun e => by
    subst e
    have := h.1
    simp at this
  have h2 : k ≠ s := fun e => by
    subst e
    have := h.2
    simp at this
  unfold st2v
  rw [List.getElem?_set_ne (fun e => h2 e.symm), List.getElem?_set_ne (fun e => h1 e.symm)]
theorem st2v_p {σ : List Int} {p s : Nat} {x y : Int} (hp : p < σ.length) (hn : p ≠ s) : (st2v σ p s x y)[p]? = some x := by
  unfold st2v
  rw [List.getElem?_set_ne (fun e => hn e.symm), List.getElem?_set_self hp]
theorem st2v_s {σ : List Int} {p s : Nat} {x y : Int} (hs : s < σ.length) : (st2v σ p s x y)[s]? = some y := by
  unfold st2v
  rw [List.getElem?_set_self (by rw [List.length_set]; exact hs)]
theorem st2v_B {bs : BS} {σ : List Int} {p s : Nat} {x y : Int} (hn : p ≠ s) (h : zB bs σ) (hp : ∀ b, bs[p]? = some b → b.1 ≤ x ∧ x ≤ b.2) (hs : ∀ b, bs[s]? = some b → b.1 ≤ y ∧ y ≤ b.2) : zB bs (st2v σ p s x y) := by
  have hl := P2.len h
  refine zB_of (by rw [st2v_len]; exact hl) (fun k b z hb hz => ?_)
  have hk : k < σ.length := by
    rw [← hl]
    exact (List.getElem?_eq_some_iff.mp hb).1
  by_cases e1 : k = s
  · subst e1
    rw [st2v_s hk] at hz
    cases hz
    exact hs b hb
  · by_cases e2 : k = p
    · subst e2
      rw [st2v_p hk hn] at hz
      cases hz
      exact hp b hb
    · rw [st2v_N k (nps_ok e2 e1)] at hz
      exact zB_at h hb hz
