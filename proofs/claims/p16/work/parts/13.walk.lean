/-! calls, ends, cuts; own -/
def COK (MT : Nat → MI) (own : String) (q : Nat × Nat × Nat × Nat × Nat) : Prop :=
  Cond.methodLink own q.1 (MT q.2.2.1).1 ∈ bigG ∧ Cond.initialized (MT q.2.2.1).1.cls ∈ bigG ∧ Cond.code (MT q.2.2.1).1 (MT q.2.2.1).2.1 (MT q.2.2.1).2.2.1 (MT q.2.2.1).2.2.2 ∈ bigG ∧ ((MT q.2.2.1).1.cls ≠ "java/lang/invoke/MethodHandle" ∧ (MT q.2.2.1).1.cls ≠ "java/lang/invoke/VarHandle" ∧ (parseMethodDescriptor (MT q.2.2.1).1.desc).map (fun d => d.parameters.length) = some q.2.2.2.1) ∧
  (match q.2.1 with
    | 0 => Cond.instanceMethod (MT q.2.2.1).1 ∈ bigG ∧ Cond.selects (MT q.2.2.1).1.cls (MT q.2.2.1).1 (MT q.2.2.1).1 ∈ bigG ∧ ∃ (T : u_T) (N : Nat), vwCl[q.2.2.2.2]? = some ((MT q.2.2.1).1.cls, T, N)
    | 2 => Cond.instanceMethod (MT q.2.2.1).1 ∈ bigG ∧ Cond.selects (MT q.2.2.1).1.cls (MT q.2.2.1).1 (MT q.2.2.1).1 ∈ bigG ∧ (MT q.2.2.1).1.cls = strN
    | _ => Cond.static (MT q.2.2.1).1 ∈ bigG)
def callA (nω : Nat) (con : Con) (n : Nat) (M : MM) (a : AS) : Option (List AS) :=
  if chkA a.1 con.2.2.2.2.1 M.1 M.2.1 M.2.2.1 M.2.2.2 && all2 (chkT M.1 M.2.2.1 M.2.2.2) con.2.2.2.1 (a.2.2.take n).reverse && (M.2.2.1.length == con.2.2.1) && M.2.2.1.all (chkX nω a.1.1 a.1.2.2.1) && va_nd M.2.2.2 && decide (catS (a.2.2.drop n) ≤ 8) && decide (n ≤ a.2.2.length) && decide (M.2.2.2.length ≤ 10000)
  then omap (altA a (a.2.2.drop n) con M) con.2.2.2.2.2 else none
/-- the receiver is a text -/
def recvS (n : Nat) (a : AS) : Bool := match (a.2.2.take n).reverse with
  | .inr (.inr (.inl k)) :: _ => decide (10000 ≤ k) && (lits[k - 10000]?).isSome
  | _ => false
/-- the receiver is a thing of kind ci -/
def recvA (n ci : Nat) (a : AS) : Bool := match (a.2.2.take n).reverse with
  | .inr (.inr (.inl k)) :: _ => (match a.1.2.2.2[k]? with
    | some (.inl (ci', _)) => ci' == ci
    | _ => false)
  | _ => false
section STEU
variable {p : Program} {l : Launch} {e : Env} {R : Room} {s : State} {m : MethodId} {args : Array Value} {below : List Frame} {meth : Method} {c : Code} {Q : State → Prop} {cc : ByteArray} {D : va_G} {cy : Nat → ClassId} {A : Nat → Prop} {nL : Nat} {own : String} {w0 : Cond} {ω : List Value} {ad : Nat → Nat} {σ0 : List Int} {φ0 : List (Nat → Int32)} {pc : Nat} {a a' : AS}
theorem call_core (hX : CTX p s m args c cc nL own w0 D cy A) {MT : Nat → MI} {con : Con} {n : Nat} {M : MM} {L : List AS} (hc : ConOK MT l con) (hxp : ∀ (σ : List Int) (φ : List (Nat → Int32)), pfx σ0 σ → pfx φ0 φ → XP con (M.1.map (ev σ)) (M.2.1.map (fv φ))) (h : callA ω.length con n M a = some L) (hk : ∀ a' ∈ L, OkA (Wq p l e R s m args below meth c Q) D cy A s.heap nL ω ad σ0 φ0 a' (pc + 3)) :
    ∀ (σ : List Int) (φ : List (Nat → Int32)) (ws : va_W) (lv : List (Nat × Value)) (stk : List Value) (H : Heap) (locs : List Loc) (ls : Array Slot), pfx σ0 σ → pfx φ0 φ → GS cy ω ad a σ φ ws lv stk → va_P D vwCl ws H → va_D A ws → va_S A s.heap H locs → lv_has ls nL lv →
    ∃ (As rest : List Value) (wc : va_W) (B : Option Value → Heap → Prop), As.length = n ∧ stk = As.reverse ++ rest ∧ P2 (gx σ ω ad) (a.2.2.take n).reverse As ∧ M.2.2.2.map (fun i => ws[i]?) = wc.map some ∧ va_nd M.2.2.2 = true ∧ (rest.map fun v => v.category).sum ≤ 8 ∧ (∀ i : Nat, 10000 ≤ i → adc ad M.2.2.2 i = ad i) ∧
      Met l (MT con.1).1 (Cond.code (MT con.1).1 (MT con.1).2.1 (MT con.1).2.2.1 (MT con.1).2.2.2 :: bigG) ({ frames := con.2.1.1, cells := 0, slots := 0, locals := con.2.1.2 }) (preX D cy (adc ad M.2.2.2) As H.size wc) (ConQ (MT con.1).2.2.2 B (va_A wc H.size)) 0 0 (va_A wc H.size) ∧
      (∀ (av : Array Value) (st0 : List Value), va_Run p l e R s m args below meth c H locs 0 0 0 0 (F0 m pc ls st0) rest (ConQ (MT con.1).2.2.2 B (va_A wc H.size) av) (va_A wc H.size) → Wq p l e R s m args below meth c Q H locs pc ls st0) := by
  intro σ φ ws lv stk H locs ls hσ hφ hG hP hD hS hl
  obtain ⟨hx, hb, hml, hown, hts, hK, hA⟩ := hX
  obtain ⟨⟨hB, hF, hC, hW⟩, hL, hT⟩ := hG
  unfold callA at h
  split at h
  · rename_i t
    have t' : ((((((chkA a.1 con.2.2.2.2.1 M.1 M.2.1 M.2.2.1 M.2.2.2 = true ∧ all2 (chkT M.1 M.2.2.1 M.2.2.2) con.2.2.2.1 (a.2.2.take n).reverse = true) ∧ M.2.2.1.length = con.2.2.1) ∧ M.2.2.1.all (chkX ω.length a.1.1 a.1.2.2.1) = true) ∧ va_nd M.2.2.2 = true) ∧ catS (a.2.2.drop n) ≤ 8) ∧ n ≤ a.2.2.length) ∧ M.2.2.2.length ≤ 10000 := by
      simpa [Bool.and_eq_true, List.all_eq_true] using t
    obtain ⟨⟨⟨⟨⟨⟨⟨t1, t2⟩, t3⟩, t4⟩, t5⟩, t6⟩, t7⟩, t8⟩ := t'
    obtain ⟨wc, g1, g2⟩ := chkA_ok t1 ⟨hB, hF, hC, hW⟩
    obtain ⟨s1, s2⟩ := P2.split n hT
    have hlen : stk.length = a.2.2.length := (P2.len hT).symm
    have s3 := s1.rev
    have hpre : ConPre cy (M.2.2.1.map (cv σ ω ad)) (adc ad M.2.2.2) con (M.1.map (ev σ)) (M.2.1.map (fv φ)) (stk.take n).reverse wc := ⟨g2, all2_ok (R := gx σ ω ad) (S := gx (M.1.map (ev σ)) (M.2.2.1.map (cv σ ω ad)) (adc ad M.2.2.2)) (fun _ _ _ q r => chkT_ok q r) t2 s3, by rw [List.length_map]; exact t3, hxp σ φ hσ hφ⟩
    refine ⟨(stk.take n).reverse, stk.drop n, wc, _, by rw [List.length_reverse, List.length_take]; omega, by rw [List.reverse_reverse, List.take_append_drop], s3, g1, t5, by rw [catS_ok s2]; exact t6, (fun i hi => by unfold adc; rw [List.getElem?_eq_none (by omega)]; rfl), hc D cy _ _ _ _ _ wc H.size hpre, fun av0 st0 hr => ?_⟩
    refine y_c hP hD hS hA M.2.2.2 g1 hr (fun v H1 locs1 hB1 hrest hS1 => ?_)
    obtain ⟨alt, ha, τ, ψ, w1, k1, k2, k3⟩ := hB1
    obtain ⟨a', m1, m2⟩ := omap_mem h ha
    have hmu : ∀ (k : Nat) (z : Nat × Int), M.1[k]? = some z → vl σ z (ev σ z) := by
      intro k z hz
      have hb1 : chkB a.1.1 a.1.2.2.1 con.2.2.2.2.1.1 M.1 = true := by
        simp only [chkA, Bool.and_eq_true] at t1
        exact t1.1.1.1
      have hlt : k < con.2.2.2.2.1.1.length := by rw [all2_len hb1]; exact (List.getElem?_eq_some_iff.mp hz).1
      obtain ⟨z', j1, j2⟩ := all2_get hb1 (List.getElem?_eq_getElem hlt)
      rw [hz] at j1
      cases j1
      cases q : bnd a.1.1 a.1.2.2.1 z with
      | none => rw [q] at j2; cases j2
      | some b => exact bnd_vl hB q
    have hnu : ∀ (k z : Nat), M.2.1[k]? = some z → ∃ f, φ[z]? = some f := by
      intro k z hz
      have hb1 : chkF a.1.2.1 con.2.2.2.2.1.2.1 M.2.1 = true := by
        simp only [chkA, Bool.and_eq_true] at t1
        exact t1.1.1.2
      have hlt : k < con.2.2.2.2.1.2.1.length := by rw [all2_len hb1]; exact (List.getElem?_eq_some_iff.mp hz).1
      obtain ⟨z', j1, j2⟩ := all2_get hb1 (List.getElem?_eq_getElem hlt)
      rw [hz] at j1
      cases j1
      cases q : a.1.2.1[z]? with
      | none => rw [q] at j2; cases j2
      | some b =>
        obtain ⟨f, f1, _⟩ := P2.get hF q
        exact ⟨f, f1⟩
    have hxi : ∀ (k : Nat) (z : AV), M.2.2.1[k]? = some z → gv σ ω ad z (cv σ ω ad z) := fun k z hz => chkX_ok hB hC (List.all_eq_true.mp t4 z (List.mem_of_getElem? hz))
    obtain ⟨ws', n1, n2, n3⟩ := altA_ok m2 ⟨hB, hF, hC, hW⟩ hL s2 hD hmu hnu hxi g1 k1 k2 k3 hrest
    exact hk a' m1 (σ ++ τ) (φ ++ ψ) ws' lv _ H1 locs1 ls hσ.app hφ.app n1 n2 n3 hS1 hl
  · cases h
theorem preXV {As : List Value} {ws wc : va_W} {H : Heap} {locs : List Loc} {b : Nat} {C : String} {ad' : Nat → Nat} (hG : gk D cy s) (hP : va_P D vwCl ws H) (hD : va_D A ws) (hS : va_S A s.heap H locs) (hA : ∀ q, s.heap.size ≤ q → A q) (hF : SF ad A s) (ha : ∀ i : Nat, 10000 ≤ i → ad' i = ad i) (isC : List Nat) (hC : isC.map (fun i => ws[i]?) = wc.map some) (hn : va_nd isC = true) (hr : ∃ cell : Cell, H[b]? = some cell ∧ cell.vm.isStatics = false ∧ s.vm.findClass C = some cell.cls) : PreV s H C b (preX D cy ad' (.ref b :: As) H.size wc) As :=
  ⟨preX_blind, hr, fun U hU hW => ⟨pre_go hG hP hD isC hC hn U hU hW, SF_go hF hS (va_free hD hS hA isC hC) ha U hU hW⟩⟩
theorem preXS {As : List Value} {ws wc : va_W} {H : Heap} {locs : List Loc} {ad' : Nat → Nat} (hG : gk D cy s) (hP : va_P D vwCl ws H) (hD : va_D A ws) (hS : va_S A s.heap H locs) (hA : ∀ q, s.heap.size ≤ q → A q) (hF : SF ad A s) (ha : ∀ i : Nat, 10000 ≤ i → ad' i = ad i) (isC : List Nat) (hC : isC.map (fun i => ws[i]?) = wc.map some) (hn : va_nd isC = true) : PreS s H (preX D cy ad' As H.size wc) As :=
  ⟨preX_blind, fun U hU hW => ⟨pre_go hG hP hD isC hC hn U hU hW, SF_go hF hS (va_free hD hS hA isC hC) ha U hU hW⟩⟩
theorem s_callV (hX : CTX p s m args c cc nL own w0 D cy A) {MT : Nat → MI} {con : Con} {q : Nat × Nat × Nat × Nat × Nat} {M : MM} {L : List AS} (hF : SF ad A s) (hc : ConOK MT l con) (hxp : ∀ (σ : List Int) (φ : List (Nat → Int32)), pfx σ0 σ → pfx φ0 φ → XP con (M.1.map (ev σ)) (M.2.1.map (fv φ))) (hq : COK MT own q) (hm : con.1 = q.2.2.1) (hw : q.2.1 = 0) (hR : con.2.1.1 + 1 ≤ R.frames ∧ 8 + ((MT con.1).2.2.1 + 11) + con.2.1.2 ≤ R.locals) (hd : decode cc pc = .ok (.invokevirtual q.1, 3)) (hrc : recvA (q.2.2.2.1 + 1) q.2.2.2.2 a = true) (h : callA ω.length con (q.2.2.2.1 + 1) M a = some L) (hk : ∀ a' ∈ L, OkA (Wq p l e R s m args below meth c Q) D cy A s.heap nL ω ad σ0 φ0 a' (pc + 3)) : OkA (Wq p l e R s m args below meth c Q) D cy A s.heap nL ω ad σ0 φ0 a pc := by
  intro σ φ ws lv stk H locs ls hσ hφ hG hP hD hS hl
  obtain ⟨As, rest, wc, B, l1, l2, l3, l4, l5, l6, l7, hM, go⟩ := call_core hX hc hxp h hk σ φ ws lv stk H locs ls hσ hφ hG hP hD hS hl
  obtain ⟨hx, hb, hml, hown, hts, hK, hA⟩ := hX
  obtain ⟨⟨hB, hF', hC, hW⟩, hL, hT⟩ := hG
  unfold recvA at hrc
  split at hrc
  · rename_i k r q1
    rw [q1] at l3
    match As, l1, l2, l3, hM, go with
    | v :: As', l1, l2, l3, hM, go =>
      have hv : v = .ref (ad k) := l3.1.1
      subst hv
      split at hrc
      · rename_i ci' fs q2
        have e1 : ci' = q.2.2.2.2 := by simpa using hrc
        obtain ⟨en, w1, w2⟩ := hW.2 k _ q2
        obtain ⟨vs, rfl, w3⟩ := w2
        obtain ⟨c1, c2', c3, c4, c5⟩ := hq
        rw [hw] at c5
        obtain ⟨c6, c7, T, N, c8⟩ := c5
        rw [hm] at hM go hR
        have cw := cwV (R := R) (Ts := w0 :: bigG) (rm := { frames := con.2.1.1, cells := 0, slots := 0, locals := con.2.1.2 }) (mc := 0) (ms := 0) q.2.2.2.1 hts (gV c1 c6 c7 c2' c3) rfl rfl rfl ⟨rfl, c4⟩ hR
        refine go _ _ (va_runV (As := As') (rest := rest) ⟨hx, hb, hml, hown, hts⟩ hM cw (preXV hK hP hD hS hA hF l7 M.2.2.2 l4 l5 (va_recv hK.1 hP c8 (show ws[k]? = _ by rw [w1, e1]))) rfl (by simpa using l1) hl.1 ?_ (lv_room l6) hd ⟨Nat.zero_le _, Nat.zero_le _⟩)
        show stk = _
        rw [l2]
        simp
      · cases hrc
    | [], l1, l2, l3, hM, go => exact l3.elim
  · cases hrc
theorem s_callT (hX : CTX p s m args c cc nL own w0 D cy A) {MT : Nat → MI} {con : Con} {q : Nat × Nat × Nat × Nat × Nat} {M : MM} {L : List AS} (hF : SF ad A s) (hc : ConOK MT l con) (hxp : ∀ (σ : List Int) (φ : List (Nat → Int32)), pfx σ0 σ → pfx φ0 φ → XP con (M.1.map (ev σ)) (M.2.1.map (fv φ))) (hq : COK MT own q) (hm : con.1 = q.2.2.1) (hw : q.2.1 = 2) (hR : con.2.1.1 + 1 ≤ R.frames ∧ 8 + ((MT con.1).2.2.1 + 11) + con.2.1.2 ≤ R.locals) (hd : decode cc pc = .ok (.invokevirtual q.1, 3)) (hrc : recvS (q.2.2.2.1 + 1) a = true) (h : callA ω.length con (q.2.2.2.1 + 1) M a = some L) (hk : ∀ a' ∈ L, OkA (Wq p l e R s m args below meth c Q) D cy A s.heap nL ω ad σ0 φ0 a' (pc + 3)) : OkA (Wq p l e R s m args below meth c Q) D cy A s.heap nL ω ad σ0 φ0 a pc := by
  intro σ φ ws lv stk H locs ls hσ hφ hG hP hD hS hl
  obtain ⟨As, rest, wc, B, l1, l2, l3, l4, l5, l6, l7, hM, go⟩ := call_core hX hc hxp h hk σ φ ws lv stk H locs ls hσ hφ hG hP hD hS hl
  obtain ⟨hx, hb, hml, hown, hts, hK, hA⟩ := hX
  obtain ⟨⟨hB, hF', hC, hW⟩, hL, hT⟩ := hG
  unfold recvS at hrc
  split at hrc
  · rename_i k r q1
    rw [q1] at l3
    match As, l1, l2, l3, hM, go with
    | v :: As', l1, l2, l3, hM, go =>
      have hv : v = .ref (ad k) := l3.1.1
      subst hv
      have hr : 10000 ≤ k ∧ (lits[k - 10000]?).isSome = true := by simpa using hrc
      obtain ⟨z, hz⟩ := Option.isSome_iff_exists.mp hr.2
      have k2 := (hF.1 _ z hz).2.1
      have e0 : 10000 + (k - 10000) = k := by omega
      rw [e0] at k2
      obtain ⟨c1, c2', c3, c4, c5⟩ := hq
      rw [hw] at c5
      obtain ⟨c6, c7, c8⟩ := c5
      rw [hm] at hM go hR
      have cw := cwV (R := R) (Ts := w0 :: bigG) (rm := { frames := con.2.1.1, cells := 0, slots := 0, locals := con.2.1.2 }) (mc := 0) (ms := 0) q.2.2.2.1 hts (gV c1 c6 c7 c2' c3) rfl rfl rfl ⟨rfl, c4⟩ hR
      obtain ⟨cell, r1, r2, r3, -⟩ := k2.kept hS.2.1
      refine go _ _ (va_runV (As := As') (rest := rest) ⟨hx, hb, hml, hown, hts⟩ hM cw (preXV hK hP hD hS hA hF l7 M.2.2.2 l4 l5 ⟨cell, r1, r2, by rw [c8]; exact r3⟩) rfl (by simpa using l1) hl.1 ?_ (lv_room l6) hd ⟨Nat.zero_le _, Nat.zero_le _⟩)
      show stk = _
      rw [l2]
      simp
    | [], l1, l2, l3, hM, go => exact l3.elim
  · cases hrc
theorem s_callS (hX : CTX p s m args c cc nL own w0 D cy A) {MT : Nat → MI} {con : Con} {q : Nat × Nat × Nat × Nat × Nat} {M : MM} {L : List AS} (hF : SF ad A s) (hc : ConOK MT l con) (hxp : ∀ (σ : List Int) (φ : List (Nat → Int32)), pfx σ0 σ → pfx φ0 φ → XP con (M.1.map (ev σ)) (M.2.1.map (fv φ))) (hq : COK MT own q) (hm : con.1 = q.2.2.1) (hw : q.2.1 = 1) (hR : con.2.1.1 + 1 ≤ R.frames ∧ 8 + ((MT con.1).2.2.1 + 11) + con.2.1.2 ≤ R.locals) (hd : decode cc pc = .ok (.invokestatic q.1, 3)) (h : callA ω.length con q.2.2.2.1 M a = some L) (hk : ∀ a' ∈ L, OkA (Wq p l e R s m args below meth c Q) D cy A s.heap nL ω ad σ0 φ0 a' (pc + 3)) : OkA (Wq p l e R s m args below meth c Q) D cy A s.heap nL ω ad σ0 φ0 a pc := by
  intro σ φ ws lv stk H locs ls hσ hφ hG hP hD hS hl
  obtain ⟨As, rest, wc, B, l1, l2, l3, l4, l5, l6, l7, hM, go⟩ := call_core hX hc hxp h hk σ φ ws lv stk H locs ls hσ hφ hG hP hD hS hl
  obtain ⟨hx, hb, hml, hown, hts, hK, hA⟩ := hX
  obtain ⟨c1, c2', c3, c4, c5⟩ := hq
  rw [hw] at c5
  rw [hm] at hM go hR
  have cw := va_cwS (R := R) (Ts := w0 :: bigG) (rm := { frames := con.2.1.1, cells := 0, slots := 0, locals := con.2.1.2 }) (mc := 0) (ms := 0) q.2.2.2.1 hts (gS c1 c5 c2' c3) rfl rfl rfl c4 hR
  exact go _ _ (va_runS (As := As) (rest := rest) ⟨hx, hb, hml, hown, hts⟩ hM cw (preXS hK hP hD hS hA hF l7 M.2.2.2 l4 l5) rfl l1 hl.1 l2 (lv_room l6) hd ⟨Nat.zero_le _, Nat.zero_le _⟩)
end STEU
/-! cuts -/
def idX (n : Nat) : List AV := (List.range n).map (fun k => .inr (.inr (.inr (.inr k))))
theorem idX_ok {σ : List Int} {ω : List Value} {ad : Nat → Nat} : (idX ω.length).map (cv σ ω ad) = ω := by
  apply List.ext_getElem?
  intro k
  unfold idX
  rw [List.getElem?_map, List.getElem?_map]
  by_cases h : k < ω.length
  · rw [List.getElem?_eq_getElem (by simpa using h)]
    simp only [List.getElem_range, Option.map_some]
    show some ((ω[k]?).getD .null) = _
    rw [List.getElem?_eq_getElem h]
    rfl
  · rw [List.getElem?_eq_none (by simpa using h), List.getElem?_eq_none (by simpa using h)]
    rfl
theorem adc_id {ad : Nat → Nat} {n : Nat} : adc ad (List.range n) = ad := by
  funext c
  unfold adc
  by_cases h : c < n
  · rw [List.getElem?_eq_getElem (by simpa using h)]
    simp
  · rw [List.getElem?_eq_none (by simpa using h)]
    rfl
theorem range_id {ws wc : va_W} (h : (List.range ws.length).map (fun i => ws[i]?) = wc.map some) : wc = ws := by
  apply List.ext_getElem?
  intro k
  have h1 := congrArg (fun l => l[k]?) h
  simp only [List.getElem?_map] at h1
  by_cases hk : k < ws.length
  · rw [List.getElem?_eq_getElem (by simpa using hk)] at h1
    simp only [List.getElem_range, Option.map_some] at h1
    cases e : wc[k]? with
    | none => rw [e] at h1; cases h1
    | some x =>
      rw [e] at h1
      simp only [Option.map_some, Option.some.injEq] at h1
      exact h1.symm
  · have hl := congrArg List.length h
    simp at hl
    rw [List.getElem?_eq_none (by omega), List.getElem?_eq_none (by omega)]
def idP (n : Nat) (μ : List (Nat × Int)) : Bool := decide (μ.take n = (List.range n).map (fun k => (k, (0 : Int))))
def idN (n : Nat) (ν : List Nat) : Bool := decide (ν.take n = List.range n)
theorem idP_ok {μ : List (Nat × Int)} {σp σ : List Int} (h : idP σp.length μ = true) (hσ : pfx σp σ) : pfx σp (μ.map (ev σ)) := by
  have h' : μ.take σp.length = (List.range σp.length).map (fun k => (k, (0 : Int))) := by simpa [idP] using h
  obtain ⟨τ, rfl⟩ := hσ
  refine ⟨(μ.drop σp.length).map (ev (σp ++ τ)), ?_⟩
  conv => lhs; rw [← List.take_append_drop σp.length μ]
  rw [List.map_append, h']
  congr 1
  apply List.ext_getElem?
  intro k
  rw [List.getElem?_map, List.getElem?_map]
  by_cases hk : k < σp.length
  · rw [List.getElem?_eq_getElem (by simpa using hk)]
    simp only [List.getElem_range, Option.map_some]
    unfold ev
    dsimp only
    rw [List.getElem?_append_left hk, List.getElem?_eq_getElem hk]
    simp
  · rw [List.getElem?_eq_none (by simpa using hk), List.getElem?_eq_none (by simpa using hk)]
    rfl
theorem idN_ok {ν : List Nat} {φp φ : List (Nat → Int32)} (h : idN φp.length ν = true) (hφ : pfx φp φ) : pfx φp (ν.map (fv φ)) := by
  have h' : ν.take φp.length = List.range φp.length := by simpa [idN] using h
  obtain ⟨τ, rfl⟩ := hφ
  refine ⟨(ν.drop φp.length).map (fv (φp ++ τ)), ?_⟩
  conv => lhs; rw [← List.take_append_drop φp.length ν]
  rw [List.map_append, h']
  congr 1
  apply List.ext_getElem?
  intro k
  rw [List.getElem?_map]
  by_cases hk : k < φp.length
  · rw [List.getElem?_eq_getElem (by simpa using hk)]
    simp only [List.getElem_range, Option.map_some]
    unfold fv
    rw [List.getElem?_append_left hk, List.getElem?_eq_getElem hk]
    rfl
  · rw [List.getElem?_eq_none (by simpa using hk), List.getElem?_eq_none (by simpa using hk)]
    rfl
def cutB (nb nf nω : Nat) (T : AS) (a : AS) (μ : List (Nat × Int)) (ν : List Nat) : Bool :=
  chkA a.1 T.1 μ ν (idX nω) (List.range a.1.2.2.2.length) && idP nb μ && idN nf ν && T.2.1.all (fun q => match lk q.1 a.2.1 with
    | some c => chkT μ (idX nω) (List.range a.1.2.2.2.length) q.2 c
    | none => false) && all2 (chkT μ (idX nω) (List.range a.1.2.2.2.length)) T.2.2 a.2.2
theorem cut_ok {cy : Nat → ClassId} {ω : List Value} {ad : Nat → Nat} {T a : AS} {σ σp : List Int} {φ φp : List (Nat → Int32)} {ws : va_W} {lv : List (Nat × Value)} {stk : List Value} {ls : Array Slot} {nL : Nat} {μ : List (Nat × Int)} {ν : List Nat} (h : cutB σp.length φp.length ω.length T a μ ν = true) (hG : GS cy ω ad a σ φ ws lv stk) (hl : lv_has ls nL lv) (hσ : pfx σp σ) (hφ : pfx φp φ) : ∃ lv' : List (Nat × Value), GS cy ω ad T (μ.map (ev σ)) (ν.map (fv φ)) ws lv' stk ∧ lv_has ls nL lv' ∧ pfx σp (μ.map (ev σ)) ∧ pfx φp (ν.map (fv φ)) := by
  obtain ⟨hW, hL, hT⟩ := hG
  simp only [cutB, Bool.and_eq_true] at h
  obtain ⟨⟨⟨⟨h1, h2⟩, h3⟩, h4⟩, h5⟩ := h
  obtain ⟨wc, g1, g2⟩ := chkA_ok h1 hW
  rw [hW.2.2.2.1] at g1
  have e1 := range_id g1
  subst e1
  rw [idX_ok, adc_id] at g2
  have hv : ∀ {t c : AV} {v : Value}, chkT μ (idX ω.length) (List.range a.1.2.2.2.length) t c = true → gx σ ω ad c v → gx (μ.map (ev σ)) ω ad t v := by
    intro t c v q r
    have := chkT_ok q r
    rwa [idX_ok, adc_id] at this
  have key : ∀ tl : List (Nat × AV), (∀ q ∈ tl, (match lk q.1 a.2.1 with
    | some c => chkT μ (idX ω.length) (List.range a.1.2.2.2.length) q.2 c
    | none => false) = true) → ∃ lv' : List (Nat × Value), P2 (lr (μ.map (ev σ)) ω ad) tl lv' ∧ ∀ q ∈ lv', q ∈ lv := by
    intro tl
    induction tl with
    | nil => intro _; exact ⟨[], trivial, fun q hq => by cases hq⟩
    | cons q r ih =>
      intro hq
      obtain ⟨lv', k1, k2⟩ := ih (fun z hz => hq z (List.mem_cons_of_mem _ hz))
      have hq0 := hq q (List.mem_cons_self ..)
      cases e : lk q.1 a.2.1 with
      | none => rw [e] at hq0; cases hq0
      | some c =>
        rw [e] at hq0
        obtain ⟨k, v, k3, k4⟩ := lk_ok hL e
        refine ⟨(q.1, v) :: lv', ⟨⟨rfl, hv hq0 k4⟩, k1⟩, fun z hz => ?_⟩
        rcases List.mem_cons.mp hz with rfl | hz
        · exact List.mem_of_getElem? k3
        · exact k2 z hz
  obtain ⟨lv', k1, k2⟩ := key T.2.1 (List.all_eq_true.mp h4)
  exact ⟨lv', ⟨g2, k1, all2_ok (R := gx σ ω ad) (S := gx (μ.map (ev σ)) ω ad) (fun _ _ _ q r => hv q r) h5 hT⟩, ⟨hl.1, hl.2.1, fun q hq => hl.2.2 q (k2 q hq)⟩, idP_ok h2 hσ, idN_ok h3 hφ⟩
/-! a first guess of the maps: it needs no row, for it is held against the states afterwards -/
abbrev PM : Type := List (Option (Nat × Int)) × List (Option Nat) × List (Option AV) × List (Option Nat)
def sin {α : Type} (l : List (Option α)) (k : Nat) (v : α) : List (Option α) := match l[k]? with
  | some none => l.set k (some v)
  | _ => l
def pmV (m : PM) (t c : AV) : PM := match t with
  | .inl e => (match c with
    | .inl e' => (sin m.1 e.1 (e'.1, e'.2 - e.2), m.2)
    | _ => m)
  | .inr (.inl e) => (match c with
    | .inr (.inl e') => (sin m.1 e.1 (e'.1, e'.2 - e.2), m.2)
    | _ => m)
  | .inr (.inr (.inl k)) => (match c with
    | .inr (.inr (.inl k')) => (m.1, m.2.1, m.2.2.1, sin m.2.2.2 k k')
    | _ => m)
  | .inr (.inr (.inr (.inr k))) => (m.1, m.2.1, sin m.2.2.1 k c, m.2.2.2)
  | _ => m
def pmVs : PM → List AV → List AV → PM
  | m, t :: ts, c :: cs => pmVs (pmV m t c) ts cs
  | m, _, _ => m
def pmC (m : PM) (t c : AC) : PM := match t with
  | .inl (_, fs) => (match c with
    | .inl (_, fs') => pmVs m fs fs'
    | _ => m)
  | .inr (.inl (_, _, k)) => (match c with
    | .inr (.inl (_, _, k')) => (m.1, sin m.2.1 k k', m.2.2)
    | _ => m)
  | .inr (.inr (.inl _)) => m
  | .inr (.inr (.inr (.inl (_, fs)))) => (match c with
    | .inr (.inr (.inr (.inl (_, fs')))) => pmVs m fs fs'
    | _ => m)
  | .inr (.inr (.inr (.inr (_, _, cs)))) => (match c with
    | .inr (.inr (.inr (.inr (_, _, cs')))) => pmVs m (cs.map (fun k => .inr (.inr (.inl k)))) (cs'.map (fun k => .inr (.inr (.inl k))))
    | _ => m)
def pmCl (cl : List AC) : Nat → List AC → PM → PM
  | _, [], m => m
  | k, t :: ts, m => pmCl cl (k + 1) ts (match m.2.2.2[k]? with
    | some (some c) => (match cl[c]? with
      | some ac => pmC m t ac
      | none => m)
    | _ => m)
def pmF (m : PM) : MM := (m.1.map (fun o => o.getD (0, 0)), m.2.1.map (fun o => o.getD 0), m.2.2.1.map (fun o => o.getD (.inr (.inr (.inr (.inl ()))))), m.2.2.2.map (fun o => o.getD 0))
def seedE (l : List (Option (Nat × Int))) : List (Nat × Int) → List (Nat × Int) → List (Option (Nat × Int))
  | e :: r, e' :: r' => seedE (sin l e.1 (e'.1, e'.2 - e.2)) r r'
  | _, _ => l
def seed1 (ow : Nat × AW) (con : Con) (t : Nat) (l : List (Option (Nat × Int))) : List (Option (Nat × Int)) := if xal con.1 t then (match xp t con.2.2.2.2.1, xp t ow.2 with
  | some z, some z' => seedE l z.1 z'.1
  | _, _ => l) else l
def mkCall (ow : Nat × AW) (con : Con) (n : Nat) (a : AS) : MM :=
  pmF (pmCl a.1.2.2.2 0 con.2.2.2.2.1.2.2.2 (pmVs (seed1 ow con 1 (seed1 ow con 2 (some (0, 0) :: List.replicate (con.2.2.2.2.1.1.length - 1) none)), List.replicate con.2.2.2.2.1.2.1.length none, List.replicate con.2.2.1 none, List.replicate con.2.2.2.2.1.2.2.2.length none) con.2.2.2.1 (a.2.2.take n).reverse))
def pmL (loc : List (Nat × AV)) : PM → List (Nat × AV) → PM
  | m, [] => m
  | m, q :: r => pmL loc (match lk q.1 loc with
    | some c => pmV m q.2 c
    | none => m) r
def mkCut (nb nf nω : Nat) (T a : AS) : MM :=
  pmF (pmCl a.1.2.2.2 0 T.1.2.2.2 (pmVs (pmL a.2.1 ((List.range nb).map (fun k => some (k, 0)) ++ List.replicate (T.1.1.length - nb) none, (List.range nf).map some ++ List.replicate (T.1.2.1.length - nf) none, (idX nω).map some, (List.range a.1.2.2.2.length).map some) T.2.1) T.2.2 a.2.2))
/-! what goes down on every road -/
abbrev RK : Type := Int × List (Int × (Nat × Int))
abbrev Inv : Type := Nat × AS × RK
def rks (σ : List Int) : List (Int × (Nat × Int)) → Int
  | [] => 0
  | q :: r => q.1 * ev σ q.2 + rks σ r
def rkv (σ : List Int) (r : RK) : Int := r.1 + rks σ r.2
def rkLo (bs : BS) (cs : CS) : List (Int × (Nat × Int)) → Option Int
  | [] => some 0
  | q :: r => match bnd bs cs q.2, rkLo bs cs r with
    | some b, some z => some ((if 0 ≤ q.1 then q.1 * b.1 else q.1 * b.2) + z)
    | _, _ => none
theorem rkLo_ok {bs : BS} {cs : CS} {σ : List Int} (hB : zB bs σ) (hC : zC cs σ) : ∀ {ts : List (Int × (Nat × Int))} {z : Int}, rkLo bs cs ts = some z → z ≤ rks σ ts ∧ ∀ q ∈ ts, vl σ q.2 (ev σ q.2)
  | [], z, h => by
    cases h
    exact ⟨Int.le_refl _, fun q hq => by cases hq⟩
  | q :: r, z, h => by
    unfold rkLo at h
    cases e1 : bnd bs cs q.2 with
    | none => rw [e1] at h; cases h
    | some b =>
      cases e2 : rkLo bs cs r with
      | none => rw [e1, e2] at h; cases h
      | some z' =>
        rw [e1, e2] at h
        cases h
        obtain ⟨h1, h2⟩ := rkLo_ok hB hC e2
        have h3 := bnd_vl hB e1
        have h4 := bnd_ok hB hC e1 h3
        refine ⟨?_, fun x hx => ?_⟩
        · simp only [rks]
          by_cases c : 0 ≤ q.1
          · rw [if_pos c]
            have := Int.mul_le_mul_of_nonneg_left h4.1 c
            omega
          · rw [if_neg c]
            have := Int.mul_le_mul_of_nonpos_left (a := q.1) (by omega : q.1 ≤ 0) h4.2
            omega
        · rcases List.mem_cons.mp hx with rfl | hx
          · exact h3
          · exact h2 x hx
/-- at least so much more the one row of terms has than the other -/
def dlt (bs : BS) (cs : CS) : List (Int × (Nat × Int)) → List (Int × (Nat × Int)) → Option Int
  | [], [] => some 0
  | p :: r, q :: t => if p.1 == q.1 && decide (p.2.1 < bs.length) && decide (q.2.1 < bs.length) then (if 0 ≤ p.1 then (match dubE bs cs q.2 p.2, dlt bs cs r t with
      | some z, some w => some (w - p.1 * z)
      | _, _ => none)
    else (match dubE bs cs p.2 q.2, dlt bs cs r t with
      | some z, some w => some (w + p.1 * z)
      | _, _ => none)) else none
  | _, _ => none
theorem dlt_ok {bs : BS} {cs : CS} {σ : List Int} (hB : zB bs σ) (hC : zC cs σ) : ∀ {ps qs : List (Int × (Nat × Int))} {z : Int}, dlt bs cs ps qs = some z → z ≤ rks σ ps - rks σ qs
  | [], [], z, h => by
    cases h
    simp [rks]
  | p :: r, q :: t, z, h => by
    unfold dlt at h
    have hin : ∀ e : Nat × Int, e.1 < bs.length → vl σ e (ev σ e) := fun e he => by
      obtain ⟨t, t1, _⟩ := P2.get hB (List.getElem?_eq_getElem he)
      exact ⟨t, t1, by unfold ev; rw [t1]; rfl⟩
    by_cases c : (p.1 == q.1 && decide (p.2.1 < bs.length) && decide (q.2.1 < bs.length)) = true
    · rw [if_pos c] at h
      have c' : (p.1 = q.1 ∧ p.2.1 < bs.length) ∧ q.2.1 < bs.length := by simpa using c
      have vp := hin _ c'.1.2
      have vq := hin _ c'.2
      by_cases d : 0 ≤ p.1
      · rw [if_pos d] at h
        cases e1 : dubE bs cs q.2 p.2 with
        | none => rw [e1] at h; cases h
        | some w =>
          cases e2 : dlt bs cs r t with
          | none => rw [e1, e2] at h; cases h
          | some y =>
            rw [e1, e2] at h
            cases h
            have h1 := dlt_ok hB hC e2
            have h2 := dubE_ok hB hC vq vp e1
            have h3 := Int.mul_le_mul_of_nonneg_left h2 d
            rw [Int.mul_sub] at h3
            simp only [rks]
            rw [← c'.1.1]
            omega
      · rw [if_neg d] at h
        cases e1 : dubE bs cs p.2 q.2 with
        | none => rw [e1] at h; cases h
        | some w =>
          cases e2 : dlt bs cs r t with
          | none => rw [e1, e2] at h; cases h
          | some y =>
            rw [e1, e2] at h
            cases h
            have h1 := dlt_ok hB hC e2
            have h2 := dubE_ok hB hC vp vq e1
            have h3 := Int.mul_le_mul_of_nonpos_left (a := p.1) (by omega : p.1 ≤ 0) h2
            rw [Int.mul_sub] at h3
            simp only [rks]
            rw [← c'.1.1]
            omega
    · rw [if_neg c] at h
      cases h
  | [], _ :: _, z, h => by cases h
  | _ :: _, [], z, h => by cases h
def trR (μ : List (Nat × Int)) (q : Int × (Nat × Int)) : Option (Int × (Nat × Int)) := match trE μ q.2 with
  | some z => some (q.1, z)
  | none => none
theorem trR_ok {μ : List (Nat × Int)} {σ : List Int} : ∀ {ts us : List (Int × (Nat × Int))}, omap (trR μ) ts = some us → rks (μ.map (ev σ)) ts = rks σ us
  | [], us, h => by
    cases h
    rfl
  | q :: r, us, h => by
    unfold omap at h
    cases e1 : trR μ q with
    | none => rw [e1] at h; cases h
    | some b =>
      cases e2 : omap (trR μ) r with
      | none => rw [e1, e2] at h; cases h
      | some s =>
        rw [e1, e2] at h
        cases h
        have h1 := trR_ok (σ := σ) e2
        unfold trR trE at e1
        cases e3 : μ[q.2.1]? with
        | none => rw [e3] at e1; cases e1
        | some z =>
          rw [e3] at e1
          cases e1
          simp only [rks]
          rw [h1]
          have : ev (μ.map (ev σ)) q.2 = ev σ (z.1, z.2 + q.2.2) := by
            unfold ev
            rw [List.getElem?_map, e3]
            simp only [Option.map_some, Option.getD_some]
            omega
          rw [this]
/-- the row goes down from the start to the cut J -/
def goDown (rs : Option RK) (J : RK) (bs : BS) (cs : CS) (μ : List (Nat × Int)) : Bool := match rs with
  | none => true
  | some r => (match omap (trR μ) J.2 with
    | some us => (match dlt bs cs r.2 us with
      | some z => decide (1 ≤ r.1 - J.1 + z)
      | none => false)
    | none => false)
