/-! calls over any count of cells and slots; made by program; own -/
section QYR
variable {nc ns : Nat} {p : Program} {l : Launch} {e : Env} {R : Room} {s : State} {m : MethodId} {args : Array Value} {below : List Frame} {meth : Method} {c : Code} {H : Heap} {locs : List Loc} {Q : State → Prop} {pc : Nat} {ls : Array Slot} {rest : List Value} {D : va_G} {A : Nat → Prop} {ws wc : va_W} {H0 : Heap} {st0 : List Value} {av : Array Value}
theorem q_y_v {B : Heap → Prop} (hP : va_P D vwCl ws H) (hD : va_D A ws) (hS : va_S A H0 H locs) (hA : ∀ q, H0.size ≤ q → A q) (isC : List Nat) (hC : isC.map (fun i => ws[i]?) = wc.map some)
    (hr : va_Run p l e R s m args below meth c H locs nc ns 0 0 (F0 m pc ls st0) rest (qv B (va_A wc H.size) av) (va_A wc H.size))
    (kk : ∀ (H1 : Heap) (locs1 : List Loc), B H1 → (∀ (k : Nat) (q : Nat × va_E), ws[k]? = some q → k ∉ isC → va_at D vwCl q H1) → va_S A H0 H1 locs1 → W p l e R s m args below meth c H1 locs1 nc ns Q (F0 m (pc + 3) ls rest)) : W p l e R s m args below meth c H locs nc ns Q (F0 m pc ls st0) := by
  have hF := va_free (wc := wc) hD hS hA isC hC
  refine va_callv hr hS (fun q _ h => hF q h) hF (fun u t H1 locs1 ht hvm hw hB hz1 hk1 hS1 => ?_)
  rw [ht] at hB
  exact kk H1 locs1 hB (va_rest hP hD isC hC hk1) hS1
theorem q_y_i {B : Int32 → Heap → Prop} (hP : va_P D vwCl ws H) (hD : va_D A ws) (hS : va_S A H0 H locs) (hA : ∀ q, H0.size ≤ q → A q) (isC : List Nat) (hC : isC.map (fun i => ws[i]?) = wc.map some)
    (hr : va_Run p l e R s m args below meth c H locs nc ns 0 0 (F0 m pc ls st0) rest (qi B (va_A wc H.size) av) (va_A wc H.size))
    (kk : ∀ (r : Int32) (H1 : Heap) (locs1 : List Loc), B r H1 → (∀ (k : Nat) (q : Nat × va_E), ws[k]? = some q → k ∉ isC → va_at D vwCl q H1) → va_S A H0 H1 locs1 → W p l e R s m args below meth c H1 locs1 nc ns Q (F0 m (pc + 3) ls (.int r :: rest))) : W p l e R s m args below meth c H locs nc ns Q (F0 m pc ls st0) := by
  have hF := va_free (wc := wc) hD hS hA isC hC
  refine va_calli hr hS (fun q _ h => hF q h) hF (fun r u t H1 locs1 ht hvm hw hB hz1 hk1 hS1 => ?_)
  subst hw
  rw [ht] at hB
  exact kk r H1 locs1 hB (va_rest hP hD isC hC hk1) hS1
theorem q_y_l {B : Int64 → Heap → Prop} (hP : va_P D vwCl ws H) (hD : va_D A ws) (hS : va_S A H0 H locs) (hA : ∀ q, H0.size ≤ q → A q) (isC : List Nat) (hC : isC.map (fun i => ws[i]?) = wc.map some)
    (hr : va_Run p l e R s m args below meth c H locs nc ns 0 0 (F0 m pc ls st0) rest (ql B (va_A wc H.size) av) (va_A wc H.size))
    (kk : ∀ (r : Int64) (H1 : Heap) (locs1 : List Loc), B r H1 → (∀ (k : Nat) (q : Nat × va_E), ws[k]? = some q → k ∉ isC → va_at D vwCl q H1) → va_S A H0 H1 locs1 → W p l e R s m args below meth c H1 locs1 nc ns Q (F0 m (pc + 3) ls (.long r :: rest))) : W p l e R s m args below meth c H locs nc ns Q (F0 m pc ls st0) := by
  have hF := va_free (wc := wc) hD hS hA isC hC
  refine va_calll hr hS (fun q _ h => hF q h) hF (fun r u t H1 locs1 ht hvm hw hB hz1 hk1 hS1 => ?_)
  subst hw
  rw [ht] at hB
  exact kk r H1 locs1 hB (va_rest hP hD isC hC hk1) hS1
/-- all three in one -/
theorem q_y_c {ret : Option FieldType} {P : Option Value → Heap → Prop} (hP : va_P D vwCl ws H) (hD : va_D A ws) (hS : va_S A H0 H locs) (hA : ∀ q, H0.size ≤ q → A q) (isC : List Nat) (hC : isC.map (fun i => ws[i]?) = wc.map some)
    (hr : va_Run p l e R s m args below meth c H locs nc ns 0 0 (F0 m pc ls st0) rest (ConQ ret P (va_A wc H.size) av) (va_A wc H.size))
    (kk : ∀ (v : Option Value) (H1 : Heap) (locs1 : List Loc), P v H1 → (∀ (k : Nat) (q : Nat × va_E), ws[k]? = some q → k ∉ isC → va_at D vwCl q H1) → va_S A H0 H1 locs1 → W p l e R s m args below meth c H1 locs1 nc ns Q (F0 m (pc + 3) ls (v.toList ++ rest))) : W p l e R s m args below meth c H locs nc ns Q (F0 m pc ls st0) := by
  unfold ConQ at hr
  split at hr
  · exact q_y_v hP hD hS hA isC hC hr (fun H1 locs1 hB hk hS1 => kk none H1 locs1 hB hk hS1)
  · exact q_y_l hP hD hS hA isC hC hr (fun r H1 locs1 hB hk hS1 => kk (some (.long r)) H1 locs1 hB hk hS1)
  · exact q_y_i hP hD hS hA isC hC hr (fun r H1 locs1 hB hk hS1 => kk (some (.int r)) H1 locs1 hB hk hS1)
end QYR
section QCL
variable {nc ns : Nat} {p : Program} {l : Launch} {e : Env} {R : Room} {s : State} {m : MethodId} {args : Array Value} {below : List Frame} {meth : Method} {c : Code} {Q : State → Prop} {cc : ByteArray} {D : va_G} {cy : Nat → ClassId} {A : Nat → Prop} {nL : Nat} {own : String} {w0 : Cond} {ω : List Value} {ad : Nat → Nat} {σ0 : List Int} {φ0 : List (Nat → Int32)} {pc : Nat} {a a' : AS}
theorem q_call_core (hX : CTX p s m args c cc nL own w0 D cy A) {MT : Nat → MI} {con : Con} {n : Nat} {M : MM} {L : List AS} (hc : ConOK MT l con) (hxp : ∀ (σ : List Int) (φ : List (Nat → Int32)), pfx σ0 σ → pfx φ0 φ → XP con (M.1.map (ev σ)) (M.2.1.map (fv φ))) (h : callA ω.length con n M a = some L) (hk : ∀ a' ∈ L, OkA (Wc nc ns p l e R s m args below meth c Q) D cy A s.heap nL ω ad σ0 φ0 a' (pc + 3)) :
    ∀ (σ : List Int) (φ : List (Nat → Int32)) (ws : va_W) (lv : List (Nat × Value)) (stk : List Value) (H : Heap) (locs : List Loc) (ls : Array Slot), pfx σ0 σ → pfx φ0 φ → GS cy ω ad a σ φ ws lv stk → va_P D vwCl ws H → va_D A ws → va_S A s.heap H locs → lv_has ls nL lv →
    ∃ (As rest : List Value) (wc : va_W) (B : Option Value → Heap → Prop), As.length = n ∧ stk = As.reverse ++ rest ∧ P2 (gx σ ω ad) (a.2.2.take n).reverse As ∧ M.2.2.2.map (fun i => ws[i]?) = wc.map some ∧ va_nd M.2.2.2 = true ∧ (rest.map fun v => v.category).sum ≤ 8 ∧ (∀ i : Nat, 10000 ≤ i → adc ad M.2.2.2 i = ad i) ∧
      Met l (MT con.1).1 (Cond.code (MT con.1).1 (MT con.1).2.1 (MT con.1).2.2.1 (MT con.1).2.2.2 :: bigG) ({ frames := con.2.1.1, cells := 0, slots := 0, locals := con.2.1.2 }) (preX D cy (adc ad M.2.2.2) As H.size wc) (ConQ (MT con.1).2.2.2 B (va_A wc H.size)) 0 0 (va_A wc H.size) ∧
      (∀ (av : Array Value) (st0 : List Value), va_Run p l e R s m args below meth c H locs nc ns 0 0 (F0 m pc ls st0) rest (ConQ (MT con.1).2.2.2 B (va_A wc H.size) av) (va_A wc H.size) → Wc nc ns p l e R s m args below meth c Q H locs pc ls st0) := by
  intro σ φ ws lv stk H locs ls hσ hφ hG hP hD hS hl
  obtain ⟨hx, hb, hml, hown, hts, hK, hA⟩ := hX
  obtain ⟨⟨hB, hF, hC, hW⟩, hL, hT⟩ := hG
  unfold callA at h
  split at h
  · rename_i t
    have t' : ((((((chkA a.1 con.2.2.2.2.1 M.1 M.2.1 M.2.2.1 M.2.2.2 = true ∧ all2 (chkT M.1 M.2.2.1 M.2.2.2) con.2.2.2.1 (a.2.2.take n).reverse = true) ∧ M.2.2.1.length = con.2.2.1) ∧ M.2.2.1.all (chkX ω.length a.1.1 a.1.2.2.1) = true) ∧ va_nd M.2.2.2 = true) ∧ catS (a.2.2.drop n) ≤ 8) ∧ n ≤ a.2.2.length) ∧ M.2.2.2.length ≤ 10000 := by
      simpa [Bool.and_eq_true, List.all_eq_true] using t
    obtain ⟨⟨⟨⟨⟨⟨⟨t1, t2⟩, t3⟩, t4⟩, t5⟩, t6⟩, t7⟩, t8⟩ := t'
    obtain ⟨wc, g1, g2⟩ := chkA_ok t1 ⟨hB, hF, hC, hW⟩
    obtain ⟨s1, s2⟩ := P2.split n hT
    have hlen : stk.length = a.2.2.length := (P2.len hT).symm
    have s3 := s1.rev
    have hpre : ConPre cy (M.2.2.1.map (cv σ ω ad)) (adc ad M.2.2.2) con (M.1.map (ev σ)) (M.2.1.map (fv φ)) (stk.take n).reverse wc := ⟨g2, all2_ok (R := gx σ ω ad) (S := gx (M.1.map (ev σ)) (M.2.2.1.map (cv σ ω ad)) (adc ad M.2.2.2)) (fun _ _ _ q r => chkT_ok q r) t2 s3, by rw [List.length_map]; exact t3, hxp σ φ hσ hφ⟩
    refine ⟨(stk.take n).reverse, stk.drop n, wc, _, by rw [List.length_reverse, List.length_take]; omega, by rw [List.reverse_reverse, List.take_append_drop], s3, g1, t5, by rw [catS_ok s2]; exact t6, (fun i hi => by unfold adc; rw [List.getElem?_eq_none (by omega)]; rfl), hc D cy _ _ _ _ _ wc H.size hpre, fun av0 st0 hr => ?_⟩
    refine q_y_c hP hD hS hA M.2.2.2 g1 hr (fun v H1 locs1 hB1 hrest hS1 => ?_)
    obtain ⟨alt, ha, τ, ψ, w1, k1, k2, k3⟩ := hB1
    obtain ⟨a', m1, m2⟩ := omap_mem h ha
    have hmu : ∀ (k : Nat) (z : Nat × Int), M.1[k]? = some z → vl σ z (ev σ z) := by
      intro k z hz
      have hb1 : chkB a.1.1 a.1.2.2.1 con.2.2.2.2.1.1 M.1 = true := by
        simp only [chkA, Bool.and_eq_true] at t1
        exact t1.1.1.1
      have hlt : k < con.2.2.2.2.1.1.length := by rw [all2_len hb1]; exact (List.getElem?_eq_some_iff.mp hz).1
      obtain ⟨z', j1, j2⟩ := all2_get hb1 (List.getElem?_eq_getElem hlt)
      rw [hz] at j1
      cases j1
      cases q : bnd a.1.1 a.1.2.2.1 z with
      | none => rw [q] at j2; cases j2
      | some b => exact bnd_vl hB q
    have hnu : ∀ (k z : Nat), M.2.1[k]? = some z → ∃ f, φ[z]? = some f := by
      intro k z hz
      have hb1 : chkF a.1.2.1 con.2.2.2.2.1.2.1 M.2.1 = true := by
        simp only [chkA, Bool.and_eq_true] at t1
        exact t1.1.1.2
      have hlt : k < con.2.2.2.2.1.2.1.length := by rw [all2_len hb1]; exact (List.getElem?_eq_some_iff.mp hz).1
      obtain ⟨z', j1, j2⟩ := all2_get hb1 (List.getElem?_eq_getElem hlt)
      rw [hz] at j1
      cases j1
      cases q : a.1.2.1[z]? with
      | none => rw [q] at j2; cases j2
      | some b =>
        obtain ⟨f, f1, _⟩ := P2.get hF q
        exact ⟨f, f1⟩
    have hxi : ∀ (k : Nat) (z : AV), M.2.2.1[k]? = some z → gv σ ω ad z (cv σ ω ad z) := fun k z hz => chkX_ok hB hC (List.all_eq_true.mp t4 z (List.mem_of_getElem? hz))
    obtain ⟨ws', n1, n2, n3⟩ := altA_ok m2 ⟨hB, hF, hC, hW⟩ hL s2 hD hmu hnu hxi g1 k1 k2 k3 hrest
    exact hk a' m1 (σ ++ τ) (φ ++ ψ) ws' lv _ H1 locs1 ls hσ.app hφ.app n1 n2 n3 hS1 hl
  · cases h
theorem q_s_callV (hX : CTX p s m args c cc nL own w0 D cy A) {MT : Nat → MI} {con : Con} {q : Nat × Nat × Nat × Nat × Nat} {M : MM} {L : List AS} (hRc : nc ≤ R.cells ∧ ns ≤ R.slots) (hF : SF ad A s) (hc : ConOK MT l con) (hxp : ∀ (σ : List Int) (φ : List (Nat → Int32)), pfx σ0 σ → pfx φ0 φ → XP con (M.1.map (ev σ)) (M.2.1.map (fv φ))) (hq : COK MT own q) (hm : con.1 = q.2.2.1) (hw : q.2.1 = 0) (hR : con.2.1.1 + 1 ≤ R.frames ∧ 8 + ((MT con.1).2.2.1 + 11) + con.2.1.2 ≤ R.locals) (hd : decode cc pc = .ok (.invokevirtual q.1, 3)) (hrc : recvA (q.2.2.2.1 + 1) q.2.2.2.2 a = true) (h : callA ω.length con (q.2.2.2.1 + 1) M a = some L) (hk : ∀ a' ∈ L, OkA (Wc nc ns p l e R s m args below meth c Q) D cy A s.heap nL ω ad σ0 φ0 a' (pc + 3)) : OkA (Wc nc ns p l e R s m args below meth c Q) D cy A s.heap nL ω ad σ0 φ0 a pc := by
  intro σ φ ws lv stk H locs ls hσ hφ hG hP hD hS hl
  obtain ⟨As, rest, wc, B, l1, l2, l3, l4, l5, l6, l7, hM, go⟩ := q_call_core hX hc hxp h hk σ φ ws lv stk H locs ls hσ hφ hG hP hD hS hl
  obtain ⟨hx, hb, hml, hown, hts, hK, hA⟩ := hX
  obtain ⟨⟨hB, hF', hC, hW⟩, hL, hT⟩ := hG
  unfold recvA at hrc
  split at hrc
  · rename_i k r q1
    rw [q1] at l3
    match As, l1, l2, l3, hM, go with
    | v :: As', l1, l2, l3, hM, go =>
      have hv : v = .ref (ad k) := l3.1.1
      subst hv
      split at hrc
      · rename_i ci' fs q2
        have e1 : ci' = q.2.2.2.2 := by simpa using hrc
        obtain ⟨en, w1, w2⟩ := hW.2 k _ q2
        obtain ⟨vs, rfl, w3⟩ := w2
        obtain ⟨c1, c2', c3, c4, c5⟩ := hq
        rw [hw] at c5
        obtain ⟨c6, c7, T, N, c8⟩ := c5
        rw [hm] at hM go hR
        have cw := cwV (R := R) (Ts := w0 :: bigG) (rm := { frames := con.2.1.1, cells := 0, slots := 0, locals := con.2.1.2 }) (mc := 0) (ms := 0) q.2.2.2.1 hts (gV c1 c6 c7 c2' c3) rfl rfl rfl ⟨rfl, c4⟩ hR
        refine go _ _ (va_runV (As := As') (rest := rest) ⟨hx, hb, hml, hown, hts⟩ hM cw (preXV hK hP hD hS hA hF l7 M.2.2.2 l4 l5 (va_recv hK.1 hP c8 (show ws[k]? = _ by rw [w1, e1]))) rfl (by simpa using l1) hl.1 ?_ (lv_room l6) hd hRc)
        show stk = _
        rw [l2]
        simp
      · cases hrc
    | [], l1, l2, l3, hM, go => exact l3.elim
  · cases hrc
end QCL
/-! the law's own run: the script is the cell 40000, its length the symbol 1 -/
def scA (pc len : Nat) (ins : Instr) (a : AS) : Option (List (AS × Nat)) := match ins with
  | .iaload => (match a.2.2 with
    | .inl x :: .inr (.inr (.inl k)) :: st => if k == 40000 then (match bnd a.1.1 a.1.2.2.1 x, dubE a.1.1 a.1.2.2.1 x (1, 0) with
      | some b, some z => if decide (0 ≤ b.1) && decide (z ≤ -1) && (len == 1) then some [(pushI a.1 a.2.1 st (fullR a.1.1 a.1.2.2.1), pc + 1)] else none
      | _, _ => none) else none
    | _ => none)
  | .arraylength => (match a.2.2 with
    | .inr (.inr (.inl k)) :: st => if k == 40000 && (len == 1) then some [((a.1, a.2.1, .inl (1, 0) :: st), pc + 1)] else none
    | _ => none)
  | _ => none
/-- at the law's cuts: the class's signs are row 0, the reference's row 181: alike below the length, symbol 3 -/
def RLx (σ : List Int) (φ : List (Nat → Int32)) : Prop := ∃ (f g : Nat → Int32) (x : Int), φ[0]? = some f ∧ φ[181]? = some g ∧ σ[3]? = some x ∧ (∀ j, 0 ≤ (f j).toInt ∧ (f j).toInt ≤ 127) ∧ ∀ j : Nat, (j : Int) < x → f j = g j
theorem RLx.app {σ τ : List Int} {φ ψ : List (Nat → Int32)} (h : RLx σ φ) : RLx (σ ++ τ) (φ ++ ψ) := by
  obtain ⟨f, g, x, h1, h2, h3, h4, h5⟩ := h
  exact ⟨f, g, x, gapp h1, gapp h2, gapp h3, h4, h5⟩
def relB (bs : BS) (cs : CS) (μ : List (Nat × Int)) (ν : List Nat) : Bool := (match ν[0]?, ν[181]?, μ[3]? with
  | some k0, some k1, some e => Nat.beq k0 0 && ((Nat.beq k1 181 && (Nat.beq e.1 3 && decide (e.2 = 0))) || (match bnd bs cs e with
      | some b => decide (b.2 ≤ 0)
      | none => false))
  | _, _, _ => false)
theorem relB_ok {bs : BS} {cs : CS} {μ : List (Nat × Int)} {ν : List Nat} {σ : List Int} {φ : List (Nat → Int32)} (hB : zB bs σ) (hC : zC cs σ) (h : relB bs cs μ ν = true) (hR : RLx σ φ) : RLx (μ.map (ev σ)) (ν.map (fv φ)) := by
  obtain ⟨f, g, x, h1, h2, h3, h4, h5⟩ := hR
  unfold relB at h
  split at h
  · rename_i k0 k1 e q0 q1 q2
    obtain ⟨a, b⟩ := Bool.and_eq_true_iff.mp h
    have a' : k0 = 0 := Nat.eq_of_beq_eq_true a
    subst a'
    have e0 : fv φ 0 = f := by
      unfold fv
      rw [h1]
      rfl
    refine ⟨f, fv φ k1, ev σ e, by rw [List.getElem?_map, q0, ← e0]; rfl, by rw [List.getElem?_map, q1]; rfl, by rw [List.getElem?_map, q2]; rfl, h4, fun j hj => ?_⟩
    rcases Bool.or_eq_true_iff.mp b with b | b
    · obtain ⟨b1, b2⟩ := Bool.and_eq_true_iff.mp b
      obtain ⟨b3, b4⟩ := Bool.and_eq_true_iff.mp b2
      have b1' : k1 = 181 := Nat.eq_of_beq_eq_true b1
      have b3' : e.1 = 3 := Nat.eq_of_beq_eq_true b3
      have b4' : e.2 = 0 := of_decide_eq_true b4
      have e1 : fv φ 181 = g := by
        unfold fv
        rw [h2]
        rfl
      rw [b1', e1]
      refine h5 j ?_
      have e2 : ev σ e = x + 0 := by
        unfold ev
        rw [b3', h3, b4']
        rfl
      omega
    · split at b
      · rename_i bb q3
        have b' : bb.2 ≤ 0 := of_decide_eq_true b
        have g1 := bnd_ok hB hC q3 (bnd_vl hB q3)
        omega
      · cases b
  · cases h
/-- a cut at which the relation holds too -/
def goAL (nb nf nω : Nat) (invs : List Inv) (rs : Option RK) (f : AS → Nat → Bool) (a : AS) (pc : Nat) : Bool :=
  if Nat.testBit (msk invs) pc then invs.any (fun J => Nat.beq J.1 pc && pvB J.2.1 a && ((cutQ nb nf nω J.2.1 a (geCut nb nf J.2.1 a).1 (geCut nb nf J.2.1 a).2 nb nf && goDown rs J.2.2 a.1.1 a.1.2.2.1 (geCut nb nf J.2.1 a).1 && relB a.1.1 a.1.2.2.1 (geCut nb nf J.2.1 a).1 (geCut nb nf J.2.1 a).2) || (cutB nb nf nω J.2.1 a (mkCut nb nf nω J.2.1 a).1 (mkCut nb nf nω J.2.1 a).2.1 && goDown rs J.2.2 a.1.1 a.1.2.2.1 (mkCut nb nf nω J.2.1 a).1 && relB a.1.1 a.1.2.2.1 (mkCut nb nf nω J.2.1 a).1 (mkCut nb nf nω J.2.1 a).2.1))) else f a pc
theorem goAL_inv {nb nf nω : Nat} {invs : List Inv} {rs : Option RK} {f : AS → Nat → Bool} {a : AS} {pc : Nat} (h : goAL nb nf nω invs rs f a pc = true) : (∃ J ∈ invs, J.1 = pc ∧ ∃ (μ : List (Nat × Int)) (ν : List Nat), cutB nb nf nω J.2.1 a μ ν = true ∧ goDown rs J.2.2 a.1.1 a.1.2.2.1 μ = true ∧ relB a.1.1 a.1.2.2.1 μ ν = true) ∨ f a pc = true := by
  unfold goAL at h
  split at h
  · obtain ⟨J, hJ, h1⟩ := List.any_eq_true.mp h
    simp only [Bool.and_eq_true, Bool.or_eq_true] at h1
    obtain ⟨⟨h2, _⟩, h3⟩ := h1
    refine Or.inl ⟨J, hJ, Nat.eq_of_beq_eq_true h2, ?_⟩
    rcases h3 with ⟨⟨h4, h5⟩, h6⟩ | ⟨⟨h4, h5⟩, h6⟩
    · exact ⟨_, _, cutQ_ok h4, h5, h6⟩
    · exact ⟨_, _, h4, h5, h6⟩
  · exact Or.inr h
/-- nobody's -/
def ow0 : Nat × AW := (0, ([], [], [], []))
theorem ow0_no {σ : List Int} {φ : List (Nat → Int32)} : ∀ t ∈ [1, 2], xal ow0.1 t = true → XPo t (xp t ow0.2) σ φ := by
  intro t ht h
  have hno : ∀ t ∈ [1, 2], xal ow0.1 t = false := by decide
  rw [hno t ht] at h
  cases h
def runL (MT : Nat → MI) (ow : Nat × AW) (nL nω nb nf fr lc : Nat) (K : KT) (code : List (Nat × Instr × Nat)) (CT : CTT) (cons : List Con) (invs : List Inv) (rs : Option RK) : Nat → AS → Nat → Bool
  | 0, _, _ => false
  | n + 1, a, pc => match fndP pc code with
    | none => false
    | some (ins, len) => match ins with
      | .invokevirtual i => len == 3 && (match callsA MT ow nω fr lc 0 CT cons i a with
        | some L => L.all (fun b => goAL nb nf nω invs rs (runL MT ow nL nω nb nf fr lc K code CT cons invs rs n) b (pc + 3))
        | none => false)
      | ins => (match scA pc len ins a with
        | some L => L.all (fun q => goAL nb nf nω invs rs (runL MT ow nL nω nb nf fr lc K code CT cons invs rs n) q.1 q.2)
        | none => (match stepA nL K pc len ins a with
          | some L => L.all (fun q => goAL nb nf nω invs rs (runL MT ow nL nω nb nf fr lc K code CT cons invs rs n) q.1 q.2)
          | none => false))
def InvL (Wp : Nat → Nat → Heap → List Loc → Nat → Array Slot → List Value → Prop) (kc ks C S : Int) (D : va_G) (cy : Nat → ClassId) (A : Nat → Prop) (H0 : Heap) (nL : Nat) (ω : List Value) (ad : Nat → Nat) (σp : List Int) (φp : List (Nat → Int32)) (J : Inv) (N : Int) : Prop := ∀ (σ : List Int) (φ : List (Nat → Int32)) (ws : va_W) (lv : List (Nat × Value)) (stk : List Value) (H : Heap) (locs : List Loc) (ls : Array Slot) (nc ns : Nat), pfx σp σ → pfx φp φ → RLx σ φ → GS cy ω ad J.2.1 σ φ ws lv stk → va_P D vwCl ws H → va_D A ws → va_S A H0 H locs → lv_has ls nL lv → rkv σ J.2.2 < N → (nc : Int) + kc * rkv σ J.2.2 ≤ C → (ns : Int) + ks * rkv σ J.2.2 ≤ S → Wp nc ns H locs J.1 ls stk
section QRN
variable {nc ns : Nat} {p : Program} {l : Launch} {e : Env} {R : Room} {s : State} {m : MethodId} {args : Array Value} {below : List Frame} {meth : Method} {c : Code} {Q : State → Prop} {cc : ByteArray} {D : va_G} {cy : Nat → ClassId} {A : Nat → Prop} {nL : Nat} {own : String} {w0 : Cond} {ω : List Value} {ad : Nat → Nat} {σ0 : List Int} {φ0 : List (Nat → Int32)} {pc : Nat} {a a' : AS}
variable {kc ks C S : Int} {σp : List Int} {φp : List (Nat → Int32)}
theorem q_goA_ok {Wp : Nat → Nat → Heap → List Loc → Nat → Array Slot → List Value → Prop} {H0 : Heap} {invs : List Inv} {r : RK} {f : AS → Nat → Bool} {b : AS} (hkc : 0 ≤ kc) (hks : 0 ≤ ks) (hp : pfx σp σ0) (hpf : pfx φp φ0) (hinv : ∀ J ∈ invs, InvL Wp kc ks C S D cy A H0 nL ω ad σp φp J (rkv σ0 r)) (hrs : ∀ q ∈ r.2, vl σ0 q.2 (ev σ0 q.2)) (hRL : RLx σ0 φ0) (hc1 : (nc : Int) + kc * rkv σ0 r ≤ C) (hc2 : (ns : Int) + ks * rkv σ0 r ≤ S) (h : goAL σp.length φp.length ω.length invs (some r) f b pc = true) (hf : f b pc = true → OkA (Wp nc ns) D cy A H0 nL ω ad σ0 φ0 b pc) : OkA (Wp nc ns) D cy A H0 nL ω ad σ0 φ0 b pc := by
  rcases goAL_inv h with ⟨J, hJ, h2', μ, ν, h3, h4, hrel⟩ | h
  · intro σ φ ws lv stk H locs ls hσ hφ hG hP hD hS hl
    have q1 : pfx σp σ := pfx.trans hp hσ
    have q2 : pfx φp φ := pfx.trans hpf hφ
    obtain ⟨lv', g1, g2, g3, g4⟩ := cut_ok h3 hG hl q1 q2
    rw [← h2']
    have hRL' : RLx σ φ := by
      obtain ⟨τ, rfl⟩ := hσ
      obtain ⟨ψ, rfl⟩ := hφ
      exact hRL.app
    have hRL2 := relB_ok hG.1.1 hG.1.2.2.1 hrel hRL'
    have hlt : rkv (μ.map (ev σ)) J.2.2 < rkv σ0 r := by
      unfold goDown at h4
      dsimp only at h4
      split at h4
      · rename_i us q3
        split at h4
        · rename_i z q4
          have h5 : 1 ≤ r.1 - J.2.2.1 + z := by simpa using h4
          have h6 := dlt_ok hG.1.1 hG.1.2.2.1 q4
          have h7 := trR_ok (σ := σ) q3
          have h8 := rks_pfx hσ hrs
          unfold rkv
          rw [h7, ← h8]
          omega
        · cases h4
      · cases h4
    have m1 := Int.mul_le_mul_of_nonneg_left (Int.le_of_lt hlt) hkc
    have m2 := Int.mul_le_mul_of_nonneg_left (Int.le_of_lt hlt) hks
    exact hinv J hJ _ _ ws lv' stk H locs ls nc ns g3 g4 hRL2 g1 hP hD hS g2 hlt (by omega) (by omega)
  · exact hf h
theorem q_sc (hX : CTX p s m args c cc nL own w0 D cy A) {b L : Nat} {xs : Nat → Int32} (hXs : va_X b L xs s s.heap) (hbl : b < s.heap.size) (hbA : ¬ A b) (had : ad 40000 = b) (hL : L < 2 ^ 31) (hσ1 : σ0[1]? = some (L : Int)) {len : Nat} {Ls : List (AS × Nat)} (hk : ∀ q ∈ Ls, OkA (Wc nc ns p l e R s m args below meth c Q) D cy A s.heap nL ω ad σ0 φ0 q.1 q.2) : ∀ (ins : Instr), scA pc len ins a = some Ls → decode cc pc = .ok (ins, len) → OkA (Wc nc ns p l e R s m args below meth c Q) D cy A s.heap nL ω ad σ0 φ0 a pc := by
  intro ins h hd σ φ ws lv stk H locs ls hσ hφ hG hP hD hS hl
  obtain ⟨hx, hb, hml, hown, hts, hK, hA⟩ := hX
  obtain ⟨⟨hB, hF, hC, hW⟩, hL', hT⟩ := hG
  have hs1 : σ[1]? = some (L : Int) := by
    obtain ⟨τ, rfl⟩ := hσ
    exact gapp hσ1
  unfold scA at h
  split at h
  · split at h
    · rename_i x k st q1
      rw [q1] at hT
      by_cases t : (k == 40000) = true
      · rw [if_pos t] at h
        have t' : k = 40000 := by simpa using t
        subst t'
        match stk, hT with
        | v1 :: v2 :: st', hT =>
          obtain ⟨x1, rfl, hvx⟩ := hT.1.1
          have hv : v2 = .ref b := by
            have : v2 = .ref (ad 40000) := hT.2.1.1
            rw [had] at this
            exact this
          subst hv
          split at h
          · rename_i bb z q2 q3
            by_cases t2 : (decide (0 ≤ bb.1) && decide (z ≤ -1) && (len == 1)) = true
            · rw [if_pos t2] at h
              cases h
              have t2' : (0 ≤ bb.1 ∧ z ≤ -1) ∧ len = 1 := by simpa using t2
              obtain ⟨⟨u1, u2⟩, rfl⟩ := t2'
              have g1 := bnd_ok hB hC q2 hvx
              have g2 := dubE_ok hB hC hvx (⟨_, hs1, (Int.add_zero _).symm⟩ : vl σ (1, 0) (L : Int)) q3
              have e1 : x1.toNatClampNeg = x1.toInt.toNat := rfl
              have hin : vp_in x1 L := by
                intro hh
                rcases hh with hh | hh
                · rw [Int32.lt_iff_toInt_lt] at hh
                  have e0 : (0 : Int32).toInt = 0 := rfl
                  omega
                · rw [e1] at hh
                  omega
              obtain ⟨τ, hg⟩ := GS.pushI (x := xs x1.toNatClampNeg) ⟨hB, hF, hC, hW⟩ hL' hT.2.2 (fullR_ok hB hC _)
              exact va_sld hx hb hXs hbl hbA hS hin hd (hk _ (List.mem_cons_self ..) (σ ++ τ) φ ws lv _ H locs ls hσ.app hφ hg hP hD hS hl)
            · rw [if_neg t2] at h
              cases h
          · cases h
        | [v1], hT => exact hT.2.elim
        | [], hT => exact hT.elim
      · rw [if_neg t] at h
        cases h
    · cases h
  · split at h
    · rename_i k st q1
      rw [q1] at hT
      by_cases t : (k == 40000 && (len == 1)) = true
      · rw [if_pos t] at h
        cases h
        have t' : k = 40000 ∧ len = 1 := by simpa using t
        obtain ⟨rfl, rfl⟩ := t'
        match stk, hT with
        | v2 :: st', hT =>
          have hv : v2 = .ref b := by
            have : v2 = .ref (ad 40000) := hT.1.1
            rw [had] at this
            exact this
          subst hv
          refine va_slen hx hb hXs hbl hbA hS hd (hk _ (List.mem_cons_self ..) σ φ ws lv _ H locs ls hσ hφ ⟨⟨hB, hF, hC, hW⟩, hL', ⟨⟨Int32.ofNat L, rfl, ?_⟩, rfl⟩, hT.2⟩ hP hD hS hl)
          refine ⟨_, hs1, ?_⟩
          show (nI L).toInt = _
          rw [nI_toInt hL]
          exact (Int.add_zero _).symm
        | [], hT => exact hT.elim
      · rw [if_neg t] at h
        cases h
    · cases h
  · cases h
theorem runL_ok (hX : CTX p s m args c cc nL own w0 D cy A) (hF : SF ad A s) {b L : Nat} {xs : Nat → Int32} (hXs : va_X b L xs s s.heap) (hbl : b < s.heap.size) (hbA : ¬ A b) (had : ad 40000 = b) (hL : L < 2 ^ 31) (hσ1 : σ0[1]? = some (L : Int)) {MT : Nat → MI} {ow : Nat × AW} (hxo : ∀ t ∈ [1, 2], xal ow.1 t = true → XPo t (xp t ow.2) σ0 φ0) {fr lc : Nat} {K : KT} {code : List (Nat × Instr × Nat)} {CT : CTT} {cons : List Con} {invs : List Inv} {r : RK} (hK : KOK own K) (hcode : ∀ q ∈ code, decode cc q.1 = .ok (q.2.1, q.2.2)) (hCT : ∀ q ∈ CT, COK MT own q) (hcons : ∀ con ∈ cons, ConOK MT l con) (hR : fr ≤ R.frames ∧ lc ≤ R.locals) (hRc : nc ≤ R.cells ∧ ns ≤ R.slots) (hkc : 0 ≤ kc) (hks : 0 ≤ ks) (hp : pfx σp σ0) (hpf : pfx φp φ0)
    (hinv : ∀ J ∈ invs, InvL (fun nc ns => Wc nc ns p l e R s m args below meth c Q) kc ks C S D cy A s.heap nL ω ad σp φp J (rkv σ0 r)) (hrs : ∀ q ∈ r.2, vl σ0 q.2 (ev σ0 q.2)) (hRL : RLx σ0 φ0) (hc1 : (nc : Int) + kc * rkv σ0 r ≤ C) (hc2 : (ns : Int) + ks * rkv σ0 r ≤ S) :
    ∀ (n : Nat) (a : AS) (pc : Nat), runL MT ow nL ω.length σp.length φp.length fr lc K code CT cons invs (some r) n a pc = true → OkA (Wc nc ns p l e R s m args below meth c Q) D cy A s.heap nL ω ad σ0 φ0 a pc := by
  intro n
  induction n with
  | zero => intro a pc h; cases h
  | succ n ih =>
    intro a pc h
    have go : ∀ (b : AS) (k : Nat), goAL σp.length φp.length ω.length invs (some r) (runL MT ow nL ω.length σp.length φp.length fr lc K code CT cons invs (some r) n) b k = true → OkA (Wc nc ns p l e R s m args below meth c Q) D cy A s.heap nL ω ad σ0 φ0 b k := fun b k hb => q_goA_ok (Wp := fun nc ns => Wc nc ns p l e R s m args below meth c Q) hkc hks hp hpf hinv hrs hRL hc1 hc2 hb (ih b k)
    unfold runL at h
    split at h
    · cases h
    · rename_i ins len q1
      have hd := hcode _ (fndP_ok q1)
      dsimp only at hd
      split at h
      · rename_i i
        simp only [Bool.and_eq_true] at h
        obtain ⟨h1, h2⟩ := h
        have h1' : len = 3 := by simpa using h1
        subst h1'
        split at h2
        · rename_i L' q2
          have h3 := List.all_eq_true.mp h2
          unfold callsA at q2
          split at q2
          · rename_i q q3
            by_cases c1 : (q.1 == 0) = true
            · rw [if_pos c1] at q2
              have c1' : q.1 = 0 := by simpa using c1
              by_cases c2 : recvA (q.2.2.1 + 1) q.2.2.2 a = true
              · rw [if_pos c2] at q2
                obtain ⟨con, k1, k2, k3, k4, k5⟩ := pick_ok q2
                have k3' : con.2.1.1 + 1 ≤ fr ∧ 8 + ((MT con.1).2.2.1 + 11) + con.2.1.2 ≤ lc := by simpa [roomA] using k3
                exact q_s_callV (q := (i, q)) hX hRc hF (hcons con k1) (fun σ φ a1 a2 => xpB_ok k5 hxo σ φ a1 a2) (hCT _ (fnd_ok q3)) k2 c1' ⟨Nat.le_trans k3'.1 hR.1, Nat.le_trans k3'.2 hR.2⟩ hd c2 k4 (fun b hb => go b (pc + 3) (h3 b hb))
              · rw [if_neg c2] at q2
                cases q2
            · rw [if_neg c1] at q2
              cases q2
          · cases q2
        · cases h2
      · split at h
        · rename_i L' q2
          have h3 := List.all_eq_true.mp h
          exact q_sc hX hXs hbl hbA had hL hσ1 (fun q hq => go q.1 q.2 (h3 q hq)) _ q2 hd
        · split at h
          · rename_i L' q2
            have h3 := List.all_eq_true.mp h
            exact q_step_ok hX hK (fun q hq => go q.1 q.2 (h3 q hq)) _ q2 hd
          · cases h
/-- the whole loop: the cuts of 'auto' by the check, those of 'man' by hand, each over all that lie lower -/
theorem law_ok (hX : CTX p s m args c cc nL own w0 D cy A) (hF : SF ad A s) {b L : Nat} {xs : Nat → Int32} (hXs : va_X b L xs s s.heap) (hbl : b < s.heap.size) (hbA : ¬ A b) (had : ad 40000 = b) (hL : L < 2 ^ 31) (hσ1 : σp[1]? = some (L : Int)) {MT : Nat → MI} {fr lc : Nat} {K : KT} {code : List (Nat × Instr × Nat)} {CT : CTT} {cons : List Con} {auto man : List Inv} {fuel : Nat} (hK : KOK own K) (hcode : ∀ q ∈ code, decode cc q.1 = .ok (q.2.1, q.2.2)) (hCT : ∀ q ∈ CT, COK MT own q) (hcons : ∀ con ∈ cons, ConOK MT l con) (hR : fr ≤ R.frames ∧ lc ≤ R.locals) (hkc : 0 ≤ kc) (hks : 0 ≤ ks) (hCR : C ≤ R.cells ∧ S ≤ R.slots)
    (hlo : (auto ++ man).all (fun I => match rkLo I.2.1.1.1 I.2.1.1.2.2.1 I.2.2.2 with
      | some z => decide (0 ≤ I.2.2.1 + z)
      | none => false) = true)
    (h : auto.all (fun I => runL MT ow0 nL ω.length σp.length φp.length fr lc K code CT cons (auto ++ man) (some I.2.2) fuel I.2.1 I.1) = true)
    (hman : ∀ J ∈ man, ∀ (σ : List Int) (φ : List (Nat → Int32)) (ws : va_W) (lv : List (Nat × Value)) (stk : List Value) (H : Heap) (locs : List Loc) (ls : Array Slot) (nc ns : Nat), pfx σp σ → pfx φp φ → RLx σ φ → GS cy ω ad J.2.1 σ φ ws lv stk → va_P D vwCl ws H → va_D A ws → va_S A s.heap H locs → lv_has ls nL lv → (nc : Int) + kc * rkv σ J.2.2 ≤ C → (ns : Int) + ks * rkv σ J.2.2 ≤ S → 0 ≤ rkv σ J.2.2 → (∀ J' ∈ auto ++ man, InvL (fun nc ns => Wc nc ns p l e R s m args below meth c Q) kc ks C S D cy A s.heap nL ω ad σp φp J' (rkv σ J.2.2)) → Wc nc ns p l e R s m args below meth c Q H locs J.1 ls stk) :
    ∀ (N : Nat) (I : Inv), I ∈ auto ++ man → InvL (fun nc ns => Wc nc ns p l e R s m args below meth c Q) kc ks C S D cy A s.heap nL ω ad σp φp I (N : Int) := by
  have hlo' := List.all_eq_true.mp hlo
  have h' := List.all_eq_true.mp h
  intro N
  induction N with
  | zero =>
    intro I hI σ φ ws lv stk H locs ls nc ns hσ hφ hRL hG hP hD hS hl hn
    exfalso
    have h5 := hlo' I hI
    cases q : rkLo I.2.1.1.1 I.2.1.1.2.2.1 I.2.2.2 with
    | none => rw [q] at h5; cases h5
    | some z =>
      rw [q] at h5
      have h8 : 0 ≤ I.2.2.1 + z := by simpa using h5
      have h9 := (rkLo_ok hG.1.1 hG.1.2.2.1 q).1
      unfold rkv at hn
      simp only [Int.ofNat_zero] at hn
      omega
  | succ N ih =>
    intro I hI σ φ ws lv stk H locs ls nc ns hσ hφ hRL hG hP hD hS hl hn hc1 hc2
    have h5 := hlo' I hI
    cases q : rkLo I.2.1.1.1 I.2.1.1.2.2.1 I.2.2.2 with
    | none => rw [q] at h5; cases h5
    | some z =>
      rw [q] at h5
      have h8 : 0 ≤ I.2.2.1 + z := by simpa using h5
      have h9 := rkLo_ok hG.1.1 hG.1.2.2.1 q
      have hr0 : 0 ≤ rkv σ I.2.2 := by
        have := h9.1
        unfold rkv
        omega
      have hih : ∀ J' ∈ auto ++ man, InvL (fun nc ns => Wc nc ns p l e R s m args below meth c Q) kc ks C S D cy A s.heap nL ω ad σp φp J' (rkv σ I.2.2) := by
        intro J' hJ' σ' φ' ws' lv' stk' H' locs' ls' nc' ns' a1 a2 a0 a3 a4 a5 a6 a7 a8
        refine ih J' hJ' σ' φ' ws' lv' stk' H' locs' ls' nc' ns' a1 a2 a0 a3 a4 a5 a6 a7 ?_
        have h10 : ((N + 1 : Nat) : Int) = (N : Int) + 1 := by omega
        omega
      have m1 := Int.mul_nonneg hkc hr0
      have m2 := Int.mul_nonneg hks hr0
      rcases List.mem_append.mp hI with hI | hI
      · have hs1 : σ[1]? = some (L : Int) := by
          obtain ⟨τ, rfl⟩ := hσ
          exact gapp hσ1
        exact runL_ok (σ0 := σ) (φ0 := φ) (ow := ow0) hX hF hXs hbl hbA had hL hs1 ow0_no hK hcode hCT hcons hR ⟨by omega, by omega⟩ hkc hks hσ hφ hih h9.2 hRL hc1 hc2 fuel I.2.1 I.1 (h' I hI) σ φ ws lv stk H locs ls ⟨[], by simp⟩ ⟨[], by simp⟩ hG hP hD hS hl
      · exact hman I hI σ φ ws lv stk H locs ls nc ns hσ hφ hRL hG hP hD hS hl hc1 hc2 hr0 hih
end QRN
