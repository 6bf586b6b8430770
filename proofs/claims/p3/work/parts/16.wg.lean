/-! the cut at 885: from the head's world through rests and back -/
theorem P2.cons_inv {α β : Type} {R : α → β → Prop} {a : α} {as : List α} {bs : List β} (h : P2 R (a :: as) bs) : ∃ (b : β) (bs' : List β), bs = b :: bs' ∧ R a b ∧ P2 R as bs' := by
  cases bs with
  | nil => exact h.elim
  | cons b bs => exact ⟨b, bs, rfl, h.1, h.2⟩
theorem P2.nil_inv {α β : Type} {R : α → β → Prop} {bs : List β} (h : P2 R [] bs) : bs = [] := by
  cases bs with
  | nil => rfl
  | cons b bs => exact h.elim
def othC : List Nat := (List.range 247).filter (fun k => !(k == 0 || k == 197 || k == 198 || k == 246))
def allC : List Nat := [0, 197, 198, 246] ++ othC
theorem allC_nd : va_nd allC = true := by decide +kernel
theorem othC_ok : othC.all (fun k => decide (k < 247) && !(k == 0 || k == 197 || k == 198 || k == 246)) = true := by decide +kernel
theorem allC_pos : (List.range 247).all (fun k => allC[allC.idxOf k]? == some k) = true := by decide +kernel
theorem map_get {α : Type} {ws : List α} : ∀ (is : List Nat), (∀ i ∈ is, i < ws.length) → ∃ T : List α, is.map (fun i => ws[i]?) = T.map some
  | [], _ => ⟨[], rfl⟩
  | i :: is, h => by
    obtain ⟨T, hT⟩ := map_get is (fun j hj => h j (List.mem_cons_of_mem _ hj))
    refine ⟨ws[i]'(h i (List.mem_cons_self ..)) :: T, ?_⟩
    simp only [List.map_cons, hT]
    rw [List.getElem?_eq_getElem (h i (List.mem_cons_self ..))]
/-- the four cells of rests ahead, the others behind -/
theorem four_split {D : va_G} {A : Nat → Prop} {ws : va_W} {H : Heap} {q0 q1 q2 q3 : Nat × va_E} (hlen : ws.length = 247) (h0 : ws[0]? = some q0) (h1 : ws[197]? = some q1) (h2 : ws[198]? = some q2) (h3 : ws[246]? = some q3) (hP : va_P D vwCl ws H) (hD : va_D A ws) : ∃ T : va_W, othC.map (fun i => ws[i]?) = T.map some ∧ va_P D vwCl ([q0, q1, q2, q3] ++ T) H ∧ va_D A ([q0, q1, q2, q3] ++ T) := by
  have ho := List.all_eq_true.mp othC_ok
  obtain ⟨T, hT⟩ := map_get (ws := ws) othC (fun i hi => by
    have := ho i hi
    simp only [Bool.and_eq_true, decide_eq_true_eq] at this
    omega)
  have hs : allC.map (fun i => ws[i]?) = ([q0, q1, q2, q3] ++ T).map some := by
    unfold allC
    rw [List.map_append, List.map_append, hT]
    simp only [List.map_cons, List.map_nil, h0, h1, h2, h3]
  refine ⟨T, hT, ?_, hD.sub allC allC_nd hs⟩
  intro k q hq
  have h4 : (allC.map (fun i => ws[i]?))[k]? = some (some q) := by rw [hs, List.getElem?_map, hq]; rfl
  rw [List.getElem?_map] at h4
  cases hi : allC[k]? with
  | none => rw [hi] at h4; cases h4
  | some i =>
    rw [hi] at h4
    exact hP i q (Option.some.inj h4)
/-- and back, with new contents -/
theorem four_join {D : va_G} {ws : va_W} {H : Heap} {q0 p1 p2 p3 : Nat × va_E} {T : va_W} (hlen : ws.length = 247) (h0 : ws[0]? = some q0) (hT : othC.map (fun i => ws[i]?) = T.map some) (hP : va_P D vwCl ([q0, p1, p2, p3] ++ T) H) : va_P D vwCl (((ws.set 197 p1).set 198 p2).set 246 p3) H := by
  have ho := List.all_eq_true.mp othC_ok
  have hs : allC.map (fun i => (((ws.set 197 p1).set 198 p2).set 246 p3)[i]?) = ([q0, p1, p2, p3] ++ T).map some := by
    unfold allC
    rw [List.map_append, List.map_append, ← hT]
    congr 1
    · simp [List.getElem?_set, hlen]
      exact (List.getElem?_eq_some_iff.mp h0).2
    · refine List.map_congr_left (fun i hi => ?_)
      have := ho i hi
      simp only [Bool.and_eq_true, decide_eq_true_eq, Bool.not_eq_true', Bool.or_eq_false_iff, beq_eq_false_iff_ne] at this
      rw [List.getElem?_set_ne (by omega), List.getElem?_set_ne (by omega), List.getElem?_set_ne (by omega)]
  have hp := List.all_eq_true.mp allC_pos
  refine hP.by (fun k => allC.idxOf k) (fun k q hq => ?_)
  have hk : k < 247 := by
    have h5 := (List.getElem?_eq_some_iff.mp hq).1
    simp only [List.length_set] at h5
    omega
  have h6 : allC[allC.idxOf k]? = some k := by
    have := hp k (List.mem_range.mpr hk)
    simpa using this
  have h7 : (allC.map (fun i => (((ws.set 197 p1).set 198 p2).set 246 p3)[i]?))[allC.idxOf k]? = some (some q) := by
    rw [List.getElem?_map, h6]
    exact congrArg some hq
  rw [hs, List.getElem?_map] at h7
  cases hz : ([q0, p1, p2, p3] ++ T)[allC.idxOf k]? with
  | none => rw [hz] at h7; cases h7
  | some z =>
    rw [hz] at h7
    have := Option.some.inj h7
    rw [Option.some.inj this]
def lcs7 : CS := [(2, 1, (-7)), (2, 1, 0), (149, 148, 0), (167, 169, 0), (3, 145, 0), (145, 3, 0)]
def lloc : List (Nat × AV) := [(0, vr 40000), (1, vr 0), (2, vr 198), (3, vr 246), (4, vi 2 0)]
/-- the state behind rests -/
def aft (cl : List AC) (fs : List AV) : AS := ((lbs ++ [(0, 1)], lfb ++ [((-2147483648), 2147483647)], lcs7, ((cl.set 197 (ca 1 25 182)).set 198 (co 12 (vi 205 0 :: fs))).set 246 (cj 1)), lloc, [])
set_option maxRecDepth 100000 in
theorem lbs_len : lbs.length = 205 := by decide +kernel
theorem lfb_len : lfb.length = 182 := by decide +kernel
theorem lbs_2 : lbs[2]? = some (0, 3584) := by decide +kernel
set_option maxHeartbeats 4000000 in
set_option maxRecDepth 100000 in
theorem man885 (l : Launch) {p : Program} {e : Env} {s : State} {m : MethodId} {below : List Frame} {meth : Method} {c : Code} {Q : State → Prop} {b L : Nat} {xs : Nat → Int32} {args : Array Value} (hlt : l.stackTraces = false) {D : va_G} {cy : Nat → ClassId} {A : Nat → Prop} {w0 : Cond} (hX0 : CTX p s m args c code 7 RL w0 D cy A) (hX : va_X b L xs s s.heap) (hbl : b < s.heap.size) (hbA : ¬ A b) (hL : L ≤ 3584) (hZ : zx A s) {ad : Nat → Nat} (had : ad 40000 = b)
    {cl : List AC} {fs : List AV} {u1 u2 u3 u4 : Nat} (hcl : cl.length = 247) (c0 : cl[0]? = some (co 11 [vr 1, vr 3, vr u1, vr u2, vr u3, vr u4, vr 54, vr 58, vr 62, vi 98 0, vi 99 0, vr 127, vr 168, vr 171, vr 189, vr 194, vr 197])) (c1 : cl[197]? = some (ca 1 25 143)) (c2 : cl[198]? = some (co 12 (vi 144 0 :: fs))) (c3 : cl[246]? = some (cj 1))
    {σ : List Int} {φ : List (Nat → Int32)} {ws : va_W} {lv : List (Nat × Value)} {stk : List Value} {H : Heap} {locs : List Loc} {ls : Array Slot} {nc ns : Nat} (hσ : pfx [0, (L : Int)] σ) (hG : GS cy [] ad ((lbs, lfb, lcs7, cl), lloc, []) σ φ ws lv stk) (hP : va_P D vwCl ws H) (hD : va_D A ws) (hS : va_S A s.heap H locs) (hl : lv_has ls 7 lv) (hRc : nc + 1 ≤ room_1.cells ∧ ns + 6 ≤ room_1.slots)
    (k : OkA (Wc (nc + 1) (ns + 6) p l e room_1 s m args below meth c Q) D cy A s.heap 7 [] ad σ φ (aft cl fs) 1064) : Wc nc ns p l e room_1 s m args below meth c Q H locs 885 ls stk := by
  obtain ⟨⟨hB, hF, hC, hW⟩, hLv, hT⟩ := hG
  have hstk : stk = [] := P2.nil_inv hT
  subst hstk
  have hσ1 : σ[1]? = some (L : Int) := by obtain ⟨τ, rfl⟩ := hσ; rfl
  -- the locals
  obtain ⟨v0, l0, rfl, r0, hLv⟩ := P2.cons_inv hLv
  obtain ⟨v1, l1, rfl, r1, hLv⟩ := P2.cons_inv hLv
  obtain ⟨v2, l2, rfl, r2, hLv⟩ := P2.cons_inv hLv
  obtain ⟨v3, l3, rfl, r3, hLv⟩ := P2.cons_inv hLv
  obtain ⟨v4, l4, rfl, r4, hLv⟩ := P2.cons_inv hLv
  cases P2.nil_inv hLv
  obtain ⟨k0, v0⟩ := v0
  obtain ⟨k1, v1⟩ := v1
  obtain ⟨k2, v2⟩ := v2
  obtain ⟨k3, v3⟩ := v3
  obtain ⟨k4, v4⟩ := v4
  have e0 : 0 = k0 := r0.1
  have e1 : 1 = k1 := r1.1
  have e2 : 2 = k2 := r2.1
  have e3 : 3 = k3 := r3.1
  have e4 : 4 = k4 := r4.1
  subst e0 e1 e2 e3 e4
  have f0 : v0 = .ref (ad 40000) := r0.2.1
  have f1 : v1 = .ref (ad 0) := r1.2.1
  have f2 : v2 = .ref (ad 198) := r2.2.1
  have f3 : v3 = .ref (ad 246) := r3.2.1
  obtain ⟨i, f4, ti, t2, t3⟩ := r4.2.1
  rw [had] at f0
  subst f0 f1 f2 f3 f4
  have hib : 0 ≤ i.toInt ∧ i.toInt + 7 ≤ (L : Int) := by
    obtain ⟨z, z1, z2⟩ := P2.get hB lbs_2
    obtain ⟨x, y, y1, y2, y3⟩ := hC (2, 1, (-7)) (by simp [lcs7])
    have t2' : σ[2]? = some ti := t2
    have y1' : σ[2]? = some x := y1
    have y2' : σ[1]? = some y := y2
    rw [t2'] at z1 y1'
    rw [hσ1] at y2'
    cases z1
    cases y1'
    cases y2'
    have t3' : i.toInt = ti + 0 := t3
    have y3' : ti ≤ (L : Int) + (-7) := y3
    have z2' : (0 : Int) ≤ ti ∧ ti ≤ 3584 := z2
    omega
  -- the cells
  have hlen : ws.length = 247 := by rw [← hW.1]; exact hcl
  obtain ⟨en0, w0, g0⟩ := hW.2 0 _ c0
  obtain ⟨en1, w1, g1⟩ := hW.2 197 _ c1
  obtain ⟨en2, w2, g2⟩ := hW.2 198 _ c2
  obtain ⟨en3, w3, g3⟩ := hW.2 246 _ c3
  obtain ⟨vs, rfl, g0⟩ := g0
  obtain ⟨x0, vs, rfl, d0, g0⟩ := P2.cons_inv g0
  obtain ⟨x1, vs, rfl, d1, g0⟩ := P2.cons_inv g0
  obtain ⟨x2, vs, rfl, d2, g0⟩ := P2.cons_inv g0
  obtain ⟨x3, vs, rfl, d3, g0⟩ := P2.cons_inv g0
  obtain ⟨x4, vs, rfl, d4, g0⟩ := P2.cons_inv g0
  obtain ⟨x5, vs, rfl, d5, g0⟩ := P2.cons_inv g0
  obtain ⟨x6, vs, rfl, d6, g0⟩ := P2.cons_inv g0
  obtain ⟨x7, vs, rfl, d7, g0⟩ := P2.cons_inv g0
  obtain ⟨x8, vs, rfl, d8, g0⟩ := P2.cons_inv g0
  obtain ⟨x9, vs, rfl, d9, g0⟩ := P2.cons_inv g0
  obtain ⟨x10, vs, rfl, d10, g0⟩ := P2.cons_inv g0
  obtain ⟨x11, vs, rfl, d11, g0⟩ := P2.cons_inv g0
  obtain ⟨x12, vs, rfl, d12, g0⟩ := P2.cons_inv g0
  obtain ⟨x13, vs, rfl, d13, g0⟩ := P2.cons_inv g0
  obtain ⟨x14, vs, rfl, d14, g0⟩ := P2.cons_inv g0
  obtain ⟨x15, vs, rfl, d15, g0⟩ := P2.cons_inv g0
  obtain ⟨x16, vs, rfl, d16, g0⟩ := P2.cons_inv g0
  cases P2.nil_inv g0
  have d0' : x0 = .ref (ad 1) := d0
  have d1' : x1 = .ref (ad 3) := d1
  have d2' : x2 = .ref (ad u1) := d2
  have d3' : x3 = .ref (ad u2) := d3
  have d4' : x4 = .ref (ad u3) := d4
  have d5' : x5 = .ref (ad u4) := d5
  have d6' : x6 = .ref (ad 54) := d6
  have d7' : x7 = .ref (ad 58) := d7
  have d8' : x8 = .ref (ad 62) := d8
  obtain ⟨n1, d9', -⟩ := d9
  obtain ⟨n2, d10', -⟩ := d10
  have d11' : x11 = .ref (ad 127) := d11
  have d12' : x12 = .ref (ad 168) := d12
  have d13' : x13 = .ref (ad 171) := d13
  have d14' : x14 = .ref (ad 189) := d14
  have d15' : x15 = .ref (ad 194) := d15
  have d16' : x16 = .ref (ad 197) := d16
  subst d0' d1' d2' d3' d4' d5' d6' d7' d8' d9' d10' d11' d12' d13' d14' d15' d16'
  obtain ⟨f0, -, rfl⟩ := g1
  obtain ⟨us, rfl, g2⟩ := g2
  obtain ⟨y0, F, rfl, dy, g2F⟩ := P2.cons_inv g2
  obtain ⟨th0, dy', -⟩ := dy
  subst dy'
  obtain ⟨o0, rfl⟩ := g3
  obtain ⟨T, hTm, hP4, hD4⟩ := four_split hlen w0 w1 w2 w3 hP hD
  have hl' : lv_has ls 7 [(4, .int i), (3, .ref (ad 246)), (2, .ref (ad 198)), (1, .ref (ad 0)), (0, .ref b)] := lv_sub hl [4, 3, 2, 1, 0] rfl
  refine rests_go l hlt hX0 hX hbl hbA hL hZ n1 n2 (ad 0) (ad 1) (ad 3) (ad u1) (ad u2) (ad u3) (ad u4) (ad 54) (ad 58) (ad 62) (ad 127) (ad 168) (ad 171) (ad 189) (ad 194) (ad 197) (ad 198) (ad 246) th0 F f0 o0 i _ _ _ hib.1 hib.2 rfl rfl rfl hP4 hD4 hS hl' hRc ?_
  intro th g o1 H1 locs1 ls1 hth hP1 hS1 hl1
  have hP2 := four_join hlen w0 hTm hP1
  have hD2 : va_D A (((ws.set 197 (ad 197, .inl (cy 1, 25, .inl g))).set 198 (ad 198, .inr (12, .int th :: F))).set 246 (ad 246, .inl (cy 2, 1, .inr (.inl o1)))) := by
    refine va_D.set (e0 := .inl (cy 2, 1, .inr (.inl o0))) (va_D.set (e0 := .inr (12, .int th0 :: F)) (va_D.set hD w1) ?_) ?_
    · rw [List.getElem?_set_ne (by decide)]; exact w2
    · rw [List.getElem?_set_ne (by decide), List.getElem?_set_ne (by decide)]; exact w3
  have hbl' : σ.length = 205 := by rw [← P2.len hB]; exact lbs_len
  have hfl' : φ.length = 182 := by rw [← P2.len hF]; exact lfb_len
  have hW' := hW.app (τ := [th.toInt]) (ψ := [g])
  refine k (σ ++ [th.toInt]) (φ ++ [g]) _ [(0, .ref b), (1, .ref (ad 0)), (2, .ref (ad 198)), (3, .ref (ad 246)), (4, .int i)] [] H1 locs1 ls1 ⟨[th.toInt], rfl⟩ ⟨[g], rfl⟩ ⟨⟨?_, ?_, hC.app, ?_⟩, ?_, trivial⟩ hP2 hD2 hS1 (lv_sub hl1 [4, 3, 2, 1, 0] rfl)
  · refine P2.app hB ⟨?_, trivial⟩
    rcases hth with rfl | rfl <;> decide
  · refine P2.app hF ⟨fun j => ?_, trivial⟩
    have h1 := (g j).toInt_lt
    have h2 := (g j).le_toInt
    exact ⟨by simpa using h2, by omega⟩
  · refine gw.set (ad := ad) (k0 := 246) (gw.set (ad := ad) (k0 := 198) (gw.set (ad := ad) (k0 := 197) hW' ?_) ?_) ?_
    · exact ⟨g, by rw [List.getElem?_append_right (by omega), hfl']; rfl, rfl⟩
    · refine ⟨_, rfl, ⟨th, rfl, th.toInt, ?_, (Int.add_zero _).symm⟩, g2F.mono (fun _ _ h => h.app)⟩
      show (σ ++ [th.toInt])[205]? = _
      rw [List.getElem?_append_right (by omega), hbl']
      rfl
    · exact ⟨o1, rfl⟩
  · refine ⟨⟨rfl, ?_, rfl⟩, ⟨rfl, rfl, rfl⟩, ⟨rfl, rfl, rfl⟩, ⟨rfl, rfl, rfl⟩, ⟨rfl, ⟨i, rfl, ?_⟩, rfl⟩, trivial⟩
    · show Value.ref b = .ref (ad 40000)
      rw [had]
    · exact vl.app ⟨ti, t2, t3⟩
