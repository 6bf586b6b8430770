/-! the cut at 148: from the head's world through feed and back -/
def othF : List Nat := (List.range 247).filter (fun k => !(k == 0 || k == 1 || k == 2 || k == 198 || k == 199))
def allF : List Nat := [0, 1, 2, 198, 199] ++ othF
theorem allF_nd : va_nd allF = true := by decide +kernel
theorem othF_ok : othF.all (fun k => decide (k < 247) && !(k == 0 || k == 1 || k == 2 || k == 198 || k == 199)) = true := by decide +kernel
theorem allF_pos : (List.range 247).all (fun k => allF[allF.idxOf k]? == some k) = true := by decide +kernel
theorem five_split {D : va_G} {A : Nat → Prop} {ws : va_W} {H : Heap} {q0 q1 q2 q3 q4 : Nat × va_E} (hlen : ws.length = 247) (h0 : ws[0]? = some q0) (h1 : ws[1]? = some q1) (h2 : ws[2]? = some q2) (h3 : ws[198]? = some q3) (h4 : ws[199]? = some q4) (hP : va_P D vwCl ws H) (hD : va_D A ws) : ∃ T : va_W, othF.map (fun i => ws[i]?) = T.map some ∧ va_P D vwCl ([q0, q1, q2, q3, q4] ++ T) H ∧ va_D A ([q0, q1, q2, q3, q4] ++ T) := by
  have ho := List.all_eq_true.mp othF_ok
  obtain ⟨T, hT⟩ := map_get (ws := ws) othF (fun i hi => by
    have := ho i hi
    simp only [Bool.and_eq_true, decide_eq_true_eq] at this
    omega)
  have hs : allF.map (fun i => ws[i]?) = ([q0, q1, q2, q3, q4] ++ T).map some := by
    unfold allF
    rw [List.map_append, List.map_append, hT]
    simp only [List.map_cons, List.map_nil, h0, h1, h2, h3, h4]
  refine ⟨T, hT, ?_, hD.sub allF allF_nd hs⟩
  intro k q hq
  have h5 : (allF.map (fun i => ws[i]?))[k]? = some (some q) := by rw [hs, List.getElem?_map, hq]; rfl
  rw [List.getElem?_map] at h5
  cases hi : allF[k]? with
  | none => rw [hi] at h5; cases h5
  | some i =>
    rw [hi] at h5
    exact hP i q (Option.some.inj h5)
theorem five_join {D : va_G} {ws : va_W} {H : Heap} {q0 p1 p2 p3 p4 : Nat × va_E} {T : va_W} (hlen : ws.length = 247) (h0 : ws[0]? = some q0) (hT : othF.map (fun i => ws[i]?) = T.map some) (hP : va_P D vwCl ([q0, p1, p2, p3, p4] ++ T) H) : va_P D vwCl ((((ws.set 1 p1).set 2 p2).set 198 p3).set 199 p4) H := by
  have ho := List.all_eq_true.mp othF_ok
  have hs : allF.map (fun i => ((((ws.set 1 p1).set 2 p2).set 198 p3).set 199 p4)[i]?) = ([q0, p1, p2, p3, p4] ++ T).map some := by
    unfold allF
    rw [List.map_append, List.map_append, ← hT]
    congr 1
    · simp [List.getElem?_set, hlen]
      exact (List.getElem?_eq_some_iff.mp h0).2
    · refine List.map_congr_left (fun i hi => ?_)
      have := ho i hi
      simp only [Bool.and_eq_true, decide_eq_true_eq, Bool.not_eq_true', Bool.or_eq_false_iff, beq_eq_false_iff_ne] at this
      rw [List.getElem?_set_ne (by omega), List.getElem?_set_ne (by omega), List.getElem?_set_ne (by omega), List.getElem?_set_ne (by omega)]
  have hp := List.all_eq_true.mp allF_pos
  refine hP.by (fun k => allF.idxOf k) (fun k q hq => ?_)
  have hk : k < 247 := by
    have h5 := (List.getElem?_eq_some_iff.mp hq).1
    simp only [List.length_set] at h5
    omega
  have h6 : allF[allF.idxOf k]? = some k := by
    have := hp k (List.mem_range.mpr hk)
    simpa using this
  have h7 : (allF.map (fun i => ((((ws.set 1 p1).set 2 p2).set 198 p3).set 199 p4)[i]?))[allF.idxOf k]? = some (some q) := by
    rw [List.getElem?_map, h6]
    exact congrArg some hq
  rw [hs, List.getElem?_map] at h7
  cases hz : ([q0, p1, p2, p3, p4] ++ T)[allF.idxOf k]? with
  | none => rw [hz] at h7; cases h7
  | some z =>
    rw [hz] at h7
    have := Option.some.inj h7
    rw [Option.some.inj this]
theorem nI_bk {x : Int32} {t : Int} (h : x.toInt = t + 0) (h0 : 0 ≤ t) (h1 : t ≤ 1000) : x = nI t.toNat := by
  apply Int32.toInt_inj.mp
  rw [nI_toInt (by omega)]
  omega
/-- the state behind feed -/
def aftF (cl : List AC) (fs : List AV) : AS := ((lbs ++ [(0, 1000)], lfb ++ [((-128), 127), ((-2147483648), 2147483647)], lcs7, (((cl.set 1 (co 9 [vr 2, vi 205 0, vi 4 0, vi 5 0, vi 6 0, vi 7 0, vL 8 0, vi 9 0, vi 10 0])).set 2 (ca 0 1000 182)).set 198 (co 12 (vi 0 0 :: vi 205 0 :: vr 199 :: fs))).set 199 (ca 1 1000 183)), lloc, [])
/-- both sides' signs behind feed -/
def RLf (σ : List Int) (φ : List (Nat → Int32)) : Prop := ∃ (f g : Nat → Int32) (x : Int), φ[182]? = some f ∧ φ[183]? = some g ∧ σ[205]? = some x ∧ (∀ j, 0 ≤ (f j).toInt ∧ (f j).toInt ≤ 127) ∧ ∀ j : Nat, (j : Int) < x → f j = g j
theorem RLf.app {σ τ : List Int} {φ ψ : List (Nat → Int32)} (h : RLf σ φ) : RLf (σ ++ τ) (φ ++ ψ) := by
  obtain ⟨f, g, x, h1, h2, h3, h4, h5⟩ := h
  exact ⟨f, g, x, gapp h1, gapp h2, gapp h3, h4, h5⟩
theorem lbs_3 : lbs[3]? = some (0, 1000) := by decide +kernel
theorem lfb_0 : lfb[0]? = some ((-128), 127) := by decide +kernel
set_option maxHeartbeats 4000000 in
set_option maxRecDepth 100000 in
theorem man148 (l : Launch) {p : Program} {e : Env} {s : State} {m : MethodId} {below : List Frame} {meth : Method} {c : Code} {Q : State → Prop} {b L : Nat} {xs : Nat → Int32} {args : Array Value} {D : va_G} {cy : Nat → ClassId} {A : Nat → Prop} {w0 : Cond} (hX0 : CTX p s m args c code 7 RL w0 D cy A) (hX : va_X b L xs s s.heap) (hbl : b < s.heap.size) (hbA : ¬ A b) (hL : L ≤ 3584) {ad : Nat → Nat} (had : ad 40000 = b)
    {cl : List AC} {fs : List AV} {u1 u2 u3 u4 : Nat} (hcl : cl.length = 247) (c0 : cl[0]? = some (co 11 [vr 1, vr 3, vr u1, vr u2, vr u3, vr u4, vr 54, vr 58, vr 62, vi 98 0, vi 99 0, vr 127, vr 168, vr 171, vr 189, vr 194, vr 197])) (c1 : cl[1]? = some (co 9 [vr 2, vi 3 0, vi 4 0, vi 5 0, vi 6 0, vi 7 0, vL 8 0, vi 9 0, vi 10 0])) (c2 : cl[2]? = some (ca 0 1000 0)) (c3 : cl[198]? = some (co 12 (vi 144 0 :: vi 145 0 :: vr 199 :: fs))) (c4 : cl[199]? = some (ca 1 1000 181))
    {σ : List Int} {φ : List (Nat → Int32)} {ws : va_W} {lv : List (Nat × Value)} {stk : List Value} {H : Heap} {locs : List Loc} {ls : Array Slot} {nc ns : Nat} (hσ : pfx [0, (L : Int)] σ) (hRL : RLx σ φ) (hG : GS cy [] ad ((lbs, lfb, lcs7, cl), lloc, []) σ φ ws lv stk) (hP : va_P D vwCl ws H) (hD : va_D A ws) (hS : va_S A s.heap H locs) (hl : lv_has ls 7 lv) (hRc : nc ≤ room_1.cells ∧ ns ≤ room_1.slots)
    (k : ∀ (σ' : List Int) (φ' : List (Nat → Int32)) (ws' : va_W) (lv' : List (Nat × Value)) (stk' : List Value) (H' : Heap) (locs' : List Loc) (ls' : Array Slot), pfx σ σ' → pfx φ φ' → RLf σ' φ' → GS cy [] ad (aftF cl fs) σ' φ' ws' lv' stk' → va_P D vwCl ws' H' → va_D A ws' → va_S A s.heap H' locs' → lv_has ls' 7 lv' → Wc nc ns p l e room_1 s m args below meth c Q H' locs' 1064 ls' stk') : Wc nc ns p l e room_1 s m args below meth c Q H locs 148 ls stk := by
  obtain ⟨⟨hB, hF, hC, hW⟩, hLv, hT⟩ := hG
  have hstk : stk = [] := P2.nil_inv hT
  subst hstk
  have hσ1 : σ[1]? = some (L : Int) := by obtain ⟨τ, rfl⟩ := hσ; rfl
  -- the locals
  obtain ⟨v0, l0, rfl, r0, hLv⟩ := P2.cons_inv hLv
  obtain ⟨v1, l1, rfl, r1, hLv⟩ := P2.cons_inv hLv
  obtain ⟨v2, l2, rfl, r2, hLv⟩ := P2.cons_inv hLv
  obtain ⟨v3, l3, rfl, r3, hLv⟩ := P2.cons_inv hLv
  obtain ⟨v4, l4, rfl, r4, hLv⟩ := P2.cons_inv hLv
  cases P2.nil_inv hLv
  obtain ⟨k0, v0⟩ := v0
  obtain ⟨k1, v1⟩ := v1
  obtain ⟨k2, v2⟩ := v2
  obtain ⟨k3, v3⟩ := v3
  obtain ⟨k4, v4⟩ := v4
  have e0 : 0 = k0 := r0.1
  have e1 : 1 = k1 := r1.1
  have e2 : 2 = k2 := r2.1
  have e3 : 3 = k3 := r3.1
  have e4 : 4 = k4 := r4.1
  subst e0 e1 e2 e3 e4
  have f0 : v0 = .ref (ad 40000) := r0.2.1
  have f1 : v1 = .ref (ad 0) := r1.2.1
  have f2 : v2 = .ref (ad 198) := r2.2.1
  have f3 : v3 = .ref (ad 246) := r3.2.1
  obtain ⟨i, f4, ti, t2, t3⟩ := r4.2.1
  rw [had] at f0
  subst f0 f1 f2 f3 f4
  have hib : 0 ≤ i.toInt ∧ i.toInt + 7 ≤ (L : Int) := by
    obtain ⟨z, z1, z2⟩ := P2.get hB lbs_2
    obtain ⟨x, y, y1, y2, y3⟩ := hC (2, 1, (-7)) (by simp [lcs7])
    have t2' : σ[2]? = some ti := t2
    have y1' : σ[2]? = some x := y1
    have y2' : σ[1]? = some y := y2
    rw [t2'] at z1 y1'
    rw [hσ1] at y2'
    cases z1
    cases y1'
    cases y2'
    have t3' : i.toInt = ti + 0 := t3
    have y3' : ti ≤ (L : Int) + (-7) := y3
    have z2' : (0 : Int) ≤ ti ∧ ti ≤ 3584 := z2
    omega
  -- the cells
  have hlen : ws.length = 247 := by rw [← hW.1]; exact hcl
  obtain ⟨en0, w0, g0⟩ := hW.2 0 _ c0
  obtain ⟨en1, w1, g1⟩ := hW.2 1 _ c1
  obtain ⟨en2, w2, g2⟩ := hW.2 2 _ c2
  obtain ⟨en3, w3, g3⟩ := hW.2 198 _ c3
  obtain ⟨en4, w4, g4⟩ := hW.2 199 _ c4
  obtain ⟨vs, rfl, g0⟩ := g0
  obtain ⟨x0, vs, rfl, d0, g0⟩ := P2.cons_inv g0
  obtain ⟨x1, vs, rfl, d1, g0⟩ := P2.cons_inv g0
  obtain ⟨x2, vs, rfl, d2, g0⟩ := P2.cons_inv g0
  obtain ⟨x3, vs, rfl, d3, g0⟩ := P2.cons_inv g0
  obtain ⟨x4, vs, rfl, d4, g0⟩ := P2.cons_inv g0
  obtain ⟨x5, vs, rfl, d5, g0⟩ := P2.cons_inv g0
  obtain ⟨x6, vs, rfl, d6, g0⟩ := P2.cons_inv g0
  obtain ⟨x7, vs, rfl, d7, g0⟩ := P2.cons_inv g0
  obtain ⟨x8, vs, rfl, d8, g0⟩ := P2.cons_inv g0
  obtain ⟨x9, vs, rfl, d9, g0⟩ := P2.cons_inv g0
  obtain ⟨x10, vs, rfl, d10, g0⟩ := P2.cons_inv g0
  obtain ⟨x11, vs, rfl, d11, g0⟩ := P2.cons_inv g0
  obtain ⟨x12, vs, rfl, d12, g0⟩ := P2.cons_inv g0
  obtain ⟨x13, vs, rfl, d13, g0⟩ := P2.cons_inv g0
  obtain ⟨x14, vs, rfl, d14, g0⟩ := P2.cons_inv g0
  obtain ⟨x15, vs, rfl, d15, g0⟩ := P2.cons_inv g0
  obtain ⟨x16, vs, rfl, d16, g0⟩ := P2.cons_inv g0
  cases P2.nil_inv g0
  have d0' : x0 = .ref (ad 1) := d0
  have d1' : x1 = .ref (ad 3) := d1
  have d2' : x2 = .ref (ad u1) := d2
  have d3' : x3 = .ref (ad u2) := d3
  have d4' : x4 = .ref (ad u3) := d4
  have d5' : x5 = .ref (ad u4) := d5
  have d6' : x6 = .ref (ad 54) := d6
  have d7' : x7 = .ref (ad 58) := d7
  have d8' : x8 = .ref (ad 62) := d8
  obtain ⟨n1, d9', -⟩ := d9
  obtain ⟨n2, d10', -⟩ := d10
  have d11' : x11 = .ref (ad 127) := d11
  have d12' : x12 = .ref (ad 168) := d12
  have d13' : x13 = .ref (ad 171) := d13
  have d14' : x14 = .ref (ad 189) := d14
  have d15' : x15 = .ref (ad 194) := d15
  have d16' : x16 = .ref (ad 197) := d16
  subst d0' d1' d2' d3' d4' d5' d6' d7' d8' d9' d10' d11' d12' d13' d14' d15' d16'
  obtain ⟨vt, rfl, g1⟩ := g1
  obtain ⟨y0, vt, rfl, t0_, g1⟩ := P2.cons_inv g1
  obtain ⟨y1, vt, rfl, t1_, g1⟩ := P2.cons_inv g1
  obtain ⟨y2, vt, rfl, t2_, g1⟩ := P2.cons_inv g1
  obtain ⟨y3, vt, rfl, t3_, g1⟩ := P2.cons_inv g1
  obtain ⟨y4, vt, rfl, t4_, g1⟩ := P2.cons_inv g1
  obtain ⟨y5, vt, rfl, t5_, g1⟩ := P2.cons_inv g1
  obtain ⟨y6, vt, rfl, t6_, g1⟩ := P2.cons_inv g1
  obtain ⟨y7, vt, rfl, t7_, g1⟩ := P2.cons_inv g1
  obtain ⟨y8, vt, rfl, t8_, g1⟩ := P2.cons_inv g1
  cases P2.nil_inv g1
  have t0' : y0 = .ref (ad 2) := t0_
  obtain ⟨len, t1', tl, tl1, tl2⟩ := t1_
  obtain ⟨fa, t2', fa_⟩ := t2_
  obtain ⟨ki, t3', ki_⟩ := t3_
  obtain ⟨nu, t4', nu_⟩ := t4_
  obtain ⟨sg, t5', sg_⟩ := t5_
  obtain ⟨wo, t6', wo_⟩ := t6_
  obtain ⟨ne, t7', ne_⟩ := t7_
  obtain ⟨pl, t8', pl_⟩ := t8_
  subst t0' t1' t2' t3' t4' t5' t6' t7' t8'
  obtain ⟨f0, hφ0, rfl⟩ := g2
  obtain ⟨us, rfl, g3⟩ := g3
  obtain ⟨z0, us, rfl, dz0, g3⟩ := P2.cons_inv g3
  obtain ⟨z1, us, rfl, dz1, g3⟩ := P2.cons_inv g3
  obtain ⟨z2, F, rfl, dz2, g2F⟩ := P2.cons_inv g3
  obtain ⟨th0, dz0', -⟩ := dz0
  obtain ⟨tpd, dz1', td, td1, td2⟩ := dz1
  have dz2' : z2 = .ref (ad 199) := dz2
  subst dz0' dz1' dz2'
  obtain ⟨f1, hφ1, rfl⟩ := g4
  -- both count alike
  have hlb : (0 : Int) ≤ tl ∧ tl ≤ 1000 := by
    obtain ⟨z, z1, z2⟩ := P2.get hB lbs_3
    have tl1' : σ[3]? = some tl := tl1
    rw [tl1'] at z1
    cases z1
    exact z2
  have heq : td = tl := by
    obtain ⟨a1, b1, p1, p2, p3⟩ := hC (3, 145, 0) (by simp [lcs7])
    obtain ⟨a2, b2, r1, r2, r3⟩ := hC (145, 3, 0) (by simp [lcs7])
    have tl1' : σ[3]? = some tl := tl1
    have td1' : σ[145]? = some td := td1
    have p1' : σ[3]? = some a1 := p1
    have p2' : σ[145]? = some b1 := p2
    have r1' : σ[145]? = some a2 := r1
    have r2' : σ[3]? = some b2 := r2
    rw [tl1'] at p1' r2'
    rw [td1'] at p2' r1'
    cases p1'
    cases p2'
    cases r1'
    cases r2'
    have p3' : tl ≤ td + 0 := p3
    have r3' : td ≤ tl + 0 := r3
    omega
  have el : len = nI tl.toNat := nI_bk tl2 hlb.1 hlb.2
  have et : tpd = nI tl.toNat := by
    rw [heq] at td2
    exact nI_bk td2 hlb.1 hlb.2
  subst el et
  obtain ⟨rf, rg, rx, r1, r2, r3, r4, r5⟩ := hRL
  have e1 : rf = f0 := by
    have h : φ[0]? = some f0 := hφ0
    rw [r1] at h
    exact Option.some.inj h
  have e2 : rg = f1 := by
    have h : φ[181]? = some f1 := hφ1
    rw [r2] at h
    exact Option.some.inj h
  have e3 : rx = tl := by
    have h : σ[3]? = some tl := tl1
    rw [r3] at h
    exact Option.some.inj h
  subst e1 e2 e3
  have hal : ∀ j, j < rx.toNat → rf j = rg j := fun j hj => r5 j (by omega)
  obtain ⟨T, hTm, hP5, hD5⟩ := five_split hlen w0 w1 w2 w3 w4 hP hD
  have hl' : lv_has ls 7 [(4, .int i), (3, .ref (ad 246)), (2, .ref (ad 198)), (1, .ref (ad 0)), (0, .ref b)] := lv_sub hl [4, 3, 2, 1, 0] rfl
  refine feed_go l hX0 hX hbl hbA hL n1 n2 (ad 0) (ad 1) (ad 3) (ad u1) (ad u2) (ad u3) (ad u4) (ad 54) (ad 58) (ad 62) (ad 127) (ad 168) (ad 171) (ad 189) (ad 194) (ad 197) (ad 2) (ad 198) (ad 199) (ad 246) th0 fa ki nu sg wo ne pl F rx.toNat rf rg i _ _ _ _ _ _ (by omega) r4 hal hib.1 hib.2 rfl rfl rfl rfl rfl rfl hP5 hD5 hS hl' hRc ?_
  intro N g g1 H1 locs1 ls1 hN hgS hgal hP1 hS1 hl1
  have hg : bR g := bS_R hgS
  have hP2 := five_join hlen w0 hTm hP1
  have hD2 : va_D A ((((ws.set 1 (ad 1, .inr (9, [.ref (ad 2), .int (nI N), .int fa, .int ki, .int nu, .int sg, .long wo, .int ne, .int pl]))).set 2 (ad 2, .inl (cy 0, 1000, .inl g))).set 198 (ad 198, .inr (12, .int 0 :: .int (nI N) :: .ref (ad 199) :: F))).set 199 (ad 199, .inl (cy 1, 1000, .inl g1))) := by
    refine va_D.set (e0 := .inl (cy 1, 1000, .inl rg)) (va_D.set (e0 := .inr (12, .int th0 :: .int (nI rx.toNat) :: .ref (ad 199) :: F)) (va_D.set (e0 := .inl (cy 0, 1000, .inl rf)) (va_D.set hD w1) ?_) ?_) ?_
    · rw [List.getElem?_set_ne (by decide)]; exact w2
    · rw [List.getElem?_set_ne (by decide), List.getElem?_set_ne (by decide)]; exact w3
    · rw [List.getElem?_set_ne (by decide), List.getElem?_set_ne (by decide), List.getElem?_set_ne (by decide)]; exact w4
  have hbl' : σ.length = 205 := by rw [← P2.len hB]; exact lbs_len
  have hfl' : φ.length = 182 := by rw [← P2.len hF]; exact lfb_len
  have hσ0 : σ[0]? = some (0 : Int) := by obtain ⟨τ, rfl⟩ := hσ; rfl
  have n5 : (σ ++ [(N : Int)])[205]? = some (N : Int) := by rw [List.getElem?_append_right (by omega), hbl']; rfl
  have n6 : (φ ++ [g, g1])[182]? = some g := by rw [List.getElem?_append_right (by omega), hfl']; rfl
  have n7 : (φ ++ [g, g1])[183]? = some g1 := by rw [List.getElem?_append_right (by omega), hfl']; rfl
  have eN : (nI N).toInt = (N : Int) + 0 := by rw [nI_toInt (by omega)]; omega
  have hW' := hW.app (τ := [(N : Int)]) (ψ := [g, g1])
  refine k (σ ++ [(N : Int)]) (φ ++ [g, g1]) _ [(0, .ref b), (1, .ref (ad 0)), (2, .ref (ad 198)), (3, .ref (ad 246)), (4, .int i)] [] H1 locs1 ls1 ⟨[(N : Int)], rfl⟩ ⟨[g, g1], rfl⟩ ⟨g, g1, (N : Int), n6, n7, n5, hgS, fun j hj => hgal j (by omega)⟩ ⟨⟨?_, ?_, hC.app, ?_⟩, ?_, trivial⟩ hP2 hD2 hS1 (lv_sub hl1 [4, 3, 2, 1, 0] rfl)
  · refine P2.app hB ⟨⟨?_, ?_⟩, trivial⟩
    · show (0 : Int) ≤ (N : Int)
      omega
    · show (N : Int) ≤ 1000
      omega
  · refine P2.app hF ⟨hg, fun j => ⟨?_, ?_⟩, trivial⟩
    · have h2 := (g1 j).le_toInt
      show (-2147483648 : Int) ≤ (g1 j).toInt
      simpa using h2
    · have h1 := (g1 j).toInt_lt
      show (g1 j).toInt ≤ 2147483647
      omega
  · refine gw.set (ad := ad) (k0 := 199) (gw.set (ad := ad) (k0 := 198) (gw.set (ad := ad) (k0 := 2) (gw.set (ad := ad) (k0 := 1) hW' ?_) ?_) ?_) ?_
    · refine ⟨_, rfl, ?_⟩
      refine ⟨rfl, ⟨nI N, rfl, (N : Int), n5, eN⟩, gv.app ⟨fa, rfl, fa_⟩, gv.app ⟨ki, rfl, ki_⟩, gv.app ⟨nu, rfl, nu_⟩, gv.app ⟨sg, rfl, sg_⟩, gv.app ⟨wo, rfl, wo_⟩, gv.app ⟨ne, rfl, ne_⟩, gv.app ⟨pl, rfl, pl_⟩, trivial⟩
    · exact ⟨g, n6, rfl⟩
    · refine ⟨_, rfl, ⟨0, rfl, (0 : Int), gapp hσ0, rfl⟩, ⟨nI N, rfl, (N : Int), n5, eN⟩, rfl, g2F.mono (fun _ _ h => h.app)⟩
    · exact ⟨g1, n7, rfl⟩
  · refine ⟨⟨rfl, ?_, rfl⟩, ⟨rfl, rfl, rfl⟩, ⟨rfl, rfl, rfl⟩, ⟨rfl, rfl, rfl⟩, ⟨rfl, ⟨i, rfl, ?_⟩, rfl⟩, trivial⟩
    · show Value.ref b = .ref (ad 40000)
      rw [had]
    · exact vl.app ⟨ti, t2, t3⟩
