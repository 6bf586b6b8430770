/-! the exact walk: order, ends, texts, calls, methods; own -/
theorem ex_tm {α : Type} (l : List α) : (List.range l.length).map (fun i => l[i]?) = l.map some := by
  refine List.ext_getElem (by simp) (fun i h1 h2 => ?_)
  have h3 : i < l.length := by simpa using h1
  simp [h3]
theorem ex_tnd0 : ∀ l : List Nat, l.Nodup → va_nd l = true
  | [], _ => rfl
  | a :: l, h => by
    obtain ⟨h1, h2⟩ := List.nodup_cons.mp h
    show (decide (a ∉ l) && va_nd l) = true
    rw [ex_tnd0 l h2, decide_eq_true h1]
    rfl
theorem ex_tP {D : va_G} {ws ws' : va_W} {H : Heap} (h : ws.Perm ws') (hP : va_P D vwCl ws H) : va_P D vwCl ws' H := fun k q hk => by
  obtain ⟨i, hi⟩ := List.getElem?_of_mem (h.mem_iff.mpr (List.mem_of_getElem? hk))
  exact hP i q hi
theorem ex_tpw {A : Nat → Prop} {ws : va_W} (hD : va_D A ws) : ws.Pairwise (fun p q => p.1 ≠ q.1) := List.pairwise_iff_getElem.mpr fun i j hi hj hij e => by
  have := hD.1 i j _ _ (List.getElem?_eq_getElem hi) (List.getElem?_eq_getElem hj) e
  omega
theorem ex_tD {A : Nat → Prop} {ws ws' : va_W} (h : ws.Perm ws') (hD : va_D A ws) : va_D A ws' := by
  have h1 : ws'.Pairwise (fun p q => p.1 ≠ q.1) := (h.pairwise_iff (fun h e => h e.symm)).mp (ex_tpw hD)
  refine ⟨fun i j p q hi hj e => ?_, fun k q hk => ?_⟩
  · obtain ⟨gi, ei⟩ := List.getElem?_eq_some_iff.mp hi
    obtain ⟨gj, ej⟩ := List.getElem?_eq_some_iff.mp hj
    have h2 := List.pairwise_iff_getElem.mp h1
    rcases Nat.lt_trichotomy i j with hlt | heq | hgt
    · exact absurd (by rw [ei, ej]; exact e) (h2 i j gi gj hlt)
    · exact heq
    · exact absurd (by rw [ei, ej]; exact e.symm) (h2 j i gj gi hgt)
  · obtain ⟨i, hi⟩ := List.getElem?_of_mem (h.mem_iff.mpr (List.mem_of_getElem? hk))
    exact hD.2 i q hi
theorem ex_Dk {A : Nat → Prop} {ws ws' : va_W} (h : va_D A ws) (e : ws'.map Prod.fst = ws.map Prod.fst) : va_D A ws' := by
  have key : ∀ {k : Nat} {q : Nat × va_E}, ws'[k]? = some q → ∃ q0, ws[k]? = some q0 ∧ q0.1 = q.1 := by
    intro k q hk
    have h1 : (ws'.map Prod.fst)[k]? = some q.1 := by rw [List.getElem?_map, hk]; rfl
    rw [e, List.getElem?_map] at h1
    cases e2 : ws[k]? with
    | none => rw [e2] at h1; cases h1
    | some q0 =>
      rw [e2] at h1
      exact ⟨q0, rfl, Option.some.inj h1⟩
  refine ⟨fun i j p q hi hj e3 => ?_, fun k q hk => ?_⟩
  · obtain ⟨p0, a1, a2⟩ := key hi
    obtain ⟨q0, b1, b2⟩ := key hj
    exact h.1 i j p0 q0 a1 b1 (by rw [a2, b2]; exact e3)
  · obtain ⟨q0, a1, a2⟩ := key hk
    rw [← a2]
    exact h.2 k q0 a1
theorem ex_wa (cy : Nat → ClassId) (ad : Nat → Nat) (cs cs' : EW) (T : va_W) : ex_w cy ad (cs ++ cs') ++ T = ex_w cy ad cs ++ (ex_w cy ad cs' ++ T) := by
  unfold ex_w
  rw [List.map_append, List.append_assoc]
theorem ex_wf (cy : Nat → ClassId) (ad : Nat → Nat) (cs : EW) : (ex_w cy ad cs).map Prod.fst = (cs.map Prod.fst).map ad := by
  unfold ex_w
  rw [List.map_map, List.map_map]
  rfl
theorem ex_Dw {cy : Nat → ClassId} {ad : Nat → Nat} {A : Nat → Prop} {cs cs' : EW} {T : va_W} (h : va_D A (ex_w cy ad cs ++ T)) (e : cs'.map Prod.fst = cs.map Prod.fst) : va_D A (ex_w cy ad cs' ++ T) :=
  ex_Dk h (by rw [List.map_append, List.map_append, ex_wf, ex_wf, e])
theorem ex_pm (cy : Nat → ClassId) (ad : Nat → Nat) {cs cs' : EW} (T : va_W) (h : cs.Perm cs') : (ex_w cy ad cs ++ T).Perm (ex_w cy ad cs' ++ T) := List.Perm.append_right T (List.Perm.map _ h)
theorem ex_pick {js : List Nat} {cs cs' : EW} (hj : js.Perm (List.range cs.length)) (he : js.filterMap (fun i => cs[i]?) = cs') : cs.Perm cs' := by
  have h1 : (List.range cs.length).filterMap (fun i => cs[i]?) = cs := fm_of (ex_tm cs)
  have h2 := List.Perm.filterMap (fun i => cs[i]?) hj.symm
  rw [h1, he] at h2
  exact h2
def ex_en : Nat → List MV → List (Nat × MV)
  | _, [] => []
  | i, a :: r => (i, a) :: ex_en (if ex_2 a then i + 2 else i + 1) r
theorem ex_en_ok (ad : Nat → Nat) : ∀ (as : List MV) (i : Nat), ex_l ad (ex_en i as) = lv_args i (as.map (ex_v ad))
  | [], _ => rfl
  | a :: r, i => by
    have e1 : (if (ex_v ad a).category = 2 then i + 2 else i + 1) = (if ex_2 a then i + 2 else i + 1) := by
      have h2 := ex_cat ad a
      cases e : ex_2 a with
      | true => rw [e] at h2; rw [if_pos (by simpa using h2), if_pos rfl]
      | false => rw [e] at h2; rw [if_neg (by simpa using h2), if_neg (by decide)]
    show (i, ex_v ad a) :: ex_l ad (ex_en (if ex_2 a then i + 2 else i + 1) r) = (i, ex_v ad a) :: lv_args (if (ex_v ad a).category = 2 then i + 2 else i + 1) (r.map (ex_v ad))
    rw [e1, ex_en_ok ad r]
def ex_sl : List MV → Nat
  | [] => 0
  | a :: r => (if ex_2 a then 2 else 1) + ex_sl r
theorem ex_c1 {v : Value} (h : (v.category == 2) = false) : v.category = 1 := cat1 (b := false) h rfl
theorem ex_sl_ok (ad : Nat → Nat) : ∀ as : List MV, (lg_sl (as.map (ex_v ad))).length = ex_sl as
  | [] => rfl
  | a :: r => by
    have h1 := ex_sl_ok ad r
    have h2 := ex_cat ad a
    show (List.flatMap _ (ex_v ad a :: r.map (ex_v ad))).length = _
    rw [List.flatMap_cons, List.length_append]
    show _ + (lg_sl (r.map (ex_v ad))).length = _
    rw [h1]
    simp only [ex_sl]
    cases e : ex_2 a with
    | true => rw [e] at h2; rw [if_pos (show (ex_v ad a).category = 2 by simpa using h2)]; rfl
    | false => rw [e] at h2; rw [if_neg (show ¬ (ex_v ad a).category = 2 by simpa using h2)]; rfl
theorem ex_sl_cat (ad : Nat → Nat) : ∀ as : List MV, ((as.map (ex_v ad)).map fun v => v.category).sum = ex_sl as
  | [] => rfl
  | a :: r => by
    have h1 := ex_sl_cat ad r
    have h2 := ex_cat ad a
    simp only [List.map_cons, List.sum_cons, ex_sl]
    rw [h1]
    cases e : ex_2 a with
    | true => rw [e] at h2; rw [show (ex_v ad a).category = 2 by simpa using h2]; rfl
    | false => rw [e] at h2; rw [ex_c1 h2]; rfl
/-- what a method does: from these arguments, in this world -/
def ex_M (l : Launch) (y : MethodName) (cc : ByteArray) (nL : Nat) (ret : Option FieldType) (fr lc : Nat) (as : List MV) (cs : EW) (Q : EW → Option MV → Prop) : Prop :=
  ∀ (D : va_G) (cy : Nat → ClassId) (ad : Nat → Nat) (T : va_W) (sz : Nat), Met l y (Cond.code y cc nL ret :: bigG) ({ frames := fr, cells := 0, slots := 0, locals := lc }) (preX D cy ad (as.map (ex_v ad)) sz (ex_w cy ad cs ++ T)) (ConQ ret (ex_Q D cy ad T (cs.map Prod.fst) Q) (va_A (ex_w cy ad cs ++ T) sz)) 0 0 (va_A (ex_w cy ad cs ++ T) sz)
section EXC
variable {l : Launch} {y : MethodName} {cc : ByteArray} {nL : Nat} {ret : Option FieldType} {fr lc : Nat} {ks : List Nat} {Q : EW → Option MV → Prop} {cs cs' : EW} {lv lv' : List (Nat × MV)} {stk : List MV} {pc : Nat}
theorem X_meth {as : List MV} (hy : plainName y.cls = true) (hn : ex_sl as ≤ nL) (h : ex_O l y cc nL ret fr lc (cs.map Prod.fst) Q cs (ex_en 0 as) [] 0) : ex_M l y cc nL ret fr lc as cs Q := by
  intro D cy ad T sz
  refine Met.ofW (cc := cc) (maxL := nL) (ret := ret) hy rfl ?_
  intro p e s m args below meth c s₁ B hml hv
  obtain ⟨⟨rfl, hsz, hP, hG, hD0⟩, hF⟩ := hv
  have hts := atoms_spec (ws := Cond.code y cc nL ret :: bigG) B.pre
  have hown : s.vm.findClass y.cls = some m.cls := findClass_of_methodNamed B.named
  subst hsz
  have hD := hD0.self (sz := s.heap.size)
  have hA : ∀ q : Nat, s.heap.size ≤ q → va_A (ex_w cy ad cs ++ T) s.heap.size q := fun q hq => Or.inr hq
  have hX : CTX p s m (as.map (ex_v ad)).toArray c cc nL y.cls (Cond.code y cc nL ret) D cy (va_A (ex_w cy ad cs ++ T) s.heap.size) := ⟨B.exec, B.bytes, hml, hown, hts, hG, hA⟩
  have hl := lv_entry (as.map (ex_v ad)) (n := nL) (by rw [ex_sl_ok]; exact hn)
  rw [← ex_en_ok] at hl
  rw [lg_entry_eq]
  exact h p e s m _ below meth c _ D cy ad _ T ⟨hX, hF, ⟨Nat.le_refl _, Nat.le_refl _⟩, B.returns, B.notSynchronized⟩ s.heap [] _ hP hD va_S.rf hl
theorem X_re (js : List Nat) (hj : js.Perm (List.range cs.length)) (he : js.filterMap (fun i => cs[i]?) = cs') (h : ex_O l y cc nL ret fr lc ks Q cs' lv stk pc) : ex_O l y cc nL ret fr lc ks Q cs lv stk pc := fun p e s m args below meth c R D cy ad A T hX H locs ls hP hD hS hl => h p e s m args below meth c R D cy ad A T hX H locs ls (ex_tP (ex_pm cy ad T (ex_pick hj he)) hP) (ex_tD (ex_pm cy ad T (ex_pick hj he)) hD) hS hl
/-- of the locals some -/
theorem X_lv (js : List Nat) (he : js.filterMap (fun i => lv[i]?) = lv') (h : ex_O l y cc nL ret fr lc ks Q cs lv' stk pc) : ex_O l y cc nL ret fr lc ks Q cs lv stk pc := fun p e s m args below meth c R D cy ad A T hX H locs ls hP hD hS hl => h p e s m args below meth c R D cy ad A T hX H locs ls hP hD hS ⟨hl.1, hl.2.1, fun q hq => hl.2.2 q (by
  unfold ex_l at hq ⊢
  obtain ⟨b, hb, rfl⟩ := List.mem_map.mp hq
  refine List.mem_map.mpr ⟨b, ?_, rfl⟩
  rw [← he] at hb
  obtain ⟨i, _, hi⟩ := List.mem_filterMap.mp hb
  exact List.mem_of_getElem? hi)⟩
theorem X_vret (hd : decode cc pc = .ok (.return_, 1)) (hk : cs.map Prod.fst = ks) (hq : Q cs none) : ex_O l y cc nL none fr lc ks Q cs lv [] pc := fun p e s m args below meth c R D cy ad A T hX H locs ls hP hD hS hl => W.vret hX.1.1 hX.1.2.1 hX.2.2.2.1 (fun t ht hW => ConQ_v (by rw [ht]; exact ⟨cs, none, hq, hk, rfl, hP⟩) (hS.F ht)) hS.2.2 hd hX.2.2.2.2
theorem X_iret {ty : FieldType} {v : Int32} (hy : ty ≠ .long) (hn : narrow ty (.int v) = .int v) (hd : decode cc pc = .ok (.ireturn, 1)) (hk : cs.map Prod.fst = ks) (hq : Q cs (some (ex_i v))) : ex_O l y cc nL (some ty) fr lc ks Q cs lv [ex_i v] pc := fun p e s m args below meth c R D cy ad A T hX H locs ls hP hD hS hl => W.zret hX.1.1 hX.1.2.1 hX.2.2.2.1 hn (fun t ht hW => ConQ_i hy (by rw [ht]; exact ⟨cs, some (ex_i v), hq, hk, rfl, hP⟩) (hS.F ht)) hS.2.2 hd hX.2.2.2.2
theorem X_lret {v : Int64} (hd : decode cc pc = .ok (.lreturn, 1)) (hk : cs.map Prod.fst = ks) (hq : Q cs (some (ex_j v))) : ex_O l y cc nL (some .long) fr lc ks Q cs lv [ex_j v] pc := fun p e s m args below meth c R D cy ad A T hX H locs ls hP hD hS hl => W.lret hX.1.1 hX.1.2.1 hX.2.2.2.1 (fun t ht hW => ConQ_l (by rw [ht]; exact ⟨cs, some (ex_j v), hq, hk, rfl, hP⟩) (hS.F ht)) hS.2.2 hd hX.2.2.2.2
/-! texts -/
theorem X_lds {i k key : Nat} {z : Lit} (hk : 10000 + k = key) (z1 : lits[k]? = some z) (z2 : z.1 = y.cls) (z3 : z.2.1 = i) (hd : decode cc pc = .ok (.ldc i, 2)) (h : ex_O l y cc nL ret fr lc ks Q cs lv (ex_r key :: stk) (pc + 2)) : ex_O l y cc nL ret fr lc ks Q cs lv stk pc := by
  intro p e s m args below meth c R D cy ad A T hX H locs ls hP hD hS hl
  subst hk
  have hz := (hX.2.1.1 k z z1).1
  rw [z2, z3] at hz
  exact va_ldcS hX.1.1 hX.1.2.1 hX.1.2.2.2.1 hz hd (h p e s m args below meth c R D cy ad A T hX H locs ls hP hD hS hl)
theorem X_gets0 {i : Nat} (hw : Cond.fieldLink y.cls i strN "COMPACT_STRINGS" "Z" ∈ bigG) (hd : decode cc pc = .ok (.getstatic i, 3)) (h : ex_O l y cc nL ret fr lc ks Q cs lv (ex_i 1 :: stk) (pc + 3)) : ex_O l y cc nL ret fr lc ks Q cs lv stk pc := fun p e s m args below meth c R D cy ad A T hX H locs ls hP hD hS hl => va_gets hX.1.1 hX.1.2.1 hX.2.1.2.1 hS hX.1.2.2.2.1 (hX.1.2.2.2.2.1 _ (List.mem_cons_of_mem _ hw)) (fun _ h => h) hd (h p e s m args below meth c R D cy ad A T hX H locs ls hP hD hS hl)
theorem X_gets1 {i : Nat} (hw : Cond.fieldLink y.cls i preN "SIOOBE_FORMATTER" biD ∈ bigG) (hd : decode cc pc = .ok (.getstatic i, 3)) (h : ∀ v : Value, v.category = 1 → ex_O l y cc nL ret fr lc ks Q cs lv (ex_u v :: stk) (pc + 3)) : ex_O l y cc nL ret fr lc ks Q cs lv stk pc := by
  intro p e s m args below meth c R D cy ad A T hX H locs ls hP hD hS hl
  obtain ⟨v, hv1, hv2⟩ := hX.2.1.2.2
  exact va_gets hX.1.1 hX.1.2.1 hv1 hS hX.1.2.2.2.1 (hX.1.2.2.2.2.1 _ (List.mem_cons_of_mem _ hw)) (fun _ h => h) hd (h v hv2 p e s m args below meth c R D cy ad A T hX H locs ls hP hD hS hl)
theorem X_gfv {i k key key' : Nat} {z : Lit} (hk : 10000 + k = key) (hk' : 20000 + k = key') (z1 : lits[k]? = some z) (hw : Cond.fieldLink y.cls i strN "value" "[B" ∈ bigG) (hd : decode cc pc = .ok (.getfield i, 3)) (h : ex_O l y cc nL ret fr lc ks Q cs lv (ex_r key' :: stk) (pc + 3)) : ex_O l y cc nL ret fr lc ks Q cs lv (ex_r key :: stk) pc := by
  intro p e s m args below meth c R D cy ad A T hX H locs ls hP hD hS hl
  subst hk
  subst hk'
  exact vk_getf hX.1.1 hX.1.2.1 (hX.2.1.1 k z z1).2.2.2.1 hS hX.1.2.2.2.1 (hX.1.2.2.2.2.1 _ (List.mem_cons_of_mem _ hw)) (fun _ h => h) hd (h p e s m args below meth c R D cy ad A T hX H locs ls hP hD hS hl)
theorem X_gfc {i k key : Nat} {z : Lit} (hk : 10000 + k = key) (z1 : lits[k]? = some z) (hw : Cond.fieldLink y.cls i strN "coder" "B" ∈ bigG) (hd : decode cc pc = .ok (.getfield i, 3)) (h : ex_O l y cc nL ret fr lc ks Q cs lv (ex_i 0 :: stk) (pc + 3)) : ex_O l y cc nL ret fr lc ks Q cs lv (ex_r key :: stk) pc := by
  intro p e s m args below meth c R D cy ad A T hX H locs ls hP hD hS hl
  subst hk
  exact vk_getf hX.1.1 hX.1.2.1 (hX.2.1.1 k z z1).2.2.1 hS hX.1.2.2.2.1 (hX.1.2.2.2.2.1 _ (List.mem_cons_of_mem _ hw)) (fun _ h => h) hd (h p e s m args below meth c R D cy ad A T hX H locs ls hP hD hS hl)
theorem X_als {k key : Nat} {z : Lit} {v : Int32} (hk : 20000 + k = key) (z1 : lits[k]? = some z) (hv : Int32.ofNat z.2.2.2.length = v) (hd : decode cc pc = .ok (.arraylength, 1)) (h : ex_O l y cc nL ret fr lc ks Q cs lv (ex_i v :: stk) (pc + 1)) : ex_O l y cc nL ret fr lc ks Q cs lv (ex_r key :: stk) pc := by
  intro p e s m args below meth c R D cy ad A T hX H locs ls hP hD hS hl
  subst hk
  exact va_tlen hX.1.1 hX.1.2.1 (hX.2.1.1 k z z1).2.2.2.2 hS hv hd (h p e s m args below meth c R D cy ad A T hX H locs ls hP hD hS hl)
theorem X_bs {k key : Nat} {z : Lit} {i v : Int32} (hk : 20000 + k = key) (z1 : lits[k]? = some z) (hin : vp_in i z.2.2.2.length) (hv : z.2.2.2.getD i.toNatClampNeg 0 = v) (hd : decode cc pc = .ok (.baload, 1)) (h : ex_O l y cc nL ret fr lc ks Q cs lv (ex_i v :: stk) (pc + 1)) : ex_O l y cc nL ret fr lc ks Q cs lv (ex_i i :: ex_r key :: stk) pc := by
  intro p e s m args below meth c R D cy ad A T hX H locs ls hP hD hS hl
  subst hk
  subst hv
  exact va_tb hX.1.1 hX.1.2.1 (hX.2.1.1 k z z1).2.2.2.2 hS hin rfl hd (h p e s m args below meth c R D cy ad A T hX H locs ls hP hD hS hl)
/-- the world behind a call, the callee's cells ahead -/
theorem ex_ro {ad : Nat → Nat} (r : Option MV) (stk : List MV) : (r.map (ex_v ad)).toList ++ stk.map (ex_v ad) = (r.toList ++ stk).map (ex_v ad) := by
  cases r <;> rfl
theorem ex_call {p : Program} {e : Env} {s : State} {m : MethodId} {args : Array Value} {below : List Frame} {meth : Method} {c : Code} {R : Room} {D : va_G} {cy : Nat → ClassId} {ad : Nat → Nat} {A : Nat → Prop} {T : va_W} {H : Heap} {locs : List Loc} {ls : Array Slot} {ret' : Option FieldType} {c1 rest : EW} {Q' : EW → Option MV → Prop} {Qs : State → Prop} {st0 : List Value} {av : Array Value}
    (hA : ∀ q : Nat, s.heap.size ≤ q → A q) (hP : va_P D vwCl (ex_w cy ad c1 ++ (ex_w cy ad rest ++ T)) H) (hD : va_D A (ex_w cy ad c1 ++ (ex_w cy ad rest ++ T))) (hS : va_S A s.heap H locs)
    (hr : va_Run p l e R s m args below meth c H locs 0 0 0 0 (F0 m pc ls st0) (stk.map (ex_v ad)) (ConQ ret' (ex_Q D cy ad (ex_w cy ad rest ++ T) (c1.map Prod.fst) Q') (va_A (ex_w cy ad c1 ++ (ex_w cy ad rest ++ T)) H.size) av) (va_A (ex_w cy ad c1 ++ (ex_w cy ad rest ++ T)) H.size))
    (kk : ∀ (cs1 : EW) (r : Option MV) (H1 : Heap) (locs1 : List Loc), Q' cs1 r → cs1.map Prod.fst = c1.map Prod.fst → va_P D vwCl (ex_w cy ad (cs1 ++ rest) ++ T) H1 → va_D A (ex_w cy ad (cs1 ++ rest) ++ T) → va_S A s.heap H1 locs1 → W p l e R s m args below meth c H1 locs1 0 0 Qs (F0 m (pc + 3) ls ((r.toList ++ stk).map (ex_v ad)))) : W p l e R s m args below meth c H locs 0 0 Qs (F0 m pc ls st0) := by
  refine y_c hP hD hS hA (List.range (ex_w cy ad c1 ++ (ex_w cy ad rest ++ T)).length) (ex_tm _) hr (fun v H1 locs1 hB _ hS1 => ?_)
  obtain ⟨cs1, r, k1, k2, rfl, k3⟩ := hB
  rw [ex_ro]
  refine kk cs1 r H1 locs1 k1 k2 ?_ ?_ hS1
  · rw [ex_wa]
    exact k3
  · rw [ex_wa]
    exact ex_Dw hD k2
theorem X_callV {idx k' np ci fr' lc' nL' : Nat} {y' : MethodName} {cc' : ByteArray} {ret' : Option FieldType} {c1 rest : EW} {as st0 : List MV} {Q' : EW → Option MV → Prop} {key j0 : Nat} {fs : List MV} (hq : COK MT y.cls (idx, 0, k', np, ci)) (hmt : MT k' = (y', cc', nL', ret')) (hR : fr' + 1 ≤ fr ∧ 8 + (nL' + 11) + lc' ≤ lc) (hM : ex_M l y' cc' nL' ret' fr' lc' (ex_r key :: as) c1 Q') (hd : decode cc pc = .ok (.invokevirtual idx, 3)) (js : List Nat) (hj : js.Perm (List.range cs.length)) (he : js.filterMap (fun i => cs[i]?) = c1 ++ rest) (hrc : (c1 ++ rest)[j0]? = some (key, ex_o ci fs)) (hnp : as.length = np) (hst : as.reverse ++ ex_r key :: stk = st0) (hcat : ex_sl stk ≤ 8) (h : ∀ (cs1 : EW) (r : Option MV), Q' cs1 r → cs1.map Prod.fst = c1.map Prod.fst → ex_O l y cc nL ret fr lc ks Q (cs1 ++ rest) lv (r.toList ++ stk) (pc + 3)) : ex_O l y cc nL ret fr lc ks Q cs lv st0 pc := by
  intro p e s m args below meth c R D cy ad A T hX H locs ls hP hD hS hl
  subst hst
  have hp := ex_pm cy ad T (ex_pick hj he)
  have hP := ex_tP hp hP
  have hD := ex_tD hp hD
  rw [ex_wa] at hP hD
  have hM1 := hM D cy ad (ex_w cy ad rest ++ T) H.size
  have hx := hX.1.1
  have hb := hX.1.2.1
  have hml := hX.1.2.2.1
  have hown := hX.1.2.2.2.1
  have hts := hX.1.2.2.2.2.1
  have hK := hX.1.2.2.2.2.2.1
  have hA := hX.1.2.2.2.2.2.2
  have hRr : fr' + 1 ≤ R.frames ∧ 8 + (nL' + 11) + lc' ≤ R.locals := ⟨Nat.le_trans hR.1 hX.2.2.1.1, Nat.le_trans hR.2 hX.2.2.1.2⟩
  have hrm : ((stk.map (ex_v ad)).map fun v => v.category).sum ≤ 8 := by rw [ex_sl_cat]; exact hcat
  have hal : (as.map (ex_v ad)).length = np := by rw [List.length_map]; exact hnp
  unfold COK at hq
  dsimp only at hq
  rw [hmt] at hq
  obtain ⟨c1', c2', c3, c4, c5⟩ := hq
  have hn : va_nd (List.range (ex_w cy ad c1 ++ (ex_w cy ad rest ++ T)).length) = true := ex_tnd0 _ List.nodup_range
  obtain ⟨c6, c7, T0, N, c8⟩ := c5
  have hw : (ex_w cy ad c1 ++ (ex_w cy ad rest ++ T))[j0]? = some (ad key, ex_e cy ad (ex_o ci fs)) := by rw [← ex_wa]; exact ex_at hrc
  have cw := cwV (R := R) (Ts := Cond.code y cc nL ret :: bigG) (rm := { frames := fr', cells := 0, slots := 0, locals := lc' }) (mc := 0) (ms := 0) np hts (gV c1' c6 c7 c2' c3) rfl rfl rfl ⟨rfl, c4⟩ hRr
  refine ex_call hA hP hD hS (va_runV (As := as.map (ex_v ad)) (rest := stk.map (ex_v ad)) ⟨hx, hb, hml, hown, hts⟩ hM1 cw (preXV hK hP hD hS hA hX.2.1 (fun _ _ => rfl) _ (ex_tm _) hn (va_recv hK.1 hP c8 hw)) rfl hal hl.1 ?_ (lv_room hrm) hd ⟨Nat.zero_le _, Nat.zero_le _⟩) (fun cs1 r H1 locs1 q1 q2 hP1 hD1 hS1 => h cs1 r q1 q2 p e s m args below meth c R D cy ad A T hX H1 locs1 ls hP1 hD1 hS1 hl)
  show List.map (ex_v ad) (as.reverse ++ ex_r key :: stk) = _
  rw [List.map_append, List.map_reverse]
  try rfl
theorem X_callT {idx k' np ci fr' lc' nL' : Nat} {y' : MethodName} {cc' : ByteArray} {ret' : Option FieldType} {c1 rest : EW} {as st0 : List MV} {Q' : EW → Option MV → Prop} {key k0 : Nat} {z : Lit} (hq : COK MT y.cls (idx, 2, k', np, ci)) (hmt : MT k' = (y', cc', nL', ret')) (hR : fr' + 1 ≤ fr ∧ 8 + (nL' + 11) + lc' ≤ lc) (hM : ex_M l y' cc' nL' ret' fr' lc' (ex_r key :: as) c1 Q') (hd : decode cc pc = .ok (.invokevirtual idx, 3)) (js : List Nat) (hj : js.Perm (List.range cs.length)) (he : js.filterMap (fun i => cs[i]?) = c1 ++ rest) (hk0 : 10000 + k0 = key) (hz : lits[k0]? = some z) (hnp : as.length = np) (hst : as.reverse ++ ex_r key :: stk = st0) (hcat : ex_sl stk ≤ 8) (h : ∀ (cs1 : EW) (r : Option MV), Q' cs1 r → cs1.map Prod.fst = c1.map Prod.fst → ex_O l y cc nL ret fr lc ks Q (cs1 ++ rest) lv (r.toList ++ stk) (pc + 3)) : ex_O l y cc nL ret fr lc ks Q cs lv st0 pc := by
  intro p e s m args below meth c R D cy ad A T hX H locs ls hP hD hS hl
  subst hst
  have hp := ex_pm cy ad T (ex_pick hj he)
  have hP := ex_tP hp hP
  have hD := ex_tD hp hD
  rw [ex_wa] at hP hD
  have hM1 := hM D cy ad (ex_w cy ad rest ++ T) H.size
  have hx := hX.1.1
  have hb := hX.1.2.1
  have hml := hX.1.2.2.1
  have hown := hX.1.2.2.2.1
  have hts := hX.1.2.2.2.2.1
  have hK := hX.1.2.2.2.2.2.1
  have hA := hX.1.2.2.2.2.2.2
  have hRr : fr' + 1 ≤ R.frames ∧ 8 + (nL' + 11) + lc' ≤ R.locals := ⟨Nat.le_trans hR.1 hX.2.2.1.1, Nat.le_trans hR.2 hX.2.2.1.2⟩
  have hrm : ((stk.map (ex_v ad)).map fun v => v.category).sum ≤ 8 := by rw [ex_sl_cat]; exact hcat
  have hal : (as.map (ex_v ad)).length = np := by rw [List.length_map]; exact hnp
  unfold COK at hq
  dsimp only at hq
  rw [hmt] at hq
  obtain ⟨c1', c2', c3, c4, c5⟩ := hq
  have hn : va_nd (List.range (ex_w cy ad c1 ++ (ex_w cy ad rest ++ T)).length) = true := ex_tnd0 _ List.nodup_range
  obtain ⟨c6, c7, c8⟩ := c5
  have k2 := (hX.2.1.1 k0 z hz).2.1
  rw [hk0] at k2
  have cw := cwV (R := R) (Ts := Cond.code y cc nL ret :: bigG) (rm := { frames := fr', cells := 0, slots := 0, locals := lc' }) (mc := 0) (ms := 0) np hts (gV c1' c6 c7 c2' c3) rfl rfl rfl ⟨rfl, c4⟩ hRr
  obtain ⟨cell, r1, r2, r3, -⟩ := k2.kept hS.2.1
  refine ex_call hA hP hD hS (va_runV (As := as.map (ex_v ad)) (rest := stk.map (ex_v ad)) ⟨hx, hb, hml, hown, hts⟩ hM1 cw (preXV hK hP hD hS hA hX.2.1 (fun _ _ => rfl) _ (ex_tm _) hn ⟨cell, r1, r2, by rw [c8]; exact r3⟩) rfl hal hl.1 ?_ (lv_room hrm) hd ⟨Nat.zero_le _, Nat.zero_le _⟩) (fun cs1 r H1 locs1 q1 q2 hP1 hD1 hS1 => h cs1 r q1 q2 p e s m args below meth c R D cy ad A T hX H1 locs1 ls hP1 hD1 hS1 hl)
  show List.map (ex_v ad) (as.reverse ++ ex_r key :: stk) = _
  rw [List.map_append, List.map_reverse]
  try rfl
theorem X_callS {idx k' np ci fr' lc' nL' : Nat} {y' : MethodName} {cc' : ByteArray} {ret' : Option FieldType} {c1 rest : EW} {as st0 : List MV} {Q' : EW → Option MV → Prop} (hq : COK MT y.cls (idx, 1, k', np, ci)) (hmt : MT k' = (y', cc', nL', ret')) (hR : fr' + 1 ≤ fr ∧ 8 + (nL' + 11) + lc' ≤ lc) (hM : ex_M l y' cc' nL' ret' fr' lc' as c1 Q') (hd : decode cc pc = .ok (.invokestatic idx, 3)) (js : List Nat) (hj : js.Perm (List.range cs.length)) (he : js.filterMap (fun i => cs[i]?) = c1 ++ rest) (hnp : as.length = np) (hst : as.reverse ++ stk = st0) (hcat : ex_sl stk ≤ 8) (h : ∀ (cs1 : EW) (r : Option MV), Q' cs1 r → cs1.map Prod.fst = c1.map Prod.fst → ex_O l y cc nL ret fr lc ks Q (cs1 ++ rest) lv (r.toList ++ stk) (pc + 3)) : ex_O l y cc nL ret fr lc ks Q cs lv st0 pc := by
  intro p e s m args below meth c R D cy ad A T hX H locs ls hP hD hS hl
  subst hst
  have hp := ex_pm cy ad T (ex_pick hj he)
  have hP := ex_tP hp hP
  have hD := ex_tD hp hD
  rw [ex_wa] at hP hD
  have hM1 := hM D cy ad (ex_w cy ad rest ++ T) H.size
  have hx := hX.1.1
  have hb := hX.1.2.1
  have hml := hX.1.2.2.1
  have hown := hX.1.2.2.2.1
  have hts := hX.1.2.2.2.2.1
  have hK := hX.1.2.2.2.2.2.1
  have hA := hX.1.2.2.2.2.2.2
  have hRr : fr' + 1 ≤ R.frames ∧ 8 + (nL' + 11) + lc' ≤ R.locals := ⟨Nat.le_trans hR.1 hX.2.2.1.1, Nat.le_trans hR.2 hX.2.2.1.2⟩
  have hrm : ((stk.map (ex_v ad)).map fun v => v.category).sum ≤ 8 := by rw [ex_sl_cat]; exact hcat
  have hal : (as.map (ex_v ad)).length = np := by rw [List.length_map]; exact hnp
  unfold COK at hq
  dsimp only at hq
  rw [hmt] at hq
  obtain ⟨c1', c2', c3, c4, c5⟩ := hq
  have hn : va_nd (List.range (ex_w cy ad c1 ++ (ex_w cy ad rest ++ T)).length) = true := ex_tnd0 _ List.nodup_range
  have cw := va_cwS (R := R) (Ts := Cond.code y cc nL ret :: bigG) (rm := { frames := fr', cells := 0, slots := 0, locals := lc' }) (mc := 0) (ms := 0) np hts (gS c1' c5 c2' c3) rfl rfl rfl c4 hRr
  refine ex_call hA hP hD hS (va_runS (As := as.map (ex_v ad)) (rest := stk.map (ex_v ad)) ⟨hx, hb, hml, hown, hts⟩ hM1 cw (preXS hK hP hD hS hA hX.2.1 (fun _ _ => rfl) _ (ex_tm _) hn) rfl hal hl.1 ?_ (lv_room hrm) hd ⟨Nat.zero_le _, Nat.zero_le _⟩) (fun cs1 r H1 locs1 q1 q2 hP1 hD1 hS1 => h cs1 r q1 q2 p e s m args below meth c R D cy ad A T hX H1 locs1 ls hP1 hD1 hS1 hl)
  show List.map (ex_v ad) (as.reverse ++ stk) = _
  rw [List.map_append, List.map_reverse]
end EXC
section EXD
variable {l : Launch} {y : MethodName} {cc : ByteArray} {nL : Nat} {ret : Option FieldType} {fr lc : Nat} {ks : List Nat} {Q : EW → Option MV → Prop} {stk : List MV} {pc : Nat}
theorem X_ind {α : Type} (I : α → Prop) (μ : α → Nat) (Wd : α → EW) (V : α → List (Nat × MV)) (step : ∀ a, I a → (∀ b, I b → μ b < μ a → ex_O l y cc nL ret fr lc ks Q (Wd b) (V b) stk pc) → ex_O l y cc nL ret fr lc ks Q (Wd a) (V a) stk pc) (a : α) (h : I a) : ex_O l y cc nL ret fr lc ks Q (Wd a) (V a) stk pc := by
  have key : ∀ (n : Nat) (a : α), μ a < n → I a → ex_O l y cc nL ret fr lc ks Q (Wd a) (V a) stk pc := by
    intro n
    induction n with
    | zero => intro a h; exact absurd h (Nat.not_lt_zero _)
    | succ n ih => intro a hn ha; exact step a ha (fun b hb hlt => ih b (by omega) hb)
  exact key (μ a + 1) a (Nat.lt_succ_self _) h
end EXD
theorem ex_nI : (FieldType.int : FieldType) ≠ .long := by intro h; cases h
theorem ex_nZ : (FieldType.boolean : FieldType) ≠ .long := by intro h; cases h
theorem ex_nC : (FieldType.char : FieldType) ≠ .long := by intro h; cases h
theorem ex_nB : (FieldType.byte : FieldType) ≠ .long := by intro h; cases h
section EXM
variable {l : Launch} {y : MethodName} {cc : ByteArray} {nL : Nat} {ret : Option FieldType} {fr lc : Nat} {ks : List Nat} {Q : EW → Option MV → Prop} {cs : EW} {lv : List (Nat × MV)} {stk : List MV} {pc : Nat}
theorem X_mmax {idx : Nat} {a b v : Int32} (h1 : Cond.methodLink y.cls idx Lib.Math.max.name ∈ bigG) (h2 : Cond.static Lib.Math.max.name ∈ bigG) (h3 : Cond.initialized "java/lang/Math" ∈ bigG) (h4 : Cond.code Lib.Math.max.name Lib.Math.max.code 2 (some .int) ∈ bigG) (hR : 1 ≤ fr ∧ 40 ≤ lc) (hcat : ex_sl stk ≤ 8) (hd : decode cc pc = .ok (.invokestatic idx, 3)) (hv : (if a < b then b else a) = v) (h : ex_O l y cc nL ret fr lc ks Q cs lv (ex_i v :: stk) (pc + 3)) : ex_O l y cc nL ret fr lc ks Q cs lv (ex_i b :: ex_i a :: stk) pc := by
  intro p e s m args below meth c R D cy ad A T hX H locs ls hP hD hS hl
  subst hv
  have hts := hX.1.2.2.2.2.1
  have hl2 : 40 ≤ R.locals := Nat.le_trans hR.2 hX.2.2.1.2
  exact va_mmax hX.1.1 hX.1.2.1 (hX.1.2.2.1.trans hl.1.symm) hX.1.2.2.2.1 (hts _ (List.mem_cons_of_mem _ h1)) (hts _ (List.mem_cons_of_mem _ h2)) (hts _ (List.mem_cons_of_mem _ h3)) (hts _ (List.mem_cons_of_mem _ h4)) (Nat.le_trans hR.1 hX.2.2.1.1) (by rw [ex_sl_cat]; omega) (Nat.zero_le _) (Nat.zero_le _) hd (h p e s m args below meth c R D cy ad A T hX H locs ls hP hD hS hl)
theorem X_mmin {idx : Nat} {a b v : Int32} (h1 : Cond.methodLink y.cls idx Lib.Math.min.name ∈ bigG) (h2 : Cond.static Lib.Math.min.name ∈ bigG) (h3 : Cond.initialized "java/lang/Math" ∈ bigG) (h4 : Cond.code Lib.Math.min.name Lib.Math.min.code 2 (some .int) ∈ bigG) (hR : 1 ≤ fr ∧ 40 ≤ lc) (hcat : ex_sl stk ≤ 8) (hd : decode cc pc = .ok (.invokestatic idx, 3)) (hv : (if b < a then b else a) = v) (h : ex_O l y cc nL ret fr lc ks Q cs lv (ex_i v :: stk) (pc + 3)) : ex_O l y cc nL ret fr lc ks Q cs lv (ex_i b :: ex_i a :: stk) pc := by
  intro p e s m args below meth c R D cy ad A T hX H locs ls hP hD hS hl
  subst hv
  have hts := hX.1.2.2.2.2.1
  have hl2 : 40 ≤ R.locals := Nat.le_trans hR.2 hX.2.2.1.2
  exact va_mmin hX.1.1 hX.1.2.1 (hX.1.2.2.1.trans hl.1.symm) hX.1.2.2.2.1 (hts _ (List.mem_cons_of_mem _ h1)) (hts _ (List.mem_cons_of_mem _ h2)) (hts _ (List.mem_cons_of_mem _ h3)) (hts _ (List.mem_cons_of_mem _ h4)) (Nat.le_trans hR.1 hX.2.2.1.1) (by rw [ex_sl_cat]; omega) (Nat.zero_le _) (Nat.zero_le _) hd (h p e s m args below meth c R D cy ad A T hX H locs ls hP hD hS hl)
end EXM
