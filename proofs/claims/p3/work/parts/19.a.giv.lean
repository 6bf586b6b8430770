/-! the contracts that are shown by hand: who is called so, and the moving of the codes; own -/
theorem con_man {MT : Nat → MI} {l : Launch} {con : Con} (hy : plainName (MT con.1).1.cls = true) (hc : catS con.2.2.2.1 ≤ (MT con.1).2.2.1)
    (body : ∀ (p : Program) (e : Env) (s : State) (m : MethodId) (below : List Frame) (meth : Method) (c : Code) (D : va_G) (cy : Nat → ClassId) (ω : List Value) (ad : Nat → Nat) (σ : List Int) (φ : List (Nat → Int32)) (av : List Value) (ws : va_W), ConPre cy ω ad con σ φ av ws → CTX p s m av.toArray c (MT con.1).2.1 (MT con.1).2.2.1 (MT con.1).1.cls (Cond.code (MT con.1).1 (MT con.1).2.1 (MT con.1).2.2.1 (MT con.1).2.2.2) D cy (va_A ws s.heap.size) → SF ad (va_A ws s.heap.size) s → meth.sig.returnType = (MT con.1).2.2.2 → meth.locks = false → va_P D vwCl ws s.heap → va_D (va_A ws s.heap.size) ws → va_S (va_A ws s.heap.size) s.heap s.heap [] →
      ∀ ls : Array Slot, lv_has ls (MT con.1).2.2.1 (lv_args 0 av) → W p l e (headSpec (Cond.code (MT con.1).1 (MT con.1).2.1 (MT con.1).2.2.1 (MT con.1).2.2.2 :: bigG) ({ frames := con.2.1.1, cells := 0, slots := 0, locals := con.2.1.2 })).room s m av.toArray below meth c s.heap [] 0 0 (MQ below (ConQ (MT con.1).2.2.2 (ConPost D cy ω ad con.2.2.2.2.2 σ φ) (va_A ws s.heap.size)) av.toArray s 0 0 (va_A ws s.heap.size)) (F0 m 0 ls [])) : ConOK MT l con := by
  intro D cy ω ad σp φp av ws sz hpre
  refine Met.ofW (cc := (MT con.1).2.1) (maxL := (MT con.1).2.2.1) (ret := (MT con.1).2.2.2) hy rfl ?_
  intro p e s m args below meth c s₁ B hml hv
  obtain ⟨⟨rfl, hsz, hP, hG, hD0⟩, hF⟩ := hv
  have hts := atoms_spec (ws := Cond.code (MT con.1).1 (MT con.1).2.1 (MT con.1).2.2.1 (MT con.1).2.2.2 :: bigG) B.pre
  have hown : s.vm.findClass (MT con.1).1.cls = some m.cls := findClass_of_methodNamed B.named
  subst hsz
  have hD := hD0.self (sz := s.heap.size)
  have hA : ∀ q : Nat, s.heap.size ≤ q → va_A ws s.heap.size q := fun q hq => Or.inr hq
  have hX : CTX p s m av.toArray c (MT con.1).2.1 (MT con.1).2.2.1 (MT con.1).1.cls (Cond.code (MT con.1).1 (MT con.1).2.1 (MT con.1).2.2.1 (MT con.1).2.2.2) D cy (va_A ws s.heap.size) := ⟨B.exec, B.bytes, hml, hown, hts, hG, hA⟩
  have hl := lv_entry av (n := (MT con.1).2.2.1) (by rw [sl_len hpre.2.1]; exact hc)
  rw [lg_entry_eq]
  exact body p e s m below meth c D cy ω ad σp φp av ws hpre hX hF B.returns B.notSynchronized hP hD va_S.rf _ hl
theorem lgc_self (x : Int64) : lg_cmp x x = 0 := by
  unfold lg_cmp
  rw [if_neg (by rw [gt_iff_lt, Int64.lt_iff_toInt_lt]; omega), if_pos rfl]
theorem lgc_eq {x y : Int64} (h : lg_cmp x y = 0) : x = y := by
  unfold lg_cmp at h
  by_cases g : x > y
  · rw [if_pos g] at h
    exact absurd h (by decide)
  · rw [if_neg g] at h
    by_cases k : x = y
    · exact k
    · rw [if_neg k] at h
      exact absurd h (by decide)
theorem pnG_b (F : Nat → Int64) (w : Int64) : ∀ (m i : Nat), i + m < 2 ^ 31 → -1 ≤ (pnG F w i m).toInt ∧ (pnG F w i m).toInt < ((i + m : Nat) : Int)
  | 0, i, h => by
    have e : (pnG F w i 0).toInt = -1 := rfl
    rw [e]
    omega
  | m + 1, i, h => by
    unfold pnG
    by_cases g : F i = w
    · rw [if_pos g, nI_toInt (by omega)]
      omega
    · rw [if_neg g]
      have := pnG_b F w m (i + 1) (by omega)
      omega
section GFW
variable {p : Program} {l : Launch} {e : Env} {R : Room} {s : State} {m : MethodId} {args : Array Value} {below : List Frame} {meth : Method} {c : Code} {Q : State → Prop} {cc : ByteArray} {D : va_G} {cy : Nat → ClassId} {A : Nat → Prop} {nL : Nat} {own : String} {w0 : Cond} {pc : Nat} {H : Heap} {locs : List Loc} {ls : Array Slot} {rest : List Value} {ws : va_W}
theorem gfW (hX : CTX p s m args c cc nL own w0 D cy A) {q : Nat × Nat × Nat × Nat} (hq : FOK own q) {o : Nat} {vs : List Value} (k0 : Nat) (w1 : ws[k0]? = some (o, .inr (q.2.1, vs))) {v : Value} (w4 : vs[q.2.2.1]? = some v) (hP : va_P D vwCl ws H) (hd : decode cc pc = .ok (.getfield q.1, 3)) (kk : W p l e R s m args below meth c H locs 0 0 Q (F0 m (pc + 3) ls (v :: rest))) : W p l e R s m args below meth c H locs 0 0 Q (F0 m pc ls (.ref o :: rest)) := by
  obtain ⟨hx, hb, hml, hown, hts, hK, hA⟩ := hX
  obtain ⟨C, T, N, ty0, f1, f2, f3, f4, f5, f6, f7⟩ := hq
  exact va_get hx hb hts (fun w hw => List.mem_cons_of_mem _ (f3 w hw)) hown hK.1 hP k0 w1 f1 q.2.2.1 f2 (hts _ (List.mem_cons_of_mem _ f6)) (fun _ h9 => h9) w4 hd kk
theorem pl_personNamed (hX : CTX p s m args c cX0_personNamed 4 RX0 w0 D cy A) {o an n : Nat} {vs : List Value} {F : Nat → Int64} {w : Int64} (hP : va_P D vwCl ws H) (w1 : ws[0]? = some (o, .inr (0, vs))) (w2 : ws[1]? = some (an, .inl (cy 2, 6, .inr (.inl F)))) (hp : vs[13]? = some (.int (nI n))) (hn : vs[0]? = some (.ref an)) (hle : n ≤ 6)
    (kr : ∀ (pc : Nat) (ls : Array Slot), decode cX0_personNamed pc = .ok (.ireturn, 1) → W p l e R s m args below meth c H locs 0 0 Q (F0 m pc ls [.int (pnF F n w)])) :
    ∀ (k i : Nat), i + k = n → pnF F n w = pnG F w i k → ∀ ls : Array Slot, lv_has ls 4 [(3, .int (nI i)), (0, .ref o), (1, .long w)] → W p l e R s m args below meth c H locs 0 0 Q (F0 m 2 ls []) := by
  intro k
  induction k with
  | zero =>
    intro i hi hr ls hl
    have e0 : i = n := by omega
    subst e0
    refine lv_iload_n hX.1 hX.2.1 dX0_personNamed_2 rfl (lv_at hl 0 rfl) ?_
    refine lv_aload_n hX.1 hX.2.1 dX0_personNamed_3 rfl (lv_at hl 1 rfl) ?_
    refine gfW hX fo_X0_56 0 w1 hp hP dX0_personNamed_4 ?_
    refine lv_icmp_ge hX.1 hX.2.1 dX0_personNamed_7 (tgt := 29) (by decide) (fun _ => ?_) (fun g => absurd (Int32.le_refl _) g)
    refine lv_iconst hX.1 hX.2.1 dX0_personNamed_29 (v := -1) rfl ?_
    have e1 : (-1 : Int32) = pnF F i w := hr.symm
    rw [e1]
    exact kr 30 ls dX0_personNamed_30
  | succ k ih =>
    intro i hi hr ls hl
    refine lv_iload_n hX.1 hX.2.1 dX0_personNamed_2 rfl (lv_at hl 0 rfl) ?_
    refine lv_aload_n hX.1 hX.2.1 dX0_personNamed_3 rfl (lv_at hl 1 rfl) ?_
    refine gfW hX fo_X0_56 0 w1 hp hP dX0_personNamed_4 ?_
    refine lv_icmp_ge hX.1 hX.2.1 dX0_personNamed_7 (tgt := 29) (by decide) (fun g => absurd g (nI_ge (by omega) (by omega))) (fun _ => ?_)
    refine lv_aload_n hX.1 hX.2.1 dX0_personNamed_10 rfl (lv_at hl 1 rfl) ?_
    refine gfW hX fo_X0_11 0 w1 hn hP dX0_personNamed_11 ?_
    refine lv_iload_n hX.1 hX.2.1 dX0_personNamed_14 rfl (lv_at hl 0 rfl) ?_
    refine m_lald hX.1 hX.2.1 hX.2.2.2.2.2.1 hP 1 w2 (vp_in_nI (by omega) (by decide)) dX0_personNamed_15 (v := F i) (by rw [nI_clamp (by omega)]) ?_
    refine lv_lload_n hX.1 hX.2.1 dX0_personNamed_16 rfl (lv_at hl 2 rfl) ?_
    refine m_lcmp hX.1 hX.2.1 dX0_personNamed_17 rfl ?_
    refine lv_if_ne hX.1 hX.2.1 dX0_personNamed_18 (tgt := 23) (by decide) (fun g => ?_) (fun g => ?_)
    · have hne : ¬ F i = w := fun q => g (by rw [q]; exact lgc_self _)
      refine lv_iinc hX.1 hX.2.1 dX0_personNamed_23 hl (k := 0) rfl (v := nI (i + 1)) (by rw [nI_succ]; rfl) (by decide) rfl (fun ls' hl' => ?_)
      refine lv_goto hX.1 hX.2.1 dX0_personNamed_26 (tgt := 2) (by decide) ?_
      exact ih (i + 1) (by omega) (by rw [hr]; exact if_neg hne) ls' hl'
    · have he : F i = w := lgc_eq g
      refine lv_iload_n hX.1 hX.2.1 dX0_personNamed_21 rfl (lv_at hl 0 rfl) ?_
      have e2 : pnF F n w = nI i := by rw [hr]; exact if_pos he
      rw [← e2]
      exact kr 22 ls dX0_personNamed_22
theorem pl_dishNamed (hX : CTX p s m args c cX0_dishNamed 4 RX0 w0 D cy A) {o an n : Nat} {vs : List Value} {F : Nat → Int64} {w : Int64} (hP : va_P D vwCl ws H) (w1 : ws[0]? = some (o, .inr (0, vs))) (w2 : ws[1]? = some (an, .inl (cy 2, 5, .inr (.inl F)))) (hp : vs[14]? = some (.int (nI n))) (hn : vs[8]? = some (.ref an)) (hle : n ≤ 5)
    (kr : ∀ (pc : Nat) (ls : Array Slot), decode cX0_dishNamed pc = .ok (.ireturn, 1) → W p l e R s m args below meth c H locs 0 0 Q (F0 m pc ls [.int (pnF F n w)])) :
    ∀ (k i : Nat), i + k = n → pnF F n w = pnG F w i k → ∀ ls : Array Slot, lv_has ls 4 [(3, .int (nI i)), (0, .ref o), (1, .long w)] → W p l e R s m args below meth c H locs 0 0 Q (F0 m 2 ls []) := by
  intro k
  induction k with
  | zero =>
    intro i hi hr ls hl
    have e0 : i = n := by omega
    subst e0
    refine lv_iload_n hX.1 hX.2.1 dX0_dishNamed_2 rfl (lv_at hl 0 rfl) ?_
    refine lv_aload_n hX.1 hX.2.1 dX0_dishNamed_3 rfl (lv_at hl 1 rfl) ?_
    refine gfW hX fo_X0_60 0 w1 hp hP dX0_dishNamed_4 ?_
    refine lv_icmp_ge hX.1 hX.2.1 dX0_dishNamed_7 (tgt := 29) (by decide) (fun _ => ?_) (fun g => absurd (Int32.le_refl _) g)
    refine lv_iconst hX.1 hX.2.1 dX0_dishNamed_29 (v := -1) rfl ?_
    have e1 : (-1 : Int32) = pnF F i w := hr.symm
    rw [e1]
    exact kr 30 ls dX0_dishNamed_30
  | succ k ih =>
    intro i hi hr ls hl
    refine lv_iload_n hX.1 hX.2.1 dX0_dishNamed_2 rfl (lv_at hl 0 rfl) ?_
    refine lv_aload_n hX.1 hX.2.1 dX0_dishNamed_3 rfl (lv_at hl 1 rfl) ?_
    refine gfW hX fo_X0_60 0 w1 hp hP dX0_dishNamed_4 ?_
    refine lv_icmp_ge hX.1 hX.2.1 dX0_dishNamed_7 (tgt := 29) (by decide) (fun g => absurd g (nI_ge (by omega) (by omega))) (fun _ => ?_)
    refine lv_aload_n hX.1 hX.2.1 dX0_dishNamed_10 rfl (lv_at hl 1 rfl) ?_
    refine gfW hX fo_X0_37 0 w1 hn hP dX0_dishNamed_11 ?_
    refine lv_iload_n hX.1 hX.2.1 dX0_dishNamed_14 rfl (lv_at hl 0 rfl) ?_
    refine m_lald hX.1 hX.2.1 hX.2.2.2.2.2.1 hP 1 w2 (vp_in_nI (by omega) (by decide)) dX0_dishNamed_15 (v := F i) (by rw [nI_clamp (by omega)]) ?_
    refine lv_lload_n hX.1 hX.2.1 dX0_dishNamed_16 rfl (lv_at hl 2 rfl) ?_
    refine m_lcmp hX.1 hX.2.1 dX0_dishNamed_17 rfl ?_
    refine lv_if_ne hX.1 hX.2.1 dX0_dishNamed_18 (tgt := 23) (by decide) (fun g => ?_) (fun g => ?_)
    · have hne : ¬ F i = w := fun q => g (by rw [q]; exact lgc_self _)
      refine lv_iinc hX.1 hX.2.1 dX0_dishNamed_23 hl (k := 0) rfl (v := nI (i + 1)) (by rw [nI_succ]; rfl) (by decide) rfl (fun ls' hl' => ?_)
      refine lv_goto hX.1 hX.2.1 dX0_dishNamed_26 (tgt := 2) (by decide) ?_
      exact ih (i + 1) (by omega) (by rw [hr]; exact if_neg hne) ls' hl'
    · have he : F i = w := lgc_eq g
      refine lv_iload_n hX.1 hX.2.1 dX0_dishNamed_21 rfl (lv_at hl 0 rfl) ?_
      have e2 : pnF F n w = nI i := by rw [hr]; exact if_pos he
      rw [← e2]
      exact kr 22 ls dX0_dishNamed_22
end GFW
set_option maxRecDepth 100000 in
theorem ok_cn_X0_personNamed_B (l : Launch) : ConOK MT l cn_X0_personNamed_B := by
  refine con_man (by decide +kernel) (by decide +kernel) ?_
  intro p e s m below meth c D cy ω ad σ φ av ws hpre hX hF hret hlk hP hD hS ls hl
  obtain ⟨⟨hB, hFb, hC, hW⟩, hAv, hω, _⟩ := hpre
  match av, hAv with
  | [v0, v1], hAv =>
    have hv0 : v0 = .ref (ad 0) := hAv.1.1
    subst hv0
    obtain ⟨w, rfl, hw⟩ := hAv.2.1.1
    obtain ⟨en0, w1, vs, rfl, hf⟩ := hW.2 0 _ rfl
    obtain ⟨en1, w2, g, ob, _, w4⟩ := hW.2 1 _ rfl
    obtain ⟨vp, p1, x, rfl, hx⟩ := P2.get hf (k := 13) rfl
    obtain ⟨vn, n1, hvn⟩ := P2.get hf (k := 0) rfl
    have hvn' : vn = .ref (ad 1) := hvn
    subst hvn'
    obtain ⟨t, t1, t2⟩ := P2.get hB (k := 2) rfl
    have ht : t = x.toInt := by
      obtain ⟨u, u1, u2⟩ := hx
      rw [t1] at u1
      cases u1
      dsimp only at u2
      omega
    have hx0 : 0 ≤ x.toInt ∧ x.toInt ≤ 6 := by
      rw [ht] at t2
      exact t2
    have hxc : x.toNatClampNeg = x.toInt.toNat := rfl
    have hxn : x = nI x.toNatClampNeg := by
      apply Int32.toInt_inj.mp
      rw [nI_toInt (by rw [hxc]; omega), hxc]
      omega
    unfold OB at ob
    rw [if_neg (by decide), if_neg (by decide), if_neg (by decide)] at ob
    obtain ⟨F, mm, w0, rfl, o1, o2, o3, o4⟩ := ob
    rw [hxn] at p1
    refine lv_iconst hX.1 hX.2.1 dX0_personNamed_0 (v := nI 0) rfl ?_
    refine lv_istore_n hX.1 hX.2.1 dX0_personNamed_1 rfl hl (by decide) rfl (fun ls' hl' => ?_)
    refine pl_personNamed (w0 := _) hX hP w1 w2 p1 n1 (by rw [hxc]; omega) (fun pc ls2 hd => ?_) x.toNatClampNeg 0 (by omega) rfl ls' hl'
    have hb0 := pnG_b F w x.toNatClampNeg 0 (by rw [hxc]; omega)
    refine W.zret hX.1 hX.2.1 hret rfl (fun t' ht' hW' => ConQ_i (fun h => by cases h) ?_ (hS.F ht')) hS.2.2 hd hlk
    rw [ht']
    refine ⟨_, List.mem_cons_self .., [(pnF F x.toNatClampNeg w).toInt], [], ws, ⟨?_, ?_, ?_, ?_⟩, ⟨_, rfl, ⟨_, rfl, ?_⟩, rfl⟩, hP⟩
    · refine P2.app hB ⟨⟨?_, ?_⟩, trivial⟩
      · exact hb0.1
      · show (pnF F x.toNatClampNeg w).toInt ≤ 5
        have h2 : (pnF F x.toNatClampNeg w).toInt < ((0 + x.toNatClampNeg : Nat) : Int) := hb0.2
        rw [hxc] at h2
        rw [hxc]
        omega
    · rw [List.append_nil]
      exact hFb
    · intro q hq
      cases hq
    · have hwa := hW.app (τ := [(pnF F x.toNatClampNeg w).toInt]) (ψ := [])
      rw [List.append_nil] at hwa
      rw [show φ ++ [] = φ from List.append_nil φ]
      refine hwa.upd (k0 := 1) (c := .inr (.inr (.inr (.inl (1000006, [vi 2 0, vL 1 0, vi 6 0]))))) w2 ⟨fun j => if j = 0 then .int (nI x.toNatClampNeg) else if j = 1 then .long w else .int (pnF F x.toNatClampNeg w), ?_, rfl, fun j av hj => ?_⟩
      · unfold OB
        rw [if_neg (by decide), if_neg (by decide), if_neg (by decide)]
        exact ⟨F, x.toNatClampNeg, w, rfl, by rw [hxc]; omega, rfl, rfl, rfl⟩
      · match j, hj with
        | 0, hj =>
          cases hj
          refine ⟨x, by rw [← hxn]; rfl, hx.app⟩
        | 1, hj => cases hj; exact ⟨w, rfl, hw.app⟩
        | 2, hj =>
          cases hj
          refine ⟨_, rfl, ⟨(pnF F x.toNatClampNeg w).toInt, ?_, (Int.add_zero _).symm⟩⟩
          have hlen := P2.len hB
          show (σ ++ [(pnF F x.toNatClampNeg w).toInt])[6]? = _
          rw [show (6 : Nat) = σ.length from hlen]
          exact gend
        | j + 3, hj => simp at hj
    · refine ⟨(pnF F x.toNatClampNeg w).toInt, ?_, (Int.add_zero _).symm⟩
      have hlen := P2.len hB
      show (σ ++ [(pnF F x.toNatClampNeg w).toInt])[6]? = _
      rw [show (6 : Nat) = σ.length from hlen]
      exact gend
  | [v0], hAv => exact hAv.2.elim
  | [], hAv => exact hAv.elim
  | _ :: _ :: _ :: _, hAv => exact hAv.2.2.elim
set_option maxRecDepth 100000 in
theorem ok_cn_X0_dishNamed_B (l : Launch) : ConOK MT l cn_X0_dishNamed_B := by
  refine con_man (by decide +kernel) (by decide +kernel) ?_
  intro p e s m below meth c D cy ω ad σ φ av ws hpre hX hF hret hlk hP hD hS ls hl
  obtain ⟨⟨hB, hFb, hC, hW⟩, hAv, hω, _⟩ := hpre
  match av, hAv with
  | [v0, v1], hAv =>
    have hv0 : v0 = .ref (ad 0) := hAv.1.1
    subst hv0
    obtain ⟨w, rfl, hw⟩ := hAv.2.1.1
    obtain ⟨en0, w1, vs, rfl, hf⟩ := hW.2 0 _ rfl
    obtain ⟨en1, w2, g, ob, _, w4⟩ := hW.2 1 _ rfl
    obtain ⟨vp, p1, x, rfl, hx⟩ := P2.get hf (k := 14) rfl
    obtain ⟨vn, n1, hvn⟩ := P2.get hf (k := 8) rfl
    have hvn' : vn = .ref (ad 1) := hvn
    subst hvn'
    obtain ⟨t, t1, t2⟩ := P2.get hB (k := 2) rfl
    have ht : t = x.toInt := by
      obtain ⟨u, u1, u2⟩ := hx
      rw [t1] at u1
      cases u1
      dsimp only at u2
      omega
    have hx0 : 0 ≤ x.toInt ∧ x.toInt ≤ 5 := by
      rw [ht] at t2
      exact t2
    have hxc : x.toNatClampNeg = x.toInt.toNat := rfl
    have hxn : x = nI x.toNatClampNeg := by
      apply Int32.toInt_inj.mp
      rw [nI_toInt (by rw [hxc]; omega), hxc]
      omega
    unfold OB at ob
    rw [if_neg (by decide), if_neg (by decide), if_neg (by decide)] at ob
    obtain ⟨F, mm, w0, rfl, o1, o2, o3, o4⟩ := ob
    rw [hxn] at p1
    refine lv_iconst hX.1 hX.2.1 dX0_dishNamed_0 (v := nI 0) rfl ?_
    refine lv_istore_n hX.1 hX.2.1 dX0_dishNamed_1 rfl hl (by decide) rfl (fun ls' hl' => ?_)
    refine pl_dishNamed (w0 := _) hX hP w1 w2 p1 n1 (by rw [hxc]; omega) (fun pc ls2 hd => ?_) x.toNatClampNeg 0 (by omega) rfl ls' hl'
    have hb0 := pnG_b F w x.toNatClampNeg 0 (by rw [hxc]; omega)
    refine W.zret hX.1 hX.2.1 hret rfl (fun t' ht' hW' => ConQ_i (fun h => by cases h) ?_ (hS.F ht')) hS.2.2 hd hlk
    rw [ht']
    refine ⟨_, List.mem_cons_self .., [(pnF F x.toNatClampNeg w).toInt], [], ws, ⟨?_, ?_, ?_, ?_⟩, ⟨_, rfl, ⟨_, rfl, ?_⟩, rfl⟩, hP⟩
    · refine P2.app hB ⟨⟨?_, ?_⟩, trivial⟩
      · exact hb0.1
      · show (pnF F x.toNatClampNeg w).toInt ≤ 4
        have h2 : (pnF F x.toNatClampNeg w).toInt < ((0 + x.toNatClampNeg : Nat) : Int) := hb0.2
        rw [hxc] at h2
        rw [hxc]
        omega
    · rw [List.append_nil]
      exact hFb
    · intro q hq
      cases hq
    · have hwa := hW.app (τ := [(pnF F x.toNatClampNeg w).toInt]) (ψ := [])
      rw [List.append_nil] at hwa
      rw [show φ ++ [] = φ from List.append_nil φ]
      refine hwa.upd (k0 := 1) (c := .inr (.inr (.inr (.inl (1000005, [vi 2 0, vL 1 0, vi 6 0]))))) w2 ⟨fun j => if j = 0 then .int (nI x.toNatClampNeg) else if j = 1 then .long w else .int (pnF F x.toNatClampNeg w), ?_, rfl, fun j av hj => ?_⟩
      · unfold OB
        rw [if_neg (by decide), if_neg (by decide), if_neg (by decide)]
        exact ⟨F, x.toNatClampNeg, w, rfl, by rw [hxc]; omega, rfl, rfl, rfl⟩
      · match j, hj with
        | 0, hj =>
          cases hj
          refine ⟨x, by rw [← hxn]; rfl, hx.app⟩
        | 1, hj => cases hj; exact ⟨w, rfl, hw.app⟩
        | 2, hj =>
          cases hj
          refine ⟨_, rfl, ⟨(pnF F x.toNatClampNeg w).toInt, ?_, (Int.add_zero _).symm⟩⟩
          have hlen := P2.len hB
          show (σ ++ [(pnF F x.toNatClampNeg w).toInt])[6]? = _
          rw [show (6 : Nat) = σ.length from hlen]
          exact gend
        | j + 3, hj => simp at hj
    · refine ⟨(pnF F x.toNatClampNeg w).toInt, ?_, (Int.add_zero _).symm⟩
      have hlen := P2.len hB
      show (σ ++ [(pnF F x.toNatClampNeg w).toInt])[6]? = _
      rw [show (6 : Nat) = σ.length from hlen]
      exact gend
  | [v0], hAv => exact hAv.2.elim
  | [], hAv => exact hAv.elim
  | _ :: _ :: _ :: _, hAv => exact hAv.2.2.elim
set_option maxRecDepth 100000 in
theorem ok_cn_X0_personNamed_A (l : Launch) : ConOK MT l cn_X0_personNamed_A := by
  refine con_man (by decide +kernel) (by decide +kernel) ?_
  intro p e s m below meth c D cy ω ad σ φ av ws hpre hX hF hret hlk hP hD hS ls hl
  obtain ⟨⟨hB, hFb, hC, hW⟩, hAv, hω, _⟩ := hpre
  match av, hAv with
  | [v0, v1], hAv =>
    have hv0 : v0 = .ref (ad 0) := hAv.1.1
    subst hv0
    obtain ⟨w, rfl, hw⟩ := hAv.2.1.1
    obtain ⟨en0, w1, vs, rfl, hf⟩ := hW.2 0 _ rfl
    obtain ⟨en1, w2, g, ob, _, w4⟩ := hW.2 1 _ rfl
    obtain ⟨vp, p1, x, rfl, hx⟩ := P2.get hf (k := 13) rfl
    obtain ⟨vn, n1, hvn⟩ := P2.get hf (k := 0) rfl
    have hvn' : vn = .ref (ad 1) := hvn
    subst hvn'
    obtain ⟨t, t1, t2⟩ := P2.get hB (k := 2) rfl
    have ht : t = x.toInt := by
      obtain ⟨u, u1, u2⟩ := hx
      rw [t1] at u1
      cases u1
      dsimp only at u2
      omega
    have hx0 : 0 ≤ x.toInt ∧ x.toInt ≤ 6 := by
      rw [ht] at t2
      exact t2
    have hxc : x.toNatClampNeg = x.toInt.toNat := rfl
    have hxn : x = nI x.toNatClampNeg := by
      apply Int32.toInt_inj.mp
      rw [nI_toInt (by rw [hxc]; omega), hxc]
      omega
    unfold OB at ob
    rw [if_neg (by decide), if_neg (by decide), if_neg (by decide)] at ob
    obtain ⟨F, mm, w0, rfl, o1, o2, o3, o4⟩ := ob
    rw [hxn] at p1
    refine lv_iconst hX.1 hX.2.1 dX0_personNamed_0 (v := nI 0) rfl ?_
    refine lv_istore_n hX.1 hX.2.1 dX0_personNamed_1 rfl hl (by decide) rfl (fun ls' hl' => ?_)
    refine pl_personNamed (w0 := _) hX hP w1 w2 p1 n1 (by rw [hxc]; omega) (fun pc ls2 hd => ?_) x.toNatClampNeg 0 (by omega) rfl ls' hl'
    have hb0 := pnG_b F w x.toNatClampNeg 0 (by rw [hxc]; omega)
    refine W.zret hX.1 hX.2.1 hret rfl (fun t' ht' hW' => ConQ_i (fun h => by cases h) ?_ (hS.F ht')) hS.2.2 hd hlk
    rw [ht']
    have g0 := w4 0 _ rfl
    have g1 := w4 1 _ rfl
    have g2 := w4 2 _ rfl
    rw [o2] at g0
    rw [o3] at g1
    rw [o4] at g2
    have e1 : mm = x.toNatClampNeg := by
      have h1 := (gv_int g0).inj hx
      rw [nI_toInt o1] at h1
      rw [hxc]
      omega
    have e2 : w0 = w := by
      obtain ⟨y, y1, y2⟩ := g1
      cases y1
      exact Int64.toInt_inj.mp (y2.inj hw)
    subst e1 e2
    exact ⟨_, List.mem_cons_self .., [], [], ws, ⟨by rw [List.append_nil]; exact hB, by rw [List.append_nil]; exact hFb, (by intro q hq; cases hq), by rw [List.append_nil, List.append_nil]; exact hW⟩, ⟨_, rfl, by rw [List.append_nil]; exact g2, rfl⟩, hP⟩
  | [v0], hAv => exact hAv.2.elim
  | [], hAv => exact hAv.elim
  | _ :: _ :: _ :: _, hAv => exact hAv.2.2.elim
set_option maxRecDepth 100000 in
theorem ok_cn_X0_dishNamed_A (l : Launch) : ConOK MT l cn_X0_dishNamed_A := by
  refine con_man (by decide +kernel) (by decide +kernel) ?_
  intro p e s m below meth c D cy ω ad σ φ av ws hpre hX hF hret hlk hP hD hS ls hl
  obtain ⟨⟨hB, hFb, hC, hW⟩, hAv, hω, _⟩ := hpre
  match av, hAv with
  | [v0, v1], hAv =>
    have hv0 : v0 = .ref (ad 0) := hAv.1.1
    subst hv0
    obtain ⟨w, rfl, hw⟩ := hAv.2.1.1
    obtain ⟨en0, w1, vs, rfl, hf⟩ := hW.2 0 _ rfl
    obtain ⟨en1, w2, g, ob, _, w4⟩ := hW.2 1 _ rfl
    obtain ⟨vp, p1, x, rfl, hx⟩ := P2.get hf (k := 14) rfl
    obtain ⟨vn, n1, hvn⟩ := P2.get hf (k := 8) rfl
    have hvn' : vn = .ref (ad 1) := hvn
    subst hvn'
    obtain ⟨t, t1, t2⟩ := P2.get hB (k := 2) rfl
    have ht : t = x.toInt := by
      obtain ⟨u, u1, u2⟩ := hx
      rw [t1] at u1
      cases u1
      dsimp only at u2
      omega
    have hx0 : 0 ≤ x.toInt ∧ x.toInt ≤ 5 := by
      rw [ht] at t2
      exact t2
    have hxc : x.toNatClampNeg = x.toInt.toNat := rfl
    have hxn : x = nI x.toNatClampNeg := by
      apply Int32.toInt_inj.mp
      rw [nI_toInt (by rw [hxc]; omega), hxc]
      omega
    unfold OB at ob
    rw [if_neg (by decide), if_neg (by decide), if_neg (by decide)] at ob
    obtain ⟨F, mm, w0, rfl, o1, o2, o3, o4⟩ := ob
    rw [hxn] at p1
    refine lv_iconst hX.1 hX.2.1 dX0_dishNamed_0 (v := nI 0) rfl ?_
    refine lv_istore_n hX.1 hX.2.1 dX0_dishNamed_1 rfl hl (by decide) rfl (fun ls' hl' => ?_)
    refine pl_dishNamed (w0 := _) hX hP w1 w2 p1 n1 (by rw [hxc]; omega) (fun pc ls2 hd => ?_) x.toNatClampNeg 0 (by omega) rfl ls' hl'
    have hb0 := pnG_b F w x.toNatClampNeg 0 (by rw [hxc]; omega)
    refine W.zret hX.1 hX.2.1 hret rfl (fun t' ht' hW' => ConQ_i (fun h => by cases h) ?_ (hS.F ht')) hS.2.2 hd hlk
    rw [ht']
    have g0 := w4 0 _ rfl
    have g1 := w4 1 _ rfl
    have g2 := w4 2 _ rfl
    rw [o2] at g0
    rw [o3] at g1
    rw [o4] at g2
    have e1 : mm = x.toNatClampNeg := by
      have h1 := (gv_int g0).inj hx
      rw [nI_toInt o1] at h1
      rw [hxc]
      omega
    have e2 : w0 = w := by
      obtain ⟨y, y1, y2⟩ := g1
      cases y1
      exact Int64.toInt_inj.mp (y2.inj hw)
    subst e1 e2
    exact ⟨_, List.mem_cons_self .., [], [], ws, ⟨by rw [List.append_nil]; exact hB, by rw [List.append_nil]; exact hFb, (by intro q hq; cases hq), by rw [List.append_nil, List.append_nil]; exact hW⟩, ⟨_, rfl, by rw [List.append_nil]; exact g2, rfl⟩, hP⟩
  | [v0], hAv => exact hAv.2.elim
  | [], hAv => exact hAv.elim
  | _ :: _ :: _ :: _, hAv => exact hAv.2.2.elim
def mvF (f : Nat → Int32) (i : Nat) : Nat → Int32 := fun j => if j < i then f (1000 + j) else f j
theorem mvF_upd (f : Nat → Int32) (i : Nat) : upd (mvF f i) i (f (1000 + i)) = mvF f (i + 1) := by
  funext j
  unfold upd mvF
  by_cases e : j = i
  · subst e
    rw [if_pos rfl, if_pos (by omega)]
  · rw [if_neg e]
    by_cases g : j < i
    · rw [if_pos g, if_pos (by omega)]
    · rw [if_neg g, if_neg (by omega)]
theorem nrun_shift {f g : Nat → Int32} {a b : Nat} : ∀ {n : Nat}, (∀ j, j < n → f (a + j) = g (b + j)) → nrun f a n = nrun g b n
  | 0, _ => rfl
  | n + 1, h => by
    unfold nrun
    rw [nrun_shift (n := n) (fun j hj => h j (by omega)), h n (by omega)]
theorem extN_shift {f g : Nat → Int32} {a b : Nat} : ∀ {n : Nat}, (∀ j, j < n → f (a + j) = g (b + j)) → extN f a n = extN g b n
  | 0, _ => rfl
  | n + 1, h => by
    unfold extN
    rw [nrun_shift h, extN_shift (n := n) (fun j hj => h j (by omega))]
section MVL
variable {p : Program} {l : Launch} {e : Env} {R : Room} {s : State} {m : MethodId} {args : Array Value} {below : List Frame} {meth : Method} {c : Code} {Q : State → Prop} {D : va_G} {cy : Nat → ClassId} {A : Nat → Prop} {w0 : Cond}
theorem mv_loop (hX : CTX p s m args c cX12_moves 3 RX12 w0 D cy A) {o : Nat} {f : Nat → Int32}
    (kr : ∀ (H : Heap) (locs : List Loc) (ls : Array Slot), va_P D vwCl [(o, .inl (cy 1, 2000, .inl (mvF f 1000)))] H → va_S A s.heap H locs → W p l e R s m args below meth c H locs 0 0 Q (F0 m 21 ls [])) :
    ∀ (k i : Nat), i + k = 1000 → ∀ (H : Heap) (locs : List Loc) (ls : Array Slot), va_P D vwCl [(o, .inl (cy 1, 2000, .inl (mvF f i)))] H → va_D A [(o, .inl (cy 1, 2000, .inl (mvF f i)))] → va_S A s.heap H locs → lv_has ls 3 [(2, .int (nI i)), (0, .ref o), (1, .int (nI 1000))] → W p l e R s m args below meth c H locs 0 0 Q (F0 m 2 ls []) := by
  intro k
  induction k with
  | zero =>
    intro i hi H locs ls hP hD hS hl
    have e0 : i = 1000 := by omega
    subst e0
    refine lv_iload_n hX.1 hX.2.1 dX12_moves_2 rfl (lv_at hl 0 rfl) ?_
    refine lv_iload_n hX.1 hX.2.1 dX12_moves_3 rfl (lv_at hl 2 rfl) ?_
    refine lv_icmp_ge hX.1 hX.2.1 dX12_moves_4 (tgt := 21) (by decide) (fun _ => ?_) (fun g => absurd (Int32.le_refl _) g)
    exact kr H locs ls hP hS
  | succ k ih =>
    intro i hi H locs ls hP hD hS hl
    refine lv_iload_n hX.1 hX.2.1 dX12_moves_2 rfl (lv_at hl 0 rfl) ?_
    refine lv_iload_n hX.1 hX.2.1 dX12_moves_3 rfl (lv_at hl 2 rfl) ?_
    refine lv_icmp_ge hX.1 hX.2.1 dX12_moves_4 (tgt := 21) (by decide) (fun g => absurd g (nI_ge (by omega) (by omega))) (fun _ => ?_)
    refine lv_aload_n hX.1 hX.2.1 dX12_moves_7 rfl (lv_at hl 1 rfl) ?_
    refine lv_iload_n hX.1 hX.2.1 dX12_moves_8 rfl (lv_at hl 0 rfl) ?_
    refine lv_aload_n hX.1 hX.2.1 dX12_moves_9 rfl (lv_at hl 1 rfl) ?_
    refine lv_iload_n hX.1 hX.2.1 dX12_moves_10 rfl (lv_at hl 2 rfl) ?_
    refine lv_iload_n hX.1 hX.2.1 dX12_moves_11 rfl (lv_at hl 0 rfl) ?_
    refine m_iadd hX.1 hX.2.1 dX12_moves_12 (nI_add 1000 i) ?_
    refine m_iald hX.1 hX.2.1 hX.2.2.2.2.2.1 hP 0 rfl (vp_in_nI (by omega) (by decide)) dX12_moves_13 (v := f (1000 + i)) (by rw [nI_clamp (by omega)]; exact if_neg (by omega)) ?_
    refine m_iast hX.1 hX.2.1 hX.2.2.2.2.2.1 hP hD hS 0 rfl (vp_in_nI (by omega) (by decide)) dX12_moves_14 (g := mvF f (i + 1)) (by rw [nI_clamp (by omega)]; exact mvF_upd f i) (fun H1 locs1 hP1 hD1 hS1 => ?_)
    refine lv_iinc hX.1 hX.2.1 dX12_moves_15 hl (k := 0) rfl (v := nI (i + 1)) (by rw [nI_succ]; rfl) (by decide) rfl (fun ls' hl' => ?_)
    refine lv_goto hX.1 hX.2.1 dX12_moves_18 (tgt := 2) (by decide) ?_
    exact ih (i + 1) (by omega) H1 locs1 ls' hP1 hD1 hS1 hl'
end MVL
set_option maxRecDepth 100000 in
theorem ok_cn_X12_moves_codes (l : Launch) : ConOK MT l cn_X12_moves_codes := by
  refine con_man (by decide +kernel) (by decide +kernel) ?_
  intro p e s m below meth c D cy ω ad σ φ av ws hpre hX hF hret hlk hP hD hS ls hl
  obtain ⟨⟨hB, hFb, hC, hW⟩, hAv, hω, _⟩ := hpre
  match av, hAv with
  | [v0, v1], hAv =>
    have hv0 : v0 = .ref (ad 0) := hAv.1.1
    subst hv0
    obtain ⟨y, rfl, hy⟩ := hAv.2.1.1
    have hy1 : y = nI 1000 := by
      apply Int32.toInt_inj.mp
      have h1 := hy.inj (z0_vl hB rfl 1000)
      rw [h1]
      rfl
    subst hy1
    obtain ⟨en, w1, g, ob, _, w4⟩ := hW.2 0 _ rfl
    unfold OB at ob
    rw [if_neg (by decide), if_neg (by decide), if_pos rfl] at ob
    obtain ⟨f, bb, pp, rfl, o1, o2, o3, o4, o5, o6, o7⟩ := ob
    have hws : ws = [(ad 0, .inl (cy 1, 2000, .inl (mvF f 0)))] := by
      have e0 : mvF f 0 = f := by
        funext j
        exact if_neg (by omega)
      rw [e0]
      have hlen : ws.length = 1 := hW.1.symm
      match ws, hlen, w1 with
      | [q], _, w1 => rw [Option.some.inj w1]
    have hP0 := hP
    have hD0 := hD
    rw [hws] at hP0
    have hD1 : va_D (va_A ws s.heap.size) [(ad 0, .inl (cy 1, 2000, .inl (mvF f 0)))] := by rw [← hws]; exact hD
    refine lv_iconst hX.1 hX.2.1 dX12_moves_0 (v := nI 0) rfl ?_
    refine lv_istore_n hX.1 hX.2.1 dX12_moves_1 rfl hl (by decide) rfl (fun ls' hl' => ?_)
    refine mv_loop (w0 := _) hX (fun H locs ls2 hP2 hS2 => ?_) 1000 0 (by omega) s.heap [] ls' hP0 hD1 hS hl'
    refine W.vret hX.1 hX.2.1 hret (fun t ht hW' => ConQ_v ?_ (hS2.F ht)) hS2.2.2 dX12_moves_21 hlk
    rw [ht]
    have eA : ext (mvF f 1000) 0 = ext f 1000 := extN_shift (fun j hj => by rw [Nat.zero_add]; exact if_pos hj)
    have eB : ext (mvF f 1000) 1000 = ext f 1000 := extN_congr (fun j h1 h2 => if_neg (by omega))
    have g1 := w4 1 _ rfl
    rw [o4] at g1
    refine ⟨_, List.mem_cons_self .., [], [], _, ⟨by rw [List.append_nil]; exact hB, by rw [List.append_nil]; exact hFb, (by intro q hq; cases hq), ⟨rfl, fun k cc' hk => ?_⟩⟩, rfl, hP2⟩
    rw [List.append_nil, List.append_nil]
    match k, hk with
    | 0, hk =>
      cases hk
      refine ⟨_, rfl, fun j => if j = 0 then .int (nI (ext f 1000)) else if j = 1 then .int (nI (ext f 1000)) else if j = 2 then .int (nI 0) else if j = 3 then .int (nI 0) else .int (nI 1), ?_, rfl, fun j av hj => ?_⟩
      · unfold OB
        rw [if_neg (by decide), if_neg (by decide), if_pos rfl]
        exact ⟨_, 0, 0, rfl, Nat.le_refl _, by omega, by rw [eA]; rfl, by rw [eB]; rfl, rfl, rfl, rfl⟩
      · match j, hj with
        | 0, hj => cases hj; exact g1
        | 1, hj => cases hj; exact g1
        | 2, hj => cases hj; exact ⟨nI 0, rfl, z0_vl hB rfl 0⟩
        | 3, hj => cases hj; exact ⟨nI 0, rfl, z0_vl hB rfl 0⟩
        | 4, hj => cases hj; exact ⟨nI 1, rfl, z0_vl hB rfl 1⟩
        | j + 5, hj => simp at hj
    | k + 1, hk => simp at hk
  | [v0], hAv => exact hAv.2.elim
  | [], hAv => exact hAv.elim
  | _ :: _ :: _ :: _, hAv => exact hAv.2.2.elim
theorem giv (l : Launch) : GIV l := ⟨ok_cn_X12_moves_codes l, ok_cn_X0_personNamed_B l, ok_cn_X0_dishNamed_B l, ok_cn_X0_personNamed_A l, ok_cn_X0_dishNamed_A l⟩
