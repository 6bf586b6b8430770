/-! rows of which something is told: signs, codes, names; own -/
theorem nrun_congr {f g : Nat → Int32} {a : Nat} : ∀ {n : Nat}, (∀ j, a ≤ j → j < a + n → f j = g j) → nrun f a n = nrun g a n
  | 0, _ => rfl
  | n + 1, h => by
    unfold nrun
    rw [nrun_congr (n := n) (fun j h1 h2 => h j h1 (by omega)), h (a + n) (by omega) (by omega)]
theorem nrun_le {f : Nat → Int32} {a m : Nat} : ∀ {n : Nat}, m ≤ n → (nrun f a n).isSome = true → (nrun f a m).isSome = true
  | 0, h, hs => by
    have : m = 0 := by omega
    subst this
    exact hs
  | n + 1, h, hs => by
    by_cases e : m = n + 1
    · subst e
      exact hs
    · refine nrun_le (n := n) (by omega) ?_
      unfold nrun at hs
      cases q : nrun f a n with
      | none => rw [q] at hs; cases hs
      | some st => rfl
theorem extN_some {f : Nat → Int32} {a : Nat} : ∀ {n : Nat}, (nrun f a (extN f a n)).isSome = true
  | 0 => rfl
  | n + 1 => by
    unfold extN
    by_cases h : (nrun f a (n + 1)).isSome = true
    · rw [if_pos h]
      exact h
    · rw [if_neg h]
      exact extN_some
theorem extN_ge {f : Nat → Int32} {a m : Nat} : ∀ {n : Nat}, m ≤ n → (nrun f a m).isSome = true → m ≤ extN f a n
  | 0, h, _ => by omega
  | n + 1, h, hs => by
    unfold extN
    by_cases g : (nrun f a (n + 1)).isSome = true
    · rw [if_pos g]
      exact h
    · rw [if_neg g]
      by_cases e : m = n + 1
      · subst e
        exact absurd hs g
      · exact extN_ge (by omega) hs
theorem extN_le {f : Nat → Int32} {a : Nat} : ∀ {n : Nat}, extN f a n ≤ n
  | 0 => Nat.le_refl _
  | n + 1 => by
    unfold extN
    split
    · exact Nat.le_refl _
    · exact Nat.le_succ_of_le extN_le
theorem extN_congr {f g : Nat → Int32} {a : Nat} : ∀ {n : Nat}, (∀ j, a ≤ j → j < a + n → f j = g j) → extN f a n = extN g a n
  | 0, _ => rfl
  | n + 1, h => by
    unfold extN
    rw [nrun_congr h, extN_congr (n := n) (fun j h1 h2 => h j h1 (by omega))]
theorem ext_le (f : Nat → Int32) (a : Nat) : ext f a ≤ 1000 := extN_le
theorem popN_len : ∀ st : List Bool, (popN st).length ≤ st.length
  | [] => Nat.le_refl _
  | true :: r => by
    unfold popN
    have := popN_len r
    simp only [List.length_cons]
    omega
  | false :: r => Nat.le_refl _
theorem nst_len {c : Int} {st s1 : List Bool} (h : nst c st = some s1) (hl : st.length ≤ 5) : s1.length ≤ 5 := by
  unfold nst at h
  split at h
  · split at h
    · cases h
      simp only [List.length_cons]
      omega
    · cases h
  · split at h
    · split at h
      · cases h
        simp only [List.length_cons]
        omega
      · cases h
    · split at h
      · split at h
        · cases h
        · rename_i b r
          cases h
          have := popN_len r
          simp only [List.length_cons] at hl
          omega
      · split at h
        · cases h
          exact hl
        · split at h
          · cases h
            have := popN_len st
            omega
          · cases h
theorem nrun_len {f : Nat → Int32} {a : Nat} : ∀ {n : Nat} {st : List Bool}, nrun f a n = some st → st.length ≤ 5
  | 0, st, h => by
    cases h
    exact Nat.zero_le _
  | n + 1, st, h => by
    unfold nrun at h
    cases q : nrun f a n with
    | none => rw [q] at h; cases h
    | some s0 =>
      rw [q] at h
      exact nst_len h (nrun_len q)
def decB : Nat → Nat → List Bool
  | 0, _ => []
  | k + 1, z => if z ≤ 1 then [] else (z % 2 == 1) :: decB k (z / 2)
theorem enc_pos : ∀ st : List Bool, 1 ≤ enc st
  | [] => Nat.le_refl _
  | b :: r => by
    have := enc_pos r
    unfold enc
    omega
theorem enc_lt : ∀ (st : List Bool) (k : Nat), st.length ≤ k → enc st < 2 ^ (k + 1)
  | [], k, _ => by
    have : 2 ^ 1 ≤ 2 ^ (k + 1) := Nat.pow_le_pow_right (by omega) (by omega)
    unfold enc
    omega
  | b :: r, 0, h => by simp at h
  | b :: r, k + 1, h => by
    have := enc_lt r k (by simpa using h)
    have e1 : 2 ^ (k + 1 + 1) = 2 * 2 ^ (k + 1) := by rw [Nat.pow_succ]; omega
    unfold enc
    cases b <;> simp only [if_true, if_false, Bool.false_eq_true] <;> omega
theorem decB_enc : ∀ (st : List Bool) (k : Nat), st.length ≤ k → decB k (enc st) = st
  | [], 0, _ => rfl
  | [], k + 1, _ => rfl
  | b :: r, 0, h => by simp at h
  | b :: r, k + 1, h => by
    have h1 := enc_pos r
    have h2 := decB_enc r k (by simpa using h)
    unfold decB enc
    cases b with
    | true =>
      simp only [if_true]
      rw [if_neg (by omega), show (2 * enc r + 1) / 2 = enc r by omega, h2, show (2 * enc r + 1) % 2 = 1 by omega]
      rfl
    | false =>
      simp only [Bool.false_eq_true, if_false]
      rw [if_neg (by omega), show (2 * enc r + 0) / 2 = enc r by omega, h2, show (2 * enc r + 0) % 2 = 0 by omega]
      rfl
/-- the kinds of codes -/
def CLS : List (Int × Int) := [(28, 28), (30, 30), (29, 29), (20, 20), (21, 21), (22, 22), (24, 24), (25, 25), (26, 26), (27, 27), (0, 19), (100, mxI)]
theorem nst_val {c c' : Int} {st : List Bool} (h : 0 ≤ c ∧ (c < 20 ∨ 100 ≤ c)) (h' : 0 ≤ c' ∧ (c' < 20 ∨ 100 ≤ c')) : nst c st = nst c' st := by
  unfold nst
  rw [if_neg (by omega), if_neg (by omega), if_neg (by omega), if_neg (by omega), if_pos h, if_neg (by omega), if_neg (by omega), if_neg (by omega), if_neg (by omega), if_pos h']
theorem nst_cl {c : Int} {st s1 : List Bool} (h : nst c st = some s1) (hc : c ≤ mxI) : ∃ k ∈ CLS, k.1 ≤ c ∧ c ≤ k.2 ∧ nst k.1 st = some s1 := by
  have hm : mxI = 2147483647 := rfl
  by_cases e : c = 28 ∨ c = 30 ∨ c = 29 ∨ c = 20 ∨ c = 21 ∨ c = 22 ∨ c = 24 ∨ c = 25 ∨ c = 26 ∨ c = 27
  · rcases e with rfl | rfl | rfl | rfl | rfl | rfl | rfl | rfl | rfl | rfl
    · exact ⟨(28, 28), by simp [CLS], by decide, by decide, h⟩
    · exact ⟨(30, 30), by simp [CLS], by decide, by decide, h⟩
    · exact ⟨(29, 29), by simp [CLS], by decide, by decide, h⟩
    · exact ⟨(20, 20), by simp [CLS], by decide, by decide, h⟩
    · exact ⟨(21, 21), by simp [CLS], by decide, by decide, h⟩
    · exact ⟨(22, 22), by simp [CLS], by decide, by decide, h⟩
    · exact ⟨(24, 24), by simp [CLS], by decide, by decide, h⟩
    · exact ⟨(25, 25), by simp [CLS], by decide, by decide, h⟩
    · exact ⟨(26, 26), by simp [CLS], by decide, by decide, h⟩
    · exact ⟨(27, 27), by simp [CLS], by decide, by decide, h⟩
  · have hv : 0 ≤ c ∧ (c < 20 ∨ 100 ≤ c) := by
      unfold nst at h
      rw [if_neg (by omega), if_neg (by omega), if_neg (by omega), if_neg (by omega)] at h
      split at h
      · assumption
      · cases h
    rcases hv.2 with h2 | h2
    · exact ⟨(0, 19), by simp [CLS], hv.1, by dsimp only; omega, by rw [← h]; exact nst_val (by omega) hv⟩
    · exact ⟨(100, mxI), by simp [CLS], h2, hc, by rw [← h]; exact nst_val (by omega) hv⟩
theorem gw.upd {cy : Nat → ClassId} {σ : List Int} {φ : List (Nat → Int32)} {ω : List Value} {ad : Nat → Nat} {cl : List AC} {ws : va_W} {k0 : Nat} {c : AC} {e : va_E} (h : gw cy σ φ ω ad cl ws) (hw : ws[k0]? = some (ad k0, e)) (hc : gc cy σ φ ω ad c e) : gw cy σ φ ω ad (cl.set k0 c) ws := by
  have h1 := h.set (k0 := k0) hc
  have h2 : ws.set k0 (ad k0, e) = ws := by
    apply List.ext_getElem?
    intro j
    by_cases q : j = k0
    · subst q
      rw [List.getElem?_set_self', hw]
      rfl
    · rw [List.getElem?_set_ne (fun z => q z.symm)]
  rw [h2] at h1
  exact h1
theorem nI_inj {m n : Nat} (hm : m < 2 ^ 31) (hn : n < 2 ^ 31) (h : nI m = nI n) : m = n := by
  have h1 := congrArg Int32.toInt h
  rw [nI_toInt hm, nI_toInt hn] at h1
  omega
/-- an int told by an expression -/
theorem gv_int {σ : List Int} {ω : List Value} {ad : Nat → Nat} {x : Nat × Int} {v : Int32} (h : gv σ ω ad (.inl x) (.int v)) : vl σ x v.toInt := by
  obtain ⟨y, h1, h2⟩ := h
  cases h1
  exact h2
theorem z0_vl {bs : BS} {σ : List Int} (hB : zB bs σ) (h : bs[0]? = some (0, 0)) (z : Int) : vl σ (0, z) z := by
  obtain ⟨t, t1, t2⟩ := P2.get hB h
  exact ⟨t, t1, by dsimp only at *; omega⟩
section XCR
variable {p : Program} {l : Launch} {e : Env} {R : Room} {s : State} {m : MethodId} {args : Array Value} {below : List Frame} {meth : Method} {c : Code} {Q : State → Prop} {cc : ByteArray} {D : va_G} {cy : Nat → ClassId} {A : Nat → Prop} {nL : Nat} {own : String} {w0 : Cond} {ω : List Value} {ad : Nat → Nat} {σ0 : List Int} {φ0 : List (Nat → Int32)} {pc : Nat} {a a' : AS}
/-! signs -/
def tlA (a : AS) : Option AS := match a.2.2 with
  | .inl x :: .inr (.inr (.inl c)) :: st => (match a.1.2.2.2[c]? with
    | some (.inr (.inr (.inr (.inl (1000, [.inl pe, .inl ve]))))) => if ixOK a.1.1 a.1.2.2.1 x 1000 then
        (if decide (x = pe) then some (a.1, a.2.1, .inl ve :: st) else some ((a.1.1 ++ [(mnI, mxI)], a.1.2.1, a.1.2.2.1, a.1.2.2.2.set c (.inr (.inr (.inr (.inl (1000, [.inl x, .inl (a.1.1.length, 0)])))))), a.2.1, .inl (a.1.1.length, 0) :: st)) else none
    | _ => none)
  | _ => none
theorem s_tl (hX : CTX p s m args c cc nL own w0 D cy A) (hd : decode cc pc = .ok (.iaload, 1)) (h : tlA a = some a') (hk : OkA (Wq p l e R s m args below meth c Q) D cy A s.heap nL ω ad σ0 φ0 a' (pc + 1)) : OkA (Wq p l e R s m args below meth c Q) D cy A s.heap nL ω ad σ0 φ0 a pc := by
  intro σ φ ws lv stk H locs ls hσ hφ hG hP hD hS hl
  obtain ⟨hx, hb, hml, hown, hts, hK, hA⟩ := hX
  obtain ⟨⟨hB, hF, hC, hW⟩, hL, hT⟩ := hG
  unfold tlA at h
  split at h
  · rename_i x cr st q1
    rw [q1] at hT
    match stk, hT with
    | v1 :: v2 :: st', hT =>
      obtain ⟨x1, rfl, hvx⟩ := hT.1.1
      have hv : v2 = .ref (ad cr) := hT.2.1.1
      subst hv
      split at h
      · rename_i pe ve q2
        obtain ⟨en, w1, w2⟩ := hW.2 cr _ q2
        obtain ⟨g, ob, w3, w4⟩ := w2
        unfold OB at ob
        rw [if_neg (by decide), if_pos rfl] at ob
        obtain ⟨f, pp, rfl, o1, o2, o3⟩ := ob
        by_cases t : ixOK a.1.1 a.1.2.2.1 x 1000 = true
        · rw [if_pos t] at h
          obtain ⟨i1, i2, i3, i4⟩ := ixOK_ok hB hC t hvx
          by_cases t2 : x = pe
          · rw [if_pos (by simpa using t2)] at h
            cases h
            subst t2
            have g0 := w4 0 _ rfl
            rw [o2] at g0
            have e1 : x1 = nI pp := by
              have := (gv_int g0).inj hvx
              exact Int32.toInt_inj.mp this.symm
            have e2 : x1.toNatClampNeg = pp := by rw [e1, nI_clamp (by omega)]
            have g1 := w4 1 _ rfl
            rw [o3] at g1
            exact m_iald hx hb hK hP cr w1 i1 hd (by rw [e2]) (hk σ φ ws lv _ H locs ls hσ hφ ⟨⟨hB, hF, hC, hW⟩, hL, g1.cat rfl, hT.2.2⟩ hP hD hS hl)
          · rw [if_neg (by simpa using t2)] at h
            cases h
            have hlen := P2.len hB
            have hB2 : zB (a.1.1 ++ [(mnI, mxI)]) (σ ++ [(f x1.toNatClampNeg).toInt]) := P2.app hB ⟨⟨i32_lo _, i32_hi _⟩, trivial⟩
            have hnew : vl (σ ++ [(f x1.toNatClampNeg).toInt]) (a.1.1.length, 0) (f x1.toNatClampNeg).toInt := ⟨_, by rw [hlen]; exact gend, by dsimp only; omega⟩
            have hw := hW.app (τ := [(f x1.toNatClampNeg).toInt]) (ψ := [])
            rw [List.append_nil] at hw
            have hw2 := hw.upd (c := .inr (.inr (.inr (.inl (1000, [.inl x, .inl (a.1.1.length, 0)]))))) w1 ⟨fun j => if j = 0 then .int x1 else .int (f x1.toNatClampNeg), by
              unfold OB
              rw [if_neg (by decide), if_pos rfl]
              refine ⟨f, x1.toNatClampNeg, rfl, by rw [i2]; omega, ?_, rfl⟩
              show Value.int x1 = .int (nI x1.toNatClampNeg)
              congr 1
              apply Int32.toInt_inj.mp
              rw [nI_toInt (by rw [i2]; omega), i2]
              omega, rfl, fun j av hj => by
              match j, hj with
              | 0, hj => cases hj; exact ⟨x1, rfl, hvx.app⟩
              | 1, hj => cases hj; exact ⟨_, rfl, hnew⟩
              | j + 2, hj => simp at hj⟩
            exact m_iald hx hb hK hP cr w1 i1 hd rfl (hk _ φ ws lv _ H locs ls hσ.app hφ ⟨⟨hB2, hF, hC.app, hw2⟩, hL.mono (fun _ _ h => h.app), ⟨⟨_, rfl, hnew⟩, rfl⟩, hT.2.2.mono (fun _ _ h => h.app)⟩ hP hD hS hl)
        · rw [if_neg t] at h
          cases h
      · cases h
    | [v1], hT => exact hT.2.elim
    | [], hT => exact hT.elim
  · cases h
def tsA (a : AS) : Option AS := match a.2.2 with
  | .inl v :: .inl x :: .inr (.inr (.inl c)) :: st => (match a.1.2.2.2[c]? with
    | some (.inr (.inr (.inr (.inl (1000, [.inl _, .inl _]))))) => if ixOK a.1.1 a.1.2.2.1 x 1000 then some ((a.1.1, a.1.2.1, a.1.2.2.1, a.1.2.2.2.set c (.inr (.inr (.inr (.inl (1000, [.inl x, .inl v])))))), a.2.1, st) else none
    | _ => none)
  | _ => none
theorem s_ts (hX : CTX p s m args c cc nL own w0 D cy A) (hd : decode cc pc = .ok (.iastore, 1)) (h : tsA a = some a') (hk : OkA (Wq p l e R s m args below meth c Q) D cy A s.heap nL ω ad σ0 φ0 a' (pc + 1)) : OkA (Wq p l e R s m args below meth c Q) D cy A s.heap nL ω ad σ0 φ0 a pc := by
  intro σ φ ws lv stk H locs ls hσ hφ hG hP hD hS hl
  obtain ⟨hx, hb, hml, hown, hts, hK, hA⟩ := hX
  obtain ⟨⟨hB, hF, hC, hW⟩, hL, hT⟩ := hG
  unfold tsA at h
  split at h
  · rename_i v x cr st q1
    rw [q1] at hT
    match stk, hT with
    | v0 :: v1 :: v2 :: st', hT =>
      obtain ⟨y1, rfl, hvy⟩ := hT.1.1
      obtain ⟨x1, rfl, hvx⟩ := hT.2.1.1
      have hv : v2 = .ref (ad cr) := hT.2.2.1.1
      subst hv
      split at h
      · rename_i pe ve q2
        obtain ⟨en, w1, w2⟩ := hW.2 cr _ q2
        obtain ⟨g, ob, w3, w4⟩ := w2
        unfold OB at ob
        rw [if_neg (by decide), if_pos rfl] at ob
        obtain ⟨f, pp, rfl, o1, o2, o3⟩ := ob
        by_cases t : ixOK a.1.1 a.1.2.2.1 x 1000 = true
        · rw [if_pos t] at h
          cases h
          obtain ⟨i1, i2, i3, i4⟩ := ixOK_ok hB hC t hvx
          have hw2 := hW.set (k0 := cr) (c := .inr (.inr (.inr (.inl (1000, [.inl x, .inl v]))))) (e := .inl (cy 1, 1000, .inl (upd f x1.toNatClampNeg y1))) ⟨fun j => if j = 0 then .int x1 else .int y1, by
            unfold OB
            rw [if_neg (by decide), if_pos rfl]
            refine ⟨_, x1.toNatClampNeg, rfl, by rw [i2]; omega, ?_, ?_⟩
            · show Value.int x1 = .int (nI x1.toNatClampNeg)
              congr 1
              apply Int32.toInt_inj.mp
              rw [nI_toInt (by rw [i2]; omega), i2]
              omega
            · show Value.int y1 = .int (upd f x1.toNatClampNeg y1 x1.toNatClampNeg)
              unfold upd
              rw [if_pos rfl], rfl, fun j av hj => by
            match j, hj with
            | 0, hj => cases hj; exact ⟨x1, rfl, hvx⟩
            | 1, hj => cases hj; exact ⟨y1, rfl, hvy⟩
            | j + 2, hj => simp at hj⟩
          exact m_iast hx hb hK hP hD hS cr w1 i1 hd rfl (fun H1 locs1 hP1 hD1 hS1 => hk σ φ _ lv _ H1 locs1 ls hσ hφ ⟨⟨hB, hF, hC, hw2⟩, hL, hT.2.2.2⟩ hP1 hD1 hS1 hl)
        · rw [if_neg t] at h
          cases h
      · cases h
    | [v0, v1], hT => exact hT.2.2.elim
    | [v1], hT => exact hT.2.elim
    | [], hT => exact hT.elim
  · cases h
/-! codes -/
def clq (bs : BS) (cs : CS) (b pe q x : Nat × Int) (base : Int) : Option (List Bool) :=
  if decide (b = (0, base)) && decide (pe = x) && decide (q.1 = 0) && decide (1 ≤ q.2) then some (decB 8 q.2.toNat) else if decide (bnd bs cs x = some (base, base)) then some [] else none
def clN (a : AS) (c : Nat) (eL eU b x : Nat × Int) (s1 : List Bool) (st : List AV) (k : Int × Int) : AS := ((a.1.1 ++ [k], a.1.2.1, a.1.2.2.1, a.1.2.2.2.set c (.inr (.inr (.inr (.inl (2000, [.inl eL, .inl eU, .inl b, .inl (x.1, x.2 + 1), .inl (0, (enc s1 : Int))])))))), a.2.1, .inl (a.1.1.length, 0) :: st)
/-- less: by a difference, or by the bounds -/
def ltE (bs : BS) (cs : CS) (x y : Nat × Int) : Bool := (match dubE bs cs x y with
    | some z => decide (z ≤ -1)
    | none => false) || (match bnd bs cs x, bnd bs cs y with
    | some p, some q => decide (p.2 < q.1)
    | _, _ => false)
theorem ltE_ok {bs : BS} {cs : CS} {σ : List Int} {x y : Nat × Int} {a b : Int} (hB : zB bs σ) (hC : zC cs σ) (h : ltE bs cs x y = true) (hx : vl σ x a) (hy : vl σ y b) : a < b := by
  unfold ltE at h
  rcases Bool.or_eq_true_iff.mp h with h | h
  · split at h
    · rename_i z q
      have h1 := dubE_ok hB hC hx hy q
      have h2 : z ≤ -1 := by simpa using h
      omega
    · cases h
  · split at h
    · rename_i p q q1 q2
      have h1 := bnd_ok hB hC q1 hx
      have h2 := bnd_ok hB hC q2 hy
      have h3 : p.2 < q.1 := by simpa using h
      omega
    · cases h
def cclA (pc : Nat) (a : AS) : Option (List (AS × Nat)) := match a.2.2 with
  | .inl x :: .inr (.inr (.inl c)) :: st => (match a.1.2.2.2[c]? with
    | some (.inr (.inr (.inr (.inl (2000, [.inl eL, .inl eU, .inl b, .inl pe, .inl q]))))) => (match clq a.1.1 a.1.2.2.1 b pe q x 0, ltE a.1.1 a.1.2.2.1 x eL with
      | some s0, true => if ixOK a.1.1 a.1.2.2.1 x 1000 && decide (a.1.1[0]? = some (0, 0)) then some (CLS.filterMap (fun k => (nst k.1 s0).map (fun s1 => (clN a c eL eU (0, 0) x s1 st k, pc)))) else none
      | _, _ => none)
    | _ => none)
  | _ => none
theorem clq_ok {bs : BS} {cs : CS} {σ : List Int} {b pe q x : Nat × Int} {base : Nat} {s0 : List Bool} {f : Nat → Int32} {bb pp i : Nat} (hB : zB bs σ) (hC : zC cs σ) (h0 : bs[0]? = some (0, 0)) (h : clq bs cs b pe q x base = some s0) (hi : vl σ x (i : Int)) (hbp : bb ≤ pp) (hpp : pp ≤ 2000) (hb : vl σ b (nI bb).toInt) (hp : vl σ pe (nI pp).toInt) (hq : vl σ q (stc f bb pp).toInt) (hbase : base ≤ 1000) (hs : (nrun f base (i - base)).isSome = true) (hge : base ≤ i) : nrun f base (i - base) = some s0 := by
  unfold clq at h
  by_cases t : (decide (b = (0, (base : Int))) && decide (pe = x) && decide (q.1 = 0) && decide (1 ≤ q.2)) = true
  · rw [if_pos t] at h
    have t' : ((b = (0, (base : Int)) ∧ pe = x) ∧ q.1 = 0) ∧ 1 ≤ q.2 := by simpa using t
    obtain ⟨⟨⟨rfl, rfl⟩, t3⟩, _⟩ := t'
    have e1 : bb = base := by
      have h1 := hb.inj (z0_vl hB h0 _)
      rw [nI_toInt (by omega)] at h1
      omega
    have e2 : pp = i := by
      have h1 := hp.inj hi
      rw [nI_toInt (by omega)] at h1
      omega
    subst e1 e2
    cases q1 : nrun f bb (pp - bb) with
    | none => rw [q1] at hs; cases hs
    | some st =>
      have e3 : stc f bb pp = nI (enc st) := by unfold stc; rw [q1]
      have hl := nrun_len q1
      have hlt := enc_lt st 5 hl
      have e4 : q.2 = (enc st : Int) := by
        have h1 : vl σ q q.2 := by
          have := z0_vl hB h0 q.2
          rw [← t3] at this
          exact this
        have h2 := hq.inj h1
        rw [e3, nI_toInt (by omega)] at h2
        omega
      rw [e4, show ((enc st : Int)).toNat = enc st by omega, decB_enc st 8 (by omega)] at h
      exact h
  · rw [if_neg t] at h
    by_cases t2 : decide (bnd bs cs x = some ((base : Int), (base : Int))) = true
    · rw [if_pos t2] at h
      cases h
      have t2' : bnd bs cs x = some ((base : Int), (base : Int)) := by simpa using t2
      have h1 := bnd_ok hB hC t2' hi
      dsimp only at h1
      have e1 : i - base = 0 := by omega
      rw [e1]
      rfl
    · rw [if_neg t2] at h
      cases h
theorem vp_in_le {i : Int32} {n m : Nat} (h : vp_in i n) (hnm : n ≤ m) : vp_in i m := fun q => h (q.elim Or.inl (fun z => Or.inr (Nat.le_trans hnm z)))
theorem s_ccl (hX : CTX p s m args c cc nL own w0 D cy A) {L : List (AS × Nat)} (hd : decode cc pc = .ok (.iaload, 1)) (h : cclA (pc + 1) a = some L) (hk : ∀ q ∈ L, OkA (Wq p l e R s m args below meth c Q) D cy A s.heap nL ω ad σ0 φ0 q.1 q.2) : OkA (Wq p l e R s m args below meth c Q) D cy A s.heap nL ω ad σ0 φ0 a pc := by
  intro σ φ ws lv stk H locs ls hσ hφ hG hP hD hS hl
  obtain ⟨hx, hb, hml, hown, hts, hK, hA⟩ := hX
  obtain ⟨⟨hB, hF, hC, hW⟩, hL, hT⟩ := hG
  unfold cclA at h
  split at h
  · rename_i x cr st q1
    rw [q1] at hT
    match stk, hT with
    | v1 :: v2 :: st', hT =>
      obtain ⟨x1, rfl, hvx⟩ := hT.1.1
      have hv : v2 = .ref (ad cr) := hT.2.1.1
      subst hv
      split at h
      · rename_i eL eU be pe qe q2
        obtain ⟨en, w1, w2⟩ := hW.2 cr _ q2
        obtain ⟨g, ob, w3, w4⟩ := w2
        unfold OB at ob
        rw [if_neg (by decide), if_neg (by decide), if_pos rfl] at ob
        obtain ⟨f, bb, pp, rfl, o1, o2, o3, o4, o5, o6, o7⟩ := ob
        split at h
        · rename_i s0 q3 q4
          by_cases t : (ixOK a.1.1 a.1.2.2.1 x 1000 && decide (a.1.1[0]? = some (0, 0))) = true
          · rw [if_pos t] at h
            cases h
            have t' : ixOK a.1.1 a.1.2.2.1 x 1000 = true ∧ a.1.1[0]? = some (0, 0) := by simpa using t
            obtain ⟨t2, t3⟩ := t'
            obtain ⟨i1, i2, i3, i4⟩ := ixOK_ok hB hC t2 hvx
            have g0 := w4 0 _ rfl
            have g1 := w4 1 _ rfl
            have g2 := w4 2 _ rfl
            have g3 := w4 3 _ rfl
            have g4 := w4 4 _ rfl
            rw [o3] at g0
            rw [o5] at g2
            rw [o6] at g3
            rw [o7] at g4
            have hle := ext_le f 0
            have hi : vl σ x ((x1.toNatClampNeg : Nat) : Int) := by
              have e : ((x1.toNatClampNeg : Nat) : Int) = x1.toInt := by rw [i2]; omega
              rw [e]
              exact hvx
            have hlt : x1.toNatClampNeg < ext f 0 := by
              have h1 := ltE_ok hB hC q4 hi (gv_int g0)
              rw [nI_toInt (by omega)] at h1
              omega
            have hs0 : (nrun f 0 (x1.toNatClampNeg - 0)).isSome = true := nrun_le (n := ext f 0) (by omega) extN_some
            have hs1 : (nrun f 0 (x1.toNatClampNeg + 1)).isSome = true := nrun_le (n := ext f 0) (by omega) extN_some
            have hst := clq_ok (base := 0) (f := f) hB hC t3 q3 hi o1 o2 (gv_int g2) (gv_int g3) (gv_int g4) (by omega) hs0 (Nat.zero_le _)
            rw [Nat.sub_zero] at hst
            have hn1 : nrun f 0 (x1.toNatClampNeg + 1) = nst (f x1.toNatClampNeg).toInt s0 := by
              show (nrun f 0 x1.toNatClampNeg).bind (nst (f (0 + x1.toNatClampNeg)).toInt) = _
              rw [hst, Nat.zero_add]
              rfl
            rw [hn1] at hs1
            obtain ⟨s1, hs1'⟩ := Option.isSome_iff_exists.mp hs1
            obtain ⟨k, k1, k2, k3, k4⟩ := nst_cl hs1' (i32_hi _)
            have hlen := P2.len hB
            have hB2 : zB (a.1.1 ++ [k]) (σ ++ [(f x1.toNatClampNeg).toInt]) := P2.app hB ⟨⟨k2, k3⟩, trivial⟩
            have hnew : vl (σ ++ [(f x1.toNatClampNeg).toInt]) (a.1.1.length, 0) (f x1.toNatClampNeg).toInt := ⟨_, by rw [hlen]; exact gend, by dsimp only; omega⟩
            have hw := hW.app (τ := [(f x1.toNatClampNeg).toInt]) (ψ := [])
            rw [List.append_nil] at hw
            have hel : s1.length ≤ 5 := nrun_len (hn1.trans hs1')
            have helt := enc_lt s1 5 hel
            have hw2 := hw.upd (c := .inr (.inr (.inr (.inl (2000, [.inl eL, .inl eU, .inl (0, 0), .inl (x.1, x.2 + 1), .inl (0, (enc s1 : Int))]))))) w1 ⟨fun j => if j = 2 then .int (nI 0) else if j = 3 then .int (nI (x1.toNatClampNeg + 1)) else if j = 4 then .int (nI (enc s1)) else g j, by
              unfold OB
              rw [if_neg (by decide), if_neg (by decide), if_pos rfl]
              refine ⟨f, 0, x1.toNatClampNeg + 1, rfl, Nat.zero_le _, by omega, o3, o4, rfl, rfl, ?_⟩
              show Value.int (nI (enc s1)) = .int (stc f 0 (x1.toNatClampNeg + 1))
              unfold stc
              rw [Nat.sub_zero, hn1, hs1'], rfl, fun j av hj => by
              match j, hj with
              | 0, hj => cases hj; exact (w4 0 _ rfl).app
              | 1, hj => cases hj; exact (w4 1 _ rfl).app
              | 2, hj =>
                cases hj
                exact ⟨nI 0, rfl, (z0_vl hB t3 0).app⟩
              | 3, hj =>
                cases hj
                refine ⟨nI (x1.toNatClampNeg + 1), rfl, ?_⟩
                obtain ⟨u, u1, u2⟩ := hi.app (τ := [(f x1.toNatClampNeg).toInt])
                refine ⟨u, u1, ?_⟩
                rw [nI_toInt (by omega)]
                dsimp only at *
                omega
              | 4, hj =>
                cases hj
                refine ⟨nI (enc s1), rfl, ?_⟩
                rw [nI_toInt (by omega)]
                exact (z0_vl hB t3 _).app
              | j + 5, hj => simp at hj⟩
            have hmem : (clN a cr eL eU (0, 0) x s1 st k, pc + 1) ∈ CLS.filterMap (fun k => (nst k.1 s0).map (fun s1 => (clN a cr eL eU (0, 0) x s1 st k, pc + 1))) := List.mem_filterMap.mpr ⟨k, k1, by rw [k4]; rfl⟩
            exact m_iald hx hb hK hP cr w1 (vp_in_le i1 (by omega)) hd rfl (hk _ hmem _ φ ws lv _ H locs ls hσ.app hφ ⟨⟨hB2, hF, hC.app, hw2⟩, hL.mono (fun _ _ h => h.app), ⟨⟨_, rfl, hnew⟩, rfl⟩, hT.2.2.mono (fun _ _ h => h.app)⟩ hP hD hS hl)
          · rw [if_neg t] at h
            cases h
        · cases h
      · cases h
    | [v1], hT => exact hT.2.elim
    | [], hT => exact hT.elim
  · cases h
def ccsA (a : AS) : Option AS := match a.2.2 with
  | .inl v :: .inl x :: .inr (.inr (.inl c)) :: st => (match a.1.2.2.2[c]?, bnd a.1.1 a.1.2.2.1 v with
    | some (.inr (.inr (.inr (.inl (2000, [.inl eL, .inl _, .inl b, .inl pe, .inl q]))))), some vb => (match clq a.1.1 a.1.2.2.1 b pe q x 1000, bnd a.1.1 a.1.2.2.1 x, CLS.find? (fun k => decide (k.1 ≤ vb.1) && decide (vb.2 ≤ k.2)) with
      | some s0, some xb, some k => (match nst k.1 s0 with
        | some s1 => if decide (1000 ≤ xb.1) && ixOK a.1.1 a.1.2.2.1 x 2000 && decide (a.1.1[0]? = some (0, 0)) then some ((a.1.1 ++ [(0, 1000)], a.1.2.1, (x.1, a.1.1.length, 999 - x.2) :: a.1.2.2.1, a.1.2.2.2.set c (.inr (.inr (.inr (.inl (2000, [.inl eL, .inl (a.1.1.length, 0), .inl (0, 1000), .inl (x.1, x.2 + 1), .inl (0, (enc s1 : Int))])))))), a.2.1, st) else none
        | none => none)
      | _, _, _ => none)
    | _, _ => none)
  | _ => none
theorem nst_same {k : Int × Int} {c : Int} {st : List Bool} (hk : k ∈ CLS) (h1 : k.1 ≤ c) (h2 : c ≤ k.2) : nst c st = nst k.1 st := by
  simp only [CLS, List.mem_cons, List.not_mem_nil, or_false] at hk
  rcases hk with rfl | rfl | rfl | rfl | rfl | rfl | rfl | rfl | rfl | rfl | rfl | rfl
  all_goals dsimp only at h1 h2
  iterate 10 first | (have e : c = _ := Int.le_antisymm h2 h1; rw [e]) | skip
  all_goals first | rfl | exact nst_val (by omega) (by decide)
theorem s_ccs (hX : CTX p s m args c cc nL own w0 D cy A) (hd : decode cc pc = .ok (.iastore, 1)) (h : ccsA a = some a') (hk : OkA (Wq p l e R s m args below meth c Q) D cy A s.heap nL ω ad σ0 φ0 a' (pc + 1)) : OkA (Wq p l e R s m args below meth c Q) D cy A s.heap nL ω ad σ0 φ0 a pc := by
  intro σ φ ws lv stk H locs ls hσ hφ hG hP hD hS hl
  obtain ⟨hx, hb, hml, hown, hts, hK, hA⟩ := hX
  obtain ⟨⟨hB, hF, hC, hW⟩, hL, hT⟩ := hG
  unfold ccsA at h
  split at h
  · rename_i v x cr st q1
    rw [q1] at hT
    match stk, hT with
    | v0 :: v1 :: v2 :: st', hT =>
      obtain ⟨y1, rfl, hvy⟩ := hT.1.1
      obtain ⟨x1, rfl, hvx⟩ := hT.2.1.1
      have hv : v2 = .ref (ad cr) := hT.2.2.1.1
      subst hv
      split at h
      · rename_i eL eO be pe qe vb q2 q0
        obtain ⟨en, w1, w2⟩ := hW.2 cr _ q2
        obtain ⟨g, ob, w3, w4⟩ := w2
        unfold OB at ob
        rw [if_neg (by decide), if_neg (by decide), if_pos rfl] at ob
        obtain ⟨f, bb, pp, rfl, o1, o2, o3, o4, o5, o6, o7⟩ := ob
        have gvy := bnd_ok hB hC q0 hvy
        split at h
        · rename_i s0 xb k q3 q4 q5
          split at h
          · rename_i s1 q6
            by_cases t : (decide (1000 ≤ xb.1) && ixOK a.1.1 a.1.2.2.1 x 2000 && decide (a.1.1[0]? = some (0, 0))) = true
            · rw [if_pos t] at h
              cases h
              have t' : (1000 ≤ xb.1 ∧ ixOK a.1.1 a.1.2.2.1 x 2000 = true) ∧ a.1.1[0]? = some (0, 0) := by simpa using t
              obtain ⟨⟨t1, t2⟩, t3⟩ := t'
              obtain ⟨i1, i2, i3, i4⟩ := ixOK_ok hB hC t2 hvx
              have gx := bnd_ok hB hC q4 hvx
              have g0 := w4 0 _ rfl
              have g2 := w4 2 _ rfl
              have g3 := w4 3 _ rfl
              have g4 := w4 4 _ rfl
              rw [o3] at g0
              rw [o5] at g2
              rw [o6] at g3
              rw [o7] at g4
              have hi : vl σ x ((x1.toNatClampNeg : Nat) : Int) := by
                have e : ((x1.toNatClampNeg : Nat) : Int) = x1.toInt := by rw [i2]; omega
                rw [e]
                exact hvx
              have hge : 1000 ≤ x1.toNatClampNeg := by rw [i2]; omega
              have hlt2 : x1.toNatClampNeg < 2000 := by rw [i2]; omega
              have kk := List.find?_some q5
              have kk' : k.1 ≤ vb.1 ∧ vb.2 ≤ k.2 := by simpa using kk
              have km := List.mem_of_find?_eq_some q5
              have hny : nst y1.toInt s0 = some s1 := by rw [nst_same km (by omega) (by omega)]; exact q6
              have hupd : ∀ j, j < x1.toNatClampNeg → upd f x1.toNatClampNeg y1 j = f j := fun j hj => by unfold upd; rw [if_neg (by omega)]
              have hc0 : ∀ n, 1000 + n ≤ x1.toNatClampNeg → nrun (upd f x1.toNatClampNeg y1) 1000 n = nrun f 1000 n := fun n hn => nrun_congr (fun j h1 h2 => hupd j (by omega))
              -- the state ahead
              have hst : nrun f 1000 (x1.toNatClampNeg - 1000) = some s0 := by
                unfold clq at q3
                by_cases u : (decide (be = (0, (1000 : Int))) && decide (pe = x) && decide (qe.1 = 0) && decide (1 ≤ qe.2)) = true
                · rw [if_pos u] at q3
                  have u' : ((be = (0, (1000 : Int)) ∧ pe = x) ∧ qe.1 = 0) ∧ 1 ≤ qe.2 := by simpa using u
                  obtain ⟨⟨⟨rfl, rfl⟩, u3⟩, u4⟩ := u'
                  have e1 : bb = 1000 := by
                    have h1 := (gv_int g2).inj (z0_vl hB t3 _)
                    rw [nI_toInt (by omega)] at h1
                    omega
                  have e2 : pp = x1.toNatClampNeg := by
                    have h1 := (gv_int g3).inj hi
                    rw [nI_toInt (by omega)] at h1
                    omega
                  subst e1 e2
                  have h1 : vl σ qe qe.2 := by
                    have := z0_vl hB t3 qe.2
                    rw [← u3] at this
                    exact this
                  have h2 := (gv_int g4).inj h1
                  cases q7 : nrun f 1000 (x1.toNatClampNeg - 1000) with
                  | none =>
                    exfalso
                    have e3 : stc f 1000 x1.toNatClampNeg = -1 := by unfold stc; rw [q7]
                    rw [e3] at h2
                    have e4 : ((-1 : Int32)).toInt = -1 := rfl
                    rw [e4] at h2
                    omega
                  | some st =>
                    have e3 : stc f 1000 x1.toNatClampNeg = nI (enc st) := by unfold stc; rw [q7]
                    have hl := nrun_len q7
                    have hlt := enc_lt st 5 hl
                    rw [e3, nI_toInt (by omega)] at h2
                    rw [← h2, show ((enc st : Int)).toNat = enc st by omega, decB_enc st 8 (by omega)] at q3
                    exact q3
                · rw [if_neg u] at q3
                  by_cases u2 : decide (bnd a.1.1 a.1.2.2.1 x = some ((1000 : Int), (1000 : Int))) = true
                  · rw [if_pos u2] at q3
                    cases q3
                    have u2' : bnd a.1.1 a.1.2.2.1 x = some ((1000 : Int), (1000 : Int)) := by simpa using u2
                    have h1 := bnd_ok hB hC u2' hi
                    dsimp only at h1
                    have e1 : x1.toNatClampNeg - 1000 = 0 := by omega
                    rw [e1]
                    rfl
                  · rw [if_neg u2] at q3
                    cases q3
              have hn1 : nrun (upd f x1.toNatClampNeg y1) 1000 (x1.toNatClampNeg + 1 - 1000) = some s1 := by
                rw [show x1.toNatClampNeg + 1 - 1000 = (x1.toNatClampNeg - 1000) + 1 by omega]
                show (nrun (upd f x1.toNatClampNeg y1) 1000 (x1.toNatClampNeg - 1000)).bind (nst (upd f x1.toNatClampNeg y1 (1000 + (x1.toNatClampNeg - 1000))).toInt) = _
                rw [hc0 _ (by omega), hst, show 1000 + (x1.toNatClampNeg - 1000) = x1.toNatClampNeg by omega, show upd f x1.toNatClampNeg y1 x1.toNatClampNeg = y1 by unfold upd; rw [if_pos rfl]]
                exact hny
              have hel := nrun_len hn1
              have helt := enc_lt s1 5 hel
              have hE0 : ext (upd f x1.toNatClampNeg y1) 0 = ext f 0 := extN_congr (fun j h1 h2 => hupd j (by omega))
              have hE1 : x1.toNatClampNeg + 1 - 1000 ≤ ext (upd f x1.toNatClampNeg y1) 1000 := extN_ge (by omega) (by rw [hn1]; rfl)
              have hE2 := ext_le (upd f x1.toNatClampNeg y1) 1000
              have hlen := P2.len hB
              have hB2 : zB (a.1.1 ++ [(0, 1000)]) (σ ++ [((ext (upd f x1.toNatClampNeg y1) 1000 : Nat) : Int)]) := P2.app hB ⟨⟨by dsimp only; omega, by dsimp only; omega⟩, trivial⟩
              have hnew : vl (σ ++ [((ext (upd f x1.toNatClampNeg y1) 1000 : Nat) : Int)]) (a.1.1.length, 0) ((ext (upd f x1.toNatClampNeg y1) 1000 : Nat) : Int) := ⟨_, by rw [hlen]; exact gend, by dsimp only; omega⟩
              have hC2 : zC ((x.1, a.1.1.length, 999 - x.2) :: a.1.2.2.1) (σ ++ [((ext (upd f x1.toNatClampNeg y1) 1000 : Nat) : Int)]) := by
                intro z hz
                rcases List.mem_cons.mp hz with rfl | hz
                · obtain ⟨u, u1, u2⟩ := hi
                  refine ⟨u, _, gapp u1, by rw [hlen]; exact gend, ?_⟩
                  dsimp only at *
                  omega
                · exact hC.app z hz
              have hw := hW.app (τ := [((ext (upd f x1.toNatClampNeg y1) 1000 : Nat) : Int)]) (ψ := [])
              rw [List.append_nil] at hw
              have hw2 := hw.set (k0 := cr) (c := .inr (.inr (.inr (.inl (2000, [.inl eL, .inl (a.1.1.length, 0), .inl (0, 1000), .inl (x.1, x.2 + 1), .inl (0, (enc s1 : Int))]))))) (e := .inl (cy 1, 2000, .inl (upd f x1.toNatClampNeg y1))) ⟨fun j => if j = 0 then .int (nI (ext f 0)) else if j = 1 then .int (nI (ext (upd f x1.toNatClampNeg y1) 1000)) else if j = 2 then .int (nI 1000) else if j = 3 then .int (nI (x1.toNatClampNeg + 1)) else .int (nI (enc s1)), by
                unfold OB
                rw [if_neg (by decide), if_neg (by decide), if_pos rfl]
                refine ⟨_, 1000, x1.toNatClampNeg + 1, rfl, by omega, by omega, by rw [hE0]; rfl, rfl, rfl, rfl, ?_⟩
                show Value.int (nI (enc s1)) = .int (stc _ 1000 (x1.toNatClampNeg + 1))
                unfold stc
                rw [hn1], rfl, fun j av hj => by
                match j, hj with
                | 0, hj => cases hj; exact g0.app
                | 1, hj =>
                  cases hj
                  refine ⟨nI (ext (upd f x1.toNatClampNeg y1) 1000), rfl, ?_⟩
                  rw [nI_toInt (by omega)]
                  exact hnew
                | 2, hj =>
                  cases hj
                  exact ⟨nI 1000, rfl, (z0_vl hB t3 _).app⟩
                | 3, hj =>
                  cases hj
                  refine ⟨nI (x1.toNatClampNeg + 1), rfl, ?_⟩
                  obtain ⟨u, u1, u2⟩ := hi.app (τ := [((ext (upd f x1.toNatClampNeg y1) 1000 : Nat) : Int)])
                  refine ⟨u, u1, ?_⟩
                  rw [nI_toInt (by omega)]
                  dsimp only at *
                  omega
                | 4, hj =>
                  cases hj
                  refine ⟨nI (enc s1), rfl, ?_⟩
                  rw [nI_toInt (by omega)]
                  exact (z0_vl hB t3 _).app
                | j + 5, hj => simp at hj⟩
              exact m_iast hx hb hK hP hD hS cr w1 i1 hd rfl (fun H1 locs1 hP1 hD1 hS1 => hk _ φ _ lv _ H1 locs1 ls hσ.app hφ ⟨⟨hB2, hF, hC2, hw2⟩, hL.mono (fun _ _ h => h.app), hT.2.2.2.mono (fun _ _ h => h.app)⟩ hP1 hD1 hS1 hl)
            · rw [if_neg t] at h
              cases h
          · cases h
        · cases h
      · cases h
    | [v0, v1], hT => exact hT.2.2.elim
    | [v1], hT => exact hT.2.elim
    | [], hT => exact hT.elim
  · cases h
/-! names -/
def nlA (a : AS) : Option AS := match a.2.2 with
  | .inl x :: .inr (.inr (.inl c)) :: st => (match a.1.2.2.2[c]? with
    | some (.inr (.inr (.inr (.inl (n, _))))) => if decide (1000000 ≤ n) && ixOK a.1.1 a.1.2.2.1 x (n - 1000000) then some (pushL a.1 a.2.1 st (fullL a.1.1 a.1.2.2.1)) else none
    | _ => none)
  | _ => none
theorem s_nl (hX : CTX p s m args c cc nL own w0 D cy A) (hd : decode cc pc = .ok (.laload, 1)) (h : nlA a = some a') (hk : OkA (Wq p l e R s m args below meth c Q) D cy A s.heap nL ω ad σ0 φ0 a' (pc + 1)) : OkA (Wq p l e R s m args below meth c Q) D cy A s.heap nL ω ad σ0 φ0 a pc := by
  intro σ φ ws lv stk H locs ls hσ hφ hG hP hD hS hl
  obtain ⟨hx, hb, hml, hown, hts, hK, hA⟩ := hX
  obtain ⟨⟨hB, hF, hC, hW⟩, hL, hT⟩ := hG
  unfold nlA at h
  split at h
  · rename_i x cr st q1
    rw [q1] at hT
    match stk, hT with
    | v1 :: v2 :: st', hT =>
      obtain ⟨x1, rfl, hvx⟩ := hT.1.1
      have hv : v2 = .ref (ad cr) := hT.2.1.1
      subst hv
      split at h
      · rename_i n fs q2
        obtain ⟨en, w1, w2⟩ := hW.2 cr _ q2
        obtain ⟨g, ob, w3, w4⟩ := w2
        by_cases t : (decide (1000000 ≤ n) && ixOK a.1.1 a.1.2.2.1 x (n - 1000000)) = true
        · rw [if_pos t] at h
          cases h
          have t' : 1000000 ≤ n ∧ ixOK a.1.1 a.1.2.2.1 x (n - 1000000) = true := by simpa using t
          unfold OB at ob
          rw [if_neg (by omega), if_neg (by omega), if_neg (by omega)] at ob
          obtain ⟨F, mm, w, rfl, o1, o2, o3, o4⟩ := ob
          obtain ⟨i1, i2, i3, i4⟩ := ixOK_ok hB hC t'.2 hvx
          obtain ⟨τ, hg⟩ := GS.pushL (x := F x1.toNatClampNeg) ⟨hB, hF, hC, hW⟩ hL hT.2.2 (fullL_ok hB hC _)
          exact m_lald hx hb hK hP cr w1 i1 hd rfl (hk (σ ++ τ) φ ws lv _ H locs ls hσ.app hφ hg hP hD hS hl)
        · rw [if_neg t] at h
          cases h
      · cases h
    | [v1], hT => exact hT.2.elim
    | [], hT => exact hT.elim
  · cases h
def nsA (a : AS) : Option AS := match a.2.2 with
  | .inr (.inl _) :: .inl x :: .inr (.inr (.inl c)) :: st => (match a.1.2.2.2[c]? with
    | some (.inr (.inr (.inr (.inl (n, _))))) => if decide (1000000 ≤ n) && ixOK a.1.1 a.1.2.2.1 x (n - 1000000) && decide (a.1.1[0]? = some (0, 0)) then some ((a.1.1, a.1.2.1, a.1.2.2.1, a.1.2.2.2.set c (.inr (.inr (.inr (.inl (n, [.inl (0, 0), .inr (.inl (0, 0)), .inl (0, -1)])))))), a.2.1, st) else none
    | _ => none)
  | _ => none
theorem s_ns (hX : CTX p s m args c cc nL own w0 D cy A) (hd : decode cc pc = .ok (.lastore, 1)) (h : nsA a = some a') (hk : OkA (Wq p l e R s m args below meth c Q) D cy A s.heap nL ω ad σ0 φ0 a' (pc + 1)) : OkA (Wq p l e R s m args below meth c Q) D cy A s.heap nL ω ad σ0 φ0 a pc := by
  intro σ φ ws lv stk H locs ls hσ hφ hG hP hD hS hl
  obtain ⟨hx, hb, hml, hown, hts, hK, hA⟩ := hX
  obtain ⟨⟨hB, hF, hC, hW⟩, hL, hT⟩ := hG
  unfold nsA at h
  split at h
  · rename_i v x cr st q1
    rw [q1] at hT
    match stk, hT with
    | v0 :: v1 :: v2 :: st', hT =>
      obtain ⟨y1, rfl, hvy⟩ := hT.1.1
      obtain ⟨x1, rfl, hvx⟩ := hT.2.1.1
      have hv : v2 = .ref (ad cr) := hT.2.2.1.1
      subst hv
      split at h
      · rename_i n fs q2
        obtain ⟨en, w1, w2⟩ := hW.2 cr _ q2
        obtain ⟨g, ob, w3, w4⟩ := w2
        by_cases t : (decide (1000000 ≤ n) && ixOK a.1.1 a.1.2.2.1 x (n - 1000000) && decide (a.1.1[0]? = some (0, 0))) = true
        · rw [if_pos t] at h
          cases h
          have t' : (1000000 ≤ n ∧ ixOK a.1.1 a.1.2.2.1 x (n - 1000000) = true) ∧ a.1.1[0]? = some (0, 0) := by simpa using t
          unfold OB at ob
          rw [if_neg (by omega), if_neg (by omega), if_neg (by omega)] at ob
          obtain ⟨F, mm, w, rfl, o1, o2, o3, o4⟩ := ob
          obtain ⟨i1, i2, i3, i4⟩ := ixOK_ok hB hC t'.1.2 hvx
          refine m_last hx hb hK hP hD hS cr w1 i1 hd rfl (fun H1 locs1 hP1 hD1 hS1 => hk σ φ _ lv _ H1 locs1 ls hσ hφ ⟨⟨hB, hF, hC, hW.set (k0 := cr) (c := .inr (.inr (.inr (.inl (n, [.inl (0, 0), .inr (.inl (0, 0)), .inl (0, -1)]))))) ?_⟩, hL, hT.2.2.2⟩ hP1 hD1 hS1 hl)
          refine ⟨fun j => if j = 0 then .int (nI 0) else if j = 1 then .long 0 else .int (-1), ?_, ?_, fun j av hj => ?_⟩
          · unfold OB
            rw [if_neg (by omega), if_neg (by omega), if_neg (by omega)]
            exact ⟨_, 0, 0, rfl, by decide, rfl, rfl, rfl⟩
          · unfold ols
            rw [if_neg (by omega), if_neg (by omega), if_neg (by omega)]
            rfl
          · match j, hj with
            | 0, hj => cases hj; exact ⟨nI 0, rfl, z0_vl hB t'.2 0⟩
            | 1, hj => cases hj; exact ⟨0, rfl, z0_vl hB t'.2 0⟩
            | 2, hj => cases hj; exact ⟨-1, rfl, z0_vl hB t'.2 (-1)⟩
            | j + 3, hj => simp at hj
        · rw [if_neg t] at h
          cases h
      · cases h
    | [v0, v1], hT => exact hT.2.2.elim
    | [v1], hT => exact hT.2.elim
    | [], hT => exact hT.elim
  · cases h
end XCR
