/-! the rows of the abstract walk: what is put into arrays; own -/
section STES
variable {p : Program} {l : Launch} {e : Env} {R : Room} {s : State} {m : MethodId} {args : Array Value} {below : List Frame} {meth : Method} {c : Code} {Q : State → Prop} {cc : ByteArray} {D : va_G} {cy : Nat → ClassId} {A : Nat → Prop} {nL : Nat} {own : String} {w0 : Cond} {ω : List Value} {ad : Nat → Nat} {σ0 : List Int} {φ0 : List (Nat → Int32)} {pc : Nat} {a a' : AS}
def jn (p q : Int × Int) : Int × Int := (if p.1 ≤ q.1 then p.1 else q.1, if p.2 ≤ q.2 then q.2 else p.2)
theorem jn_l {p q : Int × Int} {z : Int} (h : p.1 ≤ z ∧ z ≤ p.2) : (jn p q).1 ≤ z ∧ z ≤ (jn p q).2 := by
  unfold jn
  dsimp only
  constructor
  · split <;> omega
  · split <;> omega
theorem jn_r {p q : Int × Int} {z : Int} (h : q.1 ≤ z ∧ z ≤ q.2) : (jn p q).1 ≤ z ∧ z ≤ (jn p q).2 := by
  unfold jn
  dsimp only
  constructor
  · split <;> omega
  · split <;> omega
theorem upd_b {f : Nat → Int32} {i : Nat} {x : Int32} {b q : Int × Int} (hf : ∀ j : Nat, b.1 ≤ (f j).toInt ∧ (f j).toInt ≤ b.2) (hx : q.1 ≤ x.toInt ∧ x.toInt ≤ q.2) (j : Nat) : (jn b q).1 ≤ (upd f i x j).toInt ∧ (upd f i x j).toInt ≤ (jn b q).2 := by
  unfold upd
  split
  · exact jn_r hx
  · exact jn_l (hf j)
/-- a told row where one of the places lo .. hi is written -/
def rcW (cs : CS) (vb : Int × Int) (lo hi : Int) : BS → Nat → List AV → Option (BS × List AV)
  | b, _, [] => some (b, [])
  | b, j, av :: r => if decide (lo ≤ (j : Int)) && decide ((j : Int) ≤ hi) then (match av with
      | .inl e => (match bnd b cs e with
        | some q => (match rcW cs vb lo hi (b ++ [jn q vb]) (j + 1) r with
          | some z => some (z.1, .inl (b.length, 0) :: z.2)
          | none => none)
        | none => none)
      | _ => none)
    else (match rcW cs vb lo hi b (j + 1) r with
      | some z => some (z.1, av :: z.2)
      | none => none)
theorem rcW_ok {cs : CS} {vb : Int × Int} {lo hi : Int} {f : Nat → Int32} {i : Nat} {x : Int32} (hx : vb.1 ≤ x.toInt ∧ x.toInt ≤ vb.2) (hi1 : lo ≤ (i : Int)) (hi2 : (i : Int) ≤ hi) : ∀ {fs : List AV} {b : BS} {σ : List Int} {j : Nat} {z : BS × List AV}, zB b σ → zC cs σ → rcW cs vb lo hi b j fs = some z → (∀ (k : Nat) (av : AV), fs[k]? = some av → gv σ ω ad av (.int (f (j + k)))) → z.2.length = fs.length ∧ ∃ τ : List Int, zB z.1 (σ ++ τ) ∧ ∀ (k : Nat) (av : AV), z.2[k]? = some av → gv (σ ++ τ) ω ad av (.int (upd f i x (j + k)))
  | [], b, σ, j, z, hB, hC, h, hf => by
    cases h
    exact ⟨rfl, [], by simpa using hB, fun k av hk => by simp at hk⟩
  | av :: r, b, σ, j, z, hB, hC, h, hf => by
    have h0 := hf 0 av (by simp)
    rw [Nat.add_zero] at h0
    unfold rcW at h
    by_cases t : (decide (lo ≤ (j : Int)) && decide ((j : Int) ≤ hi)) = true
    · rw [if_pos t] at h
      rcases av with e | av
      · dsimp only at h
        cases q1 : bnd b cs e with
        | none => rw [q1] at h; cases h
        | some q =>
          rw [q1] at h
          dsimp only at h
          obtain ⟨y, hy, hv⟩ := h0
          cases hy
          have g := bnd_ok hB hC q1 hv
          have hn : (jn q vb).1 ≤ (upd f i x j).toInt ∧ (upd f i x j).toInt ≤ (jn q vb).2 := by
            unfold upd
            split
            · exact jn_r hx
            · exact jn_l g
          cases q2 : rcW cs vb lo hi (b ++ [jn q vb]) (j + 1) r with
          | none => rw [q2] at h; cases h
          | some z' =>
            rw [q2] at h
            cases h
            obtain ⟨l1, τ, k1, k2⟩ := rcW_ok hx hi1 hi2 (fs := r) (b := b ++ [jn q vb]) (σ := σ ++ [(upd f i x j).toInt]) (j := j + 1) (P2.app hB ⟨hn, trivial⟩) hC.app q2 (fun k av' hk => by
              have := hf (k + 1) av' (by simpa using hk)
              rw [show j + 1 + k = j + (k + 1) by omega]
              exact this.app)
            refine ⟨by simp [l1], [(upd f i x j).toInt] ++ τ, by rw [← List.append_assoc]; exact k1, fun k av' hk => ?_⟩
            rw [← List.append_assoc]
            cases k with
            | zero =>
              simp at hk
              subst hk
              refine ⟨upd f i x j, rfl, (upd f i x j).toInt, gapp ?_, by dsimp only; omega⟩
              show (σ ++ [_])[b.length]? = _
              rw [P2.len hB]
              exact gend
            | succ k =>
              simp at hk
              have := k2 k av' hk
              rwa [show j + (k + 1) = j + 1 + k by omega]
      · cases h
    · rw [if_neg t] at h
      have t' : ¬ (lo ≤ (j : Int) ∧ (j : Int) ≤ hi) := by simpa using t
      have hne : j ≠ i := fun q => t' (by rw [q]; exact ⟨hi1, hi2⟩)
      cases q2 : rcW cs vb lo hi b (j + 1) r with
      | none => rw [q2] at h; cases h
      | some z' =>
        rw [q2] at h
        cases h
        obtain ⟨l1, τ, k1, k2⟩ := rcW_ok hx hi1 hi2 (fs := r) (σ := σ) (j := j + 1) hB hC q2 (fun k av' hk => by
          have := hf (k + 1) av' (by simpa using hk)
          rw [show j + 1 + k = j + (k + 1) by omega]
          exact this)
        refine ⟨by simp [l1], τ, k1, fun k av' hk => ?_⟩
        cases k with
        | zero =>
          simp at hk
          subst hk
          have e1 : upd f i x (j + 0) = f j := by
            rw [Nat.add_zero]
            unfold upd
            rw [if_neg hne]
          rw [e1]
          exact h0.app
        | succ k =>
          simp at hk
          have := k2 k av' hk
          rwa [show j + (k + 1) = j + 1 + k by omega]
def iastA (a : AS) : Option AS := match a.2.2 with
  | .inl v :: .inl x :: .inr (.inr (.inl c)) :: st => (match a.1.2.2.2[c]?, bnd a.1.1 a.1.2.2.1 v with
    | some (.inr (.inl (kd, n, k))), some vb => (match a.1.2.1[k]? with
      | some b => if kd == 1 && ixOK a.1.1 a.1.2.2.1 x n then some ((a.1.1, a.1.2.1 ++ [jn b vb], a.1.2.2.1, a.1.2.2.2.set c (.inr (.inl (kd, n, a.1.2.1.length)))), a.2.1, st) else none
      | none => none)
    | some (.inr (.inr (.inr (.inl (n, fs))))), some vb => if decide (n < 1000) && ixOK a.1.1 a.1.2.2.1 x n then (match bnd a.1.1 a.1.2.2.1 x with
      | some b => if b.1 == b.2 then some ((a.1.1, a.1.2.1, a.1.2.2.1, a.1.2.2.2.set c (.inr (.inr (.inr (.inl (n, fs.set b.1.toNat (.inl v))))))), a.2.1, st)
        else (match rcW a.1.2.2.1 vb b.1 b.2 a.1.1 0 fs with
          | some z => some ((z.1, a.1.2.1, a.1.2.2.1, a.1.2.2.2.set c (.inr (.inr (.inr (.inl (n, z.2)))))), a.2.1, st)
          | none => none)
      | none => none) else none
    | _, _ => none)
  | _ => none
theorem s_iastore (hX : CTX p s m args c cc nL own w0 D cy A) (hd : decode cc pc = .ok (.iastore, 1)) (h : iastA a = some a') (hk : OkA (Wq p l e R s m args below meth c Q) D cy A s.heap nL ω ad σ0 φ0 a' (pc + 1)) : OkA (Wq p l e R s m args below meth c Q) D cy A s.heap nL ω ad σ0 φ0 a pc := by
  intro σ φ ws lv stk H locs ls hσ hφ hG hP hD hS hl
  obtain ⟨hx, hb, hml, hown, hts, hK, hA⟩ := hX
  obtain ⟨⟨hB, hF, hC, hW⟩, hL, hT⟩ := hG
  unfold iastA at h
  split at h
  · rename_i v x cr st q1
    rw [q1] at hT
    match stk, hT with
    | v0 :: v1 :: v2 :: st', hT =>
      obtain ⟨y1, rfl, hvy⟩ := hT.1.1
      obtain ⟨x1, rfl, hvx⟩ := hT.2.1.1
      have hv : v2 = .ref (ad cr) := hT.2.2.1.1
      subst hv
      have hT3 := hT.2.2.2
      split at h
      · rename_i kd n k vb q2 q0
        have gv0 := bnd_ok hB hC q0 hvy
        obtain ⟨en, w1, w2⟩ := hW.2 cr _ q2
        obtain ⟨f, w3, rfl⟩ := w2
        split at h
        · rename_i b q3
          by_cases t : (kd == 1 && ixOK a.1.1 a.1.2.2.1 x n) = true
          · rw [if_pos t] at h
            have t' : kd = 1 ∧ ixOK a.1.1 a.1.2.2.1 x n = true := by simpa using t
            cases h
            obtain ⟨i1, i2, i3, i4⟩ := ixOK_ok hB hC t'.2 hvx
            obtain ⟨rfl, _⟩ := t'
            obtain ⟨f', g1, g2⟩ := P2.get hF q3
            rw [w3] at g1
            cases g1
            have hF2 : zF (a.1.2.1 ++ [jn b vb]) (φ ++ [upd f x1.toNatClampNeg y1]) := P2.app hF ⟨upd_b g2 gv0, trivial⟩
            have hw := hW.app (τ := []) (ψ := [upd f x1.toNatClampNeg y1])
            rw [List.append_nil] at hw
            have hw2 := hw.set (k0 := cr) (c := .inr (.inl (1, n, a.1.2.1.length))) (e := .inl (cy 1, n, .inl (upd f x1.toNatClampNeg y1))) ⟨_, by rw [P2.len hF]; exact gend, rfl⟩
            exact m_iast hx hb hK hP hD hS cr w1 i1 hd rfl (fun H1 locs1 hP1 hD1 hS1 => hk σ _ _ lv _ H1 locs1 ls hσ hφ.app ⟨⟨hB, hF2, hC, hw2⟩, hL, hT3⟩ hP1 hD1 hS1 hl)
          · rw [if_neg t] at h
            cases h
        · cases h
      · rename_i n fs vb q2 q0
        have gv0 := bnd_ok hB hC q0 hvy
        obtain ⟨en, w1, w2⟩ := hW.2 cr _ q2
        obtain ⟨g0, ob, w3, w4⟩ := w2
        by_cases t : (decide (n < 1000) && ixOK a.1.1 a.1.2.2.1 x n) = true
        · rw [if_pos t] at h
          have t : n < 1000 ∧ ixOK a.1.1 a.1.2.2.1 x n = true := by simpa using t
          have hn : n < 1000 := t.1
          obtain ⟨f, rfl, hg0⟩ := OB_lt hn ob
          have w3 : fs.length = n := w3.trans (ols_lt hn)
          have w4 : ∀ (j : Nat) (av : AV), fs[j]? = some av → gv σ ω ad av (.int (f j)) := fun j av hj => by
            have := w4 j av hj
            rwa [hg0] at this
          have t := t.2
          obtain ⟨i1, i2, i3, i4⟩ := ixOK_ok hB hC t hvx
          split at h
          · rename_i b q3
            have g := bnd_ok hB hC q3 hvx
            by_cases t2 : (b.1 == b.2) = true
            · rw [if_pos t2] at h
              have t2' : b.1 = b.2 := by simpa using t2
              cases h
              have e1 : b.1.toNat = x1.toNatClampNeg := by rw [i2]; omega
              have hw2 := hW.set (k0 := cr) (c := .inr (.inr (.inr (.inl (n, fs.set b.1.toNat (.inl v)))))) (e := .inl (cy 1, n, .inl (upd f x1.toNatClampNeg y1))) ⟨_, OB_of hn, by rw [ols_lt hn]; simpa using w3, fun j av hj => by
                rw [e1] at hj
                by_cases z : j = x1.toNatClampNeg
                · subst z
                  have hlt : x1.toNatClampNeg < fs.length := by rw [i2, w3]; omega
                  rw [List.getElem?_set_self hlt] at hj
                  cases hj
                  refine ⟨y1, ?_, hvy⟩
                  unfold upd
                  rw [if_pos rfl]
                · rw [List.getElem?_set_ne (fun q => z q.symm)] at hj
                  have := w4 j av hj
                  unfold upd
                  rw [if_neg z]
                  exact this⟩
              exact m_iast hx hb hK hP hD hS cr w1 i1 hd rfl (fun H1 locs1 hP1 hD1 hS1 => hk σ φ _ lv _ H1 locs1 ls hσ hφ ⟨⟨hB, hF, hC, hw2⟩, hL, hT3⟩ hP1 hD1 hS1 hl)
            · rw [if_neg t2] at h
              split at h
              · rename_i z q4
                cases h
                obtain ⟨l1, τ, k1, k2⟩ := rcW_ok (f := f) (i := x1.toNatClampNeg) gv0 (by rw [i2]; omega) (by rw [i2]; omega) hB hC q4 (fun k av hk => by rw [Nat.zero_add]; exact w4 k av hk)
                have hw := hW.app (τ := τ) (ψ := [])
                rw [List.append_nil] at hw
                have hw2 := hw.set (k0 := cr) (c := .inr (.inr (.inr (.inl (n, z.2))))) (e := .inl (cy 1, n, .inl (upd f x1.toNatClampNeg y1))) ⟨_, OB_of hn, by rw [l1, w3, ols_lt hn], fun j av hj => by
                  have := k2 j av hj
                  rwa [Nat.zero_add] at this⟩
                exact m_iast hx hb hK hP hD hS cr w1 i1 hd rfl (fun H1 locs1 hP1 hD1 hS1 => hk (σ ++ τ) φ _ lv _ H1 locs1 ls hσ.app hφ ⟨⟨k1, hF, hC.app, hw2⟩, hL.mono (fun _ _ h => h.app), hT3.mono (fun _ _ h => h.app)⟩ hP1 hD1 hS1 hl)
              · cases h
          · cases h
        · rw [if_neg t] at h
          cases h
      · cases h
    | [v0, v1], hT => exact hT.2.2.elim
    | [v1], hT => exact hT.2.elim
    | [], hT => exact hT.elim
  · cases h
def bastA (a : AS) : Option AS := match a.2.2 with
  | .inl v :: .inl x :: .inr (.inr (.inl c)) :: st => (match a.1.2.2.2[c]?, bnd a.1.1 a.1.2.2.1 v with
    | some (.inr (.inl (kd, n, k))), some vb => (match a.1.2.1[k]? with
      | some b => if (kd == 0 || (kd == 3 && inR 0 1 vb.1 vb.2)) && ixOK a.1.1 a.1.2.2.1 x n then some ((a.1.1, a.1.2.1 ++ [jn b (if kd == 0 then ((-128), 127) else vb)], a.1.2.2.1, a.1.2.2.2.set c (.inr (.inl (kd, n, a.1.2.1.length)))), a.2.1, st) else none
      | none => none)
    | _, _ => none)
  | _ => none
theorem s_bastore (hX : CTX p s m args c cc nL own w0 D cy A) (hd : decode cc pc = .ok (.bastore, 1)) (h : bastA a = some a') (hk : OkA (Wq p l e R s m args below meth c Q) D cy A s.heap nL ω ad σ0 φ0 a' (pc + 1)) : OkA (Wq p l e R s m args below meth c Q) D cy A s.heap nL ω ad σ0 φ0 a pc := by
  intro σ φ ws lv stk H locs ls hσ hφ hG hP hD hS hl
  obtain ⟨hx, hb, hml, hown, hts, hK, hA⟩ := hX
  obtain ⟨⟨hB, hF, hC, hW⟩, hL, hT⟩ := hG
  unfold bastA at h
  split at h
  · rename_i v x cr st q1
    rw [q1] at hT
    match stk, hT with
    | v0 :: v1 :: v2 :: st', hT =>
      obtain ⟨y1, rfl, hvy⟩ := hT.1.1
      obtain ⟨x1, rfl, hvx⟩ := hT.2.1.1
      have hv : v2 = .ref (ad cr) := hT.2.2.1.1
      subst hv
      have hT3 := hT.2.2.2
      split at h
      · rename_i kd n k vb q2 q0
        have gv0 := bnd_ok hB hC q0 hvy
        obtain ⟨en, w1, w2⟩ := hW.2 cr _ q2
        obtain ⟨f, w3, rfl⟩ := w2
        split at h
        · rename_i b q3
          by_cases t : ((kd == 0 || (kd == 3 && inR 0 1 vb.1 vb.2)) && ixOK a.1.1 a.1.2.2.1 x n) = true
          · rw [if_pos t] at h
            have t' : (kd = 0 ∨ (kd = 3 ∧ inR 0 1 vb.1 vb.2 = true)) ∧ ixOK a.1.1 a.1.2.2.1 x n = true := by simpa using t
            cases h
            obtain ⟨i1, i2, i3, i4⟩ := ixOK_ok hB hC t'.2 hvx
            obtain ⟨f', g1, g2⟩ := P2.get hF q3
            rw [w3] at g1
            cases g1
            rcases t'.1 with rfl | ⟨rfl, t3⟩
            · have hF2 : zF (a.1.2.1 ++ [jn b ((-128), 127)]) (φ ++ [upd f x1.toNatClampNeg (vp_nar .byte y1)]) := P2.app hF ⟨upd_b g2 (i32_b y1), trivial⟩
              have hw := hW.app (τ := []) (ψ := [upd f x1.toNatClampNeg (vp_nar .byte y1)])
              rw [List.append_nil] at hw
              have hw2 := hw.set (k0 := cr) (c := .inr (.inl (0, n, a.1.2.1.length))) (e := .inl (cy 0, n, .inl (upd f x1.toNatClampNeg (vp_nar .byte y1)))) ⟨_, by rw [P2.len hF]; exact gend, rfl⟩
              exact m_bast hx hb hK hP hD hS cr w1 i1 hd rfl (fun H1 locs1 hP1 hD1 hS1 => hk σ _ _ lv _ H1 locs1 ls hσ hφ.app ⟨⟨hB, hF2, hC, hw2⟩, hL, hT3⟩ hP1 hD1 hS1 hl)
            · have t4 := inR_ok t3
              have e1 : vp_nar .boolean y1 = y1 := by
                rcases nar01 (x := y1) (by omega) (by omega) with rfl | rfl <;> rfl
              have hF2 : zF (a.1.2.1 ++ [jn b vb]) (φ ++ [upd f x1.toNatClampNeg (vp_nar .boolean y1)]) := P2.app hF ⟨upd_b g2 (by rw [e1]; exact gv0), trivial⟩
              have hw := hW.app (τ := []) (ψ := [upd f x1.toNatClampNeg (vp_nar .boolean y1)])
              rw [List.append_nil] at hw
              have hw2 := hw.set (k0 := cr) (c := .inr (.inl (3, n, a.1.2.1.length))) (e := .inl (cy 3, n, .inl (upd f x1.toNatClampNeg (vp_nar .boolean y1)))) ⟨_, by rw [P2.len hF]; exact gend, rfl⟩
              exact m_zast hx hb hK hP hD hS cr w1 i1 hd rfl (fun H1 locs1 hP1 hD1 hS1 => hk σ _ _ lv _ H1 locs1 ls hσ hφ.app ⟨⟨hB, hF2, hC, hw2⟩, hL, hT3⟩ hP1 hD1 hS1 hl)
          · rw [if_neg t] at h
            cases h
        · cases h
      · cases h
    | [v0, v1], hT => exact hT.2.2.elim
    | [v1], hT => exact hT.2.elim
    | [], hT => exact hT.elim
  · cases h
def lastA (a : AS) : Option AS := match a.2.2 with
  | .inr (.inl _) :: .inl x :: .inr (.inr (.inl c)) :: st => (match a.1.2.2.2[c]? with
    | some (.inr (.inr (.inl n))) => if ixOK a.1.1 a.1.2.2.1 x n then some ((a.1.1, a.1.2.1, a.1.2.2.1, a.1.2.2.2.set c (.inr (.inr (.inl n)))), a.2.1, st) else none
    | _ => none)
  | _ => none
theorem s_lastore (hX : CTX p s m args c cc nL own w0 D cy A) (hd : decode cc pc = .ok (.lastore, 1)) (h : lastA a = some a') (hk : OkA (Wq p l e R s m args below meth c Q) D cy A s.heap nL ω ad σ0 φ0 a' (pc + 1)) : OkA (Wq p l e R s m args below meth c Q) D cy A s.heap nL ω ad σ0 φ0 a pc := by
  intro σ φ ws lv stk H locs ls hσ hφ hG hP hD hS hl
  obtain ⟨hx, hb, hml, hown, hts, hK, hA⟩ := hX
  obtain ⟨⟨hB, hF, hC, hW⟩, hL, hT⟩ := hG
  unfold lastA at h
  split at h
  · rename_i v x cr st q1
    rw [q1] at hT
    match stk, hT with
    | v0 :: v1 :: v2 :: st', hT =>
      obtain ⟨y1, rfl, hvy⟩ := hT.1.1
      obtain ⟨x1, rfl, hvx⟩ := hT.2.1.1
      have hv : v2 = .ref (ad cr) := hT.2.2.1.1
      subst hv
      split at h
      · rename_i n q2
        obtain ⟨en, w1, w2⟩ := hW.2 cr _ q2
        obtain ⟨f, rfl⟩ := w2
        by_cases t : ixOK a.1.1 a.1.2.2.1 x n = true
        · rw [if_pos t] at h
          cases h
          obtain ⟨i1, i2, i3, i4⟩ := ixOK_ok hB hC t hvx
          exact m_last hx hb hK hP hD hS cr w1 i1 hd rfl (fun H1 locs1 hP1 hD1 hS1 => hk σ φ _ lv _ H1 locs1 ls hσ hφ ⟨⟨hB, hF, hC, hW.set (k0 := cr) (c := .inr (.inr (.inl n))) ⟨_, rfl⟩⟩, hL, hT.2.2.2⟩ hP1 hD1 hS1 hl)
        · rw [if_neg t] at h
          cases h
      · cases h
    | [v0, v1], hT => exact hT.2.2.elim
    | [v1], hT => exact hT.2.elim
    | [], hT => exact hT.elim
  · cases h
/-- arraycopy(a, 0, b, 0, n), n a number -/
def acpA (a : AS) : Option AS := match a.2.2 with
  | [.inl n, .inl dp, .inr (.inr (.inl d)), .inl sp, .inr (.inr (.inl c))] => (match a.1.2.2.2[c]?, a.1.2.2.2[d]?, bnd a.1.1 a.1.2.2.1 n, bnd a.1.1 a.1.2.2.1 sp, bnd a.1.1 a.1.2.2.1 dp with
    | some (.inr (.inl (kd, n0, k))), some (.inr (.inl (kd', n1, k'))), some bn, some bs', some bd => (match a.1.2.1[k]?, a.1.2.1[k']? with
      | some b, some b' => if kd == 1 && kd' == 1 && decide (0 ≤ bn.1) && decide (0 ≤ bs'.1) && decide (0 ≤ bd.1) && decide (bs'.2 + bn.2 ≤ (n0 : Int)) && decide (bd.2 + bn.2 ≤ (n1 : Int)) then some ((a.1.1, a.1.2.1 ++ [jn b b'], a.1.2.2.1, a.1.2.2.2.set d (.inr (.inl (1, n1, a.1.2.1.length)))), a.2.1, []) else none
      | _, _ => none)
    | _, _, _, _, _ => none)
  | _ => none
theorem s_acopy (hX : CTX p s m args c cc nL own w0 D cy A) {idx : Nat} (hR : 1 ≤ R.frames ∧ 40 ≤ R.locals) (hlk : Cond.methodLink own idx arraycopyName ∈ bigG) (hnat : Cond.native arraycopyName ∈ bigG) (hst : Cond.static arraycopyName ∈ bigG) (hin : Cond.initialized "java/lang/System" ∈ bigG) (hd : decode cc pc = .ok (.invokestatic idx, 3)) (h : acpA a = some a') (hk : OkA (Wq p l e R s m args below meth c Q) D cy A s.heap nL ω ad σ0 φ0 a' (pc + 3)) : OkA (Wq p l e R s m args below meth c Q) D cy A s.heap nL ω ad σ0 φ0 a pc := by
  intro σ φ ws lv stk H locs ls hσ hφ hG hP hD hS hl
  obtain ⟨hx, hb, hml, hown, hts, hK, hA⟩ := hX
  obtain ⟨⟨hB, hF, hC, hW⟩, hL, hT⟩ := hG
  unfold acpA at h
  split at h
  · rename_i n dp d sp cr q1
    rw [q1] at hT
    match stk, hT with
    | [v0, v1, v2, v3, v4], hT =>
      obtain ⟨x0, rfl, hv0⟩ := hT.1.1
      obtain ⟨x1, rfl, hv1⟩ := hT.2.1.1
      have hv2 : v2 = .ref (ad d) := hT.2.2.1.1
      subst hv2
      obtain ⟨x3, rfl, hv3⟩ := hT.2.2.2.1.1
      have hv4 : v4 = .ref (ad cr) := hT.2.2.2.2.1.1
      subst hv4
      split at h
      · rename_i kd n0 k kd' n1 k' bn bs' bd q2 q3 q4 q5 q6
        obtain ⟨en, w1, w2⟩ := hW.2 cr _ q2
        obtain ⟨f, w3, rfl⟩ := w2
        obtain ⟨en', u1, u2⟩ := hW.2 d _ q3
        obtain ⟨g, u3, rfl⟩ := u2
        split at h
        · rename_i b b' q7 q8
          by_cases t : (kd == 1 && kd' == 1 && decide (0 ≤ bn.1) && decide (0 ≤ bs'.1) && decide (0 ≤ bd.1) && decide (bs'.2 + bn.2 ≤ (n0 : Int)) && decide (bd.2 + bn.2 ≤ (n1 : Int))) = true
          · rw [if_pos t] at h
            have t' : (((((kd = 1 ∧ kd' = 1) ∧ 0 ≤ bn.1) ∧ 0 ≤ bs'.1) ∧ 0 ≤ bd.1) ∧ bs'.2 + bn.2 ≤ (n0 : Int)) ∧ bd.2 + bn.2 ≤ (n1 : Int) := by simpa using t
            cases h
            obtain ⟨⟨⟨⟨⟨⟨rfl, rfl⟩, t1⟩, t2⟩, t3⟩, t4⟩, t5⟩ := t'
            have r0 := bnd_ok hB hC q4 hv0
            have r3 := bnd_ok hB hC q5 hv3
            have r1 := bnd_ok hB hC q6 hv1
            obtain ⟨f', g1, g2⟩ := P2.get hF q7
            rw [w3] at g1
            cases g1
            obtain ⟨g', g3, g4⟩ := P2.get hF q8
            rw [u3] at g3
            cases g3
            have neg : ∀ {z : Int32}, 0 ≤ z.toInt → ¬ z < 0 := fun {z} hz hh => by
              rw [Int32.lt_iff_toInt_lt] at hh
              have e0 : (0 : Int32).toInt = 0 := rfl
              omega
            have c0 : x0.toNatClampNeg = x0.toInt.toNat := rfl
            have c1 : x1.toNatClampNeg = x1.toInt.toNat := rfl
            have c3 : x3.toNatClampNeg = x3.toInt.toNat := rfl
            have hF2 : zF (a.1.2.1 ++ [jn b b']) (φ ++ [va_cpy f g x3.toNatClampNeg x1.toNatClampNeg x0.toNatClampNeg]) := P2.app hF ⟨fun j => by
              unfold va_cpy
              split
              · exact jn_l (g2 _)
              · exact jn_r (g4 _), trivial⟩
            have hw := hW.app (τ := []) (ψ := [va_cpy f g x3.toNatClampNeg x1.toNatClampNeg x0.toNatClampNeg])
            rw [List.append_nil] at hw
            have hw2 := hw.set (k0 := d) (c := .inr (.inl (1, n1, a.1.2.1.length))) (e := .inl (cy 1, n1, .inl (va_cpy f g x3.toNatClampNeg x1.toNatClampNeg x0.toNatClampNeg))) ⟨_, by rw [P2.len hF]; exact gend, rfl⟩
            have hnw : nativeFrameWords "java/lang/System" "arraycopy" 5 + 11 ≤ 40 := by decide
            exact va_copyi hx hb (hml.trans hl.1.symm) hown (hts _ (List.mem_cons_of_mem _ hlk)) (hts _ (List.mem_cons_of_mem _ hnat)) (hts _ (List.mem_cons_of_mem _ hst)) (hts _ (List.mem_cons_of_mem _ hin)) hK.1 hP hD hS cr d 1 1 w1 u1 rfl rfl rfl (neg (by omega)) (neg (by omega)) (neg (by omega)) (by rw [c3, c0]; omega) (by rw [c1, c0]; omega) (fun _ _ => rfl) hR.1 (by simp only [List.map_nil, List.sum_nil]; omega) hd (fun H1 locs1 hP1 hD1 hS1 => hk σ _ _ lv _ H1 locs1 ls hσ hφ.app ⟨⟨hB, hF2, hC, hw2⟩, hL, trivial⟩ hP1 hD1 hS1 hl)
          · rw [if_neg t] at h
            cases h
        · cases h
      · cases h
    | v0 :: v1 :: v2 :: v3 :: v4 :: v5 :: r, hT => exact hT.2.2.2.2.2.elim
    | [v0, v1, v2, v3], hT => exact hT.2.2.2.2.elim
    | [v0, v1, v2], hT => exact hT.2.2.2.elim
    | [v0, v1], hT => exact hT.2.2.elim
    | [v1], hT => exact hT.2.elim
    | [], hT => exact hT.elim
  · cases h
end STES
