/-! the rows of the abstract walk: arrays; own -/
section STER
variable {p : Program} {l : Launch} {e : Env} {R : Room} {s : State} {m : MethodId} {args : Array Value} {below : List Frame} {meth : Method} {c : Code} {Q : State → Prop} {cc : ByteArray} {D : va_G} {cy : Nat → ClassId} {A : Nat → Prop} {nL : Nat} {own : String} {w0 : Cond} {ω : List Value} {ad : Nat → Nat} {σ0 : List Int} {φ0 : List (Nat → Int32)} {pc : Nat} {a a' : AS}
theorem ty_at (cy : Nat → ClassId) {kd : Nat} (h : kd < 6) : ∃ ty : FieldType, (Ty cy)[kd]? = some (cy kd, ty) := by
  match kd, h with
  | 0, _ => exact ⟨_, rfl⟩
  | 1, _ => exact ⟨_, rfl⟩
  | 2, _ => exact ⟨_, rfl⟩
  | 3, _ => exact ⟨_, rfl⟩
  | 4, _ => exact ⟨_, rfl⟩
  | 5, _ => exact ⟨_, rfl⟩
def lenC (c : AC) : Option (Nat × Nat) := match c with
  | .inl _ => none
  | .inr (.inl (kd, n, _)) => some (kd, n)
  | .inr (.inr (.inl n)) => some (2, n)
  | .inr (.inr (.inr (.inl (n, _)))) => if decide (n < 1000) then some (1, n) else none
  | .inr (.inr (.inr (.inr (kd, n, _)))) => some (kd, n)
theorem lenC_ok {σ : List Int} {φ : List (Nat → Int32)} {ac : AC} {en : va_E} {q : Nat × Nat} (h : lenC ac = some q) (hc : gc cy σ φ ω ad ac en) : ∃ x : vp_A, en = .inl (cy q.1, x) ∧ x.1 = q.2 := by
  rcases ac with ⟨ci, fs⟩ | ⟨kd, n, k⟩ | n | ⟨n, fs⟩ | ⟨kd, n, cs⟩
  · cases h
  · cases h; obtain ⟨f, _, rfl⟩ := hc; exact ⟨_, rfl, rfl⟩
  · cases h; obtain ⟨f, rfl⟩ := hc; exact ⟨_, rfl, rfl⟩
  · simp only [lenC] at h
    by_cases t : n < 1000
    · rw [if_pos (by simpa using t)] at h
      cases h
      obtain ⟨g, ho, _⟩ := hc
      obtain ⟨f, rfl, _⟩ := OB_lt t ho
      exact ⟨_, rfl, rfl⟩
    · rw [if_neg (by simpa using t)] at h
      cases h
  · cases h; obtain ⟨f, rfl, _⟩ := hc; exact ⟨_, rfl, rfl⟩
def alenA (a : AS) : Option AS := match a.2.2 with
  | .inr (.inr (.inl c)) :: st => (match (a.1.2.2.2[c]?).bind lenC with
    | some q => if decide (q.1 < 6) then some (pushI a.1 a.2.1 st (cR a.1.1 a.1.2.2.1 (Int32.ofNat q.2).toInt)) else none
    | none => none)
  | _ => none
theorem s_arraylength (hX : CTX p s m args c cc nL own w0 D cy A) (hd : decode cc pc = .ok (.arraylength, 1)) (h : alenA a = some a') (hk : OkA (Wq p l e R s m args below meth c Q) D cy A s.heap nL ω ad σ0 φ0 a' (pc + 1)) : OkA (Wq p l e R s m args below meth c Q) D cy A s.heap nL ω ad σ0 φ0 a pc := by
  intro σ φ ws lv stk H locs ls hσ hφ hG hP hD hS hl
  obtain ⟨hx, hb, hml, hown, hts, hK, hA⟩ := hX
  obtain ⟨⟨hB, hF, hC, hW⟩, hL, hT⟩ := hG
  unfold alenA at h
  split at h
  · rename_i cr st q1
    rw [q1] at hT
    match stk, hT with
    | v1 :: st', hT =>
      cases q2 : a.1.2.2.2[cr]? with
      | none => rw [q2] at h; cases h
      | some ac =>
        rw [q2] at h
        dsimp only [Option.bind] at h
        cases q3 : lenC ac with
        | none => rw [q3] at h; cases h
        | some q =>
          rw [q3] at h
          dsimp only at h
          by_cases t : q.1 < 6
          · rw [if_pos (by simpa using t)] at h
            cases h
            obtain ⟨en, w1, w2⟩ := hW.2 cr _ q2
            obtain ⟨x, rfl, w4⟩ := lenC_ok q3 w2
            obtain ⟨ty, hty⟩ := ty_at cy t
            have hv : v1 = .ref (ad cr) := hT.1.1
            subst hv
            obtain ⟨τ, hg⟩ := GS.pushI (x := Int32.ofNat q.2) ⟨hB, hF, hC, hW⟩ hL hT.2 (cR_ok hB hC _)
            exact va_alen hx hb hK.1 hP cr q.1 w1 hty (by rw [w4]) hd (hk (σ ++ τ) φ ws lv _ H locs ls hσ.app hφ hg hP hD hS hl)
          · rw [if_neg (by simpa using t)] at h
            cases h
    | [], hT => exact hT.elim
  · cases h
/-- one range of the cells from lo to hi of a told row -/
def rcJ (bs : BS) (cs : CS) (lo hi : Int) : Nat → List AV → Option (Int × Int)
  | _, [] => none
  | j, .inl e :: r => if decide (lo ≤ (j : Int)) && decide ((j : Int) ≤ hi) then (match bnd bs cs e, rcJ bs cs lo hi (j + 1) r with
      | some b, some q => some (if b.1 ≤ q.1 then b.1 else q.1, if b.2 ≤ q.2 then q.2 else b.2)
      | some b, none => if decide (hi ≤ (j : Int)) then some b else none
      | none, _ => none) else rcJ bs cs lo hi (j + 1) r
  | j, _ :: r => if decide (lo ≤ (j : Int)) && decide ((j : Int) ≤ hi) then none else rcJ bs cs lo hi (j + 1) r
theorem rcJ_ok {bs : BS} {cs : CS} {σ : List Int} {lo hi : Int} (hB : zB bs σ) (hC : zC cs σ) : ∀ {fs : List AV} {j : Nat} {q : Int × Int} {f : Nat → Int32} {i : Nat}, rcJ bs cs lo hi j fs = some q → (∀ (k : Nat) (av : AV), fs[k]? = some av → gv σ ω ad av (.int (f (j + k)))) → j ≤ i → i < j + fs.length → lo ≤ (i : Int) → (i : Int) ≤ hi → q.1 ≤ (f i).toInt ∧ (f i).toInt ≤ q.2
  | [], j, q, f, i, h, _, _, _, _, _ => by cases h
  | av :: r, j, q, f, i, h, hf, h1, h2, h3, h4 => by
    have hr : ∀ (k : Nat) (av : AV), r[k]? = some av → gv σ ω ad av (.int (f (j + 1 + k))) := fun k av' hk => by
      have := hf (k + 1) av' (by simpa using hk)
      rwa [show j + 1 + k = j + (k + 1) by omega]
    have hlen : i = j ∨ (j + 1 ≤ i ∧ i < j + 1 + r.length) := by
      simp only [List.length_cons] at h2
      omega
    have h0 := hf 0 av (by simp)
    rw [Nat.add_zero] at h0
    rcases av with e | av
    · unfold rcJ at h
      by_cases t : (decide (lo ≤ (j : Int)) && decide ((j : Int) ≤ hi)) = true
      · rw [if_pos t] at h
        have t' : lo ≤ (j : Int) ∧ (j : Int) ≤ hi := by simpa using t
        cases q1 : bnd bs cs e with
        | none => rw [q1] at h; cases h
        | some b =>
          rw [q1] at h
          obtain ⟨x, hx, hv⟩ := h0
          cases hx
          have g := bnd_ok hB hC q1 hv
          cases q2 : rcJ bs cs lo hi (j + 1) r with
          | none =>
            rw [q2] at h
            dsimp only at h
            by_cases t2 : hi ≤ (j : Int)
            · rw [if_pos (by simpa using t2)] at h
              cases h
              have : i = j := by omega
              subst this
              exact g
            · rw [if_neg (by simpa using t2)] at h
              cases h
          | some q' =>
            rw [q2] at h
            cases h
            dsimp only
            rcases hlen with rfl | hlen
            · constructor
              · split <;> omega
              · split <;> omega
            · have g2 := rcJ_ok hB hC q2 hr hlen.1 hlen.2 h3 h4
              constructor
              · split <;> omega
              · split <;> omega
      · rw [if_neg t] at h
        have t' : ¬ (lo ≤ (j : Int) ∧ (j : Int) ≤ hi) := by simpa using t
        rcases hlen with rfl | hlen
        · exact absurd ⟨h3, h4⟩ t'
        · exact rcJ_ok hB hC h hr hlen.1 hlen.2 h3 h4
    · unfold rcJ at h
      by_cases t : (decide (lo ≤ (j : Int)) && decide ((j : Int) ≤ hi)) = true
      · rw [if_pos t] at h
        cases h
      · rw [if_neg t] at h
        have t' : ¬ (lo ≤ (j : Int) ∧ (j : Int) ≤ hi) := by simpa using t
        rcases hlen with rfl | hlen
        · exact absurd ⟨h3, h4⟩ t'
        · exact rcJ_ok hB hC h hr hlen.1 hlen.2 h3 h4
def ialdA (a : AS) : Option AS := match a.2.2 with
  | .inl x :: .inr (.inr (.inl c)) :: st => (match a.1.2.2.2[c]? with
    | some (.inr (.inl (kd, n, k))) => (match a.1.2.1[k]? with
      | some b => if kd == 1 && ixOK a.1.1 a.1.2.2.1 x n then some (pushI a.1 a.2.1 st (ivR a.1.1 a.1.2.2.1 b.1 b.2)) else none
      | none => none)
    | some (.inr (.inr (.inr (.inl (n, fs))))) => if decide (n < 1000) && ixOK a.1.1 a.1.2.2.1 x n then (match bnd a.1.1 a.1.2.2.1 x with
      | some b => if b.1 == b.2 then (match fs[b.1.toNat]? with
          | some (.inl ev) => some (a.1, a.2.1, .inl ev :: st)
          | _ => none)
        else (match rcJ a.1.1 a.1.2.2.1 b.1 b.2 0 fs with
          | some q => some (pushI a.1 a.2.1 st (ivR a.1.1 a.1.2.2.1 q.1 q.2))
          | none => none)
      | none => none) else none
    | _ => none)
  | _ => none
theorem s_iaload (hX : CTX p s m args c cc nL own w0 D cy A) (hd : decode cc pc = .ok (.iaload, 1)) (h : ialdA a = some a') (hk : OkA (Wq p l e R s m args below meth c Q) D cy A s.heap nL ω ad σ0 φ0 a' (pc + 1)) : OkA (Wq p l e R s m args below meth c Q) D cy A s.heap nL ω ad σ0 φ0 a pc := by
  intro σ φ ws lv stk H locs ls hσ hφ hG hP hD hS hl
  obtain ⟨hx, hb, hml, hown, hts, hK, hA⟩ := hX
  obtain ⟨⟨hB, hF, hC, hW⟩, hL, hT⟩ := hG
  unfold ialdA at h
  split at h
  · rename_i x cr st q1
    rw [q1] at hT
    match stk, hT with
    | v1 :: v2 :: st', hT =>
      obtain ⟨x1, rfl, hvx⟩ := hT.1.1
      have hv : v2 = .ref (ad cr) := hT.2.1.1
      subst hv
      split at h
      · rename_i kd n k q2
        obtain ⟨en, w1, w2⟩ := hW.2 cr _ q2
        obtain ⟨f, w3, rfl⟩ := w2
        split at h
        · rename_i b q3
          by_cases t : (kd == 1 && ixOK a.1.1 a.1.2.2.1 x n) = true
          · rw [if_pos t] at h
            have t' : kd = 1 ∧ ixOK a.1.1 a.1.2.2.1 x n = true := by simpa using t
            cases h
            obtain ⟨i1, i2, i3, i4⟩ := ixOK_ok hB hC t'.2 hvx
            obtain ⟨rfl, _⟩ := t'
            obtain ⟨f', g1, g2⟩ := P2.get hF q3
            rw [w3] at g1
            cases g1
            obtain ⟨τ, hg⟩ := GS.pushI (x := f x1.toNatClampNeg) ⟨hB, hF, hC, hW⟩ hL hT.2.2 (ivR_ok hB hC (g2 _).1 (g2 _).2)
            exact m_iald hx hb hK hP cr w1 i1 hd rfl (hk (σ ++ τ) φ ws lv _ H locs ls hσ.app hφ hg hP hD hS hl)
          · rw [if_neg t] at h
            cases h
        · cases h
      · rename_i n fs q2
        obtain ⟨en, w1, w2⟩ := hW.2 cr _ q2
        obtain ⟨g0, ob, w3, w4⟩ := w2
        by_cases t : (decide (n < 1000) && ixOK a.1.1 a.1.2.2.1 x n) = true
        · rw [if_pos t] at h
          have t : n < 1000 ∧ ixOK a.1.1 a.1.2.2.1 x n = true := by simpa using t
          have hn : n < 1000 := t.1
          obtain ⟨f, rfl, hg0⟩ := OB_lt hn ob
          have w3 : fs.length = n := w3.trans (ols_lt hn)
          have w4 : ∀ (j : Nat) (av : AV), fs[j]? = some av → gv σ ω ad av (.int (f j)) := fun j av hj => by
            have := w4 j av hj
            rwa [hg0] at this
          have t := t.2
          obtain ⟨i1, i2, i3, i4⟩ := ixOK_ok hB hC t hvx
          split at h
          · rename_i b q3
            have g := bnd_ok hB hC q3 hvx
            by_cases t2 : (b.1 == b.2) = true
            · rw [if_pos t2] at h
              have t2' : b.1 = b.2 := by simpa using t2
              split at h
              · rename_i ev q4
                cases h
                have g5 := w4 _ _ q4
                have e1 : b.1.toNat = x1.toNatClampNeg := by rw [i2]; omega
                rw [e1] at g5
                exact m_iald hx hb hK hP cr w1 i1 hd rfl (hk σ φ ws lv _ H locs ls hσ hφ ⟨⟨hB, hF, hC, hW⟩, hL, g5.cat rfl, hT.2.2⟩ hP hD hS hl)
              · cases h
            · rw [if_neg t2] at h
              split at h
              · rename_i q q4
                cases h
                have g5 := rcJ_ok hB hC q4 (f := f) (i := x1.toNatClampNeg) (fun k av hk => by rw [Nat.zero_add]; exact w4 k av hk) (Nat.zero_le _) (by rw [i2, w3]; omega) (by rw [i2]; omega) (by rw [i2]; omega)
                obtain ⟨τ, hg⟩ := GS.pushI (x := f x1.toNatClampNeg) ⟨hB, hF, hC, hW⟩ hL hT.2.2 (ivR_ok hB hC g5.1 g5.2)
                exact m_iald hx hb hK hP cr w1 i1 hd rfl (hk (σ ++ τ) φ ws lv _ H locs ls hσ.app hφ hg hP hD hS hl)
              · cases h
          · cases h
        · rw [if_neg t] at h
          cases h
      · cases h
    | [v1], hT => exact hT.2.elim
    | [], hT => exact hT.elim
  · cases h
def baldA (a : AS) : Option AS := match a.2.2 with
  | .inl x :: .inr (.inr (.inl c)) :: st => (match a.1.2.2.2[c]? with
    | some (.inr (.inl (kd, n, k))) => (match a.1.2.1[k]? with
      | some b => if (kd == 0 || kd == 3) && ixOK a.1.1 a.1.2.2.1 x n then some (pushI a.1 a.2.1 st (ivR a.1.1 a.1.2.2.1 b.1 b.2)) else none
      | none => none)
    | _ => none)
  | _ => none
theorem s_baload (hX : CTX p s m args c cc nL own w0 D cy A) (hd : decode cc pc = .ok (.baload, 1)) (h : baldA a = some a') (hk : OkA (Wq p l e R s m args below meth c Q) D cy A s.heap nL ω ad σ0 φ0 a' (pc + 1)) : OkA (Wq p l e R s m args below meth c Q) D cy A s.heap nL ω ad σ0 φ0 a pc := by
  intro σ φ ws lv stk H locs ls hσ hφ hG hP hD hS hl
  obtain ⟨hx, hb, hml, hown, hts, hK, hA⟩ := hX
  obtain ⟨⟨hB, hF, hC, hW⟩, hL, hT⟩ := hG
  unfold baldA at h
  split at h
  · rename_i x cr st q1
    rw [q1] at hT
    match stk, hT with
    | v1 :: v2 :: st', hT =>
      obtain ⟨x1, rfl, hvx⟩ := hT.1.1
      have hv : v2 = .ref (ad cr) := hT.2.1.1
      subst hv
      split at h
      · rename_i kd n k q2
        obtain ⟨en, w1, w2⟩ := hW.2 cr _ q2
        obtain ⟨f, w3, rfl⟩ := w2
        split at h
        · rename_i b q3
          by_cases t : ((kd == 0 || kd == 3) && ixOK a.1.1 a.1.2.2.1 x n) = true
          · rw [if_pos t] at h
            have t' : (kd = 0 ∨ kd = 3) ∧ ixOK a.1.1 a.1.2.2.1 x n = true := by simpa using t
            cases h
            obtain ⟨i1, i2, i3, i4⟩ := ixOK_ok hB hC t'.2 hvx
            obtain ⟨f', g1, g2⟩ := P2.get hF q3
            rw [w3] at g1
            cases g1
            obtain ⟨τ, hg⟩ := GS.pushI (x := f x1.toNatClampNeg) ⟨hB, hF, hC, hW⟩ hL hT.2.2 (ivR_ok hB hC (g2 _).1 (g2 _).2)
            have kk := hk (σ ++ τ) φ ws lv _ H locs ls hσ.app hφ hg hP hD hS hl
            rcases t'.1 with rfl | rfl
            · exact m_bald hx hb hK hP cr w1 i1 hd rfl kk
            · exact m_zald hx hb hK hP cr w1 i1 hd rfl kk
          · rw [if_neg t] at h
            cases h
        · cases h
      · cases h
    | [v1], hT => exact hT.2.elim
    | [], hT => exact hT.elim
  · cases h
def laldA (a : AS) : Option AS := match a.2.2 with
  | .inl x :: .inr (.inr (.inl c)) :: st => (match a.1.2.2.2[c]? with
    | some (.inr (.inr (.inl n))) => if ixOK a.1.1 a.1.2.2.1 x n then some (pushL a.1 a.2.1 st (fullL a.1.1 a.1.2.2.1)) else none
    | _ => none)
  | _ => none
theorem s_laload (hX : CTX p s m args c cc nL own w0 D cy A) (hd : decode cc pc = .ok (.laload, 1)) (h : laldA a = some a') (hk : OkA (Wq p l e R s m args below meth c Q) D cy A s.heap nL ω ad σ0 φ0 a' (pc + 1)) : OkA (Wq p l e R s m args below meth c Q) D cy A s.heap nL ω ad σ0 φ0 a pc := by
  intro σ φ ws lv stk H locs ls hσ hφ hG hP hD hS hl
  obtain ⟨hx, hb, hml, hown, hts, hK, hA⟩ := hX
  obtain ⟨⟨hB, hF, hC, hW⟩, hL, hT⟩ := hG
  unfold laldA at h
  split at h
  · rename_i x cr st q1
    rw [q1] at hT
    match stk, hT with
    | v1 :: v2 :: st', hT =>
      obtain ⟨x1, rfl, hvx⟩ := hT.1.1
      have hv : v2 = .ref (ad cr) := hT.2.1.1
      subst hv
      split at h
      · rename_i n q2
        obtain ⟨en, w1, w2⟩ := hW.2 cr _ q2
        obtain ⟨f, rfl⟩ := w2
        by_cases t : ixOK a.1.1 a.1.2.2.1 x n = true
        · rw [if_pos t] at h
          cases h
          obtain ⟨i1, i2, i3, i4⟩ := ixOK_ok hB hC t hvx
          obtain ⟨τ, hg⟩ := GS.pushL (x := f x1.toNatClampNeg) ⟨hB, hF, hC, hW⟩ hL hT.2.2 (fullL_ok hB hC _)
          exact m_lald hx hb hK hP cr w1 i1 hd rfl (hk (σ ++ τ) φ ws lv _ H locs ls hσ.app hφ hg hP hD hS hl)
        · rw [if_neg t] at h
          cases h
      · cases h
    | [v1], hT => exact hT.2.elim
    | [], hT => exact hT.elim
  · cases h
def cutL (lo hi : Int) : Nat → List Nat → List Nat
  | _, [] => []
  | j, c :: r => if decide (lo ≤ (j : Int)) && decide ((j : Int) ≤ hi) then c :: cutL lo hi (j + 1) r else cutL lo hi (j + 1) r
theorem cutL_ok {lo hi : Int} : ∀ {cs : List Nat} {j k c : Nat}, cs[k]? = some c → lo ≤ ((j + k : Nat) : Int) → ((j + k : Nat) : Int) ≤ hi → c ∈ cutL lo hi j cs
  | [], _, _, _, h, _, _ => by simp at h
  | c0 :: r, j, 0, c, h, h1, h2 => by
    simp at h
    subst h
    unfold cutL
    rw [if_pos (by simp only [Bool.and_eq_true, decide_eq_true_eq]; exact ⟨by simpa using h1, by simpa using h2⟩)]
    exact List.mem_cons_self ..
  | c0 :: r, j, k + 1, c, h, h1, h2 => by
    simp at h
    have := cutL_ok (lo := lo) (hi := hi) (j := j + 1) h (by rwa [show j + 1 + k = j + (k + 1) by omega]) (by rwa [show j + 1 + k = j + (k + 1) by omega])
    unfold cutL
    split
    · exact List.mem_cons_of_mem _ this
    · exact this
def aaldA (nx : Nat) (a : AS) : Option (List (AS × Nat)) := match a.2.2 with
  | .inl x :: .inr (.inr (.inl c)) :: st => (match a.1.2.2.2[c]? with
    | some (.inr (.inr (.inr (.inr (kd, n, cs))))) => (match bnd a.1.1 a.1.2.2.1 x with
      | some b => if (kd == 4 || kd == 5) && ixOK a.1.1 a.1.2.2.1 x n && decide (n = cs.length) then some ((cutL b.1 b.2 0 cs).map (fun d => ((a.1, a.2.1, .inr (.inr (.inl d)) :: st), nx))) else none
      | none => none)
    | _ => none)
  | _ => none
theorem s_aaload (hX : CTX p s m args c cc nL own w0 D cy A) {L : List (AS × Nat)} (hd : decode cc pc = .ok (.aaload, 1)) (h : aaldA (pc + 1) a = some L) (hk : ∀ q ∈ L, OkA (Wq p l e R s m args below meth c Q) D cy A s.heap nL ω ad σ0 φ0 q.1 q.2) : OkA (Wq p l e R s m args below meth c Q) D cy A s.heap nL ω ad σ0 φ0 a pc := by
  intro σ φ ws lv stk H locs ls hσ hφ hG hP hD hS hl
  obtain ⟨hx, hb, hml, hown, hts, hK, hA⟩ := hX
  obtain ⟨⟨hB, hF, hC, hW⟩, hL, hT⟩ := hG
  unfold aaldA at h
  split at h
  · rename_i x cr st q1
    rw [q1] at hT
    match stk, hT with
    | v1 :: v2 :: st', hT =>
      obtain ⟨x1, rfl, hvx⟩ := hT.1.1
      have hv : v2 = .ref (ad cr) := hT.2.1.1
      subst hv
      split at h
      · rename_i kd n cs q2
        obtain ⟨en, w1, w2⟩ := hW.2 cr _ q2
        obtain ⟨f, rfl, w3⟩ := w2
        split at h
        · rename_i b q3
          have g := bnd_ok hB hC q3 hvx
          by_cases t : ((kd == 4 || kd == 5) && ixOK a.1.1 a.1.2.2.1 x n && decide (n = cs.length)) = true
          · rw [if_pos t] at h
            have t' : ((kd = 4 ∨ kd = 5) ∧ ixOK a.1.1 a.1.2.2.1 x n = true) ∧ n = cs.length := by simpa using t
            cases h
            obtain ⟨i1, i2, i3, i4⟩ := ixOK_ok hB hC t'.1.2 hvx
            have hj : x1.toNatClampNeg < cs.length := by rw [i2, ← t'.2]; omega
            have hget := List.getElem?_eq_getElem hj
            have hf := w3 _ _ hget
            have hmem := cutL_ok (lo := b.1) (hi := b.2) (j := 0) hget (by rw [i2]; omega) (by rw [i2]; omega)
            have kk := hk _ (List.mem_map.mpr ⟨_, hmem, rfl⟩) σ φ ws lv (.ref (ad cs[x1.toNatClampNeg]) :: st') H locs ls hσ hφ ⟨⟨hB, hF, hC, hW⟩, hL, ⟨rfl, rfl⟩, hT.2.2⟩ hP hD hS hl
            rcases t'.1.1 with rfl | rfl
            · exact m_aald hx hb hK hP cr 4 w1 rfl i1 hd hf kk
            · exact m_aald hx hb hK hP cr 5 w1 rfl i1 hd hf kk
          · rw [if_neg t] at h
            cases h
        · cases h
      · cases h
    | [v1], hT => exact hT.2.elim
    | [], hT => exact hT.elim
  · cases h
end STER
