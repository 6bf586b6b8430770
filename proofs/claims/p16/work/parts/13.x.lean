/-! a cut held against a state in one go: symbols and rows that come in their order are met in their order; own -/
def qE (μ : List (Nat × Int)) (st : Nat × List (Nat × Int)) (e e' : Nat × Int) : Option (Nat × List (Nat × Int)) := match Nat.ble st.1 e.1 && Nat.ble (e.1 - st.1) 30 with
  | true => (match st.2.drop (e.1 - st.1) with
    | z :: r => if z.1 == e'.1 && decide (z.2 + e.2 = e'.2) then some (e.1 + 1, r) else none
    | [] => none)
  | false => if chkE μ e e' then some st else none
theorem drop_get {α : Type} {l : List α} {n : Nat} {z : α} {r : List α} (h : z :: r = l.drop n) : l[n]? = some z ∧ r = l.drop (n + 1) := by
  have h1 : (l.drop n)[0]? = some z := by rw [← h]; rfl
  rw [List.getElem?_drop] at h1
  refine ⟨by simpa using h1, ?_⟩
  have h2 : r = (l.drop n).drop 1 := by rw [← h]; rfl
  rw [h2, List.drop_drop]
theorem qE_ok {μ : List (Nat × Int)} {st st' : Nat × List (Nat × Int)} {e e' : Nat × Int} (hi : st.2 = μ.drop st.1) (h : qE μ st e e' = some st') : chkE μ e e' = true ∧ st'.2 = μ.drop st'.1 := by
  unfold qE at h
  split at h
  · rename_i c
    have c' : st.1 ≤ e.1 := Nat.le_of_ble_eq_true (Bool.and_eq_true_iff.mp c).1
    have hd : st.2.drop (e.1 - st.1) = μ.drop e.1 := by rw [hi, List.drop_drop, show st.1 + (e.1 - st.1) = e.1 by omega]
    rw [hd] at h
    split at h
    · rename_i z r q
      split at h
      · rename_i g
        cases h
        obtain ⟨h1, h2⟩ := drop_get q.symm
        refine ⟨?_, h2⟩
        unfold chkE
        rw [h1]
        exact g
      · cases h
    · cases h
  · split at h
    · rename_i g
      cases h
      exact ⟨g, hi⟩
    · cases h
def qV (nω nc : Nat) (μ : List (Nat × Int)) (st : Nat × List (Nat × Int)) (t c : AV) : Option (Nat × List (Nat × Int)) := match t with
  | .inl e => (match c with
    | .inl e' => qE μ st e e'
    | _ => none)
  | .inr (.inl e) => (match c with
    | .inr (.inl e') => qE μ st e e'
    | _ => none)
  | .inr (.inr (.inl k)) => (match c with
    | .inr (.inr (.inl k')) => if Nat.beq k k' && (Nat.blt k nc || Nat.ble 10000 k) then some st else none
    | _ => none)
  | t => if chkV μ (idX nω) (List.range nc) t c then some st else none
theorem qV_ok {nω nc : Nat} {μ : List (Nat × Int)} {st st' : Nat × List (Nat × Int)} {t c : AV} (hi : st.2 = μ.drop st.1) (h : qV nω nc μ st t c = some st') : chkV μ (idX nω) (List.range nc) t c = true ∧ st'.2 = μ.drop st'.1 := by
  rcases t with e | e | k | u | k
  · rcases c with e' | c
    · exact qE_ok hi h
    · cases h
  · rcases c with e' | e' | c
    · cases h
    · exact qE_ok hi h
    · cases h
  · rcases c with e' | e' | k' | c
    · cases h
    · cases h
    · have h' : (if Nat.beq k k' && (Nat.blt k nc || Nat.ble 10000 k) then some st else none) = some st' := h
      split at h'
      · rename_i g
        cases h'
        refine ⟨?_, hi⟩
        obtain ⟨g1, g2⟩ := Bool.and_eq_true_iff.mp g
        have g1' : k = k' := Nat.eq_of_beq_eq_true g1
        subst g1'
        show (match (List.range nc)[k]? with
          | some z => z == k
          | none => decide (10000 ≤ k) && (k == k)) = true
        by_cases hk : k < nc
        · rw [List.getElem?_range hk]
          simp
        · rw [List.getElem?_eq_none (by simpa using hk)]
          rcases Bool.or_eq_true_iff.mp g2 with g3 | g3
          · exact absurd (Nat.lt_of_succ_le (by simpa [Nat.blt] using g3)) hk
          · simpa using g3
      · cases h'
    · cases h
  · have h' : (if chkV μ (idX nω) (List.range nc) (.inr (.inr (.inr (.inl u)))) c then some st else none) = some st' := h
    split at h'
    · rename_i g
      cases h'
      exact ⟨g, hi⟩
    · cases h'
  · have h' : (if chkV μ (idX nω) (List.range nc) (.inr (.inr (.inr (.inr k)))) c then some st else none) = some st' := h
    split at h'
    · rename_i g
      cases h'
      exact ⟨g, hi⟩
    · cases h'
def qVs (nω nc : Nat) (μ : List (Nat × Int)) : (Nat × List (Nat × Int)) → List AV → List AV → Option (Nat × List (Nat × Int))
  | st, [], [] => some st
  | st, t :: ts, c :: cs => match qV nω nc μ st t c with
    | some st' => qVs nω nc μ st' ts cs
    | none => none
  | _, _, _ => none
theorem qVs_ok {nω nc : Nat} {μ : List (Nat × Int)} : ∀ {ts cs : List AV} {st st' : Nat × List (Nat × Int)}, st.2 = μ.drop st.1 → qVs nω nc μ st ts cs = some st' → all2 (chkV μ (idX nω) (List.range nc)) ts cs = true ∧ st'.2 = μ.drop st'.1
  | [], [], st, st', hi, h => by
    cases h
    exact ⟨rfl, hi⟩
  | t :: ts, c :: cs, st, st', hi, h => by
    unfold qVs at h
    split at h
    · rename_i s1 q
      obtain ⟨h1, h2⟩ := qV_ok hi q
      obtain ⟨h3, h4⟩ := qVs_ok h2 h
      exact ⟨by simp [all2, h1, h3], h4⟩
    · cases h
  | [], _ :: _, _, _, _, h => by cases h
  | _ :: _, [], _, _, _, h => by cases h
def qN (ν : List Nat) (sn : Nat × List Nat) (k k' : Nat) : Option (Nat × List Nat) := match Nat.beq k sn.1 with
  | true => (match sn.2 with
    | z :: r => if z == k' then some (sn.1 + 1, r) else none
    | [] => none)
  | false => (match ν[k]? with
    | some z => if z == k' then some sn else none
    | none => none)
theorem qN_ok {ν : List Nat} {sn sn' : Nat × List Nat} {k k' : Nat} (hi : sn.2 = ν.drop sn.1) (h : qN ν sn k k' = some sn') : (match ν[k]? with
      | some z => z == k'
      | none => false) = true ∧ sn'.2 = ν.drop sn'.1 := by
  unfold qN at h
  split at h
  · rename_i c
    have c' : k = sn.1 := Nat.eq_of_beq_eq_true c
    split at h
    · rename_i z r q
      split at h
      · rename_i g
        cases h
        rw [q] at hi
        obtain ⟨h1, h2⟩ := drop_get hi
        rw [c', h1]
        exact ⟨g, h2⟩
      · cases h
    · cases h
  · split at h
    · rename_i z q
      split at h
      · rename_i g
        cases h
        exact ⟨g, hi⟩
      · cases h
    · cases h
def qC (nω nc : Nat) (μ : List (Nat × Int)) (ν : List Nat) (st : Nat × List (Nat × Int)) (sn : Nat × List Nat) (t c : AC) : Option ((Nat × List (Nat × Int)) × (Nat × List Nat)) := match t with
  | .inl (ci, fs) => (match c with
    | .inl (ci', fs') => if ci == ci' then (match qVs nω nc μ st fs fs' with
      | some st' => some (st', sn)
      | none => none) else none
    | _ => none)
  | .inr (.inl (kd, n, k)) => (match c with
    | .inr (.inl (kd', n', k')) => if kd == kd' && n == n' then (match qN ν sn k k' with
      | some sn' => some (st, sn')
      | none => none) else none
    | _ => none)
  | t => if chkC μ ν (idX nω) (List.range nc) t c then some (st, sn) else none
theorem qC_ok {nω nc : Nat} {μ : List (Nat × Int)} {ν : List Nat} {st : Nat × List (Nat × Int)} {sn : Nat × List Nat} {t c : AC} {r : (Nat × List (Nat × Int)) × (Nat × List Nat)} (hi : st.2 = μ.drop st.1) (hn : sn.2 = ν.drop sn.1) (h : qC nω nc μ ν st sn t c = some r) : chkC μ ν (idX nω) (List.range nc) t c = true ∧ r.1.2 = μ.drop r.1.1 ∧ r.2.2 = ν.drop r.2.1 := by
  have slow : ∀ t : AC, (if chkC μ ν (idX nω) (List.range nc) t c then some (st, sn) else none) = some r → chkC μ ν (idX nω) (List.range nc) t c = true ∧ r.1.2 = μ.drop r.1.1 ∧ r.2.2 = ν.drop r.2.1 := by
    intro t h'
    split at h'
    · rename_i g
      cases h'
      exact ⟨g, hi, hn⟩
    · cases h'
  rcases t with ⟨ci, fs⟩ | ⟨kd, n, k⟩ | n | ⟨n, fs⟩ | ⟨kd, n, cs⟩
  · rcases c with ⟨ci', fs'⟩ | c
    · have h' : (if ci == ci' then (match qVs nω nc μ st fs fs' with
        | some st' => some (st', sn)
        | none => none) else none) = some r := h
      split at h'
      · rename_i g
        split at h'
        · rename_i s1 q
          cases h'
          obtain ⟨h1, h2⟩ := qVs_ok hi q
          refine ⟨?_, h2, hn⟩
          show (ci == ci' && all2 (chkV μ (idX nω) (List.range nc)) fs fs') = true
          rw [g, h1]
          rfl
        · cases h'
      · cases h'
    · cases h
  · rcases c with c | ⟨kd', n', k'⟩ | c
    · cases h
    · have h' : (if kd == kd' && n == n' then (match qN ν sn k k' with
        | some sn' => some (st, sn')
        | none => none) else none) = some r := h
      split at h'
      · rename_i g
        split at h'
        · rename_i s1 q
          cases h'
          obtain ⟨h1, h2⟩ := qN_ok hn q
          refine ⟨?_, hi, h2⟩
          show (kd == kd' && n == n' && (match ν[k]? with
            | some z => z == k'
            | none => false)) = true
          rw [g, h1]
          rfl
        · cases h'
      · cases h'
    · cases h
  · exact slow _ h
  · exact slow _ h
  · exact slow _ h
def qCl (nω nc : Nat) (μ : List (Nat × Int)) (ν : List Nat) : (Nat × List (Nat × Int)) → (Nat × List Nat) → List AC → List AC → Bool
  | _, _, [], [] => true
  | st, sn, t :: ts, c :: cs => match qC nω nc μ ν st sn t c with
    | some r => qCl nω nc μ ν r.1 r.2 ts cs
    | none => false
  | _, _, _, _ => false
theorem qCl_ok {nω nc : Nat} {μ : List (Nat × Int)} {ν : List Nat} : ∀ {ts cs : List AC} {st : Nat × List (Nat × Int)} {sn : Nat × List Nat}, st.2 = μ.drop st.1 → sn.2 = ν.drop sn.1 → qCl nω nc μ ν st sn ts cs = true → all2 (chkC μ ν (idX nω) (List.range nc)) ts cs = true
  | [], [], _, _, _, _, _ => rfl
  | t :: ts, c :: cs, st, sn, hi, hn, h => by
    unfold qCl at h
    split at h
    · rename_i r q
      obtain ⟨h1, h2, h3⟩ := qC_ok hi hn q
      have h4 := qCl_ok h2 h3 h
      simp [all2, h1, h4]
    · cases h
  | [], _ :: _, _, _, _, _, h => by cases h
  | _ :: _, [], _, _, _, _, h => by cases h
theorem all2_idx {α β : Type} {f : α → β → Bool} {g : α → Nat → Bool} : ∀ {as : List α} {bs : List β} (o : Nat), (∀ (k : Nat) (a : α) (b : β), bs[k]? = some b → f a b = true → g a (o + k) = true) → all2 f as bs = true → all2 g as (List.range' o bs.length) = true
  | [], [], _, _, _ => rfl
  | a :: as, b :: bs, o, hg, h => by
    have h' : f a b = true ∧ all2 f as bs = true := by simpa [all2] using h
    have h1 := hg 0 a b (by simp) h'.1
    have h2 := all2_idx (o + 1) (fun k x y hk hf => by
      have := hg (k + 1) x y (by simpa using hk) hf
      rwa [show o + (k + 1) = o + 1 + k by omega] at this) h'.2
    show all2 g (a :: as) (List.range' o (bs.length + 1)) = true
    rw [List.range'_succ]
    simp only [all2, Bool.and_eq_true]
    exact ⟨h1, h2⟩
  | [], _ :: _, _, _, h => by cases h
  | _ :: _, [], _, _, h => by cases h
theorem lb1_ge {bs : BS} : ∀ (cs : CS) (k : Nat) (u : Int), u ≤ lb1 bs cs k u
  | [], _, u => Int.le_refl u
  | q :: r, k, u => by
    unfold lb1
    split
    · split
      · rename_i t _
        refine Int.le_trans ?_ (lb1_ge r k _)
        split <;> omega
      · exact lb1_ge r k u
    · exact lb1_ge r k u
theorem ub1_le {bs : BS} : ∀ (cs : CS) (k : Nat) (u : Int), ub1 bs cs k u ≤ u
  | [], _, u => Int.le_refl u
  | q :: r, k, u => by
    unfold ub1
    split
    · split
      · rename_i t _
        refine Int.le_trans (ub1_le r k _) ?_
        split <;> omega
      · exact ub1_le r k u
    · exact ub1_le r k u
def inS (b c : Int × Int) : Bool := decide (b.1 ≤ c.1) && decide (c.2 ≤ b.2)
def qB (bs : BS) (cs : CS) : Nat → BS → List (Nat × Int) → BS → Bool
  | _, [], [], _ => true
  | j, b :: T, e :: μ, tl => match (match tl with
      | c :: _ => Nat.beq e.1 j && decide (e.2 = 0) && inS b c
      | [] => false) with
    | true => qB bs cs (j + 1) T μ tl.tail
    | false => (match bnd bs cs e with
      | some q => inS b q
      | none => false) && qB bs cs (j + 1) T μ tl.tail
  | _, _, _, _ => false
theorem qB_ok {bs : BS} {cs : CS} : ∀ {T : BS} {μ : List (Nat × Int)} {j : Nat} {tl : BS}, tl = bs.drop j → qB bs cs j T μ tl = true → chkB bs cs T μ = true
  | [], [], _, _, _, _ => rfl
  | b :: T, e :: μ, j, tl, ht, h => by
    unfold qB at h
    have ht2 : tl.tail = bs.drop (j + 1) := by rw [ht, List.tail_drop]
    have fin : (match bnd bs cs e with
      | some q => decide (b.1 ≤ q.1) && decide (q.2 ≤ b.2)
      | none => false) = true → chkB bs cs T μ = true → chkB bs cs (b :: T) (e :: μ) = true := by
      intro h1 h2
      show ((match bnd bs cs e with
        | some q => decide (b.1 ≤ q.1) && decide (q.2 ≤ b.2)
        | none => false) && chkB bs cs T μ) = true
      rw [h1, h2]
      rfl
    split at h
    · rename_i g
      refine fin ?_ (qB_ok ht2 h)
      split at g
      · rename_i c tl'
        have g' : (e.1 = j ∧ e.2 = 0) ∧ (b.1 ≤ c.1 ∧ c.2 ≤ b.2) := by simpa [inS] using g
        obtain ⟨⟨g1, g2⟩, g3, g4⟩ := g'
        obtain ⟨k1, _⟩ := drop_get ht
        have k2 : bnd bs cs e = some (lb1 bs cs e.1 c.1 + e.2, ub1 bs cs e.1 c.2 + e.2) := by
          unfold bnd
          rw [g1, k1]
        rw [k2]
        have l1 := lb1_ge (bs := bs) cs e.1 c.1
        have l2 := ub1_le (bs := bs) cs e.1 c.2
        simp only [Bool.and_eq_true, decide_eq_true_eq]
        omega
      · cases g
    · obtain ⟨h1, h2⟩ := Bool.and_eq_true_iff.mp h
      exact fin h1 (qB_ok ht2 h2)
  | [], _ :: _, _, _, _, h => by cases h
  | _ :: _, [], _, _, _, h => by cases h
def qF (fb : BS) : Nat → BS → List Nat → BS → Bool
  | _, [], [], _ => true
  | j, b :: T, k :: ν, tl => match (match tl with
      | c :: _ => Nat.beq k j && inS b c
      | [] => false) with
    | true => qF fb (j + 1) T ν tl.tail
    | false => (match fb[k]? with
      | some q => inS b q
      | none => false) && qF fb (j + 1) T ν tl.tail
  | _, _, _, _ => false
theorem qF_ok {fb : BS} : ∀ {T : BS} {ν : List Nat} {j : Nat} {tl : BS}, tl = fb.drop j → qF fb j T ν tl = true → chkF fb T ν = true
  | [], [], _, _, _, _ => rfl
  | b :: T, k :: ν, j, tl, ht, h => by
    unfold qF at h
    have ht2 : tl.tail = fb.drop (j + 1) := by rw [ht, List.tail_drop]
    have fin : (match fb[k]? with
      | some q => decide (b.1 ≤ q.1) && decide (q.2 ≤ b.2)
      | none => false) = true → chkF fb T ν = true → chkF fb (b :: T) (k :: ν) = true := by
      intro h1 h2
      show ((match fb[k]? with
        | some q => decide (b.1 ≤ q.1) && decide (q.2 ≤ b.2)
        | none => false) && chkF fb T ν) = true
      rw [h1, h2]
      rfl
    split at h
    · rename_i g
      refine fin ?_ (qF_ok ht2 h)
      split at g
      · rename_i c tl'
        obtain ⟨g1, g2⟩ := Bool.and_eq_true_iff.mp g
        have g1' : k = j := Nat.eq_of_beq_eq_true g1
        obtain ⟨k1, _⟩ := drop_get ht
        rw [g1', k1]
        exact g2
      · cases g
    · obtain ⟨h1, h2⟩ := Bool.and_eq_true_iff.mp h
      exact fin h1 (qF_ok ht2 h2)
  | [], _ :: _, _, _, _, h => by cases h
  | _ :: _, [], _, _, _, h => by cases h
def cutQ (nb nf nω : Nat) (T : AS) (a : AS) (μ : List (Nat × Int)) (ν : List Nat) (n m : Nat) : Bool :=
  qCl nω a.1.2.2.2.length μ ν (n, μ.drop n) (m, ν.drop m) T.1.2.2.2 a.1.2.2.2 && qB a.1.1 a.1.2.2.1 0 T.1.1 μ a.1.1 && qF a.1.2.1 0 T.1.2.1 ν a.1.2.1 && chkS a.1.1 a.1.2.2.1 T.1.2.2.1 μ && idP nb μ && idN nf ν && T.2.1.all (fun q => match lk q.1 a.2.1 with
    | some c => chkT μ (idX nω) (List.range a.1.2.2.2.length) q.2 c
    | none => false) && all2 (chkT μ (idX nω) (List.range a.1.2.2.2.length)) T.2.2 a.2.2
theorem cutQ_ok {nb nf nω : Nat} {T a : AS} {μ : List (Nat × Int)} {ν : List Nat} {n m : Nat} (h : cutQ nb nf nω T a μ ν n m = true) : cutB nb nf nω T a μ ν = true := by
  simp only [cutQ, Bool.and_eq_true] at h
  obtain ⟨⟨⟨⟨⟨⟨⟨h1, h2⟩, h3⟩, h4⟩, h5⟩, h6⟩, h7⟩, h8⟩ := h
  have k1 := qCl_ok rfl rfl h1
  have k2 : chkCl μ ν (idX nω) (List.range a.1.2.2.2.length) a.1.2.2.2 T.1.2.2.2 = true := by
    unfold chkCl
    rw [List.range_eq_range']
    refine all2_idx (f := chkC μ ν (idX nω) (List.range a.1.2.2.2.length)) 0 (fun k x y hk hf => ?_) k1
    rw [Nat.zero_add, hk, ← List.range_eq_range']
    exact hf
  have k3 : chkA a.1 T.1 μ ν (idX nω) (List.range a.1.2.2.2.length) = true := by
    simp only [chkA, Bool.and_eq_true]
    exact ⟨⟨⟨qB_ok rfl h2, qF_ok rfl h3⟩, h4⟩, k2⟩
  simp only [cutB, Bool.and_eq_true]
  exact ⟨⟨⟨⟨k3, h5⟩, h6⟩, h7⟩, h8⟩
/-! the maps, guessed: what is met, put in order by its bits -/
def geV (nb : Nat) (st : List (Nat × Nat × Int)) (t c : AV) : List (Nat × Nat × Int) := match t with
  | .inl e => (match c with
    | .inl e' => (match Nat.ble nb e.1 with
      | true => (e.1, e'.1, e'.2 - e.2) :: st
      | false => st)
    | _ => st)
  | .inr (.inl e) => (match c with
    | .inr (.inl e') => (match Nat.ble nb e.1 with
      | true => (e.1, e'.1, e'.2 - e.2) :: st
      | false => st)
    | _ => st)
  | _ => st
def geVs (nb : Nat) : List (Nat × Nat × Int) → List AV → List AV → List (Nat × Nat × Int)
  | st, t :: ts, c :: cs => geVs nb (geV nb st t c) ts cs
  | st, _, _ => st
def geL (nb : Nat) (loc : List (Nat × AV)) : List (Nat × Nat × Int) → List (Nat × AV) → List (Nat × Nat × Int)
  | st, [] => st
  | st, q :: r => geL nb loc (match lk q.1 loc with
    | some c => geV nb st q.2 c
    | none => st) r
def geC (nb nf : Nat) (st : List (Nat × Nat × Int) × List (Nat × Nat)) (t c : AC) : List (Nat × Nat × Int) × List (Nat × Nat) := match t with
  | .inl (_, fs) => (match c with
    | .inl (_, fs') => (geVs nb st.1 fs fs', st.2)
    | _ => st)
  | .inr (.inl (_, _, k)) => (match c with
    | .inr (.inl (_, _, k')) => (match Nat.ble nf k with
      | true => (st.1, (k, k') :: st.2)
      | false => st)
    | _ => st)
  | .inr (.inr (.inr (.inl (_, fs)))) => (match c with
    | .inr (.inr (.inr (.inl (_, fs')))) => (geVs nb st.1 fs fs', st.2)
    | _ => st)
  | _ => st
def geCl (nb nf : Nat) : (List (Nat × Nat × Int) × List (Nat × Nat)) → List AC → List AC → List (Nat × Nat × Int) × List (Nat × Nat)
  | st, t :: ts, c :: cs => geCl nb nf (geC nb nf st t c) ts cs
  | st, _, _ => st
def geHalf {β : Type} (b : Nat) (v : Bool) : List (Nat × β) → List (Nat × β)
  | [] => []
  | q :: r => match Nat.beq (Nat.land (Nat.shiftRight q.1 b) 1) 0 with
    | true => (match v with
      | true => geHalf b v r
      | false => q :: geHalf b v r)
    | false => (match v with
      | true => q :: geHalf b v r
      | false => geHalf b v r)
def geSort {β : Type} : Nat → Nat → List (Nat × β) → List (Nat × β)
  | 0, _, l => l
  | n + 1, b, l => geSort n (b + 1) (geHalf b false l ++ geHalf b true l)
def geOnce {β : Type} : Nat → List (Nat × β) → List β
  | _, [] => []
  | n, q :: r => match Nat.beq q.1 n with
    | true => q.2 :: geOnce (n + 1) r
    | false => geOnce n r
def geCut (nb nf : Nat) (T a : AS) : List (Nat × Int) × List Nat :=
  let g := geCl nb nf (geVs nb (geL nb a.2.1 [] T.2.1) T.2.2 a.2.2, []) T.1.2.2.2 a.1.2.2.2
  ((List.range nb).map (fun k => (k, (0 : Int))) ++ geOnce nb (geSort 10 0 g.1.reverse), List.range nf ++ geOnce nf (geSort 10 0 g.2.reverse))
