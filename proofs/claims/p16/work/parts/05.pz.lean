/-! pairs of lists, symbols with bounds and differences; own -/
def P2 {α β : Type} (R : α → β → Prop) : List α → List β → Prop
  | [], [] => True
  | a :: as, b :: bs => R a b ∧ P2 R as bs
  | _, _ => False
section P2s
variable {α β : Type} {R S : α → β → Prop}
theorem P2.len : ∀ {as : List α} {bs : List β}, P2 R as bs → as.length = bs.length
  | [], [], _ => rfl
  | _ :: _, _ :: _, h => by simp [P2.len h.2]
  | [], _ :: _, h => h.elim
  | _ :: _, [], h => h.elim
theorem P2.get : ∀ {as : List α} {bs : List β} {k : Nat} {a : α}, P2 R as bs → as[k]? = some a → ∃ b, bs[k]? = some b ∧ R a b
  | [], [], _, _, _, hk => by simp at hk
  | x :: _, y :: _, 0, a, h, hk => by
    simp at hk
    subst hk
    exact ⟨y, by simp, h.1⟩
  | _ :: as, _ :: bs, k + 1, a, h, hk => by
    simp at hk
    obtain ⟨b, h1, h2⟩ := P2.get h.2 hk
    exact ⟨b, by simpa using h1, h2⟩
  | [], _ :: _, _, _, h, _ => h.elim
  | _ :: _, [], _, _, h, _ => h.elim
theorem P2.getr : ∀ {as : List α} {bs : List β} {k : Nat} {b : β}, P2 R as bs → bs[k]? = some b → ∃ a, as[k]? = some a ∧ R a b
  | [], [], _, _, _, hk => by simp at hk
  | x :: _, y :: _, 0, a, h, hk => by
    simp at hk
    subst hk
    exact ⟨x, by simp, h.1⟩
  | _ :: as, _ :: bs, k + 1, a, h, hk => by
    simp at hk
    obtain ⟨b, h1, h2⟩ := P2.getr h.2 hk
    exact ⟨b, by simpa using h1, h2⟩
  | [], _ :: _, _, _, h, _ => h.elim
  | _ :: _, [], _, _, h, _ => h.elim
theorem P2.mono (hRS : ∀ a b, R a b → S a b) : ∀ {as : List α} {bs : List β}, P2 R as bs → P2 S as bs
  | [], [], _ => trivial
  | _ :: _, _ :: _, h => ⟨hRS _ _ h.1, P2.mono hRS h.2⟩
  | [], _ :: _, h => h.elim
  | _ :: _, [], h => h.elim
theorem P2.app : ∀ {as as' : List α} {bs bs' : List β}, P2 R as bs → P2 R as' bs' → P2 R (as ++ as') (bs ++ bs')
  | [], _, [], _, _, h => h
  | _ :: _, _, _ :: _, _, h, h' => ⟨h.1, P2.app h.2 h'⟩
  | [], _, _ :: _, _, h, _ => h.elim
  | _ :: _, _, [], _, h, _ => h.elim
theorem P2.set : ∀ {as : List α} {bs : List β} {k : Nat} {a : α} {b : β}, P2 R as bs → R a b → P2 R (as.set k a) (bs.set k b)
  | [], [], _, _, _, _, _ => trivial
  | _ :: _, _ :: _, 0, _, _, h, hr => ⟨hr, h.2⟩
  | _ :: _, _ :: _, k + 1, _, _, h, hr => ⟨h.1, P2.set h.2 hr⟩
  | [], _ :: _, _, _, _, h, _ => h.elim
  | _ :: _, [], _, _, _, h, _ => h.elim
theorem P2.filter {p : α → Bool} {q : β → Bool} (hpq : ∀ a b, R a b → p a = q b) : ∀ {as : List α} {bs : List β}, P2 R as bs → P2 R (as.filter p) (bs.filter q)
  | [], [], _ => trivial
  | a :: as, b :: bs, h => by
    have h1 := P2.filter hpq h.2
    have h2 := hpq _ _ h.1
    by_cases c : q b = true
    · rw [List.filter_cons_of_pos (by rw [h2]; exact c), List.filter_cons_of_pos c]
      exact ⟨h.1, h1⟩
    · rw [List.filter_cons_of_neg (by rw [h2]; exact c), List.filter_cons_of_neg c]
      exact h1
  | [], _ :: _, h => h.elim
  | _ :: _, [], h => h.elim
theorem P2.rev : ∀ {as : List α} {bs : List β}, P2 R as bs → P2 R as.reverse bs.reverse
  | [], [], _ => trivial
  | _ :: _, _ :: _, h => by
    simp only [List.reverse_cons]
    exact (P2.rev h.2).app ⟨h.1, trivial⟩
  | [], _ :: _, h => h.elim
  | _ :: _, [], h => h.elim
theorem P2.split : ∀ {as : List α} {bs : List β} (n : Nat), P2 R as bs → P2 R (as.take n) (bs.take n) ∧ P2 R (as.drop n) (bs.drop n)
  | [], [], n, _ => by simp [P2]
  | _ :: _, _ :: _, 0, h => ⟨trivial, h⟩
  | _ :: _, _ :: _, n + 1, h => ⟨⟨h.1, (P2.split n h.2).1⟩, (P2.split n h.2).2⟩
  | [], _ :: _, _, h => h.elim
  | _ :: _, [], _, h => h.elim
theorem P2.of : ∀ {as : List α} {bs : List β}, as.length = bs.length → (∀ (k : Nat) (a : α) (b : β), as[k]? = some a → bs[k]? = some b → R a b) → P2 R as bs
  | [], [], _, _ => trivial
  | a :: as, b :: bs, hl, h => ⟨h 0 a b (by simp) (by simp), P2.of (by simpa using hl) (fun k x y hx hy => h (k + 1) x y (by simpa using hx) (by simpa using hy))⟩
  | [], _ :: _, hl, _ => by simp at hl
  | _ :: _, [], hl, _ => by simp at hl
end P2s
theorem gapp {α : Type} {l t : List α} {k : Nat} {a : α} (h : l[k]? = some a) : (l ++ t)[k]? = some a := by
  rw [List.getElem?_append_left (by obtain ⟨h1, _⟩ := List.getElem?_eq_some_iff.mp h; exact h1)]
  exact h
theorem gend {α : Type} {l : List α} {a : α} : (l ++ [a])[l.length]? = some a := by simp
abbrev BS : Type := List (Int × Int)
abbrev CS : Type := List (Nat × Nat × Int)
def zB (bs : BS) (σ : List Int) : Prop := P2 (fun b t => b.1 ≤ t ∧ t ≤ b.2) bs σ
def zC (cs : CS) (σ : List Int) : Prop := ∀ q ∈ cs, ∃ x y : Int, σ[q.1]? = some x ∧ σ[q.2.1]? = some y ∧ x ≤ y + q.2.2
def vl (σ : List Int) (e : Nat × Int) (a : Int) : Prop := ∃ t : Int, σ[e.1]? = some t ∧ a = t + e.2
theorem vl.app {σ τ : List Int} {e : Nat × Int} {a : Int} (h : vl σ e a) : vl (σ ++ τ) e a := by
  obtain ⟨t, h1, h2⟩ := h
  exact ⟨t, gapp h1, h2⟩
theorem vl.inj {σ : List Int} {e : Nat × Int} {a b : Int} (h : vl σ e a) (h' : vl σ e b) : a = b := by
  obtain ⟨t, h1, h2⟩ := h
  obtain ⟨u, h3, h4⟩ := h'
  rw [h1] at h3
  cases h3
  omega
theorem zC.app {cs : CS} {σ τ : List Int} (h : zC cs σ) : zC cs (σ ++ τ) := fun q hq => by
  obtain ⟨x, y, h1, h2, h3⟩ := h q hq
  exact ⟨x, y, gapp h1, gapp h2, h3⟩
def ub1 (bs : BS) : CS → Nat → Int → Int
  | [], _, u => u
  | q :: r, k, u => if q.1 == k then (match bs[q.2.1]? with | some t => ub1 bs r k (if t.2 + q.2.2 ≤ u then t.2 + q.2.2 else u) | none => ub1 bs r k u) else ub1 bs r k u
def lb1 (bs : BS) : CS → Nat → Int → Int
  | [], _, u => u
  | q :: r, k, u => if q.2.1 == k then (match bs[q.1]? with | some t => lb1 bs r k (if u ≤ t.1 - q.2.2 then t.1 - q.2.2 else u) | none => lb1 bs r k u) else lb1 bs r k u
theorem ub1_ok {bs : BS} {σ : List Int} (hB : zB bs σ) : ∀ {cs : CS} {k : Nat} {u t : Int}, zC cs σ → σ[k]? = some t → t ≤ u → t ≤ ub1 bs cs k u
  | [], _, _, _, _, _, h => h
  | q :: r, k, u, t, hC, hk, h => by
    have hC' : zC r σ := fun x hx => hC x (List.mem_cons_of_mem _ hx)
    unfold ub1
    by_cases c : (q.1 == k) = true
    · rw [if_pos c]
      have c' : q.1 = k := by simpa using c
      obtain ⟨x, y, h1, h2, h3⟩ := hC q (List.mem_cons_self ..)
      rw [c', hk] at h1
      cases h1
      cases e : bs[q.2.1]? with
      | none => exact ub1_ok hB hC' hk h
      | some b =>
        obtain ⟨y', g1, g2⟩ := P2.get hB e
        rw [h2] at g1
        cases g1
        refine ub1_ok hB hC' hk ?_
        by_cases d : b.2 + q.2.2 ≤ u
        · rw [if_pos d]
          have := g2.2
          omega
        · rw [if_neg d]
          exact h
    · rw [if_neg c]
      exact ub1_ok hB hC' hk h
theorem lb1_ok {bs : BS} {σ : List Int} (hB : zB bs σ) : ∀ {cs : CS} {k : Nat} {u t : Int}, zC cs σ → σ[k]? = some t → u ≤ t → lb1 bs cs k u ≤ t
  | [], _, _, _, _, _, h => h
  | q :: r, k, u, t, hC, hk, h => by
    have hC' : zC r σ := fun x hx => hC x (List.mem_cons_of_mem _ hx)
    unfold lb1
    by_cases c : (q.2.1 == k) = true
    · rw [if_pos c]
      have c' : q.2.1 = k := by simpa using c
      obtain ⟨x, y, h1, h2, h3⟩ := hC q (List.mem_cons_self ..)
      rw [c', hk] at h2
      cases h2
      cases e : bs[q.1]? with
      | none => exact lb1_ok hB hC' hk h
      | some b =>
        obtain ⟨y', g1, g2⟩ := P2.get hB e
        rw [h1] at g1
        cases g1
        refine lb1_ok hB hC' hk ?_
        by_cases d : u ≤ b.1 - q.2.2
        · rw [if_pos d]
          have := g2.1
          omega
        · rw [if_neg d]
          exact h
    · rw [if_neg c]
      exact lb1_ok hB hC' hk h
def bnd (bs : BS) (cs : CS) (e : Nat × Int) : Option (Int × Int) := match bs[e.1]? with
  | none => none
  | some b => some (lb1 bs cs e.1 b.1 + e.2, ub1 bs cs e.1 b.2 + e.2)
theorem bnd_ok {bs : BS} {cs : CS} {σ : List Int} {e : Nat × Int} {b : Int × Int} {a : Int} (hB : zB bs σ) (hC : zC cs σ) (h : bnd bs cs e = some b) (ha : vl σ e a) : b.1 ≤ a ∧ a ≤ b.2 := by
  obtain ⟨t, h1, h2⟩ := ha
  unfold bnd at h
  cases q : bs[e.1]? with
  | none => rw [q] at h; cases h
  | some b0 =>
    rw [q] at h
    cases h
    obtain ⟨t', g1, g2⟩ := P2.get hB q
    rw [h1] at g1
    cases g1
    have e1 := lb1_ok hB hC h1 g2.1
    have e2 := ub1_ok hB hC h1 g2.2
    dsimp only
    omega
def omin : Option Int → Option Int → Option Int
  | none, b => b
  | a, none => a
  | some a, some b => some (if a ≤ b then a else b)
def dbase (bs : BS) (x y : Nat) : Option Int := if x == y then some 0 else match bs[x]?, bs[y]? with
  | some a, some b => some (a.2 - b.1)
  | _, _ => none
def dub (bs : BS) (cs : CS) : Nat → Nat → Nat → Option Int
  | 0, x, y => dbase bs x y
  | n + 1, x, y => if x == y then some 0 else cs.foldl (fun o q => if q.1 == x then omin o ((dub bs cs n q.2.1 y).map (fun z => z + q.2.2)) else o) (dbase bs x y)
def isUb (o : Option Int) (z : Int) : Prop := ∀ b, o = some b → z ≤ b
theorem omin_ok {a b : Option Int} {z : Int} (h1 : isUb a z) (h2 : isUb b z) : isUb (omin a b) z := by
  intro c hc
  cases a with
  | none => exact h2 c hc
  | some a =>
    cases b with
    | none => exact h1 c hc
    | some b =>
      simp only [omin, Option.some.injEq] at hc
      have := h1 a rfl
      have := h2 b rfl
      subst hc
      split <;> omega
theorem dbase_ok {bs : BS} {σ : List Int} (hB : zB bs σ) {x y : Nat} {t u : Int} (hx : σ[x]? = some t) (hy : σ[y]? = some u) : isUb (dbase bs x y) (t - u) := by
  intro b hb
  unfold dbase at hb
  by_cases c : (x == y) = true
  · rw [if_pos c] at hb
    have c' : x = y := by simpa using c
    subst c'
    rw [hx] at hy
    cases hy
    cases hb
    omega
  · rw [if_neg c] at hb
    obtain ⟨a, g1, g2⟩ := P2.getr hB hx
    obtain ⟨a', g3, g4⟩ := P2.getr hB hy
    rw [g1, g3] at hb
    cases hb
    omega
theorem dub_ok {bs : BS} {cs : CS} {σ : List Int} (hB : zB bs σ) (hC : zC cs σ) : ∀ (n : Nat) {x y : Nat} {t u : Int}, σ[x]? = some t → σ[y]? = some u → isUb (dub bs cs n x y) (t - u)
  | 0, _, _, _, _, hx, hy => dbase_ok hB hx hy
  | n + 1, x, y, t, u, hx, hy => by
    unfold dub
    by_cases c : (x == y) = true
    · rw [if_pos c]
      intro b hb
      have c' : x = y := by simpa using c
      subst c'
      rw [hx] at hy
      cases hy
      cases hb
      omega
    · rw [if_neg c]
      have key : ∀ (l : CS) (o : Option Int), (∀ q ∈ l, q ∈ cs) → isUb o (t - u) → isUb (l.foldl (fun o q => if q.1 == x then omin o ((dub bs cs n q.2.1 y).map (fun z => z + q.2.2)) else o) o) (t - u) := by
        intro l
        induction l with
        | nil => intro o _ h; exact h
        | cons q l ih =>
          intro o hm h
          refine ih _ (fun z hz => hm z (List.mem_cons_of_mem _ hz)) ?_
          dsimp only
          by_cases c : (q.1 == x) = true
          · rw [if_pos c]
            have c' : q.1 = x := by simpa using c
            obtain ⟨a, b, h1, h2, h3⟩ := hC q (hm q (List.mem_cons_self ..))
            rw [c', hx] at h1
            cases h1
            refine omin_ok h ?_
            intro z hz
            cases e : dub bs cs n q.2.1 y with
            | none => rw [e] at hz; cases hz
            | some w =>
              rw [e] at hz
              cases hz
              have := dub_ok hB hC n h2 hy w e
              dsimp only
              omega
          · rw [if_neg c]
            exact h
      exact key cs _ (fun _ h => h) (dbase_ok hB hx hy)
/-- an upper bound of x - y -/
def dubE (bs : BS) (cs : CS) (x y : Nat × Int) : Option Int := (dub bs cs 3 x.1 y.1).map (fun z => z + x.2 - y.2)
theorem dubE_ok {bs : BS} {cs : CS} {σ : List Int} (hB : zB bs σ) (hC : zC cs σ) {x y : Nat × Int} {a b z : Int} (hx : vl σ x a) (hy : vl σ y b) (h : dubE bs cs x y = some z) : a - b ≤ z := by
  obtain ⟨t, h1, h2⟩ := hx
  obtain ⟨u, h3, h4⟩ := hy
  unfold dubE at h
  cases e : dub bs cs 3 x.1 y.1 with
  | none => rw [e] at h; cases h
  | some w =>
    rw [e] at h
    cases h
    have := dub_ok hB hC 3 h1 h3 w e
    dsimp only
    omega
def setB : BS → Nat → Int → Int → BS
  | [], _, _, _ => []
  | b :: r, 0, lo, hi => (if b.1 ≤ lo then lo else b.1, if hi ≤ b.2 then hi else b.2) :: r
  | b :: r, k + 1, lo, hi => b :: setB r k lo hi
theorem setB_ok : ∀ {bs : BS} {σ : List Int} {k : Nat} {lo hi : Int}, zB bs σ → (∀ t, σ[k]? = some t → lo ≤ t ∧ t ≤ hi) → zB (setB bs k lo hi) σ
  | [], [], _, _, _, _, _ => trivial
  | b :: r, t :: σ, 0, lo, hi, h, hk => by
    have h1 := h.1
    have h2 := hk t (by simp)
    refine ⟨⟨?_, ?_⟩, h.2⟩
    · dsimp only
      split <;> omega
    · dsimp only
      split <;> omega
  | b :: r, t :: σ, k + 1, lo, hi, h, hk => ⟨h.1, setB_ok (bs := r) h.2 (fun u hu => hk u (by simpa using hu))⟩
  | [], _ :: _, _, _, _, h, _ => h.elim
  | _ :: _, [], _, _, _, h, _ => h.elim
theorem setB_len : ∀ {bs : BS} {k : Nat} {lo hi : Int}, (setB bs k lo hi).length = bs.length
  | [], _, _, _ => rfl
  | _ :: _, 0, _, _ => rfl
  | _ :: r, k + 1, lo, hi => by simp [setB, setB_len (bs := r)]
/-- x ≤ y + c is known from now on -/
def asLe (bs : BS) (cs : CS) (x y : Nat × Int) (c : Int) : Option (BS × CS) :=
  if x.1 == y.1 then (if x.2 ≤ y.2 + c then some (bs, cs) else none) else
  if cs.any (fun q => q.1 == y.1 && q.2.1 == x.1 && decide (q.2.2 + y.2 - x.2 + c < 0)) then none else
  match bnd bs cs x, bnd bs cs y with
  | some bx, some b_y => if b_y.2 + c < bx.1 then none else
      some (setB (setB bs x.1 (bx.1 - x.2) (if b_y.2 + c ≤ bx.2 then b_y.2 + c - x.2 else bx.2 - x.2)) y.1 (if b_y.1 ≤ bx.1 - c then bx.1 - c - y.2 else b_y.1 - y.2) (b_y.2 - y.2),
        if bx.1 == bx.2 || b_y.1 == b_y.2 then cs else (x.1, y.1, y.2 + c - x.2) :: cs)
  | _, _ => some (bs, cs)
theorem asLe_ok {bs : BS} {cs : CS} {σ : List Int} (hB : zB bs σ) (hC : zC cs σ) {x y : Nat × Int} {c a b : Int} (hx : vl σ x a) (hy : vl σ y b) (h : a ≤ b + c) : ∃ r, asLe bs cs x y c = some r ∧ zB r.1 σ ∧ zC r.2 σ ∧ r.1.length = bs.length := by
  obtain ⟨t, h1, h2⟩ := id hx
  obtain ⟨u, h3, h4⟩ := id hy
  unfold asLe
  by_cases e : (x.1 == y.1) = true
  · rw [if_pos e]
    have e' : x.1 = y.1 := by simpa using e
    rw [e', h3] at h1
    cases h1
    rw [if_pos (by omega)]
    exact ⟨_, rfl, hB, hC, rfl⟩
  · rw [if_neg e]
    have hno : ¬ cs.any (fun q => q.1 == y.1 && q.2.1 == x.1 && decide (q.2.2 + y.2 - x.2 + c < 0)) = true := by
      intro hh
      obtain ⟨q, hq, hq2⟩ := List.any_eq_true.mp hh
      have hq3 : (q.1 = y.1 ∧ q.2.1 = x.1) ∧ q.2.2 + y.2 - x.2 + c < 0 := by simpa using hq2
      obtain ⟨v, w, k1, k2, k3⟩ := hC q hq
      rw [hq3.1.1, h3] at k1
      rw [hq3.1.2, h1] at k2
      cases k1
      cases k2
      have := hq3.2
      omega
    rw [if_neg hno]
    cases q1 : bnd bs cs x with
    | none => exact ⟨_, rfl, hB, hC, rfl⟩
    | some bx =>
      cases q2 : bnd bs cs y with
      | none => exact ⟨_, rfl, hB, hC, rfl⟩
      | some b_y =>
        have g1 := bnd_ok hB hC q1 hx
        have g2 := bnd_ok hB hC q2 hy
        dsimp only
        rw [if_neg (by omega)]
        refine ⟨_, rfl, ?_, ?_, ?_⟩
        · refine setB_ok (setB_ok hB (fun t' ht => ?_)) (fun u' hu => ?_)
          · rw [h1] at ht
            cases ht
            refine ⟨by omega, ?_⟩
            split <;> omega
          · rw [h3] at hu
            cases hu
            refine ⟨?_, by omega⟩
            split <;> omega
        · dsimp only
          split
          · exact hC
          · intro q hq
            rcases List.mem_cons.mp hq with rfl | hq
            · exact ⟨t, u, h1, h3, by dsimp only; omega⟩
            · exact hC q hq
        · dsimp only
          rw [setB_len, setB_len]
def asNe (bs : BS) (cs : CS) (x y : Nat × Int) : Option (BS × CS) :=
  match dubE bs cs x y with
  | some z => if z ≤ 0 then asLe bs cs x y (-1) else (match dubE bs cs y x with
    | some z' => if z' ≤ 0 then asLe bs cs y x (-1) else some (bs, cs)
    | none => some (bs, cs))
  | none => some (bs, cs)
theorem asNe_ok {bs : BS} {cs : CS} {σ : List Int} (hB : zB bs σ) (hC : zC cs σ) {x y : Nat × Int} {a b : Int} (hx : vl σ x a) (hy : vl σ y b) (h : a ≠ b) : ∃ r, asNe bs cs x y = some r ∧ zB r.1 σ ∧ zC r.2 σ ∧ r.1.length = bs.length := by
  unfold asNe
  cases e : dubE bs cs x y with
  | none => exact ⟨_, rfl, hB, hC, rfl⟩
  | some z =>
    have h1 := dubE_ok hB hC hx hy e
    dsimp only
    by_cases q : z ≤ 0
    · rw [if_pos q]
      exact asLe_ok hB hC hx hy (by omega)
    · rw [if_neg q]
      cases e' : dubE bs cs y x with
      | none => exact ⟨_, rfl, hB, hC, rfl⟩
      | some z' =>
        have h2 := dubE_ok hB hC hy hx e'
        dsimp only
        by_cases q' : z' ≤ 0
        · rw [if_pos q']
          exact asLe_ok hB hC hy hx (by omega)
        · rw [if_neg q']
          exact ⟨_, rfl, hB, hC, rfl⟩
/-- 0 eq, 1 ne, 2 lt, 3 le, 4 gt, 5 ge -/
def relH (r : Nat) (a b : Int) : Prop := match r with
  | 0 => a = b
  | 1 => a ≠ b
  | 2 => a < b
  | 3 => a ≤ b
  | 4 => b < a
  | _ => b ≤ a
def relN (r : Nat) : Nat := match r with
  | 0 => 1 | 1 => 0 | 2 => 5 | 3 => 4 | 4 => 3 | _ => 2
theorem relN_ok (r : Nat) (a b : Int) (h : ¬ relH r a b) : relH (relN r) a b := by
  match r with
  | 0 => exact h
  | 1 => exact Decidable.of_not_not (p := a = b) h
  | 2 => simp only [relH, relN] at h ⊢; omega
  | 3 => simp only [relH, relN] at h ⊢; omega
  | 4 => simp only [relH, relN] at h ⊢; omega
  | n + 5 => simp only [relH, relN] at h ⊢; omega
def assume (r : Nat) (bs : BS) (cs : CS) (x y : Nat × Int) : Option (BS × CS) := match r with
  | 0 => (asLe bs cs x y 0).bind (fun q => asLe q.1 q.2 y x 0)
  | 1 => asNe bs cs x y
  | 2 => asLe bs cs x y (-1)
  | 3 => asLe bs cs x y 0
  | 4 => asLe bs cs y x (-1)
  | _ => asLe bs cs y x 0
theorem assume_ok {r : Nat} {bs : BS} {cs : CS} {σ : List Int} (hB : zB bs σ) (hC : zC cs σ) {x y : Nat × Int} {a b : Int} (hx : vl σ x a) (hy : vl σ y b) (h : relH r a b) : ∃ q, assume r bs cs x y = some q ∧ zB q.1 σ ∧ zC q.2 σ ∧ q.1.length = bs.length := by
  match r with
  | 0 =>
    simp only [relH] at h
    obtain ⟨q, h1, h2, h3, h4⟩ := asLe_ok hB hC hx hy (c := 0) (by omega)
    obtain ⟨q', g1, g2, g3, g4⟩ := asLe_ok h2 h3 hy hx (c := 0) (by omega)
    refine ⟨q', ?_, g2, g3, g4.trans h4⟩
    simp only [assume]
    rw [h1]
    exact g1
  | 1 => exact asNe_ok hB hC hx hy h
  | 2 => simp only [relH] at h; exact asLe_ok hB hC hx hy (by omega)
  | 3 => simp only [relH] at h; exact asLe_ok hB hC hx hy (by omega)
  | 4 => simp only [relH] at h; exact asLe_ok hB hC hy hx (by omega)
  | n + 5 => simp only [relH] at h; exact asLe_ok hB hC hy hx (by omega)
