/-! the law's run in pieces: the roads up to some places, each to be run on by itself; own -/
def runT (nL : Nat) (K : KT) (code : List (Nat × Instr × Nat)) (invs : List Inv) (stops : Nat) : Nat → AS → Nat → Option (List (AS × Nat × Nat))
  | 0, _, _ => none
  | n + 1, a, pc => if Nat.testBit stops pc then some [(a, pc, n + 1)] else (match fndP pc code with
    | none => none
    | some (ins, len) => match ins with
      | .invokevirtual _ => none
      | ins => (match (match scA pc len ins a with
          | some L => some L
          | none => stepA nL K pc len ins a) with
        | some L => (omap (fun q => if Nat.testBit (msk invs) q.2 then some [(q.1, q.2, 0)] else runT nL K code invs stops n q.1 q.2) L).map List.flatten
        | none => none))
/-- what is owed for the end of a road: at a cut that it fits; elsewhere that it runs on -/
def lob (MT : Nat → MI) (ow : Nat × AW) (nL nω nb nf fr lc : Nat) (K : KT) (code : List (Nat × Instr × Nat)) (CT : CTT) (cons : List Con) (invs : List Inv) (rs : Option RK) (q : AS × Nat × Nat) : Bool := match q.2.2 with
  | 0 => goAL nb nf nω invs rs (fun _ _ => false) q.1 q.2.1
  | k + 1 => runL MT ow nL nω nb nf fr lc K code CT cons invs rs (k + 1) q.1 q.2.1
theorem runT_ok {MT : Nat → MI} {ow : Nat × AW} {nL nω nb nf fr lc : Nat} {K : KT} {code : List (Nat × Instr × Nat)} {CT : CTT} {cons : List Con} {invs : List Inv} {rs : Option RK} {stops : Nat} : ∀ (n : Nat) (a : AS) (pc : Nat) (L : List (AS × Nat × Nat)), runT nL K code invs stops n a pc = some L → (∀ q ∈ L, lob MT ow nL nω nb nf fr lc K code CT cons invs rs q = true) → runL MT ow nL nω nb nf fr lc K code CT cons invs rs n a pc = true := by
  intro n
  induction n with
  | zero => intro a pc L h; cases h
  | succ n ih =>
    intro a pc L h hq
    unfold runT at h
    split at h
    · cases h
      exact hq (a, pc, n + 1) (List.mem_cons_self ..)
    · split at h
      · cases h
      · rename_i ins len q1
        have key : ∀ L' : List (AS × Nat), (omap (fun q => if Nat.testBit (msk invs) q.2 then some [(q.1, q.2, 0)] else runT nL K code invs stops n q.1 q.2) L').map List.flatten = some L → L'.all (fun q => goAL nb nf nω invs rs (runL MT ow nL nω nb nf fr lc K code CT cons invs rs n) q.1 q.2) = true := by
          intro L' h'
          cases e : omap (fun q => if Nat.testBit (msk invs) q.2 then some [(q.1, q.2, 0)] else runT nL K code invs stops n q.1 q.2) L' with
          | none => rw [e] at h'; cases h'
          | some LL =>
            rw [e] at h'
            cases h'
            refine List.all_eq_true.mpr (fun x hx => ?_)
            obtain ⟨y, y1, y2⟩ := omap_mem e hx
            have hy : ∀ q ∈ y, lob MT ow nL nω nb nf fr lc K code CT cons invs rs q = true := fun q hy => hq q (List.mem_flatten.mpr ⟨y, y1, hy⟩)
            cases z : Nat.testBit (msk invs) x.2 with
            | false =>
              rw [z, if_neg (by decide)] at y2
              unfold goAL
              rw [z, if_neg (by decide)]
              exact ih x.1 x.2 y y2 hy
            | true =>
              rw [z, if_pos rfl] at y2
              cases y2
              have h3 : goAL nb nf nω invs rs (fun _ _ => false) x.1 x.2 = true := hy (x.1, x.2, 0) (List.mem_cons_self ..)
              unfold goAL at h3 ⊢
              rw [z, if_pos rfl] at h3 ⊢
              exact h3
        unfold runL
        rw [q1]
        dsimp only
        split at h
        · cases h
        · split at h
          · rename_i L' q3
            have h2 := key L' h
            split
            · first
              | exact (‹∀ (i : Nat), _ → False› _ rfl).elim
              | (exfalso; simp_all; done)
            · split
              · rename_i L2 q4
                simp only [q4] at q3
                cases q3
                exact h2
              · rename_i q4
                simp only [q4] at q3
                rw [q3]
                exact h2
          · cases h
/-- the k-th of them -/
def pcB {α : Type} (o : Option (List α)) (f : α → Bool) (k : Nat) : Bool := match o with
  | some L => (match L[k]? with
    | some q => f q
    | none => true)
  | none => true
theorem pieces {α : Type} {o : Option (List α)} {f : α → Bool} (n : Nat) (h : (o.map List.length) = some n) (hk : ∀ k, k < n → pcB o f k = true) : ∃ L, o = some L ∧ ∀ q ∈ L, f q = true := by
  cases o with
  | none => cases h
  | some L =>
    refine ⟨L, rfl, fun q hq => ?_⟩
    obtain ⟨k, hk1⟩ := List.getElem?_of_mem hq
    have hl : L.length = n := Option.some.inj h
    have := hk k (by rw [← hl]; exact (List.getElem?_eq_some_iff.mp hk1).1)
    simpa [pcB, hk1] using this
