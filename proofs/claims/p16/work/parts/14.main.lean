/-! the walk as a whole; own -/
def retTag (ret : Option FieldType) : Nat := match ret with
  | some .int => 0
  | some .boolean => 1
  | some .byte => 1
  | some .char => 2
  | some .long => 3
  | none => 9
  | _ => 8
theorem fitR_ok {ty : FieldType} {bs : BS} {cs : CS} {σ : List Int} {ω : List Value} {ad : Nat → Nat} {av : AV} {v : Value} (hB : zB bs σ) (hC : zC cs σ) (ht : retTag (some ty) < 4) (h : fitA (retTag (some ty)) bs cs av = true) (hv : gv σ ω ad av v) : narrow ty v = v := by
  cases ty
  case int => exact (fitA_ok (ty := .int) hB hC h hv rfl).1
  case boolean => exact (fitA_ok (ty := .boolean) hB hC h hv rfl).1
  case char => exact (fitA_ok (ty := .char) hB hC h hv rfl).1
  case long => exact (fitA_ok (ty := .long) hB hC h hv rfl).1
  case byte =>
    rcases av with e | e | c | c | k
    · obtain ⟨x, rfl, hx⟩ := hv
      simp only [retTag, fitA] at h
      cases q : bnd bs cs e with
      | none => rw [q] at h; cases h
      | some b =>
        rw [q] at h
        have h' := inR_ok h
        have g := bnd_ok hB hC q hx
        rcases nar01 (x := x) (by omega) (by omega) with rfl | rfl
        · rfl
        · rfl
    · cases h
    · cases h
    · cases h
    · cases h
  all_goals exact absurd ht (by simp [retTag])
def endA (nb nf nω : Nat) (alts : List (AW × Option AV)) (a : AS) : Bool := alts.any (fun alt => match alt.2, a.2.2 with
  | none, [] => cutB nb nf nω (alt.1, [], []) a (mkCut nb nf nω (alt.1, [], []) a).1 (mkCut nb nf nω (alt.1, [], []) a).2.1
  | some r, [_] => cutB nb nf nω (alt.1, [], [r]) a (mkCut nb nf nω (alt.1, [], [r]) a).1 (mkCut nb nf nω (alt.1, [], [r]) a).2.1
  | _, _ => false)
theorem end_core {D : va_G} {cy : Nat → ClassId} {ω : List Value} {ad : Nat → Nat} {alts : List (AW × Option AV)} {a : AS} {σ σp : List Int} {φ φp : List (Nat → Int32)} {ws : va_W} {lv : List (Nat × Value)} {stk : List Value} {ls : Array Slot} {nL : Nat} {H : Heap} (h : endA σp.length φp.length ω.length alts a = true) (hG : GS cy ω ad a σ φ ws lv stk) (hl : lv_has ls nL lv) (hσ : pfx σp σ) (hφ : pfx φp φ) (hP : va_P D vwCl ws H) : (a.2.2 = [] ∧ stk = [] ∧ ConPost D cy ω ad alts σp φp none H) ∨ ∃ (x : AV) (v : Value), a.2.2 = [x] ∧ stk = [v] ∧ gx σ ω ad x v ∧ ConPost D cy ω ad alts σp φp (some v) H := by
  obtain ⟨alt, ha, h1⟩ := List.any_eq_true.mp h
  split at h1
  · rename_i q1 q2
    obtain ⟨lv', g1, g2, ⟨τ, g3⟩, ⟨ψ, g4⟩⟩ := cut_ok h1 hG hl hσ hφ
    obtain ⟨hW, hL, hT⟩ := g1
    refine Or.inl ⟨q2, ?_, alt, ha, τ, ψ, ws, ?_, ?_, hP⟩
    · have := hG.2.2
      rw [q2] at this
      cases stk with
      | nil => rfl
      | cons v r => exact this.elim
    · rw [← g3, ← g4]
      exact hW
    · rw [q1]
      rfl
  · rename_i r x q1 q2
    obtain ⟨lv', g1, g2, ⟨τ, g3⟩, ⟨ψ, g4⟩⟩ := cut_ok h1 hG hl hσ hφ
    obtain ⟨hW, hL, hT⟩ := g1
    have h3 := hG.2.2
    rw [q2] at h3
    match stk, hT, h3 with
    | [v], hT, h3 =>
      refine Or.inr ⟨x, v, q2, rfl, h3.1, alt, ha, τ, ψ, ws, ?_, ?_, hP⟩
      · rw [← g3, ← g4]
        exact hW
      · rw [q1]
        refine ⟨v, rfl, ?_⟩
        rw [← g3]
        exact hT.1
    | [], hT, h3 => exact h3.elim
    | v :: w :: r', hT, h3 => exact h3.2.elim
  · cases h1
theorem ConQ_v {P : Option Value → Heap → Prop} {A : Nat → Prop} {a : Array Value} {s t : State} (h : P none t.heap) (hF : va_F A s t) : ConQ none P A a s (.returned none) t := qv_mk h hF
theorem ConQ_l {P : Option Value → Heap → Prop} {A : Nat → Prop} {a : Array Value} {s t : State} {v : Int64} (h : P (some (.long v)) t.heap) (hF : va_F A s t) : ConQ (some .long) P A a s (.returned (some (.long v))) t := ql_mk h hF
theorem ConQ_i {ty : FieldType} {P : Option Value → Heap → Prop} {A : Nat → Prop} {a : Array Value} {s t : State} {v : Int32} (hy : ty ≠ .long) (h : P (some (.int v)) t.heap) (hF : va_F A s t) : ConQ (some ty) P A a s (.returned (some (.int v))) t := by
  cases ty <;> first | exact absurd rfl hy | exact qi_mk h hF
abbrev CTT : Type := List (Nat × Nat × Nat × Nat × Nat)
/-- frames and locals of the one called fit -/
def roomA (MT : Nat → MI) (fr lc : Nat) (con : Con) : Bool := decide (con.2.1.1 + 1 ≤ fr) && decide (8 + ((MT con.1).2.2.1 + 11) + con.2.1.2 ≤ lc)
/-- what is wanted of symbols and rows goes along with the call -/
def xpB (ow : Nat × AW) (con : Con) (M : MM) : Bool := [1, 2].all (fun t => !(xal con.1 t) || (xal ow.1 t && (match xp t con.2.2.2.2.1, xp t ow.2 with
  | some z, some z' => all2 (chkE M.1) z.1 z'.1 && all2 (fun k k' => M.2.1[k]? == some k') z.2 z'.2
  | _, _ => false)))
theorem xpB_ok {ow : Nat × AW} {con : Con} {M : MM} {σp : List Int} {φp : List (Nat → Int32)} (h : xpB ow con M = true) (hx : ∀ t ∈ [1, 2], xal ow.1 t = true → XPo t (xp t ow.2) σp φp) (σ : List Int) (φ : List (Nat → Int32)) (hσ : pfx σp σ) (hφ : pfx φp φ) : XP con (M.1.map (ev σ)) (M.2.1.map (fv φ)) := by
  intro t ht hn
  have h1 := List.all_eq_true.mp h t ht
  rw [hn] at h1
  simp only [Bool.not_true, Bool.false_or, Bool.and_eq_true] at h1
  obtain ⟨h2, h3⟩ := h1
  have hx1 := hx t ht h2
  split at h3
  · rename_i z z' q1 q2
    rw [q2] at hx1
    rw [q1]
    obtain ⟨xs, fs, g1, g2, g3⟩ := hx1
    simp only [Bool.and_eq_true] at h3
    obtain ⟨h4, h5⟩ := h3
    obtain ⟨τ, rfl⟩ := hσ
    obtain ⟨ψ, rfl⟩ := hφ
    refine ⟨xs, fs, all2_ok (R := vl σp) (S := vl (M.1.map (ev (σp ++ τ)))) (fun _ _ _ q r => chkE_ok q r.app) h4 g1, all2_ok (R := fun k f => φp[k]? = some f) (S := fun k f => (M.2.1.map (fv (φp ++ ψ)))[k]? = some f) (fun k k' f q r => ?_) h5 g2, g3⟩
    have q' : M.2.1[k]? = some k' := by simpa using q
    rw [List.getElem?_map, q']
    show some (fv (φp ++ ψ) k') = _
    unfold fv
    rw [gapp r]
    rfl
  · cases h3
/-! a cut that can't fit is passed by soon: where it tells a number, the state must tell it too (no proof rests on this) -/
def pvS (bs : BS) (x : Nat × Int) (a : AS) (y : Nat × Int) : Bool := match bs[x.1]? with
  | some b => if b.1 = b.2 then (match bnd a.1.1 a.1.2.2.1 y with
    | some c => decide (c.1 = b.1 + x.2) && decide (c.2 = b.1 + x.2)
    | none => false) else true
  | none => true
def pvV (bs : BS) (a : AS) (v w : AV) : Bool := match v with
  | .inl x => (match w with
    | .inl y => pvS bs x a y
    | _ => true)
  | .inr (.inr (.inl j)) => (match w with
    | .inr (.inr (.inl k)) => Nat.beq j k
    | _ => false)
  | _ => true
def pvVs (bs : BS) (a : AS) : List AV → List AV → Bool
  | v :: r, w :: t => match pvV bs a v w with
    | true => pvVs bs a r t
    | false => false
  | _, _ => true
def pvL (bs : BS) (a : AS) : List (Nat × AV) → Bool
  | [] => true
  | q :: r => match (match fnd q.1 a.2.1 with
      | some w => pvV bs a q.2 w
      | none => true) with
    | true => pvL bs a r
    | false => false
def pvC (bs : BS) (a : AS) (c d : AC) : Bool := match c with
  | .inl (_, fs) => (match d with
    | .inl (_, gs) => pvVs bs a fs gs
    | _ => true)
  | .inr (.inr (.inr (.inl (_, fs)))) => (match d with
    | .inr (.inr (.inr (.inl (_, gs)))) => pvVs bs a fs gs
    | _ => true)
  | _ => true
def pvCs (bs : BS) (a : AS) : List AC → List AC → Bool
  | c :: r, d :: t => match pvC bs a c d with
    | true => pvCs bs a r t
    | false => false
  | _, _ => true
def pvB (T a : AS) : Bool := match pvL T.1.1 a T.2.1 with
  | true => pvCs T.1.1 a T.1.2.2.2 a.1.2.2.2
  | false => false
/-! nor a contract -/
def pvI (bs : BS) (x : Nat × Int) (a : AS) (y : Nat × Int) : Bool := match bs[x.1]? with
  | some b => (match bnd a.1.1 a.1.2.2.1 y with
    | some c => decide (b.1 + x.2 ≤ c.1) && decide (c.2 ≤ b.2 + x.2)
    | none => false)
  | none => true
def pvIs (bs : BS) (a : AS) : List AV → List AV → Bool
  | .inl x :: r, .inl y :: t => match pvI bs x a y with
    | true => pvIs bs a r t
    | false => false
  | _ :: r, _ :: t => pvIs bs a r t
  | _, _ => true
def pvO (bs : BS) (Tcl : List AC) (a : AS) : List AV → List AV → Bool
  | t :: r, c :: q => match (match t with
      | .inl x => (match c with
        | .inl y => pvI bs x a y
        | _ => true)
      | .inr (.inr (.inl j)) => (match c with
        | .inr (.inr (.inl j')) => (match Tcl[j]? with
          | some (.inr (.inr (.inr (.inl (_, fs))))) => (match a.1.2.2.2[j']? with
            | some (.inr (.inr (.inr (.inl (_, gs))))) => pvIs bs a fs gs
            | _ => true)
          | _ => true)
        | _ => true)
      | _ => true) with
    | true => pvO bs Tcl a r q
    | false => false
  | _, _ => true
def pvA (bs : BS) (Tcl : List AC) (a : AS) : List AV → List AV → Bool
  | t :: r, c :: q => match (match t with
      | .inl x => (match c with
        | .inl y => pvI bs x a y
        | _ => true)
      | .inr (.inr (.inl j)) => (match c with
        | .inr (.inr (.inl j')) => (match Tcl[j]? with
          | some (.inl (_, fs)) => (match a.1.2.2.2[j']? with
            | some (.inl (_, gs)) => pvO bs Tcl a fs gs
            | _ => true)
          | _ => true)
        | _ => true)
      | _ => true) with
    | true => pvA bs Tcl a r q
    | false => false
  | _, _ => true
def pvK (con : Con) (n : Nat) (a : AS) : Bool := pvA con.2.2.2.2.1.1 con.2.2.2.2.1.2.2.2 a con.2.2.2.1.reverse (a.2.2.take n)
/-- the first of the known contracts that fits -/
def pick (MT : Nat → MI) (ow : Nat × AW) (nω fr lc mid n : Nat) (a : AS) : List Con → Option (List AS)
  | [] => none
  | con :: r => match Nat.beq con.1 mid && pvK con n a with
    | false => pick MT ow nω fr lc mid n a r
    | true => if con.1 == mid && roomA MT fr lc con && xpB ow con (mkCall ow con n a) then (match callA nω con n (mkCall ow con n a) a with
      | some L => some L
      | none => pick MT ow nω fr lc mid n a r) else pick MT ow nω fr lc mid n a r
theorem pick_ok {MT : Nat → MI} {ow : Nat × AW} {nω fr lc mid n : Nat} {a : AS} {L : List AS} : ∀ {cons : List Con}, pick MT ow nω fr lc mid n a cons = some L → ∃ con ∈ cons, con.1 = mid ∧ roomA MT fr lc con = true ∧ callA nω con n (mkCall ow con n a) a = some L ∧ xpB ow con (mkCall ow con n a) = true
  | [], h => by cases h
  | con :: r, h => by
    unfold pick at h
    split at h
    · obtain ⟨k, h1, h2⟩ := pick_ok h
      exact ⟨k, List.mem_cons_of_mem _ h1, h2⟩
    · by_cases c : (con.1 == mid && roomA MT fr lc con && xpB ow con (mkCall ow con n a)) = true
      · rw [if_pos c] at h
        have c' : (con.1 = mid ∧ roomA MT fr lc con = true) ∧ xpB ow con (mkCall ow con n a) = true := by simpa using c
        split at h
        · rename_i L' q
          cases h
          exact ⟨con, List.mem_cons_self .., c'.1.1, c'.1.2, q, c'.2⟩
        · obtain ⟨k, h1, h2⟩ := pick_ok h
          exact ⟨k, List.mem_cons_of_mem _ h1, h2⟩
      · rw [if_neg c] at h
        obtain ⟨k, h1, h2⟩ := pick_ok h
        exact ⟨k, List.mem_cons_of_mem _ h1, h2⟩
def msk : List Inv → Nat
  | [] => 0
  | J :: r => Nat.lor (msk r) (Nat.shiftLeft 1 J.1)
def goA (nb nf nω : Nat) (invs : List Inv) (rs : Option RK) (f : AS → Nat → Bool) (a : AS) (pc : Nat) : Bool :=
  if Nat.testBit (msk invs) pc then invs.any (fun J => Nat.beq J.1 pc && pvB J.2.1 a && ((cutQ nb nf nω J.2.1 a (geCut nb nf J.2.1 a).1 (geCut nb nf J.2.1 a).2 nb nf && goDown rs J.2.2 a.1.1 a.1.2.2.1 (geCut nb nf J.2.1 a).1) || (cutB nb nf nω J.2.1 a (mkCut nb nf nω J.2.1 a).1 (mkCut nb nf nω J.2.1 a).2.1 && goDown rs J.2.2 a.1.1 a.1.2.2.1 (mkCut nb nf nω J.2.1 a).1))) else f a pc
theorem goA_inv {nb nf nω : Nat} {invs : List Inv} {rs : Option RK} {f : AS → Nat → Bool} {a : AS} {pc : Nat} (h : goA nb nf nω invs rs f a pc = true) : (∃ J ∈ invs, J.1 = pc ∧ ∃ (μ : List (Nat × Int)) (ν : List Nat), cutB nb nf nω J.2.1 a μ ν = true ∧ goDown rs J.2.2 a.1.1 a.1.2.2.1 μ = true) ∨ f a pc = true := by
  unfold goA at h
  split at h
  · obtain ⟨J, hJ, h1⟩ := List.any_eq_true.mp h
    simp only [Bool.and_eq_true, Bool.or_eq_true] at h1
    obtain ⟨⟨h2, _⟩, h3⟩ := h1
    refine Or.inl ⟨J, hJ, Nat.eq_of_beq_eq_true h2, ?_⟩
    rcases h3 with ⟨h4, h5⟩ | ⟨h4, h5⟩
    · exact ⟨_, _, cutQ_ok h4, h5⟩
    · exact ⟨_, _, h4, h5⟩
  · exact Or.inr h
def xstA (SK : SKT) (pc len : Nat) (ins : Instr) (a : AS) : Option (List (AS × Nat)) := match ins with
  | .ldc i => one (len == 2) (ldsA SK.1 i a) (pc + 2)
  | .getstatic i => one (len == 3) (gsA SK.2.2.1 i a) (pc + 3)
  | .getfield i => one (len == 3) (gfsA SK.2.1 i a) (pc + 3)
  | .arraylength => one (len == 1) (alsA a) (pc + 1)
  | .baload => one (len == 1) (bsA a) (pc + 1)
  | .iaload => if len == 1 then (match cclA (pc + 1) a with
    | some L => some L
    | none => one true (tlA a) (pc + 1)) else none
  | .iastore => if len == 1 then (match ccsA a with
    | some b => some [(b, pc + 1)]
    | none => one true (tsA a) (pc + 1)) else none
  | .laload => one (len == 1) (nlA a) (pc + 1)
  | .lastore => one (len == 1) (nsA a) (pc + 1)
  | _ => none
def callsA (MT : Nat → MI) (ow : Nat × AW) (nω fr lc how : Nat) (CT : CTT) (cons : List Con) (idx : Nat) (a : AS) : Option (List AS) := match fnd idx CT with
  | some q => if q.1 == how then (match how with
    | 0 => if recvA (q.2.2.1 + 1) q.2.2.2 a then pick MT ow nω fr lc q.2.1 (q.2.2.1 + 1) a cons else none
    | 2 => if recvS (q.2.2.1 + 1) a then pick MT ow nω fr lc q.2.1 (q.2.2.1 + 1) a cons else none
    | _ => pick MT ow nω fr lc q.2.1 q.2.2.1 a cons) else none
  | none => none
def run (MT : Nat → MI) (ow : Nat × AW) (SK : SKT) (nL nω nb nf fr lc : Nat) (K : KT) (code : List (Nat × Instr × Nat)) (CT : CTT) (AT : List Nat) (cons : List Con) (invs : List Inv) (ret : Option FieldType) (alts : List (AW × Option AV)) (rs : Option RK) : Nat → AS → Nat → Bool
  | 0, _, _ => false
  | n + 1, a, pc => match fndP pc code with
    | none => false
    | some (ins, len) => match ins with
      | .return_ => len == 1 && retTag ret == 9 && a.2.2.isEmpty && endA nb nf nω alts a
      | .ireturn => len == 1 && decide (retTag ret < 3) && (match a.2.2 with
        | [x] => fitA (retTag ret) a.1.1 a.1.2.2.1 x
        | _ => false) && endA nb nf nω alts a
      | .lreturn => len == 1 && retTag ret == 3 && (match a.2.2 with
        | [.inr (.inl _)] => true
        | _ => false) && endA nb nf nω alts a
      | .invokevirtual i => len == 3 && (match callsA MT ow nω fr lc 0 CT cons i a with
        | some L => L.all (fun b => goA nb nf nω invs rs (run MT ow SK nL nω nb nf fr lc K code CT AT cons invs ret alts rs n) b (pc + 3))
        | none => (match callsA MT ow nω fr lc 2 CT cons i a with
          | some L => L.all (fun b => goA nb nf nω invs rs (run MT ow SK nL nω nb nf fr lc K code CT AT cons invs ret alts rs n) b (pc + 3))
          | none => false))
      | .invokestatic i => len == 3 && (if AT.contains i then (match acpA a with
          | some b => decide (1 ≤ fr) && decide (40 ≤ lc) && goA nb nf nω invs rs (run MT ow SK nL nω nb nf fr lc K code CT AT cons invs ret alts rs n) b (pc + 3)
          | none => false)
        else (match fnd i SK.2.2.2 with
          | some o => (match mthA o a with
            | some b => decide (1 ≤ fr) && decide (40 ≤ lc) && goA nb nf nω invs rs (run MT ow SK nL nω nb nf fr lc K code CT AT cons invs ret alts rs n) b (pc + 3)
            | none => false)
          | none => (match callsA MT ow nω fr lc 1 CT cons i a with
            | some L => L.all (fun b => goA nb nf nω invs rs (run MT ow SK nL nω nb nf fr lc K code CT AT cons invs ret alts rs n) b (pc + 3))
            | none => false)))
      | ins => (match xstA SK pc len ins a with
        | some L => L.all (fun q => goA nb nf nω invs rs (run MT ow SK nL nω nb nf fr lc K code CT AT cons invs ret alts rs n) q.1 q.2)
        | none => (match stepA nL K pc len ins a with
          | some L => L.all (fun q => goA nb nf nω invs rs (run MT ow SK nL nω nb nf fr lc K code CT AT cons invs ret alts rs n) q.1 q.2)
          | none => false))
def ATok (own : String) (AT : List Nat) : Prop := ∀ i ∈ AT, Cond.methodLink own i arraycopyName ∈ bigG ∧ Cond.native arraycopyName ∈ bigG ∧ Cond.static arraycopyName ∈ bigG ∧ Cond.initialized "java/lang/System" ∈ bigG
section STEV
variable {p : Program} {l : Launch} {e : Env} {R : Room} {s : State} {m : MethodId} {args : Array Value} {below : List Frame} {meth : Method} {c : Code} {cc : ByteArray} {D : va_G} {cy : Nat → ClassId} {A : Nat → Prop} {nL : Nat} {own : String} {w0 : Cond} {ω : List Value} {ad : Nat → Nat} {σ0 : List Int} {φ0 : List (Nat → Int32)} {pc : Nat} {a a' : AS}
variable {ret : Option FieldType} {alts : List (AW × Option AV)} {σp : List Int} {φp : List (Nat → Int32)}
theorem pfx.trans {α : Type} {a b c : List α} (h1 : pfx a b) (h2 : pfx b c) : pfx a c := by
  obtain ⟨u, rfl⟩ := h1
  obtain ⟨w, rfl⟩ := h2
  exact ⟨u ++ w, by rw [List.append_assoc]⟩
theorem s_vret (hX : CTX p s m args c cc nL own w0 D cy A) (hret : meth.sig.returnType = ret) (hlk : meth.locks = false) (hp : pfx σp σ0) (hpf : pfx φp φ0) (hd : decode cc pc = .ok (.return_, 1)) (ht : retTag ret = 9) (hs : a.2.2.isEmpty = true) (h : endA σp.length φp.length ω.length alts a = true) : OkA (Wq p l e R s m args below meth c (MQ below (ConQ ret (ConPost D cy ω ad alts σp φp) A) args s 0 0 A)) D cy A s.heap nL ω ad σ0 φ0 a pc := by
  intro σ φ ws lv stk H locs ls hσ hφ hG hP hD hS hl
  have q1 : pfx σp σ := pfx.trans hp hσ
  have q2 : pfx φp φ := pfx.trans hpf hφ
  have hr : ret = none := by
    cases ret with
    | none => rfl
    | some ty => cases ty <;> simp [retTag] at ht
  subst hr
  rcases end_core h hG hl q1 q2 hP with ⟨_, rfl, h2⟩ | ⟨x, v, e1, rfl, h2, h3⟩
  · exact W.vret hX.1 hX.2.1 hret (fun t ht hW => ConQ_v (by rw [ht]; exact h2) (hS.F ht)) hS.2.2 hd hlk
  · rw [e1] at hs
    cases hs
theorem s_lret (hX : CTX p s m args c cc nL own w0 D cy A) (hret : meth.sig.returnType = ret) (hlk : meth.locks = false) (hp : pfx σp σ0) (hpf : pfx φp φ0) (hd : decode cc pc = .ok (.lreturn, 1)) (ht : retTag ret = 3) (hs : ∃ ex, a.2.2 = [.inr (.inl ex)]) (h : endA σp.length φp.length ω.length alts a = true) : OkA (Wq p l e R s m args below meth c (MQ below (ConQ ret (ConPost D cy ω ad alts σp φp) A) args s 0 0 A)) D cy A s.heap nL ω ad σ0 φ0 a pc := by
  intro σ φ ws lv stk H locs ls hσ hφ hG hP hD hS hl
  have q1 : pfx σp σ := pfx.trans hp hσ
  have q2 : pfx φp φ := pfx.trans hpf hφ
  have hr : ret = some .long := by
    cases ret with
    | none => simp [retTag] at ht
    | some ty => cases ty <;> simp [retTag] at ht <;> rfl
  subst hr
  obtain ⟨ex, hs⟩ := hs
  rcases end_core h hG hl q1 q2 hP with ⟨e1, rfl, h2⟩ | ⟨x, v, e1, rfl, h2, h3⟩
  · rw [hs] at e1
    cases e1
  · rw [hs] at e1
    cases e1
    obtain ⟨z, rfl, hz⟩ := h2.1
    exact W.lret hX.1 hX.2.1 hret (fun t ht hW => ConQ_l (by rw [ht]; exact h3) (hS.F ht)) hS.2.2 hd hlk
theorem s_iret (hX : CTX p s m args c cc nL own w0 D cy A) (hret : meth.sig.returnType = ret) (hlk : meth.locks = false) (hp : pfx σp σ0) (hpf : pfx φp φ0) (hd : decode cc pc = .ok (.ireturn, 1)) (ht : retTag ret < 3) {ex : Nat × Int} (hs : a.2.2 = [.inl ex]) (hf : fitA (retTag ret) a.1.1 a.1.2.2.1 (.inl ex) = true) (h : endA σp.length φp.length ω.length alts a = true) : OkA (Wq p l e R s m args below meth c (MQ below (ConQ ret (ConPost D cy ω ad alts σp φp) A) args s 0 0 A)) D cy A s.heap nL ω ad σ0 φ0 a pc := by
  intro σ φ ws lv stk H locs ls hσ hφ hG hP hD hS hl
  have q1 : pfx σp σ := pfx.trans hp hσ
  have q2 : pfx φp φ := pfx.trans hpf hφ
  cases ret with
  | none => simp [retTag] at ht
  | some ty =>
    have hy : ty ≠ .long := by
      intro q
      subst q
      simp [retTag] at ht
    rcases end_core h hG hl q1 q2 hP with ⟨e1, rfl, h2⟩ | ⟨x, v, e1, rfl, h2, h3⟩
    · rw [hs] at e1
      cases e1
    · rw [hs] at e1
      cases e1
      obtain ⟨z, rfl, hz⟩ := id h2.1
      have hn := fitR_ok (ω := ω) (ad := ad) hG.1.1 hG.1.2.2.1 (by omega) hf h2.1
      exact W.zret hX.1 hX.2.1 hret hn (fun t ht hW => ConQ_i hy (by rw [ht]; exact h3) (hS.F ht)) hS.2.2 hd hlk
theorem rks_pfx {σ0 σ : List Int} (h : pfx σ0 σ) : ∀ {ts : List (Int × (Nat × Int))}, (∀ q ∈ ts, vl σ0 q.2 (ev σ0 q.2)) → rks σ ts = rks σ0 ts
  | [], _ => rfl
  | q :: r, hq => by
    obtain ⟨τ, rfl⟩ := h
    have h1 := (hq q (List.mem_cons_self ..)).app (τ := τ)
    simp only [rks]
    rw [ev_vl h1, rks_pfx ⟨τ, rfl⟩ (fun z hz => hq z (List.mem_cons_of_mem _ hz))]
def InvH (Wp : Heap → List Loc → Nat → Array Slot → List Value → Prop) (D : va_G) (cy : Nat → ClassId) (A : Nat → Prop) (H0 : Heap) (nL : Nat) (ω : List Value) (ad : Nat → Nat) (σp : List Int) (φp : List (Nat → Int32)) (J : Inv) (N : Option Int) : Prop := ∀ (σ : List Int) (φ : List (Nat → Int32)) (ws : va_W) (lv : List (Nat × Value)) (stk : List Value) (H : Heap) (locs : List Loc) (ls : Array Slot), pfx σp σ → pfx φp φ → GS cy ω ad J.2.1 σ φ ws lv stk → va_P D vwCl ws H → va_D A ws → va_S A H0 H locs → lv_has ls nL lv → (∀ n, N = some n → rkv σ J.2.2 < n) → Wp H locs J.1 ls stk
theorem goA_ok {Wp : Heap → List Loc → Nat → Array Slot → List Value → Prop} {H0 : Heap} {invs : List Inv} {rs : Option RK} {f : AS → Nat → Bool} {b : AS} (hp : pfx σp σ0) (hpf : pfx φp φ0) (hinv : ∀ J ∈ invs, InvH Wp D cy A H0 nL ω ad σp φp J (rs.map (rkv σ0))) (hrs : ∀ r, rs = some r → ∀ q ∈ r.2, vl σ0 q.2 (ev σ0 q.2)) (h : goA σp.length φp.length ω.length invs rs f b pc = true) (hf : f b pc = true → OkA Wp D cy A H0 nL ω ad σ0 φ0 b pc) : OkA Wp D cy A H0 nL ω ad σ0 φ0 b pc := by
  rcases goA_inv h with ⟨J, hJ, h2', μ, ν, h3, h4⟩ | h
  · intro σ φ ws lv stk H locs ls hσ hφ hG hP hD hS hl
    have q1 : pfx σp σ := pfx.trans hp hσ
    have q2 : pfx φp φ := pfx.trans hpf hφ
    obtain ⟨lv', g1, g2, g3, g4⟩ := cut_ok h3 hG hl q1 q2
    rw [← h2']
    refine hinv J hJ _ _ ws lv' stk H locs ls g3 g4 g1 hP hD hS g2 (fun n hn => ?_)
    cases rs with
    | none => cases hn
    | some r =>
      cases hn
      unfold goDown at h4
      dsimp only at h4
      split at h4
      · rename_i us q3
        split at h4
        · rename_i z q4
          have h5 : 1 ≤ r.1 - J.2.2.1 + z := by simpa using h4
          have h6 := dlt_ok hG.1.1 hG.1.2.2.1 q4
          have h7 := trR_ok (σ := σ) q3
          have h8 := rks_pfx hσ (hrs r rfl)
          unfold rkv
          rw [h7, ← h8]
          omega
        · cases h4
      · cases h4
  · exact hf h
theorem xst_ok (hX : CTX p s m args c cc nL own w0 D cy A) {Q : State → Prop} (hF : SF ad A s) {SK : SKT} (hSK : SKOK own SK) {len : Nat} {L : List (AS × Nat)} (hk : ∀ q ∈ L, OkA (Wq p l e R s m args below meth c Q) D cy A s.heap nL ω ad σ0 φ0 q.1 q.2) : ∀ (ins : Instr), xstA SK pc len ins a = some L → decode cc pc = .ok (ins, len) → OkA (Wq p l e R s m args below meth c Q) D cy A s.heap nL ω ad σ0 φ0 a pc := by
  intro ins h hd
  unfold xstA at h
  split at h
  · obtain ⟨b, a', h1, rfl⟩ := one_inv h
    have b' := eq_of_beq b
    subst b'
    exact s_lds hX hF hSK hd h1 (hk _ (List.mem_cons_self ..))
  · obtain ⟨b, a', h1, rfl⟩ := one_inv h
    have b' := eq_of_beq b
    subst b'
    exact s_gets hX hF hSK hd h1 (hk _ (List.mem_cons_self ..))
  · obtain ⟨b, a', h1, rfl⟩ := one_inv h
    have b' := eq_of_beq b
    subst b'
    exact s_gfs hX hF hSK hd h1 (hk _ (List.mem_cons_self ..))
  · obtain ⟨b, a', h1, rfl⟩ := one_inv h
    have b' := eq_of_beq b
    subst b'
    exact s_als hX hF hd h1 (hk _ (List.mem_cons_self ..))
  · obtain ⟨b, a', h1, rfl⟩ := one_inv h
    have b' := eq_of_beq b
    subst b'
    exact s_bs hX hF hd h1 (hk _ (List.mem_cons_self ..))
  · by_cases b : (len == 1) = true
    · rw [if_pos b] at h
      have b' := eq_of_beq b
      subst b'
      split at h
      · rename_i L' h1
        cases h
        exact s_ccl hX hd h1 hk
      · obtain ⟨_, a', h1, rfl⟩ := one_inv h
        exact s_tl hX hd h1 (hk _ (List.mem_cons_self ..))
    · rw [if_neg b] at h
      cases h
  · by_cases b : (len == 1) = true
    · rw [if_pos b] at h
      have b' := eq_of_beq b
      subst b'
      split at h
      · rename_i b1 h1
        cases h
        exact s_ccs hX hd h1 (hk _ (List.mem_cons_self ..))
      · obtain ⟨_, a', h1, rfl⟩ := one_inv h
        exact s_ts hX hd h1 (hk _ (List.mem_cons_self ..))
    · rw [if_neg b] at h
      cases h
  · obtain ⟨b, a', h1, rfl⟩ := one_inv h
    have b' := eq_of_beq b
    subst b'
    exact s_nl hX hd h1 (hk _ (List.mem_cons_self ..))
  · obtain ⟨b, a', h1, rfl⟩ := one_inv h
    have b' := eq_of_beq b
    subst b'
    exact s_ns hX hd h1 (hk _ (List.mem_cons_self ..))
  · cases h
theorem run_ok (hX : CTX p s m args c cc nL own w0 D cy A) (hF : SF ad A s) {ow : Nat × AW} (hxo : ∀ t ∈ [1, 2], xal ow.1 t = true → XPo t (xp t ow.2) σp φp) {SK : SKT} (hSK : SKOK own SK) {MT : Nat → MI} {fr lc : Nat} {K : KT} {code : List (Nat × Instr × Nat)} {CT : CTT} {AT : List Nat} {cons : List Con} {invs : List Inv} {rs : Option RK} (hK : KOK own K) (hcode : ∀ q ∈ code, decode cc q.1 = .ok (q.2.1, q.2.2)) (hCT : ∀ q ∈ CT, COK MT own q) (hAT : ATok own AT) (hcons : ∀ con ∈ cons, ConOK MT l con) (hR : fr ≤ R.frames ∧ lc ≤ R.locals) (hret : meth.sig.returnType = ret) (hlk : meth.locks = false) (hp : pfx σp σ0) (hpf : pfx φp φ0)
    (hinv : ∀ J ∈ invs, InvH (Wq p l e R s m args below meth c (MQ below (ConQ ret (ConPost D cy ω ad alts σp φp) A) args s 0 0 A)) D cy A s.heap nL ω ad σp φp J (rs.map (rkv σ0))) (hrs : ∀ r, rs = some r → ∀ q ∈ r.2, vl σ0 q.2 (ev σ0 q.2)) :
    ∀ (n : Nat) (a : AS) (pc : Nat), run MT ow SK nL ω.length σp.length φp.length fr lc K code CT AT cons invs ret alts rs n a pc = true → OkA (Wq p l e R s m args below meth c (MQ below (ConQ ret (ConPost D cy ω ad alts σp φp) A) args s 0 0 A)) D cy A s.heap nL ω ad σ0 φ0 a pc := by
  intro n
  induction n with
  | zero => intro a pc h; cases h
  | succ n ih =>
    intro a pc h
    have go : ∀ (b : AS) (k : Nat), goA σp.length φp.length ω.length invs rs (run MT ow SK nL ω.length σp.length φp.length fr lc K code CT AT cons invs ret alts rs n) b k = true → OkA (Wq p l e R s m args below meth c (MQ below (ConQ ret (ConPost D cy ω ad alts σp φp) A) args s 0 0 A)) D cy A s.heap nL ω ad σ0 φ0 b k := fun b k hb => goA_ok hp hpf hinv hrs hb (ih b k)
    unfold run at h
    split at h
    · cases h
    · rename_i ins len q1
      have hd := hcode _ (fndP_ok q1)
      dsimp only at hd
      split at h
      · simp only [Bool.and_eq_true] at h
        obtain ⟨⟨⟨h1, h2⟩, h3⟩, h4⟩ := h
        have h1' : len = 1 := by simpa using h1
        subst h1'
        exact s_vret hX hret hlk hp hpf hd (by simpa using h2) h3 h4
      · simp only [Bool.and_eq_true] at h
        obtain ⟨⟨⟨h1, h2⟩, h3⟩, h4⟩ := h
        have h1' : len = 1 := by simpa using h1
        subst h1'
        have h2' : retTag ret < 3 := by simpa using h2
        split at h3
        · rename_i x q2
          rcases x with ex | x
          · exact s_iret hX hret hlk hp hpf hd h2' q2 h3 h4
          · rcases x with ex | x | x | x
            · have : retTag ret = 3 := by simpa [fitA] using h3
              omega
            · have : retTag ret = 4 := by simpa [fitA] using h3
              omega
            · cases h3
            · cases h3
        · cases h3
      · simp only [Bool.and_eq_true] at h
        obtain ⟨⟨⟨h1, h2⟩, h3⟩, h4⟩ := h
        have h1' : len = 1 := by simpa using h1
        subst h1'
        split at h3
        · rename_i ex q2
          exact s_lret hX hret hlk hp hpf hd (by simpa using h2) ⟨ex, q2⟩ h4
        · cases h3
      · rename_i i
        simp only [Bool.and_eq_true] at h
        obtain ⟨h1, h2⟩ := h
        have h1' : len = 3 := by simpa using h1
        subst h1'
        split at h2
        · rename_i L q2
          have h3 := List.all_eq_true.mp h2
          unfold callsA at q2
          split at q2
          · rename_i q q3
            by_cases c1 : (q.1 == 0) = true
            · rw [if_pos c1] at q2
              have c1' : q.1 = 0 := by simpa using c1
              by_cases c2 : recvA (q.2.2.1 + 1) q.2.2.2 a = true
              · rw [if_pos c2] at q2
                obtain ⟨con, k1, k2, k3, k4, k5⟩ := pick_ok q2
                have k3' : con.2.1.1 + 1 ≤ fr ∧ 8 + ((MT con.1).2.2.1 + 11) + con.2.1.2 ≤ lc := by simpa [roomA] using k3
                exact s_callV (q := (i, q)) hX hF (hcons con k1) (fun σ φ a1 a2 => xpB_ok k5 hxo σ φ (pfx.trans hp a1) (pfx.trans hpf a2)) (hCT _ (fnd_ok q3)) k2 c1' ⟨Nat.le_trans k3'.1 hR.1, Nat.le_trans k3'.2 hR.2⟩ hd c2 k4 (fun b hb => go b (pc + 3) (h3 b hb))
              · rw [if_neg c2] at q2
                cases q2
            · rw [if_neg c1] at q2
              cases q2
          · cases q2
        · split at h2
          · rename_i L q2
            have h3 := List.all_eq_true.mp h2
            unfold callsA at q2
            split at q2
            · rename_i q q3
              by_cases c1 : (q.1 == 2) = true
              · rw [if_pos c1] at q2
                have c1' : q.1 = 2 := by simpa using c1
                by_cases c2 : recvS (q.2.2.1 + 1) a = true
                · rw [if_pos c2] at q2
                  obtain ⟨con, k1, k2, k3, k4, k5⟩ := pick_ok q2
                  have k3' : con.2.1.1 + 1 ≤ fr ∧ 8 + ((MT con.1).2.2.1 + 11) + con.2.1.2 ≤ lc := by simpa [roomA] using k3
                  exact s_callT (q := (i, q)) hX hF (hcons con k1) (fun σ φ a1 a2 => xpB_ok k5 hxo σ φ (pfx.trans hp a1) (pfx.trans hpf a2)) (hCT _ (fnd_ok q3)) k2 c1' ⟨Nat.le_trans k3'.1 hR.1, Nat.le_trans k3'.2 hR.2⟩ hd c2 k4 (fun b hb => go b (pc + 3) (h3 b hb))
                · rw [if_neg c2] at q2
                  cases q2
              · rw [if_neg c1] at q2
                cases q2
            · cases q2
          · cases h2
      · rename_i i
        simp only [Bool.and_eq_true] at h
        obtain ⟨h1, h2⟩ := h
        have h1' : len = 3 := by simpa using h1
        subst h1'
        by_cases ca : AT.contains i = true
        · rw [if_pos ca] at h2
          split at h2
          · rename_i b q2
            simp only [Bool.and_eq_true, decide_eq_true_eq] at h2
            obtain ⟨⟨h4, h5⟩, h6⟩ := h2
            obtain ⟨a1, a2, a3, a4⟩ := hAT i (by simpa using ca)
            exact s_acopy hX ⟨Nat.le_trans h4 hR.1, Nat.le_trans h5 hR.2⟩ a1 a2 a3 a4 hd q2 (go b (pc + 3) h6)
          · cases h2
        · rw [if_neg ca] at h2
          split at h2
          · rename_i o q0
            split at h2
            · rename_i b q2
              simp only [Bool.and_eq_true, decide_eq_true_eq] at h2
              obtain ⟨⟨h4, h5⟩, h6⟩ := h2
              exact s_mth hX hSK ⟨Nat.le_trans h4 hR.1, Nat.le_trans h5 hR.2⟩ hd q0 q2 (go b (pc + 3) h6)
            · cases h2
          · split at h2
            · rename_i L q2
              have h3 := List.all_eq_true.mp h2
              unfold callsA at q2
              split at q2
              · rename_i q q3
                by_cases c1 : (q.1 == 1) = true
                · rw [if_pos c1] at q2
                  have c1' : q.1 = 1 := by simpa using c1
                  obtain ⟨con, k1, k2, k3, k4, k5⟩ := pick_ok q2
                  have k3' : con.2.1.1 + 1 ≤ fr ∧ 8 + ((MT con.1).2.2.1 + 11) + con.2.1.2 ≤ lc := by simpa [roomA] using k3
                  exact s_callS (q := (i, q)) hX hF (hcons con k1) (fun σ φ a1 a2 => xpB_ok k5 hxo σ φ (pfx.trans hp a1) (pfx.trans hpf a2)) (hCT _ (fnd_ok q3)) k2 c1' ⟨Nat.le_trans k3'.1 hR.1, Nat.le_trans k3'.2 hR.2⟩ hd k4 (fun b hb => go b (pc + 3) (h3 b hb))
                · rw [if_neg c1] at q2
                  cases q2
              · cases q2
            · cases h2
      · split at h
        · rename_i L q2
          have h3 := List.all_eq_true.mp h
          exact xst_ok hX hF hSK (fun q hq => go q.1 q.2 (h3 q hq)) _ q2 hd
        · split at h
          · rename_i L q2
            have h3 := List.all_eq_true.mp h
            exact step_ok hX hK (fun q hq => go q.1 q.2 (h3 q hq)) _ q2 hd
          · cases h
end STEV
def laA : Nat → List AV → List (Nat × AV)
  | _, [] => []
  | i, a :: r => (i, a) :: laA (if c2 a then i + 2 else i + 1) r
theorem laA_ok {σ : List Int} {ω : List Value} {ad : Nat → Nat} : ∀ {as : List AV} {vs : List Value} {i : Nat}, P2 (gx σ ω ad) as vs → P2 (lr σ ω ad) (laA i as) (lv_args i vs)
  | [], [], _, _ => trivial
  | a :: as, v :: vs, i, h => by
    have e1 : (if v.category = 2 then i + 2 else i + 1) = (if c2 a then i + 2 else i + 1) := by
      have h2 := h.1.2
      cases e : c2 a with
      | true => rw [if_pos (cat2 h2 e), if_pos rfl]
      | false => rw [if_neg (by rw [cat1 h2 e]; decide), if_neg (by decide)]
    show lr σ ω ad (i, a) (i, v) ∧ P2 (lr σ ω ad) _ (lv_args (if v.category = 2 then i + 2 else i + 1) vs)
    rw [e1]
    exact ⟨⟨rfl, h.1⟩, laA_ok h.2⟩
  | [], _ :: _, _, h => h.elim
  | _ :: _, [], _, h => h.elim
theorem sl_len {σ : List Int} {ω : List Value} {ad : Nat → Nat} : ∀ {as : List AV} {vs : List Value}, P2 (gx σ ω ad) as vs → (lg_sl vs).length = catS as
  | [], [], _ => rfl
  | a :: as, v :: vs, h => by
    have h1 := sl_len h.2
    have h2 := h.1.2
    show (List.flatMap _ (v :: vs)).length = _
    rw [List.flatMap_cons, List.length_append]
    show _ + (lg_sl vs).length = _
    rw [h1]
    simp only [catS]
    cases e : c2 a with
    | true => rw [if_pos (cat2 h2 e)]; rfl
    | false => rw [if_neg (by rw [cat1 h2 e]; decide)]; rfl
  | [], _ :: _, h => h.elim
  | _ :: _, [], h => h.elim
/-- the check of a method: from its begin, and from every cut -/
def chkM (MT : Nat → MI) (con : Con) (SK : SKT) (K : KT) (code : List (Nat × Instr × Nat)) (CT : CTT) (AT : List Nat) (cons : List Con) (invs : List Inv) (fuel : Nat) : Bool :=
  decide (catS con.2.2.2.1 ≤ (MT con.1).2.2.1) &&
  run MT (con.1, con.2.2.2.2.1) SK (MT con.1).2.2.1 con.2.2.1 con.2.2.2.2.1.1.length con.2.2.2.2.1.2.1.length con.2.1.1 con.2.1.2 K code CT AT cons invs (MT con.1).2.2.2 con.2.2.2.2.2 none fuel (con.2.2.2.2.1, laA 0 con.2.2.2.1, []) 0 &&
  invs.all (fun I => (match rkLo I.2.1.1.1 I.2.1.1.2.2.1 I.2.2.2 with
    | some z => decide (0 ≤ I.2.2.1 + z)
    | none => false) && run MT (con.1, con.2.2.2.2.1) SK (MT con.1).2.2.1 con.2.2.1 con.2.2.2.2.1.1.length con.2.2.2.2.1.2.1.length con.2.1.1 con.2.1.2 K code CT AT cons invs (MT con.1).2.2.2 con.2.2.2.2.2 (some I.2.2) fuel I.2.1 I.1)
theorem con_ok {MT : Nat → MI} {l : Launch} {con : Con} {SK : SKT} {K : KT} {code : List (Nat × Instr × Nat)} {CT : CTT} {AT : List Nat} {cons : List Con} {invs : List Inv} {fuel : Nat} (hy : plainName (MT con.1).1.cls = true) (hSK : SKOK (MT con.1).1.cls SK) (hK : KOK (MT con.1).1.cls K) (hcode : ∀ q ∈ code, decode (MT con.1).2.1 q.1 = .ok (q.2.1, q.2.2)) (hCT : ∀ q ∈ CT, COK MT (MT con.1).1.cls q) (hAT : ATok (MT con.1).1.cls AT) (hcons : ∀ k ∈ cons, ConOK MT l k) (h : chkM MT con SK K code CT AT cons invs fuel = true) : ConOK MT l con := by
  simp only [chkM, Bool.and_eq_true, decide_eq_true_eq] at h
  obtain ⟨⟨h1, h2⟩, h3⟩ := h
  intro D cy ω ad σp φp av ws sz hpre
  obtain ⟨hW, hAv, hω, hxp⟩ := hpre
  refine Met.ofW (cc := (MT con.1).2.1) (maxL := (MT con.1).2.2.1) (ret := (MT con.1).2.2.2) hy rfl ?_
  intro p e s m args below meth c s₁ B hml hv
  obtain ⟨⟨rfl, hsz, hP, hG, hD0⟩, hF⟩ := hv
  have hts := atoms_spec (ws := Cond.code (MT con.1).1 (MT con.1).2.1 (MT con.1).2.2.1 (MT con.1).2.2.2 :: bigG) B.pre
  have hown : s.vm.findClass (MT con.1).1.cls = some m.cls := findClass_of_methodNamed B.named
  subst hsz
  have hxo : ∀ t ∈ [1, 2], xal (con.1, con.2.2.2.2.1).1 t = true → XPo t (xp t (con.1, con.2.2.2.2.1).2) σp φp := hxp
  have hD := hD0.self (sz := s.heap.size)
  have hA : ∀ q : Nat, s.heap.size ≤ q → va_A ws s.heap.size q := fun q hq => Or.inr hq
  have hX : CTX p s m av.toArray c (MT con.1).2.1 (MT con.1).2.2.1 (MT con.1).1.cls (Cond.code (MT con.1).1 (MT con.1).2.1 (MT con.1).2.2.1 (MT con.1).2.2.2) D cy (va_A ws s.heap.size) := ⟨B.exec, B.bytes, hml, hown, hts, hG, hA⟩
  have hlb : con.2.2.2.2.1.1.length = σp.length := P2.len hW.1
  have hlf : con.2.2.2.2.1.2.1.length = φp.length := P2.len hW.2.1
  rw [hlb, hlf, ← hω] at h2 h3
  have h3' := List.all_eq_true.mp h3
  have key : ∀ (N : Nat) (I : Inv), I ∈ invs → InvH (Wq p l e (headSpec (Cond.code (MT con.1).1 (MT con.1).2.1 (MT con.1).2.2.1 (MT con.1).2.2.2 :: bigG) ({ frames := con.2.1.1, cells := 0, slots := 0, locals := con.2.1.2 })).room s m av.toArray below meth c (MQ below (ConQ (MT con.1).2.2.2 (ConPost D cy ω ad con.2.2.2.2.2 σp φp) (va_A ws s.heap.size)) av.toArray s 0 0 (va_A ws s.heap.size))) D cy (va_A ws s.heap.size) s.heap (MT con.1).2.2.1 ω ad σp φp I (some (N : Int)) := by
    intro N
    induction N with
    | zero =>
      intro I hI σ φ ws' lv stk H locs ls hσ hφ hGs hP' hD' hS hl hn
      have h4 := h3' I hI
      simp only [Bool.and_eq_true] at h4
      obtain ⟨h5, h6⟩ := h4
      exfalso
      have h7 := hn _ rfl
      cases q : rkLo I.2.1.1.1 I.2.1.1.2.2.1 I.2.2.2 with
      | none => rw [q] at h5; cases h5
      | some z =>
        rw [q] at h5
        have h8 : 0 ≤ I.2.2.1 + z := by simpa using h5
        have h9 := (rkLo_ok hGs.1.1 hGs.1.2.2.1 q).1
        unfold rkv at h7
        simp only [Int.ofNat_zero] at h7
        omega
    | succ N ih =>
      intro I hI σ φ ws' lv stk H locs ls hσ hφ hGs hP' hD' hS hl hn
      have h4 := h3' I hI
      simp only [Bool.and_eq_true] at h4
      obtain ⟨h5, h6⟩ := h4
      have h7 := hn _ rfl
      cases q : rkLo I.2.1.1.1 I.2.1.1.2.2.1 I.2.2.2 with
      | none => rw [q] at h5; cases h5
      | some z =>
        have h9 := (rkLo_ok hGs.1.1 hGs.1.2.2.1 q).2
        refine run_ok (σ0 := σ) (φ0 := φ) hX hF hxo hSK hK hcode hCT hAT hcons ⟨Nat.le_refl _, Nat.le_refl _⟩ B.returns B.notSynchronized hσ hφ (fun J hJ => ?_) (fun r hr => by cases hr; exact h9) fuel I.2.1 I.1 h6 σ φ ws' lv stk H locs ls ⟨[], by simp⟩ ⟨[], by simp⟩ hGs hP' hD' hS hl
        intro σ' φ' ws'' lv' stk' H' locs' ls' a1 a2 a3 a4 a5 a6 a7 a8
        refine ih J hJ σ' φ' ws'' lv' stk' H' locs' ls' a1 a2 a3 a4 a5 a6 a7 (fun n hn' => ?_)
        cases hn'
        have := a8 _ rfl
        have h10 : ((N + 1 : Nat) : Int) = (N : Int) + 1 := by omega
        omega
  have hl := lv_entry av (n := (MT con.1).2.2.1) (by rw [sl_len hAv]; exact h1)
  rw [lg_entry_eq]
  refine run_ok (σ0 := σp) (φ0 := φp) hX hF hxo hSK hK hcode hCT hAT hcons ⟨Nat.le_refl _, Nat.le_refl _⟩ B.returns B.notSynchronized ⟨[], by simp⟩ ⟨[], by simp⟩ (fun J hJ => ?_) (fun r hr => by cases hr) fuel (con.2.2.2.2.1, laA 0 con.2.2.2.1, []) 0 h2 σp φp ws _ [] s.heap [] _ ⟨[], by simp⟩ ⟨[], by simp⟩ ⟨hW, laA_ok hAv, trivial⟩ hP hD va_S.rf hl
  intro σ' φ' ws'' lv' stk' H' locs' ls' a1 a2 a3 a4 a5 a6 a7 a8
  exact key ((rkv σ' J.2.2).toNat + 1) J hJ σ' φ' ws'' lv' stk' H' locs' ls' a1 a2 a3 a4 a5 a6 a7 (fun n hn' => by cases hn'; omega)
