/-! String constants, and Math, in the abstract walk; own -/
abbrev Lit : Type := String × Nat × String × List Int32
def lits : List Lit := [("TableTurns", 277, "no such bites or loss", [110, 111, 32, 115, 117, 99, 104, 32, 98, 105, 116, 101, 115, 32, 111, 114, 32, 108, 111, 115, 115]),
  ("TableTurns", 285, "no such rest", [110, 111, 32, 115, 117, 99, 104, 32, 114, 101, 115, 116]),
  ("TableTurns$CommuneReader", 38, "person", [112, 101, 114, 115, 111, 110]),
  ("TableTurns$CommuneReader", 48, "dish", [100, 105, 115, 104]),
  ("TableTurns$CommuneReader", 53, "cup", [99, 117, 112]),
  ("TableTurns$CommuneReader", 58, "sick", [115, 105, 99, 107]),
  ("TableTurns$CommuneReader", 63, "store", [115, 116, 111, 114, 101]),
  ("TableTurns$CommuneReader", 68, "rest", [114, 101, 115, 116]),
  ("TableTurns$CommuneReader", 73, "share", [115, 104, 97, 114, 101]),
  ("TableTurns$CommuneReader", 100, "hungry", [104, 117, 110, 103, 114, 121]),
  ("TableTurns$CommuneReader", 113, "taste", [116, 97, 115, 116, 101]),
  ("TableTurns$CommuneReader", 117, "votes", [118, 111, 116, 101, 115]),
  ("TableTurns$CommuneReader", 135, "plain", [112, 108, 97, 105, 110]),
  ("TableTurns$CommuneReader", 139, "greedy", [103, 114, 101, 101, 100, 121]),
  ("TableTurns$CommuneReader", 141, "loved", [108, 111, 118, 101, 100]),
  ("TableTurns$CommuneReader", 143, "old", [111, 108, 100]),
  ("TableTurns$CommuneReader", 151, "bites", [98, 105, 116, 101, 115]),
  ("TableTurns$CommuneReader", 155, "salt", [115, 97, 108, 116]),
  ("TableTurns$CommuneReader", 159, "cost", [99, 111, 115, 116]),
  ("TableTurns$CommuneReader", 173, "from", [102, 114, 111, 109]),
  ("TableTurns$CommuneReader", 175, "to", [116, 111]),
  ("TableTurns$Law", 79, "not", [110, 111, 116]),
  ("TableTurns$Law", 85, "mouthful", [109, 111, 117, 116, 104, 102, 117, 108]),
  ("TableTurns$Law", 87, "off", [111, 102, 102]),
  ("TableTurns$Law", 89, "seats", [115, 101, 97, 116, 115]),
  ("TableTurns$Law", 91, "slowly", [115, 108, 111, 119, 108, 121]),
  ("TableTurns$Law", 93, "own", [111, 119, 110]),
  ("TableTurns$Law", 95, "and", [97, 110, 100]),
  ("TableTurns$Law", 97, "or", [111, 114]),
  ("TableTurns$Tape", 60, "()<=+-*;", [40, 41, 60, 61, 43, 45, 42, 59]),
  ("TableTurns$Tape", 81, "person hungry taste votes dish bites salt cost cup sick from to store rest share eat abroad none slow fast plain greedy loved old not and or ", [112, 101, 114, 115, 111, 110, 32, 104, 117, 110, 103, 114, 121, 32, 116, 97, 115, 116, 101, 32, 118, 111, 116, 101, 115, 32, 100, 105, 115, 104, 32, 98, 105, 116, 101, 115, 32, 115, 97, 108, 116, 32, 99, 111, 115, 116, 32, 99, 117, 112, 32, 115, 105, 99, 107, 32, 102, 114, 111, 109, 32, 116, 111, 32, 115, 116, 111, 114, 101, 32, 114, 101, 115, 116, 32, 115, 104, 97, 114, 101, 32, 101, 97, 116, 32, 97, 98, 114, 111, 97, 100, 32, 110, 111, 110, 101, 32, 115, 108, 111, 119, 32, 102, 97, 115, 116, 32, 112, 108, 97, 105, 110, 32, 103, 114, 101, 101, 100, 121, 32, 108, 111, 118, 101, 100, 32, 111, 108, 100, 32, 110, 111, 116, 32, 97, 110, 100, 32, 111, 114, 32]),
  ("TableTurns$Weeks", 50, "eat", [101, 97, 116]),
  ("TableTurns$Weeks", 56, "abroad", [97, 98, 114, 111, 97, 100]),
  ("TableTurns$Weeks", 58, "none", [110, 111, 110, 101]),
  ("TableTurns$Weeks", 91, "slow", [115, 108, 111, 119]),
  ("TableTurns$Weeks", 93, "fast", [102, 97, 115, 116])]
theorem lits_b : lits.all (fun q => q.2.2.2.all (fun b => decide (0 ≤ b.toInt) && decide (b.toInt ≤ 127))) = true := by decide +kernel
def strN : String := "java/lang/String"
def preN : String := "jdk/internal/util/Preconditions"
def biD : String := "Ljava/util/function/BiFunction;"
def SFi (ad : Nat → Nat) (A : Nat → Prop) (U : State) (i : Nat) (q : Lit) : Prop := vk_R q.1 q.2.1 q.2.2.1 (ad (10000 + i)) U ∧ va_O strN (ad (10000 + i)) A U U.heap ∧ va_OF strN "coder" "B" (.int 0) (ad (10000 + i)) A U U.heap ∧ va_OF strN "value" "[B" (.ref (ad (20000 + i))) (ad (10000 + i)) A U U.heap ∧ va_T .byte (ad (20000 + i)) q.2.2.2.length (fun j => .int (q.2.2.2.getD j 0)) A U U.heap
def SF (ad : Nat → Nat) (A : Nat → Prop) (U : State) : Prop := (∀ (i : Nat) (q : Lit), lits[i]? = some q → SFi ad A U i q) ∧ va_Z strN "COMPACT_STRINGS" "Z" (.int 1) A U U.heap ∧ ∃ v : Value, va_Z preN "SIOOBE_FORMATTER" biD v A U U.heap ∧ v.category = 1
theorem SF_call {ad : Nat → Nat} {A : Nat → Prop} {U : State} {g : JFrame} {mk : MethodId} {a : Array Value} (h : SF ad A U) : SF ad A (U.calling g mk a) := by
  obtain ⟨h1, h2, h3⟩ := h
  refine ⟨fun i q hq => ?_, va_Z.moved (u := U) (U := U.calling g mk a) (Vm.Alike.refl U.vm) h2, h3.imp (fun v h => ⟨va_Z.moved (u := U) (U := U.calling g mk a) (Vm.Alike.refl U.vm) h.1, h.2⟩)⟩
  obtain ⟨k1, k2, k3, k4, k5⟩ := h1 i q hq
  exact ⟨vk_R.same rfl k1, va_O.moved (u := U) (U := U.calling g mk a) (Vm.Alike.refl U.vm) k2, va_OF.moved (u := U) (U := U.calling g mk a) (Vm.Alike.refl U.vm) k3, va_OF.moved (u := U) (U := U.calling g mk a) (Vm.Alike.refl U.vm) k4, va_T.moved (u := U) (U := U.calling g mk a) (Vm.Alike.refl U.vm) k5⟩
theorem SF_go {ad ad' : Nat → Nat} {A B : Nat → Prop} {s : State} {H : Heap} {locs : List Loc} (h : SF ad A s) (hS : va_S A s.heap H locs) (hF : ∀ q, B q → A q) (ha : ∀ i, 10000 ≤ i → ad' i = ad i) : ∀ U : State, U.heap = H → s.WarmedH U.vm → SF ad' B U := by
  intro U hU hW
  obtain ⟨h1, h2, h3⟩ := h
  refine ⟨fun i q hq => ?_, ?_, ?_⟩
  · obtain ⟨k1, k2, k3, k4, k5⟩ := h1 i q hq
    unfold SFi
    rw [ha (10000 + i) (by omega), ha (20000 + i) (by omega), hU]
    exact ⟨vk_R.warm hW k1, (va_O.moved hW.alike (k2.kept hS.2.1)).narrow hF, (va_OF.moved hW.alike (k3.kept hS.2.1)).narrow hF, (va_OF.moved hW.alike (k4.kept hS.2.1)).narrow hF, (va_T.moved hW.alike (k5.kept hS.2.1)).narrow hF⟩
  · rw [hU]
    exact (va_Z.moved hW.alike (h2.kept hS.2.1)).narrow hF
  · rw [hU]
    exact h3.imp (fun v h => ⟨(va_Z.moved hW.alike (h.1.kept hS.2.1)).narrow hF, h.2⟩)
/-- pool numbers of a kind: texts; String's fields (0 value, 1 coder); statics (0 COMPACT_STRINGS, 1 the formatter); Math (0 max, 1 min, 2 abs) -/
abbrev SKT : Type := List (Nat × Nat) × List (Nat × Nat) × List (Nat × Nat) × List (Nat × Nat)
def SKOK (own : String) (K : SKT) : Prop := (∀ q ∈ K.1, ∃ z : Lit, lits[q.2]? = some z ∧ z.1 = own ∧ z.2.1 = q.1) ∧
  (∀ q ∈ K.2.1, match q.2 with
    | 0 => Cond.fieldLink own q.1 strN "value" "[B" ∈ bigG
    | _ => Cond.fieldLink own q.1 strN "coder" "B" ∈ bigG) ∧
  (∀ q ∈ K.2.2.1, match q.2 with
    | 0 => Cond.fieldLink own q.1 strN "COMPACT_STRINGS" "Z" ∈ bigG
    | _ => Cond.fieldLink own q.1 preN "SIOOBE_FORMATTER" biD ∈ bigG) ∧
  (∀ q ∈ K.2.2.2, match q.2 with
    | 0 => Cond.methodLink own q.1 Lib.Math.max.name ∈ bigG ∧ Cond.static Lib.Math.max.name ∈ bigG ∧ Cond.initialized "java/lang/Math" ∈ bigG ∧ Cond.code Lib.Math.max.name Lib.Math.max.code 2 (some .int) ∈ bigG
    | 1 => Cond.methodLink own q.1 Lib.Math.min.name ∈ bigG ∧ Cond.static Lib.Math.min.name ∈ bigG ∧ Cond.initialized "java/lang/Math" ∈ bigG ∧ Cond.code Lib.Math.min.name Lib.Math.min.code 2 (some .int) ∈ bigG
    | _ => Cond.methodLink own q.1 Lib.Math.abs.name ∈ bigG ∧ Cond.static Lib.Math.abs.name ∈ bigG ∧ Cond.initialized "java/lang/Math" ∈ bigG ∧ Cond.code Lib.Math.abs.name Lib.Math.abs.code 1 (some .int) ∈ bigG)
def catS : List AV → Nat
  | [] => 0
  | a :: r => (if c2 a then 2 else 1) + catS r
theorem catS_ok {σ : List Int} {ω : List Value} {ad : Nat → Nat} : ∀ {as : List AV} {vs : List Value}, P2 (gx σ ω ad) as vs → (vs.map fun v => v.category).sum = catS as
  | [], [], _ => rfl
  | a :: as, v :: vs, h => by
    have h1 := catS_ok h.2
    have h2 := h.1.2
    simp only [List.map_cons, List.sum_cons, catS]
    rw [h1]
    cases e : c2 a with
    | true => rw [cat2 h2 e]; rfl
    | false => rw [cat1 h2 e]; rfl
  | [], _ :: _, h => h.elim
  | _ :: _, [], h => h.elim
section XST
variable {p : Program} {l : Launch} {e : Env} {R : Room} {s : State} {m : MethodId} {args : Array Value} {below : List Frame} {meth : Method} {c : Code} {Q : State → Prop} {cc : ByteArray} {D : va_G} {cy : Nat → ClassId} {A : Nat → Prop} {nL : Nat} {own : String} {w0 : Cond} {ω : List Value} {ad : Nat → Nat} {σ0 : List Int} {φ0 : List (Nat → Int32)} {pc : Nat} {a a' : AS}
def psh (x : AV) (a : AS) : AS := (a.1, a.2.1, x :: a.2.2)
def ldsA (K : List (Nat × Nat)) (i : Nat) (a : AS) : Option AS := match fnd i K with
  | some k => some (psh (.inr (.inr (.inl (10000 + k)))) a)
  | none => none
theorem s_lds (hX : CTX p s m args c cc nL own w0 D cy A) (hF : SF ad A s) {K : SKT} (hK : SKOK own K) {i : Nat} (hd : decode cc pc = .ok (.ldc i, 2)) (h : ldsA K.1 i a = some a') (hk : OkA (Wq p l e R s m args below meth c Q) D cy A s.heap nL ω ad σ0 φ0 a' (pc + 2)) : OkA (Wq p l e R s m args below meth c Q) D cy A s.heap nL ω ad σ0 φ0 a pc := by
  intro σ φ ws lv stk H locs ls hσ hφ hG hP hD hS hl
  obtain ⟨hx, hb, hml, hown, hts, hK0, hA⟩ := hX
  unfold ldsA at h
  split at h
  · rename_i k q1
    cases h
    obtain ⟨z, z1, z2, z3⟩ := hK.1 _ (fnd_ok q1)
    have hz := (hF.1 k z z1).1
    rw [z2, z3] at hz
    exact va_ldcS hx hb hown hz hd (hk σ φ ws lv _ H locs ls hσ hφ ⟨hG.1, hG.2.1, ⟨rfl, rfl⟩, hG.2.2⟩ hP hD hS hl)
  · cases h
def gsA (K : List (Nat × Nat)) (i : Nat) (a : AS) : Option AS := match fnd i K with
  | some 0 => some (kA 1 a)
  | some _ => some (psh vn a)
  | none => none
theorem s_gets (hX : CTX p s m args c cc nL own w0 D cy A) (hF : SF ad A s) {K : SKT} (hK : SKOK own K) {i : Nat} (hd : decode cc pc = .ok (.getstatic i, 3)) (h : gsA K.2.2.1 i a = some a') (hk : OkA (Wq p l e R s m args below meth c Q) D cy A s.heap nL ω ad σ0 φ0 a' (pc + 3)) : OkA (Wq p l e R s m args below meth c Q) D cy A s.heap nL ω ad σ0 φ0 a pc := by
  intro σ φ ws lv stk H locs ls hσ hφ hG hP hD hS hl
  obtain ⟨hx, hb, hml, hown, hts, hK0, hA⟩ := hX
  unfold gsA at h
  split at h
  · rename_i q1
    cases h
    have hz := hK.2.2.1 _ (fnd_ok q1)
    dsimp only at hz
    obtain ⟨⟨hB, hF', hC, hW⟩, hL, hT⟩ := hG
    obtain ⟨τ, hg⟩ := GS.pushI (x := (1 : Int32)) ⟨hB, hF', hC, hW⟩ hL hT (cR_ok hB hC _)
    exact va_gets hx hb hF.2.1 hS hown (hts _ (List.mem_cons_of_mem _ hz)) (fun _ h => h) hd (hk (σ ++ τ) φ ws lv _ H locs ls hσ.app hφ hg hP hD hS hl)
  · rename_i k hk0 q1
    cases h
    have hz := hK.2.2.1 _ (fnd_ok q1)
    have hz' : Cond.fieldLink own i preN "SIOOBE_FORMATTER" biD ∈ bigG := by
      match k, hk0, hz with
      | 0, hk0, _ => exact absurd rfl hk0
      | k + 1, _, hz => exact hz
    obtain ⟨v, hv1, hv2⟩ := hF.2.2
    exact va_gets hx hb hv1 hS hown (hts _ (List.mem_cons_of_mem _ hz')) (fun _ h => h) hd (hk σ φ ws lv _ H locs ls hσ hφ ⟨hG.1, hG.2.1, ⟨hv2, by show (v.category == 2) = false; rw [hv2]; rfl⟩, hG.2.2⟩ hP hD hS hl)
  · cases h
def gfsA (K : List (Nat × Nat)) (i : Nat) (a : AS) : Option AS := match a.2.2, fnd i K with
  | .inr (.inr (.inl c)) :: st, some t => if decide (10000 ≤ c) && (lits[c - 10000]?).isSome then (match t with
    | 0 => some (psh (.inr (.inr (.inl (c + 10000)))) (a.1, a.2.1, st))
    | _ => some (kA 0 (a.1, a.2.1, st))) else none
  | _, _ => none
theorem s_gfs (hX : CTX p s m args c cc nL own w0 D cy A) (hF : SF ad A s) {K : SKT} (hK : SKOK own K) {i : Nat} (hd : decode cc pc = .ok (.getfield i, 3)) (h : gfsA K.2.1 i a = some a') (hk : OkA (Wq p l e R s m args below meth c Q) D cy A s.heap nL ω ad σ0 φ0 a' (pc + 3)) : OkA (Wq p l e R s m args below meth c Q) D cy A s.heap nL ω ad σ0 φ0 a pc := by
  intro σ φ ws lv stk H locs ls hσ hφ hG hP hD hS hl
  obtain ⟨hx, hb, hml, hown, hts, hK0, hA⟩ := hX
  obtain ⟨⟨hB, hF', hC, hW⟩, hL, hT⟩ := hG
  unfold gfsA at h
  split at h
  · rename_i cr st t q1 q2
    rw [q1] at hT
    match stk, hT with
    | v1 :: st', hT =>
      have hv : v1 = .ref (ad cr) := hT.1.1
      subst hv
      by_cases u : (decide (10000 ≤ cr) && (lits[cr - 10000]?).isSome) = true
      · rw [if_pos u] at h
        have u' : 10000 ≤ cr ∧ (lits[cr - 10000]?).isSome = true := by simpa using u
        obtain ⟨z, hz⟩ := Option.isSome_iff_exists.mp u'.2
        obtain ⟨k1, k2, k3, k4, k5⟩ := hF.1 _ z hz
        have e1 : 10000 + (cr - 10000) = cr := by omega
        have e2 : 20000 + (cr - 10000) = cr + 10000 := by omega
        rw [e1] at k3 k4
        rw [e2] at k4
        have hw := hK.2.1 _ (fnd_ok q2)
        match t, h, hw with
        | 0, h, hw =>
          cases h
          exact vk_getf hx hb k4 hS hown (hts _ (List.mem_cons_of_mem _ hw)) (fun _ h => h) hd (hk σ φ ws lv _ H locs ls hσ hφ ⟨⟨hB, hF', hC, hW⟩, hL, ⟨rfl, rfl⟩, hT.2⟩ hP hD hS hl)
        | t + 1, h, hw =>
          cases h
          obtain ⟨τ, hg⟩ := GS.pushI (x := (0 : Int32)) ⟨hB, hF', hC, hW⟩ hL hT.2 (cR_ok hB hC _)
          exact vk_getf hx hb k3 hS hown (hts _ (List.mem_cons_of_mem _ hw)) (fun _ h => h) hd (hk (σ ++ τ) φ ws lv _ H locs ls hσ.app hφ hg hP hD hS hl)
      · rw [if_neg u] at h
        cases h
    | [], hT => exact hT.elim
  · cases h
def alsA (a : AS) : Option AS := match a.2.2 with
  | .inr (.inr (.inl c)) :: st => if decide (20000 ≤ c) then (match lits[c - 20000]? with
    | some q => some (kA (Int32.ofNat q.2.2.2.length).toInt (a.1, a.2.1, st))
    | none => none) else none
  | _ => none
theorem s_als (hX : CTX p s m args c cc nL own w0 D cy A) (hF : SF ad A s) (hd : decode cc pc = .ok (.arraylength, 1)) (h : alsA a = some a') (hk : OkA (Wq p l e R s m args below meth c Q) D cy A s.heap nL ω ad σ0 φ0 a' (pc + 1)) : OkA (Wq p l e R s m args below meth c Q) D cy A s.heap nL ω ad σ0 φ0 a pc := by
  intro σ φ ws lv stk H locs ls hσ hφ hG hP hD hS hl
  obtain ⟨hx, hb, hml, hown, hts, hK0, hA⟩ := hX
  obtain ⟨⟨hB, hF', hC, hW⟩, hL, hT⟩ := hG
  unfold alsA at h
  split at h
  · rename_i cr st q1
    rw [q1] at hT
    match stk, hT with
    | v1 :: st', hT =>
      have hv : v1 = .ref (ad cr) := hT.1.1
      subst hv
      by_cases u : decide (20000 ≤ cr) = true
      · rw [if_pos u] at h
        have u' : 20000 ≤ cr := by simpa using u
        split at h
        · rename_i z hz
          cases h
          have k5 := (hF.1 _ z hz).2.2.2.2
          have e2 : 20000 + (cr - 20000) = cr := by omega
          rw [e2] at k5
          obtain ⟨τ, hg⟩ := GS.pushI (x := Int32.ofNat z.2.2.2.length) ⟨hB, hF', hC, hW⟩ hL hT.2 (cR_ok hB hC _)
          exact va_tlen hx hb k5 hS rfl hd (hk (σ ++ τ) φ ws lv _ H locs ls hσ.app hφ hg hP hD hS hl)
        · cases h
      · rw [if_neg u] at h
        cases h
    | [], hT => exact hT.elim
  · cases h
def bsA (a : AS) : Option AS := match a.2.2 with
  | .inl x :: .inr (.inr (.inl c)) :: st => if decide (20000 ≤ c) then (match lits[c - 20000]? with
    | some q => if ixOK a.1.1 a.1.2.2.1 x q.2.2.2.length then (match bnd a.1.1 a.1.2.2.1 x with
      | some b => if decide (b.1 = b.2) then some (kA (q.2.2.2.getD b.1.toNat 0).toInt (a.1, a.2.1, st)) else some (pushI a.1 a.2.1 st (ivR a.1.1 a.1.2.2.1 0 127))
      | none => none) else none
    | none => none) else none
  | _ => none
theorem s_bs (hX : CTX p s m args c cc nL own w0 D cy A) (hF : SF ad A s) (hd : decode cc pc = .ok (.baload, 1)) (h : bsA a = some a') (hk : OkA (Wq p l e R s m args below meth c Q) D cy A s.heap nL ω ad σ0 φ0 a' (pc + 1)) : OkA (Wq p l e R s m args below meth c Q) D cy A s.heap nL ω ad σ0 φ0 a pc := by
  intro σ φ ws lv stk H locs ls hσ hφ hG hP hD hS hl
  obtain ⟨hx, hb, hml, hown, hts, hK0, hA⟩ := hX
  obtain ⟨⟨hB, hF', hC, hW⟩, hL, hT⟩ := hG
  unfold bsA at h
  split at h
  · rename_i x cr st q1
    rw [q1] at hT
    match stk, hT with
    | v1 :: v2 :: st', hT =>
      obtain ⟨x1, rfl, hvx⟩ := hT.1.1
      have hv : v2 = .ref (ad cr) := hT.2.1.1
      subst hv
      by_cases u : decide (20000 ≤ cr) = true
      · rw [if_pos u] at h
        have u' : 20000 ≤ cr := by simpa using u
        split at h
        · rename_i z hz
          have k5 := (hF.1 _ z hz).2.2.2.2
          have e2 : 20000 + (cr - 20000) = cr := by omega
          rw [e2] at k5
          by_cases t : ixOK a.1.1 a.1.2.2.1 x z.2.2.2.length = true
          · rw [if_pos t] at h
            obtain ⟨i1, i2, i3, i4⟩ := ixOK_ok hB hC t hvx
            split at h
            · rename_i b hb0
              have hbb := bnd_ok hB hC hb0 hvx
              by_cases t2 : decide (b.1 = b.2) = true
              · rw [if_pos t2] at h
                cases h
                have t2' : b.1 = b.2 := by simpa using t2
                have e3 : x1.toNatClampNeg = b.1.toNat := by
                  have e4 : x1.toInt = b.1 := by omega
                  rw [i2, e4]
                obtain ⟨τ, hg⟩ := GS.pushI (x := z.2.2.2.getD b.1.toNat 0) ⟨hB, hF', hC, hW⟩ hL hT.2.2 (cR_ok hB hC _)
                exact va_tb hx hb k5 hS i1 (by rw [e3]) hd (hk (σ ++ τ) φ ws lv _ H locs ls hσ.app hφ hg hP hD hS hl)
              · rw [if_neg t2] at h
                cases h
                have hm : z.2.2.2.getD x1.toNatClampNeg 0 ∈ z.2.2.2 := by
                  have hlt : x1.toNatClampNeg < z.2.2.2.length := by rw [i2]; omega
                  rw [List.getD_eq_getElem?_getD, List.getElem?_eq_getElem hlt]
                  exact List.getElem_mem hlt
                have hr := List.all_eq_true.mp (List.all_eq_true.mp lits_b z (List.mem_of_getElem? hz)) _ hm
                have hr' : 0 ≤ (z.2.2.2.getD x1.toNatClampNeg 0).toInt ∧ (z.2.2.2.getD x1.toNatClampNeg 0).toInt ≤ 127 := by
                  simp only [Bool.and_eq_true, decide_eq_true_eq] at hr
                  exact hr
                obtain ⟨τ, hg⟩ := GS.pushI (x := z.2.2.2.getD x1.toNatClampNeg 0) ⟨hB, hF', hC, hW⟩ hL hT.2.2 (ivR_ok hB hC hr'.1 hr'.2)
                exact va_tb hx hb k5 hS i1 rfl hd (hk (σ ++ τ) φ ws lv _ H locs ls hσ.app hφ hg hP hD hS hl)
            · cases h
          · rw [if_neg t] at h
            cases h
        · cases h
      · rw [if_neg u] at h
        cases h
    | [v1], hT => exact hT.2.elim
    | [], hT => exact hT.elim
  · cases h
/-- Math -/
def mxz (a b : Int) : Int := if a ≤ b then b else a
def mnz (a b : Int) : Int := if a ≤ b then a else b
def mthA (o : Nat) (a : AS) : Option AS := match o, a.2.2 with
  | 0, .inl y :: .inl x :: st => (match bnd a.1.1 a.1.2.2.1 x, bnd a.1.1 a.1.2.2.1 y with
    | some p, some q => if decide (catS st ≤ 8) then some (pushI a.1 a.2.1 st (ivR a.1.1 a.1.2.2.1 (mxz p.1 q.1) (mxz p.2 q.2))) else none
    | _, _ => none)
  | 1, .inl y :: .inl x :: st => (match bnd a.1.1 a.1.2.2.1 x, bnd a.1.1 a.1.2.2.1 y with
    | some p, some q => if decide (catS st ≤ 8) then some (pushI a.1 a.2.1 st (ivR a.1.1 a.1.2.2.1 (mnz p.1 q.1) (mnz p.2 q.2))) else none
    | _, _ => none)
  | 2, .inl x :: st => (match bnd a.1.1 a.1.2.2.1 x with
    | some p => if decide (catS st ≤ 8) then (if decide (0 ≤ p.1) then some (pushI a.1 a.2.1 st (a.1.1, a.1.2.2.1, x)) else if decide (mnI < p.1) then some (pushI a.1 a.2.1 st (ivR a.1.1 a.1.2.2.1 0 (mxz (-p.1) p.2))) else some (pushI a.1 a.2.1 st (fullR a.1.1 a.1.2.2.1))) else none
    | none => none)
  | _, _ => none
theorem mx_i32 (x y : Int32) : (if x < y then y else x).toInt = mxz x.toInt y.toInt := by
  unfold mxz
  by_cases h : x < y
  · rw [if_pos h, if_pos (by rw [Int32.lt_iff_toInt_lt] at h; omega)]
  · rw [if_neg h]
    rw [Int32.lt_iff_toInt_lt] at h
    by_cases g : x.toInt ≤ y.toInt
    · rw [if_pos g]; omega
    · rw [if_neg g]
theorem mn_i32 (x y : Int32) : (if y < x then y else x).toInt = mnz x.toInt y.toInt := by
  unfold mnz
  by_cases h : y < x
  · rw [if_pos h, if_neg (by rw [Int32.lt_iff_toInt_lt] at h; omega)]
  · rw [if_neg h, if_pos (by rw [Int32.lt_iff_toInt_lt] at h; omega)]
theorem mxz_b {p q : Int × Int} {a b : Int} (h1 : p.1 ≤ a ∧ a ≤ p.2) (h2 : q.1 ≤ b ∧ b ≤ q.2) : mxz p.1 q.1 ≤ mxz a b ∧ mxz a b ≤ mxz p.2 q.2 := by
  unfold mxz
  constructor <;> split <;> split <;> omega
theorem mnz_b {p q : Int × Int} {a b : Int} (h1 : p.1 ≤ a ∧ a ≤ p.2) (h2 : q.1 ≤ b ∧ b ≤ q.2) : mnz p.1 q.1 ≤ mnz a b ∧ mnz a b ≤ mnz p.2 q.2 := by
  unfold mnz
  constructor <;> split <;> split <;> omega
theorem s_mth (hX : CTX p s m args c cc nL own w0 D cy A) {K : SKT} (hK : SKOK own K) {i o : Nat} (hR : 1 ≤ R.frames ∧ 40 ≤ R.locals) (hd : decode cc pc = .ok (.invokestatic i, 3)) (hq : fnd i K.2.2.2 = some o) (h : mthA o a = some a') (hk : OkA (Wq p l e R s m args below meth c Q) D cy A s.heap nL ω ad σ0 φ0 a' (pc + 3)) : OkA (Wq p l e R s m args below meth c Q) D cy A s.heap nL ω ad σ0 φ0 a pc := by
  intro σ φ ws lv stk H locs ls hσ hφ hG hP hD hS hl
  obtain ⟨hx, hb, hml, hown, hts, hK0, hA⟩ := hX
  obtain ⟨⟨hB, hF', hC, hW⟩, hL, hT⟩ := hG
  have hw := hK.2.2.2 _ (fnd_ok hq)
  unfold mthA at h
  split at h
  · rename_i y x st q1
    rw [q1] at hT
    match stk, hT with
    | v1 :: v2 :: st', hT =>
      obtain ⟨y1, rfl, hvy⟩ := hT.1.1
      obtain ⟨x1, rfl, hvx⟩ := hT.2.1.1
      split at h
      · rename_i pb qb q2 q3
        by_cases t : decide (catS st ≤ 8) = true
        · rw [if_pos t] at h
          cases h
          have t' : catS st ≤ 8 := by simpa using t
          have hg0 := mxz_b (bnd_ok hB hC q2 hvx) (bnd_ok hB hC q3 hvy)
          rw [← mx_i32] at hg0
          obtain ⟨τ, hg⟩ := GS.pushI (x := if x1 < y1 then y1 else x1) ⟨hB, hF', hC, hW⟩ hL hT.2.2 (ivR_ok hB hC hg0.1 hg0.2)
          exact va_mmax hx hb (hml.trans hl.1.symm) hown (hts _ (List.mem_cons_of_mem _ hw.1)) (hts _ (List.mem_cons_of_mem _ hw.2.1)) (hts _ (List.mem_cons_of_mem _ hw.2.2.1)) (hts _ (List.mem_cons_of_mem _ hw.2.2.2)) hR.1 (by rw [catS_ok hT.2.2]; omega) (Nat.zero_le _) (Nat.zero_le _) hd (hk (σ ++ τ) φ ws lv _ H locs ls hσ.app hφ hg hP hD hS hl)
        · rw [if_neg t] at h
          cases h
      · cases h
    | [v1], hT => exact hT.2.elim
    | [], hT => exact hT.elim
  · rename_i y x st q1
    rw [q1] at hT
    match stk, hT with
    | v1 :: v2 :: st', hT =>
      obtain ⟨y1, rfl, hvy⟩ := hT.1.1
      obtain ⟨x1, rfl, hvx⟩ := hT.2.1.1
      split at h
      · rename_i pb qb q2 q3
        by_cases t : decide (catS st ≤ 8) = true
        · rw [if_pos t] at h
          cases h
          have t' : catS st ≤ 8 := by simpa using t
          have hg0 := mnz_b (bnd_ok hB hC q2 hvx) (bnd_ok hB hC q3 hvy)
          rw [← mn_i32] at hg0
          obtain ⟨τ, hg⟩ := GS.pushI (x := if y1 < x1 then y1 else x1) ⟨hB, hF', hC, hW⟩ hL hT.2.2 (ivR_ok hB hC hg0.1 hg0.2)
          exact va_mmin hx hb (hml.trans hl.1.symm) hown (hts _ (List.mem_cons_of_mem _ hw.1)) (hts _ (List.mem_cons_of_mem _ hw.2.1)) (hts _ (List.mem_cons_of_mem _ hw.2.2.1)) (hts _ (List.mem_cons_of_mem _ hw.2.2.2)) hR.1 (by rw [catS_ok hT.2.2]; omega) (Nat.zero_le _) (Nat.zero_le _) hd (hk (σ ++ τ) φ ws lv _ H locs ls hσ.app hφ hg hP hD hS hl)
        · rw [if_neg t] at h
          cases h
      · cases h
    | [v1], hT => exact hT.2.elim
    | [], hT => exact hT.elim
  · rename_i x st q1
    rw [q1] at hT
    match stk, hT with
    | v1 :: st', hT =>
      obtain ⟨x1, rfl, hvx⟩ := hT.1.1
      split at h
      · rename_i pb q2
        by_cases t : decide (catS st ≤ 8) = true
        · rw [if_pos t] at h
          have t' : catS st ≤ 8 := by simpa using t
          have hbx := bnd_ok hB hC q2 hvx
          have e0 : (0 : Int32).toInt = 0 := rfl
          have go : ∀ (r : RS) (τ : List Int), GS cy ω ad (pushI a.1 a.2.1 st r) (σ ++ τ) φ ws lv (.int (if 0 ≤ x1 then x1 else 0 - x1) :: st') → OkA (Wq p l e R s m args below meth c Q) D cy A s.heap nL ω ad σ0 φ0 (pushI a.1 a.2.1 st r) (pc + 3) → Wq p l e R s m args below meth c Q H locs pc ls (.int x1 :: st') := by
            intro r τ hg hk
            exact va_mabs hx hb (hml.trans hl.1.symm) hown (hts _ (List.mem_cons_of_mem _ hw.1)) (hts _ (List.mem_cons_of_mem _ hw.2.1)) (hts _ (List.mem_cons_of_mem _ hw.2.2.1)) (hts _ (List.mem_cons_of_mem _ hw.2.2.2)) hR.1 (by rw [catS_ok hT.2]; omega) (Nat.zero_le _) (Nat.zero_le _) hd (hk (σ ++ τ) φ ws lv _ H locs ls hσ.app hφ hg hP hD hS hl)
          by_cases t1 : decide (0 ≤ pb.1) = true
          · rw [if_pos t1] at h
            cases h
            have t1' : 0 ≤ pb.1 := by simpa using t1
            have ex : (if (0 : Int32) ≤ x1 then x1 else 0 - x1) = x1 := if_pos (by rw [Int32.le_iff_toInt_le, e0]; omega)
            obtain ⟨τ, hg⟩ := GS.pushI (x := x1) ⟨hB, hF', hC, hW⟩ hL hT.2 (same_ok hB hC hvx)
            rw [← ex] at hg
            exact go _ τ hg hk
          · rw [if_neg t1] at h
            by_cases t2 : decide (mnI < pb.1) = true
            · rw [if_pos t2] at h
              cases h
              have t2' : mnI < pb.1 := by simpa using t2
              have hv : 0 ≤ (if (0 : Int32) ≤ x1 then x1 else 0 - x1).toInt ∧ (if (0 : Int32) ≤ x1 then x1 else 0 - x1).toInt ≤ mxz (-pb.1) pb.2 := by
                by_cases g : (0 : Int32) ≤ x1
                · rw [if_pos g]
                  rw [Int32.le_iff_toInt_le, e0] at g
                  unfold mxz
                  split <;> omega
                · rw [if_neg g]
                  rw [Int32.le_iff_toInt_le, e0] at g
                  have hm : mnI = -2147483648 := rfl
                  have hM : mxI = 2147483647 := rfl
                  have := i32_sub (x := 0) (y := x1) (by rw [e0]; omega) (by rw [e0]; omega)
                  rw [this, e0]
                  unfold mxz
                  split <;> omega
              obtain ⟨τ, hg⟩ := GS.pushI (x := if (0 : Int32) ≤ x1 then x1 else 0 - x1) ⟨hB, hF', hC, hW⟩ hL hT.2 (ivR_ok hB hC hv.1 hv.2)
              exact go _ τ hg hk
            · rw [if_neg t2] at h
              cases h
              obtain ⟨τ, hg⟩ := GS.pushI (x := if (0 : Int32) ≤ x1 then x1 else 0 - x1) ⟨hB, hF', hC, hW⟩ hL hT.2 (fullR_ok hB hC _)
              exact go _ τ hg hk
        · rw [if_neg t] at h
          cases h
      · cases h
    | [], hT => exact hT.elim
  · cases h
end XST
