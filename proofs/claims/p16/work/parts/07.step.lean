/-! the rows of the abstract walk; own -/
def Wq (p : Program) (l : Launch) (e : Env) (R : Room) (s : State) (m : MethodId) (args : Array Value) (below : List Frame) (meth : Method) (c : Code) (Q : State → Prop) (H : Heap) (locs : List Loc) (pc : Nat) (ls : Array Slot) (stk : List Value) : Prop := W p l e R s m args below meth c H locs 0 0 Q (F0 m pc ls stk)
def pfx {α : Type} (σ0 σ : List α) : Prop := ∃ τ : List α, σ = σ0 ++ τ
theorem pfx.app {α : Type} {σ0 σ τ : List α} (h : pfx σ0 σ) : pfx σ0 (σ ++ τ) := by
  obtain ⟨t, rfl⟩ := h
  exact ⟨t ++ τ, by rw [List.append_assoc]⟩
def OkA (Wp : Heap → List Loc → Nat → Array Slot → List Value → Prop) (D : va_G) (cy : Nat → ClassId) (A : Nat → Prop) (H0 : Heap) (nL : Nat) (ω : List Value) (ad : Nat → Nat) (σ0 : List Int) (φ0 : List (Nat → Int32)) (a : AS) (pc : Nat) : Prop :=
  ∀ (σ : List Int) (φ : List (Nat → Int32)) (ws : va_W) (lv : List (Nat × Value)) (stk : List Value) (H : Heap) (locs : List Loc) (ls : Array Slot), pfx σ0 σ → pfx φ0 φ → GS cy ω ad a σ φ ws lv stk → va_P D vwCl ws H → va_D A ws → va_S A H0 H locs → lv_has ls nL lv → Wp H locs pc ls stk
def CTX (p : Program) (s : State) (m : MethodId) (args : Array Value) (c : Code) (cc : ByteArray) (nL : Nat) (own : String) (w0 : Cond) (D : va_G) (cy : Nat → ClassId) (A : Nat → Prop) : Prop :=
  p.tables.exec = Jvm.exec ∧ c.code = cc ∧ c.maxLocals = nL ∧ s.vm.findClass own = some m.cls ∧ (∀ w ∈ (w0 :: bigG), w.before args s = true) ∧ gk D cy s ∧ ∀ q : Nat, s.heap.size ≤ q → A q
section STEP
variable {p : Program} {l : Launch} {e : Env} {R : Room} {s : State} {m : MethodId} {args : Array Value} {below : List Frame} {meth : Method} {c : Code} {Q : State → Prop} {cc : ByteArray} {D : va_G} {cy : Nat → ClassId} {A : Nat → Prop} {nL : Nat} {own : String} {w0 : Cond} {ω : List Value} {ad : Nat → Nat} {σ0 : List Int} {φ0 : List (Nat → Int32)} {pc : Nat} {a a' : AS}
def ldA (i ty : Nat) (a : AS) : Option AS := match lk i a.2.1 with
  | some (.inl e) => if ty == 0 then some (a.1, a.2.1, .inl e :: a.2.2) else none
  | some (.inr (.inl e)) => if ty == 1 then some (a.1, a.2.1, .inr (.inl e) :: a.2.2) else none
  | some (.inr (.inr (.inl c))) => if ty == 2 then some (a.1, a.2.1, .inr (.inr (.inl c)) :: a.2.2) else none
  | _ => none
theorem ldA_inv {i ty : Nat} {σ : List Int} {lv : List (Nat × Value)} {stk : List Value} (h : ldA i ty a = some a') (hL : P2 (lr σ ω ad) a.2.1 lv) (hT : P2 (gx σ ω ad) a.2.2 stk) : ∃ (k : Nat) (v : Value), lv[k]? = some (i, v) ∧ a'.1 = a.1 ∧ a'.2.1 = a.2.1 ∧ P2 (gx σ ω ad) a'.2.2 (v :: stk) ∧ ((ty = 0 ∧ ∃ x : Int32, v = .int x) ∨ (ty = 1 ∧ ∃ x : Int64, v = .long x) ∨ (ty = 2 ∧ ∃ x : Nat, v = .ref x)) := by
  unfold ldA at h
  cases q : lk i a.2.1 with
  | none => rw [q] at h; cases h
  | some av =>
    rw [q] at h
    obtain ⟨k, v, h1, h2⟩ := lk_ok hL q
    rcases av with e | e | c | c | k'
    · dsimp only at h
      by_cases t : ty = 0
      · subst t
        cases h
        obtain ⟨x, hx, _⟩ := h2.1
        exact ⟨k, v, h1, rfl, rfl, ⟨h2, hT⟩, Or.inl ⟨rfl, x, hx⟩⟩
      · rw [if_neg (by simpa using t)] at h
        cases h
    · dsimp only at h
      by_cases t : ty = 1
      · subst t
        cases h
        obtain ⟨x, hx, _⟩ := h2.1
        exact ⟨k, v, h1, rfl, rfl, ⟨h2, hT⟩, Or.inr (Or.inl ⟨rfl, x, hx⟩)⟩
      · rw [if_neg (by simpa using t)] at h
        cases h
    · dsimp only at h
      by_cases t : ty = 2
      · subst t
        cases h
        exact ⟨k, v, h1, rfl, rfl, ⟨h2, hT⟩, Or.inr (Or.inr ⟨rfl, _, h2.1⟩)⟩
      · rw [if_neg (by simpa using t)] at h
        cases h
    · cases h
    · cases h
theorem s_iload_n (hX : CTX p s m args c cc nL own w0 D cy A) {k : Fin 4} (hd : decode cc pc = .ok (.iload_n k, 1)) (h : ldA k.val 0 a = some a') (hk : OkA (Wq p l e R s m args below meth c Q) D cy A s.heap nL ω ad σ0 φ0 a' (pc + 1)) : OkA (Wq p l e R s m args below meth c Q) D cy A s.heap nL ω ad σ0 φ0 a pc := by
  intro σ φ ws lv stk H locs ls hσ hφ hG hP hD hS hl
  obtain ⟨hx, hb, hml, hown, hts, hK, hA⟩ := hX
  obtain ⟨⟨hB, hF, hC, hW⟩, hL, hT⟩ := hG
  obtain ⟨k0, v, h1, h2, h3, h4, h5⟩ := ldA_inv h hL hT
  rcases h5 with ⟨_, x, rfl⟩ | ⟨q, _⟩ | ⟨q, _⟩
  · exact lv_iload_n hx hb hd rfl (lv_at hl k0 h1) (hk σ φ ws lv _ H locs ls hσ hφ ⟨by rw [h2]; exact ⟨hB, hF, hC, hW⟩, by rw [h3]; exact hL, h4⟩ hP hD hS hl)
  · cases q
  · cases q
theorem s_iload (hX : CTX p s m args c cc nL own w0 D cy A) {i : Nat} (hd : decode cc pc = .ok (.iload i, 2)) (h : ldA i 0 a = some a') (hk : OkA (Wq p l e R s m args below meth c Q) D cy A s.heap nL ω ad σ0 φ0 a' (pc + 2)) : OkA (Wq p l e R s m args below meth c Q) D cy A s.heap nL ω ad σ0 φ0 a pc := by
  intro σ φ ws lv stk H locs ls hσ hφ hG hP hD hS hl
  obtain ⟨hx, hb, hml, hown, hts, hK, hA⟩ := hX
  obtain ⟨⟨hB, hF, hC, hW⟩, hL, hT⟩ := hG
  obtain ⟨k0, v, h1, h2, h3, h4, h5⟩ := ldA_inv h hL hT
  rcases h5 with ⟨_, x, rfl⟩ | ⟨q, _⟩ | ⟨q, _⟩
  · exact lv_iload hx hb hd (lv_at hl k0 h1) (hk σ φ ws lv _ H locs ls hσ hφ ⟨by rw [h2]; exact ⟨hB, hF, hC, hW⟩, by rw [h3]; exact hL, h4⟩ hP hD hS hl)
  · cases q
  · cases q
theorem s_lload_n (hX : CTX p s m args c cc nL own w0 D cy A) {k : Fin 4} (hd : decode cc pc = .ok (.lload_n k, 1)) (h : ldA k.val 1 a = some a') (hk : OkA (Wq p l e R s m args below meth c Q) D cy A s.heap nL ω ad σ0 φ0 a' (pc + 1)) : OkA (Wq p l e R s m args below meth c Q) D cy A s.heap nL ω ad σ0 φ0 a pc := by
  intro σ φ ws lv stk H locs ls hσ hφ hG hP hD hS hl
  obtain ⟨hx, hb, hml, hown, hts, hK, hA⟩ := hX
  obtain ⟨⟨hB, hF, hC, hW⟩, hL, hT⟩ := hG
  obtain ⟨k0, v, h1, h2, h3, h4, h5⟩ := ldA_inv h hL hT
  rcases h5 with ⟨q, _⟩ | ⟨_, x, rfl⟩ | ⟨q, _⟩
  · cases q
  · exact lv_lload_n hx hb hd rfl (lv_at hl k0 h1) (hk σ φ ws lv _ H locs ls hσ hφ ⟨by rw [h2]; exact ⟨hB, hF, hC, hW⟩, by rw [h3]; exact hL, h4⟩ hP hD hS hl)
  · cases q
theorem s_lload (hX : CTX p s m args c cc nL own w0 D cy A) {i : Nat} (hd : decode cc pc = .ok (.lload i, 2)) (h : ldA i 1 a = some a') (hk : OkA (Wq p l e R s m args below meth c Q) D cy A s.heap nL ω ad σ0 φ0 a' (pc + 2)) : OkA (Wq p l e R s m args below meth c Q) D cy A s.heap nL ω ad σ0 φ0 a pc := by
  intro σ φ ws lv stk H locs ls hσ hφ hG hP hD hS hl
  obtain ⟨hx, hb, hml, hown, hts, hK, hA⟩ := hX
  obtain ⟨⟨hB, hF, hC, hW⟩, hL, hT⟩ := hG
  obtain ⟨k0, v, h1, h2, h3, h4, h5⟩ := ldA_inv h hL hT
  rcases h5 with ⟨q, _⟩ | ⟨_, x, rfl⟩ | ⟨q, _⟩
  · cases q
  · exact lv_lload hx hb hd (lv_at hl k0 h1) (hk σ φ ws lv _ H locs ls hσ hφ ⟨by rw [h2]; exact ⟨hB, hF, hC, hW⟩, by rw [h3]; exact hL, h4⟩ hP hD hS hl)
  · cases q
theorem s_aload_n (hX : CTX p s m args c cc nL own w0 D cy A) {k : Fin 4} (hd : decode cc pc = .ok (.aload_n k, 1)) (h : ldA k.val 2 a = some a') (hk : OkA (Wq p l e R s m args below meth c Q) D cy A s.heap nL ω ad σ0 φ0 a' (pc + 1)) : OkA (Wq p l e R s m args below meth c Q) D cy A s.heap nL ω ad σ0 φ0 a pc := by
  intro σ φ ws lv stk H locs ls hσ hφ hG hP hD hS hl
  obtain ⟨hx, hb, hml, hown, hts, hK, hA⟩ := hX
  obtain ⟨⟨hB, hF, hC, hW⟩, hL, hT⟩ := hG
  obtain ⟨k0, v, h1, h2, h3, h4, h5⟩ := ldA_inv h hL hT
  rcases h5 with ⟨q, _⟩ | ⟨q, _⟩ | ⟨_, x, rfl⟩
  · cases q
  · cases q
  · exact lv_aload_n hx hb hd rfl (lv_at hl k0 h1) (hk σ φ ws lv _ H locs ls hσ hφ ⟨by rw [h2]; exact ⟨hB, hF, hC, hW⟩, by rw [h3]; exact hL, h4⟩ hP hD hS hl)
theorem s_aload (hX : CTX p s m args c cc nL own w0 D cy A) {i : Nat} (hd : decode cc pc = .ok (.aload i, 2)) (h : ldA i 2 a = some a') (hk : OkA (Wq p l e R s m args below meth c Q) D cy A s.heap nL ω ad σ0 φ0 a' (pc + 2)) : OkA (Wq p l e R s m args below meth c Q) D cy A s.heap nL ω ad σ0 φ0 a pc := by
  intro σ φ ws lv stk H locs ls hσ hφ hG hP hD hS hl
  obtain ⟨hx, hb, hml, hown, hts, hK, hA⟩ := hX
  obtain ⟨⟨hB, hF, hC, hW⟩, hL, hT⟩ := hG
  obtain ⟨k0, v, h1, h2, h3, h4, h5⟩ := ldA_inv h hL hT
  rcases h5 with ⟨q, _⟩ | ⟨q, _⟩ | ⟨_, x, rfl⟩
  · cases q
  · cases q
  · exact lv_aload hx hb hd (lv_at hl k0 h1) (hk σ φ ws lv _ H locs ls hσ hφ ⟨by rw [h2]; exact ⟨hB, hF, hC, hW⟩, by rw [h3]; exact hL, h4⟩ hP hD hS hl)
def stA (nL i ty : Nat) (a : AS) : Option AS := match a.2.2 with
  | .inl e :: r => if ty == 0 && decide (i < nL) then some (a.1, st1 i (.inl e) a.2.1, r) else none
  | .inr (.inl e) :: r => if ty == 1 && decide (i + 1 < nL) then some (a.1, st2 i (.inr (.inl e)) a.2.1, r) else none
  | .inr (.inr (.inl c)) :: r => if ty == 2 && decide (i < nL) then some (a.1, st1 i (.inr (.inr (.inl c))) a.2.1, r) else none
  | _ => none
theorem stA_inv {i ty : Nat} {σ : List Int} {lv : List (Nat × Value)} {stk : List Value} (h : stA nL i ty a = some a') (hL : P2 (lr σ ω ad) a.2.1 lv) (hT : P2 (gx σ ω ad) a.2.2 stk) : ∃ (v : Value) (st : List Value), stk = v :: st ∧ a'.1 = a.1 ∧ P2 (gx σ ω ad) a'.2.2 st ∧ i < nL ∧
    ((ty = 0 ∧ (∃ x : Int32, v = .int x) ∧ P2 (lr σ ω ad) a'.2.1 ((i, v) :: lv.filter (fun q => !(q.1 == i) && !(q.1 + 1 == i && q.2.category == 2)))) ∨ (ty = 1 ∧ i + 1 < nL ∧ (∃ x : Int64, v = .long x) ∧ P2 (lr σ ω ad) a'.2.1 ((i, v) :: lv.filter (fun q => !(q.1 == i) && (!(q.1 == i + 1) && !(q.1 + 1 == i && q.2.category == 2))))) ∨ (ty = 2 ∧ (∃ x : Nat, v = .ref x) ∧ P2 (lr σ ω ad) a'.2.1 ((i, v) :: lv.filter (fun q => !(q.1 == i) && !(q.1 + 1 == i && q.2.category == 2))))) := by
  unfold stA at h
  cases q : a.2.2 with
  | nil => rw [q] at h; cases h
  | cons av r =>
    rw [q] at h hT
    cases stk with
    | nil => exact hT.elim
    | cons v st =>
      refine ⟨v, st, rfl, ?_⟩
      rcases av with e | e | c | c | k'
      · dsimp only at h
        by_cases t : (ty == 0 && decide (i < nL)) = true
        · rw [if_pos t] at h
          have t' : ty = 0 ∧ i < nL := by simpa using t
          cases h
          obtain ⟨x, hx, _⟩ := hT.1.1
          exact ⟨rfl, hT.2, t'.2, Or.inl ⟨t'.1, ⟨x, hx⟩, st1_ok hL hT.1⟩⟩
        · rw [if_neg t] at h
          cases h
      · dsimp only at h
        by_cases t : (ty == 1 && decide (i + 1 < nL)) = true
        · rw [if_pos t] at h
          have t' : ty = 1 ∧ i + 1 < nL := by simpa using t
          cases h
          obtain ⟨x, hx, _⟩ := hT.1.1
          exact ⟨rfl, hT.2, by omega, Or.inr (Or.inl ⟨t'.1, t'.2, ⟨x, hx⟩, st2_ok hL hT.1⟩)⟩
        · rw [if_neg t] at h
          cases h
      · dsimp only at h
        by_cases t : (ty == 2 && decide (i < nL)) = true
        · rw [if_pos t] at h
          have t' : ty = 2 ∧ i < nL := by simpa using t
          cases h
          exact ⟨rfl, hT.2, t'.2, Or.inr (Or.inr ⟨t'.1, ⟨_, hT.1.1⟩, st1_ok hL hT.1⟩)⟩
        · rw [if_neg t] at h
          cases h
      · cases h
      · cases h
theorem s_istore_n (hX : CTX p s m args c cc nL own w0 D cy A) {k : Fin 4} (hd : decode cc pc = .ok (.istore_n k, 1)) (h : stA nL k.val 0 a = some a') (hk : OkA (Wq p l e R s m args below meth c Q) D cy A s.heap nL ω ad σ0 φ0 a' (pc + 1)) : OkA (Wq p l e R s m args below meth c Q) D cy A s.heap nL ω ad σ0 φ0 a pc := by
  intro σ φ ws lv stk H locs ls hσ hφ hG hP hD hS hl
  obtain ⟨hx, hb, hml, hown, hts, hK, hA⟩ := hX
  obtain ⟨⟨hB, hF, hC, hW⟩, hL, hT⟩ := hG
  obtain ⟨v, st, rfl, h2, h4, h5, h7⟩ := stA_inv h hL hT
  rcases h7 with ⟨_, ⟨x, rfl⟩, h6⟩ | ⟨q, _⟩ | ⟨q, _⟩
  · exact lv_istore_n hx hb hd rfl hl h5 rfl (fun ls' hl' => hk σ φ ws _ st H locs ls' hσ hφ ⟨by rw [h2]; exact ⟨hB, hF, hC, hW⟩, h6, h4⟩ hP hD hS hl')
  · cases q
  · cases q
theorem s_istore (hX : CTX p s m args c cc nL own w0 D cy A) {i : Nat} (hd : decode cc pc = .ok (.istore i, 2)) (h : stA nL i 0 a = some a') (hk : OkA (Wq p l e R s m args below meth c Q) D cy A s.heap nL ω ad σ0 φ0 a' (pc + 2)) : OkA (Wq p l e R s m args below meth c Q) D cy A s.heap nL ω ad σ0 φ0 a pc := by
  intro σ φ ws lv stk H locs ls hσ hφ hG hP hD hS hl
  obtain ⟨hx, hb, hml, hown, hts, hK, hA⟩ := hX
  obtain ⟨⟨hB, hF, hC, hW⟩, hL, hT⟩ := hG
  obtain ⟨v, st, rfl, h2, h4, h5, h7⟩ := stA_inv h hL hT
  rcases h7 with ⟨_, ⟨x, rfl⟩, h6⟩ | ⟨q, _⟩ | ⟨q, _⟩
  · exact lv_istore hx hb hd hl h5 rfl (fun ls' hl' => hk σ φ ws _ st H locs ls' hσ hφ ⟨by rw [h2]; exact ⟨hB, hF, hC, hW⟩, h6, h4⟩ hP hD hS hl')
  · cases q
  · cases q
theorem s_lstore_n (hX : CTX p s m args c cc nL own w0 D cy A) {k : Fin 4} (hd : decode cc pc = .ok (.lstore_n k, 1)) (h : stA nL k.val 1 a = some a') (hk : OkA (Wq p l e R s m args below meth c Q) D cy A s.heap nL ω ad σ0 φ0 a' (pc + 1)) : OkA (Wq p l e R s m args below meth c Q) D cy A s.heap nL ω ad σ0 φ0 a pc := by
  intro σ φ ws lv stk H locs ls hσ hφ hG hP hD hS hl
  obtain ⟨hx, hb, hml, hown, hts, hK, hA⟩ := hX
  obtain ⟨⟨hB, hF, hC, hW⟩, hL, hT⟩ := hG
  obtain ⟨v, st, rfl, h2, h4, h5, h7⟩ := stA_inv h hL hT
  rcases h7 with ⟨q, _⟩ | ⟨_, hn, ⟨x, rfl⟩, h6⟩ | ⟨q, _⟩
  · cases q
  · exact lv_lstore_n hx hb hd rfl hl hn rfl (fun ls' hl' => hk σ φ ws _ st H locs ls' hσ hφ ⟨by rw [h2]; exact ⟨hB, hF, hC, hW⟩, h6, h4⟩ hP hD hS hl')
  · cases q
theorem s_lstore (hX : CTX p s m args c cc nL own w0 D cy A) {i : Nat} (hd : decode cc pc = .ok (.lstore i, 2)) (h : stA nL i 1 a = some a') (hk : OkA (Wq p l e R s m args below meth c Q) D cy A s.heap nL ω ad σ0 φ0 a' (pc + 2)) : OkA (Wq p l e R s m args below meth c Q) D cy A s.heap nL ω ad σ0 φ0 a pc := by
  intro σ φ ws lv stk H locs ls hσ hφ hG hP hD hS hl
  obtain ⟨hx, hb, hml, hown, hts, hK, hA⟩ := hX
  obtain ⟨⟨hB, hF, hC, hW⟩, hL, hT⟩ := hG
  obtain ⟨v, st, rfl, h2, h4, h5, h7⟩ := stA_inv h hL hT
  rcases h7 with ⟨q, _⟩ | ⟨_, hn, ⟨x, rfl⟩, h6⟩ | ⟨q, _⟩
  · cases q
  · exact lv_lstore hx hb hd hl hn rfl (fun ls' hl' => hk σ φ ws _ st H locs ls' hσ hφ ⟨by rw [h2]; exact ⟨hB, hF, hC, hW⟩, h6, h4⟩ hP hD hS hl')
  · cases q
theorem s_astore_n (hX : CTX p s m args c cc nL own w0 D cy A) {k : Fin 4} (hd : decode cc pc = .ok (.astore_n k, 1)) (h : stA nL k.val 2 a = some a') (hk : OkA (Wq p l e R s m args below meth c Q) D cy A s.heap nL ω ad σ0 φ0 a' (pc + 1)) : OkA (Wq p l e R s m args below meth c Q) D cy A s.heap nL ω ad σ0 φ0 a pc := by
  intro σ φ ws lv stk H locs ls hσ hφ hG hP hD hS hl
  obtain ⟨hx, hb, hml, hown, hts, hK, hA⟩ := hX
  obtain ⟨⟨hB, hF, hC, hW⟩, hL, hT⟩ := hG
  obtain ⟨v, st, rfl, h2, h4, h5, h7⟩ := stA_inv h hL hT
  rcases h7 with ⟨q, _⟩ | ⟨q, _⟩ | ⟨_, ⟨x, rfl⟩, h6⟩
  · cases q
  · cases q
  · exact lv_astore_n hx hb hd rfl hl h5 rfl (fun ls' hl' => hk σ φ ws _ st H locs ls' hσ hφ ⟨by rw [h2]; exact ⟨hB, hF, hC, hW⟩, h6, h4⟩ hP hD hS hl')
theorem s_astore (hX : CTX p s m args c cc nL own w0 D cy A) {i : Nat} (hd : decode cc pc = .ok (.astore i, 2)) (h : stA nL i 2 a = some a') (hk : OkA (Wq p l e R s m args below meth c Q) D cy A s.heap nL ω ad σ0 φ0 a' (pc + 2)) : OkA (Wq p l e R s m args below meth c Q) D cy A s.heap nL ω ad σ0 φ0 a pc := by
  intro σ φ ws lv stk H locs ls hσ hφ hG hP hD hS hl
  obtain ⟨hx, hb, hml, hown, hts, hK, hA⟩ := hX
  obtain ⟨⟨hB, hF, hC, hW⟩, hL, hT⟩ := hG
  obtain ⟨v, st, rfl, h2, h4, h5, h7⟩ := stA_inv h hL hT
  rcases h7 with ⟨q, _⟩ | ⟨q, _⟩ | ⟨_, ⟨x, rfl⟩, h6⟩
  · cases q
  · cases q
  · exact lv_astore hx hb hd hl h5 rfl (fun ls' hl' => hk σ φ ws _ st H locs ls' hσ hφ ⟨by rw [h2]; exact ⟨hB, hF, hC, hW⟩, h6, h4⟩ hP hD hS hl')
def incA (nL i : Nat) (n : Int) (a : AS) : Option AS := match lk i a.2.1 with
  | some (.inl e) => if inR mnI mxI n n && decide (i < nL) then
      (let r0 := cR a.1.1 a.1.2.2.1 n
       let r := addR mnI mxI r0.1 r0.2.1 e r0.2.2
       some ((r.1, a.1.2.1, r.2.1, a.1.2.2.2), st1 i (.inl r.2.2) a.2.1, a.2.2)) else none
  | _ => none
theorem s_iinc (hX : CTX p s m args c cc nL own w0 D cy A) {i : Nat} {n : Int} (hd : decode cc pc = .ok (.iinc i n, 3)) (h : incA nL i n a = some a') (hk : OkA (Wq p l e R s m args below meth c Q) D cy A s.heap nL ω ad σ0 φ0 a' (pc + 3)) : OkA (Wq p l e R s m args below meth c Q) D cy A s.heap nL ω ad σ0 φ0 a pc := by
  intro σ φ ws lv stk H locs ls hσ hφ hG hP hD hS hl
  obtain ⟨hx, hb, hml, hown, hts, hK, hA⟩ := hX
  obtain ⟨⟨hB, hF, hC, hW⟩, hL, hT⟩ := hG
  unfold incA at h
  cases q : lk i a.2.1 with
  | none => rw [q] at h; cases h
  | some av =>
    rw [q] at h
    obtain ⟨k, v, h1, h2⟩ := lk_ok hL q
    rcases av with e | e | c | c | k'
    · dsimp only at h
      by_cases t : (inR mnI mxI n n && decide (i < nL)) = true
      · rw [if_pos t] at h
        have t' : inR mnI mxI n n = true ∧ i < nL := by simpa using t
        have tr := inR_ok t'.1
        cases h
        obtain ⟨x, rfl, hv⟩ := h2.1
        obtain ⟨τ1, k1, k2, k3⟩ := cR_ok hB hC n
        have ho : OpOK (σ ++ τ1) (addR mnI mxI (cR a.1.1 a.1.2.2.1 n).1 (cR a.1.1 a.1.2.2.1 n).2.1 e (cR a.1.1 a.1.2.2.1 n).2.2) (x + Int32.ofInt n).toInt := by
          refine addR_ok k1 k2 hv.app k3 (i32_lo _) (i32_hi _) (fun g1 g2 => ?_)
          have e1 : (Int32.ofInt n).toInt = n := i32_of tr.1 tr.2
          rw [i32_add (by rw [e1]; exact g1) (by rw [e1]; exact g2), e1]
        obtain ⟨τ2, k4, k5, k6⟩ := ho
        have hw := hW.app (τ := τ1 ++ τ2) (ψ := [])
        rw [List.append_nil] at hw
        refine lv_iinc hx hb hd hl h1 rfl t'.2 rfl (fun ls' hl' => hk (σ ++ (τ1 ++ τ2)) φ ws _ stk H locs ls' hσ.app hφ ⟨⟨by rw [← List.append_assoc]; exact k4, hF, by rw [← List.append_assoc]; exact k5, hw⟩, st1_ok (hL.mono (fun _ _ h => h.app)) ⟨⟨_, rfl, by rw [← List.append_assoc]; exact k6⟩, rfl⟩, hT.mono (fun _ _ h => h.app)⟩ hP hD hS hl')
      · rw [if_neg t] at h
        cases h
    · cases h
    · cases h
    · cases h
    · cases h
def kA (z : Int) (a : AS) : AS := pushI a.1 a.2.1 a.2.2 (cR a.1.1 a.1.2.2.1 z)
def kL (z : Int) (a : AS) : AS := pushL a.1 a.2.1 a.2.2 (cR a.1.1 a.1.2.2.1 z)
theorem s_iconst (hX : CTX p s m args c cc nL own w0 D cy A) {n : Int} (hd : decode cc pc = .ok (.iconst n, 1)) (hk : OkA (Wq p l e R s m args below meth c Q) D cy A s.heap nL ω ad σ0 φ0 (kA (Int32.ofInt n).toInt a) (pc + 1)) : OkA (Wq p l e R s m args below meth c Q) D cy A s.heap nL ω ad σ0 φ0 a pc := by
  intro σ φ ws lv stk H locs ls hσ hφ hG hP hD hS hl
  obtain ⟨hx, hb, hml, hown, hts, hK, hA⟩ := hX
  obtain ⟨⟨hB, hF, hC, hW⟩, hL, hT⟩ := hG
  obtain ⟨τ, hg⟩ := GS.pushI (x := Int32.ofInt n) ⟨hB, hF, hC, hW⟩ hL hT (cR_ok hB hC _)
  exact lv_iconst hx hb hd rfl (hk (σ ++ τ) φ ws lv _ H locs ls hσ.app hφ hg hP hD hS hl)
theorem s_bipush (hX : CTX p s m args c cc nL own w0 D cy A) {n : Int} (hd : decode cc pc = .ok (.bipush n, 2)) (hk : OkA (Wq p l e R s m args below meth c Q) D cy A s.heap nL ω ad σ0 φ0 (kA ((Int8.ofInt n).toInt32).toInt a) (pc + 2)) : OkA (Wq p l e R s m args below meth c Q) D cy A s.heap nL ω ad σ0 φ0 a pc := by
  intro σ φ ws lv stk H locs ls hσ hφ hG hP hD hS hl
  obtain ⟨hx, hb, hml, hown, hts, hK, hA⟩ := hX
  obtain ⟨⟨hB, hF, hC, hW⟩, hL, hT⟩ := hG
  obtain ⟨τ, hg⟩ := GS.pushI (x := (Int8.ofInt n).toInt32) ⟨hB, hF, hC, hW⟩ hL hT (cR_ok hB hC _)
  exact lv_bipush hx hb hd rfl (hk (σ ++ τ) φ ws lv _ H locs ls hσ.app hφ hg hP hD hS hl)
theorem s_sipush (hX : CTX p s m args c cc nL own w0 D cy A) {n : Int} (hd : decode cc pc = .ok (.sipush n, 3)) (hk : OkA (Wq p l e R s m args below meth c Q) D cy A s.heap nL ω ad σ0 φ0 (kA ((Int16.ofInt n).toInt32).toInt a) (pc + 3)) : OkA (Wq p l e R s m args below meth c Q) D cy A s.heap nL ω ad σ0 φ0 a pc := by
  intro σ φ ws lv stk H locs ls hσ hφ hG hP hD hS hl
  obtain ⟨hx, hb, hml, hown, hts, hK, hA⟩ := hX
  obtain ⟨⟨hB, hF, hC, hW⟩, hL, hT⟩ := hG
  obtain ⟨τ, hg⟩ := GS.pushI (x := (Int16.ofInt n).toInt32) ⟨hB, hF, hC, hW⟩ hL hT (cR_ok hB hC _)
  exact lv_sipush hx hb hd rfl (hk (σ ++ τ) φ ws lv _ H locs ls hσ.app hφ hg hP hD hS hl)
theorem s_lconst (hX : CTX p s m args c cc nL own w0 D cy A) {n : Fin 2} (hd : decode cc pc = .ok (.lconst n, 1)) (hk : OkA (Wq p l e R s m args below meth c Q) D cy A s.heap nL ω ad σ0 φ0 (kL (Int64.ofNat (n : Nat)).toInt a) (pc + 1)) : OkA (Wq p l e R s m args below meth c Q) D cy A s.heap nL ω ad σ0 φ0 a pc := by
  intro σ φ ws lv stk H locs ls hσ hφ hG hP hD hS hl
  obtain ⟨hx, hb, hml, hown, hts, hK, hA⟩ := hX
  obtain ⟨⟨hB, hF, hC, hW⟩, hL, hT⟩ := hG
  obtain ⟨τ, hg⟩ := GS.pushL (x := Int64.ofNat (n : Nat)) ⟨hB, hF, hC, hW⟩ hL hT (cR_ok hB hC _)
  exact lv_lconst hx hb hd rfl (hk (σ ++ τ) φ ws lv _ H locs ls hσ.app hφ hg hP hD hS hl)
theorem s_ldc (hX : CTX p s m args c cc nL own w0 D cy A) {i : Nat} {v : Int32} (hd : decode cc pc = .ok (.ldc i, 2)) (hc : Cond.constant own i v ∈ bigG) (hk : OkA (Wq p l e R s m args below meth c Q) D cy A s.heap nL ω ad σ0 φ0 (kA (v).toInt a) (pc + 2)) : OkA (Wq p l e R s m args below meth c Q) D cy A s.heap nL ω ad σ0 φ0 a pc := by
  intro σ φ ws lv stk H locs ls hσ hφ hG hP hD hS hl
  obtain ⟨hx, hb, hml, hown, hts, hK, hA⟩ := hX
  obtain ⟨⟨hB, hF, hC, hW⟩, hL, hT⟩ := hG
  obtain ⟨τ, hg⟩ := GS.pushI (x := v) ⟨hB, hF, hC, hW⟩ hL hT (cR_ok hB hC _)
  exact lv_ldc hx hb hown (hts _ (List.mem_cons_of_mem _ hc)) hd (hk (σ ++ τ) φ ws lv _ H locs ls hσ.app hφ hg hP hD hS hl)
theorem s_ldcw (hX : CTX p s m args c cc nL own w0 D cy A) {i : Nat} {v : Int32} (hd : decode cc pc = .ok (.ldc_w i, 3)) (hc : Cond.constant own i v ∈ bigG) (hk : OkA (Wq p l e R s m args below meth c Q) D cy A s.heap nL ω ad σ0 φ0 (kA (v).toInt a) (pc + 3)) : OkA (Wq p l e R s m args below meth c Q) D cy A s.heap nL ω ad σ0 φ0 a pc := by
  intro σ φ ws lv stk H locs ls hσ hφ hG hP hD hS hl
  obtain ⟨hx, hb, hml, hown, hts, hK, hA⟩ := hX
  obtain ⟨⟨hB, hF, hC, hW⟩, hL, hT⟩ := hG
  obtain ⟨τ, hg⟩ := GS.pushI (x := v) ⟨hB, hF, hC, hW⟩ hL hT (cR_ok hB hC _)
  exact lv_ldcw hx hb hown (hts _ (List.mem_cons_of_mem _ hc)) hd (hk (σ ++ τ) φ ws lv _ H locs ls hσ.app hφ hg hP hD hS hl)
theorem s_ldc2 (hX : CTX p s m args c cc nL own w0 D cy A) {i : Nat} {v : Int64} (hd : decode cc pc = .ok (.ldc2_w i, 3)) (hc : Cond.constantLong own i v ∈ bigG) (hk : OkA (Wq p l e R s m args below meth c Q) D cy A s.heap nL ω ad σ0 φ0 (kL (v).toInt a) (pc + 3)) : OkA (Wq p l e R s m args below meth c Q) D cy A s.heap nL ω ad σ0 φ0 a pc := by
  intro σ φ ws lv stk H locs ls hσ hφ hG hP hD hS hl
  obtain ⟨hx, hb, hml, hown, hts, hK, hA⟩ := hX
  obtain ⟨⟨hB, hF, hC, hW⟩, hL, hT⟩ := hG
  obtain ⟨τ, hg⟩ := GS.pushL (x := v) ⟨hB, hF, hC, hW⟩ hL hT (cR_ok hB hC _)
  exact lv_ldc2 hx hb hown (hts _ (List.mem_cons_of_mem _ hc)) hd (hk (σ ++ τ) φ ws lv _ H locs ls hσ.app hφ hg hP hD hS hl)
def binA (f : BS → CS → Nat × Int → Nat × Int → Option RS) (a : AS) : Option AS := match a.2.2 with
  | .inl y :: .inl x :: r => (f a.1.1 a.1.2.2.1 x y).map (pushI a.1 a.2.1 r)
  | _ => none
theorem binA_inv {f : BS → CS → Nat × Int → Nat × Int → Option RS} {σ : List Int} {stk : List Value} (h : binA f a = some a') (hT : P2 (gx σ ω ad) a.2.2 stk) : ∃ (ex ey : Nat × Int) (r : List AV) (rs : RS) (x y : Int32) (st : List Value), f a.1.1 a.1.2.2.1 ex ey = some rs ∧ a' = pushI a.1 a.2.1 r rs ∧ stk = .int y :: .int x :: st ∧ vl σ ex x.toInt ∧ vl σ ey y.toInt ∧ P2 (gx σ ω ad) r st := by
  unfold binA at h
  split at h
  · rename_i y x r q
    rw [q] at hT
    cases e : f a.1.1 a.1.2.2.1 x y with
    | none => rw [e] at h; cases h
    | some rs =>
      rw [e] at h
      cases h
      match stk, hT with
      | v1 :: v2 :: st, hT =>
        obtain ⟨x1, rfl, h1⟩ := hT.1.1
        obtain ⟨x2, rfl, h2⟩ := hT.2.1.1
        exact ⟨x, y, r, rs, x2, x1, st, e, rfl, rfl, h2, h1, hT.2.2⟩
      | [v1], hT => exact hT.2.elim
      | [], hT => exact hT.elim
  · cases h
def binL (f : BS → CS → Nat × Int → Nat × Int → Option RS) (a : AS) : Option AS := match a.2.2 with
  | .inr (.inl y) :: .inr (.inl x) :: r => (f a.1.1 a.1.2.2.1 x y).map (pushL a.1 a.2.1 r)
  | _ => none
theorem binL_inv {f : BS → CS → Nat × Int → Nat × Int → Option RS} {σ : List Int} {stk : List Value} (h : binL f a = some a') (hT : P2 (gx σ ω ad) a.2.2 stk) : ∃ (ex ey : Nat × Int) (r : List AV) (rs : RS) (x y : Int64) (st : List Value), f a.1.1 a.1.2.2.1 ex ey = some rs ∧ a' = pushL a.1 a.2.1 r rs ∧ stk = .long y :: .long x :: st ∧ vl σ ex x.toInt ∧ vl σ ey y.toInt ∧ P2 (gx σ ω ad) r st := by
  unfold binL at h
  split at h
  · rename_i y x r q
    rw [q] at hT
    cases e : f a.1.1 a.1.2.2.1 x y with
    | none => rw [e] at h; cases h
    | some rs =>
      rw [e] at h
      cases h
      match stk, hT with
      | v1 :: v2 :: st, hT =>
        obtain ⟨x1, rfl, h1⟩ := hT.1.1
        obtain ⟨x2, rfl, h2⟩ := hT.2.1.1
        exact ⟨x, y, r, rs, x2, x1, st, e, rfl, rfl, h2, h1, hT.2.2⟩
      | [v1], hT => exact hT.2.elim
      | [], hT => exact hT.elim
  · cases h
def opO (f : BS → CS → Nat × Int → Nat × Int → RS) : BS → CS → Nat × Int → Nat × Int → Option RS := fun b c x y => some (f b c x y)
theorem ne0I {y : Int32} (h : y.toInt ≠ 0) : ¬ y = 0 := fun q => h (by rw [q]; rfl)
theorem ne0L {y : Int64} (h : y.toInt ≠ 0) : ¬ y = 0 := fun q => h (by rw [q]; rfl)
theorem s_iadd (hX : CTX p s m args c cc nL own w0 D cy A) (hd : decode cc pc = .ok (.iadd, 1)) (h : binA (opO (addR mnI mxI)) a = some a') (hk : OkA (Wq p l e R s m args below meth c Q) D cy A s.heap nL ω ad σ0 φ0 a' (pc + 1)) : OkA (Wq p l e R s m args below meth c Q) D cy A s.heap nL ω ad σ0 φ0 a pc := by
  intro σ φ ws lv stk H locs ls hσ hφ hG hP hD hS hl
  obtain ⟨hx, hb, hml, hown, hts, hK, hA⟩ := hX
  obtain ⟨⟨hB, hF, hC, hW⟩, hL, hT⟩ := hG
  obtain ⟨ex, ey, r, rs, x, y, st, h1, rfl, rfl, hvx, hvy, hr⟩ := binA_inv h hT
  have ho : OpOK σ rs (x + y).toInt := by
    cases (Option.some.inj h1)
    exact addR_ok hB hC hvx hvy (i32_lo _) (i32_hi _) (fun g1 g2 => i32_add g1 g2)
  obtain ⟨τ, hg⟩ := GS.pushI ⟨hB, hF, hC, hW⟩ hL hr ho
  exact m_iadd hx hb hd rfl (hk (σ ++ τ) φ ws lv _ H locs ls hσ.app hφ hg hP hD hS hl)
theorem s_isub (hX : CTX p s m args c cc nL own w0 D cy A) (hd : decode cc pc = .ok (.isub, 1)) (h : binA (opO (subR mnI mxI)) a = some a') (hk : OkA (Wq p l e R s m args below meth c Q) D cy A s.heap nL ω ad σ0 φ0 a' (pc + 1)) : OkA (Wq p l e R s m args below meth c Q) D cy A s.heap nL ω ad σ0 φ0 a pc := by
  intro σ φ ws lv stk H locs ls hσ hφ hG hP hD hS hl
  obtain ⟨hx, hb, hml, hown, hts, hK, hA⟩ := hX
  obtain ⟨⟨hB, hF, hC, hW⟩, hL, hT⟩ := hG
  obtain ⟨ex, ey, r, rs, x, y, st, h1, rfl, rfl, hvx, hvy, hr⟩ := binA_inv h hT
  have ho : OpOK σ rs (x - y).toInt := by
    cases (Option.some.inj h1)
    exact subR_ok hB hC hvx hvy (i32_lo _) (i32_hi _) (fun g1 g2 => i32_sub g1 g2)
  obtain ⟨τ, hg⟩ := GS.pushI ⟨hB, hF, hC, hW⟩ hL hr ho
  exact m_isub hx hb hd rfl (hk (σ ++ τ) φ ws lv _ H locs ls hσ.app hφ hg hP hD hS hl)
theorem s_imul (hX : CTX p s m args c cc nL own w0 D cy A) (hd : decode cc pc = .ok (.imul, 1)) (h : binA (opO (mulR mnI mxI)) a = some a') (hk : OkA (Wq p l e R s m args below meth c Q) D cy A s.heap nL ω ad σ0 φ0 a' (pc + 1)) : OkA (Wq p l e R s m args below meth c Q) D cy A s.heap nL ω ad σ0 φ0 a pc := by
  intro σ φ ws lv stk H locs ls hσ hφ hG hP hD hS hl
  obtain ⟨hx, hb, hml, hown, hts, hK, hA⟩ := hX
  obtain ⟨⟨hB, hF, hC, hW⟩, hL, hT⟩ := hG
  obtain ⟨ex, ey, r, rs, x, y, st, h1, rfl, rfl, hvx, hvy, hr⟩ := binA_inv h hT
  have ho : OpOK σ rs (x * y).toInt := by
    cases (Option.some.inj h1)
    exact mulR_ok hB hC hvx hvy (by decide) (i32_lo _) (i32_hi _) (fun g1 g2 => i32_mul g1 g2)
  obtain ⟨τ, hg⟩ := GS.pushI ⟨hB, hF, hC, hW⟩ hL hr ho
  exact m_imul hx hb hd rfl (hk (σ ++ τ) φ ws lv _ H locs ls hσ.app hφ hg hP hD hS hl)
theorem s_iand (hX : CTX p s m args c cc nL own w0 D cy A) (hd : decode cc pc = .ok (.iand, 1)) (h : binA (opO (bitR 0)) a = some a') (hk : OkA (Wq p l e R s m args below meth c Q) D cy A s.heap nL ω ad σ0 φ0 a' (pc + 1)) : OkA (Wq p l e R s m args below meth c Q) D cy A s.heap nL ω ad σ0 φ0 a pc := by
  intro σ φ ws lv stk H locs ls hσ hφ hG hP hD hS hl
  obtain ⟨hx, hb, hml, hown, hts, hK, hA⟩ := hX
  obtain ⟨⟨hB, hF, hC, hW⟩, hL, hT⟩ := hG
  obtain ⟨ex, ey, r, rs, x, y, st, h1, rfl, rfl, hvx, hvy, hr⟩ := binA_inv h hT
  have ho : OpOK σ rs (x &&& y).toInt := by
    cases (Option.some.inj h1)
    exact bitR_ok (o := 0) hB hC hvx hvy
  obtain ⟨τ, hg⟩ := GS.pushI ⟨hB, hF, hC, hW⟩ hL hr ho
  exact m_iand hx hb hd rfl (hk (σ ++ τ) φ ws lv _ H locs ls hσ.app hφ hg hP hD hS hl)
theorem s_ior (hX : CTX p s m args c cc nL own w0 D cy A) (hd : decode cc pc = .ok (.ior, 1)) (h : binA (opO (bitR 1)) a = some a') (hk : OkA (Wq p l e R s m args below meth c Q) D cy A s.heap nL ω ad σ0 φ0 a' (pc + 1)) : OkA (Wq p l e R s m args below meth c Q) D cy A s.heap nL ω ad σ0 φ0 a pc := by
  intro σ φ ws lv stk H locs ls hσ hφ hG hP hD hS hl
  obtain ⟨hx, hb, hml, hown, hts, hK, hA⟩ := hX
  obtain ⟨⟨hB, hF, hC, hW⟩, hL, hT⟩ := hG
  obtain ⟨ex, ey, r, rs, x, y, st, h1, rfl, rfl, hvx, hvy, hr⟩ := binA_inv h hT
  have ho : OpOK σ rs (x ||| y).toInt := by
    cases (Option.some.inj h1)
    exact bitR_ok (o := 1) hB hC hvx hvy
  obtain ⟨τ, hg⟩ := GS.pushI ⟨hB, hF, hC, hW⟩ hL hr ho
  exact m_ior hx hb hd rfl (hk (σ ++ τ) φ ws lv _ H locs ls hσ.app hφ hg hP hD hS hl)
theorem s_ixor (hX : CTX p s m args c cc nL own w0 D cy A) (hd : decode cc pc = .ok (.ixor, 1)) (h : binA (opO (bitR 2)) a = some a') (hk : OkA (Wq p l e R s m args below meth c Q) D cy A s.heap nL ω ad σ0 φ0 a' (pc + 1)) : OkA (Wq p l e R s m args below meth c Q) D cy A s.heap nL ω ad σ0 φ0 a pc := by
  intro σ φ ws lv stk H locs ls hσ hφ hG hP hD hS hl
  obtain ⟨hx, hb, hml, hown, hts, hK, hA⟩ := hX
  obtain ⟨⟨hB, hF, hC, hW⟩, hL, hT⟩ := hG
  obtain ⟨ex, ey, r, rs, x, y, st, h1, rfl, rfl, hvx, hvy, hr⟩ := binA_inv h hT
  have ho : OpOK σ rs (x ^^^ y).toInt := by
    cases (Option.some.inj h1)
    exact bitR_ok (o := 2) hB hC hvx hvy
  obtain ⟨τ, hg⟩ := GS.pushI ⟨hB, hF, hC, hW⟩ hL hr ho
  exact m_ixor hx hb hd rfl (hk (σ ++ τ) φ ws lv _ H locs ls hσ.app hφ hg hP hD hS hl)
theorem s_ishl (hX : CTX p s m args c cc nL own w0 D cy A) (hd : decode cc pc = .ok (.ishl, 1)) (h : binA (opO (bitR 3)) a = some a') (hk : OkA (Wq p l e R s m args below meth c Q) D cy A s.heap nL ω ad σ0 φ0 a' (pc + 1)) : OkA (Wq p l e R s m args below meth c Q) D cy A s.heap nL ω ad σ0 φ0 a pc := by
  intro σ φ ws lv stk H locs ls hσ hφ hG hP hD hS hl
  obtain ⟨hx, hb, hml, hown, hts, hK, hA⟩ := hX
  obtain ⟨⟨hB, hF, hC, hW⟩, hL, hT⟩ := hG
  obtain ⟨ex, ey, r, rs, x, y, st, h1, rfl, rfl, hvx, hvy, hr⟩ := binA_inv h hT
  have ho : OpOK σ rs (x <<< (y &&& 31)).toInt := by
    cases (Option.some.inj h1)
    exact bitR_ok (o := 3) hB hC hvx hvy
  obtain ⟨τ, hg⟩ := GS.pushI ⟨hB, hF, hC, hW⟩ hL hr ho
  exact m_ishl hx hb hd rfl (hk (σ ++ τ) φ ws lv _ H locs ls hσ.app hφ hg hP hD hS hl)
theorem s_ishr (hX : CTX p s m args c cc nL own w0 D cy A) (hd : decode cc pc = .ok (.ishr, 1)) (h : binA (opO (bitR 4)) a = some a') (hk : OkA (Wq p l e R s m args below meth c Q) D cy A s.heap nL ω ad σ0 φ0 a' (pc + 1)) : OkA (Wq p l e R s m args below meth c Q) D cy A s.heap nL ω ad σ0 φ0 a pc := by
  intro σ φ ws lv stk H locs ls hσ hφ hG hP hD hS hl
  obtain ⟨hx, hb, hml, hown, hts, hK, hA⟩ := hX
  obtain ⟨⟨hB, hF, hC, hW⟩, hL, hT⟩ := hG
  obtain ⟨ex, ey, r, rs, x, y, st, h1, rfl, rfl, hvx, hvy, hr⟩ := binA_inv h hT
  have ho : OpOK σ rs (x >>> (y &&& 31)).toInt := by
    cases (Option.some.inj h1)
    exact bitR_ok (o := 4) hB hC hvx hvy
  obtain ⟨τ, hg⟩ := GS.pushI ⟨hB, hF, hC, hW⟩ hL hr ho
  exact m_ishr hx hb hd rfl (hk (σ ++ τ) φ ws lv _ H locs ls hσ.app hφ hg hP hD hS hl)
theorem s_iushr (hX : CTX p s m args c cc nL own w0 D cy A) (hd : decode cc pc = .ok (.iushr, 1)) (h : binA (opO (bitR 5)) a = some a') (hk : OkA (Wq p l e R s m args below meth c Q) D cy A s.heap nL ω ad σ0 φ0 a' (pc + 1)) : OkA (Wq p l e R s m args below meth c Q) D cy A s.heap nL ω ad σ0 φ0 a pc := by
  intro σ φ ws lv stk H locs ls hσ hφ hG hP hD hS hl
  obtain ⟨hx, hb, hml, hown, hts, hK, hA⟩ := hX
  obtain ⟨⟨hB, hF, hC, hW⟩, hL, hT⟩ := hG
  obtain ⟨ex, ey, r, rs, x, y, st, h1, rfl, rfl, hvx, hvy, hr⟩ := binA_inv h hT
  have ho : OpOK σ rs ((x.toUInt32 >>> (y.toUInt32 &&& Int32.toUInt32 31)).toInt32).toInt := by
    cases (Option.some.inj h1)
    exact bitR_ok (o := 5) hB hC hvx hvy
  obtain ⟨τ, hg⟩ := GS.pushI ⟨hB, hF, hC, hW⟩ hL hr ho
  exact lv_iushr hx hb hd rfl (hk (σ ++ τ) φ ws lv _ H locs ls hσ.app hφ hg hP hD hS hl)
theorem s_idiv (hX : CTX p s m args c cc nL own w0 D cy A) (hd : decode cc pc = .ok (.idiv, 1)) (h : binA (divR mnI mxI) a = some a') (hk : OkA (Wq p l e R s m args below meth c Q) D cy A s.heap nL ω ad σ0 φ0 a' (pc + 1)) : OkA (Wq p l e R s m args below meth c Q) D cy A s.heap nL ω ad σ0 φ0 a pc := by
  intro σ φ ws lv stk H locs ls hσ hφ hG hP hD hS hl
  obtain ⟨hx, hb, hml, hown, hts, hK, hA⟩ := hX
  obtain ⟨⟨hB, hF, hC, hW⟩, hL, hT⟩ := hG
  obtain ⟨ex, ey, r, rs, x, y, st, h1, rfl, rfl, hvx, hvy, hr⟩ := binA_inv h hT
  obtain ⟨hne, ho⟩ := divR_ok hB hC hvx hvy (i32_lo (x / y)) (i32_hi (x / y)) (fun g1 g2 => i32_div g1 g2) h1
  obtain ⟨τ, hg⟩ := GS.pushI ⟨hB, hF, hC, hW⟩ hL hr ho
  exact m_idiv hx hb hd (ne0I hne) rfl (hk (σ ++ τ) φ ws lv _ H locs ls hσ.app hφ hg hP hD hS hl)
theorem s_irem (hX : CTX p s m args c cc nL own w0 D cy A) (hd : decode cc pc = .ok (.irem, 1)) (h : binA (remR mnI mxI) a = some a') (hk : OkA (Wq p l e R s m args below meth c Q) D cy A s.heap nL ω ad σ0 φ0 a' (pc + 1)) : OkA (Wq p l e R s m args below meth c Q) D cy A s.heap nL ω ad σ0 φ0 a pc := by
  intro σ φ ws lv stk H locs ls hσ hφ hG hP hD hS hl
  obtain ⟨hx, hb, hml, hown, hts, hK, hA⟩ := hX
  obtain ⟨⟨hB, hF, hC, hW⟩, hL, hT⟩ := hG
  obtain ⟨ex, ey, r, rs, x, y, st, h1, rfl, rfl, hvx, hvy, hr⟩ := binA_inv h hT
  obtain ⟨hne, ho⟩ := remR_ok hB hC hvx hvy (i32_lo (x - x / y * y)) (i32_hi (x - x / y * y)) (fun g1 g2 => i32_rem g1 g2) h1
  obtain ⟨τ, hg⟩ := GS.pushI ⟨hB, hF, hC, hW⟩ hL hr ho
  exact m_irem hx hb hd (ne0I hne) rfl (hk (σ ++ τ) φ ws lv _ H locs ls hσ.app hφ hg hP hD hS hl)
theorem s_ladd (hX : CTX p s m args c cc nL own w0 D cy A) (hd : decode cc pc = .ok (.ladd, 1)) (h : binL (opO (addR mnL mxL)) a = some a') (hk : OkA (Wq p l e R s m args below meth c Q) D cy A s.heap nL ω ad σ0 φ0 a' (pc + 1)) : OkA (Wq p l e R s m args below meth c Q) D cy A s.heap nL ω ad σ0 φ0 a pc := by
  intro σ φ ws lv stk H locs ls hσ hφ hG hP hD hS hl
  obtain ⟨hx, hb, hml, hown, hts, hK, hA⟩ := hX
  obtain ⟨⟨hB, hF, hC, hW⟩, hL, hT⟩ := hG
  obtain ⟨ex, ey, r, rs, x, y, st, h1, rfl, rfl, hvx, hvy, hr⟩ := binL_inv h hT
  have ho : OpOK σ rs (x + y).toInt := by
    cases (Option.some.inj h1)
    exact addR_ok hB hC hvx hvy (i64_lo _) (i64_hi _) (fun g1 g2 => i64_add g1 g2)
  obtain ⟨τ, hg⟩ := GS.pushL ⟨hB, hF, hC, hW⟩ hL hr ho
  exact m_ladd hx hb hd rfl (hk (σ ++ τ) φ ws lv _ H locs ls hσ.app hφ hg hP hD hS hl)
theorem s_lmul (hX : CTX p s m args c cc nL own w0 D cy A) (hd : decode cc pc = .ok (.lmul, 1)) (h : binL (opO (mulR mnL mxL)) a = some a') (hk : OkA (Wq p l e R s m args below meth c Q) D cy A s.heap nL ω ad σ0 φ0 a' (pc + 1)) : OkA (Wq p l e R s m args below meth c Q) D cy A s.heap nL ω ad σ0 φ0 a pc := by
  intro σ φ ws lv stk H locs ls hσ hφ hG hP hD hS hl
  obtain ⟨hx, hb, hml, hown, hts, hK, hA⟩ := hX
  obtain ⟨⟨hB, hF, hC, hW⟩, hL, hT⟩ := hG
  obtain ⟨ex, ey, r, rs, x, y, st, h1, rfl, rfl, hvx, hvy, hr⟩ := binL_inv h hT
  have ho : OpOK σ rs (x * y).toInt := by
    cases (Option.some.inj h1)
    exact mulR_ok hB hC hvx hvy (by decide) (i64_lo _) (i64_hi _) (fun g1 g2 => i64_mul g1 g2)
  obtain ⟨τ, hg⟩ := GS.pushL ⟨hB, hF, hC, hW⟩ hL hr ho
  exact m_lmul hx hb hd rfl (hk (σ ++ τ) φ ws lv _ H locs ls hσ.app hφ hg hP hD hS hl)
theorem s_land (hX : CTX p s m args c cc nL own w0 D cy A) (hd : decode cc pc = .ok (.land, 1)) (h : binL (opO (fun b c _ _ => fullL b c)) a = some a') (hk : OkA (Wq p l e R s m args below meth c Q) D cy A s.heap nL ω ad σ0 φ0 a' (pc + 1)) : OkA (Wq p l e R s m args below meth c Q) D cy A s.heap nL ω ad σ0 φ0 a pc := by
  intro σ φ ws lv stk H locs ls hσ hφ hG hP hD hS hl
  obtain ⟨hx, hb, hml, hown, hts, hK, hA⟩ := hX
  obtain ⟨⟨hB, hF, hC, hW⟩, hL, hT⟩ := hG
  obtain ⟨ex, ey, r, rs, x, y, st, h1, rfl, rfl, hvx, hvy, hr⟩ := binL_inv h hT
  have ho : OpOK σ rs (x &&& y).toInt := by
    cases (Option.some.inj h1)
    exact fullL_ok hB hC _
  obtain ⟨τ, hg⟩ := GS.pushL ⟨hB, hF, hC, hW⟩ hL hr ho
  exact m_land hx hb hd rfl (hk (σ ++ τ) φ ws lv _ H locs ls hσ.app hφ hg hP hD hS hl)
theorem s_lor (hX : CTX p s m args c cc nL own w0 D cy A) (hd : decode cc pc = .ok (.lor, 1)) (h : binL (opO (fun b c _ _ => fullL b c)) a = some a') (hk : OkA (Wq p l e R s m args below meth c Q) D cy A s.heap nL ω ad σ0 φ0 a' (pc + 1)) : OkA (Wq p l e R s m args below meth c Q) D cy A s.heap nL ω ad σ0 φ0 a pc := by
  intro σ φ ws lv stk H locs ls hσ hφ hG hP hD hS hl
  obtain ⟨hx, hb, hml, hown, hts, hK, hA⟩ := hX
  obtain ⟨⟨hB, hF, hC, hW⟩, hL, hT⟩ := hG
  obtain ⟨ex, ey, r, rs, x, y, st, h1, rfl, rfl, hvx, hvy, hr⟩ := binL_inv h hT
  have ho : OpOK σ rs (x ||| y).toInt := by
    cases (Option.some.inj h1)
    exact fullL_ok hB hC _
  obtain ⟨τ, hg⟩ := GS.pushL ⟨hB, hF, hC, hW⟩ hL hr ho
  exact m_lor hx hb hd rfl (hk (σ ++ τ) φ ws lv _ H locs ls hσ.app hφ hg hP hD hS hl)
theorem s_ldiv (hX : CTX p s m args c cc nL own w0 D cy A) (hd : decode cc pc = .ok (.ldiv, 1)) (h : binL (divR mnL mxL) a = some a') (hk : OkA (Wq p l e R s m args below meth c Q) D cy A s.heap nL ω ad σ0 φ0 a' (pc + 1)) : OkA (Wq p l e R s m args below meth c Q) D cy A s.heap nL ω ad σ0 φ0 a pc := by
  intro σ φ ws lv stk H locs ls hσ hφ hG hP hD hS hl
  obtain ⟨hx, hb, hml, hown, hts, hK, hA⟩ := hX
  obtain ⟨⟨hB, hF, hC, hW⟩, hL, hT⟩ := hG
  obtain ⟨ex, ey, r, rs, x, y, st, h1, rfl, rfl, hvx, hvy, hr⟩ := binL_inv h hT
  obtain ⟨hne, ho⟩ := divR_ok hB hC hvx hvy (i64_lo (x / y)) (i64_hi (x / y)) (fun g1 g2 => i64_div g1 g2) h1
  obtain ⟨τ, hg⟩ := GS.pushL ⟨hB, hF, hC, hW⟩ hL hr ho
  exact m_ldiv hx hb hd (ne0L hne) rfl (hk (σ ++ τ) φ ws lv _ H locs ls hσ.app hφ hg hP hD hS hl)
theorem s_lrem (hX : CTX p s m args c cc nL own w0 D cy A) (hd : decode cc pc = .ok (.lrem, 1)) (h : binL (remR mnL mxL) a = some a') (hk : OkA (Wq p l e R s m args below meth c Q) D cy A s.heap nL ω ad σ0 φ0 a' (pc + 1)) : OkA (Wq p l e R s m args below meth c Q) D cy A s.heap nL ω ad σ0 φ0 a pc := by
  intro σ φ ws lv stk H locs ls hσ hφ hG hP hD hS hl
  obtain ⟨hx, hb, hml, hown, hts, hK, hA⟩ := hX
  obtain ⟨⟨hB, hF, hC, hW⟩, hL, hT⟩ := hG
  obtain ⟨ex, ey, r, rs, x, y, st, h1, rfl, rfl, hvx, hvy, hr⟩ := binL_inv h hT
  obtain ⟨hne, ho⟩ := remR_ok hB hC hvx hvy (i64_lo (x - x / y * y)) (i64_hi (x - x / y * y)) (fun g1 g2 => i64_rem g1 g2) h1
  obtain ⟨τ, hg⟩ := GS.pushL ⟨hB, hF, hC, hW⟩ hL hr ho
  exact m_lrem hx hb hd (ne0L hne) rfl (hk (σ ++ τ) φ ws lv _ H locs ls hσ.app hφ hg hP hD hS hl)
theorem s_lsub (hX : CTX p s m args c cc nL own w0 D cy A) (hd : decode cc pc = .ok (.lsub, 1)) (h : binL (opO (subR mnL mxL)) a = some a') (hk : OkA (Wq p l e R s m args below meth c Q) D cy A s.heap nL ω ad σ0 φ0 a' (pc + 1)) : OkA (Wq p l e R s m args below meth c Q) D cy A s.heap nL ω ad σ0 φ0 a pc := by
  intro σ φ ws lv stk H locs ls hσ hφ hG hP hD hS hl
  obtain ⟨hx, hb, hml, hown, hts, hK, hA⟩ := hX
  obtain ⟨⟨hB, hF, hC, hW⟩, hL, hT⟩ := hG
  obtain ⟨ex, ey, r, rs, x, y, st, h1, rfl, rfl, hvx, hvy, hr⟩ := binL_inv h hT
  have ho : OpOK σ rs (x - y).toInt := by
    cases (Option.some.inj h1)
    exact subR_ok hB hC hvx hvy (i64_lo _) (i64_hi _) (fun g1 g2 => i64_sub g1 g2)
  obtain ⟨τ, hg⟩ := GS.pushL ⟨hB, hF, hC, hW⟩ hL hr ho
  exact lv_lsub hx hb hd (hk (σ ++ τ) φ ws lv _ H locs ls hσ.app hφ hg hP hD hS hl)
def cmpA (a : AS) : Option AS := match a.2.2 with
  | .inr (.inl _) :: .inr (.inl _) :: r => some (pushI a.1 a.2.1 r (ivR a.1.1 a.1.2.2.1 (-1) 1))
  | _ => none
theorem s_lcmp (hX : CTX p s m args c cc nL own w0 D cy A) (hd : decode cc pc = .ok (.lcmp, 1)) (h : cmpA a = some a') (hk : OkA (Wq p l e R s m args below meth c Q) D cy A s.heap nL ω ad σ0 φ0 a' (pc + 1)) : OkA (Wq p l e R s m args below meth c Q) D cy A s.heap nL ω ad σ0 φ0 a pc := by
  intro σ φ ws lv stk H locs ls hσ hφ hG hP hD hS hl
  obtain ⟨hx, hb, hml, hown, hts, hK, hA⟩ := hX
  obtain ⟨⟨hB, hF, hC, hW⟩, hL, hT⟩ := hG
  unfold cmpA at h
  split at h
  · rename_i y x r q
    rw [q] at hT
    cases h
    match stk, hT with
    | v1 :: v2 :: st, hT =>
      obtain ⟨x1, rfl, h1⟩ := hT.1.1
      obtain ⟨x2, rfl, h2⟩ := hT.2.1.1
      have hc : lg_cmp x2 x1 = -1 ∨ lg_cmp x2 x1 = 0 ∨ lg_cmp x2 x1 = 1 := by
        unfold lg_cmp
        repeat' split
        all_goals simp
      have hc2 := i32_lcmp hc
      obtain ⟨τ, hg⟩ := GS.pushI ⟨hB, hF, hC, hW⟩ hL hT.2.2 (ivR_ok hB hC hc2.1 hc2.2)
      exact m_lcmp hx hb hd rfl (hk (σ ++ τ) φ ws lv _ H locs ls hσ.app hφ hg hP hD hS hl)
    | [v1], hT => exact hT.2.elim
    | [], hT => exact hT.elim
  · cases h
def shL (a : AS) : Option AS := match a.2.2 with
  | .inl _ :: .inr (.inl _) :: r => some (pushL a.1 a.2.1 r (fullL a.1.1 a.1.2.2.1))
  | _ => none
theorem s_lushr (hX : CTX p s m args c cc nL own w0 D cy A) (hd : decode cc pc = .ok (.lushr, 1)) (h : shL a = some a') (hk : OkA (Wq p l e R s m args below meth c Q) D cy A s.heap nL ω ad σ0 φ0 a' (pc + 1)) : OkA (Wq p l e R s m args below meth c Q) D cy A s.heap nL ω ad σ0 φ0 a pc := by
  intro σ φ ws lv stk H locs ls hσ hφ hG hP hD hS hl
  obtain ⟨hx, hb, hml, hown, hts, hK, hA⟩ := hX
  obtain ⟨⟨hB, hF, hC, hW⟩, hL, hT⟩ := hG
  unfold shL at h
  split at h
  · rename_i y x r q
    rw [q] at hT
    cases h
    match stk, hT with
    | v1 :: v2 :: st, hT =>
      obtain ⟨x1, rfl, h1⟩ := hT.1.1
      obtain ⟨x2, rfl, h2⟩ := hT.2.1.1
      obtain ⟨τ, hg⟩ := GS.pushL ⟨hB, hF, hC, hW⟩ hL hT.2.2 (fullL_ok hB hC _)
      exact lv_lushr hx hb hd rfl (hk (σ ++ τ) φ ws lv _ H locs ls hσ.app hφ hg hP hD hS hl)
    | [v1], hT => exact hT.2.elim
    | [], hT => exact hT.elim
  · cases h
theorem s_lshl (hX : CTX p s m args c cc nL own w0 D cy A) (hd : decode cc pc = .ok (.lshl, 1)) (h : shL a = some a') (hk : OkA (Wq p l e R s m args below meth c Q) D cy A s.heap nL ω ad σ0 φ0 a' (pc + 1)) : OkA (Wq p l e R s m args below meth c Q) D cy A s.heap nL ω ad σ0 φ0 a pc := by
  intro σ φ ws lv stk H locs ls hσ hφ hG hP hD hS hl
  obtain ⟨hx, hb, hml, hown, hts, hK, hA⟩ := hX
  obtain ⟨⟨hB, hF, hC, hW⟩, hL, hT⟩ := hG
  unfold shL at h
  split at h
  · rename_i y x r q
    rw [q] at hT
    cases h
    match stk, hT with
    | v1 :: v2 :: st, hT =>
      obtain ⟨x1, rfl, h1⟩ := hT.1.1
      obtain ⟨x2, rfl, h2⟩ := hT.2.1.1
      obtain ⟨τ, hg⟩ := GS.pushL ⟨hB, hF, hC, hW⟩ hL hT.2.2 (fullL_ok hB hC _)
      exact lv_lshl hx hb hd rfl (hk (σ ++ τ) φ ws lv _ H locs ls hσ.app hφ hg hP hD hS hl)
    | [v1], hT => exact hT.2.elim
    | [], hT => exact hT.elim
  · cases h
def unA (f : BS → CS → Nat × Int → RS) (a : AS) : Option AS := match a.2.2 with
  | .inl x :: r => some (pushI a.1 a.2.1 r (f a.1.1 a.1.2.2.1 x))
  | _ => none
theorem unA_inv {f : BS → CS → Nat × Int → RS} {σ : List Int} {stk : List Value} (h : unA f a = some a') (hT : P2 (gx σ ω ad) a.2.2 stk) : ∃ (ex : Nat × Int) (r : List AV) (x : Int32) (st : List Value), a' = pushI a.1 a.2.1 r (f a.1.1 a.1.2.2.1 ex) ∧ stk = .int x :: st ∧ vl σ ex x.toInt ∧ P2 (gx σ ω ad) r st := by
  unfold unA at h
  split at h
  · rename_i x r q
    rw [q] at hT
    cases h
    match stk, hT with
    | v1 :: st, hT =>
      obtain ⟨x1, rfl, h1⟩ := hT.1.1
      exact ⟨x, r, x1, st, rfl, rfl, h1, hT.2⟩
    | [], hT => exact hT.elim
  · cases h
theorem s_ineg (hX : CTX p s m args c cc nL own w0 D cy A) (hd : decode cc pc = .ok (.ineg, 1)) (h : unA (fun b c _ => fullR b c) a = some a') (hk : OkA (Wq p l e R s m args below meth c Q) D cy A s.heap nL ω ad σ0 φ0 a' (pc + 1)) : OkA (Wq p l e R s m args below meth c Q) D cy A s.heap nL ω ad σ0 φ0 a pc := by
  intro σ φ ws lv stk H locs ls hσ hφ hG hP hD hS hl
  obtain ⟨hx, hb, hml, hown, hts, hK, hA⟩ := hX
  obtain ⟨⟨hB, hF, hC, hW⟩, hL, hT⟩ := hG
  obtain ⟨ex, r, x, st, rfl, rfl, hvx, hr⟩ := unA_inv h hT
  obtain ⟨τ, hg⟩ := GS.pushI (x := -x) ⟨hB, hF, hC, hW⟩ hL hr (fullR_ok hB hC _)
  exact m_ineg hx hb hd rfl (hk (σ ++ τ) φ ws lv _ H locs ls hσ.app hφ hg hP hD hS hl)
theorem s_i2b (hX : CTX p s m args c cc nL own w0 D cy A) (hd : decode cc pc = .ok (.i2b, 1)) (h : unA (fun b c _ => ivR b c (-128) 127) a = some a') (hk : OkA (Wq p l e R s m args below meth c Q) D cy A s.heap nL ω ad σ0 φ0 a' (pc + 1)) : OkA (Wq p l e R s m args below meth c Q) D cy A s.heap nL ω ad σ0 φ0 a pc := by
  intro σ φ ws lv stk H locs ls hσ hφ hG hP hD hS hl
  obtain ⟨hx, hb, hml, hown, hts, hK, hA⟩ := hX
  obtain ⟨⟨hB, hF, hC, hW⟩, hL, hT⟩ := hG
  obtain ⟨ex, r, x, st, rfl, rfl, hvx, hr⟩ := unA_inv h hT
  obtain ⟨τ, hg⟩ := GS.pushI (x := x.toInt8.toInt32) ⟨hB, hF, hC, hW⟩ hL hr (ivR_ok hB hC (i32_b x).1 (i32_b x).2)
  exact lv_i2b hx hb hd rfl (hk (σ ++ τ) φ ws lv _ H locs ls hσ.app hφ hg hP hD hS hl)
theorem s_i2c (hX : CTX p s m args c cc nL own w0 D cy A) (hd : decode cc pc = .ok (.i2c, 1)) (h : unA (fun b c _ => ivR b c 0 65535) a = some a') (hk : OkA (Wq p l e R s m args below meth c Q) D cy A s.heap nL ω ad σ0 φ0 a' (pc + 1)) : OkA (Wq p l e R s m args below meth c Q) D cy A s.heap nL ω ad σ0 φ0 a pc := by
  intro σ φ ws lv stk H locs ls hσ hφ hG hP hD hS hl
  obtain ⟨hx, hb, hml, hown, hts, hK, hA⟩ := hX
  obtain ⟨⟨hB, hF, hC, hW⟩, hL, hT⟩ := hG
  obtain ⟨ex, r, x, st, rfl, rfl, hvx, hr⟩ := unA_inv h hT
  obtain ⟨τ, hg⟩ := GS.pushI (x := (x.toUInt32 % 65536).toInt32) ⟨hB, hF, hC, hW⟩ hL hr (ivR_ok hB hC (i32_u16 x).1 (i32_u16 x).2)
  exact lv_i2c hx hb hd rfl (hk (σ ++ τ) φ ws lv _ H locs ls hσ.app hφ hg hP hD hS hl)
def i2lA (a : AS) : Option AS := match a.2.2 with
  | .inl x :: r => some (a.1, a.2.1, .inr (.inl x) :: r)
  | _ => none
theorem s_i2l (hX : CTX p s m args c cc nL own w0 D cy A) (hd : decode cc pc = .ok (.i2l, 1)) (h : i2lA a = some a') (hk : OkA (Wq p l e R s m args below meth c Q) D cy A s.heap nL ω ad σ0 φ0 a' (pc + 1)) : OkA (Wq p l e R s m args below meth c Q) D cy A s.heap nL ω ad σ0 φ0 a pc := by
  intro σ φ ws lv stk H locs ls hσ hφ hG hP hD hS hl
  obtain ⟨hx, hb, hml, hown, hts, hK, hA⟩ := hX
  obtain ⟨⟨hB, hF, hC, hW⟩, hL, hT⟩ := hG
  unfold i2lA at h
  split at h
  · rename_i x r q
    rw [q] at hT
    cases h
    match stk, hT with
    | v1 :: st, hT =>
      obtain ⟨x1, rfl, h1⟩ := hT.1.1
      exact lv_i2l hx hb hd rfl (hk σ φ ws lv _ H locs ls hσ hφ ⟨⟨hB, hF, hC, hW⟩, hL, ⟨⟨x1.toInt64, rfl, by rw [Int32.toInt_toInt64]; exact h1⟩, rfl⟩, hT.2⟩ hP hD hS hl)
    | [], hT => exact hT.elim
  · cases h
def l2iA (a : AS) : Option AS := match a.2.2 with
  | .inr (.inl x) :: r => (match bnd a.1.1 a.1.2.2.1 x with
    | some b => if inR mnI mxI b.1 b.2 then some (a.1, a.2.1, .inl x :: r) else some (pushI a.1 a.2.1 r (fullR a.1.1 a.1.2.2.1))
    | none => none)
  | _ => none
theorem s_l2i (hX : CTX p s m args c cc nL own w0 D cy A) (hd : decode cc pc = .ok (.l2i, 1)) (h : l2iA a = some a') (hk : OkA (Wq p l e R s m args below meth c Q) D cy A s.heap nL ω ad σ0 φ0 a' (pc + 1)) : OkA (Wq p l e R s m args below meth c Q) D cy A s.heap nL ω ad σ0 φ0 a pc := by
  intro σ φ ws lv stk H locs ls hσ hφ hG hP hD hS hl
  obtain ⟨hx, hb, hml, hown, hts, hK, hA⟩ := hX
  obtain ⟨⟨hB, hF, hC, hW⟩, hL, hT⟩ := hG
  unfold l2iA at h
  split at h
  · rename_i x r q
    rw [q] at hT
    match stk, hT with
    | v1 :: st, hT =>
      obtain ⟨x1, rfl, h1⟩ := hT.1.1
      cases q2 : bnd a.1.1 a.1.2.2.1 x with
      | none => rw [q2] at h; cases h
      | some b =>
        rw [q2] at h
        dsimp only at h
        have g := bnd_ok hB hC q2 h1
        by_cases t : inR mnI mxI b.1 b.2 = true
        · rw [if_pos t] at h
          have t' := inR_ok t
          cases h
          have e1 : x1.toInt32.toInt = x1.toInt := by
            rw [Int64.toInt_toInt32]
            exact bm32 (by omega) (by omega)
          exact lv_l2i hx hb hd rfl (hk σ φ ws lv _ H locs ls hσ hφ ⟨⟨hB, hF, hC, hW⟩, hL, ⟨⟨x1.toInt32, rfl, by rw [e1]; exact h1⟩, rfl⟩, hT.2⟩ hP hD hS hl)
        · rw [if_neg t] at h
          cases h
          obtain ⟨τ, hg⟩ := GS.pushI (x := x1.toInt32) ⟨hB, hF, hC, hW⟩ hL hT.2 (fullR_ok hB hC _)
          exact lv_l2i hx hb hd rfl (hk (σ ++ τ) φ ws lv _ H locs ls hσ.app hφ hg hP hD hS hl)
    | [], hT => exact hT.elim
  · cases h
theorem cat1 {v : Value} {b : Bool} (h : (v.category == 2) = b) (hb : b = false) : v.category = 1 := by
  rw [hb] at h
  have h2 : ¬ v.category = 2 := by simpa using h
  rcases lv_cat v with q | q
  · exact q
  · exact absurd q h2
theorem cat2 {v : Value} {b : Bool} (h : (v.category == 2) = b) (hb : b = true) : v.category = 2 := by
  rw [hb] at h
  simpa using h
def dupA (a : AS) : Option AS := match a.2.2 with
  | x :: r => if c2 x then none else some (a.1, a.2.1, x :: x :: r)
  | _ => none
def popA (a : AS) : Option AS := match a.2.2 with
  | x :: r => if c2 x then none else some (a.1, a.2.1, r)
  | _ => none
def dupx1A (a : AS) : Option AS := match a.2.2 with
  | x :: y :: r => if c2 x || c2 y then none else some (a.1, a.2.1, x :: y :: x :: r)
  | _ => none
def dup2A (a : AS) : Option AS := match a.2.2 with
  | x :: y :: r => if c2 x then some (a.1, a.2.1, x :: x :: y :: r) else if c2 y then none else some (a.1, a.2.1, x :: y :: x :: y :: r)
  | [x] => if c2 x then some (a.1, a.2.1, [x, x]) else none
  | _ => none
theorem s_dup (hX : CTX p s m args c cc nL own w0 D cy A) (hd : decode cc pc = .ok (.dup, 1)) (h : dupA a = some a') (hk : OkA (Wq p l e R s m args below meth c Q) D cy A s.heap nL ω ad σ0 φ0 a' (pc + 1)) : OkA (Wq p l e R s m args below meth c Q) D cy A s.heap nL ω ad σ0 φ0 a pc := by
  intro σ φ ws lv stk H locs ls hσ hφ hG hP hD hS hl
  obtain ⟨hx, hb, hml, hown, hts, hK, hA⟩ := hX
  obtain ⟨⟨hB, hF, hC, hW⟩, hL, hT⟩ := hG
  unfold dupA at h
  split at h
  · rename_i x r q
    rw [q] at hT
    match stk, hT with
    | v1 :: st, hT =>
      by_cases t : c2 x = true
      · rw [if_pos t] at h
        cases h
      · rw [if_neg t] at h
        cases h
        have t1 := cat1 hT.1.2 (by simpa using t)
        exact lv_dup hx hb hd t1 (hk σ φ ws lv _ H locs ls hσ hφ ⟨⟨hB, hF, hC, hW⟩, hL, ⟨hT.1, hT.1, hT.2⟩⟩ hP hD hS hl)
    | [], hT => exact hT.elim
  · cases h
theorem s_pop (hX : CTX p s m args c cc nL own w0 D cy A) (hd : decode cc pc = .ok (.pop, 1)) (h : popA a = some a') (hk : OkA (Wq p l e R s m args below meth c Q) D cy A s.heap nL ω ad σ0 φ0 a' (pc + 1)) : OkA (Wq p l e R s m args below meth c Q) D cy A s.heap nL ω ad σ0 φ0 a pc := by
  intro σ φ ws lv stk H locs ls hσ hφ hG hP hD hS hl
  obtain ⟨hx, hb, hml, hown, hts, hK, hA⟩ := hX
  obtain ⟨⟨hB, hF, hC, hW⟩, hL, hT⟩ := hG
  unfold popA at h
  split at h
  · rename_i x r q
    rw [q] at hT
    match stk, hT with
    | v1 :: st, hT =>
      by_cases t : c2 x = true
      · rw [if_pos t] at h
        cases h
      · rw [if_neg t] at h
        cases h
        have t1 := cat1 hT.1.2 (by simpa using t)
        exact lv_pop hx hb hd t1 (hk σ φ ws lv _ H locs ls hσ hφ ⟨⟨hB, hF, hC, hW⟩, hL, hT.2⟩ hP hD hS hl)
    | [], hT => exact hT.elim
  · cases h
theorem s_dup_x1 (hX : CTX p s m args c cc nL own w0 D cy A) (hd : decode cc pc = .ok (.dup_x1, 1)) (h : dupx1A a = some a') (hk : OkA (Wq p l e R s m args below meth c Q) D cy A s.heap nL ω ad σ0 φ0 a' (pc + 1)) : OkA (Wq p l e R s m args below meth c Q) D cy A s.heap nL ω ad σ0 φ0 a pc := by
  intro σ φ ws lv stk H locs ls hσ hφ hG hP hD hS hl
  obtain ⟨hx, hb, hml, hown, hts, hK, hA⟩ := hX
  obtain ⟨⟨hB, hF, hC, hW⟩, hL, hT⟩ := hG
  unfold dupx1A at h
  split at h
  · rename_i x y r q
    rw [q] at hT
    match stk, hT with
    | v1 :: v2 :: st, hT =>
      by_cases t : (c2 x || c2 y) = true
      · rw [if_pos t] at h
        cases h
      · rw [if_neg t] at h
        cases h
        have t' : c2 x = false ∧ c2 y = false := by simpa using t
        exact lv_dup_x1 hx hb hd (cat1 hT.1.2 t'.1) (cat1 hT.2.1.2 t'.2) (hk σ φ ws lv _ H locs ls hσ hφ ⟨⟨hB, hF, hC, hW⟩, hL, hT.1, hT.2.1, hT.1, hT.2.2⟩ hP hD hS hl)
    | [v1], hT => exact hT.2.elim
    | [], hT => exact hT.elim
  · cases h
theorem s_dup2 (hX : CTX p s m args c cc nL own w0 D cy A) (hd : decode cc pc = .ok (.dup2, 1)) (h : dup2A a = some a') (hk : OkA (Wq p l e R s m args below meth c Q) D cy A s.heap nL ω ad σ0 φ0 a' (pc + 1)) : OkA (Wq p l e R s m args below meth c Q) D cy A s.heap nL ω ad σ0 φ0 a pc := by
  intro σ φ ws lv stk H locs ls hσ hφ hG hP hD hS hl
  obtain ⟨hx, hb, hml, hown, hts, hK, hA⟩ := hX
  obtain ⟨⟨hB, hF, hC, hW⟩, hL, hT⟩ := hG
  unfold dup2A at h
  split at h
  · rename_i x y r q
    rw [q] at hT
    match stk, hT with
    | v1 :: v2 :: st, hT =>
      by_cases t : c2 x = true
      · rw [if_pos t] at h
        cases h
        exact lv_dup2_2 hx hb hd (cat2 hT.1.2 t) (hk σ φ ws lv _ H locs ls hσ hφ ⟨⟨hB, hF, hC, hW⟩, hL, hT.1, hT.1, hT.2.1, hT.2.2⟩ hP hD hS hl)
      · rw [if_neg t] at h
        by_cases t2 : c2 y = true
        · rw [if_pos t2] at h
          cases h
        · rw [if_neg t2] at h
          cases h
          exact lv_dup2_11 hx hb hd (cat1 hT.1.2 (by simpa using t)) (cat1 hT.2.1.2 (by simpa using t2)) (hk σ φ ws lv _ H locs ls hσ hφ ⟨⟨hB, hF, hC, hW⟩, hL, hT.1, hT.2.1, hT.1, hT.2.1, hT.2.2⟩ hP hD hS hl)
    | [v1], hT => exact hT.2.elim
    | [], hT => exact hT.elim
  · rename_i x q
    rw [q] at hT
    match stk, hT with
    | [v1], hT =>
      by_cases t : c2 x = true
      · rw [if_pos t] at h
        cases h
        exact lv_dup2_2 hx hb hd (cat2 hT.1.2 t) (hk σ φ ws lv _ H locs ls hσ hφ ⟨⟨hB, hF, hC, hW⟩, hL, hT.1, hT.1, trivial⟩ hP hD hS hl)
      · rw [if_neg t] at h
        cases h
    | v1 :: v2 :: st, hT => exact hT.2.elim
    | [], hT => exact hT.elim
  · cases h
end STEP
