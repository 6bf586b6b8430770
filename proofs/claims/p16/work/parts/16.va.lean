/-! the rows of the abstract walk, over any count of cells and slots; made by program out of parts 07 to 12; own -/
def Wc (nc ns : Nat) (p : Program) (l : Launch) (e : Env) (R : Room) (s : State) (m : MethodId) (args : Array Value) (below : List Frame) (meth : Method) (c : Code) (Q : State → Prop) (H : Heap) (locs : List Loc) (pc : Nat) (ls : Array Slot) (stk : List Value) : Prop := W p l e R s m args below meth c H locs nc ns Q (F0 m pc ls stk)
section QST
variable {nc ns : Nat} {p : Program} {l : Launch} {e : Env} {R : Room} {s : State} {m : MethodId} {args : Array Value} {below : List Frame} {meth : Method} {c : Code} {Q : State → Prop} {cc : ByteArray} {D : va_G} {cy : Nat → ClassId} {A : Nat → Prop} {nL : Nat} {own : String} {w0 : Cond} {ω : List Value} {ad : Nat → Nat} {σ0 : List Int} {φ0 : List (Nat → Int32)} {pc : Nat} {a a' : AS}
theorem q_s_iload_n (hX : CTX p s m args c cc nL own w0 D cy A) {k : Fin 4} (hd : decode cc pc = .ok (.iload_n k, 1)) (h : ldA k.val 0 a = some a') (hk : OkA (Wc nc ns p l e R s m args below meth c Q) D cy A s.heap nL ω ad σ0 φ0 a' (pc + 1)) : OkA (Wc nc ns p l e R s m args below meth c Q) D cy A s.heap nL ω ad σ0 φ0 a pc := by
  intro σ φ ws lv stk H locs ls hσ hφ hG hP hD hS hl
  obtain ⟨hx, hb, hml, hown, hts, hK, hA⟩ := hX
  obtain ⟨⟨hB, hF, hC, hW⟩, hL, hT⟩ := hG
  obtain ⟨k0, v, h1, h2, h3, h4, h5⟩ := ldA_inv h hL hT
  rcases h5 with ⟨_, x, rfl⟩ | ⟨q, _⟩ | ⟨q, _⟩
  · exact lv_iload_n hx hb hd rfl (lv_at hl k0 h1) (hk σ φ ws lv _ H locs ls hσ hφ ⟨by rw [h2]; exact ⟨hB, hF, hC, hW⟩, by rw [h3]; exact hL, h4⟩ hP hD hS hl)
  · cases q
  · cases q
theorem q_s_iload (hX : CTX p s m args c cc nL own w0 D cy A) {i : Nat} (hd : decode cc pc = .ok (.iload i, 2)) (h : ldA i 0 a = some a') (hk : OkA (Wc nc ns p l e R s m args below meth c Q) D cy A s.heap nL ω ad σ0 φ0 a' (pc + 2)) : OkA (Wc nc ns p l e R s m args below meth c Q) D cy A s.heap nL ω ad σ0 φ0 a pc := by
  intro σ φ ws lv stk H locs ls hσ hφ hG hP hD hS hl
  obtain ⟨hx, hb, hml, hown, hts, hK, hA⟩ := hX
  obtain ⟨⟨hB, hF, hC, hW⟩, hL, hT⟩ := hG
  obtain ⟨k0, v, h1, h2, h3, h4, h5⟩ := ldA_inv h hL hT
  rcases h5 with ⟨_, x, rfl⟩ | ⟨q, _⟩ | ⟨q, _⟩
  · exact lv_iload hx hb hd (lv_at hl k0 h1) (hk σ φ ws lv _ H locs ls hσ hφ ⟨by rw [h2]; exact ⟨hB, hF, hC, hW⟩, by rw [h3]; exact hL, h4⟩ hP hD hS hl)
  · cases q
  · cases q
theorem q_s_lload_n (hX : CTX p s m args c cc nL own w0 D cy A) {k : Fin 4} (hd : decode cc pc = .ok (.lload_n k, 1)) (h : ldA k.val 1 a = some a') (hk : OkA (Wc nc ns p l e R s m args below meth c Q) D cy A s.heap nL ω ad σ0 φ0 a' (pc + 1)) : OkA (Wc nc ns p l e R s m args below meth c Q) D cy A s.heap nL ω ad σ0 φ0 a pc := by
  intro σ φ ws lv stk H locs ls hσ hφ hG hP hD hS hl
  obtain ⟨hx, hb, hml, hown, hts, hK, hA⟩ := hX
  obtain ⟨⟨hB, hF, hC, hW⟩, hL, hT⟩ := hG
  obtain ⟨k0, v, h1, h2, h3, h4, h5⟩ := ldA_inv h hL hT
  rcases h5 with ⟨q, _⟩ | ⟨_, x, rfl⟩ | ⟨q, _⟩
  · cases q
  · exact lv_lload_n hx hb hd rfl (lv_at hl k0 h1) (hk σ φ ws lv _ H locs ls hσ hφ ⟨by rw [h2]; exact ⟨hB, hF, hC, hW⟩, by rw [h3]; exact hL, h4⟩ hP hD hS hl)
  · cases q
theorem q_s_lload (hX : CTX p s m args c cc nL own w0 D cy A) {i : Nat} (hd : decode cc pc = .ok (.lload i, 2)) (h : ldA i 1 a = some a') (hk : OkA (Wc nc ns p l e R s m args below meth c Q) D cy A s.heap nL ω ad σ0 φ0 a' (pc + 2)) : OkA (Wc nc ns p l e R s m args below meth c Q) D cy A s.heap nL ω ad σ0 φ0 a pc := by
  intro σ φ ws lv stk H locs ls hσ hφ hG hP hD hS hl
  obtain ⟨hx, hb, hml, hown, hts, hK, hA⟩ := hX
  obtain ⟨⟨hB, hF, hC, hW⟩, hL, hT⟩ := hG
  obtain ⟨k0, v, h1, h2, h3, h4, h5⟩ := ldA_inv h hL hT
  rcases h5 with ⟨q, _⟩ | ⟨_, x, rfl⟩ | ⟨q, _⟩
  · cases q
  · exact lv_lload hx hb hd (lv_at hl k0 h1) (hk σ φ ws lv _ H locs ls hσ hφ ⟨by rw [h2]; exact ⟨hB, hF, hC, hW⟩, by rw [h3]; exact hL, h4⟩ hP hD hS hl)
  · cases q
theorem q_s_aload_n (hX : CTX p s m args c cc nL own w0 D cy A) {k : Fin 4} (hd : decode cc pc = .ok (.aload_n k, 1)) (h : ldA k.val 2 a = some a') (hk : OkA (Wc nc ns p l e R s m args below meth c Q) D cy A s.heap nL ω ad σ0 φ0 a' (pc + 1)) : OkA (Wc nc ns p l e R s m args below meth c Q) D cy A s.heap nL ω ad σ0 φ0 a pc := by
  intro σ φ ws lv stk H locs ls hσ hφ hG hP hD hS hl
  obtain ⟨hx, hb, hml, hown, hts, hK, hA⟩ := hX
  obtain ⟨⟨hB, hF, hC, hW⟩, hL, hT⟩ := hG
  obtain ⟨k0, v, h1, h2, h3, h4, h5⟩ := ldA_inv h hL hT
  rcases h5 with ⟨q, _⟩ | ⟨q, _⟩ | ⟨_, x, rfl⟩
  · cases q
  · cases q
  · exact lv_aload_n hx hb hd rfl (lv_at hl k0 h1) (hk σ φ ws lv _ H locs ls hσ hφ ⟨by rw [h2]; exact ⟨hB, hF, hC, hW⟩, by rw [h3]; exact hL, h4⟩ hP hD hS hl)
theorem q_s_aload (hX : CTX p s m args c cc nL own w0 D cy A) {i : Nat} (hd : decode cc pc = .ok (.aload i, 2)) (h : ldA i 2 a = some a') (hk : OkA (Wc nc ns p l e R s m args below meth c Q) D cy A s.heap nL ω ad σ0 φ0 a' (pc + 2)) : OkA (Wc nc ns p l e R s m args below meth c Q) D cy A s.heap nL ω ad σ0 φ0 a pc := by
  intro σ φ ws lv stk H locs ls hσ hφ hG hP hD hS hl
  obtain ⟨hx, hb, hml, hown, hts, hK, hA⟩ := hX
  obtain ⟨⟨hB, hF, hC, hW⟩, hL, hT⟩ := hG
  obtain ⟨k0, v, h1, h2, h3, h4, h5⟩ := ldA_inv h hL hT
  rcases h5 with ⟨q, _⟩ | ⟨q, _⟩ | ⟨_, x, rfl⟩
  · cases q
  · cases q
  · exact lv_aload hx hb hd (lv_at hl k0 h1) (hk σ φ ws lv _ H locs ls hσ hφ ⟨by rw [h2]; exact ⟨hB, hF, hC, hW⟩, by rw [h3]; exact hL, h4⟩ hP hD hS hl)
theorem q_s_istore_n (hX : CTX p s m args c cc nL own w0 D cy A) {k : Fin 4} (hd : decode cc pc = .ok (.istore_n k, 1)) (h : stA nL k.val 0 a = some a') (hk : OkA (Wc nc ns p l e R s m args below meth c Q) D cy A s.heap nL ω ad σ0 φ0 a' (pc + 1)) : OkA (Wc nc ns p l e R s m args below meth c Q) D cy A s.heap nL ω ad σ0 φ0 a pc := by
  intro σ φ ws lv stk H locs ls hσ hφ hG hP hD hS hl
  obtain ⟨hx, hb, hml, hown, hts, hK, hA⟩ := hX
  obtain ⟨⟨hB, hF, hC, hW⟩, hL, hT⟩ := hG
  obtain ⟨v, st, rfl, h2, h4, h5, h7⟩ := stA_inv h hL hT
  rcases h7 with ⟨_, ⟨x, rfl⟩, h6⟩ | ⟨q, _⟩ | ⟨q, _⟩
  · exact lv_istore_n hx hb hd rfl hl h5 rfl (fun ls' hl' => hk σ φ ws _ st H locs ls' hσ hφ ⟨by rw [h2]; exact ⟨hB, hF, hC, hW⟩, h6, h4⟩ hP hD hS hl')
  · cases q
  · cases q
theorem q_s_istore (hX : CTX p s m args c cc nL own w0 D cy A) {i : Nat} (hd : decode cc pc = .ok (.istore i, 2)) (h : stA nL i 0 a = some a') (hk : OkA (Wc nc ns p l e R s m args below meth c Q) D cy A s.heap nL ω ad σ0 φ0 a' (pc + 2)) : OkA (Wc nc ns p l e R s m args below meth c Q) D cy A s.heap nL ω ad σ0 φ0 a pc := by
  intro σ φ ws lv stk H locs ls hσ hφ hG hP hD hS hl
  obtain ⟨hx, hb, hml, hown, hts, hK, hA⟩ := hX
  obtain ⟨⟨hB, hF, hC, hW⟩, hL, hT⟩ := hG
  obtain ⟨v, st, rfl, h2, h4, h5, h7⟩ := stA_inv h hL hT
  rcases h7 with ⟨_, ⟨x, rfl⟩, h6⟩ | ⟨q, _⟩ | ⟨q, _⟩
  · exact lv_istore hx hb hd hl h5 rfl (fun ls' hl' => hk σ φ ws _ st H locs ls' hσ hφ ⟨by rw [h2]; exact ⟨hB, hF, hC, hW⟩, h6, h4⟩ hP hD hS hl')
  · cases q
  · cases q
theorem q_s_lstore_n (hX : CTX p s m args c cc nL own w0 D cy A) {k : Fin 4} (hd : decode cc pc = .ok (.lstore_n k, 1)) (h : stA nL k.val 1 a = some a') (hk : OkA (Wc nc ns p l e R s m args below meth c Q) D cy A s.heap nL ω ad σ0 φ0 a' (pc + 1)) : OkA (Wc nc ns p l e R s m args below meth c Q) D cy A s.heap nL ω ad σ0 φ0 a pc := by
  intro σ φ ws lv stk H locs ls hσ hφ hG hP hD hS hl
  obtain ⟨hx, hb, hml, hown, hts, hK, hA⟩ := hX
  obtain ⟨⟨hB, hF, hC, hW⟩, hL, hT⟩ := hG
  obtain ⟨v, st, rfl, h2, h4, h5, h7⟩ := stA_inv h hL hT
  rcases h7 with ⟨q, _⟩ | ⟨_, hn, ⟨x, rfl⟩, h6⟩ | ⟨q, _⟩
  · cases q
  · exact lv_lstore_n hx hb hd rfl hl hn rfl (fun ls' hl' => hk σ φ ws _ st H locs ls' hσ hφ ⟨by rw [h2]; exact ⟨hB, hF, hC, hW⟩, h6, h4⟩ hP hD hS hl')
  · cases q
theorem q_s_lstore (hX : CTX p s m args c cc nL own w0 D cy A) {i : Nat} (hd : decode cc pc = .ok (.lstore i, 2)) (h : stA nL i 1 a = some a') (hk : OkA (Wc nc ns p l e R s m args below meth c Q) D cy A s.heap nL ω ad σ0 φ0 a' (pc + 2)) : OkA (Wc nc ns p l e R s m args below meth c Q) D cy A s.heap nL ω ad σ0 φ0 a pc := by
  intro σ φ ws lv stk H locs ls hσ hφ hG hP hD hS hl
  obtain ⟨hx, hb, hml, hown, hts, hK, hA⟩ := hX
  obtain ⟨⟨hB, hF, hC, hW⟩, hL, hT⟩ := hG
  obtain ⟨v, st, rfl, h2, h4, h5, h7⟩ := stA_inv h hL hT
  rcases h7 with ⟨q, _⟩ | ⟨_, hn, ⟨x, rfl⟩, h6⟩ | ⟨q, _⟩
  · cases q
  · exact lv_lstore hx hb hd hl hn rfl (fun ls' hl' => hk σ φ ws _ st H locs ls' hσ hφ ⟨by rw [h2]; exact ⟨hB, hF, hC, hW⟩, h6, h4⟩ hP hD hS hl')
  · cases q
theorem q_s_astore_n (hX : CTX p s m args c cc nL own w0 D cy A) {k : Fin 4} (hd : decode cc pc = .ok (.astore_n k, 1)) (h : stA nL k.val 2 a = some a') (hk : OkA (Wc nc ns p l e R s m args below meth c Q) D cy A s.heap nL ω ad σ0 φ0 a' (pc + 1)) : OkA (Wc nc ns p l e R s m args below meth c Q) D cy A s.heap nL ω ad σ0 φ0 a pc := by
  intro σ φ ws lv stk H locs ls hσ hφ hG hP hD hS hl
  obtain ⟨hx, hb, hml, hown, hts, hK, hA⟩ := hX
  obtain ⟨⟨hB, hF, hC, hW⟩, hL, hT⟩ := hG
  obtain ⟨v, st, rfl, h2, h4, h5, h7⟩ := stA_inv h hL hT
  rcases h7 with ⟨q, _⟩ | ⟨q, _⟩ | ⟨_, ⟨x, rfl⟩, h6⟩
  · cases q
  · cases q
  · exact lv_astore_n hx hb hd rfl hl h5 rfl (fun ls' hl' => hk σ φ ws _ st H locs ls' hσ hφ ⟨by rw [h2]; exact ⟨hB, hF, hC, hW⟩, h6, h4⟩ hP hD hS hl')
theorem q_s_astore (hX : CTX p s m args c cc nL own w0 D cy A) {i : Nat} (hd : decode cc pc = .ok (.astore i, 2)) (h : stA nL i 2 a = some a') (hk : OkA (Wc nc ns p l e R s m args below meth c Q) D cy A s.heap nL ω ad σ0 φ0 a' (pc + 2)) : OkA (Wc nc ns p l e R s m args below meth c Q) D cy A s.heap nL ω ad σ0 φ0 a pc := by
  intro σ φ ws lv stk H locs ls hσ hφ hG hP hD hS hl
  obtain ⟨hx, hb, hml, hown, hts, hK, hA⟩ := hX
  obtain ⟨⟨hB, hF, hC, hW⟩, hL, hT⟩ := hG
  obtain ⟨v, st, rfl, h2, h4, h5, h7⟩ := stA_inv h hL hT
  rcases h7 with ⟨q, _⟩ | ⟨q, _⟩ | ⟨_, ⟨x, rfl⟩, h6⟩
  · cases q
  · cases q
  · exact lv_astore hx hb hd hl h5 rfl (fun ls' hl' => hk σ φ ws _ st H locs ls' hσ hφ ⟨by rw [h2]; exact ⟨hB, hF, hC, hW⟩, h6, h4⟩ hP hD hS hl')
theorem q_s_iinc (hX : CTX p s m args c cc nL own w0 D cy A) {i : Nat} {n : Int} (hd : decode cc pc = .ok (.iinc i n, 3)) (h : incA nL i n a = some a') (hk : OkA (Wc nc ns p l e R s m args below meth c Q) D cy A s.heap nL ω ad σ0 φ0 a' (pc + 3)) : OkA (Wc nc ns p l e R s m args below meth c Q) D cy A s.heap nL ω ad σ0 φ0 a pc := by
  intro σ φ ws lv stk H locs ls hσ hφ hG hP hD hS hl
  obtain ⟨hx, hb, hml, hown, hts, hK, hA⟩ := hX
  obtain ⟨⟨hB, hF, hC, hW⟩, hL, hT⟩ := hG
  unfold incA at h
  cases q : lk i a.2.1 with
  | none => rw [q] at h; cases h
  | some av =>
    rw [q] at h
    obtain ⟨k, v, h1, h2⟩ := lk_ok hL q
    rcases av with e | e | c | c | k'
    · dsimp only at h
      by_cases t : (inR mnI mxI n n && decide (i < nL)) = true
      · rw [if_pos t] at h
        have t' : inR mnI mxI n n = true ∧ i < nL := by simpa using t
        have tr := inR_ok t'.1
        cases h
        obtain ⟨x, rfl, hv⟩ := h2.1
        obtain ⟨τ1, k1, k2, k3⟩ := cR_ok hB hC n
        have ho : OpOK (σ ++ τ1) (addR mnI mxI (cR a.1.1 a.1.2.2.1 n).1 (cR a.1.1 a.1.2.2.1 n).2.1 e (cR a.1.1 a.1.2.2.1 n).2.2) (x + Int32.ofInt n).toInt := by
          refine addR_ok k1 k2 hv.app k3 (i32_lo _) (i32_hi _) (fun g1 g2 => ?_)
          have e1 : (Int32.ofInt n).toInt = n := i32_of tr.1 tr.2
          rw [i32_add (by rw [e1]; exact g1) (by rw [e1]; exact g2), e1]
        obtain ⟨τ2, k4, k5, k6⟩ := ho
        have hw := hW.app (τ := τ1 ++ τ2) (ψ := [])
        rw [List.append_nil] at hw
        refine lv_iinc hx hb hd hl h1 rfl t'.2 rfl (fun ls' hl' => hk (σ ++ (τ1 ++ τ2)) φ ws _ stk H locs ls' hσ.app hφ ⟨⟨by rw [← List.append_assoc]; exact k4, hF, by rw [← List.append_assoc]; exact k5, hw⟩, st1_ok (hL.mono (fun _ _ h => h.app)) ⟨⟨_, rfl, by rw [← List.append_assoc]; exact k6⟩, rfl⟩, hT.mono (fun _ _ h => h.app)⟩ hP hD hS hl')
      · rw [if_neg t] at h
        cases h
    · cases h
    · cases h
    · cases h
    · cases h
theorem q_s_iconst (hX : CTX p s m args c cc nL own w0 D cy A) {n : Int} (hd : decode cc pc = .ok (.iconst n, 1)) (hk : OkA (Wc nc ns p l e R s m args below meth c Q) D cy A s.heap nL ω ad σ0 φ0 (kA (Int32.ofInt n).toInt a) (pc + 1)) : OkA (Wc nc ns p l e R s m args below meth c Q) D cy A s.heap nL ω ad σ0 φ0 a pc := by
  intro σ φ ws lv stk H locs ls hσ hφ hG hP hD hS hl
  obtain ⟨hx, hb, hml, hown, hts, hK, hA⟩ := hX
  obtain ⟨⟨hB, hF, hC, hW⟩, hL, hT⟩ := hG
  obtain ⟨τ, hg⟩ := GS.pushI (x := Int32.ofInt n) ⟨hB, hF, hC, hW⟩ hL hT (cR_ok hB hC _)
  exact lv_iconst hx hb hd rfl (hk (σ ++ τ) φ ws lv _ H locs ls hσ.app hφ hg hP hD hS hl)
theorem q_s_bipush (hX : CTX p s m args c cc nL own w0 D cy A) {n : Int} (hd : decode cc pc = .ok (.bipush n, 2)) (hk : OkA (Wc nc ns p l e R s m args below meth c Q) D cy A s.heap nL ω ad σ0 φ0 (kA ((Int8.ofInt n).toInt32).toInt a) (pc + 2)) : OkA (Wc nc ns p l e R s m args below meth c Q) D cy A s.heap nL ω ad σ0 φ0 a pc := by
  intro σ φ ws lv stk H locs ls hσ hφ hG hP hD hS hl
  obtain ⟨hx, hb, hml, hown, hts, hK, hA⟩ := hX
  obtain ⟨⟨hB, hF, hC, hW⟩, hL, hT⟩ := hG
  obtain ⟨τ, hg⟩ := GS.pushI (x := (Int8.ofInt n).toInt32) ⟨hB, hF, hC, hW⟩ hL hT (cR_ok hB hC _)
  exact lv_bipush hx hb hd rfl (hk (σ ++ τ) φ ws lv _ H locs ls hσ.app hφ hg hP hD hS hl)
theorem q_s_sipush (hX : CTX p s m args c cc nL own w0 D cy A) {n : Int} (hd : decode cc pc = .ok (.sipush n, 3)) (hk : OkA (Wc nc ns p l e R s m args below meth c Q) D cy A s.heap nL ω ad σ0 φ0 (kA ((Int16.ofInt n).toInt32).toInt a) (pc + 3)) : OkA (Wc nc ns p l e R s m args below meth c Q) D cy A s.heap nL ω ad σ0 φ0 a pc := by
  intro σ φ ws lv stk H locs ls hσ hφ hG hP hD hS hl
  obtain ⟨hx, hb, hml, hown, hts, hK, hA⟩ := hX
  obtain ⟨⟨hB, hF, hC, hW⟩, hL, hT⟩ := hG
  obtain ⟨τ, hg⟩ := GS.pushI (x := (Int16.ofInt n).toInt32) ⟨hB, hF, hC, hW⟩ hL hT (cR_ok hB hC _)
  exact lv_sipush hx hb hd rfl (hk (σ ++ τ) φ ws lv _ H locs ls hσ.app hφ hg hP hD hS hl)
theorem q_s_lconst (hX : CTX p s m args c cc nL own w0 D cy A) {n : Fin 2} (hd : decode cc pc = .ok (.lconst n, 1)) (hk : OkA (Wc nc ns p l e R s m args below meth c Q) D cy A s.heap nL ω ad σ0 φ0 (kL (Int64.ofNat (n : Nat)).toInt a) (pc + 1)) : OkA (Wc nc ns p l e R s m args below meth c Q) D cy A s.heap nL ω ad σ0 φ0 a pc := by
  intro σ φ ws lv stk H locs ls hσ hφ hG hP hD hS hl
  obtain ⟨hx, hb, hml, hown, hts, hK, hA⟩ := hX
  obtain ⟨⟨hB, hF, hC, hW⟩, hL, hT⟩ := hG
  obtain ⟨τ, hg⟩ := GS.pushL (x := Int64.ofNat (n : Nat)) ⟨hB, hF, hC, hW⟩ hL hT (cR_ok hB hC _)
  exact lv_lconst hx hb hd rfl (hk (σ ++ τ) φ ws lv _ H locs ls hσ.app hφ hg hP hD hS hl)
theorem q_s_ldc (hX : CTX p s m args c cc nL own w0 D cy A) {i : Nat} {v : Int32} (hd : decode cc pc = .ok (.ldc i, 2)) (hc : Cond.constant own i v ∈ bigG) (hk : OkA (Wc nc ns p l e R s m args below meth c Q) D cy A s.heap nL ω ad σ0 φ0 (kA (v).toInt a) (pc + 2)) : OkA (Wc nc ns p l e R s m args below meth c Q) D cy A s.heap nL ω ad σ0 φ0 a pc := by
  intro σ φ ws lv stk H locs ls hσ hφ hG hP hD hS hl
  obtain ⟨hx, hb, hml, hown, hts, hK, hA⟩ := hX
  obtain ⟨⟨hB, hF, hC, hW⟩, hL, hT⟩ := hG
  obtain ⟨τ, hg⟩ := GS.pushI (x := v) ⟨hB, hF, hC, hW⟩ hL hT (cR_ok hB hC _)
  exact lv_ldc hx hb hown (hts _ (List.mem_cons_of_mem _ hc)) hd (hk (σ ++ τ) φ ws lv _ H locs ls hσ.app hφ hg hP hD hS hl)
theorem q_s_ldcw (hX : CTX p s m args c cc nL own w0 D cy A) {i : Nat} {v : Int32} (hd : decode cc pc = .ok (.ldc_w i, 3)) (hc : Cond.constant own i v ∈ bigG) (hk : OkA (Wc nc ns p l e R s m args below meth c Q) D cy A s.heap nL ω ad σ0 φ0 (kA (v).toInt a) (pc + 3)) : OkA (Wc nc ns p l e R s m args below meth c Q) D cy A s.heap nL ω ad σ0 φ0 a pc := by
  intro σ φ ws lv stk H locs ls hσ hφ hG hP hD hS hl
  obtain ⟨hx, hb, hml, hown, hts, hK, hA⟩ := hX
  obtain ⟨⟨hB, hF, hC, hW⟩, hL, hT⟩ := hG
  obtain ⟨τ, hg⟩ := GS.pushI (x := v) ⟨hB, hF, hC, hW⟩ hL hT (cR_ok hB hC _)
  exact lv_ldcw hx hb hown (hts _ (List.mem_cons_of_mem _ hc)) hd (hk (σ ++ τ) φ ws lv _ H locs ls hσ.app hφ hg hP hD hS hl)
theorem q_s_ldc2 (hX : CTX p s m args c cc nL own w0 D cy A) {i : Nat} {v : Int64} (hd : decode cc pc = .ok (.ldc2_w i, 3)) (hc : Cond.constantLong own i v ∈ bigG) (hk : OkA (Wc nc ns p l e R s m args below meth c Q) D cy A s.heap nL ω ad σ0 φ0 (kL (v).toInt a) (pc + 3)) : OkA (Wc nc ns p l e R s m args below meth c Q) D cy A s.heap nL ω ad σ0 φ0 a pc := by
  intro σ φ ws lv stk H locs ls hσ hφ hG hP hD hS hl
  obtain ⟨hx, hb, hml, hown, hts, hK, hA⟩ := hX
  obtain ⟨⟨hB, hF, hC, hW⟩, hL, hT⟩ := hG
  obtain ⟨τ, hg⟩ := GS.pushL (x := v) ⟨hB, hF, hC, hW⟩ hL hT (cR_ok hB hC _)
  exact lv_ldc2 hx hb hown (hts _ (List.mem_cons_of_mem _ hc)) hd (hk (σ ++ τ) φ ws lv _ H locs ls hσ.app hφ hg hP hD hS hl)
theorem q_s_iadd (hX : CTX p s m args c cc nL own w0 D cy A) (hd : decode cc pc = .ok (.iadd, 1)) (h : binA (opO (addR mnI mxI)) a = some a') (hk : OkA (Wc nc ns p l e R s m args below meth c Q) D cy A s.heap nL ω ad σ0 φ0 a' (pc + 1)) : OkA (Wc nc ns p l e R s m args below meth c Q) D cy A s.heap nL ω ad σ0 φ0 a pc := by
  intro σ φ ws lv stk H locs ls hσ hφ hG hP hD hS hl
  obtain ⟨hx, hb, hml, hown, hts, hK, hA⟩ := hX
  obtain ⟨⟨hB, hF, hC, hW⟩, hL, hT⟩ := hG
  obtain ⟨ex, ey, r, rs, x, y, st, h1, rfl, rfl, hvx, hvy, hr⟩ := binA_inv h hT
  have ho : OpOK σ rs (x + y).toInt := by
    cases (Option.some.inj h1)
    exact addR_ok hB hC hvx hvy (i32_lo _) (i32_hi _) (fun g1 g2 => i32_add g1 g2)
  obtain ⟨τ, hg⟩ := GS.pushI ⟨hB, hF, hC, hW⟩ hL hr ho
  exact m_iadd hx hb hd rfl (hk (σ ++ τ) φ ws lv _ H locs ls hσ.app hφ hg hP hD hS hl)
theorem q_s_isub (hX : CTX p s m args c cc nL own w0 D cy A) (hd : decode cc pc = .ok (.isub, 1)) (h : binA (opO (subR mnI mxI)) a = some a') (hk : OkA (Wc nc ns p l e R s m args below meth c Q) D cy A s.heap nL ω ad σ0 φ0 a' (pc + 1)) : OkA (Wc nc ns p l e R s m args below meth c Q) D cy A s.heap nL ω ad σ0 φ0 a pc := by
  intro σ φ ws lv stk H locs ls hσ hφ hG hP hD hS hl
  obtain ⟨hx, hb, hml, hown, hts, hK, hA⟩ := hX
  obtain ⟨⟨hB, hF, hC, hW⟩, hL, hT⟩ := hG
  obtain ⟨ex, ey, r, rs, x, y, st, h1, rfl, rfl, hvx, hvy, hr⟩ := binA_inv h hT
  have ho : OpOK σ rs (x - y).toInt := by
    cases (Option.some.inj h1)
    exact subR_ok hB hC hvx hvy (i32_lo _) (i32_hi _) (fun g1 g2 => i32_sub g1 g2)
  obtain ⟨τ, hg⟩ := GS.pushI ⟨hB, hF, hC, hW⟩ hL hr ho
  exact m_isub hx hb hd rfl (hk (σ ++ τ) φ ws lv _ H locs ls hσ.app hφ hg hP hD hS hl)
theorem q_s_imul (hX : CTX p s m args c cc nL own w0 D cy A) (hd : decode cc pc = .ok (.imul, 1)) (h : binA (opO (mulR mnI mxI)) a = some a') (hk : OkA (Wc nc ns p l e R s m args below meth c Q) D cy A s.heap nL ω ad σ0 φ0 a' (pc + 1)) : OkA (Wc nc ns p l e R s m args below meth c Q) D cy A s.heap nL ω ad σ0 φ0 a pc := by
  intro σ φ ws lv stk H locs ls hσ hφ hG hP hD hS hl
  obtain ⟨hx, hb, hml, hown, hts, hK, hA⟩ := hX
  obtain ⟨⟨hB, hF, hC, hW⟩, hL, hT⟩ := hG
  obtain ⟨ex, ey, r, rs, x, y, st, h1, rfl, rfl, hvx, hvy, hr⟩ := binA_inv h hT
  have ho : OpOK σ rs (x * y).toInt := by
    cases (Option.some.inj h1)
    exact mulR_ok hB hC hvx hvy (by decide) (i32_lo _) (i32_hi _) (fun g1 g2 => i32_mul g1 g2)
  obtain ⟨τ, hg⟩ := GS.pushI ⟨hB, hF, hC, hW⟩ hL hr ho
  exact m_imul hx hb hd rfl (hk (σ ++ τ) φ ws lv _ H locs ls hσ.app hφ hg hP hD hS hl)
theorem q_s_iand (hX : CTX p s m args c cc nL own w0 D cy A) (hd : decode cc pc = .ok (.iand, 1)) (h : binA (opO (bitR 0)) a = some a') (hk : OkA (Wc nc ns p l e R s m args below meth c Q) D cy A s.heap nL ω ad σ0 φ0 a' (pc + 1)) : OkA (Wc nc ns p l e R s m args below meth c Q) D cy A s.heap nL ω ad σ0 φ0 a pc := by
  intro σ φ ws lv stk H locs ls hσ hφ hG hP hD hS hl
  obtain ⟨hx, hb, hml, hown, hts, hK, hA⟩ := hX
  obtain ⟨⟨hB, hF, hC, hW⟩, hL, hT⟩ := hG
  obtain ⟨ex, ey, r, rs, x, y, st, h1, rfl, rfl, hvx, hvy, hr⟩ := binA_inv h hT
  have ho : OpOK σ rs (x &&& y).toInt := by
    cases (Option.some.inj h1)
    exact bitR_ok (o := 0) hB hC hvx hvy
  obtain ⟨τ, hg⟩ := GS.pushI ⟨hB, hF, hC, hW⟩ hL hr ho
  exact m_iand hx hb hd rfl (hk (σ ++ τ) φ ws lv _ H locs ls hσ.app hφ hg hP hD hS hl)
theorem q_s_ior (hX : CTX p s m args c cc nL own w0 D cy A) (hd : decode cc pc = .ok (.ior, 1)) (h : binA (opO (bitR 1)) a = some a') (hk : OkA (Wc nc ns p l e R s m args below meth c Q) D cy A s.heap nL ω ad σ0 φ0 a' (pc + 1)) : OkA (Wc nc ns p l e R s m args below meth c Q) D cy A s.heap nL ω ad σ0 φ0 a pc := by
  intro σ φ ws lv stk H locs ls hσ hφ hG hP hD hS hl
  obtain ⟨hx, hb, hml, hown, hts, hK, hA⟩ := hX
  obtain ⟨⟨hB, hF, hC, hW⟩, hL, hT⟩ := hG
  obtain ⟨ex, ey, r, rs, x, y, st, h1, rfl, rfl, hvx, hvy, hr⟩ := binA_inv h hT
  have ho : OpOK σ rs (x ||| y).toInt := by
    cases (Option.some.inj h1)
    exact bitR_ok (o := 1) hB hC hvx hvy
  obtain ⟨τ, hg⟩ := GS.pushI ⟨hB, hF, hC, hW⟩ hL hr ho
  exact m_ior hx hb hd rfl (hk (σ ++ τ) φ ws lv _ H locs ls hσ.app hφ hg hP hD hS hl)
theorem q_s_ixor (hX : CTX p s m args c cc nL own w0 D cy A) (hd : decode cc pc = .ok (.ixor, 1)) (h : binA (opO (bitR 2)) a = some a') (hk : OkA (Wc nc ns p l e R s m args below meth c Q) D cy A s.heap nL ω ad σ0 φ0 a' (pc + 1)) : OkA (Wc nc ns p l e R s m args below meth c Q) D cy A s.heap nL ω ad σ0 φ0 a pc := by
  intro σ φ ws lv stk H locs ls hσ hφ hG hP hD hS hl
  obtain ⟨hx, hb, hml, hown, hts, hK, hA⟩ := hX
  obtain ⟨⟨hB, hF, hC, hW⟩, hL, hT⟩ := hG
  obtain ⟨ex, ey, r, rs, x, y, st, h1, rfl, rfl, hvx, hvy, hr⟩ := binA_inv h hT
  have ho : OpOK σ rs (x ^^^ y).toInt := by
    cases (Option.some.inj h1)
    exact bitR_ok (o := 2) hB hC hvx hvy
  obtain ⟨τ, hg⟩ := GS.pushI ⟨hB, hF, hC, hW⟩ hL hr ho
  exact m_ixor hx hb hd rfl (hk (σ ++ τ) φ ws lv _ H locs ls hσ.app hφ hg hP hD hS hl)
theorem q_s_ishl (hX : CTX p s m args c cc nL own w0 D cy A) (hd : decode cc pc = .ok (.ishl, 1)) (h : binA (opO (bitR 3)) a = some a') (hk : OkA (Wc nc ns p l e R s m args below meth c Q) D cy A s.heap nL ω ad σ0 φ0 a' (pc + 1)) : OkA (Wc nc ns p l e R s m args below meth c Q) D cy A s.heap nL ω ad σ0 φ0 a pc := by
  intro σ φ ws lv stk H locs ls hσ hφ hG hP hD hS hl
  obtain ⟨hx, hb, hml, hown, hts, hK, hA⟩ := hX
  obtain ⟨⟨hB, hF, hC, hW⟩, hL, hT⟩ := hG
  obtain ⟨ex, ey, r, rs, x, y, st, h1, rfl, rfl, hvx, hvy, hr⟩ := binA_inv h hT
  have ho : OpOK σ rs (x <<< (y &&& 31)).toInt := by
    cases (Option.some.inj h1)
    exact bitR_ok (o := 3) hB hC hvx hvy
  obtain ⟨τ, hg⟩ := GS.pushI ⟨hB, hF, hC, hW⟩ hL hr ho
  exact m_ishl hx hb hd rfl (hk (σ ++ τ) φ ws lv _ H locs ls hσ.app hφ hg hP hD hS hl)
theorem q_s_ishr (hX : CTX p s m args c cc nL own w0 D cy A) (hd : decode cc pc = .ok (.ishr, 1)) (h : binA (opO (bitR 4)) a = some a') (hk : OkA (Wc nc ns p l e R s m args below meth c Q) D cy A s.heap nL ω ad σ0 φ0 a' (pc + 1)) : OkA (Wc nc ns p l e R s m args below meth c Q) D cy A s.heap nL ω ad σ0 φ0 a pc := by
  intro σ φ ws lv stk H locs ls hσ hφ hG hP hD hS hl
  obtain ⟨hx, hb, hml, hown, hts, hK, hA⟩ := hX
  obtain ⟨⟨hB, hF, hC, hW⟩, hL, hT⟩ := hG
  obtain ⟨ex, ey, r, rs, x, y, st, h1, rfl, rfl, hvx, hvy, hr⟩ := binA_inv h hT
  have ho : OpOK σ rs (x >>> (y &&& 31)).toInt := by
    cases (Option.some.inj h1)
    exact bitR_ok (o := 4) hB hC hvx hvy
  obtain ⟨τ, hg⟩ := GS.pushI ⟨hB, hF, hC, hW⟩ hL hr ho
  exact m_ishr hx hb hd rfl (hk (σ ++ τ) φ ws lv _ H locs ls hσ.app hφ hg hP hD hS hl)
theorem q_s_iushr (hX : CTX p s m args c cc nL own w0 D cy A) (hd : decode cc pc = .ok (.iushr, 1)) (h : binA (opO (bitR 5)) a = some a') (hk : OkA (Wc nc ns p l e R s m args below meth c Q) D cy A s.heap nL ω ad σ0 φ0 a' (pc + 1)) : OkA (Wc nc ns p l e R s m args below meth c Q) D cy A s.heap nL ω ad σ0 φ0 a pc := by
  intro σ φ ws lv stk H locs ls hσ hφ hG hP hD hS hl
  obtain ⟨hx, hb, hml, hown, hts, hK, hA⟩ := hX
  obtain ⟨⟨hB, hF, hC, hW⟩, hL, hT⟩ := hG
  obtain ⟨ex, ey, r, rs, x, y, st, h1, rfl, rfl, hvx, hvy, hr⟩ := binA_inv h hT
  have ho : OpOK σ rs ((x.toUInt32 >>> (y.toUInt32 &&& Int32.toUInt32 31)).toInt32).toInt := by
    cases (Option.some.inj h1)
    exact bitR_ok (o := 5) hB hC hvx hvy
  obtain ⟨τ, hg⟩ := GS.pushI ⟨hB, hF, hC, hW⟩ hL hr ho
  exact lv_iushr hx hb hd rfl (hk (σ ++ τ) φ ws lv _ H locs ls hσ.app hφ hg hP hD hS hl)
theorem q_s_idiv (hX : CTX p s m args c cc nL own w0 D cy A) (hd : decode cc pc = .ok (.idiv, 1)) (h : binA (divR mnI mxI) a = some a') (hk : OkA (Wc nc ns p l e R s m args below meth c Q) D cy A s.heap nL ω ad σ0 φ0 a' (pc + 1)) : OkA (Wc nc ns p l e R s m args below meth c Q) D cy A s.heap nL ω ad σ0 φ0 a pc := by
  intro σ φ ws lv stk H locs ls hσ hφ hG hP hD hS hl
  obtain ⟨hx, hb, hml, hown, hts, hK, hA⟩ := hX
  obtain ⟨⟨hB, hF, hC, hW⟩, hL, hT⟩ := hG
  obtain ⟨ex, ey, r, rs, x, y, st, h1, rfl, rfl, hvx, hvy, hr⟩ := binA_inv h hT
  obtain ⟨hne, ho⟩ := divR_ok hB hC hvx hvy (i32_lo (x / y)) (i32_hi (x / y)) (fun g1 g2 => i32_div g1 g2) h1
  obtain ⟨τ, hg⟩ := GS.pushI ⟨hB, hF, hC, hW⟩ hL hr ho
  exact m_idiv hx hb hd (ne0I hne) rfl (hk (σ ++ τ) φ ws lv _ H locs ls hσ.app hφ hg hP hD hS hl)
theorem q_s_irem (hX : CTX p s m args c cc nL own w0 D cy A) (hd : decode cc pc = .ok (.irem, 1)) (h : binA (remR mnI mxI) a = some a') (hk : OkA (Wc nc ns p l e R s m args below meth c Q) D cy A s.heap nL ω ad σ0 φ0 a' (pc + 1)) : OkA (Wc nc ns p l e R s m args below meth c Q) D cy A s.heap nL ω ad σ0 φ0 a pc := by
  intro σ φ ws lv stk H locs ls hσ hφ hG hP hD hS hl
  obtain ⟨hx, hb, hml, hown, hts, hK, hA⟩ := hX
  obtain ⟨⟨hB, hF, hC, hW⟩, hL, hT⟩ := hG
  obtain ⟨ex, ey, r, rs, x, y, st, h1, rfl, rfl, hvx, hvy, hr⟩ := binA_inv h hT
  obtain ⟨hne, ho⟩ := remR_ok hB hC hvx hvy (i32_lo (x - x / y * y)) (i32_hi (x - x / y * y)) (fun g1 g2 => i32_rem g1 g2) h1
  obtain ⟨τ, hg⟩ := GS.pushI ⟨hB, hF, hC, hW⟩ hL hr ho
  exact m_irem hx hb hd (ne0I hne) rfl (hk (σ ++ τ) φ ws lv _ H locs ls hσ.app hφ hg hP hD hS hl)
theorem q_s_ladd (hX : CTX p s m args c cc nL own w0 D cy A) (hd : decode cc pc = .ok (.ladd, 1)) (h : binL (opO (addR mnL mxL)) a = some a') (hk : OkA (Wc nc ns p l e R s m args below meth c Q) D cy A s.heap nL ω ad σ0 φ0 a' (pc + 1)) : OkA (Wc nc ns p l e R s m args below meth c Q) D cy A s.heap nL ω ad σ0 φ0 a pc := by
  intro σ φ ws lv stk H locs ls hσ hφ hG hP hD hS hl
  obtain ⟨hx, hb, hml, hown, hts, hK, hA⟩ := hX
  obtain ⟨⟨hB, hF, hC, hW⟩, hL, hT⟩ := hG
  obtain ⟨ex, ey, r, rs, x, y, st, h1, rfl, rfl, hvx, hvy, hr⟩ := binL_inv h hT
  have ho : OpOK σ rs (x + y).toInt := by
    cases (Option.some.inj h1)
    exact addR_ok hB hC hvx hvy (i64_lo _) (i64_hi _) (fun g1 g2 => i64_add g1 g2)
  obtain ⟨τ, hg⟩ := GS.pushL ⟨hB, hF, hC, hW⟩ hL hr ho
  exact m_ladd hx hb hd rfl (hk (σ ++ τ) φ ws lv _ H locs ls hσ.app hφ hg hP hD hS hl)
theorem q_s_lmul (hX : CTX p s m args c cc nL own w0 D cy A) (hd : decode cc pc = .ok (.lmul, 1)) (h : binL (opO (mulR mnL mxL)) a = some a') (hk : OkA (Wc nc ns p l e R s m args below meth c Q) D cy A s.heap nL ω ad σ0 φ0 a' (pc + 1)) : OkA (Wc nc ns p l e R s m args below meth c Q) D cy A s.heap nL ω ad σ0 φ0 a pc := by
  intro σ φ ws lv stk H locs ls hσ hφ hG hP hD hS hl
  obtain ⟨hx, hb, hml, hown, hts, hK, hA⟩ := hX
  obtain ⟨⟨hB, hF, hC, hW⟩, hL, hT⟩ := hG
  obtain ⟨ex, ey, r, rs, x, y, st, h1, rfl, rfl, hvx, hvy, hr⟩ := binL_inv h hT
  have ho : OpOK σ rs (x * y).toInt := by
    cases (Option.some.inj h1)
    exact mulR_ok hB hC hvx hvy (by decide) (i64_lo _) (i64_hi _) (fun g1 g2 => i64_mul g1 g2)
  obtain ⟨τ, hg⟩ := GS.pushL ⟨hB, hF, hC, hW⟩ hL hr ho
  exact m_lmul hx hb hd rfl (hk (σ ++ τ) φ ws lv _ H locs ls hσ.app hφ hg hP hD hS hl)
theorem q_s_land (hX : CTX p s m args c cc nL own w0 D cy A) (hd : decode cc pc = .ok (.land, 1)) (h : binL (opO (fun b c _ _ => fullL b c)) a = some a') (hk : OkA (Wc nc ns p l e R s m args below meth c Q) D cy A s.heap nL ω ad σ0 φ0 a' (pc + 1)) : OkA (Wc nc ns p l e R s m args below meth c Q) D cy A s.heap nL ω ad σ0 φ0 a pc := by
  intro σ φ ws lv stk H locs ls hσ hφ hG hP hD hS hl
  obtain ⟨hx, hb, hml, hown, hts, hK, hA⟩ := hX
  obtain ⟨⟨hB, hF, hC, hW⟩, hL, hT⟩ := hG
  obtain ⟨ex, ey, r, rs, x, y, st, h1, rfl, rfl, hvx, hvy, hr⟩ := binL_inv h hT
  have ho : OpOK σ rs (x &&& y).toInt := by
    cases (Option.some.inj h1)
    exact fullL_ok hB hC _
  obtain ⟨τ, hg⟩ := GS.pushL ⟨hB, hF, hC, hW⟩ hL hr ho
  exact m_land hx hb hd rfl (hk (σ ++ τ) φ ws lv _ H locs ls hσ.app hφ hg hP hD hS hl)
theorem q_s_lor (hX : CTX p s m args c cc nL own w0 D cy A) (hd : decode cc pc = .ok (.lor, 1)) (h : binL (opO (fun b c _ _ => fullL b c)) a = some a') (hk : OkA (Wc nc ns p l e R s m args below meth c Q) D cy A s.heap nL ω ad σ0 φ0 a' (pc + 1)) : OkA (Wc nc ns p l e R s m args below meth c Q) D cy A s.heap nL ω ad σ0 φ0 a pc := by
  intro σ φ ws lv stk H locs ls hσ hφ hG hP hD hS hl
  obtain ⟨hx, hb, hml, hown, hts, hK, hA⟩ := hX
  obtain ⟨⟨hB, hF, hC, hW⟩, hL, hT⟩ := hG
  obtain ⟨ex, ey, r, rs, x, y, st, h1, rfl, rfl, hvx, hvy, hr⟩ := binL_inv h hT
  have ho : OpOK σ rs (x ||| y).toInt := by
    cases (Option.some.inj h1)
    exact fullL_ok hB hC _
  obtain ⟨τ, hg⟩ := GS.pushL ⟨hB, hF, hC, hW⟩ hL hr ho
  exact m_lor hx hb hd rfl (hk (σ ++ τ) φ ws lv _ H locs ls hσ.app hφ hg hP hD hS hl)
theorem q_s_ldiv (hX : CTX p s m args c cc nL own w0 D cy A) (hd : decode cc pc = .ok (.ldiv, 1)) (h : binL (divR mnL mxL) a = some a') (hk : OkA (Wc nc ns p l e R s m args below meth c Q) D cy A s.heap nL ω ad σ0 φ0 a' (pc + 1)) : OkA (Wc nc ns p l e R s m args below meth c Q) D cy A s.heap nL ω ad σ0 φ0 a pc := by
  intro σ φ ws lv stk H locs ls hσ hφ hG hP hD hS hl
  obtain ⟨hx, hb, hml, hown, hts, hK, hA⟩ := hX
  obtain ⟨⟨hB, hF, hC, hW⟩, hL, hT⟩ := hG
  obtain ⟨ex, ey, r, rs, x, y, st, h1, rfl, rfl, hvx, hvy, hr⟩ := binL_inv h hT
  obtain ⟨hne, ho⟩ := divR_ok hB hC hvx hvy (i64_lo (x / y)) (i64_hi (x / y)) (fun g1 g2 => i64_div g1 g2) h1
  obtain ⟨τ, hg⟩ := GS.pushL ⟨hB, hF, hC, hW⟩ hL hr ho
  exact m_ldiv hx hb hd (ne0L hne) rfl (hk (σ ++ τ) φ ws lv _ H locs ls hσ.app hφ hg hP hD hS hl)
theorem q_s_lrem (hX : CTX p s m args c cc nL own w0 D cy A) (hd : decode cc pc = .ok (.lrem, 1)) (h : binL (remR mnL mxL) a = some a') (hk : OkA (Wc nc ns p l e R s m args below meth c Q) D cy A s.heap nL ω ad σ0 φ0 a' (pc + 1)) : OkA (Wc nc ns p l e R s m args below meth c Q) D cy A s.heap nL ω ad σ0 φ0 a pc := by
  intro σ φ ws lv stk H locs ls hσ hφ hG hP hD hS hl
  obtain ⟨hx, hb, hml, hown, hts, hK, hA⟩ := hX
  obtain ⟨⟨hB, hF, hC, hW⟩, hL, hT⟩ := hG
  obtain ⟨ex, ey, r, rs, x, y, st, h1, rfl, rfl, hvx, hvy, hr⟩ := binL_inv h hT
  obtain ⟨hne, ho⟩ := remR_ok hB hC hvx hvy (i64_lo (x - x / y * y)) (i64_hi (x - x / y * y)) (fun g1 g2 => i64_rem g1 g2) h1
  obtain ⟨τ, hg⟩ := GS.pushL ⟨hB, hF, hC, hW⟩ hL hr ho
  exact m_lrem hx hb hd (ne0L hne) rfl (hk (σ ++ τ) φ ws lv _ H locs ls hσ.app hφ hg hP hD hS hl)
theorem q_s_lsub (hX : CTX p s m args c cc nL own w0 D cy A) (hd : decode cc pc = .ok (.lsub, 1)) (h : binL (opO (subR mnL mxL)) a = some a') (hk : OkA (Wc nc ns p l e R s m args below meth c Q) D cy A s.heap nL ω ad σ0 φ0 a' (pc + 1)) : OkA (Wc nc ns p l e R s m args below meth c Q) D cy A s.heap nL ω ad σ0 φ0 a pc := by
  intro σ φ ws lv stk H locs ls hσ hφ hG hP hD hS hl
  obtain ⟨hx, hb, hml, hown, hts, hK, hA⟩ := hX
  obtain ⟨⟨hB, hF, hC, hW⟩, hL, hT⟩ := hG
  obtain ⟨ex, ey, r, rs, x, y, st, h1, rfl, rfl, hvx, hvy, hr⟩ := binL_inv h hT
  have ho : OpOK σ rs (x - y).toInt := by
    cases (Option.some.inj h1)
    exact subR_ok hB hC hvx hvy (i64_lo _) (i64_hi _) (fun g1 g2 => i64_sub g1 g2)
  obtain ⟨τ, hg⟩ := GS.pushL ⟨hB, hF, hC, hW⟩ hL hr ho
  exact lv_lsub hx hb hd (hk (σ ++ τ) φ ws lv _ H locs ls hσ.app hφ hg hP hD hS hl)
theorem q_s_lcmp (hX : CTX p s m args c cc nL own w0 D cy A) (hd : decode cc pc = .ok (.lcmp, 1)) (h : cmpA a = some a') (hk : OkA (Wc nc ns p l e R s m args below meth c Q) D cy A s.heap nL ω ad σ0 φ0 a' (pc + 1)) : OkA (Wc nc ns p l e R s m args below meth c Q) D cy A s.heap nL ω ad σ0 φ0 a pc := by
  intro σ φ ws lv stk H locs ls hσ hφ hG hP hD hS hl
  obtain ⟨hx, hb, hml, hown, hts, hK, hA⟩ := hX
  obtain ⟨⟨hB, hF, hC, hW⟩, hL, hT⟩ := hG
  unfold cmpA at h
  split at h
  · rename_i y x r q
    rw [q] at hT
    cases h
    match stk, hT with
    | v1 :: v2 :: st, hT =>
      obtain ⟨x1, rfl, h1⟩ := hT.1.1
      obtain ⟨x2, rfl, h2⟩ := hT.2.1.1
      have hc : lg_cmp x2 x1 = -1 ∨ lg_cmp x2 x1 = 0 ∨ lg_cmp x2 x1 = 1 := by
        unfold lg_cmp
        repeat' split
        all_goals simp
      have hc2 := i32_lcmp hc
      obtain ⟨τ, hg⟩ := GS.pushI ⟨hB, hF, hC, hW⟩ hL hT.2.2 (ivR_ok hB hC hc2.1 hc2.2)
      exact m_lcmp hx hb hd rfl (hk (σ ++ τ) φ ws lv _ H locs ls hσ.app hφ hg hP hD hS hl)
    | [v1], hT => exact hT.2.elim
    | [], hT => exact hT.elim
  · cases h
theorem q_s_lushr (hX : CTX p s m args c cc nL own w0 D cy A) (hd : decode cc pc = .ok (.lushr, 1)) (h : shL a = some a') (hk : OkA (Wc nc ns p l e R s m args below meth c Q) D cy A s.heap nL ω ad σ0 φ0 a' (pc + 1)) : OkA (Wc nc ns p l e R s m args below meth c Q) D cy A s.heap nL ω ad σ0 φ0 a pc := by
  intro σ φ ws lv stk H locs ls hσ hφ hG hP hD hS hl
  obtain ⟨hx, hb, hml, hown, hts, hK, hA⟩ := hX
  obtain ⟨⟨hB, hF, hC, hW⟩, hL, hT⟩ := hG
  unfold shL at h
  split at h
  · rename_i y x r q
    rw [q] at hT
    cases h
    match stk, hT with
    | v1 :: v2 :: st, hT =>
      obtain ⟨x1, rfl, h1⟩ := hT.1.1
      obtain ⟨x2, rfl, h2⟩ := hT.2.1.1
      obtain ⟨τ, hg⟩ := GS.pushL ⟨hB, hF, hC, hW⟩ hL hT.2.2 (fullL_ok hB hC _)
      exact lv_lushr hx hb hd rfl (hk (σ ++ τ) φ ws lv _ H locs ls hσ.app hφ hg hP hD hS hl)
    | [v1], hT => exact hT.2.elim
    | [], hT => exact hT.elim
  · cases h
theorem q_s_lshl (hX : CTX p s m args c cc nL own w0 D cy A) (hd : decode cc pc = .ok (.lshl, 1)) (h : shL a = some a') (hk : OkA (Wc nc ns p l e R s m args below meth c Q) D cy A s.heap nL ω ad σ0 φ0 a' (pc + 1)) : OkA (Wc nc ns p l e R s m args below meth c Q) D cy A s.heap nL ω ad σ0 φ0 a pc := by
  intro σ φ ws lv stk H locs ls hσ hφ hG hP hD hS hl
  obtain ⟨hx, hb, hml, hown, hts, hK, hA⟩ := hX
  obtain ⟨⟨hB, hF, hC, hW⟩, hL, hT⟩ := hG
  unfold shL at h
  split at h
  · rename_i y x r q
    rw [q] at hT
    cases h
    match stk, hT with
    | v1 :: v2 :: st, hT =>
      obtain ⟨x1, rfl, h1⟩ := hT.1.1
      obtain ⟨x2, rfl, h2⟩ := hT.2.1.1
      obtain ⟨τ, hg⟩ := GS.pushL ⟨hB, hF, hC, hW⟩ hL hT.2.2 (fullL_ok hB hC _)
      exact lv_lshl hx hb hd rfl (hk (σ ++ τ) φ ws lv _ H locs ls hσ.app hφ hg hP hD hS hl)
    | [v1], hT => exact hT.2.elim
    | [], hT => exact hT.elim
  · cases h
theorem q_s_ineg (hX : CTX p s m args c cc nL own w0 D cy A) (hd : decode cc pc = .ok (.ineg, 1)) (h : unA (fun b c _ => fullR b c) a = some a') (hk : OkA (Wc nc ns p l e R s m args below meth c Q) D cy A s.heap nL ω ad σ0 φ0 a' (pc + 1)) : OkA (Wc nc ns p l e R s m args below meth c Q) D cy A s.heap nL ω ad σ0 φ0 a pc := by
  intro σ φ ws lv stk H locs ls hσ hφ hG hP hD hS hl
  obtain ⟨hx, hb, hml, hown, hts, hK, hA⟩ := hX
  obtain ⟨⟨hB, hF, hC, hW⟩, hL, hT⟩ := hG
  obtain ⟨ex, r, x, st, rfl, rfl, hvx, hr⟩ := unA_inv h hT
  obtain ⟨τ, hg⟩ := GS.pushI (x := -x) ⟨hB, hF, hC, hW⟩ hL hr (fullR_ok hB hC _)
  exact m_ineg hx hb hd rfl (hk (σ ++ τ) φ ws lv _ H locs ls hσ.app hφ hg hP hD hS hl)
theorem q_s_i2b (hX : CTX p s m args c cc nL own w0 D cy A) (hd : decode cc pc = .ok (.i2b, 1)) (h : unA (fun b c _ => ivR b c (-128) 127) a = some a') (hk : OkA (Wc nc ns p l e R s m args below meth c Q) D cy A s.heap nL ω ad σ0 φ0 a' (pc + 1)) : OkA (Wc nc ns p l e R s m args below meth c Q) D cy A s.heap nL ω ad σ0 φ0 a pc := by
  intro σ φ ws lv stk H locs ls hσ hφ hG hP hD hS hl
  obtain ⟨hx, hb, hml, hown, hts, hK, hA⟩ := hX
  obtain ⟨⟨hB, hF, hC, hW⟩, hL, hT⟩ := hG
  obtain ⟨ex, r, x, st, rfl, rfl, hvx, hr⟩ := unA_inv h hT
  obtain ⟨τ, hg⟩ := GS.pushI (x := x.toInt8.toInt32) ⟨hB, hF, hC, hW⟩ hL hr (ivR_ok hB hC (i32_b x).1 (i32_b x).2)
  exact lv_i2b hx hb hd rfl (hk (σ ++ τ) φ ws lv _ H locs ls hσ.app hφ hg hP hD hS hl)
theorem q_s_i2c (hX : CTX p s m args c cc nL own w0 D cy A) (hd : decode cc pc = .ok (.i2c, 1)) (h : unA (fun b c _ => ivR b c 0 65535) a = some a') (hk : OkA (Wc nc ns p l e R s m args below meth c Q) D cy A s.heap nL ω ad σ0 φ0 a' (pc + 1)) : OkA (Wc nc ns p l e R s m args below meth c Q) D cy A s.heap nL ω ad σ0 φ0 a pc := by
  intro σ φ ws lv stk H locs ls hσ hφ hG hP hD hS hl
  obtain ⟨hx, hb, hml, hown, hts, hK, hA⟩ := hX
  obtain ⟨⟨hB, hF, hC, hW⟩, hL, hT⟩ := hG
  obtain ⟨ex, r, x, st, rfl, rfl, hvx, hr⟩ := unA_inv h hT
  obtain ⟨τ, hg⟩ := GS.pushI (x := (x.toUInt32 % 65536).toInt32) ⟨hB, hF, hC, hW⟩ hL hr (ivR_ok hB hC (i32_u16 x).1 (i32_u16 x).2)
  exact lv_i2c hx hb hd rfl (hk (σ ++ τ) φ ws lv _ H locs ls hσ.app hφ hg hP hD hS hl)
theorem q_s_i2l (hX : CTX p s m args c cc nL own w0 D cy A) (hd : decode cc pc = .ok (.i2l, 1)) (h : i2lA a = some a') (hk : OkA (Wc nc ns p l e R s m args below meth c Q) D cy A s.heap nL ω ad σ0 φ0 a' (pc + 1)) : OkA (Wc nc ns p l e R s m args below meth c Q) D cy A s.heap nL ω ad σ0 φ0 a pc := by
  intro σ φ ws lv stk H locs ls hσ hφ hG hP hD hS hl
  obtain ⟨hx, hb, hml, hown, hts, hK, hA⟩ := hX
  obtain ⟨⟨hB, hF, hC, hW⟩, hL, hT⟩ := hG
  unfold i2lA at h
  split at h
  · rename_i x r q
    rw [q] at hT
    cases h
    match stk, hT with
    | v1 :: st, hT =>
      obtain ⟨x1, rfl, h1⟩ := hT.1.1
      exact lv_i2l hx hb hd rfl (hk σ φ ws lv _ H locs ls hσ hφ ⟨⟨hB, hF, hC, hW⟩, hL, ⟨⟨x1.toInt64, rfl, by rw [Int32.toInt_toInt64]; exact h1⟩, rfl⟩, hT.2⟩ hP hD hS hl)
    | [], hT => exact hT.elim
  · cases h
theorem q_s_l2i (hX : CTX p s m args c cc nL own w0 D cy A) (hd : decode cc pc = .ok (.l2i, 1)) (h : l2iA a = some a') (hk : OkA (Wc nc ns p l e R s m args below meth c Q) D cy A s.heap nL ω ad σ0 φ0 a' (pc + 1)) : OkA (Wc nc ns p l e R s m args below meth c Q) D cy A s.heap nL ω ad σ0 φ0 a pc := by
  intro σ φ ws lv stk H locs ls hσ hφ hG hP hD hS hl
  obtain ⟨hx, hb, hml, hown, hts, hK, hA⟩ := hX
  obtain ⟨⟨hB, hF, hC, hW⟩, hL, hT⟩ := hG
  unfold l2iA at h
  split at h
  · rename_i x r q
    rw [q] at hT
    match stk, hT with
    | v1 :: st, hT =>
      obtain ⟨x1, rfl, h1⟩ := hT.1.1
      cases q2 : bnd a.1.1 a.1.2.2.1 x with
      | none => rw [q2] at h; cases h
      | some b =>
        rw [q2] at h
        dsimp only at h
        have g := bnd_ok hB hC q2 h1
        by_cases t : inR mnI mxI b.1 b.2 = true
        · rw [if_pos t] at h
          have t' := inR_ok t
          cases h
          have e1 : x1.toInt32.toInt = x1.toInt := by
            rw [Int64.toInt_toInt32]
            exact bm32 (by omega) (by omega)
          exact lv_l2i hx hb hd rfl (hk σ φ ws lv _ H locs ls hσ hφ ⟨⟨hB, hF, hC, hW⟩, hL, ⟨⟨x1.toInt32, rfl, by rw [e1]; exact h1⟩, rfl⟩, hT.2⟩ hP hD hS hl)
        · rw [if_neg t] at h
          cases h
          obtain ⟨τ, hg⟩ := GS.pushI (x := x1.toInt32) ⟨hB, hF, hC, hW⟩ hL hT.2 (fullR_ok hB hC _)
          exact lv_l2i hx hb hd rfl (hk (σ ++ τ) φ ws lv _ H locs ls hσ.app hφ hg hP hD hS hl)
    | [], hT => exact hT.elim
  · cases h
theorem q_s_dup (hX : CTX p s m args c cc nL own w0 D cy A) (hd : decode cc pc = .ok (.dup, 1)) (h : dupA a = some a') (hk : OkA (Wc nc ns p l e R s m args below meth c Q) D cy A s.heap nL ω ad σ0 φ0 a' (pc + 1)) : OkA (Wc nc ns p l e R s m args below meth c Q) D cy A s.heap nL ω ad σ0 φ0 a pc := by
  intro σ φ ws lv stk H locs ls hσ hφ hG hP hD hS hl
  obtain ⟨hx, hb, hml, hown, hts, hK, hA⟩ := hX
  obtain ⟨⟨hB, hF, hC, hW⟩, hL, hT⟩ := hG
  unfold dupA at h
  split at h
  · rename_i x r q
    rw [q] at hT
    match stk, hT with
    | v1 :: st, hT =>
      by_cases t : c2 x = true
      · rw [if_pos t] at h
        cases h
      · rw [if_neg t] at h
        cases h
        have t1 := cat1 hT.1.2 (by simpa using t)
        exact lv_dup hx hb hd t1 (hk σ φ ws lv _ H locs ls hσ hφ ⟨⟨hB, hF, hC, hW⟩, hL, ⟨hT.1, hT.1, hT.2⟩⟩ hP hD hS hl)
    | [], hT => exact hT.elim
  · cases h
theorem q_s_pop (hX : CTX p s m args c cc nL own w0 D cy A) (hd : decode cc pc = .ok (.pop, 1)) (h : popA a = some a') (hk : OkA (Wc nc ns p l e R s m args below meth c Q) D cy A s.heap nL ω ad σ0 φ0 a' (pc + 1)) : OkA (Wc nc ns p l e R s m args below meth c Q) D cy A s.heap nL ω ad σ0 φ0 a pc := by
  intro σ φ ws lv stk H locs ls hσ hφ hG hP hD hS hl
  obtain ⟨hx, hb, hml, hown, hts, hK, hA⟩ := hX
  obtain ⟨⟨hB, hF, hC, hW⟩, hL, hT⟩ := hG
  unfold popA at h
  split at h
  · rename_i x r q
    rw [q] at hT
    match stk, hT with
    | v1 :: st, hT =>
      by_cases t : c2 x = true
      · rw [if_pos t] at h
        cases h
      · rw [if_neg t] at h
        cases h
        have t1 := cat1 hT.1.2 (by simpa using t)
        exact lv_pop hx hb hd t1 (hk σ φ ws lv _ H locs ls hσ hφ ⟨⟨hB, hF, hC, hW⟩, hL, hT.2⟩ hP hD hS hl)
    | [], hT => exact hT.elim
  · cases h
theorem q_s_dup_x1 (hX : CTX p s m args c cc nL own w0 D cy A) (hd : decode cc pc = .ok (.dup_x1, 1)) (h : dupx1A a = some a') (hk : OkA (Wc nc ns p l e R s m args below meth c Q) D cy A s.heap nL ω ad σ0 φ0 a' (pc + 1)) : OkA (Wc nc ns p l e R s m args below meth c Q) D cy A s.heap nL ω ad σ0 φ0 a pc := by
  intro σ φ ws lv stk H locs ls hσ hφ hG hP hD hS hl
  obtain ⟨hx, hb, hml, hown, hts, hK, hA⟩ := hX
  obtain ⟨⟨hB, hF, hC, hW⟩, hL, hT⟩ := hG
  unfold dupx1A at h
  split at h
  · rename_i x y r q
    rw [q] at hT
    match stk, hT with
    | v1 :: v2 :: st, hT =>
      by_cases t : (c2 x || c2 y) = true
      · rw [if_pos t] at h
        cases h
      · rw [if_neg t] at h
        cases h
        have t' : c2 x = false ∧ c2 y = false := by simpa using t
        exact lv_dup_x1 hx hb hd (cat1 hT.1.2 t'.1) (cat1 hT.2.1.2 t'.2) (hk σ φ ws lv _ H locs ls hσ hφ ⟨⟨hB, hF, hC, hW⟩, hL, hT.1, hT.2.1, hT.1, hT.2.2⟩ hP hD hS hl)
    | [v1], hT => exact hT.2.elim
    | [], hT => exact hT.elim
  · cases h
theorem q_s_dup2 (hX : CTX p s m args c cc nL own w0 D cy A) (hd : decode cc pc = .ok (.dup2, 1)) (h : dup2A a = some a') (hk : OkA (Wc nc ns p l e R s m args below meth c Q) D cy A s.heap nL ω ad σ0 φ0 a' (pc + 1)) : OkA (Wc nc ns p l e R s m args below meth c Q) D cy A s.heap nL ω ad σ0 φ0 a pc := by
  intro σ φ ws lv stk H locs ls hσ hφ hG hP hD hS hl
  obtain ⟨hx, hb, hml, hown, hts, hK, hA⟩ := hX
  obtain ⟨⟨hB, hF, hC, hW⟩, hL, hT⟩ := hG
  unfold dup2A at h
  split at h
  · rename_i x y r q
    rw [q] at hT
    match stk, hT with
    | v1 :: v2 :: st, hT =>
      by_cases t : c2 x = true
      · rw [if_pos t] at h
        cases h
        exact lv_dup2_2 hx hb hd (cat2 hT.1.2 t) (hk σ φ ws lv _ H locs ls hσ hφ ⟨⟨hB, hF, hC, hW⟩, hL, hT.1, hT.1, hT.2.1, hT.2.2⟩ hP hD hS hl)
      · rw [if_neg t] at h
        by_cases t2 : c2 y = true
        · rw [if_pos t2] at h
          cases h
        · rw [if_neg t2] at h
          cases h
          exact lv_dup2_11 hx hb hd (cat1 hT.1.2 (by simpa using t)) (cat1 hT.2.1.2 (by simpa using t2)) (hk σ φ ws lv _ H locs ls hσ hφ ⟨⟨hB, hF, hC, hW⟩, hL, hT.1, hT.2.1, hT.1, hT.2.1, hT.2.2⟩ hP hD hS hl)
    | [v1], hT => exact hT.2.elim
    | [], hT => exact hT.elim
  · rename_i x q
    rw [q] at hT
    match stk, hT with
    | [v1], hT =>
      by_cases t : c2 x = true
      · rw [if_pos t] at h
        cases h
        exact lv_dup2_2 hx hb hd (cat2 hT.1.2 t) (hk σ φ ws lv _ H locs ls hσ hφ ⟨⟨hB, hF, hC, hW⟩, hL, hT.1, hT.1, trivial⟩ hP hD hS hl)
      · rw [if_neg t] at h
        cases h
    | v1 :: v2 :: st, hT => exact hT.2.elim
    | [], hT => exact hT.elim
  · cases h
theorem q_br2A_inv {r t nx : Nat} {L : List (AS × Nat)} (h : br2A r t nx a = some L) (hk : ∀ q ∈ L, OkA (Wc nc ns p l e R s m args below meth c Q) D cy A s.heap nL ω ad σ0 φ0 q.1 q.2) : ∀ (σ : List Int) (φ : List (Nat → Int32)) (ws : va_W) (lv : List (Nat × Value)) (stk : List Value) (H : Heap) (locs : List Loc) (ls : Array Slot), pfx σ0 σ → pfx φ0 φ → GS cy ω ad a σ φ ws lv stk → va_P D vwCl ws H → va_D A ws → va_S A s.heap H locs → lv_has ls nL lv → ∃ (x y : Int32) (st : List Value), stk = .int y :: .int x :: st ∧ (relH r x.toInt y.toInt → Wc nc ns p l e R s m args below meth c Q H locs t ls st) ∧ (¬ relH r x.toInt y.toInt → Wc nc ns p l e R s m args below meth c Q H locs nx ls st) := by
  intro σ φ ws lv stk H locs ls hσ hφ hG hP hD hS hl
  obtain ⟨hW, hL, hT⟩ := hG
  unfold br2A at h
  split at h
  · rename_i y x st q
    rw [q] at hT
    cases h
    match stk, hT with
    | v1 :: v2 :: st', hT =>
      obtain ⟨x1, rfl, h1⟩ := hT.1.1
      obtain ⟨x2, rfl, h2⟩ := hT.2.1.1
      refine ⟨x2, x1, st', rfl, fun g => ?_, fun g => ?_⟩
      · exact asA_ok (fun q hq => hk q (List.mem_append_left _ hq)) hσ hφ hW hL hT.2.2 hP hD hS hl h2 h1 g
      · exact asA_ok (fun q hq => hk q (List.mem_append_right _ hq)) hσ hφ hW hL hT.2.2 hP hD hS hl h2 h1 (relN_ok r _ _ g)
    | [v1], hT => exact hT.2.elim
    | [], hT => exact hT.elim
  · cases h
theorem q_br0A_inv {r t nx : Nat} {L : List (AS × Nat)} (h : br0A r t nx a = some L) (hk : ∀ q ∈ L, OkA (Wc nc ns p l e R s m args below meth c Q) D cy A s.heap nL ω ad σ0 φ0 q.1 q.2) : ∀ (σ : List Int) (φ : List (Nat → Int32)) (ws : va_W) (lv : List (Nat × Value)) (stk : List Value) (H : Heap) (locs : List Loc) (ls : Array Slot), pfx σ0 σ → pfx φ0 φ → GS cy ω ad a σ φ ws lv stk → va_P D vwCl ws H → va_D A ws → va_S A s.heap H locs → lv_has ls nL lv → ∃ (x : Int32) (st : List Value), stk = .int x :: st ∧ (relH r x.toInt 0 → Wc nc ns p l e R s m args below meth c Q H locs t ls st) ∧ (¬ relH r x.toInt 0 → Wc nc ns p l e R s m args below meth c Q H locs nx ls st) := by
  intro σ φ ws lv stk H locs ls hσ hφ hG hP hD hS hl
  obtain ⟨⟨hB, hF, hC, hW⟩, hL, hT⟩ := hG
  unfold br0A at h
  split at h
  · rename_i x st q
    rw [q] at hT
    cases h
    match stk, hT with
    | v1 :: st', hT =>
      obtain ⟨x1, rfl, h1⟩ := hT.1.1
      obtain ⟨τ, k1, k2, k3⟩ := cR_ok hB hC 0
      have hw := hW.app (τ := τ) (ψ := [])
      rw [List.append_nil] at hw
      refine ⟨x1, st', rfl, fun g => ?_, fun g => ?_⟩
      · exact asA_ok (σ := σ ++ τ) (fun q hq => hk q (List.mem_append_left _ hq)) hσ.app hφ ⟨k1, hF, k2, hw⟩ (hL.mono (fun _ _ h => h.app)) (hT.2.mono (fun _ _ h => h.app)) hP hD hS hl h1.app k3 g
      · exact asA_ok (σ := σ ++ τ) (fun q hq => hk q (List.mem_append_right _ hq)) hσ.app hφ ⟨k1, hF, k2, hw⟩ (hL.mono (fun _ _ h => h.app)) (hT.2.mono (fun _ _ h => h.app)) hP hD hS hl h1.app k3 (relN_ok r _ _ g)
    | [], hT => exact hT.elim
  · cases h
theorem q_s_icmp_eq (hX : CTX p s m args c cc nL own w0 D cy A) {off : Int} {t : Nat} {L : List (AS × Nat)} (hd : decode cc pc = .ok (.if_icmp .eq off, 3)) (ht : tg pc off = some t) (h : br2A 0 t (pc + 3) a = some L) (hk : ∀ q ∈ L, OkA (Wc nc ns p l e R s m args below meth c Q) D cy A s.heap nL ω ad σ0 φ0 q.1 q.2) : OkA (Wc nc ns p l e R s m args below meth c Q) D cy A s.heap nL ω ad σ0 φ0 a pc := by
  intro σ φ ws lv stk H locs ls hσ hφ hG hP hD hS hl
  obtain ⟨x, y, st, rfl, k1, k2⟩ := q_br2A_inv h hk σ φ ws lv stk H locs ls hσ hφ hG hP hD hS hl
  exact lv_icmp_eq hX.1 hX.2.1 hd (tg_ok ht) (fun g => k1 (Int32.toInt_inj.mpr g)) (fun g => k2 (fun g' => g (Int32.toInt_inj.mp g')))
theorem q_s_if_eq (hX : CTX p s m args c cc nL own w0 D cy A) {off : Int} {t : Nat} {L : List (AS × Nat)} (hd : decode cc pc = .ok (.ifCond .eq off, 3)) (ht : tg pc off = some t) (h : br0A 0 t (pc + 3) a = some L) (hk : ∀ q ∈ L, OkA (Wc nc ns p l e R s m args below meth c Q) D cy A s.heap nL ω ad σ0 φ0 q.1 q.2) : OkA (Wc nc ns p l e R s m args below meth c Q) D cy A s.heap nL ω ad σ0 φ0 a pc := by
  intro σ φ ws lv stk H locs ls hσ hφ hG hP hD hS hl
  obtain ⟨x, st, rfl, k1, k2⟩ := q_br0A_inv h hk σ φ ws lv stk H locs ls hσ hφ hG hP hD hS hl
  have e0 : (0 : Int32).toInt = 0 := rfl
  rw [← e0] at k1 k2
  exact lv_if_eq hX.1 hX.2.1 hd (tg_ok ht) (fun g => k1 (Int32.toInt_inj.mpr g)) (fun g => k2 (fun g' => g (Int32.toInt_inj.mp g')))
theorem q_s_icmp_ne (hX : CTX p s m args c cc nL own w0 D cy A) {off : Int} {t : Nat} {L : List (AS × Nat)} (hd : decode cc pc = .ok (.if_icmp .ne off, 3)) (ht : tg pc off = some t) (h : br2A 1 t (pc + 3) a = some L) (hk : ∀ q ∈ L, OkA (Wc nc ns p l e R s m args below meth c Q) D cy A s.heap nL ω ad σ0 φ0 q.1 q.2) : OkA (Wc nc ns p l e R s m args below meth c Q) D cy A s.heap nL ω ad σ0 φ0 a pc := by
  intro σ φ ws lv stk H locs ls hσ hφ hG hP hD hS hl
  obtain ⟨x, y, st, rfl, k1, k2⟩ := q_br2A_inv h hk σ φ ws lv stk H locs ls hσ hφ hG hP hD hS hl
  exact lv_icmp_ne hX.1 hX.2.1 hd (tg_ok ht) (fun g => k1 (fun g' => g (Int32.toInt_inj.mp g'))) (fun g => k2 (fun g' => g' (Int32.toInt_inj.mpr g)))
theorem q_s_if_ne (hX : CTX p s m args c cc nL own w0 D cy A) {off : Int} {t : Nat} {L : List (AS × Nat)} (hd : decode cc pc = .ok (.ifCond .ne off, 3)) (ht : tg pc off = some t) (h : br0A 1 t (pc + 3) a = some L) (hk : ∀ q ∈ L, OkA (Wc nc ns p l e R s m args below meth c Q) D cy A s.heap nL ω ad σ0 φ0 q.1 q.2) : OkA (Wc nc ns p l e R s m args below meth c Q) D cy A s.heap nL ω ad σ0 φ0 a pc := by
  intro σ φ ws lv stk H locs ls hσ hφ hG hP hD hS hl
  obtain ⟨x, st, rfl, k1, k2⟩ := q_br0A_inv h hk σ φ ws lv stk H locs ls hσ hφ hG hP hD hS hl
  have e0 : (0 : Int32).toInt = 0 := rfl
  rw [← e0] at k1 k2
  exact lv_if_ne hX.1 hX.2.1 hd (tg_ok ht) (fun g => k1 (fun g' => g (Int32.toInt_inj.mp g'))) (fun g => k2 (fun g' => g' (Int32.toInt_inj.mpr g)))
theorem q_s_icmp_lt (hX : CTX p s m args c cc nL own w0 D cy A) {off : Int} {t : Nat} {L : List (AS × Nat)} (hd : decode cc pc = .ok (.if_icmp .lt off, 3)) (ht : tg pc off = some t) (h : br2A 2 t (pc + 3) a = some L) (hk : ∀ q ∈ L, OkA (Wc nc ns p l e R s m args below meth c Q) D cy A s.heap nL ω ad σ0 φ0 q.1 q.2) : OkA (Wc nc ns p l e R s m args below meth c Q) D cy A s.heap nL ω ad σ0 φ0 a pc := by
  intro σ φ ws lv stk H locs ls hσ hφ hG hP hD hS hl
  obtain ⟨x, y, st, rfl, k1, k2⟩ := q_br2A_inv h hk σ φ ws lv stk H locs ls hσ hφ hG hP hD hS hl
  exact lv_icmp_lt hX.1 hX.2.1 hd (tg_ok ht) (fun g => k1 (Int32.lt_iff_toInt_lt.mp g)) (fun g => k2 (fun g' => g (Int32.lt_iff_toInt_lt.mpr g')))
theorem q_s_if_lt (hX : CTX p s m args c cc nL own w0 D cy A) {off : Int} {t : Nat} {L : List (AS × Nat)} (hd : decode cc pc = .ok (.ifCond .lt off, 3)) (ht : tg pc off = some t) (h : br0A 2 t (pc + 3) a = some L) (hk : ∀ q ∈ L, OkA (Wc nc ns p l e R s m args below meth c Q) D cy A s.heap nL ω ad σ0 φ0 q.1 q.2) : OkA (Wc nc ns p l e R s m args below meth c Q) D cy A s.heap nL ω ad σ0 φ0 a pc := by
  intro σ φ ws lv stk H locs ls hσ hφ hG hP hD hS hl
  obtain ⟨x, st, rfl, k1, k2⟩ := q_br0A_inv h hk σ φ ws lv stk H locs ls hσ hφ hG hP hD hS hl
  have e0 : (0 : Int32).toInt = 0 := rfl
  rw [← e0] at k1 k2
  exact lv_if_lt hX.1 hX.2.1 hd (tg_ok ht) (fun g => k1 (Int32.lt_iff_toInt_lt.mp g)) (fun g => k2 (fun g' => g (Int32.lt_iff_toInt_lt.mpr g')))
theorem q_s_icmp_le (hX : CTX p s m args c cc nL own w0 D cy A) {off : Int} {t : Nat} {L : List (AS × Nat)} (hd : decode cc pc = .ok (.if_icmp .le off, 3)) (ht : tg pc off = some t) (h : br2A 3 t (pc + 3) a = some L) (hk : ∀ q ∈ L, OkA (Wc nc ns p l e R s m args below meth c Q) D cy A s.heap nL ω ad σ0 φ0 q.1 q.2) : OkA (Wc nc ns p l e R s m args below meth c Q) D cy A s.heap nL ω ad σ0 φ0 a pc := by
  intro σ φ ws lv stk H locs ls hσ hφ hG hP hD hS hl
  obtain ⟨x, y, st, rfl, k1, k2⟩ := q_br2A_inv h hk σ φ ws lv stk H locs ls hσ hφ hG hP hD hS hl
  exact lv_icmp_le hX.1 hX.2.1 hd (tg_ok ht) (fun g => k1 (Int32.le_iff_toInt_le.mp g)) (fun g => k2 (fun g' => g (Int32.le_iff_toInt_le.mpr g')))
theorem q_s_if_le (hX : CTX p s m args c cc nL own w0 D cy A) {off : Int} {t : Nat} {L : List (AS × Nat)} (hd : decode cc pc = .ok (.ifCond .le off, 3)) (ht : tg pc off = some t) (h : br0A 3 t (pc + 3) a = some L) (hk : ∀ q ∈ L, OkA (Wc nc ns p l e R s m args below meth c Q) D cy A s.heap nL ω ad σ0 φ0 q.1 q.2) : OkA (Wc nc ns p l e R s m args below meth c Q) D cy A s.heap nL ω ad σ0 φ0 a pc := by
  intro σ φ ws lv stk H locs ls hσ hφ hG hP hD hS hl
  obtain ⟨x, st, rfl, k1, k2⟩ := q_br0A_inv h hk σ φ ws lv stk H locs ls hσ hφ hG hP hD hS hl
  have e0 : (0 : Int32).toInt = 0 := rfl
  rw [← e0] at k1 k2
  exact lv_if_le hX.1 hX.2.1 hd (tg_ok ht) (fun g => k1 (Int32.le_iff_toInt_le.mp g)) (fun g => k2 (fun g' => g (Int32.le_iff_toInt_le.mpr g')))
theorem q_s_icmp_gt (hX : CTX p s m args c cc nL own w0 D cy A) {off : Int} {t : Nat} {L : List (AS × Nat)} (hd : decode cc pc = .ok (.if_icmp .gt off, 3)) (ht : tg pc off = some t) (h : br2A 4 t (pc + 3) a = some L) (hk : ∀ q ∈ L, OkA (Wc nc ns p l e R s m args below meth c Q) D cy A s.heap nL ω ad σ0 φ0 q.1 q.2) : OkA (Wc nc ns p l e R s m args below meth c Q) D cy A s.heap nL ω ad σ0 φ0 a pc := by
  intro σ φ ws lv stk H locs ls hσ hφ hG hP hD hS hl
  obtain ⟨x, y, st, rfl, k1, k2⟩ := q_br2A_inv h hk σ φ ws lv stk H locs ls hσ hφ hG hP hD hS hl
  exact lv_icmp_gt hX.1 hX.2.1 hd (tg_ok ht) (fun g => k1 (Int32.lt_iff_toInt_lt.mp g)) (fun g => k2 (fun g' => g (Int32.lt_iff_toInt_lt.mpr g')))
theorem q_s_if_gt (hX : CTX p s m args c cc nL own w0 D cy A) {off : Int} {t : Nat} {L : List (AS × Nat)} (hd : decode cc pc = .ok (.ifCond .gt off, 3)) (ht : tg pc off = some t) (h : br0A 4 t (pc + 3) a = some L) (hk : ∀ q ∈ L, OkA (Wc nc ns p l e R s m args below meth c Q) D cy A s.heap nL ω ad σ0 φ0 q.1 q.2) : OkA (Wc nc ns p l e R s m args below meth c Q) D cy A s.heap nL ω ad σ0 φ0 a pc := by
  intro σ φ ws lv stk H locs ls hσ hφ hG hP hD hS hl
  obtain ⟨x, st, rfl, k1, k2⟩ := q_br0A_inv h hk σ φ ws lv stk H locs ls hσ hφ hG hP hD hS hl
  have e0 : (0 : Int32).toInt = 0 := rfl
  rw [← e0] at k1 k2
  exact lv_if_gt hX.1 hX.2.1 hd (tg_ok ht) (fun g => k1 (Int32.lt_iff_toInt_lt.mp g)) (fun g => k2 (fun g' => g (Int32.lt_iff_toInt_lt.mpr g')))
theorem q_s_icmp_ge (hX : CTX p s m args c cc nL own w0 D cy A) {off : Int} {t : Nat} {L : List (AS × Nat)} (hd : decode cc pc = .ok (.if_icmp .ge off, 3)) (ht : tg pc off = some t) (h : br2A 5 t (pc + 3) a = some L) (hk : ∀ q ∈ L, OkA (Wc nc ns p l e R s m args below meth c Q) D cy A s.heap nL ω ad σ0 φ0 q.1 q.2) : OkA (Wc nc ns p l e R s m args below meth c Q) D cy A s.heap nL ω ad σ0 φ0 a pc := by
  intro σ φ ws lv stk H locs ls hσ hφ hG hP hD hS hl
  obtain ⟨x, y, st, rfl, k1, k2⟩ := q_br2A_inv h hk σ φ ws lv stk H locs ls hσ hφ hG hP hD hS hl
  exact lv_icmp_ge hX.1 hX.2.1 hd (tg_ok ht) (fun g => k1 (Int32.le_iff_toInt_le.mp g)) (fun g => k2 (fun g' => g (Int32.le_iff_toInt_le.mpr g')))
theorem q_s_if_ge (hX : CTX p s m args c cc nL own w0 D cy A) {off : Int} {t : Nat} {L : List (AS × Nat)} (hd : decode cc pc = .ok (.ifCond .ge off, 3)) (ht : tg pc off = some t) (h : br0A 5 t (pc + 3) a = some L) (hk : ∀ q ∈ L, OkA (Wc nc ns p l e R s m args below meth c Q) D cy A s.heap nL ω ad σ0 φ0 q.1 q.2) : OkA (Wc nc ns p l e R s m args below meth c Q) D cy A s.heap nL ω ad σ0 φ0 a pc := by
  intro σ φ ws lv stk H locs ls hσ hφ hG hP hD hS hl
  obtain ⟨x, st, rfl, k1, k2⟩ := q_br0A_inv h hk σ φ ws lv stk H locs ls hσ hφ hG hP hD hS hl
  have e0 : (0 : Int32).toInt = 0 := rfl
  rw [← e0] at k1 k2
  exact lv_if_ge hX.1 hX.2.1 hd (tg_ok ht) (fun g => k1 (Int32.le_iff_toInt_le.mp g)) (fun g => k2 (fun g' => g (Int32.le_iff_toInt_le.mpr g')))
theorem q_s_goto (hX : CTX p s m args c cc nL own w0 D cy A) {off : Int} {t : Nat} (hd : decode cc pc = .ok (.goto off, 3)) (ht : tg pc off = some t) (hk : OkA (Wc nc ns p l e R s m args below meth c Q) D cy A s.heap nL ω ad σ0 φ0 a t) : OkA (Wc nc ns p l e R s m args below meth c Q) D cy A s.heap nL ω ad σ0 φ0 a pc := by
  intro σ φ ws lv stk H locs ls hσ hφ hG hP hD hS hl
  exact lv_goto hX.1 hX.2.1 hd (tg_ok ht) (hk σ φ ws lv stk H locs ls hσ hφ hG hP hD hS hl)
theorem q_s_tableswitch (hX : CTX p s m args c cc nL own w0 D cy A) {dflt lo hi : Int} {offs : Array Int} {len : Nat} {L : List (AS × Nat)} (hd : decode cc pc = .ok (.tableswitch dflt lo hi offs, len)) (h : tswA pc dflt lo hi offs a = some L) (hk : ∀ q ∈ L, OkA (Wc nc ns p l e R s m args below meth c Q) D cy A s.heap nL ω ad σ0 φ0 q.1 q.2) : OkA (Wc nc ns p l e R s m args below meth c Q) D cy A s.heap nL ω ad σ0 φ0 a pc := by
  intro σ φ ws lv stk H locs ls hσ hφ hG hP hD hS hl
  obtain ⟨hW, hL, hT⟩ := hG
  unfold tswA at h
  split at h
  · rename_i x st d ts q1 q2 q3
    rw [q1] at hT
    by_cases hc : hi - lo + 1 ≤ (offs.toList.length : Int)
    · rw [if_pos hc] at h
      cases h
      match stk, hT with
      | v1 :: st', hT =>
        obtain ⟨x1, rfl, h1⟩ := hT.1.1
        obtain ⟨g1, g2⟩ := swA_ok hσ hφ hW hL hT.2 hP hD hS hl h1 hk
        by_cases ho : x1.toInt < lo ∨ hi < x1.toInt
        · exact lv_tableOut hX.1 hX.2.1 hd ho (tg_ok q2) g1
        · have hj : (x1.toInt - lo).toNat < offs.toList.length := by omega
          obtain ⟨t, t1, t2⟩ := tgs_ok q3 (List.getElem?_eq_getElem hj)
          refine lv_tableIn hX.1 hX.2.1 hd (fun z => ho (Or.inl z)) (fun z => ho (Or.inr z)) (off := offs.toList[(x1.toInt - lo).toNat]) ?_ t1 (g2 _ t2 (by dsimp only; omega))
          rw [← Array.getElem?_toList]
          exact List.getElem?_eq_getElem hj
      | [], hT => exact hT.elim
    · rw [if_neg hc] at h
      cases h
  · cases h
theorem q_s_lookupswitch (hX : CTX p s m args c cc nL own w0 D cy A) {dflt : Int} {ps : Array (Int × Int)} {len : Nat} {L : List (AS × Nat)} (hd : decode cc pc = .ok (.lookupswitch dflt ps, len)) (h : lswA pc dflt ps a = some L) (hk : ∀ q ∈ L, OkA (Wc nc ns p l e R s m args below meth c Q) D cy A s.heap nL ω ad σ0 φ0 q.1 q.2) : OkA (Wc nc ns p l e R s m args below meth c Q) D cy A s.heap nL ω ad σ0 φ0 a pc := by
  intro σ φ ws lv stk H locs ls hσ hφ hG hP hD hS hl
  obtain ⟨hW, hL, hT⟩ := hG
  unfold lswA at h
  split at h
  · rename_i x st d ts q1 q2 q3
    rw [q1] at hT
    by_cases hc : (ps.toList.zip (ps.toList.drop 1)).all (fun (a, next) => a.1 < next.1) = true
    · rw [if_pos hc] at h
      cases h
      match stk, hT with
      | v1 :: st', hT =>
        obtain ⟨x1, rfl, h1⟩ := hT.1.1
        obtain ⟨g1, g2⟩ := swA_ok hσ hφ hW hL hT.2 hP hD hS hl h1 hk
        rcases lks_ok ps.toList dflt x1.toInt with ho | ho
        · exact lv_lookup hX.1 hX.2.1 hd hc ho (tg_ok q2) g1
        · obtain ⟨t, t1, t2⟩ := lgs_ok q3 ho
          exact lv_lookup hX.1 hX.2.1 hd hc rfl t1 (g2 _ t2 rfl)
      | [], hT => exact hT.elim
    · rw [if_neg hc] at h
      cases h
  · cases h
theorem q_s_getfield (hX : CTX p s m args c cc nL own w0 D cy A) {FT : List (Nat × Nat × Nat × Nat)} (hFT : ∀ q ∈ FT, FOK own q) {idx : Nat} (hd : decode cc pc = .ok (.getfield idx, 3)) (h : gfA FT idx a = some a') (hk : OkA (Wc nc ns p l e R s m args below meth c Q) D cy A s.heap nL ω ad σ0 φ0 a' (pc + 3)) : OkA (Wc nc ns p l e R s m args below meth c Q) D cy A s.heap nL ω ad σ0 φ0 a pc := by
  intro σ φ ws lv stk H locs ls hσ hφ hG hP hD hS hl
  obtain ⟨hx, hb, hml, hown, hts, hK, hA⟩ := hX
  obtain ⟨⟨hB, hF, hC, hW⟩, hL, hT⟩ := hG
  unfold gfA at h
  split at h
  · rename_i cr st q q1 q2
    rw [q1] at hT
    match stk, hT with
    | v1 :: st', hT =>
      split at h
      · rename_i ci fs q3
        by_cases t : (ci == q.1) = true
        · rw [if_pos t] at h
          have t' : ci = q.1 := by simpa using t
          split at h
          · rename_i av q4
            by_cases t2 : isU av = true
            · rw [if_pos t2] at h
              cases h
            · rw [if_neg t2] at h
              cases h
              obtain ⟨en, w1, w2⟩ := hW.2 cr _ q3
              obtain ⟨vs, rfl, w3⟩ := w2
              obtain ⟨v, w4, w5⟩ := P2.get w3 q4
              have hv : v1 = .ref (ad cr) := hT.1.1
              subst hv
              obtain ⟨C, T, N, ty0, f1, f2, f3, f4, f5, f6, f7⟩ := hFT _ (fnd_ok q2)
              subst t'
              exact va_get hx hb hts (fun w hw => List.mem_cons_of_mem _ (f3 w hw)) hown hK.1 hP cr w1 f1 q.2.1 f2 (hts _ (List.mem_cons_of_mem _ f6)) (fun _ h9 => h9) w4 hd (hk σ φ ws lv _ H locs ls hσ hφ ⟨⟨hB, hF, hC, hW⟩, hL, w5.cat (by simpa using t2), hT.2⟩ hP hD hS hl)
          · cases h
        · rw [if_neg t] at h
          cases h
      · cases h
    | [], hT => exact hT.elim
  · cases h
theorem q_s_putfield (hX : CTX p s m args c cc nL own w0 D cy A) {FT : List (Nat × Nat × Nat × Nat)} (hFT : ∀ q ∈ FT, FOK own q) {idx : Nat} (hd : decode cc pc = .ok (.putfield idx, 3)) (h : pfA FT idx a = some a') (hk : OkA (Wc nc ns p l e R s m args below meth c Q) D cy A s.heap nL ω ad σ0 φ0 a' (pc + 3)) : OkA (Wc nc ns p l e R s m args below meth c Q) D cy A s.heap nL ω ad σ0 φ0 a pc := by
  intro σ φ ws lv stk H locs ls hσ hφ hG hP hD hS hl
  obtain ⟨hx, hb, hml, hown, hts, hK, hA⟩ := hX
  obtain ⟨⟨hB, hF, hC, hW⟩, hL, hT⟩ := hG
  unfold pfA at h
  split at h
  · rename_i av cr st q q1 q2
    rw [q1] at hT
    match stk, hT with
    | v1 :: v2 :: st', hT =>
      split at h
      · rename_i ci fs q3
        by_cases t : (ci == q.1 && decide (q.2.1 < fs.length) && decide (q.2.2 < 5) && fitA q.2.2 a.1.1 a.1.2.2.1 av) = true
        · rw [if_pos t] at h
          have t' : ((ci = q.1 ∧ q.2.1 < fs.length) ∧ q.2.2 < 5) ∧ fitA q.2.2 a.1.1 a.1.2.2.1 av = true := by simpa using t
          cases h
          obtain ⟨en, w1, w2⟩ := hW.2 cr _ q3
          obtain ⟨vs, rfl, w3⟩ := w2
          have hv : v2 = .ref (ad cr) := hT.2.1.1
          subst hv
          obtain ⟨C, T, N, ty0, f1, f2, f3, f4, f5, f6, f7⟩ := hFT _ (fnd_ok q2)
          obtain ⟨f8, f9⟩ := f7 t'.1.2
          obtain ⟨n1, n2⟩ := fitA_ok hB hC t'.2 hT.1.1 f9
          have hl' : q.2.1 < vs.length := by rw [← P2.len w3]; exact t'.1.1.2
          obtain ⟨rfl, _⟩ := t'.1.1
          exact va_put hx hb hts (fun w hw => List.mem_cons_of_mem _ (f3 w hw)) ty0 f4 f5 hown hK.1 hP hD hS cr w1 f1 q.2.1 f2 (hts _ (List.mem_cons_of_mem _ f6)) (fun _ h9 => h9) f8 (f4 _ f2) n1 n2 hl' hd (fun H1 locs1 hP1 hD1 hS1 => hk σ φ _ lv _ H1 locs1 ls hσ hφ ⟨⟨hB, hF, hC, hW.set (k0 := cr) ⟨_, rfl, w3.set hT.1.1⟩⟩, hL, hT.2.2⟩ hP1 hD1 hS1 hl)
        · rw [if_neg t] at h
          cases h
      · cases h
    | [v1], hT => exact hT.2.elim
    | [], hT => exact hT.elim
  · cases h
theorem q_s_arraylength (hX : CTX p s m args c cc nL own w0 D cy A) (hd : decode cc pc = .ok (.arraylength, 1)) (h : alenA a = some a') (hk : OkA (Wc nc ns p l e R s m args below meth c Q) D cy A s.heap nL ω ad σ0 φ0 a' (pc + 1)) : OkA (Wc nc ns p l e R s m args below meth c Q) D cy A s.heap nL ω ad σ0 φ0 a pc := by
  intro σ φ ws lv stk H locs ls hσ hφ hG hP hD hS hl
  obtain ⟨hx, hb, hml, hown, hts, hK, hA⟩ := hX
  obtain ⟨⟨hB, hF, hC, hW⟩, hL, hT⟩ := hG
  unfold alenA at h
  split at h
  · rename_i cr st q1
    rw [q1] at hT
    match stk, hT with
    | v1 :: st', hT =>
      cases q2 : a.1.2.2.2[cr]? with
      | none => rw [q2] at h; cases h
      | some ac =>
        rw [q2] at h
        dsimp only [Option.bind] at h
        cases q3 : lenC ac with
        | none => rw [q3] at h; cases h
        | some q =>
          rw [q3] at h
          dsimp only at h
          by_cases t : q.1 < 6
          · rw [if_pos (by simpa using t)] at h
            cases h
            obtain ⟨en, w1, w2⟩ := hW.2 cr _ q2
            obtain ⟨x, rfl, w4⟩ := lenC_ok q3 w2
            obtain ⟨ty, hty⟩ := ty_at cy t
            have hv : v1 = .ref (ad cr) := hT.1.1
            subst hv
            obtain ⟨τ, hg⟩ := GS.pushI (x := Int32.ofNat q.2) ⟨hB, hF, hC, hW⟩ hL hT.2 (cR_ok hB hC _)
            exact va_alen hx hb hK.1 hP cr q.1 w1 hty (by rw [w4]) hd (hk (σ ++ τ) φ ws lv _ H locs ls hσ.app hφ hg hP hD hS hl)
          · rw [if_neg (by simpa using t)] at h
            cases h
    | [], hT => exact hT.elim
  · cases h
theorem q_s_iaload (hX : CTX p s m args c cc nL own w0 D cy A) (hd : decode cc pc = .ok (.iaload, 1)) (h : ialdA a = some a') (hk : OkA (Wc nc ns p l e R s m args below meth c Q) D cy A s.heap nL ω ad σ0 φ0 a' (pc + 1)) : OkA (Wc nc ns p l e R s m args below meth c Q) D cy A s.heap nL ω ad σ0 φ0 a pc := by
  intro σ φ ws lv stk H locs ls hσ hφ hG hP hD hS hl
  obtain ⟨hx, hb, hml, hown, hts, hK, hA⟩ := hX
  obtain ⟨⟨hB, hF, hC, hW⟩, hL, hT⟩ := hG
  unfold ialdA at h
  split at h
  · rename_i x cr st q1
    rw [q1] at hT
    match stk, hT with
    | v1 :: v2 :: st', hT =>
      obtain ⟨x1, rfl, hvx⟩ := hT.1.1
      have hv : v2 = .ref (ad cr) := hT.2.1.1
      subst hv
      split at h
      · rename_i kd n k q2
        obtain ⟨en, w1, w2⟩ := hW.2 cr _ q2
        obtain ⟨f, w3, rfl⟩ := w2
        split at h
        · rename_i b q3
          by_cases t : (kd == 1 && ixOK a.1.1 a.1.2.2.1 x n) = true
          · rw [if_pos t] at h
            have t' : kd = 1 ∧ ixOK a.1.1 a.1.2.2.1 x n = true := by simpa using t
            cases h
            obtain ⟨i1, i2, i3, i4⟩ := ixOK_ok hB hC t'.2 hvx
            obtain ⟨rfl, _⟩ := t'
            obtain ⟨f', g1, g2⟩ := P2.get hF q3
            rw [w3] at g1
            cases g1
            obtain ⟨τ, hg⟩ := GS.pushI (x := f x1.toNatClampNeg) ⟨hB, hF, hC, hW⟩ hL hT.2.2 (ivR_ok hB hC (g2 _).1 (g2 _).2)
            exact m_iald hx hb hK hP cr w1 i1 hd rfl (hk (σ ++ τ) φ ws lv _ H locs ls hσ.app hφ hg hP hD hS hl)
          · rw [if_neg t] at h
            cases h
        · cases h
      · rename_i n fs q2
        obtain ⟨en, w1, w2⟩ := hW.2 cr _ q2
        obtain ⟨g0, ob, w3, w4⟩ := w2
        by_cases t : (decide (n < 1000) && ixOK a.1.1 a.1.2.2.1 x n) = true
        · rw [if_pos t] at h
          have t : n < 1000 ∧ ixOK a.1.1 a.1.2.2.1 x n = true := by simpa using t
          have hn : n < 1000 := t.1
          obtain ⟨f, rfl, hg0⟩ := OB_lt hn ob
          have w3 : fs.length = n := w3.trans (ols_lt hn)
          have w4 : ∀ (j : Nat) (av : AV), fs[j]? = some av → gv σ ω ad av (.int (f j)) := fun j av hj => by
            have := w4 j av hj
            rwa [hg0] at this
          have t := t.2
          obtain ⟨i1, i2, i3, i4⟩ := ixOK_ok hB hC t hvx
          split at h
          · rename_i b q3
            have g := bnd_ok hB hC q3 hvx
            by_cases t2 : (b.1 == b.2) = true
            · rw [if_pos t2] at h
              have t2' : b.1 = b.2 := by simpa using t2
              split at h
              · rename_i ev q4
                cases h
                have g5 := w4 _ _ q4
                have e1 : b.1.toNat = x1.toNatClampNeg := by rw [i2]; omega
                rw [e1] at g5
                exact m_iald hx hb hK hP cr w1 i1 hd rfl (hk σ φ ws lv _ H locs ls hσ hφ ⟨⟨hB, hF, hC, hW⟩, hL, g5.cat rfl, hT.2.2⟩ hP hD hS hl)
              · cases h
            · rw [if_neg t2] at h
              split at h
              · rename_i q q4
                cases h
                have g5 := rcJ_ok hB hC q4 (f := f) (i := x1.toNatClampNeg) (fun k av hk => by rw [Nat.zero_add]; exact w4 k av hk) (Nat.zero_le _) (by rw [i2, w3]; omega) (by rw [i2]; omega) (by rw [i2]; omega)
                obtain ⟨τ, hg⟩ := GS.pushI (x := f x1.toNatClampNeg) ⟨hB, hF, hC, hW⟩ hL hT.2.2 (ivR_ok hB hC g5.1 g5.2)
                exact m_iald hx hb hK hP cr w1 i1 hd rfl (hk (σ ++ τ) φ ws lv _ H locs ls hσ.app hφ hg hP hD hS hl)
              · cases h
          · cases h
        · rw [if_neg t] at h
          cases h
      · cases h
    | [v1], hT => exact hT.2.elim
    | [], hT => exact hT.elim
  · cases h
theorem q_s_baload (hX : CTX p s m args c cc nL own w0 D cy A) (hd : decode cc pc = .ok (.baload, 1)) (h : baldA a = some a') (hk : OkA (Wc nc ns p l e R s m args below meth c Q) D cy A s.heap nL ω ad σ0 φ0 a' (pc + 1)) : OkA (Wc nc ns p l e R s m args below meth c Q) D cy A s.heap nL ω ad σ0 φ0 a pc := by
  intro σ φ ws lv stk H locs ls hσ hφ hG hP hD hS hl
  obtain ⟨hx, hb, hml, hown, hts, hK, hA⟩ := hX
  obtain ⟨⟨hB, hF, hC, hW⟩, hL, hT⟩ := hG
  unfold baldA at h
  split at h
  · rename_i x cr st q1
    rw [q1] at hT
    match stk, hT with
    | v1 :: v2 :: st', hT =>
      obtain ⟨x1, rfl, hvx⟩ := hT.1.1
      have hv : v2 = .ref (ad cr) := hT.2.1.1
      subst hv
      split at h
      · rename_i kd n k q2
        obtain ⟨en, w1, w2⟩ := hW.2 cr _ q2
        obtain ⟨f, w3, rfl⟩ := w2
        split at h
        · rename_i b q3
          by_cases t : ((kd == 0 || kd == 3) && ixOK a.1.1 a.1.2.2.1 x n) = true
          · rw [if_pos t] at h
            have t' : (kd = 0 ∨ kd = 3) ∧ ixOK a.1.1 a.1.2.2.1 x n = true := by simpa using t
            cases h
            obtain ⟨i1, i2, i3, i4⟩ := ixOK_ok hB hC t'.2 hvx
            obtain ⟨f', g1, g2⟩ := P2.get hF q3
            rw [w3] at g1
            cases g1
            obtain ⟨τ, hg⟩ := GS.pushI (x := f x1.toNatClampNeg) ⟨hB, hF, hC, hW⟩ hL hT.2.2 (ivR_ok hB hC (g2 _).1 (g2 _).2)
            have kk := hk (σ ++ τ) φ ws lv _ H locs ls hσ.app hφ hg hP hD hS hl
            rcases t'.1 with rfl | rfl
            · exact m_bald hx hb hK hP cr w1 i1 hd rfl kk
            · exact m_zald hx hb hK hP cr w1 i1 hd rfl kk
          · rw [if_neg t] at h
            cases h
        · cases h
      · cases h
    | [v1], hT => exact hT.2.elim
    | [], hT => exact hT.elim
  · cases h
theorem q_s_laload (hX : CTX p s m args c cc nL own w0 D cy A) (hd : decode cc pc = .ok (.laload, 1)) (h : laldA a = some a') (hk : OkA (Wc nc ns p l e R s m args below meth c Q) D cy A s.heap nL ω ad σ0 φ0 a' (pc + 1)) : OkA (Wc nc ns p l e R s m args below meth c Q) D cy A s.heap nL ω ad σ0 φ0 a pc := by
  intro σ φ ws lv stk H locs ls hσ hφ hG hP hD hS hl
  obtain ⟨hx, hb, hml, hown, hts, hK, hA⟩ := hX
  obtain ⟨⟨hB, hF, hC, hW⟩, hL, hT⟩ := hG
  unfold laldA at h
  split at h
  · rename_i x cr st q1
    rw [q1] at hT
    match stk, hT with
    | v1 :: v2 :: st', hT =>
      obtain ⟨x1, rfl, hvx⟩ := hT.1.1
      have hv : v2 = .ref (ad cr) := hT.2.1.1
      subst hv
      split at h
      · rename_i n q2
        obtain ⟨en, w1, w2⟩ := hW.2 cr _ q2
        obtain ⟨f, rfl⟩ := w2
        by_cases t : ixOK a.1.1 a.1.2.2.1 x n = true
        · rw [if_pos t] at h
          cases h
          obtain ⟨i1, i2, i3, i4⟩ := ixOK_ok hB hC t hvx
          obtain ⟨τ, hg⟩ := GS.pushL (x := f x1.toNatClampNeg) ⟨hB, hF, hC, hW⟩ hL hT.2.2 (fullL_ok hB hC _)
          exact m_lald hx hb hK hP cr w1 i1 hd rfl (hk (σ ++ τ) φ ws lv _ H locs ls hσ.app hφ hg hP hD hS hl)
        · rw [if_neg t] at h
          cases h
      · cases h
    | [v1], hT => exact hT.2.elim
    | [], hT => exact hT.elim
  · cases h
theorem q_s_aaload (hX : CTX p s m args c cc nL own w0 D cy A) {L : List (AS × Nat)} (hd : decode cc pc = .ok (.aaload, 1)) (h : aaldA (pc + 1) a = some L) (hk : ∀ q ∈ L, OkA (Wc nc ns p l e R s m args below meth c Q) D cy A s.heap nL ω ad σ0 φ0 q.1 q.2) : OkA (Wc nc ns p l e R s m args below meth c Q) D cy A s.heap nL ω ad σ0 φ0 a pc := by
  intro σ φ ws lv stk H locs ls hσ hφ hG hP hD hS hl
  obtain ⟨hx, hb, hml, hown, hts, hK, hA⟩ := hX
  obtain ⟨⟨hB, hF, hC, hW⟩, hL, hT⟩ := hG
  unfold aaldA at h
  split at h
  · rename_i x cr st q1
    rw [q1] at hT
    match stk, hT with
    | v1 :: v2 :: st', hT =>
      obtain ⟨x1, rfl, hvx⟩ := hT.1.1
      have hv : v2 = .ref (ad cr) := hT.2.1.1
      subst hv
      split at h
      · rename_i kd n cs q2
        obtain ⟨en, w1, w2⟩ := hW.2 cr _ q2
        obtain ⟨f, rfl, w3⟩ := w2
        split at h
        · rename_i b q3
          have g := bnd_ok hB hC q3 hvx
          by_cases t : ((kd == 4 || kd == 5) && ixOK a.1.1 a.1.2.2.1 x n && decide (n = cs.length)) = true
          · rw [if_pos t] at h
            have t' : ((kd = 4 ∨ kd = 5) ∧ ixOK a.1.1 a.1.2.2.1 x n = true) ∧ n = cs.length := by simpa using t
            cases h
            obtain ⟨i1, i2, i3, i4⟩ := ixOK_ok hB hC t'.1.2 hvx
            have hj : x1.toNatClampNeg < cs.length := by rw [i2, ← t'.2]; omega
            have hget := List.getElem?_eq_getElem hj
            have hf := w3 _ _ hget
            have hmem := cutL_ok (lo := b.1) (hi := b.2) (j := 0) hget (by rw [i2]; omega) (by rw [i2]; omega)
            have kk := hk _ (List.mem_map.mpr ⟨_, hmem, rfl⟩) σ φ ws lv (.ref (ad cs[x1.toNatClampNeg]) :: st') H locs ls hσ hφ ⟨⟨hB, hF, hC, hW⟩, hL, ⟨rfl, rfl⟩, hT.2.2⟩ hP hD hS hl
            rcases t'.1.1 with rfl | rfl
            · exact m_aald hx hb hK hP cr 4 w1 rfl i1 hd hf kk
            · exact m_aald hx hb hK hP cr 5 w1 rfl i1 hd hf kk
          · rw [if_neg t] at h
            cases h
        · cases h
      · cases h
    | [v1], hT => exact hT.2.elim
    | [], hT => exact hT.elim
  · cases h
theorem q_s_iastore (hX : CTX p s m args c cc nL own w0 D cy A) (hd : decode cc pc = .ok (.iastore, 1)) (h : iastA a = some a') (hk : OkA (Wc nc ns p l e R s m args below meth c Q) D cy A s.heap nL ω ad σ0 φ0 a' (pc + 1)) : OkA (Wc nc ns p l e R s m args below meth c Q) D cy A s.heap nL ω ad σ0 φ0 a pc := by
  intro σ φ ws lv stk H locs ls hσ hφ hG hP hD hS hl
  obtain ⟨hx, hb, hml, hown, hts, hK, hA⟩ := hX
  obtain ⟨⟨hB, hF, hC, hW⟩, hL, hT⟩ := hG
  unfold iastA at h
  split at h
  · rename_i v x cr st q1
    rw [q1] at hT
    match stk, hT with
    | v0 :: v1 :: v2 :: st', hT =>
      obtain ⟨y1, rfl, hvy⟩ := hT.1.1
      obtain ⟨x1, rfl, hvx⟩ := hT.2.1.1
      have hv : v2 = .ref (ad cr) := hT.2.2.1.1
      subst hv
      have hT3 := hT.2.2.2
      split at h
      · rename_i kd n k vb q2 q0
        have gv0 := bnd_ok hB hC q0 hvy
        obtain ⟨en, w1, w2⟩ := hW.2 cr _ q2
        obtain ⟨f, w3, rfl⟩ := w2
        split at h
        · rename_i b q3
          by_cases t : (kd == 1 && ixOK a.1.1 a.1.2.2.1 x n) = true
          · rw [if_pos t] at h
            have t' : kd = 1 ∧ ixOK a.1.1 a.1.2.2.1 x n = true := by simpa using t
            cases h
            obtain ⟨i1, i2, i3, i4⟩ := ixOK_ok hB hC t'.2 hvx
            obtain ⟨rfl, _⟩ := t'
            obtain ⟨f', g1, g2⟩ := P2.get hF q3
            rw [w3] at g1
            cases g1
            have hF2 : zF (a.1.2.1 ++ [jn b vb]) (φ ++ [upd f x1.toNatClampNeg y1]) := P2.app hF ⟨upd_b g2 gv0, trivial⟩
            have hw := hW.app (τ := []) (ψ := [upd f x1.toNatClampNeg y1])
            rw [List.append_nil] at hw
            have hw2 := hw.set (k0 := cr) (c := .inr (.inl (1, n, a.1.2.1.length))) (e := .inl (cy 1, n, .inl (upd f x1.toNatClampNeg y1))) ⟨_, by rw [P2.len hF]; exact gend, rfl⟩
            exact m_iast hx hb hK hP hD hS cr w1 i1 hd rfl (fun H1 locs1 hP1 hD1 hS1 => hk σ _ _ lv _ H1 locs1 ls hσ hφ.app ⟨⟨hB, hF2, hC, hw2⟩, hL, hT3⟩ hP1 hD1 hS1 hl)
          · rw [if_neg t] at h
            cases h
        · cases h
      · rename_i n fs vb q2 q0
        have gv0 := bnd_ok hB hC q0 hvy
        obtain ⟨en, w1, w2⟩ := hW.2 cr _ q2
        obtain ⟨g0, ob, w3, w4⟩ := w2
        by_cases t : (decide (n < 1000) && ixOK a.1.1 a.1.2.2.1 x n) = true
        · rw [if_pos t] at h
          have t : n < 1000 ∧ ixOK a.1.1 a.1.2.2.1 x n = true := by simpa using t
          have hn : n < 1000 := t.1
          obtain ⟨f, rfl, hg0⟩ := OB_lt hn ob
          have w3 : fs.length = n := w3.trans (ols_lt hn)
          have w4 : ∀ (j : Nat) (av : AV), fs[j]? = some av → gv σ ω ad av (.int (f j)) := fun j av hj => by
            have := w4 j av hj
            rwa [hg0] at this
          have t := t.2
          obtain ⟨i1, i2, i3, i4⟩ := ixOK_ok hB hC t hvx
          split at h
          · rename_i b q3
            have g := bnd_ok hB hC q3 hvx
            by_cases t2 : (b.1 == b.2) = true
            · rw [if_pos t2] at h
              have t2' : b.1 = b.2 := by simpa using t2
              cases h
              have e1 : b.1.toNat = x1.toNatClampNeg := by rw [i2]; omega
              have hw2 := hW.set (k0 := cr) (c := .inr (.inr (.inr (.inl (n, fs.set b.1.toNat (.inl v)))))) (e := .inl (cy 1, n, .inl (upd f x1.toNatClampNeg y1))) ⟨_, OB_of hn, by rw [ols_lt hn]; simpa using w3, fun j av hj => by
                rw [e1] at hj
                by_cases z : j = x1.toNatClampNeg
                · subst z
                  have hlt : x1.toNatClampNeg < fs.length := by rw [i2, w3]; omega
                  rw [List.getElem?_set_self hlt] at hj
                  cases hj
                  refine ⟨y1, ?_, hvy⟩
                  unfold upd
                  rw [if_pos rfl]
                · rw [List.getElem?_set_ne (fun q => z q.symm)] at hj
                  have := w4 j av hj
                  unfold upd
                  rw [if_neg z]
                  exact this⟩
              exact m_iast hx hb hK hP hD hS cr w1 i1 hd rfl (fun H1 locs1 hP1 hD1 hS1 => hk σ φ _ lv _ H1 locs1 ls hσ hφ ⟨⟨hB, hF, hC, hw2⟩, hL, hT3⟩ hP1 hD1 hS1 hl)
            · rw [if_neg t2] at h
              split at h
              · rename_i z q4
                cases h
                obtain ⟨l1, τ, k1, k2⟩ := rcW_ok (f := f) (i := x1.toNatClampNeg) gv0 (by rw [i2]; omega) (by rw [i2]; omega) hB hC q4 (fun k av hk => by rw [Nat.zero_add]; exact w4 k av hk)
                have hw := hW.app (τ := τ) (ψ := [])
                rw [List.append_nil] at hw
                have hw2 := hw.set (k0 := cr) (c := .inr (.inr (.inr (.inl (n, z.2))))) (e := .inl (cy 1, n, .inl (upd f x1.toNatClampNeg y1))) ⟨_, OB_of hn, by rw [l1, w3, ols_lt hn], fun j av hj => by
                  have := k2 j av hj
                  rwa [Nat.zero_add] at this⟩
                exact m_iast hx hb hK hP hD hS cr w1 i1 hd rfl (fun H1 locs1 hP1 hD1 hS1 => hk (σ ++ τ) φ _ lv _ H1 locs1 ls hσ.app hφ ⟨⟨k1, hF, hC.app, hw2⟩, hL.mono (fun _ _ h => h.app), hT3.mono (fun _ _ h => h.app)⟩ hP1 hD1 hS1 hl)
              · cases h
          · cases h
        · rw [if_neg t] at h
          cases h
      · cases h
    | [v0, v1], hT => exact hT.2.2.elim
    | [v1], hT => exact hT.2.elim
    | [], hT => exact hT.elim
  · cases h
theorem q_s_bastore (hX : CTX p s m args c cc nL own w0 D cy A) (hd : decode cc pc = .ok (.bastore, 1)) (h : bastA a = some a') (hk : OkA (Wc nc ns p l e R s m args below meth c Q) D cy A s.heap nL ω ad σ0 φ0 a' (pc + 1)) : OkA (Wc nc ns p l e R s m args below meth c Q) D cy A s.heap nL ω ad σ0 φ0 a pc := by
  intro σ φ ws lv stk H locs ls hσ hφ hG hP hD hS hl
  obtain ⟨hx, hb, hml, hown, hts, hK, hA⟩ := hX
  obtain ⟨⟨hB, hF, hC, hW⟩, hL, hT⟩ := hG
  unfold bastA at h
  split at h
  · rename_i v x cr st q1
    rw [q1] at hT
    match stk, hT with
    | v0 :: v1 :: v2 :: st', hT =>
      obtain ⟨y1, rfl, hvy⟩ := hT.1.1
      obtain ⟨x1, rfl, hvx⟩ := hT.2.1.1
      have hv : v2 = .ref (ad cr) := hT.2.2.1.1
      subst hv
      have hT3 := hT.2.2.2
      split at h
      · rename_i kd n k vb q2 q0
        have gv0 := bnd_ok hB hC q0 hvy
        obtain ⟨en, w1, w2⟩ := hW.2 cr _ q2
        obtain ⟨f, w3, rfl⟩ := w2
        split at h
        · rename_i b q3
          by_cases t : ((kd == 0 || (kd == 3 && inR 0 1 vb.1 vb.2)) && ixOK a.1.1 a.1.2.2.1 x n) = true
          · rw [if_pos t] at h
            have t' : (kd = 0 ∨ (kd = 3 ∧ inR 0 1 vb.1 vb.2 = true)) ∧ ixOK a.1.1 a.1.2.2.1 x n = true := by simpa using t
            cases h
            obtain ⟨i1, i2, i3, i4⟩ := ixOK_ok hB hC t'.2 hvx
            obtain ⟨f', g1, g2⟩ := P2.get hF q3
            rw [w3] at g1
            cases g1
            rcases t'.1 with rfl | ⟨rfl, t3⟩
            · have hF2 : zF (a.1.2.1 ++ [jn b ((-128), 127)]) (φ ++ [upd f x1.toNatClampNeg (vp_nar .byte y1)]) := P2.app hF ⟨upd_b g2 (i32_b y1), trivial⟩
              have hw := hW.app (τ := []) (ψ := [upd f x1.toNatClampNeg (vp_nar .byte y1)])
              rw [List.append_nil] at hw
              have hw2 := hw.set (k0 := cr) (c := .inr (.inl (0, n, a.1.2.1.length))) (e := .inl (cy 0, n, .inl (upd f x1.toNatClampNeg (vp_nar .byte y1)))) ⟨_, by rw [P2.len hF]; exact gend, rfl⟩
              exact m_bast hx hb hK hP hD hS cr w1 i1 hd rfl (fun H1 locs1 hP1 hD1 hS1 => hk σ _ _ lv _ H1 locs1 ls hσ hφ.app ⟨⟨hB, hF2, hC, hw2⟩, hL, hT3⟩ hP1 hD1 hS1 hl)
            · have t4 := inR_ok t3
              have e1 : vp_nar .boolean y1 = y1 := by
                rcases nar01 (x := y1) (by omega) (by omega) with rfl | rfl <;> rfl
              have hF2 : zF (a.1.2.1 ++ [jn b vb]) (φ ++ [upd f x1.toNatClampNeg (vp_nar .boolean y1)]) := P2.app hF ⟨upd_b g2 (by rw [e1]; exact gv0), trivial⟩
              have hw := hW.app (τ := []) (ψ := [upd f x1.toNatClampNeg (vp_nar .boolean y1)])
              rw [List.append_nil] at hw
              have hw2 := hw.set (k0 := cr) (c := .inr (.inl (3, n, a.1.2.1.length))) (e := .inl (cy 3, n, .inl (upd f x1.toNatClampNeg (vp_nar .boolean y1)))) ⟨_, by rw [P2.len hF]; exact gend, rfl⟩
              exact m_zast hx hb hK hP hD hS cr w1 i1 hd rfl (fun H1 locs1 hP1 hD1 hS1 => hk σ _ _ lv _ H1 locs1 ls hσ hφ.app ⟨⟨hB, hF2, hC, hw2⟩, hL, hT3⟩ hP1 hD1 hS1 hl)
          · rw [if_neg t] at h
            cases h
        · cases h
      · cases h
    | [v0, v1], hT => exact hT.2.2.elim
    | [v1], hT => exact hT.2.elim
    | [], hT => exact hT.elim
  · cases h
theorem q_s_lastore (hX : CTX p s m args c cc nL own w0 D cy A) (hd : decode cc pc = .ok (.lastore, 1)) (h : lastA a = some a') (hk : OkA (Wc nc ns p l e R s m args below meth c Q) D cy A s.heap nL ω ad σ0 φ0 a' (pc + 1)) : OkA (Wc nc ns p l e R s m args below meth c Q) D cy A s.heap nL ω ad σ0 φ0 a pc := by
  intro σ φ ws lv stk H locs ls hσ hφ hG hP hD hS hl
  obtain ⟨hx, hb, hml, hown, hts, hK, hA⟩ := hX
  obtain ⟨⟨hB, hF, hC, hW⟩, hL, hT⟩ := hG
  unfold lastA at h
  split at h
  · rename_i v x cr st q1
    rw [q1] at hT
    match stk, hT with
    | v0 :: v1 :: v2 :: st', hT =>
      obtain ⟨y1, rfl, hvy⟩ := hT.1.1
      obtain ⟨x1, rfl, hvx⟩ := hT.2.1.1
      have hv : v2 = .ref (ad cr) := hT.2.2.1.1
      subst hv
      split at h
      · rename_i n q2
        obtain ⟨en, w1, w2⟩ := hW.2 cr _ q2
        obtain ⟨f, rfl⟩ := w2
        by_cases t : ixOK a.1.1 a.1.2.2.1 x n = true
        · rw [if_pos t] at h
          cases h
          obtain ⟨i1, i2, i3, i4⟩ := ixOK_ok hB hC t hvx
          exact m_last hx hb hK hP hD hS cr w1 i1 hd rfl (fun H1 locs1 hP1 hD1 hS1 => hk σ φ _ lv _ H1 locs1 ls hσ hφ ⟨⟨hB, hF, hC, hW.set (k0 := cr) (c := .inr (.inr (.inl n))) ⟨_, rfl⟩⟩, hL, hT.2.2.2⟩ hP1 hD1 hS1 hl)
        · rw [if_neg t] at h
          cases h
      · cases h
    | [v0, v1], hT => exact hT.2.2.elim
    | [v1], hT => exact hT.2.elim
    | [], hT => exact hT.elim
  · cases h
theorem q_step_ok (hX : CTX p s m args c cc nL own w0 D cy A) {K : KT} (hK : KOK own K) {len : Nat} {L : List (AS × Nat)} (hk : ∀ q ∈ L, OkA (Wc nc ns p l e R s m args below meth c Q) D cy A s.heap nL ω ad σ0 φ0 q.1 q.2) : ∀ (ins : Instr), stepA nL K pc len ins a = some L → decode cc pc = .ok (ins, len) → OkA (Wc nc ns p l e R s m args below meth c Q) D cy A s.heap nL ω ad σ0 φ0 a pc := by
  intro ins h hd
  cases ins
  case iload_n k =>
    unfold stepA at h
    obtain ⟨b, a', h1, rfl⟩ := one_inv h
    have b' := eq_of_beq b
    subst b'
    exact q_s_iload_n hX hd h1 (hk _ (List.mem_cons_self ..))
  case iload i =>
    unfold stepA at h
    obtain ⟨b, a', h1, rfl⟩ := one_inv h
    have b' := eq_of_beq b
    subst b'
    exact q_s_iload hX hd h1 (hk _ (List.mem_cons_self ..))
  case istore_n k =>
    unfold stepA at h
    obtain ⟨b, a', h1, rfl⟩ := one_inv h
    have b' := eq_of_beq b
    subst b'
    exact q_s_istore_n hX hd h1 (hk _ (List.mem_cons_self ..))
  case istore i =>
    unfold stepA at h
    obtain ⟨b, a', h1, rfl⟩ := one_inv h
    have b' := eq_of_beq b
    subst b'
    exact q_s_istore hX hd h1 (hk _ (List.mem_cons_self ..))
  case lload_n k =>
    unfold stepA at h
    obtain ⟨b, a', h1, rfl⟩ := one_inv h
    have b' := eq_of_beq b
    subst b'
    exact q_s_lload_n hX hd h1 (hk _ (List.mem_cons_self ..))
  case lload i =>
    unfold stepA at h
    obtain ⟨b, a', h1, rfl⟩ := one_inv h
    have b' := eq_of_beq b
    subst b'
    exact q_s_lload hX hd h1 (hk _ (List.mem_cons_self ..))
  case lstore_n k =>
    unfold stepA at h
    obtain ⟨b, a', h1, rfl⟩ := one_inv h
    have b' := eq_of_beq b
    subst b'
    exact q_s_lstore_n hX hd h1 (hk _ (List.mem_cons_self ..))
  case lstore i =>
    unfold stepA at h
    obtain ⟨b, a', h1, rfl⟩ := one_inv h
    have b' := eq_of_beq b
    subst b'
    exact q_s_lstore hX hd h1 (hk _ (List.mem_cons_self ..))
  case aload_n k =>
    unfold stepA at h
    obtain ⟨b, a', h1, rfl⟩ := one_inv h
    have b' := eq_of_beq b
    subst b'
    exact q_s_aload_n hX hd h1 (hk _ (List.mem_cons_self ..))
  case aload i =>
    unfold stepA at h
    obtain ⟨b, a', h1, rfl⟩ := one_inv h
    have b' := eq_of_beq b
    subst b'
    exact q_s_aload hX hd h1 (hk _ (List.mem_cons_self ..))
  case astore_n k =>
    unfold stepA at h
    obtain ⟨b, a', h1, rfl⟩ := one_inv h
    have b' := eq_of_beq b
    subst b'
    exact q_s_astore_n hX hd h1 (hk _ (List.mem_cons_self ..))
  case astore i =>
    unfold stepA at h
    obtain ⟨b, a', h1, rfl⟩ := one_inv h
    have b' := eq_of_beq b
    subst b'
    exact q_s_astore hX hd h1 (hk _ (List.mem_cons_self ..))
  case iinc i n =>
    unfold stepA at h
    obtain ⟨b, a', h1, rfl⟩ := one_inv h
    have b' := eq_of_beq b
    subst b'
    exact q_s_iinc hX hd h1 (hk _ (List.mem_cons_self ..))
  case iconst n =>
    unfold stepA at h
    obtain ⟨b, a', h1, rfl⟩ := one_inv h
    have b' := eq_of_beq b
    subst b'
    cases h1
    exact q_s_iconst hX hd (hk _ (List.mem_cons_self ..))
  case bipush n =>
    unfold stepA at h
    obtain ⟨b, a', h1, rfl⟩ := one_inv h
    have b' := eq_of_beq b
    subst b'
    cases h1
    exact q_s_bipush hX hd (hk _ (List.mem_cons_self ..))
  case sipush n =>
    unfold stepA at h
    obtain ⟨b, a', h1, rfl⟩ := one_inv h
    have b' := eq_of_beq b
    subst b'
    cases h1
    exact q_s_sipush hX hd (hk _ (List.mem_cons_self ..))
  case lconst n =>
    unfold stepA at h
    obtain ⟨b, a', h1, rfl⟩ := one_inv h
    have b' := eq_of_beq b
    subst b'
    cases h1
    exact q_s_lconst hX hd (hk _ (List.mem_cons_self ..))
  case ldc i =>
    unfold stepA at h
    obtain ⟨b, a', h1, rfl⟩ := one_inv h
    have b' := eq_of_beq b
    subst b'
    unfold ldcA at h1
    cases q : fnd i K.2.1 with
    | none => rw [q] at h1; cases h1
    | some v =>
      rw [q] at h1
      cases h1
      exact q_s_ldc hX hd (hK.2.1 _ (fnd_ok q)) (hk _ (List.mem_cons_self ..))
  case ldc_w i =>
    unfold stepA at h
    obtain ⟨b, a', h1, rfl⟩ := one_inv h
    have b' := eq_of_beq b
    subst b'
    unfold ldcA at h1
    cases q : fnd i K.2.1 with
    | none => rw [q] at h1; cases h1
    | some v =>
      rw [q] at h1
      cases h1
      exact q_s_ldcw hX hd (hK.2.1 _ (fnd_ok q)) (hk _ (List.mem_cons_self ..))
  case ldc2_w i =>
    unfold stepA at h
    obtain ⟨b, a', h1, rfl⟩ := one_inv h
    have b' := eq_of_beq b
    subst b'
    unfold ldc2A at h1
    cases q : fnd i K.2.2 with
    | none => rw [q] at h1; cases h1
    | some v =>
      rw [q] at h1
      cases h1
      exact q_s_ldc2 hX hd (hK.2.2 _ (fnd_ok q)) (hk _ (List.mem_cons_self ..))
  case iadd =>
    unfold stepA at h
    obtain ⟨b, a', h1, rfl⟩ := one_inv h
    have b' := eq_of_beq b
    subst b'
    exact q_s_iadd hX hd h1 (hk _ (List.mem_cons_self ..))
  case isub =>
    unfold stepA at h
    obtain ⟨b, a', h1, rfl⟩ := one_inv h
    have b' := eq_of_beq b
    subst b'
    exact q_s_isub hX hd h1 (hk _ (List.mem_cons_self ..))
  case imul =>
    unfold stepA at h
    obtain ⟨b, a', h1, rfl⟩ := one_inv h
    have b' := eq_of_beq b
    subst b'
    exact q_s_imul hX hd h1 (hk _ (List.mem_cons_self ..))
  case iand =>
    unfold stepA at h
    obtain ⟨b, a', h1, rfl⟩ := one_inv h
    have b' := eq_of_beq b
    subst b'
    exact q_s_iand hX hd h1 (hk _ (List.mem_cons_self ..))
  case ior =>
    unfold stepA at h
    obtain ⟨b, a', h1, rfl⟩ := one_inv h
    have b' := eq_of_beq b
    subst b'
    exact q_s_ior hX hd h1 (hk _ (List.mem_cons_self ..))
  case ixor =>
    unfold stepA at h
    obtain ⟨b, a', h1, rfl⟩ := one_inv h
    have b' := eq_of_beq b
    subst b'
    exact q_s_ixor hX hd h1 (hk _ (List.mem_cons_self ..))
  case ishl =>
    unfold stepA at h
    obtain ⟨b, a', h1, rfl⟩ := one_inv h
    have b' := eq_of_beq b
    subst b'
    exact q_s_ishl hX hd h1 (hk _ (List.mem_cons_self ..))
  case ishr =>
    unfold stepA at h
    obtain ⟨b, a', h1, rfl⟩ := one_inv h
    have b' := eq_of_beq b
    subst b'
    exact q_s_ishr hX hd h1 (hk _ (List.mem_cons_self ..))
  case iushr =>
    unfold stepA at h
    obtain ⟨b, a', h1, rfl⟩ := one_inv h
    have b' := eq_of_beq b
    subst b'
    exact q_s_iushr hX hd h1 (hk _ (List.mem_cons_self ..))
  case idiv =>
    unfold stepA at h
    obtain ⟨b, a', h1, rfl⟩ := one_inv h
    have b' := eq_of_beq b
    subst b'
    exact q_s_idiv hX hd h1 (hk _ (List.mem_cons_self ..))
  case irem =>
    unfold stepA at h
    obtain ⟨b, a', h1, rfl⟩ := one_inv h
    have b' := eq_of_beq b
    subst b'
    exact q_s_irem hX hd h1 (hk _ (List.mem_cons_self ..))
  case ladd =>
    unfold stepA at h
    obtain ⟨b, a', h1, rfl⟩ := one_inv h
    have b' := eq_of_beq b
    subst b'
    exact q_s_ladd hX hd h1 (hk _ (List.mem_cons_self ..))
  case lsub =>
    unfold stepA at h
    obtain ⟨b, a', h1, rfl⟩ := one_inv h
    have b' := eq_of_beq b
    subst b'
    exact q_s_lsub hX hd h1 (hk _ (List.mem_cons_self ..))
  case lmul =>
    unfold stepA at h
    obtain ⟨b, a', h1, rfl⟩ := one_inv h
    have b' := eq_of_beq b
    subst b'
    exact q_s_lmul hX hd h1 (hk _ (List.mem_cons_self ..))
  case land =>
    unfold stepA at h
    obtain ⟨b, a', h1, rfl⟩ := one_inv h
    have b' := eq_of_beq b
    subst b'
    exact q_s_land hX hd h1 (hk _ (List.mem_cons_self ..))
  case lor =>
    unfold stepA at h
    obtain ⟨b, a', h1, rfl⟩ := one_inv h
    have b' := eq_of_beq b
    subst b'
    exact q_s_lor hX hd h1 (hk _ (List.mem_cons_self ..))
  case ldiv =>
    unfold stepA at h
    obtain ⟨b, a', h1, rfl⟩ := one_inv h
    have b' := eq_of_beq b
    subst b'
    exact q_s_ldiv hX hd h1 (hk _ (List.mem_cons_self ..))
  case lrem =>
    unfold stepA at h
    obtain ⟨b, a', h1, rfl⟩ := one_inv h
    have b' := eq_of_beq b
    subst b'
    exact q_s_lrem hX hd h1 (hk _ (List.mem_cons_self ..))
  case lcmp =>
    unfold stepA at h
    obtain ⟨b, a', h1, rfl⟩ := one_inv h
    have b' := eq_of_beq b
    subst b'
    exact q_s_lcmp hX hd h1 (hk _ (List.mem_cons_self ..))
  case lushr =>
    unfold stepA at h
    obtain ⟨b, a', h1, rfl⟩ := one_inv h
    have b' := eq_of_beq b
    subst b'
    exact q_s_lushr hX hd h1 (hk _ (List.mem_cons_self ..))
  case lshl =>
    unfold stepA at h
    obtain ⟨b, a', h1, rfl⟩ := one_inv h
    have b' := eq_of_beq b
    subst b'
    exact q_s_lshl hX hd h1 (hk _ (List.mem_cons_self ..))
  case ineg =>
    unfold stepA at h
    obtain ⟨b, a', h1, rfl⟩ := one_inv h
    have b' := eq_of_beq b
    subst b'
    exact q_s_ineg hX hd h1 (hk _ (List.mem_cons_self ..))
  case i2b =>
    unfold stepA at h
    obtain ⟨b, a', h1, rfl⟩ := one_inv h
    have b' := eq_of_beq b
    subst b'
    exact q_s_i2b hX hd h1 (hk _ (List.mem_cons_self ..))
  case i2c =>
    unfold stepA at h
    obtain ⟨b, a', h1, rfl⟩ := one_inv h
    have b' := eq_of_beq b
    subst b'
    exact q_s_i2c hX hd h1 (hk _ (List.mem_cons_self ..))
  case i2l =>
    unfold stepA at h
    obtain ⟨b, a', h1, rfl⟩ := one_inv h
    have b' := eq_of_beq b
    subst b'
    exact q_s_i2l hX hd h1 (hk _ (List.mem_cons_self ..))
  case l2i =>
    unfold stepA at h
    obtain ⟨b, a', h1, rfl⟩ := one_inv h
    have b' := eq_of_beq b
    subst b'
    exact q_s_l2i hX hd h1 (hk _ (List.mem_cons_self ..))
  case dup =>
    unfold stepA at h
    obtain ⟨b, a', h1, rfl⟩ := one_inv h
    have b' := eq_of_beq b
    subst b'
    exact q_s_dup hX hd h1 (hk _ (List.mem_cons_self ..))
  case pop =>
    unfold stepA at h
    obtain ⟨b, a', h1, rfl⟩ := one_inv h
    have b' := eq_of_beq b
    subst b'
    exact q_s_pop hX hd h1 (hk _ (List.mem_cons_self ..))
  case dup_x1 =>
    unfold stepA at h
    obtain ⟨b, a', h1, rfl⟩ := one_inv h
    have b' := eq_of_beq b
    subst b'
    exact q_s_dup_x1 hX hd h1 (hk _ (List.mem_cons_self ..))
  case dup2 =>
    unfold stepA at h
    obtain ⟨b, a', h1, rfl⟩ := one_inv h
    have b' := eq_of_beq b
    subst b'
    exact q_s_dup2 hX hd h1 (hk _ (List.mem_cons_self ..))
  case arraylength =>
    unfold stepA at h
    obtain ⟨b, a', h1, rfl⟩ := one_inv h
    have b' := eq_of_beq b
    subst b'
    exact q_s_arraylength hX hd h1 (hk _ (List.mem_cons_self ..))
  case iaload =>
    unfold stepA at h
    obtain ⟨b, a', h1, rfl⟩ := one_inv h
    have b' := eq_of_beq b
    subst b'
    exact q_s_iaload hX hd h1 (hk _ (List.mem_cons_self ..))
  case baload =>
    unfold stepA at h
    obtain ⟨b, a', h1, rfl⟩ := one_inv h
    have b' := eq_of_beq b
    subst b'
    exact q_s_baload hX hd h1 (hk _ (List.mem_cons_self ..))
  case laload =>
    unfold stepA at h
    obtain ⟨b, a', h1, rfl⟩ := one_inv h
    have b' := eq_of_beq b
    subst b'
    exact q_s_laload hX hd h1 (hk _ (List.mem_cons_self ..))
  case iastore =>
    unfold stepA at h
    obtain ⟨b, a', h1, rfl⟩ := one_inv h
    have b' := eq_of_beq b
    subst b'
    exact q_s_iastore hX hd h1 (hk _ (List.mem_cons_self ..))
  case bastore =>
    unfold stepA at h
    obtain ⟨b, a', h1, rfl⟩ := one_inv h
    have b' := eq_of_beq b
    subst b'
    exact q_s_bastore hX hd h1 (hk _ (List.mem_cons_self ..))
  case lastore =>
    unfold stepA at h
    obtain ⟨b, a', h1, rfl⟩ := one_inv h
    have b' := eq_of_beq b
    subst b'
    exact q_s_lastore hX hd h1 (hk _ (List.mem_cons_self ..))
  case getfield i =>
    unfold stepA at h
    obtain ⟨b, a', h1, rfl⟩ := one_inv h
    have b' := eq_of_beq b
    subst b'
    exact q_s_getfield hX hK.1 hd h1 (hk _ (List.mem_cons_self ..))
  case putfield i =>
    unfold stepA at h
    obtain ⟨b, a', h1, rfl⟩ := one_inv h
    have b' := eq_of_beq b
    subst b'
    exact q_s_putfield hX hK.1 hd h1 (hk _ (List.mem_cons_self ..))
  case aaload =>
    simp only [stepA] at h
    by_cases b : (len == 1) = true
    · rw [if_pos b] at h
      have b' := eq_of_beq b
      subst b'
      exact q_s_aaload hX hd h hk
    · rw [if_neg b] at h
      cases h
  case ifCond r off =>
    cases r
    case eq =>
      unfold stepA at h
      obtain ⟨b, t, ht, h1⟩ := jmp_inv h
      have b' := eq_of_beq b
      subst b'
      exact q_s_if_eq hX hd ht h1 hk
    case ne =>
      unfold stepA at h
      obtain ⟨b, t, ht, h1⟩ := jmp_inv h
      have b' := eq_of_beq b
      subst b'
      exact q_s_if_ne hX hd ht h1 hk
    case lt =>
      unfold stepA at h
      obtain ⟨b, t, ht, h1⟩ := jmp_inv h
      have b' := eq_of_beq b
      subst b'
      exact q_s_if_lt hX hd ht h1 hk
    case le =>
      unfold stepA at h
      obtain ⟨b, t, ht, h1⟩ := jmp_inv h
      have b' := eq_of_beq b
      subst b'
      exact q_s_if_le hX hd ht h1 hk
    case gt =>
      unfold stepA at h
      obtain ⟨b, t, ht, h1⟩ := jmp_inv h
      have b' := eq_of_beq b
      subst b'
      exact q_s_if_gt hX hd ht h1 hk
    case ge =>
      unfold stepA at h
      obtain ⟨b, t, ht, h1⟩ := jmp_inv h
      have b' := eq_of_beq b
      subst b'
      exact q_s_if_ge hX hd ht h1 hk
  case if_icmp r off =>
    cases r
    case eq =>
      unfold stepA at h
      obtain ⟨b, t, ht, h1⟩ := jmp_inv h
      have b' := eq_of_beq b
      subst b'
      exact q_s_icmp_eq hX hd ht h1 hk
    case ne =>
      unfold stepA at h
      obtain ⟨b, t, ht, h1⟩ := jmp_inv h
      have b' := eq_of_beq b
      subst b'
      exact q_s_icmp_ne hX hd ht h1 hk
    case lt =>
      unfold stepA at h
      obtain ⟨b, t, ht, h1⟩ := jmp_inv h
      have b' := eq_of_beq b
      subst b'
      exact q_s_icmp_lt hX hd ht h1 hk
    case le =>
      unfold stepA at h
      obtain ⟨b, t, ht, h1⟩ := jmp_inv h
      have b' := eq_of_beq b
      subst b'
      exact q_s_icmp_le hX hd ht h1 hk
    case gt =>
      unfold stepA at h
      obtain ⟨b, t, ht, h1⟩ := jmp_inv h
      have b' := eq_of_beq b
      subst b'
      exact q_s_icmp_gt hX hd ht h1 hk
    case ge =>
      unfold stepA at h
      obtain ⟨b, t, ht, h1⟩ := jmp_inv h
      have b' := eq_of_beq b
      subst b'
      exact q_s_icmp_ge hX hd ht h1 hk
  case goto off =>
    unfold stepA at h
    obtain ⟨b, t, ht, h1⟩ := jmp_inv h
    have b' := eq_of_beq b
    subst b'
    cases h1
    exact q_s_goto hX hd ht (hk _ (List.mem_cons_self ..))
  case tableswitch d lo hi os => exact q_s_tableswitch hX hd h hk
  case lookupswitch d ps => exact q_s_lookupswitch hX hd h hk
  all_goals (simp only [stepA] at h; cases h)
end QST
