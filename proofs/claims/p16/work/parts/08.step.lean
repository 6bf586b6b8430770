/-! the rows of the abstract walk: roads, fields, arrays; own -/
section STEQ
variable {p : Program} {l : Launch} {e : Env} {R : Room} {s : State} {m : MethodId} {args : Array Value} {below : List Frame} {meth : Method} {c : Code} {Q : State → Prop} {cc : ByteArray} {D : va_G} {cy : Nat → ClassId} {A : Nat → Prop} {nL : Nat} {own : String} {w0 : Cond} {ω : List Value} {ad : Nat → Nat} {σ0 : List Int} {φ0 : List (Nat → Int32)} {pc : Nat} {a a' : AS}
def tg (pc : Nat) (off : Int) : Option Nat := if 0 ≤ (pc : Int) + off then some ((pc : Int) + off).toNat else none
theorem tg_ok {off : Int} {t : Nat} (h : tg pc off = some t) : (pc : Int) + off = (t : Int) := by
  unfold tg at h
  by_cases c : 0 ≤ (pc : Int) + off
  · rw [if_pos c] at h
    cases h
    omega
  · rw [if_neg c] at h
    cases h
def asA (r : Nat) (x y : Nat × Int) (w : AW) (loc : List (Nat × AV)) (st : List AV) (t : Nat) : List (AS × Nat) := match assume r w.1 w.2.2.1 x y with
  | some q => [(((q.1, w.2.1, q.2, w.2.2.2), loc, st), t)]
  | none => []
def brA (r : Nat) (t nx : Nat) (x y : Nat × Int) (w : AW) (loc : List (Nat × AV)) (st : List AV) : List (AS × Nat) := asA r x y w loc st t ++ asA (relN r) x y w loc st nx
theorem asA_ok {Wp : Heap → List Loc → Nat → Array Slot → List Value → Prop} {H0 : Heap} {r t : Nat} {x y : Nat × Int} {w : AW} {loc : List (Nat × AV)} {st : List AV} {σ : List Int} {φ : List (Nat → Int32)} {ws : va_W} {lv : List (Nat × Value)} {stk : List Value} {H : Heap} {locs : List Loc} {ls : Array Slot} {u v : Int} (hk : ∀ q ∈ asA r x y w loc st t, OkA Wp D cy A H0 nL ω ad σ0 φ0 q.1 q.2) (hσ : pfx σ0 σ) (hφ : pfx φ0 φ) (hW : GW cy ω ad w σ φ ws) (hL : P2 (lr σ ω ad) loc lv) (hT : P2 (gx σ ω ad) st stk) (hP : va_P D vwCl ws H) (hD : va_D A ws) (hS : va_S A H0 H locs) (hl : lv_has ls nL lv) (hx : vl σ x u) (hy : vl σ y v) (h : relH r u v) : Wp H locs t ls stk := by
  obtain ⟨hB, hF, hC, hW⟩ := hW
  obtain ⟨q, h1, h2, h3, h4⟩ := assume_ok hB hC hx hy h
  unfold asA at hk
  rw [h1] at hk
  exact hk _ (List.mem_cons_self ..) σ φ ws lv stk H locs ls hσ hφ ⟨⟨h2, hF, h3, hW⟩, hL, hT⟩ hP hD hS hl
def br2A (r t nx : Nat) (a : AS) : Option (List (AS × Nat)) := match a.2.2 with
  | .inl y :: .inl x :: st => some (brA r t nx x y a.1 a.2.1 st)
  | _ => none
def br0A (r t nx : Nat) (a : AS) : Option (List (AS × Nat)) := match a.2.2 with
  | .inl x :: st => some (brA r t nx x (cR a.1.1 a.1.2.2.1 0).2.2 ((cR a.1.1 a.1.2.2.1 0).1, a.1.2.1, (cR a.1.1 a.1.2.2.1 0).2.1, a.1.2.2.2) a.2.1 st)
  | _ => none
theorem br2A_inv {r t nx : Nat} {L : List (AS × Nat)} (h : br2A r t nx a = some L) (hk : ∀ q ∈ L, OkA (Wq p l e R s m args below meth c Q) D cy A s.heap nL ω ad σ0 φ0 q.1 q.2) : ∀ (σ : List Int) (φ : List (Nat → Int32)) (ws : va_W) (lv : List (Nat × Value)) (stk : List Value) (H : Heap) (locs : List Loc) (ls : Array Slot), pfx σ0 σ → pfx φ0 φ → GS cy ω ad a σ φ ws lv stk → va_P D vwCl ws H → va_D A ws → va_S A s.heap H locs → lv_has ls nL lv → ∃ (x y : Int32) (st : List Value), stk = .int y :: .int x :: st ∧ (relH r x.toInt y.toInt → Wq p l e R s m args below meth c Q H locs t ls st) ∧ (¬ relH r x.toInt y.toInt → Wq p l e R s m args below meth c Q H locs nx ls st) := by
  intro σ φ ws lv stk H locs ls hσ hφ hG hP hD hS hl
  obtain ⟨hW, hL, hT⟩ := hG
  unfold br2A at h
  split at h
  · rename_i y x st q
    rw [q] at hT
    cases h
    match stk, hT with
    | v1 :: v2 :: st', hT =>
      obtain ⟨x1, rfl, h1⟩ := hT.1.1
      obtain ⟨x2, rfl, h2⟩ := hT.2.1.1
      refine ⟨x2, x1, st', rfl, fun g => ?_, fun g => ?_⟩
      · exact asA_ok (fun q hq => hk q (List.mem_append_left _ hq)) hσ hφ hW hL hT.2.2 hP hD hS hl h2 h1 g
      · exact asA_ok (fun q hq => hk q (List.mem_append_right _ hq)) hσ hφ hW hL hT.2.2 hP hD hS hl h2 h1 (relN_ok r _ _ g)
    | [v1], hT => exact hT.2.elim
    | [], hT => exact hT.elim
  · cases h
theorem br0A_inv {r t nx : Nat} {L : List (AS × Nat)} (h : br0A r t nx a = some L) (hk : ∀ q ∈ L, OkA (Wq p l e R s m args below meth c Q) D cy A s.heap nL ω ad σ0 φ0 q.1 q.2) : ∀ (σ : List Int) (φ : List (Nat → Int32)) (ws : va_W) (lv : List (Nat × Value)) (stk : List Value) (H : Heap) (locs : List Loc) (ls : Array Slot), pfx σ0 σ → pfx φ0 φ → GS cy ω ad a σ φ ws lv stk → va_P D vwCl ws H → va_D A ws → va_S A s.heap H locs → lv_has ls nL lv → ∃ (x : Int32) (st : List Value), stk = .int x :: st ∧ (relH r x.toInt 0 → Wq p l e R s m args below meth c Q H locs t ls st) ∧ (¬ relH r x.toInt 0 → Wq p l e R s m args below meth c Q H locs nx ls st) := by
  intro σ φ ws lv stk H locs ls hσ hφ hG hP hD hS hl
  obtain ⟨⟨hB, hF, hC, hW⟩, hL, hT⟩ := hG
  unfold br0A at h
  split at h
  · rename_i x st q
    rw [q] at hT
    cases h
    match stk, hT with
    | v1 :: st', hT =>
      obtain ⟨x1, rfl, h1⟩ := hT.1.1
      obtain ⟨τ, k1, k2, k3⟩ := cR_ok hB hC 0
      have hw := hW.app (τ := τ) (ψ := [])
      rw [List.append_nil] at hw
      refine ⟨x1, st', rfl, fun g => ?_, fun g => ?_⟩
      · exact asA_ok (σ := σ ++ τ) (fun q hq => hk q (List.mem_append_left _ hq)) hσ.app hφ ⟨k1, hF, k2, hw⟩ (hL.mono (fun _ _ h => h.app)) (hT.2.mono (fun _ _ h => h.app)) hP hD hS hl h1.app k3 g
      · exact asA_ok (σ := σ ++ τ) (fun q hq => hk q (List.mem_append_right _ hq)) hσ.app hφ ⟨k1, hF, k2, hw⟩ (hL.mono (fun _ _ h => h.app)) (hT.2.mono (fun _ _ h => h.app)) hP hD hS hl h1.app k3 (relN_ok r _ _ g)
    | [], hT => exact hT.elim
  · cases h
theorem s_icmp_eq (hX : CTX p s m args c cc nL own w0 D cy A) {off : Int} {t : Nat} {L : List (AS × Nat)} (hd : decode cc pc = .ok (.if_icmp .eq off, 3)) (ht : tg pc off = some t) (h : br2A 0 t (pc + 3) a = some L) (hk : ∀ q ∈ L, OkA (Wq p l e R s m args below meth c Q) D cy A s.heap nL ω ad σ0 φ0 q.1 q.2) : OkA (Wq p l e R s m args below meth c Q) D cy A s.heap nL ω ad σ0 φ0 a pc := by
  intro σ φ ws lv stk H locs ls hσ hφ hG hP hD hS hl
  obtain ⟨x, y, st, rfl, k1, k2⟩ := br2A_inv h hk σ φ ws lv stk H locs ls hσ hφ hG hP hD hS hl
  exact lv_icmp_eq hX.1 hX.2.1 hd (tg_ok ht) (fun g => k1 (Int32.toInt_inj.mpr g)) (fun g => k2 (fun g' => g (Int32.toInt_inj.mp g')))
theorem s_if_eq (hX : CTX p s m args c cc nL own w0 D cy A) {off : Int} {t : Nat} {L : List (AS × Nat)} (hd : decode cc pc = .ok (.ifCond .eq off, 3)) (ht : tg pc off = some t) (h : br0A 0 t (pc + 3) a = some L) (hk : ∀ q ∈ L, OkA (Wq p l e R s m args below meth c Q) D cy A s.heap nL ω ad σ0 φ0 q.1 q.2) : OkA (Wq p l e R s m args below meth c Q) D cy A s.heap nL ω ad σ0 φ0 a pc := by
  intro σ φ ws lv stk H locs ls hσ hφ hG hP hD hS hl
  obtain ⟨x, st, rfl, k1, k2⟩ := br0A_inv h hk σ φ ws lv stk H locs ls hσ hφ hG hP hD hS hl
  have e0 : (0 : Int32).toInt = 0 := rfl
  rw [← e0] at k1 k2
  exact lv_if_eq hX.1 hX.2.1 hd (tg_ok ht) (fun g => k1 (Int32.toInt_inj.mpr g)) (fun g => k2 (fun g' => g (Int32.toInt_inj.mp g')))
theorem s_icmp_ne (hX : CTX p s m args c cc nL own w0 D cy A) {off : Int} {t : Nat} {L : List (AS × Nat)} (hd : decode cc pc = .ok (.if_icmp .ne off, 3)) (ht : tg pc off = some t) (h : br2A 1 t (pc + 3) a = some L) (hk : ∀ q ∈ L, OkA (Wq p l e R s m args below meth c Q) D cy A s.heap nL ω ad σ0 φ0 q.1 q.2) : OkA (Wq p l e R s m args below meth c Q) D cy A s.heap nL ω ad σ0 φ0 a pc := by
  intro σ φ ws lv stk H locs ls hσ hφ hG hP hD hS hl
  obtain ⟨x, y, st, rfl, k1, k2⟩ := br2A_inv h hk σ φ ws lv stk H locs ls hσ hφ hG hP hD hS hl
  exact lv_icmp_ne hX.1 hX.2.1 hd (tg_ok ht) (fun g => k1 (fun g' => g (Int32.toInt_inj.mp g'))) (fun g => k2 (fun g' => g' (Int32.toInt_inj.mpr g)))
theorem s_if_ne (hX : CTX p s m args c cc nL own w0 D cy A) {off : Int} {t : Nat} {L : List (AS × Nat)} (hd : decode cc pc = .ok (.ifCond .ne off, 3)) (ht : tg pc off = some t) (h : br0A 1 t (pc + 3) a = some L) (hk : ∀ q ∈ L, OkA (Wq p l e R s m args below meth c Q) D cy A s.heap nL ω ad σ0 φ0 q.1 q.2) : OkA (Wq p l e R s m args below meth c Q) D cy A s.heap nL ω ad σ0 φ0 a pc := by
  intro σ φ ws lv stk H locs ls hσ hφ hG hP hD hS hl
  obtain ⟨x, st, rfl, k1, k2⟩ := br0A_inv h hk σ φ ws lv stk H locs ls hσ hφ hG hP hD hS hl
  have e0 : (0 : Int32).toInt = 0 := rfl
  rw [← e0] at k1 k2
  exact lv_if_ne hX.1 hX.2.1 hd (tg_ok ht) (fun g => k1 (fun g' => g (Int32.toInt_inj.mp g'))) (fun g => k2 (fun g' => g' (Int32.toInt_inj.mpr g)))
theorem s_icmp_lt (hX : CTX p s m args c cc nL own w0 D cy A) {off : Int} {t : Nat} {L : List (AS × Nat)} (hd : decode cc pc = .ok (.if_icmp .lt off, 3)) (ht : tg pc off = some t) (h : br2A 2 t (pc + 3) a = some L) (hk : ∀ q ∈ L, OkA (Wq p l e R s m args below meth c Q) D cy A s.heap nL ω ad σ0 φ0 q.1 q.2) : OkA (Wq p l e R s m args below meth c Q) D cy A s.heap nL ω ad σ0 φ0 a pc := by
  intro σ φ ws lv stk H locs ls hσ hφ hG hP hD hS hl
  obtain ⟨x, y, st, rfl, k1, k2⟩ := br2A_inv h hk σ φ ws lv stk H locs ls hσ hφ hG hP hD hS hl
  exact lv_icmp_lt hX.1 hX.2.1 hd (tg_ok ht) (fun g => k1 (Int32.lt_iff_toInt_lt.mp g)) (fun g => k2 (fun g' => g (Int32.lt_iff_toInt_lt.mpr g')))
theorem s_if_lt (hX : CTX p s m args c cc nL own w0 D cy A) {off : Int} {t : Nat} {L : List (AS × Nat)} (hd : decode cc pc = .ok (.ifCond .lt off, 3)) (ht : tg pc off = some t) (h : br0A 2 t (pc + 3) a = some L) (hk : ∀ q ∈ L, OkA (Wq p l e R s m args below meth c Q) D cy A s.heap nL ω ad σ0 φ0 q.1 q.2) : OkA (Wq p l e R s m args below meth c Q) D cy A s.heap nL ω ad σ0 φ0 a pc := by
  intro σ φ ws lv stk H locs ls hσ hφ hG hP hD hS hl
  obtain ⟨x, st, rfl, k1, k2⟩ := br0A_inv h hk σ φ ws lv stk H locs ls hσ hφ hG hP hD hS hl
  have e0 : (0 : Int32).toInt = 0 := rfl
  rw [← e0] at k1 k2
  exact lv_if_lt hX.1 hX.2.1 hd (tg_ok ht) (fun g => k1 (Int32.lt_iff_toInt_lt.mp g)) (fun g => k2 (fun g' => g (Int32.lt_iff_toInt_lt.mpr g')))
theorem s_icmp_le (hX : CTX p s m args c cc nL own w0 D cy A) {off : Int} {t : Nat} {L : List (AS × Nat)} (hd : decode cc pc = .ok (.if_icmp .le off, 3)) (ht : tg pc off = some t) (h : br2A 3 t (pc + 3) a = some L) (hk : ∀ q ∈ L, OkA (Wq p l e R s m args below meth c Q) D cy A s.heap nL ω ad σ0 φ0 q.1 q.2) : OkA (Wq p l e R s m args below meth c Q) D cy A s.heap nL ω ad σ0 φ0 a pc := by
  intro σ φ ws lv stk H locs ls hσ hφ hG hP hD hS hl
  obtain ⟨x, y, st, rfl, k1, k2⟩ := br2A_inv h hk σ φ ws lv stk H locs ls hσ hφ hG hP hD hS hl
  exact lv_icmp_le hX.1 hX.2.1 hd (tg_ok ht) (fun g => k1 (Int32.le_iff_toInt_le.mp g)) (fun g => k2 (fun g' => g (Int32.le_iff_toInt_le.mpr g')))
theorem s_if_le (hX : CTX p s m args c cc nL own w0 D cy A) {off : Int} {t : Nat} {L : List (AS × Nat)} (hd : decode cc pc = .ok (.ifCond .le off, 3)) (ht : tg pc off = some t) (h : br0A 3 t (pc + 3) a = some L) (hk : ∀ q ∈ L, OkA (Wq p l e R s m args below meth c Q) D cy A s.heap nL ω ad σ0 φ0 q.1 q.2) : OkA (Wq p l e R s m args below meth c Q) D cy A s.heap nL ω ad σ0 φ0 a pc := by
  intro σ φ ws lv stk H locs ls hσ hφ hG hP hD hS hl
  obtain ⟨x, st, rfl, k1, k2⟩ := br0A_inv h hk σ φ ws lv stk H locs ls hσ hφ hG hP hD hS hl
  have e0 : (0 : Int32).toInt = 0 := rfl
  rw [← e0] at k1 k2
  exact lv_if_le hX.1 hX.2.1 hd (tg_ok ht) (fun g => k1 (Int32.le_iff_toInt_le.mp g)) (fun g => k2 (fun g' => g (Int32.le_iff_toInt_le.mpr g')))
theorem s_icmp_gt (hX : CTX p s m args c cc nL own w0 D cy A) {off : Int} {t : Nat} {L : List (AS × Nat)} (hd : decode cc pc = .ok (.if_icmp .gt off, 3)) (ht : tg pc off = some t) (h : br2A 4 t (pc + 3) a = some L) (hk : ∀ q ∈ L, OkA (Wq p l e R s m args below meth c Q) D cy A s.heap nL ω ad σ0 φ0 q.1 q.2) : OkA (Wq p l e R s m args below meth c Q) D cy A s.heap nL ω ad σ0 φ0 a pc := by
  intro σ φ ws lv stk H locs ls hσ hφ hG hP hD hS hl
  obtain ⟨x, y, st, rfl, k1, k2⟩ := br2A_inv h hk σ φ ws lv stk H locs ls hσ hφ hG hP hD hS hl
  exact lv_icmp_gt hX.1 hX.2.1 hd (tg_ok ht) (fun g => k1 (Int32.lt_iff_toInt_lt.mp g)) (fun g => k2 (fun g' => g (Int32.lt_iff_toInt_lt.mpr g')))
theorem s_if_gt (hX : CTX p s m args c cc nL own w0 D cy A) {off : Int} {t : Nat} {L : List (AS × Nat)} (hd : decode cc pc = .ok (.ifCond .gt off, 3)) (ht : tg pc off = some t) (h : br0A 4 t (pc + 3) a = some L) (hk : ∀ q ∈ L, OkA (Wq p l e R s m args below meth c Q) D cy A s.heap nL ω ad σ0 φ0 q.1 q.2) : OkA (Wq p l e R s m args below meth c Q) D cy A s.heap nL ω ad σ0 φ0 a pc := by
  intro σ φ ws lv stk H locs ls hσ hφ hG hP hD hS hl
  obtain ⟨x, st, rfl, k1, k2⟩ := br0A_inv h hk σ φ ws lv stk H locs ls hσ hφ hG hP hD hS hl
  have e0 : (0 : Int32).toInt = 0 := rfl
  rw [← e0] at k1 k2
  exact lv_if_gt hX.1 hX.2.1 hd (tg_ok ht) (fun g => k1 (Int32.lt_iff_toInt_lt.mp g)) (fun g => k2 (fun g' => g (Int32.lt_iff_toInt_lt.mpr g')))
theorem s_icmp_ge (hX : CTX p s m args c cc nL own w0 D cy A) {off : Int} {t : Nat} {L : List (AS × Nat)} (hd : decode cc pc = .ok (.if_icmp .ge off, 3)) (ht : tg pc off = some t) (h : br2A 5 t (pc + 3) a = some L) (hk : ∀ q ∈ L, OkA (Wq p l e R s m args below meth c Q) D cy A s.heap nL ω ad σ0 φ0 q.1 q.2) : OkA (Wq p l e R s m args below meth c Q) D cy A s.heap nL ω ad σ0 φ0 a pc := by
  intro σ φ ws lv stk H locs ls hσ hφ hG hP hD hS hl
  obtain ⟨x, y, st, rfl, k1, k2⟩ := br2A_inv h hk σ φ ws lv stk H locs ls hσ hφ hG hP hD hS hl
  exact lv_icmp_ge hX.1 hX.2.1 hd (tg_ok ht) (fun g => k1 (Int32.le_iff_toInt_le.mp g)) (fun g => k2 (fun g' => g (Int32.le_iff_toInt_le.mpr g')))
theorem s_if_ge (hX : CTX p s m args c cc nL own w0 D cy A) {off : Int} {t : Nat} {L : List (AS × Nat)} (hd : decode cc pc = .ok (.ifCond .ge off, 3)) (ht : tg pc off = some t) (h : br0A 5 t (pc + 3) a = some L) (hk : ∀ q ∈ L, OkA (Wq p l e R s m args below meth c Q) D cy A s.heap nL ω ad σ0 φ0 q.1 q.2) : OkA (Wq p l e R s m args below meth c Q) D cy A s.heap nL ω ad σ0 φ0 a pc := by
  intro σ φ ws lv stk H locs ls hσ hφ hG hP hD hS hl
  obtain ⟨x, st, rfl, k1, k2⟩ := br0A_inv h hk σ φ ws lv stk H locs ls hσ hφ hG hP hD hS hl
  have e0 : (0 : Int32).toInt = 0 := rfl
  rw [← e0] at k1 k2
  exact lv_if_ge hX.1 hX.2.1 hd (tg_ok ht) (fun g => k1 (Int32.le_iff_toInt_le.mp g)) (fun g => k2 (fun g' => g (Int32.le_iff_toInt_le.mpr g')))
theorem s_goto (hX : CTX p s m args c cc nL own w0 D cy A) {off : Int} {t : Nat} (hd : decode cc pc = .ok (.goto off, 3)) (ht : tg pc off = some t) (hk : OkA (Wq p l e R s m args below meth c Q) D cy A s.heap nL ω ad σ0 φ0 a t) : OkA (Wq p l e R s m args below meth c Q) D cy A s.heap nL ω ad σ0 φ0 a pc := by
  intro σ φ ws lv stk H locs ls hσ hφ hG hP hD hS hl
  exact lv_goto hX.1 hX.2.1 hd (tg_ok ht) (hk σ φ ws lv stk H locs ls hσ hφ hG hP hD hS hl)
/-- a choice among numbers: each with its road, and one for the rest -/
def swA (x : Nat × Int) (w : AW) (loc : List (Nat × AV)) (st : List AV) (d : Nat) : List (Int × Nat) → List (AS × Nat)
  | [] => [((w, loc, st), d)]
  | q :: r => asA 0 x (cR w.1 w.2.2.1 q.1).2.2 ((cR w.1 w.2.2.1 q.1).1, w.2.1, (cR w.1 w.2.2.1 q.1).2.1, w.2.2.2) loc st q.2 ++ swA x w loc st d r
theorem swA_ok {Wp : Heap → List Loc → Nat → Array Slot → List Value → Prop} {H0 : Heap} {x : Nat × Int} {w : AW} {loc : List (Nat × AV)} {st : List AV} {d : Nat} {σ : List Int} {φ : List (Nat → Int32)} {ws : va_W} {lv : List (Nat × Value)} {stk : List Value} {H : Heap} {locs : List Loc} {ls : Array Slot} {u : Int} (hσ : pfx σ0 σ) (hφ : pfx φ0 φ) (hW : GW cy ω ad w σ φ ws) (hL : P2 (lr σ ω ad) loc lv) (hT : P2 (gx σ ω ad) st stk) (hP : va_P D vwCl ws H) (hD : va_D A ws) (hS : va_S A H0 H locs) (hl : lv_has ls nL lv) (hx : vl σ x u) : ∀ {ps : List (Int × Nat)}, (∀ q ∈ swA x w loc st d ps, OkA Wp D cy A H0 nL ω ad σ0 φ0 q.1 q.2) → Wp H locs d ls stk ∧ ∀ q ∈ ps, u = q.1 → Wp H locs q.2 ls stk
  | [], hk => ⟨hk _ (List.mem_cons_self ..) σ φ ws lv stk H locs ls hσ hφ ⟨hW, hL, hT⟩ hP hD hS hl, fun q hq => by cases hq⟩
  | q0 :: r, hk => by
    obtain ⟨g1, g2⟩ := swA_ok hσ hφ hW hL hT hP hD hS hl hx (ps := r) (fun q hq => hk q (List.mem_append_right _ hq))
    refine ⟨g1, fun q hq hu => ?_⟩
    rcases List.mem_cons.mp hq with rfl | hq
    · obtain ⟨hB, hF, hC, hw0⟩ := hW
      obtain ⟨τ, k1, k2, k3⟩ := cR_ok hB hC q.1
      have hw := hw0.app (τ := τ) (ψ := [])
      rw [List.append_nil] at hw
      exact asA_ok (σ := σ ++ τ) (fun q hq => hk q (List.mem_append_left _ hq)) hσ.app hφ ⟨k1, hF, k2, hw⟩ (hL.mono (fun _ _ h => h.app)) (hT.mono (fun _ _ h => h.app)) hP hD hS hl hx.app k3 hu
    · exact g2 q hq hu
def tgs (pc : Nat) (lo : Int) : List Int → Option (List (Int × Nat))
  | [] => some []
  | o :: r => match tg pc o, tgs pc (lo + 1) r with
    | some t, some ts => some ((lo, t) :: ts)
    | _, _ => none
theorem tgs_ok : ∀ {os : List Int} {lo : Int} {ts : List (Int × Nat)} {j : Nat} {o : Int}, tgs pc lo os = some ts → os[j]? = some o → ∃ t : Nat, (pc : Int) + o = (t : Int) ∧ (lo + (j : Int), t) ∈ ts
  | [], _, _, _, _, _, hj => by simp at hj
  | o :: r, lo, ts, j, o', h, hj => by
    unfold tgs at h
    cases e1 : tg pc o with
    | none => rw [e1] at h; cases h
    | some t =>
      cases e2 : tgs pc (lo + 1) r with
      | none => rw [e1, e2] at h; cases h
      | some ts' =>
        rw [e1, e2] at h
        cases h
        cases j with
        | zero =>
          simp at hj
          subst hj
          exact ⟨t, tg_ok e1, by simp⟩
        | succ j =>
          simp at hj
          obtain ⟨t', h1, h2⟩ := tgs_ok e2 hj
          refine ⟨t', h1, List.mem_cons_of_mem _ ?_⟩
          have : lo + ((j + 1 : Nat) : Int) = lo + 1 + (j : Int) := by omega
          rw [this]
          exact h2
def tswA (pc : Nat) (dflt lo hi : Int) (offs : Array Int) (a : AS) : Option (List (AS × Nat)) := match a.2.2, tg pc dflt, tgs pc lo offs.toList with
  | .inl x :: st, some d, some ts => if hi - lo + 1 ≤ (offs.toList.length : Int) then some (swA x a.1 a.2.1 st d ts) else none
  | _, _, _ => none
theorem s_tableswitch (hX : CTX p s m args c cc nL own w0 D cy A) {dflt lo hi : Int} {offs : Array Int} {len : Nat} {L : List (AS × Nat)} (hd : decode cc pc = .ok (.tableswitch dflt lo hi offs, len)) (h : tswA pc dflt lo hi offs a = some L) (hk : ∀ q ∈ L, OkA (Wq p l e R s m args below meth c Q) D cy A s.heap nL ω ad σ0 φ0 q.1 q.2) : OkA (Wq p l e R s m args below meth c Q) D cy A s.heap nL ω ad σ0 φ0 a pc := by
  intro σ φ ws lv stk H locs ls hσ hφ hG hP hD hS hl
  obtain ⟨hW, hL, hT⟩ := hG
  unfold tswA at h
  split at h
  · rename_i x st d ts q1 q2 q3
    rw [q1] at hT
    by_cases hc : hi - lo + 1 ≤ (offs.toList.length : Int)
    · rw [if_pos hc] at h
      cases h
      match stk, hT with
      | v1 :: st', hT =>
        obtain ⟨x1, rfl, h1⟩ := hT.1.1
        obtain ⟨g1, g2⟩ := swA_ok hσ hφ hW hL hT.2 hP hD hS hl h1 hk
        by_cases ho : x1.toInt < lo ∨ hi < x1.toInt
        · exact lv_tableOut hX.1 hX.2.1 hd ho (tg_ok q2) g1
        · have hj : (x1.toInt - lo).toNat < offs.toList.length := by omega
          obtain ⟨t, t1, t2⟩ := tgs_ok q3 (List.getElem?_eq_getElem hj)
          refine lv_tableIn hX.1 hX.2.1 hd (fun z => ho (Or.inl z)) (fun z => ho (Or.inr z)) (off := offs.toList[(x1.toInt - lo).toNat]) ?_ t1 (g2 _ t2 (by dsimp only; omega))
          rw [← Array.getElem?_toList]
          exact List.getElem?_eq_getElem hj
      | [], hT => exact hT.elim
    · rw [if_neg hc] at h
      cases h
  · cases h
theorem lks_ok (ps : List (Int × Int)) (d z : Int) : lookupswitch.offset ps d z = d ∨ (z, lookupswitch.offset ps d z) ∈ ps := by
  induction ps with
  | nil => exact Or.inl rfl
  | cons q r ih =>
    simp only [lookupswitch.offset]
    by_cases c : q.fst = z
    · rw [if_pos c]
      exact Or.inr (by rw [← c]; exact List.mem_cons_self ..)
    · rw [if_neg c]
      exact ih.imp id (List.mem_cons_of_mem _)
def lgs (pc : Nat) : List (Int × Int) → Option (List (Int × Nat))
  | [] => some []
  | o :: r => match tg pc o.2, lgs pc r with
    | some t, some ts => some ((o.1, t) :: ts)
    | _, _ => none
theorem lgs_ok : ∀ {os : List (Int × Int)} {ts : List (Int × Nat)} {o : Int × Int}, lgs pc os = some ts → o ∈ os → ∃ t : Nat, (pc : Int) + o.2 = (t : Int) ∧ (o.1, t) ∈ ts
  | [], _, _, _, hj => by cases hj
  | o :: r, ts, o', h, hj => by
    unfold lgs at h
    cases e1 : tg pc o.2 with
    | none => rw [e1] at h; cases h
    | some t =>
      cases e2 : lgs pc r with
      | none => rw [e1, e2] at h; cases h
      | some ts' =>
        rw [e1, e2] at h
        cases h
        rcases List.mem_cons.mp hj with rfl | hj
        · exact ⟨t, tg_ok e1, by simp⟩
        · obtain ⟨t', h1, h2⟩ := lgs_ok e2 hj
          exact ⟨t', h1, List.mem_cons_of_mem _ h2⟩
def lswA (pc : Nat) (dflt : Int) (ps : Array (Int × Int)) (a : AS) : Option (List (AS × Nat)) := match a.2.2, tg pc dflt, lgs pc ps.toList with
  | .inl x :: st, some d, some ts => if (ps.toList.zip (ps.toList.drop 1)).all (fun (a, next) => a.1 < next.1) then some (swA x a.1 a.2.1 st d ts) else none
  | _, _, _ => none
theorem s_lookupswitch (hX : CTX p s m args c cc nL own w0 D cy A) {dflt : Int} {ps : Array (Int × Int)} {len : Nat} {L : List (AS × Nat)} (hd : decode cc pc = .ok (.lookupswitch dflt ps, len)) (h : lswA pc dflt ps a = some L) (hk : ∀ q ∈ L, OkA (Wq p l e R s m args below meth c Q) D cy A s.heap nL ω ad σ0 φ0 q.1 q.2) : OkA (Wq p l e R s m args below meth c Q) D cy A s.heap nL ω ad σ0 φ0 a pc := by
  intro σ φ ws lv stk H locs ls hσ hφ hG hP hD hS hl
  obtain ⟨hW, hL, hT⟩ := hG
  unfold lswA at h
  split at h
  · rename_i x st d ts q1 q2 q3
    rw [q1] at hT
    by_cases hc : (ps.toList.zip (ps.toList.drop 1)).all (fun (a, next) => a.1 < next.1) = true
    · rw [if_pos hc] at h
      cases h
      match stk, hT with
      | v1 :: st', hT =>
        obtain ⟨x1, rfl, h1⟩ := hT.1.1
        obtain ⟨g1, g2⟩ := swA_ok hσ hφ hW hL hT.2 hP hD hS hl h1 hk
        rcases lks_ok ps.toList dflt x1.toInt with ho | ho
        · exact lv_lookup hX.1 hX.2.1 hd hc ho (tg_ok q2) g1
        · obtain ⟨t, t1, t2⟩ := lgs_ok q3 ho
          exact lv_lookup hX.1 hX.2.1 hd hc rfl t1 (g2 _ t2 rfl)
      | [], hT => exact hT.elim
    · rw [if_neg hc] at h
      cases h
  · cases h
def tgOK (t : Nat) (ty : FieldType) : Prop := match t with
  | 0 => ty = .int
  | 1 => ty = .boolean
  | 2 => ty = .char
  | 3 => ty = .long
  | _ => ∃ C : String, ty = .object C
/-- a number of the pool that names a field: it is the k-th of a thing of kind ci, of the type t (5: nobody writes it) -/
def FOK (own : String) (q : Nat × Nat × Nat × Nat) : Prop := ∃ (C : String) (T : u_T) (N : Nat) (ty0 : Nat → FieldType), vwCl[q.2.1]? = some (C, T, N) ∧ q.2.2.1 < N ∧ (∀ w ∈ u_ws C T N, w ∈ bigG) ∧ (∀ k, k < N → parseFieldDescriptor (T k).2.2.1 = some (ty0 k)) ∧ (∀ a, a < N → ∀ b, b < N → a ≠ b → (T a).2.1 ≠ (T b).2.1) ∧ Cond.fieldLink own q.1 (T q.2.2.1).1 (T q.2.2.1).2.1 (T q.2.2.1).2.2.1 ∈ bigG ∧ (q.2.2.2 < 5 → (T q.2.2.1).2.2.2 = false ∧ tgOK q.2.2.2 (ty0 q.2.2.1))
def fnd {β : Type} (i : Nat) : List (Nat × β) → Option β
  | [] => none
  | q :: r => match Nat.beq q.1 i with
    | true => some q.2
    | false => fnd i r
theorem fnd_ok {β : Type} {i : Nat} {b : β} : ∀ {l : List (Nat × β)}, fnd i l = some b → (i, b) ∈ l
  | [], h => by cases h
  | q :: r, h => by
    unfold fnd at h
    split at h
    · rename_i c
      cases h
      have c' : q.1 = i := Nat.eq_of_beq_eq_true c
      rw [← c']
      exact List.mem_cons_self ..
    · exact List.mem_cons_of_mem _ (fnd_ok h)
/-- a list in pieces, each with the key at which the next begins (0: none) -/
def chk {β : Type} : Nat → List (Nat × β) → List (Nat × List (Nat × β))
  | 0, _ => []
  | n + 1, l => match l.drop 20 with
    | [] => [(0, l)]
    | q :: r => (q.1, l.take 20) :: chk n (q :: r)
def fndC {β : Type} (i : Nat) : List (Nat × List (Nat × β)) → Option β
  | [] => none
  | g :: r => match Nat.ble g.1 i with
    | false => fnd i g.2
    | true => match Nat.beq g.1 0 with
      | true => fnd i g.2
      | false => fndC i r
theorem fndC_ok {β : Type} {i : Nat} {b : β} : ∀ {l : List (Nat × List (Nat × β))}, fndC i l = some b → ∃ g ∈ l, (i, b) ∈ g.2
  | [], h => by cases h
  | g :: r, h => by
    unfold fndC at h
    split at h
    · exact ⟨g, List.mem_cons_self .., fnd_ok h⟩
    · split at h
      · exact ⟨g, List.mem_cons_self .., fnd_ok h⟩
      · obtain ⟨g', h1, h2⟩ := fndC_ok h
        exact ⟨g', List.mem_cons_of_mem _ h1, h2⟩
theorem chk_mem {β : Type} : ∀ (n : Nat) (l : List (Nat × β)), ∀ g ∈ chk n l, ∀ q ∈ g.2, q ∈ l
  | 0, l, g, h, q, hq => by cases h
  | n + 1, l, g, h, q, hq => by
    unfold chk at h
    split at h
    · rw [List.mem_singleton.mp h] at hq
      exact hq
    · rename_i z r e
      rcases List.mem_cons.mp h with h1 | h1
      · rw [h1] at hq
        exact List.mem_of_mem_take hq
      · have h2 := chk_mem n (z :: r) g h1 q hq
        rw [← e] at h2
        exact List.mem_of_mem_drop h2
def fndP {β : Type} (i : Nat) (l : List (Nat × β)) : Option β := fndC i (chk 200 l)
theorem fndP_ok {β : Type} {i : Nat} {b : β} {l : List (Nat × β)} (h : fndP i l = some b) : (i, b) ∈ l := by
  obtain ⟨g, h1, h2⟩ := fndC_ok h
  exact chk_mem _ _ g h1 _ h2
def gfA (FT : List (Nat × Nat × Nat × Nat)) (idx : Nat) (a : AS) : Option AS := match a.2.2, fnd idx FT with
  | .inr (.inr (.inl c)) :: st, some q => (match a.1.2.2.2[c]? with
    | some (.inl (ci, fs)) => if ci == q.1 then (match fs[q.2.1]? with
      | some av => if isU av then none else some (a.1, a.2.1, av :: st)
      | none => none) else none
    | _ => none)
  | _, _ => none
theorem s_getfield (hX : CTX p s m args c cc nL own w0 D cy A) {FT : List (Nat × Nat × Nat × Nat)} (hFT : ∀ q ∈ FT, FOK own q) {idx : Nat} (hd : decode cc pc = .ok (.getfield idx, 3)) (h : gfA FT idx a = some a') (hk : OkA (Wq p l e R s m args below meth c Q) D cy A s.heap nL ω ad σ0 φ0 a' (pc + 3)) : OkA (Wq p l e R s m args below meth c Q) D cy A s.heap nL ω ad σ0 φ0 a pc := by
  intro σ φ ws lv stk H locs ls hσ hφ hG hP hD hS hl
  obtain ⟨hx, hb, hml, hown, hts, hK, hA⟩ := hX
  obtain ⟨⟨hB, hF, hC, hW⟩, hL, hT⟩ := hG
  unfold gfA at h
  split at h
  · rename_i cr st q q1 q2
    rw [q1] at hT
    match stk, hT with
    | v1 :: st', hT =>
      split at h
      · rename_i ci fs q3
        by_cases t : (ci == q.1) = true
        · rw [if_pos t] at h
          have t' : ci = q.1 := by simpa using t
          split at h
          · rename_i av q4
            by_cases t2 : isU av = true
            · rw [if_pos t2] at h
              cases h
            · rw [if_neg t2] at h
              cases h
              obtain ⟨en, w1, w2⟩ := hW.2 cr _ q3
              obtain ⟨vs, rfl, w3⟩ := w2
              obtain ⟨v, w4, w5⟩ := P2.get w3 q4
              have hv : v1 = .ref (ad cr) := hT.1.1
              subst hv
              obtain ⟨C, T, N, ty0, f1, f2, f3, f4, f5, f6, f7⟩ := hFT _ (fnd_ok q2)
              subst t'
              exact va_get hx hb hts (fun w hw => List.mem_cons_of_mem _ (f3 w hw)) hown hK.1 hP cr w1 f1 q.2.1 f2 (hts _ (List.mem_cons_of_mem _ f6)) (fun _ h9 => h9) w4 hd (hk σ φ ws lv _ H locs ls hσ hφ ⟨⟨hB, hF, hC, hW⟩, hL, w5.cat (by simpa using t2), hT.2⟩ hP hD hS hl)
          · cases h
        · rw [if_neg t] at h
          cases h
      · cases h
    | [], hT => exact hT.elim
  · cases h
def fitA (t : Nat) (bs : BS) (cs : CS) (av : AV) : Bool := match av with
  | .inl e => (match t with
    | 0 => true
    | 1 => (match bnd bs cs e with | some b => inR 0 1 b.1 b.2 | none => false)
    | 2 => (match bnd bs cs e with | some b => inR 0 65535 b.1 b.2 | none => false)
    | _ => false)
  | .inr (.inl _) => t == 3
  | .inr (.inr (.inl _)) => t == 4
  | _ => false
theorem nar01 {x : Int32} (h1 : 0 ≤ x.toInt) (h2 : x.toInt ≤ 1) : x = 0 ∨ x = 1 := by
  have h : x.toInt = 0 ∨ x.toInt = 1 := by omega
  rcases h with h | h
  · exact Or.inl (i32_eq h)
  · exact Or.inr (i32_eq h)
theorem narC {x : Int32} (h1 : 0 ≤ x.toInt) (h2 : x.toInt ≤ 65535) : x.toUInt32.toUInt16.toUInt32.toInt32 = x := by
  have h3 := i32_nat h1
  have h4 : x.toBitVec.toNat < 65536 := by omega
  apply Int32.toBitVec_inj.mp
  apply BitVec.eq_of_toNat_eq
  show (BitVec.setWidth 32 (BitVec.setWidth 16 x.toBitVec)).toNat = x.toBitVec.toNat
  rw [BitVec.toNat_setWidth, BitVec.toNat_setWidth]
  omega
theorem fitA_ok {t : Nat} {ty : FieldType} {bs : BS} {cs : CS} {σ : List Int} {av : AV} {v : Value} (hB : zB bs σ) (hC : zC cs σ) (h : fitA t bs cs av = true) (hv : gv σ ω ad av v) (ht : tgOK t ty) : narrow ty v = v ∧ fits ty v = true := by
  rcases av with e | e | c | c | k
  · obtain ⟨x, rfl, hx⟩ := hv
    match t, h, ht with
    | 0, h, ht =>
      cases (show ty = .int from ht)
      exact ⟨rfl, rfl⟩
    | 1, h, ht =>
      cases (show ty = .boolean from ht)
      simp only [fitA] at h
      cases q : bnd bs cs e with
      | none => rw [q] at h; cases h
      | some b =>
        rw [q] at h
        have h' := inR_ok h
        have g := bnd_ok hB hC q hx
        rcases nar01 (x := x) (by omega) (by omega) with rfl | rfl
        · exact ⟨rfl, rfl⟩
        · exact ⟨rfl, rfl⟩
    | 2, h, ht =>
      cases (show ty = .char from ht)
      simp only [fitA] at h
      cases q : bnd bs cs e with
      | none => rw [q] at h; cases h
      | some b =>
        rw [q] at h
        have h' := inR_ok h
        have g := bnd_ok hB hC q hx
        refine ⟨?_, ?_⟩
        · show Value.int x.toUInt32.toUInt16.toUInt32.toInt32 = .int x
          rw [narC (by omega) (by omega)]
        · show (decide (0 ≤ x) && decide (x ≤ 65535)) = true
          have e1 : (0 : Int32).toInt = 0 := rfl
          have e2 : (65535 : Int32).toInt = 65535 := rfl
          simp only [Bool.and_eq_true, decide_eq_true_eq, Int32.le_iff_toInt_le, e1, e2]
          omega
    | n + 3, h, ht => cases h
  · obtain ⟨x, rfl, hx⟩ := hv
    have h' : t = 3 := by simpa [fitA] using h
    subst h'
    cases (show ty = .long from ht)
    exact ⟨rfl, rfl⟩
  · have h' : t = 4 := by simpa [fitA] using h
    subst h'
    cases (show v = _ from hv)
    obtain ⟨C, rfl⟩ := (show ∃ C : String, ty = .object C from ht)
    exact ⟨rfl, rfl⟩
  · cases h
  · cases h
def pfA (FT : List (Nat × Nat × Nat × Nat)) (idx : Nat) (a : AS) : Option AS := match a.2.2, fnd idx FT with
  | av :: .inr (.inr (.inl c)) :: st, some q => (match a.1.2.2.2[c]? with
    | some (.inl (ci, fs)) => if ci == q.1 && decide (q.2.1 < fs.length) && decide (q.2.2 < 5) && fitA q.2.2 a.1.1 a.1.2.2.1 av then some ((a.1.1, a.1.2.1, a.1.2.2.1, a.1.2.2.2.set c (.inl (ci, fs.set q.2.1 av))), a.2.1, st) else none
    | _ => none)
  | _, _ => none
theorem s_putfield (hX : CTX p s m args c cc nL own w0 D cy A) {FT : List (Nat × Nat × Nat × Nat)} (hFT : ∀ q ∈ FT, FOK own q) {idx : Nat} (hd : decode cc pc = .ok (.putfield idx, 3)) (h : pfA FT idx a = some a') (hk : OkA (Wq p l e R s m args below meth c Q) D cy A s.heap nL ω ad σ0 φ0 a' (pc + 3)) : OkA (Wq p l e R s m args below meth c Q) D cy A s.heap nL ω ad σ0 φ0 a pc := by
  intro σ φ ws lv stk H locs ls hσ hφ hG hP hD hS hl
  obtain ⟨hx, hb, hml, hown, hts, hK, hA⟩ := hX
  obtain ⟨⟨hB, hF, hC, hW⟩, hL, hT⟩ := hG
  unfold pfA at h
  split at h
  · rename_i av cr st q q1 q2
    rw [q1] at hT
    match stk, hT with
    | v1 :: v2 :: st', hT =>
      split at h
      · rename_i ci fs q3
        by_cases t : (ci == q.1 && decide (q.2.1 < fs.length) && decide (q.2.2 < 5) && fitA q.2.2 a.1.1 a.1.2.2.1 av) = true
        · rw [if_pos t] at h
          have t' : ((ci = q.1 ∧ q.2.1 < fs.length) ∧ q.2.2 < 5) ∧ fitA q.2.2 a.1.1 a.1.2.2.1 av = true := by simpa using t
          cases h
          obtain ⟨en, w1, w2⟩ := hW.2 cr _ q3
          obtain ⟨vs, rfl, w3⟩ := w2
          have hv : v2 = .ref (ad cr) := hT.2.1.1
          subst hv
          obtain ⟨C, T, N, ty0, f1, f2, f3, f4, f5, f6, f7⟩ := hFT _ (fnd_ok q2)
          obtain ⟨f8, f9⟩ := f7 t'.1.2
          obtain ⟨n1, n2⟩ := fitA_ok hB hC t'.2 hT.1.1 f9
          have hl' : q.2.1 < vs.length := by rw [← P2.len w3]; exact t'.1.1.2
          obtain ⟨rfl, _⟩ := t'.1.1
          exact va_put hx hb hts (fun w hw => List.mem_cons_of_mem _ (f3 w hw)) ty0 f4 f5 hown hK.1 hP hD hS cr w1 f1 q.2.1 f2 (hts _ (List.mem_cons_of_mem _ f6)) (fun _ h9 => h9) f8 (f4 _ f2) n1 n2 hl' hd (fun H1 locs1 hP1 hD1 hS1 => hk σ φ _ lv _ H1 locs1 ls hσ hφ ⟨⟨hB, hF, hC, hW.set (k0 := cr) ⟨_, rfl, w3.set hT.1.1⟩⟩, hL, hT.2.2⟩ hP1 hD1 hS1 hl)
        · rw [if_neg t] at h
          cases h
      · cases h
    | [v1], hT => exact hT.2.elim
    | [], hT => exact hT.elim
  · cases h
end STEQ
