/-! the cuts by hand, and the whole loop -/
/-- behind feed: the new rows -/
def relF (μ : List (Nat × Int)) (ν : List Nat) : Bool := (match ν[0]?, ν[181]?, μ[3]? with
  | some k0, some k1, some e => Nat.beq k0 182 && (Nat.beq k1 183 && (Nat.beq e.1 205 && decide (e.2 = 0)))
  | _, _, _ => false)
theorem relF_ok {μ : List (Nat × Int)} {ν : List Nat} {σ : List Int} {φ : List (Nat → Int32)} (h : relF μ ν = true) (hR : RLf σ φ) : RLx (μ.map (ev σ)) (ν.map (fv φ)) := by
  obtain ⟨f, g, x, h1, h2, h3, h4, h5⟩ := hR
  unfold relF at h
  split at h
  · rename_i k0 k1 e q0 q1 q2
    obtain ⟨a, b⟩ := Bool.and_eq_true_iff.mp h
    obtain ⟨b, c⟩ := Bool.and_eq_true_iff.mp b
    obtain ⟨c, d⟩ := Bool.and_eq_true_iff.mp c
    have a' : k0 = 182 := Nat.eq_of_beq_eq_true a
    have b' : k1 = 183 := Nat.eq_of_beq_eq_true b
    have c' : e.1 = 205 := Nat.eq_of_beq_eq_true c
    have d' : e.2 = 0 := of_decide_eq_true d
    subst a' b'
    have e0 : fv φ 182 = f := by
      unfold fv
      rw [h1]
      rfl
    have e1 : fv φ 183 = g := by
      unfold fv
      rw [h2]
      rfl
    have e2 : ev σ e = x + 0 := by
      unfold ev
      rw [c', h3, d']
      rfl
    refine ⟨f, g, ev σ e, by rw [List.getElem?_map, q0, ← e0]; rfl, by rw [List.getElem?_map, q1, ← e1]; rfl, by rw [List.getElem?_map, q2]; rfl, h4, fun j hj => h5 j (by omega)⟩
  · cases h
def goAF (nb nf nω : Nat) (invs : List Inv) (rs : Option RK) (a : AS) (pc : Nat) : Bool := invs.any (fun J => Nat.beq J.1 pc && pvB J.2.1 a && (cutB nb nf nω J.2.1 a (mkCut nb nf nω J.2.1 a).1 (mkCut nb nf nω J.2.1 a).2.1 && goDown rs J.2.2 a.1.1 a.1.2.2.1 (mkCut nb nf nω J.2.1 a).1 && relF (mkCut nb nf nω J.2.1 a).1 (mkCut nb nf nω J.2.1 a).2.1))
theorem goAF_inv {nb nf nω : Nat} {invs : List Inv} {rs : Option RK} {a : AS} {pc : Nat} (h : goAF nb nf nω invs rs a pc = true) : ∃ J ∈ invs, J.1 = pc ∧ ∃ (μ : List (Nat × Int)) (ν : List Nat), cutB nb nf nω J.2.1 a μ ν = true ∧ goDown rs J.2.2 a.1.1 a.1.2.2.1 μ = true ∧ relF μ ν = true := by
  obtain ⟨J, hJ, h1⟩ := List.any_eq_true.mp h
  simp only [Bool.and_eq_true] at h1
  obtain ⟨⟨h2, _⟩, ⟨h4, h5⟩, h6⟩ := h1
  exact ⟨J, hJ, Nat.eq_of_beq_eq_true h2, _, _, h4, h5, h6⟩
section GO2
variable {D : va_G} {cy : Nat → ClassId} {A : Nat → Prop} {nL : Nat} {ω : List Value} {ad : Nat → Nat} {σ0 : List Int} {φ0 : List (Nat → Int32)} {pc nc ns : Nat} {kc ks C S : Int} {σp : List Int} {φp : List (Nat → Int32)}
theorem q_goA_ok2 {Wp : Nat → Nat → Heap → List Loc → Nat → Array Slot → List Value → Prop} {H0 : Heap} {invs : List Inv} {r : RK} {f : AS → Nat → Bool} {b : AS} (hkc : 0 ≤ kc) (hks : 0 ≤ ks) (hp : pfx σp σ0) (hpf : pfx φp φ0) (hinv : ∀ J ∈ invs, InvL Wp kc ks C S D cy A H0 nL ω ad σp φp J (rkv σ0 r)) (hrs : ∀ q ∈ r.2, vl σ0 q.2 (ev σ0 q.2)) (hRL : RLx σ0 φ0) (hc1 : (nc : Int) + kc * (rkv σ0 r - 1) ≤ C) (hc2 : (ns : Int) + ks * (rkv σ0 r - 1) ≤ S) (h : goAL σp.length φp.length ω.length invs (some r) f b pc = true) (hf : f b pc = true → OkA (Wp nc ns) D cy A H0 nL ω ad σ0 φ0 b pc) : OkA (Wp nc ns) D cy A H0 nL ω ad σ0 φ0 b pc := by
  rcases goAL_inv h with ⟨J, hJ, h2', μ, ν, h3, h4, hrel⟩ | h
  · intro σ φ ws lv stk H locs ls hσ hφ hG hP hD hS hl
    have q1 : pfx σp σ := pfx.trans hp hσ
    have q2 : pfx φp φ := pfx.trans hpf hφ
    obtain ⟨lv', g1, g2, g3, g4⟩ := cut_ok h3 hG hl q1 q2
    rw [← h2']
    have hRL' : RLx σ φ := by
      obtain ⟨τ, rfl⟩ := hσ
      obtain ⟨ψ, rfl⟩ := hφ
      exact hRL.app
    have hRL2 := relB_ok hG.1.1 hG.1.2.2.1 hrel hRL'
    have hlt : rkv (μ.map (ev σ)) J.2.2 < rkv σ0 r := by
      unfold goDown at h4
      dsimp only at h4
      split at h4
      · rename_i us q3
        split at h4
        · rename_i z q4
          have h5 : 1 ≤ r.1 - J.2.2.1 + z := by simpa using h4
          have h6 := dlt_ok hG.1.1 hG.1.2.2.1 q4
          have h7 := trR_ok (σ := σ) q3
          have h8 := rks_pfx hσ hrs
          unfold rkv
          rw [h7, ← h8]
          omega
        · cases h4
      · cases h4
    have m1 := Int.mul_le_mul_of_nonneg_left (Int.le_sub_one_of_lt hlt) hkc
    have m2 := Int.mul_le_mul_of_nonneg_left (Int.le_sub_one_of_lt hlt) hks
    exact hinv J hJ _ _ ws lv' stk H locs ls nc ns g3 g4 hRL2 g1 hP hD hS g2 hlt (by omega) (by omega)
  · exact hf h
theorem q_goF_ok2 {Wp : Nat → Nat → Heap → List Loc → Nat → Array Slot → List Value → Prop} {H0 : Heap} {invs : List Inv} {r : RK} {b : AS} (hkc : 0 ≤ kc) (hks : 0 ≤ ks) (hp : pfx σp σ0) (hpf : pfx φp φ0) (hinv : ∀ J ∈ invs, InvL Wp kc ks C S D cy A H0 nL ω ad σp φp J (rkv σ0 r)) (hrs : ∀ q ∈ r.2, vl σ0 q.2 (ev σ0 q.2)) (hc1 : (nc : Int) + kc * (rkv σ0 r - 1) ≤ C) (hc2 : (ns : Int) + ks * (rkv σ0 r - 1) ≤ S) (h : goAF σp.length φp.length ω.length invs (some r) b pc = true) : ∀ (σ : List Int) (φ : List (Nat → Int32)) (ws : va_W) (lv : List (Nat × Value)) (stk : List Value) (H : Heap) (locs : List Loc) (ls : Array Slot), pfx σ0 σ → pfx φ0 φ → RLf σ φ → GS cy ω ad b σ φ ws lv stk → va_P D vwCl ws H → va_D A ws → va_S A H0 H locs → lv_has ls nL lv → Wp nc ns H locs pc ls stk := by
  obtain ⟨J, hJ, h2', μ, ν, h3, h4, hrel⟩ := goAF_inv h
  · intro σ φ ws lv stk H locs ls hσ hφ hRf hG hP hD hS hl
    have q1 : pfx σp σ := pfx.trans hp hσ
    have q2 : pfx φp φ := pfx.trans hpf hφ
    obtain ⟨lv', g1, g2, g3, g4⟩ := cut_ok h3 hG hl q1 q2
    rw [← h2']
    have hRL2 := relF_ok hrel hRf
    have hlt : rkv (μ.map (ev σ)) J.2.2 < rkv σ0 r := by
      unfold goDown at h4
      dsimp only at h4
      split at h4
      · rename_i us q3
        split at h4
        · rename_i z q4
          have h5 : 1 ≤ r.1 - J.2.2.1 + z := by simpa using h4
          have h6 := dlt_ok hG.1.1 hG.1.2.2.1 q4
          have h7 := trR_ok (σ := σ) q3
          have h8 := rks_pfx hσ hrs
          unfold rkv
          rw [h7, ← h8]
          omega
        · cases h4
      · cases h4
    have m1 := Int.mul_le_mul_of_nonneg_left (Int.le_sub_one_of_lt hlt) hkc
    have m2 := Int.mul_le_mul_of_nonneg_left (Int.le_sub_one_of_lt hlt) hks
    exact hinv J hJ _ _ ws lv' stk H locs ls nc ns g3 g4 hRL2 g1 hP hD hS g2 hlt (by omega) (by omega)
end GO2
def fsF (cl : List AC) : List AV := ((cl[198]?).bind (fun (c : AC) => match c with
  | .inl (_, _ :: _ :: _ :: fs) => some fs
  | _ => none)).getD []
def fsOf (cl : List AC) : List AV := ((cl[198]?).bind (fun (c : AC) => match c with
  | .inl (_, _ :: fs) => some fs
  | _ => none)).getD []
set_option maxRecDepth 100000 in
theorem ck885_00 : goAL 2 0 0 (lauto ++ lman) (some lJ885_00.2.2) (fun _ _ => false) (aft lcl_00 (fsOf lcl_00)) 1064 = true := by decide +kernel
set_option maxRecDepth 100000 in
theorem cc885_00 : lcl_00.length = 247 ∧ lcl_00[0]? = some (co 11 [vr 1, vr 3, vr 4, vr 25, vr 46, vr 50, vr 54, vr 58, vr 62, vi 98 0, vi 99 0, vr 127, vr 168, vr 171, vr 189, vr 194, vr 197]) ∧ lcl_00[197]? = some (ca 1 25 143) ∧ lcl_00[198]? = some (co 12 (vi 144 0 :: fsOf lcl_00)) ∧ lcl_00[246]? = some (cj 1) := ⟨rfl, rfl, rfl, rfl, rfl⟩
theorem cr885_00 : (rkLo lJ885_00.2.1.1.1 lJ885_00.2.1.1.2.2.1 lJ885_00.2.2.2).isSome = true := by decide +kernel
set_option maxRecDepth 100000 in
theorem m885_00 (l : Launch) {p : Program} {e : Env} {s : State} {m : MethodId} {below : List Frame} {meth : Method} {c : Code} {Q : State → Prop} {b L : Nat} {xs : Nat → Int32} {args : Array Value} (hlt : l.stackTraces = false) {D : va_G} {cy : Nat → ClassId} {A : Nat → Prop} {w0 : Cond} (hX0 : CTX p s m args c code 7 RL w0 D cy A) (hX : va_X b L xs s s.heap) (hbl : b < s.heap.size) (hbA : ¬ A b) (hL : L ≤ 3584) (hZ : zx A s) {ad : Nat → Nat} (had : ad 40000 = b) {C S : Int} (hCR : C + 1 ≤ (room_1.cells : Int) ∧ S + 6 ≤ (room_1.slots : Int)) : ∀ (σ : List Int) (φ : List (Nat → Int32)) (ws : va_W) (lv : List (Nat × Value)) (stk : List Value) (H : Heap) (locs : List Loc) (ls : Array Slot) (nc ns : Nat), pfx [0, (L : Int)] σ → pfx [] φ → RLx σ φ → GS cy [] ad lJ885_00.2.1 σ φ ws lv stk → va_P D vwCl ws H → va_D A ws → va_S A s.heap H locs → lv_has ls 7 lv → (nc : Int) + 1 * rkv σ lJ885_00.2.2 ≤ C → (ns : Int) + 6 * rkv σ lJ885_00.2.2 ≤ S → 0 ≤ rkv σ lJ885_00.2.2 → (∀ J' ∈ lauto ++ lman, InvL (fun nc ns => Wc nc ns p l e room_1 s m args below meth c Q) 1 6 C S D cy A s.heap 7 [] ad [0, (L : Int)] [] J' (rkv σ lJ885_00.2.2)) → Wc nc ns p l e room_1 s m args below meth c Q H locs lJ885_00.1 ls stk := by
  intro σ φ ws lv stk H locs ls nc ns hσ hφ hRL hG hP hD hS hl hc1 hc2 hr0 hih
  obtain ⟨hl0, h0, h1, h2, h3⟩ := cc885_00
  have hrs : ∀ q ∈ lJ885_00.2.2.2, vl σ q.2 (ev σ q.2) := by
    have hs := cr885_00
    cases q : rkLo lJ885_00.2.1.1.1 lJ885_00.2.1.1.2.2.1 lJ885_00.2.2.2 with
    | none => rw [q] at hs; cases hs
    | some z => exact (rkLo_ok hG.1.1 hG.1.2.2.1 q).2
  refine man885 l hlt hX0 hX hbl hbA hL hZ had hl0 h0 h1 h2 h3 hσ hG hP hD hS hl ⟨by omega, by omega⟩ ?_
  have b1 : ((nc + 1 : Nat) : Int) + 1 * (rkv σ lJ885_00.2.2 - 1) ≤ C := by omega
  have b2 : ((ns + 6 : Nat) : Int) + 6 * (rkv σ lJ885_00.2.2 - 1) ≤ S := by omega
  exact q_goA_ok2 (nc := nc + 1) (ns := ns + 6) (Wp := fun nc ns => Wc nc ns p l e room_1 s m args below meth c Q) (kc := 1) (ks := 6) (by decide) (by decide) hσ hφ hih hrs hRL b1 b2 ck885_00 (fun h => by cases h)
set_option maxRecDepth 100000 in
theorem ck885_01 : goAL 2 0 0 (lauto ++ lman) (some lJ885_01.2.2) (fun _ _ => false) (aft lcl_01 (fsOf lcl_01)) 1064 = true := by decide +kernel
set_option maxRecDepth 100000 in
theorem cc885_01 : lcl_01.length = 247 ∧ lcl_01[0]? = some (co 11 [vr 1, vr 3, vr 4, vr 25, vr 50, vr 46, vr 54, vr 58, vr 62, vi 98 0, vi 99 0, vr 127, vr 168, vr 171, vr 189, vr 194, vr 197]) ∧ lcl_01[197]? = some (ca 1 25 143) ∧ lcl_01[198]? = some (co 12 (vi 144 0 :: fsOf lcl_01)) ∧ lcl_01[246]? = some (cj 1) := ⟨rfl, rfl, rfl, rfl, rfl⟩
theorem cr885_01 : (rkLo lJ885_01.2.1.1.1 lJ885_01.2.1.1.2.2.1 lJ885_01.2.2.2).isSome = true := by decide +kernel
set_option maxRecDepth 100000 in
theorem m885_01 (l : Launch) {p : Program} {e : Env} {s : State} {m : MethodId} {below : List Frame} {meth : Method} {c : Code} {Q : State → Prop} {b L : Nat} {xs : Nat → Int32} {args : Array Value} (hlt : l.stackTraces = false) {D : va_G} {cy : Nat → ClassId} {A : Nat → Prop} {w0 : Cond} (hX0 : CTX p s m args c code 7 RL w0 D cy A) (hX : va_X b L xs s s.heap) (hbl : b < s.heap.size) (hbA : ¬ A b) (hL : L ≤ 3584) (hZ : zx A s) {ad : Nat → Nat} (had : ad 40000 = b) {C S : Int} (hCR : C + 1 ≤ (room_1.cells : Int) ∧ S + 6 ≤ (room_1.slots : Int)) : ∀ (σ : List Int) (φ : List (Nat → Int32)) (ws : va_W) (lv : List (Nat × Value)) (stk : List Value) (H : Heap) (locs : List Loc) (ls : Array Slot) (nc ns : Nat), pfx [0, (L : Int)] σ → pfx [] φ → RLx σ φ → GS cy [] ad lJ885_01.2.1 σ φ ws lv stk → va_P D vwCl ws H → va_D A ws → va_S A s.heap H locs → lv_has ls 7 lv → (nc : Int) + 1 * rkv σ lJ885_01.2.2 ≤ C → (ns : Int) + 6 * rkv σ lJ885_01.2.2 ≤ S → 0 ≤ rkv σ lJ885_01.2.2 → (∀ J' ∈ lauto ++ lman, InvL (fun nc ns => Wc nc ns p l e room_1 s m args below meth c Q) 1 6 C S D cy A s.heap 7 [] ad [0, (L : Int)] [] J' (rkv σ lJ885_01.2.2)) → Wc nc ns p l e room_1 s m args below meth c Q H locs lJ885_01.1 ls stk := by
  intro σ φ ws lv stk H locs ls nc ns hσ hφ hRL hG hP hD hS hl hc1 hc2 hr0 hih
  obtain ⟨hl0, h0, h1, h2, h3⟩ := cc885_01
  have hrs : ∀ q ∈ lJ885_01.2.2.2, vl σ q.2 (ev σ q.2) := by
    have hs := cr885_01
    cases q : rkLo lJ885_01.2.1.1.1 lJ885_01.2.1.1.2.2.1 lJ885_01.2.2.2 with
    | none => rw [q] at hs; cases hs
    | some z => exact (rkLo_ok hG.1.1 hG.1.2.2.1 q).2
  refine man885 l hlt hX0 hX hbl hbA hL hZ had hl0 h0 h1 h2 h3 hσ hG hP hD hS hl ⟨by omega, by omega⟩ ?_
  have b1 : ((nc + 1 : Nat) : Int) + 1 * (rkv σ lJ885_01.2.2 - 1) ≤ C := by omega
  have b2 : ((ns + 6 : Nat) : Int) + 6 * (rkv σ lJ885_01.2.2 - 1) ≤ S := by omega
  exact q_goA_ok2 (nc := nc + 1) (ns := ns + 6) (Wp := fun nc ns => Wc nc ns p l e room_1 s m args below meth c Q) (kc := 1) (ks := 6) (by decide) (by decide) hσ hφ hih hrs hRL b1 b2 ck885_01 (fun h => by cases h)
set_option maxRecDepth 100000 in
theorem ck885_10 : goAL 2 0 0 (lauto ++ lman) (some lJ885_10.2.2) (fun _ _ => false) (aft lcl_10 (fsOf lcl_10)) 1064 = true := by decide +kernel
set_option maxRecDepth 100000 in
theorem cc885_10 : lcl_10.length = 247 ∧ lcl_10[0]? = some (co 11 [vr 1, vr 3, vr 25, vr 4, vr 46, vr 50, vr 54, vr 58, vr 62, vi 98 0, vi 99 0, vr 127, vr 168, vr 171, vr 189, vr 194, vr 197]) ∧ lcl_10[197]? = some (ca 1 25 143) ∧ lcl_10[198]? = some (co 12 (vi 144 0 :: fsOf lcl_10)) ∧ lcl_10[246]? = some (cj 1) := ⟨rfl, rfl, rfl, rfl, rfl⟩
theorem cr885_10 : (rkLo lJ885_10.2.1.1.1 lJ885_10.2.1.1.2.2.1 lJ885_10.2.2.2).isSome = true := by decide +kernel
set_option maxRecDepth 100000 in
theorem m885_10 (l : Launch) {p : Program} {e : Env} {s : State} {m : MethodId} {below : List Frame} {meth : Method} {c : Code} {Q : State → Prop} {b L : Nat} {xs : Nat → Int32} {args : Array Value} (hlt : l.stackTraces = false) {D : va_G} {cy : Nat → ClassId} {A : Nat → Prop} {w0 : Cond} (hX0 : CTX p s m args c code 7 RL w0 D cy A) (hX : va_X b L xs s s.heap) (hbl : b < s.heap.size) (hbA : ¬ A b) (hL : L ≤ 3584) (hZ : zx A s) {ad : Nat → Nat} (had : ad 40000 = b) {C S : Int} (hCR : C + 1 ≤ (room_1.cells : Int) ∧ S + 6 ≤ (room_1.slots : Int)) : ∀ (σ : List Int) (φ : List (Nat → Int32)) (ws : va_W) (lv : List (Nat × Value)) (stk : List Value) (H : Heap) (locs : List Loc) (ls : Array Slot) (nc ns : Nat), pfx [0, (L : Int)] σ → pfx [] φ → RLx σ φ → GS cy [] ad lJ885_10.2.1 σ φ ws lv stk → va_P D vwCl ws H → va_D A ws → va_S A s.heap H locs → lv_has ls 7 lv → (nc : Int) + 1 * rkv σ lJ885_10.2.2 ≤ C → (ns : Int) + 6 * rkv σ lJ885_10.2.2 ≤ S → 0 ≤ rkv σ lJ885_10.2.2 → (∀ J' ∈ lauto ++ lman, InvL (fun nc ns => Wc nc ns p l e room_1 s m args below meth c Q) 1 6 C S D cy A s.heap 7 [] ad [0, (L : Int)] [] J' (rkv σ lJ885_10.2.2)) → Wc nc ns p l e room_1 s m args below meth c Q H locs lJ885_10.1 ls stk := by
  intro σ φ ws lv stk H locs ls nc ns hσ hφ hRL hG hP hD hS hl hc1 hc2 hr0 hih
  obtain ⟨hl0, h0, h1, h2, h3⟩ := cc885_10
  have hrs : ∀ q ∈ lJ885_10.2.2.2, vl σ q.2 (ev σ q.2) := by
    have hs := cr885_10
    cases q : rkLo lJ885_10.2.1.1.1 lJ885_10.2.1.1.2.2.1 lJ885_10.2.2.2 with
    | none => rw [q] at hs; cases hs
    | some z => exact (rkLo_ok hG.1.1 hG.1.2.2.1 q).2
  refine man885 l hlt hX0 hX hbl hbA hL hZ had hl0 h0 h1 h2 h3 hσ hG hP hD hS hl ⟨by omega, by omega⟩ ?_
  have b1 : ((nc + 1 : Nat) : Int) + 1 * (rkv σ lJ885_10.2.2 - 1) ≤ C := by omega
  have b2 : ((ns + 6 : Nat) : Int) + 6 * (rkv σ lJ885_10.2.2 - 1) ≤ S := by omega
  exact q_goA_ok2 (nc := nc + 1) (ns := ns + 6) (Wp := fun nc ns => Wc nc ns p l e room_1 s m args below meth c Q) (kc := 1) (ks := 6) (by decide) (by decide) hσ hφ hih hrs hRL b1 b2 ck885_10 (fun h => by cases h)
set_option maxRecDepth 100000 in
theorem ck885_11 : goAL 2 0 0 (lauto ++ lman) (some lJ885_11.2.2) (fun _ _ => false) (aft lcl_11 (fsOf lcl_11)) 1064 = true := by decide +kernel
set_option maxRecDepth 100000 in
theorem cc885_11 : lcl_11.length = 247 ∧ lcl_11[0]? = some (co 11 [vr 1, vr 3, vr 25, vr 4, vr 50, vr 46, vr 54, vr 58, vr 62, vi 98 0, vi 99 0, vr 127, vr 168, vr 171, vr 189, vr 194, vr 197]) ∧ lcl_11[197]? = some (ca 1 25 143) ∧ lcl_11[198]? = some (co 12 (vi 144 0 :: fsOf lcl_11)) ∧ lcl_11[246]? = some (cj 1) := ⟨rfl, rfl, rfl, rfl, rfl⟩
theorem cr885_11 : (rkLo lJ885_11.2.1.1.1 lJ885_11.2.1.1.2.2.1 lJ885_11.2.2.2).isSome = true := by decide +kernel
set_option maxRecDepth 100000 in
theorem m885_11 (l : Launch) {p : Program} {e : Env} {s : State} {m : MethodId} {below : List Frame} {meth : Method} {c : Code} {Q : State → Prop} {b L : Nat} {xs : Nat → Int32} {args : Array Value} (hlt : l.stackTraces = false) {D : va_G} {cy : Nat → ClassId} {A : Nat → Prop} {w0 : Cond} (hX0 : CTX p s m args c code 7 RL w0 D cy A) (hX : va_X b L xs s s.heap) (hbl : b < s.heap.size) (hbA : ¬ A b) (hL : L ≤ 3584) (hZ : zx A s) {ad : Nat → Nat} (had : ad 40000 = b) {C S : Int} (hCR : C + 1 ≤ (room_1.cells : Int) ∧ S + 6 ≤ (room_1.slots : Int)) : ∀ (σ : List Int) (φ : List (Nat → Int32)) (ws : va_W) (lv : List (Nat × Value)) (stk : List Value) (H : Heap) (locs : List Loc) (ls : Array Slot) (nc ns : Nat), pfx [0, (L : Int)] σ → pfx [] φ → RLx σ φ → GS cy [] ad lJ885_11.2.1 σ φ ws lv stk → va_P D vwCl ws H → va_D A ws → va_S A s.heap H locs → lv_has ls 7 lv → (nc : Int) + 1 * rkv σ lJ885_11.2.2 ≤ C → (ns : Int) + 6 * rkv σ lJ885_11.2.2 ≤ S → 0 ≤ rkv σ lJ885_11.2.2 → (∀ J' ∈ lauto ++ lman, InvL (fun nc ns => Wc nc ns p l e room_1 s m args below meth c Q) 1 6 C S D cy A s.heap 7 [] ad [0, (L : Int)] [] J' (rkv σ lJ885_11.2.2)) → Wc nc ns p l e room_1 s m args below meth c Q H locs lJ885_11.1 ls stk := by
  intro σ φ ws lv stk H locs ls nc ns hσ hφ hRL hG hP hD hS hl hc1 hc2 hr0 hih
  obtain ⟨hl0, h0, h1, h2, h3⟩ := cc885_11
  have hrs : ∀ q ∈ lJ885_11.2.2.2, vl σ q.2 (ev σ q.2) := by
    have hs := cr885_11
    cases q : rkLo lJ885_11.2.1.1.1 lJ885_11.2.1.1.2.2.1 lJ885_11.2.2.2 with
    | none => rw [q] at hs; cases hs
    | some z => exact (rkLo_ok hG.1.1 hG.1.2.2.1 q).2
  refine man885 l hlt hX0 hX hbl hbA hL hZ had hl0 h0 h1 h2 h3 hσ hG hP hD hS hl ⟨by omega, by omega⟩ ?_
  have b1 : ((nc + 1 : Nat) : Int) + 1 * (rkv σ lJ885_11.2.2 - 1) ≤ C := by omega
  have b2 : ((ns + 6 : Nat) : Int) + 6 * (rkv σ lJ885_11.2.2 - 1) ≤ S := by omega
  exact q_goA_ok2 (nc := nc + 1) (ns := ns + 6) (Wp := fun nc ns => Wc nc ns p l e room_1 s m args below meth c Q) (kc := 1) (ks := 6) (by decide) (by decide) hσ hφ hih hrs hRL b1 b2 ck885_11 (fun h => by cases h)
set_option maxRecDepth 100000 in
theorem ck148_00 : goAF 2 0 0 (lauto ++ lman) (some lJ148_00.2.2) (aftF lcl_00 (fsF lcl_00)) 1064 = true := by decide +kernel
set_option maxRecDepth 100000 in
theorem cc148_00 : lcl_00.length = 247 ∧ lcl_00[0]? = some (co 11 [vr 1, vr 3, vr 4, vr 25, vr 46, vr 50, vr 54, vr 58, vr 62, vi 98 0, vi 99 0, vr 127, vr 168, vr 171, vr 189, vr 194, vr 197]) ∧ lcl_00[1]? = some (co 9 [vr 2, vi 3 0, vi 4 0, vi 5 0, vi 6 0, vi 7 0, vL 8 0, vi 9 0, vi 10 0]) ∧ lcl_00[2]? = some (ca 0 1000 0) ∧ lcl_00[198]? = some (co 12 (vi 144 0 :: vi 145 0 :: vr 199 :: fsF lcl_00)) ∧ lcl_00[199]? = some (ca 1 1000 181) := ⟨rfl, rfl, rfl, rfl, rfl, rfl⟩
theorem cr148_00 : (rkLo lJ148_00.2.1.1.1 lJ148_00.2.1.1.2.2.1 lJ148_00.2.2.2).isSome = true := by decide +kernel
set_option maxRecDepth 100000 in
theorem m148_00 (l : Launch) {p : Program} {e : Env} {s : State} {m : MethodId} {below : List Frame} {meth : Method} {c : Code} {Q : State → Prop} {b L : Nat} {xs : Nat → Int32} {args : Array Value} {D : va_G} {cy : Nat → ClassId} {A : Nat → Prop} {w0 : Cond} (hX0 : CTX p s m args c code 7 RL w0 D cy A) (hX : va_X b L xs s s.heap) (hbl : b < s.heap.size) (hbA : ¬ A b) (hL : L ≤ 3584) {ad : Nat → Nat} (had : ad 40000 = b) {C S : Int} (hCR : C + 1 ≤ (room_1.cells : Int) ∧ S + 6 ≤ (room_1.slots : Int)) : ∀ (σ : List Int) (φ : List (Nat → Int32)) (ws : va_W) (lv : List (Nat × Value)) (stk : List Value) (H : Heap) (locs : List Loc) (ls : Array Slot) (nc ns : Nat), pfx [0, (L : Int)] σ → pfx [] φ → RLx σ φ → GS cy [] ad lJ148_00.2.1 σ φ ws lv stk → va_P D vwCl ws H → va_D A ws → va_S A s.heap H locs → lv_has ls 7 lv → (nc : Int) + 1 * rkv σ lJ148_00.2.2 ≤ C → (ns : Int) + 6 * rkv σ lJ148_00.2.2 ≤ S → 0 ≤ rkv σ lJ148_00.2.2 → (∀ J' ∈ lauto ++ lman, InvL (fun nc ns => Wc nc ns p l e room_1 s m args below meth c Q) 1 6 C S D cy A s.heap 7 [] ad [0, (L : Int)] [] J' (rkv σ lJ148_00.2.2)) → Wc nc ns p l e room_1 s m args below meth c Q H locs lJ148_00.1 ls stk := by
  intro σ φ ws lv stk H locs ls nc ns hσ hφ hRL hG hP hD hS hl hc1 hc2 hr0 hih
  obtain ⟨hl0, h0, h1, h2, h3, h4⟩ := cc148_00
  have hrs : ∀ q ∈ lJ148_00.2.2.2, vl σ q.2 (ev σ q.2) := by
    have hs := cr148_00
    cases q : rkLo lJ148_00.2.1.1.1 lJ148_00.2.1.1.2.2.1 lJ148_00.2.2.2 with
    | none => rw [q] at hs; cases hs
    | some z => exact (rkLo_ok hG.1.1 hG.1.2.2.1 q).2
  refine man148 l hX0 hX hbl hbA hL had hl0 h0 h1 h2 h3 h4 hσ hRL hG hP hD hS hl ⟨by omega, by omega⟩ ?_
  have b1 : (nc : Int) + 1 * (rkv σ lJ148_00.2.2 - 1) ≤ C := by omega
  have b2 : (ns : Int) + 6 * (rkv σ lJ148_00.2.2 - 1) ≤ S := by omega
  exact q_goF_ok2 (nc := nc) (ns := ns) (Wp := fun nc ns => Wc nc ns p l e room_1 s m args below meth c Q) (kc := 1) (ks := 6) (by decide) (by decide) hσ hφ hih hrs b1 b2 ck148_00
set_option maxRecDepth 100000 in
theorem ck148_01 : goAF 2 0 0 (lauto ++ lman) (some lJ148_01.2.2) (aftF lcl_01 (fsF lcl_01)) 1064 = true := by decide +kernel
set_option maxRecDepth 100000 in
theorem cc148_01 : lcl_01.length = 247 ∧ lcl_01[0]? = some (co 11 [vr 1, vr 3, vr 4, vr 25, vr 50, vr 46, vr 54, vr 58, vr 62, vi 98 0, vi 99 0, vr 127, vr 168, vr 171, vr 189, vr 194, vr 197]) ∧ lcl_01[1]? = some (co 9 [vr 2, vi 3 0, vi 4 0, vi 5 0, vi 6 0, vi 7 0, vL 8 0, vi 9 0, vi 10 0]) ∧ lcl_01[2]? = some (ca 0 1000 0) ∧ lcl_01[198]? = some (co 12 (vi 144 0 :: vi 145 0 :: vr 199 :: fsF lcl_01)) ∧ lcl_01[199]? = some (ca 1 1000 181) := ⟨rfl, rfl, rfl, rfl, rfl, rfl⟩
theorem cr148_01 : (rkLo lJ148_01.2.1.1.1 lJ148_01.2.1.1.2.2.1 lJ148_01.2.2.2).isSome = true := by decide +kernel
set_option maxRecDepth 100000 in
theorem m148_01 (l : Launch) {p : Program} {e : Env} {s : State} {m : MethodId} {below : List Frame} {meth : Method} {c : Code} {Q : State → Prop} {b L : Nat} {xs : Nat → Int32} {args : Array Value} {D : va_G} {cy : Nat → ClassId} {A : Nat → Prop} {w0 : Cond} (hX0 : CTX p s m args c code 7 RL w0 D cy A) (hX : va_X b L xs s s.heap) (hbl : b < s.heap.size) (hbA : ¬ A b) (hL : L ≤ 3584) {ad : Nat → Nat} (had : ad 40000 = b) {C S : Int} (hCR : C + 1 ≤ (room_1.cells : Int) ∧ S + 6 ≤ (room_1.slots : Int)) : ∀ (σ : List Int) (φ : List (Nat → Int32)) (ws : va_W) (lv : List (Nat × Value)) (stk : List Value) (H : Heap) (locs : List Loc) (ls : Array Slot) (nc ns : Nat), pfx [0, (L : Int)] σ → pfx [] φ → RLx σ φ → GS cy [] ad lJ148_01.2.1 σ φ ws lv stk → va_P D vwCl ws H → va_D A ws → va_S A s.heap H locs → lv_has ls 7 lv → (nc : Int) + 1 * rkv σ lJ148_01.2.2 ≤ C → (ns : Int) + 6 * rkv σ lJ148_01.2.2 ≤ S → 0 ≤ rkv σ lJ148_01.2.2 → (∀ J' ∈ lauto ++ lman, InvL (fun nc ns => Wc nc ns p l e room_1 s m args below meth c Q) 1 6 C S D cy A s.heap 7 [] ad [0, (L : Int)] [] J' (rkv σ lJ148_01.2.2)) → Wc nc ns p l e room_1 s m args below meth c Q H locs lJ148_01.1 ls stk := by
  intro σ φ ws lv stk H locs ls nc ns hσ hφ hRL hG hP hD hS hl hc1 hc2 hr0 hih
  obtain ⟨hl0, h0, h1, h2, h3, h4⟩ := cc148_01
  have hrs : ∀ q ∈ lJ148_01.2.2.2, vl σ q.2 (ev σ q.2) := by
    have hs := cr148_01
    cases q : rkLo lJ148_01.2.1.1.1 lJ148_01.2.1.1.2.2.1 lJ148_01.2.2.2 with
    | none => rw [q] at hs; cases hs
    | some z => exact (rkLo_ok hG.1.1 hG.1.2.2.1 q).2
  refine man148 l hX0 hX hbl hbA hL had hl0 h0 h1 h2 h3 h4 hσ hRL hG hP hD hS hl ⟨by omega, by omega⟩ ?_
  have b1 : (nc : Int) + 1 * (rkv σ lJ148_01.2.2 - 1) ≤ C := by omega
  have b2 : (ns : Int) + 6 * (rkv σ lJ148_01.2.2 - 1) ≤ S := by omega
  exact q_goF_ok2 (nc := nc) (ns := ns) (Wp := fun nc ns => Wc nc ns p l e room_1 s m args below meth c Q) (kc := 1) (ks := 6) (by decide) (by decide) hσ hφ hih hrs b1 b2 ck148_01
set_option maxRecDepth 100000 in
theorem ck148_10 : goAF 2 0 0 (lauto ++ lman) (some lJ148_10.2.2) (aftF lcl_10 (fsF lcl_10)) 1064 = true := by decide +kernel
set_option maxRecDepth 100000 in
theorem cc148_10 : lcl_10.length = 247 ∧ lcl_10[0]? = some (co 11 [vr 1, vr 3, vr 25, vr 4, vr 46, vr 50, vr 54, vr 58, vr 62, vi 98 0, vi 99 0, vr 127, vr 168, vr 171, vr 189, vr 194, vr 197]) ∧ lcl_10[1]? = some (co 9 [vr 2, vi 3 0, vi 4 0, vi 5 0, vi 6 0, vi 7 0, vL 8 0, vi 9 0, vi 10 0]) ∧ lcl_10[2]? = some (ca 0 1000 0) ∧ lcl_10[198]? = some (co 12 (vi 144 0 :: vi 145 0 :: vr 199 :: fsF lcl_10)) ∧ lcl_10[199]? = some (ca 1 1000 181) := ⟨rfl, rfl, rfl, rfl, rfl, rfl⟩
theorem cr148_10 : (rkLo lJ148_10.2.1.1.1 lJ148_10.2.1.1.2.2.1 lJ148_10.2.2.2).isSome = true := by decide +kernel
set_option maxRecDepth 100000 in
theorem m148_10 (l : Launch) {p : Program} {e : Env} {s : State} {m : MethodId} {below : List Frame} {meth : Method} {c : Code} {Q : State → Prop} {b L : Nat} {xs : Nat → Int32} {args : Array Value} {D : va_G} {cy : Nat → ClassId} {A : Nat → Prop} {w0 : Cond} (hX0 : CTX p s m args c code 7 RL w0 D cy A) (hX : va_X b L xs s s.heap) (hbl : b < s.heap.size) (hbA : ¬ A b) (hL : L ≤ 3584) {ad : Nat → Nat} (had : ad 40000 = b) {C S : Int} (hCR : C + 1 ≤ (room_1.cells : Int) ∧ S + 6 ≤ (room_1.slots : Int)) : ∀ (σ : List Int) (φ : List (Nat → Int32)) (ws : va_W) (lv : List (Nat × Value)) (stk : List Value) (H : Heap) (locs : List Loc) (ls : Array Slot) (nc ns : Nat), pfx [0, (L : Int)] σ → pfx [] φ → RLx σ φ → GS cy [] ad lJ148_10.2.1 σ φ ws lv stk → va_P D vwCl ws H → va_D A ws → va_S A s.heap H locs → lv_has ls 7 lv → (nc : Int) + 1 * rkv σ lJ148_10.2.2 ≤ C → (ns : Int) + 6 * rkv σ lJ148_10.2.2 ≤ S → 0 ≤ rkv σ lJ148_10.2.2 → (∀ J' ∈ lauto ++ lman, InvL (fun nc ns => Wc nc ns p l e room_1 s m args below meth c Q) 1 6 C S D cy A s.heap 7 [] ad [0, (L : Int)] [] J' (rkv σ lJ148_10.2.2)) → Wc nc ns p l e room_1 s m args below meth c Q H locs lJ148_10.1 ls stk := by
  intro σ φ ws lv stk H locs ls nc ns hσ hφ hRL hG hP hD hS hl hc1 hc2 hr0 hih
  obtain ⟨hl0, h0, h1, h2, h3, h4⟩ := cc148_10
  have hrs : ∀ q ∈ lJ148_10.2.2.2, vl σ q.2 (ev σ q.2) := by
    have hs := cr148_10
    cases q : rkLo lJ148_10.2.1.1.1 lJ148_10.2.1.1.2.2.1 lJ148_10.2.2.2 with
    | none => rw [q] at hs; cases hs
    | some z => exact (rkLo_ok hG.1.1 hG.1.2.2.1 q).2
  refine man148 l hX0 hX hbl hbA hL had hl0 h0 h1 h2 h3 h4 hσ hRL hG hP hD hS hl ⟨by omega, by omega⟩ ?_
  have b1 : (nc : Int) + 1 * (rkv σ lJ148_10.2.2 - 1) ≤ C := by omega
  have b2 : (ns : Int) + 6 * (rkv σ lJ148_10.2.2 - 1) ≤ S := by omega
  exact q_goF_ok2 (nc := nc) (ns := ns) (Wp := fun nc ns => Wc nc ns p l e room_1 s m args below meth c Q) (kc := 1) (ks := 6) (by decide) (by decide) hσ hφ hih hrs b1 b2 ck148_10
set_option maxRecDepth 100000 in
theorem ck148_11 : goAF 2 0 0 (lauto ++ lman) (some lJ148_11.2.2) (aftF lcl_11 (fsF lcl_11)) 1064 = true := by decide +kernel
set_option maxRecDepth 100000 in
theorem cc148_11 : lcl_11.length = 247 ∧ lcl_11[0]? = some (co 11 [vr 1, vr 3, vr 25, vr 4, vr 50, vr 46, vr 54, vr 58, vr 62, vi 98 0, vi 99 0, vr 127, vr 168, vr 171, vr 189, vr 194, vr 197]) ∧ lcl_11[1]? = some (co 9 [vr 2, vi 3 0, vi 4 0, vi 5 0, vi 6 0, vi 7 0, vL 8 0, vi 9 0, vi 10 0]) ∧ lcl_11[2]? = some (ca 0 1000 0) ∧ lcl_11[198]? = some (co 12 (vi 144 0 :: vi 145 0 :: vr 199 :: fsF lcl_11)) ∧ lcl_11[199]? = some (ca 1 1000 181) := ⟨rfl, rfl, rfl, rfl, rfl, rfl⟩
theorem cr148_11 : (rkLo lJ148_11.2.1.1.1 lJ148_11.2.1.1.2.2.1 lJ148_11.2.2.2).isSome = true := by decide +kernel
set_option maxRecDepth 100000 in
theorem m148_11 (l : Launch) {p : Program} {e : Env} {s : State} {m : MethodId} {below : List Frame} {meth : Method} {c : Code} {Q : State → Prop} {b L : Nat} {xs : Nat → Int32} {args : Array Value} {D : va_G} {cy : Nat → ClassId} {A : Nat → Prop} {w0 : Cond} (hX0 : CTX p s m args c code 7 RL w0 D cy A) (hX : va_X b L xs s s.heap) (hbl : b < s.heap.size) (hbA : ¬ A b) (hL : L ≤ 3584) {ad : Nat → Nat} (had : ad 40000 = b) {C S : Int} (hCR : C + 1 ≤ (room_1.cells : Int) ∧ S + 6 ≤ (room_1.slots : Int)) : ∀ (σ : List Int) (φ : List (Nat → Int32)) (ws : va_W) (lv : List (Nat × Value)) (stk : List Value) (H : Heap) (locs : List Loc) (ls : Array Slot) (nc ns : Nat), pfx [0, (L : Int)] σ → pfx [] φ → RLx σ φ → GS cy [] ad lJ148_11.2.1 σ φ ws lv stk → va_P D vwCl ws H → va_D A ws → va_S A s.heap H locs → lv_has ls 7 lv → (nc : Int) + 1 * rkv σ lJ148_11.2.2 ≤ C → (ns : Int) + 6 * rkv σ lJ148_11.2.2 ≤ S → 0 ≤ rkv σ lJ148_11.2.2 → (∀ J' ∈ lauto ++ lman, InvL (fun nc ns => Wc nc ns p l e room_1 s m args below meth c Q) 1 6 C S D cy A s.heap 7 [] ad [0, (L : Int)] [] J' (rkv σ lJ148_11.2.2)) → Wc nc ns p l e room_1 s m args below meth c Q H locs lJ148_11.1 ls stk := by
  intro σ φ ws lv stk H locs ls nc ns hσ hφ hRL hG hP hD hS hl hc1 hc2 hr0 hih
  obtain ⟨hl0, h0, h1, h2, h3, h4⟩ := cc148_11
  have hrs : ∀ q ∈ lJ148_11.2.2.2, vl σ q.2 (ev σ q.2) := by
    have hs := cr148_11
    cases q : rkLo lJ148_11.2.1.1.1 lJ148_11.2.1.1.2.2.1 lJ148_11.2.2.2 with
    | none => rw [q] at hs; cases hs
    | some z => exact (rkLo_ok hG.1.1 hG.1.2.2.1 q).2
  refine man148 l hX0 hX hbl hbA hL had hl0 h0 h1 h2 h3 h4 hσ hRL hG hP hD hS hl ⟨by omega, by omega⟩ ?_
  have b1 : (nc : Int) + 1 * (rkv σ lJ148_11.2.2 - 1) ≤ C := by omega
  have b2 : (ns : Int) + 6 * (rkv σ lJ148_11.2.2 - 1) ≤ S := by omega
  exact q_goF_ok2 (nc := nc) (ns := ns) (Wp := fun nc ns => Wc nc ns p l e room_1 s m args below meth c Q) (kc := 1) (ks := 6) (by decide) (by decide) hσ hφ hih hrs b1 b2 ck148_11
/-- the world with one symbol more, the fault -/
def extA (a : AS) : AS := ((a.1.1 ++ [((-2147483648), 2147483647)], a.1.2.1, a.1.2.2.1, a.1.2.2.2), a.2.1, a.2.2)
def owC (a : AS) : Nat × AW := (100000, (extA a).1)
theorem GS_ext {cy : Nat → ClassId} {ω : List Value} {ad : Nat → Nat} {a : AS} {σ : List Int} {φ : List (Nat → Int32)} {ws : va_W} {lv : List (Nat × Value)} {stk : List Value} (x : Int32) (hG : GS cy ω ad a σ φ ws lv stk) : GS cy ω ad (extA a) (σ ++ [x.toInt]) φ ws lv stk := by
  obtain ⟨⟨hB, hF, hC, hW⟩, hL, hT⟩ := hG
  have h1 := x.le_toInt
  have h2 := x.toInt_lt
  have hW' := hW.app (τ := [x.toInt]) (ψ := [])
  rw [List.append_nil] at hW'
  refine ⟨⟨P2.app hB ⟨⟨?_, ?_⟩, trivial⟩, hF, hC.app, hW'⟩, ?_, ?_⟩
  · show (-2147483648 : Int) ≤ x.toInt
    simpa using h1
  · show x.toInt ≤ 2147483647
    omega
  · exact P2.mono (fun _ _ h => ⟨h.1, gx.app h.2⟩) hL
  · exact P2.mono (fun _ _ h => gx.app h) hT
set_option maxRecDepth 100000 in
theorem x1C_00 : xp 1 (extA lJ295_00.2.1).1 = some ([(3, 0), (205, 0)], [0]) := by decide +kernel
set_option maxRecDepth 100000 in
theorem x2C_00 : xp 2 (extA lJ295_00.2.1).1 = some ([(145, 0), (205, 0)], [181]) := by decide +kernel
theorem cr295_00 : (rkLo lJ295_00.2.1.1.1 lJ295_00.2.1.1.2.2.1 lJ295_00.2.2.2).isSome = true := by decide +kernel
set_option maxHeartbeats 4000000 in
set_option maxRecDepth 100000 in
theorem m295_00 (l : Launch) {p : Program} {e : Env} {s : State} {m : MethodId} {below : List Frame} {meth : Method} {c : Code} {Q : State → Prop} {b L : Nat} {xs : Nat → Int32} {args : Array Value} {D : va_G} {cy : Nat → ClassId} {A : Nat → Prop} {w0 : Cond} (hX0 : CTX p s m args c code 7 RL w0 D cy A) (hX : va_X b L xs s s.heap) (hbl : b < s.heap.size) (hbA : ¬ A b) (hL : L ≤ 3584) {ad : Nat → Nat} (had : ad 40000 = b) {C S : Int} (hCR : C + 1 ≤ (room_1.cells : Int) ∧ S + 6 ≤ (room_1.slots : Int)) {K : KT} {cd : List (Nat × Instr × Nat)} {CT : CTT} {cons : List Con} (hF0 : SF ad A s) (hK : KOK RL K) (hcode : ∀ q ∈ cd, decode code q.1 = .ok (q.2.1, q.2.2)) (hCT : ∀ q ∈ CT, COK MT RL q) (hcons : ∀ con ∈ cons, ConOK MT l con) (hckC : runL MT (owC lJ295_00.2.1) 7 0 2 0 11 279 K cd CT cons (lauto ++ lman) (some lJ295_00.2.2) 4000 (extA lJ295_00.2.1) lJ295_00.1 = true) : ∀ (σ : List Int) (φ : List (Nat → Int32)) (ws : va_W) (lv : List (Nat × Value)) (stk : List Value) (H : Heap) (locs : List Loc) (ls : Array Slot) (nc ns : Nat), pfx [0, (L : Int)] σ → pfx [] φ → RLx σ φ → GS cy [] ad lJ295_00.2.1 σ φ ws lv stk → va_P D vwCl ws H → va_D A ws → va_S A s.heap H locs → lv_has ls 7 lv → (nc : Int) + 1 * rkv σ lJ295_00.2.2 ≤ C → (ns : Int) + 6 * rkv σ lJ295_00.2.2 ≤ S → 0 ≤ rkv σ lJ295_00.2.2 → (∀ J' ∈ lauto ++ lman, InvL (fun nc ns => Wc nc ns p l e room_1 s m args below meth c Q) 1 6 C S D cy A s.heap 7 [] ad [0, (L : Int)] [] J' (rkv σ lJ295_00.2.2)) → Wc nc ns p l e room_1 s m args below meth c Q H locs lJ295_00.1 ls stk := by
  intro σ φ ws lv stk H locs ls nc ns hσ hφ hRL hG hP hD hS hl hc1 hc2 hr0 hih
  have hrs : ∀ q ∈ lJ295_00.2.2.2, vl σ q.2 (ev σ q.2) := by
    have hs := cr295_00
    cases q : rkLo lJ295_00.2.1.1.1 lJ295_00.2.1.1.2.2.1 lJ295_00.2.2.2 with
    | none => rw [q] at hs; cases hs
    | some z => exact (rkLo_ok hG.1.1 hG.1.2.2.1 q).2
  have hbl' := hbl
  have hbl' := hbl
  have hbl' := hbl
  have hbl' := hbl
  have hbl : σ.length = 205 := by
    rw [← P2.len hG.1.1]
    exact lbs_len
  obtain ⟨f, g, x, r1, r2, r3, r4, r5⟩ := id hRL
  have hx0 : 0 ≤ x ∧ x ≤ 1000 := by
    obtain ⟨z, z1, z2⟩ := P2.get hG.1.1 lbs_3
    rw [r3] at z1
    cases z1
    exact z2
  have htd : σ[145]? = some x := by
    obtain ⟨a1, b1, p1, p2, p3⟩ := hG.1.2.2.1 (3, 145, 0) (by simp [lJ295_00])
    obtain ⟨a2, b2, s1, s2, s3⟩ := hG.1.2.2.1 (145, 3, 0) (by simp [lJ295_00])
    have p1' : σ[3]? = some a1 := p1
    have p2' : σ[145]? = some b1 := p2
    have s1' : σ[145]? = some a2 := s1
    have s2' : σ[3]? = some b2 := s2
    rw [r3] at p1' s2'
    cases p1'
    cases s2'
    rw [p2'] at s1'
    cases s1'
    have p3' : x ≤ b1 + 0 := p3
    have s3' : b1 ≤ x + 0 := s3
    have e : b1 = x := by omega
    rw [← e]
    exact p2'
  have hfg : fault g x.toNat = fault f x.toNat := (fault_c (fun j hj => r5 j (by omega))).symm
  have hlast : (σ ++ [(fault f x.toNat).toInt])[205]? = some (fault f x.toNat).toInt := by
    rw [List.getElem?_append_right (by omega), hbl]
    rfl
  have hxo : ∀ t ∈ [1, 2], xal (owC lJ295_00.2.1).1 t = true → XPo t (xp t (owC lJ295_00.2.1).2) (σ ++ [(fault f x.toNat).toInt]) φ := by
    refine all_cons (fun _ => ?_) (all_cons (fun _ => ?_) all_nil)
    · show XPo 1 (xp 1 (extA lJ295_00.2.1).1) _ _
      rw [x1C_00]
      exact ⟨[x, (fault f x.toNat).toInt], [f], ⟨⟨x, gapp r3, (Int.add_zero _).symm⟩, ⟨_, hlast, (Int.add_zero _).symm⟩, trivial⟩, ⟨r1, trivial⟩, hx0.1, hx0.2, rfl, fun _ => r4⟩
    · show XPo 2 (xp 2 (extA lJ295_00.2.1).1) _ _
      rw [x2C_00]
      exact ⟨[x, (fault f x.toNat).toInt], [g], ⟨⟨x, gapp htd, (Int.add_zero _).symm⟩, ⟨_, hlast, (Int.add_zero _).symm⟩, trivial⟩, ⟨r2, trivial⟩, hx0.1, hx0.2, by rw [hfg], fun e => absurd e (by decide)⟩
  have hpx : pfx [0, (L : Int)] (σ ++ [(fault f x.toNat).toInt]) := by
    obtain ⟨τ, rfl⟩ := hσ
    exact ⟨τ ++ _, by rw [List.append_assoc]⟩
  have hσ1 : (σ ++ [(fault f x.toNat).toInt])[1]? = some (L : Int) := by
    obtain ⟨τ, rfl⟩ := hσ
    rfl
  have hRL' : RLx (σ ++ [(fault f x.toNat).toInt]) φ := by
    have h := hRL.app (τ := [(fault f x.toNat).toInt]) (ψ := [])
    rw [List.append_nil] at h
    exact h
  have hrk : rkv (σ ++ [(fault f x.toNat).toInt]) lJ295_00.2.2 = rkv σ lJ295_00.2.2 := by
    have h8 := rks_pfx (σ := σ ++ [(fault f x.toNat).toInt]) ⟨_, rfl⟩ hrs
    unfold rkv
    rw [h8]
  have hrs' : ∀ q ∈ lJ295_00.2.2.2, vl (σ ++ [(fault f x.toNat).toInt]) q.2 (ev (σ ++ [(fault f x.toNat).toInt]) q.2) := fun q hq => by
    have h := (hrs q hq).app (τ := [(fault f x.toNat).toInt])
    rw [ev_vl h]
    exact h
  have h := runL_ok (σ0 := σ ++ [(fault f x.toNat).toInt]) (φ0 := φ) (nc := nc) (ns := ns) (kc := 1) (ks := 6) (C := C) (S := S) (e := e) (R := room_1) (below := below) (meth := meth) (Q := Q) (ω := []) (σp := [0, (L : Int)]) (φp := []) hX0 hF0 hX hbl' hbA had (Nat.lt_of_le_of_lt hL (by decide)) hσ1 hxo hK hcode hCT hcons ⟨by decide, by decide⟩ ⟨by omega, by omega⟩ (by decide) (by decide) hpx hφ (by rw [hrk]; exact hih) hrs' hRL' (by rw [hrk]; exact hc1) (by rw [hrk]; exact hc2) 4000 (extA lJ295_00.2.1) lJ295_00.1 hckC
  exact h (σ ++ [(fault f x.toNat).toInt]) φ ws lv stk H locs ls ⟨[], (List.append_nil _).symm⟩ ⟨[], (List.append_nil _).symm⟩ (GS_ext (fault f x.toNat) hG) hP hD hS hl
set_option maxRecDepth 100000 in
theorem x1C_01 : xp 1 (extA lJ295_01.2.1).1 = some ([(3, 0), (205, 0)], [0]) := by decide +kernel
set_option maxRecDepth 100000 in
theorem x2C_01 : xp 2 (extA lJ295_01.2.1).1 = some ([(145, 0), (205, 0)], [181]) := by decide +kernel
theorem cr295_01 : (rkLo lJ295_01.2.1.1.1 lJ295_01.2.1.1.2.2.1 lJ295_01.2.2.2).isSome = true := by decide +kernel
set_option maxHeartbeats 4000000 in
set_option maxRecDepth 100000 in
theorem m295_01 (l : Launch) {p : Program} {e : Env} {s : State} {m : MethodId} {below : List Frame} {meth : Method} {c : Code} {Q : State → Prop} {b L : Nat} {xs : Nat → Int32} {args : Array Value} {D : va_G} {cy : Nat → ClassId} {A : Nat → Prop} {w0 : Cond} (hX0 : CTX p s m args c code 7 RL w0 D cy A) (hX : va_X b L xs s s.heap) (hbl : b < s.heap.size) (hbA : ¬ A b) (hL : L ≤ 3584) {ad : Nat → Nat} (had : ad 40000 = b) {C S : Int} (hCR : C + 1 ≤ (room_1.cells : Int) ∧ S + 6 ≤ (room_1.slots : Int)) {K : KT} {cd : List (Nat × Instr × Nat)} {CT : CTT} {cons : List Con} (hF0 : SF ad A s) (hK : KOK RL K) (hcode : ∀ q ∈ cd, decode code q.1 = .ok (q.2.1, q.2.2)) (hCT : ∀ q ∈ CT, COK MT RL q) (hcons : ∀ con ∈ cons, ConOK MT l con) (hckC : runL MT (owC lJ295_01.2.1) 7 0 2 0 11 279 K cd CT cons (lauto ++ lman) (some lJ295_01.2.2) 4000 (extA lJ295_01.2.1) lJ295_01.1 = true) : ∀ (σ : List Int) (φ : List (Nat → Int32)) (ws : va_W) (lv : List (Nat × Value)) (stk : List Value) (H : Heap) (locs : List Loc) (ls : Array Slot) (nc ns : Nat), pfx [0, (L : Int)] σ → pfx [] φ → RLx σ φ → GS cy [] ad lJ295_01.2.1 σ φ ws lv stk → va_P D vwCl ws H → va_D A ws → va_S A s.heap H locs → lv_has ls 7 lv → (nc : Int) + 1 * rkv σ lJ295_01.2.2 ≤ C → (ns : Int) + 6 * rkv σ lJ295_01.2.2 ≤ S → 0 ≤ rkv σ lJ295_01.2.2 → (∀ J' ∈ lauto ++ lman, InvL (fun nc ns => Wc nc ns p l e room_1 s m args below meth c Q) 1 6 C S D cy A s.heap 7 [] ad [0, (L : Int)] [] J' (rkv σ lJ295_01.2.2)) → Wc nc ns p l e room_1 s m args below meth c Q H locs lJ295_01.1 ls stk := by
  intro σ φ ws lv stk H locs ls nc ns hσ hφ hRL hG hP hD hS hl hc1 hc2 hr0 hih
  have hrs : ∀ q ∈ lJ295_01.2.2.2, vl σ q.2 (ev σ q.2) := by
    have hs := cr295_01
    cases q : rkLo lJ295_01.2.1.1.1 lJ295_01.2.1.1.2.2.1 lJ295_01.2.2.2 with
    | none => rw [q] at hs; cases hs
    | some z => exact (rkLo_ok hG.1.1 hG.1.2.2.1 q).2
  have hbl' := hbl
  have hbl' := hbl
  have hbl' := hbl
  have hbl : σ.length = 205 := by
    rw [← P2.len hG.1.1]
    exact lbs_len
  obtain ⟨f, g, x, r1, r2, r3, r4, r5⟩ := id hRL
  have hx0 : 0 ≤ x ∧ x ≤ 1000 := by
    obtain ⟨z, z1, z2⟩ := P2.get hG.1.1 lbs_3
    rw [r3] at z1
    cases z1
    exact z2
  have htd : σ[145]? = some x := by
    obtain ⟨a1, b1, p1, p2, p3⟩ := hG.1.2.2.1 (3, 145, 0) (by simp [lJ295_01])
    obtain ⟨a2, b2, s1, s2, s3⟩ := hG.1.2.2.1 (145, 3, 0) (by simp [lJ295_01])
    have p1' : σ[3]? = some a1 := p1
    have p2' : σ[145]? = some b1 := p2
    have s1' : σ[145]? = some a2 := s1
    have s2' : σ[3]? = some b2 := s2
    rw [r3] at p1' s2'
    cases p1'
    cases s2'
    rw [p2'] at s1'
    cases s1'
    have p3' : x ≤ b1 + 0 := p3
    have s3' : b1 ≤ x + 0 := s3
    have e : b1 = x := by omega
    rw [← e]
    exact p2'
  have hfg : fault g x.toNat = fault f x.toNat := (fault_c (fun j hj => r5 j (by omega))).symm
  have hlast : (σ ++ [(fault f x.toNat).toInt])[205]? = some (fault f x.toNat).toInt := by
    rw [List.getElem?_append_right (by omega), hbl]
    rfl
  have hxo : ∀ t ∈ [1, 2], xal (owC lJ295_01.2.1).1 t = true → XPo t (xp t (owC lJ295_01.2.1).2) (σ ++ [(fault f x.toNat).toInt]) φ := by
    refine all_cons (fun _ => ?_) (all_cons (fun _ => ?_) all_nil)
    · show XPo 1 (xp 1 (extA lJ295_01.2.1).1) _ _
      rw [x1C_01]
      exact ⟨[x, (fault f x.toNat).toInt], [f], ⟨⟨x, gapp r3, (Int.add_zero _).symm⟩, ⟨_, hlast, (Int.add_zero _).symm⟩, trivial⟩, ⟨r1, trivial⟩, hx0.1, hx0.2, rfl, fun _ => r4⟩
    · show XPo 2 (xp 2 (extA lJ295_01.2.1).1) _ _
      rw [x2C_01]
      exact ⟨[x, (fault f x.toNat).toInt], [g], ⟨⟨x, gapp htd, (Int.add_zero _).symm⟩, ⟨_, hlast, (Int.add_zero _).symm⟩, trivial⟩, ⟨r2, trivial⟩, hx0.1, hx0.2, by rw [hfg], fun e => absurd e (by decide)⟩
  have hpx : pfx [0, (L : Int)] (σ ++ [(fault f x.toNat).toInt]) := by
    obtain ⟨τ, rfl⟩ := hσ
    exact ⟨τ ++ _, by rw [List.append_assoc]⟩
  have hσ1 : (σ ++ [(fault f x.toNat).toInt])[1]? = some (L : Int) := by
    obtain ⟨τ, rfl⟩ := hσ
    rfl
  have hRL' : RLx (σ ++ [(fault f x.toNat).toInt]) φ := by
    have h := hRL.app (τ := [(fault f x.toNat).toInt]) (ψ := [])
    rw [List.append_nil] at h
    exact h
  have hrk : rkv (σ ++ [(fault f x.toNat).toInt]) lJ295_01.2.2 = rkv σ lJ295_01.2.2 := by
    have h8 := rks_pfx (σ := σ ++ [(fault f x.toNat).toInt]) ⟨_, rfl⟩ hrs
    unfold rkv
    rw [h8]
  have hrs' : ∀ q ∈ lJ295_01.2.2.2, vl (σ ++ [(fault f x.toNat).toInt]) q.2 (ev (σ ++ [(fault f x.toNat).toInt]) q.2) := fun q hq => by
    have h := (hrs q hq).app (τ := [(fault f x.toNat).toInt])
    rw [ev_vl h]
    exact h
  have h := runL_ok (σ0 := σ ++ [(fault f x.toNat).toInt]) (φ0 := φ) (nc := nc) (ns := ns) (kc := 1) (ks := 6) (C := C) (S := S) (e := e) (R := room_1) (below := below) (meth := meth) (Q := Q) (ω := []) (σp := [0, (L : Int)]) (φp := []) hX0 hF0 hX hbl' hbA had (Nat.lt_of_le_of_lt hL (by decide)) hσ1 hxo hK hcode hCT hcons ⟨by decide, by decide⟩ ⟨by omega, by omega⟩ (by decide) (by decide) hpx hφ (by rw [hrk]; exact hih) hrs' hRL' (by rw [hrk]; exact hc1) (by rw [hrk]; exact hc2) 4000 (extA lJ295_01.2.1) lJ295_01.1 hckC
  exact h (σ ++ [(fault f x.toNat).toInt]) φ ws lv stk H locs ls ⟨[], (List.append_nil _).symm⟩ ⟨[], (List.append_nil _).symm⟩ (GS_ext (fault f x.toNat) hG) hP hD hS hl
set_option maxRecDepth 100000 in
theorem x1C_10 : xp 1 (extA lJ295_10.2.1).1 = some ([(3, 0), (205, 0)], [0]) := by decide +kernel
set_option maxRecDepth 100000 in
theorem x2C_10 : xp 2 (extA lJ295_10.2.1).1 = some ([(145, 0), (205, 0)], [181]) := by decide +kernel
theorem cr295_10 : (rkLo lJ295_10.2.1.1.1 lJ295_10.2.1.1.2.2.1 lJ295_10.2.2.2).isSome = true := by decide +kernel
set_option maxHeartbeats 4000000 in
set_option maxRecDepth 100000 in
theorem m295_10 (l : Launch) {p : Program} {e : Env} {s : State} {m : MethodId} {below : List Frame} {meth : Method} {c : Code} {Q : State → Prop} {b L : Nat} {xs : Nat → Int32} {args : Array Value} {D : va_G} {cy : Nat → ClassId} {A : Nat → Prop} {w0 : Cond} (hX0 : CTX p s m args c code 7 RL w0 D cy A) (hX : va_X b L xs s s.heap) (hbl : b < s.heap.size) (hbA : ¬ A b) (hL : L ≤ 3584) {ad : Nat → Nat} (had : ad 40000 = b) {C S : Int} (hCR : C + 1 ≤ (room_1.cells : Int) ∧ S + 6 ≤ (room_1.slots : Int)) {K : KT} {cd : List (Nat × Instr × Nat)} {CT : CTT} {cons : List Con} (hF0 : SF ad A s) (hK : KOK RL K) (hcode : ∀ q ∈ cd, decode code q.1 = .ok (q.2.1, q.2.2)) (hCT : ∀ q ∈ CT, COK MT RL q) (hcons : ∀ con ∈ cons, ConOK MT l con) (hckC : runL MT (owC lJ295_10.2.1) 7 0 2 0 11 279 K cd CT cons (lauto ++ lman) (some lJ295_10.2.2) 4000 (extA lJ295_10.2.1) lJ295_10.1 = true) : ∀ (σ : List Int) (φ : List (Nat → Int32)) (ws : va_W) (lv : List (Nat × Value)) (stk : List Value) (H : Heap) (locs : List Loc) (ls : Array Slot) (nc ns : Nat), pfx [0, (L : Int)] σ → pfx [] φ → RLx σ φ → GS cy [] ad lJ295_10.2.1 σ φ ws lv stk → va_P D vwCl ws H → va_D A ws → va_S A s.heap H locs → lv_has ls 7 lv → (nc : Int) + 1 * rkv σ lJ295_10.2.2 ≤ C → (ns : Int) + 6 * rkv σ lJ295_10.2.2 ≤ S → 0 ≤ rkv σ lJ295_10.2.2 → (∀ J' ∈ lauto ++ lman, InvL (fun nc ns => Wc nc ns p l e room_1 s m args below meth c Q) 1 6 C S D cy A s.heap 7 [] ad [0, (L : Int)] [] J' (rkv σ lJ295_10.2.2)) → Wc nc ns p l e room_1 s m args below meth c Q H locs lJ295_10.1 ls stk := by
  intro σ φ ws lv stk H locs ls nc ns hσ hφ hRL hG hP hD hS hl hc1 hc2 hr0 hih
  have hrs : ∀ q ∈ lJ295_10.2.2.2, vl σ q.2 (ev σ q.2) := by
    have hs := cr295_10
    cases q : rkLo lJ295_10.2.1.1.1 lJ295_10.2.1.1.2.2.1 lJ295_10.2.2.2 with
    | none => rw [q] at hs; cases hs
    | some z => exact (rkLo_ok hG.1.1 hG.1.2.2.1 q).2
  have hbl' := hbl
  have hbl' := hbl
  have hbl : σ.length = 205 := by
    rw [← P2.len hG.1.1]
    exact lbs_len
  obtain ⟨f, g, x, r1, r2, r3, r4, r5⟩ := id hRL
  have hx0 : 0 ≤ x ∧ x ≤ 1000 := by
    obtain ⟨z, z1, z2⟩ := P2.get hG.1.1 lbs_3
    rw [r3] at z1
    cases z1
    exact z2
  have htd : σ[145]? = some x := by
    obtain ⟨a1, b1, p1, p2, p3⟩ := hG.1.2.2.1 (3, 145, 0) (by simp [lJ295_10])
    obtain ⟨a2, b2, s1, s2, s3⟩ := hG.1.2.2.1 (145, 3, 0) (by simp [lJ295_10])
    have p1' : σ[3]? = some a1 := p1
    have p2' : σ[145]? = some b1 := p2
    have s1' : σ[145]? = some a2 := s1
    have s2' : σ[3]? = some b2 := s2
    rw [r3] at p1' s2'
    cases p1'
    cases s2'
    rw [p2'] at s1'
    cases s1'
    have p3' : x ≤ b1 + 0 := p3
    have s3' : b1 ≤ x + 0 := s3
    have e : b1 = x := by omega
    rw [← e]
    exact p2'
  have hfg : fault g x.toNat = fault f x.toNat := (fault_c (fun j hj => r5 j (by omega))).symm
  have hlast : (σ ++ [(fault f x.toNat).toInt])[205]? = some (fault f x.toNat).toInt := by
    rw [List.getElem?_append_right (by omega), hbl]
    rfl
  have hxo : ∀ t ∈ [1, 2], xal (owC lJ295_10.2.1).1 t = true → XPo t (xp t (owC lJ295_10.2.1).2) (σ ++ [(fault f x.toNat).toInt]) φ := by
    refine all_cons (fun _ => ?_) (all_cons (fun _ => ?_) all_nil)
    · show XPo 1 (xp 1 (extA lJ295_10.2.1).1) _ _
      rw [x1C_10]
      exact ⟨[x, (fault f x.toNat).toInt], [f], ⟨⟨x, gapp r3, (Int.add_zero _).symm⟩, ⟨_, hlast, (Int.add_zero _).symm⟩, trivial⟩, ⟨r1, trivial⟩, hx0.1, hx0.2, rfl, fun _ => r4⟩
    · show XPo 2 (xp 2 (extA lJ295_10.2.1).1) _ _
      rw [x2C_10]
      exact ⟨[x, (fault f x.toNat).toInt], [g], ⟨⟨x, gapp htd, (Int.add_zero _).symm⟩, ⟨_, hlast, (Int.add_zero _).symm⟩, trivial⟩, ⟨r2, trivial⟩, hx0.1, hx0.2, by rw [hfg], fun e => absurd e (by decide)⟩
  have hpx : pfx [0, (L : Int)] (σ ++ [(fault f x.toNat).toInt]) := by
    obtain ⟨τ, rfl⟩ := hσ
    exact ⟨τ ++ _, by rw [List.append_assoc]⟩
  have hσ1 : (σ ++ [(fault f x.toNat).toInt])[1]? = some (L : Int) := by
    obtain ⟨τ, rfl⟩ := hσ
    rfl
  have hRL' : RLx (σ ++ [(fault f x.toNat).toInt]) φ := by
    have h := hRL.app (τ := [(fault f x.toNat).toInt]) (ψ := [])
    rw [List.append_nil] at h
    exact h
  have hrk : rkv (σ ++ [(fault f x.toNat).toInt]) lJ295_10.2.2 = rkv σ lJ295_10.2.2 := by
    have h8 := rks_pfx (σ := σ ++ [(fault f x.toNat).toInt]) ⟨_, rfl⟩ hrs
    unfold rkv
    rw [h8]
  have hrs' : ∀ q ∈ lJ295_10.2.2.2, vl (σ ++ [(fault f x.toNat).toInt]) q.2 (ev (σ ++ [(fault f x.toNat).toInt]) q.2) := fun q hq => by
    have h := (hrs q hq).app (τ := [(fault f x.toNat).toInt])
    rw [ev_vl h]
    exact h
  have h := runL_ok (σ0 := σ ++ [(fault f x.toNat).toInt]) (φ0 := φ) (nc := nc) (ns := ns) (kc := 1) (ks := 6) (C := C) (S := S) (e := e) (R := room_1) (below := below) (meth := meth) (Q := Q) (ω := []) (σp := [0, (L : Int)]) (φp := []) hX0 hF0 hX hbl' hbA had (Nat.lt_of_le_of_lt hL (by decide)) hσ1 hxo hK hcode hCT hcons ⟨by decide, by decide⟩ ⟨by omega, by omega⟩ (by decide) (by decide) hpx hφ (by rw [hrk]; exact hih) hrs' hRL' (by rw [hrk]; exact hc1) (by rw [hrk]; exact hc2) 4000 (extA lJ295_10.2.1) lJ295_10.1 hckC
  exact h (σ ++ [(fault f x.toNat).toInt]) φ ws lv stk H locs ls ⟨[], (List.append_nil _).symm⟩ ⟨[], (List.append_nil _).symm⟩ (GS_ext (fault f x.toNat) hG) hP hD hS hl
set_option maxRecDepth 100000 in
theorem x1C_11 : xp 1 (extA lJ295_11.2.1).1 = some ([(3, 0), (205, 0)], [0]) := by decide +kernel
set_option maxRecDepth 100000 in
theorem x2C_11 : xp 2 (extA lJ295_11.2.1).1 = some ([(145, 0), (205, 0)], [181]) := by decide +kernel
theorem cr295_11 : (rkLo lJ295_11.2.1.1.1 lJ295_11.2.1.1.2.2.1 lJ295_11.2.2.2).isSome = true := by decide +kernel
set_option maxHeartbeats 4000000 in
set_option maxRecDepth 100000 in
theorem m295_11 (l : Launch) {p : Program} {e : Env} {s : State} {m : MethodId} {below : List Frame} {meth : Method} {c : Code} {Q : State → Prop} {b L : Nat} {xs : Nat → Int32} {args : Array Value} {D : va_G} {cy : Nat → ClassId} {A : Nat → Prop} {w0 : Cond} (hX0 : CTX p s m args c code 7 RL w0 D cy A) (hX : va_X b L xs s s.heap) (hbl : b < s.heap.size) (hbA : ¬ A b) (hL : L ≤ 3584) {ad : Nat → Nat} (had : ad 40000 = b) {C S : Int} (hCR : C + 1 ≤ (room_1.cells : Int) ∧ S + 6 ≤ (room_1.slots : Int)) {K : KT} {cd : List (Nat × Instr × Nat)} {CT : CTT} {cons : List Con} (hF0 : SF ad A s) (hK : KOK RL K) (hcode : ∀ q ∈ cd, decode code q.1 = .ok (q.2.1, q.2.2)) (hCT : ∀ q ∈ CT, COK MT RL q) (hcons : ∀ con ∈ cons, ConOK MT l con) (hckC : runL MT (owC lJ295_11.2.1) 7 0 2 0 11 279 K cd CT cons (lauto ++ lman) (some lJ295_11.2.2) 4000 (extA lJ295_11.2.1) lJ295_11.1 = true) : ∀ (σ : List Int) (φ : List (Nat → Int32)) (ws : va_W) (lv : List (Nat × Value)) (stk : List Value) (H : Heap) (locs : List Loc) (ls : Array Slot) (nc ns : Nat), pfx [0, (L : Int)] σ → pfx [] φ → RLx σ φ → GS cy [] ad lJ295_11.2.1 σ φ ws lv stk → va_P D vwCl ws H → va_D A ws → va_S A s.heap H locs → lv_has ls 7 lv → (nc : Int) + 1 * rkv σ lJ295_11.2.2 ≤ C → (ns : Int) + 6 * rkv σ lJ295_11.2.2 ≤ S → 0 ≤ rkv σ lJ295_11.2.2 → (∀ J' ∈ lauto ++ lman, InvL (fun nc ns => Wc nc ns p l e room_1 s m args below meth c Q) 1 6 C S D cy A s.heap 7 [] ad [0, (L : Int)] [] J' (rkv σ lJ295_11.2.2)) → Wc nc ns p l e room_1 s m args below meth c Q H locs lJ295_11.1 ls stk := by
  intro σ φ ws lv stk H locs ls nc ns hσ hφ hRL hG hP hD hS hl hc1 hc2 hr0 hih
  have hrs : ∀ q ∈ lJ295_11.2.2.2, vl σ q.2 (ev σ q.2) := by
    have hs := cr295_11
    cases q : rkLo lJ295_11.2.1.1.1 lJ295_11.2.1.1.2.2.1 lJ295_11.2.2.2 with
    | none => rw [q] at hs; cases hs
    | some z => exact (rkLo_ok hG.1.1 hG.1.2.2.1 q).2
  have hbl' := hbl
  have hbl : σ.length = 205 := by
    rw [← P2.len hG.1.1]
    exact lbs_len
  obtain ⟨f, g, x, r1, r2, r3, r4, r5⟩ := id hRL
  have hx0 : 0 ≤ x ∧ x ≤ 1000 := by
    obtain ⟨z, z1, z2⟩ := P2.get hG.1.1 lbs_3
    rw [r3] at z1
    cases z1
    exact z2
  have htd : σ[145]? = some x := by
    obtain ⟨a1, b1, p1, p2, p3⟩ := hG.1.2.2.1 (3, 145, 0) (by simp [lJ295_11])
    obtain ⟨a2, b2, s1, s2, s3⟩ := hG.1.2.2.1 (145, 3, 0) (by simp [lJ295_11])
    have p1' : σ[3]? = some a1 := p1
    have p2' : σ[145]? = some b1 := p2
    have s1' : σ[145]? = some a2 := s1
    have s2' : σ[3]? = some b2 := s2
    rw [r3] at p1' s2'
    cases p1'
    cases s2'
    rw [p2'] at s1'
    cases s1'
    have p3' : x ≤ b1 + 0 := p3
    have s3' : b1 ≤ x + 0 := s3
    have e : b1 = x := by omega
    rw [← e]
    exact p2'
  have hfg : fault g x.toNat = fault f x.toNat := (fault_c (fun j hj => r5 j (by omega))).symm
  have hlast : (σ ++ [(fault f x.toNat).toInt])[205]? = some (fault f x.toNat).toInt := by
    rw [List.getElem?_append_right (by omega), hbl]
    rfl
  have hxo : ∀ t ∈ [1, 2], xal (owC lJ295_11.2.1).1 t = true → XPo t (xp t (owC lJ295_11.2.1).2) (σ ++ [(fault f x.toNat).toInt]) φ := by
    refine all_cons (fun _ => ?_) (all_cons (fun _ => ?_) all_nil)
    · show XPo 1 (xp 1 (extA lJ295_11.2.1).1) _ _
      rw [x1C_11]
      exact ⟨[x, (fault f x.toNat).toInt], [f], ⟨⟨x, gapp r3, (Int.add_zero _).symm⟩, ⟨_, hlast, (Int.add_zero _).symm⟩, trivial⟩, ⟨r1, trivial⟩, hx0.1, hx0.2, rfl, fun _ => r4⟩
    · show XPo 2 (xp 2 (extA lJ295_11.2.1).1) _ _
      rw [x2C_11]
      exact ⟨[x, (fault f x.toNat).toInt], [g], ⟨⟨x, gapp htd, (Int.add_zero _).symm⟩, ⟨_, hlast, (Int.add_zero _).symm⟩, trivial⟩, ⟨r2, trivial⟩, hx0.1, hx0.2, by rw [hfg], fun e => absurd e (by decide)⟩
  have hpx : pfx [0, (L : Int)] (σ ++ [(fault f x.toNat).toInt]) := by
    obtain ⟨τ, rfl⟩ := hσ
    exact ⟨τ ++ _, by rw [List.append_assoc]⟩
  have hσ1 : (σ ++ [(fault f x.toNat).toInt])[1]? = some (L : Int) := by
    obtain ⟨τ, rfl⟩ := hσ
    rfl
  have hRL' : RLx (σ ++ [(fault f x.toNat).toInt]) φ := by
    have h := hRL.app (τ := [(fault f x.toNat).toInt]) (ψ := [])
    rw [List.append_nil] at h
    exact h
  have hrk : rkv (σ ++ [(fault f x.toNat).toInt]) lJ295_11.2.2 = rkv σ lJ295_11.2.2 := by
    have h8 := rks_pfx (σ := σ ++ [(fault f x.toNat).toInt]) ⟨_, rfl⟩ hrs
    unfold rkv
    rw [h8]
  have hrs' : ∀ q ∈ lJ295_11.2.2.2, vl (σ ++ [(fault f x.toNat).toInt]) q.2 (ev (σ ++ [(fault f x.toNat).toInt]) q.2) := fun q hq => by
    have h := (hrs q hq).app (τ := [(fault f x.toNat).toInt])
    rw [ev_vl h]
    exact h
  have h := runL_ok (σ0 := σ ++ [(fault f x.toNat).toInt]) (φ0 := φ) (nc := nc) (ns := ns) (kc := 1) (ks := 6) (C := C) (S := S) (e := e) (R := room_1) (below := below) (meth := meth) (Q := Q) (ω := []) (σp := [0, (L : Int)]) (φp := []) hX0 hF0 hX hbl' hbA had (Nat.lt_of_le_of_lt hL (by decide)) hσ1 hxo hK hcode hCT hcons ⟨by decide, by decide⟩ ⟨by omega, by omega⟩ (by decide) (by decide) hpx hφ (by rw [hrk]; exact hih) hrs' hRL' (by rw [hrk]; exact hc1) (by rw [hrk]; exact hc2) 4000 (extA lJ295_11.2.1) lJ295_11.1 hckC
  exact h (σ ++ [(fault f x.toNat).toInt]) φ ws lv stk H locs ls ⟨[], (List.append_nil _).symm⟩ ⟨[], (List.append_nil _).symm⟩ (GS_ext (fault f x.toNat) hG) hP hD hS hl
/-- the cuts by hand, all of them; the end of the law is a premise -/
theorem hman_all (l : Launch) {p : Program} {e : Env} {s : State} {m : MethodId} {below : List Frame} {meth : Method} {c : Code} {Q : State → Prop} {b L : Nat} {xs : Nat → Int32} {args : Array Value} (hlt : l.stackTraces = false) {D : va_G} {cy : Nat → ClassId} {A : Nat → Prop} {w0 : Cond} (hX0 : CTX p s m args c code 7 RL w0 D cy A) (hX : va_X b L xs s s.heap) (hbl : b < s.heap.size) (hbA : ¬ A b) (hL : L ≤ 3584) (hZ : zx A s) {ad : Nat → Nat} (had : ad 40000 = b) {C S : Int} (hCR : C + 1 ≤ (room_1.cells : Int) ∧ S + 6 ≤ (room_1.slots : Int)) {K : KT} {cd : List (Nat × Instr × Nat)} {CT : CTT} {cons : List Con} (hF0 : SF ad A s) (hK : KOK RL K) (hcode : ∀ q ∈ cd, decode code q.1 = .ok (q.2.1, q.2.2)) (hCT : ∀ q ∈ CT, COK MT RL q) (hcons : ∀ con ∈ cons, ConOK MT l con) (hckC_00 : runL MT (owC lJ295_00.2.1) 7 0 2 0 11 279 K cd CT cons (lauto ++ lman) (some lJ295_00.2.2) 4000 (extA lJ295_00.2.1) lJ295_00.1 = true) (hckC_01 : runL MT (owC lJ295_01.2.1) 7 0 2 0 11 279 K cd CT cons (lauto ++ lman) (some lJ295_01.2.2) 4000 (extA lJ295_01.2.1) lJ295_01.1 = true) (hckC_10 : runL MT (owC lJ295_10.2.1) 7 0 2 0 11 279 K cd CT cons (lauto ++ lman) (some lJ295_10.2.2) 4000 (extA lJ295_10.2.1) lJ295_10.1 = true) (hckC_11 : runL MT (owC lJ295_11.2.1) 7 0 2 0 11 279 K cd CT cons (lauto ++ lman) (some lJ295_11.2.2) 4000 (extA lJ295_11.2.1) lJ295_11.1 = true) (hend : ∀ (H : Heap) (locs : List Loc) (ls : Array Slot) (nc ns : Nat), va_S A s.heap H locs → (nc : Int) ≤ C → (ns : Int) ≤ S → Wc nc ns p l e room_1 s m args below meth c Q H locs 1070 ls []) : ∀ J ∈ lman, ∀ (σ : List Int) (φ : List (Nat → Int32)) (ws : va_W) (lv : List (Nat × Value)) (stk : List Value) (H : Heap) (locs : List Loc) (ls : Array Slot) (nc ns : Nat), pfx [0, (L : Int)] σ → pfx [] φ → RLx σ φ → GS cy [] ad J.2.1 σ φ ws lv stk → va_P D vwCl ws H → va_D A ws → va_S A s.heap H locs → lv_has ls 7 lv → (nc : Int) + 1 * rkv σ J.2.2 ≤ C → (ns : Int) + 6 * rkv σ J.2.2 ≤ S → 0 ≤ rkv σ J.2.2 → (∀ J' ∈ lauto ++ lman, InvL (fun nc ns => Wc nc ns p l e room_1 s m args below meth c Q) 1 6 C S D cy A s.heap 7 [] ad [0, (L : Int)] [] J' (rkv σ J.2.2)) → Wc nc ns p l e room_1 s m args below meth c Q H locs J.1 ls stk := by
  have h98 : ∀ (J : Inv), J.1 = 1070 → J.2.1.2.2 = [] → ∀ (σ : List Int) (φ : List (Nat → Int32)) (ws : va_W) (lv : List (Nat × Value)) (stk : List Value) (H : Heap) (locs : List Loc) (ls : Array Slot) (nc ns : Nat), pfx [0, (L : Int)] σ → pfx [] φ → RLx σ φ → GS cy [] ad J.2.1 σ φ ws lv stk → va_P D vwCl ws H → va_D A ws → va_S A s.heap H locs → lv_has ls 7 lv → (nc : Int) + 1 * rkv σ J.2.2 ≤ C → (ns : Int) + 6 * rkv σ J.2.2 ≤ S → 0 ≤ rkv σ J.2.2 → (∀ J' ∈ lauto ++ lman, InvL (fun nc ns => Wc nc ns p l e room_1 s m args below meth c Q) 1 6 C S D cy A s.heap 7 [] ad [0, (L : Int)] [] J' (rkv σ J.2.2)) → Wc nc ns p l e room_1 s m args below meth c Q H locs J.1 ls stk := by
    intro J hJ1 hJ2 σ φ ws lv stk H locs ls nc ns hσ hφ hRL hG hP hD hS hl hc1 hc2 hr0 hih
    have hstk : stk = [] := by
      have := hG.2.2
      rw [hJ2] at this
      exact P2.nil_inv this
    rw [hstk, hJ1]
    exact hend H locs ls nc ns hS (by omega) (by omega)
  refine all_cons (m148_00 l hX0 hX hbl hbA hL had hCR) (all_cons (m148_01 l hX0 hX hbl hbA hL had hCR) (all_cons (m148_10 l hX0 hX hbl hbA hL had hCR) (all_cons (m148_11 l hX0 hX hbl hbA hL had hCR) (all_cons (m295_00 l hX0 hX hbl hbA hL had hCR hF0 hK hcode hCT hcons hckC_00) (all_cons (m295_01 l hX0 hX hbl hbA hL had hCR hF0 hK hcode hCT hcons hckC_01) (all_cons (m295_10 l hX0 hX hbl hbA hL had hCR hF0 hK hcode hCT hcons hckC_10) (all_cons (m295_11 l hX0 hX hbl hbA hL had hCR hF0 hK hcode hCT hcons hckC_11) (all_cons (m885_00 l hlt hX0 hX hbl hbA hL hZ had hCR) (all_cons (m885_01 l hlt hX0 hX hbl hbA hL hZ had hCR) (all_cons (m885_10 l hlt hX0 hX hbl hbA hL hZ had hCR) (all_cons (m885_11 l hlt hX0 hX hbl hbA hL hZ had hCR) (all_cons (h98 lJ1070_00 rfl rfl) (all_cons (h98 lJ1070_01 rfl rfl) (all_cons (h98 lJ1070_10 rfl rfl) (all_cons (h98 lJ1070_11 rfl rfl) all_nil)))))))))))))))
