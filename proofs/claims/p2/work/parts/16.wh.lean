/-! the cuts by hand, and the whole loop -/
section GO2
variable {D : va_G} {cy : Nat → ClassId} {A : Nat → Prop} {nL : Nat} {ω : List Value} {ad : Nat → Nat} {σ0 : List Int} {φ0 : List (Nat → Int32)} {pc nc ns : Nat} {kc ks C S : Int} {σp : List Int} {φp : List (Nat → Int32)}
theorem q_goA_ok2 {Wp : Nat → Nat → Heap → List Loc → Nat → Array Slot → List Value → Prop} {H0 : Heap} {invs : List Inv} {r : RK} {f : AS → Nat → Bool} {b : AS} (hkc : 0 ≤ kc) (hks : 0 ≤ ks) (hp : pfx σp σ0) (hpf : pfx φp φ0) (hinv : ∀ J ∈ invs, InvL Wp kc ks C S D cy A H0 nL ω ad σp φp J (rkv σ0 r)) (hrs : ∀ q ∈ r.2, vl σ0 q.2 (ev σ0 q.2)) (hc1 : (nc : Int) + kc * (rkv σ0 r - 1) ≤ C) (hc2 : (ns : Int) + ks * (rkv σ0 r - 1) ≤ S) (h : goA σp.length φp.length ω.length invs (some r) f b pc = true) (hf : f b pc = true → OkA (Wp nc ns) D cy A H0 nL ω ad σ0 φ0 b pc) : OkA (Wp nc ns) D cy A H0 nL ω ad σ0 φ0 b pc := by
  rcases goA_inv h with ⟨J, hJ, h2', μ, ν, h3, h4⟩ | h
  · intro σ φ ws lv stk H locs ls hσ hφ hG hP hD hS hl
    have q1 : pfx σp σ := pfx.trans hp hσ
    have q2 : pfx φp φ := pfx.trans hpf hφ
    obtain ⟨lv', g1, g2, g3, g4⟩ := cut_ok h3 hG hl q1 q2
    rw [← h2']
    have hlt : rkv (μ.map (ev σ)) J.2.2 < rkv σ0 r := by
      unfold goDown at h4
      dsimp only at h4
      split at h4
      · rename_i us q3
        split at h4
        · rename_i z q4
          have h5 : 1 ≤ r.1 - J.2.2.1 + z := by simpa using h4
          have h6 := dlt_ok hG.1.1 hG.1.2.2.1 q4
          have h7 := trR_ok (σ := σ) q3
          have h8 := rks_pfx hσ hrs
          unfold rkv
          rw [h7, ← h8]
          omega
        · cases h4
      · cases h4
    have m1 := Int.mul_le_mul_of_nonneg_left (Int.le_sub_one_of_lt hlt) hkc
    have m2 := Int.mul_le_mul_of_nonneg_left (Int.le_sub_one_of_lt hlt) hks
    exact hinv J hJ _ _ ws lv' stk H locs ls nc ns g3 g4 g1 hP hD hS g2 hlt (by omega) (by omega)
  · exact hf h
end GO2
def fsF (cl : List AC) : List AV := ((cl[198]?).bind (fun (c : AC) => match c with
  | .inl (_, _ :: _ :: _ :: fs) => some fs
  | _ => none)).getD []
def fsOf (cl : List AC) : List AV := ((cl[198]?).bind (fun (c : AC) => match c with
  | .inl (_, _ :: fs) => some fs
  | _ => none)).getD []
set_option maxRecDepth 100000 in
theorem ck885_00 : goA 2 0 0 (lauto ++ lman) (some lJ885_00.2.2) (fun _ _ => false) (aft lcl_00 (fsOf lcl_00)) 1064 = true := by decide +kernel
set_option maxRecDepth 100000 in
theorem cc885_00 : lcl_00.length = 247 ∧ lcl_00[0]? = some (co 11 [vr 1, vr 3, vr 4, vr 25, vr 46, vr 50, vr 54, vr 58, vr 62, vi 98 0, vi 99 0, vr 127, vr 168, vr 171, vr 189, vr 194, vr 197]) ∧ lcl_00[197]? = some (ca 1 25 143) ∧ lcl_00[198]? = some (co 12 (vi 144 0 :: fsOf lcl_00)) ∧ lcl_00[246]? = some (cj 1) := ⟨rfl, rfl, rfl, rfl, rfl⟩
theorem cr885_00 : (rkLo lJ885_00.2.1.1.1 lJ885_00.2.1.1.2.2.1 lJ885_00.2.2.2).isSome = true := by decide +kernel
set_option maxRecDepth 100000 in
theorem m885_00 (l : Launch) {p : Program} {e : Env} {s : State} {m : MethodId} {below : List Frame} {meth : Method} {c : Code} {Q : State → Prop} {b L : Nat} {xs : Nat → Int32} {args : Array Value} (hlt : l.stackTraces = false) {D : va_G} {cy : Nat → ClassId} {A : Nat → Prop} {w0 : Cond} (hX0 : CTX p s m args c code 7 RL w0 D cy A) (hX : va_X b L xs s s.heap) (hbl : b < s.heap.size) (hbA : ¬ A b) (hL : L ≤ 3584) (hZ : zx A s) {ad : Nat → Nat} (had : ad 40000 = b) {C S : Int} (hCR : C + 1 ≤ (room_1.cells : Int) ∧ S + 6 ≤ (room_1.slots : Int)) : ∀ (σ : List Int) (φ : List (Nat → Int32)) (ws : va_W) (lv : List (Nat × Value)) (stk : List Value) (H : Heap) (locs : List Loc) (ls : Array Slot) (nc ns : Nat), pfx [0, (L : Int)] σ → pfx [] φ → GS cy [] ad lJ885_00.2.1 σ φ ws lv stk → va_P D vwCl ws H → va_D A ws → va_S A s.heap H locs → lv_has ls 7 lv → (nc : Int) + 1 * rkv σ lJ885_00.2.2 ≤ C → (ns : Int) + 6 * rkv σ lJ885_00.2.2 ≤ S → 0 ≤ rkv σ lJ885_00.2.2 → (∀ J' ∈ lauto ++ lman, InvL (fun nc ns => Wc nc ns p l e room_1 s m args below meth c Q) 1 6 C S D cy A s.heap 7 [] ad [0, (L : Int)] [] J' (rkv σ lJ885_00.2.2)) → Wc nc ns p l e room_1 s m args below meth c Q H locs lJ885_00.1 ls stk := by
  intro σ φ ws lv stk H locs ls nc ns hσ hφ hG hP hD hS hl hc1 hc2 hr0 hih
  obtain ⟨hl0, h0, h1, h2, h3⟩ := cc885_00
  have hrs : ∀ q ∈ lJ885_00.2.2.2, vl σ q.2 (ev σ q.2) := by
    have hs := cr885_00
    cases q : rkLo lJ885_00.2.1.1.1 lJ885_00.2.1.1.2.2.1 lJ885_00.2.2.2 with
    | none => rw [q] at hs; cases hs
    | some z => exact (rkLo_ok hG.1.1 hG.1.2.2.1 q).2
  refine man885 l hlt hX0 hX hbl hbA hL hZ had hl0 h0 h1 h2 h3 hσ hG hP hD hS hl ⟨by omega, by omega⟩ ?_
  have b1 : ((nc + 1 : Nat) : Int) + 1 * (rkv σ lJ885_00.2.2 - 1) ≤ C := by omega
  have b2 : ((ns + 6 : Nat) : Int) + 6 * (rkv σ lJ885_00.2.2 - 1) ≤ S := by omega
  exact q_goA_ok2 (nc := nc + 1) (ns := ns + 6) (Wp := fun nc ns => Wc nc ns p l e room_1 s m args below meth c Q) (kc := 1) (ks := 6) (by decide) (by decide) hσ hφ hih hrs b1 b2 ck885_00 (fun h => by cases h)
set_option maxRecDepth 100000 in
theorem ck885_01 : goA 2 0 0 (lauto ++ lman) (some lJ885_01.2.2) (fun _ _ => false) (aft lcl_01 (fsOf lcl_01)) 1064 = true := by decide +kernel
set_option maxRecDepth 100000 in
theorem cc885_01 : lcl_01.length = 247 ∧ lcl_01[0]? = some (co 11 [vr 1, vr 3, vr 4, vr 25, vr 50, vr 46, vr 54, vr 58, vr 62, vi 98 0, vi 99 0, vr 127, vr 168, vr 171, vr 189, vr 194, vr 197]) ∧ lcl_01[197]? = some (ca 1 25 143) ∧ lcl_01[198]? = some (co 12 (vi 144 0 :: fsOf lcl_01)) ∧ lcl_01[246]? = some (cj 1) := ⟨rfl, rfl, rfl, rfl, rfl⟩
theorem cr885_01 : (rkLo lJ885_01.2.1.1.1 lJ885_01.2.1.1.2.2.1 lJ885_01.2.2.2).isSome = true := by decide +kernel
set_option maxRecDepth 100000 in
theorem m885_01 (l : Launch) {p : Program} {e : Env} {s : State} {m : MethodId} {below : List Frame} {meth : Method} {c : Code} {Q : State → Prop} {b L : Nat} {xs : Nat → Int32} {args : Array Value} (hlt : l.stackTraces = false) {D : va_G} {cy : Nat → ClassId} {A : Nat → Prop} {w0 : Cond} (hX0 : CTX p s m args c code 7 RL w0 D cy A) (hX : va_X b L xs s s.heap) (hbl : b < s.heap.size) (hbA : ¬ A b) (hL : L ≤ 3584) (hZ : zx A s) {ad : Nat → Nat} (had : ad 40000 = b) {C S : Int} (hCR : C + 1 ≤ (room_1.cells : Int) ∧ S + 6 ≤ (room_1.slots : Int)) : ∀ (σ : List Int) (φ : List (Nat → Int32)) (ws : va_W) (lv : List (Nat × Value)) (stk : List Value) (H : Heap) (locs : List Loc) (ls : Array Slot) (nc ns : Nat), pfx [0, (L : Int)] σ → pfx [] φ → GS cy [] ad lJ885_01.2.1 σ φ ws lv stk → va_P D vwCl ws H → va_D A ws → va_S A s.heap H locs → lv_has ls 7 lv → (nc : Int) + 1 * rkv σ lJ885_01.2.2 ≤ C → (ns : Int) + 6 * rkv σ lJ885_01.2.2 ≤ S → 0 ≤ rkv σ lJ885_01.2.2 → (∀ J' ∈ lauto ++ lman, InvL (fun nc ns => Wc nc ns p l e room_1 s m args below meth c Q) 1 6 C S D cy A s.heap 7 [] ad [0, (L : Int)] [] J' (rkv σ lJ885_01.2.2)) → Wc nc ns p l e room_1 s m args below meth c Q H locs lJ885_01.1 ls stk := by
  intro σ φ ws lv stk H locs ls nc ns hσ hφ hG hP hD hS hl hc1 hc2 hr0 hih
  obtain ⟨hl0, h0, h1, h2, h3⟩ := cc885_01
  have hrs : ∀ q ∈ lJ885_01.2.2.2, vl σ q.2 (ev σ q.2) := by
    have hs := cr885_01
    cases q : rkLo lJ885_01.2.1.1.1 lJ885_01.2.1.1.2.2.1 lJ885_01.2.2.2 with
    | none => rw [q] at hs; cases hs
    | some z => exact (rkLo_ok hG.1.1 hG.1.2.2.1 q).2
  refine man885 l hlt hX0 hX hbl hbA hL hZ had hl0 h0 h1 h2 h3 hσ hG hP hD hS hl ⟨by omega, by omega⟩ ?_
  have b1 : ((nc + 1 : Nat) : Int) + 1 * (rkv σ lJ885_01.2.2 - 1) ≤ C := by omega
  have b2 : ((ns + 6 : Nat) : Int) + 6 * (rkv σ lJ885_01.2.2 - 1) ≤ S := by omega
  exact q_goA_ok2 (nc := nc + 1) (ns := ns + 6) (Wp := fun nc ns => Wc nc ns p l e room_1 s m args below meth c Q) (kc := 1) (ks := 6) (by decide) (by decide) hσ hφ hih hrs b1 b2 ck885_01 (fun h => by cases h)
set_option maxRecDepth 100000 in
theorem ck885_10 : goA 2 0 0 (lauto ++ lman) (some lJ885_10.2.2) (fun _ _ => false) (aft lcl_10 (fsOf lcl_10)) 1064 = true := by decide +kernel
set_option maxRecDepth 100000 in
theorem cc885_10 : lcl_10.length = 247 ∧ lcl_10[0]? = some (co 11 [vr 1, vr 3, vr 25, vr 4, vr 46, vr 50, vr 54, vr 58, vr 62, vi 98 0, vi 99 0, vr 127, vr 168, vr 171, vr 189, vr 194, vr 197]) ∧ lcl_10[197]? = some (ca 1 25 143) ∧ lcl_10[198]? = some (co 12 (vi 144 0 :: fsOf lcl_10)) ∧ lcl_10[246]? = some (cj 1) := ⟨rfl, rfl, rfl, rfl, rfl⟩
theorem cr885_10 : (rkLo lJ885_10.2.1.1.1 lJ885_10.2.1.1.2.2.1 lJ885_10.2.2.2).isSome = true := by decide +kernel
set_option maxRecDepth 100000 in
theorem m885_10 (l : Launch) {p : Program} {e : Env} {s : State} {m : MethodId} {below : List Frame} {meth : Method} {c : Code} {Q : State → Prop} {b L : Nat} {xs : Nat → Int32} {args : Array Value} (hlt : l.stackTraces = false) {D : va_G} {cy : Nat → ClassId} {A : Nat → Prop} {w0 : Cond} (hX0 : CTX p s m args c code 7 RL w0 D cy A) (hX : va_X b L xs s s.heap) (hbl : b < s.heap.size) (hbA : ¬ A b) (hL : L ≤ 3584) (hZ : zx A s) {ad : Nat → Nat} (had : ad 40000 = b) {C S : Int} (hCR : C + 1 ≤ (room_1.cells : Int) ∧ S + 6 ≤ (room_1.slots : Int)) : ∀ (σ : List Int) (φ : List (Nat → Int32)) (ws : va_W) (lv : List (Nat × Value)) (stk : List Value) (H : Heap) (locs : List Loc) (ls : Array Slot) (nc ns : Nat), pfx [0, (L : Int)] σ → pfx [] φ → GS cy [] ad lJ885_10.2.1 σ φ ws lv stk → va_P D vwCl ws H → va_D A ws → va_S A s.heap H locs → lv_has ls 7 lv → (nc : Int) + 1 * rkv σ lJ885_10.2.2 ≤ C → (ns : Int) + 6 * rkv σ lJ885_10.2.2 ≤ S → 0 ≤ rkv σ lJ885_10.2.2 → (∀ J' ∈ lauto ++ lman, InvL (fun nc ns => Wc nc ns p l e room_1 s m args below meth c Q) 1 6 C S D cy A s.heap 7 [] ad [0, (L : Int)] [] J' (rkv σ lJ885_10.2.2)) → Wc nc ns p l e room_1 s m args below meth c Q H locs lJ885_10.1 ls stk := by
  intro σ φ ws lv stk H locs ls nc ns hσ hφ hG hP hD hS hl hc1 hc2 hr0 hih
  obtain ⟨hl0, h0, h1, h2, h3⟩ := cc885_10
  have hrs : ∀ q ∈ lJ885_10.2.2.2, vl σ q.2 (ev σ q.2) := by
    have hs := cr885_10
    cases q : rkLo lJ885_10.2.1.1.1 lJ885_10.2.1.1.2.2.1 lJ885_10.2.2.2 with
    | none => rw [q] at hs; cases hs
    | some z => exact (rkLo_ok hG.1.1 hG.1.2.2.1 q).2
  refine man885 l hlt hX0 hX hbl hbA hL hZ had hl0 h0 h1 h2 h3 hσ hG hP hD hS hl ⟨by omega, by omega⟩ ?_
  have b1 : ((nc + 1 : Nat) : Int) + 1 * (rkv σ lJ885_10.2.2 - 1) ≤ C := by omega
  have b2 : ((ns + 6 : Nat) : Int) + 6 * (rkv σ lJ885_10.2.2 - 1) ≤ S := by omega
  exact q_goA_ok2 (nc := nc + 1) (ns := ns + 6) (Wp := fun nc ns => Wc nc ns p l e room_1 s m args below meth c Q) (kc := 1) (ks := 6) (by decide) (by decide) hσ hφ hih hrs b1 b2 ck885_10 (fun h => by cases h)
set_option maxRecDepth 100000 in
theorem ck885_11 : goA 2 0 0 (lauto ++ lman) (some lJ885_11.2.2) (fun _ _ => false) (aft lcl_11 (fsOf lcl_11)) 1064 = true := by decide +kernel
set_option maxRecDepth 100000 in
theorem cc885_11 : lcl_11.length = 247 ∧ lcl_11[0]? = some (co 11 [vr 1, vr 3, vr 25, vr 4, vr 50, vr 46, vr 54, vr 58, vr 62, vi 98 0, vi 99 0, vr 127, vr 168, vr 171, vr 189, vr 194, vr 197]) ∧ lcl_11[197]? = some (ca 1 25 143) ∧ lcl_11[198]? = some (co 12 (vi 144 0 :: fsOf lcl_11)) ∧ lcl_11[246]? = some (cj 1) := ⟨rfl, rfl, rfl, rfl, rfl⟩
theorem cr885_11 : (rkLo lJ885_11.2.1.1.1 lJ885_11.2.1.1.2.2.1 lJ885_11.2.2.2).isSome = true := by decide +kernel
set_option maxRecDepth 100000 in
theorem m885_11 (l : Launch) {p : Program} {e : Env} {s : State} {m : MethodId} {below : List Frame} {meth : Method} {c : Code} {Q : State → Prop} {b L : Nat} {xs : Nat → Int32} {args : Array Value} (hlt : l.stackTraces = false) {D : va_G} {cy : Nat → ClassId} {A : Nat → Prop} {w0 : Cond} (hX0 : CTX p s m args c code 7 RL w0 D cy A) (hX : va_X b L xs s s.heap) (hbl : b < s.heap.size) (hbA : ¬ A b) (hL : L ≤ 3584) (hZ : zx A s) {ad : Nat → Nat} (had : ad 40000 = b) {C S : Int} (hCR : C + 1 ≤ (room_1.cells : Int) ∧ S + 6 ≤ (room_1.slots : Int)) : ∀ (σ : List Int) (φ : List (Nat → Int32)) (ws : va_W) (lv : List (Nat × Value)) (stk : List Value) (H : Heap) (locs : List Loc) (ls : Array Slot) (nc ns : Nat), pfx [0, (L : Int)] σ → pfx [] φ → GS cy [] ad lJ885_11.2.1 σ φ ws lv stk → va_P D vwCl ws H → va_D A ws → va_S A s.heap H locs → lv_has ls 7 lv → (nc : Int) + 1 * rkv σ lJ885_11.2.2 ≤ C → (ns : Int) + 6 * rkv σ lJ885_11.2.2 ≤ S → 0 ≤ rkv σ lJ885_11.2.2 → (∀ J' ∈ lauto ++ lman, InvL (fun nc ns => Wc nc ns p l e room_1 s m args below meth c Q) 1 6 C S D cy A s.heap 7 [] ad [0, (L : Int)] [] J' (rkv σ lJ885_11.2.2)) → Wc nc ns p l e room_1 s m args below meth c Q H locs lJ885_11.1 ls stk := by
  intro σ φ ws lv stk H locs ls nc ns hσ hφ hG hP hD hS hl hc1 hc2 hr0 hih
  obtain ⟨hl0, h0, h1, h2, h3⟩ := cc885_11
  have hrs : ∀ q ∈ lJ885_11.2.2.2, vl σ q.2 (ev σ q.2) := by
    have hs := cr885_11
    cases q : rkLo lJ885_11.2.1.1.1 lJ885_11.2.1.1.2.2.1 lJ885_11.2.2.2 with
    | none => rw [q] at hs; cases hs
    | some z => exact (rkLo_ok hG.1.1 hG.1.2.2.1 q).2
  refine man885 l hlt hX0 hX hbl hbA hL hZ had hl0 h0 h1 h2 h3 hσ hG hP hD hS hl ⟨by omega, by omega⟩ ?_
  have b1 : ((nc + 1 : Nat) : Int) + 1 * (rkv σ lJ885_11.2.2 - 1) ≤ C := by omega
  have b2 : ((ns + 6 : Nat) : Int) + 6 * (rkv σ lJ885_11.2.2 - 1) ≤ S := by omega
  exact q_goA_ok2 (nc := nc + 1) (ns := ns + 6) (Wp := fun nc ns => Wc nc ns p l e room_1 s m args below meth c Q) (kc := 1) (ks := 6) (by decide) (by decide) hσ hφ hih hrs b1 b2 ck885_11 (fun h => by cases h)
set_option maxRecDepth 100000 in
theorem ck148_00 : goA 2 0 0 (lauto ++ lman) (some lJ148_00.2.2) (fun _ _ => false) (aftF lcl_00 (fsF lcl_00)) 1064 = true := by decide +kernel
set_option maxRecDepth 100000 in
theorem cc148_00 : lcl_00.length = 247 ∧ lcl_00[0]? = some (co 11 [vr 1, vr 3, vr 4, vr 25, vr 46, vr 50, vr 54, vr 58, vr 62, vi 98 0, vi 99 0, vr 127, vr 168, vr 171, vr 189, vr 194, vr 197]) ∧ lcl_00[1]? = some (co 9 [vr 2, vi 3 0, vi 4 0, vi 5 0, vi 6 0, vi 7 0, vL 8 0, vi 9 0, vi 10 0]) ∧ lcl_00[2]? = some (ca 0 1000 0) ∧ lcl_00[198]? = some (co 12 (vi 144 0 :: vi 145 0 :: vr 199 :: fsF lcl_00)) ∧ lcl_00[199]? = some (crc 1000 [vi 146 0, vi 147 0]) := ⟨rfl, rfl, rfl, rfl, rfl, rfl⟩
theorem cr148_00 : (rkLo lJ148_00.2.1.1.1 lJ148_00.2.1.1.2.2.1 lJ148_00.2.2.2).isSome = true := by decide +kernel
set_option maxRecDepth 100000 in
theorem m148_00 (l : Launch) {p : Program} {e : Env} {s : State} {m : MethodId} {below : List Frame} {meth : Method} {c : Code} {Q : State → Prop} {b L : Nat} {xs : Nat → Int32} {args : Array Value} {D : va_G} {cy : Nat → ClassId} {A : Nat → Prop} {w0 : Cond} (hX0 : CTX p s m args c code 7 RL w0 D cy A) (hX : va_X b L xs s s.heap) (hbl : b < s.heap.size) (hbA : ¬ A b) (hL : L ≤ 3584) {ad : Nat → Nat} (had : ad 40000 = b) {C S : Int} (hCR : C + 1 ≤ (room_1.cells : Int) ∧ S + 6 ≤ (room_1.slots : Int)) : ∀ (σ : List Int) (φ : List (Nat → Int32)) (ws : va_W) (lv : List (Nat × Value)) (stk : List Value) (H : Heap) (locs : List Loc) (ls : Array Slot) (nc ns : Nat), pfx [0, (L : Int)] σ → pfx [] φ → GS cy [] ad lJ148_00.2.1 σ φ ws lv stk → va_P D vwCl ws H → va_D A ws → va_S A s.heap H locs → lv_has ls 7 lv → (nc : Int) + 1 * rkv σ lJ148_00.2.2 ≤ C → (ns : Int) + 6 * rkv σ lJ148_00.2.2 ≤ S → 0 ≤ rkv σ lJ148_00.2.2 → (∀ J' ∈ lauto ++ lman, InvL (fun nc ns => Wc nc ns p l e room_1 s m args below meth c Q) 1 6 C S D cy A s.heap 7 [] ad [0, (L : Int)] [] J' (rkv σ lJ148_00.2.2)) → Wc nc ns p l e room_1 s m args below meth c Q H locs lJ148_00.1 ls stk := by
  intro σ φ ws lv stk H locs ls nc ns hσ hφ hG hP hD hS hl hc1 hc2 hr0 hih
  obtain ⟨hl0, h0, h1, h2, h3, h4⟩ := cc148_00
  have hrs : ∀ q ∈ lJ148_00.2.2.2, vl σ q.2 (ev σ q.2) := by
    have hs := cr148_00
    cases q : rkLo lJ148_00.2.1.1.1 lJ148_00.2.1.1.2.2.1 lJ148_00.2.2.2 with
    | none => rw [q] at hs; cases hs
    | some z => exact (rkLo_ok hG.1.1 hG.1.2.2.1 q).2
  refine man148 l hX0 hX hbl hbA hL had hl0 h0 h1 h2 h3 h4 hσ hG hP hD hS hl ⟨by omega, by omega⟩ ?_
  have b1 : (nc : Int) + 1 * (rkv σ lJ148_00.2.2 - 1) ≤ C := by omega
  have b2 : (ns : Int) + 6 * (rkv σ lJ148_00.2.2 - 1) ≤ S := by omega
  exact q_goA_ok2 (nc := nc) (ns := ns) (Wp := fun nc ns => Wc nc ns p l e room_1 s m args below meth c Q) (kc := 1) (ks := 6) (by decide) (by decide) hσ hφ hih hrs b1 b2 ck148_00 (fun h => by cases h)
set_option maxRecDepth 100000 in
theorem ck148_01 : goA 2 0 0 (lauto ++ lman) (some lJ148_01.2.2) (fun _ _ => false) (aftF lcl_01 (fsF lcl_01)) 1064 = true := by decide +kernel
set_option maxRecDepth 100000 in
theorem cc148_01 : lcl_01.length = 247 ∧ lcl_01[0]? = some (co 11 [vr 1, vr 3, vr 4, vr 25, vr 50, vr 46, vr 54, vr 58, vr 62, vi 98 0, vi 99 0, vr 127, vr 168, vr 171, vr 189, vr 194, vr 197]) ∧ lcl_01[1]? = some (co 9 [vr 2, vi 3 0, vi 4 0, vi 5 0, vi 6 0, vi 7 0, vL 8 0, vi 9 0, vi 10 0]) ∧ lcl_01[2]? = some (ca 0 1000 0) ∧ lcl_01[198]? = some (co 12 (vi 144 0 :: vi 145 0 :: vr 199 :: fsF lcl_01)) ∧ lcl_01[199]? = some (crc 1000 [vi 146 0, vi 147 0]) := ⟨rfl, rfl, rfl, rfl, rfl, rfl⟩
theorem cr148_01 : (rkLo lJ148_01.2.1.1.1 lJ148_01.2.1.1.2.2.1 lJ148_01.2.2.2).isSome = true := by decide +kernel
set_option maxRecDepth 100000 in
theorem m148_01 (l : Launch) {p : Program} {e : Env} {s : State} {m : MethodId} {below : List Frame} {meth : Method} {c : Code} {Q : State → Prop} {b L : Nat} {xs : Nat → Int32} {args : Array Value} {D : va_G} {cy : Nat → ClassId} {A : Nat → Prop} {w0 : Cond} (hX0 : CTX p s m args c code 7 RL w0 D cy A) (hX : va_X b L xs s s.heap) (hbl : b < s.heap.size) (hbA : ¬ A b) (hL : L ≤ 3584) {ad : Nat → Nat} (had : ad 40000 = b) {C S : Int} (hCR : C + 1 ≤ (room_1.cells : Int) ∧ S + 6 ≤ (room_1.slots : Int)) : ∀ (σ : List Int) (φ : List (Nat → Int32)) (ws : va_W) (lv : List (Nat × Value)) (stk : List Value) (H : Heap) (locs : List Loc) (ls : Array Slot) (nc ns : Nat), pfx [0, (L : Int)] σ → pfx [] φ → GS cy [] ad lJ148_01.2.1 σ φ ws lv stk → va_P D vwCl ws H → va_D A ws → va_S A s.heap H locs → lv_has ls 7 lv → (nc : Int) + 1 * rkv σ lJ148_01.2.2 ≤ C → (ns : Int) + 6 * rkv σ lJ148_01.2.2 ≤ S → 0 ≤ rkv σ lJ148_01.2.2 → (∀ J' ∈ lauto ++ lman, InvL (fun nc ns => Wc nc ns p l e room_1 s m args below meth c Q) 1 6 C S D cy A s.heap 7 [] ad [0, (L : Int)] [] J' (rkv σ lJ148_01.2.2)) → Wc nc ns p l e room_1 s m args below meth c Q H locs lJ148_01.1 ls stk := by
  intro σ φ ws lv stk H locs ls nc ns hσ hφ hG hP hD hS hl hc1 hc2 hr0 hih
  obtain ⟨hl0, h0, h1, h2, h3, h4⟩ := cc148_01
  have hrs : ∀ q ∈ lJ148_01.2.2.2, vl σ q.2 (ev σ q.2) := by
    have hs := cr148_01
    cases q : rkLo lJ148_01.2.1.1.1 lJ148_01.2.1.1.2.2.1 lJ148_01.2.2.2 with
    | none => rw [q] at hs; cases hs
    | some z => exact (rkLo_ok hG.1.1 hG.1.2.2.1 q).2
  refine man148 l hX0 hX hbl hbA hL had hl0 h0 h1 h2 h3 h4 hσ hG hP hD hS hl ⟨by omega, by omega⟩ ?_
  have b1 : (nc : Int) + 1 * (rkv σ lJ148_01.2.2 - 1) ≤ C := by omega
  have b2 : (ns : Int) + 6 * (rkv σ lJ148_01.2.2 - 1) ≤ S := by omega
  exact q_goA_ok2 (nc := nc) (ns := ns) (Wp := fun nc ns => Wc nc ns p l e room_1 s m args below meth c Q) (kc := 1) (ks := 6) (by decide) (by decide) hσ hφ hih hrs b1 b2 ck148_01 (fun h => by cases h)
set_option maxRecDepth 100000 in
theorem ck148_10 : goA 2 0 0 (lauto ++ lman) (some lJ148_10.2.2) (fun _ _ => false) (aftF lcl_10 (fsF lcl_10)) 1064 = true := by decide +kernel
set_option maxRecDepth 100000 in
theorem cc148_10 : lcl_10.length = 247 ∧ lcl_10[0]? = some (co 11 [vr 1, vr 3, vr 25, vr 4, vr 46, vr 50, vr 54, vr 58, vr 62, vi 98 0, vi 99 0, vr 127, vr 168, vr 171, vr 189, vr 194, vr 197]) ∧ lcl_10[1]? = some (co 9 [vr 2, vi 3 0, vi 4 0, vi 5 0, vi 6 0, vi 7 0, vL 8 0, vi 9 0, vi 10 0]) ∧ lcl_10[2]? = some (ca 0 1000 0) ∧ lcl_10[198]? = some (co 12 (vi 144 0 :: vi 145 0 :: vr 199 :: fsF lcl_10)) ∧ lcl_10[199]? = some (crc 1000 [vi 146 0, vi 147 0]) := ⟨rfl, rfl, rfl, rfl, rfl, rfl⟩
theorem cr148_10 : (rkLo lJ148_10.2.1.1.1 lJ148_10.2.1.1.2.2.1 lJ148_10.2.2.2).isSome = true := by decide +kernel
set_option maxRecDepth 100000 in
theorem m148_10 (l : Launch) {p : Program} {e : Env} {s : State} {m : MethodId} {below : List Frame} {meth : Method} {c : Code} {Q : State → Prop} {b L : Nat} {xs : Nat → Int32} {args : Array Value} {D : va_G} {cy : Nat → ClassId} {A : Nat → Prop} {w0 : Cond} (hX0 : CTX p s m args c code 7 RL w0 D cy A) (hX : va_X b L xs s s.heap) (hbl : b < s.heap.size) (hbA : ¬ A b) (hL : L ≤ 3584) {ad : Nat → Nat} (had : ad 40000 = b) {C S : Int} (hCR : C + 1 ≤ (room_1.cells : Int) ∧ S + 6 ≤ (room_1.slots : Int)) : ∀ (σ : List Int) (φ : List (Nat → Int32)) (ws : va_W) (lv : List (Nat × Value)) (stk : List Value) (H : Heap) (locs : List Loc) (ls : Array Slot) (nc ns : Nat), pfx [0, (L : Int)] σ → pfx [] φ → GS cy [] ad lJ148_10.2.1 σ φ ws lv stk → va_P D vwCl ws H → va_D A ws → va_S A s.heap H locs → lv_has ls 7 lv → (nc : Int) + 1 * rkv σ lJ148_10.2.2 ≤ C → (ns : Int) + 6 * rkv σ lJ148_10.2.2 ≤ S → 0 ≤ rkv σ lJ148_10.2.2 → (∀ J' ∈ lauto ++ lman, InvL (fun nc ns => Wc nc ns p l e room_1 s m args below meth c Q) 1 6 C S D cy A s.heap 7 [] ad [0, (L : Int)] [] J' (rkv σ lJ148_10.2.2)) → Wc nc ns p l e room_1 s m args below meth c Q H locs lJ148_10.1 ls stk := by
  intro σ φ ws lv stk H locs ls nc ns hσ hφ hG hP hD hS hl hc1 hc2 hr0 hih
  obtain ⟨hl0, h0, h1, h2, h3, h4⟩ := cc148_10
  have hrs : ∀ q ∈ lJ148_10.2.2.2, vl σ q.2 (ev σ q.2) := by
    have hs := cr148_10
    cases q : rkLo lJ148_10.2.1.1.1 lJ148_10.2.1.1.2.2.1 lJ148_10.2.2.2 with
    | none => rw [q] at hs; cases hs
    | some z => exact (rkLo_ok hG.1.1 hG.1.2.2.1 q).2
  refine man148 l hX0 hX hbl hbA hL had hl0 h0 h1 h2 h3 h4 hσ hG hP hD hS hl ⟨by omega, by omega⟩ ?_
  have b1 : (nc : Int) + 1 * (rkv σ lJ148_10.2.2 - 1) ≤ C := by omega
  have b2 : (ns : Int) + 6 * (rkv σ lJ148_10.2.2 - 1) ≤ S := by omega
  exact q_goA_ok2 (nc := nc) (ns := ns) (Wp := fun nc ns => Wc nc ns p l e room_1 s m args below meth c Q) (kc := 1) (ks := 6) (by decide) (by decide) hσ hφ hih hrs b1 b2 ck148_10 (fun h => by cases h)
set_option maxRecDepth 100000 in
theorem ck148_11 : goA 2 0 0 (lauto ++ lman) (some lJ148_11.2.2) (fun _ _ => false) (aftF lcl_11 (fsF lcl_11)) 1064 = true := by decide +kernel
set_option maxRecDepth 100000 in
theorem cc148_11 : lcl_11.length = 247 ∧ lcl_11[0]? = some (co 11 [vr 1, vr 3, vr 25, vr 4, vr 50, vr 46, vr 54, vr 58, vr 62, vi 98 0, vi 99 0, vr 127, vr 168, vr 171, vr 189, vr 194, vr 197]) ∧ lcl_11[1]? = some (co 9 [vr 2, vi 3 0, vi 4 0, vi 5 0, vi 6 0, vi 7 0, vL 8 0, vi 9 0, vi 10 0]) ∧ lcl_11[2]? = some (ca 0 1000 0) ∧ lcl_11[198]? = some (co 12 (vi 144 0 :: vi 145 0 :: vr 199 :: fsF lcl_11)) ∧ lcl_11[199]? = some (crc 1000 [vi 146 0, vi 147 0]) := ⟨rfl, rfl, rfl, rfl, rfl, rfl⟩
theorem cr148_11 : (rkLo lJ148_11.2.1.1.1 lJ148_11.2.1.1.2.2.1 lJ148_11.2.2.2).isSome = true := by decide +kernel
set_option maxRecDepth 100000 in
theorem m148_11 (l : Launch) {p : Program} {e : Env} {s : State} {m : MethodId} {below : List Frame} {meth : Method} {c : Code} {Q : State → Prop} {b L : Nat} {xs : Nat → Int32} {args : Array Value} {D : va_G} {cy : Nat → ClassId} {A : Nat → Prop} {w0 : Cond} (hX0 : CTX p s m args c code 7 RL w0 D cy A) (hX : va_X b L xs s s.heap) (hbl : b < s.heap.size) (hbA : ¬ A b) (hL : L ≤ 3584) {ad : Nat → Nat} (had : ad 40000 = b) {C S : Int} (hCR : C + 1 ≤ (room_1.cells : Int) ∧ S + 6 ≤ (room_1.slots : Int)) : ∀ (σ : List Int) (φ : List (Nat → Int32)) (ws : va_W) (lv : List (Nat × Value)) (stk : List Value) (H : Heap) (locs : List Loc) (ls : Array Slot) (nc ns : Nat), pfx [0, (L : Int)] σ → pfx [] φ → GS cy [] ad lJ148_11.2.1 σ φ ws lv stk → va_P D vwCl ws H → va_D A ws → va_S A s.heap H locs → lv_has ls 7 lv → (nc : Int) + 1 * rkv σ lJ148_11.2.2 ≤ C → (ns : Int) + 6 * rkv σ lJ148_11.2.2 ≤ S → 0 ≤ rkv σ lJ148_11.2.2 → (∀ J' ∈ lauto ++ lman, InvL (fun nc ns => Wc nc ns p l e room_1 s m args below meth c Q) 1 6 C S D cy A s.heap 7 [] ad [0, (L : Int)] [] J' (rkv σ lJ148_11.2.2)) → Wc nc ns p l e room_1 s m args below meth c Q H locs lJ148_11.1 ls stk := by
  intro σ φ ws lv stk H locs ls nc ns hσ hφ hG hP hD hS hl hc1 hc2 hr0 hih
  obtain ⟨hl0, h0, h1, h2, h3, h4⟩ := cc148_11
  have hrs : ∀ q ∈ lJ148_11.2.2.2, vl σ q.2 (ev σ q.2) := by
    have hs := cr148_11
    cases q : rkLo lJ148_11.2.1.1.1 lJ148_11.2.1.1.2.2.1 lJ148_11.2.2.2 with
    | none => rw [q] at hs; cases hs
    | some z => exact (rkLo_ok hG.1.1 hG.1.2.2.1 q).2
  refine man148 l hX0 hX hbl hbA hL had hl0 h0 h1 h2 h3 h4 hσ hG hP hD hS hl ⟨by omega, by omega⟩ ?_
  have b1 : (nc : Int) + 1 * (rkv σ lJ148_11.2.2 - 1) ≤ C := by omega
  have b2 : (ns : Int) + 6 * (rkv σ lJ148_11.2.2 - 1) ≤ S := by omega
  exact q_goA_ok2 (nc := nc) (ns := ns) (Wp := fun nc ns => Wc nc ns p l e room_1 s m args below meth c Q) (kc := 1) (ks := 6) (by decide) (by decide) hσ hφ hih hrs b1 b2 ck148_11 (fun h => by cases h)
/-- the cuts by hand, all of them; the end of the law is a premise -/
theorem hman_all (l : Launch) {p : Program} {e : Env} {s : State} {m : MethodId} {below : List Frame} {meth : Method} {c : Code} {Q : State → Prop} {b L : Nat} {xs : Nat → Int32} {args : Array Value} (hlt : l.stackTraces = false) {D : va_G} {cy : Nat → ClassId} {A : Nat → Prop} {w0 : Cond} (hX0 : CTX p s m args c code 7 RL w0 D cy A) (hX : va_X b L xs s s.heap) (hbl : b < s.heap.size) (hbA : ¬ A b) (hL : L ≤ 3584) (hZ : zx A s) {ad : Nat → Nat} (had : ad 40000 = b) {C S : Int} (hCR : C + 1 ≤ (room_1.cells : Int) ∧ S + 6 ≤ (room_1.slots : Int)) (hend : ∀ (H : Heap) (locs : List Loc) (ls : Array Slot) (nc ns : Nat), va_S A s.heap H locs → (nc : Int) ≤ C → (ns : Int) ≤ S → Wc nc ns p l e room_1 s m args below meth c Q H locs 1070 ls []) : ∀ J ∈ lman, ∀ (σ : List Int) (φ : List (Nat → Int32)) (ws : va_W) (lv : List (Nat × Value)) (stk : List Value) (H : Heap) (locs : List Loc) (ls : Array Slot) (nc ns : Nat), pfx [0, (L : Int)] σ → pfx [] φ → GS cy [] ad J.2.1 σ φ ws lv stk → va_P D vwCl ws H → va_D A ws → va_S A s.heap H locs → lv_has ls 7 lv → (nc : Int) + 1 * rkv σ J.2.2 ≤ C → (ns : Int) + 6 * rkv σ J.2.2 ≤ S → 0 ≤ rkv σ J.2.2 → (∀ J' ∈ lauto ++ lman, InvL (fun nc ns => Wc nc ns p l e room_1 s m args below meth c Q) 1 6 C S D cy A s.heap 7 [] ad [0, (L : Int)] [] J' (rkv σ J.2.2)) → Wc nc ns p l e room_1 s m args below meth c Q H locs J.1 ls stk := by
  have h98 : ∀ (J : Inv), J.1 = 1070 → J.2.1.2.2 = [] → ∀ (σ : List Int) (φ : List (Nat → Int32)) (ws : va_W) (lv : List (Nat × Value)) (stk : List Value) (H : Heap) (locs : List Loc) (ls : Array Slot) (nc ns : Nat), pfx [0, (L : Int)] σ → pfx [] φ → GS cy [] ad J.2.1 σ φ ws lv stk → va_P D vwCl ws H → va_D A ws → va_S A s.heap H locs → lv_has ls 7 lv → (nc : Int) + 1 * rkv σ J.2.2 ≤ C → (ns : Int) + 6 * rkv σ J.2.2 ≤ S → 0 ≤ rkv σ J.2.2 → (∀ J' ∈ lauto ++ lman, InvL (fun nc ns => Wc nc ns p l e room_1 s m args below meth c Q) 1 6 C S D cy A s.heap 7 [] ad [0, (L : Int)] [] J' (rkv σ J.2.2)) → Wc nc ns p l e room_1 s m args below meth c Q H locs J.1 ls stk := by
    intro J hJ1 hJ2 σ φ ws lv stk H locs ls nc ns hσ hφ hG hP hD hS hl hc1 hc2 hr0 hih
    have hstk : stk = [] := by
      have := hG.2.2
      rw [hJ2] at this
      exact P2.nil_inv this
    rw [hstk, hJ1]
    exact hend H locs ls nc ns hS (by omega) (by omega)
  refine all_cons (m148_00 l hX0 hX hbl hbA hL had hCR) (all_cons (m148_01 l hX0 hX hbl hbA hL had hCR) (all_cons (m148_10 l hX0 hX hbl hbA hL had hCR) (all_cons (m148_11 l hX0 hX hbl hbA hL had hCR) (all_cons (m885_00 l hlt hX0 hX hbl hbA hL hZ had hCR) (all_cons (m885_01 l hlt hX0 hX hbl hbA hL hZ had hCR) (all_cons (m885_10 l hlt hX0 hX hbl hbA hL hZ had hCR) (all_cons (m885_11 l hlt hX0 hX hbl hbA hL hZ had hCR) (all_cons (h98 lJ1070_00 rfl rfl) (all_cons (h98 lJ1070_01 rfl rfl) (all_cons (h98 lJ1070_10 rfl rfl) (all_cons (h98 lJ1070_11 rfl rfl) all_nil)))))))))))
