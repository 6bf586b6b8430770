theorem lsub {J : Inv} (h : J ∈ lauto ++ lman) : J ∈ (lauto ++ lx) ++ lman := by
  rcases List.mem_append.mp h with h | h
  · exact List.mem_append_left _ (List.mem_append_left _ h)
  · exact List.mem_append_right _ h
/-- the loop from its head on, i = 0 -/
theorem law_loopB (l : Launch) {p : Program} {e : Env} {s : State} {m : MethodId} {below : List Frame} {meth : Method} {c : Code} {Q : State → Prop} {b L : Nat} {xs : Nat → Int32} {args : Array Value} (hlt : l.stackTraces = false) {D : va_G} {cy : Nat → ClassId} {A : Nat → Prop} {w0 : Cond} (hX0 : CTX p s m args c code 7 RL w0 D cy A) (hX : va_X b L xs s s.heap) (hbl : b < s.heap.size) (hbA : ¬ A b) (hL : L ≤ 3584) (hZ : zx A s) {ad : Nat → Nat} (had : ad 40000 = b) (hF : SF ad A s)
    {K : KT} {cd : List (Nat × Instr × Nat)} {CT : CTT} {cons : List Con} (hK : KOK RL K) (hcode : ∀ q ∈ cd, decode code q.1 = .ok (q.2.1, q.2.2)) (hCT : ∀ q ∈ CT, COK MT RL q) (hcons : ∀ con ∈ cons, ConOK MT l con)
    (hlo : lall.all (fun I => match rkLo I.2.1.1.1 I.2.1.1.2.2.1 I.2.2.2 with
      | some z => decide (0 ≤ I.2.2.1 + z)
      | none => false) = true)
    (hckC_00 : runL MT (owC lJ295_00.2.1) 7 0 2 0 11 279 K cd CT cons (lauto ++ lman) (some lJ295_00.2.2) 4000 (extA lJ295_00.2.1) lJ295_00.1 = true)
    (hckC_01 : runL MT (owC lJ295_01.2.1) 7 0 2 0 11 279 K cd CT cons (lauto ++ lman) (some lJ295_01.2.2) 4000 (extA lJ295_01.2.1) lJ295_01.1 = true)
    (hckC_10 : runL MT (owC lJ295_10.2.1) 7 0 2 0 11 279 K cd CT cons (lauto ++ lman) (some lJ295_10.2.2) 4000 (extA lJ295_10.2.1) lJ295_10.1 = true)
    (hckC_11 : runL MT (owC lJ295_11.2.1) 7 0 2 0 11 279 K cd CT cons (lauto ++ lman) (some lJ295_11.2.2) 4000 (extA lJ295_11.2.1) lJ295_11.1 = true)
    (hck : (lauto ++ lx).all (fun I => runL MT ow0 7 0 2 0 11 279 K cd CT cons lall (some I.2.2) 4000 I.2.1 I.1) = true)
    (hend : ∀ (H : Heap) (locs : List Loc) (ls : Array Slot) (nc ns : Nat), va_S A s.heap H locs → (nc : Int) ≤ 14618 → (ns : Int) ≤ 97056 → Wc nc ns p l e room_1 s m args below meth c Q H locs 1070 ls [])
    {σ : List Int} {φ : List (Nat → Int32)} {ws : va_W} {lv : List (Nat × Value)} {stk : List Value} {H : Heap} {locs : List Loc} {ls : Array Slot} (hσ : pfx [0, (L : Int)] σ) (hr : rkv σ lJ23_00.2.2 = 14371) (hRL : RLx σ φ) (hG : GS cy [] ad lJ23_00.2.1 σ φ ws lv stk) (hP : va_P D vwCl ws H) (hD : va_D A ws) (hS : va_S A s.heap H locs) (hl : lv_has ls 7 lv) : Wc 247 10830 p l e room_1 s m args below meth c Q H locs 23 ls stk := by
  have h := law_ok (e := e) (R := room_1) (below := below) (meth := meth) (Q := Q) (ω := []) (σp := [0, (L : Int)]) (φp := []) (kc := 1) (ks := 6) (C := 14618) (S := 97056) (auto := lauto ++ lx) (man := lman) hX0 hF hX hbl hbA had (Nat.lt_of_le_of_lt hL (by decide)) rfl hK hcode hCT hcons ⟨by decide, by decide⟩ (by decide) (by decide) ⟨by decide, by decide⟩ hlo hck (fun J hJ σ1 φ1 ws1 lv1 stk1 H1 locs1 ls1 nc1 ns1 a1 a2 a3 a4 a5 a6 a7 a8 a9 a10 a11 a12 => hman_all l hlt hX0 hX hbl hbA hL hZ had ⟨by decide, by decide⟩ hF hK hcode hCT hcons hckC_00 hckC_01 hckC_10 hckC_11 hend J hJ σ1 φ1 ws1 lv1 stk1 H1 locs1 ls1 nc1 ns1 a1 a2 a3 a4 a5 a6 a7 a8 a9 a10 a11 (fun J' hJ' => a12 J' (lsub hJ'))) 14372 lJ23_00 (List.mem_append_left _ (List.mem_append_left _ (List.mem_cons_self ..)))
  exact h σ φ ws lv stk H locs ls 247 10830 hσ ⟨φ, rfl⟩ hRL hG hP hD hS hl (by rw [hr]; decide) (by rw [hr]; decide) (by rw [hr]; decide)
