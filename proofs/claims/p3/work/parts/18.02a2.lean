/-! a check over some of the contracts and some of the cuts; own -/
def sel {α : Type} (l : List α) : List Nat → List α
  | [] => []
  | i :: r => match l[i]? with
    | some x => x :: sel l r
    | none => sel l r
theorem sel_sub {α : Type} {l : List α} : ∀ (u : List Nat) (k : α), k ∈ sel l u → k ∈ l
  | [], k, h => by cases h
  | i :: r, k, h => by
    unfold sel at h
    split at h
    · rename_i x q
      rcases List.mem_cons.mp h with e | h
      · rw [e]
        exact List.mem_of_getElem? q
      · exact sel_sub r k h
    · exact sel_sub r k h
set_option maxRecDepth 100000 in
theorem con_okT {MT : Nat → MI} {l : Launch} {con : Con} {SK : SKT} {K : KT} {code : List (Nat × Instr × Nat)} {CT : CTT} {AT : List Nat} {cons : List Con} {invs : List Inv} {fuel : Nat} (hy : plainName (MT con.1).1.cls = true) (hSK : SKOK (MT con.1).1.cls SK) (hK : KOK (MT con.1).1.cls K) (hcode : ∀ q ∈ code, decode (MT con.1).2.1 q.1 = .ok (q.2.1, q.2.2)) (hCT : ∀ q ∈ CT, COK MT (MT con.1).1.cls q) (hAT : ATok (MT con.1).1.cls AT) (hcons : ∀ k ∈ cons, ConOK MT l k) (h1 : decide (catS con.2.2.2.1 ≤ (MT con.1).2.2.1) = true) (h2 : run MT (con.1, con.2.2.2.2.1) SK (MT con.1).2.2.1 con.2.2.1 con.2.2.2.2.1.1.length con.2.2.2.2.1.2.1.length con.2.1.1 con.2.1.2 K code CT AT cons invs (MT con.1).2.2.2 con.2.2.2.2.2 none fuel (con.2.2.2.2.1, laA 0 con.2.2.2.1, []) 0 = true) (h3 : ∀ I ∈ invs, ∃ u v, chkI MT con SK K code CT AT (sel cons u) (sel invs v) fuel I = true) : ConOK MT l con := by
  have h1 : catS con.2.2.2.1 ≤ (MT con.1).2.2.1 := of_decide_eq_true h1
  intro D cy ω ad σp φp av ws sz hpre
  obtain ⟨hW, hAv, hω, hxp⟩ := hpre
  refine Met.ofW (cc := (MT con.1).2.1) (maxL := (MT con.1).2.2.1) (ret := (MT con.1).2.2.2) hy rfl ?_
  intro p e s m args below meth c s₁ B hml hv
  obtain ⟨⟨rfl, hsz, hP, hG, hD0⟩, hF⟩ := hv
  have hts := atoms_spec (ws := Cond.code (MT con.1).1 (MT con.1).2.1 (MT con.1).2.2.1 (MT con.1).2.2.2 :: bigG) B.pre
  have hown : s.vm.findClass (MT con.1).1.cls = some m.cls := findClass_of_methodNamed B.named
  subst hsz
  have hxo : ∀ t ∈ [1, 2], xal (con.1, con.2.2.2.2.1).1 t = true → XPo t (xp t (con.1, con.2.2.2.2.1).2) σp φp := hxp
  have hD := hD0.self (sz := s.heap.size)
  have hA : ∀ q : Nat, s.heap.size ≤ q → va_A ws s.heap.size q := fun q hq => Or.inr hq
  have hX : CTX p s m av.toArray c (MT con.1).2.1 (MT con.1).2.2.1 (MT con.1).1.cls (Cond.code (MT con.1).1 (MT con.1).2.1 (MT con.1).2.2.1 (MT con.1).2.2.2) D cy (va_A ws s.heap.size) := ⟨B.exec, B.bytes, hml, hown, hts, hG, hA⟩
  have hlb : con.2.2.2.2.1.1.length = σp.length := P2.len hW.1
  have hlf : con.2.2.2.2.1.2.1.length = φp.length := P2.len hW.2.1
  rw [hlb, hlf, ← hω] at h2
  have key : ∀ (N : Nat) (I : Inv), I ∈ invs → InvH (Wq p l e (headSpec (Cond.code (MT con.1).1 (MT con.1).2.1 (MT con.1).2.2.1 (MT con.1).2.2.2 :: bigG) ({ frames := con.2.1.1, cells := 0, slots := 0, locals := con.2.1.2 })).room s m av.toArray below meth c (MQ below (ConQ (MT con.1).2.2.2 (ConPost D cy ω ad con.2.2.2.2.2 σp φp) (va_A ws s.heap.size)) av.toArray s 0 0 (va_A ws s.heap.size))) D cy (va_A ws s.heap.size) s.heap (MT con.1).2.2.1 ω ad σp φp I (some (N : Int)) := by
    intro N
    induction N with
    | zero =>
      intro I hI σ φ ws' lv stk H locs ls hσ hφ hGs hP' hD' hS hl hn
      obtain ⟨u, v, h4⟩ := h3 I hI
      unfold chkI at h4
      rw [hlb, hlf, ← hω] at h4
      simp only [Bool.and_eq_true] at h4
      obtain ⟨h5, h6⟩ := h4
      exfalso
      have h7 := hn _ rfl
      cases q : rkLo I.2.1.1.1 I.2.1.1.2.2.1 I.2.2.2 with
      | none => rw [q] at h5; cases h5
      | some z =>
        rw [q] at h5
        have h8 : 0 ≤ I.2.2.1 + z := by simpa using h5
        have h9 := (rkLo_ok hGs.1.1 hGs.1.2.2.1 q).1
        unfold rkv at h7
        simp only [Int.ofNat_zero] at h7
        omega
    | succ N ih =>
      intro I hI σ φ ws' lv stk H locs ls hσ hφ hGs hP' hD' hS hl hn
      obtain ⟨u, v, h4⟩ := h3 I hI
      unfold chkI at h4
      rw [hlb, hlf, ← hω] at h4
      simp only [Bool.and_eq_true] at h4
      obtain ⟨h5, h6⟩ := h4
      have h7 := hn _ rfl
      cases q : rkLo I.2.1.1.1 I.2.1.1.2.2.1 I.2.2.2 with
      | none => rw [q] at h5; cases h5
      | some z =>
        have h9 := (rkLo_ok hGs.1.1 hGs.1.2.2.1 q).2
        refine run_ok (σ0 := σ) (φ0 := φ) hX hF hxo hSK hK hcode hCT hAT (fun k hk => hcons k (sel_sub u k hk)) ⟨Nat.le_refl _, Nat.le_refl _⟩ B.returns B.notSynchronized hσ hφ (fun J hJ => ?_) (fun r hr => by cases hr; exact h9) fuel I.2.1 I.1 h6 σ φ ws' lv stk H locs ls ⟨[], by simp⟩ ⟨[], by simp⟩ hGs hP' hD' hS hl
        intro σ' φ' ws'' lv' stk' H' locs' ls' a1 a2 a3 a4 a5 a6 a7 a8
        refine ih J (sel_sub v J hJ) σ' φ' ws'' lv' stk' H' locs' ls' a1 a2 a3 a4 a5 a6 a7 (fun n hn' => ?_)
        cases hn'
        have := a8 _ rfl
        have h10 : ((N + 1 : Nat) : Int) = (N : Int) + 1 := by omega
        omega
  have hl := lv_entry av (n := (MT con.1).2.2.1) (by rw [sl_len hAv]; exact h1)
  rw [lg_entry_eq]
  refine run_ok (σ0 := σp) (φ0 := φp) hX hF hxo hSK hK hcode hCT hAT hcons ⟨Nat.le_refl _, Nat.le_refl _⟩ B.returns B.notSynchronized ⟨[], by simp⟩ ⟨[], by simp⟩ (fun J hJ => ?_) (fun r hr => by cases hr) fuel (con.2.2.2.2.1, laA 0 con.2.2.2.1, []) 0 h2 σp φp ws _ [] s.heap [] _ ⟨[], by simp⟩ ⟨[], by simp⟩ ⟨hW, laA_ok hAv, trivial⟩ hP hD va_S.rf hl
  intro σ' φ' ws'' lv' stk' H' locs' ls' a1 a2 a3 a4 a5 a6 a7 a8
  exact key ((rkv σ' J.2.2).toNat + 1) J hJ σ' φ' ws'' lv' stk' H' locs' ls' a1 a2 a3 a4 a5 a6 a7 (fun n hn' => by cases hn'; omega)

