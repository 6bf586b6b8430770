/-! abstract values, cells, states, and what they speak of; own -/
abbrev AV : Type := (Nat × Int) ⊕ ((Nat × Int) ⊕ (Nat ⊕ (Unit ⊕ Nat)))
abbrev AC : Type := (Nat × List AV) ⊕ ((Nat × Nat × Nat) ⊕ (Nat ⊕ ((Nat × List AV) ⊕ (Nat × Nat × List Nat))))
/-- bounds of symbols, bounds of rows' contents, differences, cells -/
abbrev AW : Type := BS × BS × CS × List AC
abbrev AS : Type := AW × List (Nat × AV) × List AV
def vi (k : Nat) (d : Int) : AV := .inl (k, d)
def vL (k : Nat) (d : Int) : AV := .inr (.inl (k, d))
def vr (c : Nat) : AV := .inr (.inr (.inl c))
def vu (k : Nat) : AV := .inr (.inr (.inr (.inr k)))
def vn : AV := .inr (.inr (.inr (.inl ())))
def co (ci : Nat) (fs : List AV) : AC := .inl (ci, fs)
def ca (kd n k : Nat) : AC := .inr (.inl (kd, n, k))
def cj (n : Nat) : AC := .inr (.inr (.inl n))
def crc (n : Nat) (fs : List AV) : AC := .inr (.inr (.inr (.inl (n, fs))))
def cq (kd n : Nat) (cs : List Nat) : AC := .inr (.inr (.inr (.inr (kd, n, cs))))
def c2 (a : AV) : Bool := match a with
  | .inr (.inl _) => true
  | _ => false
def isU (a : AV) : Bool := match a with
  | .inr (.inr (.inr (.inr _))) => true
  | _ => false
def gv (σ : List Int) (ω : List Value) (ad : Nat → Nat) (a : AV) (v : Value) : Prop := match a with
  | .inl e => ∃ x : Int32, v = .int x ∧ vl σ e x.toInt
  | .inr (.inl e) => ∃ x : Int64, v = .long x ∧ vl σ e x.toInt
  | .inr (.inr (.inl c)) => v = .ref (ad c)
  | .inr (.inr (.inr (.inl _))) => v.category = 1
  | .inr (.inr (.inr (.inr k))) => ω[k]? = some v
def gx (σ : List Int) (ω : List Value) (ad : Nat → Nat) (a : AV) (v : Value) : Prop := gv σ ω ad a v ∧ (v.category == 2) = c2 a
theorem gv.cat {σ : List Int} {ω : List Value} {ad : Nat → Nat} {a : AV} {v : Value} (h : gv σ ω ad a v) (hu : isU a = false) : gx σ ω ad a v := by
  refine ⟨h, ?_⟩
  rcases a with e | e | c | c | k
  · obtain ⟨x, rfl, _⟩ := h; rfl
  · obtain ⟨x, rfl, _⟩ := h; rfl
  · cases (show v = _ from h); rfl
  · show (v.category == 2) = false
    rw [show v.category = 1 from h]
    rfl
  · cases hu
theorem gv.app {σ τ : List Int} {ω : List Value} {ad : Nat → Nat} {a : AV} {v : Value} (h : gv σ ω ad a v) : gv (σ ++ τ) ω ad a v := by
  rcases a with e | e | c | c | k
  · obtain ⟨x, h1, h2⟩ := h; exact ⟨x, h1, h2.app⟩
  · obtain ⟨x, h1, h2⟩ := h; exact ⟨x, h1, h2.app⟩
  · exact h
  · exact h
  · exact h
theorem gx.app {σ τ : List Int} {ω : List Value} {ad : Nat → Nat} {a : AV} {v : Value} (h : gx σ ω ad a v) : gx (σ ++ τ) ω ad a v := ⟨h.1.app, h.2⟩
def zF (fb : BS) (φ : List (Nat → Int32)) : Prop := P2 (fun b f => ∀ j : Nat, b.1 ≤ (f j).toInt ∧ (f j).toInt ≤ b.2) fb φ
/-! the law of shares, held as codes: how deep its parts lie -/
def popN : List Bool → List Bool
  | true :: r => popN r
  | l => l
def nst (c : Int) (st : List Bool) : Option (List Bool) :=
  if c = 28 then (if st.length < 5 then some (false :: st) else none)
  else if c = 30 then (if st.length < 5 then some (true :: st) else none)
  else if c = 29 then (match st with
    | [] => none
    | _ :: r => some (popN r))
  else if c = 20 ∨ c = 21 ∨ c = 22 ∨ c = 24 ∨ c = 25 ∨ c = 26 ∨ c = 27 then some st
  else if 0 ≤ c ∧ (c < 20 ∨ 100 ≤ c) then some (popN st)
  else none
def nrun (f : Nat → Int32) (a : Nat) : Nat → Option (List Bool)
  | 0 => some []
  | n + 1 => (nrun f a n).bind (nst (f (a + n)).toInt)
/-- how far from a on the codes lie as they must, 1000 at most -/
def extN (f : Nat → Int32) (a : Nat) : Nat → Nat
  | 0 => 0
  | n + 1 => if (nrun f a (n + 1)).isSome then n + 1 else extN f a n
def ext (f : Nat → Int32) (a : Nat) : Nat := extN f a 1000
/-- a state of the parts as a number -/
def enc : List Bool → Nat
  | [] => 1
  | b :: r => 2 * enc r + (if b then 1 else 0)
/-- the state at p, from b on -/
def stc (f : Nat → Int32) (b p : Nat) : Int32 := match nrun f b (p - b) with
  | some st => nI (enc st)
  | none => -1
def pnG (F : Nat → Int64) (w : Int64) : Nat → Nat → Int32
  | _, 0 => -1
  | i, m + 1 => if F i = w then nI i else pnG F w (i + 1) m
/-- the first of m names that is w -/
def pnF (F : Nat → Int64) (m : Nat) (w : Int64) : Int32 := pnG F w 0 m
/-- what is told of a row of n: of less than 1000 all; of 1000 one place and what stands there; of 2000 codes how far both halves lie as they must, and from a begin on the state at a place; of names (n above 1000000) which one is the first that is a word -/
def OB (cy : Nat → ClassId) (n : Nat) (e : va_E) (g : Nat → Value) : Prop :=
  if n < 1000 then ∃ f : Nat → Int32, e = .inl (cy 1, n, .inl f) ∧ ∀ j, g j = .int (f j)
  else if n = 1000 then ∃ (f : Nat → Int32) (p : Nat), e = .inl (cy 1, 1000, .inl f) ∧ p < 1000 ∧ g 0 = .int (nI p) ∧ g 1 = .int (f p)
  else if n = 2000 then ∃ (f : Nat → Int32) (b p : Nat), e = .inl (cy 1, 2000, .inl f) ∧ b ≤ p ∧ p ≤ 2000 ∧ g 0 = .int (nI (ext f 0)) ∧ g 1 = .int (nI (ext f 1000)) ∧ g 2 = .int (nI b) ∧ g 3 = .int (nI p) ∧ g 4 = .int (stc f b p)
  else ∃ (F : Nat → Int64) (m : Nat) (w : Int64), e = .inl (cy 2, n - 1000000, .inr (.inl F)) ∧ m < 2 ^ 31 ∧ g 0 = .int (nI m) ∧ g 1 = .long w ∧ g 2 = .int (pnF F m w)
def ols (n : Nat) : Nat := if n < 1000 then n else if n = 1000 then 2 else if n = 2000 then 5 else 3
theorem OB_lt {cy : Nat → ClassId} {n : Nat} {e : va_E} {g : Nat → Value} (h : n < 1000) (ho : OB cy n e g) : ∃ f : Nat → Int32, e = .inl (cy 1, n, .inl f) ∧ ∀ j, g j = .int (f j) := by
  unfold OB at ho
  rwa [if_pos h] at ho
theorem OB_of {cy : Nat → ClassId} {n : Nat} {f : Nat → Int32} (h : n < 1000) : OB cy n (.inl (cy 1, n, .inl f)) (fun j => .int (f j)) := by
  unfold OB
  rw [if_pos h]
  exact ⟨f, rfl, fun _ => rfl⟩
theorem ols_lt {n : Nat} (h : n < 1000) : ols n = n := if_pos h
def gc (cy : Nat → ClassId) (σ : List Int) (φ : List (Nat → Int32)) (ω : List Value) (ad : Nat → Nat) (c : AC) (e : va_E) : Prop := match c with
  | .inl (ci, fs) => ∃ vs : List Value, e = .inr (ci, vs) ∧ P2 (gv σ ω ad) fs vs
  | .inr (.inl (kd, n, k)) => ∃ f : Nat → Int32, φ[k]? = some f ∧ e = .inl (cy kd, n, .inl f)
  | .inr (.inr (.inl n)) => ∃ f : Nat → Int64, e = .inl (cy 2, n, .inr (.inl f))
  | .inr (.inr (.inr (.inl (n, fs)))) => ∃ g : Nat → Value, OB cy n e g ∧ fs.length = ols n ∧ ∀ (j : Nat) (av : AV), fs[j]? = some av → gv σ ω ad av (g j)
  | .inr (.inr (.inr (.inr (kd, n, cs)))) => ∃ f : Nat → Option Nat, e = .inl (cy kd, n, .inr (.inr (.inr (.inr f)))) ∧ ∀ (j c : Nat), cs[j]? = some c → f j = some (ad c)
theorem gc.app {cy : Nat → ClassId} {σ τ : List Int} {φ ψ : List (Nat → Int32)} {ω : List Value} {ad : Nat → Nat} {c : AC} {e : va_E} (h : gc cy σ φ ω ad c e) : gc cy (σ ++ τ) (φ ++ ψ) ω ad c e := by
  rcases c with ⟨ci, fs⟩ | ⟨kd, n, k⟩ | n | ⟨n, fs⟩ | ⟨kd, n, cs⟩
  · obtain ⟨vs, h1, h2⟩ := h; exact ⟨vs, h1, h2.mono (fun _ _ h => h.app)⟩
  · obtain ⟨f, h1, h2⟩ := h; exact ⟨f, gapp h1, h2⟩
  · exact h
  · obtain ⟨f, h1, h2, h3⟩ := h; exact ⟨f, h1, h2, fun j av hj => (h3 j av hj).app⟩
  · exact h
def gw (cy : Nat → ClassId) (σ : List Int) (φ : List (Nat → Int32)) (ω : List Value) (ad : Nat → Nat) (cl : List AC) (ws : va_W) : Prop := cl.length = ws.length ∧ ∀ (k : Nat) (c : AC), cl[k]? = some c → ∃ e : va_E, ws[k]? = some (ad k, e) ∧ gc cy σ φ ω ad c e
theorem gw.app {cy : Nat → ClassId} {σ τ : List Int} {φ ψ : List (Nat → Int32)} {ω : List Value} {ad : Nat → Nat} {cl : List AC} {ws : va_W} (h : gw cy σ φ ω ad cl ws) : gw cy (σ ++ τ) (φ ++ ψ) ω ad cl ws := ⟨h.1, fun k c hk => by
  obtain ⟨e, h1, h2⟩ := h.2 k c hk
  exact ⟨e, h1, h2.app⟩⟩
theorem gw.set {cy : Nat → ClassId} {σ : List Int} {φ : List (Nat → Int32)} {ω : List Value} {ad : Nat → Nat} {cl : List AC} {ws : va_W} {k0 : Nat} {c : AC} {e : va_E} (h : gw cy σ φ ω ad cl ws) (hc : gc cy σ φ ω ad c e) : gw cy σ φ ω ad (cl.set k0 c) (ws.set k0 (ad k0, e)) := by
  refine ⟨by simpa using h.1, fun k c' hk => ?_⟩
  by_cases q : k = k0
  · subst q
    rw [List.getElem?_set_self' ] at hk
    cases e1 : cl[k]? with
    | none => rw [e1] at hk; simp at hk
    | some c0 =>
      rw [e1] at hk
      simp at hk
      subst hk
      obtain ⟨e0, h1, _⟩ := h.2 k c0 e1
      exact ⟨e, by rw [List.getElem?_set_self', h1]; rfl, hc⟩
  · rw [List.getElem?_set_ne (fun z => q z.symm)] at hk
    obtain ⟨e0, h1, h2⟩ := h.2 k c' hk
    exact ⟨e0, by rw [List.getElem?_set_ne (fun z => q z.symm)]; exact h1, h2⟩
def GW (cy : Nat → ClassId) (ω : List Value) (ad : Nat → Nat) (w : AW) (σ : List Int) (φ : List (Nat → Int32)) (ws : va_W) : Prop := zB w.1 σ ∧ zF w.2.1 φ ∧ zC w.2.2.1 σ ∧ gw cy σ φ ω ad w.2.2.2 ws
def lr (σ : List Int) (ω : List Value) (ad : Nat → Nat) (p : Nat × AV) (q : Nat × Value) : Prop := p.1 = q.1 ∧ gx σ ω ad p.2 q.2
theorem lr.app {σ τ : List Int} {ω : List Value} {ad : Nat → Nat} {p : Nat × AV} {q : Nat × Value} (h : lr σ ω ad p q) : lr (σ ++ τ) ω ad p q := ⟨h.1, h.2.app⟩
def GS (cy : Nat → ClassId) (ω : List Value) (ad : Nat → Nat) (a : AS) (σ : List Int) (φ : List (Nat → Int32)) (ws : va_W) (lv : List (Nat × Value)) (stk : List Value) : Prop := GW cy ω ad a.1 σ φ ws ∧ P2 (lr σ ω ad) a.2.1 lv ∧ P2 (gx σ ω ad) a.2.2 stk
section GSs
variable {cy : Nat → ClassId} {ω : List Value} {ad : Nat → Nat} {w : AW} {loc : List (Nat × AV)} {st : List AV} {σ : List Int} {φ : List (Nat → Int32)} {ws : va_W} {lv : List (Nat × Value)} {stk : List Value}
/-- the state with a result of an operation on top -/
def pushI (w : AW) (loc : List (Nat × AV)) (st : List AV) (r : RS) : AS := ((r.1, w.2.1, r.2.1, w.2.2.2), loc, .inl r.2.2 :: st)
def pushL (w : AW) (loc : List (Nat × AV)) (st : List AV) (r : RS) : AS := ((r.1, w.2.1, r.2.1, w.2.2.2), loc, .inr (.inl r.2.2) :: st)
theorem GS.pushI {r : RS} {x : Int32} (hW : GW cy ω ad w σ φ ws) (hL : P2 (lr σ ω ad) loc lv) (hS : P2 (gx σ ω ad) st stk) (h : OpOK σ r x.toInt) : ∃ τ : List Int, GS cy ω ad (pushI w loc st r) (σ ++ τ) φ ws lv (.int x :: stk) := by
  obtain ⟨τ, h1, h2, h3⟩ := h
  have hw := hW.2.2.2.app (τ := τ) (ψ := [])
  rw [List.append_nil] at hw
  exact ⟨τ, ⟨h1, hW.2.1, h2, hw⟩, hL.mono (fun _ _ h => h.app), ⟨⟨x, rfl, h3⟩, rfl⟩, hS.mono (fun _ _ h => h.app)⟩
theorem GS.pushL {r : RS} {x : Int64} (hW : GW cy ω ad w σ φ ws) (hL : P2 (lr σ ω ad) loc lv) (hS : P2 (gx σ ω ad) st stk) (h : OpOK σ r x.toInt) : ∃ τ : List Int, GS cy ω ad (pushL w loc st r) (σ ++ τ) φ ws lv (.long x :: stk) := by
  obtain ⟨τ, h1, h2, h3⟩ := h
  have hw := hW.2.2.2.app (τ := τ) (ψ := [])
  rw [List.append_nil] at hw
  exact ⟨τ, ⟨h1, hW.2.1, h2, hw⟩, hL.mono (fun _ _ h => h.app), ⟨⟨x, rfl, h3⟩, rfl⟩, hS.mono (fun _ _ h => h.app)⟩
def lk (i : Nat) : List (Nat × AV) → Option AV
  | [] => none
  | p :: r => if p.1 == i then some p.2 else lk i r
theorem lk_ok {i : Nat} {a : AV} : ∀ {loc : List (Nat × AV)} {lv : List (Nat × Value)}, P2 (lr σ ω ad) loc lv → lk i loc = some a → ∃ (k : Nat) (v : Value), lv[k]? = some (i, v) ∧ gx σ ω ad a v
  | [], [], _, h => by cases h
  | p :: r, q :: s, hP, h => by
    unfold lk at h
    by_cases c : (p.1 == i) = true
    · rw [if_pos c] at h
      cases h
      have c' : p.1 = i := by simpa using c
      refine ⟨0, q.2, ?_, hP.1.2⟩
      rw [← c', hP.1.1]
      rfl
    · rw [if_neg c] at h
      obtain ⟨k, v, h1, h2⟩ := lk_ok hP.2 h
      exact ⟨k + 1, v, by simpa using h1, h2⟩
  | [], _ :: _, hP, _ => hP.elim
  | _ :: _, [], hP, _ => hP.elim
def st1 (i : Nat) (a : AV) (loc : List (Nat × AV)) : List (Nat × AV) := (i, a) :: loc.filter (fun q => !(q.1 == i) && !(q.1 + 1 == i && c2 q.2))
def st2 (i : Nat) (a : AV) (loc : List (Nat × AV)) : List (Nat × AV) := (i, a) :: loc.filter (fun q => !(q.1 == i) && (!(q.1 == i + 1) && !(q.1 + 1 == i && c2 q.2)))
theorem st1_ok {i : Nat} {a : AV} {v : Value} (h : P2 (lr σ ω ad) loc lv) (hv : gx σ ω ad a v) : P2 (lr σ ω ad) (st1 i a loc) ((i, v) :: lv.filter (fun q => !(q.1 == i) && !(q.1 + 1 == i && q.2.category == 2))) := by
  refine ⟨⟨rfl, hv⟩, h.filter (fun p q hpq => ?_)⟩
  rw [hpq.1, hpq.2.2]
theorem st2_ok {i : Nat} {a : AV} {v : Value} (h : P2 (lr σ ω ad) loc lv) (hv : gx σ ω ad a v) : P2 (lr σ ω ad) (st2 i a loc) ((i, v) :: lv.filter (fun q => !(q.1 == i) && (!(q.1 == i + 1) && !(q.1 + 1 == i && q.2.category == 2)))) := by
  refine ⟨⟨rfl, hv⟩, h.filter (fun p q hpq => ?_)⟩
  rw [hpq.1, hpq.2.2]
end GSs
/-- an index: at least 0 and below n -/
def ixOK (bs : BS) (cs : CS) (e : Nat × Int) (n : Nat) : Bool := match bnd bs cs e with
  | some b => decide (0 ≤ b.1) && decide (b.2 < (n : Int))
  | none => false
theorem ixOK_ok {bs : BS} {cs : CS} {σ : List Int} {e : Nat × Int} {n : Nat} {x : Int32} (hB : zB bs σ) (hC : zC cs σ) (h : ixOK bs cs e n = true) (hx : vl σ e x.toInt) : vp_in x n ∧ x.toNatClampNeg = x.toInt.toNat ∧ 0 ≤ x.toInt ∧ x.toInt < (n : Int) := by
  unfold ixOK at h
  cases q : bnd bs cs e with
  | none => rw [q] at h; cases h
  | some b =>
    rw [q] at h
    have h' : 0 ≤ b.1 ∧ b.2 < (n : Int) := by simpa using h
    have g := bnd_ok hB hC q hx
    have e1 : x.toNatClampNeg = x.toInt.toNat := rfl
    refine ⟨?_, e1, by omega, by omega⟩
    intro hh
    rcases hh with hh | hh
    · rw [Int32.lt_iff_toInt_lt] at hh
      have e0 : (0 : Int32).toInt = 0 := rfl
      omega
    · rw [e1] at hh
      omega
