/-! one state under another: symbols, rows, cells and opaque values of the one told by those of the other; own -/
def ev (σ : List Int) (e : Nat × Int) : Int := (σ[e.1]?).getD 0 + e.2
def cv (σ : List Int) (ω : List Value) (ad : Nat → Nat) (a : AV) : Value := match a with
  | .inl e => .int (Int32.ofInt (ev σ e))
  | .inr (.inl e) => .long (Int64.ofInt (ev σ e))
  | .inr (.inr (.inl c)) => .ref (ad c)
  | .inr (.inr (.inr (.inl _))) => .null
  | .inr (.inr (.inr (.inr k))) => (ω[k]?).getD .null
def fv (φ : List (Nat → Int32)) (k : Nat) : Nat → Int32 := (φ[k]?).getD (fun _ => 0)
def adc (ad : Nat → Nat) (κ : List Nat) (c : Nat) : Nat := ad ((κ[c]?).getD c)
theorem ev_vl {σ : List Int} {e : Nat × Int} {a : Int} (h : vl σ e a) : ev σ e = a := by
  obtain ⟨t, h1, h2⟩ := h
  unfold ev
  rw [h1, h2]
  rfl
def isN (a : AV) : Bool := match a with
  | .inr (.inr (.inr (.inl _))) => true
  | _ => false
theorem gv_cv {σ : List Int} {ω : List Value} {ad : Nat → Nat} {a : AV} {v : Value} (h : gv σ ω ad a v) (hn : isN a = false) : v = cv σ ω ad a := by
  rcases a with e | e | c | c | k
  · obtain ⟨x, rfl, hx⟩ := h
    show _ = Value.int _
    rw [ev_vl hx, Int32.ofInt_toInt]
  · obtain ⟨x, rfl, hx⟩ := h
    show _ = Value.long _
    rw [ev_vl hx, Int64.ofInt_toInt]
  · exact h
  · cases hn
  · show v = (ω[k]?).getD .null
    rw [show ω[k]? = some v from h]
    rfl
def chkE (μ : List (Nat × Int)) (e e' : Nat × Int) : Bool := match μ[e.1]? with
  | some z => z.1 == e'.1 && decide (z.2 + e.2 = e'.2)
  | none => false
theorem chkE_ok {μ : List (Nat × Int)} {σ : List Int} {e e' : Nat × Int} {a : Int} (h : chkE μ e e' = true) (ha : vl σ e' a) : vl (μ.map (ev σ)) e a := by
  unfold chkE at h
  cases q : μ[e.1]? with
  | none => rw [q] at h; cases h
  | some z =>
    rw [q] at h
    have h' : z.1 = e'.1 ∧ z.2 + e.2 = e'.2 := by simpa using h
    obtain ⟨t, h1, h2⟩ := ha
    refine ⟨t + z.2, ?_, by omega⟩
    rw [List.getElem?_map, q]
    show some (ev σ z) = _
    unfold ev
    rw [h'.1, h1]
    rfl
def chkV (μ : List (Nat × Int)) (ξ : List AV) (κ : List Nat) (t c : AV) : Bool := match t with
  | .inl e => (match c with
    | .inl e' => chkE μ e e'
    | _ => false)
  | .inr (.inl e) => (match c with
    | .inr (.inl e') => chkE μ e e'
    | _ => false)
  | .inr (.inr (.inl k)) => (match c with
    | .inr (.inr (.inl k')) => (match κ[k]? with
      | some z => z == k'
      | none => decide (10000 ≤ k) && (k == k'))
    | _ => false)
  | .inr (.inr (.inr (.inl _))) => (match c with
    | .inr (.inr (.inr (.inl _))) => true
    | _ => false)
  | .inr (.inr (.inr (.inr k))) => (match ξ[k]? with
    | some z => decide (z = c) && !(isN c)
    | none => false)
theorem chkV_ok {μ : List (Nat × Int)} {ξ : List AV} {κ : List Nat} {σ : List Int} {ω : List Value} {ad : Nat → Nat} {t c : AV} {v : Value} (h : chkV μ ξ κ t c = true) (hv : gv σ ω ad c v) : gv (μ.map (ev σ)) (ξ.map (cv σ ω ad)) (adc ad κ) t v := by
  rcases t with e | e | k | k | k
  · rcases c with e' | e' | k' | k' | k'
    · obtain ⟨x, h1, h2⟩ := hv
      exact ⟨x, h1, chkE_ok h h2⟩
    all_goals cases h
  · rcases c with e' | e' | k' | k' | k'
    · cases h
    · obtain ⟨x, h1, h2⟩ := hv
      exact ⟨x, h1, chkE_ok h h2⟩
    all_goals cases h
  · rcases c with e' | e' | k' | k' | k'
    · cases h
    · cases h
    · simp only [chkV] at h
      cases q : κ[k]? with
      | none =>
        rw [q] at h
        have h' : 10000 ≤ k ∧ k = k' := by simpa using h
        show v = .ref (ad ((κ[k]?).getD k))
        rw [q, h'.2]
        exact hv
      | some z =>
        rw [q] at h
        have h' : z = k' := by simpa using h
        show v = .ref (ad ((κ[k]?).getD k))
        rw [q, h']
        exact hv
    all_goals cases h
  · rcases c with e' | e' | k' | k' | k'
    · cases h
    · cases h
    · cases h
    · exact hv
    · cases h
  · simp only [chkV] at h
    cases q : ξ[k]? with
    | none => rw [q] at h; cases h
    | some z =>
      rw [q] at h
      have h' : z = c ∧ isN c = false := by simpa using h
      show (ξ.map (cv σ ω ad))[k]? = some v
      rw [List.getElem?_map, q, gv_cv hv h'.2, h'.1]
      rfl
def chkT (μ : List (Nat × Int)) (ξ : List AV) (κ : List Nat) (t c : AV) : Bool := !(isU t) && chkV μ ξ κ t c
theorem chkT_ok {μ : List (Nat × Int)} {ξ : List AV} {κ : List Nat} {σ : List Int} {ω : List Value} {ad : Nat → Nat} {t c : AV} {v : Value} (h : chkT μ ξ κ t c = true) (hv : gx σ ω ad c v) : gx (μ.map (ev σ)) (ξ.map (cv σ ω ad)) (adc ad κ) t v := by
  have h' : isU t = false ∧ chkV μ ξ κ t c = true := by simpa [chkT] using h
  exact (chkV_ok h'.2 hv.1).cat h'.1
def all2 {α β : Type} (f : α → β → Bool) : List α → List β → Bool
  | [], [] => true
  | a :: as, b :: bs => f a b && all2 f as bs
  | _, _ => false
theorem all2_ok {α β γ : Type} {f : α → β → Bool} {R : β → γ → Prop} {S : α → γ → Prop} (hf : ∀ a b v, f a b = true → R b v → S a v) : ∀ {as : List α} {bs : List β} {vs : List γ}, all2 f as bs = true → P2 R bs vs → P2 S as vs
  | [], [], [], _, _ => trivial
  | [], [], _ :: _, _, h => h.elim
  | a :: as, b :: bs, v :: vs, h, hP => by
    have h' : f a b = true ∧ all2 f as bs = true := by simpa [all2] using h
    exact ⟨hf a b v h'.1 hP.1, all2_ok hf h'.2 hP.2⟩
  | _ :: _, _ :: _, [], _, hP => hP.elim
  | [], _ :: _, _, h, _ => by cases h
  | _ :: _, [], _, h, _ => by cases h
theorem all2_get {α β : Type} {f : α → β → Bool} : ∀ {as : List α} {bs : List β} {k : Nat} {a : α}, all2 f as bs = true → as[k]? = some a → ∃ b, bs[k]? = some b ∧ f a b = true
  | [], _, _, _, _, h => by simp at h
  | a :: as, b :: bs, 0, x, h, hk => by
    have h' : f a b = true ∧ all2 f as bs = true := by simpa [all2] using h
    simp at hk
    subst hk
    exact ⟨b, by simp, h'.1⟩
  | a :: as, b :: bs, k + 1, x, h, hk => by
    have h' : f a b = true ∧ all2 f as bs = true := by simpa [all2] using h
    simp at hk
    obtain ⟨y, h1, h2⟩ := all2_get h'.2 hk
    exact ⟨y, by simpa using h1, h2⟩
  | _ :: _, [], _, _, h, _ => by cases h
theorem all2_len {α β : Type} {f : α → β → Bool} : ∀ {as : List α} {bs : List β}, all2 f as bs = true → as.length = bs.length
  | [], [], _ => rfl
  | _ :: as, _ :: bs, h => by
    have h' := h
    simp only [all2, Bool.and_eq_true] at h'
    simp [all2_len h'.2]
  | [], _ :: _, h => by cases h
  | _ :: _, [], h => by cases h
def chkC (μ : List (Nat × Int)) (ν : List Nat) (ξ : List AV) (κ : List Nat) (t c : AC) : Bool := match t with
  | .inl (ci, fs) => (match c with
    | .inl (ci', fs') => ci == ci' && all2 (chkV μ ξ κ) fs fs'
    | _ => false)
  | .inr (.inl (kd, n, k)) => (match c with
    | .inr (.inl (kd', n', k')) => kd == kd' && n == n' && (match ν[k]? with
      | some z => z == k'
      | none => false)
    | _ => false)
  | .inr (.inr (.inl n)) => (match c with
    | .inr (.inr (.inl n')) => n == n'
    | _ => false)
  | .inr (.inr (.inr (.inl (n, fs)))) => (match c with
    | .inr (.inr (.inr (.inl (n', fs')))) => n == n' && all2 (chkV μ ξ κ) fs fs'
    | _ => false)
  | .inr (.inr (.inr (.inr (kd, n, cs)))) => (match c with
    | .inr (.inr (.inr (.inr (kd', n', cs')))) => kd == kd' && n == n' && all2 (fun c c' => match κ[c]? with
      | some z => z == c'
      | none => false) cs cs'
    | _ => false)
theorem chkC_ok {cy : Nat → ClassId} {μ : List (Nat × Int)} {ν : List Nat} {ξ : List AV} {κ : List Nat} {σ : List Int} {φ : List (Nat → Int32)} {ω : List Value} {ad : Nat → Nat} {t c : AC} {e : va_E} (h : chkC μ ν ξ κ t c = true) (hc : gc cy σ φ ω ad c e) : gc cy (μ.map (ev σ)) (ν.map (fv φ)) (ξ.map (cv σ ω ad)) (adc ad κ) t e := by
  rcases t with ⟨ci, fs⟩ | ⟨kd, n, k⟩ | n | ⟨n, fs⟩ | ⟨kd, n, cs⟩
  · rcases c with ⟨ci', fs'⟩ | c
    · have h' : ci = ci' ∧ all2 (chkV μ ξ κ) fs fs' = true := by simpa [chkC] using h
      obtain ⟨vs, h1, h2⟩ := hc
      obtain ⟨rfl, h3⟩ := h'
      exact ⟨vs, h1, all2_ok (R := gv σ ω ad) (S := gv (μ.map (ev σ)) (ξ.map (cv σ ω ad)) (adc ad κ)) (fun _ _ _ q r => chkV_ok q r) h3 h2⟩
    · cases h
  · rcases c with c | ⟨kd', n', k'⟩ | c
    · cases h
    · simp only [chkC, Bool.and_eq_true, beq_iff_eq] at h
      obtain ⟨⟨rfl, rfl⟩, h3⟩ := h
      cases q : ν[k]? with
      | none => rw [q] at h3; cases h3
      | some z =>
        rw [q] at h3
        have h4 : z = k' := by simpa using h3
        obtain ⟨f, h1, h2⟩ := hc
        refine ⟨f, ?_, h2⟩
        rw [List.getElem?_map, q]
        show some (fv φ z) = _
        unfold fv
        rw [h4, h1]
        rfl
    · cases h
  · rcases c with c | c | n' | c
    · cases h
    · cases h
    · have h' : n = n' := by simpa [chkC] using h
      subst h'
      exact hc
    · cases h
  · rcases c with c | c | c | ⟨n', fs'⟩ | c
    · cases h
    · cases h
    · cases h
    · have h' : n = n' ∧ all2 (chkV μ ξ κ) fs fs' = true := by simpa [chkC] using h
      obtain ⟨rfl, h3⟩ := h'
      obtain ⟨f, h1, h2, h4⟩ := hc
      refine ⟨f, h1, by rw [all2_len h3, h2], fun j av hj => ?_⟩
      obtain ⟨b, g1, g2⟩ := all2_get h3 hj
      exact chkV_ok g2 (h4 j b g1)
    · cases h
  · rcases c with c | c | c | c | ⟨kd', n', cs'⟩
    · cases h
    · cases h
    · cases h
    · cases h
    · simp only [chkC, Bool.and_eq_true, beq_iff_eq] at h
      obtain ⟨⟨rfl, rfl⟩, h3⟩ := h
      obtain ⟨f, h1, h2⟩ := hc
      refine ⟨f, h1, fun j c hj => ?_⟩
      obtain ⟨b, g1, g2⟩ := all2_get h3 hj
      cases q : κ[c]? with
      | none => rw [q] at g2; cases g2
      | some z =>
        rw [q] at g2
        have h4 : z = b := by simpa using g2
        rw [h2 j b g1]
        show _ = some (ad ((κ[c]?).getD c))
        rw [q, h4]
        rfl
def chkCl (μ : List (Nat × Int)) (ν : List Nat) (ξ : List AV) (κ : List Nat) (cl : List AC) (T : List AC) : Bool := all2 (fun t c => match cl[c]? with
  | some ac => chkC μ ν ξ κ t ac
  | none => false) T κ
theorem chkCl_ok {cy : Nat → ClassId} {μ : List (Nat × Int)} {ν : List Nat} {ξ : List AV} {κ : List Nat} {σ : List Int} {φ : List (Nat → Int32)} {ω : List Value} {ad : Nat → Nat} {cl T : List AC} {ws : va_W} (h : chkCl μ ν ξ κ cl T = true) (hw : gw cy σ φ ω ad cl ws) : ∃ wc : va_W, κ.map (fun i => ws[i]?) = wc.map some ∧ gw cy (μ.map (ev σ)) (ν.map (fv φ)) (ξ.map (cv σ ω ad)) (adc ad κ) T wc := by
  have hl : T.length = κ.length := all2_len h
  have hall : ∀ (k c : Nat), κ[k]? = some c → ∃ q : Nat × va_E, ws[c]? = some q := by
    intro k c hk
    have hlt : k < T.length := by rw [hl]; exact (List.getElem?_eq_some_iff.mp hk).1
    obtain ⟨c', h1, h2⟩ := all2_get h (List.getElem?_eq_getElem hlt)
    rw [hk] at h1
    cases h1
    cases q : cl[c]? with
    | none => rw [q] at h2; cases h2
    | some ac =>
      obtain ⟨e, g1, _⟩ := hw.2 c ac q
      exact ⟨_, g1⟩
  have hmap : ∀ l : List Nat, (∀ c ∈ l, ∃ q : Nat × va_E, ws[c]? = some q) → l.map (fun i => ws[i]?) = (l.filterMap (fun i => ws[i]?)).map some := by
    intro l
    induction l with
    | nil => intro _; rfl
    | cons c r ih =>
      intro hc
      obtain ⟨q, hq⟩ := hc c (List.mem_cons_self ..)
      simp only [List.map_cons, List.filterMap_cons, hq]
      rw [ih (fun c hc' => hc c (List.mem_cons_of_mem _ hc'))]
  have hm := hmap κ (fun c hc => by
    obtain ⟨k, hk⟩ := List.mem_iff_getElem?.mp hc
    exact hall k c hk)
  refine ⟨_, hm, ?_, ?_⟩
  · have := congrArg List.length hm
    simp only [List.length_map] at this
    rw [hl, this]
  · intro k t hk
    obtain ⟨c, h1, h2⟩ := all2_get h hk
    cases q : cl[c]? with
    | none => rw [q] at h2; cases h2
    | some ac =>
      rw [q] at h2
      obtain ⟨e, g1, g2⟩ := hw.2 c ac q
      refine ⟨e, ?_, chkC_ok h2 g2⟩
      have := congrArg (fun l => l[k]?) hm
      simp only [List.getElem?_map, h1, Option.map_some, g1] at this
      cases z : (κ.filterMap (fun i => ws[i]?))[k]? with
      | none => rw [z] at this; cases this
      | some w =>
        rw [z] at this
        simp only [Option.map_some, Option.some.injEq] at this
        show _ = some (ad ((κ[k]?).getD k), e)
        rw [h1, ← this]
        rfl
def chkB (bs : BS) (cs : CS) (T : BS) (μ : List (Nat × Int)) : Bool := all2 (fun b e => match bnd bs cs e with
  | some q => decide (b.1 ≤ q.1) && decide (q.2 ≤ b.2)
  | none => false) T μ
theorem bnd_vl {bs : BS} {cs : CS} {σ : List Int} {e : Nat × Int} {q : Int × Int} (hB : zB bs σ) (h : bnd bs cs e = some q) : vl σ e (ev σ e) := by
  unfold bnd at h
  cases z : bs[e.1]? with
  | none => rw [z] at h; cases h
  | some b =>
    obtain ⟨t, h1, _⟩ := P2.get hB z
    exact ⟨t, h1, by unfold ev; rw [h1]; rfl⟩
theorem P2.mapr {α β γ : Type} {R : α → γ → Prop} {f : β → γ} : ∀ {as : List α} {bs : List β}, P2 (fun a b => R a (f b)) as bs → P2 R as (bs.map f)
  | [], [], _ => trivial
  | _ :: _, _ :: _, h => ⟨h.1, P2.mapr h.2⟩
  | [], _ :: _, h => h.elim
  | _ :: _, [], h => h.elim
theorem all2_P2 {α β : Type} {f : α → β → Bool} {R : α → β → Prop} (hf : ∀ a b, f a b = true → R a b) : ∀ {as : List α} {bs : List β}, all2 f as bs = true → P2 R as bs
  | [], [], _ => trivial
  | a :: as, b :: bs, h => by
    have h' : f a b = true ∧ all2 f as bs = true := by simpa [all2] using h
    exact ⟨hf a b h'.1, all2_P2 hf h'.2⟩
  | [], _ :: _, h => by cases h
  | _ :: _, [], h => by cases h
theorem chkB_ok {bs : BS} {cs : CS} {T : BS} {μ : List (Nat × Int)} {σ : List Int} (hB : zB bs σ) (hC : zC cs σ) (h : chkB bs cs T μ = true) : zB T (μ.map (ev σ)) := by
  refine P2.mapr (all2_P2 (fun b e hb => ?_) h)
  cases q : bnd bs cs e with
  | none => rw [q] at hb; cases hb
  | some z =>
    rw [q] at hb
    have hb' : b.1 ≤ z.1 ∧ z.2 ≤ b.2 := by simpa using hb
    have g := bnd_ok hB hC q (bnd_vl hB q)
    omega
def chkF (fb T : BS) (ν : List Nat) : Bool := all2 (fun b k => match fb[k]? with
  | some q => decide (b.1 ≤ q.1) && decide (q.2 ≤ b.2)
  | none => false) T ν
theorem chkF_ok {fb T : BS} {ν : List Nat} {φ : List (Nat → Int32)} (hF : zF fb φ) (h : chkF fb T ν = true) : zF T (ν.map (fv φ)) := by
  refine P2.mapr (all2_P2 (fun b k hb => ?_) h)
  cases q : fb[k]? with
  | none => rw [q] at hb; cases hb
  | some z =>
    rw [q] at hb
    have hb' : b.1 ≤ z.1 ∧ z.2 ≤ b.2 := by simpa using hb
    obtain ⟨f, g1, g2⟩ := P2.get hF q
    intro j
    have g3 := g2 j
    unfold fv
    rw [g1]
    dsimp only [Option.getD]
    omega
def chkS (bs : BS) (cs T : CS) (μ : List (Nat × Int)) : Bool := T.all (fun q => match μ[q.1]?, μ[q.2.1]? with
  | some x, some y => (match dubE bs cs x y with
    | some z => decide (z ≤ q.2.2) && decide (x.1 < bs.length) && decide (y.1 < bs.length)
    | none => false)
  | _, _ => false)
theorem chkS_ok {bs : BS} {cs T : CS} {μ : List (Nat × Int)} {σ : List Int} (hB : zB bs σ) (hC : zC cs σ) (h : chkS bs cs T μ = true) : zC T (μ.map (ev σ)) := by
  intro q hq
  have h1 := List.all_eq_true.mp h q hq
  cases e1 : μ[q.1]? with
  | none => rw [e1] at h1; cases h1
  | some x =>
    cases e2 : μ[q.2.1]? with
    | none => rw [e1, e2] at h1; cases h1
    | some y =>
      rw [e1, e2] at h1
      dsimp only at h1
      cases e3 : dubE bs cs x y with
      | none => rw [e3] at h1; cases h1
      | some z =>
        rw [e3] at h1
        have h2 : (z ≤ q.2.2 ∧ x.1 < bs.length) ∧ y.1 < bs.length := by simpa using h1
        have hin : ∀ e : Nat × Int, e.1 < bs.length → vl σ e (ev σ e) := fun e he => by
          obtain ⟨t, t1, _⟩ := P2.get hB (List.getElem?_eq_getElem he)
          exact ⟨t, t1, by unfold ev; rw [t1]; rfl⟩
        have g := dubE_ok hB hC (hin x h2.1.2) (hin y h2.2) e3
        refine ⟨ev σ x, ev σ y, by rw [List.getElem?_map, e1]; rfl, by rw [List.getElem?_map, e2]; rfl, by omega⟩
/-- the whole: the world T is the world w, seen by μ, ν, ξ, κ -/
def chkA (w T : AW) (μ : List (Nat × Int)) (ν : List Nat) (ξ : List AV) (κ : List Nat) : Bool := chkB w.1 w.2.2.1 T.1 μ && chkF w.2.1 T.2.1 ν && chkS w.1 w.2.2.1 T.2.2.1 μ && chkCl μ ν ξ κ w.2.2.2 T.2.2.2
theorem chkA_ok {cy : Nat → ClassId} {ω : List Value} {ad : Nat → Nat} {w T : AW} {μ : List (Nat × Int)} {ν : List Nat} {ξ : List AV} {κ : List Nat} {σ : List Int} {φ : List (Nat → Int32)} {ws : va_W} (h : chkA w T μ ν ξ κ = true) (hW : GW cy ω ad w σ φ ws) : ∃ wc : va_W, κ.map (fun i => ws[i]?) = wc.map some ∧ GW cy (ξ.map (cv σ ω ad)) (adc ad κ) T (μ.map (ev σ)) (ν.map (fv φ)) wc := by
  have h' : ((chkB w.1 w.2.2.1 T.1 μ = true ∧ chkF w.2.1 T.2.1 ν = true) ∧ chkS w.1 w.2.2.1 T.2.2.1 μ = true) ∧ chkCl μ ν ξ κ w.2.2.2 T.2.2.2 = true := by simpa [chkA] using h
  obtain ⟨⟨⟨h1, h2⟩, h3⟩, h4⟩ := h'
  obtain ⟨hB, hF, hC, hw⟩ := hW
  obtain ⟨wc, g1, g2⟩ := chkCl_ok h4 hw
  exact ⟨wc, g1, chkB_ok hB hC h1, chkF_ok hF h2, chkS_ok hB hC h3, g2⟩
