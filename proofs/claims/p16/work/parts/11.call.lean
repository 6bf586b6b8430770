/-! a call by what is known of the called one; own -/
abbrev MI : Type := MethodName × ByteArray × Nat × Option FieldType
/-- the method's number; its frames and locals; how many opaque values; arguments; the world ahead; the worlds behind, each with what comes back -/
abbrev Con : Type := Nat × (Nat × Nat) × Nat × List AV × AW × List (AW × Option AV)
/-- of a thing of a kind in a world: the row that its field jr leads to, the number in its field jl, and the last symbol -/
abbrev XK : Type := List (Nat × Int) × List Nat
def isO (ci : Nat) (c : AC) : Option (List AV) := match c with
  | .inl (k, fs) => if Nat.beq k ci then some fs else none
  | _ => none
def isR (o : Option AV) : Option Nat := match o with
  | some (.inr (.inr (.inl c))) => some c
  | _ => none
def isA (o : Option AC) : Option Nat := match o with
  | some (.inr (.inl (_, _, k))) => some k
  | _ => none
def isI (o : Option AV) : Option (Nat × Int) := match o with
  | some (.inl e) => some e
  | _ => none
def xpF (w : AW) (ci jr jl : Nat) : Option XK :=
  (w.2.2.2.findSome? (isO ci)).bind fun fs => (isR fs[jr]?).bind fun c => (isI fs[jl]?).bind fun e => (isA w.2.2.2[c]?).bind fun k => some ([e, (w.1.length - 1, 0)], [k])
def xp (t : Nat) (w : AW) : Option XK := if Nat.beq t 1 then xpF w 9 0 1 else xpF w 12 2 1
/-- the methods that want it: 1 the class's reader, 2 the reference's; 100000 the law -/
def xal (m t : Nat) : Bool := if Nat.beq m 100000 then true else if Nat.beq t 1 then Nat.beq m 17 || Nat.beq m 107 else Nat.beq m 178 || Nat.beq m 189
def XPr (t : Nat) (xs : List Int) (fs : List (Nat → Int32)) : Prop := match xs, fs with
  | [x, y], [f] => 0 ≤ x ∧ x ≤ 1000 ∧ y = (fault f x.toNat).toInt ∧ (t = 1 → ∀ j, 0 ≤ (f j).toInt ∧ (f j).toInt ≤ 127)
  | _, _ => False
def XPo (t : Nat) (o : Option XK) (σ : List Int) (φ : List (Nat → Int32)) : Prop := match o with
  | some z => ∃ (xs : List Int) (fs : List (Nat → Int32)), P2 (vl σ) z.1 xs ∧ P2 (fun k f => φ[k]? = some f) z.2 fs ∧ XPr t xs fs
  | none => True
def XP (c : Con) (σ : List Int) (φ : List (Nat → Int32)) : Prop := ∀ t ∈ [1, 2], xal c.1 t = true → XPo t (xp t c.2.2.2.2.1) σ φ
def preX (D : va_G) (cy : Nat → ClassId) (ad : Nat → Nat) (av : List Value) (sz : Nat) (ws : va_W) : Array Value → State → Prop := fun args U => pre D cy av sz ws args U ∧ SF ad (va_A ws sz) U
theorem preX_blind {D : va_G} {cy : Nat → ClassId} {ad : Nat → Nat} {av : List Value} {sz : Nat} {ws : va_W} : FrameBlind (preX D cy ad av sz ws) := fun _ _ _ _ q => ⟨pre_blind _ _ _ _ q.1, SF_call q.2⟩
def ConPre (cy : Nat → ClassId) (ω : List Value) (ad : Nat → Nat) (c : Con) (σ : List Int) (φ : List (Nat → Int32)) (av : List Value) (ws : va_W) : Prop := GW cy ω ad c.2.2.2.2.1 σ φ ws ∧ P2 (gx σ ω ad) c.2.2.2.1 av ∧ ω.length = c.2.2.1 ∧ XP c σ φ
def rOK (σ : List Int) (ω : List Value) (ad : Nat → Nat) (r : Option AV) (v : Option Value) : Prop := match r with
  | none => v = none
  | some a => ∃ x : Value, v = some x ∧ gx σ ω ad a x
def ConPost (D : va_G) (cy : Nat → ClassId) (ω : List Value) (ad : Nat → Nat) (alts : List (AW × Option AV)) (σ : List Int) (φ : List (Nat → Int32)) (v : Option Value) (h : Heap) : Prop := ∃ alt ∈ alts, ∃ (τ : List Int) (ψ : List (Nat → Int32)) (ws' : va_W), GW cy ω ad alt.1 (σ ++ τ) (φ ++ ψ) ws' ∧ rOK (σ ++ τ) ω ad alt.2 v ∧ va_P D vwCl ws' h
def ConQ (ret : Option FieldType) (P : Option Value → Heap → Prop) (A : Nat → Prop) : Array Value → State → Outcome → State → Prop := match ret with
  | none => qv (fun h => P none h) A
  | some .long => ql (fun r h => P (some (.long r)) h) A
  | some _ => qi (fun r h => P (some (.int r)) h) A
def ConOK (MT : Nat → MI) (l : Launch) (c : Con) : Prop := ∀ (D : va_G) (cy : Nat → ClassId) (ω : List Value) (ad : Nat → Nat) (σ : List Int) (φ : List (Nat → Int32)) (av : List Value) (ws : va_W) (sz : Nat), ConPre cy ω ad c σ φ av ws → Met l (MT c.1).1 (Cond.code (MT c.1).1 (MT c.1).2.1 (MT c.1).2.2.1 (MT c.1).2.2.2 :: bigG) ({ frames := c.2.1.1, cells := 0, slots := 0, locals := c.2.1.2 }) (preX D cy ad av sz ws) (ConQ (MT c.1).2.2.2 (ConPost D cy ω ad c.2.2.2.2.2 σ φ) (va_A ws sz)) 0 0 (va_A ws sz)
section YR
variable {p : Program} {l : Launch} {e : Env} {R : Room} {s : State} {m : MethodId} {args : Array Value} {below : List Frame} {meth : Method} {c : Code} {H : Heap} {locs : List Loc} {Q : State → Prop} {pc : Nat} {ls : Array Slot} {rest : List Value} {D : va_G} {A : Nat → Prop} {ws wc : va_W} {H0 : Heap} {st0 : List Value} {av : Array Value}
theorem va_rest {H1 : Heap} (hP : va_P D vwCl ws H) (hD : va_D A ws) (isC : List Nat) (hC : isC.map (fun i => ws[i]?) = wc.map some) (hk : ∀ q : Nat, q < H.size → ¬ va_A wc H.size q → H1[q]? = H[q]?) (k : Nat) (q : Nat × va_E) (hq : ws[k]? = some q) (hn : k ∉ isC) : va_at D vwCl q H1 := by
  have hl := (hP k q hq).lt
  refine (hP k q hq).kept (hk q.1 hl (fun h => ?_))
  rcases h with ⟨k2, en, h⟩ | h
  · have h1 : (isC.map (fun i => ws[i]?))[k2]? = some (some (q.1, en)) := by rw [hC, List.getElem?_map, h]; rfl
    rw [List.getElem?_map] at h1
    cases hi : isC[k2]? with
    | none => rw [hi] at h1; cases h1
    | some i =>
      rw [hi] at h1
      have h2 : ws[i]? = some (q.1, en) := Option.some.inj h1
      have := hD.1 k i q (q.1, en) hq h2 rfl
      subst this
      exact hn (List.mem_of_getElem? hi)
  · omega
theorem y_v {B : Heap → Prop} (hP : va_P D vwCl ws H) (hD : va_D A ws) (hS : va_S A H0 H locs) (hA : ∀ q, H0.size ≤ q → A q) (isC : List Nat) (hC : isC.map (fun i => ws[i]?) = wc.map some)
    (hr : va_Run p l e R s m args below meth c H locs 0 0 0 0 (F0 m pc ls st0) rest (qv B (va_A wc H.size) av) (va_A wc H.size))
    (kk : ∀ (H1 : Heap) (locs1 : List Loc), B H1 → (∀ (k : Nat) (q : Nat × va_E), ws[k]? = some q → k ∉ isC → va_at D vwCl q H1) → va_S A H0 H1 locs1 → W p l e R s m args below meth c H1 locs1 0 0 Q (F0 m (pc + 3) ls rest)) : W p l e R s m args below meth c H locs 0 0 Q (F0 m pc ls st0) := by
  have hF := va_free (wc := wc) hD hS hA isC hC
  refine va_callv hr hS (fun q _ h => hF q h) hF (fun u t H1 locs1 ht hvm hw hB hz1 hk1 hS1 => ?_)
  rw [ht] at hB
  exact kk H1 locs1 hB (va_rest hP hD isC hC hk1) hS1
theorem y_i {B : Int32 → Heap → Prop} (hP : va_P D vwCl ws H) (hD : va_D A ws) (hS : va_S A H0 H locs) (hA : ∀ q, H0.size ≤ q → A q) (isC : List Nat) (hC : isC.map (fun i => ws[i]?) = wc.map some)
    (hr : va_Run p l e R s m args below meth c H locs 0 0 0 0 (F0 m pc ls st0) rest (qi B (va_A wc H.size) av) (va_A wc H.size))
    (kk : ∀ (r : Int32) (H1 : Heap) (locs1 : List Loc), B r H1 → (∀ (k : Nat) (q : Nat × va_E), ws[k]? = some q → k ∉ isC → va_at D vwCl q H1) → va_S A H0 H1 locs1 → W p l e R s m args below meth c H1 locs1 0 0 Q (F0 m (pc + 3) ls (.int r :: rest))) : W p l e R s m args below meth c H locs 0 0 Q (F0 m pc ls st0) := by
  have hF := va_free (wc := wc) hD hS hA isC hC
  refine va_calli hr hS (fun q _ h => hF q h) hF (fun r u t H1 locs1 ht hvm hw hB hz1 hk1 hS1 => ?_)
  subst hw
  rw [ht] at hB
  exact kk r H1 locs1 hB (va_rest hP hD isC hC hk1) hS1
theorem y_l {B : Int64 → Heap → Prop} (hP : va_P D vwCl ws H) (hD : va_D A ws) (hS : va_S A H0 H locs) (hA : ∀ q, H0.size ≤ q → A q) (isC : List Nat) (hC : isC.map (fun i => ws[i]?) = wc.map some)
    (hr : va_Run p l e R s m args below meth c H locs 0 0 0 0 (F0 m pc ls st0) rest (ql B (va_A wc H.size) av) (va_A wc H.size))
    (kk : ∀ (r : Int64) (H1 : Heap) (locs1 : List Loc), B r H1 → (∀ (k : Nat) (q : Nat × va_E), ws[k]? = some q → k ∉ isC → va_at D vwCl q H1) → va_S A H0 H1 locs1 → W p l e R s m args below meth c H1 locs1 0 0 Q (F0 m (pc + 3) ls (.long r :: rest))) : W p l e R s m args below meth c H locs 0 0 Q (F0 m pc ls st0) := by
  have hF := va_free (wc := wc) hD hS hA isC hC
  refine va_calll hr hS (fun q _ h => hF q h) hF (fun r u t H1 locs1 ht hvm hw hB hz1 hk1 hS1 => ?_)
  subst hw
  rw [ht] at hB
  exact kk r H1 locs1 hB (va_rest hP hD isC hC hk1) hS1
/-- all three in one -/
theorem y_c {ret : Option FieldType} {P : Option Value → Heap → Prop} (hP : va_P D vwCl ws H) (hD : va_D A ws) (hS : va_S A H0 H locs) (hA : ∀ q, H0.size ≤ q → A q) (isC : List Nat) (hC : isC.map (fun i => ws[i]?) = wc.map some)
    (hr : va_Run p l e R s m args below meth c H locs 0 0 0 0 (F0 m pc ls st0) rest (ConQ ret P (va_A wc H.size) av) (va_A wc H.size))
    (kk : ∀ (v : Option Value) (H1 : Heap) (locs1 : List Loc), P v H1 → (∀ (k : Nat) (q : Nat × va_E), ws[k]? = some q → k ∉ isC → va_at D vwCl q H1) → va_S A H0 H1 locs1 → W p l e R s m args below meth c H1 locs1 0 0 Q (F0 m (pc + 3) ls (v.toList ++ rest))) : W p l e R s m args below meth c H locs 0 0 Q (F0 m pc ls st0) := by
  unfold ConQ at hr
  split at hr
  · exact y_v hP hD hS hA isC hC hr (fun H1 locs1 hB hk hS1 => kk none H1 locs1 hB hk hS1)
  · exact y_l hP hD hS hA isC hC hr (fun r H1 locs1 hB hk hS1 => kk (some (.long r)) H1 locs1 hB hk hS1)
  · exact y_i hP hD hS hA isC hC hr (fun r H1 locs1 hB hk hS1 => kk (some (.int r)) H1 locs1 hB hk hS1)
end YR
def omap {α β : Type} (f : α → Option β) : List α → Option (List β)
  | [] => some []
  | a :: r => match f a, omap f r with
    | some b, some s => some (b :: s)
    | _, _ => none
theorem omap_get {α β : Type} {f : α → Option β} : ∀ {l : List α} {s : List β}, omap f l = some s → s.length = l.length ∧ ∀ (k : Nat) (b : β), s[k]? = some b → ∃ a, l[k]? = some a ∧ f a = some b
  | [], s, h => by
    cases h
    exact ⟨rfl, fun k b hk => by simp at hk⟩
  | a :: r, s, h => by
    unfold omap at h
    cases e1 : f a with
    | none => rw [e1] at h; cases h
    | some b =>
      cases e2 : omap f r with
      | none => rw [e1, e2] at h; cases h
      | some s' =>
        rw [e1, e2] at h
        cases h
        obtain ⟨h1, h2⟩ := omap_get e2
        refine ⟨by simp [h1], fun k b' hk => ?_⟩
        cases k with
        | zero =>
          simp at hk
          subst hk
          exact ⟨a, by simp, e1⟩
        | succ k =>
          simp at hk
          obtain ⟨a', g1, g2⟩ := h2 k b' hk
          exact ⟨a', by simpa using g1, g2⟩
theorem omap_mem {α β : Type} {f : α → Option β} {l : List α} {s : List β} {a : α} (h : omap f l = some s) (ha : a ∈ l) : ∃ b ∈ s, f a = some b := by
  obtain ⟨h1, h2⟩ := omap_get h
  obtain ⟨k, hk⟩ := List.mem_iff_getElem?.mp ha
  have hlt : k < s.length := by rw [h1]; exact (List.getElem?_eq_some_iff.mp hk).1
  obtain ⟨a', g1, g2⟩ := h2 k _ (List.getElem?_eq_getElem hlt)
  rw [hk] at g1
  cases g1
  exact ⟨_, List.getElem_mem hlt, g2⟩
def trE (μ : List (Nat × Int)) (e : Nat × Int) : Option (Nat × Int) := match μ[e.1]? with
  | some z => some (z.1, z.2 + e.2)
  | none => none
def trV (μ : List (Nat × Int)) (ξ : List AV) (κ : List Nat) (a : AV) : Option AV := match a with
  | .inl e => (match trE μ e with | some z => some (.inl z) | none => none)
  | .inr (.inl e) => (match trE μ e with | some z => some (.inr (.inl z)) | none => none)
  | .inr (.inr (.inl c)) => (match κ[c]? with | some z => some (.inr (.inr (.inl z))) | none => if decide (10000 ≤ c) then some (.inr (.inr (.inl c))) else none)
  | .inr (.inr (.inr (.inl _))) => some (.inr (.inr (.inr (.inl ()))))
  | .inr (.inr (.inr (.inr k))) => ξ[k]?
def trC (μ : List (Nat × Int)) (ν : List Nat) (ξ : List AV) (κ : List Nat) (a : AC) : Option AC := match a with
  | .inl (ci, fs) => (match omap (trV μ ξ κ) fs with | some gs => some (.inl (ci, gs)) | none => none)
  | .inr (.inl (kd, n, k)) => (match ν[k]? with | some z => some (.inr (.inl (kd, n, z))) | none => none)
  | .inr (.inr (.inl n)) => some (.inr (.inr (.inl n)))
  | .inr (.inr (.inr (.inl (n, fs)))) => (match omap (trV μ ξ κ) fs with | some gs => some (.inr (.inr (.inr (.inl (n, gs))))) | none => none)
  | .inr (.inr (.inr (.inr (kd, n, cs)))) => (match omap (fun c => κ[c]?) cs with | some gs => some (.inr (.inr (.inr (.inr (kd, n, gs))))) | none => none)
def trS (μ : List (Nat × Int)) (q : Nat × Nat × Int) : Option (Nat × Nat × Int) := match μ[q.1]?, μ[q.2.1]? with
  | some x, some y => some (x.1, y.1, y.2 + q.2.2 - x.2)
  | _, _ => none
section TR
variable {μ : List (Nat × Int)} {ν : List Nat} {ξ : List AV} {κ : List Nat} {σ σc : List Int} {φ φc : List (Nat → Int32)} {ω ωc : List Value} {ad : Nat → Nat} {cy : Nat → ClassId}
theorem trE_ok {e z : Nat × Int} {x : Int} (hμ : ∀ (k : Nat) (t : Int) (z : Nat × Int), σc[k]? = some t → μ[k]? = some z → vl σ z t) (h : trE μ e = some z) (hx : vl σc e x) : vl σ z x := by
  unfold trE at h
  cases q : μ[e.1]? with
  | none => rw [q] at h; cases h
  | some y =>
    rw [q] at h
    cases h
    obtain ⟨t, h1, h2⟩ := hx
    obtain ⟨u, g1, g2⟩ := hμ _ _ _ h1 q
    exact ⟨u, g1, by dsimp only; omega⟩
theorem trV_ok {a b : AV} {v : Value} (hμ : ∀ (k : Nat) (t : Int) (z : Nat × Int), σc[k]? = some t → μ[k]? = some z → vl σ z t) (hξ : ∀ (k : Nat) (v : Value) (z : AV), ωc[k]? = some v → ξ[k]? = some z → gv σ ω ad z v) (h : trV μ ξ κ a = some b) (hv : gv σc ωc (adc ad κ) a v) : gv σ ω ad b v := by
  rcases a with e | e | c | c | k
  · simp only [trV] at h
    cases q : trE μ e with
    | none => rw [q] at h; cases h
    | some z =>
      rw [q] at h
      cases h
      obtain ⟨x, h1, h2⟩ := hv
      exact ⟨x, h1, trE_ok hμ q h2⟩
  · simp only [trV] at h
    cases q : trE μ e with
    | none => rw [q] at h; cases h
    | some z =>
      rw [q] at h
      cases h
      obtain ⟨x, h1, h2⟩ := hv
      exact ⟨x, h1, trE_ok hμ q h2⟩
  · simp only [trV] at h
    cases q : κ[c]? with
    | none =>
      rw [q] at h
      by_cases t : decide (10000 ≤ c) = true
      · simp only [t, if_true] at h
        cases h
        have : v = .ref (ad ((κ[c]?).getD c)) := hv
        rw [q] at this
        exact this
      · simp only [t] at h
        cases h
    | some z =>
      rw [q] at h
      cases h
      have : v = .ref (ad ((κ[c]?).getD c)) := hv
      rw [q] at this
      exact this
  · cases h
    exact hv
  · exact hξ k v b hv h
theorem trC_ok {a b : AC} {en : va_E} (hμ : ∀ (k : Nat) (t : Int) (z : Nat × Int), σc[k]? = some t → μ[k]? = some z → vl σ z t) (hξ : ∀ (k : Nat) (v : Value) (z : AV), ωc[k]? = some v → ξ[k]? = some z → gv σ ω ad z v) (hν : ∀ (k : Nat) (f : Nat → Int32) (z : Nat), φc[k]? = some f → ν[k]? = some z → φ[z]? = some f) (h : trC μ ν ξ κ a = some b) (hv : gc cy σc φc ωc (adc ad κ) a en) : gc cy σ φ ω ad b en := by
  rcases a with ⟨ci, fs⟩ | ⟨kd, n, k⟩ | n | ⟨n, fs⟩ | ⟨kd, n, cs⟩
  · simp only [trC] at h
    cases q : omap (trV μ ξ κ) fs with
    | none => rw [q] at h; cases h
    | some gs =>
      rw [q] at h
      cases h
      obtain ⟨vs, h1, h2⟩ := hv
      obtain ⟨g1, g2⟩ := omap_get q
      refine ⟨vs, h1, P2.of (by rw [g1, P2.len h2]) (fun k a b hk hb => ?_)⟩
      obtain ⟨a', k1, k2⟩ := g2 k a hk
      obtain ⟨b', k3, k4⟩ := P2.get h2 k1
      rw [hb] at k3
      cases k3
      exact trV_ok hμ hξ k2 k4
  · simp only [trC] at h
    cases q : ν[k]? with
    | none => rw [q] at h; cases h
    | some z =>
      rw [q] at h
      cases h
      obtain ⟨f, h1, h2⟩ := hv
      exact ⟨f, hν k f z h1 q, h2⟩
  · cases h
    exact hv
  · simp only [trC] at h
    cases q : omap (trV μ ξ κ) fs with
    | none => rw [q] at h; cases h
    | some gs =>
      rw [q] at h
      cases h
      obtain ⟨f, h1, h2, h3⟩ := hv
      obtain ⟨g1, g2⟩ := omap_get q
      refine ⟨f, h1, by rw [g1, h2], fun j av hj => ?_⟩
      obtain ⟨a', k1, k2⟩ := g2 j av hj
      exact trV_ok hμ hξ k2 (h3 j a' k1)
  · simp only [trC] at h
    cases q : omap (fun c => κ[c]?) cs with
    | none => rw [q] at h; cases h
    | some gs =>
      rw [q] at h
      cases h
      obtain ⟨f, h1, h2⟩ := hv
      obtain ⟨g1, g2⟩ := omap_get q
      refine ⟨f, h1, fun j c hj => ?_⟩
      obtain ⟨a', k1, k2⟩ := g2 j c hj
      rw [h2 j a' k1]
      show some (ad ((κ[a']?).getD a')) = _
      rw [k2]
      rfl
theorem trS_ok {cs cs' : CS} (hμ : ∀ (k : Nat) (t : Int) (z : Nat × Int), σc[k]? = some t → μ[k]? = some z → vl σ z t) (h : omap (trS μ) cs = some cs') (hC : zC cs σc) : zC cs' σ := by
  intro q hq
  obtain ⟨k, hk⟩ := List.mem_iff_getElem?.mp hq
  obtain ⟨g1, g2⟩ := omap_get h
  obtain ⟨q0, k1, k2⟩ := g2 k q hk
  obtain ⟨x, y, h1, h2, h3⟩ := hC q0 (List.mem_of_getElem? k1)
  unfold trS at k2
  cases e1 : μ[q0.1]? with
  | none => rw [e1] at k2; cases k2
  | some a =>
    cases e2 : μ[q0.2.1]? with
    | none => rw [e1, e2] at k2; cases k2
    | some b =>
      rw [e1, e2] at k2
      cases k2
      obtain ⟨t, t1, t2⟩ := hμ _ _ _ h1 e1
      obtain ⟨u, u1, u2⟩ := hμ _ _ _ h2 e2
      exact ⟨t, u, t1, u1, by dsimp only; omega⟩
end TR
/-- what is known behind of the symbols that were there ahead -/
def refB (bs : BS) : List (Nat × Int) → BS → BS
  | e :: μ, b :: T => refB (setB bs e.1 (b.1 - e.2) (b.2 - e.2)) μ T
  | _, _ => bs
theorem refB_ok {σ : List Int} : ∀ {μ : List (Nat × Int)} {T bs : BS}, zB bs σ → (∀ (k : Nat) (e : Nat × Int) (b : Int × Int), μ[k]? = some e → T[k]? = some b → ∃ t, vl σ e t ∧ b.1 ≤ t ∧ t ≤ b.2) → zB (refB bs μ T) σ
  | [], _, _, h, _ => by
    unfold refB
    exact h
  | _ :: _, [], _, h, _ => by
    unfold refB
    exact h
  | e :: μ, b :: T, bs, h, hk => by
    refine refB_ok (bs := setB bs e.1 (b.1 - e.2) (b.2 - e.2)) (setB_ok h (fun t ht => ?_)) (fun k e' b' h1 h2 => hk (k + 1) e' b' (by simpa using h1) (by simpa using h2))
    obtain ⟨u, ⟨u1, u2, u3⟩, u4⟩ := hk 0 e b (by simp) (by simp)
    rw [ht] at u2
    cases u2
    omega
theorem refB_len : ∀ {μ : List (Nat × Int)} {T bs : BS}, (refB bs μ T).length = bs.length
  | [], _, _ => by unfold refB; rfl
  | _ :: _, [], _ => by unfold refB; rfl
  | e :: μ, b :: T, bs => by
    unfold refB
    rw [refB_len, setB_len]
def updL {α : Type} (l : List α) : List Nat → List α → List α
  | c :: cs, n :: ns => updL (l.set c n) cs ns
  | _, _ => l
theorem updL_get {α : Type} : ∀ {cs : List Nat} {ns l : List α} {k : Nat} {q : α}, cs.length = ns.length → (updL l cs ns)[k]? = some q → q ∈ ns ∨ (k ∉ cs ∧ l[k]? = some q)
  | [], [], _, _, _, _, h => Or.inr ⟨by simp, h⟩
  | c :: cs, n :: ns, l, k, q, hl, h => by
    rcases updL_get (cs := cs) (ns := ns) (l := l.set c n) (by simpa using hl) h with h1 | ⟨h1, h2⟩
    · exact Or.inl (List.mem_cons_of_mem _ h1)
    · by_cases e : k = c
      · subst e
        rw [List.getElem?_set_self'] at h2
        cases z : l[k]? with
        | none => rw [z] at h2; simp at h2
        | some w =>
          rw [z] at h2
          simp at h2
          subst h2
          exact Or.inl (List.mem_cons_self ..)
      · rw [List.getElem?_set_ne (fun z => e z.symm)] at h2
        exact Or.inr ⟨fun hm => (List.mem_cons.mp hm).elim e h1, h2⟩
  | [], _ :: _, _, _, _, hl, _ => by simp at hl
  | _ :: _, [], _, _, _, hl, _ => by simp at hl
theorem updL_len {α : Type} : ∀ {cs : List Nat} {ns l : List α}, (updL l cs ns).length = l.length
  | [], _, _ => by unfold updL; rfl
  | _ :: _, [], _ => by unfold updL; rfl
  | c :: cs, n :: ns, l => by
    unfold updL
    rw [updL_len, List.length_set]
theorem updL_gw {cy : Nat → ClassId} {σ : List Int} {φ : List (Nat → Int32)} {ω : List Value} {ad : Nat → Nat} : ∀ {κ : List Nat} {ns : List AC} {ms : va_W} {cl : List AC} {ws : va_W}, gw cy σ φ ω ad cl ws → κ.length = ns.length → κ.length = ms.length → (∀ (k c : Nat) (a : AC) (q : Nat × va_E), κ[k]? = some c → ns[k]? = some a → ms[k]? = some q → q.1 = ad c ∧ gc cy σ φ ω ad a q.2) → gw cy σ φ ω ad (updL cl κ ns) (updL ws κ ms)
  | [], [], [], _, _, h, _, _, _ => h
  | c :: κ, a :: ns, q :: ms, cl, ws, h, h1, h2, hk => by
    obtain ⟨g1, g2⟩ := hk 0 c a q (by simp) (by simp) (by simp)
    have h3 := h.set (k0 := c) g2
    rw [← g1] at h3
    exact updL_gw (κ := κ) (ns := ns) (ms := ms) h3 (by simpa using h1) (by simpa using h2) (fun k c' a' q' k1 k2 k3 => hk (k + 1) c' a' q' (by simpa using k1) (by simpa using k2) (by simpa using k3))
  | [], _ :: _, _, _, _, _, h, _, _ => by simp at h
  | _ :: _, [], _, _, _, _, h, _, _ => by simp at h
  | [], [], _ :: _, _, _, _, _, h, _ => by simp at h
  | _ :: _, _ :: _, [], _, _, _, _, h, _ => by simp at h
theorem va_D_ad {A : Nat → Prop} {ad : Nat → Nat} {ws ws' : va_W} (h : va_D A ws) (hl : ws'.length = ws.length) (h1 : ∀ (k : Nat) (q : Nat × va_E), ws[k]? = some q → q.1 = ad k) (h2 : ∀ (k : Nat) (q : Nat × va_E), ws'[k]? = some q → q.1 = ad k) : va_D A ws' := by
  have hx : ∀ (k : Nat) (q : Nat × va_E), ws'[k]? = some q → ∃ q', ws[k]? = some q' ∧ q'.1 = q.1 := by
    intro k q hq
    have hlt : k < ws.length := by rw [← hl]; exact (List.getElem?_eq_some_iff.mp hq).1
    exact ⟨_, List.getElem?_eq_getElem hlt, by rw [h1 k _ (List.getElem?_eq_getElem hlt), h2 k q hq]⟩
  refine ⟨fun i j p q hi hj hpq => ?_, fun k q hq => ?_⟩
  · obtain ⟨p', p1, p2⟩ := hx i p hi
    obtain ⟨q', q1, q2⟩ := hx j q hj
    exact h.1 i j p' q' p1 q1 (by rw [p2, q2, hpq])
  · obtain ⟨q', q1, q2⟩ := hx k q hq
    rw [← q2]
    exact h.2 k q' q1
theorem gw.ad {cy : Nat → ClassId} {σ : List Int} {φ : List (Nat → Int32)} {ω : List Value} {ad : Nat → Nat} {cl : List AC} {ws : va_W} (h : gw cy σ φ ω ad cl ws) (k : Nat) (q : Nat × va_E) (hq : ws[k]? = some q) : q.1 = ad k := by
  have hlt : k < cl.length := by rw [h.1]; exact (List.getElem?_eq_some_iff.mp hq).1
  obtain ⟨e, h1, _⟩ := h.2 k _ (List.getElem?_eq_getElem hlt)
  rw [hq] at h1
  cases h1
  rfl
def chkX (nω : Nat) (bs : BS) (cs : CS) (a : AV) : Bool := match a with
  | .inl e => (match bnd bs cs e with | some b => inR mnI mxI b.1 b.2 | none => false)
  | .inr (.inl e) => (match bnd bs cs e with | some b => inR mnL mxL b.1 b.2 | none => false)
  | .inr (.inr (.inr (.inr k))) => decide (k < nω)
  | _ => true
theorem chkX_ok {bs : BS} {cs : CS} {σ : List Int} {ω : List Value} {ad : Nat → Nat} {a : AV} (hB : zB bs σ) (hC : zC cs σ) (h : chkX ω.length bs cs a = true) : gv σ ω ad a (cv σ ω ad a) := by
  rcases a with e | e | c | c | k
  · simp only [chkX] at h
    cases q : bnd bs cs e with
    | none => rw [q] at h; cases h
    | some b =>
      rw [q] at h
      have h1 := inR_ok h
      have h2 := bnd_vl hB q
      have h3 := bnd_ok hB hC q h2
      refine ⟨_, rfl, ?_⟩
      rw [i32_of (by omega) (by omega)]
      exact h2
  · simp only [chkX] at h
    cases q : bnd bs cs e with
    | none => rw [q] at h; cases h
    | some b =>
      rw [q] at h
      have h1 := inR_ok h
      have h2 := bnd_vl hB q
      have h3 := bnd_ok hB hC q h2
      refine ⟨_, rfl, ?_⟩
      rw [i64_of (by omega) (by omega)]
      exact h2
  · rfl
  · rfl
  · have h' : k < ω.length := by simpa [chkX] using h
    show ω[k]? = some ((ω[k]?).getD .null)
    rw [List.getElem?_eq_getElem h']
    rfl
/-- symbols, rows, opaque values, cells -/
abbrev MM : Type := List (Nat × Int) × List Nat × List AV × List Nat
def altA (a : AS) (rest : List AV) (c : Con) (M : MM) (alt : AW × Option AV) : Option AS :=
  let μ := M.1 ++ (List.range (alt.1.1.length - M.1.length)).map (fun j => (a.1.1.length + j, (0 : Int)))
  let ν := M.2.1 ++ (List.range (alt.1.2.1.length - M.2.1.length)).map (fun j => a.1.2.1.length + j)
  match omap (trC μ ν M.2.2.1 M.2.2.2) alt.1.2.2.2, omap (trS μ) alt.1.2.2.1 with
  | some cl, some cs =>
    if alt.1.2.2.2.length == M.2.2.2.length then
    (let w : AW := (refB a.1.1 M.1 alt.1.1 ++ alt.1.1.drop M.1.length, a.1.2.1 ++ alt.1.2.1.drop M.2.1.length, cs ++ a.1.2.2.1, updL a.1.2.2.2 M.2.2.2 cl)
    match alt.2 with
    | none => some (w, a.2.1, rest)
    | some r => (match trV μ M.2.2.1 M.2.2.2 r with
      | some x => if isU x then none else some (w, a.2.1, x :: rest)
      | none => none)) else none
  | _, _ => none
theorem gidx {α : Type} {l : List α} {n k : Nat} {f : Nat → α} {z : α} (h : (l ++ (List.range n).map f)[k]? = some z) : l[k]? = some z ∨ (l.length ≤ k ∧ z = f (k - l.length)) := by
  by_cases q : k < l.length
  · rw [List.getElem?_append_left q] at h
    exact Or.inl h
  · rw [List.getElem?_append_right (by omega), List.getElem?_map] at h
    cases e : (List.range n)[k - l.length]? with
    | none => rw [e] at h; cases h
    | some j =>
      rw [e] at h
      have := List.getElem?_eq_some_iff.mp e
      obtain ⟨h1, h2⟩ := this
      simp at h2
      subst h2
      cases h
      exact Or.inr ⟨by omega, rfl⟩
theorem altA_ok {D : va_G} {cy : Nat → ClassId} {ω : List Value} {ad : Nat → Nat} {A : Nat → Prop} {a a' : AS} {rest : List AV} {c : Con} {M : MM} {alt : AW × Option AV} {σ τ : List Int} {φ ψ : List (Nat → Int32)} {ws wc w1 : va_W} {lv : List (Nat × Value)} {st : List Value} {v : Option Value} {H1 : Heap}
    (h : altA a rest c M alt = some a') (hW : GW cy ω ad a.1 σ φ ws) (hL : P2 (lr σ ω ad) a.2.1 lv) (hT : P2 (gx σ ω ad) rest st) (hD : va_D A ws)
    (hmu : ∀ (k : Nat) (z : Nat × Int), M.1[k]? = some z → vl σ z (ev σ z)) (hnu : ∀ (k z : Nat), M.2.1[k]? = some z → ∃ f, φ[z]? = some f) (hxi : ∀ (k : Nat) (z : AV), M.2.2.1[k]? = some z → gv σ ω ad z (cv σ ω ad z))
    (hC : M.2.2.2.map (fun i => ws[i]?) = wc.map some)
    (hW1 : GW cy (M.2.2.1.map (cv σ ω ad)) (adc ad M.2.2.2) alt.1 (M.1.map (ev σ) ++ τ) (M.2.1.map (fv φ) ++ ψ) w1) (hr : rOK (M.1.map (ev σ) ++ τ) (M.2.2.1.map (cv σ ω ad)) (adc ad M.2.2.2) alt.2 v) (hP1 : va_P D vwCl w1 H1)
    (hrest : ∀ (k : Nat) (q : Nat × va_E), ws[k]? = some q → k ∉ M.2.2.2 → va_at D vwCl q H1) :
    ∃ ws' : va_W, GS cy ω ad a' (σ ++ τ) (φ ++ ψ) ws' lv (v.toList ++ st) ∧ va_P D vwCl ws' H1 ∧ va_D A ws' := by
  obtain ⟨hB, hF, hCc, hw⟩ := hW
  obtain ⟨hB1, hF1, hC1, hw1⟩ := hW1
  unfold altA at h
  dsimp only at h
  split at h
  · rename_i cl cs q1 q2
    by_cases t : (alt.1.2.2.2.length == M.2.2.2.length) = true
    · rw [if_pos t] at h
      have t' : alt.1.2.2.2.length = M.2.2.2.length := by simpa using t
      have hlb := P2.len hB
      have hlf := P2.len hF
      have hμ : ∀ (k : Nat) (t : Int) (z : Nat × Int), (M.1.map (ev σ) ++ τ)[k]? = some t → (M.1 ++ (List.range (alt.1.1.length - M.1.length)).map (fun j => (a.1.1.length + j, (0 : Int))))[k]? = some z → vl (σ ++ τ) z t := by
        intro k t z h1 h2
        rcases gidx h2 with h3 | ⟨h3, rfl⟩
        · have hlt : k < (M.1.map (ev σ)).length := by rw [List.length_map]; exact (List.getElem?_eq_some_iff.mp h3).1
          rw [List.getElem?_append_left hlt, List.getElem?_map, h3] at h1
          cases h1
          exact (hmu k z h3).app
        · rw [List.getElem?_append_right (by rw [List.length_map]; exact h3), List.length_map] at h1
          refine ⟨t, ?_, by dsimp only; omega⟩
          dsimp only
          rw [List.getElem?_append_right (by omega), hlb]
          rw [show σ.length + (k - M.1.length) - σ.length = k - M.1.length by omega]
          exact h1
      have hν : ∀ (k : Nat) (f : Nat → Int32) (z : Nat), (M.2.1.map (fv φ) ++ ψ)[k]? = some f → (M.2.1 ++ (List.range (alt.1.2.1.length - M.2.1.length)).map (fun j => a.1.2.1.length + j))[k]? = some z → (φ ++ ψ)[z]? = some f := by
        intro k f z h1 h2
        rcases gidx h2 with h3 | ⟨h3, rfl⟩
        · have hlt : k < (M.2.1.map (fv φ)).length := by rw [List.length_map]; exact (List.getElem?_eq_some_iff.mp h3).1
          rw [List.getElem?_append_left hlt, List.getElem?_map, h3] at h1
          obtain ⟨f', hf'⟩ := hnu k z h3
          have e1 : fv φ z = f' := by unfold fv; rw [hf']; rfl
          cases h1
          rw [e1]
          exact gapp hf'
        · rw [List.getElem?_append_right (by rw [List.length_map]; exact h3), List.length_map] at h1
          rw [List.getElem?_append_right (by omega), hlf]
          rw [show φ.length + (k - M.2.1.length) - φ.length = k - M.2.1.length by omega]
          exact h1
      have hξ : ∀ (k : Nat) (v : Value) (z : AV), (M.2.2.1.map (cv σ ω ad))[k]? = some v → M.2.2.1[k]? = some z → gv (σ ++ τ) ω ad z v := by
        intro k v z h1 h2
        rw [List.getElem?_map, h2] at h1
        cases h1
        exact (hxi k z h2).app
      have lenb : alt.1.1.length = M.1.length + τ.length := by
        have := P2.len hB1
        simpa using this
      have lenf : alt.1.2.1.length = M.2.1.length + ψ.length := by
        have := P2.len hF1
        simpa using this
      have nB : zB (refB a.1.1 M.1 alt.1.1 ++ alt.1.1.drop M.1.length) (σ ++ τ) := by
        refine P2.app (refB_ok hB (fun k e b h1 h2 => ?_)) ?_
        · have hlt : k < (M.1.map (ev σ)).length := by rw [List.length_map]; exact (List.getElem?_eq_some_iff.mp h1).1
          obtain ⟨t, g1, g2⟩ := P2.get hB1 h2
          rw [List.getElem?_append_left hlt, List.getElem?_map, h1] at g1
          cases g1
          exact ⟨_, hmu k e h1, g2⟩
        · have := (P2.split M.1.length hB1).2
          rw [List.drop_left' (l₁ := M.1.map (ev σ)) (l₂ := τ) (by simp)] at this
          exact this
      have nF : zF (a.1.2.1 ++ alt.1.2.1.drop M.2.1.length) (φ ++ ψ) := by
        refine P2.app hF ?_
        have := (P2.split M.2.1.length hF1).2
        rw [List.drop_left' (l₁ := M.2.1.map (fv φ)) (l₂ := ψ) (by simp)] at this
        exact this
      have nC : zC (cs ++ a.1.2.2.1) (σ ++ τ) := by
        have c1 := trS_ok hμ q2 hC1
        intro q hq
        rcases List.mem_append.mp hq with hq | hq
        · exact c1 q hq
        · exact hCc.app q hq
      obtain ⟨o1, o2⟩ := omap_get q1
      have l1 : M.2.2.2.length = cl.length := by rw [o1, t']
      have l2 : M.2.2.2.length = w1.length := by rw [← t', hw1.1]
      have nw : gw cy (σ ++ τ) (φ ++ ψ) ω ad (updL a.1.2.2.2 M.2.2.2 cl) (updL ws M.2.2.2 w1) := by
        refine updL_gw (hw.app (τ := τ) (ψ := ψ)) l1 l2 (fun k cc ac q h1 h2 h3 => ?_)
        obtain ⟨ac', k1, k2⟩ := o2 k ac h2
        obtain ⟨en, g1, g2⟩ := hw1.2 k ac' k1
        rw [h3] at g1
        cases g1
        refine ⟨?_, trC_ok hμ hξ hν k2 g2⟩
        show ad ((M.2.2.2[k]?).getD k) = ad cc
        rw [h1]
        rfl
      have nP : va_P D vwCl (updL ws M.2.2.2 w1) H1 := by
        intro k q hq
        rcases updL_get l2 hq with g | ⟨g1, g2⟩
        · obtain ⟨j, hj⟩ := List.mem_iff_getElem?.mp g
          exact hP1 j q hj
        · exact hrest k q g2 g1
      have nD : va_D A (updL ws M.2.2.2 w1) := va_D_ad hD updL_len (fun k q hq => hw.ad k q hq) (fun k q hq => nw.ad k q hq)
      refine ⟨updL ws M.2.2.2 w1, ?_, nP, nD⟩
      cases e : alt.2 with
      | none =>
        rw [e] at h hr
        cases h
        have hv : v = none := hr
        subst hv
        exact ⟨⟨nB, nF, nC, nw⟩, hL.mono (fun _ _ h => h.app), hT.mono (fun _ _ h => h.app)⟩
      | some r =>
        rw [e] at h hr
        dsimp only at h
        obtain ⟨x, rfl, hx⟩ := hr
        cases e2 : trV (M.1 ++ (List.range (alt.1.1.length - M.1.length)).map (fun j => (a.1.1.length + j, (0 : Int)))) M.2.2.1 M.2.2.2 r with
        | none => rw [e2] at h; cases h
        | some y =>
          rw [e2] at h
          dsimp only at h
          by_cases u : isU y = true
          · rw [if_pos u] at h
            cases h
          · rw [if_neg u] at h
            cases h
            exact ⟨⟨nB, nF, nC, nw⟩, hL.mono (fun _ _ h => h.app), (trV_ok hμ hξ e2 hx.1).cat (by simpa using u), hT.mono (fun _ _ h => h.app)⟩
    · rw [if_neg t] at h
      cases h
  · cases h
