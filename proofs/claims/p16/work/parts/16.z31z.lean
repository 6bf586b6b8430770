/-- how deep one is, and what was opened, behind a code -/
def dStep (c : Int32) (q : Nat × (Nat → Int32)) : Nat × (Nat → Int32) := if c = 28 ∨ c = 30 then (q.1 + 1, upd q.2 (q.1 + 1) (if c = 30 then 1 else 0)) else if c = 20 ∨ c = 21 ∨ c = 22 ∨ c = 24 ∨ c = 25 ∨ c = 26 ∨ c = 27 then q else (ppN q.2 (if c = 29 then q.1 - 1 else q.1), q.2)
def dAt (cd : Nat → Int32) (cf : Nat) (b : Nat → Int32) : Nat → Nat × (Nat → Int32)
  | 0 => (0, b)
  | n + 1 => dStep (cd (cf + n)) (dAt cd cf b n)
def dOKc (c : Int32) (d : Nat) : Prop := ((c = 28 ∨ c = 30) → d < 6) ∧ (c = 29 → 1 ≤ d)
def dWF (cd : Nat → Int32) (cf ct : Nat) : Prop := ∀ (b : Nat → Int32) (k : Nat), cf ≤ k → k < ct → dOKc (cd k) (dAt cd cf b (k - cf)).1
theorem dAt_s {cd : Nat → Int32} {cf k : Nat} {b : Nat → Int32} (h : cf ≤ k) : dAt cd cf b (k + 1 - cf) = dStep (cd k) (dAt cd cf b (k - cf)) := by
  rw [show k + 1 - cf = (k - cf) + 1 by omega]
  show dStep (cd (cf + (k - cf))) _ = _
  rw [show cf + (k - cf) = k by omega]
theorem dS_open {c : Int32} {d : Nat} {b : Nat → Int32} {x : Int32} (h : c = 28 ∨ c = 30) (hx : (if c = 30 then 1 else 0) = x) : dStep c (d, b) = (d + 1, upd b (d + 1) x) := by
  unfold dStep
  rw [if_pos h, hx]
theorem dS_op {c : Int32} {q : Nat × (Nat → Int32)} (h0 : ¬ (c = 28 ∨ c = 30)) (h : c = 20 ∨ c = 21 ∨ c = 22 ∨ c = 24 ∨ c = 25 ∨ c = 26 ∨ c = 27) : dStep c q = q := by
  unfold dStep
  rw [if_neg h0, if_pos h]
theorem dS_val {c : Int32} {d e : Nat} {b : Nat → Int32} (h0 : ¬ (c = 28 ∨ c = 30)) (h : ¬ (c = 20 ∨ c = 21 ∨ c = 22 ∨ c = 24 ∨ c = 25 ∨ c = 26 ∨ c = 27)) (he : e = ppN b (if c = 29 then d - 1 else d)) : dStep c (d, b) = (e, b) := by
  unfold dStep
  rw [if_neg h0, if_neg h, he]
def kpA (h : Nat) (a a2 : Nat → Int32) : Prop := ∀ k, k < h → a2 k = a k
def kpL (h : Nat) (a a2 : Nat → Int64) : Prop := ∀ k, k < h → a2 k = a k
def eNN (cd : Nat → Int32) : Prop := ∀ k, 0 ≤ (cd k).toInt
theorem eNN_u {cd : Nat → Int32} {j : Nat} {c : Int32} (h : eNN cd) (hc : 0 ≤ c.toInt) : eNN (upd cd j c) := by
  intro k
  by_cases q : k = j
  · rw [q, pk_us]
    exact hc
  · rw [pk_un q]
    exact h k
/-- the codes so far: how deep one is by them, that none opens or closes too far -/
def eWF (cd op : Nat → Int32) (i d : Nat) : Prop := (∀ b, (dAt cd 1000 b i).1 = d ∧ ∀ e, 1 ≤ e → e ≤ d → ((dAt cd 1000 b i).2 e = 1 ↔ op e = 1)) ∧ ∀ (b : Nat → Int32) (k : Nat), k < i → dOKc (cd (1000 + k)) (dAt cd 1000 b k).1
theorem dAt_c {cd : Nat → Int32} {i : Nat} {c : Int32} {b : Nat → Int32} : ∀ k, k ≤ i → dAt (upd cd (1000 + i) c) 1000 b k = dAt cd 1000 b k
  | 0, _ => rfl
  | k + 1, h => by
    show dStep (upd cd (1000 + i) c (1000 + k)) (dAt (upd cd (1000 + i) c) 1000 b k) = dStep (cd (1000 + k)) (dAt cd 1000 b k)
    rw [dAt_c k (by omega), pk_un (by omega)]
theorem dAt_n {cd : Nat → Int32} {i : Nat} {c : Int32} {b : Nat → Int32} : dAt (upd cd (1000 + i) c) 1000 b (i + 1) = dStep c (dAt cd 1000 b i) := by
  show dStep (upd cd (1000 + i) c (1000 + i)) (dAt (upd cd (1000 + i) c) 1000 b i) = _
  rw [pk_us, dAt_c i (Nat.le_refl _)]
theorem eW_0 {cd op : Nat → Int32} : eWF cd op 0 0 := ⟨fun b => ⟨rfl, fun e h1 h2 => absurd h2 (by omega)⟩, fun b k h => absurd h (Nat.not_lt_zero k)⟩
theorem eW_all {cd op op' : Nat → Int32} {i d d' : Nat} {c : Int32} (h : eWF cd op i d) (hok : dOKc c d) (hs : ∀ bb : Nat → Int32, (∀ e, 1 ≤ e → e ≤ d → (bb e = 1 ↔ op e = 1)) → (dStep c (d, bb)).1 = d' ∧ ∀ e, 1 ≤ e → e ≤ d' → ((dStep c (d, bb)).2 e = 1 ↔ op' e = 1)) : eWF (upd cd (1000 + i) c) op' (i + 1) d' := by
  refine ⟨fun b => ?_, fun b k hk => ?_⟩
  · obtain ⟨h1, h2⟩ := h.1 b
    rw [dAt_n]
    have e : dAt cd 1000 b i = (d, (dAt cd 1000 b i).2) := Prod.ext h1 rfl
    rw [e]
    exact hs _ h2
  · by_cases q : k = i
    · subst q
      rw [pk_us, dAt_c k (Nat.le_refl _), (h.1 b).1]
      exact hok
    · rw [pk_un (by omega), dAt_c k (by omega)]
      exact h.2 b k (by omega)
theorem eW_o {cd op : Nat → Int32} {i d : Nat} {c x : Int32} (h : eWF cd op i d) (hd : d < 5) (hc : c = 28 ∨ c = 30) (hx : (c = 30 ∧ x = 1) ∨ (c = 28 ∧ x = 2)) : eWF (upd cd (1000 + i) c) (upd op (d + 1) x) (i + 1) (d + 1) := by
  refine eW_all h ⟨fun _ => by omega, fun q => ?_⟩ (fun bb hb => ?_)
  · rcases hc with rfl | rfl <;> exact absurd q (by decide)
  · rw [dS_open hc rfl]
    refine ⟨rfl, fun e h1 h2 => ?_⟩
    show upd bb (d + 1) (if c = 30 then 1 else 0) e = 1 ↔ _
    by_cases q : e = d + 1
    · subst q
      rw [pk_us, pk_us]
      rcases hx with ⟨rfl, rfl⟩ | ⟨rfl, rfl⟩ <;> decide
    · rw [pk_un q, pk_un q]
      exact hb e h1 (by omega)
theorem ppN_c {a b : Nat → Int32} : ∀ d, (∀ e, 1 ≤ e → e ≤ d → (a e = 1 ↔ b e = 1)) → ppN a d = ppN b d
  | 0, _ => rfl
  | d + 1, h => by
    have ih := ppN_c d (fun e h1 h2 => h e h1 (Nat.le_succ_of_le h2))
    have h1 := h (d + 1) (Nat.succ_le_succ (Nat.zero_le d)) (Nat.le_refl _)
    show (if a (d + 1) = 1 then ppN a d else d + 1) = (if b (d + 1) = 1 then ppN b d else d + 1)
    by_cases q : a (d + 1) = 1
    · rw [if_pos q, if_pos (h1.mp q), ih]
    · rw [if_neg q, if_neg (fun z => q (h1.mpr z))]
def vNS (c : Int32) : Prop := ¬ (c = 28 ∨ c = 30) ∧ ¬ (c = 20 ∨ c = 21 ∨ c = 22 ∨ c = 24 ∨ c = 25 ∨ c = 26 ∨ c = 27) ∧ ¬ c = 29
theorem eW_v {cd op : Nat → Int32} {i d : Nat} {c : Int32} (h : eWF cd op i d) (hc : vNS c) : eWF (upd cd (1000 + i) c) op (i + 1) (ppN op d) := by
  obtain ⟨c1, c2, c3⟩ := hc
  refine eW_all h ⟨fun q => absurd q c1, fun q => absurd q c3⟩ (fun bb hb => ?_)
  rw [dS_val c1 c2 (e := ppN bb d) (by rw [if_neg c3])]
  exact ⟨ppN_c d hb, fun e h1 h2 => hb e h1 (Nat.le_trans h2 (ppN_le d))⟩
theorem eW_j {cd op : Nat → Int32} {i d : Nat} {c : Int32} (h : eWF cd op i d) (hc : c = 20 ∨ c = 21 ∨ c = 22 ∨ c = 24 ∨ c = 25 ∨ c = 26 ∨ c = 27) : eWF (upd cd (1000 + i) c) op (i + 1) d := by
  have c1 : ¬ (c = 28 ∨ c = 30) ∧ ¬ c = 29 := by rcases hc with rfl | rfl | rfl | rfl | rfl | rfl | rfl <;> decide
  refine eW_all h ⟨fun q => absurd q c1.1, fun q => absurd q c1.2⟩ (fun bb hb => ?_)
  rw [dS_op c1.1 hc]
  exact ⟨rfl, hb⟩
theorem eW_c {cd op : Nat → Int32} {i kd : Nat} (h : eWF cd op i (kd + 1)) : eWF (upd cd (1000 + i) 29) op (i + 1) (ppN op kd) := by
  refine eW_all h ⟨fun q => absurd q (by decide), fun _ => Nat.succ_le_succ (Nat.zero_le kd)⟩ (fun bb hb => ?_)
  rw [dS_val (by decide) (by decide) (e := ppN bb kd) (by rw [if_pos rfl, Nat.add_sub_cancel])]
  exact ⟨ppN_c kd (fun e h1 h2 => hb e h1 (Nat.le_succ_of_le h2)), fun e h1 h2 => hb e h1 (Nat.le_succ_of_le (Nat.le_trans h2 (ppN_le kd)))⟩
theorem eW_d {cd op : Nat → Int32} {i d : Nat} (h : eWF cd op i d) : dWF cd 1000 (1000 + i) := by
  intro b k h1 h2
  have h3 := h.2 b (k - 1000) (by omega)
  rw [show 1000 + (k - 1000) = k by omega] at h3
  exact h3
theorem v_n {c : Int32} (h : (0 ≤ c.toInt ∧ c.toInt ≤ 5) ∨ 100 ≤ c.toInt) : vNS c := by
  refine ⟨fun q => ?_, fun q => ?_, fun q => ?_⟩
  · rcases q with rfl | rfl <;> exact absurd h (by decide)
  · rcases q with rfl | rfl | rfl | rfl | rfl | rfl | rfl <;> exact absurd h (by decide)
  · subst q
    exact absurd h (by decide)
theorem v_0 {c : Int32} (h : (0 ≤ c.toInt ∧ c.toInt ≤ 5) ∨ 100 ≤ c.toInt) : 0 ≤ c.toInt := by omega
theorem v_f {c : Int32} (h1 : 0 < c) (h2 : c ≤ 5) : (0 ≤ c.toInt ∧ c.toInt ≤ 5) ∨ 100 ≤ c.toInt := by
  rw [Int32.lt_iff_toInt_lt] at h1
  rw [Int32.le_iff_toInt_le] at h2
  have e0 : (0 : Int32).toInt = 0 := rfl
  have e5 : (5 : Int32).toInt = 5 := rfl
  omega
theorem tV_r {f : Nat → Int32} {L n : Nat} (h : tK f L n = 2) : 0 ≤ (tV f L n).toInt ∧ (tV f L n).toInt ≤ 9999 := by
  obtain ⟨h1, h2⟩ := tK2_inv h
  have h3 : 0 ≤ (tV f L n).toInt ∧ (tV f L n).toInt < ((10 ^ (tN f L n - tP f L n) : Nat) : Int) := dg_b _ h1 h2
  have h4 : 10 ^ (tN f L n - tP f L n) ≤ 10 ^ 4 := Nat.pow_le_pow_right (by decide) h1
  omega
theorem v_t {f : Nat → Int32} {L n : Nat} {td : Int32} (q2 : tK f L n = 2 → td = tV f L n) (h : tK f L n = 2) : (0 ≤ (100 + td).toInt ∧ (100 + td).toInt ≤ 5) ∨ 100 ≤ (100 + td).toInt := by
  have h1 := tV_r h
  rw [q2 h]
  have e : (100 : Int32).toInt = 100 := rfl
  rw [i32_add (by rw [e]; unfold mnI; omega) (by rw [e]; unfold mxI; omega), e]
  omega
def eLaw (lf lt cd : Nat → Int32) : Prop := ∃ c2, 1000 ≤ c2 ∧ c2 ≤ 2000 ∧ lf 1 = nI 1000 ∧ lt 1 = nI c2 ∧ dWF cd 1000 c2
theorem eLaw_0 {lf lt cd : Nat → Int32} (h1 : lf 1 = nI 1000) (h2 : lt 1 = nI 1000) : eLaw lf lt cd := ⟨1000, Nat.le_refl _, by decide, h1, h2, fun b k a1 a2 => absurd a2 (by omega)⟩
def cuOK (zu : Nat → Int32) : Prop := ∀ j, j < 12 → vp_in (zu j) 64
theorem cu_or : ∀ j, j < 64 → ∀ b, b < 6 → ¬ ((nI j ||| ((1 : Int32) <<< (nI b &&& 31))) < 0 ∨ 64 ≤ (nI j ||| ((1 : Int32) <<< (nI b &&& 31))).toNatClampNeg) := by decide +kernel
theorem cu_0 {z : Nat → Int32} {j : Nat} (h : cuOK z) : cuOK (upd z j 0) := by
  intro k hk
  by_cases q : k = j
  · rw [q, pk_us]
    exact vin (by decide)
  · rw [pk_un q]
    exact h k hk
theorem cu_o {z : Nat → Int32} {j b : Nat} (h : cuOK z) (hb : b < 6) : cuOK (upd z j (z j ||| ((1 : Int32) <<< (nI b &&& 31)))) := by
  intro k hk
  by_cases q : k = j
  · subst q
    rw [pk_us]
    obtain ⟨a, ha, e⟩ := vp_in_of (h k hk) (by decide)
    rw [e]
    exact cu_or a ha b hb
  · rw [pk_un q]
    exact h k hk
/-- what was read, of the class and of the reference -/
def pRel (np : Nat) (kd hg ta vo rk rh rt rv : Nat → Int32) : Prop := ∀ q, q < np → rk (6 + q) = kd q ∧ rh (6 + q) = hg q ∧ rt (6 + q) = ta q ∧ rv (6 + q) = vo q
theorem pRel_s {np : Nat} {kd hg ta vo rk rh rt rv : Nat → Int32} {a b c d : Int32} (h : pRel np kd hg ta vo rk rh rt rv) : pRel (np + 1) (upd kd np a) (upd hg np b) (upd ta np c) (upd vo np d) (upd rk (6 + np) a) (upd rh (6 + np) b) (upd rt (6 + np) c) (upd rv (6 + np) d) := by
  intro q hq
  by_cases e : q = np
  · subst e
    simp only [pk_us]
    exact ⟨trivial, trivial, trivial, trivial⟩
  · have e1 : ∀ (f : Nat → Int32) x, upd f np x q = f q := fun f x => pk_un e
    have e2 : ∀ (f : Nat → Int32) x, upd f (6 + np) x (6 + q) = f (6 + q) := fun f x => pk_un (by omega)
    simp only [e1, e2]
    exact h q (by omega)
def dRel (nd : Nat) (bi sa co rb rs rc : Nat → Int32) : Prop := ∀ q, q < nd → rb (5 + q) = bi q ∧ rs (5 + q) = sa q ∧ rc (5 + q) = co q
theorem dRel_s {nd : Nat} {bi sa co rb rs rc : Nat → Int32} {a b c : Int32} (h : dRel nd bi sa co rb rs rc) : dRel (nd + 1) (upd bi nd a) (upd sa nd b) (upd co nd c) (upd rb (5 + nd) a) (upd rs (5 + nd) b) (upd rc (5 + nd) c) := by
  intro q hq
  by_cases e : q = nd
  · subst e
    simp only [pk_us]
    exact ⟨trivial, trivial, trivial⟩
  · have e1 : ∀ (f : Nat → Int32) x, upd f nd x q = f q := fun f x => pk_un e
    have e2 : ∀ (f : Nat → Int32) x, upd f (5 + nd) x (5 + q) = f (5 + q) := fun f x => pk_un (by omega)
    simp only [e1, e2]
    exact h q (by omega)
def kRel (np : Nat) (sf st rsf rst : Nat → Int32) : Prop := ∀ q, q < np → (sf q = -1 ∧ st q = -1 ∧ rsf (6 + q) = 1000 ∧ rst (6 + q) = -1) ∨ (sf q = rsf (6 + q) ∧ st q = rst (6 + q))
theorem kRel_p {np : Nat} {sf st rsf rst : Nat → Int32} (h : kRel np sf st rsf rst) (h1 : sf np = -1) (h2 : st np = -1) : kRel (np + 1) sf st (upd rsf (6 + np) 1000) (upd rst (6 + np) (-1)) := by
  intro q hq
  by_cases e : q = np
  · subst e
    rw [pk_us, pk_us]
    exact Or.inl ⟨h1, h2, rfl, rfl⟩
  · rw [pk_un (by omega), pk_un (by omega)]
    exact h q (by omega)
theorem kRel_s {np a : Nat} {sf st rsf rst : Nat → Int32} {x y : Int32} (h : kRel np sf st rsf rst) : kRel np (upd sf a x) (upd st a y) (upd rsf (6 + a) x) (upd rst (6 + a) y) := by
  intro q hq
  by_cases e : q = a
  · subst e
    rw [pk_us, pk_us, pk_us, pk_us]
    exact Or.inr ⟨rfl, rfl⟩
  · rw [pk_un e, pk_un e, pk_un (by omega), pk_un (by omega)]
    exact h q hq
