/-! a copy of a block of 21 -/
theorem cp_s {a b : Nat} {ff : Nat → Int32} : ∀ (m k : Nat) (t : Nat → Int32), k + m = 21 → (∀ j, k ≤ j → j < 21 → F_X12_copies_L3 a b ff m k t (b + j) = ff (a + j)) ∧ ∀ i, (i < b + k ∨ b + 21 ≤ i) → F_X12_copies_L3 a b ff m k t i = t i
  | 0, k, t, h => ⟨fun j h1 h2 => absurd h2 (by omega), fun _ _ => rfl⟩
  | m + 1, k, t, h => by
    obtain ⟨i1, i2⟩ := cp_s (a := a) (b := b) (ff := ff) m (k + 1) (upd t (b + k) (ff (a + k))) (by omega)
    rw [F_X12_copies_L3_s]
    refine ⟨fun j h1 h2 => ?_, fun i hi => ?_⟩
    · by_cases q : j = k
      · subst q
        rw [i2 (b + j) (Or.inl (by omega)), pk_us]
      · exact i1 j (by omega) h2
    · rw [i2 i (by omega), pk_un (by omega)]
theorem cp_y {a b j : Nat} {ff t : Nat → Int32} (h : j < 21) : F_X12_copies a b ff t (b + j) = ff (a + j) := (cp_s (21 - 0) 0 t rfl).1 j (Nat.zero_le _) h
theorem cp_n {a b i : Nat} {ff t : Nat → Int32} (h : i < b ∨ b + 21 ≤ i) : F_X12_copies a b ff t i = t i := (cp_s (21 - 0) 0 t rfl).2 i (by omega)
theorem BR_cp {np a b : Nat} {dy sr : Int32} {ae ff t : Nat → Int32} (hn : np ≤ 6) (h : BR np a dy sr ae ff) : BR np b dy sr ae (F_X12_copies a b ff t) := by
  obtain ⟨h0, h1, h2⟩ := h
  refine ⟨?_, ?_, fun q hq => ?_⟩
  · have h3 := cp_y (a := a) (b := b) (ff := ff) (t := t) (show 0 < 21 by decide)
    rw [Nat.add_zero, Nat.add_zero] at h3
    rw [h3, h0]
  · rw [cp_y (by decide), h1]
  · obtain ⟨h3, h4⟩ := h2 q hq
    rw [show b + 9 + q = b + (9 + q) by omega, cp_y (by omega), show a + (9 + q) = a + 9 + q by omega]
    exact ⟨h3, h4⟩
theorem BR_out {np a b : Nat} {dy sr : Int32} {ae ff t : Nat → Int32} {c : Nat} (hn : np ≤ 6) (hd : c + 21 ≤ b ∨ b + 21 ≤ c) (h : BR np c dy sr ae t) : BR np c dy sr ae (F_X12_copies a b ff t) := by
  obtain ⟨h0, h1, h2⟩ := h
  refine ⟨by rw [cp_n (by omega), h0], by rw [cp_n (by omega), h1], fun q hq => ?_⟩
  rw [cp_n (by omega)]
  exact h2 q hq
theorem BR_cpy {np b : Nat} {dy sr : Int32} {ae ae2 s : Nat → Int32} (hn : np ≤ 6) (h : BR np b dy sr ae s) : BR np b dy sr (va_cpy ae ae2 0 0 6) s := by
  obtain ⟨h0, h1, h2⟩ := h
  refine ⟨h0, h1, fun q hq => ?_⟩
  rw [cpy_lt (show q < 6 by omega)]
  exact h2 q hq
/-- what is undone: the k-th last of the class's ring, of the reference's row -/
def ringJ (pnx k : Nat) : Nat := (pnx + 15 - k) % 16
def UR (n np pnx pln : Nat) (pd ps : Nat → Int32) (pe : Nat → Nat → Int32) (un : Nat → Int32) : Prop := ∀ k, k < pln → BR np (21 * (pln - 1 - k)) (pd (ringJ pnx k)) (ps (ringJ pnx k)) (pe (ringJ pnx k)) un ∧ tOK n (pd (ringJ pnx k))
theorem UR_m {n n' np pnx pln : Nat} {pd ps : Nat → Int32} {pe : Nat → Nat → Int32} {un : Nat → Int32} (h : UR n np pnx pln pd ps pe un) (hn : n' ≤ n) : UR n' np pnx pln pd ps pe un := fun k hk => ⟨(h k hk).1, tOK_m (h k hk).2 hn⟩
theorem UR_0 {n np pnx : Nat} {pd ps : Nat → Int32} {pe : Nat → Nat → Int32} {un : Nat → Int32} : UR n np pnx 0 pd ps pe un := fun k hk => absurd hk (Nat.not_lt_zero k)
theorem sh_s : ∀ (m k : Nat) (a : Nat → Int32), k + m = 315 → (∀ j, k ≤ j → j < 315 → F_X12_keeps_L11 m k a j = a (j + 21)) ∧ ∀ j, (j < k ∨ 315 ≤ j) → F_X12_keeps_L11 m k a j = a j
  | 0, k, a, h => ⟨fun j h1 h2 => absurd h2 (by omega), fun _ _ => rfl⟩
  | m + 1, k, a, h => by
    obtain ⟨i1, i2⟩ := sh_s m (k + 1) (upd a k (a (k + 21))) (by omega)
    rw [F_X12_keeps_L11_s]
    refine ⟨fun j h1 h2 => ?_, fun j hj => ?_⟩
    · by_cases q : j = k
      · subst q
        rw [i2 j (Or.inl (by omega)), pk_us]
      · rw [i1 j (by omega) h2, pk_un (by omega)]
    · rw [i2 j (by omega), pk_un (by omega)]
theorem BR_sh {np b : Nat} {dy sr : Int32} {ae un : Nat → Int32} (hn : np ≤ 6) (hb : b + 21 ≤ 315) (h : BR np (b + 21) dy sr ae un) : BR np b dy sr ae (F_X12_keeps_L11 (315 - 0) 0 un) := by
  obtain ⟨h0, h1, h2⟩ := h
  have e : ∀ j, j < 315 → F_X12_keeps_L11 (315 - 0) 0 un j = un (j + 21) := fun j hj => (sh_s (315 - 0) 0 un rfl).1 j (Nat.zero_le _) hj
  refine ⟨by rw [e b (by omega), h0], by rw [e (b + 1) (by omega), show b + 1 + 21 = b + 21 + 1 by omega, h1], fun q hq => ?_⟩
  rw [e (b + 9 + q) (by omega), show b + 9 + q + 21 = b + 21 + 9 + q by omega]
  exact h2 q hq
theorem ring_0 {pnx : Nat} (h : pnx < 16) : ringJ ((pnx + 1) % 16) 0 = pnx := by
  unfold ringJ
  omega
theorem ring_k {pnx k : Nat} (h : pnx < 16) (hk : k < 15) : ringJ ((pnx + 1) % 16) (k + 1) = ringJ pnx k := by
  unfold ringJ
  omega
theorem ring_ne {pnx k : Nat} (h : pnx < 16) (hk : k < 15) : ¬ ringJ pnx k = pnx := by
  unfold ringJ
  omega
theorem ring_u {pnx k : Nat} (h : pnx < 16) (hk : k + 1 < 16) : ringJ ((pnx + 15) % 16) k = ringJ pnx (k + 1) := by
  unfold ringJ
  omega
theorem kp_16 {s un : Nat → Int32} : F_X12_keeps 16 s un = (15 + 1, F_X12_copies 0 (21 * 15) s (F_X12_keeps_L11 (315 - 0) 0 un)) := if_pos rfl
theorem kp_lt {dn : Nat} {s un : Nat → Int32} (h : dn < 16) : F_X12_keeps dn s un = (dn + 1, F_X12_copies 0 (21 * dn) s un) := if_neg (fun q => absurd (nI_inj (m := dn) (n := 16) (by omega) (by decide) q) (by omega))
/-- both remember -/
theorem UR_keep {n np pnx pln : Nat} {dy sr : Int32} {ae s un : Nat → Int32} {pd ps : Nat → Int32} {pe : Nat → Nat → Int32} (hn : np ≤ 6) (hpn : pnx < 16) (hpl : pln ≤ 16) (hb : BR np 0 dy sr ae s) (ht : tOK n dy) (h : UR n np pnx pln pd ps pe un) : (F_X12_keeps pln s un).1 = min (pln + 1) 16 ∧ UR n np ((pnx + 1) % 16) (min (pln + 1) 16) (upN pd pnx dy) (upN ps pnx sr) (upN pe pnx (va_cpy ae (pe pnx) 0 0 6)) (F_X12_keeps pln s un).2 := by
  have U : ∀ {α : Type} (f : Nat → α) (x : α), upN f pnx x pnx = x := fun f x => if_pos rfl
  have V : ∀ {α : Type} (f : Nat → α) (x : α) (j : Nat), ¬ j = pnx → upN f pnx x j = f j := fun f x j hj => if_neg hj
  rcases Nat.lt_or_ge pln 16 with c | c
  · rw [kp_lt c, show min (pln + 1) 16 = pln + 1 by omega]
    refine ⟨rfl, fun k hk => ?_⟩
    show BR np (21 * (pln + 1 - 1 - k)) _ _ _ (F_X12_copies 0 (21 * pln) s un) ∧ _
    cases k with
    | zero =>
      rw [ring_0 hpn, U, U, U, show pln + 1 - 1 - 0 = pln by omega]
      exact ⟨BR_cpy hn (BR_cp hn hb), ht⟩
    | succ k =>
      have hk2 : k < pln := by omega
      rw [ring_k hpn (by omega), V _ _ _ (ring_ne hpn (by omega)), V _ _ _ (ring_ne hpn (by omega)), V _ _ _ (ring_ne hpn (by omega)), show pln + 1 - 1 - (k + 1) = pln - 1 - k by omega]
      exact ⟨BR_out hn (Or.inl (by omega)) (h k hk2).1, (h k hk2).2⟩
  · have e16 : pln = 16 := by omega
    subst e16
    rw [kp_16]
    refine ⟨rfl, fun k hk => ?_⟩
    show BR np (21 * (16 - 1 - k)) _ _ _ (F_X12_copies 0 (21 * 15) s (F_X12_keeps_L11 (315 - 0) 0 un)) ∧ _
    cases k with
    | zero =>
      rw [ring_0 hpn, U, U, U]
      exact ⟨BR_cpy hn (BR_cp hn hb), ht⟩
    | succ k =>
      have hk1 : k + 1 < 16 := by omega
      rw [ring_k hpn (by omega), V _ _ _ (ring_ne hpn (by omega)), V _ _ _ (ring_ne hpn (by omega)), V _ _ _ (ring_ne hpn (by omega))]
      refine ⟨BR_out hn (Or.inl (by omega)) (BR_sh hn (by omega) ?_), (h k (by omega)).2⟩
      have h3 := (h k (by omega)).1
      rw [show 21 * (16 - 1 - (k + 1)) + 21 = 21 * (16 - 1 - k) by omega]
      exact h3
