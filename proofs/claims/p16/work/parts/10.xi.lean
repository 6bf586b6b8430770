/-! what waits with the class and the levels of the reference: both read E alike; own -/
def es_b (v : Int32) : Int := (bnd3 v).toInt
theorem es_b_r (v : Int32) : 0 ≤ es_b v ∧ es_b v ≤ 4 := by
  unfold es_b
  rcases bnd3_r v with e | e | e | e | e <;> rw [e] <;> decide
theorem es_b_e {v k : Int32} : bnd3 v = k ↔ es_b v = k.toInt := Int32.toInt_inj.symm
theorem es_b_l {v k : Int32} : bnd3 v < k ↔ es_b v < k.toInt := Int32.lt_iff_toInt_lt
theorem es_b6 : es_b (-6) = 0 := by decide
theorem es_b14 : es_b (-14) = 0 := by decide
theorem es_b15 : es_b (-15) = 0 := by decide
theorem es_t1 : (1 : Int32).toInt = 1 := rfl
theorem es_t2 : (2 : Int32).toInt = 2 := rfl
theorem es_t3 : (3 : Int32).toInt = 3 := rfl
theorem es_t4 : (4 : Int32).toInt = 4 := rfl
def es_lev (wt : Nat → Int32) (a w : Nat) : Prop := a ≤ w ∧ (∀ j, a ≤ j → j < w → 1 ≤ es_b (wt j)) ∧ (∀ j, a ≤ j → j + 1 < w → es_b (wt j) < es_b (wt (j + 1)))
def es_two (wt : Nat → Int32) (a w : Nat) : Prop := ∃ j, a ≤ j ∧ j < w ∧ es_b (wt j) = 2
section ESL
variable {wt wt' : Nat → Int32} {a w : Nat}
theorem es_lev_c (h : ∀ j, j < w → wt' j = wt j) (q : es_lev wt a w) : es_lev wt' a w :=
  ⟨q.1, fun j h1 h2 => by rw [h j h2]; exact q.2.1 j h1 h2, fun j h1 h2 => by rw [h j (by omega), h (j + 1) h2]; exact q.2.2 j h1 h2⟩
theorem es_lev_s {w' : Nat} (h1 : a ≤ w') (h2 : w' ≤ w) (q : es_lev wt a w) : es_lev wt a w' :=
  ⟨h1, fun j a1 a2 => q.2.1 j a1 (by omega), fun j a1 a2 => q.2.2 j a1 (by omega)⟩
theorem es_two_c (h : ∀ j, j < w → wt' j = wt j) : es_two wt' a w ↔ es_two wt a w := by
  constructor
  · rintro ⟨j, a1, a2, a3⟩
    exact ⟨j, a1, a2, by rw [← h j a2]; exact a3⟩
  · rintro ⟨j, a1, a2, a3⟩
    exact ⟨j, a1, a2, by rw [h j a2]; exact a3⟩
theorem es_mono (q : es_lev wt a w) {i : Nat} (hi : a ≤ i) : ∀ j, i < j → j < w → es_b (wt i) < es_b (wt j)
  | 0, h1, _ => absurd h1 (Nat.not_lt_zero _)
  | j + 1, h1, h2 => by
    have h3 := q.2.2 j (by omega) h2
    by_cases e : i = j
    · rw [e]
      exact h3
    · exact Int.lt_trans (es_mono q hi j (by omega) (by omega)) h3
theorem es_ge (q : es_lev wt a w) : ∀ k : Nat, a + k < w → (k : Int) + 1 ≤ es_b (wt (a + k))
  | 0, h => by
    have h1 := q.2.1 a (Nat.le_refl _) (by omega)
    show ((0 : Nat) : Int) + 1 ≤ es_b (wt a)
    omega
  | k + 1, h => by
    have h1 := es_ge q k (by omega)
    have h2 := q.2.2 (a + k) (by omega) (by omega)
    show ((k + 1 : Nat) : Int) + 1 ≤ es_b (wt (a + k + 1))
    omega
theorem es_len (q : es_lev wt a w) : w ≤ a + 4 := by
  refine Nat.le_of_not_lt fun h => ?_
  have h1 := es_ge q 4 h
  have h2 := (es_b_r (wt (a + 4))).2
  omega
theorem es_lev_0 : es_lev wt a a := ⟨Nat.le_refl _, fun j h1 h2 => absurd h2 (by omega), fun j h1 h2 => absurd h2 (by omega)⟩
theorem es_two_0 : ¬ es_two wt a a := by
  rintro ⟨j, z1, z2, _⟩
  omega
end ESL
theorem es_setJ {wt : Nat → Int32} {lo : Int32} (hlo : 1 ≤ lo.toInt) {a : Nat} (hb : a = 0 ∨ es_b (wt (a - 1)) = 0) : ∀ w, es_lev wt a w → a ≤ setJ wt lo w ∧ setJ wt lo w ≤ w ∧ (∀ j, setJ wt lo w ≤ j → j < w → lo.toInt ≤ es_b (wt j)) ∧ (∀ j, a ≤ j → j < setJ wt lo w → es_b (wt j) < lo.toInt)
  | 0, q => ⟨q.1, Nat.le_refl _, fun j _ h => absurd h (Nat.not_lt_zero j), fun j _ h => absurd h (Nat.not_lt_zero j)⟩
  | w + 1, q => by
    by_cases e : bnd3 (wt w) < lo
    · rw [setJ_y e]
      refine ⟨q.1, Nat.le_refl _, fun j h1 h2 => absurd h2 (by omega), fun j h1 h2 => ?_⟩
      have e1 := es_b_l.mp e
      by_cases ej : j = w
      · rw [ej]
        exact e1
      · exact Int.lt_trans (es_mono q h1 w (by omega) (Nat.lt_succ_self w)) e1
    · rw [setJ_n e]
      have e1 : lo.toInt ≤ es_b (wt w) := Int.not_lt.mp (fun z => e (es_b_l.mpr z))
      have ha : a ≤ w := by
        refine Nat.le_of_not_lt fun h => ?_
        have h1 := q.1
        have h2 : a = w + 1 := by omega
        rcases hb with h3 | h3
        · omega
        · rw [h2] at h3
          have h4 : es_b (wt w) = 0 := h3
          omega
      obtain ⟨i1, i2, i3, i4⟩ := es_setJ hlo hb w (es_lev_s ha (Nat.le_succ w) q)
      refine ⟨i1, by omega, fun j h1 h2 => ?_, i4⟩
      by_cases ej : j = w
      · rw [ej]
        exact e1
      · exact i3 j h1 (by omega)
theorem es_setJ1 {wt : Nat → Int32} {a w : Nat} (hb : a = 0 ∨ es_b (wt (a - 1)) = 0) (q : es_lev wt a w) : setJ wt 1 w = a := by
  obtain ⟨i1, i2, i3, i4⟩ := es_setJ (lo := 1) (by decide) hb w q
  refine Nat.le_antisymm (Nat.le_of_not_lt fun z => ?_) i1
  have z1 := i4 a (Nat.le_refl _) z
  have z2 := q.2.1 a (Nat.le_refl _) (Nat.lt_of_lt_of_le z i2)
  rw [es_t1] at z1
  omega
theorem es_ls {wt : Nat → Int32} {a w : Nat} (hb : a = 0 ∨ es_b (wt (a - 1)) = 0) (q : es_lev wt a w) : bnd3 (lsW wt (setJ wt 3 w)) = 2 ↔ es_two wt a w := by
  obtain ⟨i1, i2, i3, i4⟩ := es_setJ (lo := 3) (by decide) hb w q
  rw [es_b_e]
  simp only [es_t3] at i3 i4
  simp only [es_t2]
  generalize setJ wt 3 w = w3 at i1 i2 i3 i4 ⊢
  cases w3 with
  | zero =>
    constructor
    · intro z
      have z' : es_b (-15) = 2 := z
      rw [es_b15] at z'
      exact absurd z' (by decide)
    · rintro ⟨j, z1, z2, z3⟩
      have := i3 j (Nat.zero_le _) z2
      omega
  | succ v =>
    show es_b (wt v) = 2 ↔ _
    constructor
    · intro z
      by_cases ea : a ≤ v
      · exact ⟨v, ea, by omega, z⟩
      · have ea2 : a = v + 1 := by omega
        rcases hb with h | h
        · omega
        · rw [ea2] at h
          have h' : es_b (wt v) = 0 := h
          omega
    · rintro ⟨j, z1, z2, z3⟩
      have hj : j < v + 1 := Nat.lt_of_not_le fun z => by
        have := i3 j z z2
        omega
      have hv := i4 v (by omega) (Nat.lt_succ_self v)
      by_cases e : j = v
      · rw [← e]
        exact z3
      · have := es_mono q z1 v (by omega) (by omega)
        omega
def es_SB (wt opn cmp : Nat → Int32) : Nat → Nat → Prop
  | 0, a => a = 0
  | d + 1, a => ∃ a0 a1, a = a1 + 1 ∧ es_SB wt opn cmp d a0 ∧ es_lev wt a0 a1 ∧ (¬ cmp d = 0 ↔ es_two wt a0 a1) ∧ (0 < d → opn d = 1 → a1 = a0) ∧ ((opn (d + 1) = 1 ∧ wt a1 = -6) ∨ (opn (d + 1) = 2 ∧ wt a1 = -14))
def es_SR (wt opn cmp : Nat → Int32) (d w : Nat) : Prop := ∃ a, es_SB wt opn cmp d a ∧ es_lev wt a w ∧ (¬ cmp d = 0 ↔ es_two wt a w) ∧ (0 < d → opn d = 1 → w = a)
section ESS
variable {wt wt' opn opn' cmp cmp' : Nat → Int32}
theorem es_SB_s {d a : Nat} : es_SB wt opn cmp (d + 1) a ↔ ∃ a1, a = a1 + 1 ∧ es_SR wt opn cmp d a1 ∧ ((opn (d + 1) = 1 ∧ wt a1 = -6) ∨ (opn (d + 1) = 2 ∧ wt a1 = -14)) := by
  constructor
  · intro h
    obtain ⟨a0, a1, h1, h2, h3, h4, h5, h6⟩ := h
    exact ⟨a1, h1, ⟨a0, h2, h3, h4, h5⟩, h6⟩
  · intro h
    obtain ⟨a1, h1, ⟨a0, h2, h3, h4, h5⟩, h6⟩ := h
    exact ⟨a0, a1, h1, h2, h3, h4, h5, h6⟩
theorem es_SB_le : ∀ d a, es_SB wt opn cmp d a → a ≤ 5 * d
  | 0, a, h => by
    have h' : a = 0 := h
    omega
  | d + 1, a, h => by
    obtain ⟨a0, a1, h1, h2, h3, _⟩ := h
    have := es_SB_le d a0 h2
    have := es_len h3
    omega
theorem es_SR_le {d w : Nat} (h : es_SR wt opn cmp d w) : w ≤ 5 * d + 4 := by
  obtain ⟨a, h1, h2, _⟩ := h
  have := es_SB_le d a h1
  have := es_len h2
  omega
theorem es_SB_b {d a : Nat} (h : es_SB wt opn cmp d a) : a = 0 ∨ es_b (wt (a - 1)) = 0 := by
  cases d with
  | zero => exact Or.inl h
  | succ d =>
    obtain ⟨a0, a1, h1, _, _, _, _, h6⟩ := h
    refine Or.inr ?_
    rw [h1, Nat.add_sub_cancel]
    rcases h6 with q | q
    · rw [q.2]
      exact es_b6
    · rw [q.2]
      exact es_b14
theorem es_SB_c : ∀ d a, (∀ j, j < a → wt' j = wt j) → (∀ j, j ≤ d → opn' j = opn j) → (∀ j, j < d → cmp' j = cmp j) → es_SB wt opn cmp d a → es_SB wt' opn' cmp' d a
  | 0, _, _, _, _, h => h
  | d + 1, a, hw, ho, hc, h => by
    obtain ⟨a0, a1, h1, h2, h3, h4, h5, h6⟩ := h
    have hl := h3.1
    refine ⟨a0, a1, h1, es_SB_c d a0 (fun j hj => hw j (by omega)) (fun j hj => ho j (by omega)) (fun j hj => hc j (by omega)) h2, es_lev_c (fun j hj => hw j (by omega)) h3, ?_, ?_, ?_⟩
    · rw [hc d (Nat.lt_succ_self d), es_two_c (wt := wt) (wt' := wt') (a := a0) (w := a1) (fun j hj => hw j (by omega))]
      exact h4
    · rw [ho d (Nat.le_succ d)]
      exact h5
    · rw [ho (d + 1) (Nat.le_refl _), hw a1 (by omega)]
      exact h6
theorem es_SR_c {d w : Nat} (hw : ∀ j, j < w → wt' j = wt j) (ho : ∀ j, j ≤ d → opn' j = opn j) (hc : ∀ j, j ≤ d → cmp' j = cmp j) (h : es_SR wt opn cmp d w) : es_SR wt' opn' cmp' d w := by
  obtain ⟨a, h1, h2, h3, h4⟩ := h
  have hl := h2.1
  refine ⟨a, es_SB_c d a (fun j hj => hw j (by omega)) ho (fun j hj => hc j (by omega)) h1, es_lev_c hw h2, ?_, ?_⟩
  · rw [hc d (Nat.le_refl _), es_two_c (wt := wt) (wt' := wt') (a := a) (w := w) hw]
    exact h3
  · rw [ho d (Nat.le_refl _)]
    exact h4
def es_cnt (opn : Nat → Int32) : Nat → Nat
  | 0 => 0
  | d + 1 => if opn (d + 1) = 1 then es_cnt opn d else es_cnt opn d + 1
theorem es_cnt_y {d : Nat} (h : opn (d + 1) = 1) : es_cnt opn (d + 1) = es_cnt opn d := by
  show (if opn (d + 1) = 1 then es_cnt opn d else es_cnt opn d + 1) = _
  rw [if_pos h]
theorem es_cnt_n {d : Nat} (h : ¬ opn (d + 1) = 1) : es_cnt opn (d + 1) = es_cnt opn d + 1 := by
  show (if opn (d + 1) = 1 then es_cnt opn d else es_cnt opn d + 1) = _
  rw [if_neg h]
theorem es_cnt_le : ∀ d, es_cnt opn d ≤ d
  | 0 => Nat.le_refl _
  | d + 1 => by
    have h := es_cnt_le d
    by_cases e : opn (d + 1) = 1
    · rw [es_cnt_y e]
      omega
    · rw [es_cnt_n e]
      omega
theorem es_cnt_c : ∀ d, (∀ j, j ≤ d → opn' j = opn j) → es_cnt opn' d = es_cnt opn d
  | 0, _ => rfl
  | d + 1, h => by
    have h1 := es_cnt_c d (fun j hj => h j (by omega))
    have h2 := h (d + 1) (Nat.le_refl _)
    by_cases e : opn (d + 1) = 1
    · rw [es_cnt_y e, es_cnt_y (h2.trans e), h1]
    · rw [es_cnt_n e, es_cnt_n (fun z => e (h2.symm.trans z)), h1]
theorem es_cnt_p : ∀ d, es_cnt opn (ppN opn d) = es_cnt opn d
  | 0 => rfl
  | d + 1 => by
    by_cases e : opn (d + 1) = 1
    · rw [ppN_y e, es_cnt_y e]
      exact es_cnt_p d
    · rw [ppN_n (Or.inr e)]
theorem es_cnt_0 {d : Nat} (hn : d = 0 ∨ ¬ opn d = 1) : es_cnt opn d = 0 ↔ d = 0 := by
  cases d with
  | zero => exact ⟨fun _ => rfl, fun _ => rfl⟩
  | succ d =>
    have h := es_cnt_n (hn.resolve_left (Nat.succ_ne_zero d))
    constructor <;> (intro q; omega)
theorem es_pop : ∀ d, ppN opn d = 0 ∨ ¬ opn (ppN opn d) = 1
  | 0 => Or.inl rfl
  | d + 1 => by
    by_cases h : opn (d + 1) = 1
    · rw [ppN_y h]
      exact es_pop d
    · rw [ppN_n (Or.inr h)]
      exact Or.inr h
theorem es_setN0 {w : Nat} {dp : Int32} (h : w = 0 ∨ ¬ wt (w - 1) = -6) : setN wt w dp = (w, dp) := by
  cases w with
  | zero => rfl
  | succ w => exact setN_n (h.resolve_left (Nat.succ_ne_zero w))
theorem es_top {d w : Nat} (h : es_SR wt opn cmp d w) (hn : d = 0 ∨ ¬ opn d = 1) : w = 0 ∨ ¬ wt (w - 1) = -6 := by
  obtain ⟨a, h1, h2, h3, h4⟩ := h
  by_cases e : a < w
  · refine Or.inr fun q => ?_
    have h5 := h2.2.1 (w - 1) (by omega) (by omega)
    rw [q, es_b6] at h5
    omega
  · have ew : w = a := by
      have := h2.1
      omega
    rw [ew]
    cases d with
    | zero => exact Or.inl h1
    | succ d =>
      obtain ⟨a0, a1, q1, _, _, _, _, q6⟩ := h1
      refine Or.inr ?_
      rw [q1, Nat.add_sub_cancel]
      rcases q6 with z | z
      · exact absurd z.1 (hn.resolve_left (Nat.succ_ne_zero d))
      · rw [z.2]
        decide
theorem es_setN : ∀ d w, d ≤ 5 → es_SR wt opn cmp d w → ∃ w2, setN wt w (nI d) = (w2, nI (ppN opn d)) ∧ es_SR wt opn cmp (ppN opn d) w2
  | 0, w, _, h => ⟨w, es_setN0 (es_top h (Or.inl rfl)), h⟩
  | d + 1, w, hd, h => by
    by_cases e : opn (d + 1) = 1
    · obtain ⟨a, h1, h2, h3, h4⟩ := h
      have ew := h4 (Nat.succ_pos d) e
      obtain ⟨a1, q1, q2, q3⟩ := es_SB_s.mp h1
      have q4 : wt a1 = -6 := q3.elim (fun z => z.2) (fun z => absurd (e.symm.trans z.1) (by decide))
      rw [ew, q1, setN_y q4, nI_pred d, ppN_y e]
      exact es_setN d a1 (by omega) q2
    · have e1 := es_setN0 (dp := nI (d + 1)) (es_top h (Or.inr e))
      rw [ppN_n (Or.inr e)]
      exact ⟨w, e1, h⟩
theorem es_push {a w w' : Nat} {x : Int32} {lo : Int} (q : es_lev wt a w) (hx : es_b x = lo) (h1 : 1 ≤ lo) (hw1 : a ≤ w') (hw2 : w' ≤ w) (hl : ∀ j, a ≤ j → j < w' → es_b (wt j) < lo) : es_lev (upd wt w' x) a (w' + 1) := by
  refine ⟨by omega, fun j h2 h3 => ?_, fun j h2 h3 => ?_⟩
  · by_cases e : j = w'
    · rw [e, pk_us, hx]
      exact h1
    · rw [pk_un e]
      exact q.2.1 j h2 (by omega)
  · have e1 : j ≠ w' := by omega
    rw [pk_un e1]
    by_cases e : j + 1 = w'
    · rw [e, pk_us, hx]
      exact hl j h2 (by omega)
    · rw [pk_un e]
      exact q.2.2 j h2 (by omega)
theorem es_SR_push {d a w w' : Nat} {x : Int32} {lo : Int} (hd : d = 0 ∨ ¬ opn d = 1) (h1 : es_SB wt opn cmp d a) (h2 : es_lev wt a w) (hx : es_b x = lo) (h0 : 1 ≤ lo) (hw1 : a ≤ w') (hw2 : w' ≤ w) (hl : ∀ j, a ≤ j → j < w' → es_b (wt j) < lo) (hc : ∀ j, j < d → cmp' j = cmp j) (ht : ¬ cmp' d = 0 ↔ es_two (upd wt w' x) a (w' + 1)) : es_SR (upd wt w' x) opn cmp' d (w' + 1) :=
  ⟨a, es_SB_c d a (fun j hj => pk_un (by omega)) (fun _ _ => rfl) hc h1, es_push h2 hx h0 hw1 hw2 hl, ht, fun z1 z2 => absurd z2 (hd.resolve_left (by omega))⟩
theorem es_two_p {a w w' : Nat} {x : Int32} {lo : Int} (hx : es_b x = lo) (h3 : 3 ≤ lo) (hw2 : w' ≤ w) (hg : ∀ j, w' ≤ j → j < w → lo ≤ es_b (wt j)) : es_two wt a w ↔ es_two (upd wt w' x) a (w' + 1) := by
  constructor
  · rintro ⟨j, z1, z2, z3⟩
    have hj : j < w' := Nat.lt_of_not_le fun z => by
      have := hg j z z2
      omega
    exact ⟨j, z1, by omega, by rw [pk_un (by omega)]; exact z3⟩
  · rintro ⟨j, z1, z2, z3⟩
    by_cases e : j = w'
    · rw [e, pk_us] at z3
      omega
    · rw [pk_un e] at z3
      exact ⟨j, z1, by omega, z3⟩
theorem adW_lt {w : Nat} {x : Int32} (h : w < 40) : adW wt w x = upd wt w x := by
  unfold adW
  rw [if_pos h]
theorem adN_lt {w : Nat} (h : w < 40) : adN w = w + 1 := by
  unfold adN
  rw [if_pos h]
end ESS
theorem es_rE {f : Nat → Int32} {L : Nat} : ∀ (k n : Nat) (wa : Int32) (wt opn cmp : Nat → Int32) (w d : Nat), d ≤ 5 → es_SR wt opn cmp d w → (wa = 0 → d = 0 ∨ ¬ opn d = 1) → es_E f L k wa n d opn cmp = eR f L k wa n wt w (nI d) (nI (es_cnt opn d))
  | 0, _, _, _, _, _, _, _, _, _, _ => rfl
  | k + 1, n, wa, wt, opn, cmp, w, d, hd, hS, hw => by
    have hle := es_SR_le hS
    by_cases h0 : wa = 0
    · have hn := hw h0
      have hcn := es_cnt_0 hn
      have hcl := es_cnt_le (opn := opn) d
      have hS2 := hS
      obtain ⟨a, s1, s2, s3, s4⟩ := hS2
      have hb := es_SB_b s1
      have hal := s2.1
      by_cases h9 : (tK f L n = 3 ∧ f (tP f L n) = 59)
      · have hj := jt_59 h9
        have h41 : ¬ (tK f L n = 3 ∧ f (tP f L n) = 41) := fun q => absurd (q.2.symm.trans h9.2) (by decide)
        by_cases e : d = 0
        · rw [es_E_J9 h0 h9 e, eR_J9 h0 ⟨h9, by rw [hcn.mpr e]; rfl⟩]
        · have hop : ¬ nI (es_cnt opn d) = 0 := fun q => e (hcn.mp (nI_inj (n := 0) (by omega) (by decide) q))
          rw [es_E_Jf h0 hj (fun q => h41 q.1) (fun q => e q.1), eR_Jf h0 (fun q => hop q.2) (fun q => h41 q.1) (Or.inl hj)]
      · by_cases hc : (tK f L n = 3 ∧ f (tP f L n) = 41)
        · have hj := jt_41 hc
          cases d with
          | zero =>
            have hz : ¬ (0 : Int32) < nI (es_cnt opn 0) := by
              show ¬ (0 : Int32) < nI 0
              decide
            rw [es_E_Jf h0 hj (fun q => absurd q.2 (Nat.lt_irrefl 0)) (fun q => h9 q.2), eR_Jf h0 (fun q => h9 q.1) (fun q => hz q.2) (Or.inl hj)]
          | succ d =>
            have ho : ¬ opn (d + 1) = 1 := hn.resolve_left (Nat.succ_ne_zero d)
            obtain ⟨a1, q1, q2, q3⟩ := es_SB_s.mp s1
            have hja := es_setJ1 hb s2
            have hop : es_cnt opn (d + 1) = es_cnt opn d + 1 := es_cnt_n ho
            have hlt : (0 : Int32) < nI (es_cnt opn (d + 1)) := nI_lt (a := 0) (by omega) (by omega)
            obtain ⟨w2, n1, n2⟩ := es_setN d a1 (by omega) q2
            have hr := es_rE (f := f) (L := L) k (tN f L n) 0 wt opn cmp w2 (ppN opn d) (Nat.le_trans (ppN_le d) (by omega)) n2 (fun _ => es_pop d)
            rw [es_E_Jc h0 hc, eR_J1 h0 (fun q => h9 q.1) ⟨hc, hlt⟩, hja, q1, Nat.add_sub_cancel, nI_pred d, hop, nI_pred (es_cnt opn d), n1, hr, es_cnt_p]
        · rcases bnd3_r (jt f L n) with hj | hj | hj | hj | hj
          · rw [es_E_Jf h0 hj (fun q => hc q.1) (fun q => h9 q.2), eR_Jf h0 (fun q => h9 q.1) (fun q => hc q.1) (Or.inl hj)]
          · have hja := es_setJ1 hb s2
            have hx := es_b_e.mp hj
            have hw4 : a < 40 := by omega
            rw [es_E_J1 h0 hj, eR_Jn h0 (fun q => h9 q.1) (fun q => hc q.1) (by rw [hj]; decide) (by rw [hj]; decide), hj, hja, adW_lt hw4, adN_lt hw4]
            refine es_rE (f := f) (L := L) k (tN f L n) 1 (upd wt a (jt f L n)) opn (upd cmp d 0) (a + 1) d hd (es_SR_push hn s1 s2 hx (by decide) (Nat.le_refl _) s2.1 (fun j z1 z2 => absurd z2 (by omega)) (fun j hj => pk_un (by omega)) ?_) (fun q => absurd q (by decide))
            constructor
            · intro q
              exact absurd pk_us q
            · rintro ⟨j, z1, z2, z3⟩
              have ej : j = a := by omega
              rw [ej, pk_us, hx, es_t1] at z3
              omega
          · have h3 := es_setJ (lo := 3) (by decide) hb w s2
            have hl3 : es_lev wt a (setJ wt 3 w) := es_lev_s h3.1 h3.2.1 s2
            have hls := es_ls hb s2
            have hx := es_b_e.mp hj
            by_cases e : cmp d = 0
            · have hnt : ¬ es_two wt a w := fun z => s3.mpr z e
              have h2 := es_setJ (lo := 2) (by decide) hb _ hl3
              have hw4 : setJ wt 2 (setJ wt 3 w) < 40 := by
                have z1 := h2.2.1
                have z2 := h3.2.1
                omega
              rw [es_E_J2 h0 hj e, eR_J2 h0 (fun q => h9 q.1) (fun q => hc q.1) hj (fun z => hnt (hls.mp z)), hj, adW_lt hw4, adN_lt hw4]
              refine es_rE (f := f) (L := L) k (tN f L n) 1 (upd wt (setJ wt 2 (setJ wt 3 w)) (jt f L n)) opn (upd cmp d 1) (setJ wt 2 (setJ wt 3 w) + 1) d hd (es_SR_push hn s1 hl3 hx (by decide) h2.1 h2.2.1 h2.2.2.2 (fun j hj => pk_un (by omega)) ?_) (fun q => absurd q (by decide))
              constructor
              · intro _
                exact ⟨_, h2.1, Nat.lt_succ_self _, by rw [pk_us]; exact hx⟩
              · intro _ q
                exact absurd (pk_us.symm.trans q) (by decide)
            · have ht : es_two wt a w := s3.mp e
              rw [es_E_J0 h0 hj e, eR_Jf h0 (fun q => h9 q.1) (fun q => hc q.1) (Or.inr ⟨hj, hls.mpr ht⟩)]
          · have hh := es_setJ (lo := 3) (by decide) hb w s2
            have hx := es_b_e.mp hj
            have hw4 : setJ wt 3 w < 40 := by
              have z2 := hh.2.1
              omega
            rw [es_E_J4 h0 (Or.inl hj), eR_Jn h0 (fun q => h9 q.1) (fun q => hc q.1) (by rw [hj]; decide) (by rw [hj]; decide), hj, adW_lt hw4, adN_lt hw4]
            exact es_rE (f := f) (L := L) k (tN f L n) 1 (upd wt (setJ wt 3 w) (jt f L n)) opn cmp (setJ wt 3 w + 1) d hd (es_SR_push hn s1 s2 hx (by decide) hh.1 hh.2.1 hh.2.2.2 (fun _ _ => rfl) (s3.trans (es_two_p hx (by decide) hh.2.1 hh.2.2.1))) (fun q => absurd q (by decide))
          · have hh := es_setJ (lo := 4) (by decide) hb w s2
            have hx := es_b_e.mp hj
            have hw4 : setJ wt 4 w < 40 := by
              have z2 := hh.2.1
              omega
            rw [es_E_J4 h0 (Or.inr hj), eR_Jn h0 (fun q => h9 q.1) (fun q => hc q.1) (by rw [hj]; decide) (by rw [hj]; decide), hj, adW_lt hw4, adN_lt hw4]
            exact es_rE (f := f) (L := L) k (tN f L n) 1 (upd wt (setJ wt 4 w) (jt f L n)) opn cmp (setJ wt 4 w + 1) d hd (es_SR_push hn s1 s2 hx (by decide) hh.1 hh.2.1 hh.2.2.2 (fun _ _ => rfl) (s3.trans (es_two_p hx (by decide) hh.2.1 hh.2.2.1))) (fun q => absurd q (by decide))
    · by_cases h1 : pt f L n = -15
      · rw [es_E_P1 h0 h1, eR_P1 h0 h1]
      · by_cases h2 : d < 5
        · have hdp : nI d < 5 := nI_lt (b := 5) h2 (by decide)
          by_cases h3 : pt f L n = -6 ∨ pt f L n = -14
          · have hw4 : w < 40 := by omega
            have hc0 : ∀ x, es_cnt (upd opn (d + 1) x) d = es_cnt opn d := fun x => es_cnt_c d (fun j hj => pk_un (by omega))
            have hop : nI (es_cnt opn d) + (if pt f L n = -14 then 1 else 0) = nI (es_cnt (upd opn (d + 1) (if pt f L n = -6 then 1 else 2)) (d + 1)) := by
              rcases h3 with h3 | h3
              · rw [if_neg (by rw [h3]; decide), if_pos h3, es_cnt_y pk_us, hc0, Int32.add_zero]
              · rw [if_pos h3, if_neg (by rw [h3]; decide), es_cnt_n (by rw [pk_us]; decide), hc0, nI_1]
            rw [es_E_Pa h0 h1 h2 h3, eR_Pa h0 h1 hdp h3, adW_lt hw4, adN_lt hw4, nI_1 d, hop]
            refine es_rE (f := f) (L := L) k (tN f L n) 1 (upd wt w (pt f L n)) _ _ (w + 1) (d + 1) (by omega) ⟨w + 1, es_SB_s.mpr ⟨w, rfl, es_SR_c (fun j hj => pk_un (by omega)) (fun j hj => pk_un (by omega)) (fun j hj => pk_un (by omega)) hS, ?_⟩, es_lev_0, ⟨fun q => absurd pk_us q, fun q => absurd q es_two_0⟩, fun _ _ => rfl⟩ (fun q => absurd q (by decide))
            rcases h3 with h3 | h3
            · exact Or.inl ⟨by rw [pk_us, if_pos h3], by rw [pk_us, h3]⟩
            · exact Or.inr ⟨by rw [pk_us, if_neg (by rw [h3]; decide)], by rw [pk_us, h3]⟩
          · obtain ⟨w2, n1, n2⟩ := es_setN d w hd hS
            have hr := es_rE (f := f) (L := L) k (tN f L n) 0 wt opn cmp w2 (ppN opn d) (Nat.le_trans (ppN_le d) hd) n2 (fun _ => es_pop d)
            rw [es_E_Pb h0 h1 h2 h3, eR_Pb h0 h1 hdp h3, n1, hr, es_cnt_p]
        · have hdp : ¬ nI d < 5 := nI_nlt (a := d) (b := 5) (by omega) (by omega)
          rw [es_E_P5 h0 h1 h2, eR_P5 h0 h1 hdp]
theorem es_E_eR {f : Nat → Int32} {L k n : Nat} {wt opn cmp : Nat → Int32} : es_E f L k 1 n 0 opn (upd cmp 0 0) = eR f L k 1 n wt 0 0 0 :=
  es_rE k n 1 wt opn (upd cmp 0 0) 0 0 (Nat.zero_le _) ⟨0, rfl, es_lev_0, ⟨fun q => absurd pk_us q, fun q => absurd q es_two_0⟩, fun q => absurd q (Nat.lt_irrefl 0)⟩ (fun q => absurd q (by decide))
