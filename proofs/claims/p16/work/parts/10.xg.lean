def rz : Lit := lits.getD 30 ("", 0, "", [])
theorem rz_ok : lits[30]? = some rz := rfl
/-! the words that are kept, by both sides; names; own -/
def r27 : List Int64 := [232608281, 126232693, 10662899, 12001681, 85814, 1254763, 375050, 70517, 2770, 380630, 131638, 555, 10502465, 358472, 10256063, 3692, 15777049, 286880, 383153, 119360, 8740238, 110110480, 6688714, 11263, 10631, 1111, 423]
def kcds (bs : List Int32) : Nat → Nat → Int64 → List Int64
  | 0, _, _ => []
  | m + 1, i, code => if bs.getD i 0 = 32 then code :: kcds bs m (i + 1) 0 else kcds bs m (i + 1) (code * 32 + (bs.getD i 0 - 97 + 1).toInt64)
theorem kcds_y {bs : List Int32} {m i : Nat} {code : Int64} (h : bs.getD i 0 = 32) : kcds bs (m + 1) i code = code :: kcds bs m (i + 1) 0 := by
  show (if bs.getD i 0 = 32 then code :: kcds bs m (i + 1) 0 else _) = _
  rw [if_pos h]
theorem kcds_n {bs : List Int32} {m i : Nat} {code : Int64} (h : ¬ bs.getD i 0 = 32) : kcds bs (m + 1) i code = kcds bs m (i + 1) (code * 32 + (bs.getD i 0 - 97 + 1).toInt64) := by
  show (if bs.getD i 0 = 32 then _ else kcds bs m (i + 1) (code * 32 + (bs.getD i 0 - 97 + 1).toInt64)) = _
  rw [if_neg h]
theorem nmG_c {bs : List Int32} {w : Int64} : ∀ (m i : Nat) (code : Int64), nmG bs w m i code = true ↔ w ∉ kcds bs m i code
  | 0, i, code => by simp [nmG, kcds]
  | m + 1, i, code => by
    by_cases h : bs.getD i 0 = 32
    · by_cases e : code = w
      · rw [nmG_y h e, kcds_y h, e]
        simp
      · rw [nmG_n h e, nmG_c m (i + 1) 0, kcds_y h]
        simp only [List.mem_cons, not_or]
        exact ⟨fun q => ⟨fun z => e z.symm, q⟩, fun q => q.2⟩
    · rw [nmG_l h, nmG_c m (i + 1) _, kcds_n h]
theorem kcds_rz : (kcds rz.2.2.2 rz.2.2.2.length 0 0).map cvt = [232608281, 126232693, 10662899, 12001681, 85814, 1254763, 375050, 70517, 2770, 380630, 131638, 555, 10502465, 358472, 10256063, 3692, 15777049, 286880, 383153, 119360, 8740238, 110110480, 6688714, 11263, 10631, 1111, 423] ∧ (kcds rz.2.2.2 rz.2.2.2.length 0 0).map (fun c => bkt (cvt c)) = kcds rz.2.2.2 rz.2.2.2.length 0 0 := by decide +kernel
theorem r27_s : ∀ c, c ∈ (kcds rz.2.2.2 rz.2.2.2.length 0 0).map cvt ↔ c ∈ r27 := by
  intro c
  rw [kcds_rz.1]
  have h : ∀ x ∈ ([232608281, 126232693, 10662899, 12001681, 85814, 1254763, 375050, 70517, 2770, 380630, 131638, 555, 10502465, 358472, 10256063, 3692, 15777049, 286880, 383153, 119360, 8740238, 110110480, 6688714, 11263, 10631, 1111, 423] : List Int64), x ∈ r27 := by decide +kernel
  have h' : ∀ x ∈ r27, x ∈ ([232608281, 126232693, 10662899, 12001681, 85814, 1254763, 375050, 70517, 2770, 380630, 131638, 555, 10502465, 358472, 10256063, 3692, 15777049, 286880, 383153, 119360, 8740238, 110110480, 6688714, 11263, 10631, 1111, 423] : List Int64) := by decide +kernel
  exact ⟨h c, h' c⟩
section KP
variable {f : Nat → Int32} {L n : Nat}
theorem nm_iff (h : tK f L n = 1) : nmR rz.2.2.2 (tW f L n) = true ↔ rW f L n ∉ r27 := by
  unfold nmR
  rw [nmG_c, ← r27_s]
  constructor
  · intro q e
    obtain ⟨c, h1, h2⟩ := List.mem_map.mp e
    have h3 : bkt (cvt c) = c := by
      have := kcds_rz.2
      obtain ⟨k, hk⟩ := List.getElem?_of_mem h1
      have h4 : ((kcds rz.2.2.2 rz.2.2.2.length 0 0).map (fun c => bkt (cvt c)))[k]? = some (bkt (cvt c)) := by rw [List.getElem?_map, hk]; rfl
      rw [this, hk] at h4
      exact (Option.some.inj h4).symm
    rw [h2, tW_b h] at h3
    rw [h3] at q
    exact q h1
  · intro q e
    exact q (List.mem_map.mpr ⟨_, e, (rW_c h).symm⟩)
theorem tK3_lt (h : tK f L n = 3) : tP f L n < L := by
  by_cases q : tP f L n < L
  · exact q
  · exact absurd ((tK_0 q).1.symm.trans h) (by decide)
end KP
/-- names as the reference keeps them -/
def nmRel (pn rp : Nat → Int64) (off np : Nat) : Prop := ∀ i, i < np → rp (off + i) = cvt (pn i) ∧ bkt (cvt (pn i)) = pn i
theorem pnG_rel {pn rp : Nat → Int64} {off np : Nat} {w : Int64} (hw : bkt (cvt w) = w) (h : nmRel pn rp off np) : ∀ (m i : Nat), i + m ≤ np → pnG (fun q => rp (off + q)) (cvt w) i m = pnG pn w i m
  | 0, _, _ => rfl
  | m + 1, i, hi => by
    have h1 := h i (by omega)
    by_cases e : pn i = w
    · rw [pnG_y e, pnG_y (by show rp (off + i) = cvt w; rw [h1.1, e])]
    · rw [pnG_n e, pnG_n (fun q => e (by
        have q' : rp (off + i) = cvt w := q
        rw [← h1.2, ← h1.1, q', hw]))]
      exact pnG_rel hw h m (i + 1) (by omega)
theorem pnF_rel {pn rp : Nat → Int64} {off np : Nat} {w : Int64} (hw : bkt (cvt w) = w) (h : nmRel pn rp off np) : pnF (fun q => rp (off + q)) np (cvt w) = pnF pn np w := pnG_rel hw h np 0 (by omega)
def sB2 (f : Nat → Int32) (L : Nat) (w : Int64) (lo hi : Int32) (n : Nat) : PR (Nat × Int32) := match sWord f L w n with
  | .inl F => .inl F
  | .inr n1 => sNum f L lo hi n1
theorem pnF_ge {F : Nat → Int64} {m : Nat} {w : Int64} (hm : m ≤ 1000) : (0 ≤ pnF F m w ↔ ¬ pnF F m w = -1) ∧ (pnF F m w < 0 ↔ pnF F m w = -1) := by
  by_cases h : pnF F m w = -1
  · rw [h]
    decide
  · obtain ⟨j, h1, h2⟩ := pnF_ix h
    rw [h2]
    exact ⟨⟨fun _ => nI_nm1 (by omega), fun _ => nI_pos' (by omega)⟩, ⟨fun q => absurd q (nI_pos (by omega)), fun q => absurd q (nI_nm1 (by omega))⟩⟩
theorem cvW {f : Nat → Int32} {L n : Nat} (h : tK f L n = 1) : bkt (cvt (tW f L n)) = tW f L n := by rw [← rW_c h, tW_b h]
