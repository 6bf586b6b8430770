def stp (L : Nat) (v : Int32) : Nat := if (v = 10 ∨ (32 ≤ v ∧ v ≤ 126)) ∧ L < 1000 then L + 1 else L
def byt (w : Int64) (k : Nat) : Int32 := ((w.toUInt64 >>> ((nI (56 - 8 * k)).toInt64.toUInt64 &&& Int64.toUInt64 63)).toInt64 &&& 255).toInt32
def cb (L : Nat) (w : Int64) : Nat → Nat
  | 0 => L
  | k + 1 => stp (cb L w k) (byt w k)
theorem stp_yes {L : Nat} {v : Int32} (h : v = 10 ∨ (32 ≤ v ∧ v ≤ 126)) (hL : L < 1000) : stp L v = L + 1 := if_pos ⟨h, hL⟩
theorem stp_no {L : Nat} {v : Int32} (h : ¬ (v = 10 ∨ (32 ≤ v ∧ v ≤ 126))) : stp L v = L := if_neg fun q => h q.1
theorem stp_full {L : Nat} {v : Int32} (h : ¬ L < 1000) : stp L v = L := if_neg fun q => h q.2
theorem stp_le {L : Nat} {v : Int32} (h : L ≤ 1000) : stp L v ≤ 1000 := by
  unfold stp
  split <;> omega
theorem cb_le {L : Nat} (w : Int64) (h : L ≤ 1000) : ∀ k, cb L w k ≤ 1000
  | 0 => h
  | k + 1 => stp_le (cb_le w h k)
theorem e56 {k : Nat} (h : k < 8) : (56 : Int32) - nI (8 * k) = nI (56 - 8 * k) := pk_sub (a := 56) (by omega)
theorem nI_lt1000 {n : Nat} (h : n ≤ 1000) (c : ¬ (1000 : Int32) ≤ nI n) : n < 1000 := Nat.lt_of_not_le fun q => c (nI_le (a := 1000) q (by omega))
theorem nI_ge1000 {n : Nat} (h : n ≤ 1000) (c : (1000 : Int32) ≤ nI n) : ¬ n < 1000 := fun q => nI_ge (b := 1000) q (by decide) c
def pck (a b c : Int64) (k : Nat) : Int64 := if k < 8 then a else if k < 16 then b else c
def cm (T : Nat) (a b c : Int64) : Nat → Nat
  | 0 => T
  | k + 1 => stp (cm T a b c k) (byt (pck a b c k) (k % 8))
theorem cm_le {T : Nat} (a b c : Int64) (h : T ≤ 1000) : ∀ k, cm T a b c k ≤ 1000
  | 0 => h
  | k + 1 => stp_le (cm_le a b c h k)
theorem cm_cb (T : Nat) (a b c : Int64) : cm T a b c 24 = cb (cb (cb T a 8) b 8) c 8 := rfl
def bR (f : Nat → Int32) : Prop := ∀ j : Nat, (-128 : Int) ≤ (f j).toInt ∧ (f j).toInt ≤ 127
/-! the signs that are written -/
def wst (f : Nat → Int32) (L : Nat) (v : Int32) : Nat → Int32 := if (v = 10 ∨ (32 ≤ v ∧ v ≤ 126)) ∧ L < 1000 then upd f L v else f
def fb (f : Nat → Int32) (L : Nat) (w : Int64) : Nat → Nat → Int32
  | 0 => f
  | k + 1 => wst (fb f L w k) (cb L w k) (byt w k)
def fbw (f : Nat → Int32) (T : Nat) (a b c : Int64) : Nat → Nat → Int32
  | 0 => f
  | k + 1 => wst (fbw f T a b c k) (cm T a b c k) (byt (pck a b c k) (k % 8))
theorem fbw_fb (f : Nat → Int32) (T : Nat) (a b c : Int64) : fbw f T a b c 24 = fb (fb (fb f T a 8) (cb T a 8) b 8) (cb (cb T a 8) b 8) c 8 := rfl
theorem gd_b {v : Int32} (h : v = 10 ∨ (32 ≤ v ∧ v ≤ 126)) : (0 : Int) ≤ v.toInt ∧ v.toInt ≤ 127 := by
  rcases h with h | ⟨h1, h2⟩
  · subst h
    decide
  · have e1 : (32 : Int) ≤ v.toInt := Int32.le_iff_toInt_le.mp h1
    have e2 : v.toInt ≤ (126 : Int) := Int32.le_iff_toInt_le.mp h2
    omega
theorem nar_tab : ∀ n : Fin 128, vp_nar .byte (nI n.val).toInt8.toInt32 = nI n.val := by decide +kernel
theorem nar_gd {v : Int32} (h : v = 10 ∨ (32 ≤ v ∧ v ≤ 126)) : vp_nar .byte v.toInt8.toInt32 = v := by
  have hb := gd_b h
  have e : v = nI v.toInt.toNat := by
    apply Int32.toInt_inj.mp
    rw [nI_toInt (by omega)]
    omega
  have h2 := nar_tab ⟨v.toInt.toNat, by omega⟩
  rw [e]
  exact h2
theorem wst_yes {f : Nat → Int32} {L n : Nat} {v x : Int32} (h : v = 10 ∨ (32 ≤ v ∧ v ≤ 126)) (hL : L < 1000) (hn : n = L) (hx : x = v) : upd f n x = wst f L v := by
  subst hn hx
  exact (if_pos ⟨h, hL⟩).symm
theorem wst_no {f : Nat → Int32} {L : Nat} {v : Int32} (h : ¬ (v = 10 ∨ (32 ≤ v ∧ v ≤ 126))) : f = wst f L v := (if_neg fun q => h q.1).symm
theorem wst_full {f : Nat → Int32} {L : Nat} {v : Int32} (h : ¬ L < 1000) : f = wst f L v := (if_neg fun q => h q.2).symm
def bS (f : Nat → Int32) : Prop := ∀ j : Nat, (0 : Int) ≤ (f j).toInt ∧ (f j).toInt ≤ 127
theorem wst_S {f : Nat → Int32} {L : Nat} {v : Int32} (h : bS f) : bS (wst f L v) := by
  unfold wst
  split
  · rename_i q
    intro j
    unfold upd
    split
    · exact gd_b q.1
    · exact h j
  · exact h
theorem fb_S {f : Nat → Int32} {L : Nat} {w : Int64} (h : bS f) : ∀ k, bS (fb f L w k)
  | 0 => h
  | k + 1 => wst_S (fb_S h k)
theorem bS_R {f : Nat → Int32} (h : bS f) : bR f := fun j => ⟨by have := (h j).1; omega, (h j).2⟩
theorem wst_al {f g : Nat → Int32} {L : Nat} {v : Int32} (h : ∀ j, j < L → f j = g j) : ∀ j, j < stp L v → wst f L v j = wst g L v j := by
  intro j hj
  unfold stp at hj
  unfold wst
  split
  · rename_i q
    rw [if_pos q] at hj
    unfold upd
    split
    · rfl
    · rename_i q2
      have q3 : j ≠ L := fun e => q2 e
      exact h j (by omega)
  · rename_i q
    rw [if_neg q] at hj
    exact h j hj
theorem fb_al {f g : Nat → Int32} {L : Nat} {w : Int64} (h : ∀ j, j < L → f j = g j) : ∀ k j, j < cb L w k → fb f L w k j = fb g L w k j
  | 0, j, hj => h j hj
  | k + 1, j, hj => wst_al (fb_al h k) j hj
