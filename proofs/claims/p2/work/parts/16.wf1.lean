def stp (L : Nat) (v : Int32) : Nat := if (v = 10 ∨ (32 ≤ v ∧ v ≤ 126)) ∧ L < 1000 then L + 1 else L
def byt (w : Int64) (k : Nat) : Int32 := ((w.toUInt64 >>> ((nI (56 - 8 * k)).toInt64.toUInt64 &&& Int64.toUInt64 63)).toInt64 &&& 255).toInt32
def cb (L : Nat) (w : Int64) : Nat → Nat
  | 0 => L
  | k + 1 => stp (cb L w k) (byt w k)
theorem stp_yes {L : Nat} {v : Int32} (h : v = 10 ∨ (32 ≤ v ∧ v ≤ 126)) (hL : L < 1000) : stp L v = L + 1 := if_pos ⟨h, hL⟩
theorem stp_no {L : Nat} {v : Int32} (h : ¬ (v = 10 ∨ (32 ≤ v ∧ v ≤ 126))) : stp L v = L := if_neg fun q => h q.1
theorem stp_full {L : Nat} {v : Int32} (h : ¬ L < 1000) : stp L v = L := if_neg fun q => h q.2
theorem stp_le {L : Nat} {v : Int32} (h : L ≤ 1000) : stp L v ≤ 1000 := by
  unfold stp
  split <;> omega
theorem cb_le {L : Nat} (w : Int64) (h : L ≤ 1000) : ∀ k, cb L w k ≤ 1000
  | 0 => h
  | k + 1 => stp_le (cb_le w h k)
theorem e56 {k : Nat} (h : k < 8) : (56 : Int32) - nI (8 * k) = nI (56 - 8 * k) := pk_sub (a := 56) (by omega)
theorem nI_lt1000 {n : Nat} (h : n ≤ 1000) (c : ¬ (1000 : Int32) ≤ nI n) : n < 1000 := Nat.lt_of_not_le fun q => c (nI_le (a := 1000) q (by omega))
theorem nI_ge1000 {n : Nat} (h : n ≤ 1000) (c : (1000 : Int32) ≤ nI n) : ¬ n < 1000 := fun q => nI_ge (b := 1000) q (by decide) c
def pck (a b c : Int64) (k : Nat) : Int64 := if k < 8 then a else if k < 16 then b else c
def cm (T : Nat) (a b c : Int64) : Nat → Nat
  | 0 => T
  | k + 1 => stp (cm T a b c k) (byt (pck a b c k) (k % 8))
theorem cm_le {T : Nat} (a b c : Int64) (h : T ≤ 1000) : ∀ k, cm T a b c k ≤ 1000
  | 0 => h
  | k + 1 => stp_le (cm_le a b c h k)
theorem cm_cb (T : Nat) (a b c : Int64) : cm T a b c 24 = cb (cb (cb T a 8) b 8) c 8 := rfl
def bR (f : Nat → Int32) : Prop := ∀ j : Nat, (-128 : Int) ≤ (f j).toInt ∧ (f j).toInt ≤ 127
theorem bR_upd {f : Nat → Int32} (h : bR f) {k : Nat} {x : Int32} : bR (upd f k (vp_nar .byte x)) := by
  intro j
  have t : (jn ((-128), 127) ((-128), 127)).1 ≤ (upd f k (vp_nar .byte x) j).toInt ∧ (upd f k (vp_nar .byte x) j).toInt ≤ (jn ((-128), 127) ((-128), 127)).2 := upd_b (b := ((-128), 127)) (q := ((-128), 127)) h (i32_b x) j
  have e1 : jn ((-128), 127) ((-128), 127) = (((-128), 127) : Int × Int) := by decide
  rw [e1] at t
  exact t
