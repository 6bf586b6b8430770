/-! the states alike, but for how full, hungry and ill: day, store, who ate when, what is undone, what is marked; own -/
def aOK (x : Int32) : Prop := x = -1 ∨ 0 ≤ x.toInt
def tOK (n : Nat) (d : Int32) : Prop := 0 ≤ d.toInt ∧ d.toInt + (n : Int) ≤ 3584
theorem tOK_m {n n' : Nat} {d : Int32} (h : tOK n d) (hn : n' ≤ n) : tOK n' d := ⟨h.1, by have := h.2; omega⟩
theorem tOK_s {n : Nat} {d : Int32} (h : tOK n d) (hn : 7 ≤ n) : tOK (n - 7) (d + 1) := by
  obtain ⟨h1, h2⟩ := h
  have e : (1 : Int32).toInt = 1 := rfl
  have e2 : (d + 1).toInt = d.toInt + 1 := by rw [i32_add (by rw [e]; unfold mnI; omega) (by rw [e]; unfold mxI; omega), e]
  exact ⟨by omega, by rw [e2]; omega⟩
theorem aOK_t {n : Nat} {d : Int32} (h : tOK n d) : aOK d := Or.inr h.1
/-- a block of 21: day, store, who ate when -/
def BR (np b : Nat) (dy sr : Int32) (ae s : Nat → Int32) : Prop := s b = dy ∧ s (b + 1) = sr ∧ ∀ q, q < np → s (b + 9 + q) = ae q ∧ aOK (ae q)
def pR (np : Nat) (kd hg ta vo rk rh rt rv : Nat → Int32) : Prop := ∀ q, q < np → rk q = kd q ∧ rh q = hg q ∧ rt q = ta q ∧ rv q = vo q
def dR (nd : Nat) (bi sa co rb rs rc : Nat → Int32) : Prop := ∀ q, q < nd → rb q = bi q ∧ rs q = sa q ∧ rc q = co q
def kR (np : Nat) (sf st rf rt : Nat → Int32) : Prop := ∀ q, q < np → (sf q = -1 ∧ st q = -1 ∧ rf q = 1000 ∧ rt q = -1) ∨ (¬ sf q = -1 ∧ sf q = rf q ∧ st q = rt q)
section LT
variable {np nd e d q n : Nat} {dy sr res : Int32} {kd hg ta vo rk rh rt rv bi sa co rb rs rc sf st zf ze ho s ae : Nat → Int32}
theorem sick_eq (hk : kR np sf st zf ze) (hq : q < np) (h0 : s 0 = dy) (hd : 0 ≤ dy.toInt) : F_X12_isSick q zf ze s = F_X0_isSick q dy sf st := by
  unfold F_X12_isSick F_X12_within_f F_X0_isSick
  rw [h0]
  rcases hk q hq with ⟨e1, e2, e3, e4⟩ | ⟨e1, e2, e3⟩
  · rw [if_pos e1, e3, e4]
    have h1 : (-1 : Int32) < dy := by
      rw [Int32.lt_iff_toInt_lt]
      have e5 : (-1 : Int32).toInt = -1 := rfl
      omega
    by_cases c : dy < 1000
    · rw [if_pos c]
    · rw [if_neg c, if_pos h1]
  · rw [if_neg e1, e2, e3]
theorem cost_eq (hp : pR np kd hg ta vo rk rh rt rv) (hd : dR nd bi sa co rb rs rc) (he : e < np) (hdd : d < nd) : F_X12_costOf e d rk rc = F_X0_costBy e d kd co := by
  unfold F_X12_costOf F_X0_costBy
  rw [(hp e he).1, (hd d hdd).2.2]
theorem sick01 : F_X0_isSick q dy sf st = 0 ∨ F_X0_isSick q dy sf st = 1 := by
  unfold F_X0_isSick
  repeat' split
  all_goals first | exact Or.inl rfl | exact Or.inr rfl
theorem can_eq (hp : pR np kd hg ta vo rk rh rt rv) (hdr : dR nd bi sa co rb rs rc) (hk : kR np sf st zf ze) (he : e < np) (hdd : d < nd) (h0 : s 0 = dy) (h1 : s 1 = sr) (hd : 0 ≤ dy.toInt) : F_X12_canEat e d rk zf ze rc s = F_X8_canEat e d dy sr kd sf st co := by
  unfold F_X12_canEat F_X8_canEat F_X8_sits
  rw [sick_eq hk he h0 hd, cost_eq hp hdr he hdd, h1]
  rcases sick01 (q := e) (dy := dy) (sf := sf) (st := st) with c | c
  · rw [c]
    rfl
  · rw [c]
    rfl
theorem ill_eq (hb : BR np 0 dy sr ae s) (he : e < np) (hr : ho 4 = res) : F_X12_wouldBeIll e ho s = F_X8_wouldBeIll e dy ae res := by
  obtain ⟨h0, _, h2⟩ := hb
  obtain ⟨h3, h4⟩ := h2 e he
  rw [show 0 + 9 + e = 9 + e by omega] at h3
  unfold F_X12_wouldBeIll F_X8_wouldBeIll
  rw [h3, hr, h0]
  rcases h4 with c | c
  · rw [if_pos c, if_pos (by rw [c]; decide)]
  · have c1 : ¬ ae e = -1 := fun z => by rw [z] at c; exact absurd c (by decide)
    have c2 : ¬ ae e < 0 := by
      rw [Int32.lt_iff_toInt_lt]
      have e0 : (0 : Int32).toInt = 0 := rfl
      omega
    rw [if_neg c1, if_neg c2]
theorem sit_eq (hk : kR np sf st zf ze) (h0 : s 0 = dy) (hd : 0 ≤ dy.toInt) : ∀ (m k : Nat) (a : Int32), k + m ≤ np → F_X12_sitting_L4 zf ze s m k a = F_X8_whoSits_L4 dy sf st m k a
  | 0, _, _, _ => rfl
  | m + 1, k, a, h => by
    rw [F_X12_sitting_L4_s, F_X8_whoSits_L4_s, sick_eq hk (show k < np by omega) h0 hd]
    unfold F_X8_sits
    rcases sick01 (q := k) (dy := dy) (sf := sf) (st := st) with c | c
    · rw [c, if_pos rfl, if_pos rfl, if_neg (by decide)]
      exact sit_eq hk h0 hd m (k + 1) _ (by omega)
    · rw [c, if_neg (show ¬ (1 : Int32) = 0 by decide), if_neg (show ¬ (1 : Int32) = 0 by decide), if_pos rfl, Int32.or_zero]
      exact sit_eq hk h0 hd m (k + 1) _ (by omega)
theorem sitting_eq (hk : kR np sf st zf ze) (h0 : s 0 = dy) (hd : 0 ≤ dy.toInt) : F_X12_sitting np zf ze s = F_X8_whoSits dy np sf st := sit_eq hk h0 hd (np - 0) 0 0 (by omega)
/-! what eating leaves alone -/
theorem fr_ends {zh : Nat → Int32} : ∀ (m k : Nat) (s : Nat → Int32) (c : Int32) (j : Nat), k + m ≤ 6 → (j < 3 ∨ (9 ≤ j ∧ j < 15)) → (F_X12_ends_L7 zh m k s c).1 j = s j
  | 0, _, _, _, _, _, _ => rfl
  | m + 1, k, s, c, j, h, hj => by
    have e : ∀ (f : Nat → Int32) x y, upd (upd f (3 + k) x) (15 + k) y j = f j := fun f x y => (pk_un (by omega)).trans (pk_un (by omega))
    rw [F_X12_ends_L7_s]
    repeat' split
    all_goals exact (fr_ends m (k + 1) _ _ j (by omega) hj).trans (e _ _ _)
theorem ends_0 {zh : Nat → Int32} (hn : np ≤ 6) : (F_X12_ends np zh s).2 0 = s 0 + 1 := by
  show upd (F_X12_ends_L7 zh (np - 0) 0 s 0).1 0 ((F_X12_ends_L7 zh (np - 0) 0 s 0).1 0 + 1) 0 = _
  rw [pk_us, fr_ends (np - 0) 0 s 0 0 (by omega) (Or.inl (by decide))]
theorem ends_j {zh : Nat → Int32} (hn : np ≤ 6) {j : Nat} (h0 : 0 < j) (hj : j < 3 ∨ (9 ≤ j ∧ j < 15)) : (F_X12_ends np zh s).2 j = s j := by
  show upd (F_X12_ends_L7 zh (np - 0) 0 s 0).1 0 ((F_X12_ends_L7 zh (np - 0) 0 s 0).1 0 + 1) j = _
  rw [pk_un (by omega), fr_ends (np - 0) 0 s 0 j (by omega) hj]
theorem BR_ends {zh : Nat → Int32} (hn : np ≤ 6) (hb : BR np 0 dy sr ae s) : BR np 0 (dy + 1) sr ae (F_X12_ends np zh s).2 := by
  obtain ⟨h0, h1, h2⟩ := hb
  refine ⟨by rw [ends_0 hn, h0], by rw [show 0 + 1 = 1 from rfl, ends_j hn (by decide) (Or.inl (by decide))]; exact h1, fun q hq => ?_⟩
  obtain ⟨h3, h4⟩ := h2 q hq
  rw [show 0 + 9 + q = 9 + q by omega] at h3 ⊢
  exact ⟨(ends_j hn (by omega) (Or.inr ⟨by omega, by omega⟩)).trans h3, h4⟩
end LT
