/-! what an operation gives: a known symbol and a number, or a new symbol with bounds; own -/
abbrev RS : Type := BS × CS × (Nat × Int)
def OpOK (σ : List Int) (r : RS) (v : Int) : Prop := ∃ τ : List Int, zB r.1 (σ ++ τ) ∧ zC r.2.1 (σ ++ τ) ∧ vl (σ ++ τ) r.2.2 v
def ivR (bs : BS) (cs : CS) (lo hi : Int) : RS := (bs ++ [(lo, hi)], cs, (bs.length, 0))
theorem ivR_ok {bs : BS} {cs : CS} {σ : List Int} (hB : zB bs σ) (hC : zC cs σ) {lo hi v : Int} (h1 : lo ≤ v) (h2 : v ≤ hi) : OpOK σ (ivR bs cs lo hi) v := by
  refine ⟨[v], P2.app hB ⟨⟨h1, h2⟩, trivial⟩, hC.app, v, ?_, ?_⟩
  · have := P2.len hB
    show (σ ++ [v])[bs.length]? = some v
    rw [this]
    exact gend
  · show v = v + 0
    omega
theorem same_ok {bs : BS} {cs : CS} {σ : List Int} (hB : zB bs σ) (hC : zC cs σ) {e : Nat × Int} {v : Int} (h : vl σ e v) : OpOK σ (bs, cs, e) v := ⟨[], by simpa using hB, by simpa using hC, by simpa using h⟩
/-- a number, by the symbol that is 0 -/
def cR (bs : BS) (cs : CS) (z : Int) : RS := match bs with
  | b :: _ => if b.1 == 0 && b.2 == 0 then (bs, cs, (0, z)) else ivR bs cs z z
  | [] => ivR bs cs z z
theorem cR_ok {bs : BS} {cs : CS} {σ : List Int} (hB : zB bs σ) (hC : zC cs σ) (z : Int) : OpOK σ (cR bs cs z) z := by
  cases bs with
  | nil => exact ivR_ok hB hC (Int.le_refl _) (Int.le_refl _)
  | cons b r =>
    cases σ with
    | nil => exact hB.elim
    | cons t σ =>
      unfold cR
      dsimp only
      by_cases c : (b.1 == 0 && b.2 == 0) = true
      · rw [if_pos c]
        have c' : b.1 = 0 ∧ b.2 = 0 := by simpa using c
        have h1 := hB.1
        refine same_ok hB hC ⟨t, by simp, ?_⟩
        dsimp only at h1 ⊢
        omega
      · rw [if_neg c]
        exact ivR_ok hB hC (Int.le_refl _) (Int.le_refl _)
def inR (mn mx lo hi : Int) : Bool := decide (mn ≤ lo) && decide (hi ≤ mx)
theorem inR_ok {mn mx lo hi : Int} (h : inR mn mx lo hi = true) : mn ≤ lo ∧ hi ≤ mx := by simpa [inR] using h
def mxD (z : Int) (o : Option Int) : Int := match o with
  | some d => if z ≤ -d then -d else z
  | none => z
def mnD (z : Int) (o : Option Int) : Int := match o with
  | some d => if d ≤ z then d else z
  | none => z
section OPS
variable (mn mx : Int) (bs : BS) (cs : CS) (x y : Nat × Int)
def addR : RS := match bnd bs cs x, bnd bs cs y with
  | some p, some q => if inR mn mx (p.1 + q.1) (p.2 + q.2) then (if q.1 == q.2 then (bs, cs, (x.1, x.2 + q.1)) else if p.1 == p.2 then (bs, cs, (y.1, y.2 + p.1)) else ivR bs cs (p.1 + q.1) (p.2 + q.2)) else ivR bs cs mn mx
  | _, _ => ivR bs cs mn mx
def subR : RS := match bnd bs cs x, bnd bs cs y with
  | some p, some q => if inR mn mx (p.1 - q.2) (p.2 - q.1) then (if q.1 == q.2 then (bs, cs, (x.1, x.2 - q.1)) else ivR bs cs (mxD (p.1 - q.2) (dubE bs cs y x)) (mnD (p.2 - q.1) (dubE bs cs x y))) else ivR bs cs mn mx
  | _, _ => ivR bs cs mn mx
def mulR : RS := match bnd bs cs x, bnd bs cs y with
  | some p, some q => if decide (0 ≤ p.1) && decide (0 ≤ q.1) && decide (p.2 * q.2 ≤ mx) then ivR bs cs (p.1 * q.1) (p.2 * q.2) else ivR bs cs mn mx
  | _, _ => ivR bs cs mn mx
/-- none: it may divide by 0 -/
def divR : Option RS := match bnd bs cs x, bnd bs cs y with
  | some p, some q => if decide (0 < q.1) then (if decide (0 ≤ p.1) then some (if q.1 == q.2 then ivR bs cs (p.1 / q.1) (p.2 / q.1) else ivR bs cs 0 p.2) else some (ivR bs cs mn mx)) else none
  | _, _ => none
def remR : Option RS := match bnd bs cs x, bnd bs cs y with
  | some p, some q => if decide (0 < q.1) then (if decide (0 ≤ p.1) then some (ivR bs cs 0 (if p.2 ≤ q.2 - 1 then p.2 else q.2 - 1)) else some (ivR bs cs mn mx)) else none
  | _, _ => none
end OPS
section OPK
variable {mn mx : Int} {bs : BS} {cs : CS} {σ : List Int} {x y : Nat × Int} {a b v : Int}
theorem addR_ok (hB : zB bs σ) (hC : zC cs σ) (ha : vl σ x a) (hb : vl σ y b) (h1 : mn ≤ v) (h2 : v ≤ mx) (hv : mn ≤ a + b → a + b ≤ mx → v = a + b) : OpOK σ (addR mn mx bs cs x y) v := by
  unfold addR
  cases e1 : bnd bs cs x with
  | none => exact ivR_ok hB hC h1 h2
  | some p =>
    cases e2 : bnd bs cs y with
    | none => exact ivR_ok hB hC h1 h2
    | some q =>
      have g1 := bnd_ok hB hC e1 ha
      have g2 := bnd_ok hB hC e2 hb
      dsimp only
      split
      · rename_i hi
        have hi := inR_ok hi
        have e := hv (by omega) (by omega)
        obtain ⟨t, t1, t2⟩ := ha
        obtain ⟨u, u1, u2⟩ := hb
        split
        · rename_i hq
          have hq : q.1 = q.2 := by simpa using hq
          exact same_ok hB hC ⟨t, t1, by dsimp only; omega⟩
        · split
          · rename_i hq
            have hq : p.1 = p.2 := by simpa using hq
            exact same_ok hB hC ⟨u, u1, by dsimp only; omega⟩
          · exact ivR_ok hB hC (by omega) (by omega)
      · exact ivR_ok hB hC h1 h2
theorem subR_ok (hB : zB bs σ) (hC : zC cs σ) (ha : vl σ x a) (hb : vl σ y b) (h1 : mn ≤ v) (h2 : v ≤ mx) (hv : mn ≤ a - b → a - b ≤ mx → v = a - b) : OpOK σ (subR mn mx bs cs x y) v := by
  unfold subR
  cases e1 : bnd bs cs x with
  | none => exact ivR_ok hB hC h1 h2
  | some p =>
    cases e2 : bnd bs cs y with
    | none => exact ivR_ok hB hC h1 h2
    | some q =>
      have g1 := bnd_ok hB hC e1 ha
      have g2 := bnd_ok hB hC e2 hb
      dsimp only
      split
      · rename_i hi
        have hi := inR_ok hi
        have e := hv (by omega) (by omega)
        have d1 : mxD (p.1 - q.2) (dubE bs cs y x) ≤ v := by
          unfold mxD
          split
          · rename_i d hd
            have := dubE_ok hB hC hb ha hd
            split <;> omega
          · omega
        have d2 : v ≤ mnD (p.2 - q.1) (dubE bs cs x y) := by
          unfold mnD
          split
          · rename_i d hd
            have := dubE_ok hB hC ha hb hd
            split <;> omega
          · omega
        obtain ⟨t, t1, t2⟩ := ha
        split
        · rename_i hq
          have hq : q.1 = q.2 := by simpa using hq
          exact same_ok hB hC ⟨t, t1, by dsimp only; omega⟩
        · exact ivR_ok hB hC d1 d2
      · exact ivR_ok hB hC h1 h2
theorem mulR_ok (hB : zB bs σ) (hC : zC cs σ) (ha : vl σ x a) (hb : vl σ y b) (h0 : mn ≤ 0) (h1 : mn ≤ v) (h2 : v ≤ mx) (hv : mn ≤ a * b → a * b ≤ mx → v = a * b) : OpOK σ (mulR mn mx bs cs x y) v := by
  unfold mulR
  cases e1 : bnd bs cs x with
  | none => exact ivR_ok hB hC h1 h2
  | some p =>
    cases e2 : bnd bs cs y with
    | none => exact ivR_ok hB hC h1 h2
    | some q =>
      have g1 := bnd_ok hB hC e1 ha
      have g2 := bnd_ok hB hC e2 hb
      dsimp only
      split
      · rename_i hi
        have hi : (0 ≤ p.1 ∧ 0 ≤ q.1) ∧ p.2 * q.2 ≤ mx := by simpa using hi
        have m1 : p.1 * q.1 ≤ a * b := Int.mul_le_mul g1.1 g2.1 hi.1.2 (by omega)
        have m2 : a * b ≤ p.2 * q.2 := Int.mul_le_mul g1.2 g2.2 (by omega) (by omega)
        have m3 : 0 ≤ p.1 * q.1 := Int.mul_nonneg hi.1.1 hi.1.2
        have e := hv (by omega) (by omega)
        rw [e]
        exact ivR_ok hB hC m1 m2
      · exact ivR_ok hB hC h1 h2
theorem divR_ok {r : RS} (hB : zB bs σ) (hC : zC cs σ) (ha : vl σ x a) (hb : vl σ y b) (h1 : mn ≤ v) (h2 : v ≤ mx) (hv : 0 ≤ a → 0 < b → v = a / b) (h : divR mn mx bs cs x y = some r) : b ≠ 0 ∧ OpOK σ r v := by
  unfold divR at h
  cases e1 : bnd bs cs x with
  | none => rw [e1] at h; cases h
  | some p =>
    cases e2 : bnd bs cs y with
    | none => rw [e1, e2] at h; cases h
    | some q =>
      have g1 := bnd_ok hB hC e1 ha
      have g2 := bnd_ok hB hC e2 hb
      rw [e1, e2] at h
      dsimp only at h
      by_cases c1 : 0 < q.1
      · rw [if_pos (by simpa using c1)] at h
        refine ⟨by omega, ?_⟩
        by_cases c2 : 0 ≤ p.1
        · rw [if_pos (by simpa using c2)] at h
          have e := hv (by omega) (by omega)
          subst e
          by_cases c3 : q.1 = q.2
          · rw [if_pos (by simpa using c3)] at h
            cases h
            have hbq : b = q.1 := by omega
            subst hbq
            exact ivR_ok hB hC (Int.ediv_le_ediv c1 g1.1) (Int.ediv_le_ediv c1 g1.2)
          · rw [if_neg (by simpa using c3)] at h
            cases h
            have ha0 : 0 ≤ a := by omega
            exact ivR_ok hB hC (Int.ediv_nonneg ha0 (by omega)) (Int.le_trans (Int.ediv_le_self b ha0) g1.2)
        · rw [if_neg (by simpa using c2)] at h
          cases h
          exact ivR_ok hB hC h1 h2
      · rw [if_neg (by simpa using c1)] at h
        cases h
theorem remR_ok {r : RS} (hB : zB bs σ) (hC : zC cs σ) (ha : vl σ x a) (hb : vl σ y b) (h1 : mn ≤ v) (h2 : v ≤ mx) (hv : 0 ≤ a → 0 < b → v = a % b) (h : remR mn mx bs cs x y = some r) : b ≠ 0 ∧ OpOK σ r v := by
  unfold remR at h
  cases e1 : bnd bs cs x with
  | none => rw [e1] at h; cases h
  | some p =>
    cases e2 : bnd bs cs y with
    | none => rw [e1, e2] at h; cases h
    | some q =>
      have g1 := bnd_ok hB hC e1 ha
      have g2 := bnd_ok hB hC e2 hb
      rw [e1, e2] at h
      dsimp only at h
      by_cases c1 : 0 < q.1
      · rw [if_pos (by simpa using c1)] at h
        refine ⟨by omega, ?_⟩
        by_cases c2 : 0 ≤ p.1
        · rw [if_pos (by simpa using c2)] at h
          have e := hv (by omega) (by omega)
          subst e
          cases h
          have k1 := Int.emod_nonneg a (by omega : b ≠ 0)
          have k2 := Int.emod_lt_of_pos a (by omega : 0 < b)
          have k3 := emod_as (a := a) (b := b) (by omega) (by omega)
          exact ivR_ok hB hC k1 (by split <;> omega)
        · rw [if_neg (by simpa using c2)] at h
          cases h
          exact ivR_ok hB hC h1 h2
      · rw [if_neg (by simpa using c1)] at h
        cases h
/-! bits -/
def fullR (bs : BS) (cs : CS) : RS := ivR bs cs mnI mxI
def fullL (bs : BS) (cs : CS) : RS := ivR bs cs mnL mxL
def pw (h : Int) : Nat → Nat
  | 0 => 31
  | n + 1 => if decide (h < 2 ^ (30 - n)) then 30 - n else pw h n
theorem pw_ok {h : Int} (hh : h ≤ mxI) : ∀ n : Nat, n ≤ 31 → pw h n ≤ 31 ∧ h < 2 ^ pw h n
  | 0, _ => by
    unfold mxI at hh
    refine ⟨by unfold pw; omega, ?_⟩
    show h < 2 ^ 31
    omega
  | n + 1, hn => by
    unfold pw
    by_cases c : h < 2 ^ (30 - n)
    · rw [if_pos (by simpa using c)]
      exact ⟨by omega, c⟩
    · rw [if_neg (by simpa using c)]
      exact pw_ok hh n (by omega)
/-- 0 and, 1 or, 2 xor, 3 shl, 4 shr, 5 ushr -/
def bopF (o : Nat) (x y : Int32) : Int32 := match o with
  | 0 => x &&& y
  | 1 => x ||| y
  | 2 => x ^^^ y
  | 3 => x <<< (y &&& 31)
  | 4 => x >>> (y &&& 31)
  | _ => (x.toUInt32 >>> (y.toUInt32 &&& Int32.toUInt32 31)).toInt32
def orR (bs : BS) (cs : CS) (x y : Nat × Int) (p q : Int × Int) : RS :=
  if decide (0 ≤ p.1) && decide (0 ≤ q.1) then
    (bs ++ [(if p.1 ≤ q.1 then q.1 else p.1, 2 ^ pw (if p.2 ≤ q.2 then q.2 else p.2) 31 - 1)], (x.1, bs.length, -x.2) :: (y.1, bs.length, -y.2) :: cs, (bs.length, 0))
  else fullR bs cs
def bitR (o : Nat) (bs : BS) (cs : CS) (x y : Nat × Int) : RS := match bnd bs cs x, bnd bs cs y with
  | some p, some q => if p.1 == p.2 && q.1 == q.2 then cR bs cs (bopF o (Int32.ofInt p.1) (Int32.ofInt q.1)).toInt else (match o with
    | 0 => if decide (0 ≤ p.1) then (if decide (0 ≤ q.1) then ivR bs cs 0 (if p.2 ≤ q.2 then p.2 else q.2) else ivR bs cs 0 p.2) else (if decide (0 ≤ q.1) then ivR bs cs 0 q.2 else fullR bs cs)
    | 1 => orR bs cs x y p q
    | 3 => if p.1 == 1 && p.2 == 1 && decide (0 ≤ q.1) && decide (q.2 < 31) then ivR bs cs (2 ^ q.1.toNat) (2 ^ q.2.toNat) else fullR bs cs
    | _ => fullR bs cs)
  | _, _ => fullR bs cs
theorem fullR_ok {bs : BS} {cs : CS} {σ : List Int} (hB : zB bs σ) (hC : zC cs σ) (z : Int32) : OpOK σ (fullR bs cs) z.toInt := ivR_ok hB hC (i32_lo z) (i32_hi z)
theorem fullL_ok {bs : BS} {cs : CS} {σ : List Int} (hB : zB bs σ) (hC : zC cs σ) (z : Int64) : OpOK σ (fullL bs cs) z.toInt := ivR_ok hB hC (i64_lo z) (i64_hi z)
theorem pow2_le {m n : Nat} (h : m ≤ n) : (2 : Int) ^ m ≤ 2 ^ n := by
  have h1 : (2 : Nat) ^ m ≤ 2 ^ n := Nat.pow_le_pow_right (by omega) h
  have p1 : ((2 ^ m : Nat) : Int) = (2 : Int) ^ m := by simp
  have p2 : ((2 ^ n : Nat) : Int) = (2 : Int) ^ n := by simp
  rw [← p1, ← p2]
  exact Int.ofNat_le.mpr h1
theorem bitR_ok {o : Nat} {bs : BS} {cs : CS} {σ : List Int} {x y : Nat × Int} {a b : Int32} (hB : zB bs σ) (hC : zC cs σ) (ha : vl σ x a.toInt) (hb : vl σ y b.toInt) : OpOK σ (bitR o bs cs x y) (bopF o a b).toInt := by
  unfold bitR
  cases e1 : bnd bs cs x with
  | none => exact fullR_ok hB hC _
  | some p =>
    cases e2 : bnd bs cs y with
    | none => exact fullR_ok hB hC _
    | some q =>
      have g1 := bnd_ok hB hC e1 ha
      have g2 := bnd_ok hB hC e2 hb
      dsimp only
      by_cases c : (p.1 == p.2 && q.1 == q.2) = true
      · rw [if_pos c]
        have c' : p.1 = p.2 ∧ q.1 = q.2 := by simpa using c
        have k1 : a = Int32.ofInt p.1 := i32_eq (by omega)
        have k2 : b = Int32.ofInt q.1 := i32_eq (by omega)
        rw [← k1, ← k2]
        exact cR_ok hB hC _
      · rw [if_neg c]
        match o with
        | 0 =>
          show OpOK σ (if _ then _ else _) (a &&& b).toInt
          by_cases c1 : 0 ≤ p.1
          · rw [if_pos (by simpa using c1)]
            have k1 := i32_and_l (x := a) (y := b) (by omega)
            by_cases c2 : 0 ≤ q.1
            · rw [if_pos (by simpa using c2)]
              have k2 := i32_and_r (x := a) (y := b) (by omega)
              exact ivR_ok hB hC k1.1 (by split <;> omega)
            · rw [if_neg (by simpa using c2)]
              exact ivR_ok hB hC k1.1 (by omega)
          · rw [if_neg (by simpa using c1)]
            by_cases c2 : 0 ≤ q.1
            · rw [if_pos (by simpa using c2)]
              have k2 := i32_and_r (x := a) (y := b) (by omega)
              exact ivR_ok hB hC k2.1 (by omega)
            · rw [if_neg (by simpa using c2)]
              exact fullR_ok hB hC _
        | 1 =>
          show OpOK σ (orR bs cs x y p q) (a ||| b).toInt
          unfold orR
          by_cases c1 : 0 ≤ p.1 ∧ 0 ≤ q.1
          · rw [if_pos (by simpa using c1)]
            have hm : (if p.2 ≤ q.2 then q.2 else p.2) ≤ mxI ∨ mxI < (if p.2 ≤ q.2 then q.2 else p.2) := by omega
            have k0 : a.toInt < 2 ^ pw (if p.2 ≤ q.2 then q.2 else p.2) 31 ∧ b.toInt < 2 ^ pw (if p.2 ≤ q.2 then q.2 else p.2) 31 ∧ pw (if p.2 ≤ q.2 then q.2 else p.2) 31 ≤ 31 := by
              rcases hm with hm | hm
              · have k := pw_ok hm 31 (by omega)
                refine ⟨?_, ?_, k.1⟩
                · refine Int.lt_of_le_of_lt ?_ k.2
                  split <;> omega
                · refine Int.lt_of_le_of_lt ?_ k.2
                  split <;> omega
              · have big : ∀ n : Nat, n ≤ 31 → pw (if p.2 ≤ q.2 then q.2 else p.2) n = 31 := by
                  intro n
                  induction n with
                  | zero => intro _; rfl
                  | succ n ih =>
                    intro hn
                    unfold pw
                    have k1 : (2 : Int) ^ (30 - n) ≤ 2 ^ 30 := pow2_le (by omega)
                    unfold mxI at hm
                    rw [if_neg (by simp only [decide_eq_true_eq]; omega)]
                    exact ih (by omega)
                rw [big 31 (by omega)]
                have k1 := i32_hi a
                have k2 := i32_hi b
                unfold mxI at k1 k2
                omega
            have k := i32_or (x := a) (y := b) (by omega) (by omega) k0.2.2 k0.1 k0.2.1
            obtain ⟨t, t1, t2⟩ := ha
            obtain ⟨u, u1, u2⟩ := hb
            have hl := P2.len hB
            refine ⟨[(a ||| b).toInt], P2.app hB ⟨⟨?_, ?_⟩, trivial⟩, ?_, (a ||| b).toInt, ?_, ?_⟩
            · dsimp only
              split <;> omega
            · dsimp only
              omega
            · intro z hz
              rcases List.mem_cons.mp hz with rfl | hz
              · refine ⟨t, (a ||| b).toInt, gapp t1, ?_, ?_⟩
                · show (σ ++ [_])[bs.length]? = _
                  rw [hl]
                  exact gend
                · dsimp only
                  omega
              rcases List.mem_cons.mp hz with rfl | hz
              · refine ⟨u, (a ||| b).toInt, gapp u1, ?_, ?_⟩
                · show (σ ++ [_])[bs.length]? = _
                  rw [hl]
                  exact gend
                · dsimp only
                  omega
              · exact hC.app z hz
            · show (σ ++ [_])[bs.length]? = _
              rw [hl]
              exact gend
            · dsimp only
              omega
          · rw [if_neg (by simpa using c1)]
            exact fullR_ok hB hC _
        | 2 => exact fullR_ok hB hC _
        | 3 =>
          show OpOK σ (if _ then _ else _) (a <<< (b &&& 31)).toInt
          by_cases c1 : (p.1 == 1 && p.2 == 1 && decide (0 ≤ q.1) && decide (q.2 < 31)) = true
          · rw [if_pos c1]
            have c2 : ((p.1 = 1 ∧ p.2 = 1) ∧ 0 ≤ q.1) ∧ q.2 < 31 := by simpa using c1
            have ka : a = 1 := by
              have := i32_eq (x := a) (z := 1) (by omega)
              rw [this]
              rfl
            have kb : b = Int32.ofInt ((b.toInt.toNat : Nat) : Int) := i32_eq (by omega)
            have kk := i32_shl1 b.toInt.toNat (by omega)
            rw [← kb] at kk
            rw [ka, kk]
            exact ivR_ok hB hC (pow2_le (by omega)) (pow2_le (by omega))
          · rw [if_neg c1]
            exact fullR_ok hB hC _
        | n + 4 => exact fullR_ok hB hC _
end OPK
