/-! the exact walk, lifted: numbers, cuts, rows of object arrays, copies; own -/
theorem nI_mu (a b : Nat) : nI a * nI b = nI (a * b) := (Int32.ofNat_mul a b).symm
theorem nI_su {a b : Nat} (h : b ≤ a) : nI a - nI b = nI (a - b) := (Int32.ofNat_sub a b h).symm
theorem nI_s1 {a : Nat} (h : 1 ≤ a) : nI a + Int32.ofInt (-1) = nI (a - 1) := by
  obtain ⟨k, rfl⟩ : ∃ k, a = k + 1 := ⟨a - 1, by omega⟩
  exact nI_pi k
theorem nI_di {a b : Nat} (ha : a < 2 ^ 31) (hb : b < 2 ^ 31) : nI a / nI b = nI (a / b) := (Int32.ofNat_div ha hb).symm
theorem nI_rm {a b : Nat} (ha : a < 2 ^ 31) (hb : b < 2 ^ 31) : nI a - nI a / nI b * nI b = nI (a % b) := by
  rw [nI_di ha hb, nI_mu, nI_su (Nat.div_mul_le_self a b)]
  congr 1
  have h := Nat.div_add_mod a b
  rw [Nat.mul_comm] at h
  omega
theorem ngti {L k : Nat} (hL : L ≤ 1000) (hk : k ≤ L) (c : ¬ nI (L - 1) < nI k) (h0 : 0 < L := by omega) : k < L := Nat.lt_of_not_le fun q => c (nI_lt (by omega) (by omega))
theorem ngtx {L k : Nat} (hL : L ≤ 1000) (hk : k ≤ L) (c : nI (L - 1) < nI k) : k = L := Nat.le_antisymm hk (Nat.le_of_not_lt fun q => nI_nlt (by omega) (by omega) c)
theorem ex_nb {v : Int32} (h : v = 0 ∨ v = 1) : narrow .boolean (.int v) = .int v := by
  rcases h with rfl | rfl <;> rfl
theorem vp5 {s : Int32} (h1 : ¬ s < -5) (h2 : s < 0) : vp_in (-1 - s) 5 := by
  rw [vp_in_iff]
  rw [Int32.lt_iff_toInt_lt] at h1 h2
  have e5 : (-5 : Int32).toInt = -5 := rfl
  have e1 : (-1 : Int32).toInt = -1 := rfl
  have e0 : (0 : Int32).toInt = 0 := rfl
  rw [Int32.toInt_sub, e1]
  rw [e5] at h1
  rw [e0] at h2
  rw [Int.bmod_eq_of_le (by omega) (by omega)]
  omega
theorem nI_gt {a t : Nat} (ha : a < 2 ^ 31) (c : ¬ nI t ≤ nI a) : a < t := Nat.lt_of_not_le fun q => c (nI_le q (by omega))
theorem nI_ltn {a t : Nat} (ht : t < 2 ^ 31) (c : ¬ nI a ≤ nI t) : t < a := Nat.lt_of_not_le fun q => c (nI_le q (by omega))
theorem sh_pow {np : Nat} (h : np ≤ 6) : (1 : Int32) <<< (nI np &&& 31) = nI (2 ^ np) := (by decide +kernel : ∀ k, k < 7 → (1 : Int32) <<< (nI k &&& 31) = nI (2 ^ k)) np (by omega)
theorem ne60 {ch : Nat} (h : ch < 61) (c : ¬ nI ch = 60) : ch < 60 := by
  have : ch ≠ 60 := fun q => c (by rw [q]; rfl)
  omega
theorem nI_min3 {hw : Nat} (h : hw ≤ 3) : (if nI hw < 3 then nI hw else 3) = nI hw := (by decide +kernel : ∀ k, k < 4 → (if nI k < 3 then nI k else 3) = nI k) hw (by omega)
theorem nI_max {a b : Nat} (ha : a < 2 ^ 31) (hb : b < 2 ^ 31) : (if nI a < nI b then nI b else nI a) = nI (max a b) := by
  rcases Nat.lt_or_ge a b with h | h
  · rw [if_pos (nI_lt h hb), Nat.max_eq_right (Nat.le_of_lt h)]
  · rw [if_neg (nI_nlt h ha), Nat.max_eq_left h]
theorem ts_upd {f : Nat → Int32} {x : Int32} {k : Nat} (h : ∀ j, j < 6 → vp_in (f j) 64) (_ : k < 6) (hx : vp_in x 64) : ∀ j, j < 6 → vp_in (upd f k x j) 64 := by
  intro j hj
  by_cases q : j = k
  · subst q
    rw [pk_us]
    exact hx
  · rw [pk_un q]
    exact h j hj
theorem or64 : ∀ j, j < 64 → ∀ m, m < 64 → ¬ ((nI j ||| nI m) < 0 ∨ 64 ≤ (nI j ||| nI m).toNatClampNeg) := by decide +kernel
theorem an64 : ∀ j, j < 64 → ∀ c ∈ [(-2 : Int32), -3, -5, -9, -17, -33], ¬ ((nI j &&& c) < 0 ∨ 64 ≤ (nI j &&& c).toNatClampNeg) := by decide +kernel
theorem vp_or6 {x c : Int32} (h : vp_in x 64) (hc : c.toNatClampNeg < 64 ∧ nI c.toNatClampNeg = c) : vp_in (x ||| c) 64 := by
  obtain ⟨j, hj, rfl⟩ := vp_in_of h (by decide)
  rw [← hc.2]
  exact or64 j hj _ hc.1
theorem vp_an6 {x c : Int32} (h : vp_in x 64) (hc : c ∈ [(-2 : Int32), -3, -5, -9, -17, -33]) : vp_in (x &&& c) 64 := by
  obtain ⟨j, hj, rfl⟩ := vp_in_of h (by decide)
  exact an64 j hj c hc
def tz6 (n : Nat) : Nat := if n % 2 = 1 then 0 else if n % 4 = 2 then 1 else if n % 8 = 4 then 2 else if n % 16 = 8 then 3 else if n % 32 = 16 then 4 else 5
def bits6 (n : Nat) : Nat := n % 2 + n / 2 % 2 + n / 4 % 2 + n / 8 % 2 + n / 16 % 2 + n / 32 % 2
theorem tz_lt {n : Nat} (_ : n < 64) (_ : ¬ n = 0) : tz6 n < 6 := by
  unfold tz6
  repeat' split
  all_goals decide
theorem an_tzA : ∀ n, n < 64 → ¬ n = 0 → nI n &&& ((1 <<< (nI (tz6 n) &&& 31)) ^^^ (-1)) = nI (n - 2 ^ tz6 n) := by decide +kernel
theorem an_tz {n : Nat} (h : n < 64) (h0 : ¬ n = 0) : nI n &&& ((1 <<< (nI (tz6 n) &&& 31)) ^^^ (-1)) = nI (n - 2 ^ tz6 n) := an_tzA n h h0
theorem an_bitA : ∀ o, o < 64 → ∀ k, k < 6 → ((nI o >>> (nI k &&& 31)) &&& 1) = 1 → (nI o &&& ((1 <<< (nI k &&& 31)) ^^^ (-1))) = nI (o - 2 ^ k) ∧ bits6 (o - 2 ^ k) < bits6 o := by decide +kernel
theorem an_bit {o k : Nat} (ho : o < 64) (hk : k < 6) (c : ((nI o >>> (nI k &&& 31)) &&& 1) = 1) : (nI o &&& ((1 <<< (nI k &&& 31)) ^^^ (-1))) = nI (o - 2 ^ k) := (an_bitA o ho k hk c).1
theorem bi_bit {o k D : Nat} (ho : o < 64) (hk : k < 6) (c : ((nI o >>> (nI k &&& 31)) &&& 1) = 1) (hb : bits6 o ≤ D) : bits6 (o - 2 ^ k) ≤ D := Nat.le_trans (Nat.le_of_lt (an_bitA o ho k hk c).2) hb
theorem bi_tzA : ∀ n, n < 64 → ¬ n = 0 → bits6 (n - 2 ^ tz6 n) + 1 = bits6 n := by decide +kernel
theorem bi_tz {n D : Nat} (h : n < 64) (h0 : ¬ n = 0) (hb : bits6 n ≤ D + 1) : bits6 (n - 2 ^ tz6 n) ≤ D := by
  have := bi_tzA n h h0
  omega
theorem bits0A : ∀ n, n < 64 → bits6 n ≤ 0 → nI n = 0 := by decide +kernel
theorem bits0 {n : Nat} (h : n < 64) (hb : bits6 n ≤ 0) : nI n = 0 := bits0A n h hb
theorem bits_le {n : Nat} (_ : n < 64) : bits6 n ≤ 6 := by
  unfold bits6
  omega
theorem nI_ofc {x : Int32} (h : ¬ x < 0) : x = nI x.toNatClampNeg := by
  obtain ⟨j, hj, rfl⟩ := nI_of h
  rw [nI_clamp hj]
theorem nI_ofl {x : Int32} {n : Nat} (h : ¬ x < 0) (hn : n < 2 ^ 31) (c : ¬ nI n ≤ x) : x.toNatClampNeg < n := by
  obtain ⟨j, hj, rfl⟩ := nI_of h
  rw [nI_clamp hj]
  exact nI_ltn hj c
def aI (x : Int32) : Int32 := if 0 ≤ x then x else 0 - x
section FUL
variable {l : Launch} {y : MethodName} {cc : ByteArray} {nL : Nat} {ret : Option FieldType} {fr lc : Nat} {ks : List Nat} {Q : EW → Option MV → Prop} {cs cs' : EW} {lv lv' : List (Nat × MV)} {stk : List MV} {pc : Nat}
theorem X_mabs {idx : Nat} {x v : Int32} (h1 : Cond.methodLink y.cls idx Lib.Math.abs.name ∈ bigG) (h2 : Cond.static Lib.Math.abs.name ∈ bigG) (h3 : Cond.initialized "java/lang/Math" ∈ bigG) (h4 : Cond.code Lib.Math.abs.name Lib.Math.abs.code 1 (some .int) ∈ bigG) (hR : 1 ≤ fr ∧ 40 ≤ lc) (hcat : ex_sl stk ≤ 8) (hd : decode cc pc = .ok (.invokestatic idx, 3)) (hv : aI x = v) (h : ex_O l y cc nL ret fr lc ks Q cs lv (ex_i v :: stk) (pc + 3)) : ex_O l y cc nL ret fr lc ks Q cs lv (ex_i x :: stk) pc := by
  intro p e s m args below meth c R D cy ad A T hX H locs ls hP hD hS hl
  subst hv
  have hts := hX.1.2.2.2.2.1
  have hl2 : 40 ≤ R.locals := Nat.le_trans hR.2 hX.2.2.1.2
  exact va_mabs hX.1.1 hX.1.2.1 (hX.1.2.2.1.trans hl.1.symm) hX.1.2.2.2.1 (hts _ (List.mem_cons_of_mem _ h1)) (hts _ (List.mem_cons_of_mem _ h2)) (hts _ (List.mem_cons_of_mem _ h3)) (hts _ (List.mem_cons_of_mem _ h4)) (Nat.le_trans hR.1 hX.2.2.1.1) (by rw [ex_sl_cat]; omega) (Nat.zero_le _) (Nat.zero_le _) hd (h p e s m args below meth c R D cy ad A T hX H locs ls hP hD hS hl)
theorem X_cut {P : Prop} {csE : EW} {lvE : List (Nat × MV)} {E : Nat} (h : (P → ex_O l y cc nL ret fr lc ks Q csE lvE [] E) → ex_O l y cc nL ret fr lc ks Q cs lv stk pc) (hE : P → ex_O l y cc nL ret fr lc ks Q csE lvE [] E) : ex_O l y cc nL ret fr lc ks Q cs lv stk pc := h hE
theorem X_eqs {stk' : List MV} (hs : stk = stk') (h : ex_O l y cc nL ret fr lc ks Q cs lv stk' pc) : ex_O l y cc nL ret fr lc ks Q cs lv stk pc := by
  rw [hs]
  exact h
theorem X_eq (hc : cs = cs') (hl : lv = lv') (h : ex_O l y cc nL ret fr lc ks Q cs' lv' stk pc) : ex_O l y cc nL ret fr lc ks Q cs lv stk pc := by
  rw [hc, hl]
  exact h
theorem X_aald {kd n j key v : Nat} {g : Nat → Option Nat} {i : Int32} (hd : decode cc pc = .ok (.aaload, 1)) (hj : cs[j]? = some (key, ex_q kd n g)) (hin : vp_in i n) (hv : g i.toNatClampNeg = some v) (hk : kd = 4 ∨ kd = 5) (h : ex_O l y cc nL ret fr lc ks Q cs lv (ex_r v :: stk) (pc + 1)) : ex_O l y cc nL ret fr lc ks Q cs lv (ex_i i :: ex_r key :: stk) pc := by
  intro p e s m args below meth c R D cy ad A T hX H locs ls hP hD hS hl
  have hv2 : (g i.toNatClampNeg).map ad = some (ad v) := by rw [hv]; rfl
  rcases hk with rfl | rfl
  · exact m_aald hX.1.1 hX.1.2.1 hX.1.2.2.2.2.2.1 hP j 4 (C := "TableTurns$Mark") (ex_at hj) rfl hin hd hv2 (h p e s m args below meth c R D cy ad A T hX H locs ls hP hD hS hl)
  · exact m_aald hX.1.1 hX.1.2.1 hX.1.2.2.2.2.2.1 hP j 5 (C := "TableTurns$Standing") (ex_at hj) rfl hin hd hv2 (h p e s m args below meth c R D cy ad A T hX H locs ls hP hD hS hl)
/-- arraycopy of rows of ints -/
theorem X_copy {idx j j2 key key2 n0 n1 : Nat} {f g : Nat → Int32} {sp dp n : Int32} (h1 : Cond.methodLink y.cls idx arraycopyName ∈ bigG) (h2 : Cond.native arraycopyName ∈ bigG) (h3 : Cond.static arraycopyName ∈ bigG) (h4 : Cond.initialized "java/lang/System" ∈ bigG) (hR : 1 ≤ fr ∧ 40 ≤ lc) (hd : decode cc pc = .ok (.invokestatic idx, 3)) (hj : cs[j]? = some (key, ex_a 1 n0 f)) (hj2 : cs[j2]? = some (key2, ex_a 1 n1 g)) (t1 : ¬ sp < 0) (t2 : ¬ dp < 0) (t3 : ¬ n < 0) (t4 : sp.toNatClampNeg + n.toNatClampNeg ≤ n0) (t5 : dp.toNatClampNeg + n.toNatClampNeg ≤ n1)
    (he : cs.set j2 (key2, ex_a 1 n1 (va_cpy f g sp.toNatClampNeg dp.toNatClampNeg n.toNatClampNeg)) = cs') (hc : ex_sl stk ≤ 8 := by decide) (h : ex_O l y cc nL ret fr lc ks Q cs' lv stk (pc + 3)) : ex_O l y cc nL ret fr lc ks Q cs lv (ex_i n :: ex_i dp :: ex_r key2 :: ex_i sp :: ex_r key :: stk) pc := by
  intro p e s m args below meth c R D cy ad A T hX H locs ls hP hD hS hl
  have hts := hX.1.2.2.2.2.1
  have hl2 : 40 ≤ R.locals := Nat.le_trans hR.2 hX.2.2.1.2
  have ee : (ex_w cy ad cs ++ T).set j2 (ad key2, .inl (cy 1, n1, .inl (va_cpy f g sp.toNatClampNeg dp.toNatClampNeg n.toNatClampNeg))) = ex_w cy ad cs' ++ T := by
    rw [← he]
    exact ex_set (c := ex_a 1 n1 (va_cpy f g sp.toNatClampNeg dp.toNatClampNeg n.toNatClampNeg)) hj2
  have hnw : nativeFrameWords "java/lang/System" "arraycopy" 5 + 11 ≤ 32 := by decide
  exact va_copyi hX.1.1 hX.1.2.1 (hX.1.2.2.1.trans hl.1.symm) hX.1.2.2.2.1 (hts _ (List.mem_cons_of_mem _ h1)) (hts _ (List.mem_cons_of_mem _ h2)) (hts _ (List.mem_cons_of_mem _ h3)) (hts _ (List.mem_cons_of_mem _ h4)) hX.1.2.2.2.2.2.1.1 hP hD hS j j2 1 1 (ex_at hj) (ex_at hj2) rfl rfl rfl t1 t2 t3 t4 t5 (fun _ _ => rfl) (Nat.le_trans hR.1 hX.2.2.1.1) (by rw [ex_sl_cat]; omega) hd (fun H1 locs1 hP1 hD1 hS1 => by
    rw [ee] at hP1 hD1
    exact h p e s m args below meth c R D cy ad A T hX H1 locs1 ls hP1 hD1 hS1 hl)
end FUL
theorem ex_kc {α β : Type} {m : α} {a b : β} {xs ys : List (α × β)} (h : xs.map Prod.fst = ys.map Prod.fst) : ((m, a) :: xs).map Prod.fst = ((m, b) :: ys).map Prod.fst := by
  rw [List.map_cons, List.map_cons, h]
