set_option maxHeartbeats 4000000 in
set_option maxRecDepth 100000 in
theorem e_X12_fails (l : Launch) (m : Nat) (x0 : Int32) (x1 : Int32) (x2 : Nat) (x3 : Int32) (x4 : Int32) (x5 : Int32) (x6 : Int32) (x7 : Int64) (x8 : Int32) (x9 : Int32) (F : List MV) (kq : Int32) : ex_M l yX12_fails cX12_fails 2 (some .boolean) 0 0 [ex_r m, ex_i kq] [(m, ex_o 12 (ex_i x0 :: ex_i x1 :: ex_r x2 :: ex_i x3 :: ex_i x4 :: ex_i x5 :: ex_i x6 :: ex_j x7 :: ex_i x8 :: ex_i x9 :: F))] (fun cs r => (cs = [(m, ex_o 12 (ex_i x0 :: ex_i x1 :: ex_r x2 :: ex_i x3 :: ex_i x4 :: ex_i x5 :: ex_i x6 :: ex_j x7 :: ex_i x8 :: ex_i (kq + 16 * x5) :: F))] ∧ r = some (ex_i 0))) := by
  refine X_meth (by decide) (Nat.le_of_ble_eq_true rfl) ?_
  refine X_aload_n (j := 0) dX12_fails_0 rfl rfl ?_
  refine X_iload_n (j := 1) dX12_fails_1 rfl rfl ?_
  refine X_bipush (v := 16) dX12_fails_2 (by decide) ?_
  refine X_aload_n (j := 0) dX12_fails_4 rfl rfl ?_
  refine X_get (j := 0) fo_X12_171 dX12_fails_5 rfl rfl ?_
  refine X_imul (v := (16 * x5)) dX12_fails_8 rfl ?_
  refine X_iadd (v := (kq + (16 * x5))) dX12_fails_9 rfl ?_
  refine X_put (j := 0) (cs' := [(m, ex_o 12 (ex_i x0 :: ex_i x1 :: ex_r x2 :: ex_i x3 :: ex_i x4 :: ex_i x5 :: ex_i x6 :: ex_j x7 :: ex_i x8 :: ex_i (kq + (16 * x5)) :: F))]) fo_X12_192 (by decide) dX12_fails_10 rfl (lt_tl (n := 10) (by decide)) trivial rfl ?_
  refine X_iconst (v := 0) dX12_fails_13 (by decide) ?_
  exact X_iret ex_nZ rfl dX12_fails_14 rfl (⟨rfl, rfl⟩)

set_option maxHeartbeats 4000000 in
set_option maxRecDepth 100000 in
theorem e_X12_signAt_in (l : Launch) (m : Nat) (x0 : Int32) (x1 : Int32) (x2 : Nat) (x4 : Int32) (x5 : Int32) (x6 : Int32) (x7 : Int64) (x8 : Int32) (x9 : Int32) (F : List MV) (f : Nat → Int32) (L : Nat) (j : Nat) (hL : L ≤ 1000) (hj : j < L) : ex_M l yX12_signAt cX12_signAt 2 (some .int) 0 0 [ex_r m, ex_i (nI j)] [(m, ex_o 12 (ex_i x0 :: ex_i x1 :: ex_r x2 :: ex_i (nI L) :: ex_i x4 :: ex_i x5 :: ex_i x6 :: ex_j x7 :: ex_i x8 :: ex_i x9 :: F)), (x2, ex_a 1 1000 f)] (fun cs r => (cs = [(m, ex_o 12 (ex_i x0 :: ex_i x1 :: ex_r x2 :: ex_i (nI L) :: ex_i x4 :: ex_i x5 :: ex_i x6 :: ex_j x7 :: ex_i x8 :: ex_i x9 :: F)), (x2, ex_a 1 1000 f)] ∧ r = some (ex_i (f j)))) := by
  refine X_meth (by decide) (Nat.le_of_ble_eq_true rfl) ?_
  refine X_iload_n (j := 1) dX12_signAt_0 rfl rfl ?_
  refine X_aload_n (j := 0) dX12_signAt_1 rfl rfl ?_
  refine X_get (j := 0) fo_X12_165 dX12_signAt_2 rfl rfl ?_
  refine X_icmp_ge (tgt := 17) dX12_signAt_5 (by decide) (fun c_ => absurd c_ (nI_ge hj (by omega))) (fun _ => ?_)
  refine X_aload_n (j := 0) dX12_signAt_8 rfl rfl ?_
  refine X_get (j := 0) fo_X12_7 dX12_signAt_9 rfl rfl ?_
  refine X_iload_n (j := 1) dX12_signAt_12 rfl rfl ?_
  refine X_iald (j := 1) (v := (f j)) dX12_signAt_13 rfl (vp_in_nI (show j < 1000 by omega) (by decide)) (by rw [nI_clamp (by omega)]) ?_
  refine X_goto (tgt := 18) dX12_signAt_14 (by decide) ?_
  exact X_iret ex_nI rfl dX12_signAt_18 rfl (⟨rfl, rfl⟩)

set_option maxHeartbeats 4000000 in
set_option maxRecDepth 100000 in
theorem e_X12_signAt_out (l : Launch) (m : Nat) (x0 : Int32) (x1 : Int32) (x2 : Nat) (x4 : Int32) (x5 : Int32) (x6 : Int32) (x7 : Int64) (x8 : Int32) (x9 : Int32) (F : List MV) (f : Nat → Int32) (L : Nat) (j : Nat) (hL : L ≤ 1000) (hj : ¬ j < L) (hk : j ≤ L) : ex_M l yX12_signAt cX12_signAt 2 (some .int) 0 0 [ex_r m, ex_i (nI j)] [(m, ex_o 12 (ex_i x0 :: ex_i x1 :: ex_r x2 :: ex_i (nI L) :: ex_i x4 :: ex_i x5 :: ex_i x6 :: ex_j x7 :: ex_i x8 :: ex_i x9 :: F)), (x2, ex_a 1 1000 f)] (fun cs r => (cs = [(m, ex_o 12 (ex_i x0 :: ex_i x1 :: ex_r x2 :: ex_i (nI L) :: ex_i x4 :: ex_i x5 :: ex_i x6 :: ex_j x7 :: ex_i x8 :: ex_i x9 :: F)), (x2, ex_a 1 1000 f)] ∧ r = some (ex_i 0))) := by
  refine X_meth (by decide) (Nat.le_of_ble_eq_true rfl) ?_
  refine X_iload_n (j := 1) dX12_signAt_0 rfl rfl ?_
  refine X_aload_n (j := 0) dX12_signAt_1 rfl rfl ?_
  refine X_get (j := 0) fo_X12_165 dX12_signAt_2 rfl rfl ?_
  refine X_icmp_ge (tgt := 17) dX12_signAt_5 (by decide) (fun _ => ?_) (fun c_ => absurd (nI_le (Nat.le_of_not_lt hj) (by omega)) c_)
  refine X_iconst (v := 0) dX12_signAt_17 (by decide) ?_
  exact X_iret ex_nI rfl dX12_signAt_18 rfl (⟨rfl, rfl⟩)

set_option maxHeartbeats 4000000 in
set_option maxRecDepth 100000 in
theorem e_X12_nextToken (l : Launch) (m : Nat) (x0 : Int32) (x1 : Int32) (x2 : Nat) (x5 : Int32) (x6 : Int32) (x7 : Int64) (x8 : Int32) (x9 : Int32) (F : List MV) (f : Nat → Int32) (L : Nat) (n : Nat) (hL : L ≤ 1000) (hn : n ≤ L) : ex_M l yX12_nextToken cX12_nextToken 2 none 1 21 [ex_r m] [(m, ex_o 12 (ex_i x0 :: ex_i x1 :: ex_r x2 :: ex_i (nI L) :: ex_i (nI n) :: ex_i x5 :: ex_i x6 :: ex_j x7 :: ex_i x8 :: ex_i x9 :: F)), (x2, ex_a 1 1000 f)] (fun cs r => (∃ (wd1 : Int64), ∃ (td1 : Int32), (tK f L n = 1 → wd1 = rW f L n) ∧ (tK f L n = 2 → td1 = tV f L n) ∧ cs = [(m, ex_o 12 (ex_i x0 :: ex_i x1 :: ex_r x2 :: ex_i (nI L) :: ex_i (nI (tN f L n)) :: ex_i (nI (tP f L n)) :: ex_i (tK f L n) :: ex_j wd1 :: ex_i td1 :: ex_i x9 :: F)), (x2, ex_a 1 1000 f)] ∧ r = none)) := by
  refine X_meth (by decide) (Nat.le_of_ble_eq_true rfl) ?_
  refine X_lv (lv' := [(0, ex_r m)]) [0] rfl ?_
  refine X_ind (fun (p : Nat) => p ≤ L ∧ tP f L n = sk bBl f L p) (fun (p : Nat) => L - p) (fun (p : Nat) => [(m, ex_o 12 (ex_i x0 :: ex_i x1 :: ex_r x2 :: ex_i (nI L) :: ex_i (nI p) :: ex_i x5 :: ex_i x6 :: ex_j x7 :: ex_i x8 :: ex_i x9 :: F)), (x2, ex_a 1 1000 f)]) (fun (p : Nat) => [(0, ex_r m)]) (fun p hI ih => ?_) n (⟨hn, rfl⟩)
  try dsimp only at hI ih ⊢
  refine X_aload_n (j := 0) dX12_nextToken_0 rfl rfl ?_
  refine X_get (j := 0) fo_X12_168 dX12_nextToken_1 rfl rfl ?_
  refine X_aload_n (j := 0) dX12_nextToken_4 rfl rfl ?_
  refine X_get (j := 0) fo_X12_165 dX12_nextToken_5 rfl rfl ?_
  refine X_icmp_ge (tgt := 52) dX12_nextToken_8 (by decide) (fun c_1 => ?_) (fun c_1 => ?_)
  · have he : tP f L n = p := by rw [hI.2]; exact sk_stop (fun q => absurd q (by rw [nlex hL hI.1 c_1]; exact Nat.lt_irrefl _))
    have hpL := hI.1
    refine X_aload_n (j := 0) dX12_nextToken_52 rfl rfl ?_
    refine X_aload_n (j := 0) dX12_nextToken_53 rfl rfl ?_
    refine X_get (j := 0) fo_X12_168 dX12_nextToken_54 rfl rfl ?_
    refine X_put (j := 0) (cs' := [(m, ex_o 12 (ex_i x0 :: ex_i x1 :: ex_r x2 :: ex_i (nI L) :: ex_i (nI p) :: ex_i (nI p) :: ex_i x6 :: ex_j x7 :: ex_i x8 :: ex_i x9 :: F)), (x2, ex_a 1 1000 f)]) fo_X12_171 (by decide) dX12_nextToken_57 rfl (lt_tl (n := 10) (by decide)) trivial rfl ?_
    refine X_aload_n (j := 0) dX12_nextToken_60 rfl rfl ?_
    refine X_lconst (v := 0) dX12_nextToken_61 (by decide) ?_
    refine X_put (j := 0) (cs' := [(m, ex_o 12 (ex_i x0 :: ex_i x1 :: ex_r x2 :: ex_i (nI L) :: ex_i (nI p) :: ex_i (nI p) :: ex_i x6 :: ex_j 0 :: ex_i x8 :: ex_i x9 :: F)), (x2, ex_a 1 1000 f)]) fo_X12_174 (by decide) dX12_nextToken_62 rfl (lt_tl (n := 10) (by decide)) rfl rfl ?_
    refine X_aload_n (j := 0) dX12_nextToken_65 rfl rfl ?_
    refine X_iconst (v := 0) dX12_nextToken_66 (by decide) ?_
    refine X_put (j := 0) (cs' := [(m, ex_o 12 (ex_i x0 :: ex_i x1 :: ex_r x2 :: ex_i (nI L) :: ex_i (nI p) :: ex_i (nI p) :: ex_i x6 :: ex_j 0 :: ex_i 0 :: ex_i x9 :: F)), (x2, ex_a 1 1000 f)]) fo_X12_178 (by decide) dX12_nextToken_67 rfl (lt_tl (n := 10) (by decide)) trivial rfl ?_
    refine X_aload_n (j := 0) dX12_nextToken_70 rfl rfl ?_
    refine X_get (j := 0) fo_X12_168 dX12_nextToken_71 rfl rfl ?_
    refine X_aload_n (j := 0) dX12_nextToken_74 rfl rfl ?_
    refine X_get (j := 0) fo_X12_165 dX12_nextToken_75 rfl rfl ?_
    refine X_icmp_ne (tgt := 87) dX12_nextToken_78 (by decide) (fun c_2 => ?_) (fun c_2 => ?_)
    · have hlt9 : tP f L n < L := by rw [he]; exact Nat.lt_of_le_of_ne hpL (fun q => c_2 (by rw [q]))
      have hltp : p < L := by rw [← he]; exact hlt9
      refine X_aload_n (j := 0) dX12_nextToken_87 rfl rfl ?_
      refine X_get (j := 0) fo_X12_7 dX12_nextToken_88 rfl rfl ?_
      refine X_aload_n (j := 0) dX12_nextToken_91 rfl rfl ?_
      refine X_get (j := 0) fo_X12_168 dX12_nextToken_92 rfl rfl ?_
      refine X_iald (j := 1) (v := (f p)) dX12_nextToken_95 rfl (vp_in_nI (show p < 1000 by omega) (by decide)) (by rw [nI_clamp (by omega)]) ?_
      refine X_istore_n (lv' := [(1, ex_i (f p)), (0, ex_r m)]) dX12_nextToken_96 rfl (Nat.le_of_ble_eq_true rfl) rfl ?_
      refine X_iload_n (j := 0) dX12_nextToken_97 rfl rfl ?_
      refine X_bipush (v := 97) dX12_nextToken_98 (by decide) ?_
      refine X_icmp_lt (tgt := 212) dX12_nextToken_100 (by decide) (fun c_3 => ?_) (fun c_3 => ?_)
      · refine X_iload_n (j := 0) dX12_nextToken_212 rfl rfl ?_
        refine X_bipush (v := 48) dX12_nextToken_213 (by decide) ?_
        refine X_icmp_lt (tgt := 322) dX12_nextToken_215 (by decide) (fun c_4 => ?_) (fun c_4 => ?_)
        · refine X_aload_n (j := 1) dX12_nextToken_322 rfl rfl ?_
          refine X_dup dX12_nextToken_323 rfl ?_
          refine X_get (j := 0) fo_X12_168 dX12_nextToken_324 rfl rfl ?_
          refine X_iconst (v := 1) dX12_nextToken_327 (by decide) ?_
          refine X_iadd (v := (nI (p + 1))) dX12_nextToken_328 (nI_1 p) ?_
          refine X_put (j := 0) (cs' := [(m, ex_o 12 (ex_i x0 :: ex_i x1 :: ex_r x2 :: ex_i (nI L) :: ex_i (nI (p + 1)) :: ex_i (nI p) :: ex_i x6 :: ex_j 0 :: ex_i 0 :: ex_i x9 :: F)), (x2, ex_a 1 1000 f)]) fo_X12_168 (by decide) dX12_nextToken_329 rfl (lt_tl (n := 10) (by decide)) trivial rfl ?_
          refine X_aload_n (j := 1) dX12_nextToken_332 rfl rfl ?_
          refine X_iload_n (j := 0) dX12_nextToken_333 rfl rfl ?_
          refine X_bipush (v := 40) dX12_nextToken_334 (by decide) ?_
          refine X_icmp_lt (tgt := 345) dX12_nextToken_336 (by decide) (fun c_5 => ?_) (fun c_5 => ?_)
          · refine X_iload_n (j := 0) dX12_nextToken_345 rfl rfl ?_
            refine X_bipush (v := 45) dX12_nextToken_346 (by decide) ?_
            refine X_icmp_eq (tgt := 363) dX12_nextToken_348 (by decide) (fun c_ => absurd c_ (by have q0 := c_3; have q1 := c_4; have q2 := c_5; simp only [lt_ti, le_ti, eq_ti, ti_40, ti_45, ti_48, ti_97] at q0 q1 q2 ⊢; omega)) (fun _ => ?_)
            refine X_iload_n (j := 0) dX12_nextToken_351 rfl rfl ?_
            refine X_bipush (v := 59) dX12_nextToken_352 (by decide) ?_
            refine X_icmp_lt (tgt := 367) dX12_nextToken_354 (by decide) (fun _ => ?_) (fun c_ => absurd (by have q0 := c_3; have q1 := c_4; have q2 := c_5; simp only [lt_ti, le_ti, eq_ti, ti_40, ti_48, ti_59, ti_97] at q0 q1 q2 ⊢; omega) c_)
            refine X_iconst (v := 4) dX12_nextToken_367 (by decide) ?_
            refine X_put (j := 0) (cs' := [(m, ex_o 12 (ex_i x0 :: ex_i x1 :: ex_r x2 :: ex_i (nI L) :: ex_i (nI (p + 1)) :: ex_i (nI p) :: ex_i 4 :: ex_j 0 :: ex_i 0 :: ex_i x9 :: F)), (x2, ex_a 1 1000 f)]) fo_X12_181 (by decide) dX12_nextToken_368 rfl (lt_tl (n := 10) (by decide)) trivial rfl ?_
            have hle : bLe (f (tP f L n)) = false := by rw [he]; exact bLe_f1 c_3
            have hdi : bDi (f (tP f L n)) = false := by rw [he]; exact bDi_f1 c_4
            have hN := tN_s hlt9 hle hdi
            have hs : bSg (f (tP f L n)) = false := by rw [he]; refine bSg_f ?_; have q0 := c_3; have q1 := c_4; have q2 := c_5; have t40 : (40 : Int32).toInt = 40 := rfl; have t48 : (48 : Int32).toInt = 48 := rfl; have t97 : (97 : Int32).toInt = 97 := rfl; simp only [Int32.lt_iff_toInt_lt, Int32.le_iff_toInt_le, ← Int32.toInt_inj, t40, t48, t97] at q0 q1 q2; omega
            have hk := tK_34 hlt9 hle hdi hs
            exact X_vret dX12_nextToken_371 rfl (⟨0, 0, (fun q => absurd (hk.symm.trans q) (by decide)), (fun q => absurd (hk.symm.trans q) (by decide)), (by rw [hN, hk, he]; try rfl), rfl⟩)
          · refine X_iload_n (j := 0) dX12_nextToken_339 rfl rfl ?_
            refine X_bipush (v := 43) dX12_nextToken_340 (by decide) ?_
            refine X_icmp_le (tgt := 363) dX12_nextToken_342 (by decide) (fun c_6 => ?_) (fun c_6 => ?_)
            · refine X_iconst (v := 3) dX12_nextToken_363 (by decide) ?_
              refine X_goto (tgt := 368) dX12_nextToken_364 (by decide) ?_
              refine X_put (j := 0) (cs' := [(m, ex_o 12 (ex_i x0 :: ex_i x1 :: ex_r x2 :: ex_i (nI L) :: ex_i (nI (p + 1)) :: ex_i (nI p) :: ex_i 3 :: ex_j 0 :: ex_i 0 :: ex_i x9 :: F)), (x2, ex_a 1 1000 f)]) fo_X12_181 (by decide) dX12_nextToken_368 rfl (lt_tl (n := 10) (by decide)) trivial rfl ?_
              have hle : bLe (f (tP f L n)) = false := by rw [he]; exact bLe_f1 c_3
              have hdi : bDi (f (tP f L n)) = false := by rw [he]; exact bDi_f1 c_4
              have hN := tN_s hlt9 hle hdi
              have hs : bSg (f (tP f L n)) = true := by rw [he, bSg_iff]; have q0 := c_3; have q1 := c_4; have q2 := c_5; have q3 := c_6; have t40 : (40 : Int32).toInt = 40 := rfl; have t43 : (43 : Int32).toInt = 43 := rfl; have t48 : (48 : Int32).toInt = 48 := rfl; have t97 : (97 : Int32).toInt = 97 := rfl; simp only [Int32.lt_iff_toInt_lt, Int32.le_iff_toInt_le, ← Int32.toInt_inj, t40, t43, t48, t97] at q0 q1 q2 q3; omega
              have hk := tK_3 hlt9 hle hdi hs
              exact X_vret dX12_nextToken_371 rfl (⟨0, 0, (fun q => absurd (hk.symm.trans q) (by decide)), (fun q => absurd (hk.symm.trans q) (by decide)), (by rw [hN, hk, he]; try rfl), rfl⟩)
            · refine X_iload_n (j := 0) dX12_nextToken_345 rfl rfl ?_
              refine X_bipush (v := 45) dX12_nextToken_346 (by decide) ?_
              refine X_icmp_eq (tgt := 363) dX12_nextToken_348 (by decide) (fun c_7 => ?_) (fun c_7 => ?_)
              · refine X_iconst (v := 3) dX12_nextToken_363 (by decide) ?_
                refine X_goto (tgt := 368) dX12_nextToken_364 (by decide) ?_
                refine X_put (j := 0) (cs' := [(m, ex_o 12 (ex_i x0 :: ex_i x1 :: ex_r x2 :: ex_i (nI L) :: ex_i (nI (p + 1)) :: ex_i (nI p) :: ex_i 3 :: ex_j 0 :: ex_i 0 :: ex_i x9 :: F)), (x2, ex_a 1 1000 f)]) fo_X12_181 (by decide) dX12_nextToken_368 rfl (lt_tl (n := 10) (by decide)) trivial rfl ?_
                have hle : bLe (f (tP f L n)) = false := by rw [he]; exact bLe_f1 c_3
                have hdi : bDi (f (tP f L n)) = false := by rw [he]; exact bDi_f1 c_4
                have hN := tN_s hlt9 hle hdi
                have hs : bSg (f (tP f L n)) = true := by rw [he, bSg_iff]; have q0 := c_3; have q1 := c_4; have q2 := c_5; have q3 := c_6; have q4 := c_7; have t40 : (40 : Int32).toInt = 40 := rfl; have t43 : (43 : Int32).toInt = 43 := rfl; have t45 : (45 : Int32).toInt = 45 := rfl; have t48 : (48 : Int32).toInt = 48 := rfl; have t97 : (97 : Int32).toInt = 97 := rfl; simp only [Int32.lt_iff_toInt_lt, Int32.le_iff_toInt_le, ← Int32.toInt_inj, t40, t43, t45, t48, t97] at q0 q1 q2 q3 q4; omega
                have hk := tK_3 hlt9 hle hdi hs
                exact X_vret dX12_nextToken_371 rfl (⟨0, 0, (fun q => absurd (hk.symm.trans q) (by decide)), (fun q => absurd (hk.symm.trans q) (by decide)), (by rw [hN, hk, he]; try rfl), rfl⟩)
              · refine X_iload_n (j := 0) dX12_nextToken_351 rfl rfl ?_
                refine X_bipush (v := 59) dX12_nextToken_352 (by decide) ?_
                refine X_icmp_lt (tgt := 367) dX12_nextToken_354 (by decide) (fun _ => ?_) (fun c_ => absurd (by have q0 := c_3; have q1 := c_4; have q2 := c_5; have q3 := c_6; have q4 := c_7; simp only [lt_ti, le_ti, eq_ti, ti_40, ti_43, ti_45, ti_48, ti_59, ti_97] at q0 q1 q2 q3 q4 ⊢; omega) c_)
                refine X_iconst (v := 4) dX12_nextToken_367 (by decide) ?_
                refine X_put (j := 0) (cs' := [(m, ex_o 12 (ex_i x0 :: ex_i x1 :: ex_r x2 :: ex_i (nI L) :: ex_i (nI (p + 1)) :: ex_i (nI p) :: ex_i 4 :: ex_j 0 :: ex_i 0 :: ex_i x9 :: F)), (x2, ex_a 1 1000 f)]) fo_X12_181 (by decide) dX12_nextToken_368 rfl (lt_tl (n := 10) (by decide)) trivial rfl ?_
                have hle : bLe (f (tP f L n)) = false := by rw [he]; exact bLe_f1 c_3
                have hdi : bDi (f (tP f L n)) = false := by rw [he]; exact bDi_f1 c_4
                have hN := tN_s hlt9 hle hdi
                have hs : bSg (f (tP f L n)) = false := by rw [he]; refine bSg_f ?_; have q0 := c_3; have q1 := c_4; have q2 := c_5; have q3 := c_6; have q4 := c_7; have t40 : (40 : Int32).toInt = 40 := rfl; have t43 : (43 : Int32).toInt = 43 := rfl; have t45 : (45 : Int32).toInt = 45 := rfl; have t48 : (48 : Int32).toInt = 48 := rfl; have t97 : (97 : Int32).toInt = 97 := rfl; simp only [Int32.lt_iff_toInt_lt, Int32.le_iff_toInt_le, ← Int32.toInt_inj, t40, t43, t45, t48, t97] at q0 q1 q2 q3 q4; omega
                have hk := tK_34 hlt9 hle hdi hs
                exact X_vret dX12_nextToken_371 rfl (⟨0, 0, (fun q => absurd (hk.symm.trans q) (by decide)), (fun q => absurd (hk.symm.trans q) (by decide)), (by rw [hN, hk, he]; try rfl), rfl⟩)
        · refine X_iload_n (j := 0) dX12_nextToken_218 rfl rfl ?_
          refine X_bipush (v := 57) dX12_nextToken_219 (by decide) ?_
          refine X_icmp_gt (tgt := 322) dX12_nextToken_221 (by decide) (fun c_8 => ?_) (fun c_8 => ?_)
          · refine X_aload_n (j := 1) dX12_nextToken_322 rfl rfl ?_
            refine X_dup dX12_nextToken_323 rfl ?_
            refine X_get (j := 0) fo_X12_168 dX12_nextToken_324 rfl rfl ?_
            refine X_iconst (v := 1) dX12_nextToken_327 (by decide) ?_
            refine X_iadd (v := (nI (p + 1))) dX12_nextToken_328 (nI_1 p) ?_
            refine X_put (j := 0) (cs' := [(m, ex_o 12 (ex_i x0 :: ex_i x1 :: ex_r x2 :: ex_i (nI L) :: ex_i (nI (p + 1)) :: ex_i (nI p) :: ex_i x6 :: ex_j 0 :: ex_i 0 :: ex_i x9 :: F)), (x2, ex_a 1 1000 f)]) fo_X12_168 (by decide) dX12_nextToken_329 rfl (lt_tl (n := 10) (by decide)) trivial rfl ?_
            refine X_aload_n (j := 1) dX12_nextToken_332 rfl rfl ?_
            refine X_iload_n (j := 0) dX12_nextToken_333 rfl rfl ?_
            refine X_bipush (v := 40) dX12_nextToken_334 (by decide) ?_
            refine X_icmp_lt (tgt := 345) dX12_nextToken_336 (by decide) (fun c_ => absurd c_ (by have q0 := c_3; have q1 := c_4; have q2 := c_8; simp only [lt_ti, le_ti, eq_ti, ti_40, ti_48, ti_57, ti_97] at q0 q1 q2 ⊢; omega)) (fun _ => ?_)
            refine X_iload_n (j := 0) dX12_nextToken_339 rfl rfl ?_
            refine X_bipush (v := 43) dX12_nextToken_340 (by decide) ?_
            refine X_icmp_le (tgt := 363) dX12_nextToken_342 (by decide) (fun c_ => absurd c_ (by have q0 := c_3; have q1 := c_4; have q2 := c_8; simp only [lt_ti, le_ti, eq_ti, ti_43, ti_48, ti_57, ti_97] at q0 q1 q2 ⊢; omega)) (fun _ => ?_)
            refine X_iload_n (j := 0) dX12_nextToken_345 rfl rfl ?_
            refine X_bipush (v := 45) dX12_nextToken_346 (by decide) ?_
            refine X_icmp_eq (tgt := 363) dX12_nextToken_348 (by decide) (fun c_ => absurd c_ (by have q0 := c_3; have q1 := c_4; have q2 := c_8; simp only [lt_ti, le_ti, eq_ti, ti_45, ti_48, ti_57, ti_97] at q0 q1 q2 ⊢; omega)) (fun _ => ?_)
            refine X_iload_n (j := 0) dX12_nextToken_351 rfl rfl ?_
            refine X_bipush (v := 59) dX12_nextToken_352 (by decide) ?_
            refine X_icmp_lt (tgt := 367) dX12_nextToken_354 (by decide) (fun c_9 => ?_) (fun c_9 => ?_)
            · refine X_iconst (v := 4) dX12_nextToken_367 (by decide) ?_
              refine X_put (j := 0) (cs' := [(m, ex_o 12 (ex_i x0 :: ex_i x1 :: ex_r x2 :: ex_i (nI L) :: ex_i (nI (p + 1)) :: ex_i (nI p) :: ex_i 4 :: ex_j 0 :: ex_i 0 :: ex_i x9 :: F)), (x2, ex_a 1 1000 f)]) fo_X12_181 (by decide) dX12_nextToken_368 rfl (lt_tl (n := 10) (by decide)) trivial rfl ?_
              have hle : bLe (f (tP f L n)) = false := by rw [he]; exact bLe_f1 c_3
              have hdi : bDi (f (tP f L n)) = false := by rw [he]; exact bDi_f2 c_8
              have hN := tN_s hlt9 hle hdi
              have hs : bSg (f (tP f L n)) = false := by rw [he]; refine bSg_f ?_; have q0 := c_3; have q1 := c_4; have q2 := c_8; have q3 := c_9; have t48 : (48 : Int32).toInt = 48 := rfl; have t57 : (57 : Int32).toInt = 57 := rfl; have t59 : (59 : Int32).toInt = 59 := rfl; have t97 : (97 : Int32).toInt = 97 := rfl; simp only [Int32.lt_iff_toInt_lt, Int32.le_iff_toInt_le, ← Int32.toInt_inj, t48, t57, t59, t97] at q0 q1 q2 q3; omega
              have hk := tK_34 hlt9 hle hdi hs
              exact X_vret dX12_nextToken_371 rfl (⟨0, 0, (fun q => absurd (hk.symm.trans q) (by decide)), (fun q => absurd (hk.symm.trans q) (by decide)), (by rw [hN, hk, he]; try rfl), rfl⟩)
            · refine X_iload_n (j := 0) dX12_nextToken_357 rfl rfl ?_
              refine X_bipush (v := 61) dX12_nextToken_358 (by decide) ?_
              refine X_icmp_gt (tgt := 367) dX12_nextToken_360 (by decide) (fun c_10 => ?_) (fun c_10 => ?_)
              · refine X_iconst (v := 4) dX12_nextToken_367 (by decide) ?_
                refine X_put (j := 0) (cs' := [(m, ex_o 12 (ex_i x0 :: ex_i x1 :: ex_r x2 :: ex_i (nI L) :: ex_i (nI (p + 1)) :: ex_i (nI p) :: ex_i 4 :: ex_j 0 :: ex_i 0 :: ex_i x9 :: F)), (x2, ex_a 1 1000 f)]) fo_X12_181 (by decide) dX12_nextToken_368 rfl (lt_tl (n := 10) (by decide)) trivial rfl ?_
                have hle : bLe (f (tP f L n)) = false := by rw [he]; exact bLe_f1 c_3
                have hdi : bDi (f (tP f L n)) = false := by rw [he]; exact bDi_f2 c_8
                have hN := tN_s hlt9 hle hdi
                have hs : bSg (f (tP f L n)) = false := by rw [he]; refine bSg_f ?_; have q0 := c_3; have q1 := c_4; have q2 := c_8; have q3 := c_9; have q4 := c_10; have t48 : (48 : Int32).toInt = 48 := rfl; have t57 : (57 : Int32).toInt = 57 := rfl; have t59 : (59 : Int32).toInt = 59 := rfl; have t61 : (61 : Int32).toInt = 61 := rfl; have t97 : (97 : Int32).toInt = 97 := rfl; simp only [Int32.lt_iff_toInt_lt, Int32.le_iff_toInt_le, ← Int32.toInt_inj, t48, t57, t59, t61, t97] at q0 q1 q2 q3 q4; omega
                have hk := tK_34 hlt9 hle hdi hs
                exact X_vret dX12_nextToken_371 rfl (⟨0, 0, (fun q => absurd (hk.symm.trans q) (by decide)), (fun q => absurd (hk.symm.trans q) (by decide)), (by rw [hN, hk, he]; try rfl), rfl⟩)
              · refine X_iconst (v := 3) dX12_nextToken_363 (by decide) ?_
                refine X_goto (tgt := 368) dX12_nextToken_364 (by decide) ?_
                refine X_put (j := 0) (cs' := [(m, ex_o 12 (ex_i x0 :: ex_i x1 :: ex_r x2 :: ex_i (nI L) :: ex_i (nI (p + 1)) :: ex_i (nI p) :: ex_i 3 :: ex_j 0 :: ex_i 0 :: ex_i x9 :: F)), (x2, ex_a 1 1000 f)]) fo_X12_181 (by decide) dX12_nextToken_368 rfl (lt_tl (n := 10) (by decide)) trivial rfl ?_
                have hle : bLe (f (tP f L n)) = false := by rw [he]; exact bLe_f1 c_3
                have hdi : bDi (f (tP f L n)) = false := by rw [he]; exact bDi_f2 c_8
                have hN := tN_s hlt9 hle hdi
                have hs : bSg (f (tP f L n)) = true := by rw [he, bSg_iff]; have q0 := c_3; have q1 := c_4; have q2 := c_8; have q3 := c_9; have q4 := c_10; have t48 : (48 : Int32).toInt = 48 := rfl; have t57 : (57 : Int32).toInt = 57 := rfl; have t59 : (59 : Int32).toInt = 59 := rfl; have t61 : (61 : Int32).toInt = 61 := rfl; have t97 : (97 : Int32).toInt = 97 := rfl; simp only [Int32.lt_iff_toInt_lt, Int32.le_iff_toInt_le, ← Int32.toInt_inj, t48, t57, t59, t61, t97] at q0 q1 q2 q3 q4; omega
                have hk := tK_3 hlt9 hle hdi hs
                exact X_vret dX12_nextToken_371 rfl (⟨0, 0, (fun q => absurd (hk.symm.trans q) (by decide)), (fun q => absurd (hk.symm.trans q) (by decide)), (by rw [hN, hk, he]; try rfl), rfl⟩)
          · refine X_lv (lv' := [(0, ex_r m)]) [1] rfl ?_
            refine X_ind (fun (k : Nat) => p + k ≤ L ∧ sk bDi f L p = sk bDi f L (p + k)) (fun (k : Nat) => L - (p + k)) (fun (k : Nat) => [(m, ex_o 12 (ex_i x0 :: ex_i x1 :: ex_r x2 :: ex_i (nI L) :: ex_i (nI (p + k)) :: ex_i (nI p) :: ex_i x6 :: ex_j 0 :: ex_i (dg f p (mn k 4)) :: ex_i x9 :: F)), (x2, ex_a 1 1000 f)]) (fun (k : Nat) => [(0, ex_r m)]) (fun k hI ih => ?_) 0 (⟨Nat.le_of_lt hltp, rfl⟩)
            try dsimp only at hI ih ⊢
            by_cases hk9 : p + k < L
            · refine X_aload_n (j := 0) dX12_nextToken_224 rfl rfl ?_
              refine X_aload_n (j := 0) dX12_nextToken_225 rfl rfl ?_
              refine X_get (j := 0) fo_X12_168 dX12_nextToken_226 rfl rfl ?_
              refine X_callV (j0 := 0) (rest := []) (stk := []) co_X12_184 rfl ⟨(Nat.le_of_ble_eq_true rfl), (Nat.le_of_ble_eq_true rfl)⟩ (e_X12_signAt_in l m x0 x1 x2 (nI (p + k)) (nI p) x6 0 (dg f p (mn k 4)) x9 F f L (p + k) hL hk9) dX12_nextToken_229 [0, 1] (show List.Perm [0, 1] (List.range 2) from by decide) rfl rfl rfl rfl (Nat.le_of_ble_eq_true rfl) (fun cs1 r hq hk => ?_)
              rcases hq with ⟨rfl, rfl⟩
              refine X_bipush (v := 48) dX12_nextToken_232 (by decide) ?_
              refine X_icmp_lt (tgt := 299) dX12_nextToken_234 (by decide) (fun c_11 => ?_) (fun c_11 => ?_)
              · have he2 : sk bDi f L p = p + k := by rw [hI.2]; exact sk_stop (fun _ => bDi_f1 c_11)
                refine X_aload_n (j := 0) dX12_nextToken_299 rfl rfl ?_
                refine X_aload_n (j := 0) dX12_nextToken_300 rfl rfl ?_
                refine X_get (j := 0) fo_X12_168 dX12_nextToken_301 rfl rfl ?_
                refine X_aload_n (j := 0) dX12_nextToken_304 rfl rfl ?_
                refine X_get (j := 0) fo_X12_171 dX12_nextToken_305 rfl rfl ?_
                refine X_isub (v := (nI k)) dX12_nextToken_308 (by rw [pk_sub (Nat.le_add_right p k), Nat.add_sub_cancel_left]) ?_
                refine X_iconst (v := 4) dX12_nextToken_309 (by decide) ?_
                refine X_icmp_le (tgt := 317) dX12_nextToken_310 (by decide) (fun c_12 => ?_) (fun c_12 => ?_)
                · refine X_iconst (v := 2) dX12_nextToken_317 (by decide) ?_
                  refine X_put (j := 0) (cs' := [(m, ex_o 12 (ex_i x0 :: ex_i x1 :: ex_r x2 :: ex_i (nI L) :: ex_i (nI (p + k)) :: ex_i (nI p) :: ex_i 2 :: ex_j 0 :: ex_i (dg f p (mn k 4)) :: ex_i x9 :: F)), (x2, ex_a 1 1000 f)]) fo_X12_181 (by decide) dX12_nextToken_318 rfl (lt_tl (n := 10) (by decide)) trivial rfl ?_
                  have hle : bLe (f (tP f L n)) = false := by rw [he]; exact bLe_f1 c_3
                  have hdi : bDi (f (tP f L n)) = true := by rw [he]; exact bDi_t c_4 c_8
                  have hN := tN_d hlt9 hle hdi
                  have h8 : k ≤ 4 := Nat.le_of_not_lt fun q => nI_ge (a := 4) q (by omega) c_12
                  have hk := tK_2 hlt9 hle hdi (by rw [he, he2, Nat.add_sub_cancel_left]; exact h8)
                  exact X_vret dX12_nextToken_321 rfl (⟨0, (dg f p (mn k 4)), (fun q => absurd (hk.symm.trans q) (by decide)), (fun _ => by unfold tV; rw [hN, he, he2, Nat.add_sub_cancel_left, mn_lt h8]), (by rw [hN, hk, he, he2]; try rfl), rfl⟩)
                · refine X_iconst (v := 4) dX12_nextToken_313 (by decide) ?_
                  refine X_goto (tgt := 318) dX12_nextToken_314 (by decide) ?_
                  refine X_put (j := 0) (cs' := [(m, ex_o 12 (ex_i x0 :: ex_i x1 :: ex_r x2 :: ex_i (nI L) :: ex_i (nI (p + k)) :: ex_i (nI p) :: ex_i 4 :: ex_j 0 :: ex_i (dg f p (mn k 4)) :: ex_i x9 :: F)), (x2, ex_a 1 1000 f)]) fo_X12_181 (by decide) dX12_nextToken_318 rfl (lt_tl (n := 10) (by decide)) trivial rfl ?_
                  have hle : bLe (f (tP f L n)) = false := by rw [he]; exact bLe_f1 c_3
                  have hdi : bDi (f (tP f L n)) = true := by rw [he]; exact bDi_t c_4 c_8
                  have hN := tN_d hlt9 hle hdi
                  have h8 : ¬ k ≤ 4 := fun q => c_12 (nI_le (b := 4) q (by decide))
                  have hk := tK_24 hlt9 hle hdi (by rw [he, he2, Nat.add_sub_cancel_left]; exact h8)
                  exact X_vret dX12_nextToken_321 rfl (⟨0, (dg f p (mn k 4)), (fun q => absurd (hk.symm.trans q) (by decide)), (fun q => absurd (hk.symm.trans q) (by decide)), (by rw [hN, hk, he, he2]; try rfl), rfl⟩)
              · refine X_aload_n (j := 0) dX12_nextToken_237 rfl rfl ?_
                refine X_aload_n (j := 0) dX12_nextToken_238 rfl rfl ?_
                refine X_get (j := 0) fo_X12_168 dX12_nextToken_239 rfl rfl ?_
                refine X_callV (j0 := 0) (rest := []) (stk := []) co_X12_184 rfl ⟨(Nat.le_of_ble_eq_true rfl), (Nat.le_of_ble_eq_true rfl)⟩ (e_X12_signAt_in l m x0 x1 x2 (nI (p + k)) (nI p) x6 0 (dg f p (mn k 4)) x9 F f L (p + k) hL hk9) dX12_nextToken_242 [0, 1] (show List.Perm [0, 1] (List.range 2) from by decide) rfl rfl rfl rfl (Nat.le_of_ble_eq_true rfl) (fun cs1 r hq hk => ?_)
                rcases hq with ⟨rfl, rfl⟩
                refine X_bipush (v := 57) dX12_nextToken_245 (by decide) ?_
                refine X_icmp_gt (tgt := 299) dX12_nextToken_247 (by decide) (fun c_13 => ?_) (fun c_13 => ?_)
                · have he2 : sk bDi f L p = p + k := by rw [hI.2]; exact sk_stop (fun _ => bDi_f2 c_13)
                  refine X_aload_n (j := 0) dX12_nextToken_299 rfl rfl ?_
                  refine X_aload_n (j := 0) dX12_nextToken_300 rfl rfl ?_
                  refine X_get (j := 0) fo_X12_168 dX12_nextToken_301 rfl rfl ?_
                  refine X_aload_n (j := 0) dX12_nextToken_304 rfl rfl ?_
                  refine X_get (j := 0) fo_X12_171 dX12_nextToken_305 rfl rfl ?_
                  refine X_isub (v := (nI k)) dX12_nextToken_308 (by rw [pk_sub (Nat.le_add_right p k), Nat.add_sub_cancel_left]) ?_
                  refine X_iconst (v := 4) dX12_nextToken_309 (by decide) ?_
                  refine X_icmp_le (tgt := 317) dX12_nextToken_310 (by decide) (fun c_14 => ?_) (fun c_14 => ?_)
                  · refine X_iconst (v := 2) dX12_nextToken_317 (by decide) ?_
                    refine X_put (j := 0) (cs' := [(m, ex_o 12 (ex_i x0 :: ex_i x1 :: ex_r x2 :: ex_i (nI L) :: ex_i (nI (p + k)) :: ex_i (nI p) :: ex_i 2 :: ex_j 0 :: ex_i (dg f p (mn k 4)) :: ex_i x9 :: F)), (x2, ex_a 1 1000 f)]) fo_X12_181 (by decide) dX12_nextToken_318 rfl (lt_tl (n := 10) (by decide)) trivial rfl ?_
                    have hle : bLe (f (tP f L n)) = false := by rw [he]; exact bLe_f1 c_3
                    have hdi : bDi (f (tP f L n)) = true := by rw [he]; exact bDi_t c_4 c_8
                    have hN := tN_d hlt9 hle hdi
                    have h8 : k ≤ 4 := Nat.le_of_not_lt fun q => nI_ge (a := 4) q (by omega) c_14
                    have hk := tK_2 hlt9 hle hdi (by rw [he, he2, Nat.add_sub_cancel_left]; exact h8)
                    exact X_vret dX12_nextToken_321 rfl (⟨0, (dg f p (mn k 4)), (fun q => absurd (hk.symm.trans q) (by decide)), (fun _ => by unfold tV; rw [hN, he, he2, Nat.add_sub_cancel_left, mn_lt h8]), (by rw [hN, hk, he, he2]; try rfl), rfl⟩)
                  · refine X_iconst (v := 4) dX12_nextToken_313 (by decide) ?_
                    refine X_goto (tgt := 318) dX12_nextToken_314 (by decide) ?_
                    refine X_put (j := 0) (cs' := [(m, ex_o 12 (ex_i x0 :: ex_i x1 :: ex_r x2 :: ex_i (nI L) :: ex_i (nI (p + k)) :: ex_i (nI p) :: ex_i 4 :: ex_j 0 :: ex_i (dg f p (mn k 4)) :: ex_i x9 :: F)), (x2, ex_a 1 1000 f)]) fo_X12_181 (by decide) dX12_nextToken_318 rfl (lt_tl (n := 10) (by decide)) trivial rfl ?_
                    have hle : bLe (f (tP f L n)) = false := by rw [he]; exact bLe_f1 c_3
                    have hdi : bDi (f (tP f L n)) = true := by rw [he]; exact bDi_t c_4 c_8
                    have hN := tN_d hlt9 hle hdi
                    have h8 : ¬ k ≤ 4 := fun q => c_14 (nI_le (b := 4) q (by decide))
                    have hk := tK_24 hlt9 hle hdi (by rw [he, he2, Nat.add_sub_cancel_left]; exact h8)
                    exact X_vret dX12_nextToken_321 rfl (⟨0, (dg f p (mn k 4)), (fun q => absurd (hk.symm.trans q) (by decide)), (fun q => absurd (hk.symm.trans q) (by decide)), (by rw [hN, hk, he, he2]; try rfl), rfl⟩)
                · refine X_aload_n (j := 0) dX12_nextToken_250 rfl rfl ?_
                  refine X_get (j := 0) fo_X12_168 dX12_nextToken_251 rfl rfl ?_
                  refine X_aload_n (j := 0) dX12_nextToken_254 rfl rfl ?_
                  refine X_get (j := 0) fo_X12_171 dX12_nextToken_255 rfl rfl ?_
                  refine X_isub (v := (nI k)) dX12_nextToken_258 (by rw [pk_sub (Nat.le_add_right p k), Nat.add_sub_cancel_left]) ?_
                  refine X_iconst (v := 4) dX12_nextToken_259 (by decide) ?_
                  refine X_icmp_ge (tgt := 286) dX12_nextToken_260 (by decide) (fun c_15 => ?_) (fun c_15 => ?_)
                  · refine X_aload_n (j := 0) dX12_nextToken_286 rfl rfl ?_
                    refine X_dup dX12_nextToken_287 rfl ?_
                    refine X_get (j := 0) fo_X12_168 dX12_nextToken_288 rfl rfl ?_
                    refine X_iconst (v := 1) dX12_nextToken_291 (by decide) ?_
                    refine X_iadd (v := (nI (p + (k + 1)))) dX12_nextToken_292 (nI_1 (p + k)) ?_
                    refine X_put (j := 0) (cs' := [(m, ex_o 12 (ex_i x0 :: ex_i x1 :: ex_r x2 :: ex_i (nI L) :: ex_i (nI (p + (k + 1))) :: ex_i (nI p) :: ex_i x6 :: ex_j 0 :: ex_i (dg f p (mn k 4)) :: ex_i x9 :: F)), (x2, ex_a 1 1000 f)]) fo_X12_168 (by decide) dX12_nextToken_293 rfl (lt_tl (n := 10) (by decide)) trivial rfl ?_
                    refine X_goto (tgt := 224) dX12_nextToken_296 (by decide) ?_
                    have ew : dg f p (mn k 4) = (dg f p (mn (k + 1) 4)) := dg_t (Nat.le_of_not_lt fun q => nI_ge (b := 4) q (by decide) c_15)
                    rw [ew]
                    refine X_lv (lv' := [(0, ex_r m)]) [0] rfl ?_
                    exact ih (k + 1) (⟨by omega, by rw [hI.2, sk_go hk9 (bDi_t c_11 c_13), Nat.add_assoc]⟩) (by omega)
                  · refine X_aload_n (j := 0) dX12_nextToken_263 rfl rfl ?_
                    refine X_aload_n (j := 0) dX12_nextToken_264 rfl rfl ?_
                    refine X_get (j := 0) fo_X12_178 dX12_nextToken_265 rfl rfl ?_
                    refine X_bipush (v := 10) dX12_nextToken_268 (by decide) ?_
                    refine X_imul (v := ((dg f p (mn k 4)) * 10)) dX12_nextToken_270 rfl ?_
                    refine X_aload_n (j := 0) dX12_nextToken_271 rfl rfl ?_
                    refine X_aload_n (j := 0) dX12_nextToken_272 rfl rfl ?_
                    refine X_get (j := 0) fo_X12_168 dX12_nextToken_273 rfl rfl ?_
                    refine X_callV (j0 := 0) (rest := []) (stk := [ex_i ((dg f p (mn k 4)) * 10), ex_r m]) co_X12_184 rfl ⟨(Nat.le_of_ble_eq_true rfl), (Nat.le_of_ble_eq_true rfl)⟩ (e_X12_signAt_in l m x0 x1 x2 (nI (p + k)) (nI p) x6 0 (dg f p (mn k 4)) x9 F f L (p + k) hL hk9) dX12_nextToken_276 [0, 1] (show List.Perm [0, 1] (List.range 2) from by decide) rfl rfl rfl rfl (Nat.le_of_ble_eq_true rfl) (fun cs1 r hq hk => ?_)
                    rcases hq with ⟨rfl, rfl⟩
                    refine X_iadd (v := (((dg f p (mn k 4)) * 10) + (f (p + k)))) dX12_nextToken_279 rfl ?_
                    refine X_bipush (v := 48) dX12_nextToken_280 (by decide) ?_
                    refine X_isub (v := ((((dg f p (mn k 4)) * 10) + (f (p + k))) - 48)) dX12_nextToken_282 rfl ?_
                    refine X_put (j := 0) (cs' := [(m, ex_o 12 (ex_i x0 :: ex_i x1 :: ex_r x2 :: ex_i (nI L) :: ex_i (nI (p + k)) :: ex_i (nI p) :: ex_i x6 :: ex_j 0 :: ex_i ((((dg f p (mn k 4)) * 10) + (f (p + k))) - 48) :: ex_i x9 :: F)), (x2, ex_a 1 1000 f)]) fo_X12_178 (by decide) dX12_nextToken_283 rfl (lt_tl (n := 10) (by decide)) trivial rfl ?_
                    refine X_aload_n (j := 0) dX12_nextToken_286 rfl rfl ?_
                    refine X_dup dX12_nextToken_287 rfl ?_
                    refine X_get (j := 0) fo_X12_168 dX12_nextToken_288 rfl rfl ?_
                    refine X_iconst (v := 1) dX12_nextToken_291 (by decide) ?_
                    refine X_iadd (v := (nI (p + (k + 1)))) dX12_nextToken_292 (nI_1 (p + k)) ?_
                    refine X_put (j := 0) (cs' := [(m, ex_o 12 (ex_i x0 :: ex_i x1 :: ex_r x2 :: ex_i (nI L) :: ex_i (nI (p + (k + 1))) :: ex_i (nI p) :: ex_i x6 :: ex_j 0 :: ex_i ((((dg f p (mn k 4)) * 10) + (f (p + k))) - 48) :: ex_i x9 :: F)), (x2, ex_a 1 1000 f)]) fo_X12_168 (by decide) dX12_nextToken_293 rfl (lt_tl (n := 10) (by decide)) trivial rfl ?_
                    refine X_goto (tgt := 224) dX12_nextToken_296 (by decide) ?_
                    have ew : ((((dg f p (mn k 4)) * 10) + (f (p + k))) - 48) = (dg f p (mn (k + 1) 4)) := dg_s (Nat.lt_of_not_le fun q => c_15 (nI_le (a := 4) q (by omega)))
                    rw [ew]
                    refine X_lv (lv' := [(0, ex_r m)]) [0] rfl ?_
                    exact ih (k + 1) (⟨by omega, by rw [hI.2, sk_go hk9 (bDi_t c_11 c_13), Nat.add_assoc]⟩) (by omega)
            · refine X_aload_n (j := 0) dX12_nextToken_224 rfl rfl ?_
              refine X_aload_n (j := 0) dX12_nextToken_225 rfl rfl ?_
              refine X_get (j := 0) fo_X12_168 dX12_nextToken_226 rfl rfl ?_
              refine X_callV (j0 := 0) (rest := []) (stk := []) co_X12_184 rfl ⟨(Nat.le_of_ble_eq_true rfl), (Nat.le_of_ble_eq_true rfl)⟩ (e_X12_signAt_out l m x0 x1 x2 (nI (p + k)) (nI p) x6 0 (dg f p (mn k 4)) x9 F f L (p + k) hL hk9 hI.1) dX12_nextToken_229 [0, 1] (show List.Perm [0, 1] (List.range 2) from by decide) rfl rfl rfl rfl (Nat.le_of_ble_eq_true rfl) (fun cs1 r hq hk => ?_)
              rcases hq with ⟨rfl, rfl⟩
              refine X_bipush (v := 48) dX12_nextToken_232 (by decide) ?_
              refine X_icmp_lt (tgt := 299) dX12_nextToken_234 (by decide) (fun _ => ?_) (fun c_ => absurd (by decide) c_)
              have he2 : sk bDi f L p = p + k := by rw [hI.2]; exact sk_stop (fun q => absurd q hk9)
              refine X_aload_n (j := 0) dX12_nextToken_299 rfl rfl ?_
              refine X_aload_n (j := 0) dX12_nextToken_300 rfl rfl ?_
              refine X_get (j := 0) fo_X12_168 dX12_nextToken_301 rfl rfl ?_
              refine X_aload_n (j := 0) dX12_nextToken_304 rfl rfl ?_
              refine X_get (j := 0) fo_X12_171 dX12_nextToken_305 rfl rfl ?_
              refine X_isub (v := (nI k)) dX12_nextToken_308 (by rw [pk_sub (Nat.le_add_right p k), Nat.add_sub_cancel_left]) ?_
              refine X_iconst (v := 4) dX12_nextToken_309 (by decide) ?_
              refine X_icmp_le (tgt := 317) dX12_nextToken_310 (by decide) (fun c_16 => ?_) (fun c_16 => ?_)
              · refine X_iconst (v := 2) dX12_nextToken_317 (by decide) ?_
                refine X_put (j := 0) (cs' := [(m, ex_o 12 (ex_i x0 :: ex_i x1 :: ex_r x2 :: ex_i (nI L) :: ex_i (nI (p + k)) :: ex_i (nI p) :: ex_i 2 :: ex_j 0 :: ex_i (dg f p (mn k 4)) :: ex_i x9 :: F)), (x2, ex_a 1 1000 f)]) fo_X12_181 (by decide) dX12_nextToken_318 rfl (lt_tl (n := 10) (by decide)) trivial rfl ?_
                have hle : bLe (f (tP f L n)) = false := by rw [he]; exact bLe_f1 c_3
                have hdi : bDi (f (tP f L n)) = true := by rw [he]; exact bDi_t c_4 c_8
                have hN := tN_d hlt9 hle hdi
                have h8 : k ≤ 4 := Nat.le_of_not_lt fun q => nI_ge (a := 4) q (by omega) c_16
                have hk := tK_2 hlt9 hle hdi (by rw [he, he2, Nat.add_sub_cancel_left]; exact h8)
                exact X_vret dX12_nextToken_321 rfl (⟨0, (dg f p (mn k 4)), (fun q => absurd (hk.symm.trans q) (by decide)), (fun _ => by unfold tV; rw [hN, he, he2, Nat.add_sub_cancel_left, mn_lt h8]), (by rw [hN, hk, he, he2]; try rfl), rfl⟩)
              · refine X_iconst (v := 4) dX12_nextToken_313 (by decide) ?_
                refine X_goto (tgt := 318) dX12_nextToken_314 (by decide) ?_
                refine X_put (j := 0) (cs' := [(m, ex_o 12 (ex_i x0 :: ex_i x1 :: ex_r x2 :: ex_i (nI L) :: ex_i (nI (p + k)) :: ex_i (nI p) :: ex_i 4 :: ex_j 0 :: ex_i (dg f p (mn k 4)) :: ex_i x9 :: F)), (x2, ex_a 1 1000 f)]) fo_X12_181 (by decide) dX12_nextToken_318 rfl (lt_tl (n := 10) (by decide)) trivial rfl ?_
                have hle : bLe (f (tP f L n)) = false := by rw [he]; exact bLe_f1 c_3
                have hdi : bDi (f (tP f L n)) = true := by rw [he]; exact bDi_t c_4 c_8
                have hN := tN_d hlt9 hle hdi
                have h8 : ¬ k ≤ 4 := fun q => c_16 (nI_le (b := 4) q (by decide))
                have hk := tK_24 hlt9 hle hdi (by rw [he, he2, Nat.add_sub_cancel_left]; exact h8)
                exact X_vret dX12_nextToken_321 rfl (⟨0, (dg f p (mn k 4)), (fun q => absurd (hk.symm.trans q) (by decide)), (fun q => absurd (hk.symm.trans q) (by decide)), (by rw [hN, hk, he, he2]; try rfl), rfl⟩)
      · refine X_iload_n (j := 0) dX12_nextToken_103 rfl rfl ?_
        refine X_bipush (v := 122) dX12_nextToken_104 (by decide) ?_
        refine X_icmp_gt (tgt := 212) dX12_nextToken_106 (by decide) (fun c_17 => ?_) (fun c_17 => ?_)
        · refine X_iload_n (j := 0) dX12_nextToken_212 rfl rfl ?_
          refine X_bipush (v := 48) dX12_nextToken_213 (by decide) ?_
          refine X_icmp_lt (tgt := 322) dX12_nextToken_215 (by decide) (fun c_ => absurd c_ (by have q0 := c_3; have q1 := c_17; simp only [lt_ti, le_ti, eq_ti, ti_48, ti_97, ti_122] at q0 q1 ⊢; omega)) (fun _ => ?_)
          refine X_iload_n (j := 0) dX12_nextToken_218 rfl rfl ?_
          refine X_bipush (v := 57) dX12_nextToken_219 (by decide) ?_
          refine X_icmp_gt (tgt := 322) dX12_nextToken_221 (by decide) (fun _ => ?_) (fun c_ => absurd (by have q0 := c_3; have q1 := c_17; simp only [lt_ti, le_ti, eq_ti, ti_57, ti_97, ti_122] at q0 q1 ⊢; omega) c_)
          refine X_aload_n (j := 1) dX12_nextToken_322 rfl rfl ?_
          refine X_dup dX12_nextToken_323 rfl ?_
          refine X_get (j := 0) fo_X12_168 dX12_nextToken_324 rfl rfl ?_
          refine X_iconst (v := 1) dX12_nextToken_327 (by decide) ?_
          refine X_iadd (v := (nI (p + 1))) dX12_nextToken_328 (nI_1 p) ?_
          refine X_put (j := 0) (cs' := [(m, ex_o 12 (ex_i x0 :: ex_i x1 :: ex_r x2 :: ex_i (nI L) :: ex_i (nI (p + 1)) :: ex_i (nI p) :: ex_i x6 :: ex_j 0 :: ex_i 0 :: ex_i x9 :: F)), (x2, ex_a 1 1000 f)]) fo_X12_168 (by decide) dX12_nextToken_329 rfl (lt_tl (n := 10) (by decide)) trivial rfl ?_
          refine X_aload_n (j := 1) dX12_nextToken_332 rfl rfl ?_
          refine X_iload_n (j := 0) dX12_nextToken_333 rfl rfl ?_
          refine X_bipush (v := 40) dX12_nextToken_334 (by decide) ?_
          refine X_icmp_lt (tgt := 345) dX12_nextToken_336 (by decide) (fun c_ => absurd c_ (by have q0 := c_3; have q1 := c_17; simp only [lt_ti, le_ti, eq_ti, ti_40, ti_97, ti_122] at q0 q1 ⊢; omega)) (fun _ => ?_)
          refine X_iload_n (j := 0) dX12_nextToken_339 rfl rfl ?_
          refine X_bipush (v := 43) dX12_nextToken_340 (by decide) ?_
          refine X_icmp_le (tgt := 363) dX12_nextToken_342 (by decide) (fun c_ => absurd c_ (by have q0 := c_3; have q1 := c_17; simp only [lt_ti, le_ti, eq_ti, ti_43, ti_97, ti_122] at q0 q1 ⊢; omega)) (fun _ => ?_)
          refine X_iload_n (j := 0) dX12_nextToken_345 rfl rfl ?_
          refine X_bipush (v := 45) dX12_nextToken_346 (by decide) ?_
          refine X_icmp_eq (tgt := 363) dX12_nextToken_348 (by decide) (fun c_ => absurd c_ (by have q0 := c_3; have q1 := c_17; simp only [lt_ti, le_ti, eq_ti, ti_45, ti_97, ti_122] at q0 q1 ⊢; omega)) (fun _ => ?_)
          refine X_iload_n (j := 0) dX12_nextToken_351 rfl rfl ?_
          refine X_bipush (v := 59) dX12_nextToken_352 (by decide) ?_
          refine X_icmp_lt (tgt := 367) dX12_nextToken_354 (by decide) (fun c_ => absurd c_ (by have q0 := c_3; have q1 := c_17; simp only [lt_ti, le_ti, eq_ti, ti_59, ti_97, ti_122] at q0 q1 ⊢; omega)) (fun _ => ?_)
          refine X_iload_n (j := 0) dX12_nextToken_357 rfl rfl ?_
          refine X_bipush (v := 61) dX12_nextToken_358 (by decide) ?_
          refine X_icmp_gt (tgt := 367) dX12_nextToken_360 (by decide) (fun _ => ?_) (fun c_ => absurd (by have q0 := c_3; have q1 := c_17; simp only [lt_ti, le_ti, eq_ti, ti_61, ti_97, ti_122] at q0 q1 ⊢; omega) c_)
          refine X_iconst (v := 4) dX12_nextToken_367 (by decide) ?_
          refine X_put (j := 0) (cs' := [(m, ex_o 12 (ex_i x0 :: ex_i x1 :: ex_r x2 :: ex_i (nI L) :: ex_i (nI (p + 1)) :: ex_i (nI p) :: ex_i 4 :: ex_j 0 :: ex_i 0 :: ex_i x9 :: F)), (x2, ex_a 1 1000 f)]) fo_X12_181 (by decide) dX12_nextToken_368 rfl (lt_tl (n := 10) (by decide)) trivial rfl ?_
          have hle : bLe (f (tP f L n)) = false := by rw [he]; exact bLe_f2 c_17
          have hdi : bDi (f (tP f L n)) = false := by rw [he]; exact bDi_f2 (by have q0 := c_3; have q1 := c_17; simp only [lt_ti, le_ti, eq_ti, ti_57, ti_97, ti_122] at q0 q1 ⊢; omega)
          have hN := tN_s hlt9 hle hdi
          have hs : bSg (f (tP f L n)) = false := by rw [he]; refine bSg_f ?_; have q0 := c_3; have q1 := c_17; have t97 : (97 : Int32).toInt = 97 := rfl; have t122 : (122 : Int32).toInt = 122 := rfl; simp only [Int32.lt_iff_toInt_lt, Int32.le_iff_toInt_le, ← Int32.toInt_inj, t97, t122] at q0 q1; omega
          have hk := tK_34 hlt9 hle hdi hs
          exact X_vret dX12_nextToken_371 rfl (⟨0, 0, (fun q => absurd (hk.symm.trans q) (by decide)), (fun q => absurd (hk.symm.trans q) (by decide)), (by rw [hN, hk, he]; try rfl), rfl⟩)
        · refine X_lv (lv' := [(0, ex_r m)]) [1] rfl ?_
          refine X_ind (fun (k : Nat) => p + k ≤ L ∧ sk bLe f L p = sk bLe f L (p + k)) (fun (k : Nat) => L - (p + k)) (fun (k : Nat) => [(m, ex_o 12 (ex_i x0 :: ex_i x1 :: ex_r x2 :: ex_i (nI L) :: ex_i (nI (p + k)) :: ex_i (nI p) :: ex_i x6 :: ex_j (w2 f p (mn k 8)) :: ex_i 0 :: ex_i x9 :: F)), (x2, ex_a 1 1000 f)]) (fun (k : Nat) => [(0, ex_r m)]) (fun k hI ih => ?_) 0 (⟨Nat.le_of_lt hltp, rfl⟩)
          try dsimp only at hI ih ⊢
          by_cases hk9 : p + k < L
          · refine X_aload_n (j := 0) dX12_nextToken_109 rfl rfl ?_
            refine X_aload_n (j := 0) dX12_nextToken_110 rfl rfl ?_
            refine X_get (j := 0) fo_X12_168 dX12_nextToken_111 rfl rfl ?_
            refine X_callV (j0 := 0) (rest := []) (stk := []) co_X12_184 rfl ⟨(Nat.le_of_ble_eq_true rfl), (Nat.le_of_ble_eq_true rfl)⟩ (e_X12_signAt_in l m x0 x1 x2 (nI (p + k)) (nI p) x6 (w2 f p (mn k 8)) 0 x9 F f L (p + k) hL hk9) dX12_nextToken_114 [0, 1] (show List.Perm [0, 1] (List.range 2) from by decide) rfl rfl rfl rfl (Nat.le_of_ble_eq_true rfl) (fun cs1 r hq hk => ?_)
            rcases hq with ⟨rfl, rfl⟩
            refine X_bipush (v := 97) dX12_nextToken_117 (by decide) ?_
            refine X_icmp_lt (tgt := 188) dX12_nextToken_119 (by decide) (fun c_18 => ?_) (fun c_18 => ?_)
            · have he2 : sk bLe f L p = p + k := by rw [hI.2]; exact sk_stop (fun _ => bLe_f1 c_18)
              refine X_aload_n (j := 0) dX12_nextToken_188 rfl rfl ?_
              refine X_aload_n (j := 0) dX12_nextToken_189 rfl rfl ?_
              refine X_get (j := 0) fo_X12_168 dX12_nextToken_190 rfl rfl ?_
              refine X_aload_n (j := 0) dX12_nextToken_193 rfl rfl ?_
              refine X_get (j := 0) fo_X12_171 dX12_nextToken_194 rfl rfl ?_
              refine X_isub (v := (nI k)) dX12_nextToken_197 (by rw [pk_sub (Nat.le_add_right p k), Nat.add_sub_cancel_left]) ?_
              refine X_bipush (v := 8) dX12_nextToken_198 (by decide) ?_
              refine X_icmp_le (tgt := 207) dX12_nextToken_200 (by decide) (fun c_19 => ?_) (fun c_19 => ?_)
              · refine X_iconst (v := 1) dX12_nextToken_207 (by decide) ?_
                refine X_put (j := 0) (cs' := [(m, ex_o 12 (ex_i x0 :: ex_i x1 :: ex_r x2 :: ex_i (nI L) :: ex_i (nI (p + k)) :: ex_i (nI p) :: ex_i 1 :: ex_j (w2 f p (mn k 8)) :: ex_i 0 :: ex_i x9 :: F)), (x2, ex_a 1 1000 f)]) fo_X12_181 (by decide) dX12_nextToken_208 rfl (lt_tl (n := 10) (by decide)) trivial rfl ?_
                have hle : bLe (f (tP f L n)) = true := by rw [he]; exact bLe_t c_3 c_17
                have hN := tN_w hlt9 hle
                have h8 : k ≤ 8 := Nat.le_of_not_lt fun q => nI_ge (a := 8) q (by omega) c_19
                have hk := tK_1 hlt9 hle (by rw [he, he2, Nat.add_sub_cancel_left]; exact h8)
                exact X_vret dX12_nextToken_211 rfl (⟨(w2 f p (mn k 8)), 0, (fun _ => by unfold rW; rw [hN, he, he2, Nat.add_sub_cancel_left, mn_lt h8]), (fun q => absurd (hk.symm.trans q) (by decide)), (by rw [hN, hk, he, he2]; try rfl), rfl⟩)
              · refine X_iconst (v := 4) dX12_nextToken_203 (by decide) ?_
                refine X_goto (tgt := 208) dX12_nextToken_204 (by decide) ?_
                refine X_put (j := 0) (cs' := [(m, ex_o 12 (ex_i x0 :: ex_i x1 :: ex_r x2 :: ex_i (nI L) :: ex_i (nI (p + k)) :: ex_i (nI p) :: ex_i 4 :: ex_j (w2 f p (mn k 8)) :: ex_i 0 :: ex_i x9 :: F)), (x2, ex_a 1 1000 f)]) fo_X12_181 (by decide) dX12_nextToken_208 rfl (lt_tl (n := 10) (by decide)) trivial rfl ?_
                have hle : bLe (f (tP f L n)) = true := by rw [he]; exact bLe_t c_3 c_17
                have hN := tN_w hlt9 hle
                have h8 : ¬ k ≤ 8 := fun q => c_19 (nI_le (b := 8) q (by decide))
                have hk := tK_14 hlt9 hle (by rw [he, he2, Nat.add_sub_cancel_left]; exact h8)
                exact X_vret dX12_nextToken_211 rfl (⟨(w2 f p (mn k 8)), 0, (fun q => absurd (hk.symm.trans q) (by decide)), (fun q => absurd (hk.symm.trans q) (by decide)), (by rw [hN, hk, he, he2]; try rfl), rfl⟩)
            · refine X_aload_n (j := 0) dX12_nextToken_122 rfl rfl ?_
              refine X_aload_n (j := 0) dX12_nextToken_123 rfl rfl ?_
              refine X_get (j := 0) fo_X12_168 dX12_nextToken_124 rfl rfl ?_
              refine X_callV (j0 := 0) (rest := []) (stk := []) co_X12_184 rfl ⟨(Nat.le_of_ble_eq_true rfl), (Nat.le_of_ble_eq_true rfl)⟩ (e_X12_signAt_in l m x0 x1 x2 (nI (p + k)) (nI p) x6 (w2 f p (mn k 8)) 0 x9 F f L (p + k) hL hk9) dX12_nextToken_127 [0, 1] (show List.Perm [0, 1] (List.range 2) from by decide) rfl rfl rfl rfl (Nat.le_of_ble_eq_true rfl) (fun cs1 r hq hk => ?_)
              rcases hq with ⟨rfl, rfl⟩
              refine X_bipush (v := 122) dX12_nextToken_130 (by decide) ?_
              refine X_icmp_gt (tgt := 188) dX12_nextToken_132 (by decide) (fun c_20 => ?_) (fun c_20 => ?_)
              · have he2 : sk bLe f L p = p + k := by rw [hI.2]; exact sk_stop (fun _ => bLe_f2 c_20)
                refine X_aload_n (j := 0) dX12_nextToken_188 rfl rfl ?_
                refine X_aload_n (j := 0) dX12_nextToken_189 rfl rfl ?_
                refine X_get (j := 0) fo_X12_168 dX12_nextToken_190 rfl rfl ?_
                refine X_aload_n (j := 0) dX12_nextToken_193 rfl rfl ?_
                refine X_get (j := 0) fo_X12_171 dX12_nextToken_194 rfl rfl ?_
                refine X_isub (v := (nI k)) dX12_nextToken_197 (by rw [pk_sub (Nat.le_add_right p k), Nat.add_sub_cancel_left]) ?_
                refine X_bipush (v := 8) dX12_nextToken_198 (by decide) ?_
                refine X_icmp_le (tgt := 207) dX12_nextToken_200 (by decide) (fun c_21 => ?_) (fun c_21 => ?_)
                · refine X_iconst (v := 1) dX12_nextToken_207 (by decide) ?_
                  refine X_put (j := 0) (cs' := [(m, ex_o 12 (ex_i x0 :: ex_i x1 :: ex_r x2 :: ex_i (nI L) :: ex_i (nI (p + k)) :: ex_i (nI p) :: ex_i 1 :: ex_j (w2 f p (mn k 8)) :: ex_i 0 :: ex_i x9 :: F)), (x2, ex_a 1 1000 f)]) fo_X12_181 (by decide) dX12_nextToken_208 rfl (lt_tl (n := 10) (by decide)) trivial rfl ?_
                  have hle : bLe (f (tP f L n)) = true := by rw [he]; exact bLe_t c_3 c_17
                  have hN := tN_w hlt9 hle
                  have h8 : k ≤ 8 := Nat.le_of_not_lt fun q => nI_ge (a := 8) q (by omega) c_21
                  have hk := tK_1 hlt9 hle (by rw [he, he2, Nat.add_sub_cancel_left]; exact h8)
                  exact X_vret dX12_nextToken_211 rfl (⟨(w2 f p (mn k 8)), 0, (fun _ => by unfold rW; rw [hN, he, he2, Nat.add_sub_cancel_left, mn_lt h8]), (fun q => absurd (hk.symm.trans q) (by decide)), (by rw [hN, hk, he, he2]; try rfl), rfl⟩)
                · refine X_iconst (v := 4) dX12_nextToken_203 (by decide) ?_
                  refine X_goto (tgt := 208) dX12_nextToken_204 (by decide) ?_
                  refine X_put (j := 0) (cs' := [(m, ex_o 12 (ex_i x0 :: ex_i x1 :: ex_r x2 :: ex_i (nI L) :: ex_i (nI (p + k)) :: ex_i (nI p) :: ex_i 4 :: ex_j (w2 f p (mn k 8)) :: ex_i 0 :: ex_i x9 :: F)), (x2, ex_a 1 1000 f)]) fo_X12_181 (by decide) dX12_nextToken_208 rfl (lt_tl (n := 10) (by decide)) trivial rfl ?_
                  have hle : bLe (f (tP f L n)) = true := by rw [he]; exact bLe_t c_3 c_17
                  have hN := tN_w hlt9 hle
                  have h8 : ¬ k ≤ 8 := fun q => c_21 (nI_le (b := 8) q (by decide))
                  have hk := tK_14 hlt9 hle (by rw [he, he2, Nat.add_sub_cancel_left]; exact h8)
                  exact X_vret dX12_nextToken_211 rfl (⟨(w2 f p (mn k 8)), 0, (fun q => absurd (hk.symm.trans q) (by decide)), (fun q => absurd (hk.symm.trans q) (by decide)), (by rw [hN, hk, he, he2]; try rfl), rfl⟩)
              · refine X_aload_n (j := 0) dX12_nextToken_135 rfl rfl ?_
                refine X_get (j := 0) fo_X12_168 dX12_nextToken_136 rfl rfl ?_
                refine X_aload_n (j := 0) dX12_nextToken_139 rfl rfl ?_
                refine X_get (j := 0) fo_X12_171 dX12_nextToken_140 rfl rfl ?_
                refine X_isub (v := (nI k)) dX12_nextToken_143 (by rw [pk_sub (Nat.le_add_right p k), Nat.add_sub_cancel_left]) ?_
                refine X_bipush (v := 8) dX12_nextToken_144 (by decide) ?_
                refine X_icmp_ge (tgt := 175) dX12_nextToken_146 (by decide) (fun c_22 => ?_) (fun c_22 => ?_)
                · refine X_aload_n (j := 0) dX12_nextToken_175 rfl rfl ?_
                  refine X_dup dX12_nextToken_176 rfl ?_
                  refine X_get (j := 0) fo_X12_168 dX12_nextToken_177 rfl rfl ?_
                  refine X_iconst (v := 1) dX12_nextToken_180 (by decide) ?_
                  refine X_iadd (v := (nI (p + (k + 1)))) dX12_nextToken_181 (nI_1 (p + k)) ?_
                  refine X_put (j := 0) (cs' := [(m, ex_o 12 (ex_i x0 :: ex_i x1 :: ex_r x2 :: ex_i (nI L) :: ex_i (nI (p + (k + 1))) :: ex_i (nI p) :: ex_i x6 :: ex_j (w2 f p (mn k 8)) :: ex_i 0 :: ex_i x9 :: F)), (x2, ex_a 1 1000 f)]) fo_X12_168 (by decide) dX12_nextToken_182 rfl (lt_tl (n := 10) (by decide)) trivial rfl ?_
                  refine X_goto (tgt := 109) dX12_nextToken_185 (by decide) ?_
                  have ew : w2 f p (mn k 8) = (w2 f p (mn (k + 1) 8)) := w2_t (Nat.le_of_not_lt fun q => nI_ge (b := 8) q (by decide) c_22)
                  rw [ew]
                  refine X_lv (lv' := [(0, ex_r m)]) [0] rfl ?_
                  exact ih (k + 1) (⟨by omega, by rw [hI.2, sk_go hk9 (bLe_t c_18 c_20), Nat.add_assoc]⟩) (by omega)
                · refine X_aload_n (j := 0) dX12_nextToken_149 rfl rfl ?_
                  refine X_aload_n (j := 0) dX12_nextToken_150 rfl rfl ?_
                  refine X_get (j := 0) fo_X12_174 dX12_nextToken_151 rfl rfl ?_
                  refine X_ldc2_w (v := 27) k_1546 dX12_nextToken_154 ?_
                  refine X_lmul (v := ((w2 f p (mn k 8)) * 27)) dX12_nextToken_157 rfl ?_
                  refine X_aload_n (j := 0) dX12_nextToken_158 rfl rfl ?_
                  refine X_aload_n (j := 0) dX12_nextToken_159 rfl rfl ?_
                  refine X_get (j := 0) fo_X12_168 dX12_nextToken_160 rfl rfl ?_
                  refine X_callV (j0 := 0) (rest := []) (stk := [ex_j ((w2 f p (mn k 8)) * 27), ex_r m]) co_X12_184 rfl ⟨(Nat.le_of_ble_eq_true rfl), (Nat.le_of_ble_eq_true rfl)⟩ (e_X12_signAt_in l m x0 x1 x2 (nI (p + k)) (nI p) x6 (w2 f p (mn k 8)) 0 x9 F f L (p + k) hL hk9) dX12_nextToken_163 [0, 1] (show List.Perm [0, 1] (List.range 2) from by decide) rfl rfl rfl rfl (Nat.le_of_ble_eq_true rfl) (fun cs1 r hq hk => ?_)
                  rcases hq with ⟨rfl, rfl⟩
                  refine X_i2l (v := (f (p + k)).toInt64) dX12_nextToken_166 rfl ?_
                  refine X_ladd (v := (((w2 f p (mn k 8)) * 27) + ((f (p + k)).toInt64))) dX12_nextToken_167 rfl ?_
                  refine X_ldc2_w (v := 96) k_1547 dX12_nextToken_168 ?_
                  refine X_lsub (v := ((((w2 f p (mn k 8)) * 27) + ((f (p + k)).toInt64)) - 96)) dX12_nextToken_171 rfl ?_
                  refine X_put (j := 0) (cs' := [(m, ex_o 12 (ex_i x0 :: ex_i x1 :: ex_r x2 :: ex_i (nI L) :: ex_i (nI (p + k)) :: ex_i (nI p) :: ex_i x6 :: ex_j ((((w2 f p (mn k 8)) * 27) + ((f (p + k)).toInt64)) - 96) :: ex_i 0 :: ex_i x9 :: F)), (x2, ex_a 1 1000 f)]) fo_X12_174 (by decide) dX12_nextToken_172 rfl (lt_tl (n := 10) (by decide)) rfl rfl ?_
                  refine X_aload_n (j := 0) dX12_nextToken_175 rfl rfl ?_
                  refine X_dup dX12_nextToken_176 rfl ?_
                  refine X_get (j := 0) fo_X12_168 dX12_nextToken_177 rfl rfl ?_
                  refine X_iconst (v := 1) dX12_nextToken_180 (by decide) ?_
                  refine X_iadd (v := (nI (p + (k + 1)))) dX12_nextToken_181 (nI_1 (p + k)) ?_
                  refine X_put (j := 0) (cs' := [(m, ex_o 12 (ex_i x0 :: ex_i x1 :: ex_r x2 :: ex_i (nI L) :: ex_i (nI (p + (k + 1))) :: ex_i (nI p) :: ex_i x6 :: ex_j ((((w2 f p (mn k 8)) * 27) + ((f (p + k)).toInt64)) - 96) :: ex_i 0 :: ex_i x9 :: F)), (x2, ex_a 1 1000 f)]) fo_X12_168 (by decide) dX12_nextToken_182 rfl (lt_tl (n := 10) (by decide)) trivial rfl ?_
                  refine X_goto (tgt := 109) dX12_nextToken_185 (by decide) ?_
                  have ew : ((((w2 f p (mn k 8)) * 27) + ((f (p + k)).toInt64)) - 96) = (w2 f p (mn (k + 1) 8)) := w2_s (Nat.lt_of_not_le fun q => c_22 (nI_le (a := 8) q (by omega)))
                  rw [ew]
                  refine X_lv (lv' := [(0, ex_r m)]) [0] rfl ?_
                  exact ih (k + 1) (⟨by omega, by rw [hI.2, sk_go hk9 (bLe_t c_18 c_20), Nat.add_assoc]⟩) (by omega)
          · refine X_aload_n (j := 0) dX12_nextToken_109 rfl rfl ?_
            refine X_aload_n (j := 0) dX12_nextToken_110 rfl rfl ?_
            refine X_get (j := 0) fo_X12_168 dX12_nextToken_111 rfl rfl ?_
            refine X_callV (j0 := 0) (rest := []) (stk := []) co_X12_184 rfl ⟨(Nat.le_of_ble_eq_true rfl), (Nat.le_of_ble_eq_true rfl)⟩ (e_X12_signAt_out l m x0 x1 x2 (nI (p + k)) (nI p) x6 (w2 f p (mn k 8)) 0 x9 F f L (p + k) hL hk9 hI.1) dX12_nextToken_114 [0, 1] (show List.Perm [0, 1] (List.range 2) from by decide) rfl rfl rfl rfl (Nat.le_of_ble_eq_true rfl) (fun cs1 r hq hk => ?_)
            rcases hq with ⟨rfl, rfl⟩
            refine X_bipush (v := 97) dX12_nextToken_117 (by decide) ?_
            refine X_icmp_lt (tgt := 188) dX12_nextToken_119 (by decide) (fun _ => ?_) (fun c_ => absurd (by decide) c_)
            have he2 : sk bLe f L p = p + k := by rw [hI.2]; exact sk_stop (fun q => absurd q hk9)
            refine X_aload_n (j := 0) dX12_nextToken_188 rfl rfl ?_
            refine X_aload_n (j := 0) dX12_nextToken_189 rfl rfl ?_
            refine X_get (j := 0) fo_X12_168 dX12_nextToken_190 rfl rfl ?_
            refine X_aload_n (j := 0) dX12_nextToken_193 rfl rfl ?_
            refine X_get (j := 0) fo_X12_171 dX12_nextToken_194 rfl rfl ?_
            refine X_isub (v := (nI k)) dX12_nextToken_197 (by rw [pk_sub (Nat.le_add_right p k), Nat.add_sub_cancel_left]) ?_
            refine X_bipush (v := 8) dX12_nextToken_198 (by decide) ?_
            refine X_icmp_le (tgt := 207) dX12_nextToken_200 (by decide) (fun c_23 => ?_) (fun c_23 => ?_)
            · refine X_iconst (v := 1) dX12_nextToken_207 (by decide) ?_
              refine X_put (j := 0) (cs' := [(m, ex_o 12 (ex_i x0 :: ex_i x1 :: ex_r x2 :: ex_i (nI L) :: ex_i (nI (p + k)) :: ex_i (nI p) :: ex_i 1 :: ex_j (w2 f p (mn k 8)) :: ex_i 0 :: ex_i x9 :: F)), (x2, ex_a 1 1000 f)]) fo_X12_181 (by decide) dX12_nextToken_208 rfl (lt_tl (n := 10) (by decide)) trivial rfl ?_
              have hle : bLe (f (tP f L n)) = true := by rw [he]; exact bLe_t c_3 c_17
              have hN := tN_w hlt9 hle
              have h8 : k ≤ 8 := Nat.le_of_not_lt fun q => nI_ge (a := 8) q (by omega) c_23
              have hk := tK_1 hlt9 hle (by rw [he, he2, Nat.add_sub_cancel_left]; exact h8)
              exact X_vret dX12_nextToken_211 rfl (⟨(w2 f p (mn k 8)), 0, (fun _ => by unfold rW; rw [hN, he, he2, Nat.add_sub_cancel_left, mn_lt h8]), (fun q => absurd (hk.symm.trans q) (by decide)), (by rw [hN, hk, he, he2]; try rfl), rfl⟩)
            · refine X_iconst (v := 4) dX12_nextToken_203 (by decide) ?_
              refine X_goto (tgt := 208) dX12_nextToken_204 (by decide) ?_
              refine X_put (j := 0) (cs' := [(m, ex_o 12 (ex_i x0 :: ex_i x1 :: ex_r x2 :: ex_i (nI L) :: ex_i (nI (p + k)) :: ex_i (nI p) :: ex_i 4 :: ex_j (w2 f p (mn k 8)) :: ex_i 0 :: ex_i x9 :: F)), (x2, ex_a 1 1000 f)]) fo_X12_181 (by decide) dX12_nextToken_208 rfl (lt_tl (n := 10) (by decide)) trivial rfl ?_
              have hle : bLe (f (tP f L n)) = true := by rw [he]; exact bLe_t c_3 c_17
              have hN := tN_w hlt9 hle
              have h8 : ¬ k ≤ 8 := fun q => c_23 (nI_le (b := 8) q (by decide))
              have hk := tK_14 hlt9 hle (by rw [he, he2, Nat.add_sub_cancel_left]; exact h8)
              exact X_vret dX12_nextToken_211 rfl (⟨(w2 f p (mn k 8)), 0, (fun q => absurd (hk.symm.trans q) (by decide)), (fun q => absurd (hk.symm.trans q) (by decide)), (by rw [hN, hk, he, he2]; try rfl), rfl⟩)
    · refine X_aload_n (j := 0) dX12_nextToken_81 rfl rfl ?_
      refine X_iconst (v := 0) dX12_nextToken_82 (by decide) ?_
      refine X_put (j := 0) (cs' := [(m, ex_o 12 (ex_i x0 :: ex_i x1 :: ex_r x2 :: ex_i (nI L) :: ex_i (nI p) :: ex_i (nI p) :: ex_i 0 :: ex_j 0 :: ex_i 0 :: ex_i x9 :: F)), (x2, ex_a 1 1000 f)]) fo_X12_181 (by decide) dX12_nextToken_83 rfl (lt_tl (n := 10) (by decide)) trivial rfl ?_
      have hk := tK_0 (f := f) (L := L) (n := n) (by rw [he, nI_inj (by omega) (by omega) c_2]; exact Nat.lt_irrefl _)
      exact X_vret dX12_nextToken_86 rfl (⟨0, 0, (fun q => absurd (hk.1.symm.trans q) (by decide)), (fun q => absurd (hk.1.symm.trans q) (by decide)), (by rw [hk.2, hk.1, he]; try rfl), rfl⟩)
  · have hlt : p < L := nlen hL hI.1 c_1
    refine X_aload_n (j := 0) dX12_nextToken_11 rfl rfl ?_
    refine X_get (j := 0) fo_X12_7 dX12_nextToken_12 rfl rfl ?_
    refine X_aload_n (j := 0) dX12_nextToken_15 rfl rfl ?_
    refine X_get (j := 0) fo_X12_168 dX12_nextToken_16 rfl rfl ?_
    refine X_iald (j := 1) (v := (f p)) dX12_nextToken_19 rfl (vp_in_nI (show p < 1000 by omega) (by decide)) (by rw [nI_clamp (by omega)]) ?_
    refine X_bipush (v := 32) dX12_nextToken_20 (by decide) ?_
    refine X_icmp_eq (tgt := 39) dX12_nextToken_22 (by decide) (fun c_24 => ?_) (fun c_24 => ?_)
    · refine X_aload_n (j := 0) dX12_nextToken_39 rfl rfl ?_
      refine X_dup dX12_nextToken_40 rfl ?_
      refine X_get (j := 0) fo_X12_168 dX12_nextToken_41 rfl rfl ?_
      refine X_iconst (v := 1) dX12_nextToken_44 (by decide) ?_
      refine X_iadd (v := (nI (p + 1))) dX12_nextToken_45 (nI_1 p) ?_
      refine X_put (j := 0) (cs' := [(m, ex_o 12 (ex_i x0 :: ex_i x1 :: ex_r x2 :: ex_i (nI L) :: ex_i (nI (p + 1)) :: ex_i x5 :: ex_i x6 :: ex_j x7 :: ex_i x8 :: ex_i x9 :: F)), (x2, ex_a 1 1000 f)]) fo_X12_168 (by decide) dX12_nextToken_46 rfl (lt_tl (n := 10) (by decide)) trivial rfl ?_
      refine X_goto (tgt := 0) dX12_nextToken_49 (by decide) ?_
      refine X_lv (lv' := [(0, ex_r m)]) [0] rfl ?_
      exact ih (p + 1) (⟨hlt, by rw [hI.2, sk_go hlt (bBl_t (Or.inr c_24))]⟩) (by omega)
    · refine X_aload_n (j := 0) dX12_nextToken_25 rfl rfl ?_
      refine X_get (j := 0) fo_X12_7 dX12_nextToken_26 rfl rfl ?_
      refine X_aload_n (j := 0) dX12_nextToken_29 rfl rfl ?_
      refine X_get (j := 0) fo_X12_168 dX12_nextToken_30 rfl rfl ?_
      refine X_iald (j := 1) (v := (f p)) dX12_nextToken_33 rfl (vp_in_nI (show p < 1000 by omega) (by decide)) (by rw [nI_clamp (by omega)]) ?_
      refine X_bipush (v := 10) dX12_nextToken_34 (by decide) ?_
      refine X_icmp_ne (tgt := 52) dX12_nextToken_36 (by decide) (fun c_25 => ?_) (fun c_25 => ?_)
      · have he : tP f L n = p := by rw [hI.2]; exact sk_stop (fun _ => bBl_f c_25 c_24)
        have hpL := hI.1
        refine X_aload_n (j := 0) dX12_nextToken_52 rfl rfl ?_
        refine X_aload_n (j := 0) dX12_nextToken_53 rfl rfl ?_
        refine X_get (j := 0) fo_X12_168 dX12_nextToken_54 rfl rfl ?_
        refine X_put (j := 0) (cs' := [(m, ex_o 12 (ex_i x0 :: ex_i x1 :: ex_r x2 :: ex_i (nI L) :: ex_i (nI p) :: ex_i (nI p) :: ex_i x6 :: ex_j x7 :: ex_i x8 :: ex_i x9 :: F)), (x2, ex_a 1 1000 f)]) fo_X12_171 (by decide) dX12_nextToken_57 rfl (lt_tl (n := 10) (by decide)) trivial rfl ?_
        refine X_aload_n (j := 0) dX12_nextToken_60 rfl rfl ?_
        refine X_lconst (v := 0) dX12_nextToken_61 (by decide) ?_
        refine X_put (j := 0) (cs' := [(m, ex_o 12 (ex_i x0 :: ex_i x1 :: ex_r x2 :: ex_i (nI L) :: ex_i (nI p) :: ex_i (nI p) :: ex_i x6 :: ex_j 0 :: ex_i x8 :: ex_i x9 :: F)), (x2, ex_a 1 1000 f)]) fo_X12_174 (by decide) dX12_nextToken_62 rfl (lt_tl (n := 10) (by decide)) rfl rfl ?_
        refine X_aload_n (j := 0) dX12_nextToken_65 rfl rfl ?_
        refine X_iconst (v := 0) dX12_nextToken_66 (by decide) ?_
        refine X_put (j := 0) (cs' := [(m, ex_o 12 (ex_i x0 :: ex_i x1 :: ex_r x2 :: ex_i (nI L) :: ex_i (nI p) :: ex_i (nI p) :: ex_i x6 :: ex_j 0 :: ex_i 0 :: ex_i x9 :: F)), (x2, ex_a 1 1000 f)]) fo_X12_178 (by decide) dX12_nextToken_67 rfl (lt_tl (n := 10) (by decide)) trivial rfl ?_
        refine X_aload_n (j := 0) dX12_nextToken_70 rfl rfl ?_
        refine X_get (j := 0) fo_X12_168 dX12_nextToken_71 rfl rfl ?_
        refine X_aload_n (j := 0) dX12_nextToken_74 rfl rfl ?_
        refine X_get (j := 0) fo_X12_165 dX12_nextToken_75 rfl rfl ?_
        refine X_icmp_ne (tgt := 87) dX12_nextToken_78 (by decide) (fun c_26 => ?_) (fun c_26 => ?_)
        · have hlt9 : tP f L n < L := by rw [he]; exact Nat.lt_of_le_of_ne hpL (fun q => c_26 (by rw [q]))
          have hltp : p < L := by rw [← he]; exact hlt9
          refine X_aload_n (j := 0) dX12_nextToken_87 rfl rfl ?_
          refine X_get (j := 0) fo_X12_7 dX12_nextToken_88 rfl rfl ?_
          refine X_aload_n (j := 0) dX12_nextToken_91 rfl rfl ?_
          refine X_get (j := 0) fo_X12_168 dX12_nextToken_92 rfl rfl ?_
          refine X_iald (j := 1) (v := (f p)) dX12_nextToken_95 rfl (vp_in_nI (show p < 1000 by omega) (by decide)) (by rw [nI_clamp (by omega)]) ?_
          refine X_istore_n (lv' := [(1, ex_i (f p)), (0, ex_r m)]) dX12_nextToken_96 rfl (Nat.le_of_ble_eq_true rfl) rfl ?_
          refine X_iload_n (j := 0) dX12_nextToken_97 rfl rfl ?_
          refine X_bipush (v := 97) dX12_nextToken_98 (by decide) ?_
          refine X_icmp_lt (tgt := 212) dX12_nextToken_100 (by decide) (fun c_27 => ?_) (fun c_27 => ?_)
          · refine X_iload_n (j := 0) dX12_nextToken_212 rfl rfl ?_
            refine X_bipush (v := 48) dX12_nextToken_213 (by decide) ?_
            refine X_icmp_lt (tgt := 322) dX12_nextToken_215 (by decide) (fun c_28 => ?_) (fun c_28 => ?_)
            · refine X_aload_n (j := 1) dX12_nextToken_322 rfl rfl ?_
              refine X_dup dX12_nextToken_323 rfl ?_
              refine X_get (j := 0) fo_X12_168 dX12_nextToken_324 rfl rfl ?_
              refine X_iconst (v := 1) dX12_nextToken_327 (by decide) ?_
              refine X_iadd (v := (nI (p + 1))) dX12_nextToken_328 (nI_1 p) ?_
              refine X_put (j := 0) (cs' := [(m, ex_o 12 (ex_i x0 :: ex_i x1 :: ex_r x2 :: ex_i (nI L) :: ex_i (nI (p + 1)) :: ex_i (nI p) :: ex_i x6 :: ex_j 0 :: ex_i 0 :: ex_i x9 :: F)), (x2, ex_a 1 1000 f)]) fo_X12_168 (by decide) dX12_nextToken_329 rfl (lt_tl (n := 10) (by decide)) trivial rfl ?_
              refine X_aload_n (j := 1) dX12_nextToken_332 rfl rfl ?_
              refine X_iload_n (j := 0) dX12_nextToken_333 rfl rfl ?_
              refine X_bipush (v := 40) dX12_nextToken_334 (by decide) ?_
              refine X_icmp_lt (tgt := 345) dX12_nextToken_336 (by decide) (fun c_29 => ?_) (fun c_29 => ?_)
              · refine X_iload_n (j := 0) dX12_nextToken_345 rfl rfl ?_
                refine X_bipush (v := 45) dX12_nextToken_346 (by decide) ?_
                refine X_icmp_eq (tgt := 363) dX12_nextToken_348 (by decide) (fun c_ => absurd c_ (by have q0 := c_24; have q1 := c_25; have q2 := c_27; have q3 := c_28; have q4 := c_29; simp only [lt_ti, le_ti, eq_ti, ti_10, ti_32, ti_40, ti_45, ti_48, ti_97] at q0 q1 q2 q3 q4 ⊢; omega)) (fun _ => ?_)
                refine X_iload_n (j := 0) dX12_nextToken_351 rfl rfl ?_
                refine X_bipush (v := 59) dX12_nextToken_352 (by decide) ?_
                refine X_icmp_lt (tgt := 367) dX12_nextToken_354 (by decide) (fun _ => ?_) (fun c_ => absurd (by have q0 := c_24; have q1 := c_25; have q2 := c_27; have q3 := c_28; have q4 := c_29; simp only [lt_ti, le_ti, eq_ti, ti_10, ti_32, ti_40, ti_48, ti_59, ti_97] at q0 q1 q2 q3 q4 ⊢; omega) c_)
                refine X_iconst (v := 4) dX12_nextToken_367 (by decide) ?_
                refine X_put (j := 0) (cs' := [(m, ex_o 12 (ex_i x0 :: ex_i x1 :: ex_r x2 :: ex_i (nI L) :: ex_i (nI (p + 1)) :: ex_i (nI p) :: ex_i 4 :: ex_j 0 :: ex_i 0 :: ex_i x9 :: F)), (x2, ex_a 1 1000 f)]) fo_X12_181 (by decide) dX12_nextToken_368 rfl (lt_tl (n := 10) (by decide)) trivial rfl ?_
                have hle : bLe (f (tP f L n)) = false := by rw [he]; exact bLe_f1 c_27
                have hdi : bDi (f (tP f L n)) = false := by rw [he]; exact bDi_f1 c_28
                have hN := tN_s hlt9 hle hdi
                have hs : bSg (f (tP f L n)) = false := by rw [he]; refine bSg_f ?_; have q0 := c_24; have q1 := c_25; have q2 := c_27; have q3 := c_28; have q4 := c_29; have t10 : (10 : Int32).toInt = 10 := rfl; have t32 : (32 : Int32).toInt = 32 := rfl; have t40 : (40 : Int32).toInt = 40 := rfl; have t48 : (48 : Int32).toInt = 48 := rfl; have t97 : (97 : Int32).toInt = 97 := rfl; simp only [Int32.lt_iff_toInt_lt, Int32.le_iff_toInt_le, ← Int32.toInt_inj, t10, t32, t40, t48, t97] at q0 q1 q2 q3 q4; omega
                have hk := tK_34 hlt9 hle hdi hs
                exact X_vret dX12_nextToken_371 rfl (⟨0, 0, (fun q => absurd (hk.symm.trans q) (by decide)), (fun q => absurd (hk.symm.trans q) (by decide)), (by rw [hN, hk, he]; try rfl), rfl⟩)
              · refine X_iload_n (j := 0) dX12_nextToken_339 rfl rfl ?_
                refine X_bipush (v := 43) dX12_nextToken_340 (by decide) ?_
                refine X_icmp_le (tgt := 363) dX12_nextToken_342 (by decide) (fun c_30 => ?_) (fun c_30 => ?_)
                · refine X_iconst (v := 3) dX12_nextToken_363 (by decide) ?_
                  refine X_goto (tgt := 368) dX12_nextToken_364 (by decide) ?_
                  refine X_put (j := 0) (cs' := [(m, ex_o 12 (ex_i x0 :: ex_i x1 :: ex_r x2 :: ex_i (nI L) :: ex_i (nI (p + 1)) :: ex_i (nI p) :: ex_i 3 :: ex_j 0 :: ex_i 0 :: ex_i x9 :: F)), (x2, ex_a 1 1000 f)]) fo_X12_181 (by decide) dX12_nextToken_368 rfl (lt_tl (n := 10) (by decide)) trivial rfl ?_
                  have hle : bLe (f (tP f L n)) = false := by rw [he]; exact bLe_f1 c_27
                  have hdi : bDi (f (tP f L n)) = false := by rw [he]; exact bDi_f1 c_28
                  have hN := tN_s hlt9 hle hdi
                  have hs : bSg (f (tP f L n)) = true := by rw [he, bSg_iff]; have q0 := c_24; have q1 := c_25; have q2 := c_27; have q3 := c_28; have q4 := c_29; have q5 := c_30; have t10 : (10 : Int32).toInt = 10 := rfl; have t32 : (32 : Int32).toInt = 32 := rfl; have t40 : (40 : Int32).toInt = 40 := rfl; have t43 : (43 : Int32).toInt = 43 := rfl; have t48 : (48 : Int32).toInt = 48 := rfl; have t97 : (97 : Int32).toInt = 97 := rfl; simp only [Int32.lt_iff_toInt_lt, Int32.le_iff_toInt_le, ← Int32.toInt_inj, t10, t32, t40, t43, t48, t97] at q0 q1 q2 q3 q4 q5; omega
                  have hk := tK_3 hlt9 hle hdi hs
                  exact X_vret dX12_nextToken_371 rfl (⟨0, 0, (fun q => absurd (hk.symm.trans q) (by decide)), (fun q => absurd (hk.symm.trans q) (by decide)), (by rw [hN, hk, he]; try rfl), rfl⟩)
                · refine X_iload_n (j := 0) dX12_nextToken_345 rfl rfl ?_
                  refine X_bipush (v := 45) dX12_nextToken_346 (by decide) ?_
                  refine X_icmp_eq (tgt := 363) dX12_nextToken_348 (by decide) (fun c_31 => ?_) (fun c_31 => ?_)
                  · refine X_iconst (v := 3) dX12_nextToken_363 (by decide) ?_
                    refine X_goto (tgt := 368) dX12_nextToken_364 (by decide) ?_
                    refine X_put (j := 0) (cs' := [(m, ex_o 12 (ex_i x0 :: ex_i x1 :: ex_r x2 :: ex_i (nI L) :: ex_i (nI (p + 1)) :: ex_i (nI p) :: ex_i 3 :: ex_j 0 :: ex_i 0 :: ex_i x9 :: F)), (x2, ex_a 1 1000 f)]) fo_X12_181 (by decide) dX12_nextToken_368 rfl (lt_tl (n := 10) (by decide)) trivial rfl ?_
                    have hle : bLe (f (tP f L n)) = false := by rw [he]; exact bLe_f1 c_27
                    have hdi : bDi (f (tP f L n)) = false := by rw [he]; exact bDi_f1 c_28
                    have hN := tN_s hlt9 hle hdi
                    have hs : bSg (f (tP f L n)) = true := by rw [he, bSg_iff]; have q0 := c_24; have q1 := c_25; have q2 := c_27; have q3 := c_28; have q4 := c_29; have q5 := c_30; have q6 := c_31; have t10 : (10 : Int32).toInt = 10 := rfl; have t32 : (32 : Int32).toInt = 32 := rfl; have t40 : (40 : Int32).toInt = 40 := rfl; have t43 : (43 : Int32).toInt = 43 := rfl; have t45 : (45 : Int32).toInt = 45 := rfl; have t48 : (48 : Int32).toInt = 48 := rfl; have t97 : (97 : Int32).toInt = 97 := rfl; simp only [Int32.lt_iff_toInt_lt, Int32.le_iff_toInt_le, ← Int32.toInt_inj, t10, t32, t40, t43, t45, t48, t97] at q0 q1 q2 q3 q4 q5 q6; omega
                    have hk := tK_3 hlt9 hle hdi hs
                    exact X_vret dX12_nextToken_371 rfl (⟨0, 0, (fun q => absurd (hk.symm.trans q) (by decide)), (fun q => absurd (hk.symm.trans q) (by decide)), (by rw [hN, hk, he]; try rfl), rfl⟩)
                  · refine X_iload_n (j := 0) dX12_nextToken_351 rfl rfl ?_
                    refine X_bipush (v := 59) dX12_nextToken_352 (by decide) ?_
                    refine X_icmp_lt (tgt := 367) dX12_nextToken_354 (by decide) (fun _ => ?_) (fun c_ => absurd (by have q0 := c_24; have q1 := c_25; have q2 := c_27; have q3 := c_28; have q4 := c_29; have q5 := c_30; have q6 := c_31; simp only [lt_ti, le_ti, eq_ti, ti_10, ti_32, ti_40, ti_43, ti_45, ti_48, ti_59, ti_97] at q0 q1 q2 q3 q4 q5 q6 ⊢; omega) c_)
                    refine X_iconst (v := 4) dX12_nextToken_367 (by decide) ?_
                    refine X_put (j := 0) (cs' := [(m, ex_o 12 (ex_i x0 :: ex_i x1 :: ex_r x2 :: ex_i (nI L) :: ex_i (nI (p + 1)) :: ex_i (nI p) :: ex_i 4 :: ex_j 0 :: ex_i 0 :: ex_i x9 :: F)), (x2, ex_a 1 1000 f)]) fo_X12_181 (by decide) dX12_nextToken_368 rfl (lt_tl (n := 10) (by decide)) trivial rfl ?_
                    have hle : bLe (f (tP f L n)) = false := by rw [he]; exact bLe_f1 c_27
                    have hdi : bDi (f (tP f L n)) = false := by rw [he]; exact bDi_f1 c_28
                    have hN := tN_s hlt9 hle hdi
                    have hs : bSg (f (tP f L n)) = false := by rw [he]; refine bSg_f ?_; have q0 := c_24; have q1 := c_25; have q2 := c_27; have q3 := c_28; have q4 := c_29; have q5 := c_30; have q6 := c_31; have t10 : (10 : Int32).toInt = 10 := rfl; have t32 : (32 : Int32).toInt = 32 := rfl; have t40 : (40 : Int32).toInt = 40 := rfl; have t43 : (43 : Int32).toInt = 43 := rfl; have t45 : (45 : Int32).toInt = 45 := rfl; have t48 : (48 : Int32).toInt = 48 := rfl; have t97 : (97 : Int32).toInt = 97 := rfl; simp only [Int32.lt_iff_toInt_lt, Int32.le_iff_toInt_le, ← Int32.toInt_inj, t10, t32, t40, t43, t45, t48, t97] at q0 q1 q2 q3 q4 q5 q6; omega
                    have hk := tK_34 hlt9 hle hdi hs
                    exact X_vret dX12_nextToken_371 rfl (⟨0, 0, (fun q => absurd (hk.symm.trans q) (by decide)), (fun q => absurd (hk.symm.trans q) (by decide)), (by rw [hN, hk, he]; try rfl), rfl⟩)
            · refine X_iload_n (j := 0) dX12_nextToken_218 rfl rfl ?_
              refine X_bipush (v := 57) dX12_nextToken_219 (by decide) ?_
              refine X_icmp_gt (tgt := 322) dX12_nextToken_221 (by decide) (fun c_32 => ?_) (fun c_32 => ?_)
              · refine X_aload_n (j := 1) dX12_nextToken_322 rfl rfl ?_
                refine X_dup dX12_nextToken_323 rfl ?_
                refine X_get (j := 0) fo_X12_168 dX12_nextToken_324 rfl rfl ?_
                refine X_iconst (v := 1) dX12_nextToken_327 (by decide) ?_
                refine X_iadd (v := (nI (p + 1))) dX12_nextToken_328 (nI_1 p) ?_
                refine X_put (j := 0) (cs' := [(m, ex_o 12 (ex_i x0 :: ex_i x1 :: ex_r x2 :: ex_i (nI L) :: ex_i (nI (p + 1)) :: ex_i (nI p) :: ex_i x6 :: ex_j 0 :: ex_i 0 :: ex_i x9 :: F)), (x2, ex_a 1 1000 f)]) fo_X12_168 (by decide) dX12_nextToken_329 rfl (lt_tl (n := 10) (by decide)) trivial rfl ?_
                refine X_aload_n (j := 1) dX12_nextToken_332 rfl rfl ?_
                refine X_iload_n (j := 0) dX12_nextToken_333 rfl rfl ?_
                refine X_bipush (v := 40) dX12_nextToken_334 (by decide) ?_
                refine X_icmp_lt (tgt := 345) dX12_nextToken_336 (by decide) (fun c_ => absurd c_ (by have q0 := c_24; have q1 := c_25; have q2 := c_27; have q3 := c_28; have q4 := c_32; simp only [lt_ti, le_ti, eq_ti, ti_10, ti_32, ti_40, ti_48, ti_57, ti_97] at q0 q1 q2 q3 q4 ⊢; omega)) (fun _ => ?_)
                refine X_iload_n (j := 0) dX12_nextToken_339 rfl rfl ?_
                refine X_bipush (v := 43) dX12_nextToken_340 (by decide) ?_
                refine X_icmp_le (tgt := 363) dX12_nextToken_342 (by decide) (fun c_ => absurd c_ (by have q0 := c_24; have q1 := c_25; have q2 := c_27; have q3 := c_28; have q4 := c_32; simp only [lt_ti, le_ti, eq_ti, ti_10, ti_32, ti_43, ti_48, ti_57, ti_97] at q0 q1 q2 q3 q4 ⊢; omega)) (fun _ => ?_)
                refine X_iload_n (j := 0) dX12_nextToken_345 rfl rfl ?_
                refine X_bipush (v := 45) dX12_nextToken_346 (by decide) ?_
                refine X_icmp_eq (tgt := 363) dX12_nextToken_348 (by decide) (fun c_ => absurd c_ (by have q0 := c_24; have q1 := c_25; have q2 := c_27; have q3 := c_28; have q4 := c_32; simp only [lt_ti, le_ti, eq_ti, ti_10, ti_32, ti_45, ti_48, ti_57, ti_97] at q0 q1 q2 q3 q4 ⊢; omega)) (fun _ => ?_)
                refine X_iload_n (j := 0) dX12_nextToken_351 rfl rfl ?_
                refine X_bipush (v := 59) dX12_nextToken_352 (by decide) ?_
                refine X_icmp_lt (tgt := 367) dX12_nextToken_354 (by decide) (fun c_33 => ?_) (fun c_33 => ?_)
                · refine X_iconst (v := 4) dX12_nextToken_367 (by decide) ?_
                  refine X_put (j := 0) (cs' := [(m, ex_o 12 (ex_i x0 :: ex_i x1 :: ex_r x2 :: ex_i (nI L) :: ex_i (nI (p + 1)) :: ex_i (nI p) :: ex_i 4 :: ex_j 0 :: ex_i 0 :: ex_i x9 :: F)), (x2, ex_a 1 1000 f)]) fo_X12_181 (by decide) dX12_nextToken_368 rfl (lt_tl (n := 10) (by decide)) trivial rfl ?_
                  have hle : bLe (f (tP f L n)) = false := by rw [he]; exact bLe_f1 c_27
                  have hdi : bDi (f (tP f L n)) = false := by rw [he]; exact bDi_f2 c_32
                  have hN := tN_s hlt9 hle hdi
                  have hs : bSg (f (tP f L n)) = false := by rw [he]; refine bSg_f ?_; have q0 := c_24; have q1 := c_25; have q2 := c_27; have q3 := c_28; have q4 := c_32; have q5 := c_33; have t10 : (10 : Int32).toInt = 10 := rfl; have t32 : (32 : Int32).toInt = 32 := rfl; have t48 : (48 : Int32).toInt = 48 := rfl; have t57 : (57 : Int32).toInt = 57 := rfl; have t59 : (59 : Int32).toInt = 59 := rfl; have t97 : (97 : Int32).toInt = 97 := rfl; simp only [Int32.lt_iff_toInt_lt, Int32.le_iff_toInt_le, ← Int32.toInt_inj, t10, t32, t48, t57, t59, t97] at q0 q1 q2 q3 q4 q5; omega
                  have hk := tK_34 hlt9 hle hdi hs
                  exact X_vret dX12_nextToken_371 rfl (⟨0, 0, (fun q => absurd (hk.symm.trans q) (by decide)), (fun q => absurd (hk.symm.trans q) (by decide)), (by rw [hN, hk, he]; try rfl), rfl⟩)
                · refine X_iload_n (j := 0) dX12_nextToken_357 rfl rfl ?_
                  refine X_bipush (v := 61) dX12_nextToken_358 (by decide) ?_
                  refine X_icmp_gt (tgt := 367) dX12_nextToken_360 (by decide) (fun c_34 => ?_) (fun c_34 => ?_)
                  · refine X_iconst (v := 4) dX12_nextToken_367 (by decide) ?_
                    refine X_put (j := 0) (cs' := [(m, ex_o 12 (ex_i x0 :: ex_i x1 :: ex_r x2 :: ex_i (nI L) :: ex_i (nI (p + 1)) :: ex_i (nI p) :: ex_i 4 :: ex_j 0 :: ex_i 0 :: ex_i x9 :: F)), (x2, ex_a 1 1000 f)]) fo_X12_181 (by decide) dX12_nextToken_368 rfl (lt_tl (n := 10) (by decide)) trivial rfl ?_
                    have hle : bLe (f (tP f L n)) = false := by rw [he]; exact bLe_f1 c_27
                    have hdi : bDi (f (tP f L n)) = false := by rw [he]; exact bDi_f2 c_32
                    have hN := tN_s hlt9 hle hdi
                    have hs : bSg (f (tP f L n)) = false := by rw [he]; refine bSg_f ?_; have q0 := c_24; have q1 := c_25; have q2 := c_27; have q3 := c_28; have q4 := c_32; have q5 := c_33; have q6 := c_34; have t10 : (10 : Int32).toInt = 10 := rfl; have t32 : (32 : Int32).toInt = 32 := rfl; have t48 : (48 : Int32).toInt = 48 := rfl; have t57 : (57 : Int32).toInt = 57 := rfl; have t59 : (59 : Int32).toInt = 59 := rfl; have t61 : (61 : Int32).toInt = 61 := rfl; have t97 : (97 : Int32).toInt = 97 := rfl; simp only [Int32.lt_iff_toInt_lt, Int32.le_iff_toInt_le, ← Int32.toInt_inj, t10, t32, t48, t57, t59, t61, t97] at q0 q1 q2 q3 q4 q5 q6; omega
                    have hk := tK_34 hlt9 hle hdi hs
                    exact X_vret dX12_nextToken_371 rfl (⟨0, 0, (fun q => absurd (hk.symm.trans q) (by decide)), (fun q => absurd (hk.symm.trans q) (by decide)), (by rw [hN, hk, he]; try rfl), rfl⟩)
                  · refine X_iconst (v := 3) dX12_nextToken_363 (by decide) ?_
                    refine X_goto (tgt := 368) dX12_nextToken_364 (by decide) ?_
                    refine X_put (j := 0) (cs' := [(m, ex_o 12 (ex_i x0 :: ex_i x1 :: ex_r x2 :: ex_i (nI L) :: ex_i (nI (p + 1)) :: ex_i (nI p) :: ex_i 3 :: ex_j 0 :: ex_i 0 :: ex_i x9 :: F)), (x2, ex_a 1 1000 f)]) fo_X12_181 (by decide) dX12_nextToken_368 rfl (lt_tl (n := 10) (by decide)) trivial rfl ?_
                    have hle : bLe (f (tP f L n)) = false := by rw [he]; exact bLe_f1 c_27
                    have hdi : bDi (f (tP f L n)) = false := by rw [he]; exact bDi_f2 c_32
                    have hN := tN_s hlt9 hle hdi
                    have hs : bSg (f (tP f L n)) = true := by rw [he, bSg_iff]; have q0 := c_24; have q1 := c_25; have q2 := c_27; have q3 := c_28; have q4 := c_32; have q5 := c_33; have q6 := c_34; have t10 : (10 : Int32).toInt = 10 := rfl; have t32 : (32 : Int32).toInt = 32 := rfl; have t48 : (48 : Int32).toInt = 48 := rfl; have t57 : (57 : Int32).toInt = 57 := rfl; have t59 : (59 : Int32).toInt = 59 := rfl; have t61 : (61 : Int32).toInt = 61 := rfl; have t97 : (97 : Int32).toInt = 97 := rfl; simp only [Int32.lt_iff_toInt_lt, Int32.le_iff_toInt_le, ← Int32.toInt_inj, t10, t32, t48, t57, t59, t61, t97] at q0 q1 q2 q3 q4 q5 q6; omega
                    have hk := tK_3 hlt9 hle hdi hs
                    exact X_vret dX12_nextToken_371 rfl (⟨0, 0, (fun q => absurd (hk.symm.trans q) (by decide)), (fun q => absurd (hk.symm.trans q) (by decide)), (by rw [hN, hk, he]; try rfl), rfl⟩)
              · refine X_lv (lv' := [(0, ex_r m)]) [1] rfl ?_
                refine X_ind (fun (k : Nat) => p + k ≤ L ∧ sk bDi f L p = sk bDi f L (p + k)) (fun (k : Nat) => L - (p + k)) (fun (k : Nat) => [(m, ex_o 12 (ex_i x0 :: ex_i x1 :: ex_r x2 :: ex_i (nI L) :: ex_i (nI (p + k)) :: ex_i (nI p) :: ex_i x6 :: ex_j 0 :: ex_i (dg f p (mn k 4)) :: ex_i x9 :: F)), (x2, ex_a 1 1000 f)]) (fun (k : Nat) => [(0, ex_r m)]) (fun k hI ih => ?_) 0 (⟨Nat.le_of_lt hltp, rfl⟩)
                try dsimp only at hI ih ⊢
                by_cases hk9 : p + k < L
                · refine X_aload_n (j := 0) dX12_nextToken_224 rfl rfl ?_
                  refine X_aload_n (j := 0) dX12_nextToken_225 rfl rfl ?_
                  refine X_get (j := 0) fo_X12_168 dX12_nextToken_226 rfl rfl ?_
                  refine X_callV (j0 := 0) (rest := []) (stk := []) co_X12_184 rfl ⟨(Nat.le_of_ble_eq_true rfl), (Nat.le_of_ble_eq_true rfl)⟩ (e_X12_signAt_in l m x0 x1 x2 (nI (p + k)) (nI p) x6 0 (dg f p (mn k 4)) x9 F f L (p + k) hL hk9) dX12_nextToken_229 [0, 1] (show List.Perm [0, 1] (List.range 2) from by decide) rfl rfl rfl rfl (Nat.le_of_ble_eq_true rfl) (fun cs1 r hq hk => ?_)
                  rcases hq with ⟨rfl, rfl⟩
                  refine X_bipush (v := 48) dX12_nextToken_232 (by decide) ?_
                  refine X_icmp_lt (tgt := 299) dX12_nextToken_234 (by decide) (fun c_35 => ?_) (fun c_35 => ?_)
                  · have he2 : sk bDi f L p = p + k := by rw [hI.2]; exact sk_stop (fun _ => bDi_f1 c_35)
                    refine X_aload_n (j := 0) dX12_nextToken_299 rfl rfl ?_
                    refine X_aload_n (j := 0) dX12_nextToken_300 rfl rfl ?_
                    refine X_get (j := 0) fo_X12_168 dX12_nextToken_301 rfl rfl ?_
                    refine X_aload_n (j := 0) dX12_nextToken_304 rfl rfl ?_
                    refine X_get (j := 0) fo_X12_171 dX12_nextToken_305 rfl rfl ?_
                    refine X_isub (v := (nI k)) dX12_nextToken_308 (by rw [pk_sub (Nat.le_add_right p k), Nat.add_sub_cancel_left]) ?_
                    refine X_iconst (v := 4) dX12_nextToken_309 (by decide) ?_
                    refine X_icmp_le (tgt := 317) dX12_nextToken_310 (by decide) (fun c_36 => ?_) (fun c_36 => ?_)
                    · refine X_iconst (v := 2) dX12_nextToken_317 (by decide) ?_
                      refine X_put (j := 0) (cs' := [(m, ex_o 12 (ex_i x0 :: ex_i x1 :: ex_r x2 :: ex_i (nI L) :: ex_i (nI (p + k)) :: ex_i (nI p) :: ex_i 2 :: ex_j 0 :: ex_i (dg f p (mn k 4)) :: ex_i x9 :: F)), (x2, ex_a 1 1000 f)]) fo_X12_181 (by decide) dX12_nextToken_318 rfl (lt_tl (n := 10) (by decide)) trivial rfl ?_
                      have hle : bLe (f (tP f L n)) = false := by rw [he]; exact bLe_f1 c_27
                      have hdi : bDi (f (tP f L n)) = true := by rw [he]; exact bDi_t c_28 c_32
                      have hN := tN_d hlt9 hle hdi
                      have h8 : k ≤ 4 := Nat.le_of_not_lt fun q => nI_ge (a := 4) q (by omega) c_36
                      have hk := tK_2 hlt9 hle hdi (by rw [he, he2, Nat.add_sub_cancel_left]; exact h8)
                      exact X_vret dX12_nextToken_321 rfl (⟨0, (dg f p (mn k 4)), (fun q => absurd (hk.symm.trans q) (by decide)), (fun _ => by unfold tV; rw [hN, he, he2, Nat.add_sub_cancel_left, mn_lt h8]), (by rw [hN, hk, he, he2]; try rfl), rfl⟩)
                    · refine X_iconst (v := 4) dX12_nextToken_313 (by decide) ?_
                      refine X_goto (tgt := 318) dX12_nextToken_314 (by decide) ?_
                      refine X_put (j := 0) (cs' := [(m, ex_o 12 (ex_i x0 :: ex_i x1 :: ex_r x2 :: ex_i (nI L) :: ex_i (nI (p + k)) :: ex_i (nI p) :: ex_i 4 :: ex_j 0 :: ex_i (dg f p (mn k 4)) :: ex_i x9 :: F)), (x2, ex_a 1 1000 f)]) fo_X12_181 (by decide) dX12_nextToken_318 rfl (lt_tl (n := 10) (by decide)) trivial rfl ?_
                      have hle : bLe (f (tP f L n)) = false := by rw [he]; exact bLe_f1 c_27
                      have hdi : bDi (f (tP f L n)) = true := by rw [he]; exact bDi_t c_28 c_32
                      have hN := tN_d hlt9 hle hdi
                      have h8 : ¬ k ≤ 4 := fun q => c_36 (nI_le (b := 4) q (by decide))
                      have hk := tK_24 hlt9 hle hdi (by rw [he, he2, Nat.add_sub_cancel_left]; exact h8)
                      exact X_vret dX12_nextToken_321 rfl (⟨0, (dg f p (mn k 4)), (fun q => absurd (hk.symm.trans q) (by decide)), (fun q => absurd (hk.symm.trans q) (by decide)), (by rw [hN, hk, he, he2]; try rfl), rfl⟩)
                  · refine X_aload_n (j := 0) dX12_nextToken_237 rfl rfl ?_
                    refine X_aload_n (j := 0) dX12_nextToken_238 rfl rfl ?_
                    refine X_get (j := 0) fo_X12_168 dX12_nextToken_239 rfl rfl ?_
                    refine X_callV (j0 := 0) (rest := []) (stk := []) co_X12_184 rfl ⟨(Nat.le_of_ble_eq_true rfl), (Nat.le_of_ble_eq_true rfl)⟩ (e_X12_signAt_in l m x0 x1 x2 (nI (p + k)) (nI p) x6 0 (dg f p (mn k 4)) x9 F f L (p + k) hL hk9) dX12_nextToken_242 [0, 1] (show List.Perm [0, 1] (List.range 2) from by decide) rfl rfl rfl rfl (Nat.le_of_ble_eq_true rfl) (fun cs1 r hq hk => ?_)
                    rcases hq with ⟨rfl, rfl⟩
                    refine X_bipush (v := 57) dX12_nextToken_245 (by decide) ?_
                    refine X_icmp_gt (tgt := 299) dX12_nextToken_247 (by decide) (fun c_37 => ?_) (fun c_37 => ?_)
                    · have he2 : sk bDi f L p = p + k := by rw [hI.2]; exact sk_stop (fun _ => bDi_f2 c_37)
                      refine X_aload_n (j := 0) dX12_nextToken_299 rfl rfl ?_
                      refine X_aload_n (j := 0) dX12_nextToken_300 rfl rfl ?_
                      refine X_get (j := 0) fo_X12_168 dX12_nextToken_301 rfl rfl ?_
                      refine X_aload_n (j := 0) dX12_nextToken_304 rfl rfl ?_
                      refine X_get (j := 0) fo_X12_171 dX12_nextToken_305 rfl rfl ?_
                      refine X_isub (v := (nI k)) dX12_nextToken_308 (by rw [pk_sub (Nat.le_add_right p k), Nat.add_sub_cancel_left]) ?_
                      refine X_iconst (v := 4) dX12_nextToken_309 (by decide) ?_
                      refine X_icmp_le (tgt := 317) dX12_nextToken_310 (by decide) (fun c_38 => ?_) (fun c_38 => ?_)
                      · refine X_iconst (v := 2) dX12_nextToken_317 (by decide) ?_
                        refine X_put (j := 0) (cs' := [(m, ex_o 12 (ex_i x0 :: ex_i x1 :: ex_r x2 :: ex_i (nI L) :: ex_i (nI (p + k)) :: ex_i (nI p) :: ex_i 2 :: ex_j 0 :: ex_i (dg f p (mn k 4)) :: ex_i x9 :: F)), (x2, ex_a 1 1000 f)]) fo_X12_181 (by decide) dX12_nextToken_318 rfl (lt_tl (n := 10) (by decide)) trivial rfl ?_
                        have hle : bLe (f (tP f L n)) = false := by rw [he]; exact bLe_f1 c_27
                        have hdi : bDi (f (tP f L n)) = true := by rw [he]; exact bDi_t c_28 c_32
                        have hN := tN_d hlt9 hle hdi
                        have h8 : k ≤ 4 := Nat.le_of_not_lt fun q => nI_ge (a := 4) q (by omega) c_38
                        have hk := tK_2 hlt9 hle hdi (by rw [he, he2, Nat.add_sub_cancel_left]; exact h8)
                        exact X_vret dX12_nextToken_321 rfl (⟨0, (dg f p (mn k 4)), (fun q => absurd (hk.symm.trans q) (by decide)), (fun _ => by unfold tV; rw [hN, he, he2, Nat.add_sub_cancel_left, mn_lt h8]), (by rw [hN, hk, he, he2]; try rfl), rfl⟩)
                      · refine X_iconst (v := 4) dX12_nextToken_313 (by decide) ?_
                        refine X_goto (tgt := 318) dX12_nextToken_314 (by decide) ?_
                        refine X_put (j := 0) (cs' := [(m, ex_o 12 (ex_i x0 :: ex_i x1 :: ex_r x2 :: ex_i (nI L) :: ex_i (nI (p + k)) :: ex_i (nI p) :: ex_i 4 :: ex_j 0 :: ex_i (dg f p (mn k 4)) :: ex_i x9 :: F)), (x2, ex_a 1 1000 f)]) fo_X12_181 (by decide) dX12_nextToken_318 rfl (lt_tl (n := 10) (by decide)) trivial rfl ?_
                        have hle : bLe (f (tP f L n)) = false := by rw [he]; exact bLe_f1 c_27
                        have hdi : bDi (f (tP f L n)) = true := by rw [he]; exact bDi_t c_28 c_32
                        have hN := tN_d hlt9 hle hdi
                        have h8 : ¬ k ≤ 4 := fun q => c_38 (nI_le (b := 4) q (by decide))
                        have hk := tK_24 hlt9 hle hdi (by rw [he, he2, Nat.add_sub_cancel_left]; exact h8)
                        exact X_vret dX12_nextToken_321 rfl (⟨0, (dg f p (mn k 4)), (fun q => absurd (hk.symm.trans q) (by decide)), (fun q => absurd (hk.symm.trans q) (by decide)), (by rw [hN, hk, he, he2]; try rfl), rfl⟩)
                    · refine X_aload_n (j := 0) dX12_nextToken_250 rfl rfl ?_
                      refine X_get (j := 0) fo_X12_168 dX12_nextToken_251 rfl rfl ?_
                      refine X_aload_n (j := 0) dX12_nextToken_254 rfl rfl ?_
                      refine X_get (j := 0) fo_X12_171 dX12_nextToken_255 rfl rfl ?_
                      refine X_isub (v := (nI k)) dX12_nextToken_258 (by rw [pk_sub (Nat.le_add_right p k), Nat.add_sub_cancel_left]) ?_
                      refine X_iconst (v := 4) dX12_nextToken_259 (by decide) ?_
                      refine X_icmp_ge (tgt := 286) dX12_nextToken_260 (by decide) (fun c_39 => ?_) (fun c_39 => ?_)
                      · refine X_aload_n (j := 0) dX12_nextToken_286 rfl rfl ?_
                        refine X_dup dX12_nextToken_287 rfl ?_
                        refine X_get (j := 0) fo_X12_168 dX12_nextToken_288 rfl rfl ?_
                        refine X_iconst (v := 1) dX12_nextToken_291 (by decide) ?_
                        refine X_iadd (v := (nI (p + (k + 1)))) dX12_nextToken_292 (nI_1 (p + k)) ?_
                        refine X_put (j := 0) (cs' := [(m, ex_o 12 (ex_i x0 :: ex_i x1 :: ex_r x2 :: ex_i (nI L) :: ex_i (nI (p + (k + 1))) :: ex_i (nI p) :: ex_i x6 :: ex_j 0 :: ex_i (dg f p (mn k 4)) :: ex_i x9 :: F)), (x2, ex_a 1 1000 f)]) fo_X12_168 (by decide) dX12_nextToken_293 rfl (lt_tl (n := 10) (by decide)) trivial rfl ?_
                        refine X_goto (tgt := 224) dX12_nextToken_296 (by decide) ?_
                        have ew : dg f p (mn k 4) = (dg f p (mn (k + 1) 4)) := dg_t (Nat.le_of_not_lt fun q => nI_ge (b := 4) q (by decide) c_39)
                        rw [ew]
                        refine X_lv (lv' := [(0, ex_r m)]) [0] rfl ?_
                        exact ih (k + 1) (⟨by omega, by rw [hI.2, sk_go hk9 (bDi_t c_35 c_37), Nat.add_assoc]⟩) (by omega)
                      · refine X_aload_n (j := 0) dX12_nextToken_263 rfl rfl ?_
                        refine X_aload_n (j := 0) dX12_nextToken_264 rfl rfl ?_
                        refine X_get (j := 0) fo_X12_178 dX12_nextToken_265 rfl rfl ?_
                        refine X_bipush (v := 10) dX12_nextToken_268 (by decide) ?_
                        refine X_imul (v := ((dg f p (mn k 4)) * 10)) dX12_nextToken_270 rfl ?_
                        refine X_aload_n (j := 0) dX12_nextToken_271 rfl rfl ?_
                        refine X_aload_n (j := 0) dX12_nextToken_272 rfl rfl ?_
                        refine X_get (j := 0) fo_X12_168 dX12_nextToken_273 rfl rfl ?_
                        refine X_callV (j0 := 0) (rest := []) (stk := [ex_i ((dg f p (mn k 4)) * 10), ex_r m]) co_X12_184 rfl ⟨(Nat.le_of_ble_eq_true rfl), (Nat.le_of_ble_eq_true rfl)⟩ (e_X12_signAt_in l m x0 x1 x2 (nI (p + k)) (nI p) x6 0 (dg f p (mn k 4)) x9 F f L (p + k) hL hk9) dX12_nextToken_276 [0, 1] (show List.Perm [0, 1] (List.range 2) from by decide) rfl rfl rfl rfl (Nat.le_of_ble_eq_true rfl) (fun cs1 r hq hk => ?_)
                        rcases hq with ⟨rfl, rfl⟩
                        refine X_iadd (v := (((dg f p (mn k 4)) * 10) + (f (p + k)))) dX12_nextToken_279 rfl ?_
                        refine X_bipush (v := 48) dX12_nextToken_280 (by decide) ?_
                        refine X_isub (v := ((((dg f p (mn k 4)) * 10) + (f (p + k))) - 48)) dX12_nextToken_282 rfl ?_
                        refine X_put (j := 0) (cs' := [(m, ex_o 12 (ex_i x0 :: ex_i x1 :: ex_r x2 :: ex_i (nI L) :: ex_i (nI (p + k)) :: ex_i (nI p) :: ex_i x6 :: ex_j 0 :: ex_i ((((dg f p (mn k 4)) * 10) + (f (p + k))) - 48) :: ex_i x9 :: F)), (x2, ex_a 1 1000 f)]) fo_X12_178 (by decide) dX12_nextToken_283 rfl (lt_tl (n := 10) (by decide)) trivial rfl ?_
                        refine X_aload_n (j := 0) dX12_nextToken_286 rfl rfl ?_
                        refine X_dup dX12_nextToken_287 rfl ?_
                        refine X_get (j := 0) fo_X12_168 dX12_nextToken_288 rfl rfl ?_
                        refine X_iconst (v := 1) dX12_nextToken_291 (by decide) ?_
                        refine X_iadd (v := (nI (p + (k + 1)))) dX12_nextToken_292 (nI_1 (p + k)) ?_
                        refine X_put (j := 0) (cs' := [(m, ex_o 12 (ex_i x0 :: ex_i x1 :: ex_r x2 :: ex_i (nI L) :: ex_i (nI (p + (k + 1))) :: ex_i (nI p) :: ex_i x6 :: ex_j 0 :: ex_i ((((dg f p (mn k 4)) * 10) + (f (p + k))) - 48) :: ex_i x9 :: F)), (x2, ex_a 1 1000 f)]) fo_X12_168 (by decide) dX12_nextToken_293 rfl (lt_tl (n := 10) (by decide)) trivial rfl ?_
                        refine X_goto (tgt := 224) dX12_nextToken_296 (by decide) ?_
                        have ew : ((((dg f p (mn k 4)) * 10) + (f (p + k))) - 48) = (dg f p (mn (k + 1) 4)) := dg_s (Nat.lt_of_not_le fun q => c_39 (nI_le (a := 4) q (by omega)))
                        rw [ew]
                        refine X_lv (lv' := [(0, ex_r m)]) [0] rfl ?_
                        exact ih (k + 1) (⟨by omega, by rw [hI.2, sk_go hk9 (bDi_t c_35 c_37), Nat.add_assoc]⟩) (by omega)
                · refine X_aload_n (j := 0) dX12_nextToken_224 rfl rfl ?_
                  refine X_aload_n (j := 0) dX12_nextToken_225 rfl rfl ?_
                  refine X_get (j := 0) fo_X12_168 dX12_nextToken_226 rfl rfl ?_
                  refine X_callV (j0 := 0) (rest := []) (stk := []) co_X12_184 rfl ⟨(Nat.le_of_ble_eq_true rfl), (Nat.le_of_ble_eq_true rfl)⟩ (e_X12_signAt_out l m x0 x1 x2 (nI (p + k)) (nI p) x6 0 (dg f p (mn k 4)) x9 F f L (p + k) hL hk9 hI.1) dX12_nextToken_229 [0, 1] (show List.Perm [0, 1] (List.range 2) from by decide) rfl rfl rfl rfl (Nat.le_of_ble_eq_true rfl) (fun cs1 r hq hk => ?_)
                  rcases hq with ⟨rfl, rfl⟩
                  refine X_bipush (v := 48) dX12_nextToken_232 (by decide) ?_
                  refine X_icmp_lt (tgt := 299) dX12_nextToken_234 (by decide) (fun _ => ?_) (fun c_ => absurd (by decide) c_)
                  have he2 : sk bDi f L p = p + k := by rw [hI.2]; exact sk_stop (fun q => absurd q hk9)
                  refine X_aload_n (j := 0) dX12_nextToken_299 rfl rfl ?_
                  refine X_aload_n (j := 0) dX12_nextToken_300 rfl rfl ?_
                  refine X_get (j := 0) fo_X12_168 dX12_nextToken_301 rfl rfl ?_
                  refine X_aload_n (j := 0) dX12_nextToken_304 rfl rfl ?_
                  refine X_get (j := 0) fo_X12_171 dX12_nextToken_305 rfl rfl ?_
                  refine X_isub (v := (nI k)) dX12_nextToken_308 (by rw [pk_sub (Nat.le_add_right p k), Nat.add_sub_cancel_left]) ?_
                  refine X_iconst (v := 4) dX12_nextToken_309 (by decide) ?_
                  refine X_icmp_le (tgt := 317) dX12_nextToken_310 (by decide) (fun c_40 => ?_) (fun c_40 => ?_)
                  · refine X_iconst (v := 2) dX12_nextToken_317 (by decide) ?_
                    refine X_put (j := 0) (cs' := [(m, ex_o 12 (ex_i x0 :: ex_i x1 :: ex_r x2 :: ex_i (nI L) :: ex_i (nI (p + k)) :: ex_i (nI p) :: ex_i 2 :: ex_j 0 :: ex_i (dg f p (mn k 4)) :: ex_i x9 :: F)), (x2, ex_a 1 1000 f)]) fo_X12_181 (by decide) dX12_nextToken_318 rfl (lt_tl (n := 10) (by decide)) trivial rfl ?_
                    have hle : bLe (f (tP f L n)) = false := by rw [he]; exact bLe_f1 c_27
                    have hdi : bDi (f (tP f L n)) = true := by rw [he]; exact bDi_t c_28 c_32
                    have hN := tN_d hlt9 hle hdi
                    have h8 : k ≤ 4 := Nat.le_of_not_lt fun q => nI_ge (a := 4) q (by omega) c_40
                    have hk := tK_2 hlt9 hle hdi (by rw [he, he2, Nat.add_sub_cancel_left]; exact h8)
                    exact X_vret dX12_nextToken_321 rfl (⟨0, (dg f p (mn k 4)), (fun q => absurd (hk.symm.trans q) (by decide)), (fun _ => by unfold tV; rw [hN, he, he2, Nat.add_sub_cancel_left, mn_lt h8]), (by rw [hN, hk, he, he2]; try rfl), rfl⟩)
                  · refine X_iconst (v := 4) dX12_nextToken_313 (by decide) ?_
                    refine X_goto (tgt := 318) dX12_nextToken_314 (by decide) ?_
                    refine X_put (j := 0) (cs' := [(m, ex_o 12 (ex_i x0 :: ex_i x1 :: ex_r x2 :: ex_i (nI L) :: ex_i (nI (p + k)) :: ex_i (nI p) :: ex_i 4 :: ex_j 0 :: ex_i (dg f p (mn k 4)) :: ex_i x9 :: F)), (x2, ex_a 1 1000 f)]) fo_X12_181 (by decide) dX12_nextToken_318 rfl (lt_tl (n := 10) (by decide)) trivial rfl ?_
                    have hle : bLe (f (tP f L n)) = false := by rw [he]; exact bLe_f1 c_27
                    have hdi : bDi (f (tP f L n)) = true := by rw [he]; exact bDi_t c_28 c_32
                    have hN := tN_d hlt9 hle hdi
                    have h8 : ¬ k ≤ 4 := fun q => c_40 (nI_le (b := 4) q (by decide))
                    have hk := tK_24 hlt9 hle hdi (by rw [he, he2, Nat.add_sub_cancel_left]; exact h8)
                    exact X_vret dX12_nextToken_321 rfl (⟨0, (dg f p (mn k 4)), (fun q => absurd (hk.symm.trans q) (by decide)), (fun q => absurd (hk.symm.trans q) (by decide)), (by rw [hN, hk, he, he2]; try rfl), rfl⟩)
          · refine X_iload_n (j := 0) dX12_nextToken_103 rfl rfl ?_
            refine X_bipush (v := 122) dX12_nextToken_104 (by decide) ?_
            refine X_icmp_gt (tgt := 212) dX12_nextToken_106 (by decide) (fun c_41 => ?_) (fun c_41 => ?_)
            · refine X_iload_n (j := 0) dX12_nextToken_212 rfl rfl ?_
              refine X_bipush (v := 48) dX12_nextToken_213 (by decide) ?_
              refine X_icmp_lt (tgt := 322) dX12_nextToken_215 (by decide) (fun c_ => absurd c_ (by have q0 := c_24; have q1 := c_25; have q2 := c_27; have q3 := c_41; simp only [lt_ti, le_ti, eq_ti, ti_10, ti_32, ti_48, ti_97, ti_122] at q0 q1 q2 q3 ⊢; omega)) (fun _ => ?_)
              refine X_iload_n (j := 0) dX12_nextToken_218 rfl rfl ?_
              refine X_bipush (v := 57) dX12_nextToken_219 (by decide) ?_
              refine X_icmp_gt (tgt := 322) dX12_nextToken_221 (by decide) (fun _ => ?_) (fun c_ => absurd (by have q0 := c_24; have q1 := c_25; have q2 := c_27; have q3 := c_41; simp only [lt_ti, le_ti, eq_ti, ti_10, ti_32, ti_57, ti_97, ti_122] at q0 q1 q2 q3 ⊢; omega) c_)
              refine X_aload_n (j := 1) dX12_nextToken_322 rfl rfl ?_
              refine X_dup dX12_nextToken_323 rfl ?_
              refine X_get (j := 0) fo_X12_168 dX12_nextToken_324 rfl rfl ?_
              refine X_iconst (v := 1) dX12_nextToken_327 (by decide) ?_
              refine X_iadd (v := (nI (p + 1))) dX12_nextToken_328 (nI_1 p) ?_
              refine X_put (j := 0) (cs' := [(m, ex_o 12 (ex_i x0 :: ex_i x1 :: ex_r x2 :: ex_i (nI L) :: ex_i (nI (p + 1)) :: ex_i (nI p) :: ex_i x6 :: ex_j 0 :: ex_i 0 :: ex_i x9 :: F)), (x2, ex_a 1 1000 f)]) fo_X12_168 (by decide) dX12_nextToken_329 rfl (lt_tl (n := 10) (by decide)) trivial rfl ?_
              refine X_aload_n (j := 1) dX12_nextToken_332 rfl rfl ?_
              refine X_iload_n (j := 0) dX12_nextToken_333 rfl rfl ?_
              refine X_bipush (v := 40) dX12_nextToken_334 (by decide) ?_
              refine X_icmp_lt (tgt := 345) dX12_nextToken_336 (by decide) (fun c_ => absurd c_ (by have q0 := c_24; have q1 := c_25; have q2 := c_27; have q3 := c_41; simp only [lt_ti, le_ti, eq_ti, ti_10, ti_32, ti_40, ti_97, ti_122] at q0 q1 q2 q3 ⊢; omega)) (fun _ => ?_)
              refine X_iload_n (j := 0) dX12_nextToken_339 rfl rfl ?_
              refine X_bipush (v := 43) dX12_nextToken_340 (by decide) ?_
              refine X_icmp_le (tgt := 363) dX12_nextToken_342 (by decide) (fun c_ => absurd c_ (by have q0 := c_24; have q1 := c_25; have q2 := c_27; have q3 := c_41; simp only [lt_ti, le_ti, eq_ti, ti_10, ti_32, ti_43, ti_97, ti_122] at q0 q1 q2 q3 ⊢; omega)) (fun _ => ?_)
              refine X_iload_n (j := 0) dX12_nextToken_345 rfl rfl ?_
              refine X_bipush (v := 45) dX12_nextToken_346 (by decide) ?_
              refine X_icmp_eq (tgt := 363) dX12_nextToken_348 (by decide) (fun c_ => absurd c_ (by have q0 := c_24; have q1 := c_25; have q2 := c_27; have q3 := c_41; simp only [lt_ti, le_ti, eq_ti, ti_10, ti_32, ti_45, ti_97, ti_122] at q0 q1 q2 q3 ⊢; omega)) (fun _ => ?_)
              refine X_iload_n (j := 0) dX12_nextToken_351 rfl rfl ?_
              refine X_bipush (v := 59) dX12_nextToken_352 (by decide) ?_
              refine X_icmp_lt (tgt := 367) dX12_nextToken_354 (by decide) (fun c_ => absurd c_ (by have q0 := c_24; have q1 := c_25; have q2 := c_27; have q3 := c_41; simp only [lt_ti, le_ti, eq_ti, ti_10, ti_32, ti_59, ti_97, ti_122] at q0 q1 q2 q3 ⊢; omega)) (fun _ => ?_)
              refine X_iload_n (j := 0) dX12_nextToken_357 rfl rfl ?_
              refine X_bipush (v := 61) dX12_nextToken_358 (by decide) ?_
              refine X_icmp_gt (tgt := 367) dX12_nextToken_360 (by decide) (fun _ => ?_) (fun c_ => absurd (by have q0 := c_24; have q1 := c_25; have q2 := c_27; have q3 := c_41; simp only [lt_ti, le_ti, eq_ti, ti_10, ti_32, ti_61, ti_97, ti_122] at q0 q1 q2 q3 ⊢; omega) c_)
              refine X_iconst (v := 4) dX12_nextToken_367 (by decide) ?_
              refine X_put (j := 0) (cs' := [(m, ex_o 12 (ex_i x0 :: ex_i x1 :: ex_r x2 :: ex_i (nI L) :: ex_i (nI (p + 1)) :: ex_i (nI p) :: ex_i 4 :: ex_j 0 :: ex_i 0 :: ex_i x9 :: F)), (x2, ex_a 1 1000 f)]) fo_X12_181 (by decide) dX12_nextToken_368 rfl (lt_tl (n := 10) (by decide)) trivial rfl ?_
              have hle : bLe (f (tP f L n)) = false := by rw [he]; exact bLe_f2 c_41
              have hdi : bDi (f (tP f L n)) = false := by rw [he]; exact bDi_f2 (by have q0 := c_24; have q1 := c_25; have q2 := c_27; have q3 := c_41; simp only [lt_ti, le_ti, eq_ti, ti_10, ti_32, ti_57, ti_97, ti_122] at q0 q1 q2 q3 ⊢; omega)
              have hN := tN_s hlt9 hle hdi
              have hs : bSg (f (tP f L n)) = false := by rw [he]; refine bSg_f ?_; have q0 := c_24; have q1 := c_25; have q2 := c_27; have q3 := c_41; have t10 : (10 : Int32).toInt = 10 := rfl; have t32 : (32 : Int32).toInt = 32 := rfl; have t97 : (97 : Int32).toInt = 97 := rfl; have t122 : (122 : Int32).toInt = 122 := rfl; simp only [Int32.lt_iff_toInt_lt, Int32.le_iff_toInt_le, ← Int32.toInt_inj, t10, t32, t97, t122] at q0 q1 q2 q3; omega
              have hk := tK_34 hlt9 hle hdi hs
              exact X_vret dX12_nextToken_371 rfl (⟨0, 0, (fun q => absurd (hk.symm.trans q) (by decide)), (fun q => absurd (hk.symm.trans q) (by decide)), (by rw [hN, hk, he]; try rfl), rfl⟩)
            · refine X_lv (lv' := [(0, ex_r m)]) [1] rfl ?_
              refine X_ind (fun (k : Nat) => p + k ≤ L ∧ sk bLe f L p = sk bLe f L (p + k)) (fun (k : Nat) => L - (p + k)) (fun (k : Nat) => [(m, ex_o 12 (ex_i x0 :: ex_i x1 :: ex_r x2 :: ex_i (nI L) :: ex_i (nI (p + k)) :: ex_i (nI p) :: ex_i x6 :: ex_j (w2 f p (mn k 8)) :: ex_i 0 :: ex_i x9 :: F)), (x2, ex_a 1 1000 f)]) (fun (k : Nat) => [(0, ex_r m)]) (fun k hI ih => ?_) 0 (⟨Nat.le_of_lt hltp, rfl⟩)
              try dsimp only at hI ih ⊢
              by_cases hk9 : p + k < L
              · refine X_aload_n (j := 0) dX12_nextToken_109 rfl rfl ?_
                refine X_aload_n (j := 0) dX12_nextToken_110 rfl rfl ?_
                refine X_get (j := 0) fo_X12_168 dX12_nextToken_111 rfl rfl ?_
                refine X_callV (j0 := 0) (rest := []) (stk := []) co_X12_184 rfl ⟨(Nat.le_of_ble_eq_true rfl), (Nat.le_of_ble_eq_true rfl)⟩ (e_X12_signAt_in l m x0 x1 x2 (nI (p + k)) (nI p) x6 (w2 f p (mn k 8)) 0 x9 F f L (p + k) hL hk9) dX12_nextToken_114 [0, 1] (show List.Perm [0, 1] (List.range 2) from by decide) rfl rfl rfl rfl (Nat.le_of_ble_eq_true rfl) (fun cs1 r hq hk => ?_)
                rcases hq with ⟨rfl, rfl⟩
                refine X_bipush (v := 97) dX12_nextToken_117 (by decide) ?_
                refine X_icmp_lt (tgt := 188) dX12_nextToken_119 (by decide) (fun c_42 => ?_) (fun c_42 => ?_)
                · have he2 : sk bLe f L p = p + k := by rw [hI.2]; exact sk_stop (fun _ => bLe_f1 c_42)
                  refine X_aload_n (j := 0) dX12_nextToken_188 rfl rfl ?_
                  refine X_aload_n (j := 0) dX12_nextToken_189 rfl rfl ?_
                  refine X_get (j := 0) fo_X12_168 dX12_nextToken_190 rfl rfl ?_
                  refine X_aload_n (j := 0) dX12_nextToken_193 rfl rfl ?_
                  refine X_get (j := 0) fo_X12_171 dX12_nextToken_194 rfl rfl ?_
                  refine X_isub (v := (nI k)) dX12_nextToken_197 (by rw [pk_sub (Nat.le_add_right p k), Nat.add_sub_cancel_left]) ?_
                  refine X_bipush (v := 8) dX12_nextToken_198 (by decide) ?_
                  refine X_icmp_le (tgt := 207) dX12_nextToken_200 (by decide) (fun c_43 => ?_) (fun c_43 => ?_)
                  · refine X_iconst (v := 1) dX12_nextToken_207 (by decide) ?_
                    refine X_put (j := 0) (cs' := [(m, ex_o 12 (ex_i x0 :: ex_i x1 :: ex_r x2 :: ex_i (nI L) :: ex_i (nI (p + k)) :: ex_i (nI p) :: ex_i 1 :: ex_j (w2 f p (mn k 8)) :: ex_i 0 :: ex_i x9 :: F)), (x2, ex_a 1 1000 f)]) fo_X12_181 (by decide) dX12_nextToken_208 rfl (lt_tl (n := 10) (by decide)) trivial rfl ?_
                    have hle : bLe (f (tP f L n)) = true := by rw [he]; exact bLe_t c_27 c_41
                    have hN := tN_w hlt9 hle
                    have h8 : k ≤ 8 := Nat.le_of_not_lt fun q => nI_ge (a := 8) q (by omega) c_43
                    have hk := tK_1 hlt9 hle (by rw [he, he2, Nat.add_sub_cancel_left]; exact h8)
                    exact X_vret dX12_nextToken_211 rfl (⟨(w2 f p (mn k 8)), 0, (fun _ => by unfold rW; rw [hN, he, he2, Nat.add_sub_cancel_left, mn_lt h8]), (fun q => absurd (hk.symm.trans q) (by decide)), (by rw [hN, hk, he, he2]; try rfl), rfl⟩)
                  · refine X_iconst (v := 4) dX12_nextToken_203 (by decide) ?_
                    refine X_goto (tgt := 208) dX12_nextToken_204 (by decide) ?_
                    refine X_put (j := 0) (cs' := [(m, ex_o 12 (ex_i x0 :: ex_i x1 :: ex_r x2 :: ex_i (nI L) :: ex_i (nI (p + k)) :: ex_i (nI p) :: ex_i 4 :: ex_j (w2 f p (mn k 8)) :: ex_i 0 :: ex_i x9 :: F)), (x2, ex_a 1 1000 f)]) fo_X12_181 (by decide) dX12_nextToken_208 rfl (lt_tl (n := 10) (by decide)) trivial rfl ?_
                    have hle : bLe (f (tP f L n)) = true := by rw [he]; exact bLe_t c_27 c_41
                    have hN := tN_w hlt9 hle
                    have h8 : ¬ k ≤ 8 := fun q => c_43 (nI_le (b := 8) q (by decide))
                    have hk := tK_14 hlt9 hle (by rw [he, he2, Nat.add_sub_cancel_left]; exact h8)
                    exact X_vret dX12_nextToken_211 rfl (⟨(w2 f p (mn k 8)), 0, (fun q => absurd (hk.symm.trans q) (by decide)), (fun q => absurd (hk.symm.trans q) (by decide)), (by rw [hN, hk, he, he2]; try rfl), rfl⟩)
                · refine X_aload_n (j := 0) dX12_nextToken_122 rfl rfl ?_
                  refine X_aload_n (j := 0) dX12_nextToken_123 rfl rfl ?_
                  refine X_get (j := 0) fo_X12_168 dX12_nextToken_124 rfl rfl ?_
                  refine X_callV (j0 := 0) (rest := []) (stk := []) co_X12_184 rfl ⟨(Nat.le_of_ble_eq_true rfl), (Nat.le_of_ble_eq_true rfl)⟩ (e_X12_signAt_in l m x0 x1 x2 (nI (p + k)) (nI p) x6 (w2 f p (mn k 8)) 0 x9 F f L (p + k) hL hk9) dX12_nextToken_127 [0, 1] (show List.Perm [0, 1] (List.range 2) from by decide) rfl rfl rfl rfl (Nat.le_of_ble_eq_true rfl) (fun cs1 r hq hk => ?_)
                  rcases hq with ⟨rfl, rfl⟩
                  refine X_bipush (v := 122) dX12_nextToken_130 (by decide) ?_
                  refine X_icmp_gt (tgt := 188) dX12_nextToken_132 (by decide) (fun c_44 => ?_) (fun c_44 => ?_)
                  · have he2 : sk bLe f L p = p + k := by rw [hI.2]; exact sk_stop (fun _ => bLe_f2 c_44)
                    refine X_aload_n (j := 0) dX12_nextToken_188 rfl rfl ?_
                    refine X_aload_n (j := 0) dX12_nextToken_189 rfl rfl ?_
                    refine X_get (j := 0) fo_X12_168 dX12_nextToken_190 rfl rfl ?_
                    refine X_aload_n (j := 0) dX12_nextToken_193 rfl rfl ?_
                    refine X_get (j := 0) fo_X12_171 dX12_nextToken_194 rfl rfl ?_
                    refine X_isub (v := (nI k)) dX12_nextToken_197 (by rw [pk_sub (Nat.le_add_right p k), Nat.add_sub_cancel_left]) ?_
                    refine X_bipush (v := 8) dX12_nextToken_198 (by decide) ?_
                    refine X_icmp_le (tgt := 207) dX12_nextToken_200 (by decide) (fun c_45 => ?_) (fun c_45 => ?_)
                    · refine X_iconst (v := 1) dX12_nextToken_207 (by decide) ?_
                      refine X_put (j := 0) (cs' := [(m, ex_o 12 (ex_i x0 :: ex_i x1 :: ex_r x2 :: ex_i (nI L) :: ex_i (nI (p + k)) :: ex_i (nI p) :: ex_i 1 :: ex_j (w2 f p (mn k 8)) :: ex_i 0 :: ex_i x9 :: F)), (x2, ex_a 1 1000 f)]) fo_X12_181 (by decide) dX12_nextToken_208 rfl (lt_tl (n := 10) (by decide)) trivial rfl ?_
                      have hle : bLe (f (tP f L n)) = true := by rw [he]; exact bLe_t c_27 c_41
                      have hN := tN_w hlt9 hle
                      have h8 : k ≤ 8 := Nat.le_of_not_lt fun q => nI_ge (a := 8) q (by omega) c_45
                      have hk := tK_1 hlt9 hle (by rw [he, he2, Nat.add_sub_cancel_left]; exact h8)
                      exact X_vret dX12_nextToken_211 rfl (⟨(w2 f p (mn k 8)), 0, (fun _ => by unfold rW; rw [hN, he, he2, Nat.add_sub_cancel_left, mn_lt h8]), (fun q => absurd (hk.symm.trans q) (by decide)), (by rw [hN, hk, he, he2]; try rfl), rfl⟩)
                    · refine X_iconst (v := 4) dX12_nextToken_203 (by decide) ?_
                      refine X_goto (tgt := 208) dX12_nextToken_204 (by decide) ?_
                      refine X_put (j := 0) (cs' := [(m, ex_o 12 (ex_i x0 :: ex_i x1 :: ex_r x2 :: ex_i (nI L) :: ex_i (nI (p + k)) :: ex_i (nI p) :: ex_i 4 :: ex_j (w2 f p (mn k 8)) :: ex_i 0 :: ex_i x9 :: F)), (x2, ex_a 1 1000 f)]) fo_X12_181 (by decide) dX12_nextToken_208 rfl (lt_tl (n := 10) (by decide)) trivial rfl ?_
                      have hle : bLe (f (tP f L n)) = true := by rw [he]; exact bLe_t c_27 c_41
                      have hN := tN_w hlt9 hle
                      have h8 : ¬ k ≤ 8 := fun q => c_45 (nI_le (b := 8) q (by decide))
                      have hk := tK_14 hlt9 hle (by rw [he, he2, Nat.add_sub_cancel_left]; exact h8)
                      exact X_vret dX12_nextToken_211 rfl (⟨(w2 f p (mn k 8)), 0, (fun q => absurd (hk.symm.trans q) (by decide)), (fun q => absurd (hk.symm.trans q) (by decide)), (by rw [hN, hk, he, he2]; try rfl), rfl⟩)
                  · refine X_aload_n (j := 0) dX12_nextToken_135 rfl rfl ?_
                    refine X_get (j := 0) fo_X12_168 dX12_nextToken_136 rfl rfl ?_
                    refine X_aload_n (j := 0) dX12_nextToken_139 rfl rfl ?_
                    refine X_get (j := 0) fo_X12_171 dX12_nextToken_140 rfl rfl ?_
                    refine X_isub (v := (nI k)) dX12_nextToken_143 (by rw [pk_sub (Nat.le_add_right p k), Nat.add_sub_cancel_left]) ?_
                    refine X_bipush (v := 8) dX12_nextToken_144 (by decide) ?_
                    refine X_icmp_ge (tgt := 175) dX12_nextToken_146 (by decide) (fun c_46 => ?_) (fun c_46 => ?_)
                    · refine X_aload_n (j := 0) dX12_nextToken_175 rfl rfl ?_
                      refine X_dup dX12_nextToken_176 rfl ?_
                      refine X_get (j := 0) fo_X12_168 dX12_nextToken_177 rfl rfl ?_
                      refine X_iconst (v := 1) dX12_nextToken_180 (by decide) ?_
                      refine X_iadd (v := (nI (p + (k + 1)))) dX12_nextToken_181 (nI_1 (p + k)) ?_
                      refine X_put (j := 0) (cs' := [(m, ex_o 12 (ex_i x0 :: ex_i x1 :: ex_r x2 :: ex_i (nI L) :: ex_i (nI (p + (k + 1))) :: ex_i (nI p) :: ex_i x6 :: ex_j (w2 f p (mn k 8)) :: ex_i 0 :: ex_i x9 :: F)), (x2, ex_a 1 1000 f)]) fo_X12_168 (by decide) dX12_nextToken_182 rfl (lt_tl (n := 10) (by decide)) trivial rfl ?_
                      refine X_goto (tgt := 109) dX12_nextToken_185 (by decide) ?_
                      have ew : w2 f p (mn k 8) = (w2 f p (mn (k + 1) 8)) := w2_t (Nat.le_of_not_lt fun q => nI_ge (b := 8) q (by decide) c_46)
                      rw [ew]
                      refine X_lv (lv' := [(0, ex_r m)]) [0] rfl ?_
                      exact ih (k + 1) (⟨by omega, by rw [hI.2, sk_go hk9 (bLe_t c_42 c_44), Nat.add_assoc]⟩) (by omega)
                    · refine X_aload_n (j := 0) dX12_nextToken_149 rfl rfl ?_
                      refine X_aload_n (j := 0) dX12_nextToken_150 rfl rfl ?_
                      refine X_get (j := 0) fo_X12_174 dX12_nextToken_151 rfl rfl ?_
                      refine X_ldc2_w (v := 27) k_1546 dX12_nextToken_154 ?_
                      refine X_lmul (v := ((w2 f p (mn k 8)) * 27)) dX12_nextToken_157 rfl ?_
                      refine X_aload_n (j := 0) dX12_nextToken_158 rfl rfl ?_
                      refine X_aload_n (j := 0) dX12_nextToken_159 rfl rfl ?_
                      refine X_get (j := 0) fo_X12_168 dX12_nextToken_160 rfl rfl ?_
                      refine X_callV (j0 := 0) (rest := []) (stk := [ex_j ((w2 f p (mn k 8)) * 27), ex_r m]) co_X12_184 rfl ⟨(Nat.le_of_ble_eq_true rfl), (Nat.le_of_ble_eq_true rfl)⟩ (e_X12_signAt_in l m x0 x1 x2 (nI (p + k)) (nI p) x6 (w2 f p (mn k 8)) 0 x9 F f L (p + k) hL hk9) dX12_nextToken_163 [0, 1] (show List.Perm [0, 1] (List.range 2) from by decide) rfl rfl rfl rfl (Nat.le_of_ble_eq_true rfl) (fun cs1 r hq hk => ?_)
                      rcases hq with ⟨rfl, rfl⟩
                      refine X_i2l (v := (f (p + k)).toInt64) dX12_nextToken_166 rfl ?_
                      refine X_ladd (v := (((w2 f p (mn k 8)) * 27) + ((f (p + k)).toInt64))) dX12_nextToken_167 rfl ?_
                      refine X_ldc2_w (v := 96) k_1547 dX12_nextToken_168 ?_
                      refine X_lsub (v := ((((w2 f p (mn k 8)) * 27) + ((f (p + k)).toInt64)) - 96)) dX12_nextToken_171 rfl ?_
                      refine X_put (j := 0) (cs' := [(m, ex_o 12 (ex_i x0 :: ex_i x1 :: ex_r x2 :: ex_i (nI L) :: ex_i (nI (p + k)) :: ex_i (nI p) :: ex_i x6 :: ex_j ((((w2 f p (mn k 8)) * 27) + ((f (p + k)).toInt64)) - 96) :: ex_i 0 :: ex_i x9 :: F)), (x2, ex_a 1 1000 f)]) fo_X12_174 (by decide) dX12_nextToken_172 rfl (lt_tl (n := 10) (by decide)) rfl rfl ?_
                      refine X_aload_n (j := 0) dX12_nextToken_175 rfl rfl ?_
                      refine X_dup dX12_nextToken_176 rfl ?_
                      refine X_get (j := 0) fo_X12_168 dX12_nextToken_177 rfl rfl ?_
                      refine X_iconst (v := 1) dX12_nextToken_180 (by decide) ?_
                      refine X_iadd (v := (nI (p + (k + 1)))) dX12_nextToken_181 (nI_1 (p + k)) ?_
                      refine X_put (j := 0) (cs' := [(m, ex_o 12 (ex_i x0 :: ex_i x1 :: ex_r x2 :: ex_i (nI L) :: ex_i (nI (p + (k + 1))) :: ex_i (nI p) :: ex_i x6 :: ex_j ((((w2 f p (mn k 8)) * 27) + ((f (p + k)).toInt64)) - 96) :: ex_i 0 :: ex_i x9 :: F)), (x2, ex_a 1 1000 f)]) fo_X12_168 (by decide) dX12_nextToken_182 rfl (lt_tl (n := 10) (by decide)) trivial rfl ?_
                      refine X_goto (tgt := 109) dX12_nextToken_185 (by decide) ?_
                      have ew : ((((w2 f p (mn k 8)) * 27) + ((f (p + k)).toInt64)) - 96) = (w2 f p (mn (k + 1) 8)) := w2_s (Nat.lt_of_not_le fun q => c_46 (nI_le (a := 8) q (by omega)))
                      rw [ew]
                      refine X_lv (lv' := [(0, ex_r m)]) [0] rfl ?_
                      exact ih (k + 1) (⟨by omega, by rw [hI.2, sk_go hk9 (bLe_t c_42 c_44), Nat.add_assoc]⟩) (by omega)
              · refine X_aload_n (j := 0) dX12_nextToken_109 rfl rfl ?_
                refine X_aload_n (j := 0) dX12_nextToken_110 rfl rfl ?_
                refine X_get (j := 0) fo_X12_168 dX12_nextToken_111 rfl rfl ?_
                refine X_callV (j0 := 0) (rest := []) (stk := []) co_X12_184 rfl ⟨(Nat.le_of_ble_eq_true rfl), (Nat.le_of_ble_eq_true rfl)⟩ (e_X12_signAt_out l m x0 x1 x2 (nI (p + k)) (nI p) x6 (w2 f p (mn k 8)) 0 x9 F f L (p + k) hL hk9 hI.1) dX12_nextToken_114 [0, 1] (show List.Perm [0, 1] (List.range 2) from by decide) rfl rfl rfl rfl (Nat.le_of_ble_eq_true rfl) (fun cs1 r hq hk => ?_)
                rcases hq with ⟨rfl, rfl⟩
                refine X_bipush (v := 97) dX12_nextToken_117 (by decide) ?_
                refine X_icmp_lt (tgt := 188) dX12_nextToken_119 (by decide) (fun _ => ?_) (fun c_ => absurd (by decide) c_)
                have he2 : sk bLe f L p = p + k := by rw [hI.2]; exact sk_stop (fun q => absurd q hk9)
                refine X_aload_n (j := 0) dX12_nextToken_188 rfl rfl ?_
                refine X_aload_n (j := 0) dX12_nextToken_189 rfl rfl ?_
                refine X_get (j := 0) fo_X12_168 dX12_nextToken_190 rfl rfl ?_
                refine X_aload_n (j := 0) dX12_nextToken_193 rfl rfl ?_
                refine X_get (j := 0) fo_X12_171 dX12_nextToken_194 rfl rfl ?_
                refine X_isub (v := (nI k)) dX12_nextToken_197 (by rw [pk_sub (Nat.le_add_right p k), Nat.add_sub_cancel_left]) ?_
                refine X_bipush (v := 8) dX12_nextToken_198 (by decide) ?_
                refine X_icmp_le (tgt := 207) dX12_nextToken_200 (by decide) (fun c_47 => ?_) (fun c_47 => ?_)
                · refine X_iconst (v := 1) dX12_nextToken_207 (by decide) ?_
                  refine X_put (j := 0) (cs' := [(m, ex_o 12 (ex_i x0 :: ex_i x1 :: ex_r x2 :: ex_i (nI L) :: ex_i (nI (p + k)) :: ex_i (nI p) :: ex_i 1 :: ex_j (w2 f p (mn k 8)) :: ex_i 0 :: ex_i x9 :: F)), (x2, ex_a 1 1000 f)]) fo_X12_181 (by decide) dX12_nextToken_208 rfl (lt_tl (n := 10) (by decide)) trivial rfl ?_
                  have hle : bLe (f (tP f L n)) = true := by rw [he]; exact bLe_t c_27 c_41
                  have hN := tN_w hlt9 hle
                  have h8 : k ≤ 8 := Nat.le_of_not_lt fun q => nI_ge (a := 8) q (by omega) c_47
                  have hk := tK_1 hlt9 hle (by rw [he, he2, Nat.add_sub_cancel_left]; exact h8)
                  exact X_vret dX12_nextToken_211 rfl (⟨(w2 f p (mn k 8)), 0, (fun _ => by unfold rW; rw [hN, he, he2, Nat.add_sub_cancel_left, mn_lt h8]), (fun q => absurd (hk.symm.trans q) (by decide)), (by rw [hN, hk, he, he2]; try rfl), rfl⟩)
                · refine X_iconst (v := 4) dX12_nextToken_203 (by decide) ?_
                  refine X_goto (tgt := 208) dX12_nextToken_204 (by decide) ?_
                  refine X_put (j := 0) (cs' := [(m, ex_o 12 (ex_i x0 :: ex_i x1 :: ex_r x2 :: ex_i (nI L) :: ex_i (nI (p + k)) :: ex_i (nI p) :: ex_i 4 :: ex_j (w2 f p (mn k 8)) :: ex_i 0 :: ex_i x9 :: F)), (x2, ex_a 1 1000 f)]) fo_X12_181 (by decide) dX12_nextToken_208 rfl (lt_tl (n := 10) (by decide)) trivial rfl ?_
                  have hle : bLe (f (tP f L n)) = true := by rw [he]; exact bLe_t c_27 c_41
                  have hN := tN_w hlt9 hle
                  have h8 : ¬ k ≤ 8 := fun q => c_47 (nI_le (b := 8) q (by decide))
                  have hk := tK_14 hlt9 hle (by rw [he, he2, Nat.add_sub_cancel_left]; exact h8)
                  exact X_vret dX12_nextToken_211 rfl (⟨(w2 f p (mn k 8)), 0, (fun q => absurd (hk.symm.trans q) (by decide)), (fun q => absurd (hk.symm.trans q) (by decide)), (by rw [hN, hk, he, he2]; try rfl), rfl⟩)
        · refine X_aload_n (j := 0) dX12_nextToken_81 rfl rfl ?_
          refine X_iconst (v := 0) dX12_nextToken_82 (by decide) ?_
          refine X_put (j := 0) (cs' := [(m, ex_o 12 (ex_i x0 :: ex_i x1 :: ex_r x2 :: ex_i (nI L) :: ex_i (nI p) :: ex_i (nI p) :: ex_i 0 :: ex_j 0 :: ex_i 0 :: ex_i x9 :: F)), (x2, ex_a 1 1000 f)]) fo_X12_181 (by decide) dX12_nextToken_83 rfl (lt_tl (n := 10) (by decide)) trivial rfl ?_
          have hk := tK_0 (f := f) (L := L) (n := n) (by rw [he, nI_inj (by omega) (by omega) c_26]; exact Nat.lt_irrefl _)
          exact X_vret dX12_nextToken_86 rfl (⟨0, 0, (fun q => absurd (hk.1.symm.trans q) (by decide)), (fun q => absurd (hk.1.symm.trans q) (by decide)), (by rw [hk.2, hk.1, he]; try rfl), rfl⟩)
      · refine X_aload_n (j := 0) dX12_nextToken_39 rfl rfl ?_
        refine X_dup dX12_nextToken_40 rfl ?_
        refine X_get (j := 0) fo_X12_168 dX12_nextToken_41 rfl rfl ?_
        refine X_iconst (v := 1) dX12_nextToken_44 (by decide) ?_
        refine X_iadd (v := (nI (p + 1))) dX12_nextToken_45 (nI_1 p) ?_
        refine X_put (j := 0) (cs' := [(m, ex_o 12 (ex_i x0 :: ex_i x1 :: ex_r x2 :: ex_i (nI L) :: ex_i (nI (p + 1)) :: ex_i x5 :: ex_i x6 :: ex_j x7 :: ex_i x8 :: ex_i x9 :: F)), (x2, ex_a 1 1000 f)]) fo_X12_168 (by decide) dX12_nextToken_46 rfl (lt_tl (n := 10) (by decide)) trivial rfl ?_
        refine X_goto (tgt := 0) dX12_nextToken_49 (by decide) ?_
        refine X_lv (lv' := [(0, ex_r m)]) [0] rfl ?_
        exact ih (p + 1) (⟨hlt, by rw [hI.2, sk_go hlt (bBl_t (Or.inl c_25))]⟩) (by omega)

set_option maxHeartbeats 4000000 in
set_option maxRecDepth 100000 in
theorem e_X12_isWord (l : Launch) (m : Nat) (x0 : Int32) (x1 : Int32) (x2 : Nat) (x3 : Int32) (x4 : Int32) (x5 : Int32) (x6 : Int32) (x7 : Int64) (x8 : Int32) (x9 : Int32) (F : List MV) (wq : Int64) : ex_M l yX12_isWord cX12_isWord 3 (some .boolean) 0 0 [ex_r m, ex_j wq] [(m, ex_o 12 (ex_i x0 :: ex_i x1 :: ex_r x2 :: ex_i x3 :: ex_i x4 :: ex_i x5 :: ex_i x6 :: ex_j x7 :: ex_i x8 :: ex_i x9 :: F))] (fun cs r => ((x6 = 1 ∧ x7 = wq) ∧ cs = [(m, ex_o 12 (ex_i x0 :: ex_i x1 :: ex_r x2 :: ex_i x3 :: ex_i x4 :: ex_i x5 :: ex_i x6 :: ex_j x7 :: ex_i x8 :: ex_i x9 :: F))] ∧ r = some (ex_i 1)) ∨ ((¬ (x6 = 1 ∧ x7 = wq)) ∧ cs = [(m, ex_o 12 (ex_i x0 :: ex_i x1 :: ex_r x2 :: ex_i x3 :: ex_i x4 :: ex_i x5 :: ex_i x6 :: ex_j x7 :: ex_i x8 :: ex_i x9 :: F))] ∧ r = some (ex_i 0))) := by
  refine X_meth (by decide) (Nat.le_of_ble_eq_true rfl) ?_
  refine X_aload_n (j := 0) dX12_isWord_0 rfl rfl ?_
  refine X_get (j := 0) fo_X12_181 dX12_isWord_1 rfl rfl ?_
  refine X_iconst (v := 1) dX12_isWord_4 (by decide) ?_
  refine X_icmp_ne (tgt := 21) dX12_isWord_5 (by decide) (fun c_1 => ?_) (fun c_1 => ?_)
  · refine X_iconst (v := 0) dX12_isWord_21 (by decide) ?_
    exact X_iret ex_nZ rfl dX12_isWord_22 rfl (Or.inr ⟨(fun q => c_1 q.1), rfl, rfl⟩)
  · refine X_aload_n (j := 0) dX12_isWord_8 rfl rfl ?_
    refine X_get (j := 0) fo_X12_174 dX12_isWord_9 rfl rfl ?_
    refine X_lload_n (j := 1) dX12_isWord_12 rfl rfl ?_
    refine X_lcmp (v := (lg_cmp x7 wq)) dX12_isWord_13 rfl ?_
    refine X_if_ne (tgt := 21) dX12_isWord_14 (by decide) (fun c_2 => ?_) (fun c_2 => ?_)
    · refine X_iconst (v := 0) dX12_isWord_21 (by decide) ?_
      exact X_iret ex_nZ rfl dX12_isWord_22 rfl (Or.inr ⟨(fun q => c_2 (by rw [q.2]; exact ex_lc1 _)), rfl, rfl⟩)
    · refine X_iconst (v := 1) dX12_isWord_17 (by decide) ?_
      refine X_goto (tgt := 22) dX12_isWord_18 (by decide) ?_
      exact X_iret ex_nZ rfl dX12_isWord_22 rfl (Or.inl ⟨⟨c_1, ex_lc2 c_2⟩, rfl, rfl⟩)

set_option maxHeartbeats 4000000 in
set_option maxRecDepth 100000 in
theorem e_X12_isSign (l : Launch) (m : Nat) (x0 : Int32) (x1 : Int32) (x2 : Nat) (x4 : Int32) (x6 : Int32) (x7 : Int64) (x8 : Int32) (x9 : Int32) (F : List MV) (f : Nat → Int32) (L : Nat) (b : Nat) (cq : Int32) (hb : x6 = 3 → b < 1000) : ex_M l yX12_isSign cX12_isSign 2 (some .boolean) 0 0 [ex_r m, ex_i cq] [(m, ex_o 12 (ex_i x0 :: ex_i x1 :: ex_r x2 :: ex_i (nI L) :: ex_i x4 :: ex_i (nI b) :: ex_i x6 :: ex_j x7 :: ex_i x8 :: ex_i x9 :: F)), (x2, ex_a 1 1000 f)] (fun cs r => ((x6 = 3 ∧ f b = cq) ∧ cs = [(m, ex_o 12 (ex_i x0 :: ex_i x1 :: ex_r x2 :: ex_i (nI L) :: ex_i x4 :: ex_i (nI b) :: ex_i x6 :: ex_j x7 :: ex_i x8 :: ex_i x9 :: F)), (x2, ex_a 1 1000 f)] ∧ r = some (ex_i 1)) ∨ ((¬ (x6 = 3 ∧ f b = cq)) ∧ cs = [(m, ex_o 12 (ex_i x0 :: ex_i x1 :: ex_r x2 :: ex_i (nI L) :: ex_i x4 :: ex_i (nI b) :: ex_i x6 :: ex_j x7 :: ex_i x8 :: ex_i x9 :: F)), (x2, ex_a 1 1000 f)] ∧ r = some (ex_i 0))) := by
  refine X_meth (by decide) (Nat.le_of_ble_eq_true rfl) ?_
  refine X_aload_n (j := 0) dX12_isSign_0 rfl rfl ?_
  refine X_get (j := 0) fo_X12_181 dX12_isSign_1 rfl rfl ?_
  refine X_iconst (v := 3) dX12_isSign_4 (by decide) ?_
  refine X_icmp_ne (tgt := 25) dX12_isSign_5 (by decide) (fun c_1 => ?_) (fun c_1 => ?_)
  · refine X_iconst (v := 0) dX12_isSign_25 (by decide) ?_
    exact X_iret ex_nZ rfl dX12_isSign_26 rfl (Or.inr ⟨(fun q => c_1 q.1), rfl, rfl⟩)
  · refine X_aload_n (j := 0) dX12_isSign_8 rfl rfl ?_
    refine X_get (j := 0) fo_X12_7 dX12_isSign_9 rfl rfl ?_
    refine X_aload_n (j := 0) dX12_isSign_12 rfl rfl ?_
    refine X_get (j := 0) fo_X12_171 dX12_isSign_13 rfl rfl ?_
    refine X_iald (j := 1) (v := (f b)) dX12_isSign_16 rfl (vp_in_nI (hb c_1) (by decide)) (by rw [nI_clamp (by have := hb c_1; omega)]) ?_
    refine X_iload_n (j := 1) dX12_isSign_17 rfl rfl ?_
    refine X_icmp_ne (tgt := 25) dX12_isSign_18 (by decide) (fun c_2 => ?_) (fun c_2 => ?_)
    · refine X_iconst (v := 0) dX12_isSign_25 (by decide) ?_
      exact X_iret ex_nZ rfl dX12_isSign_26 rfl (Or.inr ⟨(fun q => c_2 q.2), rfl, rfl⟩)
    · refine X_iconst (v := 1) dX12_isSign_21 (by decide) ?_
      refine X_goto (tgt := 26) dX12_isSign_22 (by decide) ?_
      exact X_iret ex_nZ rfl dX12_isSign_26 rfl (Or.inl ⟨⟨c_1, c_2⟩, rfl, rfl⟩)
