set_option maxHeartbeats 4000000 in
set_option maxRecDepth 100000 in
theorem e_X12_reads (l : Launch) (m : Nat) (x0 : Value) (x1 : Int32) (x2 : Nat) (x9 : Int32) (x10 : Nat) (x11 : Nat) (x12 : Nat) (x13 : Nat) (x14 : Nat) (x15 : Nat) (x16 : Nat) (x17 : Nat) (x18 : Nat) (x19 : Nat) (x20 : Nat) (x21 : Nat) (x22 : Nat) (x23 : Nat) (x24 : Nat) (x25 : Nat) (x27 : Int32) (x28 : Nat) (x29 : Nat) (x30 : Value) (x31 : Value) (x32 : Value) (x33 : Value) (x34 : Value) (x35 : Value) (x36 : Value) (x37 : Value) (x38 : Value) (x39 : Value) (x40 : Int32) (x41 : Int64) (F : List MV) (wd1 : Int64) (td1 : Int32) (f : Nat → Int32) (L : Nat) (n : Nat) (cd : Nat → Int32) (op : Nat → Int32) (cm : Nat → Int32) (hL : L ≤ 1000) (hn : n ≤ L) (j1 : tK f L n = 1 → wd1 = rW f L n) (j2 : tK f L n = 2 → td1 = tV f L n) : ex_M l yX12_reads cX12_reads 6 (some .boolean) 2 42 [ex_r m] [(m, ex_o 12 (ex_u x0 :: ex_i x1 :: ex_r x2 :: ex_i (nI L) :: ex_i (nI (tN f L n)) :: ex_i (nI (tP f L n)) :: ex_i (tK f L n) :: ex_j wd1 :: ex_i td1 :: ex_i x9 :: ex_r x10 :: ex_r x11 :: ex_r x12 :: ex_r x13 :: ex_r x14 :: ex_r x15 :: ex_r x16 :: ex_r x17 :: ex_r x18 :: ex_r x19 :: ex_r x20 :: ex_r x21 :: ex_r x22 :: ex_r x23 :: ex_r x24 :: ex_r x25 :: ex_i 1000 :: ex_i x27 :: ex_r x28 :: ex_r x29 :: ex_u x30 :: ex_u x31 :: ex_u x32 :: ex_u x33 :: ex_u x34 :: ex_u x35 :: ex_u x36 :: ex_u x37 :: ex_u x38 :: ex_u x39 :: ex_i x40 :: ex_j x41 :: F)), (x2, ex_a 1 1000 f), (x25, ex_a 1 2000 cd), (x28, ex_a 1 7 op), (x29, ex_a 3 7 cm)] (fun cs r => (∃ (wd2 : Int64), ∃ (td2 : Int32), ∃ (n2 : Nat), ∃ (c2 : Nat), ∃ (cd2 : Nat → Int32), ∃ (op2 : Nat → Int32), ∃ (cm2 : Nat → Int32), es_E f L 1001 1 n 0 op (upd cm 0 0) = .inr n2 ∧ (tK f L n2 = 1 → wd2 = rW f L n2) ∧ (tK f L n2 = 2 → td2 = tV f L n2) ∧ n2 ≤ L ∧ (1000 < c2 ∧ c2 ≤ 2000) ∧ cs = [(m, ex_o 12 (ex_u x0 :: ex_i x1 :: ex_r x2 :: ex_i (nI L) :: ex_i (nI (tN f L n2)) :: ex_i (nI (tP f L n2)) :: ex_i (tK f L n2) :: ex_j wd2 :: ex_i td2 :: ex_i x9 :: ex_r x10 :: ex_r x11 :: ex_r x12 :: ex_r x13 :: ex_r x14 :: ex_r x15 :: ex_r x16 :: ex_r x17 :: ex_r x18 :: ex_r x19 :: ex_r x20 :: ex_r x21 :: ex_r x22 :: ex_r x23 :: ex_r x24 :: ex_r x25 :: ex_i (nI c2) :: ex_i x27 :: ex_r x28 :: ex_r x29 :: ex_u x30 :: ex_u x31 :: ex_u x32 :: ex_u x33 :: ex_u x34 :: ex_u x35 :: ex_u x36 :: ex_u x37 :: ex_u x38 :: ex_u x39 :: ex_i x40 :: ex_j x41 :: F)), (x2, ex_a 1 1000 f), (x25, ex_a 1 2000 cd2), (x28, ex_a 1 7 op2), (x29, ex_a 3 7 cm2)] ∧ r = some (ex_i 1)) ∨ (∃ (pl2 : Int32), ∃ (bg2 : Int32), ∃ (tk2 : Int32), ∃ (td2 : Int32), ∃ (fa2 : Int32), ∃ (wd2 : Int64), ∃ (c2 : Nat), ∃ (cd2 : Nat → Int32), ∃ (op2 : Nat → Int32), ∃ (cm2 : Nat → Int32), es_E f L 1001 1 n 0 op (upd cm 0 0) = .inl fa2 ∧ cs = [(m, ex_o 12 (ex_u x0 :: ex_i x1 :: ex_r x2 :: ex_i (nI L) :: ex_i pl2 :: ex_i bg2 :: ex_i tk2 :: ex_j wd2 :: ex_i td2 :: ex_i fa2 :: ex_r x10 :: ex_r x11 :: ex_r x12 :: ex_r x13 :: ex_r x14 :: ex_r x15 :: ex_r x16 :: ex_r x17 :: ex_r x18 :: ex_r x19 :: ex_r x20 :: ex_r x21 :: ex_r x22 :: ex_r x23 :: ex_r x24 :: ex_r x25 :: ex_i (nI c2) :: ex_i x27 :: ex_r x28 :: ex_r x29 :: ex_u x30 :: ex_u x31 :: ex_u x32 :: ex_u x33 :: ex_u x34 :: ex_u x35 :: ex_u x36 :: ex_u x37 :: ex_u x38 :: ex_u x39 :: ex_i x40 :: ex_j x41 :: F)), (x2, ex_a 1 1000 f), (x25, ex_a 1 2000 cd2), (x28, ex_a 1 7 op2), (x29, ex_a 3 7 cm2)] ∧ r = some (ex_i 0))) := by
  refine X_meth (by decide) (Nat.le_of_ble_eq_true rfl) ?_
  refine X_iconst (v := 0) dX12_reads_0 (by decide) ?_
  refine X_istore_n (lv' := [(1, ex_i 0), (0, ex_r m)]) dX12_reads_1 rfl (Nat.le_of_ble_eq_true rfl) rfl ?_
  refine X_iconst (v := 1) dX12_reads_2 (by decide) ?_
  refine X_istore_n (lv' := [(2, ex_i 1), (1, ex_i 0), (0, ex_r m)]) dX12_reads_3 rfl (Nat.le_of_ble_eq_true rfl) rfl ?_
  refine X_aload_n (j := 2) dX12_reads_4 rfl rfl ?_
  refine X_get (j := 0) fo_X12_65 dX12_reads_5 rfl rfl ?_
  refine X_iconst (v := 0) dX12_reads_8 (by decide) ?_
  refine X_iconst (v := 0) dX12_reads_9 (by decide) ?_
  refine X_zast (j := 4) (g := upd cm 0 0) (cs' := [(m, ex_o 12 (ex_u x0 :: ex_i x1 :: ex_r x2 :: ex_i (nI L) :: ex_i (nI (tN f L n)) :: ex_i (nI (tP f L n)) :: ex_i (tK f L n) :: ex_j wd1 :: ex_i td1 :: ex_i x9 :: ex_r x10 :: ex_r x11 :: ex_r x12 :: ex_r x13 :: ex_r x14 :: ex_r x15 :: ex_r x16 :: ex_r x17 :: ex_r x18 :: ex_r x19 :: ex_r x20 :: ex_r x21 :: ex_r x22 :: ex_r x23 :: ex_r x24 :: ex_r x25 :: ex_i 1000 :: ex_i x27 :: ex_r x28 :: ex_r x29 :: ex_u x30 :: ex_u x31 :: ex_u x32 :: ex_u x33 :: ex_u x34 :: ex_u x35 :: ex_u x36 :: ex_u x37 :: ex_u x38 :: ex_u x39 :: ex_i x40 :: ex_j x41 :: F)), (x2, ex_a 1 1000 f), (x25, ex_a 1 2000 cd), (x28, ex_a 1 7 op), (x29, ex_a 3 7 (upd cm 0 0))]) dX12_reads_10 rfl (vin (by decide)) rfl rfl ?_
  refine X_lv (lv' := [(0, ex_r m), (1, ex_i 0), (2, ex_i 1)]) [2, 1, 0] rfl ?_
  refine X_ind (fun (a : Int32 × Nat × Nat × Nat × (Nat → Int32) × (Nat → Int32) × (Nat → Int32) × Int64 × Int32) => a.2.1 ≤ a.2.2.1 ∧ a.2.2.1 ≤ L ∧ a.2.2.2.1 ≤ 5 ∧ (a.1 = 0 → 0 < a.2.1) ∧ (tK f L a.2.2.1 = 1 → a.2.2.2.2.2.2.2.1 = rW f L a.2.2.1) ∧ (tK f L a.2.2.1 = 2 → a.2.2.2.2.2.2.2.2 = tV f L a.2.2.1) ∧ (a.1 = 0 ∨ a.1 = 1) ∧ es_E f L 1001 1 n 0 op (upd cm 0 0) = es_E f L (1001 - a.2.1) a.1 a.2.2.1 a.2.2.2.1 a.2.2.2.2.1 a.2.2.2.2.2.1) (fun (a : Int32 × Nat × Nat × Nat × (Nat → Int32) × (Nat → Int32) × (Nat → Int32) × Int64 × Int32) => 1001 - a.2.1) (fun (a : Int32 × Nat × Nat × Nat × (Nat → Int32) × (Nat → Int32) × (Nat → Int32) × Int64 × Int32) => [(m, ex_o 12 (ex_u x0 :: ex_i x1 :: ex_r x2 :: ex_i (nI L) :: ex_i (nI (tN f L a.2.2.1)) :: ex_i (nI (tP f L a.2.2.1)) :: ex_i (tK f L a.2.2.1) :: ex_j a.2.2.2.2.2.2.2.1 :: ex_i a.2.2.2.2.2.2.2.2 :: ex_i x9 :: ex_r x10 :: ex_r x11 :: ex_r x12 :: ex_r x13 :: ex_r x14 :: ex_r x15 :: ex_r x16 :: ex_r x17 :: ex_r x18 :: ex_r x19 :: ex_r x20 :: ex_r x21 :: ex_r x22 :: ex_r x23 :: ex_r x24 :: ex_r x25 :: ex_i (nI (1000 + a.2.1)) :: ex_i x27 :: ex_r x28 :: ex_r x29 :: ex_u x30 :: ex_u x31 :: ex_u x32 :: ex_u x33 :: ex_u x34 :: ex_u x35 :: ex_u x36 :: ex_u x37 :: ex_u x38 :: ex_u x39 :: ex_i x40 :: ex_j x41 :: F)), (x2, ex_a 1 1000 f), (x25, ex_a 1 2000 a.2.2.2.2.2.2.1), (x28, ex_a 1 7 a.2.2.2.2.1), (x29, ex_a 3 7 a.2.2.2.2.2.1)]) (fun (a : Int32 × Nat × Nat × Nat × (Nat → Int32) × (Nat → Int32) × (Nat → Int32) × Int64 × Int32) => [(0, ex_r m), (1, ex_i (nI a.2.2.2.1)), (2, ex_i a.1)]) (fun ⟨wa, i, m1, d, op1, cm1, cd1, wD, tD⟩ hI ih => ?_) (1, 0, n, 0, op, upd cm 0 0, cd, wd1, td1) (⟨Nat.zero_le _, hn, Nat.zero_le _, fun q => absurd (show (1 : Int32) = 0 from q) (by decide), j1, j2, Or.inr rfl, rfl⟩)
  try dsimp only at hI ih ⊢
  refine X_iload_n (j := 2) dX12_reads_11 rfl rfl ?_
  have hs : 1001 - i = (1000 - i) + 1 := by have hz := hI.1; have hy := hI.2.1; omega
  have q1 := hI.2.2.2.2.1
  have q2 := hI.2.2.2.2.2.1
  have hd6 := hI.2.2.1
  refine X_if_eq (tgt := 179) dX12_reads_12 (by decide) (fun c_1 => ?_) (fun c_1 => ?_)
  · have hw1 : wa = 0 := c_1
    subst hw1
    refine X_aload_n (j := 0) dX12_reads_179 rfl rfl ?_
    refine X_bipush (v := 43) dX12_reads_180 (by decide) ?_
    refine X_callV (j0 := 0) (rest := [(x25, ex_a 1 2000 cd1), (x28, ex_a 1 7 op1), (x29, ex_a 3 7 cm1)]) (stk := []) co_X12_218 rfl ⟨(Nat.le_of_ble_eq_true rfl), (Nat.le_of_ble_eq_true rfl)⟩ (e_X12_isSign l m x0 x1 x2 (nI (tN f L m1)) (tK f L m1) wD tD x9 (ex_r x10 :: ex_r x11 :: ex_r x12 :: ex_r x13 :: ex_r x14 :: ex_r x15 :: ex_r x16 :: ex_r x17 :: ex_r x18 :: ex_r x19 :: ex_r x20 :: ex_r x21 :: ex_r x22 :: ex_r x23 :: ex_r x24 :: ex_r x25 :: ex_i (nI (1000 + i)) :: ex_i x27 :: ex_r x28 :: ex_r x29 :: ex_u x30 :: ex_u x31 :: ex_u x32 :: ex_u x33 :: ex_u x34 :: ex_u x35 :: ex_u x36 :: ex_u x37 :: ex_u x38 :: ex_u x39 :: ex_i x40 :: ex_j x41 :: F) f L (tP f L m1) 43 (fun q => Nat.lt_of_lt_of_le (tK3_lt q) hL)) dX12_reads_182 [0, 1, 2, 3, 4] (show List.Perm [0, 1, 2, 3, 4] (List.range 5) from by decide) rfl rfl rfl rfl (Nat.le_of_ble_eq_true rfl) (fun cs1 r hq hk => ?_)
    rcases hq with ⟨hp_2, rfl, rfl⟩ | ⟨hp_3, rfl, rfl⟩
    · refine X_if_ne (tgt := 206) dX12_reads_185 (by decide) (fun _ => ?_) (fun c_ => absurd c_ (by decide))
      refine X_aload_n (j := 0) dX12_reads_206 rfl rfl ?_
      refine X_aload_n (j := 0) dX12_reads_207 rfl rfl ?_
      refine X_bipush (v := 43) dX12_reads_208 (by decide) ?_
      refine X_callV (j0 := 0) (rest := [(x25, ex_a 1 2000 cd1), (x28, ex_a 1 7 op1), (x29, ex_a 3 7 cm1)]) (stk := [ex_r m]) co_X12_218 rfl ⟨(Nat.le_of_ble_eq_true rfl), (Nat.le_of_ble_eq_true rfl)⟩ (e_X12_isSign l m x0 x1 x2 (nI (tN f L m1)) (tK f L m1) wD tD x9 (ex_r x10 :: ex_r x11 :: ex_r x12 :: ex_r x13 :: ex_r x14 :: ex_r x15 :: ex_r x16 :: ex_r x17 :: ex_r x18 :: ex_r x19 :: ex_r x20 :: ex_r x21 :: ex_r x22 :: ex_r x23 :: ex_r x24 :: ex_r x25 :: ex_i (nI (1000 + i)) :: ex_i x27 :: ex_r x28 :: ex_r x29 :: ex_u x30 :: ex_u x31 :: ex_u x32 :: ex_u x33 :: ex_u x34 :: ex_u x35 :: ex_u x36 :: ex_u x37 :: ex_u x38 :: ex_u x39 :: ex_i x40 :: ex_j x41 :: F) f L (tP f L m1) 43 (fun q => Nat.lt_of_lt_of_le (tK3_lt q) hL)) dX12_reads_210 [0, 1, 2, 3, 4] (show List.Perm [0, 1, 2, 3, 4] (List.range 5) from by decide) rfl rfl rfl rfl (Nat.le_of_ble_eq_true rfl) (fun cs1 r hq hk => ?_)
      rcases hq with ⟨hp_4, rfl, rfl⟩ | ⟨hp_5, rfl, rfl⟩
      · refine X_if_eq (tgt := 221) dX12_reads_213 (by decide) (fun c_ => absurd c_ (by decide)) (fun _ => ?_)
        refine X_bipush (v := 20) dX12_reads_216 (by decide) ?_
        refine X_goto (tgt := 237) dX12_reads_218 (by decide) ?_
        refine X_callV (j0 := 0) (rest := [(x2, ex_a 1 1000 f), (x28, ex_a 1 7 op1), (x29, ex_a 3 7 cm1)]) (stk := []) co_X12_225 rfl ⟨(Nat.le_of_ble_eq_true rfl), (Nat.le_of_ble_eq_true rfl)⟩ (e_X12_puts l m x0 x1 x2 (nI L) (nI (tN f L m1)) (nI (tP f L m1)) (tK f L m1) wD tD x9 x10 x11 x12 x13 x14 x15 x16 x17 x18 x19 x20 x21 x22 x23 x24 x25 x27 x28 x29 x30 x31 x32 x33 x34 x35 x36 x37 x38 x39 x40 x41 F cd1 i 20 (by have hz := tK_lt (f := f) (L := L) (n := m1) (fun e => absurd (e.symm.trans hp_2.1) (by decide)); have hy := hI.1; omega)) dX12_reads_237 [0, 2, 1, 3, 4] (show List.Perm [0, 2, 1, 3, 4] (List.range 5) from by decide) rfl rfl rfl rfl (Nat.le_of_ble_eq_true rfl) (fun cs1 r hq hk => ?_)
        rcases hq with ⟨rfl, rfl⟩
        refine X_iconst (v := 1) dX12_reads_240 (by decide) ?_
        refine X_istore_n (lv' := [(2, ex_i 1), (0, ex_r m), (1, ex_i (nI d))]) dX12_reads_241 rfl (Nat.le_of_ble_eq_true rfl) rfl ?_
        refine X_goto (tgt := 424) dX12_reads_242 (by decide) ?_
        refine X_aload_n (j := 1) dX12_reads_424 rfl rfl ?_
        refine X_callV (j0 := 0) (rest := [(x25, ex_a 1 2000 (upd cd1 (1000 + i) 20)), (x28, ex_a 1 7 op1), (x29, ex_a 3 7 cm1)]) (stk := []) co_X12_229 rfl ⟨(Nat.le_of_ble_eq_true rfl), (Nat.le_of_ble_eq_true rfl)⟩ (e_X12_nextToken l m x0 x1 x2 (nI (tP f L m1)) (tK f L m1) wD tD x9 (ex_r x10 :: ex_r x11 :: ex_r x12 :: ex_r x13 :: ex_r x14 :: ex_r x15 :: ex_r x16 :: ex_r x17 :: ex_r x18 :: ex_r x19 :: ex_r x20 :: ex_r x21 :: ex_r x22 :: ex_r x23 :: ex_r x24 :: ex_r x25 :: ex_i (nI (1000 + (i + 1))) :: ex_i x27 :: ex_r x28 :: ex_r x29 :: ex_u x30 :: ex_u x31 :: ex_u x32 :: ex_u x33 :: ex_u x34 :: ex_u x35 :: ex_u x36 :: ex_u x37 :: ex_u x38 :: ex_u x39 :: ex_i x40 :: ex_j x41 :: F) f L (tN f L m1) hL (tN_le hI.2.1)) dX12_reads_425 [0, 2, 1, 3, 4] (show List.Perm [0, 2, 1, 3, 4] (List.range 5) from by decide) rfl rfl rfl rfl (Nat.le_of_ble_eq_true rfl) (fun cs1 r hq hk => ?_)
        rcases hq with ⟨wd1_6, td1_7, hp_8, hp_9, rfl, rfl⟩
        refine X_goto (tgt := 11) dX12_reads_428 (by decide) ?_
        have hgt := tN_gt (fun e => absurd (e.symm.trans hp_2.1) (by decide))
        have ha1 : i + 1 ≤ tN f L m1 := by have hz := hI.1; omega
        refine X_lv (lv' := [(0, ex_r m), (1, ex_i (nI d)), (2, ex_i 1)]) [1, 2, 0] rfl ?_
        exact ih (1, i + 1, (tN f L m1), d, op1, cm1, upd cd1 (1000 + i) 20, wd1_6, td1_7) (⟨ha1, tN_le hI.2.1, (by show d ≤ 5; first | omega | (have hz := hI.2.2.1; omega)), fun _ => Nat.succ_pos i, hp_8, hp_9, Or.inr rfl, by show _ = es_E f L (1001 - (i + 1)) 1 (tN f L m1) d op1 cm1; rw [hI.2.2.2.2.2.2.2, hs, es_E_J4 rfl (Or.inl (jt_b hp_2 (by decide))), show 1001 - (i + 1) = 1000 - i by omega]⟩) (by show 1001 - (i + 1) < 1001 - i; have hz := hI.1; have hy := hI.2.1; omega)
      · exact absurd hp_2 hp_5
    · refine X_if_ne (tgt := 206) dX12_reads_185 (by decide) (fun c_ => absurd rfl c_) (fun _ => ?_)
      refine X_aload_n (j := 0) dX12_reads_188 rfl rfl ?_
      refine X_bipush (v := 45) dX12_reads_189 (by decide) ?_
      refine X_callV (j0 := 0) (rest := [(x25, ex_a 1 2000 cd1), (x28, ex_a 1 7 op1), (x29, ex_a 3 7 cm1)]) (stk := []) co_X12_218 rfl ⟨(Nat.le_of_ble_eq_true rfl), (Nat.le_of_ble_eq_true rfl)⟩ (e_X12_isSign l m x0 x1 x2 (nI (tN f L m1)) (tK f L m1) wD tD x9 (ex_r x10 :: ex_r x11 :: ex_r x12 :: ex_r x13 :: ex_r x14 :: ex_r x15 :: ex_r x16 :: ex_r x17 :: ex_r x18 :: ex_r x19 :: ex_r x20 :: ex_r x21 :: ex_r x22 :: ex_r x23 :: ex_r x24 :: ex_r x25 :: ex_i (nI (1000 + i)) :: ex_i x27 :: ex_r x28 :: ex_r x29 :: ex_u x30 :: ex_u x31 :: ex_u x32 :: ex_u x33 :: ex_u x34 :: ex_u x35 :: ex_u x36 :: ex_u x37 :: ex_u x38 :: ex_u x39 :: ex_i x40 :: ex_j x41 :: F) f L (tP f L m1) 45 (fun q => Nat.lt_of_lt_of_le (tK3_lt q) hL)) dX12_reads_191 [0, 1, 2, 3, 4] (show List.Perm [0, 1, 2, 3, 4] (List.range 5) from by decide) rfl rfl rfl rfl (Nat.le_of_ble_eq_true rfl) (fun cs1 r hq hk => ?_)
      rcases hq with ⟨hp_10, rfl, rfl⟩ | ⟨hp_11, rfl, rfl⟩
      · refine X_if_ne (tgt := 206) dX12_reads_194 (by decide) (fun _ => ?_) (fun c_ => absurd c_ (by decide))
        refine X_aload_n (j := 0) dX12_reads_206 rfl rfl ?_
        refine X_aload_n (j := 0) dX12_reads_207 rfl rfl ?_
        refine X_bipush (v := 43) dX12_reads_208 (by decide) ?_
        refine X_callV (j0 := 0) (rest := [(x25, ex_a 1 2000 cd1), (x28, ex_a 1 7 op1), (x29, ex_a 3 7 cm1)]) (stk := [ex_r m]) co_X12_218 rfl ⟨(Nat.le_of_ble_eq_true rfl), (Nat.le_of_ble_eq_true rfl)⟩ (e_X12_isSign l m x0 x1 x2 (nI (tN f L m1)) (tK f L m1) wD tD x9 (ex_r x10 :: ex_r x11 :: ex_r x12 :: ex_r x13 :: ex_r x14 :: ex_r x15 :: ex_r x16 :: ex_r x17 :: ex_r x18 :: ex_r x19 :: ex_r x20 :: ex_r x21 :: ex_r x22 :: ex_r x23 :: ex_r x24 :: ex_r x25 :: ex_i (nI (1000 + i)) :: ex_i x27 :: ex_r x28 :: ex_r x29 :: ex_u x30 :: ex_u x31 :: ex_u x32 :: ex_u x33 :: ex_u x34 :: ex_u x35 :: ex_u x36 :: ex_u x37 :: ex_u x38 :: ex_u x39 :: ex_i x40 :: ex_j x41 :: F) f L (tP f L m1) 43 (fun q => Nat.lt_of_lt_of_le (tK3_lt q) hL)) dX12_reads_210 [0, 1, 2, 3, 4] (show List.Perm [0, 1, 2, 3, 4] (List.range 5) from by decide) rfl rfl rfl rfl (Nat.le_of_ble_eq_true rfl) (fun cs1 r hq hk => ?_)
        rcases hq with ⟨hp_12, rfl, rfl⟩ | ⟨hp_13, rfl, rfl⟩
        · exact absurd hp_12 hp_3
        · refine X_if_eq (tgt := 221) dX12_reads_213 (by decide) (fun _ => ?_) (fun c_ => absurd rfl c_)
          refine X_aload_n (j := 0) dX12_reads_221 rfl rfl ?_
          refine X_bipush (v := 45) dX12_reads_222 (by decide) ?_
          refine X_callV (j0 := 0) (rest := [(x25, ex_a 1 2000 cd1), (x28, ex_a 1 7 op1), (x29, ex_a 3 7 cm1)]) (stk := [ex_r m]) co_X12_218 rfl ⟨(Nat.le_of_ble_eq_true rfl), (Nat.le_of_ble_eq_true rfl)⟩ (e_X12_isSign l m x0 x1 x2 (nI (tN f L m1)) (tK f L m1) wD tD x9 (ex_r x10 :: ex_r x11 :: ex_r x12 :: ex_r x13 :: ex_r x14 :: ex_r x15 :: ex_r x16 :: ex_r x17 :: ex_r x18 :: ex_r x19 :: ex_r x20 :: ex_r x21 :: ex_r x22 :: ex_r x23 :: ex_r x24 :: ex_r x25 :: ex_i (nI (1000 + i)) :: ex_i x27 :: ex_r x28 :: ex_r x29 :: ex_u x30 :: ex_u x31 :: ex_u x32 :: ex_u x33 :: ex_u x34 :: ex_u x35 :: ex_u x36 :: ex_u x37 :: ex_u x38 :: ex_u x39 :: ex_i x40 :: ex_j x41 :: F) f L (tP f L m1) 45 (fun q => Nat.lt_of_lt_of_le (tK3_lt q) hL)) dX12_reads_224 [0, 1, 2, 3, 4] (show List.Perm [0, 1, 2, 3, 4] (List.range 5) from by decide) rfl rfl rfl rfl (Nat.le_of_ble_eq_true rfl) (fun cs1 r hq hk => ?_)
          rcases hq with ⟨hp_14, rfl, rfl⟩ | ⟨hp_15, rfl, rfl⟩
          · refine X_if_eq (tgt := 235) dX12_reads_227 (by decide) (fun c_ => absurd c_ (by decide)) (fun _ => ?_)
            refine X_bipush (v := 21) dX12_reads_230 (by decide) ?_
            refine X_goto (tgt := 237) dX12_reads_232 (by decide) ?_
            refine X_callV (j0 := 0) (rest := [(x2, ex_a 1 1000 f), (x28, ex_a 1 7 op1), (x29, ex_a 3 7 cm1)]) (stk := []) co_X12_225 rfl ⟨(Nat.le_of_ble_eq_true rfl), (Nat.le_of_ble_eq_true rfl)⟩ (e_X12_puts l m x0 x1 x2 (nI L) (nI (tN f L m1)) (nI (tP f L m1)) (tK f L m1) wD tD x9 x10 x11 x12 x13 x14 x15 x16 x17 x18 x19 x20 x21 x22 x23 x24 x25 x27 x28 x29 x30 x31 x32 x33 x34 x35 x36 x37 x38 x39 x40 x41 F cd1 i 21 (by have hz := tK_lt (f := f) (L := L) (n := m1) (fun e => absurd (e.symm.trans hp_10.1) (by decide)); have hy := hI.1; omega)) dX12_reads_237 [0, 2, 1, 3, 4] (show List.Perm [0, 2, 1, 3, 4] (List.range 5) from by decide) rfl rfl rfl rfl (Nat.le_of_ble_eq_true rfl) (fun cs1 r hq hk => ?_)
            rcases hq with ⟨rfl, rfl⟩
            refine X_iconst (v := 1) dX12_reads_240 (by decide) ?_
            refine X_istore_n (lv' := [(2, ex_i 1), (0, ex_r m), (1, ex_i (nI d))]) dX12_reads_241 rfl (Nat.le_of_ble_eq_true rfl) rfl ?_
            refine X_goto (tgt := 424) dX12_reads_242 (by decide) ?_
            refine X_aload_n (j := 1) dX12_reads_424 rfl rfl ?_
            refine X_callV (j0 := 0) (rest := [(x25, ex_a 1 2000 (upd cd1 (1000 + i) 21)), (x28, ex_a 1 7 op1), (x29, ex_a 3 7 cm1)]) (stk := []) co_X12_229 rfl ⟨(Nat.le_of_ble_eq_true rfl), (Nat.le_of_ble_eq_true rfl)⟩ (e_X12_nextToken l m x0 x1 x2 (nI (tP f L m1)) (tK f L m1) wD tD x9 (ex_r x10 :: ex_r x11 :: ex_r x12 :: ex_r x13 :: ex_r x14 :: ex_r x15 :: ex_r x16 :: ex_r x17 :: ex_r x18 :: ex_r x19 :: ex_r x20 :: ex_r x21 :: ex_r x22 :: ex_r x23 :: ex_r x24 :: ex_r x25 :: ex_i (nI (1000 + (i + 1))) :: ex_i x27 :: ex_r x28 :: ex_r x29 :: ex_u x30 :: ex_u x31 :: ex_u x32 :: ex_u x33 :: ex_u x34 :: ex_u x35 :: ex_u x36 :: ex_u x37 :: ex_u x38 :: ex_u x39 :: ex_i x40 :: ex_j x41 :: F) f L (tN f L m1) hL (tN_le hI.2.1)) dX12_reads_425 [0, 2, 1, 3, 4] (show List.Perm [0, 2, 1, 3, 4] (List.range 5) from by decide) rfl rfl rfl rfl (Nat.le_of_ble_eq_true rfl) (fun cs1 r hq hk => ?_)
            rcases hq with ⟨wd1_16, td1_17, hp_18, hp_19, rfl, rfl⟩
            refine X_goto (tgt := 11) dX12_reads_428 (by decide) ?_
            have hgt := tN_gt (fun e => absurd (e.symm.trans hp_10.1) (by decide))
            have ha1 : i + 1 ≤ tN f L m1 := by have hz := hI.1; omega
            refine X_lv (lv' := [(0, ex_r m), (1, ex_i (nI d)), (2, ex_i 1)]) [1, 2, 0] rfl ?_
            exact ih (1, i + 1, (tN f L m1), d, op1, cm1, upd cd1 (1000 + i) 21, wd1_16, td1_17) (⟨ha1, tN_le hI.2.1, (by show d ≤ 5; first | omega | (have hz := hI.2.2.1; omega)), fun _ => Nat.succ_pos i, hp_18, hp_19, Or.inr rfl, by show _ = es_E f L (1001 - (i + 1)) 1 (tN f L m1) d op1 cm1; rw [hI.2.2.2.2.2.2.2, hs, es_E_J4 rfl (Or.inl (jt_b hp_10 (by decide))), show 1001 - (i + 1) = 1000 - i by omega]⟩) (by show 1001 - (i + 1) < 1001 - i; have hz := hI.1; have hy := hI.2.1; omega)
          · exact absurd hp_10 hp_15
      · refine X_if_ne (tgt := 206) dX12_reads_194 (by decide) (fun c_ => absurd rfl c_) (fun _ => ?_)
        refine X_aload_n (j := 0) dX12_reads_197 rfl rfl ?_
        refine X_bipush (v := 42) dX12_reads_198 (by decide) ?_
        refine X_callV (j0 := 0) (rest := [(x25, ex_a 1 2000 cd1), (x28, ex_a 1 7 op1), (x29, ex_a 3 7 cm1)]) (stk := []) co_X12_218 rfl ⟨(Nat.le_of_ble_eq_true rfl), (Nat.le_of_ble_eq_true rfl)⟩ (e_X12_isSign l m x0 x1 x2 (nI (tN f L m1)) (tK f L m1) wD tD x9 (ex_r x10 :: ex_r x11 :: ex_r x12 :: ex_r x13 :: ex_r x14 :: ex_r x15 :: ex_r x16 :: ex_r x17 :: ex_r x18 :: ex_r x19 :: ex_r x20 :: ex_r x21 :: ex_r x22 :: ex_r x23 :: ex_r x24 :: ex_r x25 :: ex_i (nI (1000 + i)) :: ex_i x27 :: ex_r x28 :: ex_r x29 :: ex_u x30 :: ex_u x31 :: ex_u x32 :: ex_u x33 :: ex_u x34 :: ex_u x35 :: ex_u x36 :: ex_u x37 :: ex_u x38 :: ex_u x39 :: ex_i x40 :: ex_j x41 :: F) f L (tP f L m1) 42 (fun q => Nat.lt_of_lt_of_le (tK3_lt q) hL)) dX12_reads_200 [0, 1, 2, 3, 4] (show List.Perm [0, 1, 2, 3, 4] (List.range 5) from by decide) rfl rfl rfl rfl (Nat.le_of_ble_eq_true rfl) (fun cs1 r hq hk => ?_)
        rcases hq with ⟨hp_20, rfl, rfl⟩ | ⟨hp_21, rfl, rfl⟩
        · refine X_if_eq (tgt := 245) dX12_reads_203 (by decide) (fun c_ => absurd c_ (by decide)) (fun _ => ?_)
          refine X_aload_n (j := 0) dX12_reads_206 rfl rfl ?_
          refine X_aload_n (j := 0) dX12_reads_207 rfl rfl ?_
          refine X_bipush (v := 43) dX12_reads_208 (by decide) ?_
          refine X_callV (j0 := 0) (rest := [(x25, ex_a 1 2000 cd1), (x28, ex_a 1 7 op1), (x29, ex_a 3 7 cm1)]) (stk := [ex_r m]) co_X12_218 rfl ⟨(Nat.le_of_ble_eq_true rfl), (Nat.le_of_ble_eq_true rfl)⟩ (e_X12_isSign l m x0 x1 x2 (nI (tN f L m1)) (tK f L m1) wD tD x9 (ex_r x10 :: ex_r x11 :: ex_r x12 :: ex_r x13 :: ex_r x14 :: ex_r x15 :: ex_r x16 :: ex_r x17 :: ex_r x18 :: ex_r x19 :: ex_r x20 :: ex_r x21 :: ex_r x22 :: ex_r x23 :: ex_r x24 :: ex_r x25 :: ex_i (nI (1000 + i)) :: ex_i x27 :: ex_r x28 :: ex_r x29 :: ex_u x30 :: ex_u x31 :: ex_u x32 :: ex_u x33 :: ex_u x34 :: ex_u x35 :: ex_u x36 :: ex_u x37 :: ex_u x38 :: ex_u x39 :: ex_i x40 :: ex_j x41 :: F) f L (tP f L m1) 43 (fun q => Nat.lt_of_lt_of_le (tK3_lt q) hL)) dX12_reads_210 [0, 1, 2, 3, 4] (show List.Perm [0, 1, 2, 3, 4] (List.range 5) from by decide) rfl rfl rfl rfl (Nat.le_of_ble_eq_true rfl) (fun cs1 r hq hk => ?_)
          rcases hq with ⟨hp_22, rfl, rfl⟩ | ⟨hp_23, rfl, rfl⟩
          · exact absurd hp_22 hp_3
          · refine X_if_eq (tgt := 221) dX12_reads_213 (by decide) (fun _ => ?_) (fun c_ => absurd rfl c_)
            refine X_aload_n (j := 0) dX12_reads_221 rfl rfl ?_
            refine X_bipush (v := 45) dX12_reads_222 (by decide) ?_
            refine X_callV (j0 := 0) (rest := [(x25, ex_a 1 2000 cd1), (x28, ex_a 1 7 op1), (x29, ex_a 3 7 cm1)]) (stk := [ex_r m]) co_X12_218 rfl ⟨(Nat.le_of_ble_eq_true rfl), (Nat.le_of_ble_eq_true rfl)⟩ (e_X12_isSign l m x0 x1 x2 (nI (tN f L m1)) (tK f L m1) wD tD x9 (ex_r x10 :: ex_r x11 :: ex_r x12 :: ex_r x13 :: ex_r x14 :: ex_r x15 :: ex_r x16 :: ex_r x17 :: ex_r x18 :: ex_r x19 :: ex_r x20 :: ex_r x21 :: ex_r x22 :: ex_r x23 :: ex_r x24 :: ex_r x25 :: ex_i (nI (1000 + i)) :: ex_i x27 :: ex_r x28 :: ex_r x29 :: ex_u x30 :: ex_u x31 :: ex_u x32 :: ex_u x33 :: ex_u x34 :: ex_u x35 :: ex_u x36 :: ex_u x37 :: ex_u x38 :: ex_u x39 :: ex_i x40 :: ex_j x41 :: F) f L (tP f L m1) 45 (fun q => Nat.lt_of_lt_of_le (tK3_lt q) hL)) dX12_reads_224 [0, 1, 2, 3, 4] (show List.Perm [0, 1, 2, 3, 4] (List.range 5) from by decide) rfl rfl rfl rfl (Nat.le_of_ble_eq_true rfl) (fun cs1 r hq hk => ?_)
            rcases hq with ⟨hp_24, rfl, rfl⟩ | ⟨hp_25, rfl, rfl⟩
            · exact absurd hp_24 hp_11
            · refine X_if_eq (tgt := 235) dX12_reads_227 (by decide) (fun _ => ?_) (fun c_ => absurd rfl c_)
              refine X_bipush (v := 22) dX12_reads_235 (by decide) ?_
              refine X_callV (j0 := 0) (rest := [(x2, ex_a 1 1000 f), (x28, ex_a 1 7 op1), (x29, ex_a 3 7 cm1)]) (stk := []) co_X12_225 rfl ⟨(Nat.le_of_ble_eq_true rfl), (Nat.le_of_ble_eq_true rfl)⟩ (e_X12_puts l m x0 x1 x2 (nI L) (nI (tN f L m1)) (nI (tP f L m1)) (tK f L m1) wD tD x9 x10 x11 x12 x13 x14 x15 x16 x17 x18 x19 x20 x21 x22 x23 x24 x25 x27 x28 x29 x30 x31 x32 x33 x34 x35 x36 x37 x38 x39 x40 x41 F cd1 i 22 (by have hz := tK_lt (f := f) (L := L) (n := m1) (fun e => absurd (e.symm.trans hp_20.1) (by decide)); have hy := hI.1; omega)) dX12_reads_237 [0, 2, 1, 3, 4] (show List.Perm [0, 2, 1, 3, 4] (List.range 5) from by decide) rfl rfl rfl rfl (Nat.le_of_ble_eq_true rfl) (fun cs1 r hq hk => ?_)
              rcases hq with ⟨rfl, rfl⟩
              refine X_iconst (v := 1) dX12_reads_240 (by decide) ?_
              refine X_istore_n (lv' := [(2, ex_i 1), (0, ex_r m), (1, ex_i (nI d))]) dX12_reads_241 rfl (Nat.le_of_ble_eq_true rfl) rfl ?_
              refine X_goto (tgt := 424) dX12_reads_242 (by decide) ?_
              refine X_aload_n (j := 1) dX12_reads_424 rfl rfl ?_
              refine X_callV (j0 := 0) (rest := [(x25, ex_a 1 2000 (upd cd1 (1000 + i) 22)), (x28, ex_a 1 7 op1), (x29, ex_a 3 7 cm1)]) (stk := []) co_X12_229 rfl ⟨(Nat.le_of_ble_eq_true rfl), (Nat.le_of_ble_eq_true rfl)⟩ (e_X12_nextToken l m x0 x1 x2 (nI (tP f L m1)) (tK f L m1) wD tD x9 (ex_r x10 :: ex_r x11 :: ex_r x12 :: ex_r x13 :: ex_r x14 :: ex_r x15 :: ex_r x16 :: ex_r x17 :: ex_r x18 :: ex_r x19 :: ex_r x20 :: ex_r x21 :: ex_r x22 :: ex_r x23 :: ex_r x24 :: ex_r x25 :: ex_i (nI (1000 + (i + 1))) :: ex_i x27 :: ex_r x28 :: ex_r x29 :: ex_u x30 :: ex_u x31 :: ex_u x32 :: ex_u x33 :: ex_u x34 :: ex_u x35 :: ex_u x36 :: ex_u x37 :: ex_u x38 :: ex_u x39 :: ex_i x40 :: ex_j x41 :: F) f L (tN f L m1) hL (tN_le hI.2.1)) dX12_reads_425 [0, 2, 1, 3, 4] (show List.Perm [0, 2, 1, 3, 4] (List.range 5) from by decide) rfl rfl rfl rfl (Nat.le_of_ble_eq_true rfl) (fun cs1 r hq hk => ?_)
              rcases hq with ⟨wd1_26, td1_27, hp_28, hp_29, rfl, rfl⟩
              refine X_goto (tgt := 11) dX12_reads_428 (by decide) ?_
              have hgt := tN_gt (fun e => absurd (e.symm.trans hp_20.1) (by decide))
              have ha1 : i + 1 ≤ tN f L m1 := by have hz := hI.1; omega
              refine X_lv (lv' := [(0, ex_r m), (1, ex_i (nI d)), (2, ex_i 1)]) [1, 2, 0] rfl ?_
              exact ih (1, i + 1, (tN f L m1), d, op1, cm1, upd cd1 (1000 + i) 22, wd1_26, td1_27) (⟨ha1, tN_le hI.2.1, (by show d ≤ 5; first | omega | (have hz := hI.2.2.1; omega)), fun _ => Nat.succ_pos i, hp_28, hp_29, Or.inr rfl, by show _ = es_E f L (1001 - (i + 1)) 1 (tN f L m1) d op1 cm1; rw [hI.2.2.2.2.2.2.2, hs, es_E_J4 rfl (Or.inr (jt_b hp_20 (by decide))), show 1001 - (i + 1) = 1000 - i by omega]⟩) (by show 1001 - (i + 1) < 1001 - i; have hz := hI.1; have hy := hI.2.1; omega)
        · refine X_if_eq (tgt := 245) dX12_reads_203 (by decide) (fun _ => ?_) (fun c_ => absurd rfl c_)
          refine X_aload_n (j := 0) dX12_reads_245 rfl rfl ?_
          refine X_bipush (v := 60) dX12_reads_246 (by decide) ?_
          refine X_callV (j0 := 0) (rest := [(x25, ex_a 1 2000 cd1), (x28, ex_a 1 7 op1), (x29, ex_a 3 7 cm1)]) (stk := []) co_X12_218 rfl ⟨(Nat.le_of_ble_eq_true rfl), (Nat.le_of_ble_eq_true rfl)⟩ (e_X12_isSign l m x0 x1 x2 (nI (tN f L m1)) (tK f L m1) wD tD x9 (ex_r x10 :: ex_r x11 :: ex_r x12 :: ex_r x13 :: ex_r x14 :: ex_r x15 :: ex_r x16 :: ex_r x17 :: ex_r x18 :: ex_r x19 :: ex_r x20 :: ex_r x21 :: ex_r x22 :: ex_r x23 :: ex_r x24 :: ex_r x25 :: ex_i (nI (1000 + i)) :: ex_i x27 :: ex_r x28 :: ex_r x29 :: ex_u x30 :: ex_u x31 :: ex_u x32 :: ex_u x33 :: ex_u x34 :: ex_u x35 :: ex_u x36 :: ex_u x37 :: ex_u x38 :: ex_u x39 :: ex_i x40 :: ex_j x41 :: F) f L (tP f L m1) 60 (fun q => Nat.lt_of_lt_of_le (tK3_lt q) hL)) dX12_reads_248 [0, 1, 2, 3, 4] (show List.Perm [0, 1, 2, 3, 4] (List.range 5) from by decide) rfl rfl rfl rfl (Nat.le_of_ble_eq_true rfl) (fun cs1 r hq hk => ?_)
          rcases hq with ⟨hp_30, rfl, rfl⟩ | ⟨hp_31, rfl, rfl⟩
          · refine X_if_ne (tgt := 263) dX12_reads_251 (by decide) (fun _ => ?_) (fun c_ => absurd c_ (by decide))
            refine X_aload_n (j := 0) dX12_reads_263 rfl rfl ?_
            refine X_get (j := 0) fo_X12_65 dX12_reads_264 rfl rfl ?_
            refine X_iload_n (j := 1) dX12_reads_267 rfl rfl ?_
            refine X_zald (j := 4) (v := (cm1 d)) dX12_reads_268 rfl (vp_in_nI (show d < 7 by omega) (by decide)) (by rw [nI_clamp (by omega)]) ?_
            refine X_if_ne (tgt := 304) dX12_reads_269 (by decide) (fun c_32 => ?_) (fun c_32 => ?_)
            · refine X_aload_n (j := 0) dX12_reads_304 rfl rfl ?_
              refine X_ldc2_w (v := 1111) k_1593 dX12_reads_305 ?_
              refine X_callV (j0 := 0) (rest := [(x2, ex_a 1 1000 f), (x25, ex_a 1 2000 cd1), (x28, ex_a 1 7 op1), (x29, ex_a 3 7 cm1)]) (stk := []) co_X12_214 rfl ⟨(Nat.le_of_ble_eq_true rfl), (Nat.le_of_ble_eq_true rfl)⟩ (e_X12_isWord l m x0 x1 x2 (nI L) (nI (tN f L m1)) (nI (tP f L m1)) (tK f L m1) wD tD x9 (ex_r x10 :: ex_r x11 :: ex_r x12 :: ex_r x13 :: ex_r x14 :: ex_r x15 :: ex_r x16 :: ex_r x17 :: ex_r x18 :: ex_r x19 :: ex_r x20 :: ex_r x21 :: ex_r x22 :: ex_r x23 :: ex_r x24 :: ex_r x25 :: ex_i (nI (1000 + i)) :: ex_i x27 :: ex_r x28 :: ex_r x29 :: ex_u x30 :: ex_u x31 :: ex_u x32 :: ex_u x33 :: ex_u x34 :: ex_u x35 :: ex_u x36 :: ex_u x37 :: ex_u x38 :: ex_u x39 :: ex_i x40 :: ex_j x41 :: F) 1111) dX12_reads_308 [0, 1, 2, 3, 4] (show List.Perm [0, 1, 2, 3, 4] (List.range 5) from by decide) rfl rfl rfl rfl (Nat.le_of_ble_eq_true rfl) (fun cs1 r hq hk => ?_)
              rcases hq with ⟨hp_33, rfl, rfl⟩ | ⟨hp_34, rfl, rfl⟩
              · exact absurd (hp_30.1.symm.trans hp_33.1) (by decide)
              · refine X_if_ne (tgt := 324) dX12_reads_311 (by decide) (fun c_ => absurd rfl c_) (fun _ => ?_)
                refine X_aload_n (j := 0) dX12_reads_314 rfl rfl ?_
                refine X_ldc2_w (v := 423) k_1594 dX12_reads_315 ?_
                refine X_callV (j0 := 0) (rest := [(x2, ex_a 1 1000 f), (x25, ex_a 1 2000 cd1), (x28, ex_a 1 7 op1), (x29, ex_a 3 7 cm1)]) (stk := []) co_X12_214 rfl ⟨(Nat.le_of_ble_eq_true rfl), (Nat.le_of_ble_eq_true rfl)⟩ (e_X12_isWord l m x0 x1 x2 (nI L) (nI (tN f L m1)) (nI (tP f L m1)) (tK f L m1) wD tD x9 (ex_r x10 :: ex_r x11 :: ex_r x12 :: ex_r x13 :: ex_r x14 :: ex_r x15 :: ex_r x16 :: ex_r x17 :: ex_r x18 :: ex_r x19 :: ex_r x20 :: ex_r x21 :: ex_r x22 :: ex_r x23 :: ex_r x24 :: ex_r x25 :: ex_i (nI (1000 + i)) :: ex_i x27 :: ex_r x28 :: ex_r x29 :: ex_u x30 :: ex_u x31 :: ex_u x32 :: ex_u x33 :: ex_u x34 :: ex_u x35 :: ex_u x36 :: ex_u x37 :: ex_u x38 :: ex_u x39 :: ex_i x40 :: ex_j x41 :: F) 423) dX12_reads_318 [0, 1, 2, 3, 4] (show List.Perm [0, 1, 2, 3, 4] (List.range 5) from by decide) rfl rfl rfl rfl (Nat.le_of_ble_eq_true rfl) (fun cs1 r hq hk => ?_)
                rcases hq with ⟨hp_35, rfl, rfl⟩ | ⟨hp_36, rfl, rfl⟩
                · exact absurd (hp_30.1.symm.trans hp_35.1) (by decide)
                · refine X_if_eq (tgt := 357) dX12_reads_321 (by decide) (fun _ => ?_) (fun c_ => absurd rfl c_)
                  refine X_aload_n (j := 0) dX12_reads_357 rfl rfl ?_
                  refine X_bipush (v := 41) dX12_reads_358 (by decide) ?_
                  refine X_callV (j0 := 0) (rest := [(x25, ex_a 1 2000 cd1), (x28, ex_a 1 7 op1), (x29, ex_a 3 7 cm1)]) (stk := []) co_X12_218 rfl ⟨(Nat.le_of_ble_eq_true rfl), (Nat.le_of_ble_eq_true rfl)⟩ (e_X12_isSign l m x0 x1 x2 (nI (tN f L m1)) (tK f L m1) wD tD x9 (ex_r x10 :: ex_r x11 :: ex_r x12 :: ex_r x13 :: ex_r x14 :: ex_r x15 :: ex_r x16 :: ex_r x17 :: ex_r x18 :: ex_r x19 :: ex_r x20 :: ex_r x21 :: ex_r x22 :: ex_r x23 :: ex_r x24 :: ex_r x25 :: ex_i (nI (1000 + i)) :: ex_i x27 :: ex_r x28 :: ex_r x29 :: ex_u x30 :: ex_u x31 :: ex_u x32 :: ex_u x33 :: ex_u x34 :: ex_u x35 :: ex_u x36 :: ex_u x37 :: ex_u x38 :: ex_u x39 :: ex_i x40 :: ex_j x41 :: F) f L (tP f L m1) 41 (fun q => Nat.lt_of_lt_of_le (tK3_lt q) hL)) dX12_reads_360 [0, 1, 2, 3, 4] (show List.Perm [0, 1, 2, 3, 4] (List.range 5) from by decide) rfl rfl rfl rfl (Nat.le_of_ble_eq_true rfl) (fun cs1 r hq hk => ?_)
                  rcases hq with ⟨hp_37, rfl, rfl⟩ | ⟨hp_38, rfl, rfl⟩
                  · exact absurd (hp_30.2.symm.trans hp_37.2) (by decide)
                  · refine X_if_eq (tgt := 399) dX12_reads_363 (by decide) (fun _ => ?_) (fun c_ => absurd rfl c_)
                    refine X_iload_n (j := 1) dX12_reads_399 rfl rfl ?_
                    refine X_if_ne (tgt := 418) dX12_reads_400 (by decide) (fun c_39 => ?_) (fun c_39 => ?_)
                    · refine X_aload_n (j := 0) dX12_reads_418 rfl rfl ?_
                      refine X_iconst (v := 1) dX12_reads_419 (by decide) ?_
                      refine X_callV (j0 := 0) (rest := [(x2, ex_a 1 1000 f), (x25, ex_a 1 2000 cd1), (x28, ex_a 1 7 op1), (x29, ex_a 3 7 cm1)]) (stk := []) co_X12_222 rfl ⟨(Nat.le_of_ble_eq_true rfl), (Nat.le_of_ble_eq_true rfl)⟩ (e_X12_fails l m x0 x1 x2 (nI L) (nI (tN f L m1)) (nI (tP f L m1)) (tK f L m1) wD tD x9 (ex_r x10 :: ex_r x11 :: ex_r x12 :: ex_r x13 :: ex_r x14 :: ex_r x15 :: ex_r x16 :: ex_r x17 :: ex_r x18 :: ex_r x19 :: ex_r x20 :: ex_r x21 :: ex_r x22 :: ex_r x23 :: ex_r x24 :: ex_r x25 :: ex_i (nI (1000 + i)) :: ex_i x27 :: ex_r x28 :: ex_r x29 :: ex_u x30 :: ex_u x31 :: ex_u x32 :: ex_u x33 :: ex_u x34 :: ex_u x35 :: ex_u x36 :: ex_u x37 :: ex_u x38 :: ex_u x39 :: ex_i x40 :: ex_j x41 :: F) 1) dX12_reads_420 [0, 1, 2, 3, 4] (show List.Perm [0, 1, 2, 3, 4] (List.range 5) from by decide) rfl rfl rfl rfl (Nat.le_of_ble_eq_true rfl) (fun cs1 r hq hk => ?_)
                      rcases hq with ⟨rfl, rfl⟩
                      exact X_iret ex_nZ rfl dX12_reads_423 rfl (Or.inr ⟨(nI (tN f L m1)), (nI (tP f L m1)), (tK f L m1), tD, (1 + 16 * (nI (tP f L m1))), wD, (1000 + i), cd1, op1, cm1, (by rw [hI.2.2.2.2.2.2.2, hs, es_E_J0 rfl (jt_b hp_30 (by decide)) c_32]; rfl), rfl, rfl⟩)
                    · refine X_aload_n (j := 0) dX12_reads_403 rfl rfl ?_
                      refine X_bipush (v := 59) dX12_reads_404 (by decide) ?_
                      refine X_callV (j0 := 0) (rest := [(x25, ex_a 1 2000 cd1), (x28, ex_a 1 7 op1), (x29, ex_a 3 7 cm1)]) (stk := []) co_X12_218 rfl ⟨(Nat.le_of_ble_eq_true rfl), (Nat.le_of_ble_eq_true rfl)⟩ (e_X12_isSign l m x0 x1 x2 (nI (tN f L m1)) (tK f L m1) wD tD x9 (ex_r x10 :: ex_r x11 :: ex_r x12 :: ex_r x13 :: ex_r x14 :: ex_r x15 :: ex_r x16 :: ex_r x17 :: ex_r x18 :: ex_r x19 :: ex_r x20 :: ex_r x21 :: ex_r x22 :: ex_r x23 :: ex_r x24 :: ex_r x25 :: ex_i (nI (1000 + i)) :: ex_i x27 :: ex_r x28 :: ex_r x29 :: ex_u x30 :: ex_u x31 :: ex_u x32 :: ex_u x33 :: ex_u x34 :: ex_u x35 :: ex_u x36 :: ex_u x37 :: ex_u x38 :: ex_u x39 :: ex_i x40 :: ex_j x41 :: F) f L (tP f L m1) 59 (fun q => Nat.lt_of_lt_of_le (tK3_lt q) hL)) dX12_reads_406 [0, 1, 2, 3, 4] (show List.Perm [0, 1, 2, 3, 4] (List.range 5) from by decide) rfl rfl rfl rfl (Nat.le_of_ble_eq_true rfl) (fun cs1 r hq hk => ?_)
                      rcases hq with ⟨hp_40, rfl, rfl⟩ | ⟨hp_41, rfl, rfl⟩
                      · exact absurd (hp_30.2.symm.trans hp_40.2) (by decide)
                      · refine X_if_eq (tgt := 418) dX12_reads_409 (by decide) (fun _ => ?_) (fun c_ => absurd rfl c_)
                        refine X_aload_n (j := 0) dX12_reads_418 rfl rfl ?_
                        refine X_iconst (v := 1) dX12_reads_419 (by decide) ?_
                        refine X_callV (j0 := 0) (rest := [(x2, ex_a 1 1000 f), (x25, ex_a 1 2000 cd1), (x28, ex_a 1 7 op1), (x29, ex_a 3 7 cm1)]) (stk := []) co_X12_222 rfl ⟨(Nat.le_of_ble_eq_true rfl), (Nat.le_of_ble_eq_true rfl)⟩ (e_X12_fails l m x0 x1 x2 (nI L) (nI (tN f L m1)) (nI (tP f L m1)) (tK f L m1) wD tD x9 (ex_r x10 :: ex_r x11 :: ex_r x12 :: ex_r x13 :: ex_r x14 :: ex_r x15 :: ex_r x16 :: ex_r x17 :: ex_r x18 :: ex_r x19 :: ex_r x20 :: ex_r x21 :: ex_r x22 :: ex_r x23 :: ex_r x24 :: ex_r x25 :: ex_i (nI (1000 + i)) :: ex_i x27 :: ex_r x28 :: ex_r x29 :: ex_u x30 :: ex_u x31 :: ex_u x32 :: ex_u x33 :: ex_u x34 :: ex_u x35 :: ex_u x36 :: ex_u x37 :: ex_u x38 :: ex_u x39 :: ex_i x40 :: ex_j x41 :: F) 1) dX12_reads_420 [0, 1, 2, 3, 4] (show List.Perm [0, 1, 2, 3, 4] (List.range 5) from by decide) rfl rfl rfl rfl (Nat.le_of_ble_eq_true rfl) (fun cs1 r hq hk => ?_)
                        rcases hq with ⟨rfl, rfl⟩
                        exact X_iret ex_nZ rfl dX12_reads_423 rfl (Or.inr ⟨(nI (tN f L m1)), (nI (tP f L m1)), (tK f L m1), tD, (1 + 16 * (nI (tP f L m1))), wD, (1000 + i), cd1, op1, cm1, (by rw [hI.2.2.2.2.2.2.2, hs, es_E_J0 rfl (jt_b hp_30 (by decide)) c_32]; rfl), rfl, rfl⟩)
            · refine X_aload_n (j := 0) dX12_reads_272 rfl rfl ?_
              refine X_aload_n (j := 0) dX12_reads_273 rfl rfl ?_
              refine X_bipush (v := 60) dX12_reads_274 (by decide) ?_
              refine X_callV (j0 := 0) (rest := [(x25, ex_a 1 2000 cd1), (x28, ex_a 1 7 op1), (x29, ex_a 3 7 cm1)]) (stk := [ex_r m]) co_X12_218 rfl ⟨(Nat.le_of_ble_eq_true rfl), (Nat.le_of_ble_eq_true rfl)⟩ (e_X12_isSign l m x0 x1 x2 (nI (tN f L m1)) (tK f L m1) wD tD x9 (ex_r x10 :: ex_r x11 :: ex_r x12 :: ex_r x13 :: ex_r x14 :: ex_r x15 :: ex_r x16 :: ex_r x17 :: ex_r x18 :: ex_r x19 :: ex_r x20 :: ex_r x21 :: ex_r x22 :: ex_r x23 :: ex_r x24 :: ex_r x25 :: ex_i (nI (1000 + i)) :: ex_i x27 :: ex_r x28 :: ex_r x29 :: ex_u x30 :: ex_u x31 :: ex_u x32 :: ex_u x33 :: ex_u x34 :: ex_u x35 :: ex_u x36 :: ex_u x37 :: ex_u x38 :: ex_u x39 :: ex_i x40 :: ex_j x41 :: F) f L (tP f L m1) 60 (fun q => Nat.lt_of_lt_of_le (tK3_lt q) hL)) dX12_reads_276 [0, 1, 2, 3, 4] (show List.Perm [0, 1, 2, 3, 4] (List.range 5) from by decide) rfl rfl rfl rfl (Nat.le_of_ble_eq_true rfl) (fun cs1 r hq hk => ?_)
              rcases hq with ⟨hp_42, rfl, rfl⟩ | ⟨hp_43, rfl, rfl⟩
              · refine X_if_eq (tgt := 287) dX12_reads_279 (by decide) (fun c_ => absurd c_ (by decide)) (fun _ => ?_)
                refine X_bipush (v := 24) dX12_reads_282 (by decide) ?_
                refine X_goto (tgt := 289) dX12_reads_284 (by decide) ?_
                refine X_callV (j0 := 0) (rest := [(x2, ex_a 1 1000 f), (x28, ex_a 1 7 op1), (x29, ex_a 3 7 cm1)]) (stk := []) co_X12_225 rfl ⟨(Nat.le_of_ble_eq_true rfl), (Nat.le_of_ble_eq_true rfl)⟩ (e_X12_puts l m x0 x1 x2 (nI L) (nI (tN f L m1)) (nI (tP f L m1)) (tK f L m1) wD tD x9 x10 x11 x12 x13 x14 x15 x16 x17 x18 x19 x20 x21 x22 x23 x24 x25 x27 x28 x29 x30 x31 x32 x33 x34 x35 x36 x37 x38 x39 x40 x41 F cd1 i 24 (by have hz := tK_lt (f := f) (L := L) (n := m1) (fun e => absurd (e.symm.trans hp_30.1) (by decide)); have hy := hI.1; omega)) dX12_reads_289 [0, 2, 1, 3, 4] (show List.Perm [0, 2, 1, 3, 4] (List.range 5) from by decide) rfl rfl rfl rfl (Nat.le_of_ble_eq_true rfl) (fun cs1 r hq hk => ?_)
                rcases hq with ⟨rfl, rfl⟩
                refine X_aload_n (j := 0) dX12_reads_292 rfl rfl ?_
                refine X_get (j := 0) fo_X12_65 dX12_reads_293 rfl rfl ?_
                refine X_iload_n (j := 1) dX12_reads_296 rfl rfl ?_
                refine X_iconst (v := 1) dX12_reads_297 (by decide) ?_
                refine X_zast (j := 4) (g := upd cm1 d 1) (cs' := [(m, ex_o 12 (ex_u x0 :: ex_i x1 :: ex_r x2 :: ex_i (nI L) :: ex_i (nI (tN f L m1)) :: ex_i (nI (tP f L m1)) :: ex_i (tK f L m1) :: ex_j wD :: ex_i tD :: ex_i x9 :: ex_r x10 :: ex_r x11 :: ex_r x12 :: ex_r x13 :: ex_r x14 :: ex_r x15 :: ex_r x16 :: ex_r x17 :: ex_r x18 :: ex_r x19 :: ex_r x20 :: ex_r x21 :: ex_r x22 :: ex_r x23 :: ex_r x24 :: ex_r x25 :: ex_i (nI (1000 + (i + 1))) :: ex_i x27 :: ex_r x28 :: ex_r x29 :: ex_u x30 :: ex_u x31 :: ex_u x32 :: ex_u x33 :: ex_u x34 :: ex_u x35 :: ex_u x36 :: ex_u x37 :: ex_u x38 :: ex_u x39 :: ex_i x40 :: ex_j x41 :: F)), (x25, ex_a 1 2000 (upd cd1 (1000 + i) 24)), (x2, ex_a 1 1000 f), (x28, ex_a 1 7 op1), (x29, ex_a 3 7 (upd cm1 d 1))]) dX12_reads_298 rfl (vp_in_nI (show d < 7 by omega) (by decide)) (by rw [nI_clamp (by omega)]; rfl) rfl ?_
                refine X_iconst (v := 1) dX12_reads_299 (by decide) ?_
                refine X_istore_n (lv' := [(2, ex_i 1), (0, ex_r m), (1, ex_i (nI d))]) dX12_reads_300 rfl (Nat.le_of_ble_eq_true rfl) rfl ?_
                refine X_goto (tgt := 424) dX12_reads_301 (by decide) ?_
                refine X_aload_n (j := 1) dX12_reads_424 rfl rfl ?_
                refine X_callV (j0 := 0) (rest := [(x25, ex_a 1 2000 (upd cd1 (1000 + i) 24)), (x28, ex_a 1 7 op1), (x29, ex_a 3 7 (upd cm1 d 1))]) (stk := []) co_X12_229 rfl ⟨(Nat.le_of_ble_eq_true rfl), (Nat.le_of_ble_eq_true rfl)⟩ (e_X12_nextToken l m x0 x1 x2 (nI (tP f L m1)) (tK f L m1) wD tD x9 (ex_r x10 :: ex_r x11 :: ex_r x12 :: ex_r x13 :: ex_r x14 :: ex_r x15 :: ex_r x16 :: ex_r x17 :: ex_r x18 :: ex_r x19 :: ex_r x20 :: ex_r x21 :: ex_r x22 :: ex_r x23 :: ex_r x24 :: ex_r x25 :: ex_i (nI (1000 + (i + 1))) :: ex_i x27 :: ex_r x28 :: ex_r x29 :: ex_u x30 :: ex_u x31 :: ex_u x32 :: ex_u x33 :: ex_u x34 :: ex_u x35 :: ex_u x36 :: ex_u x37 :: ex_u x38 :: ex_u x39 :: ex_i x40 :: ex_j x41 :: F) f L (tN f L m1) hL (tN_le hI.2.1)) dX12_reads_425 [0, 2, 1, 3, 4] (show List.Perm [0, 2, 1, 3, 4] (List.range 5) from by decide) rfl rfl rfl rfl (Nat.le_of_ble_eq_true rfl) (fun cs1 r hq hk => ?_)
                rcases hq with ⟨wd1_44, td1_45, hp_46, hp_47, rfl, rfl⟩
                refine X_goto (tgt := 11) dX12_reads_428 (by decide) ?_
                have hgt := tN_gt (fun e => absurd (e.symm.trans hp_30.1) (by decide))
                have ha1 : i + 1 ≤ tN f L m1 := by have hz := hI.1; omega
                refine X_lv (lv' := [(0, ex_r m), (1, ex_i (nI d)), (2, ex_i 1)]) [1, 2, 0] rfl ?_
                exact ih (1, i + 1, (tN f L m1), d, op1, upd cm1 d 1, upd cd1 (1000 + i) 24, wd1_44, td1_45) (⟨ha1, tN_le hI.2.1, (by show d ≤ 5; first | omega | (have hz := hI.2.2.1; omega)), fun _ => Nat.succ_pos i, hp_46, hp_47, Or.inr rfl, by show _ = es_E f L (1001 - (i + 1)) 1 (tN f L m1) d op1 (upd cm1 d 1); rw [hI.2.2.2.2.2.2.2, hs, es_E_J2 rfl (jt_b hp_30 (by decide)) c_32, show 1001 - (i + 1) = 1000 - i by omega]⟩) (by show 1001 - (i + 1) < 1001 - i; have hz := hI.1; have hy := hI.2.1; omega)
              · exact absurd hp_30 hp_43
          · refine X_if_ne (tgt := 263) dX12_reads_251 (by decide) (fun c_ => absurd rfl c_) (fun _ => ?_)
            refine X_aload_n (j := 0) dX12_reads_254 rfl rfl ?_
            refine X_bipush (v := 61) dX12_reads_255 (by decide) ?_
            refine X_callV (j0 := 0) (rest := [(x25, ex_a 1 2000 cd1), (x28, ex_a 1 7 op1), (x29, ex_a 3 7 cm1)]) (stk := []) co_X12_218 rfl ⟨(Nat.le_of_ble_eq_true rfl), (Nat.le_of_ble_eq_true rfl)⟩ (e_X12_isSign l m x0 x1 x2 (nI (tN f L m1)) (tK f L m1) wD tD x9 (ex_r x10 :: ex_r x11 :: ex_r x12 :: ex_r x13 :: ex_r x14 :: ex_r x15 :: ex_r x16 :: ex_r x17 :: ex_r x18 :: ex_r x19 :: ex_r x20 :: ex_r x21 :: ex_r x22 :: ex_r x23 :: ex_r x24 :: ex_r x25 :: ex_i (nI (1000 + i)) :: ex_i x27 :: ex_r x28 :: ex_r x29 :: ex_u x30 :: ex_u x31 :: ex_u x32 :: ex_u x33 :: ex_u x34 :: ex_u x35 :: ex_u x36 :: ex_u x37 :: ex_u x38 :: ex_u x39 :: ex_i x40 :: ex_j x41 :: F) f L (tP f L m1) 61 (fun q => Nat.lt_of_lt_of_le (tK3_lt q) hL)) dX12_reads_257 [0, 1, 2, 3, 4] (show List.Perm [0, 1, 2, 3, 4] (List.range 5) from by decide) rfl rfl rfl rfl (Nat.le_of_ble_eq_true rfl) (fun cs1 r hq hk => ?_)
            rcases hq with ⟨hp_48, rfl, rfl⟩ | ⟨hp_49, rfl, rfl⟩
            · refine X_if_eq (tgt := 304) dX12_reads_260 (by decide) (fun c_ => absurd c_ (by decide)) (fun _ => ?_)
              refine X_aload_n (j := 0) dX12_reads_263 rfl rfl ?_
              refine X_get (j := 0) fo_X12_65 dX12_reads_264 rfl rfl ?_
              refine X_iload_n (j := 1) dX12_reads_267 rfl rfl ?_
              refine X_zald (j := 4) (v := (cm1 d)) dX12_reads_268 rfl (vp_in_nI (show d < 7 by omega) (by decide)) (by rw [nI_clamp (by omega)]) ?_
              refine X_if_ne (tgt := 304) dX12_reads_269 (by decide) (fun c_50 => ?_) (fun c_50 => ?_)
              · refine X_aload_n (j := 0) dX12_reads_304 rfl rfl ?_
                refine X_ldc2_w (v := 1111) k_1593 dX12_reads_305 ?_
                refine X_callV (j0 := 0) (rest := [(x2, ex_a 1 1000 f), (x25, ex_a 1 2000 cd1), (x28, ex_a 1 7 op1), (x29, ex_a 3 7 cm1)]) (stk := []) co_X12_214 rfl ⟨(Nat.le_of_ble_eq_true rfl), (Nat.le_of_ble_eq_true rfl)⟩ (e_X12_isWord l m x0 x1 x2 (nI L) (nI (tN f L m1)) (nI (tP f L m1)) (tK f L m1) wD tD x9 (ex_r x10 :: ex_r x11 :: ex_r x12 :: ex_r x13 :: ex_r x14 :: ex_r x15 :: ex_r x16 :: ex_r x17 :: ex_r x18 :: ex_r x19 :: ex_r x20 :: ex_r x21 :: ex_r x22 :: ex_r x23 :: ex_r x24 :: ex_r x25 :: ex_i (nI (1000 + i)) :: ex_i x27 :: ex_r x28 :: ex_r x29 :: ex_u x30 :: ex_u x31 :: ex_u x32 :: ex_u x33 :: ex_u x34 :: ex_u x35 :: ex_u x36 :: ex_u x37 :: ex_u x38 :: ex_u x39 :: ex_i x40 :: ex_j x41 :: F) 1111) dX12_reads_308 [0, 1, 2, 3, 4] (show List.Perm [0, 1, 2, 3, 4] (List.range 5) from by decide) rfl rfl rfl rfl (Nat.le_of_ble_eq_true rfl) (fun cs1 r hq hk => ?_)
                rcases hq with ⟨hp_51, rfl, rfl⟩ | ⟨hp_52, rfl, rfl⟩
                · exact absurd (hp_48.1.symm.trans hp_51.1) (by decide)
                · refine X_if_ne (tgt := 324) dX12_reads_311 (by decide) (fun c_ => absurd rfl c_) (fun _ => ?_)
                  refine X_aload_n (j := 0) dX12_reads_314 rfl rfl ?_
                  refine X_ldc2_w (v := 423) k_1594 dX12_reads_315 ?_
                  refine X_callV (j0 := 0) (rest := [(x2, ex_a 1 1000 f), (x25, ex_a 1 2000 cd1), (x28, ex_a 1 7 op1), (x29, ex_a 3 7 cm1)]) (stk := []) co_X12_214 rfl ⟨(Nat.le_of_ble_eq_true rfl), (Nat.le_of_ble_eq_true rfl)⟩ (e_X12_isWord l m x0 x1 x2 (nI L) (nI (tN f L m1)) (nI (tP f L m1)) (tK f L m1) wD tD x9 (ex_r x10 :: ex_r x11 :: ex_r x12 :: ex_r x13 :: ex_r x14 :: ex_r x15 :: ex_r x16 :: ex_r x17 :: ex_r x18 :: ex_r x19 :: ex_r x20 :: ex_r x21 :: ex_r x22 :: ex_r x23 :: ex_r x24 :: ex_r x25 :: ex_i (nI (1000 + i)) :: ex_i x27 :: ex_r x28 :: ex_r x29 :: ex_u x30 :: ex_u x31 :: ex_u x32 :: ex_u x33 :: ex_u x34 :: ex_u x35 :: ex_u x36 :: ex_u x37 :: ex_u x38 :: ex_u x39 :: ex_i x40 :: ex_j x41 :: F) 423) dX12_reads_318 [0, 1, 2, 3, 4] (show List.Perm [0, 1, 2, 3, 4] (List.range 5) from by decide) rfl rfl rfl rfl (Nat.le_of_ble_eq_true rfl) (fun cs1 r hq hk => ?_)
                  rcases hq with ⟨hp_53, rfl, rfl⟩ | ⟨hp_54, rfl, rfl⟩
                  · exact absurd (hp_48.1.symm.trans hp_53.1) (by decide)
                  · refine X_if_eq (tgt := 357) dX12_reads_321 (by decide) (fun _ => ?_) (fun c_ => absurd rfl c_)
                    refine X_aload_n (j := 0) dX12_reads_357 rfl rfl ?_
                    refine X_bipush (v := 41) dX12_reads_358 (by decide) ?_
                    refine X_callV (j0 := 0) (rest := [(x25, ex_a 1 2000 cd1), (x28, ex_a 1 7 op1), (x29, ex_a 3 7 cm1)]) (stk := []) co_X12_218 rfl ⟨(Nat.le_of_ble_eq_true rfl), (Nat.le_of_ble_eq_true rfl)⟩ (e_X12_isSign l m x0 x1 x2 (nI (tN f L m1)) (tK f L m1) wD tD x9 (ex_r x10 :: ex_r x11 :: ex_r x12 :: ex_r x13 :: ex_r x14 :: ex_r x15 :: ex_r x16 :: ex_r x17 :: ex_r x18 :: ex_r x19 :: ex_r x20 :: ex_r x21 :: ex_r x22 :: ex_r x23 :: ex_r x24 :: ex_r x25 :: ex_i (nI (1000 + i)) :: ex_i x27 :: ex_r x28 :: ex_r x29 :: ex_u x30 :: ex_u x31 :: ex_u x32 :: ex_u x33 :: ex_u x34 :: ex_u x35 :: ex_u x36 :: ex_u x37 :: ex_u x38 :: ex_u x39 :: ex_i x40 :: ex_j x41 :: F) f L (tP f L m1) 41 (fun q => Nat.lt_of_lt_of_le (tK3_lt q) hL)) dX12_reads_360 [0, 1, 2, 3, 4] (show List.Perm [0, 1, 2, 3, 4] (List.range 5) from by decide) rfl rfl rfl rfl (Nat.le_of_ble_eq_true rfl) (fun cs1 r hq hk => ?_)
                    rcases hq with ⟨hp_55, rfl, rfl⟩ | ⟨hp_56, rfl, rfl⟩
                    · exact absurd (hp_48.2.symm.trans hp_55.2) (by decide)
                    · refine X_if_eq (tgt := 399) dX12_reads_363 (by decide) (fun _ => ?_) (fun c_ => absurd rfl c_)
                      refine X_iload_n (j := 1) dX12_reads_399 rfl rfl ?_
                      refine X_if_ne (tgt := 418) dX12_reads_400 (by decide) (fun c_57 => ?_) (fun c_57 => ?_)
                      · refine X_aload_n (j := 0) dX12_reads_418 rfl rfl ?_
                        refine X_iconst (v := 1) dX12_reads_419 (by decide) ?_
                        refine X_callV (j0 := 0) (rest := [(x2, ex_a 1 1000 f), (x25, ex_a 1 2000 cd1), (x28, ex_a 1 7 op1), (x29, ex_a 3 7 cm1)]) (stk := []) co_X12_222 rfl ⟨(Nat.le_of_ble_eq_true rfl), (Nat.le_of_ble_eq_true rfl)⟩ (e_X12_fails l m x0 x1 x2 (nI L) (nI (tN f L m1)) (nI (tP f L m1)) (tK f L m1) wD tD x9 (ex_r x10 :: ex_r x11 :: ex_r x12 :: ex_r x13 :: ex_r x14 :: ex_r x15 :: ex_r x16 :: ex_r x17 :: ex_r x18 :: ex_r x19 :: ex_r x20 :: ex_r x21 :: ex_r x22 :: ex_r x23 :: ex_r x24 :: ex_r x25 :: ex_i (nI (1000 + i)) :: ex_i x27 :: ex_r x28 :: ex_r x29 :: ex_u x30 :: ex_u x31 :: ex_u x32 :: ex_u x33 :: ex_u x34 :: ex_u x35 :: ex_u x36 :: ex_u x37 :: ex_u x38 :: ex_u x39 :: ex_i x40 :: ex_j x41 :: F) 1) dX12_reads_420 [0, 1, 2, 3, 4] (show List.Perm [0, 1, 2, 3, 4] (List.range 5) from by decide) rfl rfl rfl rfl (Nat.le_of_ble_eq_true rfl) (fun cs1 r hq hk => ?_)
                        rcases hq with ⟨rfl, rfl⟩
                        exact X_iret ex_nZ rfl dX12_reads_423 rfl (Or.inr ⟨(nI (tN f L m1)), (nI (tP f L m1)), (tK f L m1), tD, (1 + 16 * (nI (tP f L m1))), wD, (1000 + i), cd1, op1, cm1, (by rw [hI.2.2.2.2.2.2.2, hs, es_E_J0 rfl (jt_b hp_48 (by decide)) c_50]; rfl), rfl, rfl⟩)
                      · refine X_aload_n (j := 0) dX12_reads_403 rfl rfl ?_
                        refine X_bipush (v := 59) dX12_reads_404 (by decide) ?_
                        refine X_callV (j0 := 0) (rest := [(x25, ex_a 1 2000 cd1), (x28, ex_a 1 7 op1), (x29, ex_a 3 7 cm1)]) (stk := []) co_X12_218 rfl ⟨(Nat.le_of_ble_eq_true rfl), (Nat.le_of_ble_eq_true rfl)⟩ (e_X12_isSign l m x0 x1 x2 (nI (tN f L m1)) (tK f L m1) wD tD x9 (ex_r x10 :: ex_r x11 :: ex_r x12 :: ex_r x13 :: ex_r x14 :: ex_r x15 :: ex_r x16 :: ex_r x17 :: ex_r x18 :: ex_r x19 :: ex_r x20 :: ex_r x21 :: ex_r x22 :: ex_r x23 :: ex_r x24 :: ex_r x25 :: ex_i (nI (1000 + i)) :: ex_i x27 :: ex_r x28 :: ex_r x29 :: ex_u x30 :: ex_u x31 :: ex_u x32 :: ex_u x33 :: ex_u x34 :: ex_u x35 :: ex_u x36 :: ex_u x37 :: ex_u x38 :: ex_u x39 :: ex_i x40 :: ex_j x41 :: F) f L (tP f L m1) 59 (fun q => Nat.lt_of_lt_of_le (tK3_lt q) hL)) dX12_reads_406 [0, 1, 2, 3, 4] (show List.Perm [0, 1, 2, 3, 4] (List.range 5) from by decide) rfl rfl rfl rfl (Nat.le_of_ble_eq_true rfl) (fun cs1 r hq hk => ?_)
                        rcases hq with ⟨hp_58, rfl, rfl⟩ | ⟨hp_59, rfl, rfl⟩
                        · exact absurd (hp_48.2.symm.trans hp_58.2) (by decide)
                        · refine X_if_eq (tgt := 418) dX12_reads_409 (by decide) (fun _ => ?_) (fun c_ => absurd rfl c_)
                          refine X_aload_n (j := 0) dX12_reads_418 rfl rfl ?_
                          refine X_iconst (v := 1) dX12_reads_419 (by decide) ?_
                          refine X_callV (j0 := 0) (rest := [(x2, ex_a 1 1000 f), (x25, ex_a 1 2000 cd1), (x28, ex_a 1 7 op1), (x29, ex_a 3 7 cm1)]) (stk := []) co_X12_222 rfl ⟨(Nat.le_of_ble_eq_true rfl), (Nat.le_of_ble_eq_true rfl)⟩ (e_X12_fails l m x0 x1 x2 (nI L) (nI (tN f L m1)) (nI (tP f L m1)) (tK f L m1) wD tD x9 (ex_r x10 :: ex_r x11 :: ex_r x12 :: ex_r x13 :: ex_r x14 :: ex_r x15 :: ex_r x16 :: ex_r x17 :: ex_r x18 :: ex_r x19 :: ex_r x20 :: ex_r x21 :: ex_r x22 :: ex_r x23 :: ex_r x24 :: ex_r x25 :: ex_i (nI (1000 + i)) :: ex_i x27 :: ex_r x28 :: ex_r x29 :: ex_u x30 :: ex_u x31 :: ex_u x32 :: ex_u x33 :: ex_u x34 :: ex_u x35 :: ex_u x36 :: ex_u x37 :: ex_u x38 :: ex_u x39 :: ex_i x40 :: ex_j x41 :: F) 1) dX12_reads_420 [0, 1, 2, 3, 4] (show List.Perm [0, 1, 2, 3, 4] (List.range 5) from by decide) rfl rfl rfl rfl (Nat.le_of_ble_eq_true rfl) (fun cs1 r hq hk => ?_)
                          rcases hq with ⟨rfl, rfl⟩
                          exact X_iret ex_nZ rfl dX12_reads_423 rfl (Or.inr ⟨(nI (tN f L m1)), (nI (tP f L m1)), (tK f L m1), tD, (1 + 16 * (nI (tP f L m1))), wD, (1000 + i), cd1, op1, cm1, (by rw [hI.2.2.2.2.2.2.2, hs, es_E_J0 rfl (jt_b hp_48 (by decide)) c_50]; rfl), rfl, rfl⟩)
              · refine X_aload_n (j := 0) dX12_reads_272 rfl rfl ?_
                refine X_aload_n (j := 0) dX12_reads_273 rfl rfl ?_
                refine X_bipush (v := 60) dX12_reads_274 (by decide) ?_
                refine X_callV (j0 := 0) (rest := [(x25, ex_a 1 2000 cd1), (x28, ex_a 1 7 op1), (x29, ex_a 3 7 cm1)]) (stk := [ex_r m]) co_X12_218 rfl ⟨(Nat.le_of_ble_eq_true rfl), (Nat.le_of_ble_eq_true rfl)⟩ (e_X12_isSign l m x0 x1 x2 (nI (tN f L m1)) (tK f L m1) wD tD x9 (ex_r x10 :: ex_r x11 :: ex_r x12 :: ex_r x13 :: ex_r x14 :: ex_r x15 :: ex_r x16 :: ex_r x17 :: ex_r x18 :: ex_r x19 :: ex_r x20 :: ex_r x21 :: ex_r x22 :: ex_r x23 :: ex_r x24 :: ex_r x25 :: ex_i (nI (1000 + i)) :: ex_i x27 :: ex_r x28 :: ex_r x29 :: ex_u x30 :: ex_u x31 :: ex_u x32 :: ex_u x33 :: ex_u x34 :: ex_u x35 :: ex_u x36 :: ex_u x37 :: ex_u x38 :: ex_u x39 :: ex_i x40 :: ex_j x41 :: F) f L (tP f L m1) 60 (fun q => Nat.lt_of_lt_of_le (tK3_lt q) hL)) dX12_reads_276 [0, 1, 2, 3, 4] (show List.Perm [0, 1, 2, 3, 4] (List.range 5) from by decide) rfl rfl rfl rfl (Nat.le_of_ble_eq_true rfl) (fun cs1 r hq hk => ?_)
                rcases hq with ⟨hp_60, rfl, rfl⟩ | ⟨hp_61, rfl, rfl⟩
                · exact absurd hp_60 hp_31
                · refine X_if_eq (tgt := 287) dX12_reads_279 (by decide) (fun _ => ?_) (fun c_ => absurd rfl c_)
                  refine X_bipush (v := 25) dX12_reads_287 (by decide) ?_
                  refine X_callV (j0 := 0) (rest := [(x2, ex_a 1 1000 f), (x28, ex_a 1 7 op1), (x29, ex_a 3 7 cm1)]) (stk := []) co_X12_225 rfl ⟨(Nat.le_of_ble_eq_true rfl), (Nat.le_of_ble_eq_true rfl)⟩ (e_X12_puts l m x0 x1 x2 (nI L) (nI (tN f L m1)) (nI (tP f L m1)) (tK f L m1) wD tD x9 x10 x11 x12 x13 x14 x15 x16 x17 x18 x19 x20 x21 x22 x23 x24 x25 x27 x28 x29 x30 x31 x32 x33 x34 x35 x36 x37 x38 x39 x40 x41 F cd1 i 25 (by have hz := tK_lt (f := f) (L := L) (n := m1) (fun e => absurd (e.symm.trans hp_48.1) (by decide)); have hy := hI.1; omega)) dX12_reads_289 [0, 2, 1, 3, 4] (show List.Perm [0, 2, 1, 3, 4] (List.range 5) from by decide) rfl rfl rfl rfl (Nat.le_of_ble_eq_true rfl) (fun cs1 r hq hk => ?_)
                  rcases hq with ⟨rfl, rfl⟩
                  refine X_aload_n (j := 0) dX12_reads_292 rfl rfl ?_
                  refine X_get (j := 0) fo_X12_65 dX12_reads_293 rfl rfl ?_
                  refine X_iload_n (j := 1) dX12_reads_296 rfl rfl ?_
                  refine X_iconst (v := 1) dX12_reads_297 (by decide) ?_
                  refine X_zast (j := 4) (g := upd cm1 d 1) (cs' := [(m, ex_o 12 (ex_u x0 :: ex_i x1 :: ex_r x2 :: ex_i (nI L) :: ex_i (nI (tN f L m1)) :: ex_i (nI (tP f L m1)) :: ex_i (tK f L m1) :: ex_j wD :: ex_i tD :: ex_i x9 :: ex_r x10 :: ex_r x11 :: ex_r x12 :: ex_r x13 :: ex_r x14 :: ex_r x15 :: ex_r x16 :: ex_r x17 :: ex_r x18 :: ex_r x19 :: ex_r x20 :: ex_r x21 :: ex_r x22 :: ex_r x23 :: ex_r x24 :: ex_r x25 :: ex_i (nI (1000 + (i + 1))) :: ex_i x27 :: ex_r x28 :: ex_r x29 :: ex_u x30 :: ex_u x31 :: ex_u x32 :: ex_u x33 :: ex_u x34 :: ex_u x35 :: ex_u x36 :: ex_u x37 :: ex_u x38 :: ex_u x39 :: ex_i x40 :: ex_j x41 :: F)), (x25, ex_a 1 2000 (upd cd1 (1000 + i) 25)), (x2, ex_a 1 1000 f), (x28, ex_a 1 7 op1), (x29, ex_a 3 7 (upd cm1 d 1))]) dX12_reads_298 rfl (vp_in_nI (show d < 7 by omega) (by decide)) (by rw [nI_clamp (by omega)]; rfl) rfl ?_
                  refine X_iconst (v := 1) dX12_reads_299 (by decide) ?_
                  refine X_istore_n (lv' := [(2, ex_i 1), (0, ex_r m), (1, ex_i (nI d))]) dX12_reads_300 rfl (Nat.le_of_ble_eq_true rfl) rfl ?_
                  refine X_goto (tgt := 424) dX12_reads_301 (by decide) ?_
                  refine X_aload_n (j := 1) dX12_reads_424 rfl rfl ?_
                  refine X_callV (j0 := 0) (rest := [(x25, ex_a 1 2000 (upd cd1 (1000 + i) 25)), (x28, ex_a 1 7 op1), (x29, ex_a 3 7 (upd cm1 d 1))]) (stk := []) co_X12_229 rfl ⟨(Nat.le_of_ble_eq_true rfl), (Nat.le_of_ble_eq_true rfl)⟩ (e_X12_nextToken l m x0 x1 x2 (nI (tP f L m1)) (tK f L m1) wD tD x9 (ex_r x10 :: ex_r x11 :: ex_r x12 :: ex_r x13 :: ex_r x14 :: ex_r x15 :: ex_r x16 :: ex_r x17 :: ex_r x18 :: ex_r x19 :: ex_r x20 :: ex_r x21 :: ex_r x22 :: ex_r x23 :: ex_r x24 :: ex_r x25 :: ex_i (nI (1000 + (i + 1))) :: ex_i x27 :: ex_r x28 :: ex_r x29 :: ex_u x30 :: ex_u x31 :: ex_u x32 :: ex_u x33 :: ex_u x34 :: ex_u x35 :: ex_u x36 :: ex_u x37 :: ex_u x38 :: ex_u x39 :: ex_i x40 :: ex_j x41 :: F) f L (tN f L m1) hL (tN_le hI.2.1)) dX12_reads_425 [0, 2, 1, 3, 4] (show List.Perm [0, 2, 1, 3, 4] (List.range 5) from by decide) rfl rfl rfl rfl (Nat.le_of_ble_eq_true rfl) (fun cs1 r hq hk => ?_)
                  rcases hq with ⟨wd1_62, td1_63, hp_64, hp_65, rfl, rfl⟩
                  refine X_goto (tgt := 11) dX12_reads_428 (by decide) ?_
                  have hgt := tN_gt (fun e => absurd (e.symm.trans hp_48.1) (by decide))
                  have ha1 : i + 1 ≤ tN f L m1 := by have hz := hI.1; omega
                  refine X_lv (lv' := [(0, ex_r m), (1, ex_i (nI d)), (2, ex_i 1)]) [1, 2, 0] rfl ?_
                  exact ih (1, i + 1, (tN f L m1), d, op1, upd cm1 d 1, upd cd1 (1000 + i) 25, wd1_62, td1_63) (⟨ha1, tN_le hI.2.1, (by show d ≤ 5; first | omega | (have hz := hI.2.2.1; omega)), fun _ => Nat.succ_pos i, hp_64, hp_65, Or.inr rfl, by show _ = es_E f L (1001 - (i + 1)) 1 (tN f L m1) d op1 (upd cm1 d 1); rw [hI.2.2.2.2.2.2.2, hs, es_E_J2 rfl (jt_b hp_48 (by decide)) c_50, show 1001 - (i + 1) = 1000 - i by omega]⟩) (by show 1001 - (i + 1) < 1001 - i; have hz := hI.1; have hy := hI.2.1; omega)
            · refine X_if_eq (tgt := 304) dX12_reads_260 (by decide) (fun _ => ?_) (fun c_ => absurd rfl c_)
              refine X_aload_n (j := 0) dX12_reads_304 rfl rfl ?_
              refine X_ldc2_w (v := 1111) k_1593 dX12_reads_305 ?_
              refine X_callV (j0 := 0) (rest := [(x2, ex_a 1 1000 f), (x25, ex_a 1 2000 cd1), (x28, ex_a 1 7 op1), (x29, ex_a 3 7 cm1)]) (stk := []) co_X12_214 rfl ⟨(Nat.le_of_ble_eq_true rfl), (Nat.le_of_ble_eq_true rfl)⟩ (e_X12_isWord l m x0 x1 x2 (nI L) (nI (tN f L m1)) (nI (tP f L m1)) (tK f L m1) wD tD x9 (ex_r x10 :: ex_r x11 :: ex_r x12 :: ex_r x13 :: ex_r x14 :: ex_r x15 :: ex_r x16 :: ex_r x17 :: ex_r x18 :: ex_r x19 :: ex_r x20 :: ex_r x21 :: ex_r x22 :: ex_r x23 :: ex_r x24 :: ex_r x25 :: ex_i (nI (1000 + i)) :: ex_i x27 :: ex_r x28 :: ex_r x29 :: ex_u x30 :: ex_u x31 :: ex_u x32 :: ex_u x33 :: ex_u x34 :: ex_u x35 :: ex_u x36 :: ex_u x37 :: ex_u x38 :: ex_u x39 :: ex_i x40 :: ex_j x41 :: F) 1111) dX12_reads_308 [0, 1, 2, 3, 4] (show List.Perm [0, 1, 2, 3, 4] (List.range 5) from by decide) rfl rfl rfl rfl (Nat.le_of_ble_eq_true rfl) (fun cs1 r hq hk => ?_)
              rcases hq with ⟨hp_66, rfl, rfl⟩ | ⟨hp_67, rfl, rfl⟩
              · refine X_if_ne (tgt := 324) dX12_reads_311 (by decide) (fun _ => ?_) (fun c_ => absurd c_ (by decide))
                refine X_aload_n (j := 0) dX12_reads_324 rfl rfl ?_
                refine X_aload_n (j := 0) dX12_reads_325 rfl rfl ?_
                refine X_ldc2_w (v := 1111) k_1593 dX12_reads_326 ?_
                refine X_callV (j0 := 0) (rest := [(x2, ex_a 1 1000 f), (x25, ex_a 1 2000 cd1), (x28, ex_a 1 7 op1), (x29, ex_a 3 7 cm1)]) (stk := [ex_r m]) co_X12_214 rfl ⟨(Nat.le_of_ble_eq_true rfl), (Nat.le_of_ble_eq_true rfl)⟩ (e_X12_isWord l m x0 x1 x2 (nI L) (nI (tN f L m1)) (nI (tP f L m1)) (tK f L m1) wD tD x9 (ex_r x10 :: ex_r x11 :: ex_r x12 :: ex_r x13 :: ex_r x14 :: ex_r x15 :: ex_r x16 :: ex_r x17 :: ex_r x18 :: ex_r x19 :: ex_r x20 :: ex_r x21 :: ex_r x22 :: ex_r x23 :: ex_r x24 :: ex_r x25 :: ex_i (nI (1000 + i)) :: ex_i x27 :: ex_r x28 :: ex_r x29 :: ex_u x30 :: ex_u x31 :: ex_u x32 :: ex_u x33 :: ex_u x34 :: ex_u x35 :: ex_u x36 :: ex_u x37 :: ex_u x38 :: ex_u x39 :: ex_i x40 :: ex_j x41 :: F) 1111) dX12_reads_329 [0, 1, 2, 3, 4] (show List.Perm [0, 1, 2, 3, 4] (List.range 5) from by decide) rfl rfl rfl rfl (Nat.le_of_ble_eq_true rfl) (fun cs1 r hq hk => ?_)
                rcases hq with ⟨hp_68, rfl, rfl⟩ | ⟨hp_69, rfl, rfl⟩
                · refine X_if_eq (tgt := 340) dX12_reads_332 (by decide) (fun c_ => absurd c_ (by decide)) (fun _ => ?_)
                  refine X_bipush (v := 26) dX12_reads_335 (by decide) ?_
                  refine X_goto (tgt := 342) dX12_reads_337 (by decide) ?_
                  refine X_callV (j0 := 0) (rest := [(x2, ex_a 1 1000 f), (x28, ex_a 1 7 op1), (x29, ex_a 3 7 cm1)]) (stk := []) co_X12_225 rfl ⟨(Nat.le_of_ble_eq_true rfl), (Nat.le_of_ble_eq_true rfl)⟩ (e_X12_puts l m x0 x1 x2 (nI L) (nI (tN f L m1)) (nI (tP f L m1)) (tK f L m1) wD tD x9 x10 x11 x12 x13 x14 x15 x16 x17 x18 x19 x20 x21 x22 x23 x24 x25 x27 x28 x29 x30 x31 x32 x33 x34 x35 x36 x37 x38 x39 x40 x41 F cd1 i 26 (by have hz := tK_lt (f := f) (L := L) (n := m1) (fun e => absurd (e.symm.trans hp_66.1) (by decide)); have hy := hI.1; omega)) dX12_reads_342 [0, 2, 1, 3, 4] (show List.Perm [0, 2, 1, 3, 4] (List.range 5) from by decide) rfl rfl rfl rfl (Nat.le_of_ble_eq_true rfl) (fun cs1 r hq hk => ?_)
                  rcases hq with ⟨rfl, rfl⟩
                  refine X_aload_n (j := 0) dX12_reads_345 rfl rfl ?_
                  refine X_get (j := 0) fo_X12_65 dX12_reads_346 rfl rfl ?_
                  refine X_iload_n (j := 1) dX12_reads_349 rfl rfl ?_
                  refine X_iconst (v := 0) dX12_reads_350 (by decide) ?_
                  refine X_zast (j := 4) (g := upd cm1 d 0) (cs' := [(m, ex_o 12 (ex_u x0 :: ex_i x1 :: ex_r x2 :: ex_i (nI L) :: ex_i (nI (tN f L m1)) :: ex_i (nI (tP f L m1)) :: ex_i (tK f L m1) :: ex_j wD :: ex_i tD :: ex_i x9 :: ex_r x10 :: ex_r x11 :: ex_r x12 :: ex_r x13 :: ex_r x14 :: ex_r x15 :: ex_r x16 :: ex_r x17 :: ex_r x18 :: ex_r x19 :: ex_r x20 :: ex_r x21 :: ex_r x22 :: ex_r x23 :: ex_r x24 :: ex_r x25 :: ex_i (nI (1000 + (i + 1))) :: ex_i x27 :: ex_r x28 :: ex_r x29 :: ex_u x30 :: ex_u x31 :: ex_u x32 :: ex_u x33 :: ex_u x34 :: ex_u x35 :: ex_u x36 :: ex_u x37 :: ex_u x38 :: ex_u x39 :: ex_i x40 :: ex_j x41 :: F)), (x25, ex_a 1 2000 (upd cd1 (1000 + i) 26)), (x2, ex_a 1 1000 f), (x28, ex_a 1 7 op1), (x29, ex_a 3 7 (upd cm1 d 0))]) dX12_reads_351 rfl (vp_in_nI (show d < 7 by omega) (by decide)) (by rw [nI_clamp (by omega)]; rfl) rfl ?_
                  refine X_iconst (v := 1) dX12_reads_352 (by decide) ?_
                  refine X_istore_n (lv' := [(2, ex_i 1), (0, ex_r m), (1, ex_i (nI d))]) dX12_reads_353 rfl (Nat.le_of_ble_eq_true rfl) rfl ?_
                  refine X_goto (tgt := 424) dX12_reads_354 (by decide) ?_
                  refine X_aload_n (j := 1) dX12_reads_424 rfl rfl ?_
                  refine X_callV (j0 := 0) (rest := [(x25, ex_a 1 2000 (upd cd1 (1000 + i) 26)), (x28, ex_a 1 7 op1), (x29, ex_a 3 7 (upd cm1 d 0))]) (stk := []) co_X12_229 rfl ⟨(Nat.le_of_ble_eq_true rfl), (Nat.le_of_ble_eq_true rfl)⟩ (e_X12_nextToken l m x0 x1 x2 (nI (tP f L m1)) (tK f L m1) wD tD x9 (ex_r x10 :: ex_r x11 :: ex_r x12 :: ex_r x13 :: ex_r x14 :: ex_r x15 :: ex_r x16 :: ex_r x17 :: ex_r x18 :: ex_r x19 :: ex_r x20 :: ex_r x21 :: ex_r x22 :: ex_r x23 :: ex_r x24 :: ex_r x25 :: ex_i (nI (1000 + (i + 1))) :: ex_i x27 :: ex_r x28 :: ex_r x29 :: ex_u x30 :: ex_u x31 :: ex_u x32 :: ex_u x33 :: ex_u x34 :: ex_u x35 :: ex_u x36 :: ex_u x37 :: ex_u x38 :: ex_u x39 :: ex_i x40 :: ex_j x41 :: F) f L (tN f L m1) hL (tN_le hI.2.1)) dX12_reads_425 [0, 2, 1, 3, 4] (show List.Perm [0, 2, 1, 3, 4] (List.range 5) from by decide) rfl rfl rfl rfl (Nat.le_of_ble_eq_true rfl) (fun cs1 r hq hk => ?_)
                  rcases hq with ⟨wd1_70, td1_71, hp_72, hp_73, rfl, rfl⟩
                  refine X_goto (tgt := 11) dX12_reads_428 (by decide) ?_
                  have hgt := tN_gt (fun e => absurd (e.symm.trans hp_66.1) (by decide))
                  have ha1 : i + 1 ≤ tN f L m1 := by have hz := hI.1; omega
                  refine X_lv (lv' := [(0, ex_r m), (1, ex_i (nI d)), (2, ex_i 1)]) [1, 2, 0] rfl ?_
                  exact ih (1, i + 1, (tN f L m1), d, op1, upd cm1 d 0, upd cd1 (1000 + i) 26, wd1_70, td1_71) (⟨ha1, tN_le hI.2.1, (by show d ≤ 5; first | omega | (have hz := hI.2.2.1; omega)), fun _ => Nat.succ_pos i, hp_72, hp_73, Or.inr rfl, by show _ = es_E f L (1001 - (i + 1)) 1 (tN f L m1) d op1 (upd cm1 d 0); rw [hI.2.2.2.2.2.2.2, hs, es_E_J1 rfl (by rw [jt_and ⟨hp_66.1, (rW_iff (c2 := 1111) hp_66.1 (by decide +kernel) (by decide +kernel)).mp (by rw [← q1 hp_66.1]; exact hp_66.2)⟩]; decide), show 1001 - (i + 1) = 1000 - i by omega]⟩) (by show 1001 - (i + 1) < 1001 - i; have hz := hI.1; have hy := hI.2.1; omega)
                · exact absurd hp_66 hp_69
              · refine X_if_ne (tgt := 324) dX12_reads_311 (by decide) (fun c_ => absurd rfl c_) (fun _ => ?_)
                refine X_aload_n (j := 0) dX12_reads_314 rfl rfl ?_
                refine X_ldc2_w (v := 423) k_1594 dX12_reads_315 ?_
                refine X_callV (j0 := 0) (rest := [(x2, ex_a 1 1000 f), (x25, ex_a 1 2000 cd1), (x28, ex_a 1 7 op1), (x29, ex_a 3 7 cm1)]) (stk := []) co_X12_214 rfl ⟨(Nat.le_of_ble_eq_true rfl), (Nat.le_of_ble_eq_true rfl)⟩ (e_X12_isWord l m x0 x1 x2 (nI L) (nI (tN f L m1)) (nI (tP f L m1)) (tK f L m1) wD tD x9 (ex_r x10 :: ex_r x11 :: ex_r x12 :: ex_r x13 :: ex_r x14 :: ex_r x15 :: ex_r x16 :: ex_r x17 :: ex_r x18 :: ex_r x19 :: ex_r x20 :: ex_r x21 :: ex_r x22 :: ex_r x23 :: ex_r x24 :: ex_r x25 :: ex_i (nI (1000 + i)) :: ex_i x27 :: ex_r x28 :: ex_r x29 :: ex_u x30 :: ex_u x31 :: ex_u x32 :: ex_u x33 :: ex_u x34 :: ex_u x35 :: ex_u x36 :: ex_u x37 :: ex_u x38 :: ex_u x39 :: ex_i x40 :: ex_j x41 :: F) 423) dX12_reads_318 [0, 1, 2, 3, 4] (show List.Perm [0, 1, 2, 3, 4] (List.range 5) from by decide) rfl rfl rfl rfl (Nat.le_of_ble_eq_true rfl) (fun cs1 r hq hk => ?_)
                rcases hq with ⟨hp_74, rfl, rfl⟩ | ⟨hp_75, rfl, rfl⟩
                · refine X_if_eq (tgt := 357) dX12_reads_321 (by decide) (fun c_ => absurd c_ (by decide)) (fun _ => ?_)
                  refine X_aload_n (j := 0) dX12_reads_324 rfl rfl ?_
                  refine X_aload_n (j := 0) dX12_reads_325 rfl rfl ?_
                  refine X_ldc2_w (v := 1111) k_1593 dX12_reads_326 ?_
                  refine X_callV (j0 := 0) (rest := [(x2, ex_a 1 1000 f), (x25, ex_a 1 2000 cd1), (x28, ex_a 1 7 op1), (x29, ex_a 3 7 cm1)]) (stk := [ex_r m]) co_X12_214 rfl ⟨(Nat.le_of_ble_eq_true rfl), (Nat.le_of_ble_eq_true rfl)⟩ (e_X12_isWord l m x0 x1 x2 (nI L) (nI (tN f L m1)) (nI (tP f L m1)) (tK f L m1) wD tD x9 (ex_r x10 :: ex_r x11 :: ex_r x12 :: ex_r x13 :: ex_r x14 :: ex_r x15 :: ex_r x16 :: ex_r x17 :: ex_r x18 :: ex_r x19 :: ex_r x20 :: ex_r x21 :: ex_r x22 :: ex_r x23 :: ex_r x24 :: ex_r x25 :: ex_i (nI (1000 + i)) :: ex_i x27 :: ex_r x28 :: ex_r x29 :: ex_u x30 :: ex_u x31 :: ex_u x32 :: ex_u x33 :: ex_u x34 :: ex_u x35 :: ex_u x36 :: ex_u x37 :: ex_u x38 :: ex_u x39 :: ex_i x40 :: ex_j x41 :: F) 1111) dX12_reads_329 [0, 1, 2, 3, 4] (show List.Perm [0, 1, 2, 3, 4] (List.range 5) from by decide) rfl rfl rfl rfl (Nat.le_of_ble_eq_true rfl) (fun cs1 r hq hk => ?_)
                  rcases hq with ⟨hp_76, rfl, rfl⟩ | ⟨hp_77, rfl, rfl⟩
                  · exact absurd hp_76 hp_67
                  · refine X_if_eq (tgt := 340) dX12_reads_332 (by decide) (fun _ => ?_) (fun c_ => absurd rfl c_)
                    refine X_bipush (v := 27) dX12_reads_340 (by decide) ?_
                    refine X_callV (j0 := 0) (rest := [(x2, ex_a 1 1000 f), (x28, ex_a 1 7 op1), (x29, ex_a 3 7 cm1)]) (stk := []) co_X12_225 rfl ⟨(Nat.le_of_ble_eq_true rfl), (Nat.le_of_ble_eq_true rfl)⟩ (e_X12_puts l m x0 x1 x2 (nI L) (nI (tN f L m1)) (nI (tP f L m1)) (tK f L m1) wD tD x9 x10 x11 x12 x13 x14 x15 x16 x17 x18 x19 x20 x21 x22 x23 x24 x25 x27 x28 x29 x30 x31 x32 x33 x34 x35 x36 x37 x38 x39 x40 x41 F cd1 i 27 (by have hz := tK_lt (f := f) (L := L) (n := m1) (fun e => absurd (e.symm.trans hp_74.1) (by decide)); have hy := hI.1; omega)) dX12_reads_342 [0, 2, 1, 3, 4] (show List.Perm [0, 2, 1, 3, 4] (List.range 5) from by decide) rfl rfl rfl rfl (Nat.le_of_ble_eq_true rfl) (fun cs1 r hq hk => ?_)
                    rcases hq with ⟨rfl, rfl⟩
                    refine X_aload_n (j := 0) dX12_reads_345 rfl rfl ?_
                    refine X_get (j := 0) fo_X12_65 dX12_reads_346 rfl rfl ?_
                    refine X_iload_n (j := 1) dX12_reads_349 rfl rfl ?_
                    refine X_iconst (v := 0) dX12_reads_350 (by decide) ?_
                    refine X_zast (j := 4) (g := upd cm1 d 0) (cs' := [(m, ex_o 12 (ex_u x0 :: ex_i x1 :: ex_r x2 :: ex_i (nI L) :: ex_i (nI (tN f L m1)) :: ex_i (nI (tP f L m1)) :: ex_i (tK f L m1) :: ex_j wD :: ex_i tD :: ex_i x9 :: ex_r x10 :: ex_r x11 :: ex_r x12 :: ex_r x13 :: ex_r x14 :: ex_r x15 :: ex_r x16 :: ex_r x17 :: ex_r x18 :: ex_r x19 :: ex_r x20 :: ex_r x21 :: ex_r x22 :: ex_r x23 :: ex_r x24 :: ex_r x25 :: ex_i (nI (1000 + (i + 1))) :: ex_i x27 :: ex_r x28 :: ex_r x29 :: ex_u x30 :: ex_u x31 :: ex_u x32 :: ex_u x33 :: ex_u x34 :: ex_u x35 :: ex_u x36 :: ex_u x37 :: ex_u x38 :: ex_u x39 :: ex_i x40 :: ex_j x41 :: F)), (x25, ex_a 1 2000 (upd cd1 (1000 + i) 27)), (x2, ex_a 1 1000 f), (x28, ex_a 1 7 op1), (x29, ex_a 3 7 (upd cm1 d 0))]) dX12_reads_351 rfl (vp_in_nI (show d < 7 by omega) (by decide)) (by rw [nI_clamp (by omega)]; rfl) rfl ?_
                    refine X_iconst (v := 1) dX12_reads_352 (by decide) ?_
                    refine X_istore_n (lv' := [(2, ex_i 1), (0, ex_r m), (1, ex_i (nI d))]) dX12_reads_353 rfl (Nat.le_of_ble_eq_true rfl) rfl ?_
                    refine X_goto (tgt := 424) dX12_reads_354 (by decide) ?_
                    refine X_aload_n (j := 1) dX12_reads_424 rfl rfl ?_
                    refine X_callV (j0 := 0) (rest := [(x25, ex_a 1 2000 (upd cd1 (1000 + i) 27)), (x28, ex_a 1 7 op1), (x29, ex_a 3 7 (upd cm1 d 0))]) (stk := []) co_X12_229 rfl ⟨(Nat.le_of_ble_eq_true rfl), (Nat.le_of_ble_eq_true rfl)⟩ (e_X12_nextToken l m x0 x1 x2 (nI (tP f L m1)) (tK f L m1) wD tD x9 (ex_r x10 :: ex_r x11 :: ex_r x12 :: ex_r x13 :: ex_r x14 :: ex_r x15 :: ex_r x16 :: ex_r x17 :: ex_r x18 :: ex_r x19 :: ex_r x20 :: ex_r x21 :: ex_r x22 :: ex_r x23 :: ex_r x24 :: ex_r x25 :: ex_i (nI (1000 + (i + 1))) :: ex_i x27 :: ex_r x28 :: ex_r x29 :: ex_u x30 :: ex_u x31 :: ex_u x32 :: ex_u x33 :: ex_u x34 :: ex_u x35 :: ex_u x36 :: ex_u x37 :: ex_u x38 :: ex_u x39 :: ex_i x40 :: ex_j x41 :: F) f L (tN f L m1) hL (tN_le hI.2.1)) dX12_reads_425 [0, 2, 1, 3, 4] (show List.Perm [0, 2, 1, 3, 4] (List.range 5) from by decide) rfl rfl rfl rfl (Nat.le_of_ble_eq_true rfl) (fun cs1 r hq hk => ?_)
                    rcases hq with ⟨wd1_78, td1_79, hp_80, hp_81, rfl, rfl⟩
                    refine X_goto (tgt := 11) dX12_reads_428 (by decide) ?_
                    have hgt := tN_gt (fun e => absurd (e.symm.trans hp_74.1) (by decide))
                    have ha1 : i + 1 ≤ tN f L m1 := by have hz := hI.1; omega
                    refine X_lv (lv' := [(0, ex_r m), (1, ex_i (nI d)), (2, ex_i 1)]) [1, 2, 0] rfl ?_
                    exact ih (1, i + 1, (tN f L m1), d, op1, upd cm1 d 0, upd cd1 (1000 + i) 27, wd1_78, td1_79) (⟨ha1, tN_le hI.2.1, (by show d ≤ 5; first | omega | (have hz := hI.2.2.1; omega)), fun _ => Nat.succ_pos i, hp_80, hp_81, Or.inr rfl, by show _ = es_E f L (1001 - (i + 1)) 1 (tN f L m1) d op1 (upd cm1 d 0); rw [hI.2.2.2.2.2.2.2, hs, es_E_J1 rfl (by rw [jt_or ⟨hp_74.1, (rW_iff (c2 := 423) hp_74.1 (by decide +kernel) (by decide +kernel)).mp (by rw [← q1 hp_74.1]; exact hp_74.2)⟩]; decide), show 1001 - (i + 1) = 1000 - i by omega]⟩) (by show 1001 - (i + 1) < 1001 - i; have hz := hI.1; have hy := hI.2.1; omega)
                · refine X_if_eq (tgt := 357) dX12_reads_321 (by decide) (fun _ => ?_) (fun c_ => absurd rfl c_)
                  refine X_aload_n (j := 0) dX12_reads_357 rfl rfl ?_
                  refine X_bipush (v := 41) dX12_reads_358 (by decide) ?_
                  refine X_callV (j0 := 0) (rest := [(x25, ex_a 1 2000 cd1), (x28, ex_a 1 7 op1), (x29, ex_a 3 7 cm1)]) (stk := []) co_X12_218 rfl ⟨(Nat.le_of_ble_eq_true rfl), (Nat.le_of_ble_eq_true rfl)⟩ (e_X12_isSign l m x0 x1 x2 (nI (tN f L m1)) (tK f L m1) wD tD x9 (ex_r x10 :: ex_r x11 :: ex_r x12 :: ex_r x13 :: ex_r x14 :: ex_r x15 :: ex_r x16 :: ex_r x17 :: ex_r x18 :: ex_r x19 :: ex_r x20 :: ex_r x21 :: ex_r x22 :: ex_r x23 :: ex_r x24 :: ex_r x25 :: ex_i (nI (1000 + i)) :: ex_i x27 :: ex_r x28 :: ex_r x29 :: ex_u x30 :: ex_u x31 :: ex_u x32 :: ex_u x33 :: ex_u x34 :: ex_u x35 :: ex_u x36 :: ex_u x37 :: ex_u x38 :: ex_u x39 :: ex_i x40 :: ex_j x41 :: F) f L (tP f L m1) 41 (fun q => Nat.lt_of_lt_of_le (tK3_lt q) hL)) dX12_reads_360 [0, 1, 2, 3, 4] (show List.Perm [0, 1, 2, 3, 4] (List.range 5) from by decide) rfl rfl rfl rfl (Nat.le_of_ble_eq_true rfl) (fun cs1 r hq hk => ?_)
                  rcases hq with ⟨hp_82, rfl, rfl⟩ | ⟨hp_83, rfl, rfl⟩
                  · refine X_if_eq (tgt := 399) dX12_reads_363 (by decide) (fun c_ => absurd c_ (by decide)) (fun _ => ?_)
                    refine X_iload_n (j := 1) dX12_reads_366 rfl rfl ?_
                    refine X_if_le (tgt := 399) dX12_reads_367 (by decide) (fun c_84 => ?_) (fun c_84 => ?_)
                    · refine X_iload_n (j := 1) dX12_reads_399 rfl rfl ?_
                      refine X_if_ne (tgt := 418) dX12_reads_400 (by decide) (fun c_85 => ?_) (fun c_85 => ?_)
                      · refine X_aload_n (j := 0) dX12_reads_418 rfl rfl ?_
                        refine X_iconst (v := 1) dX12_reads_419 (by decide) ?_
                        refine X_callV (j0 := 0) (rest := [(x2, ex_a 1 1000 f), (x25, ex_a 1 2000 cd1), (x28, ex_a 1 7 op1), (x29, ex_a 3 7 cm1)]) (stk := []) co_X12_222 rfl ⟨(Nat.le_of_ble_eq_true rfl), (Nat.le_of_ble_eq_true rfl)⟩ (e_X12_fails l m x0 x1 x2 (nI L) (nI (tN f L m1)) (nI (tP f L m1)) (tK f L m1) wD tD x9 (ex_r x10 :: ex_r x11 :: ex_r x12 :: ex_r x13 :: ex_r x14 :: ex_r x15 :: ex_r x16 :: ex_r x17 :: ex_r x18 :: ex_r x19 :: ex_r x20 :: ex_r x21 :: ex_r x22 :: ex_r x23 :: ex_r x24 :: ex_r x25 :: ex_i (nI (1000 + i)) :: ex_i x27 :: ex_r x28 :: ex_r x29 :: ex_u x30 :: ex_u x31 :: ex_u x32 :: ex_u x33 :: ex_u x34 :: ex_u x35 :: ex_u x36 :: ex_u x37 :: ex_u x38 :: ex_u x39 :: ex_i x40 :: ex_j x41 :: F) 1) dX12_reads_420 [0, 1, 2, 3, 4] (show List.Perm [0, 1, 2, 3, 4] (List.range 5) from by decide) rfl rfl rfl rfl (Nat.le_of_ble_eq_true rfl) (fun cs1 r hq hk => ?_)
                        rcases hq with ⟨rfl, rfl⟩
                        exact X_iret ex_nZ rfl dX12_reads_423 rfl (Or.inr ⟨(nI (tN f L m1)), (nI (tP f L m1)), (tK f L m1), tD, (1 + 16 * (nI (tP f L m1))), wD, (1000 + i), cd1, op1, cm1, (by rw [hI.2.2.2.2.2.2.2, hs, es_E_Jf rfl (jt_41 hp_82) (fun q => nI_nle q.2 (by omega) c_84) (fun q => c_85 (by rw [q.1]; rfl))]; rfl), rfl, rfl⟩)
                      · refine X_aload_n (j := 0) dX12_reads_403 rfl rfl ?_
                        refine X_bipush (v := 59) dX12_reads_404 (by decide) ?_
                        refine X_callV (j0 := 0) (rest := [(x25, ex_a 1 2000 cd1), (x28, ex_a 1 7 op1), (x29, ex_a 3 7 cm1)]) (stk := []) co_X12_218 rfl ⟨(Nat.le_of_ble_eq_true rfl), (Nat.le_of_ble_eq_true rfl)⟩ (e_X12_isSign l m x0 x1 x2 (nI (tN f L m1)) (tK f L m1) wD tD x9 (ex_r x10 :: ex_r x11 :: ex_r x12 :: ex_r x13 :: ex_r x14 :: ex_r x15 :: ex_r x16 :: ex_r x17 :: ex_r x18 :: ex_r x19 :: ex_r x20 :: ex_r x21 :: ex_r x22 :: ex_r x23 :: ex_r x24 :: ex_r x25 :: ex_i (nI (1000 + i)) :: ex_i x27 :: ex_r x28 :: ex_r x29 :: ex_u x30 :: ex_u x31 :: ex_u x32 :: ex_u x33 :: ex_u x34 :: ex_u x35 :: ex_u x36 :: ex_u x37 :: ex_u x38 :: ex_u x39 :: ex_i x40 :: ex_j x41 :: F) f L (tP f L m1) 59 (fun q => Nat.lt_of_lt_of_le (tK3_lt q) hL)) dX12_reads_406 [0, 1, 2, 3, 4] (show List.Perm [0, 1, 2, 3, 4] (List.range 5) from by decide) rfl rfl rfl rfl (Nat.le_of_ble_eq_true rfl) (fun cs1 r hq hk => ?_)
                        rcases hq with ⟨hp_86, rfl, rfl⟩ | ⟨hp_87, rfl, rfl⟩
                        · exact absurd (hp_82.2.symm.trans hp_86.2) (by decide)
                        · refine X_if_eq (tgt := 418) dX12_reads_409 (by decide) (fun _ => ?_) (fun c_ => absurd rfl c_)
                          refine X_aload_n (j := 0) dX12_reads_418 rfl rfl ?_
                          refine X_iconst (v := 1) dX12_reads_419 (by decide) ?_
                          refine X_callV (j0 := 0) (rest := [(x2, ex_a 1 1000 f), (x25, ex_a 1 2000 cd1), (x28, ex_a 1 7 op1), (x29, ex_a 3 7 cm1)]) (stk := []) co_X12_222 rfl ⟨(Nat.le_of_ble_eq_true rfl), (Nat.le_of_ble_eq_true rfl)⟩ (e_X12_fails l m x0 x1 x2 (nI L) (nI (tN f L m1)) (nI (tP f L m1)) (tK f L m1) wD tD x9 (ex_r x10 :: ex_r x11 :: ex_r x12 :: ex_r x13 :: ex_r x14 :: ex_r x15 :: ex_r x16 :: ex_r x17 :: ex_r x18 :: ex_r x19 :: ex_r x20 :: ex_r x21 :: ex_r x22 :: ex_r x23 :: ex_r x24 :: ex_r x25 :: ex_i (nI (1000 + i)) :: ex_i x27 :: ex_r x28 :: ex_r x29 :: ex_u x30 :: ex_u x31 :: ex_u x32 :: ex_u x33 :: ex_u x34 :: ex_u x35 :: ex_u x36 :: ex_u x37 :: ex_u x38 :: ex_u x39 :: ex_i x40 :: ex_j x41 :: F) 1) dX12_reads_420 [0, 1, 2, 3, 4] (show List.Perm [0, 1, 2, 3, 4] (List.range 5) from by decide) rfl rfl rfl rfl (Nat.le_of_ble_eq_true rfl) (fun cs1 r hq hk => ?_)
                          rcases hq with ⟨rfl, rfl⟩
                          exact X_iret ex_nZ rfl dX12_reads_423 rfl (Or.inr ⟨(nI (tN f L m1)), (nI (tP f L m1)), (tK f L m1), tD, (1 + 16 * (nI (tP f L m1))), wD, (1000 + i), cd1, op1, cm1, (by rw [hI.2.2.2.2.2.2.2, hs, es_E_Jf rfl (jt_41 hp_82) (fun q => nI_nle q.2 (by omega) c_84) (fun q => hp_87 q.2)]; rfl), rfl, rfl⟩)
                    · obtain ⟨kd, rfl⟩ : ∃ kd, d = kd + 1 := ex_ow (Nat.pos_of_ne_zero (fun q => c_84 (by rw [q]; decide)))
                      refine X_aload_n (j := 0) dX12_reads_370 rfl rfl ?_
                      refine X_bipush (v := 29) dX12_reads_371 (by decide) ?_
                      refine X_callV (j0 := 0) (rest := [(x2, ex_a 1 1000 f), (x28, ex_a 1 7 op1), (x29, ex_a 3 7 cm1)]) (stk := []) co_X12_225 rfl ⟨(Nat.le_of_ble_eq_true rfl), (Nat.le_of_ble_eq_true rfl)⟩ (e_X12_puts l m x0 x1 x2 (nI L) (nI (tN f L m1)) (nI (tP f L m1)) (tK f L m1) wD tD x9 x10 x11 x12 x13 x14 x15 x16 x17 x18 x19 x20 x21 x22 x23 x24 x25 x27 x28 x29 x30 x31 x32 x33 x34 x35 x36 x37 x38 x39 x40 x41 F cd1 i 29 (by have hz := tK_lt (f := f) (L := L) (n := m1) (fun e => absurd (e.symm.trans hp_82.1) (by decide)); have hy := hI.1; omega)) dX12_reads_373 [0, 2, 1, 3, 4] (show List.Perm [0, 2, 1, 3, 4] (List.range 5) from by decide) rfl rfl rfl rfl (Nat.le_of_ble_eq_true rfl) (fun cs1 r hq hk => ?_)
                      rcases hq with ⟨rfl, rfl⟩
                      refine X_iinc (v := nI kd) (j := 1) (lv' := [(1, ex_i (nI kd)), (0, ex_r m), (2, ex_i 0)]) dX12_reads_376 rfl (nI_pi kd) (Nat.le_of_ble_eq_true rfl) rfl ?_
                      refine X_lv (lv' := [(0, ex_r m), (1, ex_i (nI kd)), (2, ex_i 0)]) [1, 0, 2] rfl ?_
                      refine X_ind (fun (e : Nat) => e ≤ 5 ∧ ppN op1 kd = ppN op1 e) (fun (e : Nat) => e) (fun (e : Nat) => [(m, ex_o 12 (ex_u x0 :: ex_i x1 :: ex_r x2 :: ex_i (nI L) :: ex_i (nI (tN f L m1)) :: ex_i (nI (tP f L m1)) :: ex_i (tK f L m1) :: ex_j wD :: ex_i tD :: ex_i x9 :: ex_r x10 :: ex_r x11 :: ex_r x12 :: ex_r x13 :: ex_r x14 :: ex_r x15 :: ex_r x16 :: ex_r x17 :: ex_r x18 :: ex_r x19 :: ex_r x20 :: ex_r x21 :: ex_r x22 :: ex_r x23 :: ex_r x24 :: ex_r x25 :: ex_i (nI (1000 + (i + 1))) :: ex_i x27 :: ex_r x28 :: ex_r x29 :: ex_u x30 :: ex_u x31 :: ex_u x32 :: ex_u x33 :: ex_u x34 :: ex_u x35 :: ex_u x36 :: ex_u x37 :: ex_u x38 :: ex_u x39 :: ex_i x40 :: ex_j x41 :: F)), (x25, ex_a 1 2000 (upd cd1 (1000 + i) 29)), (x2, ex_a 1 1000 f), (x28, ex_a 1 7 op1), (x29, ex_a 3 7 cm1)]) (fun (e : Nat) => [(0, ex_r m), (1, ex_i (nI e)), (2, ex_i 0)]) (fun e hI2 ih2 => ?_) kd (⟨by omega, rfl⟩)
                      try dsimp only at hI2 ih2 ⊢
                      refine X_iload_n (j := 1) dX12_reads_379 rfl rfl ?_
                      refine X_if_le (tgt := 424) dX12_reads_380 (by decide) (fun c_88 => ?_) (fun c_88 => ?_)
                      · have hpe : ppN op1 kd = e := by rw [hI2.2]; exact ppN_n (Or.inl (Nat.eq_zero_of_not_pos (fun q => nI_nle q (by have hz := hI2.1; omega) c_88)))
                        have he5 := hI2.1
                        refine X_aload_n (j := 0) dX12_reads_424 rfl rfl ?_
                        refine X_callV (j0 := 0) (rest := [(x25, ex_a 1 2000 (upd cd1 (1000 + i) 29)), (x28, ex_a 1 7 op1), (x29, ex_a 3 7 cm1)]) (stk := []) co_X12_229 rfl ⟨(Nat.le_of_ble_eq_true rfl), (Nat.le_of_ble_eq_true rfl)⟩ (e_X12_nextToken l m x0 x1 x2 (nI (tP f L m1)) (tK f L m1) wD tD x9 (ex_r x10 :: ex_r x11 :: ex_r x12 :: ex_r x13 :: ex_r x14 :: ex_r x15 :: ex_r x16 :: ex_r x17 :: ex_r x18 :: ex_r x19 :: ex_r x20 :: ex_r x21 :: ex_r x22 :: ex_r x23 :: ex_r x24 :: ex_r x25 :: ex_i (nI (1000 + (i + 1))) :: ex_i x27 :: ex_r x28 :: ex_r x29 :: ex_u x30 :: ex_u x31 :: ex_u x32 :: ex_u x33 :: ex_u x34 :: ex_u x35 :: ex_u x36 :: ex_u x37 :: ex_u x38 :: ex_u x39 :: ex_i x40 :: ex_j x41 :: F) f L (tN f L m1) hL (tN_le hI.2.1)) dX12_reads_425 [0, 2, 1, 3, 4] (show List.Perm [0, 2, 1, 3, 4] (List.range 5) from by decide) rfl rfl rfl rfl (Nat.le_of_ble_eq_true rfl) (fun cs1 r hq hk => ?_)
                        rcases hq with ⟨wd1_89, td1_90, hp_91, hp_92, rfl, rfl⟩
                        refine X_goto (tgt := 11) dX12_reads_428 (by decide) ?_
                        have hgt := tN_gt (fun e => absurd (e.symm.trans hp_82.1) (by decide))
                        have ha1 : i + 1 ≤ tN f L m1 := by have hz := hI.1; omega
                        refine X_lv (lv' := [(0, ex_r m), (1, ex_i (nI e)), (2, ex_i 0)]) [0, 1, 2] rfl ?_
                        exact ih (0, i + 1, (tN f L m1), e, op1, cm1, upd cd1 (1000 + i) 29, wd1_89, td1_90) (⟨ha1, tN_le hI.2.1, (by show e ≤ 5; first | omega | (have hz := hI.2.2.1; omega)), fun _ => Nat.succ_pos i, hp_91, hp_92, Or.inl rfl, by show _ = es_E f L (1001 - (i + 1)) 0 (tN f L m1) e op1 cm1; rw [hI.2.2.2.2.2.2.2, hs, es_E_Jc rfl hp_82, hpe, show 1001 - (i + 1) = 1000 - i by omega]⟩) (by show 1001 - (i + 1) < 1001 - i; have hz := hI.1; have hy := hI.2.1; omega)
                      · obtain ⟨ke, rfl⟩ : ∃ ke, e = ke + 1 := ex_ow (Nat.pos_of_ne_zero (fun q => c_88 (by rw [q]; decide)))
                        have hke := hI2.1
                        refine X_aload_n (j := 0) dX12_reads_383 rfl rfl ?_
                        refine X_get (j := 0) fo_X12_62 dX12_reads_384 rfl rfl ?_
                        refine X_iload_n (j := 1) dX12_reads_387 rfl rfl ?_
                        refine X_iald (j := 3) (v := (op1 (ke + 1))) dX12_reads_388 rfl (vp_in_nI (show ke + 1 < 7 by omega) (by decide)) (by rw [nI_clamp (by omega)]) ?_
                        refine X_iconst (v := 1) dX12_reads_389 (by decide) ?_
                        refine X_icmp_ne (tgt := 424) dX12_reads_390 (by decide) (fun c_93 => ?_) (fun c_93 => ?_)
                        · have hpe : ppN op1 kd = (ke + 1) := by rw [hI2.2]; exact ppN_n (Or.inr c_93)
                          have he5 := hI2.1
                          refine X_aload_n (j := 0) dX12_reads_424 rfl rfl ?_
                          refine X_callV (j0 := 0) (rest := [(x25, ex_a 1 2000 (upd cd1 (1000 + i) 29)), (x28, ex_a 1 7 op1), (x29, ex_a 3 7 cm1)]) (stk := []) co_X12_229 rfl ⟨(Nat.le_of_ble_eq_true rfl), (Nat.le_of_ble_eq_true rfl)⟩ (e_X12_nextToken l m x0 x1 x2 (nI (tP f L m1)) (tK f L m1) wD tD x9 (ex_r x10 :: ex_r x11 :: ex_r x12 :: ex_r x13 :: ex_r x14 :: ex_r x15 :: ex_r x16 :: ex_r x17 :: ex_r x18 :: ex_r x19 :: ex_r x20 :: ex_r x21 :: ex_r x22 :: ex_r x23 :: ex_r x24 :: ex_r x25 :: ex_i (nI (1000 + (i + 1))) :: ex_i x27 :: ex_r x28 :: ex_r x29 :: ex_u x30 :: ex_u x31 :: ex_u x32 :: ex_u x33 :: ex_u x34 :: ex_u x35 :: ex_u x36 :: ex_u x37 :: ex_u x38 :: ex_u x39 :: ex_i x40 :: ex_j x41 :: F) f L (tN f L m1) hL (tN_le hI.2.1)) dX12_reads_425 [0, 2, 1, 3, 4] (show List.Perm [0, 2, 1, 3, 4] (List.range 5) from by decide) rfl rfl rfl rfl (Nat.le_of_ble_eq_true rfl) (fun cs1 r hq hk => ?_)
                          rcases hq with ⟨wd1_94, td1_95, hp_96, hp_97, rfl, rfl⟩
                          refine X_goto (tgt := 11) dX12_reads_428 (by decide) ?_
                          have hgt := tN_gt (fun e => absurd (e.symm.trans hp_82.1) (by decide))
                          have ha1 : i + 1 ≤ tN f L m1 := by have hz := hI.1; omega
                          refine X_lv (lv' := [(0, ex_r m), (1, ex_i (nI (ke + 1))), (2, ex_i 0)]) [0, 1, 2] rfl ?_
                          exact ih (0, i + 1, (tN f L m1), ke + 1, op1, cm1, upd cd1 (1000 + i) 29, wd1_94, td1_95) (⟨ha1, tN_le hI.2.1, (by show ke + 1 ≤ 5; first | omega | (have hz := hI.2.2.1; omega)), fun _ => Nat.succ_pos i, hp_96, hp_97, Or.inl rfl, by show _ = es_E f L (1001 - (i + 1)) 0 (tN f L m1) (ke + 1) op1 cm1; rw [hI.2.2.2.2.2.2.2, hs, es_E_Jc rfl hp_82, hpe, show 1001 - (i + 1) = 1000 - i by omega]⟩) (by show 1001 - (i + 1) < 1001 - i; have hz := hI.1; have hy := hI.2.1; omega)
                        · refine X_iinc (v := nI ke) (j := 1) (lv' := [(1, ex_i (nI ke)), (0, ex_r m), (2, ex_i 0)]) dX12_reads_393 rfl (nI_pi ke) (Nat.le_of_ble_eq_true rfl) rfl ?_
                          refine X_goto (tgt := 379) dX12_reads_396 (by decide) ?_
                          refine X_lv (lv' := [(0, ex_r m), (1, ex_i (nI ke)), (2, ex_i 0)]) [1, 0, 2] rfl ?_
                          exact ih2 ke (⟨by have hz := hI2.1; omega, by rw [hI2.2, ppN_y c_93]⟩) (by omega)
                  · refine X_if_eq (tgt := 399) dX12_reads_363 (by decide) (fun _ => ?_) (fun c_ => absurd rfl c_)
                    refine X_iload_n (j := 1) dX12_reads_399 rfl rfl ?_
                    refine X_if_ne (tgt := 418) dX12_reads_400 (by decide) (fun c_98 => ?_) (fun c_98 => ?_)
                    · refine X_aload_n (j := 0) dX12_reads_418 rfl rfl ?_
                      refine X_iconst (v := 1) dX12_reads_419 (by decide) ?_
                      refine X_callV (j0 := 0) (rest := [(x2, ex_a 1 1000 f), (x25, ex_a 1 2000 cd1), (x28, ex_a 1 7 op1), (x29, ex_a 3 7 cm1)]) (stk := []) co_X12_222 rfl ⟨(Nat.le_of_ble_eq_true rfl), (Nat.le_of_ble_eq_true rfl)⟩ (e_X12_fails l m x0 x1 x2 (nI L) (nI (tN f L m1)) (nI (tP f L m1)) (tK f L m1) wD tD x9 (ex_r x10 :: ex_r x11 :: ex_r x12 :: ex_r x13 :: ex_r x14 :: ex_r x15 :: ex_r x16 :: ex_r x17 :: ex_r x18 :: ex_r x19 :: ex_r x20 :: ex_r x21 :: ex_r x22 :: ex_r x23 :: ex_r x24 :: ex_r x25 :: ex_i (nI (1000 + i)) :: ex_i x27 :: ex_r x28 :: ex_r x29 :: ex_u x30 :: ex_u x31 :: ex_u x32 :: ex_u x33 :: ex_u x34 :: ex_u x35 :: ex_u x36 :: ex_u x37 :: ex_u x38 :: ex_u x39 :: ex_i x40 :: ex_j x41 :: F) 1) dX12_reads_420 [0, 1, 2, 3, 4] (show List.Perm [0, 1, 2, 3, 4] (List.range 5) from by decide) rfl rfl rfl rfl (Nat.le_of_ble_eq_true rfl) (fun cs1 r hq hk => ?_)
                      rcases hq with ⟨rfl, rfl⟩
                      exact X_iret ex_nZ rfl dX12_reads_423 rfl (Or.inr ⟨(nI (tN f L m1)), (nI (tP f L m1)), (tK f L m1), tD, (1 + 16 * (nI (tP f L m1))), wD, (1000 + i), cd1, op1, cm1, (by rw [hI.2.2.2.2.2.2.2, hs, es_E_Jf rfl (jt_n (fun q => hp_67 ⟨q.1, by rw [q1 q.1]; exact (rW_iff q.1 (by decide +kernel) (by decide +kernel)).mpr q.2⟩) (fun q => hp_75 ⟨q.1, by rw [q1 q.1]; exact (rW_iff q.1 (by decide +kernel) (by decide +kernel)).mpr q.2⟩) hp_3 hp_11 hp_21 hp_31 hp_49) (fun q => hp_83 q.1) (fun q => c_98 (by rw [q.1]; rfl))]; rfl), rfl, rfl⟩)
                    · refine X_aload_n (j := 0) dX12_reads_403 rfl rfl ?_
                      refine X_bipush (v := 59) dX12_reads_404 (by decide) ?_
                      refine X_callV (j0 := 0) (rest := [(x25, ex_a 1 2000 cd1), (x28, ex_a 1 7 op1), (x29, ex_a 3 7 cm1)]) (stk := []) co_X12_218 rfl ⟨(Nat.le_of_ble_eq_true rfl), (Nat.le_of_ble_eq_true rfl)⟩ (e_X12_isSign l m x0 x1 x2 (nI (tN f L m1)) (tK f L m1) wD tD x9 (ex_r x10 :: ex_r x11 :: ex_r x12 :: ex_r x13 :: ex_r x14 :: ex_r x15 :: ex_r x16 :: ex_r x17 :: ex_r x18 :: ex_r x19 :: ex_r x20 :: ex_r x21 :: ex_r x22 :: ex_r x23 :: ex_r x24 :: ex_r x25 :: ex_i (nI (1000 + i)) :: ex_i x27 :: ex_r x28 :: ex_r x29 :: ex_u x30 :: ex_u x31 :: ex_u x32 :: ex_u x33 :: ex_u x34 :: ex_u x35 :: ex_u x36 :: ex_u x37 :: ex_u x38 :: ex_u x39 :: ex_i x40 :: ex_j x41 :: F) f L (tP f L m1) 59 (fun q => Nat.lt_of_lt_of_le (tK3_lt q) hL)) dX12_reads_406 [0, 1, 2, 3, 4] (show List.Perm [0, 1, 2, 3, 4] (List.range 5) from by decide) rfl rfl rfl rfl (Nat.le_of_ble_eq_true rfl) (fun cs1 r hq hk => ?_)
                      rcases hq with ⟨hp_99, rfl, rfl⟩ | ⟨hp_100, rfl, rfl⟩
                      · refine X_if_eq (tgt := 418) dX12_reads_409 (by decide) (fun c_ => absurd c_ (by decide)) (fun _ => ?_)
                        refine X_aload_n (j := 0) dX12_reads_412 rfl rfl ?_
                        refine X_callV (j0 := 0) (rest := [(x25, ex_a 1 2000 cd1), (x28, ex_a 1 7 op1), (x29, ex_a 3 7 cm1)]) (stk := []) co_X12_229 rfl ⟨(Nat.le_of_ble_eq_true rfl), (Nat.le_of_ble_eq_true rfl)⟩ (e_X12_nextToken l m x0 x1 x2 (nI (tP f L m1)) (tK f L m1) wD tD x9 (ex_r x10 :: ex_r x11 :: ex_r x12 :: ex_r x13 :: ex_r x14 :: ex_r x15 :: ex_r x16 :: ex_r x17 :: ex_r x18 :: ex_r x19 :: ex_r x20 :: ex_r x21 :: ex_r x22 :: ex_r x23 :: ex_r x24 :: ex_r x25 :: ex_i (nI (1000 + i)) :: ex_i x27 :: ex_r x28 :: ex_r x29 :: ex_u x30 :: ex_u x31 :: ex_u x32 :: ex_u x33 :: ex_u x34 :: ex_u x35 :: ex_u x36 :: ex_u x37 :: ex_u x38 :: ex_u x39 :: ex_i x40 :: ex_j x41 :: F) f L (tN f L m1) hL (tN_le hI.2.1)) dX12_reads_413 [0, 1, 2, 3, 4] (show List.Perm [0, 1, 2, 3, 4] (List.range 5) from by decide) rfl rfl rfl rfl (Nat.le_of_ble_eq_true rfl) (fun cs1 r hq hk => ?_)
                        rcases hq with ⟨wd1_101, td1_102, hp_103, hp_104, rfl, rfl⟩
                        refine X_iconst (v := 1) dX12_reads_416 (by decide) ?_
                        exact X_iret ex_nZ rfl dX12_reads_417 rfl (Or.inl ⟨wd1_101, td1_102, (tN f L m1), (1000 + i), cd1, op1, cm1, (by rw [hI.2.2.2.2.2.2.2, hs, es_E_J9 rfl hp_99 (nI_inj (n := 0) (by omega) (by decide) c_98)]), hp_103, hp_104, (tN_le hI.2.1), (by have hz := hI.1; have hy := hI.2.1; have hx := hI.2.2.2.1 rfl; omega), rfl, rfl⟩)
                      · refine X_if_eq (tgt := 418) dX12_reads_409 (by decide) (fun _ => ?_) (fun c_ => absurd rfl c_)
                        refine X_aload_n (j := 0) dX12_reads_418 rfl rfl ?_
                        refine X_iconst (v := 1) dX12_reads_419 (by decide) ?_
                        refine X_callV (j0 := 0) (rest := [(x2, ex_a 1 1000 f), (x25, ex_a 1 2000 cd1), (x28, ex_a 1 7 op1), (x29, ex_a 3 7 cm1)]) (stk := []) co_X12_222 rfl ⟨(Nat.le_of_ble_eq_true rfl), (Nat.le_of_ble_eq_true rfl)⟩ (e_X12_fails l m x0 x1 x2 (nI L) (nI (tN f L m1)) (nI (tP f L m1)) (tK f L m1) wD tD x9 (ex_r x10 :: ex_r x11 :: ex_r x12 :: ex_r x13 :: ex_r x14 :: ex_r x15 :: ex_r x16 :: ex_r x17 :: ex_r x18 :: ex_r x19 :: ex_r x20 :: ex_r x21 :: ex_r x22 :: ex_r x23 :: ex_r x24 :: ex_r x25 :: ex_i (nI (1000 + i)) :: ex_i x27 :: ex_r x28 :: ex_r x29 :: ex_u x30 :: ex_u x31 :: ex_u x32 :: ex_u x33 :: ex_u x34 :: ex_u x35 :: ex_u x36 :: ex_u x37 :: ex_u x38 :: ex_u x39 :: ex_i x40 :: ex_j x41 :: F) 1) dX12_reads_420 [0, 1, 2, 3, 4] (show List.Perm [0, 1, 2, 3, 4] (List.range 5) from by decide) rfl rfl rfl rfl (Nat.le_of_ble_eq_true rfl) (fun cs1 r hq hk => ?_)
                        rcases hq with ⟨rfl, rfl⟩
                        exact X_iret ex_nZ rfl dX12_reads_423 rfl (Or.inr ⟨(nI (tN f L m1)), (nI (tP f L m1)), (tK f L m1), tD, (1 + 16 * (nI (tP f L m1))), wD, (1000 + i), cd1, op1, cm1, (by rw [hI.2.2.2.2.2.2.2, hs, es_E_Jf rfl (jt_n (fun q => hp_67 ⟨q.1, by rw [q1 q.1]; exact (rW_iff q.1 (by decide +kernel) (by decide +kernel)).mpr q.2⟩) (fun q => hp_75 ⟨q.1, by rw [q1 q.1]; exact (rW_iff q.1 (by decide +kernel) (by decide +kernel)).mpr q.2⟩) hp_3 hp_11 hp_21 hp_31 hp_49) (fun q => hp_83 q.1) (fun q => hp_100 q.2)]; rfl), rfl, rfl⟩)
  · have hw1 : wa = 1 := hI.2.2.2.2.2.2.1.resolve_left c_1
    subst hw1
    refine X_aload_n (j := 0) dX12_reads_15 rfl rfl ?_
    refine X_callV (j0 := 0) (rest := [(x2, ex_a 1 1000 f), (x25, ex_a 1 2000 cd1), (x28, ex_a 1 7 op1), (x29, ex_a 3 7 cm1)]) (stk := []) co_X12_208 rfl ⟨(Nat.le_of_ble_eq_true rfl), (Nat.le_of_ble_eq_true rfl)⟩ (e_X12_fact l m x0 x1 x2 x9 x10 x11 x12 x13 x14 x15 x16 x17 x18 x19 x20 x21 x22 x23 x24 x25 (nI (1000 + i)) x27 x28 x29 x30 x31 x32 x33 x34 x35 x36 x37 x38 x39 x40 x41 F wD tD f L m1 hL hI.2.1 q1 q2) dX12_reads_16 [0, 1, 2, 3, 4] (show List.Perm [0, 1, 2, 3, 4] (List.range 5) from by decide) rfl rfl rfl rfl (Nat.le_of_ble_eq_true rfl) (fun cs1 r hq hk => ?_)
    rcases hq with ⟨fv_105, hp_106, hp_107, rfl, rfl⟩ | ⟨hp_108, rfl, rfl⟩
    · refine X_istore_n (lv' := [(3, ex_i fv_105), (0, ex_r m), (1, ex_i (nI d)), (2, ex_i 1)]) dX12_reads_19 rfl (Nat.le_of_ble_eq_true rfl) rfl ?_
      refine X_aload_n (j := 1) dX12_reads_20 rfl rfl ?_
      refine X_ldc2_w (v := 10631) k_1592 dX12_reads_21 ?_
      refine X_callV (j0 := 0) (rest := [(x2, ex_a 1 1000 f), (x25, ex_a 1 2000 cd1), (x28, ex_a 1 7 op1), (x29, ex_a 3 7 cm1)]) (stk := []) co_X12_214 rfl ⟨(Nat.le_of_ble_eq_true rfl), (Nat.le_of_ble_eq_true rfl)⟩ (e_X12_isWord l m x0 x1 x2 (nI L) (nI (tN f L m1)) (nI (tP f L m1)) (tK f L m1) wD tD x9 (ex_r x10 :: ex_r x11 :: ex_r x12 :: ex_r x13 :: ex_r x14 :: ex_r x15 :: ex_r x16 :: ex_r x17 :: ex_r x18 :: ex_r x19 :: ex_r x20 :: ex_r x21 :: ex_r x22 :: ex_r x23 :: ex_r x24 :: ex_r x25 :: ex_i (nI (1000 + i)) :: ex_i x27 :: ex_r x28 :: ex_r x29 :: ex_u x30 :: ex_u x31 :: ex_u x32 :: ex_u x33 :: ex_u x34 :: ex_u x35 :: ex_u x36 :: ex_u x37 :: ex_u x38 :: ex_u x39 :: ex_i x40 :: ex_j x41 :: F) 10631) dX12_reads_24 [0, 1, 2, 3, 4] (show List.Perm [0, 1, 2, 3, 4] (List.range 5) from by decide) rfl rfl rfl rfl (Nat.le_of_ble_eq_true rfl) (fun cs1 r hq hk => ?_)
      rcases hq with ⟨hp_109, rfl, rfl⟩ | ⟨hp_110, rfl, rfl⟩
      · refine X_istore (lv' := [(4, ex_i 1), (3, ex_i fv_105), (0, ex_r m), (1, ex_i (nI d)), (2, ex_i 1)]) dX12_reads_27 (Nat.le_of_ble_eq_true rfl) rfl ?_
        refine X_aload_n (j := 2) dX12_reads_29 rfl rfl ?_
        refine X_bipush (v := 40) dX12_reads_30 (by decide) ?_
        refine X_callV (j0 := 0) (rest := [(x25, ex_a 1 2000 cd1), (x28, ex_a 1 7 op1), (x29, ex_a 3 7 cm1)]) (stk := []) co_X12_218 rfl ⟨(Nat.le_of_ble_eq_true rfl), (Nat.le_of_ble_eq_true rfl)⟩ (e_X12_isSign l m x0 x1 x2 (nI (tN f L m1)) (tK f L m1) wD tD x9 (ex_r x10 :: ex_r x11 :: ex_r x12 :: ex_r x13 :: ex_r x14 :: ex_r x15 :: ex_r x16 :: ex_r x17 :: ex_r x18 :: ex_r x19 :: ex_r x20 :: ex_r x21 :: ex_r x22 :: ex_r x23 :: ex_r x24 :: ex_r x25 :: ex_i (nI (1000 + i)) :: ex_i x27 :: ex_r x28 :: ex_r x29 :: ex_u x30 :: ex_u x31 :: ex_u x32 :: ex_u x33 :: ex_u x34 :: ex_u x35 :: ex_u x36 :: ex_u x37 :: ex_u x38 :: ex_u x39 :: ex_i x40 :: ex_j x41 :: F) f L (tP f L m1) 40 (fun q => Nat.lt_of_lt_of_le (tK3_lt q) hL)) dX12_reads_32 [0, 1, 2, 3, 4] (show List.Perm [0, 1, 2, 3, 4] (List.range 5) from by decide) rfl rfl rfl rfl (Nat.le_of_ble_eq_true rfl) (fun cs1 r hq hk => ?_)
        rcases hq with ⟨hp_111, rfl, rfl⟩ | ⟨hp_112, rfl, rfl⟩
        · exact absurd (hp_109.1.symm.trans hp_111.1) (by decide)
        · refine X_istore (lv' := [(5, ex_i 0), (4, ex_i 1), (3, ex_i fv_105), (0, ex_r m), (1, ex_i (nI d)), (2, ex_i 1)]) dX12_reads_35 (Nat.le_of_ble_eq_true rfl) rfl ?_
          refine X_iload_n (j := 2) dX12_reads_37 rfl rfl ?_
          refine X_if_ne (tgt := 65) dX12_reads_38 (by decide) (fun _ => ?_) (fun c_ => absurd c_ (fun q => absurd hp_106 (by rw [q]; decide)))
          refine X_iload_n (j := 4) dX12_reads_65 rfl rfl ?_
          refine X_iconst (v := 5) dX12_reads_66 (by decide) ?_
          refine X_icmp_ne (tgt := 76) dX12_reads_67 (by decide) (fun c_113 => ?_) (fun c_113 => ?_)
          · have hd5 : d < 5 := Nat.lt_of_le_of_ne hI.2.2.1 (fun q => c_113 (by rw [q]; rfl))
            refine X_iload (j := 1) dX12_reads_76 rfl ?_
            refine X_if_ne (tgt := 86) dX12_reads_78 (by decide) (fun _ => ?_) (fun c_ => absurd c_ (by decide))
            refine X_aload_n (j := 3) dX12_reads_86 rfl rfl ?_
            refine X_iload (j := 1) dX12_reads_87 rfl ?_
            refine X_if_eq (tgt := 97) dX12_reads_89 (by decide) (fun c_ => absurd c_ (by decide)) (fun _ => ?_)
            refine X_bipush (v := 30) dX12_reads_92 (by decide) ?_
            refine X_goto (tgt := 99) dX12_reads_94 (by decide) ?_
            refine X_callV (j0 := 0) (rest := [(x2, ex_a 1 1000 f), (x28, ex_a 1 7 op1), (x29, ex_a 3 7 cm1)]) (stk := []) co_X12_225 rfl ⟨(Nat.le_of_ble_eq_true rfl), (Nat.le_of_ble_eq_true rfl)⟩ (e_X12_puts l m x0 x1 x2 (nI L) (nI (tN f L m1)) (nI (tP f L m1)) (tK f L m1) wD tD x9 x10 x11 x12 x13 x14 x15 x16 x17 x18 x19 x20 x21 x22 x23 x24 x25 x27 x28 x29 x30 x31 x32 x33 x34 x35 x36 x37 x38 x39 x40 x41 F cd1 i 30 (by have hz := tK_lt (f := f) (L := L) (n := m1) (fun e => absurd (e.symm.trans hp_109.1) (by decide)); have hy := hI.1; omega)) dX12_reads_99 [0, 2, 1, 3, 4] (show List.Perm [0, 2, 1, 3, 4] (List.range 5) from by decide) rfl rfl rfl rfl (Nat.le_of_ble_eq_true rfl) (fun cs1 r hq hk => ?_)
            rcases hq with ⟨rfl, rfl⟩
            refine X_iinc (v := nI (d + 1)) (j := 4) (lv' := [(1, ex_i (nI (d + 1))), (5, ex_i 0), (4, ex_i 1), (3, ex_i fv_105), (0, ex_r m), (2, ex_i 1)]) dX12_reads_102 rfl (nI_1 d) (Nat.le_of_ble_eq_true rfl) rfl ?_
            refine X_aload_n (j := 4) dX12_reads_105 rfl rfl ?_
            refine X_get (j := 0) fo_X12_62 dX12_reads_106 rfl rfl ?_
            refine X_iload_n (j := 0) dX12_reads_109 rfl rfl ?_
            refine X_iload (j := 2) dX12_reads_110 rfl ?_
            refine X_if_eq (tgt := 119) dX12_reads_112 (by decide) (fun c_ => absurd c_ (by decide)) (fun _ => ?_)
            refine X_iconst (v := 1) dX12_reads_115 (by decide) ?_
            refine X_goto (tgt := 120) dX12_reads_116 (by decide) ?_
            refine X_iast (j := 3) (g := upd op1 (d + 1) 1) (cs' := [(m, ex_o 12 (ex_u x0 :: ex_i x1 :: ex_r x2 :: ex_i (nI L) :: ex_i (nI (tN f L m1)) :: ex_i (nI (tP f L m1)) :: ex_i (tK f L m1) :: ex_j wD :: ex_i tD :: ex_i x9 :: ex_r x10 :: ex_r x11 :: ex_r x12 :: ex_r x13 :: ex_r x14 :: ex_r x15 :: ex_r x16 :: ex_r x17 :: ex_r x18 :: ex_r x19 :: ex_r x20 :: ex_r x21 :: ex_r x22 :: ex_r x23 :: ex_r x24 :: ex_r x25 :: ex_i (nI (1000 + (i + 1))) :: ex_i x27 :: ex_r x28 :: ex_r x29 :: ex_u x30 :: ex_u x31 :: ex_u x32 :: ex_u x33 :: ex_u x34 :: ex_u x35 :: ex_u x36 :: ex_u x37 :: ex_u x38 :: ex_u x39 :: ex_i x40 :: ex_j x41 :: F)), (x25, ex_a 1 2000 (upd cd1 (1000 + i) 30)), (x2, ex_a 1 1000 f), (x28, ex_a 1 7 (upd op1 (d + 1) 1)), (x29, ex_a 3 7 cm1)]) dX12_reads_120 rfl (vp_in_nI (show d + 1 < 7 by omega) (by decide)) (by rw [nI_clamp (by omega)]) rfl ?_
            refine X_aload_n (j := 4) dX12_reads_121 rfl rfl ?_
            refine X_get (j := 0) fo_X12_65 dX12_reads_122 rfl rfl ?_
            refine X_iload_n (j := 0) dX12_reads_125 rfl rfl ?_
            refine X_iconst (v := 0) dX12_reads_126 (by decide) ?_
            refine X_zast (j := 4) (g := upd cm1 (d + 1) 0) (cs' := [(m, ex_o 12 (ex_u x0 :: ex_i x1 :: ex_r x2 :: ex_i (nI L) :: ex_i (nI (tN f L m1)) :: ex_i (nI (tP f L m1)) :: ex_i (tK f L m1) :: ex_j wD :: ex_i tD :: ex_i x9 :: ex_r x10 :: ex_r x11 :: ex_r x12 :: ex_r x13 :: ex_r x14 :: ex_r x15 :: ex_r x16 :: ex_r x17 :: ex_r x18 :: ex_r x19 :: ex_r x20 :: ex_r x21 :: ex_r x22 :: ex_r x23 :: ex_r x24 :: ex_r x25 :: ex_i (nI (1000 + (i + 1))) :: ex_i x27 :: ex_r x28 :: ex_r x29 :: ex_u x30 :: ex_u x31 :: ex_u x32 :: ex_u x33 :: ex_u x34 :: ex_u x35 :: ex_u x36 :: ex_u x37 :: ex_u x38 :: ex_u x39 :: ex_i x40 :: ex_j x41 :: F)), (x25, ex_a 1 2000 (upd cd1 (1000 + i) 30)), (x2, ex_a 1 1000 f), (x28, ex_a 1 7 (upd op1 (d + 1) 1)), (x29, ex_a 3 7 (upd cm1 (d + 1) 0))]) dX12_reads_127 rfl (vp_in_nI (show d + 1 < 7 by omega) (by decide)) (by rw [nI_clamp (by omega)]; rfl) rfl ?_
            refine X_goto (tgt := 172) dX12_reads_128 (by decide) ?_
            refine X_aload_n (j := 4) dX12_reads_172 rfl rfl ?_
            refine X_callV (j0 := 0) (rest := [(x25, ex_a 1 2000 (upd cd1 (1000 + i) 30)), (x28, ex_a 1 7 (upd op1 (d + 1) 1)), (x29, ex_a 3 7 (upd cm1 (d + 1) 0))]) (stk := []) co_X12_229 rfl ⟨(Nat.le_of_ble_eq_true rfl), (Nat.le_of_ble_eq_true rfl)⟩ (e_X12_nextToken l m x0 x1 x2 (nI (tP f L m1)) (tK f L m1) wD tD x9 (ex_r x10 :: ex_r x11 :: ex_r x12 :: ex_r x13 :: ex_r x14 :: ex_r x15 :: ex_r x16 :: ex_r x17 :: ex_r x18 :: ex_r x19 :: ex_r x20 :: ex_r x21 :: ex_r x22 :: ex_r x23 :: ex_r x24 :: ex_r x25 :: ex_i (nI (1000 + (i + 1))) :: ex_i x27 :: ex_r x28 :: ex_r x29 :: ex_u x30 :: ex_u x31 :: ex_u x32 :: ex_u x33 :: ex_u x34 :: ex_u x35 :: ex_u x36 :: ex_u x37 :: ex_u x38 :: ex_u x39 :: ex_i x40 :: ex_j x41 :: F) f L (tN f L m1) hL (tN_le hI.2.1)) dX12_reads_173 [0, 2, 1, 3, 4] (show List.Perm [0, 2, 1, 3, 4] (List.range 5) from by decide) rfl rfl rfl rfl (Nat.le_of_ble_eq_true rfl) (fun cs1 r hq hk => ?_)
            rcases hq with ⟨wd1_114, td1_115, hp_116, hp_117, rfl, rfl⟩
            refine X_goto (tgt := 11) dX12_reads_176 (by decide) ?_
            have hgt := tN_gt (fun e => absurd (e.symm.trans hp_109.1) (by decide))
            have ha1 : i + 1 ≤ tN f L m1 := by have hz := hI.1; omega
            refine X_lv (lv' := [(0, ex_r m), (1, ex_i (nI (d + 1))), (2, ex_i 1)]) [4, 0, 5] rfl ?_
            exact ih (1, i + 1, (tN f L m1), d + 1, upd op1 (d + 1) 1, upd cm1 (d + 1) 0, upd cd1 (1000 + i) 30, wd1_114, td1_115) (⟨ha1, tN_le hI.2.1, (by show d + 1 ≤ 5; first | omega | (have hz := hI.2.2.1; omega)), fun _ => Nat.succ_pos i, hp_116, hp_117, Or.inr rfl, by show _ = es_E f L (1001 - (i + 1)) 1 (tN f L m1) (d + 1) (upd op1 (d + 1) 1) (upd cm1 (d + 1) 0); rw [hI.2.2.2.2.2.2.2, hs, es_E_Pn (by decide) hd5 (pt_not ⟨hp_109.1, (rW_iff (c2 := 10631) hp_109.1 (by decide +kernel) (by decide +kernel)).mp (by rw [← q1 hp_109.1]; exact hp_109.2)⟩), show 1001 - (i + 1) = 1000 - i by omega]⟩) (by show 1001 - (i + 1) < 1001 - i; have hz := hI.1; have hy := hI.2.1; omega)
          · refine X_aload_n (j := 3) dX12_reads_70 rfl rfl ?_
            refine X_iconst (v := 5) dX12_reads_71 (by decide) ?_
            refine X_callV (j0 := 0) (rest := [(x2, ex_a 1 1000 f), (x25, ex_a 1 2000 cd1), (x28, ex_a 1 7 op1), (x29, ex_a 3 7 cm1)]) (stk := []) co_X12_222 rfl ⟨(Nat.le_of_ble_eq_true rfl), (Nat.le_of_ble_eq_true rfl)⟩ (e_X12_fails l m x0 x1 x2 (nI L) (nI (tN f L m1)) (nI (tP f L m1)) (tK f L m1) wD tD x9 (ex_r x10 :: ex_r x11 :: ex_r x12 :: ex_r x13 :: ex_r x14 :: ex_r x15 :: ex_r x16 :: ex_r x17 :: ex_r x18 :: ex_r x19 :: ex_r x20 :: ex_r x21 :: ex_r x22 :: ex_r x23 :: ex_r x24 :: ex_r x25 :: ex_i (nI (1000 + i)) :: ex_i x27 :: ex_r x28 :: ex_r x29 :: ex_u x30 :: ex_u x31 :: ex_u x32 :: ex_u x33 :: ex_u x34 :: ex_u x35 :: ex_u x36 :: ex_u x37 :: ex_u x38 :: ex_u x39 :: ex_i x40 :: ex_j x41 :: F) 5) dX12_reads_72 [0, 1, 2, 3, 4] (show List.Perm [0, 1, 2, 3, 4] (List.range 5) from by decide) rfl rfl rfl rfl (Nat.le_of_ble_eq_true rfl) (fun cs1 r hq hk => ?_)
            rcases hq with ⟨rfl, rfl⟩
            exact X_iret ex_nZ rfl dX12_reads_75 rfl (Or.inr ⟨(nI (tN f L m1)), (nI (tP f L m1)), (tK f L m1), tD, (5 + 16 * (nI (tP f L m1))), wD, (1000 + i), cd1, op1, cm1, (by rw [hI.2.2.2.2.2.2.2, hs, es_E_P5 (by decide) (by rw [pt_not ⟨hp_109.1, (rW_iff (c2 := 10631) hp_109.1 (by decide +kernel) (by decide +kernel)).mp (by rw [← q1 hp_109.1]; exact hp_109.2)⟩]; decide) (by have hz := nI_inj (n := 5) (by omega) (by decide) c_113; omega)]; rfl), rfl, rfl⟩)
      · refine X_istore (lv' := [(4, ex_i 0), (3, ex_i fv_105), (0, ex_r m), (1, ex_i (nI d)), (2, ex_i 1)]) dX12_reads_27 (Nat.le_of_ble_eq_true rfl) rfl ?_
        refine X_aload_n (j := 2) dX12_reads_29 rfl rfl ?_
        refine X_bipush (v := 40) dX12_reads_30 (by decide) ?_
        refine X_callV (j0 := 0) (rest := [(x25, ex_a 1 2000 cd1), (x28, ex_a 1 7 op1), (x29, ex_a 3 7 cm1)]) (stk := []) co_X12_218 rfl ⟨(Nat.le_of_ble_eq_true rfl), (Nat.le_of_ble_eq_true rfl)⟩ (e_X12_isSign l m x0 x1 x2 (nI (tN f L m1)) (tK f L m1) wD tD x9 (ex_r x10 :: ex_r x11 :: ex_r x12 :: ex_r x13 :: ex_r x14 :: ex_r x15 :: ex_r x16 :: ex_r x17 :: ex_r x18 :: ex_r x19 :: ex_r x20 :: ex_r x21 :: ex_r x22 :: ex_r x23 :: ex_r x24 :: ex_r x25 :: ex_i (nI (1000 + i)) :: ex_i x27 :: ex_r x28 :: ex_r x29 :: ex_u x30 :: ex_u x31 :: ex_u x32 :: ex_u x33 :: ex_u x34 :: ex_u x35 :: ex_u x36 :: ex_u x37 :: ex_u x38 :: ex_u x39 :: ex_i x40 :: ex_j x41 :: F) f L (tP f L m1) 40 (fun q => Nat.lt_of_lt_of_le (tK3_lt q) hL)) dX12_reads_32 [0, 1, 2, 3, 4] (show List.Perm [0, 1, 2, 3, 4] (List.range 5) from by decide) rfl rfl rfl rfl (Nat.le_of_ble_eq_true rfl) (fun cs1 r hq hk => ?_)
        rcases hq with ⟨hp_118, rfl, rfl⟩ | ⟨hp_119, rfl, rfl⟩
        · refine X_istore (lv' := [(5, ex_i 1), (4, ex_i 0), (3, ex_i fv_105), (0, ex_r m), (1, ex_i (nI d)), (2, ex_i 1)]) dX12_reads_35 (Nat.le_of_ble_eq_true rfl) rfl ?_
          refine X_iload_n (j := 2) dX12_reads_37 rfl rfl ?_
          refine X_if_ne (tgt := 65) dX12_reads_38 (by decide) (fun _ => ?_) (fun c_ => absurd c_ (fun q => absurd hp_106 (by rw [q]; decide)))
          refine X_iload_n (j := 4) dX12_reads_65 rfl rfl ?_
          refine X_iconst (v := 5) dX12_reads_66 (by decide) ?_
          refine X_icmp_ne (tgt := 76) dX12_reads_67 (by decide) (fun c_120 => ?_) (fun c_120 => ?_)
          · have hd5 : d < 5 := Nat.lt_of_le_of_ne hI.2.2.1 (fun q => c_120 (by rw [q]; rfl))
            refine X_iload (j := 1) dX12_reads_76 rfl ?_
            refine X_if_ne (tgt := 86) dX12_reads_78 (by decide) (fun c_ => absurd rfl c_) (fun _ => ?_)
            refine X_iload (j := 0) dX12_reads_81 rfl ?_
            refine X_if_eq (tgt := 131) dX12_reads_83 (by decide) (fun c_ => absurd c_ (by decide)) (fun _ => ?_)
            refine X_aload_n (j := 3) dX12_reads_86 rfl rfl ?_
            refine X_iload (j := 1) dX12_reads_87 rfl ?_
            refine X_if_eq (tgt := 97) dX12_reads_89 (by decide) (fun _ => ?_) (fun c_ => absurd rfl c_)
            refine X_bipush (v := 28) dX12_reads_97 (by decide) ?_
            refine X_callV (j0 := 0) (rest := [(x2, ex_a 1 1000 f), (x28, ex_a 1 7 op1), (x29, ex_a 3 7 cm1)]) (stk := []) co_X12_225 rfl ⟨(Nat.le_of_ble_eq_true rfl), (Nat.le_of_ble_eq_true rfl)⟩ (e_X12_puts l m x0 x1 x2 (nI L) (nI (tN f L m1)) (nI (tP f L m1)) (tK f L m1) wD tD x9 x10 x11 x12 x13 x14 x15 x16 x17 x18 x19 x20 x21 x22 x23 x24 x25 x27 x28 x29 x30 x31 x32 x33 x34 x35 x36 x37 x38 x39 x40 x41 F cd1 i 28 (by have hz := tK_lt (f := f) (L := L) (n := m1) (fun e => absurd (e.symm.trans hp_118.1) (by decide)); have hy := hI.1; omega)) dX12_reads_99 [0, 2, 1, 3, 4] (show List.Perm [0, 2, 1, 3, 4] (List.range 5) from by decide) rfl rfl rfl rfl (Nat.le_of_ble_eq_true rfl) (fun cs1 r hq hk => ?_)
            rcases hq with ⟨rfl, rfl⟩
            refine X_iinc (v := nI (d + 1)) (j := 4) (lv' := [(1, ex_i (nI (d + 1))), (5, ex_i 1), (4, ex_i 0), (3, ex_i fv_105), (0, ex_r m), (2, ex_i 1)]) dX12_reads_102 rfl (nI_1 d) (Nat.le_of_ble_eq_true rfl) rfl ?_
            refine X_aload_n (j := 4) dX12_reads_105 rfl rfl ?_
            refine X_get (j := 0) fo_X12_62 dX12_reads_106 rfl rfl ?_
            refine X_iload_n (j := 0) dX12_reads_109 rfl rfl ?_
            refine X_iload (j := 2) dX12_reads_110 rfl ?_
            refine X_if_eq (tgt := 119) dX12_reads_112 (by decide) (fun _ => ?_) (fun c_ => absurd rfl c_)
            refine X_iconst (v := 2) dX12_reads_119 (by decide) ?_
            refine X_iast (j := 3) (g := upd op1 (d + 1) 2) (cs' := [(m, ex_o 12 (ex_u x0 :: ex_i x1 :: ex_r x2 :: ex_i (nI L) :: ex_i (nI (tN f L m1)) :: ex_i (nI (tP f L m1)) :: ex_i (tK f L m1) :: ex_j wD :: ex_i tD :: ex_i x9 :: ex_r x10 :: ex_r x11 :: ex_r x12 :: ex_r x13 :: ex_r x14 :: ex_r x15 :: ex_r x16 :: ex_r x17 :: ex_r x18 :: ex_r x19 :: ex_r x20 :: ex_r x21 :: ex_r x22 :: ex_r x23 :: ex_r x24 :: ex_r x25 :: ex_i (nI (1000 + (i + 1))) :: ex_i x27 :: ex_r x28 :: ex_r x29 :: ex_u x30 :: ex_u x31 :: ex_u x32 :: ex_u x33 :: ex_u x34 :: ex_u x35 :: ex_u x36 :: ex_u x37 :: ex_u x38 :: ex_u x39 :: ex_i x40 :: ex_j x41 :: F)), (x25, ex_a 1 2000 (upd cd1 (1000 + i) 28)), (x2, ex_a 1 1000 f), (x28, ex_a 1 7 (upd op1 (d + 1) 2)), (x29, ex_a 3 7 cm1)]) dX12_reads_120 rfl (vp_in_nI (show d + 1 < 7 by omega) (by decide)) (by rw [nI_clamp (by omega)]) rfl ?_
            refine X_aload_n (j := 4) dX12_reads_121 rfl rfl ?_
            refine X_get (j := 0) fo_X12_65 dX12_reads_122 rfl rfl ?_
            refine X_iload_n (j := 0) dX12_reads_125 rfl rfl ?_
            refine X_iconst (v := 0) dX12_reads_126 (by decide) ?_
            refine X_zast (j := 4) (g := upd cm1 (d + 1) 0) (cs' := [(m, ex_o 12 (ex_u x0 :: ex_i x1 :: ex_r x2 :: ex_i (nI L) :: ex_i (nI (tN f L m1)) :: ex_i (nI (tP f L m1)) :: ex_i (tK f L m1) :: ex_j wD :: ex_i tD :: ex_i x9 :: ex_r x10 :: ex_r x11 :: ex_r x12 :: ex_r x13 :: ex_r x14 :: ex_r x15 :: ex_r x16 :: ex_r x17 :: ex_r x18 :: ex_r x19 :: ex_r x20 :: ex_r x21 :: ex_r x22 :: ex_r x23 :: ex_r x24 :: ex_r x25 :: ex_i (nI (1000 + (i + 1))) :: ex_i x27 :: ex_r x28 :: ex_r x29 :: ex_u x30 :: ex_u x31 :: ex_u x32 :: ex_u x33 :: ex_u x34 :: ex_u x35 :: ex_u x36 :: ex_u x37 :: ex_u x38 :: ex_u x39 :: ex_i x40 :: ex_j x41 :: F)), (x25, ex_a 1 2000 (upd cd1 (1000 + i) 28)), (x2, ex_a 1 1000 f), (x28, ex_a 1 7 (upd op1 (d + 1) 2)), (x29, ex_a 3 7 (upd cm1 (d + 1) 0))]) dX12_reads_127 rfl (vp_in_nI (show d + 1 < 7 by omega) (by decide)) (by rw [nI_clamp (by omega)]; rfl) rfl ?_
            refine X_goto (tgt := 172) dX12_reads_128 (by decide) ?_
            refine X_aload_n (j := 4) dX12_reads_172 rfl rfl ?_
            refine X_callV (j0 := 0) (rest := [(x25, ex_a 1 2000 (upd cd1 (1000 + i) 28)), (x28, ex_a 1 7 (upd op1 (d + 1) 2)), (x29, ex_a 3 7 (upd cm1 (d + 1) 0))]) (stk := []) co_X12_229 rfl ⟨(Nat.le_of_ble_eq_true rfl), (Nat.le_of_ble_eq_true rfl)⟩ (e_X12_nextToken l m x0 x1 x2 (nI (tP f L m1)) (tK f L m1) wD tD x9 (ex_r x10 :: ex_r x11 :: ex_r x12 :: ex_r x13 :: ex_r x14 :: ex_r x15 :: ex_r x16 :: ex_r x17 :: ex_r x18 :: ex_r x19 :: ex_r x20 :: ex_r x21 :: ex_r x22 :: ex_r x23 :: ex_r x24 :: ex_r x25 :: ex_i (nI (1000 + (i + 1))) :: ex_i x27 :: ex_r x28 :: ex_r x29 :: ex_u x30 :: ex_u x31 :: ex_u x32 :: ex_u x33 :: ex_u x34 :: ex_u x35 :: ex_u x36 :: ex_u x37 :: ex_u x38 :: ex_u x39 :: ex_i x40 :: ex_j x41 :: F) f L (tN f L m1) hL (tN_le hI.2.1)) dX12_reads_173 [0, 2, 1, 3, 4] (show List.Perm [0, 2, 1, 3, 4] (List.range 5) from by decide) rfl rfl rfl rfl (Nat.le_of_ble_eq_true rfl) (fun cs1 r hq hk => ?_)
            rcases hq with ⟨wd1_121, td1_122, hp_123, hp_124, rfl, rfl⟩
            refine X_goto (tgt := 11) dX12_reads_176 (by decide) ?_
            have hgt := tN_gt (fun e => absurd (e.symm.trans hp_118.1) (by decide))
            have ha1 : i + 1 ≤ tN f L m1 := by have hz := hI.1; omega
            refine X_lv (lv' := [(0, ex_r m), (1, ex_i (nI (d + 1))), (2, ex_i 1)]) [4, 0, 5] rfl ?_
            exact ih (1, i + 1, (tN f L m1), d + 1, upd op1 (d + 1) 2, upd cm1 (d + 1) 0, upd cd1 (1000 + i) 28, wd1_121, td1_122) (⟨ha1, tN_le hI.2.1, (by show d + 1 ≤ 5; first | omega | (have hz := hI.2.2.1; omega)), fun _ => Nat.succ_pos i, hp_123, hp_124, Or.inr rfl, by show _ = es_E f L (1001 - (i + 1)) 1 (tN f L m1) (d + 1) (upd op1 (d + 1) 2) (upd cm1 (d + 1) 0); rw [hI.2.2.2.2.2.2.2, hs, es_E_Po (by decide) hd5 (pt_op hp_118), show 1001 - (i + 1) = 1000 - i by omega]⟩) (by show 1001 - (i + 1) < 1001 - i; have hz := hI.1; have hy := hI.2.1; omega)
          · refine X_aload_n (j := 3) dX12_reads_70 rfl rfl ?_
            refine X_iconst (v := 5) dX12_reads_71 (by decide) ?_
            refine X_callV (j0 := 0) (rest := [(x2, ex_a 1 1000 f), (x25, ex_a 1 2000 cd1), (x28, ex_a 1 7 op1), (x29, ex_a 3 7 cm1)]) (stk := []) co_X12_222 rfl ⟨(Nat.le_of_ble_eq_true rfl), (Nat.le_of_ble_eq_true rfl)⟩ (e_X12_fails l m x0 x1 x2 (nI L) (nI (tN f L m1)) (nI (tP f L m1)) (tK f L m1) wD tD x9 (ex_r x10 :: ex_r x11 :: ex_r x12 :: ex_r x13 :: ex_r x14 :: ex_r x15 :: ex_r x16 :: ex_r x17 :: ex_r x18 :: ex_r x19 :: ex_r x20 :: ex_r x21 :: ex_r x22 :: ex_r x23 :: ex_r x24 :: ex_r x25 :: ex_i (nI (1000 + i)) :: ex_i x27 :: ex_r x28 :: ex_r x29 :: ex_u x30 :: ex_u x31 :: ex_u x32 :: ex_u x33 :: ex_u x34 :: ex_u x35 :: ex_u x36 :: ex_u x37 :: ex_u x38 :: ex_u x39 :: ex_i x40 :: ex_j x41 :: F) 5) dX12_reads_72 [0, 1, 2, 3, 4] (show List.Perm [0, 1, 2, 3, 4] (List.range 5) from by decide) rfl rfl rfl rfl (Nat.le_of_ble_eq_true rfl) (fun cs1 r hq hk => ?_)
            rcases hq with ⟨rfl, rfl⟩
            exact X_iret ex_nZ rfl dX12_reads_75 rfl (Or.inr ⟨(nI (tN f L m1)), (nI (tP f L m1)), (tK f L m1), tD, (5 + 16 * (nI (tP f L m1))), wD, (1000 + i), cd1, op1, cm1, (by rw [hI.2.2.2.2.2.2.2, hs, es_E_P5 (by decide) (by rw [pt_op hp_118]; decide) (by have hz := nI_inj (n := 5) (by omega) (by decide) c_120; omega)]; rfl), rfl, rfl⟩)
        · refine X_istore (lv' := [(5, ex_i 0), (4, ex_i 0), (3, ex_i fv_105), (0, ex_r m), (1, ex_i (nI d)), (2, ex_i 1)]) dX12_reads_35 (Nat.le_of_ble_eq_true rfl) rfl ?_
          refine X_iload_n (j := 2) dX12_reads_37 rfl rfl ?_
          refine X_if_ne (tgt := 65) dX12_reads_38 (by decide) (fun _ => ?_) (fun c_ => absurd c_ (fun q => absurd hp_106 (by rw [q]; decide)))
          refine X_iload_n (j := 4) dX12_reads_65 rfl rfl ?_
          refine X_iconst (v := 5) dX12_reads_66 (by decide) ?_
          refine X_icmp_ne (tgt := 76) dX12_reads_67 (by decide) (fun c_125 => ?_) (fun c_125 => ?_)
          · have hd5 : d < 5 := Nat.lt_of_le_of_ne hI.2.2.1 (fun q => c_125 (by rw [q]; rfl))
            refine X_iload (j := 1) dX12_reads_76 rfl ?_
            refine X_if_ne (tgt := 86) dX12_reads_78 (by decide) (fun c_ => absurd rfl c_) (fun _ => ?_)
            refine X_iload (j := 0) dX12_reads_81 rfl ?_
            refine X_if_eq (tgt := 131) dX12_reads_83 (by decide) (fun _ => ?_) (fun c_ => absurd rfl c_)
            refine X_aload_n (j := 3) dX12_reads_131 rfl rfl ?_
            refine X_iload_n (j := 2) dX12_reads_132 rfl rfl ?_
            refine X_if_le (tgt := 140) dX12_reads_133 (by decide) (fun c_ => absurd c_ (Int32.not_le.mpr hp_106)) (fun _ => ?_)
            refine X_iload_n (j := 2) dX12_reads_136 rfl rfl ?_
            refine X_goto (tgt := 147) dX12_reads_137 (by decide) ?_
            refine X_callV (j0 := 0) (rest := [(x2, ex_a 1 1000 f), (x28, ex_a 1 7 op1), (x29, ex_a 3 7 cm1)]) (stk := []) co_X12_225 rfl ⟨(Nat.le_of_ble_eq_true rfl), (Nat.le_of_ble_eq_true rfl)⟩ (e_X12_puts l m x0 x1 x2 (nI L) (nI (tN f L m1)) (nI (tP f L m1)) (tK f L m1) wD tD x9 x10 x11 x12 x13 x14 x15 x16 x17 x18 x19 x20 x21 x22 x23 x24 x25 x27 x28 x29 x30 x31 x32 x33 x34 x35 x36 x37 x38 x39 x40 x41 F cd1 i fv_105 (by have hz := tK_lt (f := f) (L := L) (n := m1) (fun e => absurd (e.symm.trans hp_107.1) (by decide)); have hy := hI.1; omega)) dX12_reads_147 [0, 2, 1, 3, 4] (show List.Perm [0, 2, 1, 3, 4] (List.range 5) from by decide) rfl rfl rfl rfl (Nat.le_of_ble_eq_true rfl) (fun cs1 r hq hk => ?_)
            rcases hq with ⟨rfl, rfl⟩
            refine X_iconst (v := 0) dX12_reads_150 (by decide) ?_
            refine X_istore_n (lv' := [(2, ex_i 0), (5, ex_i 0), (4, ex_i 0), (3, ex_i fv_105), (0, ex_r m), (1, ex_i (nI d))]) dX12_reads_151 rfl (Nat.le_of_ble_eq_true rfl) rfl ?_
            refine X_lv (lv' := [(0, ex_r m), (1, ex_i (nI d)), (2, ex_i 0)]) [4, 5, 0] rfl ?_
            refine X_ind (fun (e : Nat) => e ≤ 5 ∧ ppN op1 d = ppN op1 e) (fun (e : Nat) => e) (fun (e : Nat) => [(m, ex_o 12 (ex_u x0 :: ex_i x1 :: ex_r x2 :: ex_i (nI L) :: ex_i (nI (tN f L m1)) :: ex_i (nI (tP f L m1)) :: ex_i (tK f L m1) :: ex_j wD :: ex_i tD :: ex_i x9 :: ex_r x10 :: ex_r x11 :: ex_r x12 :: ex_r x13 :: ex_r x14 :: ex_r x15 :: ex_r x16 :: ex_r x17 :: ex_r x18 :: ex_r x19 :: ex_r x20 :: ex_r x21 :: ex_r x22 :: ex_r x23 :: ex_r x24 :: ex_r x25 :: ex_i (nI (1000 + (i + 1))) :: ex_i x27 :: ex_r x28 :: ex_r x29 :: ex_u x30 :: ex_u x31 :: ex_u x32 :: ex_u x33 :: ex_u x34 :: ex_u x35 :: ex_u x36 :: ex_u x37 :: ex_u x38 :: ex_u x39 :: ex_i x40 :: ex_j x41 :: F)), (x25, ex_a 1 2000 (upd cd1 (1000 + i) fv_105)), (x2, ex_a 1 1000 f), (x28, ex_a 1 7 op1), (x29, ex_a 3 7 cm1)]) (fun (e : Nat) => [(0, ex_r m), (1, ex_i (nI e)), (2, ex_i 0)]) (fun e hI2 ih2 => ?_) d (⟨by omega, rfl⟩)
            try dsimp only at hI2 ih2 ⊢
            refine X_iload_n (j := 1) dX12_reads_152 rfl rfl ?_
            refine X_if_le (tgt := 172) dX12_reads_153 (by decide) (fun c_126 => ?_) (fun c_126 => ?_)
            · have hpe : ppN op1 d = e := by rw [hI2.2]; exact ppN_n (Or.inl (Nat.eq_zero_of_not_pos (fun q => nI_nle q (by have hz := hI2.1; omega) c_126)))
              have he5 := hI2.1
              refine X_aload_n (j := 0) dX12_reads_172 rfl rfl ?_
              refine X_callV (j0 := 0) (rest := [(x25, ex_a 1 2000 (upd cd1 (1000 + i) fv_105)), (x28, ex_a 1 7 op1), (x29, ex_a 3 7 cm1)]) (stk := []) co_X12_229 rfl ⟨(Nat.le_of_ble_eq_true rfl), (Nat.le_of_ble_eq_true rfl)⟩ (e_X12_nextToken l m x0 x1 x2 (nI (tP f L m1)) (tK f L m1) wD tD x9 (ex_r x10 :: ex_r x11 :: ex_r x12 :: ex_r x13 :: ex_r x14 :: ex_r x15 :: ex_r x16 :: ex_r x17 :: ex_r x18 :: ex_r x19 :: ex_r x20 :: ex_r x21 :: ex_r x22 :: ex_r x23 :: ex_r x24 :: ex_r x25 :: ex_i (nI (1000 + (i + 1))) :: ex_i x27 :: ex_r x28 :: ex_r x29 :: ex_u x30 :: ex_u x31 :: ex_u x32 :: ex_u x33 :: ex_u x34 :: ex_u x35 :: ex_u x36 :: ex_u x37 :: ex_u x38 :: ex_u x39 :: ex_i x40 :: ex_j x41 :: F) f L (tN f L m1) hL (tN_le hI.2.1)) dX12_reads_173 [0, 2, 1, 3, 4] (show List.Perm [0, 2, 1, 3, 4] (List.range 5) from by decide) rfl rfl rfl rfl (Nat.le_of_ble_eq_true rfl) (fun cs1 r hq hk => ?_)
              rcases hq with ⟨wd1_127, td1_128, hp_129, hp_130, rfl, rfl⟩
              refine X_goto (tgt := 11) dX12_reads_176 (by decide) ?_
              have hgt := tN_gt (fun e => absurd (e.symm.trans hp_107.1) (by decide))
              have ha1 : i + 1 ≤ tN f L m1 := by have hz := hI.1; omega
              refine X_lv (lv' := [(0, ex_r m), (1, ex_i (nI e)), (2, ex_i 0)]) [0, 1, 2] rfl ?_
              exact ih (0, i + 1, (tN f L m1), e, op1, cm1, upd cd1 (1000 + i) fv_105, wd1_127, td1_128) (⟨ha1, tN_le hI.2.1, (by show e ≤ 5; first | omega | (have hz := hI.2.2.1; omega)), fun _ => Nat.succ_pos i, hp_129, hp_130, Or.inl rfl, by show _ = es_E f L (1001 - (i + 1)) 0 (tN f L m1) e op1 cm1; rw [hI.2.2.2.2.2.2.2, hs, es_E_Pb (by decide) (pt_F hp_107).1 hd5 (pt_F hp_107).2, hpe, show 1001 - (i + 1) = 1000 - i by omega]⟩) (by show 1001 - (i + 1) < 1001 - i; have hz := hI.1; have hy := hI.2.1; omega)
            · obtain ⟨ke, rfl⟩ : ∃ ke, e = ke + 1 := ex_ow (Nat.pos_of_ne_zero (fun q => c_126 (by rw [q]; decide)))
              have hke := hI2.1
              refine X_aload_n (j := 0) dX12_reads_156 rfl rfl ?_
              refine X_get (j := 0) fo_X12_62 dX12_reads_157 rfl rfl ?_
              refine X_iload_n (j := 1) dX12_reads_160 rfl rfl ?_
              refine X_iald (j := 3) (v := (op1 (ke + 1))) dX12_reads_161 rfl (vp_in_nI (show ke + 1 < 7 by omega) (by decide)) (by rw [nI_clamp (by omega)]) ?_
              refine X_iconst (v := 1) dX12_reads_162 (by decide) ?_
              refine X_icmp_ne (tgt := 172) dX12_reads_163 (by decide) (fun c_131 => ?_) (fun c_131 => ?_)
              · have hpe : ppN op1 d = (ke + 1) := by rw [hI2.2]; exact ppN_n (Or.inr c_131)
                have he5 := hI2.1
                refine X_aload_n (j := 0) dX12_reads_172 rfl rfl ?_
                refine X_callV (j0 := 0) (rest := [(x25, ex_a 1 2000 (upd cd1 (1000 + i) fv_105)), (x28, ex_a 1 7 op1), (x29, ex_a 3 7 cm1)]) (stk := []) co_X12_229 rfl ⟨(Nat.le_of_ble_eq_true rfl), (Nat.le_of_ble_eq_true rfl)⟩ (e_X12_nextToken l m x0 x1 x2 (nI (tP f L m1)) (tK f L m1) wD tD x9 (ex_r x10 :: ex_r x11 :: ex_r x12 :: ex_r x13 :: ex_r x14 :: ex_r x15 :: ex_r x16 :: ex_r x17 :: ex_r x18 :: ex_r x19 :: ex_r x20 :: ex_r x21 :: ex_r x22 :: ex_r x23 :: ex_r x24 :: ex_r x25 :: ex_i (nI (1000 + (i + 1))) :: ex_i x27 :: ex_r x28 :: ex_r x29 :: ex_u x30 :: ex_u x31 :: ex_u x32 :: ex_u x33 :: ex_u x34 :: ex_u x35 :: ex_u x36 :: ex_u x37 :: ex_u x38 :: ex_u x39 :: ex_i x40 :: ex_j x41 :: F) f L (tN f L m1) hL (tN_le hI.2.1)) dX12_reads_173 [0, 2, 1, 3, 4] (show List.Perm [0, 2, 1, 3, 4] (List.range 5) from by decide) rfl rfl rfl rfl (Nat.le_of_ble_eq_true rfl) (fun cs1 r hq hk => ?_)
                rcases hq with ⟨wd1_132, td1_133, hp_134, hp_135, rfl, rfl⟩
                refine X_goto (tgt := 11) dX12_reads_176 (by decide) ?_
                have hgt := tN_gt (fun e => absurd (e.symm.trans hp_107.1) (by decide))
                have ha1 : i + 1 ≤ tN f L m1 := by have hz := hI.1; omega
                refine X_lv (lv' := [(0, ex_r m), (1, ex_i (nI (ke + 1))), (2, ex_i 0)]) [0, 1, 2] rfl ?_
                exact ih (0, i + 1, (tN f L m1), ke + 1, op1, cm1, upd cd1 (1000 + i) fv_105, wd1_132, td1_133) (⟨ha1, tN_le hI.2.1, (by show ke + 1 ≤ 5; first | omega | (have hz := hI.2.2.1; omega)), fun _ => Nat.succ_pos i, hp_134, hp_135, Or.inl rfl, by show _ = es_E f L (1001 - (i + 1)) 0 (tN f L m1) (ke + 1) op1 cm1; rw [hI.2.2.2.2.2.2.2, hs, es_E_Pb (by decide) (pt_F hp_107).1 hd5 (pt_F hp_107).2, hpe, show 1001 - (i + 1) = 1000 - i by omega]⟩) (by show 1001 - (i + 1) < 1001 - i; have hz := hI.1; have hy := hI.2.1; omega)
              · refine X_iinc (v := nI ke) (j := 1) (lv' := [(1, ex_i (nI ke)), (0, ex_r m), (2, ex_i 0)]) dX12_reads_166 rfl (nI_pi ke) (Nat.le_of_ble_eq_true rfl) rfl ?_
                refine X_goto (tgt := 152) dX12_reads_169 (by decide) ?_
                refine X_lv (lv' := [(0, ex_r m), (1, ex_i (nI ke)), (2, ex_i 0)]) [1, 0, 2] rfl ?_
                exact ih2 ke (⟨by have hz := hI2.1; omega, by rw [hI2.2, ppN_y c_131]⟩) (by omega)
          · refine X_aload_n (j := 3) dX12_reads_70 rfl rfl ?_
            refine X_iconst (v := 5) dX12_reads_71 (by decide) ?_
            refine X_callV (j0 := 0) (rest := [(x2, ex_a 1 1000 f), (x25, ex_a 1 2000 cd1), (x28, ex_a 1 7 op1), (x29, ex_a 3 7 cm1)]) (stk := []) co_X12_222 rfl ⟨(Nat.le_of_ble_eq_true rfl), (Nat.le_of_ble_eq_true rfl)⟩ (e_X12_fails l m x0 x1 x2 (nI L) (nI (tN f L m1)) (nI (tP f L m1)) (tK f L m1) wD tD x9 (ex_r x10 :: ex_r x11 :: ex_r x12 :: ex_r x13 :: ex_r x14 :: ex_r x15 :: ex_r x16 :: ex_r x17 :: ex_r x18 :: ex_r x19 :: ex_r x20 :: ex_r x21 :: ex_r x22 :: ex_r x23 :: ex_r x24 :: ex_r x25 :: ex_i (nI (1000 + i)) :: ex_i x27 :: ex_r x28 :: ex_r x29 :: ex_u x30 :: ex_u x31 :: ex_u x32 :: ex_u x33 :: ex_u x34 :: ex_u x35 :: ex_u x36 :: ex_u x37 :: ex_u x38 :: ex_u x39 :: ex_i x40 :: ex_j x41 :: F) 5) dX12_reads_72 [0, 1, 2, 3, 4] (show List.Perm [0, 1, 2, 3, 4] (List.range 5) from by decide) rfl rfl rfl rfl (Nat.le_of_ble_eq_true rfl) (fun cs1 r hq hk => ?_)
            rcases hq with ⟨rfl, rfl⟩
            exact X_iret ex_nZ rfl dX12_reads_75 rfl (Or.inr ⟨(nI (tN f L m1)), (nI (tP f L m1)), (tK f L m1), tD, (5 + 16 * (nI (tP f L m1))), wD, (1000 + i), cd1, op1, cm1, (by rw [hI.2.2.2.2.2.2.2, hs, es_E_P5 (by decide) (pt_F hp_107).1 (by have hz := nI_inj (n := 5) (by omega) (by decide) c_125; omega)]; rfl), rfl, rfl⟩)
    · refine X_istore_n (lv' := [(3, ex_i 0), (0, ex_r m), (1, ex_i (nI d)), (2, ex_i 1)]) dX12_reads_19 rfl (Nat.le_of_ble_eq_true rfl) rfl ?_
      refine X_aload_n (j := 1) dX12_reads_20 rfl rfl ?_
      refine X_ldc2_w (v := 10631) k_1592 dX12_reads_21 ?_
      refine X_callV (j0 := 0) (rest := [(x2, ex_a 1 1000 f), (x25, ex_a 1 2000 cd1), (x28, ex_a 1 7 op1), (x29, ex_a 3 7 cm1)]) (stk := []) co_X12_214 rfl ⟨(Nat.le_of_ble_eq_true rfl), (Nat.le_of_ble_eq_true rfl)⟩ (e_X12_isWord l m x0 x1 x2 (nI L) (nI (tN f L m1)) (nI (tP f L m1)) (tK f L m1) wD tD x9 (ex_r x10 :: ex_r x11 :: ex_r x12 :: ex_r x13 :: ex_r x14 :: ex_r x15 :: ex_r x16 :: ex_r x17 :: ex_r x18 :: ex_r x19 :: ex_r x20 :: ex_r x21 :: ex_r x22 :: ex_r x23 :: ex_r x24 :: ex_r x25 :: ex_i (nI (1000 + i)) :: ex_i x27 :: ex_r x28 :: ex_r x29 :: ex_u x30 :: ex_u x31 :: ex_u x32 :: ex_u x33 :: ex_u x34 :: ex_u x35 :: ex_u x36 :: ex_u x37 :: ex_u x38 :: ex_u x39 :: ex_i x40 :: ex_j x41 :: F) 10631) dX12_reads_24 [0, 1, 2, 3, 4] (show List.Perm [0, 1, 2, 3, 4] (List.range 5) from by decide) rfl rfl rfl rfl (Nat.le_of_ble_eq_true rfl) (fun cs1 r hq hk => ?_)
      rcases hq with ⟨hp_136, rfl, rfl⟩ | ⟨hp_137, rfl, rfl⟩
      · refine X_istore (lv' := [(4, ex_i 1), (3, ex_i 0), (0, ex_r m), (1, ex_i (nI d)), (2, ex_i 1)]) dX12_reads_27 (Nat.le_of_ble_eq_true rfl) rfl ?_
        refine X_aload_n (j := 2) dX12_reads_29 rfl rfl ?_
        refine X_bipush (v := 40) dX12_reads_30 (by decide) ?_
        refine X_callV (j0 := 0) (rest := [(x25, ex_a 1 2000 cd1), (x28, ex_a 1 7 op1), (x29, ex_a 3 7 cm1)]) (stk := []) co_X12_218 rfl ⟨(Nat.le_of_ble_eq_true rfl), (Nat.le_of_ble_eq_true rfl)⟩ (e_X12_isSign l m x0 x1 x2 (nI (tN f L m1)) (tK f L m1) wD tD x9 (ex_r x10 :: ex_r x11 :: ex_r x12 :: ex_r x13 :: ex_r x14 :: ex_r x15 :: ex_r x16 :: ex_r x17 :: ex_r x18 :: ex_r x19 :: ex_r x20 :: ex_r x21 :: ex_r x22 :: ex_r x23 :: ex_r x24 :: ex_r x25 :: ex_i (nI (1000 + i)) :: ex_i x27 :: ex_r x28 :: ex_r x29 :: ex_u x30 :: ex_u x31 :: ex_u x32 :: ex_u x33 :: ex_u x34 :: ex_u x35 :: ex_u x36 :: ex_u x37 :: ex_u x38 :: ex_u x39 :: ex_i x40 :: ex_j x41 :: F) f L (tP f L m1) 40 (fun q => Nat.lt_of_lt_of_le (tK3_lt q) hL)) dX12_reads_32 [0, 1, 2, 3, 4] (show List.Perm [0, 1, 2, 3, 4] (List.range 5) from by decide) rfl rfl rfl rfl (Nat.le_of_ble_eq_true rfl) (fun cs1 r hq hk => ?_)
        rcases hq with ⟨hp_138, rfl, rfl⟩ | ⟨hp_139, rfl, rfl⟩
        · exact absurd (hp_136.1.symm.trans hp_138.1) (by decide)
        · refine X_istore (lv' := [(5, ex_i 0), (4, ex_i 1), (3, ex_i 0), (0, ex_r m), (1, ex_i (nI d)), (2, ex_i 1)]) dX12_reads_35 (Nat.le_of_ble_eq_true rfl) rfl ?_
          refine X_iload_n (j := 2) dX12_reads_37 rfl rfl ?_
          refine X_if_ne (tgt := 65) dX12_reads_38 (by decide) (fun c_ => absurd rfl c_) (fun _ => ?_)
          refine X_iload (j := 1) dX12_reads_41 rfl ?_
          refine X_if_ne (tgt := 65) dX12_reads_43 (by decide) (fun _ => ?_) (fun c_ => absurd c_ (by decide))
          refine X_iload_n (j := 4) dX12_reads_65 rfl rfl ?_
          refine X_iconst (v := 5) dX12_reads_66 (by decide) ?_
          refine X_icmp_ne (tgt := 76) dX12_reads_67 (by decide) (fun c_140 => ?_) (fun c_140 => ?_)
          · have hd5 : d < 5 := Nat.lt_of_le_of_ne hI.2.2.1 (fun q => c_140 (by rw [q]; rfl))
            refine X_iload (j := 1) dX12_reads_76 rfl ?_
            refine X_if_ne (tgt := 86) dX12_reads_78 (by decide) (fun _ => ?_) (fun c_ => absurd c_ (by decide))
            refine X_aload_n (j := 3) dX12_reads_86 rfl rfl ?_
            refine X_iload (j := 1) dX12_reads_87 rfl ?_
            refine X_if_eq (tgt := 97) dX12_reads_89 (by decide) (fun c_ => absurd c_ (by decide)) (fun _ => ?_)
            refine X_bipush (v := 30) dX12_reads_92 (by decide) ?_
            refine X_goto (tgt := 99) dX12_reads_94 (by decide) ?_
            refine X_callV (j0 := 0) (rest := [(x2, ex_a 1 1000 f), (x28, ex_a 1 7 op1), (x29, ex_a 3 7 cm1)]) (stk := []) co_X12_225 rfl ⟨(Nat.le_of_ble_eq_true rfl), (Nat.le_of_ble_eq_true rfl)⟩ (e_X12_puts l m x0 x1 x2 (nI L) (nI (tN f L m1)) (nI (tP f L m1)) (tK f L m1) wD tD x9 x10 x11 x12 x13 x14 x15 x16 x17 x18 x19 x20 x21 x22 x23 x24 x25 x27 x28 x29 x30 x31 x32 x33 x34 x35 x36 x37 x38 x39 x40 x41 F cd1 i 30 (by have hz := tK_lt (f := f) (L := L) (n := m1) (fun e => absurd (e.symm.trans hp_136.1) (by decide)); have hy := hI.1; omega)) dX12_reads_99 [0, 2, 1, 3, 4] (show List.Perm [0, 2, 1, 3, 4] (List.range 5) from by decide) rfl rfl rfl rfl (Nat.le_of_ble_eq_true rfl) (fun cs1 r hq hk => ?_)
            rcases hq with ⟨rfl, rfl⟩
            refine X_iinc (v := nI (d + 1)) (j := 4) (lv' := [(1, ex_i (nI (d + 1))), (5, ex_i 0), (4, ex_i 1), (3, ex_i 0), (0, ex_r m), (2, ex_i 1)]) dX12_reads_102 rfl (nI_1 d) (Nat.le_of_ble_eq_true rfl) rfl ?_
            refine X_aload_n (j := 4) dX12_reads_105 rfl rfl ?_
            refine X_get (j := 0) fo_X12_62 dX12_reads_106 rfl rfl ?_
            refine X_iload_n (j := 0) dX12_reads_109 rfl rfl ?_
            refine X_iload (j := 2) dX12_reads_110 rfl ?_
            refine X_if_eq (tgt := 119) dX12_reads_112 (by decide) (fun c_ => absurd c_ (by decide)) (fun _ => ?_)
            refine X_iconst (v := 1) dX12_reads_115 (by decide) ?_
            refine X_goto (tgt := 120) dX12_reads_116 (by decide) ?_
            refine X_iast (j := 3) (g := upd op1 (d + 1) 1) (cs' := [(m, ex_o 12 (ex_u x0 :: ex_i x1 :: ex_r x2 :: ex_i (nI L) :: ex_i (nI (tN f L m1)) :: ex_i (nI (tP f L m1)) :: ex_i (tK f L m1) :: ex_j wD :: ex_i tD :: ex_i x9 :: ex_r x10 :: ex_r x11 :: ex_r x12 :: ex_r x13 :: ex_r x14 :: ex_r x15 :: ex_r x16 :: ex_r x17 :: ex_r x18 :: ex_r x19 :: ex_r x20 :: ex_r x21 :: ex_r x22 :: ex_r x23 :: ex_r x24 :: ex_r x25 :: ex_i (nI (1000 + (i + 1))) :: ex_i x27 :: ex_r x28 :: ex_r x29 :: ex_u x30 :: ex_u x31 :: ex_u x32 :: ex_u x33 :: ex_u x34 :: ex_u x35 :: ex_u x36 :: ex_u x37 :: ex_u x38 :: ex_u x39 :: ex_i x40 :: ex_j x41 :: F)), (x25, ex_a 1 2000 (upd cd1 (1000 + i) 30)), (x2, ex_a 1 1000 f), (x28, ex_a 1 7 (upd op1 (d + 1) 1)), (x29, ex_a 3 7 cm1)]) dX12_reads_120 rfl (vp_in_nI (show d + 1 < 7 by omega) (by decide)) (by rw [nI_clamp (by omega)]) rfl ?_
            refine X_aload_n (j := 4) dX12_reads_121 rfl rfl ?_
            refine X_get (j := 0) fo_X12_65 dX12_reads_122 rfl rfl ?_
            refine X_iload_n (j := 0) dX12_reads_125 rfl rfl ?_
            refine X_iconst (v := 0) dX12_reads_126 (by decide) ?_
            refine X_zast (j := 4) (g := upd cm1 (d + 1) 0) (cs' := [(m, ex_o 12 (ex_u x0 :: ex_i x1 :: ex_r x2 :: ex_i (nI L) :: ex_i (nI (tN f L m1)) :: ex_i (nI (tP f L m1)) :: ex_i (tK f L m1) :: ex_j wD :: ex_i tD :: ex_i x9 :: ex_r x10 :: ex_r x11 :: ex_r x12 :: ex_r x13 :: ex_r x14 :: ex_r x15 :: ex_r x16 :: ex_r x17 :: ex_r x18 :: ex_r x19 :: ex_r x20 :: ex_r x21 :: ex_r x22 :: ex_r x23 :: ex_r x24 :: ex_r x25 :: ex_i (nI (1000 + (i + 1))) :: ex_i x27 :: ex_r x28 :: ex_r x29 :: ex_u x30 :: ex_u x31 :: ex_u x32 :: ex_u x33 :: ex_u x34 :: ex_u x35 :: ex_u x36 :: ex_u x37 :: ex_u x38 :: ex_u x39 :: ex_i x40 :: ex_j x41 :: F)), (x25, ex_a 1 2000 (upd cd1 (1000 + i) 30)), (x2, ex_a 1 1000 f), (x28, ex_a 1 7 (upd op1 (d + 1) 1)), (x29, ex_a 3 7 (upd cm1 (d + 1) 0))]) dX12_reads_127 rfl (vp_in_nI (show d + 1 < 7 by omega) (by decide)) (by rw [nI_clamp (by omega)]; rfl) rfl ?_
            refine X_goto (tgt := 172) dX12_reads_128 (by decide) ?_
            refine X_aload_n (j := 4) dX12_reads_172 rfl rfl ?_
            refine X_callV (j0 := 0) (rest := [(x25, ex_a 1 2000 (upd cd1 (1000 + i) 30)), (x28, ex_a 1 7 (upd op1 (d + 1) 1)), (x29, ex_a 3 7 (upd cm1 (d + 1) 0))]) (stk := []) co_X12_229 rfl ⟨(Nat.le_of_ble_eq_true rfl), (Nat.le_of_ble_eq_true rfl)⟩ (e_X12_nextToken l m x0 x1 x2 (nI (tP f L m1)) (tK f L m1) wD tD x9 (ex_r x10 :: ex_r x11 :: ex_r x12 :: ex_r x13 :: ex_r x14 :: ex_r x15 :: ex_r x16 :: ex_r x17 :: ex_r x18 :: ex_r x19 :: ex_r x20 :: ex_r x21 :: ex_r x22 :: ex_r x23 :: ex_r x24 :: ex_r x25 :: ex_i (nI (1000 + (i + 1))) :: ex_i x27 :: ex_r x28 :: ex_r x29 :: ex_u x30 :: ex_u x31 :: ex_u x32 :: ex_u x33 :: ex_u x34 :: ex_u x35 :: ex_u x36 :: ex_u x37 :: ex_u x38 :: ex_u x39 :: ex_i x40 :: ex_j x41 :: F) f L (tN f L m1) hL (tN_le hI.2.1)) dX12_reads_173 [0, 2, 1, 3, 4] (show List.Perm [0, 2, 1, 3, 4] (List.range 5) from by decide) rfl rfl rfl rfl (Nat.le_of_ble_eq_true rfl) (fun cs1 r hq hk => ?_)
            rcases hq with ⟨wd1_141, td1_142, hp_143, hp_144, rfl, rfl⟩
            refine X_goto (tgt := 11) dX12_reads_176 (by decide) ?_
            have hgt := tN_gt (fun e => absurd (e.symm.trans hp_136.1) (by decide))
            have ha1 : i + 1 ≤ tN f L m1 := by have hz := hI.1; omega
            refine X_lv (lv' := [(0, ex_r m), (1, ex_i (nI (d + 1))), (2, ex_i 1)]) [4, 0, 5] rfl ?_
            exact ih (1, i + 1, (tN f L m1), d + 1, upd op1 (d + 1) 1, upd cm1 (d + 1) 0, upd cd1 (1000 + i) 30, wd1_141, td1_142) (⟨ha1, tN_le hI.2.1, (by show d + 1 ≤ 5; first | omega | (have hz := hI.2.2.1; omega)), fun _ => Nat.succ_pos i, hp_143, hp_144, Or.inr rfl, by show _ = es_E f L (1001 - (i + 1)) 1 (tN f L m1) (d + 1) (upd op1 (d + 1) 1) (upd cm1 (d + 1) 0); rw [hI.2.2.2.2.2.2.2, hs, es_E_Pn (by decide) hd5 (pt_not ⟨hp_136.1, (rW_iff (c2 := 10631) hp_136.1 (by decide +kernel) (by decide +kernel)).mp (by rw [← q1 hp_136.1]; exact hp_136.2)⟩), show 1001 - (i + 1) = 1000 - i by omega]⟩) (by show 1001 - (i + 1) < 1001 - i; have hz := hI.1; have hy := hI.2.1; omega)
          · refine X_aload_n (j := 3) dX12_reads_70 rfl rfl ?_
            refine X_iconst (v := 5) dX12_reads_71 (by decide) ?_
            refine X_callV (j0 := 0) (rest := [(x2, ex_a 1 1000 f), (x25, ex_a 1 2000 cd1), (x28, ex_a 1 7 op1), (x29, ex_a 3 7 cm1)]) (stk := []) co_X12_222 rfl ⟨(Nat.le_of_ble_eq_true rfl), (Nat.le_of_ble_eq_true rfl)⟩ (e_X12_fails l m x0 x1 x2 (nI L) (nI (tN f L m1)) (nI (tP f L m1)) (tK f L m1) wD tD x9 (ex_r x10 :: ex_r x11 :: ex_r x12 :: ex_r x13 :: ex_r x14 :: ex_r x15 :: ex_r x16 :: ex_r x17 :: ex_r x18 :: ex_r x19 :: ex_r x20 :: ex_r x21 :: ex_r x22 :: ex_r x23 :: ex_r x24 :: ex_r x25 :: ex_i (nI (1000 + i)) :: ex_i x27 :: ex_r x28 :: ex_r x29 :: ex_u x30 :: ex_u x31 :: ex_u x32 :: ex_u x33 :: ex_u x34 :: ex_u x35 :: ex_u x36 :: ex_u x37 :: ex_u x38 :: ex_u x39 :: ex_i x40 :: ex_j x41 :: F) 5) dX12_reads_72 [0, 1, 2, 3, 4] (show List.Perm [0, 1, 2, 3, 4] (List.range 5) from by decide) rfl rfl rfl rfl (Nat.le_of_ble_eq_true rfl) (fun cs1 r hq hk => ?_)
            rcases hq with ⟨rfl, rfl⟩
            exact X_iret ex_nZ rfl dX12_reads_75 rfl (Or.inr ⟨(nI (tN f L m1)), (nI (tP f L m1)), (tK f L m1), tD, (5 + 16 * (nI (tP f L m1))), wD, (1000 + i), cd1, op1, cm1, (by rw [hI.2.2.2.2.2.2.2, hs, es_E_P5 (by decide) (by rw [pt_not ⟨hp_136.1, (rW_iff (c2 := 10631) hp_136.1 (by decide +kernel) (by decide +kernel)).mp (by rw [← q1 hp_136.1]; exact hp_136.2)⟩]; decide) (by have hz := nI_inj (n := 5) (by omega) (by decide) c_140; omega)]; rfl), rfl, rfl⟩)
      · refine X_istore (lv' := [(4, ex_i 0), (3, ex_i 0), (0, ex_r m), (1, ex_i (nI d)), (2, ex_i 1)]) dX12_reads_27 (Nat.le_of_ble_eq_true rfl) rfl ?_
        refine X_aload_n (j := 2) dX12_reads_29 rfl rfl ?_
        refine X_bipush (v := 40) dX12_reads_30 (by decide) ?_
        refine X_callV (j0 := 0) (rest := [(x25, ex_a 1 2000 cd1), (x28, ex_a 1 7 op1), (x29, ex_a 3 7 cm1)]) (stk := []) co_X12_218 rfl ⟨(Nat.le_of_ble_eq_true rfl), (Nat.le_of_ble_eq_true rfl)⟩ (e_X12_isSign l m x0 x1 x2 (nI (tN f L m1)) (tK f L m1) wD tD x9 (ex_r x10 :: ex_r x11 :: ex_r x12 :: ex_r x13 :: ex_r x14 :: ex_r x15 :: ex_r x16 :: ex_r x17 :: ex_r x18 :: ex_r x19 :: ex_r x20 :: ex_r x21 :: ex_r x22 :: ex_r x23 :: ex_r x24 :: ex_r x25 :: ex_i (nI (1000 + i)) :: ex_i x27 :: ex_r x28 :: ex_r x29 :: ex_u x30 :: ex_u x31 :: ex_u x32 :: ex_u x33 :: ex_u x34 :: ex_u x35 :: ex_u x36 :: ex_u x37 :: ex_u x38 :: ex_u x39 :: ex_i x40 :: ex_j x41 :: F) f L (tP f L m1) 40 (fun q => Nat.lt_of_lt_of_le (tK3_lt q) hL)) dX12_reads_32 [0, 1, 2, 3, 4] (show List.Perm [0, 1, 2, 3, 4] (List.range 5) from by decide) rfl rfl rfl rfl (Nat.le_of_ble_eq_true rfl) (fun cs1 r hq hk => ?_)
        rcases hq with ⟨hp_145, rfl, rfl⟩ | ⟨hp_146, rfl, rfl⟩
        · refine X_istore (lv' := [(5, ex_i 1), (4, ex_i 0), (3, ex_i 0), (0, ex_r m), (1, ex_i (nI d)), (2, ex_i 1)]) dX12_reads_35 (Nat.le_of_ble_eq_true rfl) rfl ?_
          refine X_iload_n (j := 2) dX12_reads_37 rfl rfl ?_
          refine X_if_ne (tgt := 65) dX12_reads_38 (by decide) (fun c_ => absurd rfl c_) (fun _ => ?_)
          refine X_iload (j := 1) dX12_reads_41 rfl ?_
          refine X_if_ne (tgt := 65) dX12_reads_43 (by decide) (fun c_ => absurd rfl c_) (fun _ => ?_)
          refine X_iload (j := 0) dX12_reads_46 rfl ?_
          refine X_if_ne (tgt := 65) dX12_reads_48 (by decide) (fun _ => ?_) (fun c_ => absurd c_ (by decide))
          refine X_iload_n (j := 4) dX12_reads_65 rfl rfl ?_
          refine X_iconst (v := 5) dX12_reads_66 (by decide) ?_
          refine X_icmp_ne (tgt := 76) dX12_reads_67 (by decide) (fun c_147 => ?_) (fun c_147 => ?_)
          · have hd5 : d < 5 := Nat.lt_of_le_of_ne hI.2.2.1 (fun q => c_147 (by rw [q]; rfl))
            refine X_iload (j := 1) dX12_reads_76 rfl ?_
            refine X_if_ne (tgt := 86) dX12_reads_78 (by decide) (fun c_ => absurd rfl c_) (fun _ => ?_)
            refine X_iload (j := 0) dX12_reads_81 rfl ?_
            refine X_if_eq (tgt := 131) dX12_reads_83 (by decide) (fun c_ => absurd c_ (by decide)) (fun _ => ?_)
            refine X_aload_n (j := 3) dX12_reads_86 rfl rfl ?_
            refine X_iload (j := 1) dX12_reads_87 rfl ?_
            refine X_if_eq (tgt := 97) dX12_reads_89 (by decide) (fun _ => ?_) (fun c_ => absurd rfl c_)
            refine X_bipush (v := 28) dX12_reads_97 (by decide) ?_
            refine X_callV (j0 := 0) (rest := [(x2, ex_a 1 1000 f), (x28, ex_a 1 7 op1), (x29, ex_a 3 7 cm1)]) (stk := []) co_X12_225 rfl ⟨(Nat.le_of_ble_eq_true rfl), (Nat.le_of_ble_eq_true rfl)⟩ (e_X12_puts l m x0 x1 x2 (nI L) (nI (tN f L m1)) (nI (tP f L m1)) (tK f L m1) wD tD x9 x10 x11 x12 x13 x14 x15 x16 x17 x18 x19 x20 x21 x22 x23 x24 x25 x27 x28 x29 x30 x31 x32 x33 x34 x35 x36 x37 x38 x39 x40 x41 F cd1 i 28 (by have hz := tK_lt (f := f) (L := L) (n := m1) (fun e => absurd (e.symm.trans hp_145.1) (by decide)); have hy := hI.1; omega)) dX12_reads_99 [0, 2, 1, 3, 4] (show List.Perm [0, 2, 1, 3, 4] (List.range 5) from by decide) rfl rfl rfl rfl (Nat.le_of_ble_eq_true rfl) (fun cs1 r hq hk => ?_)
            rcases hq with ⟨rfl, rfl⟩
            refine X_iinc (v := nI (d + 1)) (j := 4) (lv' := [(1, ex_i (nI (d + 1))), (5, ex_i 1), (4, ex_i 0), (3, ex_i 0), (0, ex_r m), (2, ex_i 1)]) dX12_reads_102 rfl (nI_1 d) (Nat.le_of_ble_eq_true rfl) rfl ?_
            refine X_aload_n (j := 4) dX12_reads_105 rfl rfl ?_
            refine X_get (j := 0) fo_X12_62 dX12_reads_106 rfl rfl ?_
            refine X_iload_n (j := 0) dX12_reads_109 rfl rfl ?_
            refine X_iload (j := 2) dX12_reads_110 rfl ?_
            refine X_if_eq (tgt := 119) dX12_reads_112 (by decide) (fun _ => ?_) (fun c_ => absurd rfl c_)
            refine X_iconst (v := 2) dX12_reads_119 (by decide) ?_
            refine X_iast (j := 3) (g := upd op1 (d + 1) 2) (cs' := [(m, ex_o 12 (ex_u x0 :: ex_i x1 :: ex_r x2 :: ex_i (nI L) :: ex_i (nI (tN f L m1)) :: ex_i (nI (tP f L m1)) :: ex_i (tK f L m1) :: ex_j wD :: ex_i tD :: ex_i x9 :: ex_r x10 :: ex_r x11 :: ex_r x12 :: ex_r x13 :: ex_r x14 :: ex_r x15 :: ex_r x16 :: ex_r x17 :: ex_r x18 :: ex_r x19 :: ex_r x20 :: ex_r x21 :: ex_r x22 :: ex_r x23 :: ex_r x24 :: ex_r x25 :: ex_i (nI (1000 + (i + 1))) :: ex_i x27 :: ex_r x28 :: ex_r x29 :: ex_u x30 :: ex_u x31 :: ex_u x32 :: ex_u x33 :: ex_u x34 :: ex_u x35 :: ex_u x36 :: ex_u x37 :: ex_u x38 :: ex_u x39 :: ex_i x40 :: ex_j x41 :: F)), (x25, ex_a 1 2000 (upd cd1 (1000 + i) 28)), (x2, ex_a 1 1000 f), (x28, ex_a 1 7 (upd op1 (d + 1) 2)), (x29, ex_a 3 7 cm1)]) dX12_reads_120 rfl (vp_in_nI (show d + 1 < 7 by omega) (by decide)) (by rw [nI_clamp (by omega)]) rfl ?_
            refine X_aload_n (j := 4) dX12_reads_121 rfl rfl ?_
            refine X_get (j := 0) fo_X12_65 dX12_reads_122 rfl rfl ?_
            refine X_iload_n (j := 0) dX12_reads_125 rfl rfl ?_
            refine X_iconst (v := 0) dX12_reads_126 (by decide) ?_
            refine X_zast (j := 4) (g := upd cm1 (d + 1) 0) (cs' := [(m, ex_o 12 (ex_u x0 :: ex_i x1 :: ex_r x2 :: ex_i (nI L) :: ex_i (nI (tN f L m1)) :: ex_i (nI (tP f L m1)) :: ex_i (tK f L m1) :: ex_j wD :: ex_i tD :: ex_i x9 :: ex_r x10 :: ex_r x11 :: ex_r x12 :: ex_r x13 :: ex_r x14 :: ex_r x15 :: ex_r x16 :: ex_r x17 :: ex_r x18 :: ex_r x19 :: ex_r x20 :: ex_r x21 :: ex_r x22 :: ex_r x23 :: ex_r x24 :: ex_r x25 :: ex_i (nI (1000 + (i + 1))) :: ex_i x27 :: ex_r x28 :: ex_r x29 :: ex_u x30 :: ex_u x31 :: ex_u x32 :: ex_u x33 :: ex_u x34 :: ex_u x35 :: ex_u x36 :: ex_u x37 :: ex_u x38 :: ex_u x39 :: ex_i x40 :: ex_j x41 :: F)), (x25, ex_a 1 2000 (upd cd1 (1000 + i) 28)), (x2, ex_a 1 1000 f), (x28, ex_a 1 7 (upd op1 (d + 1) 2)), (x29, ex_a 3 7 (upd cm1 (d + 1) 0))]) dX12_reads_127 rfl (vp_in_nI (show d + 1 < 7 by omega) (by decide)) (by rw [nI_clamp (by omega)]; rfl) rfl ?_
            refine X_goto (tgt := 172) dX12_reads_128 (by decide) ?_
            refine X_aload_n (j := 4) dX12_reads_172 rfl rfl ?_
            refine X_callV (j0 := 0) (rest := [(x25, ex_a 1 2000 (upd cd1 (1000 + i) 28)), (x28, ex_a 1 7 (upd op1 (d + 1) 2)), (x29, ex_a 3 7 (upd cm1 (d + 1) 0))]) (stk := []) co_X12_229 rfl ⟨(Nat.le_of_ble_eq_true rfl), (Nat.le_of_ble_eq_true rfl)⟩ (e_X12_nextToken l m x0 x1 x2 (nI (tP f L m1)) (tK f L m1) wD tD x9 (ex_r x10 :: ex_r x11 :: ex_r x12 :: ex_r x13 :: ex_r x14 :: ex_r x15 :: ex_r x16 :: ex_r x17 :: ex_r x18 :: ex_r x19 :: ex_r x20 :: ex_r x21 :: ex_r x22 :: ex_r x23 :: ex_r x24 :: ex_r x25 :: ex_i (nI (1000 + (i + 1))) :: ex_i x27 :: ex_r x28 :: ex_r x29 :: ex_u x30 :: ex_u x31 :: ex_u x32 :: ex_u x33 :: ex_u x34 :: ex_u x35 :: ex_u x36 :: ex_u x37 :: ex_u x38 :: ex_u x39 :: ex_i x40 :: ex_j x41 :: F) f L (tN f L m1) hL (tN_le hI.2.1)) dX12_reads_173 [0, 2, 1, 3, 4] (show List.Perm [0, 2, 1, 3, 4] (List.range 5) from by decide) rfl rfl rfl rfl (Nat.le_of_ble_eq_true rfl) (fun cs1 r hq hk => ?_)
            rcases hq with ⟨wd1_148, td1_149, hp_150, hp_151, rfl, rfl⟩
            refine X_goto (tgt := 11) dX12_reads_176 (by decide) ?_
            have hgt := tN_gt (fun e => absurd (e.symm.trans hp_145.1) (by decide))
            have ha1 : i + 1 ≤ tN f L m1 := by have hz := hI.1; omega
            refine X_lv (lv' := [(0, ex_r m), (1, ex_i (nI (d + 1))), (2, ex_i 1)]) [4, 0, 5] rfl ?_
            exact ih (1, i + 1, (tN f L m1), d + 1, upd op1 (d + 1) 2, upd cm1 (d + 1) 0, upd cd1 (1000 + i) 28, wd1_148, td1_149) (⟨ha1, tN_le hI.2.1, (by show d + 1 ≤ 5; first | omega | (have hz := hI.2.2.1; omega)), fun _ => Nat.succ_pos i, hp_150, hp_151, Or.inr rfl, by show _ = es_E f L (1001 - (i + 1)) 1 (tN f L m1) (d + 1) (upd op1 (d + 1) 2) (upd cm1 (d + 1) 0); rw [hI.2.2.2.2.2.2.2, hs, es_E_Po (by decide) hd5 (pt_op hp_145), show 1001 - (i + 1) = 1000 - i by omega]⟩) (by show 1001 - (i + 1) < 1001 - i; have hz := hI.1; have hy := hI.2.1; omega)
          · refine X_aload_n (j := 3) dX12_reads_70 rfl rfl ?_
            refine X_iconst (v := 5) dX12_reads_71 (by decide) ?_
            refine X_callV (j0 := 0) (rest := [(x2, ex_a 1 1000 f), (x25, ex_a 1 2000 cd1), (x28, ex_a 1 7 op1), (x29, ex_a 3 7 cm1)]) (stk := []) co_X12_222 rfl ⟨(Nat.le_of_ble_eq_true rfl), (Nat.le_of_ble_eq_true rfl)⟩ (e_X12_fails l m x0 x1 x2 (nI L) (nI (tN f L m1)) (nI (tP f L m1)) (tK f L m1) wD tD x9 (ex_r x10 :: ex_r x11 :: ex_r x12 :: ex_r x13 :: ex_r x14 :: ex_r x15 :: ex_r x16 :: ex_r x17 :: ex_r x18 :: ex_r x19 :: ex_r x20 :: ex_r x21 :: ex_r x22 :: ex_r x23 :: ex_r x24 :: ex_r x25 :: ex_i (nI (1000 + i)) :: ex_i x27 :: ex_r x28 :: ex_r x29 :: ex_u x30 :: ex_u x31 :: ex_u x32 :: ex_u x33 :: ex_u x34 :: ex_u x35 :: ex_u x36 :: ex_u x37 :: ex_u x38 :: ex_u x39 :: ex_i x40 :: ex_j x41 :: F) 5) dX12_reads_72 [0, 1, 2, 3, 4] (show List.Perm [0, 1, 2, 3, 4] (List.range 5) from by decide) rfl rfl rfl rfl (Nat.le_of_ble_eq_true rfl) (fun cs1 r hq hk => ?_)
            rcases hq with ⟨rfl, rfl⟩
            exact X_iret ex_nZ rfl dX12_reads_75 rfl (Or.inr ⟨(nI (tN f L m1)), (nI (tP f L m1)), (tK f L m1), tD, (5 + 16 * (nI (tP f L m1))), wD, (1000 + i), cd1, op1, cm1, (by rw [hI.2.2.2.2.2.2.2, hs, es_E_P5 (by decide) (by rw [pt_op hp_145]; decide) (by have hz := nI_inj (n := 5) (by omega) (by decide) c_147; omega)]; rfl), rfl, rfl⟩)
        · refine X_istore (lv' := [(5, ex_i 0), (4, ex_i 0), (3, ex_i 0), (0, ex_r m), (1, ex_i (nI d)), (2, ex_i 1)]) dX12_reads_35 (Nat.le_of_ble_eq_true rfl) rfl ?_
          refine X_iload_n (j := 2) dX12_reads_37 rfl rfl ?_
          refine X_if_ne (tgt := 65) dX12_reads_38 (by decide) (fun c_ => absurd rfl c_) (fun _ => ?_)
          refine X_iload (j := 1) dX12_reads_41 rfl ?_
          refine X_if_ne (tgt := 65) dX12_reads_43 (by decide) (fun c_ => absurd rfl c_) (fun _ => ?_)
          refine X_iload (j := 0) dX12_reads_46 rfl ?_
          refine X_if_ne (tgt := 65) dX12_reads_48 (by decide) (fun c_ => absurd rfl c_) (fun _ => ?_)
          refine X_aload_n (j := 3) dX12_reads_51 rfl rfl ?_
          refine X_get (j := 0) fo_X12_181 dX12_reads_52 rfl rfl ?_
          refine X_iconst (v := 2) dX12_reads_55 (by decide) ?_
          refine X_icmp_eq (tgt := 65) dX12_reads_56 (by decide) (fun c_152 => ?_) (fun c_152 => ?_)
          · refine X_iload_n (j := 4) dX12_reads_65 rfl rfl ?_
            refine X_iconst (v := 5) dX12_reads_66 (by decide) ?_
            refine X_icmp_ne (tgt := 76) dX12_reads_67 (by decide) (fun c_153 => ?_) (fun c_153 => ?_)
            · have hd5 : d < 5 := Nat.lt_of_le_of_ne hI.2.2.1 (fun q => c_153 (by rw [q]; rfl))
              refine X_iload (j := 1) dX12_reads_76 rfl ?_
              refine X_if_ne (tgt := 86) dX12_reads_78 (by decide) (fun c_ => absurd rfl c_) (fun _ => ?_)
              refine X_iload (j := 0) dX12_reads_81 rfl ?_
              refine X_if_eq (tgt := 131) dX12_reads_83 (by decide) (fun _ => ?_) (fun c_ => absurd rfl c_)
              refine X_aload_n (j := 3) dX12_reads_131 rfl rfl ?_
              refine X_iload_n (j := 2) dX12_reads_132 rfl rfl ?_
              refine X_if_le (tgt := 140) dX12_reads_133 (by decide) (fun _ => ?_) (fun c_ => absurd (by decide) c_)
              refine X_bipush (v := 100) dX12_reads_140 (by decide) ?_
              refine X_aload_n (j := 3) dX12_reads_142 rfl rfl ?_
              refine X_get (j := 0) fo_X12_178 dX12_reads_143 rfl rfl ?_
              refine X_iadd (v := (100 + tD)) dX12_reads_146 rfl ?_
              refine X_callV (j0 := 0) (rest := [(x2, ex_a 1 1000 f), (x28, ex_a 1 7 op1), (x29, ex_a 3 7 cm1)]) (stk := []) co_X12_225 rfl ⟨(Nat.le_of_ble_eq_true rfl), (Nat.le_of_ble_eq_true rfl)⟩ (e_X12_puts l m x0 x1 x2 (nI L) (nI (tN f L m1)) (nI (tP f L m1)) (tK f L m1) wD tD x9 x10 x11 x12 x13 x14 x15 x16 x17 x18 x19 x20 x21 x22 x23 x24 x25 x27 x28 x29 x30 x31 x32 x33 x34 x35 x36 x37 x38 x39 x40 x41 F cd1 i (100 + tD) (by have hz := tK_lt (f := f) (L := L) (n := m1) (fun e => absurd (e.symm.trans c_152) (by decide)); have hy := hI.1; omega)) dX12_reads_147 [0, 2, 1, 3, 4] (show List.Perm [0, 2, 1, 3, 4] (List.range 5) from by decide) rfl rfl rfl rfl (Nat.le_of_ble_eq_true rfl) (fun cs1 r hq hk => ?_)
              rcases hq with ⟨rfl, rfl⟩
              refine X_iconst (v := 0) dX12_reads_150 (by decide) ?_
              refine X_istore_n (lv' := [(2, ex_i 0), (5, ex_i 0), (4, ex_i 0), (3, ex_i 0), (0, ex_r m), (1, ex_i (nI d))]) dX12_reads_151 rfl (Nat.le_of_ble_eq_true rfl) rfl ?_
              refine X_lv (lv' := [(0, ex_r m), (1, ex_i (nI d)), (2, ex_i 0)]) [4, 5, 0] rfl ?_
              refine X_ind (fun (e : Nat) => e ≤ 5 ∧ ppN op1 d = ppN op1 e) (fun (e : Nat) => e) (fun (e : Nat) => [(m, ex_o 12 (ex_u x0 :: ex_i x1 :: ex_r x2 :: ex_i (nI L) :: ex_i (nI (tN f L m1)) :: ex_i (nI (tP f L m1)) :: ex_i (tK f L m1) :: ex_j wD :: ex_i tD :: ex_i x9 :: ex_r x10 :: ex_r x11 :: ex_r x12 :: ex_r x13 :: ex_r x14 :: ex_r x15 :: ex_r x16 :: ex_r x17 :: ex_r x18 :: ex_r x19 :: ex_r x20 :: ex_r x21 :: ex_r x22 :: ex_r x23 :: ex_r x24 :: ex_r x25 :: ex_i (nI (1000 + (i + 1))) :: ex_i x27 :: ex_r x28 :: ex_r x29 :: ex_u x30 :: ex_u x31 :: ex_u x32 :: ex_u x33 :: ex_u x34 :: ex_u x35 :: ex_u x36 :: ex_u x37 :: ex_u x38 :: ex_u x39 :: ex_i x40 :: ex_j x41 :: F)), (x25, ex_a 1 2000 (upd cd1 (1000 + i) (100 + tD))), (x2, ex_a 1 1000 f), (x28, ex_a 1 7 op1), (x29, ex_a 3 7 cm1)]) (fun (e : Nat) => [(0, ex_r m), (1, ex_i (nI e)), (2, ex_i 0)]) (fun e hI2 ih2 => ?_) d (⟨by omega, rfl⟩)
              try dsimp only at hI2 ih2 ⊢
              refine X_iload_n (j := 1) dX12_reads_152 rfl rfl ?_
              refine X_if_le (tgt := 172) dX12_reads_153 (by decide) (fun c_154 => ?_) (fun c_154 => ?_)
              · have hpe : ppN op1 d = e := by rw [hI2.2]; exact ppN_n (Or.inl (Nat.eq_zero_of_not_pos (fun q => nI_nle q (by have hz := hI2.1; omega) c_154)))
                have he5 := hI2.1
                refine X_aload_n (j := 0) dX12_reads_172 rfl rfl ?_
                refine X_callV (j0 := 0) (rest := [(x25, ex_a 1 2000 (upd cd1 (1000 + i) (100 + tD))), (x28, ex_a 1 7 op1), (x29, ex_a 3 7 cm1)]) (stk := []) co_X12_229 rfl ⟨(Nat.le_of_ble_eq_true rfl), (Nat.le_of_ble_eq_true rfl)⟩ (e_X12_nextToken l m x0 x1 x2 (nI (tP f L m1)) (tK f L m1) wD tD x9 (ex_r x10 :: ex_r x11 :: ex_r x12 :: ex_r x13 :: ex_r x14 :: ex_r x15 :: ex_r x16 :: ex_r x17 :: ex_r x18 :: ex_r x19 :: ex_r x20 :: ex_r x21 :: ex_r x22 :: ex_r x23 :: ex_r x24 :: ex_r x25 :: ex_i (nI (1000 + (i + 1))) :: ex_i x27 :: ex_r x28 :: ex_r x29 :: ex_u x30 :: ex_u x31 :: ex_u x32 :: ex_u x33 :: ex_u x34 :: ex_u x35 :: ex_u x36 :: ex_u x37 :: ex_u x38 :: ex_u x39 :: ex_i x40 :: ex_j x41 :: F) f L (tN f L m1) hL (tN_le hI.2.1)) dX12_reads_173 [0, 2, 1, 3, 4] (show List.Perm [0, 2, 1, 3, 4] (List.range 5) from by decide) rfl rfl rfl rfl (Nat.le_of_ble_eq_true rfl) (fun cs1 r hq hk => ?_)
                rcases hq with ⟨wd1_155, td1_156, hp_157, hp_158, rfl, rfl⟩
                refine X_goto (tgt := 11) dX12_reads_176 (by decide) ?_
                have hgt := tN_gt (fun e => absurd (e.symm.trans c_152) (by decide))
                have ha1 : i + 1 ≤ tN f L m1 := by have hz := hI.1; omega
                refine X_lv (lv' := [(0, ex_r m), (1, ex_i (nI e)), (2, ex_i 0)]) [0, 1, 2] rfl ?_
                exact ih (0, i + 1, (tN f L m1), e, op1, cm1, upd cd1 (1000 + i) (100 + tD), wd1_155, td1_156) (⟨ha1, tN_le hI.2.1, (by show e ≤ 5; first | omega | (have hz := hI.2.2.1; omega)), fun _ => Nat.succ_pos i, hp_157, hp_158, Or.inl rfl, by show _ = es_E f L (1001 - (i + 1)) 0 (tN f L m1) e op1 cm1; rw [hI.2.2.2.2.2.2.2, hs, es_E_Pb (by decide) (pt_num c_152).1 hd5 (pt_num c_152).2, hpe, show 1001 - (i + 1) = 1000 - i by omega]⟩) (by show 1001 - (i + 1) < 1001 - i; have hz := hI.1; have hy := hI.2.1; omega)
              · obtain ⟨ke, rfl⟩ : ∃ ke, e = ke + 1 := ex_ow (Nat.pos_of_ne_zero (fun q => c_154 (by rw [q]; decide)))
                have hke := hI2.1
                refine X_aload_n (j := 0) dX12_reads_156 rfl rfl ?_
                refine X_get (j := 0) fo_X12_62 dX12_reads_157 rfl rfl ?_
                refine X_iload_n (j := 1) dX12_reads_160 rfl rfl ?_
                refine X_iald (j := 3) (v := (op1 (ke + 1))) dX12_reads_161 rfl (vp_in_nI (show ke + 1 < 7 by omega) (by decide)) (by rw [nI_clamp (by omega)]) ?_
                refine X_iconst (v := 1) dX12_reads_162 (by decide) ?_
                refine X_icmp_ne (tgt := 172) dX12_reads_163 (by decide) (fun c_159 => ?_) (fun c_159 => ?_)
                · have hpe : ppN op1 d = (ke + 1) := by rw [hI2.2]; exact ppN_n (Or.inr c_159)
                  have he5 := hI2.1
                  refine X_aload_n (j := 0) dX12_reads_172 rfl rfl ?_
                  refine X_callV (j0 := 0) (rest := [(x25, ex_a 1 2000 (upd cd1 (1000 + i) (100 + tD))), (x28, ex_a 1 7 op1), (x29, ex_a 3 7 cm1)]) (stk := []) co_X12_229 rfl ⟨(Nat.le_of_ble_eq_true rfl), (Nat.le_of_ble_eq_true rfl)⟩ (e_X12_nextToken l m x0 x1 x2 (nI (tP f L m1)) (tK f L m1) wD tD x9 (ex_r x10 :: ex_r x11 :: ex_r x12 :: ex_r x13 :: ex_r x14 :: ex_r x15 :: ex_r x16 :: ex_r x17 :: ex_r x18 :: ex_r x19 :: ex_r x20 :: ex_r x21 :: ex_r x22 :: ex_r x23 :: ex_r x24 :: ex_r x25 :: ex_i (nI (1000 + (i + 1))) :: ex_i x27 :: ex_r x28 :: ex_r x29 :: ex_u x30 :: ex_u x31 :: ex_u x32 :: ex_u x33 :: ex_u x34 :: ex_u x35 :: ex_u x36 :: ex_u x37 :: ex_u x38 :: ex_u x39 :: ex_i x40 :: ex_j x41 :: F) f L (tN f L m1) hL (tN_le hI.2.1)) dX12_reads_173 [0, 2, 1, 3, 4] (show List.Perm [0, 2, 1, 3, 4] (List.range 5) from by decide) rfl rfl rfl rfl (Nat.le_of_ble_eq_true rfl) (fun cs1 r hq hk => ?_)
                  rcases hq with ⟨wd1_160, td1_161, hp_162, hp_163, rfl, rfl⟩
                  refine X_goto (tgt := 11) dX12_reads_176 (by decide) ?_
                  have hgt := tN_gt (fun e => absurd (e.symm.trans c_152) (by decide))
                  have ha1 : i + 1 ≤ tN f L m1 := by have hz := hI.1; omega
                  refine X_lv (lv' := [(0, ex_r m), (1, ex_i (nI (ke + 1))), (2, ex_i 0)]) [0, 1, 2] rfl ?_
                  exact ih (0, i + 1, (tN f L m1), ke + 1, op1, cm1, upd cd1 (1000 + i) (100 + tD), wd1_160, td1_161) (⟨ha1, tN_le hI.2.1, (by show ke + 1 ≤ 5; first | omega | (have hz := hI.2.2.1; omega)), fun _ => Nat.succ_pos i, hp_162, hp_163, Or.inl rfl, by show _ = es_E f L (1001 - (i + 1)) 0 (tN f L m1) (ke + 1) op1 cm1; rw [hI.2.2.2.2.2.2.2, hs, es_E_Pb (by decide) (pt_num c_152).1 hd5 (pt_num c_152).2, hpe, show 1001 - (i + 1) = 1000 - i by omega]⟩) (by show 1001 - (i + 1) < 1001 - i; have hz := hI.1; have hy := hI.2.1; omega)
                · refine X_iinc (v := nI ke) (j := 1) (lv' := [(1, ex_i (nI ke)), (0, ex_r m), (2, ex_i 0)]) dX12_reads_166 rfl (nI_pi ke) (Nat.le_of_ble_eq_true rfl) rfl ?_
                  refine X_goto (tgt := 152) dX12_reads_169 (by decide) ?_
                  refine X_lv (lv' := [(0, ex_r m), (1, ex_i (nI ke)), (2, ex_i 0)]) [1, 0, 2] rfl ?_
                  exact ih2 ke (⟨by have hz := hI2.1; omega, by rw [hI2.2, ppN_y c_159]⟩) (by omega)
            · refine X_aload_n (j := 3) dX12_reads_70 rfl rfl ?_
              refine X_iconst (v := 5) dX12_reads_71 (by decide) ?_
              refine X_callV (j0 := 0) (rest := [(x2, ex_a 1 1000 f), (x25, ex_a 1 2000 cd1), (x28, ex_a 1 7 op1), (x29, ex_a 3 7 cm1)]) (stk := []) co_X12_222 rfl ⟨(Nat.le_of_ble_eq_true rfl), (Nat.le_of_ble_eq_true rfl)⟩ (e_X12_fails l m x0 x1 x2 (nI L) (nI (tN f L m1)) (nI (tP f L m1)) (tK f L m1) wD tD x9 (ex_r x10 :: ex_r x11 :: ex_r x12 :: ex_r x13 :: ex_r x14 :: ex_r x15 :: ex_r x16 :: ex_r x17 :: ex_r x18 :: ex_r x19 :: ex_r x20 :: ex_r x21 :: ex_r x22 :: ex_r x23 :: ex_r x24 :: ex_r x25 :: ex_i (nI (1000 + i)) :: ex_i x27 :: ex_r x28 :: ex_r x29 :: ex_u x30 :: ex_u x31 :: ex_u x32 :: ex_u x33 :: ex_u x34 :: ex_u x35 :: ex_u x36 :: ex_u x37 :: ex_u x38 :: ex_u x39 :: ex_i x40 :: ex_j x41 :: F) 5) dX12_reads_72 [0, 1, 2, 3, 4] (show List.Perm [0, 1, 2, 3, 4] (List.range 5) from by decide) rfl rfl rfl rfl (Nat.le_of_ble_eq_true rfl) (fun cs1 r hq hk => ?_)
              rcases hq with ⟨rfl, rfl⟩
              exact X_iret ex_nZ rfl dX12_reads_75 rfl (Or.inr ⟨(nI (tN f L m1)), (nI (tP f L m1)), (tK f L m1), tD, (5 + 16 * (nI (tP f L m1))), wD, (1000 + i), cd1, op1, cm1, (by rw [hI.2.2.2.2.2.2.2, hs, es_E_P5 (by decide) (pt_num c_152).1 (by have hz := nI_inj (n := 5) (by omega) (by decide) c_153; omega)]; rfl), rfl, rfl⟩)
          · refine X_aload_n (j := 3) dX12_reads_59 rfl rfl ?_
            refine X_iconst (v := 1) dX12_reads_60 (by decide) ?_
            refine X_callV (j0 := 0) (rest := [(x2, ex_a 1 1000 f), (x25, ex_a 1 2000 cd1), (x28, ex_a 1 7 op1), (x29, ex_a 3 7 cm1)]) (stk := []) co_X12_222 rfl ⟨(Nat.le_of_ble_eq_true rfl), (Nat.le_of_ble_eq_true rfl)⟩ (e_X12_fails l m x0 x1 x2 (nI L) (nI (tN f L m1)) (nI (tP f L m1)) (tK f L m1) wD tD x9 (ex_r x10 :: ex_r x11 :: ex_r x12 :: ex_r x13 :: ex_r x14 :: ex_r x15 :: ex_r x16 :: ex_r x17 :: ex_r x18 :: ex_r x19 :: ex_r x20 :: ex_r x21 :: ex_r x22 :: ex_r x23 :: ex_r x24 :: ex_r x25 :: ex_i (nI (1000 + i)) :: ex_i x27 :: ex_r x28 :: ex_r x29 :: ex_u x30 :: ex_u x31 :: ex_u x32 :: ex_u x33 :: ex_u x34 :: ex_u x35 :: ex_u x36 :: ex_u x37 :: ex_u x38 :: ex_u x39 :: ex_i x40 :: ex_j x41 :: F) 1) dX12_reads_61 [0, 1, 2, 3, 4] (show List.Perm [0, 1, 2, 3, 4] (List.range 5) from by decide) rfl rfl rfl rfl (Nat.le_of_ble_eq_true rfl) (fun cs1 r hq hk => ?_)
            rcases hq with ⟨rfl, rfl⟩
            exact X_iret ex_nZ rfl dX12_reads_64 rfl (Or.inr ⟨(nI (tN f L m1)), (nI (tP f L m1)), (tK f L m1), tD, (1 + 16 * (nI (tP f L m1))), wD, (1000 + i), cd1, op1, cm1, (by rw [hI.2.2.2.2.2.2.2, hs, es_E_P1 (by decide) (pt_none hp_108 (fun q => hp_137 ⟨q.1, by rw [q1 q.1]; exact (rW_iff q.1 (by decide +kernel) (by decide +kernel)).mpr q.2⟩) hp_146 c_152)]; rfl), rfl, rfl⟩)
