def sSickB (f : Nat → Int32) (L : Nat) (bs : List Int32) (pn : Nat → Int64) (np : Nat) (sf : Nat → Int32) (n : Nat) : PR (Nat × Nat × Int32 × Int32) := match sPers f L bs pn np n with
  | .inl e => .inl e
  | .inr (n1, w1) => if sf (pnF pn np w1).toNatClampNeg = -1 then (match sBoth f L (bw (zl 19)) 99 n1 with
    | .inl e => .inl e
    | .inr (n2, a) => match sB2 f L (bw (zl 20)) a 99 n2 with
      | .inl e => .inl e
      | .inr (n4, b) => match sEnd f L n4 with
        | .inl e => .inl e
        | .inr n5 => .inr (n5, (pnF pn np w1).toNatClampNeg, a, b)) else .inl (fq 3 (tP f L n))
theorem sSick_b {f : Nat → Int32} {L : Nat} {bs : List Int32} {pn : Nat → Int64} {np : Nat} {sf : Nat → Int32} {n : Nat} : sSick f L bs pn np sf n = sSickB f L bs pn np sf n := by
  unfold sSick sSickB
  cases sPers f L bs pn np n with
  | inl e => rfl
  | inr x =>
    obtain ⟨n1, w1⟩ := x
    dsimp only
    split
    · cases sBoth f L (bw (zl 19)) 99 n1 with
      | inl e => rfl
      | inr y =>
        obtain ⟨n2, a⟩ := y
        dsimp only
        unfold sB2
        cases sWord f L (bw (zl 20)) n2 with
        | inl e => rfl
        | inr n3 => rfl
    · rfl

set_option maxHeartbeats 4000000 in
set_option maxRecDepth 100000 in
theorem e_X12_readsSick (l : Launch) (m : Nat) (x0 : Int32) (x1 : Int32) (x2 : Nat) (x9 : Int32) (x10 : Nat) (x11 : Nat) (x12 : Nat) (x13 : Nat) (x14 : Nat) (x15 : Nat) (x16 : Nat) (x17 : Nat) (x18 : Nat) (x19 : Nat) (x20 : Nat) (x21 : Nat) (x22 : Nat) (x23 : Nat) (x24 : Nat) (x25 : Nat) (x26 : Int32) (x27 : Int32) (x28 : Nat) (x29 : Nat) (x30 : Nat) (x31 : Nat) (x32 : Nat) (x33 : Nat) (x34 : Nat) (x35 : Nat) (x36 : Nat) (x37 : Nat) (x38 : Nat) (x39 : Nat) (x40 : Int32) (x41 : Int64) (F : List MV) (wd1 : Int64) (td1 : Int32) (f : Nat → Int32) (L : Nat) (n : Nat) (ho : Nat → Int32) (rp : Nat → Int64) (pn : Nat → Int64) (np : Nat) (rsf : Nat → Int32) (rst : Nat → Int32) (sf : Nat → Int32) (hL : L ≤ 1000) (hn : n ≤ L) (j1 : tK f L n = 1 → wd1 = rW f L n) (j2 : tK f L n = 2 → td1 = tV f L n) (hh : ho 5 = nI np) (hc : np ≤ 6) (hr : nmRel pn rp 6 np) (hsk : ∀ i, i < np → (rst (6 + i) < 0 ↔ sf i = -1)) : ex_M l yX12_readsSick cX12_readsSick 3 (some .boolean) 4 88 [ex_r m] [(m, ex_o 12 (ex_i x0 :: ex_i x1 :: ex_r x2 :: ex_i (nI L) :: ex_i (nI (tN f L n)) :: ex_i (nI (tP f L n)) :: ex_i (tK f L n) :: ex_j wd1 :: ex_i td1 :: ex_i x9 :: ex_r x10 :: ex_r x11 :: ex_r x12 :: ex_r x13 :: ex_r x14 :: ex_r x15 :: ex_r x16 :: ex_r x17 :: ex_r x18 :: ex_r x19 :: ex_r x20 :: ex_r x21 :: ex_r x22 :: ex_r x23 :: ex_r x24 :: ex_r x25 :: ex_i x26 :: ex_i x27 :: ex_r x28 :: ex_r x29 :: ex_r x30 :: ex_r x31 :: ex_r x32 :: ex_r x33 :: ex_r x34 :: ex_r x35 :: ex_r x36 :: ex_r x37 :: ex_r x38 :: ex_r x39 :: ex_i x40 :: ex_j x41 :: F)), (x2, ex_a 1 1000 f), (x10, ex_a 1 10 ho), (x11, ex_b 12 rp), (x17, ex_a 1 12 rsf), (x18, ex_a 1 12 rst)] (fun cs r => (∃ (wd2 : Int64), ∃ (td2 : Int32), ∃ (n2 : Nat), ∃ (fr3 : Int64), ∃ (gv3 : Int32), ∃ (a : Nat), ∃ (p : Int32), ∃ (q : Int32), sSick f L rz.2.2.2 pn np sf (tN f L n) = .inr (n2, a, p, q) ∧ a < np ∧ (tK f L n2 = 1 → wd2 = rW f L n2) ∧ (tK f L n2 = 2 → td2 = tV f L n2) ∧ n2 ≤ L ∧ cs = [(m, ex_o 12 (ex_i x0 :: ex_i x1 :: ex_r x2 :: ex_i (nI L) :: ex_i (nI (tN f L n2)) :: ex_i (nI (tP f L n2)) :: ex_i (tK f L n2) :: ex_j wd2 :: ex_i td2 :: ex_i x9 :: ex_r x10 :: ex_r x11 :: ex_r x12 :: ex_r x13 :: ex_r x14 :: ex_r x15 :: ex_r x16 :: ex_r x17 :: ex_r x18 :: ex_r x19 :: ex_r x20 :: ex_r x21 :: ex_r x22 :: ex_r x23 :: ex_r x24 :: ex_r x25 :: ex_i x26 :: ex_i x27 :: ex_r x28 :: ex_r x29 :: ex_r x30 :: ex_r x31 :: ex_r x32 :: ex_r x33 :: ex_r x34 :: ex_r x35 :: ex_r x36 :: ex_r x37 :: ex_r x38 :: ex_r x39 :: ex_i gv3 :: ex_j fr3 :: F)), (x2, ex_a 1 1000 f), (x10, ex_a 1 10 ho), (x11, ex_b 12 rp), (x17, ex_a 1 12 (upd rsf (6 + a) p)), (x18, ex_a 1 12 (upd rst (6 + a) q))] ∧ r = some (ex_i 1)) ∨ (∃ (pl2 : Int32), ∃ (bg2 : Int32), ∃ (tk2 : Int32), ∃ (td2 : Int32), ∃ (fa2 : Int32), ∃ (gv2 : Int32), ∃ (wd2 : Int64), ∃ (fr2 : Int64), ∃ (rsf2 : Nat → Int32), ∃ (rst2 : Nat → Int32), sSick f L rz.2.2.2 pn np sf (tN f L n) = .inl fa2 ∧ kpA 6 rsf rsf2 ∧ kpA 6 rst rst2 ∧ cs = [(m, ex_o 12 (ex_i x0 :: ex_i x1 :: ex_r x2 :: ex_i (nI L) :: ex_i pl2 :: ex_i bg2 :: ex_i tk2 :: ex_j wd2 :: ex_i td2 :: ex_i fa2 :: ex_r x10 :: ex_r x11 :: ex_r x12 :: ex_r x13 :: ex_r x14 :: ex_r x15 :: ex_r x16 :: ex_r x17 :: ex_r x18 :: ex_r x19 :: ex_r x20 :: ex_r x21 :: ex_r x22 :: ex_r x23 :: ex_r x24 :: ex_r x25 :: ex_i x26 :: ex_i x27 :: ex_r x28 :: ex_r x29 :: ex_r x30 :: ex_r x31 :: ex_r x32 :: ex_r x33 :: ex_r x34 :: ex_r x35 :: ex_r x36 :: ex_r x37 :: ex_r x38 :: ex_r x39 :: ex_i gv2 :: ex_j fr2 :: F)), (x2, ex_a 1 1000 f), (x10, ex_a 1 10 ho), (x11, ex_b 12 rp), (x17, ex_a 1 12 rsf2), (x18, ex_a 1 12 rst2)] ∧ r = some (ex_i 0))) := by
  refine X_meth (by decide) (Nat.le_of_ble_eq_true rfl) ?_
  refine X_aload_n (j := 0) dX12_readsSick_0 rfl rfl ?_
  refine X_callV (j0 := 0) (rest := [(x10, ex_a 1 10 ho), (x11, ex_b 12 rp), (x17, ex_a 1 12 rsf), (x18, ex_a 1 12 rst)]) (stk := []) co_X12_229 rfl ⟨(Nat.le_of_ble_eq_true rfl), (Nat.le_of_ble_eq_true rfl)⟩ (e_X12_nextToken l m x0 x1 x2 (nI (tP f L n)) (tK f L n) wd1 td1 x9 (ex_r x10 :: ex_r x11 :: ex_r x12 :: ex_r x13 :: ex_r x14 :: ex_r x15 :: ex_r x16 :: ex_r x17 :: ex_r x18 :: ex_r x19 :: ex_r x20 :: ex_r x21 :: ex_r x22 :: ex_r x23 :: ex_r x24 :: ex_r x25 :: ex_i x26 :: ex_i x27 :: ex_r x28 :: ex_r x29 :: ex_r x30 :: ex_r x31 :: ex_r x32 :: ex_r x33 :: ex_r x34 :: ex_r x35 :: ex_r x36 :: ex_r x37 :: ex_r x38 :: ex_r x39 :: ex_i x40 :: ex_j x41 :: F) f L (tN f L n) hL (tN_le hn)) dX12_readsSick_1 [0, 1, 2, 3, 4, 5] (show List.Perm [0, 1, 2, 3, 4, 5] (List.range 6) from by decide) rfl rfl rfl rfl (Nat.le_of_ble_eq_true rfl) (fun cs1 r hq hk => ?_)
  rcases hq with ⟨wd1_1, td1_2, hp_3, hp_4, rfl, rfl⟩
  refine X_aload_n (j := 0) dX12_readsSick_4 rfl rfl ?_
  refine X_iconst (v := 1) dX12_readsSick_5 (by decide) ?_
  refine X_callV (j0 := 0) (rest := [(x17, ex_a 1 12 rsf), (x18, ex_a 1 12 rst)]) (stk := []) co_X12_332 rfl ⟨(Nat.le_of_ble_eq_true rfl), (Nat.le_of_ble_eq_true rfl)⟩ (e_X12_needsPerson l m x0 x1 x2 x9 x10 x11 x12 x13 x14 x15 x16 x17 x18 x19 x20 x21 x22 x23 x24 x25 x26 x27 x28 x29 x30 x31 x32 x33 x34 x35 x36 x37 x38 x39 x40 x41 F wd1_1 td1_2 f L (tN f L n) ho rp pn np hL (tN_le hn) hp_3 hp_4 hh hc hr) dX12_readsSick_6 [0, 1, 2, 3, 4, 5] (show List.Perm [0, 1, 2, 3, 4, 5] (List.range 6) from by decide) rfl rfl rfl rfl (Nat.le_of_ble_eq_true rfl) (fun cs1 r hq hk => ?_)
  rcases hq with ⟨hp_5, hp_6, hp_7, rfl, rfl⟩ | ⟨pl2_8, bg2_9, tk2_10, td2_11, fa2_12, gv2_13, wd2_14, fr2_15, hp_16, rfl, rfl⟩
  · obtain ⟨i, hi, ei⟩ := pnF_ix hp_6
    rw [ei]
    have ki : (nI i).toNatClampNeg = i := nI_clamp (by omega)
    refine X_if_ne (tgt := 14) dX12_readsSick_9 (by decide) (fun _ => ?_) (fun c_ => absurd c_ (by decide))
    refine X_bipush (v := 6) dX12_readsSick_14 (by decide) ?_
    refine X_aload_n (j := 0) dX12_readsSick_16 rfl rfl ?_
    refine X_get (j := 0) fo_X12_297 dX12_readsSick_17 rfl rfl ?_
    refine X_iadd (v := nI (6 + i)) dX12_readsSick_20 (nI_add 6 i) ?_
    refine X_istore_n (lv' := [(1, ex_i (nI (6 + i))), (0, ex_r m)]) dX12_readsSick_21 rfl (Nat.le_of_ble_eq_true rfl) rfl ?_
    refine X_aload_n (j := 1) dX12_readsSick_22 rfl rfl ?_
    refine X_get (j := 0) fo_X12_38 dX12_readsSick_23 rfl rfl ?_
    refine X_iload_n (j := 0) dX12_readsSick_26 rfl rfl ?_
    refine X_iald (j := 5) (v := (rst (6 + i))) dX12_readsSick_27 rfl (vp_in_nI (show 6 + i < 12 by omega) (by decide)) (by rw [nI_clamp (by omega)]) ?_
    refine X_if_lt (tgt := 37) dX12_readsSick_28 (by decide) (fun c_17 => ?_) (fun c_17 => ?_)
    · refine X_aload_n (j := 1) dX12_readsSick_37 rfl rfl ?_
      refine X_callV (j0 := 0) (rest := [(x10, ex_a 1 10 ho), (x11, ex_b 12 rp), (x17, ex_a 1 12 rsf), (x18, ex_a 1 12 rst)]) (stk := []) co_X12_229 rfl ⟨(Nat.le_of_ble_eq_true rfl), (Nat.le_of_ble_eq_true rfl)⟩ (e_X12_nextToken l m x0 x1 x2 (nI (tP f L (tN f L n))) (tK f L (tN f L n)) wd1_1 td1_2 x9 (ex_r x10 :: ex_r x11 :: ex_r x12 :: ex_r x13 :: ex_r x14 :: ex_r x15 :: ex_r x16 :: ex_r x17 :: ex_r x18 :: ex_r x19 :: ex_r x20 :: ex_r x21 :: ex_r x22 :: ex_r x23 :: ex_r x24 :: ex_r x25 :: ex_i x26 :: ex_i x27 :: ex_r x28 :: ex_r x29 :: ex_r x30 :: ex_r x31 :: ex_r x32 :: ex_r x33 :: ex_r x34 :: ex_r x35 :: ex_r x36 :: ex_r x37 :: ex_r x38 :: ex_r x39 :: ex_i (nI i) :: ex_j x41 :: F) f L (tN f L (tN f L n)) hL (tN_le (tN_le hn))) dX12_readsSick_38 [0, 1, 2, 3, 4, 5] (show List.Perm [0, 1, 2, 3, 4, 5] (List.range 6) from by decide) rfl rfl rfl rfl (Nat.le_of_ble_eq_true rfl) (fun cs1 r hq hk => ?_)
      rcases hq with ⟨wd1_18, td1_19, hp_20, hp_21, rfl, rfl⟩
      refine X_aload_n (j := 1) dX12_readsSick_41 rfl rfl ?_
      refine X_ldc2_w (v := 131638) k_1578 dX12_readsSick_42 ?_
      refine X_iconst (v := 0) dX12_readsSick_45 (by decide) ?_
      refine X_bipush (v := 99) dX12_readsSick_46 (by decide) ?_
      refine X_callV (j0 := 0) (rest := [(x10, ex_a 1 10 ho), (x11, ex_b 12 rp), (x17, ex_a 1 12 rsf), (x18, ex_a 1 12 rst)]) (stk := []) co_X12_325 rfl ⟨(Nat.le_of_ble_eq_true rfl), (Nat.le_of_ble_eq_true rfl)⟩ (e_X12_needsBoth l m x0 x1 x2 x9 x10 x11 x12 x13 x14 x15 x16 x17 x18 x19 x20 x21 x22 x23 x24 x25 x26 x27 x28 x29 x30 x31 x32 x33 x34 x35 x36 x37 x38 x39 (nI i) x41 F wd1_18 td1_19 f L (tN f L (tN f L n)) 131638 (bw (zl 19)) 0 99 hL (tN_le (tN_le hn)) hp_20 hp_21 (by decide +kernel) (by decide +kernel)) dX12_readsSick_48 [0, 1, 2, 3, 4, 5] (show List.Perm [0, 1, 2, 3, 4, 5] (List.range 6) from by decide) rfl rfl rfl rfl (Nat.le_of_ble_eq_true rfl) (fun cs1 r hq hk => ?_)
      rcases hq with ⟨wd2_22, td2_23, n2_24, gv2_25, hp_26, hp_27, hp_28, hp_29, rfl, rfl⟩ | ⟨pl2_30, bg2_31, tk2_32, td2_33, fa2_34, gv2_35, wd2_36, fr2_37, hp_38, rfl, rfl⟩
      · have hB_39 : sBoth f L (bw (zl 19)) 99 (tN f L (tN f L n)) = .inr (n2_24, gv2_25) := hp_26
        refine X_if_ne (tgt := 56) dX12_readsSick_51 (by decide) (fun _ => ?_) (fun c_ => absurd c_ (by decide))
        refine X_aload_n (j := 1) dX12_readsSick_56 rfl rfl ?_
        refine X_get (j := 0) fo_X12_297 dX12_readsSick_57 rfl rfl ?_
        refine X_istore_n (lv' := [(2, ex_i gv2_25), (1, ex_i (nI (6 + i))), (0, ex_r m)]) dX12_readsSick_60 rfl (Nat.le_of_ble_eq_true rfl) rfl ?_
        refine X_aload_n (j := 2) dX12_readsSick_61 rfl rfl ?_
        refine X_ldc2_w (v := 555) k_1579 dX12_readsSick_62 ?_
        refine X_iload_n (j := 0) dX12_readsSick_65 rfl rfl ?_
        refine X_bipush (v := 99) dX12_readsSick_66 (by decide) ?_
        refine X_callV (j0 := 0) (rest := [(x10, ex_a 1 10 ho), (x11, ex_b 12 rp), (x17, ex_a 1 12 rsf), (x18, ex_a 1 12 rst)]) (stk := []) co_X12_325 rfl ⟨(Nat.le_of_ble_eq_true rfl), (Nat.le_of_ble_eq_true rfl)⟩ (e_X12_needsBoth l m x0 x1 x2 x9 x10 x11 x12 x13 x14 x15 x16 x17 x18 x19 x20 x21 x22 x23 x24 x25 x26 x27 x28 x29 x30 x31 x32 x33 x34 x35 x36 x37 x38 x39 gv2_25 x41 F wd2_22 td2_23 f L n2_24 555 (bw (zl 20)) gv2_25 99 hL hp_29 hp_27 hp_28 (by decide +kernel) (by decide +kernel)) dX12_readsSick_68 [0, 1, 2, 3, 4, 5] (show List.Perm [0, 1, 2, 3, 4, 5] (List.range 6) from by decide) rfl rfl rfl rfl (Nat.le_of_ble_eq_true rfl) (fun cs1 r hq hk => ?_)
        rcases hq with ⟨wd2_40, td2_41, n2_42, gv2_43, hp_44, hp_45, hp_46, hp_47, rfl, rfl⟩ | ⟨pl2_48, bg2_49, tk2_50, td2_51, fa2_52, gv2_53, wd2_54, fr2_55, hp_56, rfl, rfl⟩
        · refine X_if_ne (tgt := 76) dX12_readsSick_71 (by decide) (fun _ => ?_) (fun c_ => absurd c_ (by decide))
          refine X_aload_n (j := 2) dX12_readsSick_76 rfl rfl ?_
          refine X_get (j := 0) fo_X12_35 dX12_readsSick_77 rfl rfl ?_
          refine X_iload_n (j := 1) dX12_readsSick_80 rfl rfl ?_
          refine X_iload_n (j := 0) dX12_readsSick_81 rfl rfl ?_
          refine X_iast (j := 4) (g := upd rsf (6 + i) gv2_25) (cs' := [(m, ex_o 12 (ex_i x0 :: ex_i x1 :: ex_r x2 :: ex_i (nI L) :: ex_i (nI (tN f L n2_42)) :: ex_i (nI (tP f L n2_42)) :: ex_i (tK f L n2_42) :: ex_j wd2_40 :: ex_i td2_41 :: ex_i x9 :: ex_r x10 :: ex_r x11 :: ex_r x12 :: ex_r x13 :: ex_r x14 :: ex_r x15 :: ex_r x16 :: ex_r x17 :: ex_r x18 :: ex_r x19 :: ex_r x20 :: ex_r x21 :: ex_r x22 :: ex_r x23 :: ex_r x24 :: ex_r x25 :: ex_i x26 :: ex_i x27 :: ex_r x28 :: ex_r x29 :: ex_r x30 :: ex_r x31 :: ex_r x32 :: ex_r x33 :: ex_r x34 :: ex_r x35 :: ex_r x36 :: ex_r x37 :: ex_r x38 :: ex_r x39 :: ex_i gv2_43 :: ex_j x41 :: F)), (x2, ex_a 1 1000 f), (x10, ex_a 1 10 ho), (x11, ex_b 12 rp), (x17, ex_a 1 12 (upd rsf (6 + i) gv2_25)), (x18, ex_a 1 12 rst)]) dX12_readsSick_82 rfl (vp_in_nI (show 6 + i < 12 by omega) (by decide)) (by rw [nI_clamp (by omega)]) rfl ?_
          refine X_aload_n (j := 2) dX12_readsSick_83 rfl rfl ?_
          refine X_get (j := 0) fo_X12_38 dX12_readsSick_84 rfl rfl ?_
          refine X_iload_n (j := 1) dX12_readsSick_87 rfl rfl ?_
          refine X_aload_n (j := 2) dX12_readsSick_88 rfl rfl ?_
          refine X_get (j := 0) fo_X12_297 dX12_readsSick_89 rfl rfl ?_
          refine X_iast (j := 5) (g := upd rst (6 + i) gv2_43) (cs' := [(m, ex_o 12 (ex_i x0 :: ex_i x1 :: ex_r x2 :: ex_i (nI L) :: ex_i (nI (tN f L n2_42)) :: ex_i (nI (tP f L n2_42)) :: ex_i (tK f L n2_42) :: ex_j wd2_40 :: ex_i td2_41 :: ex_i x9 :: ex_r x10 :: ex_r x11 :: ex_r x12 :: ex_r x13 :: ex_r x14 :: ex_r x15 :: ex_r x16 :: ex_r x17 :: ex_r x18 :: ex_r x19 :: ex_r x20 :: ex_r x21 :: ex_r x22 :: ex_r x23 :: ex_r x24 :: ex_r x25 :: ex_i x26 :: ex_i x27 :: ex_r x28 :: ex_r x29 :: ex_r x30 :: ex_r x31 :: ex_r x32 :: ex_r x33 :: ex_r x34 :: ex_r x35 :: ex_r x36 :: ex_r x37 :: ex_r x38 :: ex_r x39 :: ex_i gv2_43 :: ex_j x41 :: F)), (x2, ex_a 1 1000 f), (x10, ex_a 1 10 ho), (x11, ex_b 12 rp), (x17, ex_a 1 12 (upd rsf (6 + i) gv2_25)), (x18, ex_a 1 12 (upd rst (6 + i) gv2_43))]) dX12_readsSick_92 rfl (vp_in_nI (show 6 + i < 12 by omega) (by decide)) (by rw [nI_clamp (by omega)]) rfl ?_
          refine X_aload_n (j := 2) dX12_readsSick_93 rfl rfl ?_
          refine X_callV (j0 := 0) (rest := [(x10, ex_a 1 10 ho), (x11, ex_b 12 rp), (x17, ex_a 1 12 (upd rsf (6 + i) gv2_25)), (x18, ex_a 1 12 (upd rst (6 + i) gv2_43))]) (stk := []) co_X12_329 rfl ⟨(Nat.le_of_ble_eq_true rfl), (Nat.le_of_ble_eq_true rfl)⟩ (e_X12_closes l m x0 x1 x2 x9 x10 x11 x12 x13 x14 x15 x16 x17 x18 x19 x20 x21 x22 x23 x24 x25 x26 x27 x28 x29 x30 x31 x32 x33 x34 x35 x36 x37 x38 x39 gv2_43 x41 F wd2_40 td2_41 f L n2_42 hL hp_47 hp_45 hp_46) dX12_readsSick_94 [0, 1, 2, 3, 4, 5] (show List.Perm [0, 1, 2, 3, 4, 5] (List.range 6) from by decide) rfl rfl rfl rfl (Nat.le_of_ble_eq_true rfl) (fun cs1 r hq hk => ?_)
          rcases hq with ⟨wd2_57, td2_58, n2_59, hp_60, hp_61, hp_62, hp_63, rfl, rfl⟩ | ⟨pl2_64, bg2_65, tk2_66, td2_67, fa2_68, gv2_69, wd2_70, fr2_71, hp_72, rfl, rfl⟩
          · exact X_iret ex_nZ rfl dX12_readsSick_97 rfl (Or.inl ⟨wd2_57, td2_58, n2_59, x41, gv2_43, i, gv2_25, gv2_43, (by rw [sSick_b]; simp only [sSickB, hp_5, ei, ki]; rw [if_pos ((hsk i hi).mp c_17)]; simp only [hB_39, hp_44, hp_60]), hi, hp_61, hp_62, hp_63, rfl, rfl⟩)
          · exact X_iret ex_nZ rfl dX12_readsSick_97 rfl (Or.inr ⟨pl2_64, bg2_65, tk2_66, td2_67, fa2_68, gv2_69, wd2_70, fr2_71, (upd rsf (6 + i) gv2_25), (upd rst (6 + i) gv2_43), (by rw [sSick_b]; simp only [sSickB, hp_5, ei, ki]; rw [if_pos ((hsk i hi).mp c_17)]; simp only [hB_39, hp_44, hp_72]), (by intro k hk; repeat (first | rfl | refine Eq.trans (pk_un (by omega)) ?_ | refine Eq.trans (upL_n (by omega)) ?_)), (by intro k hk; repeat (first | rfl | refine Eq.trans (pk_un (by omega)) ?_ | refine Eq.trans (upL_n (by omega)) ?_)), rfl, rfl⟩)
        · refine X_if_ne (tgt := 76) dX12_readsSick_71 (by decide) (fun c_ => absurd rfl c_) (fun _ => ?_)
          refine X_iconst (v := 0) dX12_readsSick_74 (by decide) ?_
          exact X_iret ex_nZ rfl dX12_readsSick_75 rfl (Or.inr ⟨pl2_48, bg2_49, tk2_50, td2_51, fa2_52, gv2_53, wd2_54, fr2_55, rsf, rst, (by rw [sSick_b]; simp only [sSickB, hp_5, ei, ki]; rw [if_pos ((hsk i hi).mp c_17)]; simp only [hB_39, hp_56]), (by intro k hk; repeat (first | rfl | refine Eq.trans (pk_un (by omega)) ?_ | refine Eq.trans (upL_n (by omega)) ?_)), (by intro k hk; repeat (first | rfl | refine Eq.trans (pk_un (by omega)) ?_ | refine Eq.trans (upL_n (by omega)) ?_)), rfl, rfl⟩)
      · have hB_73 : sBoth f L (bw (zl 19)) 99 (tN f L (tN f L n)) = .inl fa2_34 := hp_38
        refine X_if_ne (tgt := 56) dX12_readsSick_51 (by decide) (fun c_ => absurd rfl c_) (fun _ => ?_)
        refine X_iconst (v := 0) dX12_readsSick_54 (by decide) ?_
        exact X_iret ex_nZ rfl dX12_readsSick_55 rfl (Or.inr ⟨pl2_30, bg2_31, tk2_32, td2_33, fa2_34, gv2_35, wd2_36, fr2_37, rsf, rst, (by rw [sSick_b]; simp only [sSickB, hp_5, ei, ki]; rw [if_pos ((hsk i hi).mp c_17)]; simp only [hB_73]), (by intro k hk; repeat (first | rfl | refine Eq.trans (pk_un (by omega)) ?_ | refine Eq.trans (upL_n (by omega)) ?_)), (by intro k hk; repeat (first | rfl | refine Eq.trans (pk_un (by omega)) ?_ | refine Eq.trans (upL_n (by omega)) ?_)), rfl, rfl⟩)
    · refine X_aload_n (j := 1) dX12_readsSick_31 rfl rfl ?_
      refine X_iconst (v := 3) dX12_readsSick_32 (by decide) ?_
      refine X_callV (j0 := 0) (rest := [(x2, ex_a 1 1000 f), (x10, ex_a 1 10 ho), (x11, ex_b 12 rp), (x17, ex_a 1 12 rsf), (x18, ex_a 1 12 rst)]) (stk := []) co_X12_222 rfl ⟨(Nat.le_of_ble_eq_true rfl), (Nat.le_of_ble_eq_true rfl)⟩ (e_X12_fails l m x0 x1 x2 (nI L) (nI (tN f L (tN f L n))) (nI (tP f L (tN f L n))) (tK f L (tN f L n)) wd1_1 td1_2 x9 (ex_r x10 :: ex_r x11 :: ex_r x12 :: ex_r x13 :: ex_r x14 :: ex_r x15 :: ex_r x16 :: ex_r x17 :: ex_r x18 :: ex_r x19 :: ex_r x20 :: ex_r x21 :: ex_r x22 :: ex_r x23 :: ex_r x24 :: ex_r x25 :: ex_i x26 :: ex_i x27 :: ex_r x28 :: ex_r x29 :: ex_r x30 :: ex_r x31 :: ex_r x32 :: ex_r x33 :: ex_r x34 :: ex_r x35 :: ex_r x36 :: ex_r x37 :: ex_r x38 :: ex_r x39 :: ex_i (nI i) :: ex_j x41 :: F) 3) dX12_readsSick_33 [0, 1, 2, 3, 4, 5] (show List.Perm [0, 1, 2, 3, 4, 5] (List.range 6) from by decide) rfl rfl rfl rfl (Nat.le_of_ble_eq_true rfl) (fun cs1 r hq hk => ?_)
      rcases hq with ⟨rfl, rfl⟩
      exact X_iret ex_nZ rfl dX12_readsSick_36 rfl (Or.inr ⟨(nI (tN f L (tN f L n))), (nI (tP f L (tN f L n))), (tK f L (tN f L n)), td1_2, (3 + 16 * (nI (tP f L (tN f L n)))), (nI i), wd1_1, x41, rsf, rst, (by rw [sSick_b]; simp only [sSickB, hp_5, ei, ki]; rw [if_neg (fun q => c_17 ((hsk i hi).mpr q))]; rfl), (by intro k hk; repeat (first | rfl | refine Eq.trans (pk_un (by omega)) ?_ | refine Eq.trans (upL_n (by omega)) ?_)), (by intro k hk; repeat (first | rfl | refine Eq.trans (pk_un (by omega)) ?_ | refine Eq.trans (upL_n (by omega)) ?_)), rfl, rfl⟩)
  · refine X_if_ne (tgt := 14) dX12_readsSick_9 (by decide) (fun c_ => absurd rfl c_) (fun _ => ?_)
    refine X_iconst (v := 0) dX12_readsSick_12 (by decide) ?_
    exact X_iret ex_nZ rfl dX12_readsSick_13 rfl (Or.inr ⟨pl2_8, bg2_9, tk2_10, td2_11, fa2_12, gv2_13, wd2_14, fr2_15, rsf, rst, (by rw [sSick_b]; simp only [sSickB, hp_16]), (by intro k hk; repeat (first | rfl | refine Eq.trans (pk_un (by omega)) ?_ | refine Eq.trans (upL_n (by omega)) ?_)), (by intro k hk; repeat (first | rfl | refine Eq.trans (pk_un (by omega)) ?_ | refine Eq.trans (upL_n (by omega)) ?_)), rfl, rfl⟩)
