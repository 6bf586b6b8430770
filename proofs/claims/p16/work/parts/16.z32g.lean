set_option maxHeartbeats 4000000 in
set_option maxRecDepth 100000 in
theorem e_X1_readsCup (l : Launch) (t : Nat) (g : Nat) (L : Nat) (fa : Int32) (ki : Int32) (nu : Int32) (sg : Int32) (wo : Int64) (n : Nat) (pl : Int32) (f : Nat → Int32) (c : Nat) (c0 : Nat) (c1 : Nat) (c2 : Nat) (c3 : Nat) (c4 : Nat) (c5 : Nat) (c6 : Nat) (c7 : Nat) (c8 : Nat) (c9 : Nat) (c10 : Nat) (c11 : Nat) (c12 : Nat) (c17 : Nat) (c18 : Nat) (c19 : Nat) (np : Nat) (nd : Nat) (sto : Int32) (res : Int32) (pn : Nat → Int64) (cu : Nat → Int32) (hL : L ≤ 1000) (hn : n ≤ L) (hf : ∀ j, 0 ≤ (f j).toInt ∧ (f j).toInt ≤ 127) (hc : np ≤ 6) : ex_M l yX1_readsCup cX1_readsCup 4 (some .boolean) 6 147 [ex_r t, ex_r c] [(t, ex_o 9 [ex_r g, ex_i (nI L), ex_i fa, ex_i ki, ex_i nu, ex_i sg, ex_j wo, ex_i (nI n), ex_i pl]), (g, ex_a 0 1000 f), (c, ex_o 0 [ex_r c0, ex_r c1, ex_r c2, ex_r c3, ex_r c4, ex_r c5, ex_r c6, ex_r c7, ex_r c8, ex_r c9, ex_r c10, ex_r c11, ex_r c12, ex_i (nI np), ex_i (nI nd), ex_i sto, ex_i res, ex_r c17, ex_r c18, ex_r c19]), (c0, ex_b 6 pn), (c7, ex_a 1 6 cu)] (fun cs r => (∃ (ki2 : Int32), ∃ (nu2 : Int32), ∃ (sg2 : Int32), ∃ (wo2 : Int64), ∃ (pl2 : Int32), ∃ (n2 : Nat), ∃ (a : Nat), ∃ (b : Nat), sCup f L rz.2.2.2 pn np cu n = .inr (n2, a, b) ∧ (a < np ∧ b < np) ∧ n2 ≤ L ∧ cs = [(t, ex_o 9 [ex_r g, ex_i (nI L), ex_i fa, ex_i ki2, ex_i nu2, ex_i sg2, ex_j wo2, ex_i (nI n2), ex_i pl2]), (g, ex_a 0 1000 f), (c, ex_o 0 [ex_r c0, ex_r c1, ex_r c2, ex_r c3, ex_r c4, ex_r c5, ex_r c6, ex_r c7, ex_r c8, ex_r c9, ex_r c10, ex_r c11, ex_r c12, ex_i (nI np), ex_i (nI nd), ex_i sto, ex_i res, ex_r c17, ex_r c18, ex_r c19]), (c0, ex_b 6 pn), (c7, ex_a 1 6 (cupU cu a b))] ∧ r = some (ex_i 1)) ∨ (∃ (fa2 : Int32), ∃ (ki2 : Int32), ∃ (nu2 : Int32), ∃ (sg2 : Int32), ∃ (wo2 : Int64), ∃ (ne2 : Int32), ∃ (pl2 : Int32), ∃ (cu2 : Nat → Int32), sCup f L rz.2.2.2 pn np cu n = .inl fa2 ∧ cs = [(t, ex_o 9 [ex_r g, ex_i (nI L), ex_i fa2, ex_i ki2, ex_i nu2, ex_i sg2, ex_j wo2, ex_i ne2, ex_i pl2]), (g, ex_a 0 1000 f), (c, ex_o 0 [ex_r c0, ex_r c1, ex_r c2, ex_r c3, ex_r c4, ex_r c5, ex_r c6, ex_r c7, ex_r c8, ex_r c9, ex_r c10, ex_r c11, ex_r c12, ex_i (nI np), ex_i (nI nd), ex_i sto, ex_i res, ex_r c17, ex_r c18, ex_r c19]), (c0, ex_b 6 pn), (c7, ex_a 1 6 cu2)] ∧ r = some (ex_i 0))) := by
  refine X_meth (by decide) (Nat.le_of_ble_eq_true rfl) ?_
  refine X_aload_n (j := 0) dX1_readsCup_0 rfl rfl ?_
  refine X_aload_n (j := 1) dX1_readsCup_1 rfl rfl ?_
  refine X_callV (j0 := 0) (rest := [(c7, ex_a 1 6 cu)]) (stk := []) co_X1_163 rfl ⟨(Nat.le_of_ble_eq_true rfl), (Nat.le_of_ble_eq_true rfl)⟩ (e_X9_takesPerson l t g L fa ki nu sg wo n pl f c c0 c1 c2 c3 c4 c5 c6 c7 c8 c9 c10 c11 c12 c17 c18 c19 np nd sto res pn hL hn hf hc) dX1_readsCup_2 [0, 1, 2, 3, 4] (show List.Perm [0, 1, 2, 3, 4] (List.range 5) from by decide) rfl rfl rfl rfl (Nat.le_of_ble_eq_true rfl) (fun cs1 r hq hk => ?_)
  rcases hq with ⟨ki2_1, nu2_2, sg2_3, wo2_4, n2_5, hp_6, hp_7, hp_8, rfl, rfl⟩ | ⟨fa2_9, ki2_10, nu2_11, sg2_12, wo2_13, ne2_14, pl2_15, hp_16, rfl, rfl⟩
  · refine X_if_ne (tgt := 10) dX1_readsCup_5 (by decide) (fun _ => ?_) (fun c_ => absurd c_ (by decide))
    refine X_aload_n (j := 1) dX1_readsCup_10 rfl rfl ?_
    refine X_aload_n (j := 0) dX1_readsCup_11 rfl rfl ?_
    refine X_get (j := 0) fo_X1_92 dX1_readsCup_12 rfl rfl ?_
    refine X_callV (j0 := 0) (rest := [(t, ex_o 9 [ex_r g, ex_i (nI L), ex_i fa, ex_i ki2_1, ex_i nu2_2, ex_i sg2_3, ex_j wo2_4, ex_i (nI n2_5), ex_i (nI (tP f L n))]), (g, ex_a 0 1000 f), (c7, ex_a 1 6 cu)]) (stk := []) co_X1_128 rfl ⟨(Nat.le_of_ble_eq_true rfl), (Nat.le_of_ble_eq_true rfl)⟩ (e_X0_personNamed l c c0 c1 c2 c3 c4 c5 c6 c7 c8 c9 c10 c11 c12 c17 c18 c19 np nd sto res pn wo2_4 hc) dX1_readsCup_15 [2, 3, 0, 1, 4] (show List.Perm [2, 3, 0, 1, 4] (List.range 5) from by decide) rfl rfl rfl rfl (Nat.le_of_ble_eq_true rfl) (fun cs1 r hq hk => ?_)
    rcases hq with ⟨rfl, rfl⟩
    obtain ⟨i, hi, ei⟩ := pnF_ix hp_7
    rw [ei]
    have ki : (nI i).toNatClampNeg = i := nI_clamp (by omega)
    refine X_istore_n (lv' := [(2, ex_i (nI i)), (0, ex_r t), (1, ex_r c)]) dX1_readsCup_18 rfl (Nat.le_of_ble_eq_true rfl) rfl ?_
    refine X_aload_n (j := 1) dX1_readsCup_19 rfl rfl ?_
    refine X_aload_n (j := 2) dX1_readsCup_20 rfl rfl ?_
    refine X_callV (j0 := 0) (rest := [(c7, ex_a 1 6 cu)]) (stk := []) co_X1_163 rfl ⟨(Nat.le_of_ble_eq_true rfl), (Nat.le_of_ble_eq_true rfl)⟩ (e_X9_takesPerson l t g L fa ki2_1 nu2_2 sg2_3 wo2_4 n2_5 (nI (tP f L n)) f c c0 c1 c2 c3 c4 c5 c6 c7 c8 c9 c10 c11 c12 c17 c18 c19 np nd sto res pn hL hp_8 hf hc) dX1_readsCup_21 [2, 3, 0, 1, 4] (show List.Perm [2, 3, 0, 1, 4] (List.range 5) from by decide) rfl rfl rfl rfl (Nat.le_of_ble_eq_true rfl) (fun cs1 r hq hk => ?_)
    rcases hq with ⟨ki2_17, nu2_18, sg2_19, wo2_20, n2_21, hp_22, hp_23, hp_24, rfl, rfl⟩ | ⟨fa2_25, ki2_26, nu2_27, sg2_28, wo2_29, ne2_30, pl2_31, hp_32, rfl, rfl⟩
    · refine X_if_ne (tgt := 29) dX1_readsCup_24 (by decide) (fun _ => ?_) (fun c_ => absurd c_ (by decide))
      refine X_aload_n (j := 2) dX1_readsCup_29 rfl rfl ?_
      refine X_aload_n (j := 1) dX1_readsCup_30 rfl rfl ?_
      refine X_get (j := 0) fo_X1_92 dX1_readsCup_31 rfl rfl ?_
      refine X_callV (j0 := 0) (rest := [(t, ex_o 9 [ex_r g, ex_i (nI L), ex_i fa, ex_i ki2_17, ex_i nu2_18, ex_i sg2_19, ex_j wo2_20, ex_i (nI n2_21), ex_i (nI (tP f L n2_5))]), (g, ex_a 0 1000 f), (c7, ex_a 1 6 cu)]) (stk := []) co_X1_128 rfl ⟨(Nat.le_of_ble_eq_true rfl), (Nat.le_of_ble_eq_true rfl)⟩ (e_X0_personNamed l c c0 c1 c2 c3 c4 c5 c6 c7 c8 c9 c10 c11 c12 c17 c18 c19 np nd sto res pn wo2_20 hc) dX1_readsCup_34 [2, 3, 0, 1, 4] (show List.Perm [2, 3, 0, 1, 4] (List.range 5) from by decide) rfl rfl rfl rfl (Nat.le_of_ble_eq_true rfl) (fun cs1 r hq hk => ?_)
      rcases hq with ⟨rfl, rfl⟩
      obtain ⟨j, hj, ej⟩ := pnF_ix hp_23
      rw [ej]
      have kj : (nI j).toNatClampNeg = j := nI_clamp (by omega)
      refine X_istore_n (lv' := [(3, ex_i (nI j)), (2, ex_i (nI i)), (0, ex_r t), (1, ex_r c)]) dX1_readsCup_37 rfl (Nat.le_of_ble_eq_true rfl) rfl ?_
      refine X_iload_n (j := 1) dX1_readsCup_38 rfl rfl ?_
      refine X_iconst (v := (-1)) dX1_readsCup_39 (by decide) ?_
      refine X_icmp_eq (tgt := 67) dX1_readsCup_40 (by decide) (fun c_ => absurd c_ (nI_nm1 (by omega))) (fun _ => ?_)
      refine X_iload_n (j := 0) dX1_readsCup_43 rfl rfl ?_
      refine X_iconst (v := (-1)) dX1_readsCup_44 (by decide) ?_
      refine X_icmp_eq (tgt := 67) dX1_readsCup_45 (by decide) (fun c_ => absurd c_ (nI_nm1 (by omega))) (fun _ => ?_)
      refine X_iload_n (j := 1) dX1_readsCup_48 rfl rfl ?_
      refine X_iload_n (j := 0) dX1_readsCup_49 rfl rfl ?_
      refine X_icmp_eq (tgt := 67) dX1_readsCup_50 (by decide) (fun c_33 => ?_) (fun c_33 => ?_)
      · refine X_aload_n (j := 2) dX1_readsCup_67 rfl rfl ?_
        refine X_iconst (v := 3) dX1_readsCup_68 (by decide) ?_
        refine X_callV (j0 := 0) (rest := [(c, ex_o 0 [ex_r c0, ex_r c1, ex_r c2, ex_r c3, ex_r c4, ex_r c5, ex_r c6, ex_r c7, ex_r c8, ex_r c9, ex_r c10, ex_r c11, ex_r c12, ex_i (nI np), ex_i (nI nd), ex_i sto, ex_i res, ex_r c17, ex_r c18, ex_r c19]), (c0, ex_b 6 pn), (g, ex_a 0 1000 f), (c7, ex_a 1 6 cu)]) (stk := []) co_X1_78 rfl ⟨(Nat.le_of_ble_eq_true rfl), (Nat.le_of_ble_eq_true rfl)⟩ (e_X9_wrong l t g L fa ki2_17 nu2_18 sg2_19 wo2_20 (nI n2_21) (nI (tP f L n2_5)) 3) dX1_readsCup_69 [2, 0, 1, 3, 4] (show List.Perm [2, 0, 1, 3, 4] (List.range 5) from by decide) rfl rfl rfl rfl (Nat.le_of_ble_eq_true rfl) (fun cs1 r hq hk => ?_)
        rcases hq with ⟨rfl, rfl⟩
        refine X_re (cs' := [(t, ex_o 9 [ex_r g, ex_i (nI L), ex_i (3 + 16 * (nI (tP f L n2_5))), ex_i ki2_17, ex_i nu2_18, ex_i sg2_19, ex_j wo2_20, ex_i (nI n2_21), ex_i (nI (tP f L n2_5))]), (g, ex_a 0 1000 f), (c, ex_o 0 [ex_r c0, ex_r c1, ex_r c2, ex_r c3, ex_r c4, ex_r c5, ex_r c6, ex_r c7, ex_r c8, ex_r c9, ex_r c10, ex_r c11, ex_r c12, ex_i (nI np), ex_i (nI nd), ex_i sto, ex_i res, ex_r c17, ex_r c18, ex_r c19]), (c0, ex_b 6 pn), (c7, ex_a 1 6 cu)]) [0, 3, 1, 2, 4] (show List.Perm [0, 3, 1, 2, 4] (List.range 5) from by decide) rfl ?_
        exact X_iret ex_nZ rfl dX1_readsCup_72 rfl (Or.inr ⟨(3 + 16 * (nI (tP f L n2_5))), ki2_17, nu2_18, sg2_19, wo2_20, (nI n2_21), (nI (tP f L n2_5)), cu, (by simp only [sCup, hp_6, hp_22, ei, ej, ki, kj]; rw [if_pos (Or.inl c_33)]; rfl), rfl, rfl⟩)
      · refine X_aload_n (j := 3) dX1_readsCup_53 rfl rfl ?_
        refine X_get (j := 0) fo_X1_167 dX1_readsCup_54 rfl rfl ?_
        refine X_iload_n (j := 1) dX1_readsCup_57 rfl rfl ?_
        refine X_iald (j := 4) (v := (cu i)) dX1_readsCup_58 rfl (vp_in_nI (show i < 6 by omega) (by decide)) (by rw [ki]) ?_
        refine X_iload_n (j := 0) dX1_readsCup_59 rfl rfl ?_
        refine X_ishr (v := ((cu i) >>> ((nI j) &&& 31))) dX1_readsCup_60 rfl ?_
        refine X_iconst (v := 1) dX1_readsCup_61 (by decide) ?_
        refine X_iand (v := (((cu i) >>> ((nI j) &&& 31)) &&& 1)) dX1_readsCup_62 rfl ?_
        refine X_iconst (v := 1) dX1_readsCup_63 (by decide) ?_
        refine X_icmp_ne (tgt := 73) dX1_readsCup_64 (by decide) (fun c_34 => ?_) (fun c_34 => ?_)
        · refine X_aload_n (j := 3) dX1_readsCup_73 rfl rfl ?_
          refine X_get (j := 0) fo_X1_167 dX1_readsCup_74 rfl rfl ?_
          refine X_iload_n (j := 1) dX1_readsCup_77 rfl rfl ?_
          refine X_dup2_11 dX1_readsCup_78 rfl rfl ?_
          refine X_iald (j := 4) (v := (cu i)) dX1_readsCup_79 rfl (vp_in_nI (show i < 6 by omega) (by decide)) (by rw [ki]) ?_
          refine X_iconst (v := 1) dX1_readsCup_80 (by decide) ?_
          refine X_iload_n (j := 0) dX1_readsCup_81 rfl rfl ?_
          refine X_ishl (v := (1 <<< ((nI j) &&& 31))) dX1_readsCup_82 rfl ?_
          refine X_ior (v := ((cu i) ||| (1 <<< ((nI j) &&& 31)))) dX1_readsCup_83 rfl ?_
          refine X_iast (j := 4) (g := upd cu i ((cu i) ||| (1 <<< ((nI j) &&& 31)))) (cs' := [(c, ex_o 0 [ex_r c0, ex_r c1, ex_r c2, ex_r c3, ex_r c4, ex_r c5, ex_r c6, ex_r c7, ex_r c8, ex_r c9, ex_r c10, ex_r c11, ex_r c12, ex_i (nI np), ex_i (nI nd), ex_i sto, ex_i res, ex_r c17, ex_r c18, ex_r c19]), (c0, ex_b 6 pn), (t, ex_o 9 [ex_r g, ex_i (nI L), ex_i fa, ex_i ki2_17, ex_i nu2_18, ex_i sg2_19, ex_j wo2_20, ex_i (nI n2_21), ex_i (nI (tP f L n2_5))]), (g, ex_a 0 1000 f), (c7, ex_a 1 6 (upd cu i ((cu i) ||| (1 <<< ((nI j) &&& 31)))))]) dX1_readsCup_84 rfl (vp_in_nI (show i < 6 by omega) (by decide)) (by rw [ki]) rfl ?_
          refine X_aload_n (j := 3) dX1_readsCup_85 rfl rfl ?_
          refine X_get (j := 0) fo_X1_167 dX1_readsCup_86 rfl rfl ?_
          refine X_iload_n (j := 0) dX1_readsCup_89 rfl rfl ?_
          refine X_dup2_11 dX1_readsCup_90 rfl rfl ?_
          refine X_iald (j := 4) (v := ((upd cu i ((cu i) ||| (1 <<< ((nI j) &&& 31)))) j)) dX1_readsCup_91 rfl (vp_in_nI (show j < 6 by omega) (by decide)) (by rw [kj]) ?_
          refine X_iconst (v := 1) dX1_readsCup_92 (by decide) ?_
          refine X_iload_n (j := 1) dX1_readsCup_93 rfl rfl ?_
          refine X_ishl (v := (1 <<< ((nI i) &&& 31))) dX1_readsCup_94 rfl ?_
          refine X_ior (v := (((upd cu i ((cu i) ||| (1 <<< ((nI j) &&& 31)))) j) ||| (1 <<< ((nI i) &&& 31)))) dX1_readsCup_95 rfl ?_
          refine X_iast (j := 4) (g := upd (upd cu i ((cu i) ||| (1 <<< ((nI j) &&& 31)))) j (((upd cu i ((cu i) ||| (1 <<< ((nI j) &&& 31)))) j) ||| (1 <<< ((nI i) &&& 31)))) (cs' := [(c, ex_o 0 [ex_r c0, ex_r c1, ex_r c2, ex_r c3, ex_r c4, ex_r c5, ex_r c6, ex_r c7, ex_r c8, ex_r c9, ex_r c10, ex_r c11, ex_r c12, ex_i (nI np), ex_i (nI nd), ex_i sto, ex_i res, ex_r c17, ex_r c18, ex_r c19]), (c0, ex_b 6 pn), (t, ex_o 9 [ex_r g, ex_i (nI L), ex_i fa, ex_i ki2_17, ex_i nu2_18, ex_i sg2_19, ex_j wo2_20, ex_i (nI n2_21), ex_i (nI (tP f L n2_5))]), (g, ex_a 0 1000 f), (c7, ex_a 1 6 (upd (upd cu i ((cu i) ||| (1 <<< ((nI j) &&& 31)))) j (((upd cu i ((cu i) ||| (1 <<< ((nI j) &&& 31)))) j) ||| (1 <<< ((nI i) &&& 31)))))]) dX1_readsCup_96 rfl (vp_in_nI (show j < 6 by omega) (by decide)) (by rw [kj]) rfl ?_
          refine X_aload_n (j := 2) dX1_readsCup_97 rfl rfl ?_
          refine X_callV (j0 := 0) (rest := [(c, ex_o 0 [ex_r c0, ex_r c1, ex_r c2, ex_r c3, ex_r c4, ex_r c5, ex_r c6, ex_r c7, ex_r c8, ex_r c9, ex_r c10, ex_r c11, ex_r c12, ex_i (nI np), ex_i (nI nd), ex_i sto, ex_i res, ex_r c17, ex_r c18, ex_r c19]), (c0, ex_b 6 pn), (c7, ex_a 1 6 (upd (upd cu i ((cu i) ||| (1 <<< ((nI j) &&& 31)))) j (((upd cu i ((cu i) ||| (1 <<< ((nI j) &&& 31)))) j) ||| (1 <<< ((nI i) &&& 31)))))]) (stk := []) co_X1_121 rfl ⟨(Nat.le_of_ble_eq_true rfl), (Nat.le_of_ble_eq_true rfl)⟩ (e_X9_takesEnd l t g L fa ki2_17 nu2_18 sg2_19 wo2_20 n2_21 (nI (tP f L n2_5)) f hL hp_24 hf) dX1_readsCup_98 [2, 3, 0, 1, 4] (show List.Perm [2, 3, 0, 1, 4] (List.range 5) from by decide) rfl rfl rfl rfl (Nat.le_of_ble_eq_true rfl) (fun cs1 r hq hk => ?_)
          rcases hq with ⟨ki2_35, nu2_36, sg2_37, wo2_38, pl2_39, n2_40, hp_41, hp_42, rfl, rfl⟩ | ⟨fa2_43, ki2_44, nu2_45, sg2_46, wo2_47, ne2_48, pl2_49, hp_50, rfl, rfl⟩
          · exact X_iret ex_nZ rfl dX1_readsCup_101 rfl (Or.inl ⟨ki2_35, nu2_36, sg2_37, wo2_38, pl2_39, n2_40, i, j, (by simp only [sCup, hp_6, hp_22, ei, ej, ki, kj]; rw [if_neg (fun q => q.elim c_33 c_34)]; simp only [hp_41]), ⟨hi, hj⟩, hp_42, rfl, rfl⟩)
          · exact X_iret ex_nZ rfl dX1_readsCup_101 rfl (Or.inr ⟨fa2_43, ki2_44, nu2_45, sg2_46, wo2_47, ne2_48, pl2_49, (upd (upd cu i ((cu i) ||| (1 <<< ((nI j) &&& 31)))) j (((upd cu i ((cu i) ||| (1 <<< ((nI j) &&& 31)))) j) ||| (1 <<< ((nI i) &&& 31)))), (by simp only [sCup, hp_6, hp_22, ei, ej, ki, kj]; rw [if_neg (fun q => q.elim c_33 c_34)]; simp only [hp_50]), rfl, rfl⟩)
        · refine X_aload_n (j := 2) dX1_readsCup_67 rfl rfl ?_
          refine X_iconst (v := 3) dX1_readsCup_68 (by decide) ?_
          refine X_callV (j0 := 0) (rest := [(c, ex_o 0 [ex_r c0, ex_r c1, ex_r c2, ex_r c3, ex_r c4, ex_r c5, ex_r c6, ex_r c7, ex_r c8, ex_r c9, ex_r c10, ex_r c11, ex_r c12, ex_i (nI np), ex_i (nI nd), ex_i sto, ex_i res, ex_r c17, ex_r c18, ex_r c19]), (c0, ex_b 6 pn), (g, ex_a 0 1000 f), (c7, ex_a 1 6 cu)]) (stk := []) co_X1_78 rfl ⟨(Nat.le_of_ble_eq_true rfl), (Nat.le_of_ble_eq_true rfl)⟩ (e_X9_wrong l t g L fa ki2_17 nu2_18 sg2_19 wo2_20 (nI n2_21) (nI (tP f L n2_5)) 3) dX1_readsCup_69 [2, 0, 1, 3, 4] (show List.Perm [2, 0, 1, 3, 4] (List.range 5) from by decide) rfl rfl rfl rfl (Nat.le_of_ble_eq_true rfl) (fun cs1 r hq hk => ?_)
          rcases hq with ⟨rfl, rfl⟩
          refine X_re (cs' := [(t, ex_o 9 [ex_r g, ex_i (nI L), ex_i (3 + 16 * (nI (tP f L n2_5))), ex_i ki2_17, ex_i nu2_18, ex_i sg2_19, ex_j wo2_20, ex_i (nI n2_21), ex_i (nI (tP f L n2_5))]), (g, ex_a 0 1000 f), (c, ex_o 0 [ex_r c0, ex_r c1, ex_r c2, ex_r c3, ex_r c4, ex_r c5, ex_r c6, ex_r c7, ex_r c8, ex_r c9, ex_r c10, ex_r c11, ex_r c12, ex_i (nI np), ex_i (nI nd), ex_i sto, ex_i res, ex_r c17, ex_r c18, ex_r c19]), (c0, ex_b 6 pn), (c7, ex_a 1 6 cu)]) [0, 3, 1, 2, 4] (show List.Perm [0, 3, 1, 2, 4] (List.range 5) from by decide) rfl ?_
          exact X_iret ex_nZ rfl dX1_readsCup_72 rfl (Or.inr ⟨(3 + 16 * (nI (tP f L n2_5))), ki2_17, nu2_18, sg2_19, wo2_20, (nI n2_21), (nI (tP f L n2_5)), cu, (by simp only [sCup, hp_6, hp_22, ei, ej, ki, kj]; rw [if_pos (Or.inr c_34)]; rfl), rfl, rfl⟩)
    · refine X_if_ne (tgt := 29) dX1_readsCup_24 (by decide) (fun c_ => absurd rfl c_) (fun _ => ?_)
      refine X_iconst (v := 0) dX1_readsCup_27 (by decide) ?_
      exact X_iret ex_nZ rfl dX1_readsCup_28 rfl (Or.inr ⟨fa2_25, ki2_26, nu2_27, sg2_28, wo2_29, ne2_30, pl2_31, cu, (by simp only [sCup, hp_6, hp_32]), rfl, rfl⟩)
  · refine X_if_ne (tgt := 10) dX1_readsCup_5 (by decide) (fun c_ => absurd rfl c_) (fun _ => ?_)
    refine X_iconst (v := 0) dX1_readsCup_8 (by decide) ?_
    exact X_iret ex_nZ rfl dX1_readsCup_9 rfl (Or.inr ⟨fa2_9, ki2_10, nu2_11, sg2_12, wo2_13, ne2_14, pl2_15, cu, (by simp only [sCup, hp_16]), rfl, rfl⟩)

set_option maxHeartbeats 4000000 in
set_option maxRecDepth 100000 in
theorem e_X1_readsSick (l : Launch) (t : Nat) (g : Nat) (L : Nat) (fa : Int32) (ki : Int32) (nu : Int32) (sg : Int32) (wo : Int64) (n : Nat) (pl : Int32) (f : Nat → Int32) (c : Nat) (c0 : Nat) (c1 : Nat) (c2 : Nat) (c3 : Nat) (c4 : Nat) (c5 : Nat) (c6 : Nat) (c7 : Nat) (c8 : Nat) (c9 : Nat) (c10 : Nat) (c11 : Nat) (c12 : Nat) (c17 : Nat) (c18 : Nat) (c19 : Nat) (np : Nat) (nd : Nat) (sto : Int32) (res : Int32) (pn : Nat → Int64) (sf : Nat → Int32) (sto_ : Nat → Int32) (hL : L ≤ 1000) (hn : n ≤ L) (hf : ∀ j, 0 ≤ (f j).toInt ∧ (f j).toInt ≤ 127) (hc : np ≤ 6) : ex_M l yX1_readsSick cX1_readsSick 3 (some .boolean) 7 170 [ex_r t, ex_r c] [(t, ex_o 9 [ex_r g, ex_i (nI L), ex_i fa, ex_i ki, ex_i nu, ex_i sg, ex_j wo, ex_i (nI n), ex_i pl]), (g, ex_a 0 1000 f), (c, ex_o 0 [ex_r c0, ex_r c1, ex_r c2, ex_r c3, ex_r c4, ex_r c5, ex_r c6, ex_r c7, ex_r c8, ex_r c9, ex_r c10, ex_r c11, ex_r c12, ex_i (nI np), ex_i (nI nd), ex_i sto, ex_i res, ex_r c17, ex_r c18, ex_r c19]), (c0, ex_b 6 pn), (c5, ex_a 1 6 sf), (c6, ex_a 1 6 sto_)] (fun cs r => (∃ (ki2 : Int32), ∃ (nu2 : Int32), ∃ (sg2 : Int32), ∃ (wo2 : Int64), ∃ (pl2 : Int32), ∃ (n2 : Nat), ∃ (a : Nat), ∃ (p : Int32), ∃ (q : Int32), sSick f L rz.2.2.2 pn np sf n = .inr (n2, a, p, q) ∧ a < np ∧ n2 ≤ L ∧ cs = [(t, ex_o 9 [ex_r g, ex_i (nI L), ex_i fa, ex_i ki2, ex_i nu2, ex_i sg2, ex_j wo2, ex_i (nI n2), ex_i pl2]), (g, ex_a 0 1000 f), (c, ex_o 0 [ex_r c0, ex_r c1, ex_r c2, ex_r c3, ex_r c4, ex_r c5, ex_r c6, ex_r c7, ex_r c8, ex_r c9, ex_r c10, ex_r c11, ex_r c12, ex_i (nI np), ex_i (nI nd), ex_i sto, ex_i res, ex_r c17, ex_r c18, ex_r c19]), (c0, ex_b 6 pn), (c5, ex_a 1 6 (upd sf a p)), (c6, ex_a 1 6 (upd sto_ a q))] ∧ r = some (ex_i 1)) ∨ (∃ (fa2 : Int32), ∃ (ki2 : Int32), ∃ (nu2 : Int32), ∃ (sg2 : Int32), ∃ (wo2 : Int64), ∃ (ne2 : Int32), ∃ (pl2 : Int32), ∃ (sf2 : Nat → Int32), ∃ (st2 : Nat → Int32), sSick f L rz.2.2.2 pn np sf n = .inl fa2 ∧ cs = [(t, ex_o 9 [ex_r g, ex_i (nI L), ex_i fa2, ex_i ki2, ex_i nu2, ex_i sg2, ex_j wo2, ex_i ne2, ex_i pl2]), (g, ex_a 0 1000 f), (c, ex_o 0 [ex_r c0, ex_r c1, ex_r c2, ex_r c3, ex_r c4, ex_r c5, ex_r c6, ex_r c7, ex_r c8, ex_r c9, ex_r c10, ex_r c11, ex_r c12, ex_i (nI np), ex_i (nI nd), ex_i sto, ex_i res, ex_r c17, ex_r c18, ex_r c19]), (c0, ex_b 6 pn), (c5, ex_a 1 6 sf2), (c6, ex_a 1 6 st2)] ∧ r = some (ex_i 0))) := by
  refine X_meth (by decide) (Nat.le_of_ble_eq_true rfl) ?_
  refine X_aload_n (j := 0) dX1_readsSick_0 rfl rfl ?_
  refine X_aload_n (j := 1) dX1_readsSick_1 rfl rfl ?_
  refine X_callV (j0 := 0) (rest := [(c5, ex_a 1 6 sf), (c6, ex_a 1 6 sto_)]) (stk := []) co_X1_163 rfl ⟨(Nat.le_of_ble_eq_true rfl), (Nat.le_of_ble_eq_true rfl)⟩ (e_X9_takesPerson l t g L fa ki nu sg wo n pl f c c0 c1 c2 c3 c4 c5 c6 c7 c8 c9 c10 c11 c12 c17 c18 c19 np nd sto res pn hL hn hf hc) dX1_readsSick_2 [0, 1, 2, 3, 4, 5] (show List.Perm [0, 1, 2, 3, 4, 5] (List.range 6) from by decide) rfl rfl rfl rfl (Nat.le_of_ble_eq_true rfl) (fun cs1 r hq hk => ?_)
  rcases hq with ⟨ki2_1, nu2_2, sg2_3, wo2_4, n2_5, hp_6, hp_7, hp_8, rfl, rfl⟩ | ⟨fa2_9, ki2_10, nu2_11, sg2_12, wo2_13, ne2_14, pl2_15, hp_16, rfl, rfl⟩
  · refine X_if_ne (tgt := 10) dX1_readsSick_5 (by decide) (fun _ => ?_) (fun c_ => absurd c_ (by decide))
    refine X_aload_n (j := 1) dX1_readsSick_10 rfl rfl ?_
    refine X_aload_n (j := 0) dX1_readsSick_11 rfl rfl ?_
    refine X_get (j := 0) fo_X1_92 dX1_readsSick_12 rfl rfl ?_
    refine X_callV (j0 := 0) (rest := [(t, ex_o 9 [ex_r g, ex_i (nI L), ex_i fa, ex_i ki2_1, ex_i nu2_2, ex_i sg2_3, ex_j wo2_4, ex_i (nI n2_5), ex_i (nI (tP f L n))]), (g, ex_a 0 1000 f), (c5, ex_a 1 6 sf), (c6, ex_a 1 6 sto_)]) (stk := []) co_X1_128 rfl ⟨(Nat.le_of_ble_eq_true rfl), (Nat.le_of_ble_eq_true rfl)⟩ (e_X0_personNamed l c c0 c1 c2 c3 c4 c5 c6 c7 c8 c9 c10 c11 c12 c17 c18 c19 np nd sto res pn wo2_4 hc) dX1_readsSick_15 [2, 3, 0, 1, 4, 5] (show List.Perm [2, 3, 0, 1, 4, 5] (List.range 6) from by decide) rfl rfl rfl rfl (Nat.le_of_ble_eq_true rfl) (fun cs1 r hq hk => ?_)
    rcases hq with ⟨rfl, rfl⟩
    obtain ⟨i, hi, ei⟩ := pnF_ix hp_7
    rw [ei]
    have ki : (nI i).toNatClampNeg = i := nI_clamp (by omega)
    refine X_istore_n (lv' := [(2, ex_i (nI i)), (0, ex_r t), (1, ex_r c)]) dX1_readsSick_18 rfl (Nat.le_of_ble_eq_true rfl) rfl ?_
    refine X_iload_n (j := 0) dX1_readsSick_19 rfl rfl ?_
    refine X_iconst (v := (-1)) dX1_readsSick_20 (by decide) ?_
    refine X_icmp_eq (tgt := 34) dX1_readsSick_21 (by decide) (fun c_ => absurd c_ (nI_nm1 (by omega))) (fun _ => ?_)
    refine X_aload_n (j := 2) dX1_readsSick_24 rfl rfl ?_
    refine X_get (j := 0) fo_X1_170 dX1_readsSick_25 rfl rfl ?_
    refine X_iload_n (j := 0) dX1_readsSick_28 rfl rfl ?_
    refine X_iald (j := 4) (v := (sf i)) dX1_readsSick_29 rfl (vp_in_nI (show i < 6 by omega) (by decide)) (by rw [ki]) ?_
    refine X_iconst (v := (-1)) dX1_readsSick_30 (by decide) ?_
    refine X_icmp_eq (tgt := 40) dX1_readsSick_31 (by decide) (fun c_17 => ?_) (fun c_17 => ?_)
    · refine X_aload_n (j := 1) dX1_readsSick_40 rfl rfl ?_
      refine X_lds (k := 19) (key := 10019) rfl rfl rfl rfl dX1_readsSick_41 ?_
      refine X_bipush (v := 99) dX1_readsSick_43 (by decide) ?_
      refine X_callV (j0 := 0) (rest := [(c, ex_o 0 [ex_r c0, ex_r c1, ex_r c2, ex_r c3, ex_r c4, ex_r c5, ex_r c6, ex_r c7, ex_r c8, ex_r c9, ex_r c10, ex_r c11, ex_r c12, ex_i (nI np), ex_i (nI nd), ex_i sto, ex_i res, ex_r c17, ex_r c18, ex_r c19]), (c0, ex_b 6 pn), (c5, ex_a 1 6 sf), (c6, ex_a 1 6 sto_)]) (stk := []) co_X1_102 rfl ⟨(Nat.le_of_ble_eq_true rfl), (Nat.le_of_ble_eq_true rfl)⟩ (e_X9_takesNumberOf l t g L fa ki2_1 nu2_2 sg2_3 wo2_4 n2_5 (nI (tP f L n)) f 19 (zl 19) 99 hL hp_8 hf rfl) dX1_readsSick_45 [2, 3, 0, 1, 4, 5] (show List.Perm [2, 3, 0, 1, 4, 5] (List.range 6) from by decide) rfl rfl rfl rfl (Nat.le_of_ble_eq_true rfl) (fun cs1 r hq hk => ?_)
      rcases hq with ⟨ki2_18, nu2_19, sg2_20, wo2_21, pl2_22, n2_23, hp_24, hp_25, rfl, rfl⟩ | ⟨fa2_26, ki2_27, nu2_28, sg2_29, wo2_30, ne2_31, pl2_32, hp_33, rfl, rfl⟩
      · refine X_if_ne (tgt := 53) dX1_readsSick_48 (by decide) (fun _ => ?_) (fun c_ => absurd c_ (by decide))
        refine X_aload_n (j := 2) dX1_readsSick_53 rfl rfl ?_
        refine X_get (j := 2) fo_X1_170 dX1_readsSick_54 rfl rfl ?_
        refine X_iload_n (j := 0) dX1_readsSick_57 rfl rfl ?_
        refine X_aload_n (j := 1) dX1_readsSick_58 rfl rfl ?_
        refine X_get (j := 0) fo_X1_110 dX1_readsSick_59 rfl rfl ?_
        refine X_iast (j := 4) (g := upd sf i nu2_19) (cs' := [(t, ex_o 9 [ex_r g, ex_i (nI L), ex_i fa, ex_i ki2_18, ex_i nu2_19, ex_i sg2_20, ex_j wo2_21, ex_i (nI n2_23), ex_i pl2_22]), (g, ex_a 0 1000 f), (c, ex_o 0 [ex_r c0, ex_r c1, ex_r c2, ex_r c3, ex_r c4, ex_r c5, ex_r c6, ex_r c7, ex_r c8, ex_r c9, ex_r c10, ex_r c11, ex_r c12, ex_i (nI np), ex_i (nI nd), ex_i sto, ex_i res, ex_r c17, ex_r c18, ex_r c19]), (c0, ex_b 6 pn), (c5, ex_a 1 6 (upd sf i nu2_19)), (c6, ex_a 1 6 sto_)]) dX1_readsSick_62 rfl (vp_in_nI (show i < 6 by omega) (by decide)) (by rw [ki]) rfl ?_
        refine X_aload_n (j := 1) dX1_readsSick_63 rfl rfl ?_
        refine X_lds (k := 20) (key := 10020) rfl rfl rfl rfl dX1_readsSick_64 ?_
        refine X_callV (j0 := 0) (rest := [(c, ex_o 0 [ex_r c0, ex_r c1, ex_r c2, ex_r c3, ex_r c4, ex_r c5, ex_r c6, ex_r c7, ex_r c8, ex_r c9, ex_r c10, ex_r c11, ex_r c12, ex_i (nI np), ex_i (nI nd), ex_i sto, ex_i res, ex_r c17, ex_r c18, ex_r c19]), (c0, ex_b 6 pn), (c5, ex_a 1 6 (upd sf i nu2_19)), (c6, ex_a 1 6 sto_)]) (stk := []) co_X1_177 rfl ⟨(Nat.le_of_ble_eq_true rfl), (Nat.le_of_ble_eq_true rfl)⟩ (e_X9_takesWord l t g L fa ki2_18 nu2_19 sg2_20 wo2_21 n2_23 pl2_22 f 20 (zl 20) hL hp_25 hf rfl) dX1_readsSick_66 [0, 1, 2, 3, 4, 5] (show List.Perm [0, 1, 2, 3, 4, 5] (List.range 6) from by decide) rfl rfl rfl rfl (Nat.le_of_ble_eq_true rfl) (fun cs1 r hq hk => ?_)
        rcases hq with ⟨ki2_34, nu2_35, sg2_36, wo2_37, pl2_38, n2_39, hp_40, hp_41, rfl, rfl⟩ | ⟨fa2_42, ki2_43, nu2_44, sg2_45, wo2_46, ne2_47, pl2_48, hp_49, rfl, rfl⟩
        · refine X_if_eq (tgt := 87) dX1_readsSick_69 (by decide) (fun c_ => absurd c_ (by decide)) (fun _ => ?_)
          refine X_aload_n (j := 1) dX1_readsSick_72 rfl rfl ?_
          refine X_aload_n (j := 2) dX1_readsSick_73 rfl rfl ?_
          refine X_get (j := 2) fo_X1_170 dX1_readsSick_74 rfl rfl ?_
          refine X_iload_n (j := 0) dX1_readsSick_77 rfl rfl ?_
          refine X_iald (j := 4) (v := nu2_19) dX1_readsSick_78 rfl (vp_in_nI (show i < 6 by omega) (by decide)) (by rw [ki, pk_us]) ?_
          refine X_bipush (v := 99) dX1_readsSick_79 (by decide) ?_
          refine X_callV (j0 := 0) (rest := [(c, ex_o 0 [ex_r c0, ex_r c1, ex_r c2, ex_r c3, ex_r c4, ex_r c5, ex_r c6, ex_r c7, ex_r c8, ex_r c9, ex_r c10, ex_r c11, ex_r c12, ex_i (nI np), ex_i (nI nd), ex_i sto, ex_i res, ex_r c17, ex_r c18, ex_r c19]), (c0, ex_b 6 pn), (c5, ex_a 1 6 (upd sf i nu2_19)), (c6, ex_a 1 6 sto_)]) (stk := []) co_X1_180 rfl ⟨(Nat.le_of_ble_eq_true rfl), (Nat.le_of_ble_eq_true rfl)⟩ (e_X9_takesNumber l t g L fa ki2_34 nu2_35 sg2_36 wo2_37 n2_39 pl2_38 f nu2_19 99 hL hp_41 hf) dX1_readsSick_81 [0, 1, 2, 3, 4, 5] (show List.Perm [0, 1, 2, 3, 4, 5] (List.range 6) from by decide) rfl rfl rfl rfl (Nat.le_of_ble_eq_true rfl) (fun cs1 r hq hk => ?_)
          rcases hq with ⟨ki2_50, nu2_51, sg2_52, wo2_53, pl2_54, n2_55, hp_56, hp_57, rfl, rfl⟩ | ⟨fa2_58, ki2_59, nu2_60, sg2_61, wo2_62, ne2_63, pl2_64, hp_65, rfl, rfl⟩
          · refine X_if_ne (tgt := 89) dX1_readsSick_84 (by decide) (fun _ => ?_) (fun c_ => absurd c_ (by decide))
            refine X_aload_n (j := 2) dX1_readsSick_89 rfl rfl ?_
            refine X_get (j := 2) fo_X1_184 dX1_readsSick_90 rfl rfl ?_
            refine X_iload_n (j := 0) dX1_readsSick_93 rfl rfl ?_
            refine X_aload_n (j := 1) dX1_readsSick_94 rfl rfl ?_
            refine X_get (j := 0) fo_X1_110 dX1_readsSick_95 rfl rfl ?_
            refine X_iast (j := 5) (g := upd sto_ i nu2_51) (cs' := [(t, ex_o 9 [ex_r g, ex_i (nI L), ex_i fa, ex_i ki2_50, ex_i nu2_51, ex_i sg2_52, ex_j wo2_53, ex_i (nI n2_55), ex_i pl2_54]), (g, ex_a 0 1000 f), (c, ex_o 0 [ex_r c0, ex_r c1, ex_r c2, ex_r c3, ex_r c4, ex_r c5, ex_r c6, ex_r c7, ex_r c8, ex_r c9, ex_r c10, ex_r c11, ex_r c12, ex_i (nI np), ex_i (nI nd), ex_i sto, ex_i res, ex_r c17, ex_r c18, ex_r c19]), (c0, ex_b 6 pn), (c5, ex_a 1 6 (upd sf i nu2_19)), (c6, ex_a 1 6 (upd sto_ i nu2_51))]) dX1_readsSick_98 rfl (vp_in_nI (show i < 6 by omega) (by decide)) (by rw [ki]) rfl ?_
            refine X_aload_n (j := 1) dX1_readsSick_99 rfl rfl ?_
            refine X_callV (j0 := 0) (rest := [(c, ex_o 0 [ex_r c0, ex_r c1, ex_r c2, ex_r c3, ex_r c4, ex_r c5, ex_r c6, ex_r c7, ex_r c8, ex_r c9, ex_r c10, ex_r c11, ex_r c12, ex_i (nI np), ex_i (nI nd), ex_i sto, ex_i res, ex_r c17, ex_r c18, ex_r c19]), (c0, ex_b 6 pn), (c5, ex_a 1 6 (upd sf i nu2_19)), (c6, ex_a 1 6 (upd sto_ i nu2_51))]) (stk := []) co_X1_121 rfl ⟨(Nat.le_of_ble_eq_true rfl), (Nat.le_of_ble_eq_true rfl)⟩ (e_X9_takesEnd l t g L fa ki2_50 nu2_51 sg2_52 wo2_53 n2_55 pl2_54 f hL hp_57 hf) dX1_readsSick_100 [0, 1, 2, 3, 4, 5] (show List.Perm [0, 1, 2, 3, 4, 5] (List.range 6) from by decide) rfl rfl rfl rfl (Nat.le_of_ble_eq_true rfl) (fun cs1 r hq hk => ?_)
            rcases hq with ⟨ki2_66, nu2_67, sg2_68, wo2_69, pl2_70, n2_71, hp_72, hp_73, rfl, rfl⟩ | ⟨fa2_74, ki2_75, nu2_76, sg2_77, wo2_78, ne2_79, pl2_80, hp_81, rfl, rfl⟩
            · exact X_iret ex_nZ rfl dX1_readsSick_103 rfl (Or.inl ⟨ki2_66, nu2_67, sg2_68, wo2_69, pl2_70, n2_71, i, nu2_19, nu2_51, (by simp only [sSick, hp_6, ei, ki]; rw [if_pos c_17]; simp only [hp_24, hp_40, hp_56, hp_72]), hi, hp_73, rfl, rfl⟩)
            · exact X_iret ex_nZ rfl dX1_readsSick_103 rfl (Or.inr ⟨fa2_74, ki2_75, nu2_76, sg2_77, wo2_78, ne2_79, pl2_80, (upd sf i nu2_19), (upd sto_ i nu2_51), (by simp only [sSick, hp_6, ei, ki]; rw [if_pos c_17]; simp only [hp_24, hp_40, hp_56, hp_81]), rfl, rfl⟩)
          · refine X_if_ne (tgt := 89) dX1_readsSick_84 (by decide) (fun c_ => absurd rfl c_) (fun _ => ?_)
            refine X_iconst (v := 0) dX1_readsSick_87 (by decide) ?_
            exact X_iret ex_nZ rfl dX1_readsSick_88 rfl (Or.inr ⟨fa2_58, ki2_59, nu2_60, sg2_61, wo2_62, ne2_63, pl2_64, (upd sf i nu2_19), sto_, (by simp only [sSick, hp_6, ei, ki]; rw [if_pos c_17]; simp only [hp_24, hp_40, hp_65]), rfl, rfl⟩)
        · refine X_if_eq (tgt := 87) dX1_readsSick_69 (by decide) (fun _ => ?_) (fun c_ => absurd rfl c_)
          refine X_iconst (v := 0) dX1_readsSick_87 (by decide) ?_
          exact X_iret ex_nZ rfl dX1_readsSick_88 rfl (Or.inr ⟨fa2_42, ki2_43, nu2_44, sg2_45, wo2_46, ne2_47, pl2_48, (upd sf i nu2_19), sto_, (by simp only [sSick, hp_6, ei, ki]; rw [if_pos c_17]; simp only [hp_24, hp_49]), rfl, rfl⟩)
      · refine X_if_ne (tgt := 53) dX1_readsSick_48 (by decide) (fun c_ => absurd rfl c_) (fun _ => ?_)
        refine X_iconst (v := 0) dX1_readsSick_51 (by decide) ?_
        exact X_iret ex_nZ rfl dX1_readsSick_52 rfl (Or.inr ⟨fa2_26, ki2_27, nu2_28, sg2_29, wo2_30, ne2_31, pl2_32, sf, sto_, (by simp only [sSick, hp_6, ei, ki]; rw [if_pos c_17]; simp only [hp_33]), rfl, rfl⟩)
    · refine X_aload_n (j := 1) dX1_readsSick_34 rfl rfl ?_
      refine X_iconst (v := 3) dX1_readsSick_35 (by decide) ?_
      refine X_callV (j0 := 0) (rest := [(c, ex_o 0 [ex_r c0, ex_r c1, ex_r c2, ex_r c3, ex_r c4, ex_r c5, ex_r c6, ex_r c7, ex_r c8, ex_r c9, ex_r c10, ex_r c11, ex_r c12, ex_i (nI np), ex_i (nI nd), ex_i sto, ex_i res, ex_r c17, ex_r c18, ex_r c19]), (c0, ex_b 6 pn), (g, ex_a 0 1000 f), (c5, ex_a 1 6 sf), (c6, ex_a 1 6 sto_)]) (stk := []) co_X1_78 rfl ⟨(Nat.le_of_ble_eq_true rfl), (Nat.le_of_ble_eq_true rfl)⟩ (e_X9_wrong l t g L fa ki2_1 nu2_2 sg2_3 wo2_4 (nI n2_5) (nI (tP f L n)) 3) dX1_readsSick_36 [2, 0, 1, 3, 4, 5] (show List.Perm [2, 0, 1, 3, 4, 5] (List.range 6) from by decide) rfl rfl rfl rfl (Nat.le_of_ble_eq_true rfl) (fun cs1 r hq hk => ?_)
      rcases hq with ⟨rfl, rfl⟩
      refine X_re (cs' := [(t, ex_o 9 [ex_r g, ex_i (nI L), ex_i (3 + 16 * (nI (tP f L n))), ex_i ki2_1, ex_i nu2_2, ex_i sg2_3, ex_j wo2_4, ex_i (nI n2_5), ex_i (nI (tP f L n))]), (g, ex_a 0 1000 f), (c, ex_o 0 [ex_r c0, ex_r c1, ex_r c2, ex_r c3, ex_r c4, ex_r c5, ex_r c6, ex_r c7, ex_r c8, ex_r c9, ex_r c10, ex_r c11, ex_r c12, ex_i (nI np), ex_i (nI nd), ex_i sto, ex_i res, ex_r c17, ex_r c18, ex_r c19]), (c0, ex_b 6 pn), (c5, ex_a 1 6 sf), (c6, ex_a 1 6 sto_)]) [0, 3, 1, 2, 4, 5] (show List.Perm [0, 3, 1, 2, 4, 5] (List.range 6) from by decide) rfl ?_
      exact X_iret ex_nZ rfl dX1_readsSick_39 rfl (Or.inr ⟨(3 + 16 * (nI (tP f L n))), ki2_1, nu2_2, sg2_3, wo2_4, (nI n2_5), (nI (tP f L n)), sf, sto_, (by simp only [sSick, hp_6, ei, ki]; rw [if_neg c_17]; rfl), rfl, rfl⟩)
  · refine X_if_ne (tgt := 10) dX1_readsSick_5 (by decide) (fun c_ => absurd rfl c_) (fun _ => ?_)
    refine X_iconst (v := 0) dX1_readsSick_8 (by decide) ?_
    exact X_iret ex_nZ rfl dX1_readsSick_9 rfl (Or.inr ⟨fa2_9, ki2_10, nu2_11, sg2_12, wo2_13, ne2_14, pl2_15, sf, sto_, (by simp only [sSick, hp_16]), rfl, rfl⟩)
