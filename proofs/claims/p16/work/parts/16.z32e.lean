set_option maxHeartbeats 4000000 in
set_option maxRecDepth 100000 in
theorem e_X0_personNamed (l : Launch) (c : Nat) (c0 : Nat) (c1 : Nat) (c2 : Nat) (c3 : Nat) (c4 : Nat) (c5 : Nat) (c6 : Nat) (c7 : Nat) (c8 : Nat) (c9 : Nat) (c10 : Nat) (c11 : Nat) (c12 : Nat) (c17 : Nat) (c18 : Nat) (c19 : Nat) (np : Nat) (nd : Nat) (sto : Int32) (res : Int32) (pn : Nat → Int64) (w : Int64) (hc : np ≤ 6) : ex_M l yX0_personNamed cX0_personNamed 4 (some .int) 0 0 [ex_r c, ex_j w] [(c, ex_o 0 [ex_r c0, ex_r c1, ex_r c2, ex_r c3, ex_r c4, ex_r c5, ex_r c6, ex_r c7, ex_r c8, ex_r c9, ex_r c10, ex_r c11, ex_r c12, ex_i (nI np), ex_i (nI nd), ex_i sto, ex_i res, ex_r c17, ex_r c18, ex_r c19]), (c0, ex_b 6 pn)] (fun cs r => (cs = [(c, ex_o 0 [ex_r c0, ex_r c1, ex_r c2, ex_r c3, ex_r c4, ex_r c5, ex_r c6, ex_r c7, ex_r c8, ex_r c9, ex_r c10, ex_r c11, ex_r c12, ex_i (nI np), ex_i (nI nd), ex_i sto, ex_i res, ex_r c17, ex_r c18, ex_r c19]), (c0, ex_b 6 pn)] ∧ r = some (ex_i (pnF pn np w)))) := by
  refine X_meth (by decide) (Nat.le_of_ble_eq_true rfl) ?_
  refine X_iconst (v := 0) dX0_personNamed_0 (by decide) ?_
  refine X_istore_n (lv' := [(3, ex_i 0), (0, ex_r c), (1, ex_j w)]) dX0_personNamed_1 rfl (Nat.le_of_ble_eq_true rfl) rfl ?_
  refine X_lv (lv' := [(0, ex_r c), (1, ex_j w), (3, ex_i 0)]) [1, 2, 0] rfl ?_
  refine X_ind (fun (i : Nat) => i ≤ np ∧ pnF pn np w = pnG pn w i (np - i)) (fun (i : Nat) => np - i) (fun (i : Nat) => [(c, ex_o 0 [ex_r c0, ex_r c1, ex_r c2, ex_r c3, ex_r c4, ex_r c5, ex_r c6, ex_r c7, ex_r c8, ex_r c9, ex_r c10, ex_r c11, ex_r c12, ex_i (nI np), ex_i (nI nd), ex_i sto, ex_i res, ex_r c17, ex_r c18, ex_r c19]), (c0, ex_b 6 pn)]) (fun (i : Nat) => [(0, ex_r c), (1, ex_j w), (3, ex_i (nI i))]) (fun i hI ih => ?_) 0 (⟨Nat.zero_le _, rfl⟩)
  try dsimp only at hI ih ⊢
  refine X_iload_n (j := 2) dX0_personNamed_2 rfl rfl ?_
  refine X_aload_n (j := 0) dX0_personNamed_3 rfl rfl ?_
  refine X_get (j := 0) fo_X0_56 dX0_personNamed_4 rfl rfl ?_
  refine X_icmp_ge (tgt := 29) dX0_personNamed_7 (by decide) (fun c_1 => ?_) (fun c_1 => ?_)
  · refine X_iconst (v := (-1)) dX0_personNamed_29 (by decide) ?_
    exact X_iret ex_nI rfl dX0_personNamed_30 rfl (⟨rfl, (by rw [hI.2, nlex (by omega) hI.1 c_1, Nat.sub_self]; rfl)⟩)
  · have hlt : i < np := nlen (by omega) hI.1 c_1
    have hs : np - i = (np - (i + 1)) + 1 := by omega
    refine X_aload_n (j := 0) dX0_personNamed_10 rfl rfl ?_
    refine X_get (j := 0) fo_X0_11 dX0_personNamed_11 rfl rfl ?_
    refine X_iload_n (j := 2) dX0_personNamed_14 rfl rfl ?_
    refine X_lald (j := 1) (v := (pn i)) dX0_personNamed_15 rfl (vp_in_nI (show i < 6 by omega) (by decide)) (by rw [nI_clamp (by omega)]) ?_
    refine X_lload_n (j := 1) dX0_personNamed_16 rfl rfl ?_
    refine X_lcmp (v := (lg_cmp (pn i) w)) dX0_personNamed_17 rfl ?_
    refine X_if_ne (tgt := 23) dX0_personNamed_18 (by decide) (fun c_2 => ?_) (fun c_2 => ?_)
    · refine X_iinc (v := nI (i + 1)) (j := 2) (lv' := [(3, ex_i (nI (i + 1))), (0, ex_r c), (1, ex_j w)]) dX0_personNamed_23 rfl (nI_1 i) (Nat.le_of_ble_eq_true rfl) rfl ?_
      refine X_goto (tgt := 2) dX0_personNamed_26 (by decide) ?_
      refine X_lv (lv' := [(0, ex_r c), (1, ex_j w), (3, ex_i (nI (i + 1)))]) [1, 2, 0] rfl ?_
      exact ih (i + 1) (⟨hlt, by rw [hI.2, hs, pnG_n (fun q => c_2 (by rw [q]; exact ex_lc1 _))]⟩) (by omega)
    · refine X_iload_n (j := 2) dX0_personNamed_21 rfl rfl ?_
      exact X_iret ex_nI rfl dX0_personNamed_22 rfl (⟨rfl, (by rw [hI.2, hs, pnG_y (ex_lc2 c_2)])⟩)

set_option maxHeartbeats 4000000 in
set_option maxRecDepth 100000 in
theorem e_X0_dishNamed (l : Launch) (c : Nat) (c0 : Nat) (c1 : Nat) (c2 : Nat) (c3 : Nat) (c4 : Nat) (c5 : Nat) (c6 : Nat) (c7 : Nat) (c8 : Nat) (c9 : Nat) (c10 : Nat) (c11 : Nat) (c12 : Nat) (c17 : Nat) (c18 : Nat) (c19 : Nat) (np : Nat) (nd : Nat) (sto : Int32) (res : Int32) (dn : Nat → Int64) (w : Int64) (hc : nd ≤ 5) : ex_M l yX0_dishNamed cX0_dishNamed 4 (some .int) 0 0 [ex_r c, ex_j w] [(c, ex_o 0 [ex_r c0, ex_r c1, ex_r c2, ex_r c3, ex_r c4, ex_r c5, ex_r c6, ex_r c7, ex_r c8, ex_r c9, ex_r c10, ex_r c11, ex_r c12, ex_i (nI np), ex_i (nI nd), ex_i sto, ex_i res, ex_r c17, ex_r c18, ex_r c19]), (c8, ex_b 5 dn)] (fun cs r => (cs = [(c, ex_o 0 [ex_r c0, ex_r c1, ex_r c2, ex_r c3, ex_r c4, ex_r c5, ex_r c6, ex_r c7, ex_r c8, ex_r c9, ex_r c10, ex_r c11, ex_r c12, ex_i (nI np), ex_i (nI nd), ex_i sto, ex_i res, ex_r c17, ex_r c18, ex_r c19]), (c8, ex_b 5 dn)] ∧ r = some (ex_i (pnF dn nd w)))) := by
  refine X_meth (by decide) (Nat.le_of_ble_eq_true rfl) ?_
  refine X_iconst (v := 0) dX0_dishNamed_0 (by decide) ?_
  refine X_istore_n (lv' := [(3, ex_i 0), (0, ex_r c), (1, ex_j w)]) dX0_dishNamed_1 rfl (Nat.le_of_ble_eq_true rfl) rfl ?_
  refine X_lv (lv' := [(0, ex_r c), (1, ex_j w), (3, ex_i 0)]) [1, 2, 0] rfl ?_
  refine X_ind (fun (i : Nat) => i ≤ nd ∧ pnF dn nd w = pnG dn w i (nd - i)) (fun (i : Nat) => nd - i) (fun (i : Nat) => [(c, ex_o 0 [ex_r c0, ex_r c1, ex_r c2, ex_r c3, ex_r c4, ex_r c5, ex_r c6, ex_r c7, ex_r c8, ex_r c9, ex_r c10, ex_r c11, ex_r c12, ex_i (nI np), ex_i (nI nd), ex_i sto, ex_i res, ex_r c17, ex_r c18, ex_r c19]), (c8, ex_b 5 dn)]) (fun (i : Nat) => [(0, ex_r c), (1, ex_j w), (3, ex_i (nI i))]) (fun i hI ih => ?_) 0 (⟨Nat.zero_le _, rfl⟩)
  try dsimp only at hI ih ⊢
  refine X_iload_n (j := 2) dX0_dishNamed_2 rfl rfl ?_
  refine X_aload_n (j := 0) dX0_dishNamed_3 rfl rfl ?_
  refine X_get (j := 0) fo_X0_60 dX0_dishNamed_4 rfl rfl ?_
  refine X_icmp_ge (tgt := 29) dX0_dishNamed_7 (by decide) (fun c_1 => ?_) (fun c_1 => ?_)
  · refine X_iconst (v := (-1)) dX0_dishNamed_29 (by decide) ?_
    exact X_iret ex_nI rfl dX0_dishNamed_30 rfl (⟨rfl, (by rw [hI.2, nlex (by omega) hI.1 c_1, Nat.sub_self]; rfl)⟩)
  · have hlt : i < nd := nlen (by omega) hI.1 c_1
    have hs : nd - i = (nd - (i + 1)) + 1 := by omega
    refine X_aload_n (j := 0) dX0_dishNamed_10 rfl rfl ?_
    refine X_get (j := 0) fo_X0_37 dX0_dishNamed_11 rfl rfl ?_
    refine X_iload_n (j := 2) dX0_dishNamed_14 rfl rfl ?_
    refine X_lald (j := 1) (v := (dn i)) dX0_dishNamed_15 rfl (vp_in_nI (show i < 5 by omega) (by decide)) (by rw [nI_clamp (by omega)]) ?_
    refine X_lload_n (j := 1) dX0_dishNamed_16 rfl rfl ?_
    refine X_lcmp (v := (lg_cmp (dn i) w)) dX0_dishNamed_17 rfl ?_
    refine X_if_ne (tgt := 23) dX0_dishNamed_18 (by decide) (fun c_2 => ?_) (fun c_2 => ?_)
    · refine X_iinc (v := nI (i + 1)) (j := 2) (lv' := [(3, ex_i (nI (i + 1))), (0, ex_r c), (1, ex_j w)]) dX0_dishNamed_23 rfl (nI_1 i) (Nat.le_of_ble_eq_true rfl) rfl ?_
      refine X_goto (tgt := 2) dX0_dishNamed_26 (by decide) ?_
      refine X_lv (lv' := [(0, ex_r c), (1, ex_j w), (3, ex_i (nI (i + 1)))]) [1, 2, 0] rfl ?_
      exact ih (i + 1) (⟨hlt, by rw [hI.2, hs, pnG_n (fun q => c_2 (by rw [q]; exact ex_lc1 _))]⟩) (by omega)
    · refine X_iload_n (j := 2) dX0_dishNamed_21 rfl rfl ?_
      exact X_iret ex_nI rfl dX0_dishNamed_22 rfl (⟨rfl, (by rw [hI.2, hs, pnG_y (ex_lc2 c_2)])⟩)

set_option maxHeartbeats 4000000 in
set_option maxRecDepth 100000 in
theorem e_X9_takesPerson (l : Launch) (t : Nat) (g : Nat) (L : Nat) (fa : Int32) (ki : Int32) (nu : Int32) (sg : Int32) (wo : Int64) (n : Nat) (pl : Int32) (f : Nat → Int32) (c : Nat) (c0 : Nat) (c1 : Nat) (c2 : Nat) (c3 : Nat) (c4 : Nat) (c5 : Nat) (c6 : Nat) (c7 : Nat) (c8 : Nat) (c9 : Nat) (c10 : Nat) (c11 : Nat) (c12 : Nat) (c17 : Nat) (c18 : Nat) (c19 : Nat) (np : Nat) (nd : Nat) (sto : Int32) (res : Int32) (pn : Nat → Int64) (hL : L ≤ 1000) (hn : n ≤ L) (hf : ∀ j, 0 ≤ (f j).toInt ∧ (f j).toInt ≤ 127) (hc : np ≤ 6) : ex_M l yX9_takesPerson cX9_takesPerson 2 (some .boolean) 5 126 [ex_r t, ex_r c] [(t, ex_o 9 [ex_r g, ex_i (nI L), ex_i fa, ex_i ki, ex_i nu, ex_i sg, ex_j wo, ex_i (nI n), ex_i pl]), (g, ex_a 0 1000 f), (c, ex_o 0 [ex_r c0, ex_r c1, ex_r c2, ex_r c3, ex_r c4, ex_r c5, ex_r c6, ex_r c7, ex_r c8, ex_r c9, ex_r c10, ex_r c11, ex_r c12, ex_i (nI np), ex_i (nI nd), ex_i sto, ex_i res, ex_r c17, ex_r c18, ex_r c19]), (c0, ex_b 6 pn)] (fun cs r => (∃ (ki2 : Int32), ∃ (nu2 : Int32), ∃ (sg2 : Int32), ∃ (wo2 : Int64), ∃ (n2 : Nat), sPers f L rz.2.2.2 pn np n = .inr (n2, wo2) ∧ ¬ pnF pn np wo2 = -1 ∧ n2 ≤ L ∧ cs = [(t, ex_o 9 [ex_r g, ex_i (nI L), ex_i fa, ex_i ki2, ex_i nu2, ex_i sg2, ex_j wo2, ex_i (nI n2), ex_i (nI (tP f L n))]), (g, ex_a 0 1000 f), (c, ex_o 0 [ex_r c0, ex_r c1, ex_r c2, ex_r c3, ex_r c4, ex_r c5, ex_r c6, ex_r c7, ex_r c8, ex_r c9, ex_r c10, ex_r c11, ex_r c12, ex_i (nI np), ex_i (nI nd), ex_i sto, ex_i res, ex_r c17, ex_r c18, ex_r c19]), (c0, ex_b 6 pn)] ∧ r = some (ex_i 1)) ∨ (∃ (fa2 : Int32), ∃ (ki2 : Int32), ∃ (nu2 : Int32), ∃ (sg2 : Int32), ∃ (wo2 : Int64), ∃ (ne2 : Int32), ∃ (pl2 : Int32), sPers f L rz.2.2.2 pn np n = .inl fa2 ∧ cs = [(t, ex_o 9 [ex_r g, ex_i (nI L), ex_i fa2, ex_i ki2, ex_i nu2, ex_i sg2, ex_j wo2, ex_i ne2, ex_i pl2]), (g, ex_a 0 1000 f), (c, ex_o 0 [ex_r c0, ex_r c1, ex_r c2, ex_r c3, ex_r c4, ex_r c5, ex_r c6, ex_r c7, ex_r c8, ex_r c9, ex_r c10, ex_r c11, ex_r c12, ex_i (nI np), ex_i (nI nd), ex_i sto, ex_i res, ex_r c17, ex_r c18, ex_r c19]), (c0, ex_b 6 pn)] ∧ r = some (ex_i 0))) := by
  refine X_meth (by decide) (Nat.le_of_ble_eq_true rfl) ?_
  refine X_aload_n (j := 0) dX9_takesPerson_0 rfl rfl ?_
  refine X_callV (j0 := 0) (rest := [(c, ex_o 0 [ex_r c0, ex_r c1, ex_r c2, ex_r c3, ex_r c4, ex_r c5, ex_r c6, ex_r c7, ex_r c8, ex_r c9, ex_r c10, ex_r c11, ex_r c12, ex_i (nI np), ex_i (nI nd), ex_i sto, ex_i res, ex_r c17, ex_r c18, ex_r c19]), (c0, ex_b 6 pn)]) (stk := []) co_X9_83 rfl ⟨(Nat.le_of_ble_eq_true rfl), (Nat.le_of_ble_eq_true rfl)⟩ (e_X9_takesToken l t g L fa ki nu sg wo n pl f hL hn hf) dX9_takesPerson_1 [0, 1, 2, 3] (show List.Perm [0, 1, 2, 3] (List.range 4) from by decide) rfl rfl rfl rfl (Nat.le_of_ble_eq_true rfl) (fun cs1 r hq hk => ?_)
  rcases hq with ⟨nu1_1, sg1_2, wo1_3, hp_4, hp_5, hp_6, rfl, rfl⟩
  refine X_aload_n (j := 0) dX9_takesPerson_4 rfl rfl ?_
  refine X_callV (j0 := 0) (rest := [(g, ex_a 0 1000 f), (c, ex_o 0 [ex_r c0, ex_r c1, ex_r c2, ex_r c3, ex_r c4, ex_r c5, ex_r c6, ex_r c7, ex_r c8, ex_r c9, ex_r c10, ex_r c11, ex_r c12, ex_i (nI np), ex_i (nI nd), ex_i sto, ex_i res, ex_r c17, ex_r c18, ex_r c19]), (c0, ex_b 6 pn)]) (stk := []) co_X9_104 rfl ⟨(Nat.le_of_ble_eq_true rfl), (Nat.le_of_ble_eq_true rfl)⟩ (e_X9_isName l t g L fa (tK f L n) nu1_1 sg1_2 wo1_3 (nI (tN f L n)) (nI (tP f L n))) dX9_takesPerson_5 [0, 1, 2, 3] (show List.Perm [0, 1, 2, 3] (List.range 4) from by decide) rfl rfl rfl rfl (Nat.le_of_ble_eq_true rfl) (fun cs1 r hq hk => ?_)
  rcases hq with ⟨hp_7, rfl, rfl⟩ | ⟨hp_8, rfl, rfl⟩
  · refine X_if_ne (tgt := 17) dX9_takesPerson_8 (by decide) (fun _ => ?_) (fun c_ => absurd c_ (by decide))
    refine X_aload_n (j := 1) dX9_takesPerson_17 rfl rfl ?_
    refine X_aload_n (j := 0) dX9_takesPerson_18 rfl rfl ?_
    refine X_get (j := 0) fo_X9_32 dX9_takesPerson_19 rfl rfl ?_
    refine X_callV (j0 := 0) (rest := [(t, ex_o 9 [ex_r g, ex_i (nI L), ex_i fa, ex_i (tK f L n), ex_i nu1_1, ex_i sg1_2, ex_j wo1_3, ex_i (nI (tN f L n)), ex_i (nI (tP f L n))]), (g, ex_a 0 1000 f)]) (stk := []) co_X9_108 rfl ⟨(Nat.le_of_ble_eq_true rfl), (Nat.le_of_ble_eq_true rfl)⟩ (e_X0_personNamed l c c0 c1 c2 c3 c4 c5 c6 c7 c8 c9 c10 c11 c12 c17 c18 c19 np nd sto res pn wo1_3 hc) dX9_takesPerson_22 [2, 3, 0, 1] (show List.Perm [2, 3, 0, 1] (List.range 4) from by decide) rfl rfl rfl rfl (Nat.le_of_ble_eq_true rfl) (fun cs1 r hq hk => ?_)
    rcases hq with ⟨rfl, rfl⟩
    refine X_iconst (v := (-1)) dX9_takesPerson_25 (by decide) ?_
    refine X_icmp_ne (tgt := 37) dX9_takesPerson_26 (by decide) (fun c_9 => ?_) (fun c_9 => ?_)
    · refine X_iconst (v := 1) dX9_takesPerson_37 (by decide) ?_
      refine X_goto (tgt := 42) dX9_takesPerson_38 (by decide) ?_
      refine X_re (cs' := [(t, ex_o 9 [ex_r g, ex_i (nI L), ex_i fa, ex_i (tK f L n), ex_i nu1_1, ex_i sg1_2, ex_j wo1_3, ex_i (nI (tN f L n)), ex_i (nI (tP f L n))]), (g, ex_a 0 1000 f), (c, ex_o 0 [ex_r c0, ex_r c1, ex_r c2, ex_r c3, ex_r c4, ex_r c5, ex_r c6, ex_r c7, ex_r c8, ex_r c9, ex_r c10, ex_r c11, ex_r c12, ex_i (nI np), ex_i (nI nd), ex_i sto, ex_i res, ex_r c17, ex_r c18, ex_r c19]), (c0, ex_b 6 pn)]) [2, 3, 0, 1] (show List.Perm [2, 3, 0, 1] (List.range 4) from by decide) rfl ?_
      exact X_iret ex_nZ rfl dX9_takesPerson_42 rfl (Or.inl ⟨(tK f L n), nu1_1, sg1_2, wo1_3, (tN f L n), (sPers_y (sName_y hp_7 (hp_4 hp_7.1)) c_9), c_9, (tN_le hn), rfl, rfl⟩)
    · refine X_aload_n (j := 0) dX9_takesPerson_29 rfl rfl ?_
      refine X_iconst (v := 2) dX9_takesPerson_30 (by decide) ?_
      refine X_callV (j0 := 0) (rest := [(c, ex_o 0 [ex_r c0, ex_r c1, ex_r c2, ex_r c3, ex_r c4, ex_r c5, ex_r c6, ex_r c7, ex_r c8, ex_r c9, ex_r c10, ex_r c11, ex_r c12, ex_i (nI np), ex_i (nI nd), ex_i sto, ex_i res, ex_r c17, ex_r c18, ex_r c19]), (c0, ex_b 6 pn), (g, ex_a 0 1000 f)]) (stk := []) co_X9_90 rfl ⟨(Nat.le_of_ble_eq_true rfl), (Nat.le_of_ble_eq_true rfl)⟩ (e_X9_wrong l t g L fa (tK f L n) nu1_1 sg1_2 wo1_3 (nI (tN f L n)) (nI (tP f L n)) 2) dX9_takesPerson_31 [2, 0, 1, 3] (show List.Perm [2, 0, 1, 3] (List.range 4) from by decide) rfl rfl rfl rfl (Nat.le_of_ble_eq_true rfl) (fun cs1 r hq hk => ?_)
      rcases hq with ⟨rfl, rfl⟩
      refine X_if_eq (tgt := 41) dX9_takesPerson_34 (by decide) (fun _ => ?_) (fun c_ => absurd rfl c_)
      refine X_iconst (v := 0) dX9_takesPerson_41 (by decide) ?_
      refine X_re (cs' := [(t, ex_o 9 [ex_r g, ex_i (nI L), ex_i (2 + 16 * (nI (tP f L n))), ex_i (tK f L n), ex_i nu1_1, ex_i sg1_2, ex_j wo1_3, ex_i (nI (tN f L n)), ex_i (nI (tP f L n))]), (g, ex_a 0 1000 f), (c, ex_o 0 [ex_r c0, ex_r c1, ex_r c2, ex_r c3, ex_r c4, ex_r c5, ex_r c6, ex_r c7, ex_r c8, ex_r c9, ex_r c10, ex_r c11, ex_r c12, ex_i (nI np), ex_i (nI nd), ex_i sto, ex_i res, ex_r c17, ex_r c18, ex_r c19]), (c0, ex_b 6 pn)]) [0, 3, 1, 2] (show List.Perm [0, 3, 1, 2] (List.range 4) from by decide) rfl ?_
      exact X_iret ex_nZ rfl dX9_takesPerson_42 rfl (Or.inr ⟨(2 + 16 * (nI (tP f L n))), (tK f L n), nu1_1, sg1_2, wo1_3, (nI (tN f L n)), (nI (tP f L n)), (sPers_2 (sName_y hp_7 (hp_4 hp_7.1)) c_9), rfl, rfl⟩)
  · refine X_if_ne (tgt := 17) dX9_takesPerson_8 (by decide) (fun c_ => absurd rfl c_) (fun _ => ?_)
    refine X_aload_n (j := 0) dX9_takesPerson_11 rfl rfl ?_
    refine X_iconst (v := 1) dX9_takesPerson_12 (by decide) ?_
    refine X_callV (j0 := 0) (rest := [(g, ex_a 0 1000 f), (c, ex_o 0 [ex_r c0, ex_r c1, ex_r c2, ex_r c3, ex_r c4, ex_r c5, ex_r c6, ex_r c7, ex_r c8, ex_r c9, ex_r c10, ex_r c11, ex_r c12, ex_i (nI np), ex_i (nI nd), ex_i sto, ex_i res, ex_r c17, ex_r c18, ex_r c19]), (c0, ex_b 6 pn)]) (stk := []) co_X9_90 rfl ⟨(Nat.le_of_ble_eq_true rfl), (Nat.le_of_ble_eq_true rfl)⟩ (e_X9_wrong l t g L fa (tK f L n) nu1_1 sg1_2 wo1_3 (nI (tN f L n)) (nI (tP f L n)) 1) dX9_takesPerson_13 [0, 1, 2, 3] (show List.Perm [0, 1, 2, 3] (List.range 4) from by decide) rfl rfl rfl rfl (Nat.le_of_ble_eq_true rfl) (fun cs1 r hq hk => ?_)
    rcases hq with ⟨rfl, rfl⟩
    exact X_iret ex_nZ rfl dX9_takesPerson_16 rfl (Or.inr ⟨(1 + 16 * (nI (tP f L n))), (tK f L n), nu1_1, sg1_2, wo1_3, (nI (tN f L n)), (nI (tP f L n)), (sPers_1 (sName_n hp_8 hp_4)), rfl, rfl⟩)

set_option maxHeartbeats 4000000 in
set_option maxRecDepth 100000 in
theorem e_X9_takesDish (l : Launch) (t : Nat) (g : Nat) (L : Nat) (fa : Int32) (ki : Int32) (nu : Int32) (sg : Int32) (wo : Int64) (n : Nat) (pl : Int32) (f : Nat → Int32) (c : Nat) (c0 : Nat) (c1 : Nat) (c2 : Nat) (c3 : Nat) (c4 : Nat) (c5 : Nat) (c6 : Nat) (c7 : Nat) (c8 : Nat) (c9 : Nat) (c10 : Nat) (c11 : Nat) (c12 : Nat) (c17 : Nat) (c18 : Nat) (c19 : Nat) (np : Nat) (nd : Nat) (sto : Int32) (res : Int32) (dn : Nat → Int64) (hL : L ≤ 1000) (hn : n ≤ L) (hf : ∀ j, 0 ≤ (f j).toInt ∧ (f j).toInt ≤ 127) (hc : nd ≤ 5) : ex_M l yX9_takesDish cX9_takesDish 2 (some .boolean) 5 126 [ex_r t, ex_r c] [(t, ex_o 9 [ex_r g, ex_i (nI L), ex_i fa, ex_i ki, ex_i nu, ex_i sg, ex_j wo, ex_i (nI n), ex_i pl]), (g, ex_a 0 1000 f), (c, ex_o 0 [ex_r c0, ex_r c1, ex_r c2, ex_r c3, ex_r c4, ex_r c5, ex_r c6, ex_r c7, ex_r c8, ex_r c9, ex_r c10, ex_r c11, ex_r c12, ex_i (nI np), ex_i (nI nd), ex_i sto, ex_i res, ex_r c17, ex_r c18, ex_r c19]), (c8, ex_b 5 dn)] (fun cs r => (∃ (ki2 : Int32), ∃ (nu2 : Int32), ∃ (sg2 : Int32), ∃ (wo2 : Int64), ∃ (n2 : Nat), sPers f L rz.2.2.2 dn nd n = .inr (n2, wo2) ∧ ¬ pnF dn nd wo2 = -1 ∧ n2 ≤ L ∧ cs = [(t, ex_o 9 [ex_r g, ex_i (nI L), ex_i fa, ex_i ki2, ex_i nu2, ex_i sg2, ex_j wo2, ex_i (nI n2), ex_i (nI (tP f L n))]), (g, ex_a 0 1000 f), (c, ex_o 0 [ex_r c0, ex_r c1, ex_r c2, ex_r c3, ex_r c4, ex_r c5, ex_r c6, ex_r c7, ex_r c8, ex_r c9, ex_r c10, ex_r c11, ex_r c12, ex_i (nI np), ex_i (nI nd), ex_i sto, ex_i res, ex_r c17, ex_r c18, ex_r c19]), (c8, ex_b 5 dn)] ∧ r = some (ex_i 1)) ∨ (∃ (fa2 : Int32), ∃ (ki2 : Int32), ∃ (nu2 : Int32), ∃ (sg2 : Int32), ∃ (wo2 : Int64), ∃ (ne2 : Int32), ∃ (pl2 : Int32), sPers f L rz.2.2.2 dn nd n = .inl fa2 ∧ cs = [(t, ex_o 9 [ex_r g, ex_i (nI L), ex_i fa2, ex_i ki2, ex_i nu2, ex_i sg2, ex_j wo2, ex_i ne2, ex_i pl2]), (g, ex_a 0 1000 f), (c, ex_o 0 [ex_r c0, ex_r c1, ex_r c2, ex_r c3, ex_r c4, ex_r c5, ex_r c6, ex_r c7, ex_r c8, ex_r c9, ex_r c10, ex_r c11, ex_r c12, ex_i (nI np), ex_i (nI nd), ex_i sto, ex_i res, ex_r c17, ex_r c18, ex_r c19]), (c8, ex_b 5 dn)] ∧ r = some (ex_i 0))) := by
  refine X_meth (by decide) (Nat.le_of_ble_eq_true rfl) ?_
  refine X_aload_n (j := 0) dX9_takesDish_0 rfl rfl ?_
  refine X_callV (j0 := 0) (rest := [(c, ex_o 0 [ex_r c0, ex_r c1, ex_r c2, ex_r c3, ex_r c4, ex_r c5, ex_r c6, ex_r c7, ex_r c8, ex_r c9, ex_r c10, ex_r c11, ex_r c12, ex_i (nI np), ex_i (nI nd), ex_i sto, ex_i res, ex_r c17, ex_r c18, ex_r c19]), (c8, ex_b 5 dn)]) (stk := []) co_X9_83 rfl ⟨(Nat.le_of_ble_eq_true rfl), (Nat.le_of_ble_eq_true rfl)⟩ (e_X9_takesToken l t g L fa ki nu sg wo n pl f hL hn hf) dX9_takesDish_1 [0, 1, 2, 3] (show List.Perm [0, 1, 2, 3] (List.range 4) from by decide) rfl rfl rfl rfl (Nat.le_of_ble_eq_true rfl) (fun cs1 r hq hk => ?_)
  rcases hq with ⟨nu1_1, sg1_2, wo1_3, hp_4, hp_5, hp_6, rfl, rfl⟩
  refine X_aload_n (j := 0) dX9_takesDish_4 rfl rfl ?_
  refine X_callV (j0 := 0) (rest := [(g, ex_a 0 1000 f), (c, ex_o 0 [ex_r c0, ex_r c1, ex_r c2, ex_r c3, ex_r c4, ex_r c5, ex_r c6, ex_r c7, ex_r c8, ex_r c9, ex_r c10, ex_r c11, ex_r c12, ex_i (nI np), ex_i (nI nd), ex_i sto, ex_i res, ex_r c17, ex_r c18, ex_r c19]), (c8, ex_b 5 dn)]) (stk := []) co_X9_104 rfl ⟨(Nat.le_of_ble_eq_true rfl), (Nat.le_of_ble_eq_true rfl)⟩ (e_X9_isName l t g L fa (tK f L n) nu1_1 sg1_2 wo1_3 (nI (tN f L n)) (nI (tP f L n))) dX9_takesDish_5 [0, 1, 2, 3] (show List.Perm [0, 1, 2, 3] (List.range 4) from by decide) rfl rfl rfl rfl (Nat.le_of_ble_eq_true rfl) (fun cs1 r hq hk => ?_)
  rcases hq with ⟨hp_7, rfl, rfl⟩ | ⟨hp_8, rfl, rfl⟩
  · refine X_if_ne (tgt := 17) dX9_takesDish_8 (by decide) (fun _ => ?_) (fun c_ => absurd c_ (by decide))
    refine X_aload_n (j := 1) dX9_takesDish_17 rfl rfl ?_
    refine X_aload_n (j := 0) dX9_takesDish_18 rfl rfl ?_
    refine X_get (j := 0) fo_X9_32 dX9_takesDish_19 rfl rfl ?_
    refine X_callV (j0 := 0) (rest := [(t, ex_o 9 [ex_r g, ex_i (nI L), ex_i fa, ex_i (tK f L n), ex_i nu1_1, ex_i sg1_2, ex_j wo1_3, ex_i (nI (tN f L n)), ex_i (nI (tP f L n))]), (g, ex_a 0 1000 f)]) (stk := []) co_X9_114 rfl ⟨(Nat.le_of_ble_eq_true rfl), (Nat.le_of_ble_eq_true rfl)⟩ (e_X0_dishNamed l c c0 c1 c2 c3 c4 c5 c6 c7 c8 c9 c10 c11 c12 c17 c18 c19 np nd sto res dn wo1_3 hc) dX9_takesDish_22 [2, 3, 0, 1] (show List.Perm [2, 3, 0, 1] (List.range 4) from by decide) rfl rfl rfl rfl (Nat.le_of_ble_eq_true rfl) (fun cs1 r hq hk => ?_)
    rcases hq with ⟨rfl, rfl⟩
    refine X_iconst (v := (-1)) dX9_takesDish_25 (by decide) ?_
    refine X_icmp_ne (tgt := 37) dX9_takesDish_26 (by decide) (fun c_9 => ?_) (fun c_9 => ?_)
    · refine X_iconst (v := 1) dX9_takesDish_37 (by decide) ?_
      refine X_goto (tgt := 42) dX9_takesDish_38 (by decide) ?_
      refine X_re (cs' := [(t, ex_o 9 [ex_r g, ex_i (nI L), ex_i fa, ex_i (tK f L n), ex_i nu1_1, ex_i sg1_2, ex_j wo1_3, ex_i (nI (tN f L n)), ex_i (nI (tP f L n))]), (g, ex_a 0 1000 f), (c, ex_o 0 [ex_r c0, ex_r c1, ex_r c2, ex_r c3, ex_r c4, ex_r c5, ex_r c6, ex_r c7, ex_r c8, ex_r c9, ex_r c10, ex_r c11, ex_r c12, ex_i (nI np), ex_i (nI nd), ex_i sto, ex_i res, ex_r c17, ex_r c18, ex_r c19]), (c8, ex_b 5 dn)]) [2, 3, 0, 1] (show List.Perm [2, 3, 0, 1] (List.range 4) from by decide) rfl ?_
      exact X_iret ex_nZ rfl dX9_takesDish_42 rfl (Or.inl ⟨(tK f L n), nu1_1, sg1_2, wo1_3, (tN f L n), (sPers_y (sName_y hp_7 (hp_4 hp_7.1)) c_9), c_9, (tN_le hn), rfl, rfl⟩)
    · refine X_aload_n (j := 0) dX9_takesDish_29 rfl rfl ?_
      refine X_iconst (v := 2) dX9_takesDish_30 (by decide) ?_
      refine X_callV (j0 := 0) (rest := [(c, ex_o 0 [ex_r c0, ex_r c1, ex_r c2, ex_r c3, ex_r c4, ex_r c5, ex_r c6, ex_r c7, ex_r c8, ex_r c9, ex_r c10, ex_r c11, ex_r c12, ex_i (nI np), ex_i (nI nd), ex_i sto, ex_i res, ex_r c17, ex_r c18, ex_r c19]), (c8, ex_b 5 dn), (g, ex_a 0 1000 f)]) (stk := []) co_X9_90 rfl ⟨(Nat.le_of_ble_eq_true rfl), (Nat.le_of_ble_eq_true rfl)⟩ (e_X9_wrong l t g L fa (tK f L n) nu1_1 sg1_2 wo1_3 (nI (tN f L n)) (nI (tP f L n)) 2) dX9_takesDish_31 [2, 0, 1, 3] (show List.Perm [2, 0, 1, 3] (List.range 4) from by decide) rfl rfl rfl rfl (Nat.le_of_ble_eq_true rfl) (fun cs1 r hq hk => ?_)
      rcases hq with ⟨rfl, rfl⟩
      refine X_if_eq (tgt := 41) dX9_takesDish_34 (by decide) (fun _ => ?_) (fun c_ => absurd rfl c_)
      refine X_iconst (v := 0) dX9_takesDish_41 (by decide) ?_
      refine X_re (cs' := [(t, ex_o 9 [ex_r g, ex_i (nI L), ex_i (2 + 16 * (nI (tP f L n))), ex_i (tK f L n), ex_i nu1_1, ex_i sg1_2, ex_j wo1_3, ex_i (nI (tN f L n)), ex_i (nI (tP f L n))]), (g, ex_a 0 1000 f), (c, ex_o 0 [ex_r c0, ex_r c1, ex_r c2, ex_r c3, ex_r c4, ex_r c5, ex_r c6, ex_r c7, ex_r c8, ex_r c9, ex_r c10, ex_r c11, ex_r c12, ex_i (nI np), ex_i (nI nd), ex_i sto, ex_i res, ex_r c17, ex_r c18, ex_r c19]), (c8, ex_b 5 dn)]) [0, 3, 1, 2] (show List.Perm [0, 3, 1, 2] (List.range 4) from by decide) rfl ?_
      exact X_iret ex_nZ rfl dX9_takesDish_42 rfl (Or.inr ⟨(2 + 16 * (nI (tP f L n))), (tK f L n), nu1_1, sg1_2, wo1_3, (nI (tN f L n)), (nI (tP f L n)), (sPers_2 (sName_y hp_7 (hp_4 hp_7.1)) c_9), rfl, rfl⟩)
  · refine X_if_ne (tgt := 17) dX9_takesDish_8 (by decide) (fun c_ => absurd rfl c_) (fun _ => ?_)
    refine X_aload_n (j := 0) dX9_takesDish_11 rfl rfl ?_
    refine X_iconst (v := 1) dX9_takesDish_12 (by decide) ?_
    refine X_callV (j0 := 0) (rest := [(g, ex_a 0 1000 f), (c, ex_o 0 [ex_r c0, ex_r c1, ex_r c2, ex_r c3, ex_r c4, ex_r c5, ex_r c6, ex_r c7, ex_r c8, ex_r c9, ex_r c10, ex_r c11, ex_r c12, ex_i (nI np), ex_i (nI nd), ex_i sto, ex_i res, ex_r c17, ex_r c18, ex_r c19]), (c8, ex_b 5 dn)]) (stk := []) co_X9_90 rfl ⟨(Nat.le_of_ble_eq_true rfl), (Nat.le_of_ble_eq_true rfl)⟩ (e_X9_wrong l t g L fa (tK f L n) nu1_1 sg1_2 wo1_3 (nI (tN f L n)) (nI (tP f L n)) 1) dX9_takesDish_13 [0, 1, 2, 3] (show List.Perm [0, 1, 2, 3] (List.range 4) from by decide) rfl rfl rfl rfl (Nat.le_of_ble_eq_true rfl) (fun cs1 r hq hk => ?_)
    rcases hq with ⟨rfl, rfl⟩
    exact X_iret ex_nZ rfl dX9_takesDish_16 rfl (Or.inr ⟨(1 + 16 * (nI (tP f L n))), (tK f L n), nu1_1, sg1_2, wo1_3, (nI (tN f L n)), (nI (tP f L n)), (sPers_1 (sName_n hp_8 hp_4)), rfl, rfl⟩)
