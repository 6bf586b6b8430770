set_option maxHeartbeats 4000000 in
set_option maxRecDepth 100000 in
theorem e_X10_takesHow (l : Launch) (t : Nat) (g : Nat) (L : Nat) (fa : Int32) (ki : Int32) (nu : Int32) (sg : Int32) (wo : Int64) (n : Nat) (pl : Int32) (f : Nat → Int32) (w : Nat) (w_h : Nat) (w_w : Nat) (w_d : Nat) (wl : Nat) (wh : Nat → Int32) (hL : L ≤ 1000) (hn : n ≤ L) (hf : ∀ j, 0 ≤ (f j).toInt ∧ (f j).toInt ≤ 127) (hwl : wl < 40) : ex_M l yX10_takesHow cX10_takesHow 3 (some .boolean) 5 126 [ex_r w, ex_r t] [(t, ex_o 9 [ex_r g, ex_i (nI L), ex_i fa, ex_i ki, ex_i nu, ex_i sg, ex_j wo, ex_i (nI n), ex_i pl]), (g, ex_a 0 1000 f), (w, ex_o 10 [ex_r w_h, ex_r w_w, ex_r w_d, ex_i (nI wl)]), (w_h, ex_a 1 40 wh)] (fun cs r => (∃ (ki2 : Int32), ∃ (nu2 : Int32), ∃ (sg2 : Int32), ∃ (wo2 : Int64), ∃ (pl2 : Int32), ∃ (n2 : Nat), ∃ (hq : Int32), wHow f L n = .inr (n2, hq) ∧ n2 ≤ L ∧ cs = [(t, ex_o 9 [ex_r g, ex_i (nI L), ex_i fa, ex_i ki2, ex_i nu2, ex_i sg2, ex_j wo2, ex_i (nI n2), ex_i pl2]), (g, ex_a 0 1000 f), (w, ex_o 10 [ex_r w_h, ex_r w_w, ex_r w_d, ex_i (nI wl)]), (w_h, ex_a 1 40 (upd wh wl hq))] ∧ r = some (ex_i 1)) ∨ (∃ (fa2 : Int32), ∃ (ki2 : Int32), ∃ (nu2 : Int32), ∃ (sg2 : Int32), ∃ (wo2 : Int64), ∃ (ne2 : Int32), ∃ (pl2 : Int32), wHow f L n = .inl fa2 ∧ cs = [(t, ex_o 9 [ex_r g, ex_i (nI L), ex_i fa2, ex_i ki2, ex_i nu2, ex_i sg2, ex_j wo2, ex_i ne2, ex_i pl2]), (g, ex_a 0 1000 f), (w, ex_o 10 [ex_r w_h, ex_r w_w, ex_r w_d, ex_i (nI wl)]), (w_h, ex_a 1 40 wh)] ∧ r = some (ex_i 0))) := by
  refine X_meth (by decide) (Nat.le_of_ble_eq_true rfl) ?_
  refine X_aload_n (j := 1) dX10_takesHow_0 rfl rfl ?_
  refine X_callV (j0 := 0) (rest := [(w, ex_o 10 [ex_r w_h, ex_r w_w, ex_r w_d, ex_i (nI wl)]), (w_h, ex_a 1 40 wh)]) (stk := []) co_X10_36 rfl ⟨(Nat.le_of_ble_eq_true rfl), (Nat.le_of_ble_eq_true rfl)⟩ (e_X9_takesToken l t g L fa ki nu sg wo n pl f hL hn hf) dX10_takesHow_1 [0, 1, 2, 3] (show List.Perm [0, 1, 2, 3] (List.range 4) from by decide) rfl rfl rfl rfl (Nat.le_of_ble_eq_true rfl) (fun cs1 r hq hk => ?_)
  rcases hq with ⟨nu1_1, sg1_2, wo1_3, hp_4, hp_5, hp_6, rfl, rfl⟩
  refine X_aload_n (j := 1) dX10_takesHow_4 rfl rfl ?_
  refine X_lds (k := 34) (key := 10034) rfl rfl rfl rfl dX10_takesHow_5 ?_
  refine X_callV (j0 := 0) (rest := [(g, ex_a 0 1000 f), (w, ex_o 10 [ex_r w_h, ex_r w_w, ex_r w_d, ex_i (nI wl)]), (w_h, ex_a 1 40 wh)]) (stk := []) co_X10_52 rfl ⟨(Nat.le_of_ble_eq_true rfl), (Nat.le_of_ble_eq_true rfl)⟩ (e_X9_isWord l t g L fa (tK f L n) nu1_1 sg1_2 wo1_3 (nI (tN f L n)) (nI (tP f L n)) 34 (zl 34) rfl) dX10_takesHow_7 [0, 1, 2, 3] (show List.Perm [0, 1, 2, 3] (List.range 4) from by decide) rfl rfl rfl rfl (Nat.le_of_ble_eq_true rfl) (fun cs1 r hq hk => ?_)
  rcases hq with ⟨hp_7, rfl, rfl⟩ | ⟨hp_8, rfl, rfl⟩
  · refine X_istore_n (lv' := [(2, ex_i 1), (0, ex_r w), (1, ex_r t)]) dX10_takesHow_10 rfl (Nat.le_of_ble_eq_true rfl) rfl ?_
    refine X_iload_n (j := 0) dX10_takesHow_11 rfl rfl ?_
    refine X_if_ne (tgt := 30) dX10_takesHow_12 (by decide) (fun _ => ?_) (fun c_ => absurd c_ (by decide))
    refine X_aload_n (j := 1) dX10_takesHow_30 rfl rfl ?_
    refine X_get (j := 2) fo_X10_9 dX10_takesHow_31 rfl rfl ?_
    refine X_aload_n (j := 1) dX10_takesHow_34 rfl rfl ?_
    refine X_get (j := 2) fo_X10_21 dX10_takesHow_35 rfl rfl ?_
    refine X_iload_n (j := 0) dX10_takesHow_38 rfl rfl ?_
    refine X_if_eq (tgt := 46) dX10_takesHow_39 (by decide) (fun c_ => absurd c_ (by decide)) (fun _ => ?_)
    refine X_iconst (v := 2) dX10_takesHow_42 (by decide) ?_
    refine X_goto (tgt := 47) dX10_takesHow_43 (by decide) ?_
    refine X_iast (j := 3) (g := upd wh wl 2) (cs' := [(t, ex_o 9 [ex_r g, ex_i (nI L), ex_i fa, ex_i (tK f L n), ex_i nu1_1, ex_i sg1_2, ex_j wo1_3, ex_i (nI (tN f L n)), ex_i (nI (tP f L n))]), (g, ex_a 0 1000 f), (w, ex_o 10 [ex_r w_h, ex_r w_w, ex_r w_d, ex_i (nI wl)]), (w_h, ex_a 1 40 (upd wh wl 2))]) dX10_takesHow_47 rfl (vp_in_nI hwl (by decide)) (by rw [nI_clamp (by omega)]) rfl ?_
    refine X_iconst (v := 1) dX10_takesHow_48 (by decide) ?_
    exact X_iret ex_nZ rfl dX10_takesHow_49 rfl (Or.inl ⟨(tK f L n), nu1_1, sg1_2, wo1_3, (nI (tP f L n)), (tN f L n), 2, (by unfold wHow; rw [if_pos ⟨hp_7.1, by rw [← hp_4 hp_7.1]; exact hp_7.2⟩]), (tN_le hn), rfl, rfl⟩)
  · refine X_istore_n (lv' := [(2, ex_i 0), (0, ex_r w), (1, ex_r t)]) dX10_takesHow_10 rfl (Nat.le_of_ble_eq_true rfl) rfl ?_
    refine X_iload_n (j := 0) dX10_takesHow_11 rfl rfl ?_
    refine X_if_ne (tgt := 30) dX10_takesHow_12 (by decide) (fun c_ => absurd rfl c_) (fun _ => ?_)
    refine X_aload_n (j := 2) dX10_takesHow_15 rfl rfl ?_
    refine X_lds (k := 35) (key := 10035) rfl rfl rfl rfl dX10_takesHow_16 ?_
    refine X_callV (j0 := 0) (rest := [(g, ex_a 0 1000 f), (w, ex_o 10 [ex_r w_h, ex_r w_w, ex_r w_d, ex_i (nI wl)]), (w_h, ex_a 1 40 wh)]) (stk := []) co_X10_52 rfl ⟨(Nat.le_of_ble_eq_true rfl), (Nat.le_of_ble_eq_true rfl)⟩ (e_X9_isWord l t g L fa (tK f L n) nu1_1 sg1_2 wo1_3 (nI (tN f L n)) (nI (tP f L n)) 35 (zl 35) rfl) dX10_takesHow_18 [0, 1, 2, 3] (show List.Perm [0, 1, 2, 3] (List.range 4) from by decide) rfl rfl rfl rfl (Nat.le_of_ble_eq_true rfl) (fun cs1 r hq hk => ?_)
    rcases hq with ⟨hp_9, rfl, rfl⟩ | ⟨hp_10, rfl, rfl⟩
    · refine X_if_ne (tgt := 30) dX10_takesHow_21 (by decide) (fun _ => ?_) (fun c_ => absurd c_ (by decide))
      refine X_aload_n (j := 1) dX10_takesHow_30 rfl rfl ?_
      refine X_get (j := 2) fo_X10_9 dX10_takesHow_31 rfl rfl ?_
      refine X_aload_n (j := 1) dX10_takesHow_34 rfl rfl ?_
      refine X_get (j := 2) fo_X10_21 dX10_takesHow_35 rfl rfl ?_
      refine X_iload_n (j := 0) dX10_takesHow_38 rfl rfl ?_
      refine X_if_eq (tgt := 46) dX10_takesHow_39 (by decide) (fun _ => ?_) (fun c_ => absurd rfl c_)
      refine X_iconst (v := 3) dX10_takesHow_46 (by decide) ?_
      refine X_iast (j := 3) (g := upd wh wl 3) (cs' := [(t, ex_o 9 [ex_r g, ex_i (nI L), ex_i fa, ex_i (tK f L n), ex_i nu1_1, ex_i sg1_2, ex_j wo1_3, ex_i (nI (tN f L n)), ex_i (nI (tP f L n))]), (g, ex_a 0 1000 f), (w, ex_o 10 [ex_r w_h, ex_r w_w, ex_r w_d, ex_i (nI wl)]), (w_h, ex_a 1 40 (upd wh wl 3))]) dX10_takesHow_47 rfl (vp_in_nI hwl (by decide)) (by rw [nI_clamp (by omega)]) rfl ?_
      refine X_iconst (v := 1) dX10_takesHow_48 (by decide) ?_
      exact X_iret ex_nZ rfl dX10_takesHow_49 rfl (Or.inl ⟨(tK f L n), nu1_1, sg1_2, wo1_3, (nI (tP f L n)), (tN f L n), 3, (by unfold wHow; rw [if_neg (fun q => hp_8 ⟨q.1, by rw [hp_4 q.1]; exact q.2⟩), if_pos ⟨hp_9.1, by rw [← hp_4 hp_9.1]; exact hp_9.2⟩]), (tN_le hn), rfl, rfl⟩)
    · refine X_if_ne (tgt := 30) dX10_takesHow_21 (by decide) (fun c_ => absurd rfl c_) (fun _ => ?_)
      refine X_aload_n (j := 2) dX10_takesHow_24 rfl rfl ?_
      refine X_iconst (v := 1) dX10_takesHow_25 (by decide) ?_
      refine X_callV (j0 := 0) (rest := [(g, ex_a 0 1000 f), (w, ex_o 10 [ex_r w_h, ex_r w_w, ex_r w_d, ex_i (nI wl)]), (w_h, ex_a 1 40 wh)]) (stk := []) co_X10_46 rfl ⟨(Nat.le_of_ble_eq_true rfl), (Nat.le_of_ble_eq_true rfl)⟩ (e_X9_wrong l t g L fa (tK f L n) nu1_1 sg1_2 wo1_3 (nI (tN f L n)) (nI (tP f L n)) 1) dX10_takesHow_26 [0, 1, 2, 3] (show List.Perm [0, 1, 2, 3] (List.range 4) from by decide) rfl rfl rfl rfl (Nat.le_of_ble_eq_true rfl) (fun cs1 r hq hk => ?_)
      rcases hq with ⟨rfl, rfl⟩
      exact X_iret ex_nZ rfl dX10_takesHow_29 rfl (Or.inr ⟨(1 + 16 * (nI (tP f L n))), (tK f L n), nu1_1, sg1_2, wo1_3, (nI (tN f L n)), (nI (tP f L n)), (by unfold wHow; rw [if_neg (fun q => hp_8 ⟨q.1, by rw [hp_4 q.1]; exact q.2⟩), if_neg (fun q => hp_10 ⟨q.1, by rw [hp_4 q.1]; exact q.2⟩)]; rfl), rfl, rfl⟩)

set_option maxHeartbeats 4000000 in
set_option maxRecDepth 100000 in
theorem e_X10_takesWhoAndWhat (l : Launch) (t : Nat) (g : Nat) (L : Nat) (fa : Int32) (ki : Int32) (nu : Int32) (sg : Int32) (wo : Int64) (n : Nat) (pl : Int32) (f : Nat → Int32) (w : Nat) (w_h : Nat) (w_w : Nat) (w_d : Nat) (wl : Nat) (c : Nat) (c0 : Nat) (c1 : Nat) (c2 : Nat) (c3 : Nat) (c4 : Nat) (c5 : Nat) (c6 : Nat) (c7 : Nat) (c8 : Nat) (c9 : Nat) (c10 : Nat) (c11 : Nat) (c12 : Nat) (c17 : Nat) (c18 : Nat) (c19 : Nat) (np : Nat) (nd : Nat) (sto : Int32) (res : Int32) (pn : Nat → Int64) (dn : Nat → Int64) (ww : Nat → Int32) (wd : Nat → Int32) (hL : L ≤ 1000) (hn : n ≤ L) (hf : ∀ j, 0 ≤ (f j).toInt ∧ (f j).toInt ≤ 127) (hwl : wl < 40) (hwo : wOK ww wd) (hc : np ≤ 6) (hc5 : nd ≤ 5) : ex_M l yX10_takesWhoAndWhat cX10_takesWhoAndWhat 3 (some .boolean) 6 147 [ex_r w, ex_r t, ex_r c] [(t, ex_o 9 [ex_r g, ex_i (nI L), ex_i fa, ex_i ki, ex_i nu, ex_i sg, ex_j wo, ex_i (nI n), ex_i pl]), (g, ex_a 0 1000 f), (w, ex_o 10 [ex_r w_h, ex_r w_w, ex_r w_d, ex_i (nI wl)]), (c, ex_o 0 [ex_r c0, ex_r c1, ex_r c2, ex_r c3, ex_r c4, ex_r c5, ex_r c6, ex_r c7, ex_r c8, ex_r c9, ex_r c10, ex_r c11, ex_r c12, ex_i (nI np), ex_i (nI nd), ex_i sto, ex_i res, ex_r c17, ex_r c18, ex_r c19]), (c0, ex_b 6 pn), (c8, ex_b 5 dn), (w_w, ex_a 1 40 ww), (w_d, ex_a 1 40 wd)] (fun cs r => (∃ (ki2 : Int32), ∃ (nu2 : Int32), ∃ (sg2 : Int32), ∃ (wo2 : Int64), ∃ (pl2 : Int32), ∃ (n2 : Nat), ∃ (a : Nat), ∃ (b : Nat), wMeal f L rz.2.2.2 pn dn np nd n = .inr (n2, a, b) ∧ (a < np ∧ b < nd) ∧ n2 ≤ L ∧ cs = [(t, ex_o 9 [ex_r g, ex_i (nI L), ex_i fa, ex_i ki2, ex_i nu2, ex_i sg2, ex_j wo2, ex_i (nI n2), ex_i pl2]), (g, ex_a 0 1000 f), (w, ex_o 10 [ex_r w_h, ex_r w_w, ex_r w_d, ex_i (nI wl)]), (c, ex_o 0 [ex_r c0, ex_r c1, ex_r c2, ex_r c3, ex_r c4, ex_r c5, ex_r c6, ex_r c7, ex_r c8, ex_r c9, ex_r c10, ex_r c11, ex_r c12, ex_i (nI np), ex_i (nI nd), ex_i sto, ex_i res, ex_r c17, ex_r c18, ex_r c19]), (c0, ex_b 6 pn), (c8, ex_b 5 dn), (w_w, ex_a 1 40 (upd ww wl (nI a))), (w_d, ex_a 1 40 (upd wd wl (nI b)))] ∧ r = some (ex_i 1)) ∨ (∃ (fa2 : Int32), ∃ (ki2 : Int32), ∃ (nu2 : Int32), ∃ (sg2 : Int32), ∃ (wo2 : Int64), ∃ (ne2 : Int32), ∃ (pl2 : Int32), ∃ (ww2 : Nat → Int32), ∃ (wd2 : Nat → Int32), wMeal f L rz.2.2.2 pn dn np nd n = .inl fa2 ∧ wOK ww2 wd2 ∧ cs = [(t, ex_o 9 [ex_r g, ex_i (nI L), ex_i fa2, ex_i ki2, ex_i nu2, ex_i sg2, ex_j wo2, ex_i ne2, ex_i pl2]), (g, ex_a 0 1000 f), (w, ex_o 10 [ex_r w_h, ex_r w_w, ex_r w_d, ex_i (nI wl)]), (c, ex_o 0 [ex_r c0, ex_r c1, ex_r c2, ex_r c3, ex_r c4, ex_r c5, ex_r c6, ex_r c7, ex_r c8, ex_r c9, ex_r c10, ex_r c11, ex_r c12, ex_i (nI np), ex_i (nI nd), ex_i sto, ex_i res, ex_r c17, ex_r c18, ex_r c19]), (c0, ex_b 6 pn), (c8, ex_b 5 dn), (w_w, ex_a 1 40 ww2), (w_d, ex_a 1 40 wd2)] ∧ r = some (ex_i 0))) := by
  refine X_meth (by decide) (Nat.le_of_ble_eq_true rfl) ?_
  refine X_aload_n (j := 1) dX10_takesWhoAndWhat_0 rfl rfl ?_
  refine X_aload_n (j := 2) dX10_takesWhoAndWhat_1 rfl rfl ?_
  refine X_callV (j0 := 0) (rest := [(w, ex_o 10 [ex_r w_h, ex_r w_w, ex_r w_d, ex_i (nI wl)]), (c8, ex_b 5 dn), (w_w, ex_a 1 40 ww), (w_d, ex_a 1 40 wd)]) (stk := []) co_X10_71 rfl ⟨(Nat.le_of_ble_eq_true rfl), (Nat.le_of_ble_eq_true rfl)⟩ (e_X9_takesPerson l t g L fa ki nu sg wo n pl f c c0 c1 c2 c3 c4 c5 c6 c7 c8 c9 c10 c11 c12 c17 c18 c19 np nd sto res pn hL hn hf hc) dX10_takesWhoAndWhat_2 [0, 1, 3, 4, 2, 5, 6, 7] (show List.Perm [0, 1, 3, 4, 2, 5, 6, 7] (List.range 8) from by decide) rfl rfl rfl rfl (Nat.le_of_ble_eq_true rfl) (fun cs1 r hq hk => ?_)
  rcases hq with ⟨ki2_1, nu2_2, sg2_3, wo2_4, n2_5, hp_6, hp_7, hp_8, rfl, rfl⟩ | ⟨fa2_9, ki2_10, nu2_11, sg2_12, wo2_13, ne2_14, pl2_15, hp_16, rfl, rfl⟩
  · refine X_if_ne (tgt := 10) dX10_takesWhoAndWhat_5 (by decide) (fun _ => ?_) (fun c_ => absurd c_ (by decide))
    refine X_aload_n (j := 0) dX10_takesWhoAndWhat_10 rfl rfl ?_
    refine X_get (j := 4) fo_X10_15 dX10_takesWhoAndWhat_11 rfl rfl ?_
    refine X_aload_n (j := 0) dX10_takesWhoAndWhat_14 rfl rfl ?_
    refine X_get (j := 4) fo_X10_21 dX10_takesWhoAndWhat_15 rfl rfl ?_
    refine X_aload_n (j := 2) dX10_takesWhoAndWhat_18 rfl rfl ?_
    refine X_aload_n (j := 1) dX10_takesWhoAndWhat_19 rfl rfl ?_
    refine X_get (j := 0) fo_X10_75 dX10_takesWhoAndWhat_20 rfl rfl ?_
    refine X_callV (j0 := 0) (rest := [(t, ex_o 9 [ex_r g, ex_i (nI L), ex_i fa, ex_i ki2_1, ex_i nu2_2, ex_i sg2_3, ex_j wo2_4, ex_i (nI n2_5), ex_i (nI (tP f L n))]), (g, ex_a 0 1000 f), (w, ex_o 10 [ex_r w_h, ex_r w_w, ex_r w_d, ex_i (nI wl)]), (c8, ex_b 5 dn), (w_w, ex_a 1 40 ww), (w_d, ex_a 1 40 wd)]) (stk := [ex_i (nI wl), ex_r w_w]) co_X10_79 rfl ⟨(Nat.le_of_ble_eq_true rfl), (Nat.le_of_ble_eq_true rfl)⟩ (e_X0_personNamed l c c0 c1 c2 c3 c4 c5 c6 c7 c8 c9 c10 c11 c12 c17 c18 c19 np nd sto res pn wo2_4 hc) dX10_takesWhoAndWhat_23 [2, 3, 0, 1, 4, 5, 6, 7] (show List.Perm [2, 3, 0, 1, 4, 5, 6, 7] (List.range 8) from by decide) rfl rfl rfl rfl (Nat.le_of_ble_eq_true rfl) (fun cs1 r hq hk => ?_)
    rcases hq with ⟨rfl, rfl⟩
    obtain ⟨i, hi, ei⟩ := pnF_ix hp_7
    rw [ei]
    have ki : (nI i).toNatClampNeg = i := nI_clamp (by omega)
    refine X_iast (j := 6) (g := upd ww wl (nI i)) (cs' := [(c, ex_o 0 [ex_r c0, ex_r c1, ex_r c2, ex_r c3, ex_r c4, ex_r c5, ex_r c6, ex_r c7, ex_r c8, ex_r c9, ex_r c10, ex_r c11, ex_r c12, ex_i (nI np), ex_i (nI nd), ex_i sto, ex_i res, ex_r c17, ex_r c18, ex_r c19]), (c0, ex_b 6 pn), (t, ex_o 9 [ex_r g, ex_i (nI L), ex_i fa, ex_i ki2_1, ex_i nu2_2, ex_i sg2_3, ex_j wo2_4, ex_i (nI n2_5), ex_i (nI (tP f L n))]), (g, ex_a 0 1000 f), (w, ex_o 10 [ex_r w_h, ex_r w_w, ex_r w_d, ex_i (nI wl)]), (c8, ex_b 5 dn), (w_w, ex_a 1 40 (upd ww wl (nI i))), (w_d, ex_a 1 40 wd)]) dX10_takesWhoAndWhat_26 rfl (vp_in_nI hwl (by decide)) (by rw [nI_clamp (by omega)]) rfl ?_
    refine X_aload_n (j := 1) dX10_takesWhoAndWhat_27 rfl rfl ?_
    refine X_aload_n (j := 2) dX10_takesWhoAndWhat_28 rfl rfl ?_
    refine X_callV (j0 := 0) (rest := [(c0, ex_b 6 pn), (w, ex_o 10 [ex_r w_h, ex_r w_w, ex_r w_d, ex_i (nI wl)]), (w_w, ex_a 1 40 (upd ww wl (nI i))), (w_d, ex_a 1 40 wd)]) (stk := []) co_X10_85 rfl ⟨(Nat.le_of_ble_eq_true rfl), (Nat.le_of_ble_eq_true rfl)⟩ (e_X9_takesDish l t g L fa ki2_1 nu2_2 sg2_3 wo2_4 n2_5 (nI (tP f L n)) f c c0 c1 c2 c3 c4 c5 c6 c7 c8 c9 c10 c11 c12 c17 c18 c19 np nd sto res dn hL hp_8 hf hc5) dX10_takesWhoAndWhat_29 [2, 3, 0, 5, 1, 4, 6, 7] (show List.Perm [2, 3, 0, 5, 1, 4, 6, 7] (List.range 8) from by decide) rfl rfl rfl rfl (Nat.le_of_ble_eq_true rfl) (fun cs1 r hq hk => ?_)
    rcases hq with ⟨ki2_17, nu2_18, sg2_19, wo2_20, n2_21, hp_22, hp_23, hp_24, rfl, rfl⟩ | ⟨fa2_25, ki2_26, nu2_27, sg2_28, wo2_29, ne2_30, pl2_31, hp_32, rfl, rfl⟩
    · refine X_if_ne (tgt := 37) dX10_takesWhoAndWhat_32 (by decide) (fun _ => ?_) (fun c_ => absurd c_ (by decide))
      refine X_aload_n (j := 0) dX10_takesWhoAndWhat_37 rfl rfl ?_
      refine X_get (j := 5) fo_X10_18 dX10_takesWhoAndWhat_38 rfl rfl ?_
      refine X_aload_n (j := 0) dX10_takesWhoAndWhat_41 rfl rfl ?_
      refine X_get (j := 5) fo_X10_21 dX10_takesWhoAndWhat_42 rfl rfl ?_
      refine X_aload_n (j := 2) dX10_takesWhoAndWhat_45 rfl rfl ?_
      refine X_aload_n (j := 1) dX10_takesWhoAndWhat_46 rfl rfl ?_
      refine X_get (j := 0) fo_X10_75 dX10_takesWhoAndWhat_47 rfl rfl ?_
      refine X_callV (j0 := 0) (rest := [(t, ex_o 9 [ex_r g, ex_i (nI L), ex_i fa, ex_i ki2_17, ex_i nu2_18, ex_i sg2_19, ex_j wo2_20, ex_i (nI n2_21), ex_i (nI (tP f L n2_5))]), (g, ex_a 0 1000 f), (c0, ex_b 6 pn), (w, ex_o 10 [ex_r w_h, ex_r w_w, ex_r w_d, ex_i (nI wl)]), (w_w, ex_a 1 40 (upd ww wl (nI i))), (w_d, ex_a 1 40 wd)]) (stk := [ex_i (nI wl), ex_r w_d]) co_X10_88 rfl ⟨(Nat.le_of_ble_eq_true rfl), (Nat.le_of_ble_eq_true rfl)⟩ (e_X0_dishNamed l c c0 c1 c2 c3 c4 c5 c6 c7 c8 c9 c10 c11 c12 c17 c18 c19 np nd sto res dn wo2_20 hc5) dX10_takesWhoAndWhat_50 [2, 3, 0, 1, 4, 5, 6, 7] (show List.Perm [2, 3, 0, 1, 4, 5, 6, 7] (List.range 8) from by decide) rfl rfl rfl rfl (Nat.le_of_ble_eq_true rfl) (fun cs1 r hq hk => ?_)
      rcases hq with ⟨rfl, rfl⟩
      obtain ⟨j, hj, ej⟩ := pnF_ix hp_23
      rw [ej]
      have kj : (nI j).toNatClampNeg = j := nI_clamp (by omega)
      refine X_iast (j := 7) (g := upd wd wl (nI j)) (cs' := [(c, ex_o 0 [ex_r c0, ex_r c1, ex_r c2, ex_r c3, ex_r c4, ex_r c5, ex_r c6, ex_r c7, ex_r c8, ex_r c9, ex_r c10, ex_r c11, ex_r c12, ex_i (nI np), ex_i (nI nd), ex_i sto, ex_i res, ex_r c17, ex_r c18, ex_r c19]), (c8, ex_b 5 dn), (t, ex_o 9 [ex_r g, ex_i (nI L), ex_i fa, ex_i ki2_17, ex_i nu2_18, ex_i sg2_19, ex_j wo2_20, ex_i (nI n2_21), ex_i (nI (tP f L n2_5))]), (g, ex_a 0 1000 f), (c0, ex_b 6 pn), (w, ex_o 10 [ex_r w_h, ex_r w_w, ex_r w_d, ex_i (nI wl)]), (w_w, ex_a 1 40 (upd ww wl (nI i))), (w_d, ex_a 1 40 (upd wd wl (nI j)))]) dX10_takesWhoAndWhat_53 rfl (vp_in_nI hwl (by decide)) (by rw [nI_clamp (by omega)]) rfl ?_
      refine X_iconst (v := 1) dX10_takesWhoAndWhat_54 (by decide) ?_
      refine X_re (cs' := [(t, ex_o 9 [ex_r g, ex_i (nI L), ex_i fa, ex_i ki2_17, ex_i nu2_18, ex_i sg2_19, ex_j wo2_20, ex_i (nI n2_21), ex_i (nI (tP f L n2_5))]), (g, ex_a 0 1000 f), (w, ex_o 10 [ex_r w_h, ex_r w_w, ex_r w_d, ex_i (nI wl)]), (c, ex_o 0 [ex_r c0, ex_r c1, ex_r c2, ex_r c3, ex_r c4, ex_r c5, ex_r c6, ex_r c7, ex_r c8, ex_r c9, ex_r c10, ex_r c11, ex_r c12, ex_i (nI np), ex_i (nI nd), ex_i sto, ex_i res, ex_r c17, ex_r c18, ex_r c19]), (c0, ex_b 6 pn), (c8, ex_b 5 dn), (w_w, ex_a 1 40 (upd ww wl (nI i))), (w_d, ex_a 1 40 (upd wd wl (nI j)))]) [2, 3, 5, 0, 4, 1, 6, 7] (show List.Perm [2, 3, 5, 0, 4, 1, 6, 7] (List.range 8) from by decide) rfl ?_
      exact X_iret ex_nZ rfl dX10_takesWhoAndWhat_55 rfl (Or.inl ⟨ki2_17, nu2_18, sg2_19, wo2_20, (nI (tP f L n2_5)), n2_21, i, j, (wMe_y hp_6 hp_22 ei ej (by omega) (by omega)), ⟨hi, hj⟩, hp_24, rfl, rfl⟩)
    · refine X_if_ne (tgt := 37) dX10_takesWhoAndWhat_32 (by decide) (fun c_ => absurd rfl c_) (fun _ => ?_)
      refine X_iconst (v := 0) dX10_takesWhoAndWhat_35 (by decide) ?_
      refine X_re (cs' := [(t, ex_o 9 [ex_r g, ex_i (nI L), ex_i fa2_25, ex_i ki2_26, ex_i nu2_27, ex_i sg2_28, ex_j wo2_29, ex_i ne2_30, ex_i pl2_31]), (g, ex_a 0 1000 f), (w, ex_o 10 [ex_r w_h, ex_r w_w, ex_r w_d, ex_i (nI wl)]), (c, ex_o 0 [ex_r c0, ex_r c1, ex_r c2, ex_r c3, ex_r c4, ex_r c5, ex_r c6, ex_r c7, ex_r c8, ex_r c9, ex_r c10, ex_r c11, ex_r c12, ex_i (nI np), ex_i (nI nd), ex_i sto, ex_i res, ex_r c17, ex_r c18, ex_r c19]), (c0, ex_b 6 pn), (c8, ex_b 5 dn), (w_w, ex_a 1 40 (upd ww wl (nI i))), (w_d, ex_a 1 40 wd)]) [0, 1, 5, 2, 4, 3, 6, 7] (show List.Perm [0, 1, 5, 2, 4, 3, 6, 7] (List.range 8) from by decide) rfl ?_
      exact X_iret ex_nZ rfl dX10_takesWhoAndWhat_36 rfl (Or.inr ⟨fa2_25, ki2_26, nu2_27, sg2_28, wo2_29, ne2_30, pl2_31, (upd ww wl (nI i)), wd, (wMe_2 hp_6 hp_32), (wOK_a hwo (by omega)), rfl, rfl⟩)
  · refine X_if_ne (tgt := 10) dX10_takesWhoAndWhat_5 (by decide) (fun c_ => absurd rfl c_) (fun _ => ?_)
    refine X_iconst (v := 0) dX10_takesWhoAndWhat_8 (by decide) ?_
    refine X_re (cs' := [(t, ex_o 9 [ex_r g, ex_i (nI L), ex_i fa2_9, ex_i ki2_10, ex_i nu2_11, ex_i sg2_12, ex_j wo2_13, ex_i ne2_14, ex_i pl2_15]), (g, ex_a 0 1000 f), (w, ex_o 10 [ex_r w_h, ex_r w_w, ex_r w_d, ex_i (nI wl)]), (c, ex_o 0 [ex_r c0, ex_r c1, ex_r c2, ex_r c3, ex_r c4, ex_r c5, ex_r c6, ex_r c7, ex_r c8, ex_r c9, ex_r c10, ex_r c11, ex_r c12, ex_i (nI np), ex_i (nI nd), ex_i sto, ex_i res, ex_r c17, ex_r c18, ex_r c19]), (c0, ex_b 6 pn), (c8, ex_b 5 dn), (w_w, ex_a 1 40 ww), (w_d, ex_a 1 40 wd)]) [0, 1, 4, 2, 3, 5, 6, 7] (show List.Perm [0, 1, 4, 2, 3, 5, 6, 7] (List.range 8) from by decide) rfl ?_
    exact X_iret ex_nZ rfl dX10_takesWhoAndWhat_9 rfl (Or.inr ⟨fa2_9, ki2_10, nu2_11, sg2_12, wo2_13, ne2_14, pl2_15, ww, wd, (wMe_1 hp_16), hwo, rfl, rfl⟩)
