set_option maxHeartbeats 4000000 in
set_option maxRecDepth 100000 in
theorem e_X9_rewind (l : Launch) (t : Nat) (g : Nat) (L : Nat) (fa : Int32) (ki : Int32) (nu : Int32) (sg : Int32) (wo : Int64) (ne : Int32) (pl : Int32) : ex_M l yX9_rewind cX9_rewind 1 none 0 0 [ex_r t] [(t, ex_o 9 [ex_r g, ex_i (nI L), ex_i fa, ex_i ki, ex_i nu, ex_i sg, ex_j wo, ex_i ne, ex_i pl])] (fun cs r => (cs = [(t, ex_o 9 [ex_r g, ex_i (nI L), ex_i 0, ex_i ki, ex_i nu, ex_i sg, ex_j wo, ex_i 0, ex_i pl])] ∧ r = none)) := by
  refine X_meth (by decide) (Nat.le_of_ble_eq_true rfl) ?_
  refine X_aload_n (j := 0) dX9_rewind_0 rfl rfl ?_
  refine X_iconst (v := 0) dX9_rewind_1 (by decide) ?_
  refine X_put (j := 0) (cs' := [(t, ex_o 9 [ex_r g, ex_i (nI L), ex_i fa, ex_i ki, ex_i nu, ex_i sg, ex_j wo, ex_i 0, ex_i pl])]) fo_X9_36 (by decide) dX9_rewind_2 rfl (Nat.le_of_ble_eq_true rfl) trivial rfl ?_
  refine X_aload_n (j := 0) dX9_rewind_5 rfl rfl ?_
  refine X_iconst (v := 0) dX9_rewind_6 (by decide) ?_
  refine X_put (j := 0) (cs' := [(t, ex_o 9 [ex_r g, ex_i (nI L), ex_i 0, ex_i ki, ex_i nu, ex_i sg, ex_j wo, ex_i 0, ex_i pl])]) fo_X9_19 (by decide) dX9_rewind_7 rfl (Nat.le_of_ble_eq_true rfl) trivial rfl ?_
  exact X_vret dX9_rewind_10 rfl (⟨rfl, rfl⟩)

set_option maxHeartbeats 4000000 in
set_option maxRecDepth 100000 in
theorem e_J7_fill_53178 (l : Launch) (a : Nat) (n : Nat) (v : Int32) (f : Nat → Int32) (hn : n ≤ 1000) : ex_M l yJ7_fill_53178 cJ7_fill_53178 4 none 0 0 [ex_r a, ex_i v] [(a, ex_a 1 n f)] (fun cs r => (cs = [(a, ex_a 1 n (fil n v f))] ∧ r = none)) := by
  refine X_meth (by decide) (Nat.le_of_ble_eq_true rfl) ?_
  refine X_iconst (v := 0) dJ7_fill_53178_0 (by decide) ?_
  refine X_istore_n (lv' := [(2, ex_i 0), (0, ex_r a), (1, ex_i v)]) dJ7_fill_53178_1 rfl (Nat.le_of_ble_eq_true rfl) rfl ?_
  refine X_aload_n (j := 1) dJ7_fill_53178_2 rfl rfl ?_
  refine X_len (j := 0) (v := nI n) dJ7_fill_53178_3 rfl (by decide) rfl ?_
  refine X_istore_n (lv' := [(3, ex_i (nI n)), (2, ex_i 0), (0, ex_r a), (1, ex_i v)]) dJ7_fill_53178_4 rfl (Nat.le_of_ble_eq_true rfl) rfl ?_
  rw [← fil_0 v f]
  refine X_lv (lv' := [(0, ex_r a), (1, ex_i v), (2, ex_i 0), (3, ex_i (nI n))]) [2, 3, 1, 0] rfl ?_
  refine X_ind (fun (i : Nat) => i ≤ n) (fun (i : Nat) => n - i) (fun (i : Nat) => [(a, ex_a 1 n (fil i v f))]) (fun (i : Nat) => [(0, ex_r a), (1, ex_i v), (2, ex_i (nI i)), (3, ex_i (nI n))]) (fun i hI ih => ?_) 0 (Nat.zero_le _)
  try dsimp only at hI ih ⊢
  refine X_iload_n (j := 2) dJ7_fill_53178_5 rfl rfl ?_
  refine X_iload_n (j := 3) dJ7_fill_53178_6 rfl rfl ?_
  refine X_icmp_ge (tgt := 20) dJ7_fill_53178_7 (by decide) (fun c_1 => ?_) (fun c_1 => ?_)
  · exact X_vret dJ7_fill_53178_20 rfl (⟨(by rw [nlex hn hI c_1]; try rfl), rfl⟩)
  · have hlt : i < n := nlen hn hI c_1
    refine X_aload_n (j := 0) dJ7_fill_53178_10 rfl rfl ?_
    refine X_iload_n (j := 2) dJ7_fill_53178_11 rfl rfl ?_
    refine X_iload_n (j := 1) dJ7_fill_53178_12 rfl rfl ?_
    refine X_iast (j := 0) (g := upd (fil i v f) i v) (cs' := [(a, ex_a 1 n (upd (fil i v f) i v))]) dJ7_fill_53178_13 rfl (vp_in_nI hlt (by omega)) (by rw [nI_clamp (by omega)]) rfl ?_
    refine X_iinc (v := nI (i + 1)) (j := 2) (lv' := [(2, ex_i (nI (i + 1))), (0, ex_r a), (1, ex_i v), (3, ex_i (nI n))]) dJ7_fill_53178_14 rfl (nI_1 i) (Nat.le_of_ble_eq_true rfl) rfl ?_
    refine X_goto (tgt := 5) dJ7_fill_53178_17 (by decide) ?_
    rw [fil_s]
    refine X_lv (lv' := [(0, ex_r a), (1, ex_i v), (2, ex_i (nI (i + 1))), (3, ex_i (nI n))]) [1, 2, 0, 3] rfl ?_
    exact ih (i + 1) hlt (by omega)

set_option maxHeartbeats 4000000 in
set_option maxRecDepth 100000 in
theorem e_X3_becomesUsual (l : Launch) (lw : Nat) (w0 : Nat) (w2 : Nat) (w6 : Nat) (w7 : Nat) (sl : Nat) (wn : Nat) (dp : Int32) (op : Int32) (sp : Nat → Int32) (hsl : sl ≤ 1000) : ex_M l yX3_becomesUsual cX3_becomesUsual 1 none 1 21 [ex_r lw] [(lw, ex_o 3 [ex_r w0, ex_i (nI sl), ex_r w2, ex_i (nI wn), ex_i dp, ex_i op, ex_r w6, ex_r w7]), (w0, ex_a 1 1000 sp)] (fun cs r => (∃ (sl2 : Nat), ∃ (sp2 : Nat → Int32), sl2 ≤ 1000 ∧ cs = [(lw, ex_o 3 [ex_r w0, ex_i (nI sl2), ex_r w2, ex_i (nI wn), ex_i dp, ex_i op, ex_r w6, ex_r w7]), (w0, ex_a 1 1000 sp2)] ∧ r = none)) := by
  refine X_meth (by decide) (Nat.le_of_ble_eq_true rfl) ?_
  refine X_aload_n (j := 0) dX3_becomesUsual_0 rfl rfl ?_
  refine X_iconst (v := 0) dX3_becomesUsual_1 (by decide) ?_
  refine X_put (j := 0) (cs' := [(lw, ex_o 3 [ex_r w0, ex_i 0, ex_r w2, ex_i (nI wn), ex_i dp, ex_i op, ex_r w6, ex_r w7]), (w0, ex_a 1 1000 sp)]) fo_X3_15 (by decide) dX3_becomesUsual_2 rfl (Nat.le_of_ble_eq_true rfl) trivial rfl ?_
  refine X_aload_n (j := 0) dX3_becomesUsual_5 rfl rfl ?_
  refine X_iconst (v := (-1)) dX3_becomesUsual_6 (by decide) ?_
  refine X_callV (j0 := 0) (rest := []) (stk := []) co_X3_37 rfl ⟨(Nat.le_of_ble_eq_true rfl), (Nat.le_of_ble_eq_true rfl)⟩ (e_X3_addStep l lw w0 w2 w6 w7 0 wn dp op sp (-1) (by decide)) dX3_becomesUsual_7 [0, 1] (show List.Perm [0, 1] (List.range 2) from by decide) rfl rfl rfl rfl (Nat.le_of_ble_eq_true rfl) (fun cs1 r hq hk => ?_)
  rcases hq with ⟨sl2_1, sp2_2, hp_3, rfl, rfl⟩
  refine X_aload_n (j := 0) dX3_becomesUsual_10 rfl rfl ?_
  refine X_bipush (v := (-2)) dX3_becomesUsual_11 (by decide) ?_
  refine X_callV (j0 := 0) (rest := []) (stk := []) co_X3_37 rfl ⟨(Nat.le_of_ble_eq_true rfl), (Nat.le_of_ble_eq_true rfl)⟩ (e_X3_addStep l lw w0 w2 w6 w7 sl2_1 wn dp op sp2_2 (-2) hp_3) dX3_becomesUsual_13 [0, 1] (show List.Perm [0, 1] (List.range 2) from by decide) rfl rfl rfl rfl (Nat.le_of_ble_eq_true rfl) (fun cs1 r hq hk => ?_)
  rcases hq with ⟨sl2_4, sp2_5, hp_6, rfl, rfl⟩
  refine X_aload_n (j := 0) dX3_becomesUsual_16 rfl rfl ?_
  refine X_bipush (v := (-9)) dX3_becomesUsual_17 (by decide) ?_
  refine X_callV (j0 := 0) (rest := []) (stk := []) co_X3_37 rfl ⟨(Nat.le_of_ble_eq_true rfl), (Nat.le_of_ble_eq_true rfl)⟩ (e_X3_addStep l lw w0 w2 w6 w7 sl2_4 wn dp op sp2_5 (-9) hp_6) dX3_becomesUsual_19 [0, 1] (show List.Perm [0, 1] (List.range 2) from by decide) rfl rfl rfl rfl (Nat.le_of_ble_eq_true rfl) (fun cs1 r hq hk => ?_)
  rcases hq with ⟨sl2_7, sp2_8, hp_9, rfl, rfl⟩
  refine X_aload_n (j := 0) dX3_becomesUsual_22 rfl rfl ?_
  refine X_bipush (v := (-3)) dX3_becomesUsual_23 (by decide) ?_
  refine X_callV (j0 := 0) (rest := []) (stk := []) co_X3_37 rfl ⟨(Nat.le_of_ble_eq_true rfl), (Nat.le_of_ble_eq_true rfl)⟩ (e_X3_addStep l lw w0 w2 w6 w7 sl2_7 wn dp op sp2_8 (-3) hp_9) dX3_becomesUsual_25 [0, 1] (show List.Perm [0, 1] (List.range 2) from by decide) rfl rfl rfl rfl (Nat.le_of_ble_eq_true rfl) (fun cs1 r hq hk => ?_)
  rcases hq with ⟨sl2_10, sp2_11, hp_12, rfl, rfl⟩
  refine X_aload_n (j := 0) dX3_becomesUsual_28 rfl rfl ?_
  refine X_bipush (v := (-9)) dX3_becomesUsual_29 (by decide) ?_
  refine X_callV (j0 := 0) (rest := []) (stk := []) co_X3_37 rfl ⟨(Nat.le_of_ble_eq_true rfl), (Nat.le_of_ble_eq_true rfl)⟩ (e_X3_addStep l lw w0 w2 w6 w7 sl2_10 wn dp op sp2_11 (-9) hp_12) dX3_becomesUsual_31 [0, 1] (show List.Perm [0, 1] (List.range 2) from by decide) rfl rfl rfl rfl (Nat.le_of_ble_eq_true rfl) (fun cs1 r hq hk => ?_)
  rcases hq with ⟨sl2_13, sp2_14, hp_15, rfl, rfl⟩
  exact X_vret dX3_becomesUsual_34 rfl (⟨sl2_13, sp2_14, hp_15, rfl, rfl⟩)

set_option maxHeartbeats 4000000 in
set_option maxRecDepth 100000 in
theorem e_X0_forgets (l : Launch) (c : Nat) (c0 : Nat) (c1 : Nat) (c2 : Nat) (c3 : Nat) (c4 : Nat) (c5 : Nat) (c6 : Nat) (c7 : Nat) (c8 : Nat) (c9 : Nat) (c10 : Nat) (c11 : Nat) (c12 : Nat) (c17 : Nat) (c18 : Nat) (c19 : Nat) (np : Nat) (nd : Nat) (sto : Int32) (res : Int32) (w0 : Nat) (w2 : Nat) (w6 : Nat) (w7 : Nat) (sl : Nat) (wn : Nat) (dp : Int32) (op : Int32) (sp : Nat → Int32) (sf : Nat → Int32) (st : Nat → Int32) (cu : Nat → Int32) (hsl : sl ≤ 1000) : ex_M l yX0_forgets cX0_forgets 1 none 2 41 [ex_r c] [(c, ex_o 0 [ex_r c0, ex_r c1, ex_r c2, ex_r c3, ex_r c4, ex_r c5, ex_r c6, ex_r c7, ex_r c8, ex_r c9, ex_r c10, ex_r c11, ex_r c12, ex_i (nI np), ex_i (nI nd), ex_i sto, ex_i res, ex_r c17, ex_r c18, ex_r c19]), (c5, ex_a 1 6 sf), (c6, ex_a 1 6 st), (c7, ex_a 1 6 cu), (c12, ex_o 3 [ex_r w0, ex_i (nI sl), ex_r w2, ex_i (nI wn), ex_i dp, ex_i op, ex_r w6, ex_r w7]), (w0, ex_a 1 1000 sp)] (fun cs r => (∃ (sl2 : Nat), ∃ (sp2 : Nat → Int32), sl2 ≤ 1000 ∧ cs = [(c, ex_o 0 [ex_r c0, ex_r c1, ex_r c2, ex_r c3, ex_r c4, ex_r c5, ex_r c6, ex_r c7, ex_r c8, ex_r c9, ex_r c10, ex_r c11, ex_r c12, ex_i 0, ex_i 0, ex_i 0, ex_i 2, ex_r c17, ex_r c18, ex_r c19]), (c5, ex_a 1 6 (fil 6 (-1) sf)), (c6, ex_a 1 6 (fil 6 (-1) st)), (c7, ex_a 1 6 (fil 6 0 cu)), (c12, ex_o 3 [ex_r w0, ex_i (nI sl2), ex_r w2, ex_i (nI wn), ex_i dp, ex_i op, ex_r w6, ex_r w7]), (w0, ex_a 1 1000 sp2)] ∧ r = none)) := by
  refine X_meth (by decide) (Nat.le_of_ble_eq_true rfl) ?_
  refine X_aload_n (j := 0) dX0_forgets_0 rfl rfl ?_
  refine X_iconst (v := 0) dX0_forgets_1 (by decide) ?_
  refine X_put (j := 0) (cs' := [(c, ex_o 0 [ex_r c0, ex_r c1, ex_r c2, ex_r c3, ex_r c4, ex_r c5, ex_r c6, ex_r c7, ex_r c8, ex_r c9, ex_r c10, ex_r c11, ex_r c12, ex_i 0, ex_i (nI nd), ex_i sto, ex_i res, ex_r c17, ex_r c18, ex_r c19]), (c5, ex_a 1 6 sf), (c6, ex_a 1 6 st), (c7, ex_a 1 6 cu), (c12, ex_o 3 [ex_r w0, ex_i (nI sl), ex_r w2, ex_i (nI wn), ex_i dp, ex_i op, ex_r w6, ex_r w7]), (w0, ex_a 1 1000 sp)]) fo_X0_56 (by decide) dX0_forgets_2 rfl (Nat.le_of_ble_eq_true rfl) trivial rfl ?_
  refine X_aload_n (j := 0) dX0_forgets_5 rfl rfl ?_
  refine X_iconst (v := 0) dX0_forgets_6 (by decide) ?_
  refine X_put (j := 0) (cs' := [(c, ex_o 0 [ex_r c0, ex_r c1, ex_r c2, ex_r c3, ex_r c4, ex_r c5, ex_r c6, ex_r c7, ex_r c8, ex_r c9, ex_r c10, ex_r c11, ex_r c12, ex_i 0, ex_i 0, ex_i sto, ex_i res, ex_r c17, ex_r c18, ex_r c19]), (c5, ex_a 1 6 sf), (c6, ex_a 1 6 st), (c7, ex_a 1 6 cu), (c12, ex_o 3 [ex_r w0, ex_i (nI sl), ex_r w2, ex_i (nI wn), ex_i dp, ex_i op, ex_r w6, ex_r w7]), (w0, ex_a 1 1000 sp)]) fo_X0_60 (by decide) dX0_forgets_7 rfl (Nat.le_of_ble_eq_true rfl) trivial rfl ?_
  refine X_aload_n (j := 0) dX0_forgets_10 rfl rfl ?_
  refine X_iconst (v := 0) dX0_forgets_11 (by decide) ?_
  refine X_put (j := 0) (cs' := [(c, ex_o 0 [ex_r c0, ex_r c1, ex_r c2, ex_r c3, ex_r c4, ex_r c5, ex_r c6, ex_r c7, ex_r c8, ex_r c9, ex_r c10, ex_r c11, ex_r c12, ex_i 0, ex_i 0, ex_i 0, ex_i res, ex_r c17, ex_r c18, ex_r c19]), (c5, ex_a 1 6 sf), (c6, ex_a 1 6 st), (c7, ex_a 1 6 cu), (c12, ex_o 3 [ex_r w0, ex_i (nI sl), ex_r w2, ex_i (nI wn), ex_i dp, ex_i op, ex_r w6, ex_r w7]), (w0, ex_a 1 1000 sp)]) fo_X0_63 (by decide) dX0_forgets_12 rfl (Nat.le_of_ble_eq_true rfl) trivial rfl ?_
  refine X_aload_n (j := 0) dX0_forgets_15 rfl rfl ?_
  refine X_iconst (v := 2) dX0_forgets_16 (by decide) ?_
  refine X_put (j := 0) (cs' := [(c, ex_o 0 [ex_r c0, ex_r c1, ex_r c2, ex_r c3, ex_r c4, ex_r c5, ex_r c6, ex_r c7, ex_r c8, ex_r c9, ex_r c10, ex_r c11, ex_r c12, ex_i 0, ex_i 0, ex_i 0, ex_i 2, ex_r c17, ex_r c18, ex_r c19]), (c5, ex_a 1 6 sf), (c6, ex_a 1 6 st), (c7, ex_a 1 6 cu), (c12, ex_o 3 [ex_r w0, ex_i (nI sl), ex_r w2, ex_i (nI wn), ex_i dp, ex_i op, ex_r w6, ex_r w7]), (w0, ex_a 1 1000 sp)]) fo_X0_66 (by decide) dX0_forgets_17 rfl (Nat.le_of_ble_eq_true rfl) trivial rfl ?_
  refine X_aload_n (j := 0) dX0_forgets_20 rfl rfl ?_
  refine X_get (j := 0) fo_X0_28 dX0_forgets_21 rfl rfl ?_
  refine X_iconst (v := (-1)) dX0_forgets_24 (by decide) ?_
  refine X_callS (rest := [(c, ex_o 0 [ex_r c0, ex_r c1, ex_r c2, ex_r c3, ex_r c4, ex_r c5, ex_r c6, ex_r c7, ex_r c8, ex_r c9, ex_r c10, ex_r c11, ex_r c12, ex_i 0, ex_i 0, ex_i 0, ex_i 2, ex_r c17, ex_r c18, ex_r c19]), (c6, ex_a 1 6 st), (c7, ex_a 1 6 cu), (c12, ex_o 3 [ex_r w0, ex_i (nI sl), ex_r w2, ex_i (nI wn), ex_i dp, ex_i op, ex_r w6, ex_r w7]), (w0, ex_a 1 1000 sp)]) (stk := []) co_X0_79 rfl ⟨(Nat.le_of_ble_eq_true rfl), (Nat.le_of_ble_eq_true rfl)⟩ (e_J7_fill_53178 l c5 6 (-1) sf (by decide)) dX0_forgets_25 [1, 0, 2, 3, 4, 5] (show List.Perm [1, 0, 2, 3, 4, 5] (List.range 6) from by decide) rfl rfl rfl (Nat.le_of_ble_eq_true rfl) (fun cs1 r hq hk => ?_)
  rcases hq with ⟨rfl, rfl⟩
  refine X_aload_n (j := 0) dX0_forgets_28 rfl rfl ?_
  refine X_get (j := 1) fo_X0_31 dX0_forgets_29 rfl rfl ?_
  refine X_iconst (v := (-1)) dX0_forgets_32 (by decide) ?_
  refine X_callS (rest := [(c5, ex_a 1 6 (fil 6 (-1) sf)), (c, ex_o 0 [ex_r c0, ex_r c1, ex_r c2, ex_r c3, ex_r c4, ex_r c5, ex_r c6, ex_r c7, ex_r c8, ex_r c9, ex_r c10, ex_r c11, ex_r c12, ex_i 0, ex_i 0, ex_i 0, ex_i 2, ex_r c17, ex_r c18, ex_r c19]), (c7, ex_a 1 6 cu), (c12, ex_o 3 [ex_r w0, ex_i (nI sl), ex_r w2, ex_i (nI wn), ex_i dp, ex_i op, ex_r w6, ex_r w7]), (w0, ex_a 1 1000 sp)]) (stk := []) co_X0_79 rfl ⟨(Nat.le_of_ble_eq_true rfl), (Nat.le_of_ble_eq_true rfl)⟩ (e_J7_fill_53178 l c6 6 (-1) st (by decide)) dX0_forgets_33 [2, 0, 1, 3, 4, 5] (show List.Perm [2, 0, 1, 3, 4, 5] (List.range 6) from by decide) rfl rfl rfl (Nat.le_of_ble_eq_true rfl) (fun cs1 r hq hk => ?_)
  rcases hq with ⟨rfl, rfl⟩
  refine X_aload_n (j := 0) dX0_forgets_36 rfl rfl ?_
  refine X_get (j := 2) fo_X0_34 dX0_forgets_37 rfl rfl ?_
  refine X_iconst (v := 0) dX0_forgets_40 (by decide) ?_
  refine X_callS (rest := [(c6, ex_a 1 6 (fil 6 (-1) st)), (c5, ex_a 1 6 (fil 6 (-1) sf)), (c, ex_o 0 [ex_r c0, ex_r c1, ex_r c2, ex_r c3, ex_r c4, ex_r c5, ex_r c6, ex_r c7, ex_r c8, ex_r c9, ex_r c10, ex_r c11, ex_r c12, ex_i 0, ex_i 0, ex_i 0, ex_i 2, ex_r c17, ex_r c18, ex_r c19]), (c12, ex_o 3 [ex_r w0, ex_i (nI sl), ex_r w2, ex_i (nI wn), ex_i dp, ex_i op, ex_r w6, ex_r w7]), (w0, ex_a 1 1000 sp)]) (stk := []) co_X0_79 rfl ⟨(Nat.le_of_ble_eq_true rfl), (Nat.le_of_ble_eq_true rfl)⟩ (e_J7_fill_53178 l c7 6 0 cu (by decide)) dX0_forgets_41 [3, 0, 1, 2, 4, 5] (show List.Perm [3, 0, 1, 2, 4, 5] (List.range 6) from by decide) rfl rfl rfl (Nat.le_of_ble_eq_true rfl) (fun cs1 r hq hk => ?_)
  rcases hq with ⟨rfl, rfl⟩
  refine X_aload_n (j := 0) dX0_forgets_44 rfl rfl ?_
  refine X_get (j := 3) fo_X0_52 dX0_forgets_45 rfl rfl ?_
  refine X_callV (j0 := 0) (rest := [(c7, ex_a 1 6 (fil 6 0 cu)), (c6, ex_a 1 6 (fil 6 (-1) st)), (c5, ex_a 1 6 (fil 6 (-1) sf)), (c, ex_o 0 [ex_r c0, ex_r c1, ex_r c2, ex_r c3, ex_r c4, ex_r c5, ex_r c6, ex_r c7, ex_r c8, ex_r c9, ex_r c10, ex_r c11, ex_r c12, ex_i 0, ex_i 0, ex_i 0, ex_i 2, ex_r c17, ex_r c18, ex_r c19])]) (stk := []) co_X0_85 rfl ⟨(Nat.le_of_ble_eq_true rfl), (Nat.le_of_ble_eq_true rfl)⟩ (e_X3_becomesUsual l c12 w0 w2 w6 w7 sl wn dp op sp hsl) dX0_forgets_48 [4, 5, 0, 1, 2, 3] (show List.Perm [4, 5, 0, 1, 2, 3] (List.range 6) from by decide) rfl rfl rfl rfl (Nat.le_of_ble_eq_true rfl) (fun cs1 r hq hk => ?_)
  rcases hq with ⟨sl2_1, sp2_2, hp_3, rfl, rfl⟩
  refine X_re (cs' := [(c, ex_o 0 [ex_r c0, ex_r c1, ex_r c2, ex_r c3, ex_r c4, ex_r c5, ex_r c6, ex_r c7, ex_r c8, ex_r c9, ex_r c10, ex_r c11, ex_r c12, ex_i 0, ex_i 0, ex_i 0, ex_i 2, ex_r c17, ex_r c18, ex_r c19]), (c5, ex_a 1 6 (fil 6 (-1) sf)), (c6, ex_a 1 6 (fil 6 (-1) st)), (c7, ex_a 1 6 (fil 6 0 cu)), (c12, ex_o 3 [ex_r w0, ex_i (nI sl2_1), ex_r w2, ex_i (nI wn), ex_i dp, ex_i op, ex_r w6, ex_r w7]), (w0, ex_a 1 1000 sp2_2)]) [5, 4, 3, 2, 0, 1] (show List.Perm [5, 4, 3, 2, 0, 1] (List.range 6) from by decide) rfl ?_
  exact X_vret dX0_forgets_51 rfl (⟨sl2_1, sp2_2, hp_3, rfl, rfl⟩)

set_option maxHeartbeats 4000000 in
set_option maxRecDepth 100000 in
theorem e_X1_readsShare (l : Launch) (t : Nat) (g : Nat) (L : Nat) (fa : Int32) (ki : Int32) (nu : Int32) (sg : Int32) (wo : Int64) (n : Nat) (pl : Int32) (f : Nat → Int32) (c : Nat) (c0 : Nat) (c1 : Nat) (c2 : Nat) (c3 : Nat) (c4 : Nat) (c5 : Nat) (c6 : Nat) (c7 : Nat) (c8 : Nat) (c9 : Nat) (c10 : Nat) (c11 : Nat) (c12 : Nat) (c17 : Nat) (c18 : Nat) (c19 : Nat) (np : Nat) (nd : Nat) (sto : Int32) (res : Int32) (rd : Nat) (st0 : Int32) (rt0 : Int32) (sh0 : Int32) (w0 : Nat) (w2 : Nat) (w6 : Nat) (w7 : Nat) (sl : Nat) (wn : Nat) (dp : Int32) (op : Int32) (sp : Nat → Int32) (wt : Nat → Int32) (hL : L ≤ 1000) (hn : n ≤ L) (hf : ∀ j, 0 ≤ (f j).toInt ∧ (f j).toInt ≤ 127) (hsl : sl ≤ 1000) (hwn : wn ≤ 40) : ex_M l yX1_readsShare cX1_readsShare 3 (some .boolean) 7 153 [ex_r rd, ex_r t, ex_r c] [(t, ex_o 9 [ex_r g, ex_i (nI L), ex_i fa, ex_i ki, ex_i nu, ex_i sg, ex_j wo, ex_i (nI n), ex_i pl]), (g, ex_a 0 1000 f), (c, ex_o 0 [ex_r c0, ex_r c1, ex_r c2, ex_r c3, ex_r c4, ex_r c5, ex_r c6, ex_r c7, ex_r c8, ex_r c9, ex_r c10, ex_r c11, ex_r c12, ex_i (nI np), ex_i (nI nd), ex_i sto, ex_i res, ex_r c17, ex_r c18, ex_r c19]), (rd, ex_o 1 [ex_i st0, ex_i rt0, ex_i sh0]), (c12, ex_o 3 [ex_r w0, ex_i (nI sl), ex_r w2, ex_i (nI wn), ex_i dp, ex_i op, ex_r w6, ex_r w7]), (w0, ex_a 1 1000 sp), (w2, ex_a 1 40 wt)] (fun cs r => (∃ (ki2 : Int32), ∃ (nu2 : Int32), ∃ (sg2 : Int32), ∃ (wo2 : Int64), ∃ (pl2 : Int32), ∃ (n2 : Nat), ∃ (sl2 : Nat), ∃ (wn2 : Nat), ∃ (dp2 : Int32), ∃ (op2 : Int32), ∃ (sp2 : Nat → Int32), ∃ (wt2 : Nat → Int32), sSha f L sh0 pl wt n = .inr n2 ∧ n2 ≤ L ∧ (sl2 ≤ 1000 ∧ wn2 ≤ 40) ∧ cs = [(t, ex_o 9 [ex_r g, ex_i (nI L), ex_i fa, ex_i ki2, ex_i nu2, ex_i sg2, ex_j wo2, ex_i (nI n2), ex_i pl2]), (g, ex_a 0 1000 f), (c, ex_o 0 [ex_r c0, ex_r c1, ex_r c2, ex_r c3, ex_r c4, ex_r c5, ex_r c6, ex_r c7, ex_r c8, ex_r c9, ex_r c10, ex_r c11, ex_r c12, ex_i (nI np), ex_i (nI nd), ex_i sto, ex_i res, ex_r c17, ex_r c18, ex_r c19]), (rd, ex_o 1 [ex_i st0, ex_i rt0, ex_i 1]), (c12, ex_o 3 [ex_r w0, ex_i (nI sl2), ex_r w2, ex_i (nI wn2), ex_i dp2, ex_i op2, ex_r w6, ex_r w7]), (w0, ex_a 1 1000 sp2), (w2, ex_a 1 40 wt2)] ∧ r = some (ex_i 1)) ∨ (∃ (fa2 : Int32), ∃ (ki2 : Int32), ∃ (nu2 : Int32), ∃ (sg2 : Int32), ∃ (wo2 : Int64), ∃ (ne2 : Int32), ∃ (pl2 : Int32), ∃ (sl2 : Nat), ∃ (wn2 : Nat), ∃ (dp2 : Int32), ∃ (op2 : Int32), ∃ (sp2 : Nat → Int32), ∃ (wt2 : Nat → Int32), ∃ (y2 : Int32), sSha f L sh0 pl wt n = .inl fa2 ∧ (sl2 ≤ 1000 ∧ wn2 ≤ 40) ∧ cs = [(t, ex_o 9 [ex_r g, ex_i (nI L), ex_i fa2, ex_i ki2, ex_i nu2, ex_i sg2, ex_j wo2, ex_i ne2, ex_i pl2]), (g, ex_a 0 1000 f), (c, ex_o 0 [ex_r c0, ex_r c1, ex_r c2, ex_r c3, ex_r c4, ex_r c5, ex_r c6, ex_r c7, ex_r c8, ex_r c9, ex_r c10, ex_r c11, ex_r c12, ex_i (nI np), ex_i (nI nd), ex_i sto, ex_i res, ex_r c17, ex_r c18, ex_r c19]), (rd, ex_o 1 [ex_i st0, ex_i rt0, ex_i y2]), (c12, ex_o 3 [ex_r w0, ex_i (nI sl2), ex_r w2, ex_i (nI wn2), ex_i dp2, ex_i op2, ex_r w6, ex_r w7]), (w0, ex_a 1 1000 sp2), (w2, ex_a 1 40 wt2)] ∧ r = some (ex_i 0))) := by
  refine X_meth (by decide) (Nat.le_of_ble_eq_true rfl) ?_
  refine X_aload_n (j := 0) dX1_readsShare_0 rfl rfl ?_
  refine X_get (j := 3) fo_X1_18 dX1_readsShare_1 rfl rfl ?_
  refine X_if_eq (tgt := 13) dX1_readsShare_4 (by decide) (fun c_1 => ?_) (fun c_1 => ?_)
  · refine X_aload_n (j := 0) dX1_readsShare_13 rfl rfl ?_
    refine X_iconst (v := 1) dX1_readsShare_14 (by decide) ?_
    refine X_put (j := 3) (cs' := [(t, ex_o 9 [ex_r g, ex_i (nI L), ex_i fa, ex_i ki, ex_i nu, ex_i sg, ex_j wo, ex_i (nI n), ex_i pl]), (g, ex_a 0 1000 f), (c, ex_o 0 [ex_r c0, ex_r c1, ex_r c2, ex_r c3, ex_r c4, ex_r c5, ex_r c6, ex_r c7, ex_r c8, ex_r c9, ex_r c10, ex_r c11, ex_r c12, ex_i (nI np), ex_i (nI nd), ex_i sto, ex_i res, ex_r c17, ex_r c18, ex_r c19]), (rd, ex_o 1 [ex_i st0, ex_i rt0, ex_i 1]), (c12, ex_o 3 [ex_r w0, ex_i (nI sl), ex_r w2, ex_i (nI wn), ex_i dp, ex_i op, ex_r w6, ex_r w7]), (w0, ex_a 1 1000 sp), (w2, ex_a 1 40 wt)]) fo_X1_18 (by decide) dX1_readsShare_15 rfl (Nat.le_of_ble_eq_true rfl) (Or.inr rfl) rfl ?_
    refine X_aload_n (j := 2) dX1_readsShare_18 rfl rfl ?_
    refine X_get (j := 2) fo_X1_191 dX1_readsShare_19 rfl rfl ?_
    refine X_aload_n (j := 1) dX1_readsShare_22 rfl rfl ?_
    refine X_callV (j0 := 2) (rest := [(c, ex_o 0 [ex_r c0, ex_r c1, ex_r c2, ex_r c3, ex_r c4, ex_r c5, ex_r c6, ex_r c7, ex_r c8, ex_r c9, ex_r c10, ex_r c11, ex_r c12, ex_i (nI np), ex_i (nI nd), ex_i sto, ex_i res, ex_r c17, ex_r c18, ex_r c19]), (rd, ex_o 1 [ex_i st0, ex_i rt0, ex_i 1])]) (stk := []) co_X1_195 rfl ⟨(Nat.le_of_ble_eq_true rfl), (Nat.le_of_ble_eq_true rfl)⟩ (e_X3_reads l t g L fa ki nu sg wo n pl f c12 w0 w2 w6 w7 sl wn dp op sp wt hL hn hf hsl hwn) dX1_readsShare_23 [0, 1, 4, 5, 6, 2, 3] (show List.Perm [0, 1, 4, 5, 6, 2, 3] (List.range 7) from by decide) rfl rfl rfl rfl (Nat.le_of_ble_eq_true rfl) (fun cs1 r hq hk => ?_)
    rcases hq with ⟨ki2_2, nu2_3, sg2_4, wo2_5, pl2_6, n2_7, sl2_8, wn2_9, dp2_10, op2_11, sp2_12, wt2_13, hp_14, hp_15, hp_16, rfl, rfl⟩ | ⟨fa2_17, ki2_18, nu2_19, sg2_20, wo2_21, ne2_22, pl2_23, sl2_24, wn2_25, dp2_26, op2_27, sp2_28, wt2_29, hp_30, hp_31, rfl, rfl⟩
    · refine X_re (cs' := [(t, ex_o 9 [ex_r g, ex_i (nI L), ex_i fa, ex_i ki2_2, ex_i nu2_3, ex_i sg2_4, ex_j wo2_5, ex_i (nI n2_7), ex_i pl2_6]), (g, ex_a 0 1000 f), (c, ex_o 0 [ex_r c0, ex_r c1, ex_r c2, ex_r c3, ex_r c4, ex_r c5, ex_r c6, ex_r c7, ex_r c8, ex_r c9, ex_r c10, ex_r c11, ex_r c12, ex_i (nI np), ex_i (nI nd), ex_i sto, ex_i res, ex_r c17, ex_r c18, ex_r c19]), (rd, ex_o 1 [ex_i st0, ex_i rt0, ex_i 1]), (c12, ex_o 3 [ex_r w0, ex_i (nI sl2_8), ex_r w2, ex_i (nI wn2_9), ex_i dp2_10, ex_i op2_11, ex_r w6, ex_r w7]), (w0, ex_a 1 1000 sp2_12), (w2, ex_a 1 40 wt2_13)]) [0, 1, 5, 6, 2, 3, 4] (show List.Perm [0, 1, 5, 6, 2, 3, 4] (List.range 7) from by decide) rfl ?_
      exact X_iret ex_nZ rfl dX1_readsShare_26 rfl (Or.inl ⟨ki2_2, nu2_3, sg2_4, wo2_5, pl2_6, n2_7, sl2_8, wn2_9, dp2_10, op2_11, sp2_12, wt2_13, (by unfold sSha; rw [if_pos c_1]; exact hp_14), hp_15, hp_16, rfl, rfl⟩)
    · refine X_re (cs' := [(t, ex_o 9 [ex_r g, ex_i (nI L), ex_i fa2_17, ex_i ki2_18, ex_i nu2_19, ex_i sg2_20, ex_j wo2_21, ex_i ne2_22, ex_i pl2_23]), (g, ex_a 0 1000 f), (c, ex_o 0 [ex_r c0, ex_r c1, ex_r c2, ex_r c3, ex_r c4, ex_r c5, ex_r c6, ex_r c7, ex_r c8, ex_r c9, ex_r c10, ex_r c11, ex_r c12, ex_i (nI np), ex_i (nI nd), ex_i sto, ex_i res, ex_r c17, ex_r c18, ex_r c19]), (rd, ex_o 1 [ex_i st0, ex_i rt0, ex_i 1]), (c12, ex_o 3 [ex_r w0, ex_i (nI sl2_24), ex_r w2, ex_i (nI wn2_25), ex_i dp2_26, ex_i op2_27, ex_r w6, ex_r w7]), (w0, ex_a 1 1000 sp2_28), (w2, ex_a 1 40 wt2_29)]) [0, 1, 5, 6, 2, 3, 4] (show List.Perm [0, 1, 5, 6, 2, 3, 4] (List.range 7) from by decide) rfl ?_
      exact X_iret ex_nZ rfl dX1_readsShare_26 rfl (Or.inr ⟨fa2_17, ki2_18, nu2_19, sg2_20, wo2_21, ne2_22, pl2_23, sl2_24, wn2_25, dp2_26, op2_27, sp2_28, wt2_29, 1, (by unfold sSha; rw [if_pos c_1]; exact hp_30), hp_31, rfl, rfl⟩)
  · refine X_aload_n (j := 1) dX1_readsShare_7 rfl rfl ?_
    refine X_iconst (v := 3) dX1_readsShare_8 (by decide) ?_
    refine X_callV (j0 := 0) (rest := [(g, ex_a 0 1000 f), (c, ex_o 0 [ex_r c0, ex_r c1, ex_r c2, ex_r c3, ex_r c4, ex_r c5, ex_r c6, ex_r c7, ex_r c8, ex_r c9, ex_r c10, ex_r c11, ex_r c12, ex_i (nI np), ex_i (nI nd), ex_i sto, ex_i res, ex_r c17, ex_r c18, ex_r c19]), (rd, ex_o 1 [ex_i st0, ex_i rt0, ex_i sh0]), (c12, ex_o 3 [ex_r w0, ex_i (nI sl), ex_r w2, ex_i (nI wn), ex_i dp, ex_i op, ex_r w6, ex_r w7]), (w0, ex_a 1 1000 sp), (w2, ex_a 1 40 wt)]) (stk := []) co_X1_78 rfl ⟨(Nat.le_of_ble_eq_true rfl), (Nat.le_of_ble_eq_true rfl)⟩ (e_X9_wrong l t g L fa ki nu sg wo (nI n) pl 3) dX1_readsShare_9 [0, 1, 2, 3, 4, 5, 6] (show List.Perm [0, 1, 2, 3, 4, 5, 6] (List.range 7) from by decide) rfl rfl rfl rfl (Nat.le_of_ble_eq_true rfl) (fun cs1 r hq hk => ?_)
    rcases hq with ⟨rfl, rfl⟩
    exact X_iret ex_nZ rfl dX1_readsShare_12 rfl (Or.inr ⟨(3 + 16 * pl), ki, nu, sg, wo, (nI n), pl, sl, wn, dp, op, sp, wt, sh0, (by unfold sSha; rw [if_neg c_1]), ⟨hsl, hwn⟩, rfl, rfl⟩)
