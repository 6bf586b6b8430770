set_option maxHeartbeats 4000000 in
set_option maxRecDepth 100000 in
theorem e_X3_takesPart (l : Launch) (lw : Nat) (w0 : Nat) (w2 : Nat) (w6 : Nat) (w7 : Nat) (sl : Nat) (wn : Nat) (dp : Int32) (op : Int32) (sp : Nat → Int32) (wt : Nat → Int32) (x : Int32) (hsl : sl ≤ 1000) (hwn : wn ≤ 40) : ex_M l yX3_takesPart cX3_takesPart 2 none 2 41 [ex_r lw, ex_i x] [(lw, ex_o 3 [ex_r w0, ex_i (nI sl), ex_r w2, ex_i (nI wn), ex_i dp, ex_i op, ex_r w6, ex_r w7]), (w0, ex_a 1 1000 sp), (w2, ex_a 1 40 wt)] (fun cs r => ((x = -6 ∨ x = -14) ∧ cs = [(lw, ex_o 3 [ex_r w0, ex_i (nI sl), ex_r w2, ex_i (nI (adN wn)), ex_i (dp + 1), ex_i (op + (if x = -14 then 1 else 0)), ex_r w6, ex_r w7]), (w0, ex_a 1 1000 sp), (w2, ex_a 1 40 (adW wt wn x))] ∧ r = none) ∨ (∃ (sl2 : Nat), ∃ (sp2 : Nat → Int32), (¬ (x = -6 ∨ x = -14)) ∧ sl2 ≤ 1000 ∧ cs = [(lw, ex_o 3 [ex_r w0, ex_i (nI sl2), ex_r w2, ex_i (nI (setN wt wn dp).1), ex_i ((setN wt wn dp).2), ex_i op, ex_r w6, ex_r w7]), (w0, ex_a 1 1000 sp2), (w2, ex_a 1 40 wt)] ∧ r = none)) := by
  refine X_meth (by decide) (Nat.le_of_ble_eq_true rfl) ?_
  refine X_iload_n (j := 1) dX3_takesPart_0 rfl rfl ?_
  refine X_bipush (v := (-6)) dX3_takesPart_1 (by decide) ?_
  refine X_icmp_eq (tgt := 12) dX3_takesPart_3 (by decide) (fun c_1 => ?_) (fun c_1 => ?_)
  · refine X_aload_n (j := 0) dX3_takesPart_12 rfl rfl ?_
    refine X_dup dX3_takesPart_13 rfl ?_
    refine X_get (j := 0) fo_X3_25 dX3_takesPart_14 rfl rfl ?_
    refine X_iconst (v := 1) dX3_takesPart_17 (by decide) ?_
    refine X_iadd (v := (dp + 1)) dX3_takesPart_18 rfl ?_
    refine X_put (j := 0) (cs' := [(lw, ex_o 3 [ex_r w0, ex_i (nI sl), ex_r w2, ex_i (nI wn), ex_i (dp + 1), ex_i op, ex_r w6, ex_r w7]), (w0, ex_a 1 1000 sp), (w2, ex_a 1 40 wt)]) fo_X3_25 (by decide) dX3_takesPart_19 rfl (Nat.le_of_ble_eq_true rfl) trivial rfl ?_
    refine X_aload_n (j := 0) dX3_takesPart_22 rfl rfl ?_
    refine X_dup dX3_takesPart_23 rfl ?_
    refine X_get (j := 0) fo_X3_28 dX3_takesPart_24 rfl rfl ?_
    refine X_iload_n (j := 1) dX3_takesPart_27 rfl rfl ?_
    refine X_bipush (v := (-14)) dX3_takesPart_28 (by decide) ?_
    refine X_icmp_ne (tgt := 37) dX3_takesPart_30 (by decide) (fun _ => ?_) (fun c_ => absurd c_ (by have q0 := c_1; simp only [lt_ti, le_ti, eq_ti, tim_14, tim_6] at q0 ⊢; omega))
    refine X_iconst (v := 0) dX3_takesPart_37 (by decide) ?_
    refine X_iadd (v := (op + 0)) dX3_takesPart_38 rfl ?_
    refine X_put (j := 0) (cs' := [(lw, ex_o 3 [ex_r w0, ex_i (nI sl), ex_r w2, ex_i (nI wn), ex_i (dp + 1), ex_i (op + 0), ex_r w6, ex_r w7]), (w0, ex_a 1 1000 sp), (w2, ex_a 1 40 wt)]) fo_X3_28 (by decide) dX3_takesPart_39 rfl (Nat.le_of_ble_eq_true rfl) trivial rfl ?_
    refine X_aload_n (j := 0) dX3_takesPart_42 rfl rfl ?_
    refine X_iload_n (j := 1) dX3_takesPart_43 rfl rfl ?_
    refine X_callV (j0 := 0) (rest := [(w0, ex_a 1 1000 sp)]) (stk := []) co_X3_103 rfl ⟨(Nat.le_of_ble_eq_true rfl), (Nat.le_of_ble_eq_true rfl)⟩ (e_X3_addWaiting l lw w0 w2 w6 w7 sl wn (dp + 1) (op + 0) wt x hwn) dX3_takesPart_44 [0, 2, 1] (show List.Perm [0, 2, 1] (List.range 3) from by decide) rfl rfl rfl rfl (Nat.le_of_ble_eq_true rfl) (fun cs1 r hq hk => ?_)
    rcases hq with ⟨rfl, rfl⟩
    refine X_goto (tgt := 59) dX3_takesPart_47 (by decide) ?_
    refine X_re (cs' := [(lw, ex_o 3 [ex_r w0, ex_i (nI sl), ex_r w2, ex_i (nI (adN wn)), ex_i (dp + 1), ex_i (op + 0), ex_r w6, ex_r w7]), (w0, ex_a 1 1000 sp), (w2, ex_a 1 40 (adW wt wn x))]) [0, 2, 1] (show List.Perm [0, 2, 1] (List.range 3) from by decide) rfl ?_
    exact X_vret dX3_takesPart_59 rfl (Or.inl ⟨(Or.inl c_1), (by rw [if_neg (by rw [c_1]; decide)]; try rfl), rfl⟩)
  · refine X_iload_n (j := 1) dX3_takesPart_6 rfl rfl ?_
    refine X_bipush (v := (-14)) dX3_takesPart_7 (by decide) ?_
    refine X_icmp_ne (tgt := 50) dX3_takesPart_9 (by decide) (fun c_2 => ?_) (fun c_2 => ?_)
    · refine X_aload_n (j := 0) dX3_takesPart_50 rfl rfl ?_
      refine X_iload_n (j := 1) dX3_takesPart_51 rfl rfl ?_
      refine X_callV (j0 := 0) (rest := [(w2, ex_a 1 40 wt)]) (stk := []) co_X3_37 rfl ⟨(Nat.le_of_ble_eq_true rfl), (Nat.le_of_ble_eq_true rfl)⟩ (e_X3_addStep l lw w0 w2 w6 w7 sl wn dp op sp x hsl) dX3_takesPart_52 [0, 1, 2] (show List.Perm [0, 1, 2] (List.range 3) from by decide) rfl rfl rfl rfl (Nat.le_of_ble_eq_true rfl) (fun cs1 r hq hk => ?_)
      rcases hq with ⟨sl2_3, sp2_4, hp_5, rfl, rfl⟩
      refine X_aload_n (j := 0) dX3_takesPart_55 rfl rfl ?_
      refine X_callV (j0 := 0) (rest := []) (stk := []) co_X3_106 rfl ⟨(Nat.le_of_ble_eq_true rfl), (Nat.le_of_ble_eq_true rfl)⟩ (e_X3_settleNots l lw w0 w2 w6 w7 sl2_3 wn dp op sp2_4 wt hp_5 hwn) dX3_takesPart_56 [0, 1, 2] (show List.Perm [0, 1, 2] (List.range 3) from by decide) rfl rfl rfl rfl (Nat.le_of_ble_eq_true rfl) (fun cs1 r hq hk => ?_)
      rcases hq with ⟨sl2_6, sp2_7, hp_8, rfl, rfl⟩
      exact X_vret dX3_takesPart_59 rfl (Or.inr ⟨sl2_6, sp2_7, (fun q => q.elim c_1 c_2), hp_8, rfl, rfl⟩)
    · refine X_aload_n (j := 0) dX3_takesPart_12 rfl rfl ?_
      refine X_dup dX3_takesPart_13 rfl ?_
      refine X_get (j := 0) fo_X3_25 dX3_takesPart_14 rfl rfl ?_
      refine X_iconst (v := 1) dX3_takesPart_17 (by decide) ?_
      refine X_iadd (v := (dp + 1)) dX3_takesPart_18 rfl ?_
      refine X_put (j := 0) (cs' := [(lw, ex_o 3 [ex_r w0, ex_i (nI sl), ex_r w2, ex_i (nI wn), ex_i (dp + 1), ex_i op, ex_r w6, ex_r w7]), (w0, ex_a 1 1000 sp), (w2, ex_a 1 40 wt)]) fo_X3_25 (by decide) dX3_takesPart_19 rfl (Nat.le_of_ble_eq_true rfl) trivial rfl ?_
      refine X_aload_n (j := 0) dX3_takesPart_22 rfl rfl ?_
      refine X_dup dX3_takesPart_23 rfl ?_
      refine X_get (j := 0) fo_X3_28 dX3_takesPart_24 rfl rfl ?_
      refine X_iload_n (j := 1) dX3_takesPart_27 rfl rfl ?_
      refine X_bipush (v := (-14)) dX3_takesPart_28 (by decide) ?_
      refine X_icmp_ne (tgt := 37) dX3_takesPart_30 (by decide) (fun c_ => absurd c_2 c_) (fun _ => ?_)
      refine X_iconst (v := 1) dX3_takesPart_33 (by decide) ?_
      refine X_goto (tgt := 38) dX3_takesPart_34 (by decide) ?_
      refine X_iadd (v := (op + 1)) dX3_takesPart_38 rfl ?_
      refine X_put (j := 0) (cs' := [(lw, ex_o 3 [ex_r w0, ex_i (nI sl), ex_r w2, ex_i (nI wn), ex_i (dp + 1), ex_i (op + 1), ex_r w6, ex_r w7]), (w0, ex_a 1 1000 sp), (w2, ex_a 1 40 wt)]) fo_X3_28 (by decide) dX3_takesPart_39 rfl (Nat.le_of_ble_eq_true rfl) trivial rfl ?_
      refine X_aload_n (j := 0) dX3_takesPart_42 rfl rfl ?_
      refine X_iload_n (j := 1) dX3_takesPart_43 rfl rfl ?_
      refine X_callV (j0 := 0) (rest := [(w0, ex_a 1 1000 sp)]) (stk := []) co_X3_103 rfl ⟨(Nat.le_of_ble_eq_true rfl), (Nat.le_of_ble_eq_true rfl)⟩ (e_X3_addWaiting l lw w0 w2 w6 w7 sl wn (dp + 1) (op + 1) wt x hwn) dX3_takesPart_44 [0, 2, 1] (show List.Perm [0, 2, 1] (List.range 3) from by decide) rfl rfl rfl rfl (Nat.le_of_ble_eq_true rfl) (fun cs1 r hq hk => ?_)
      rcases hq with ⟨rfl, rfl⟩
      refine X_goto (tgt := 59) dX3_takesPart_47 (by decide) ?_
      refine X_re (cs' := [(lw, ex_o 3 [ex_r w0, ex_i (nI sl), ex_r w2, ex_i (nI (adN wn)), ex_i (dp + 1), ex_i (op + 1), ex_r w6, ex_r w7]), (w0, ex_a 1 1000 sp), (w2, ex_a 1 40 (adW wt wn x))]) [0, 2, 1] (show List.Perm [0, 2, 1] (List.range 3) from by decide) rfl ?_
      exact X_vret dX3_takesPart_59 rfl (Or.inl ⟨(Or.inr c_2), (by rw [if_pos c_2]; try rfl), rfl⟩)

set_option maxHeartbeats 4000000 in
set_option maxRecDepth 100000 in
theorem e_X3_closes (l : Launch) (lw : Nat) (w0 : Nat) (w2 : Nat) (w6 : Nat) (w7 : Nat) (sl : Nat) (wn : Nat) (dp : Int32) (op : Int32) (sp : Nat → Int32) (wt : Nat → Int32) (hsl : sl ≤ 1000) (hwn : wn ≤ 40) : ex_M l yX3_closes cX3_closes 1 none 2 62 [ex_r lw] [(lw, ex_o 3 [ex_r w0, ex_i (nI sl), ex_r w2, ex_i (nI wn), ex_i dp, ex_i op, ex_r w6, ex_r w7]), (w0, ex_a 1 1000 sp), (w2, ex_a 1 40 wt)] (fun cs r => (∃ (sl2 : Nat), ∃ (sp2 : Nat → Int32), sl2 ≤ 1000 ∧ cs = [(lw, ex_o 3 [ex_r w0, ex_i (nI sl2), ex_r w2, ex_i (nI (setN wt (setJ wt 1 wn - 1) (dp - 1)).1), ex_i ((setN wt (setJ wt 1 wn - 1) (dp - 1)).2), ex_i (op - 1), ex_r w6, ex_r w7]), (w0, ex_a 1 1000 sp2), (w2, ex_a 1 40 wt)] ∧ r = none)) := by
  refine X_meth (by decide) (Nat.le_of_ble_eq_true rfl) ?_
  refine X_aload_n (j := 0) dX3_closes_0 rfl rfl ?_
  refine X_iconst (v := 0) dX3_closes_1 (by decide) ?_
  refine X_callV (j0 := 0) (rest := []) (stk := []) co_X3_61 rfl ⟨(Nat.le_of_ble_eq_true rfl), (Nat.le_of_ble_eq_true rfl)⟩ (e_X3_settleJoints l lw w0 w2 w6 w7 sl wn dp op sp wt 0 hsl hwn) dX3_closes_2 [0, 1, 2] (show List.Perm [0, 1, 2] (List.range 3) from by decide) rfl rfl rfl rfl (Nat.le_of_ble_eq_true rfl) (fun cs1 r hq hk => ?_)
  rcases hq with ⟨sl2_1, sp2_2, hp_3, rfl, rfl⟩
  have ew : setJ wt (if (1 : Int32) < 0 then 0 else 1) wn = setJ wt 1 wn := by rw [if_neg (by decide)]
  rw [ew]
  refine X_aload_n (j := 0) dX3_closes_5 rfl rfl ?_
  refine X_iconst (v := 0) dX3_closes_6 (by decide) ?_
  refine X_aload_n (j := 0) dX3_closes_7 rfl rfl ?_
  refine X_get (j := 0) fo_X3_22 dX3_closes_8 rfl rfl ?_
  refine X_iconst (v := 1) dX3_closes_11 (by decide) ?_
  refine X_isub (v := ((nI (setJ wt 1 wn)) - 1)) dX3_closes_12 rfl ?_
  refine X_mmax (v := (nI (setJ wt 1 wn - 1))) k_776 k_561 k_17 k_562 ⟨(Nat.le_of_ble_eq_true rfl), (Nat.le_of_ble_eq_true rfl)⟩ (Nat.le_of_ble_eq_true rfl) dX3_closes_13 (mx0 (by have := setJ_le (wt := wt) (lo := 1) wn; omega)) ?_
  refine X_put (j := 0) (cs' := [(lw, ex_o 3 [ex_r w0, ex_i (nI sl2_1), ex_r w2, ex_i (nI (setJ wt 1 wn - 1)), ex_i dp, ex_i op, ex_r w6, ex_r w7]), (w0, ex_a 1 1000 sp2_2), (w2, ex_a 1 40 wt)]) fo_X3_22 (by decide) dX3_closes_16 rfl (Nat.le_of_ble_eq_true rfl) trivial rfl ?_
  refine X_aload_n (j := 0) dX3_closes_19 rfl rfl ?_
  refine X_dup dX3_closes_20 rfl ?_
  refine X_get (j := 0) fo_X3_25 dX3_closes_21 rfl rfl ?_
  refine X_iconst (v := 1) dX3_closes_24 (by decide) ?_
  refine X_isub (v := (dp - 1)) dX3_closes_25 rfl ?_
  refine X_put (j := 0) (cs' := [(lw, ex_o 3 [ex_r w0, ex_i (nI sl2_1), ex_r w2, ex_i (nI (setJ wt 1 wn - 1)), ex_i (dp - 1), ex_i op, ex_r w6, ex_r w7]), (w0, ex_a 1 1000 sp2_2), (w2, ex_a 1 40 wt)]) fo_X3_25 (by decide) dX3_closes_26 rfl (Nat.le_of_ble_eq_true rfl) trivial rfl ?_
  refine X_aload_n (j := 0) dX3_closes_29 rfl rfl ?_
  refine X_dup dX3_closes_30 rfl ?_
  refine X_get (j := 0) fo_X3_28 dX3_closes_31 rfl rfl ?_
  refine X_iconst (v := 1) dX3_closes_34 (by decide) ?_
  refine X_isub (v := (op - 1)) dX3_closes_35 rfl ?_
  refine X_put (j := 0) (cs' := [(lw, ex_o 3 [ex_r w0, ex_i (nI sl2_1), ex_r w2, ex_i (nI (setJ wt 1 wn - 1)), ex_i (dp - 1), ex_i (op - 1), ex_r w6, ex_r w7]), (w0, ex_a 1 1000 sp2_2), (w2, ex_a 1 40 wt)]) fo_X3_28 (by decide) dX3_closes_36 rfl (Nat.le_of_ble_eq_true rfl) trivial rfl ?_
  refine X_aload_n (j := 0) dX3_closes_39 rfl rfl ?_
  refine X_callV (j0 := 0) (rest := []) (stk := []) co_X3_106 rfl ⟨(Nat.le_of_ble_eq_true rfl), (Nat.le_of_ble_eq_true rfl)⟩ (e_X3_settleNots l lw w0 w2 w6 w7 sl2_1 (setJ wt 1 wn - 1) (dp - 1) (op - 1) sp2_2 wt hp_3 (by have := setJ_le (wt := wt) (lo := 1) wn; omega)) dX3_closes_40 [0, 1, 2] (show List.Perm [0, 1, 2] (List.range 3) from by decide) rfl rfl rfl rfl (Nat.le_of_ble_eq_true rfl) (fun cs1 r hq hk => ?_)
  rcases hq with ⟨sl2_4, sp2_5, hp_6, rfl, rfl⟩
  exact X_vret dX3_closes_43 rfl (⟨sl2_4, sp2_5, hp_6, rfl, rfl⟩)

set_option maxHeartbeats 4000000 in
set_option maxRecDepth 100000 in
theorem e_X3_takesJoint (l : Launch) (lw : Nat) (w0 : Nat) (w2 : Nat) (w6 : Nat) (w7 : Nat) (sl : Nat) (wn : Nat) (dp : Int32) (op : Int32) (sp : Nat → Int32) (wt : Nat → Int32) (x : Int32) (hsl : sl ≤ 1000) (hwn : wn ≤ 40) : ex_M l yX3_takesJoint cX3_takesJoint 3 (some .boolean) 2 62 [ex_r lw, ex_i x] [(lw, ex_o 3 [ex_r w0, ex_i (nI sl), ex_r w2, ex_i (nI wn), ex_i dp, ex_i op, ex_r w6, ex_r w7]), (w0, ex_a 1 1000 sp), (w2, ex_a 1 40 wt)] (fun cs r => (∃ (sl2 : Nat), ∃ (sp2 : Nat → Int32), ¬ bnd3 x = 0 ∧ ¬ bnd3 x = 2 ∧ sl2 ≤ 1000 ∧ cs = [(lw, ex_o 3 [ex_r w0, ex_i (nI sl2), ex_r w2, ex_i (nI (adN (setJ wt (bnd3 x) wn))), ex_i dp, ex_i op, ex_r w6, ex_r w7]), (w0, ex_a 1 1000 sp2), (w2, ex_a 1 40 (adW wt (setJ wt (bnd3 x) wn) x))] ∧ r = some (ex_i 1)) ∨ (∃ (sl2 : Nat), ∃ (sp2 : Nat → Int32), bnd3 x = 2 ∧ ¬ bnd3 (lsW wt (setJ wt 3 wn)) = 2 ∧ sl2 ≤ 1000 ∧ cs = [(lw, ex_o 3 [ex_r w0, ex_i (nI sl2), ex_r w2, ex_i (nI (adN (setJ wt (bnd3 x) (setJ wt 3 wn)))), ex_i dp, ex_i op, ex_r w6, ex_r w7]), (w0, ex_a 1 1000 sp2), (w2, ex_a 1 40 (adW wt (setJ wt (bnd3 x) (setJ wt 3 wn)) x))] ∧ r = some (ex_i 1)) ∨ (∃ (sl2 : Nat), ∃ (sp2 : Nat → Int32), ∃ (wn2 : Nat), (bnd3 x = 0 ∨ (bnd3 x = 2 ∧ bnd3 (lsW wt (setJ wt 3 wn)) = 2)) ∧ (sl2 ≤ 1000 ∧ wn2 ≤ 40) ∧ cs = [(lw, ex_o 3 [ex_r w0, ex_i (nI sl2), ex_r w2, ex_i (nI wn2), ex_i dp, ex_i op, ex_r w6, ex_r w7]), (w0, ex_a 1 1000 sp2), (w2, ex_a 1 40 wt)] ∧ r = some (ex_i 0))) := by
  refine X_meth (by decide) (Nat.le_of_ble_eq_true rfl) ?_
  refine X_iload_n (j := 1) dX3_takesJoint_0 rfl rfl ?_
  refine X_callS (rest := [(lw, ex_o 3 [ex_r w0, ex_i (nI sl), ex_r w2, ex_i (nI wn), ex_i dp, ex_i op, ex_r w6, ex_r w7]), (w0, ex_a 1 1000 sp), (w2, ex_a 1 40 wt)]) (stk := []) co_X3_109 rfl ⟨(Nat.le_of_ble_eq_true rfl), (Nat.le_of_ble_eq_true rfl)⟩ (e_X3_bindingOf l x) dX3_takesJoint_1 [0, 1, 2] (show List.Perm [0, 1, 2] (List.range 3) from by decide) rfl rfl rfl (Nat.le_of_ble_eq_true rfl) (fun cs1 r hq hk => ?_)
  rcases hq with ⟨rfl, rfl⟩
  refine X_istore_n (lv' := [(2, ex_i (bnd3 x)), (0, ex_r lw), (1, ex_i x)]) dX3_takesJoint_4 rfl (Nat.le_of_ble_eq_true rfl) rfl ?_
  refine X_iload_n (j := 0) dX3_takesJoint_5 rfl rfl ?_
  refine X_if_ne (tgt := 11) dX3_takesJoint_6 (by decide) (fun c_1 => ?_) (fun c_1 => ?_)
  · have hb0 := c_1
    refine X_iload_n (j := 0) dX3_takesJoint_11 rfl rfl ?_
    refine X_iconst (v := 2) dX3_takesJoint_12 (by decide) ?_
    refine X_icmp_ne (tgt := 34) dX3_takesJoint_13 (by decide) (fun c_2 => ?_) (fun c_2 => ?_)
    · refine X_aload_n (j := 1) dX3_takesJoint_34 rfl rfl ?_
      refine X_iload_n (j := 0) dX3_takesJoint_35 rfl rfl ?_
      refine X_callV (j0 := 0) (rest := []) (stk := []) co_X3_61 rfl ⟨(Nat.le_of_ble_eq_true rfl), (Nat.le_of_ble_eq_true rfl)⟩ (e_X3_settleJoints l lw w0 w2 w6 w7 sl wn dp op sp wt (bnd3 x) hsl (by have q1 := setJ_le (wt := wt) (lo := 3) wn; have q2 := setJ_le (wt := wt) (lo := bnd3 x) wn; have q3 := setJ_le (wt := wt) (lo := bnd3 x) (setJ wt 3 wn); omega)) dX3_takesJoint_36 [0, 1, 2] (show List.Perm [0, 1, 2] (List.range 3) from by decide) rfl rfl rfl rfl (Nat.le_of_ble_eq_true rfl) (fun cs1 r hq hk => ?_)
      rcases hq with ⟨sl2_3, sp2_4, hp_5, rfl, rfl⟩
      have ew1 : setJ wt (if 1 < (bnd3 x) then (bnd3 x) else 1) wn = setJ wt (bnd3 x) wn := by rw [mx1 hb0]
      rw [ew1]
      refine X_aload_n (j := 1) dX3_takesJoint_39 rfl rfl ?_
      refine X_iload_n (j := 2) dX3_takesJoint_40 rfl rfl ?_
      refine X_callV (j0 := 0) (rest := [(w0, ex_a 1 1000 sp2_4)]) (stk := []) co_X3_103 rfl ⟨(Nat.le_of_ble_eq_true rfl), (Nat.le_of_ble_eq_true rfl)⟩ (e_X3_addWaiting l lw w0 w2 w6 w7 sl2_3 (setJ wt (bnd3 x) wn) dp op wt x (by have q1 := setJ_le (wt := wt) (lo := 3) wn; have q2 := setJ_le (wt := wt) (lo := bnd3 x) wn; have q3 := setJ_le (wt := wt) (lo := bnd3 x) (setJ wt 3 wn); omega)) dX3_takesJoint_41 [0, 2, 1] (show List.Perm [0, 2, 1] (List.range 3) from by decide) rfl rfl rfl rfl (Nat.le_of_ble_eq_true rfl) (fun cs1 r hq hk => ?_)
      rcases hq with ⟨rfl, rfl⟩
      refine X_iconst (v := 1) dX3_takesJoint_44 (by decide) ?_
      refine X_re (cs' := [(lw, ex_o 3 [ex_r w0, ex_i (nI sl2_3), ex_r w2, ex_i (nI (adN (setJ wt (bnd3 x) wn))), ex_i dp, ex_i op, ex_r w6, ex_r w7]), (w0, ex_a 1 1000 sp2_4), (w2, ex_a 1 40 (adW wt (setJ wt (bnd3 x) wn) x))]) [0, 2, 1] (show List.Perm [0, 2, 1] (List.range 3) from by decide) rfl ?_
      exact X_iret ex_nZ rfl dX3_takesJoint_45 rfl (Or.inl ⟨sl2_3, sp2_4, c_1, c_2, hp_5, rfl, rfl⟩)
    · refine X_aload_n (j := 1) dX3_takesJoint_16 rfl rfl ?_
      refine X_iconst (v := 3) dX3_takesJoint_17 (by decide) ?_
      refine X_callV (j0 := 0) (rest := []) (stk := []) co_X3_61 rfl ⟨(Nat.le_of_ble_eq_true rfl), (Nat.le_of_ble_eq_true rfl)⟩ (e_X3_settleJoints l lw w0 w2 w6 w7 sl wn dp op sp wt 3 hsl hwn) dX3_takesJoint_18 [0, 1, 2] (show List.Perm [0, 1, 2] (List.range 3) from by decide) rfl rfl rfl rfl (Nat.le_of_ble_eq_true rfl) (fun cs1 r hq hk => ?_)
      rcases hq with ⟨sl2_6, sp2_7, hp_8, rfl, rfl⟩
      have ew3 : setJ wt (if (1 : Int32) < 3 then 3 else 1) wn = setJ wt 3 wn := by rw [if_pos (by decide)]
      rw [ew3]
      refine X_aload_n (j := 1) dX3_takesJoint_21 rfl rfl ?_
      refine X_callV (j0 := 0) (rest := [(w0, ex_a 1 1000 sp2_7)]) (stk := []) co_X3_113 rfl ⟨(Nat.le_of_ble_eq_true rfl), (Nat.le_of_ble_eq_true rfl)⟩ (e_X3_lastWaiting l lw w0 w2 w6 w7 sl2_6 (setJ wt 3 wn) dp op wt (by have q1 := setJ_le (wt := wt) (lo := 3) wn; have q2 := setJ_le (wt := wt) (lo := bnd3 x) wn; have q3 := setJ_le (wt := wt) (lo := bnd3 x) (setJ wt 3 wn); omega)) dX3_takesJoint_22 [0, 2, 1] (show List.Perm [0, 2, 1] (List.range 3) from by decide) rfl rfl rfl rfl (Nat.le_of_ble_eq_true rfl) (fun cs1 r hq hk => ?_)
      rcases hq with ⟨rfl, rfl⟩
      refine X_callS (rest := [(lw, ex_o 3 [ex_r w0, ex_i (nI sl2_6), ex_r w2, ex_i (nI (setJ wt 3 wn)), ex_i dp, ex_i op, ex_r w6, ex_r w7]), (w2, ex_a 1 40 wt), (w0, ex_a 1 1000 sp2_7)]) (stk := []) co_X3_109 rfl ⟨(Nat.le_of_ble_eq_true rfl), (Nat.le_of_ble_eq_true rfl)⟩ (e_X3_bindingOf l (lsW wt (setJ wt 3 wn))) dX3_takesJoint_25 [0, 1, 2] (show List.Perm [0, 1, 2] (List.range 3) from by decide) rfl rfl rfl (Nat.le_of_ble_eq_true rfl) (fun cs1 r hq hk => ?_)
      rcases hq with ⟨rfl, rfl⟩
      refine X_iconst (v := 2) dX3_takesJoint_28 (by decide) ?_
      refine X_icmp_ne (tgt := 34) dX3_takesJoint_29 (by decide) (fun c_9 => ?_) (fun c_9 => ?_)
      · refine X_aload_n (j := 1) dX3_takesJoint_34 rfl rfl ?_
        refine X_iload_n (j := 0) dX3_takesJoint_35 rfl rfl ?_
        refine X_callV (j0 := 0) (rest := []) (stk := []) co_X3_61 rfl ⟨(Nat.le_of_ble_eq_true rfl), (Nat.le_of_ble_eq_true rfl)⟩ (e_X3_settleJoints l lw w0 w2 w6 w7 sl2_6 (setJ wt 3 wn) dp op sp2_7 wt (bnd3 x) hp_8 (by have q1 := setJ_le (wt := wt) (lo := 3) wn; have q2 := setJ_le (wt := wt) (lo := bnd3 x) wn; have q3 := setJ_le (wt := wt) (lo := bnd3 x) (setJ wt 3 wn); omega)) dX3_takesJoint_36 [0, 2, 1] (show List.Perm [0, 2, 1] (List.range 3) from by decide) rfl rfl rfl rfl (Nat.le_of_ble_eq_true rfl) (fun cs1 r hq hk => ?_)
        rcases hq with ⟨sl2_10, sp2_11, hp_12, rfl, rfl⟩
        have ew1 : setJ wt (if 1 < (bnd3 x) then (bnd3 x) else 1) (setJ wt 3 wn) = setJ wt (bnd3 x) (setJ wt 3 wn) := by rw [mx1 hb0]
        rw [ew1]
        refine X_aload_n (j := 1) dX3_takesJoint_39 rfl rfl ?_
        refine X_iload_n (j := 2) dX3_takesJoint_40 rfl rfl ?_
        refine X_callV (j0 := 0) (rest := [(w0, ex_a 1 1000 sp2_11)]) (stk := []) co_X3_103 rfl ⟨(Nat.le_of_ble_eq_true rfl), (Nat.le_of_ble_eq_true rfl)⟩ (e_X3_addWaiting l lw w0 w2 w6 w7 sl2_10 (setJ wt (bnd3 x) (setJ wt 3 wn)) dp op wt x (by have q1 := setJ_le (wt := wt) (lo := 3) wn; have q2 := setJ_le (wt := wt) (lo := bnd3 x) wn; have q3 := setJ_le (wt := wt) (lo := bnd3 x) (setJ wt 3 wn); omega)) dX3_takesJoint_41 [0, 2, 1] (show List.Perm [0, 2, 1] (List.range 3) from by decide) rfl rfl rfl rfl (Nat.le_of_ble_eq_true rfl) (fun cs1 r hq hk => ?_)
        rcases hq with ⟨rfl, rfl⟩
        refine X_iconst (v := 1) dX3_takesJoint_44 (by decide) ?_
        refine X_re (cs' := [(lw, ex_o 3 [ex_r w0, ex_i (nI sl2_10), ex_r w2, ex_i (nI (adN (setJ wt (bnd3 x) (setJ wt 3 wn)))), ex_i dp, ex_i op, ex_r w6, ex_r w7]), (w0, ex_a 1 1000 sp2_11), (w2, ex_a 1 40 (adW wt (setJ wt (bnd3 x) (setJ wt 3 wn)) x))]) [0, 2, 1] (show List.Perm [0, 2, 1] (List.range 3) from by decide) rfl ?_
        exact X_iret ex_nZ rfl dX3_takesJoint_45 rfl (Or.inr (Or.inl ⟨sl2_10, sp2_11, c_2, c_9, hp_12, rfl, rfl⟩))
      · refine X_iconst (v := 0) dX3_takesJoint_32 (by decide) ?_
        refine X_re (cs' := [(lw, ex_o 3 [ex_r w0, ex_i (nI sl2_6), ex_r w2, ex_i (nI (setJ wt 3 wn)), ex_i dp, ex_i op, ex_r w6, ex_r w7]), (w0, ex_a 1 1000 sp2_7), (w2, ex_a 1 40 wt)]) [0, 2, 1] (show List.Perm [0, 2, 1] (List.range 3) from by decide) rfl ?_
        exact X_iret ex_nZ rfl dX3_takesJoint_33 rfl (Or.inr (Or.inr ⟨sl2_6, sp2_7, (setJ wt 3 wn), (Or.inr ⟨c_2, c_9⟩), ⟨hp_8, (by have q1 := setJ_le (wt := wt) (lo := 3) wn; have q2 := setJ_le (wt := wt) (lo := bnd3 x) wn; have q3 := setJ_le (wt := wt) (lo := bnd3 x) (setJ wt 3 wn); omega)⟩, rfl, rfl⟩))
  · refine X_iconst (v := 0) dX3_takesJoint_9 (by decide) ?_
    exact X_iret ex_nZ rfl dX3_takesJoint_10 rfl (Or.inr (Or.inr ⟨sl, sp, wn, (Or.inl c_1), ⟨hsl, hwn⟩, rfl, rfl⟩))

set_option maxHeartbeats 4000000 in
set_option maxRecDepth 100000 in
theorem e_X3_partOn (l : Launch) (t : Nat) (g : Nat) (L : Nat) (n : Nat) (fa : Int32) (nu1 : Int32) (sg1 : Int32) (wo1 : Int64) (f : Nat → Int32) (i1 : tK f L n = 1 → wo1 = tW f L n) (i2 : tK f L n = 2 → nu1 = tV f L n) (i3 : tK f L n = 3 → sg1 = f (tP f L n)) : ex_M l yX3_partOn cX3_partOn 1 (some .int) 5 109 [ex_r t] [(t, ex_o 9 [ex_r g, ex_i (nI L), ex_i fa, ex_i (tK f L n), ex_i nu1, ex_i sg1, ex_j wo1, ex_i (nI (tN f L n)), ex_i (nI (tP f L n))])] (fun cs r => (cs = [(t, ex_o 9 [ex_r g, ex_i (nI L), ex_i fa, ex_i (tK f L n), ex_i nu1, ex_i sg1, ex_j wo1, ex_i (nI (tN f L n)), ex_i (nI (tP f L n))])] ∧ r = some (ex_i (pt f L n)))) := by
  refine X_meth (by decide) (Nat.le_of_ble_eq_true rfl) ?_
  refine X_aload_n (j := 0) dX3_partOn_0 rfl rfl ?_
  refine X_get (j := 0) fo_X3_73 dX3_partOn_1 rfl rfl ?_
  refine X_iconst (v := 2) dX3_partOn_4 (by decide) ?_
  refine X_icmp_ne (tgt := 13) dX3_partOn_5 (by decide) (fun c_1 => ?_) (fun c_1 => ?_)
  · refine X_aload_n (j := 0) dX3_partOn_13 rfl rfl ?_
    refine X_bipush (v := 40) dX3_partOn_14 (by decide) ?_
    refine X_callV (j0 := 0) (rest := []) (stk := []) co_X3_57 rfl ⟨(Nat.le_of_ble_eq_true rfl), (Nat.le_of_ble_eq_true rfl)⟩ (e_X9_isSign l t g L fa (tK f L n) nu1 sg1 wo1 (nI (tN f L n)) (nI (tP f L n)) 40) dX3_partOn_16 [0] (show List.Perm [0] (List.range 1) from by decide) rfl rfl rfl rfl (Nat.le_of_ble_eq_true rfl) (fun cs1 r hq hk => ?_)
    rcases hq with ⟨hp_2, rfl, rfl⟩ | ⟨hp_3, rfl, rfl⟩
    · refine X_if_eq (tgt := 25) dX3_partOn_19 (by decide) (fun c_ => absurd c_ (by decide)) (fun _ => ?_)
      refine X_bipush (v := (-14)) dX3_partOn_22 (by decide) ?_
      exact X_iret ex_nI rfl dX3_partOn_24 rfl (⟨rfl, (by rw [show pt f L n = (-14) by unfold pt; rw [if_neg c_1, if_pos ⟨hp_2.1, by rw [← i3 hp_2.1]; exact hp_2.2⟩]])⟩)
    · refine X_if_eq (tgt := 25) dX3_partOn_19 (by decide) (fun _ => ?_) (fun c_ => absurd rfl c_)
      refine X_aload_n (j := 0) dX3_partOn_25 rfl rfl ?_
      refine X_lds (k := 21) (key := 10021) rfl rfl rfl rfl dX3_partOn_26 ?_
      refine X_callV (j0 := 0) (rest := []) (stk := []) co_X3_81 rfl ⟨(Nat.le_of_ble_eq_true rfl), (Nat.le_of_ble_eq_true rfl)⟩ (e_X9_isWord l t g L fa (tK f L n) nu1 sg1 wo1 (nI (tN f L n)) (nI (tP f L n)) 21 (zl 21) rfl) dX3_partOn_28 [0] (show List.Perm [0] (List.range 1) from by decide) rfl rfl rfl rfl (Nat.le_of_ble_eq_true rfl) (fun cs1 r hq hk => ?_)
      rcases hq with ⟨hp_4, rfl, rfl⟩ | ⟨hp_5, rfl, rfl⟩
      · refine X_if_eq (tgt := 37) dX3_partOn_31 (by decide) (fun c_ => absurd c_ (by decide)) (fun _ => ?_)
        refine X_bipush (v := (-6)) dX3_partOn_34 (by decide) ?_
        exact X_iret ex_nI rfl dX3_partOn_36 rfl (⟨rfl, (by rw [show pt f L n = (-6) by unfold pt; rw [if_neg c_1, if_neg (fun q => hp_3 ⟨q.1, by rw [i3 q.1]; exact q.2⟩), if_pos ⟨hp_4.1, by rw [← i1 hp_4.1]; exact hp_4.2⟩]])⟩)
      · refine X_if_eq (tgt := 37) dX3_partOn_31 (by decide) (fun _ => ?_) (fun c_ => absurd rfl c_)
        refine X_aload_n (j := 0) dX3_partOn_37 rfl rfl ?_
        refine X_lds (k := 22) (key := 10022) rfl rfl rfl rfl dX3_partOn_38 ?_
        refine X_callV (j0 := 0) (rest := []) (stk := []) co_X3_81 rfl ⟨(Nat.le_of_ble_eq_true rfl), (Nat.le_of_ble_eq_true rfl)⟩ (e_X9_isWord l t g L fa (tK f L n) nu1 sg1 wo1 (nI (tN f L n)) (nI (tP f L n)) 22 (zl 22) rfl) dX3_partOn_40 [0] (show List.Perm [0] (List.range 1) from by decide) rfl rfl rfl rfl (Nat.le_of_ble_eq_true rfl) (fun cs1 r hq hk => ?_)
        rcases hq with ⟨hp_6, rfl, rfl⟩ | ⟨hp_7, rfl, rfl⟩
        · refine X_if_eq (tgt := 48) dX3_partOn_43 (by decide) (fun c_ => absurd c_ (by decide)) (fun _ => ?_)
          refine X_iconst (v := (-1)) dX3_partOn_46 (by decide) ?_
          exact X_iret ex_nI rfl dX3_partOn_47 rfl (⟨rfl, (by rw [show pt f L n = (-1) by unfold pt; rw [if_neg c_1, if_neg (fun q => hp_3 ⟨q.1, by rw [i3 q.1]; exact q.2⟩), if_neg (fun q => hp_5 ⟨q.1, by rw [i1 q.1]; exact q.2⟩), if_pos ⟨hp_6.1, by rw [← i1 hp_6.1]; exact hp_6.2⟩]])⟩)
        · refine X_if_eq (tgt := 48) dX3_partOn_43 (by decide) (fun _ => ?_) (fun c_ => absurd rfl c_)
          refine X_aload_n (j := 0) dX3_partOn_48 rfl rfl ?_
          refine X_lds (k := 23) (key := 10023) rfl rfl rfl rfl dX3_partOn_49 ?_
          refine X_callV (j0 := 0) (rest := []) (stk := []) co_X3_81 rfl ⟨(Nat.le_of_ble_eq_true rfl), (Nat.le_of_ble_eq_true rfl)⟩ (e_X9_isWord l t g L fa (tK f L n) nu1 sg1 wo1 (nI (tN f L n)) (nI (tP f L n)) 23 (zl 23) rfl) dX3_partOn_51 [0] (show List.Perm [0] (List.range 1) from by decide) rfl rfl rfl rfl (Nat.le_of_ble_eq_true rfl) (fun cs1 r hq hk => ?_)
          rcases hq with ⟨hp_8, rfl, rfl⟩ | ⟨hp_9, rfl, rfl⟩
          · refine X_if_eq (tgt := 60) dX3_partOn_54 (by decide) (fun c_ => absurd c_ (by decide)) (fun _ => ?_)
            refine X_bipush (v := (-2)) dX3_partOn_57 (by decide) ?_
            exact X_iret ex_nI rfl dX3_partOn_59 rfl (⟨rfl, (by rw [show pt f L n = (-2) by unfold pt; rw [if_neg c_1, if_neg (fun q => hp_3 ⟨q.1, by rw [i3 q.1]; exact q.2⟩), if_neg (fun q => hp_5 ⟨q.1, by rw [i1 q.1]; exact q.2⟩), if_neg (fun q => hp_7 ⟨q.1, by rw [i1 q.1]; exact q.2⟩), if_pos ⟨hp_8.1, by rw [← i1 hp_8.1]; exact hp_8.2⟩]])⟩)
          · refine X_if_eq (tgt := 60) dX3_partOn_54 (by decide) (fun _ => ?_) (fun c_ => absurd rfl c_)
            refine X_aload_n (j := 0) dX3_partOn_60 rfl rfl ?_
            refine X_lds (k := 24) (key := 10024) rfl rfl rfl rfl dX3_partOn_61 ?_
            refine X_callV (j0 := 0) (rest := []) (stk := []) co_X3_81 rfl ⟨(Nat.le_of_ble_eq_true rfl), (Nat.le_of_ble_eq_true rfl)⟩ (e_X9_isWord l t g L fa (tK f L n) nu1 sg1 wo1 (nI (tN f L n)) (nI (tP f L n)) 24 (zl 24) rfl) dX3_partOn_63 [0] (show List.Perm [0] (List.range 1) from by decide) rfl rfl rfl rfl (Nat.le_of_ble_eq_true rfl) (fun cs1 r hq hk => ?_)
            rcases hq with ⟨hp_10, rfl, rfl⟩ | ⟨hp_11, rfl, rfl⟩
            · refine X_if_eq (tgt := 72) dX3_partOn_66 (by decide) (fun c_ => absurd c_ (by decide)) (fun _ => ?_)
              refine X_bipush (v := (-3)) dX3_partOn_69 (by decide) ?_
              exact X_iret ex_nI rfl dX3_partOn_71 rfl (⟨rfl, (by rw [show pt f L n = (-3) by unfold pt; rw [if_neg c_1, if_neg (fun q => hp_3 ⟨q.1, by rw [i3 q.1]; exact q.2⟩), if_neg (fun q => hp_5 ⟨q.1, by rw [i1 q.1]; exact q.2⟩), if_neg (fun q => hp_7 ⟨q.1, by rw [i1 q.1]; exact q.2⟩), if_neg (fun q => hp_9 ⟨q.1, by rw [i1 q.1]; exact q.2⟩), if_pos ⟨hp_10.1, by rw [← i1 hp_10.1]; exact hp_10.2⟩]])⟩)
            · refine X_if_eq (tgt := 72) dX3_partOn_66 (by decide) (fun _ => ?_) (fun c_ => absurd rfl c_)
              refine X_aload_n (j := 0) dX3_partOn_72 rfl rfl ?_
              refine X_lds (k := 25) (key := 10025) rfl rfl rfl rfl dX3_partOn_73 ?_
              refine X_callV (j0 := 0) (rest := []) (stk := []) co_X3_81 rfl ⟨(Nat.le_of_ble_eq_true rfl), (Nat.le_of_ble_eq_true rfl)⟩ (e_X9_isWord l t g L fa (tK f L n) nu1 sg1 wo1 (nI (tN f L n)) (nI (tP f L n)) 25 (zl 25) rfl) dX3_partOn_75 [0] (show List.Perm [0] (List.range 1) from by decide) rfl rfl rfl rfl (Nat.le_of_ble_eq_true rfl) (fun cs1 r hq hk => ?_)
              rcases hq with ⟨hp_12, rfl, rfl⟩ | ⟨hp_13, rfl, rfl⟩
              · refine X_if_eq (tgt := 84) dX3_partOn_78 (by decide) (fun c_ => absurd c_ (by decide)) (fun _ => ?_)
                refine X_bipush (v := (-4)) dX3_partOn_81 (by decide) ?_
                exact X_iret ex_nI rfl dX3_partOn_83 rfl (⟨rfl, (by rw [show pt f L n = (-4) by unfold pt; rw [if_neg c_1, if_neg (fun q => hp_3 ⟨q.1, by rw [i3 q.1]; exact q.2⟩), if_neg (fun q => hp_5 ⟨q.1, by rw [i1 q.1]; exact q.2⟩), if_neg (fun q => hp_7 ⟨q.1, by rw [i1 q.1]; exact q.2⟩), if_neg (fun q => hp_9 ⟨q.1, by rw [i1 q.1]; exact q.2⟩), if_neg (fun q => hp_11 ⟨q.1, by rw [i1 q.1]; exact q.2⟩), if_pos ⟨hp_12.1, by rw [← i1 hp_12.1]; exact hp_12.2⟩]])⟩)
              · refine X_if_eq (tgt := 84) dX3_partOn_78 (by decide) (fun _ => ?_) (fun c_ => absurd rfl c_)
                refine X_aload_n (j := 0) dX3_partOn_84 rfl rfl ?_
                refine X_lds (k := 26) (key := 10026) rfl rfl rfl rfl dX3_partOn_85 ?_
                refine X_callV (j0 := 0) (rest := []) (stk := []) co_X3_81 rfl ⟨(Nat.le_of_ble_eq_true rfl), (Nat.le_of_ble_eq_true rfl)⟩ (e_X9_isWord l t g L fa (tK f L n) nu1 sg1 wo1 (nI (tN f L n)) (nI (tP f L n)) 26 (zl 26) rfl) dX3_partOn_87 [0] (show List.Perm [0] (List.range 1) from by decide) rfl rfl rfl rfl (Nat.le_of_ble_eq_true rfl) (fun cs1 r hq hk => ?_)
                rcases hq with ⟨hp_14, rfl, rfl⟩ | ⟨hp_15, rfl, rfl⟩
                · refine X_if_eq (tgt := 98) dX3_partOn_90 (by decide) (fun c_ => absurd c_ (by decide)) (fun _ => ?_)
                  refine X_bipush (v := (-5)) dX3_partOn_93 (by decide) ?_
                  refine X_goto (tgt := 100) dX3_partOn_95 (by decide) ?_
                  exact X_iret ex_nI rfl dX3_partOn_100 rfl (⟨rfl, (by rw [show pt f L n = (-5) by unfold pt; rw [if_neg c_1, if_neg (fun q => hp_3 ⟨q.1, by rw [i3 q.1]; exact q.2⟩), if_neg (fun q => hp_5 ⟨q.1, by rw [i1 q.1]; exact q.2⟩), if_neg (fun q => hp_7 ⟨q.1, by rw [i1 q.1]; exact q.2⟩), if_neg (fun q => hp_9 ⟨q.1, by rw [i1 q.1]; exact q.2⟩), if_neg (fun q => hp_11 ⟨q.1, by rw [i1 q.1]; exact q.2⟩), if_neg (fun q => hp_13 ⟨q.1, by rw [i1 q.1]; exact q.2⟩), if_pos ⟨hp_14.1, by rw [← i1 hp_14.1]; exact hp_14.2⟩]])⟩)
                · refine X_if_eq (tgt := 98) dX3_partOn_90 (by decide) (fun _ => ?_) (fun c_ => absurd rfl c_)
                  refine X_bipush (v := (-15)) dX3_partOn_98 (by decide) ?_
                  exact X_iret ex_nI rfl dX3_partOn_100 rfl (⟨rfl, (by rw [show pt f L n = (-15) by unfold pt; rw [if_neg c_1, if_neg (fun q => hp_3 ⟨q.1, by rw [i3 q.1]; exact q.2⟩), if_neg (fun q => hp_5 ⟨q.1, by rw [i1 q.1]; exact q.2⟩), if_neg (fun q => hp_7 ⟨q.1, by rw [i1 q.1]; exact q.2⟩), if_neg (fun q => hp_9 ⟨q.1, by rw [i1 q.1]; exact q.2⟩), if_neg (fun q => hp_11 ⟨q.1, by rw [i1 q.1]; exact q.2⟩), if_neg (fun q => hp_13 ⟨q.1, by rw [i1 q.1]; exact q.2⟩), if_neg (fun q => hp_15 ⟨q.1, by rw [i1 q.1]; exact q.2⟩)]])⟩)
  · refine X_aload_n (j := 0) dX3_partOn_8 rfl rfl ?_
    refine X_get (j := 0) fo_X3_76 dX3_partOn_9 rfl rfl ?_
    exact X_iret ex_nI rfl dX3_partOn_12 rfl (⟨rfl, (by rw [show pt f L n = nu1 by unfold pt; rw [if_pos c_1, ← i2 c_1]])⟩)

set_option maxHeartbeats 4000000 in
set_option maxRecDepth 100000 in
theorem e_X3_jointOn (l : Launch) (t : Nat) (g : Nat) (L : Nat) (n : Nat) (fa : Int32) (nu1 : Int32) (sg1 : Int32) (wo1 : Int64) (f : Nat → Int32) (i1 : tK f L n = 1 → wo1 = tW f L n) (i2 : tK f L n = 2 → nu1 = tV f L n) (i3 : tK f L n = 3 → sg1 = f (tP f L n)) : ex_M l yX3_jointOn cX3_jointOn 1 (some .int) 5 109 [ex_r t] [(t, ex_o 9 [ex_r g, ex_i (nI L), ex_i fa, ex_i (tK f L n), ex_i nu1, ex_i sg1, ex_j wo1, ex_i (nI (tN f L n)), ex_i (nI (tP f L n))])] (fun cs r => (cs = [(t, ex_o 9 [ex_r g, ex_i (nI L), ex_i fa, ex_i (tK f L n), ex_i nu1, ex_i sg1, ex_j wo1, ex_i (nI (tN f L n)), ex_i (nI (tP f L n))])] ∧ r = some (ex_i (jt f L n)))) := by
  refine X_meth (by decide) (Nat.le_of_ble_eq_true rfl) ?_
  refine X_aload_n (j := 0) dX3_jointOn_0 rfl rfl ?_
  refine X_lds (k := 27) (key := 10027) rfl rfl rfl rfl dX3_jointOn_1 ?_
  refine X_callV (j0 := 0) (rest := []) (stk := []) co_X3_81 rfl ⟨(Nat.le_of_ble_eq_true rfl), (Nat.le_of_ble_eq_true rfl)⟩ (e_X9_isWord l t g L fa (tK f L n) nu1 sg1 wo1 (nI (tN f L n)) (nI (tP f L n)) 27 (zl 27) rfl) dX3_jointOn_3 [0] (show List.Perm [0] (List.range 1) from by decide) rfl rfl rfl rfl (Nat.le_of_ble_eq_true rfl) (fun cs1 r hq hk => ?_)
  rcases hq with ⟨hp_1, rfl, rfl⟩ | ⟨hp_2, rfl, rfl⟩
  · refine X_if_eq (tgt := 12) dX3_jointOn_6 (by decide) (fun c_ => absurd c_ (by decide)) (fun _ => ?_)
    refine X_bipush (v := (-12)) dX3_jointOn_9 (by decide) ?_
    exact X_iret ex_nI rfl dX3_jointOn_11 rfl (⟨rfl, (by rw [show jt f L n = (-12) by unfold jt; rw [if_pos ⟨hp_1.1, by rw [← i1 hp_1.1]; exact hp_1.2⟩]])⟩)
  · refine X_if_eq (tgt := 12) dX3_jointOn_6 (by decide) (fun _ => ?_) (fun c_ => absurd rfl c_)
    refine X_aload_n (j := 0) dX3_jointOn_12 rfl rfl ?_
    refine X_lds (k := 28) (key := 10028) rfl rfl rfl rfl dX3_jointOn_13 ?_
    refine X_callV (j0 := 0) (rest := []) (stk := []) co_X3_81 rfl ⟨(Nat.le_of_ble_eq_true rfl), (Nat.le_of_ble_eq_true rfl)⟩ (e_X9_isWord l t g L fa (tK f L n) nu1 sg1 wo1 (nI (tN f L n)) (nI (tP f L n)) 28 (zl 28) rfl) dX3_jointOn_15 [0] (show List.Perm [0] (List.range 1) from by decide) rfl rfl rfl rfl (Nat.le_of_ble_eq_true rfl) (fun cs1 r hq hk => ?_)
    rcases hq with ⟨hp_3, rfl, rfl⟩ | ⟨hp_4, rfl, rfl⟩
    · refine X_if_eq (tgt := 24) dX3_jointOn_18 (by decide) (fun c_ => absurd c_ (by decide)) (fun _ => ?_)
      refine X_bipush (v := (-13)) dX3_jointOn_21 (by decide) ?_
      exact X_iret ex_nI rfl dX3_jointOn_23 rfl (⟨rfl, (by rw [show jt f L n = (-13) by unfold jt; rw [if_neg (fun q => hp_2 ⟨q.1, by rw [i1 q.1]; exact q.2⟩), if_pos ⟨hp_3.1, by rw [← i1 hp_3.1]; exact hp_3.2⟩]])⟩)
    · refine X_if_eq (tgt := 24) dX3_jointOn_18 (by decide) (fun _ => ?_) (fun c_ => absurd rfl c_)
      refine X_aload_n (j := 0) dX3_jointOn_24 rfl rfl ?_
      refine X_get (j := 0) fo_X3_73 dX3_jointOn_25 rfl rfl ?_
      refine X_iconst (v := 3) dX3_jointOn_28 (by decide) ?_
      refine X_icmp_eq (tgt := 35) dX3_jointOn_29 (by decide) (fun c_5 => ?_) (fun c_5 => ?_)
      · refine X_aload_n (j := 0) dX3_jointOn_35 rfl rfl ?_
        refine X_get (j := 0) fo_X3_99 dX3_jointOn_36 rfl rfl ?_
        by_cases hw_6 : sg1 = 42
        · refine X_look (off := 61) (tgt := 100) dX3_jointOn_39 (by decide) (by rw [hw_6]; decide) (by decide) ?_
          refine X_bipush (v := (-7)) dX3_jointOn_100 (by decide) ?_
          exact X_iret ex_nI rfl dX3_jointOn_102 rfl (⟨rfl, (by rw [show jt f L n = (-7) by unfold jt; rw [if_neg (fun q => hp_2 ⟨q.1, by rw [i1 q.1]; exact q.2⟩), if_neg (fun q => hp_4 ⟨q.1, by rw [i1 q.1]; exact q.2⟩), if_pos c_5, ← i3 c_5]; unfold sgj; rw [if_pos hw_6]])⟩)
        by_cases hw_7 : sg1 = 43
        · refine X_look (off := 55) (tgt := 94) dX3_jointOn_39 (by decide) (by rw [hw_7]; decide) (by decide) ?_
          refine X_bipush (v := (-8)) dX3_jointOn_94 (by decide) ?_
          exact X_iret ex_nI rfl dX3_jointOn_96 rfl (⟨rfl, (by rw [show jt f L n = (-8) by unfold jt; rw [if_neg (fun q => hp_2 ⟨q.1, by rw [i1 q.1]; exact q.2⟩), if_neg (fun q => hp_4 ⟨q.1, by rw [i1 q.1]; exact q.2⟩), if_pos c_5, ← i3 c_5]; unfold sgj; rw [if_neg hw_6, if_pos hw_7]])⟩)
        by_cases hw_8 : sg1 = 45
        · refine X_look (off := 58) (tgt := 97) dX3_jointOn_39 (by decide) (by rw [hw_8]; decide) (by decide) ?_
          refine X_bipush (v := (-9)) dX3_jointOn_97 (by decide) ?_
          exact X_iret ex_nI rfl dX3_jointOn_99 rfl (⟨rfl, (by rw [show jt f L n = (-9) by unfold jt; rw [if_neg (fun q => hp_2 ⟨q.1, by rw [i1 q.1]; exact q.2⟩), if_neg (fun q => hp_4 ⟨q.1, by rw [i1 q.1]; exact q.2⟩), if_pos c_5, ← i3 c_5]; unfold sgj; rw [if_neg hw_6, if_neg hw_7, if_pos hw_8]])⟩)
        by_cases hw_9 : sg1 = 60
        · refine X_look (off := 49) (tgt := 88) dX3_jointOn_39 (by decide) (by rw [hw_9]; decide) (by decide) ?_
          refine X_bipush (v := (-10)) dX3_jointOn_88 (by decide) ?_
          exact X_iret ex_nI rfl dX3_jointOn_90 rfl (⟨rfl, (by rw [show jt f L n = (-10) by unfold jt; rw [if_neg (fun q => hp_2 ⟨q.1, by rw [i1 q.1]; exact q.2⟩), if_neg (fun q => hp_4 ⟨q.1, by rw [i1 q.1]; exact q.2⟩), if_pos c_5, ← i3 c_5]; unfold sgj; rw [if_neg hw_6, if_neg hw_7, if_neg hw_8, if_pos hw_9]])⟩)
        by_cases hw_10 : sg1 = 61
        · refine X_look (off := 52) (tgt := 91) dX3_jointOn_39 (by decide) (by rw [hw_10]; decide) (by decide) ?_
          refine X_bipush (v := (-11)) dX3_jointOn_91 (by decide) ?_
          exact X_iret ex_nI rfl dX3_jointOn_93 rfl (⟨rfl, (by rw [show jt f L n = (-11) by unfold jt; rw [if_neg (fun q => hp_2 ⟨q.1, by rw [i1 q.1]; exact q.2⟩), if_neg (fun q => hp_4 ⟨q.1, by rw [i1 q.1]; exact q.2⟩), if_pos c_5, ← i3 c_5]; unfold sgj; rw [if_neg hw_6, if_neg hw_7, if_neg hw_8, if_neg hw_9, if_pos hw_10]])⟩)
        refine X_look (off := 64) (tgt := 103) dX3_jointOn_39 (by decide) (lk_out (by intro q hq; simp only [List.mem_cons, List.not_mem_nil, or_false] at hq; rcases hq with rfl | rfl | rfl | rfl | rfl <;> intro e <;> first | exact hw_6 (Int32.toInt_inj.mp (e.symm.trans (by decide))) | exact hw_7 (Int32.toInt_inj.mp (e.symm.trans (by decide))) | exact hw_8 (Int32.toInt_inj.mp (e.symm.trans (by decide))) | exact hw_9 (Int32.toInt_inj.mp (e.symm.trans (by decide))) | exact hw_10 (Int32.toInt_inj.mp (e.symm.trans (by decide))))) (by decide) ?_
        refine X_bipush (v := (-15)) dX3_jointOn_103 (by decide) ?_
        exact X_iret ex_nI rfl dX3_jointOn_105 rfl (⟨rfl, (by rw [show jt f L n = (-15) by unfold jt; rw [if_neg (fun q => hp_2 ⟨q.1, by rw [i1 q.1]; exact q.2⟩), if_neg (fun q => hp_4 ⟨q.1, by rw [i1 q.1]; exact q.2⟩), if_pos c_5, ← i3 c_5]; unfold sgj; rw [if_neg hw_6, if_neg hw_7, if_neg hw_8, if_neg hw_9, if_neg hw_10]])⟩)
      · refine X_bipush (v := (-15)) dX3_jointOn_32 (by decide) ?_
        exact X_iret ex_nI rfl dX3_jointOn_34 rfl (⟨rfl, (by rw [show jt f L n = (-15) by unfold jt; rw [if_neg (fun q => hp_2 ⟨q.1, by rw [i1 q.1]; exact q.2⟩), if_neg (fun q => hp_4 ⟨q.1, by rw [i1 q.1]; exact q.2⟩), if_neg c_5]])⟩)
