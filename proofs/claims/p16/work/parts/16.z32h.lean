set_option maxHeartbeats 4000000 in
set_option maxRecDepth 100000 in
theorem e_X3_bindingOf (l : Launch) (v : Int32) : ex_M l yX3_bindingOf cX3_bindingOf 1 (some .int) 0 0 [ex_i v] [] (fun cs r => (cs = [] ∧ r = some (ex_i (bnd3 v)))) := by
  refine X_meth (by decide) (Nat.le_of_ble_eq_true rfl) ?_
  refine X_iload_n (j := 0) dX3_bindingOf_0 rfl rfl ?_
  by_cases hw_1 : v = (-13)
  · refine X_tabIn (off := 43) (tgt := 44) dX3_bindingOf_1 (by rw [hw_1]; decide) (by rw [hw_1]; decide) (by rw [hw_1]; decide) (by decide) ?_
    refine X_iconst (v := 1) dX3_bindingOf_44 (by decide) ?_
    exact X_iret ex_nI rfl dX3_bindingOf_45 rfl (⟨rfl, (by unfold bnd3; rw [if_pos hw_1])⟩)
  by_cases hw_2 : v = (-12)
  · refine X_tabIn (off := 43) (tgt := 44) dX3_bindingOf_1 (by rw [hw_2]; decide) (by rw [hw_2]; decide) (by rw [hw_2]; decide) (by decide) ?_
    refine X_iconst (v := 1) dX3_bindingOf_44 (by decide) ?_
    exact X_iret ex_nI rfl dX3_bindingOf_45 rfl (⟨rfl, (by unfold bnd3; rw [if_neg hw_1, if_pos hw_2])⟩)
  by_cases hw_3 : v = (-11)
  · refine X_tabIn (off := 45) (tgt := 46) dX3_bindingOf_1 (by rw [hw_3]; decide) (by rw [hw_3]; decide) (by rw [hw_3]; decide) (by decide) ?_
    refine X_iconst (v := 2) dX3_bindingOf_46 (by decide) ?_
    exact X_iret ex_nI rfl dX3_bindingOf_47 rfl (⟨rfl, (by unfold bnd3; rw [if_neg hw_1, if_neg hw_2, if_pos hw_3])⟩)
  by_cases hw_4 : v = (-10)
  · refine X_tabIn (off := 45) (tgt := 46) dX3_bindingOf_1 (by rw [hw_4]; decide) (by rw [hw_4]; decide) (by rw [hw_4]; decide) (by decide) ?_
    refine X_iconst (v := 2) dX3_bindingOf_46 (by decide) ?_
    exact X_iret ex_nI rfl dX3_bindingOf_47 rfl (⟨rfl, (by unfold bnd3; rw [if_neg hw_1, if_neg hw_2, if_neg hw_3, if_pos hw_4])⟩)
  by_cases hw_5 : v = (-9)
  · refine X_tabIn (off := 47) (tgt := 48) dX3_bindingOf_1 (by rw [hw_5]; decide) (by rw [hw_5]; decide) (by rw [hw_5]; decide) (by decide) ?_
    refine X_iconst (v := 3) dX3_bindingOf_48 (by decide) ?_
    exact X_iret ex_nI rfl dX3_bindingOf_49 rfl (⟨rfl, (by unfold bnd3; rw [if_neg hw_1, if_neg hw_2, if_neg hw_3, if_neg hw_4, if_pos hw_5])⟩)
  by_cases hw_6 : v = (-8)
  · refine X_tabIn (off := 47) (tgt := 48) dX3_bindingOf_1 (by rw [hw_6]; decide) (by rw [hw_6]; decide) (by rw [hw_6]; decide) (by decide) ?_
    refine X_iconst (v := 3) dX3_bindingOf_48 (by decide) ?_
    exact X_iret ex_nI rfl dX3_bindingOf_49 rfl (⟨rfl, (by unfold bnd3; rw [if_neg hw_1, if_neg hw_2, if_neg hw_3, if_neg hw_4, if_neg hw_5, if_pos hw_6])⟩)
  by_cases hw_7 : v = (-7)
  · refine X_tabIn (off := 49) (tgt := 50) dX3_bindingOf_1 (by rw [hw_7]; decide) (by rw [hw_7]; decide) (by rw [hw_7]; decide) (by decide) ?_
    refine X_iconst (v := 4) dX3_bindingOf_50 (by decide) ?_
    exact X_iret ex_nI rfl dX3_bindingOf_51 rfl (⟨rfl, (by unfold bnd3; rw [if_neg hw_1, if_neg hw_2, if_neg hw_3, if_neg hw_4, if_neg hw_5, if_neg hw_6, if_pos hw_7])⟩)
  refine X_tabOut (tgt := 52) dX3_bindingOf_1 (by have n0 : v.toInt ≠ -13 := fun q => hw_1 (Int32.toInt_inj.mp (q.trans (by decide))); have n1 : v.toInt ≠ -12 := fun q => hw_2 (Int32.toInt_inj.mp (q.trans (by decide))); have n2 : v.toInt ≠ -11 := fun q => hw_3 (Int32.toInt_inj.mp (q.trans (by decide))); have n3 : v.toInt ≠ -10 := fun q => hw_4 (Int32.toInt_inj.mp (q.trans (by decide))); have n4 : v.toInt ≠ -9 := fun q => hw_5 (Int32.toInt_inj.mp (q.trans (by decide))); have n5 : v.toInt ≠ -8 := fun q => hw_6 (Int32.toInt_inj.mp (q.trans (by decide))); have n6 : v.toInt ≠ -7 := fun q => hw_7 (Int32.toInt_inj.mp (q.trans (by decide))); omega) (by decide) ?_
  refine X_iconst (v := 0) dX3_bindingOf_52 (by decide) ?_
  exact X_iret ex_nI rfl dX3_bindingOf_53 rfl (⟨rfl, (by unfold bnd3; rw [if_neg hw_1, if_neg hw_2, if_neg hw_3, if_neg hw_4, if_neg hw_5, if_neg hw_6, if_neg hw_7])⟩)

set_option maxHeartbeats 4000000 in
set_option maxRecDepth 100000 in
theorem e_X3_addStep (l : Launch) (lw : Nat) (w0 : Nat) (w2 : Nat) (w6 : Nat) (w7 : Nat) (sl : Nat) (wn : Nat) (dp : Int32) (op : Int32) (sp : Nat → Int32) (x : Int32) (hsl : sl ≤ 1000) : ex_M l yX3_addStep cX3_addStep 2 none 0 0 [ex_r lw, ex_i x] [(lw, ex_o 3 [ex_r w0, ex_i (nI sl), ex_r w2, ex_i (nI wn), ex_i dp, ex_i op, ex_r w6, ex_r w7]), (w0, ex_a 1 1000 sp)] (fun cs r => (∃ (sl2 : Nat), ∃ (sp2 : Nat → Int32), sl2 ≤ 1000 ∧ cs = [(lw, ex_o 3 [ex_r w0, ex_i (nI sl2), ex_r w2, ex_i (nI wn), ex_i dp, ex_i op, ex_r w6, ex_r w7]), (w0, ex_a 1 1000 sp2)] ∧ r = none)) := by
  refine X_meth (by decide) (Nat.le_of_ble_eq_true rfl) ?_
  refine X_aload_n (j := 0) dX3_addStep_0 rfl rfl ?_
  refine X_get (j := 0) fo_X3_15 dX3_addStep_1 rfl rfl ?_
  refine X_sipush (v := 1000) dX3_addStep_4 (by decide) ?_
  refine X_icmp_ge (tgt := 30) dX3_addStep_7 (by decide) (fun c_1 => ?_) (fun c_1 => ?_)
  · exact X_vret dX3_addStep_30 rfl (⟨sl, sp, hsl, rfl, rfl⟩)
  · have hlt : sl < 1000 := nlen (Nat.le_refl 1000) hsl c_1
    refine X_aload_n (j := 0) dX3_addStep_10 rfl rfl ?_
    refine X_get (j := 0) fo_X3_9 dX3_addStep_11 rfl rfl ?_
    refine X_aload_n (j := 0) dX3_addStep_14 rfl rfl ?_
    refine X_get (j := 0) fo_X3_15 dX3_addStep_15 rfl rfl ?_
    refine X_iload_n (j := 1) dX3_addStep_18 rfl rfl ?_
    refine X_iast (j := 1) (g := upd sp sl x) (cs' := [(lw, ex_o 3 [ex_r w0, ex_i (nI sl), ex_r w2, ex_i (nI wn), ex_i dp, ex_i op, ex_r w6, ex_r w7]), (w0, ex_a 1 1000 (upd sp sl x))]) dX3_addStep_19 rfl (vp_in_nI hlt (by decide)) (by rw [nI_clamp (by omega)]) rfl ?_
    refine X_aload_n (j := 0) dX3_addStep_20 rfl rfl ?_
    refine X_dup dX3_addStep_21 rfl ?_
    refine X_get (j := 0) fo_X3_15 dX3_addStep_22 rfl rfl ?_
    refine X_iconst (v := 1) dX3_addStep_25 (by decide) ?_
    refine X_iadd (v := nI (sl + 1)) dX3_addStep_26 (nI_1 sl) ?_
    refine X_put (j := 0) (cs' := [(lw, ex_o 3 [ex_r w0, ex_i (nI (sl + 1)), ex_r w2, ex_i (nI wn), ex_i dp, ex_i op, ex_r w6, ex_r w7]), (w0, ex_a 1 1000 (upd sp sl x))]) fo_X3_15 (by decide) dX3_addStep_27 rfl (Nat.le_of_ble_eq_true rfl) trivial rfl ?_
    exact X_vret dX3_addStep_30 rfl (⟨(sl + 1), (upd sp sl x), hlt, rfl, rfl⟩)

set_option maxHeartbeats 4000000 in
set_option maxRecDepth 100000 in
theorem e_X3_addWaiting (l : Launch) (lw : Nat) (w0 : Nat) (w2 : Nat) (w6 : Nat) (w7 : Nat) (sl : Nat) (wn : Nat) (dp : Int32) (op : Int32) (wt : Nat → Int32) (x : Int32) (hwn : wn ≤ 40) : ex_M l yX3_addWaiting cX3_addWaiting 2 none 0 0 [ex_r lw, ex_i x] [(lw, ex_o 3 [ex_r w0, ex_i (nI sl), ex_r w2, ex_i (nI wn), ex_i dp, ex_i op, ex_r w6, ex_r w7]), (w2, ex_a 1 40 wt)] (fun cs r => (cs = [(lw, ex_o 3 [ex_r w0, ex_i (nI sl), ex_r w2, ex_i (nI (adN wn)), ex_i dp, ex_i op, ex_r w6, ex_r w7]), (w2, ex_a 1 40 (adW wt wn x))] ∧ r = none)) := by
  refine X_meth (by decide) (Nat.le_of_ble_eq_true rfl) ?_
  refine X_aload_n (j := 0) dX3_addWaiting_0 rfl rfl ?_
  refine X_get (j := 0) fo_X3_22 dX3_addWaiting_1 rfl rfl ?_
  refine X_bipush (v := 40) dX3_addWaiting_4 (by decide) ?_
  refine X_icmp_ge (tgt := 29) dX3_addWaiting_6 (by decide) (fun c_1 => ?_) (fun c_1 => ?_)
  · exact X_vret dX3_addWaiting_29 rfl (⟨(by unfold adN adW; rw [if_neg (fun e => nI_ge (b := 40) e (by decide) c_1), if_neg (fun e => nI_ge (b := 40) e (by decide) c_1)]; try rfl), rfl⟩)
  · have hlt : wn < 40 := nlen (by decide) hwn c_1
    refine X_aload_n (j := 0) dX3_addWaiting_9 rfl rfl ?_
    refine X_get (j := 0) fo_X3_19 dX3_addWaiting_10 rfl rfl ?_
    refine X_aload_n (j := 0) dX3_addWaiting_13 rfl rfl ?_
    refine X_get (j := 0) fo_X3_22 dX3_addWaiting_14 rfl rfl ?_
    refine X_iload_n (j := 1) dX3_addWaiting_17 rfl rfl ?_
    refine X_iast (j := 1) (g := upd wt wn x) (cs' := [(lw, ex_o 3 [ex_r w0, ex_i (nI sl), ex_r w2, ex_i (nI wn), ex_i dp, ex_i op, ex_r w6, ex_r w7]), (w2, ex_a 1 40 (upd wt wn x))]) dX3_addWaiting_18 rfl (vp_in_nI hlt (by decide)) (by rw [nI_clamp (by omega)]) rfl ?_
    refine X_aload_n (j := 0) dX3_addWaiting_19 rfl rfl ?_
    refine X_dup dX3_addWaiting_20 rfl ?_
    refine X_get (j := 0) fo_X3_22 dX3_addWaiting_21 rfl rfl ?_
    refine X_iconst (v := 1) dX3_addWaiting_24 (by decide) ?_
    refine X_iadd (v := nI (wn + 1)) dX3_addWaiting_25 (nI_1 wn) ?_
    refine X_put (j := 0) (cs' := [(lw, ex_o 3 [ex_r w0, ex_i (nI sl), ex_r w2, ex_i (nI (wn + 1)), ex_i dp, ex_i op, ex_r w6, ex_r w7]), (w2, ex_a 1 40 (upd wt wn x))]) fo_X3_22 (by decide) dX3_addWaiting_26 rfl (Nat.le_of_ble_eq_true rfl) trivial rfl ?_
    exact X_vret dX3_addWaiting_29 rfl (⟨(by unfold adN adW; rw [if_pos hlt, if_pos hlt]; try rfl), rfl⟩)

set_option maxHeartbeats 4000000 in
set_option maxRecDepth 100000 in
theorem e_X3_lastWaiting (l : Launch) (lw : Nat) (w0 : Nat) (w2 : Nat) (w6 : Nat) (w7 : Nat) (sl : Nat) (wn : Nat) (dp : Int32) (op : Int32) (wt : Nat → Int32) (hwn : wn ≤ 40) : ex_M l yX3_lastWaiting cX3_lastWaiting 1 (some .int) 0 0 [ex_r lw] [(lw, ex_o 3 [ex_r w0, ex_i (nI sl), ex_r w2, ex_i (nI wn), ex_i dp, ex_i op, ex_r w6, ex_r w7]), (w2, ex_a 1 40 wt)] (fun cs r => (cs = [(lw, ex_o 3 [ex_r w0, ex_i (nI sl), ex_r w2, ex_i (nI wn), ex_i dp, ex_i op, ex_r w6, ex_r w7]), (w2, ex_a 1 40 wt)] ∧ r = some (ex_i (lsW wt wn)))) := by
  refine X_meth (by decide) (Nat.le_of_ble_eq_true rfl) ?_
  refine X_aload_n (j := 0) dX3_lastWaiting_0 rfl rfl ?_
  refine X_get (j := 0) fo_X3_22 dX3_lastWaiting_1 rfl rfl ?_
  refine X_if_le (tgt := 21) dX3_lastWaiting_4 (by decide) (fun c_1 => ?_) (fun c_1 => ?_)
  · refine X_bipush (v := (-15)) dX3_lastWaiting_21 (by decide) ?_
    have e0 : wn = 0 := Nat.eq_zero_of_not_pos (fun q => nI_nle q (by omega) c_1)
    exact X_iret ex_nI rfl dX3_lastWaiting_23 rfl (⟨rfl, (by rw [e0]; rfl)⟩)
  · obtain ⟨k, hk⟩ : ∃ k, wn = k + 1 := ex_ow (Nat.pos_of_ne_zero (fun e => c_1 (by rw [e]; decide)))
    subst hk
    refine X_aload_n (j := 0) dX3_lastWaiting_7 rfl rfl ?_
    refine X_get (j := 0) fo_X3_19 dX3_lastWaiting_8 rfl rfl ?_
    refine X_aload_n (j := 0) dX3_lastWaiting_11 rfl rfl ?_
    refine X_get (j := 0) fo_X3_22 dX3_lastWaiting_12 rfl rfl ?_
    refine X_iconst (v := 1) dX3_lastWaiting_15 (by decide) ?_
    refine X_isub (v := nI k) dX3_lastWaiting_16 (nI_pred k) ?_
    refine X_iald (j := 1) (v := (wt k)) dX3_lastWaiting_17 rfl (vp_in_nI (show k < 40 by omega) (by decide)) (by rw [nI_clamp (by omega)]) ?_
    refine X_goto (tgt := 23) dX3_lastWaiting_18 (by decide) ?_
    exact X_iret ex_nI rfl dX3_lastWaiting_23 rfl (⟨rfl, rfl⟩)

set_option maxHeartbeats 4000000 in
set_option maxRecDepth 100000 in
theorem e_X3_settleJoints (l : Launch) (lw : Nat) (w0 : Nat) (w2 : Nat) (w6 : Nat) (w7 : Nat) (sl : Nat) (wn : Nat) (dp : Int32) (op : Int32) (sp : Nat → Int32) (wt : Nat → Int32) (b : Int32) (hsl : sl ≤ 1000) (hwn : wn ≤ 40) : ex_M l yX3_settleJoints cX3_settleJoints 3 none 1 40 [ex_r lw, ex_i b] [(lw, ex_o 3 [ex_r w0, ex_i (nI sl), ex_r w2, ex_i (nI wn), ex_i dp, ex_i op, ex_r w6, ex_r w7]), (w0, ex_a 1 1000 sp), (w2, ex_a 1 40 wt)] (fun cs r => (∃ (sl2 : Nat), ∃ (sp2 : Nat → Int32), sl2 ≤ 1000 ∧ cs = [(lw, ex_o 3 [ex_r w0, ex_i (nI sl2), ex_r w2, ex_i (nI (setJ wt (if 1 < b then b else 1) wn)), ex_i dp, ex_i op, ex_r w6, ex_r w7]), (w0, ex_a 1 1000 sp2), (w2, ex_a 1 40 wt)] ∧ r = none)) := by
  refine X_meth (by decide) (Nat.le_of_ble_eq_true rfl) ?_
  refine X_iconst (v := 1) dX3_settleJoints_0 (by decide) ?_
  refine X_iload_n (j := 1) dX3_settleJoints_1 rfl rfl ?_
  refine X_mmax (v := (if 1 < b then b else 1)) k_776 k_561 k_17 k_562 ⟨(Nat.le_of_ble_eq_true rfl), (Nat.le_of_ble_eq_true rfl)⟩ (Nat.le_of_ble_eq_true rfl) dX3_settleJoints_2 rfl ?_
  refine X_istore_n (lv' := [(2, ex_i (if 1 < b then b else 1)), (0, ex_r lw), (1, ex_i b)]) dX3_settleJoints_5 rfl (Nat.le_of_ble_eq_true rfl) rfl ?_
  refine X_lv (lv' := [(0, ex_r lw), (2, ex_i (if 1 < b then b else 1))]) [1, 0] rfl ?_
  refine X_ind (fun (a : Nat × Nat × (Nat → Int32)) => a.1 ≤ 40 ∧ a.2.1 ≤ 1000 ∧ setJ wt (if 1 < b then b else 1) wn = setJ wt (if 1 < b then b else 1) a.1) (fun (a : Nat × Nat × (Nat → Int32)) => a.1) (fun (a : Nat × Nat × (Nat → Int32)) => [(lw, ex_o 3 [ex_r w0, ex_i (nI a.2.1), ex_r w2, ex_i (nI a.1), ex_i dp, ex_i op, ex_r w6, ex_r w7]), (w0, ex_a 1 1000 a.2.2), (w2, ex_a 1 40 wt)]) (fun (a : Nat × Nat × (Nat → Int32)) => [(0, ex_r lw), (2, ex_i (if 1 < b then b else 1))]) (fun ⟨kw, sl1, sp1⟩ hI ih => ?_) (wn, sl, sp) (⟨hwn, hsl, rfl⟩)
  try dsimp only at hI ih ⊢
  refine X_aload_n (j := 0) dX3_settleJoints_6 rfl rfl ?_
  refine X_get (j := 0) fo_X3_22 dX3_settleJoints_7 rfl rfl ?_
  refine X_if_le (tgt := 57) dX3_settleJoints_10 (by decide) (fun c_1 => ?_) (fun c_1 => ?_)
  · exact X_vret dX3_settleJoints_57 rfl (⟨sl1, sp1, hI.2.1, (by rw [hI.2.2, Nat.eq_zero_of_not_pos (fun q => nI_nle q (by omega) c_1)]; rfl), rfl⟩)
  · obtain ⟨k, rfl⟩ : ∃ k, kw = k + 1 := ex_ow (Nat.pos_of_ne_zero (fun e => c_1 (by rw [e]; decide)))
    refine X_aload_n (j := 0) dX3_settleJoints_13 rfl rfl ?_
    refine X_get (j := 0) fo_X3_19 dX3_settleJoints_14 rfl rfl ?_
    refine X_aload_n (j := 0) dX3_settleJoints_17 rfl rfl ?_
    refine X_get (j := 0) fo_X3_22 dX3_settleJoints_18 rfl rfl ?_
    refine X_iconst (v := 1) dX3_settleJoints_21 (by decide) ?_
    refine X_isub (v := nI k) dX3_settleJoints_22 (nI_pred k) ?_
    refine X_iald (j := 2) (v := (wt k)) dX3_settleJoints_23 rfl (vp_in_nI (show k < 40 by omega) (by decide)) (by rw [nI_clamp (by omega)]) ?_
    refine X_callS (rest := [(lw, ex_o 3 [ex_r w0, ex_i (nI sl1), ex_r w2, ex_i (nI (k + 1)), ex_i dp, ex_i op, ex_r w6, ex_r w7]), (w0, ex_a 1 1000 sp1), (w2, ex_a 1 40 wt)]) (stk := []) co_X3_109 rfl ⟨(Nat.le_of_ble_eq_true rfl), (Nat.le_of_ble_eq_true rfl)⟩ (e_X3_bindingOf l (wt k)) dX3_settleJoints_24 [0, 1, 2] (show List.Perm [0, 1, 2] (List.range 3) from by decide) rfl rfl rfl (Nat.le_of_ble_eq_true rfl) (fun cs1 r hq hk => ?_)
    rcases hq with ⟨rfl, rfl⟩
    refine X_iload_n (j := 1) dX3_settleJoints_27 rfl rfl ?_
    refine X_icmp_lt (tgt := 57) dX3_settleJoints_28 (by decide) (fun c_2 => ?_) (fun c_2 => ?_)
    · exact X_vret dX3_settleJoints_57 rfl (⟨sl1, sp1, hI.2.1, (by rw [hI.2.2, setJ_y c_2]; try rfl), rfl⟩)
    · refine X_aload_n (j := 0) dX3_settleJoints_31 rfl rfl ?_
      refine X_dup dX3_settleJoints_32 rfl ?_
      refine X_get (j := 0) fo_X3_22 dX3_settleJoints_33 rfl rfl ?_
      refine X_iconst (v := 1) dX3_settleJoints_36 (by decide) ?_
      refine X_isub (v := nI k) dX3_settleJoints_37 (nI_pred k) ?_
      refine X_put (j := 0) (cs' := [(lw, ex_o 3 [ex_r w0, ex_i (nI sl1), ex_r w2, ex_i (nI k), ex_i dp, ex_i op, ex_r w6, ex_r w7]), (w0, ex_a 1 1000 sp1), (w2, ex_a 1 40 wt)]) fo_X3_22 (by decide) dX3_settleJoints_38 rfl (Nat.le_of_ble_eq_true rfl) trivial rfl ?_
      refine X_aload_n (j := 0) dX3_settleJoints_41 rfl rfl ?_
      refine X_aload_n (j := 0) dX3_settleJoints_42 rfl rfl ?_
      refine X_get (j := 0) fo_X3_19 dX3_settleJoints_43 rfl rfl ?_
      refine X_aload_n (j := 0) dX3_settleJoints_46 rfl rfl ?_
      refine X_get (j := 0) fo_X3_22 dX3_settleJoints_47 rfl rfl ?_
      refine X_iald (j := 2) (v := (wt k)) dX3_settleJoints_50 rfl (vp_in_nI (show k < 40 by omega) (by decide)) (by rw [nI_clamp (by omega)]) ?_
      refine X_callV (j0 := 0) (rest := [(w2, ex_a 1 40 wt)]) (stk := []) co_X3_37 rfl ⟨(Nat.le_of_ble_eq_true rfl), (Nat.le_of_ble_eq_true rfl)⟩ (e_X3_addStep l lw w0 w2 w6 w7 sl1 k dp op sp1 (wt k) hI.2.1) dX3_settleJoints_51 [0, 1, 2] (show List.Perm [0, 1, 2] (List.range 3) from by decide) rfl rfl rfl rfl (Nat.le_of_ble_eq_true rfl) (fun cs1 r hq hk => ?_)
      rcases hq with ⟨sl2_3, sp2_4, hp_5, rfl, rfl⟩
      refine X_goto (tgt := 6) dX3_settleJoints_54 (by decide) ?_
      refine X_lv (lv' := [(0, ex_r lw), (2, ex_i (if 1 < b then b else 1))]) [0, 1] rfl ?_
      exact ih (k, sl2_3, sp2_4) (⟨by omega, hp_5, by rw [hI.2.2, setJ_n c_2]⟩) (by omega)

set_option maxHeartbeats 4000000 in
set_option maxRecDepth 100000 in
theorem e_X3_settleNots (l : Launch) (lw : Nat) (w0 : Nat) (w2 : Nat) (w6 : Nat) (w7 : Nat) (sl : Nat) (wn : Nat) (dp : Int32) (op : Int32) (sp : Nat → Int32) (wt : Nat → Int32) (hsl : sl ≤ 1000) (hwn : wn ≤ 40) : ex_M l yX3_settleNots cX3_settleNots 1 none 1 21 [ex_r lw] [(lw, ex_o 3 [ex_r w0, ex_i (nI sl), ex_r w2, ex_i (nI wn), ex_i dp, ex_i op, ex_r w6, ex_r w7]), (w0, ex_a 1 1000 sp), (w2, ex_a 1 40 wt)] (fun cs r => (∃ (sl2 : Nat), ∃ (sp2 : Nat → Int32), sl2 ≤ 1000 ∧ cs = [(lw, ex_o 3 [ex_r w0, ex_i (nI sl2), ex_r w2, ex_i (nI (setN wt wn dp).1), ex_i ((setN wt wn dp).2), ex_i op, ex_r w6, ex_r w7]), (w0, ex_a 1 1000 sp2), (w2, ex_a 1 40 wt)] ∧ r = none)) := by
  refine X_meth (by decide) (Nat.le_of_ble_eq_true rfl) ?_
  refine X_lv (lv' := [(0, ex_r lw)]) [0] rfl ?_
  refine X_ind (fun (a : Nat × Nat × Int32 × (Nat → Int32)) => a.1 ≤ 40 ∧ a.2.1 ≤ 1000 ∧ setN wt wn dp = setN wt a.1 a.2.2.1) (fun (a : Nat × Nat × Int32 × (Nat → Int32)) => a.1) (fun (a : Nat × Nat × Int32 × (Nat → Int32)) => [(lw, ex_o 3 [ex_r w0, ex_i (nI a.2.1), ex_r w2, ex_i (nI a.1), ex_i a.2.2.1, ex_i op, ex_r w6, ex_r w7]), (w0, ex_a 1 1000 a.2.2.2), (w2, ex_a 1 40 wt)]) (fun (a : Nat × Nat × Int32 × (Nat → Int32)) => [(0, ex_r lw)]) (fun ⟨kw, sl1, d1, sp1⟩ hI ih => ?_) (wn, sl, dp, sp) (⟨hwn, hsl, rfl⟩)
  try dsimp only at hI ih ⊢
  refine X_aload_n (j := 0) dX3_settleNots_0 rfl rfl ?_
  refine X_get (j := 0) fo_X3_22 dX3_settleNots_1 rfl rfl ?_
  refine X_if_le (tgt := 52) dX3_settleNots_4 (by decide) (fun c_1 => ?_) (fun c_1 => ?_)
  · exact X_vret dX3_settleNots_52 rfl (⟨sl1, sp1, hI.2.1, (by rw [hI.2.2, Nat.eq_zero_of_not_pos (fun q => nI_nle q (by omega) c_1)]; rfl), rfl⟩)
  · obtain ⟨k, rfl⟩ : ∃ k, kw = k + 1 := ex_ow (Nat.pos_of_ne_zero (fun e => c_1 (by rw [e]; decide)))
    refine X_aload_n (j := 0) dX3_settleNots_7 rfl rfl ?_
    refine X_get (j := 0) fo_X3_19 dX3_settleNots_8 rfl rfl ?_
    refine X_aload_n (j := 0) dX3_settleNots_11 rfl rfl ?_
    refine X_get (j := 0) fo_X3_22 dX3_settleNots_12 rfl rfl ?_
    refine X_iconst (v := 1) dX3_settleNots_15 (by decide) ?_
    refine X_isub (v := nI k) dX3_settleNots_16 (nI_pred k) ?_
    refine X_iald (j := 2) (v := (wt k)) dX3_settleNots_17 rfl (vp_in_nI (show k < 40 by omega) (by decide)) (by rw [nI_clamp (by omega)]) ?_
    refine X_bipush (v := (-6)) dX3_settleNots_18 (by decide) ?_
    refine X_icmp_ne (tgt := 52) dX3_settleNots_20 (by decide) (fun c_2 => ?_) (fun c_2 => ?_)
    · exact X_vret dX3_settleNots_52 rfl (⟨sl1, sp1, hI.2.1, (by rw [hI.2.2, setN_n c_2]; try rfl), rfl⟩)
    · refine X_aload_n (j := 0) dX3_settleNots_23 rfl rfl ?_
      refine X_dup dX3_settleNots_24 rfl ?_
      refine X_get (j := 0) fo_X3_22 dX3_settleNots_25 rfl rfl ?_
      refine X_iconst (v := 1) dX3_settleNots_28 (by decide) ?_
      refine X_isub (v := nI k) dX3_settleNots_29 (nI_pred k) ?_
      refine X_put (j := 0) (cs' := [(lw, ex_o 3 [ex_r w0, ex_i (nI sl1), ex_r w2, ex_i (nI k), ex_i d1, ex_i op, ex_r w6, ex_r w7]), (w0, ex_a 1 1000 sp1), (w2, ex_a 1 40 wt)]) fo_X3_22 (by decide) dX3_settleNots_30 rfl (Nat.le_of_ble_eq_true rfl) trivial rfl ?_
      refine X_aload_n (j := 0) dX3_settleNots_33 rfl rfl ?_
      refine X_dup dX3_settleNots_34 rfl ?_
      refine X_get (j := 0) fo_X3_25 dX3_settleNots_35 rfl rfl ?_
      refine X_iconst (v := 1) dX3_settleNots_38 (by decide) ?_
      refine X_isub (v := (d1 - 1)) dX3_settleNots_39 rfl ?_
      refine X_put (j := 0) (cs' := [(lw, ex_o 3 [ex_r w0, ex_i (nI sl1), ex_r w2, ex_i (nI k), ex_i (d1 - 1), ex_i op, ex_r w6, ex_r w7]), (w0, ex_a 1 1000 sp1), (w2, ex_a 1 40 wt)]) fo_X3_25 (by decide) dX3_settleNots_40 rfl (Nat.le_of_ble_eq_true rfl) trivial rfl ?_
      refine X_aload_n (j := 0) dX3_settleNots_43 rfl rfl ?_
      refine X_bipush (v := (-6)) dX3_settleNots_44 (by decide) ?_
      refine X_callV (j0 := 0) (rest := [(w2, ex_a 1 40 wt)]) (stk := []) co_X3_37 rfl ⟨(Nat.le_of_ble_eq_true rfl), (Nat.le_of_ble_eq_true rfl)⟩ (e_X3_addStep l lw w0 w2 w6 w7 sl1 k (d1 - 1) op sp1 (-6) hI.2.1) dX3_settleNots_46 [0, 1, 2] (show List.Perm [0, 1, 2] (List.range 3) from by decide) rfl rfl rfl rfl (Nat.le_of_ble_eq_true rfl) (fun cs1 r hq hk => ?_)
      rcases hq with ⟨sl2_3, sp2_4, hp_5, rfl, rfl⟩
      refine X_goto (tgt := 0) dX3_settleNots_49 (by decide) ?_
      refine X_lv (lv' := [(0, ex_r lw)]) [0] rfl ?_
      exact ih (k, sl2_3, d1 - 1, sp2_4) (⟨by omega, hp_5, by rw [hI.2.2, setN_y c_2]⟩) (by omega)
