def F_X10_copies (wh : Nat → Int32) (ww : Nat → Int32) (wd : Nat → Int32) (vwl : Nat) (vwh : Nat → Int32) (vww : Nat → Int32) (vwd : Nat → Int32) : Nat × (Nat → Int32) × (Nat → Int32) × (Nat → Int32) := (vwl, va_cpy vwh wh 0 0 40, va_cpy vww ww 0 0 40, va_cpy vwd wd 0 0 40)
set_option maxHeartbeats 4000000 in
set_option maxRecDepth 100000 in
theorem e_X10_copies (l : Launch) (w : Nat) (v : Nat) (w_h : Nat) (w_w : Nat) (w_d : Nat) (wl : Nat) (wh : Nat → Int32) (ww : Nat → Int32) (wd : Nat → Int32) (v_h : Nat) (v_w : Nat) (v_d : Nat) (vwl : Nat) (vwh : Nat → Int32) (vww : Nat → Int32) (vwd : Nat → Int32) : ex_M l yX10_copies cX10_copies 2 none 1 40 [ex_r w, ex_r v] [(w, ex_o 10 [ex_r w_h, ex_r w_w, ex_r w_d, ex_i (nI wl)]), (w_h, ex_a 1 40 wh), (w_w, ex_a 1 40 ww), (w_d, ex_a 1 40 wd), (v, ex_o 10 [ex_r v_h, ex_r v_w, ex_r v_d, ex_i (nI vwl)]), (v_h, ex_a 1 40 vwh), (v_w, ex_a 1 40 vww), (v_d, ex_a 1 40 vwd)] (fun zcs zr => zcs = [(w, ex_o 10 [ex_r w_h, ex_r w_w, ex_r w_d, ex_i (nI (F_X10_copies wh ww wd vwl vwh vww vwd).1)]), (w_h, ex_a 1 40 ((F_X10_copies wh ww wd vwl vwh vww vwd).2.1)), (w_w, ex_a 1 40 ((F_X10_copies wh ww wd vwl vwh vww vwd).2.2.1)), (w_d, ex_a 1 40 ((F_X10_copies wh ww wd vwl vwh vww vwd).2.2.2)), (v, ex_o 10 [ex_r v_h, ex_r v_w, ex_r v_d, ex_i (nI vwl)]), (v_h, ex_a 1 40 vwh), (v_w, ex_a 1 40 vww), (v_d, ex_a 1 40 vwd)] ∧ zr = none) := by
  refine X_meth (by decide) (Nat.le_of_ble_eq_true rfl) ?_
  generalize hV : F_X10_copies wh ww wd vwl vwh vww vwd = V0
  have hV := hV.symm
  unfold F_X10_copies at hV
  try dsimp only at hV
  refine X_aload_n (j := 0) dX10_copies_0 rfl rfl ?_
  refine X_aload_n (j := 1) dX10_copies_1 rfl rfl ?_
  refine X_get (j := 4) fo_X10_21 dX10_copies_2 rfl rfl ?_
  refine X_put (j := 0) (cs' := [(w, ex_o 10 [ex_r w_h, ex_r w_w, ex_r w_d, ex_i (nI vwl)]), (w_h, ex_a 1 40 wh), (w_w, ex_a 1 40 ww), (w_d, ex_a 1 40 wd), (v, ex_o 10 [ex_r v_h, ex_r v_w, ex_r v_d, ex_i (nI vwl)]), (v_h, ex_a 1 40 vwh), (v_w, ex_a 1 40 vww), (v_d, ex_a 1 40 vwd)]) fo_X10_21 (by decide) dX10_copies_5 rfl (Nat.le_of_ble_eq_true rfl) trivial rfl ?_
  refine X_aload_n (j := 1) dX10_copies_8 rfl rfl ?_
  refine X_get (j := 4) fo_X10_9 dX10_copies_9 rfl rfl ?_
  refine X_iconst (v := 0) dX10_copies_12 (by decide) ?_
  refine X_aload_n (j := 0) dX10_copies_13 rfl rfl ?_
  refine X_get (j := 0) fo_X10_9 dX10_copies_14 rfl rfl ?_
  refine X_iconst (v := 0) dX10_copies_17 (by decide) ?_
  refine X_bipush (v := 40) dX10_copies_18 (by decide) ?_
  refine X_copy (j := 5) (j2 := 1) (cs' := [(w, ex_o 10 [ex_r w_h, ex_r w_w, ex_r w_d, ex_i (nI vwl)]), (w_h, ex_a 1 40 (va_cpy vwh wh 0 0 40)), (w_w, ex_a 1 40 ww), (w_d, ex_a 1 40 wd), (v, ex_o 10 [ex_r v_h, ex_r v_w, ex_r v_d, ex_i (nI vwl)]), (v_h, ex_a 1 40 vwh), (v_w, ex_a 1 40 vww), (v_d, ex_a 1 40 vwd)]) k_1198 k_961 k_960 k_21 ⟨(Nat.le_of_ble_eq_true rfl), (Nat.le_of_ble_eq_true rfl)⟩ dX10_copies_20 rfl rfl (by decide) (by decide) (by decide) (by decide) (by decide) rfl (by decide) ?_
  refine X_aload_n (j := 1) dX10_copies_23 rfl rfl ?_
  refine X_get (j := 4) fo_X10_15 dX10_copies_24 rfl rfl ?_
  refine X_iconst (v := 0) dX10_copies_27 (by decide) ?_
  refine X_aload_n (j := 0) dX10_copies_28 rfl rfl ?_
  refine X_get (j := 0) fo_X10_15 dX10_copies_29 rfl rfl ?_
  refine X_iconst (v := 0) dX10_copies_32 (by decide) ?_
  refine X_bipush (v := 40) dX10_copies_33 (by decide) ?_
  refine X_copy (j := 6) (j2 := 2) (cs' := [(w, ex_o 10 [ex_r w_h, ex_r w_w, ex_r w_d, ex_i (nI vwl)]), (w_h, ex_a 1 40 (va_cpy vwh wh 0 0 40)), (w_w, ex_a 1 40 (va_cpy vww ww 0 0 40)), (w_d, ex_a 1 40 wd), (v, ex_o 10 [ex_r v_h, ex_r v_w, ex_r v_d, ex_i (nI vwl)]), (v_h, ex_a 1 40 vwh), (v_w, ex_a 1 40 vww), (v_d, ex_a 1 40 vwd)]) k_1198 k_961 k_960 k_21 ⟨(Nat.le_of_ble_eq_true rfl), (Nat.le_of_ble_eq_true rfl)⟩ dX10_copies_35 rfl rfl (by decide) (by decide) (by decide) (by decide) (by decide) rfl (by decide) ?_
  refine X_aload_n (j := 1) dX10_copies_38 rfl rfl ?_
  refine X_get (j := 4) fo_X10_18 dX10_copies_39 rfl rfl ?_
  refine X_iconst (v := 0) dX10_copies_42 (by decide) ?_
  refine X_aload_n (j := 0) dX10_copies_43 rfl rfl ?_
  refine X_get (j := 0) fo_X10_18 dX10_copies_44 rfl rfl ?_
  refine X_iconst (v := 0) dX10_copies_47 (by decide) ?_
  refine X_bipush (v := 40) dX10_copies_48 (by decide) ?_
  refine X_copy (j := 7) (j2 := 3) (cs' := [(w, ex_o 10 [ex_r w_h, ex_r w_w, ex_r w_d, ex_i (nI vwl)]), (w_h, ex_a 1 40 (va_cpy vwh wh 0 0 40)), (w_w, ex_a 1 40 (va_cpy vww ww 0 0 40)), (w_d, ex_a 1 40 (va_cpy vwd wd 0 0 40)), (v, ex_o 10 [ex_r v_h, ex_r v_w, ex_r v_d, ex_i (nI vwl)]), (v_h, ex_a 1 40 vwh), (v_w, ex_a 1 40 vww), (v_d, ex_a 1 40 vwd)]) k_1198 k_961 k_960 k_21 ⟨(Nat.le_of_ble_eq_true rfl), (Nat.le_of_ble_eq_true rfl)⟩ dX10_copies_50 rfl rfl (by decide) (by decide) (by decide) (by decide) (by decide) rfl (by decide) ?_
  try dsimp only at hV
  exact X_vret dX10_copies_53 (by (repeat refine ex_kc ?_) <;> rfl) (by subst hV; exact ⟨rfl, rfl⟩)

def F_X10_happens (q : Nat) (dq : Nat) (ln : Nat) (wh : Nat → Int32) (dy : Int32) (sr : Int32) (il : Int32) (fu : Nat → Int32) (ae : Nat → Int32) (hu : Nat → Int32) (np : Nat) (res : Int32) (kd : Nat → Int32) (hg : Nat → Int32) (sf : Nat → Int32) (st : Nat → Int32) (co : Nat → Int32) (gf : Nat → Int32) (ga : Nat → Int32) : Int32 × Int32 × Int32 × (Nat → Int32) × (Nat → Int32) × (Nat → Int32) × Int32 := (if (wh ln) = 1 then ((fun (w_19 : (Nat → Int32)) => (dy, sr, il, w_19, ae, hu, 0)) (F_X8_eatsAbroad q dq fu ga)) else (if (wh ln) = 0 then ((fun (w_3 : Int32 × (Nat → Int32) × (Nat → Int32) × Int32) => (if w_3.2.2.2 ≤ 0 then (w_3.1, sr, il, w_3.2.1, ae, w_3.2.2.1, 0) else (w_3.1, sr, il, w_3.2.1, ae, w_3.2.2.1, 2))) (F_X8_endsDay dy fu hu np hg)) else (if (F_X8_canEat q dq dy sr kd sf st co) = 0 then (dy, sr, il, fu, ae, hu, 1) else (if (wh ln) = 2 then ((fun (w_13 : Int32 × Int32 × (Nat → Int32) × (Nat → Int32) × Int32) => (if w_13.2.2.2.2 = 0 then ((fun (w_15 : Int32 × (Nat → Int32) × (Nat → Int32) × Int32) => (if w_15.2.2.2 ≤ 0 then (w_15.1, w_13.1, w_13.2.1, w_15.2.1, w_13.2.2.2.1, w_15.2.2.1, 0) else (w_15.1, w_13.1, w_13.2.1, w_15.2.1, w_13.2.2.2.1, w_15.2.2.1, 2))) (F_X8_endsDay dy w_13.2.2.1 hu np hg)) else ((fun (w_17 : Int32 × (Nat → Int32) × (Nat → Int32) × Int32) => (if w_17.2.2.2 ≤ 0 then (w_17.1, w_13.1, w_13.2.1, w_17.2.1, w_13.2.2.2.1, w_17.2.2.1, 4) else (w_17.1, w_13.1, w_13.2.1, w_17.2.1, w_13.2.2.2.1, w_17.2.2.1, 6))) (F_X8_endsDay dy w_13.2.2.1 hu np hg)))) (F_X8_takesMeal q dq 1 dy sr il fu ae np res kd sf st co gf)) else ((fun (w_7 : Int32 × Int32 × (Nat → Int32) × (Nat → Int32) × Int32) => (if w_7.2.2.2.2 = 0 then ((fun (w_9 : Int32 × (Nat → Int32) × (Nat → Int32) × Int32) => (if w_9.2.2.2 ≤ 0 then (w_9.1, w_7.1, w_7.2.1, w_9.2.1, w_7.2.2.2.1, w_9.2.2.1, 0) else (w_9.1, w_7.1, w_7.2.1, w_9.2.1, w_7.2.2.2.1, w_9.2.2.1, 2))) (F_X8_endsDay dy w_7.2.2.1 hu np hg)) else ((fun (w_11 : Int32 × (Nat → Int32) × (Nat → Int32) × Int32) => (if w_11.2.2.2 ≤ 0 then (w_11.1, w_7.1, w_7.2.1, w_11.2.1, w_7.2.2.2.1, w_11.2.2.1, 4) else (w_11.1, w_7.1, w_7.2.1, w_11.2.1, w_7.2.2.2.1, w_11.2.2.1, 6))) (F_X8_endsDay dy w_7.2.2.1 hu np hg)))) (F_X8_takesMeal q dq 0 dy sr il fu ae np res kd sf st co gf))))))
set_option maxHeartbeats 4000000 in
set_option maxRecDepth 100000 in
theorem e_X10_happens (l : Launch) (q : Nat) (dq : Nat) (w : Nat) (ln : Nat) (c : Nat) (n : Nat) (w_h : Nat) (w_w : Nat) (w_d : Nat) (wl : Nat) (wh : Nat → Int32) (ww : Nat → Int32) (wd : Nat → Int32) (dy : Int32) (sr : Int32) (il : Int32) (nf : Nat) (na : Nat) (nh : Nat) (fu : Nat → Int32) (ae : Nat → Int32) (hu : Nat → Int32) (c0 : Nat) (c1 : Nat) (c2 : Nat) (c3 : Nat) (c4 : Nat) (c5 : Nat) (c6 : Nat) (c7 : Nat) (c8 : Nat) (c9 : Nat) (c10 : Nat) (c11 : Nat) (c12 : Nat) (np : Nat) (nd : Nat) (sto : Int32) (res : Int32) (c17 : Nat) (c18 : Nat) (c19 : Nat) (kd : Nat → Int32) (hg : Nat → Int32) (sf : Nat → Int32) (st : Nat → Int32) (co : Nat → Int32) (gf : Nat → Int32) (ga : Nat → Int32) (hln : ln < 40) (hq1 : ww ln = nI q) (hr1 : wd ln = nI dq) (hq : q < 6) (hr : dq < 5) (hnp : np ≤ 6) : ex_M l yX10_happens cX10_happens 6 (some .int) 4 97 [ex_r w, ex_i (nI ln), ex_r c, ex_r n] [(w, ex_o 10 [ex_r w_h, ex_r w_w, ex_r w_d, ex_i (nI wl)]), (w_h, ex_a 1 40 wh), (w_w, ex_a 1 40 ww), (w_d, ex_a 1 40 wd), (n, ex_o 8 [ex_i dy, ex_i sr, ex_i il, ex_r nf, ex_r na, ex_r nh]), (nf, ex_a 1 6 fu), (na, ex_a 1 6 ae), (nh, ex_a 1 6 hu), (c, ex_o 0 [ex_r c0, ex_r c1, ex_r c2, ex_r c3, ex_r c4, ex_r c5, ex_r c6, ex_r c7, ex_r c8, ex_r c9, ex_r c10, ex_r c11, ex_r c12, ex_i (nI np), ex_i (nI nd), ex_i sto, ex_i res, ex_r c17, ex_r c18, ex_r c19]), (c1, ex_a 1 6 kd), (c2, ex_a 1 6 hg), (c5, ex_a 1 6 sf), (c6, ex_a 1 6 st), (c11, ex_a 1 5 co), (c17, ex_a 1 360 gf), (c18, ex_a 1 30 ga)] (fun zcs zr => zcs = [(w, ex_o 10 [ex_r w_h, ex_r w_w, ex_r w_d, ex_i (nI wl)]), (w_h, ex_a 1 40 wh), (w_w, ex_a 1 40 ww), (w_d, ex_a 1 40 wd), (n, ex_o 8 [ex_i ((F_X10_happens q dq ln wh dy sr il fu ae hu np res kd hg sf st co gf ga).1), ex_i ((F_X10_happens q dq ln wh dy sr il fu ae hu np res kd hg sf st co gf ga).2.1), ex_i ((F_X10_happens q dq ln wh dy sr il fu ae hu np res kd hg sf st co gf ga).2.2.1), ex_r nf, ex_r na, ex_r nh]), (nf, ex_a 1 6 ((F_X10_happens q dq ln wh dy sr il fu ae hu np res kd hg sf st co gf ga).2.2.2.1)), (na, ex_a 1 6 ((F_X10_happens q dq ln wh dy sr il fu ae hu np res kd hg sf st co gf ga).2.2.2.2.1)), (nh, ex_a 1 6 ((F_X10_happens q dq ln wh dy sr il fu ae hu np res kd hg sf st co gf ga).2.2.2.2.2.1)), (c, ex_o 0 [ex_r c0, ex_r c1, ex_r c2, ex_r c3, ex_r c4, ex_r c5, ex_r c6, ex_r c7, ex_r c8, ex_r c9, ex_r c10, ex_r c11, ex_r c12, ex_i (nI np), ex_i (nI nd), ex_i sto, ex_i res, ex_r c17, ex_r c18, ex_r c19]), (c1, ex_a 1 6 kd), (c2, ex_a 1 6 hg), (c5, ex_a 1 6 sf), (c6, ex_a 1 6 st), (c11, ex_a 1 5 co), (c17, ex_a 1 360 gf), (c18, ex_a 1 30 ga)] ∧ zr = some (ex_i (F_X10_happens q dq ln wh dy sr il fu ae hu np res kd hg sf st co gf ga).2.2.2.2.2.2)) := by
  refine X_meth (by decide) (Nat.le_of_ble_eq_true rfl) ?_
  generalize hV : F_X10_happens q dq ln wh dy sr il fu ae hu np res kd hg sf st co gf ga = V0
  have hV := hV.symm
  unfold F_X10_happens at hV
  try dsimp only at hV
  refine X_aload_n (j := 0) dX10_happens_0 rfl rfl ?_
  refine X_get (j := 0) fo_X10_9 dX10_happens_1 rfl rfl ?_
  refine X_iload_n (j := 1) dX10_happens_4 rfl rfl ?_
  refine X_iald (j := 1) (v := (wh ln)) dX10_happens_5 rfl (vp_in_nI (show ln < 40 by omega) (by decide)) (by rw [nI_clamp (by omega)]) ?_
  refine X_iconst (v := 1) dX10_happens_6 (by decide) ?_
  refine X_icmp_ne (tgt := 29) dX10_happens_7 (by decide) (fun c_1 => ?_) (fun c_1 => ?_)
  · have hV := hV.trans (if_neg c_1)
    refine X_iconst (v := 0) dX10_happens_29 (by decide) ?_
    refine X_istore (lv' := [(4, ex_i 0), (0, ex_r w), (1, ex_i (nI ln)), (2, ex_r c), (3, ex_r n)]) dX10_happens_30 (Nat.le_of_ble_eq_true rfl) rfl ?_
    refine X_aload_n (j := 1) dX10_happens_32 rfl rfl ?_
    refine X_get (j := 0) fo_X10_9 dX10_happens_33 rfl rfl ?_
    refine X_iload_n (j := 2) dX10_happens_36 rfl rfl ?_
    refine X_iald (j := 1) (v := (wh ln)) dX10_happens_37 rfl (vp_in_nI (show ln < 40 by omega) (by decide)) (by rw [nI_clamp (by omega)]) ?_
    refine X_if_eq (tgt := 109) dX10_happens_38 (by decide) (fun c_2 => ?_) (fun c_2 => ?_)
    · have hV := hV.trans (if_pos c_2)
      refine X_aload_n (j := 4) dX10_happens_109 rfl rfl ?_
      refine X_aload_n (j := 3) dX10_happens_110 rfl rfl ?_
      refine X_callV (j0 := 0) (rest := [(w, ex_o 10 [ex_r w_h, ex_r w_w, ex_r w_d, ex_i (nI wl)]), (w_h, ex_a 1 40 wh), (w_w, ex_a 1 40 ww), (w_d, ex_a 1 40 wd), (na, ex_a 1 6 ae), (c1, ex_a 1 6 kd), (c5, ex_a 1 6 sf), (c6, ex_a 1 6 st), (c11, ex_a 1 5 co), (c17, ex_a 1 360 gf), (c18, ex_a 1 30 ga)]) (stk := []) co_X10_109 rfl ⟨(Nat.le_of_ble_eq_true rfl), (Nat.le_of_ble_eq_true rfl)⟩ (e_X8_endsDay l n c dy sr il nf na nh fu hu c0 c1 c2 c3 c4 c5 c6 c7 c8 c9 c10 c11 c12 np nd sto res c17 c18 c19 hg (by first | assumption | omega)) dX10_happens_111 [4, 5, 7, 8, 10, 0, 1, 2, 3, 6, 9, 11, 12, 13, 14, 15] (show List.Perm [4, 5, 7, 8, 10, 0, 1, 2, 3, 6, 9, 11, 12, 13, 14, 15] (List.range 16) from by decide) rfl rfl rfl rfl (Nat.le_of_ble_eq_true rfl) (fun zc1 zr hq hk => ?_)
      obtain ⟨rfl, rfl⟩ := hq
      try dsimp only at hV
      generalize hq_w_3 : F_X8_endsDay dy fu hu np hg = w_3 at hV ⊢
      try dsimp only at hV
      refine X_if_le (tgt := 124) dX10_happens_114 (by decide) (fun c_4 => ?_) (fun c_4 => ?_)
      · have hV := hV.trans (if_pos c_4)
        refine X_iload (j := 0) dX10_happens_124 rfl ?_
        try dsimp only at hV
        refine X_re (cs' := [(w, ex_o 10 [ex_r w_h, ex_r w_w, ex_r w_d, ex_i (nI wl)]), (w_h, ex_a 1 40 wh), (w_w, ex_a 1 40 ww), (w_d, ex_a 1 40 wd), (n, ex_o 8 [ex_i w_3.1, ex_i sr, ex_i il, ex_r nf, ex_r na, ex_r nh]), (nf, ex_a 1 6 w_3.2.1), (na, ex_a 1 6 ae), (nh, ex_a 1 6 w_3.2.2.1), (c, ex_o 0 [ex_r c0, ex_r c1, ex_r c2, ex_r c3, ex_r c4, ex_r c5, ex_r c6, ex_r c7, ex_r c8, ex_r c9, ex_r c10, ex_r c11, ex_r c12, ex_i (nI np), ex_i (nI nd), ex_i sto, ex_i res, ex_r c17, ex_r c18, ex_r c19]), (c1, ex_a 1 6 kd), (c2, ex_a 1 6 hg), (c5, ex_a 1 6 sf), (c6, ex_a 1 6 st), (c11, ex_a 1 5 co), (c17, ex_a 1 360 gf), (c18, ex_a 1 30 ga)]) [5, 6, 7, 8, 0, 1, 9, 2, 3, 10, 4, 11, 12, 13, 14, 15] (show List.Perm [5, 6, 7, 8, 0, 1, 9, 2, 3, 10, 4, 11, 12, 13, 14, 15] (List.range 16) from by decide) rfl ?_
        exact X_iret ex_nI rfl dX10_happens_126 (by (repeat refine ex_kc ?_) <;> rfl) (by subst hV; exact ⟨rfl, rfl⟩)
      · have hV := hV.trans (if_neg c_4)
        refine X_iload (j := 0) dX10_happens_117 rfl ?_
        refine X_iconst (v := 2) dX10_happens_119 (by decide) ?_
        refine X_ior (v := 2) dX10_happens_120 (by decide) ?_
        refine X_goto (tgt := 126) dX10_happens_121 (by decide) ?_
        try dsimp only at hV
        refine X_re (cs' := [(w, ex_o 10 [ex_r w_h, ex_r w_w, ex_r w_d, ex_i (nI wl)]), (w_h, ex_a 1 40 wh), (w_w, ex_a 1 40 ww), (w_d, ex_a 1 40 wd), (n, ex_o 8 [ex_i w_3.1, ex_i sr, ex_i il, ex_r nf, ex_r na, ex_r nh]), (nf, ex_a 1 6 w_3.2.1), (na, ex_a 1 6 ae), (nh, ex_a 1 6 w_3.2.2.1), (c, ex_o 0 [ex_r c0, ex_r c1, ex_r c2, ex_r c3, ex_r c4, ex_r c5, ex_r c6, ex_r c7, ex_r c8, ex_r c9, ex_r c10, ex_r c11, ex_r c12, ex_i (nI np), ex_i (nI nd), ex_i sto, ex_i res, ex_r c17, ex_r c18, ex_r c19]), (c1, ex_a 1 6 kd), (c2, ex_a 1 6 hg), (c5, ex_a 1 6 sf), (c6, ex_a 1 6 st), (c11, ex_a 1 5 co), (c17, ex_a 1 360 gf), (c18, ex_a 1 30 ga)]) [5, 6, 7, 8, 0, 1, 9, 2, 3, 10, 4, 11, 12, 13, 14, 15] (show List.Perm [5, 6, 7, 8, 0, 1, 9, 2, 3, 10, 4, 11, 12, 13, 14, 15] (List.range 16) from by decide) rfl ?_
        exact X_iret ex_nI rfl dX10_happens_126 (by (repeat refine ex_kc ?_) <;> rfl) (by subst hV; exact ⟨rfl, rfl⟩)
    · have hV := hV.trans (if_neg c_2)
      refine X_aload_n (j := 4) dX10_happens_41 rfl rfl ?_
      refine X_aload_n (j := 3) dX10_happens_42 rfl rfl ?_
      refine X_aload_n (j := 1) dX10_happens_43 rfl rfl ?_
      refine X_get (j := 0) fo_X10_15 dX10_happens_44 rfl rfl ?_
      refine X_iload_n (j := 2) dX10_happens_47 rfl rfl ?_
      refine X_iald (j := 2) (v := nI q) dX10_happens_48 rfl (vp_in_nI (show ln < 40 by omega) (by decide)) (by rw [nI_clamp (by omega)]; exact hq1) ?_
      refine X_aload_n (j := 1) dX10_happens_49 rfl rfl ?_
      refine X_get (j := 0) fo_X10_18 dX10_happens_50 rfl rfl ?_
      refine X_iload_n (j := 2) dX10_happens_53 rfl rfl ?_
      refine X_iald (j := 3) (v := nI dq) dX10_happens_54 rfl (vp_in_nI (show ln < 40 by omega) (by decide)) (by rw [nI_clamp (by omega)]; exact hr1) ?_
      refine X_callV (j0 := 0) (rest := [(w, ex_o 10 [ex_r w_h, ex_r w_w, ex_r w_d, ex_i (nI wl)]), (w_h, ex_a 1 40 wh), (w_w, ex_a 1 40 ww), (w_d, ex_a 1 40 wd), (nf, ex_a 1 6 fu), (na, ex_a 1 6 ae), (nh, ex_a 1 6 hu), (c2, ex_a 1 6 hg), (c17, ex_a 1 360 gf), (c18, ex_a 1 30 ga)]) (stk := []) co_X10_101 rfl ⟨(Nat.le_of_ble_eq_true rfl), (Nat.le_of_ble_eq_true rfl)⟩ (e_X8_canEat l n c q dq dy sr il nf na nh c0 c1 c2 c3 c4 c5 c6 c7 c8 c9 c10 c11 c12 np nd sto res c17 c18 c19 kd sf st co (by first | assumption | omega) (by first | assumption | omega)) dX10_happens_55 [4, 8, 9, 11, 12, 13, 0, 1, 2, 3, 5, 6, 7, 10, 14, 15] (show List.Perm [4, 8, 9, 11, 12, 13, 0, 1, 2, 3, 5, 6, 7, 10, 14, 15] (List.range 16) from by decide) rfl rfl rfl rfl (Nat.le_of_ble_eq_true rfl) (fun zc1 zr hq hk => ?_)
      obtain ⟨rfl, rfl⟩ := hq
      refine X_if_ne (tgt := 63) dX10_happens_58 (by decide) (fun c_5 => ?_) (fun c_5 => ?_)
      · have hV := hV.trans (if_neg c_5)
        refine X_aload_n (j := 1) dX10_happens_63 rfl rfl ?_
        refine X_get (j := 6) fo_X10_9 dX10_happens_64 rfl rfl ?_
        refine X_iload_n (j := 2) dX10_happens_67 rfl rfl ?_
        refine X_iald (j := 7) (v := (wh ln)) dX10_happens_68 rfl (vp_in_nI (show ln < 40 by omega) (by decide)) (by rw [nI_clamp (by omega)]) ?_
        refine X_iconst (v := 2) dX10_happens_69 (by decide) ?_
        refine X_icmp_ne (tgt := 77) dX10_happens_70 (by decide) (fun c_6 => ?_) (fun c_6 => ?_)
        · have hV := hV.trans (if_neg c_6)
          refine X_iconst (v := 0) dX10_happens_77 (by decide) ?_
          refine X_istore (lv' := [(5, ex_i 0), (4, ex_i 0), (0, ex_r w), (1, ex_i (nI ln)), (2, ex_r c), (3, ex_r n)]) dX10_happens_78 (Nat.le_of_ble_eq_true rfl) rfl ?_
          refine X_aload_n (j := 5) dX10_happens_80 rfl rfl ?_
          refine X_aload_n (j := 4) dX10_happens_81 rfl rfl ?_
          refine X_aload_n (j := 2) dX10_happens_82 rfl rfl ?_
          refine X_get (j := 6) fo_X10_15 dX10_happens_83 rfl rfl ?_
          refine X_iload_n (j := 3) dX10_happens_86 rfl rfl ?_
          refine X_iald (j := 8) (v := nI q) dX10_happens_87 rfl (vp_in_nI (show ln < 40 by omega) (by decide)) (by rw [nI_clamp (by omega)]; exact hq1) ?_
          refine X_aload_n (j := 2) dX10_happens_88 rfl rfl ?_
          refine X_get (j := 6) fo_X10_18 dX10_happens_89 rfl rfl ?_
          refine X_iload_n (j := 3) dX10_happens_92 rfl rfl ?_
          refine X_iald (j := 9) (v := nI dq) dX10_happens_93 rfl (vp_in_nI (show ln < 40 by omega) (by decide)) (by rw [nI_clamp (by omega)]; exact hr1) ?_
          refine X_iload (j := 0) dX10_happens_94 rfl ?_
          refine X_callV (j0 := 0) (rest := [(w, ex_o 10 [ex_r w_h, ex_r w_w, ex_r w_d, ex_i (nI wl)]), (w_h, ex_a 1 40 wh), (w_w, ex_a 1 40 ww), (w_d, ex_a 1 40 wd), (nh, ex_a 1 6 hu), (c2, ex_a 1 6 hg), (c18, ex_a 1 30 ga)]) (stk := []) co_X10_105 rfl ⟨(Nat.le_of_ble_eq_true rfl), (Nat.le_of_ble_eq_true rfl)⟩ (e_X8_takesMeal l n c q dq 0 dy sr il nf na nh fu ae c0 c1 c2 c3 c4 c5 c6 c7 c8 c9 c10 c11 c12 np nd sto res c17 c18 c19 kd sf st co gf (by first | assumption | omega) (by first | assumption | omega) (by first | assumption | omega)) dX10_happens_96 [0, 10, 11, 1, 2, 3, 4, 5, 14, 6, 7, 8, 9, 12, 13, 15] (show List.Perm [0, 10, 11, 1, 2, 3, 4, 5, 14, 6, 7, 8, 9, 12, 13, 15] (List.range 16) from by decide) rfl rfl rfl rfl (Nat.le_of_ble_eq_true rfl) (fun zc1 zr hq hk => ?_)
          obtain ⟨rfl, rfl⟩ := hq
          try dsimp only at hV
          generalize hq_w_7 : F_X8_takesMeal q dq 0 dy sr il fu ae np res kd sf st co gf = w_7 at hV ⊢
          try dsimp only at hV
          refine X_if_eq (tgt := 106) dX10_happens_99 (by decide) (fun c_8 => ?_) (fun c_8 => ?_)
          · have hV := hV.trans (if_pos c_8)
            refine X_iconst (v := 0) dX10_happens_106 (by decide) ?_
            refine X_istore (lv' := [(4, ex_i 0), (5, ex_i 0), (0, ex_r w), (1, ex_i (nI ln)), (2, ex_r c), (3, ex_r n)]) dX10_happens_107 (Nat.le_of_ble_eq_true rfl) rfl ?_
            refine X_aload_n (j := 5) dX10_happens_109 rfl rfl ?_
            refine X_aload_n (j := 4) dX10_happens_110 rfl rfl ?_
            refine X_callV (j0 := 0) (rest := [(na, ex_a 1 6 w_7.2.2.2.1), (c1, ex_a 1 6 kd), (c5, ex_a 1 6 sf), (c6, ex_a 1 6 st), (c11, ex_a 1 5 co), (c17, ex_a 1 360 gf), (w, ex_o 10 [ex_r w_h, ex_r w_w, ex_r w_d, ex_i (nI wl)]), (w_h, ex_a 1 40 wh), (w_w, ex_a 1 40 ww), (w_d, ex_a 1 40 wd), (c18, ex_a 1 30 ga)]) (stk := []) co_X10_109 rfl ⟨(Nat.le_of_ble_eq_true rfl), (Nat.le_of_ble_eq_true rfl)⟩ (e_X8_endsDay l n c dy w_7.1 w_7.2.1 nf na nh w_7.2.2.1 hu c0 c1 c2 c3 c4 c5 c6 c7 c8 c9 c10 c11 c12 np nd sto res c17 c18 c19 hg (by first | assumption | omega)) dX10_happens_111 [0, 1, 13, 3, 14, 2, 4, 5, 6, 7, 8, 9, 10, 11, 12, 15] (show List.Perm [0, 1, 13, 3, 14, 2, 4, 5, 6, 7, 8, 9, 10, 11, 12, 15] (List.range 16) from by decide) rfl rfl rfl rfl (Nat.le_of_ble_eq_true rfl) (fun zc1 zr hq hk => ?_)
            obtain ⟨rfl, rfl⟩ := hq
            try dsimp only at hV
            generalize hq_w_9 : F_X8_endsDay dy w_7.2.2.1 hu np hg = w_9 at hV ⊢
            try dsimp only at hV
            refine X_if_le (tgt := 124) dX10_happens_114 (by decide) (fun c_10 => ?_) (fun c_10 => ?_)
            · have hV := hV.trans (if_pos c_10)
              refine X_iload (j := 0) dX10_happens_124 rfl ?_
              try dsimp only at hV
              refine X_re (cs' := [(w, ex_o 10 [ex_r w_h, ex_r w_w, ex_r w_d, ex_i (nI wl)]), (w_h, ex_a 1 40 wh), (w_w, ex_a 1 40 ww), (w_d, ex_a 1 40 wd), (n, ex_o 8 [ex_i w_9.1, ex_i w_7.1, ex_i w_7.2.1, ex_r nf, ex_r na, ex_r nh]), (nf, ex_a 1 6 w_9.2.1), (na, ex_a 1 6 w_7.2.2.2.1), (nh, ex_a 1 6 w_9.2.2.1), (c, ex_o 0 [ex_r c0, ex_r c1, ex_r c2, ex_r c3, ex_r c4, ex_r c5, ex_r c6, ex_r c7, ex_r c8, ex_r c9, ex_r c10, ex_r c11, ex_r c12, ex_i (nI np), ex_i (nI nd), ex_i sto, ex_i res, ex_r c17, ex_r c18, ex_r c19]), (c1, ex_a 1 6 kd), (c2, ex_a 1 6 hg), (c5, ex_a 1 6 sf), (c6, ex_a 1 6 st), (c11, ex_a 1 5 co), (c17, ex_a 1 360 gf), (c18, ex_a 1 30 ga)]) [11, 12, 13, 14, 0, 1, 5, 2, 3, 6, 4, 7, 8, 9, 10, 15] (show List.Perm [11, 12, 13, 14, 0, 1, 5, 2, 3, 6, 4, 7, 8, 9, 10, 15] (List.range 16) from by decide) rfl ?_
              exact X_iret ex_nI rfl dX10_happens_126 (by (repeat refine ex_kc ?_) <;> rfl) (by subst hV; exact ⟨rfl, rfl⟩)
            · have hV := hV.trans (if_neg c_10)
              refine X_iload (j := 0) dX10_happens_117 rfl ?_
              refine X_iconst (v := 2) dX10_happens_119 (by decide) ?_
              refine X_ior (v := 2) dX10_happens_120 (by decide) ?_
              refine X_goto (tgt := 126) dX10_happens_121 (by decide) ?_
              try dsimp only at hV
              refine X_re (cs' := [(w, ex_o 10 [ex_r w_h, ex_r w_w, ex_r w_d, ex_i (nI wl)]), (w_h, ex_a 1 40 wh), (w_w, ex_a 1 40 ww), (w_d, ex_a 1 40 wd), (n, ex_o 8 [ex_i w_9.1, ex_i w_7.1, ex_i w_7.2.1, ex_r nf, ex_r na, ex_r nh]), (nf, ex_a 1 6 w_9.2.1), (na, ex_a 1 6 w_7.2.2.2.1), (nh, ex_a 1 6 w_9.2.2.1), (c, ex_o 0 [ex_r c0, ex_r c1, ex_r c2, ex_r c3, ex_r c4, ex_r c5, ex_r c6, ex_r c7, ex_r c8, ex_r c9, ex_r c10, ex_r c11, ex_r c12, ex_i (nI np), ex_i (nI nd), ex_i sto, ex_i res, ex_r c17, ex_r c18, ex_r c19]), (c1, ex_a 1 6 kd), (c2, ex_a 1 6 hg), (c5, ex_a 1 6 sf), (c6, ex_a 1 6 st), (c11, ex_a 1 5 co), (c17, ex_a 1 360 gf), (c18, ex_a 1 30 ga)]) [11, 12, 13, 14, 0, 1, 5, 2, 3, 6, 4, 7, 8, 9, 10, 15] (show List.Perm [11, 12, 13, 14, 0, 1, 5, 2, 3, 6, 4, 7, 8, 9, 10, 15] (List.range 16) from by decide) rfl ?_
              exact X_iret ex_nI rfl dX10_happens_126 (by (repeat refine ex_kc ?_) <;> rfl) (by subst hV; exact ⟨rfl, rfl⟩)
          · have hV := hV.trans (if_neg c_8)
            refine X_iconst (v := 4) dX10_happens_102 (by decide) ?_
            refine X_goto (tgt := 107) dX10_happens_103 (by decide) ?_
            refine X_istore (lv' := [(4, ex_i 4), (5, ex_i 0), (0, ex_r w), (1, ex_i (nI ln)), (2, ex_r c), (3, ex_r n)]) dX10_happens_107 (Nat.le_of_ble_eq_true rfl) rfl ?_
            refine X_aload_n (j := 5) dX10_happens_109 rfl rfl ?_
            refine X_aload_n (j := 4) dX10_happens_110 rfl rfl ?_
            refine X_callV (j0 := 0) (rest := [(na, ex_a 1 6 w_7.2.2.2.1), (c1, ex_a 1 6 kd), (c5, ex_a 1 6 sf), (c6, ex_a 1 6 st), (c11, ex_a 1 5 co), (c17, ex_a 1 360 gf), (w, ex_o 10 [ex_r w_h, ex_r w_w, ex_r w_d, ex_i (nI wl)]), (w_h, ex_a 1 40 wh), (w_w, ex_a 1 40 ww), (w_d, ex_a 1 40 wd), (c18, ex_a 1 30 ga)]) (stk := []) co_X10_109 rfl ⟨(Nat.le_of_ble_eq_true rfl), (Nat.le_of_ble_eq_true rfl)⟩ (e_X8_endsDay l n c dy w_7.1 w_7.2.1 nf na nh w_7.2.2.1 hu c0 c1 c2 c3 c4 c5 c6 c7 c8 c9 c10 c11 c12 np nd sto res c17 c18 c19 hg (by first | assumption | omega)) dX10_happens_111 [0, 1, 13, 3, 14, 2, 4, 5, 6, 7, 8, 9, 10, 11, 12, 15] (show List.Perm [0, 1, 13, 3, 14, 2, 4, 5, 6, 7, 8, 9, 10, 11, 12, 15] (List.range 16) from by decide) rfl rfl rfl rfl (Nat.le_of_ble_eq_true rfl) (fun zc1 zr hq hk => ?_)
            obtain ⟨rfl, rfl⟩ := hq
            try dsimp only at hV
            generalize hq_w_11 : F_X8_endsDay dy w_7.2.2.1 hu np hg = w_11 at hV ⊢
            try dsimp only at hV
            refine X_if_le (tgt := 124) dX10_happens_114 (by decide) (fun c_12 => ?_) (fun c_12 => ?_)
            · have hV := hV.trans (if_pos c_12)
              refine X_iload (j := 0) dX10_happens_124 rfl ?_
              try dsimp only at hV
              refine X_re (cs' := [(w, ex_o 10 [ex_r w_h, ex_r w_w, ex_r w_d, ex_i (nI wl)]), (w_h, ex_a 1 40 wh), (w_w, ex_a 1 40 ww), (w_d, ex_a 1 40 wd), (n, ex_o 8 [ex_i w_11.1, ex_i w_7.1, ex_i w_7.2.1, ex_r nf, ex_r na, ex_r nh]), (nf, ex_a 1 6 w_11.2.1), (na, ex_a 1 6 w_7.2.2.2.1), (nh, ex_a 1 6 w_11.2.2.1), (c, ex_o 0 [ex_r c0, ex_r c1, ex_r c2, ex_r c3, ex_r c4, ex_r c5, ex_r c6, ex_r c7, ex_r c8, ex_r c9, ex_r c10, ex_r c11, ex_r c12, ex_i (nI np), ex_i (nI nd), ex_i sto, ex_i res, ex_r c17, ex_r c18, ex_r c19]), (c1, ex_a 1 6 kd), (c2, ex_a 1 6 hg), (c5, ex_a 1 6 sf), (c6, ex_a 1 6 st), (c11, ex_a 1 5 co), (c17, ex_a 1 360 gf), (c18, ex_a 1 30 ga)]) [11, 12, 13, 14, 0, 1, 5, 2, 3, 6, 4, 7, 8, 9, 10, 15] (show List.Perm [11, 12, 13, 14, 0, 1, 5, 2, 3, 6, 4, 7, 8, 9, 10, 15] (List.range 16) from by decide) rfl ?_
              exact X_iret ex_nI rfl dX10_happens_126 (by (repeat refine ex_kc ?_) <;> rfl) (by subst hV; exact ⟨rfl, rfl⟩)
            · have hV := hV.trans (if_neg c_12)
              refine X_iload (j := 0) dX10_happens_117 rfl ?_
              refine X_iconst (v := 2) dX10_happens_119 (by decide) ?_
              refine X_ior (v := 6) dX10_happens_120 (by decide) ?_
              refine X_goto (tgt := 126) dX10_happens_121 (by decide) ?_
              try dsimp only at hV
              refine X_re (cs' := [(w, ex_o 10 [ex_r w_h, ex_r w_w, ex_r w_d, ex_i (nI wl)]), (w_h, ex_a 1 40 wh), (w_w, ex_a 1 40 ww), (w_d, ex_a 1 40 wd), (n, ex_o 8 [ex_i w_11.1, ex_i w_7.1, ex_i w_7.2.1, ex_r nf, ex_r na, ex_r nh]), (nf, ex_a 1 6 w_11.2.1), (na, ex_a 1 6 w_7.2.2.2.1), (nh, ex_a 1 6 w_11.2.2.1), (c, ex_o 0 [ex_r c0, ex_r c1, ex_r c2, ex_r c3, ex_r c4, ex_r c5, ex_r c6, ex_r c7, ex_r c8, ex_r c9, ex_r c10, ex_r c11, ex_r c12, ex_i (nI np), ex_i (nI nd), ex_i sto, ex_i res, ex_r c17, ex_r c18, ex_r c19]), (c1, ex_a 1 6 kd), (c2, ex_a 1 6 hg), (c5, ex_a 1 6 sf), (c6, ex_a 1 6 st), (c11, ex_a 1 5 co), (c17, ex_a 1 360 gf), (c18, ex_a 1 30 ga)]) [11, 12, 13, 14, 0, 1, 5, 2, 3, 6, 4, 7, 8, 9, 10, 15] (show List.Perm [11, 12, 13, 14, 0, 1, 5, 2, 3, 6, 4, 7, 8, 9, 10, 15] (List.range 16) from by decide) rfl ?_
              exact X_iret ex_nI rfl dX10_happens_126 (by (repeat refine ex_kc ?_) <;> rfl) (by subst hV; exact ⟨rfl, rfl⟩)
        · have hV := hV.trans (if_pos c_6)
          refine X_iconst (v := 1) dX10_happens_73 (by decide) ?_
          refine X_goto (tgt := 78) dX10_happens_74 (by decide) ?_
          refine X_istore (lv' := [(5, ex_i 1), (4, ex_i 0), (0, ex_r w), (1, ex_i (nI ln)), (2, ex_r c), (3, ex_r n)]) dX10_happens_78 (Nat.le_of_ble_eq_true rfl) rfl ?_
          refine X_aload_n (j := 5) dX10_happens_80 rfl rfl ?_
          refine X_aload_n (j := 4) dX10_happens_81 rfl rfl ?_
          refine X_aload_n (j := 2) dX10_happens_82 rfl rfl ?_
          refine X_get (j := 6) fo_X10_15 dX10_happens_83 rfl rfl ?_
          refine X_iload_n (j := 3) dX10_happens_86 rfl rfl ?_
          refine X_iald (j := 8) (v := nI q) dX10_happens_87 rfl (vp_in_nI (show ln < 40 by omega) (by decide)) (by rw [nI_clamp (by omega)]; exact hq1) ?_
          refine X_aload_n (j := 2) dX10_happens_88 rfl rfl ?_
          refine X_get (j := 6) fo_X10_18 dX10_happens_89 rfl rfl ?_
          refine X_iload_n (j := 3) dX10_happens_92 rfl rfl ?_
          refine X_iald (j := 9) (v := nI dq) dX10_happens_93 rfl (vp_in_nI (show ln < 40 by omega) (by decide)) (by rw [nI_clamp (by omega)]; exact hr1) ?_
          refine X_iload (j := 0) dX10_happens_94 rfl ?_
          refine X_callV (j0 := 0) (rest := [(w, ex_o 10 [ex_r w_h, ex_r w_w, ex_r w_d, ex_i (nI wl)]), (w_h, ex_a 1 40 wh), (w_w, ex_a 1 40 ww), (w_d, ex_a 1 40 wd), (nh, ex_a 1 6 hu), (c2, ex_a 1 6 hg), (c18, ex_a 1 30 ga)]) (stk := []) co_X10_105 rfl ⟨(Nat.le_of_ble_eq_true rfl), (Nat.le_of_ble_eq_true rfl)⟩ (e_X8_takesMeal l n c q dq 1 dy sr il nf na nh fu ae c0 c1 c2 c3 c4 c5 c6 c7 c8 c9 c10 c11 c12 np nd sto res c17 c18 c19 kd sf st co gf (by first | assumption | omega) (by first | assumption | omega) (by first | assumption | omega)) dX10_happens_96 [0, 10, 11, 1, 2, 3, 4, 5, 14, 6, 7, 8, 9, 12, 13, 15] (show List.Perm [0, 10, 11, 1, 2, 3, 4, 5, 14, 6, 7, 8, 9, 12, 13, 15] (List.range 16) from by decide) rfl rfl rfl rfl (Nat.le_of_ble_eq_true rfl) (fun zc1 zr hq hk => ?_)
          obtain ⟨rfl, rfl⟩ := hq
          try dsimp only at hV
          generalize hq_w_13 : F_X8_takesMeal q dq 1 dy sr il fu ae np res kd sf st co gf = w_13 at hV ⊢
          try dsimp only at hV
          refine X_if_eq (tgt := 106) dX10_happens_99 (by decide) (fun c_14 => ?_) (fun c_14 => ?_)
          · have hV := hV.trans (if_pos c_14)
            refine X_iconst (v := 0) dX10_happens_106 (by decide) ?_
            refine X_istore (lv' := [(4, ex_i 0), (5, ex_i 1), (0, ex_r w), (1, ex_i (nI ln)), (2, ex_r c), (3, ex_r n)]) dX10_happens_107 (Nat.le_of_ble_eq_true rfl) rfl ?_
            refine X_aload_n (j := 5) dX10_happens_109 rfl rfl ?_
            refine X_aload_n (j := 4) dX10_happens_110 rfl rfl ?_
            refine X_callV (j0 := 0) (rest := [(na, ex_a 1 6 w_13.2.2.2.1), (c1, ex_a 1 6 kd), (c5, ex_a 1 6 sf), (c6, ex_a 1 6 st), (c11, ex_a 1 5 co), (c17, ex_a 1 360 gf), (w, ex_o 10 [ex_r w_h, ex_r w_w, ex_r w_d, ex_i (nI wl)]), (w_h, ex_a 1 40 wh), (w_w, ex_a 1 40 ww), (w_d, ex_a 1 40 wd), (c18, ex_a 1 30 ga)]) (stk := []) co_X10_109 rfl ⟨(Nat.le_of_ble_eq_true rfl), (Nat.le_of_ble_eq_true rfl)⟩ (e_X8_endsDay l n c dy w_13.1 w_13.2.1 nf na nh w_13.2.2.1 hu c0 c1 c2 c3 c4 c5 c6 c7 c8 c9 c10 c11 c12 np nd sto res c17 c18 c19 hg (by first | assumption | omega)) dX10_happens_111 [0, 1, 13, 3, 14, 2, 4, 5, 6, 7, 8, 9, 10, 11, 12, 15] (show List.Perm [0, 1, 13, 3, 14, 2, 4, 5, 6, 7, 8, 9, 10, 11, 12, 15] (List.range 16) from by decide) rfl rfl rfl rfl (Nat.le_of_ble_eq_true rfl) (fun zc1 zr hq hk => ?_)
            obtain ⟨rfl, rfl⟩ := hq
            try dsimp only at hV
            generalize hq_w_15 : F_X8_endsDay dy w_13.2.2.1 hu np hg = w_15 at hV ⊢
            try dsimp only at hV
            refine X_if_le (tgt := 124) dX10_happens_114 (by decide) (fun c_16 => ?_) (fun c_16 => ?_)
            · have hV := hV.trans (if_pos c_16)
              refine X_iload (j := 0) dX10_happens_124 rfl ?_
              try dsimp only at hV
              refine X_re (cs' := [(w, ex_o 10 [ex_r w_h, ex_r w_w, ex_r w_d, ex_i (nI wl)]), (w_h, ex_a 1 40 wh), (w_w, ex_a 1 40 ww), (w_d, ex_a 1 40 wd), (n, ex_o 8 [ex_i w_15.1, ex_i w_13.1, ex_i w_13.2.1, ex_r nf, ex_r na, ex_r nh]), (nf, ex_a 1 6 w_15.2.1), (na, ex_a 1 6 w_13.2.2.2.1), (nh, ex_a 1 6 w_15.2.2.1), (c, ex_o 0 [ex_r c0, ex_r c1, ex_r c2, ex_r c3, ex_r c4, ex_r c5, ex_r c6, ex_r c7, ex_r c8, ex_r c9, ex_r c10, ex_r c11, ex_r c12, ex_i (nI np), ex_i (nI nd), ex_i sto, ex_i res, ex_r c17, ex_r c18, ex_r c19]), (c1, ex_a 1 6 kd), (c2, ex_a 1 6 hg), (c5, ex_a 1 6 sf), (c6, ex_a 1 6 st), (c11, ex_a 1 5 co), (c17, ex_a 1 360 gf), (c18, ex_a 1 30 ga)]) [11, 12, 13, 14, 0, 1, 5, 2, 3, 6, 4, 7, 8, 9, 10, 15] (show List.Perm [11, 12, 13, 14, 0, 1, 5, 2, 3, 6, 4, 7, 8, 9, 10, 15] (List.range 16) from by decide) rfl ?_
              exact X_iret ex_nI rfl dX10_happens_126 (by (repeat refine ex_kc ?_) <;> rfl) (by subst hV; exact ⟨rfl, rfl⟩)
            · have hV := hV.trans (if_neg c_16)
              refine X_iload (j := 0) dX10_happens_117 rfl ?_
              refine X_iconst (v := 2) dX10_happens_119 (by decide) ?_
              refine X_ior (v := 2) dX10_happens_120 (by decide) ?_
              refine X_goto (tgt := 126) dX10_happens_121 (by decide) ?_
              try dsimp only at hV
              refine X_re (cs' := [(w, ex_o 10 [ex_r w_h, ex_r w_w, ex_r w_d, ex_i (nI wl)]), (w_h, ex_a 1 40 wh), (w_w, ex_a 1 40 ww), (w_d, ex_a 1 40 wd), (n, ex_o 8 [ex_i w_15.1, ex_i w_13.1, ex_i w_13.2.1, ex_r nf, ex_r na, ex_r nh]), (nf, ex_a 1 6 w_15.2.1), (na, ex_a 1 6 w_13.2.2.2.1), (nh, ex_a 1 6 w_15.2.2.1), (c, ex_o 0 [ex_r c0, ex_r c1, ex_r c2, ex_r c3, ex_r c4, ex_r c5, ex_r c6, ex_r c7, ex_r c8, ex_r c9, ex_r c10, ex_r c11, ex_r c12, ex_i (nI np), ex_i (nI nd), ex_i sto, ex_i res, ex_r c17, ex_r c18, ex_r c19]), (c1, ex_a 1 6 kd), (c2, ex_a 1 6 hg), (c5, ex_a 1 6 sf), (c6, ex_a 1 6 st), (c11, ex_a 1 5 co), (c17, ex_a 1 360 gf), (c18, ex_a 1 30 ga)]) [11, 12, 13, 14, 0, 1, 5, 2, 3, 6, 4, 7, 8, 9, 10, 15] (show List.Perm [11, 12, 13, 14, 0, 1, 5, 2, 3, 6, 4, 7, 8, 9, 10, 15] (List.range 16) from by decide) rfl ?_
              exact X_iret ex_nI rfl dX10_happens_126 (by (repeat refine ex_kc ?_) <;> rfl) (by subst hV; exact ⟨rfl, rfl⟩)
          · have hV := hV.trans (if_neg c_14)
            refine X_iconst (v := 4) dX10_happens_102 (by decide) ?_
            refine X_goto (tgt := 107) dX10_happens_103 (by decide) ?_
            refine X_istore (lv' := [(4, ex_i 4), (5, ex_i 1), (0, ex_r w), (1, ex_i (nI ln)), (2, ex_r c), (3, ex_r n)]) dX10_happens_107 (Nat.le_of_ble_eq_true rfl) rfl ?_
            refine X_aload_n (j := 5) dX10_happens_109 rfl rfl ?_
            refine X_aload_n (j := 4) dX10_happens_110 rfl rfl ?_
            refine X_callV (j0 := 0) (rest := [(na, ex_a 1 6 w_13.2.2.2.1), (c1, ex_a 1 6 kd), (c5, ex_a 1 6 sf), (c6, ex_a 1 6 st), (c11, ex_a 1 5 co), (c17, ex_a 1 360 gf), (w, ex_o 10 [ex_r w_h, ex_r w_w, ex_r w_d, ex_i (nI wl)]), (w_h, ex_a 1 40 wh), (w_w, ex_a 1 40 ww), (w_d, ex_a 1 40 wd), (c18, ex_a 1 30 ga)]) (stk := []) co_X10_109 rfl ⟨(Nat.le_of_ble_eq_true rfl), (Nat.le_of_ble_eq_true rfl)⟩ (e_X8_endsDay l n c dy w_13.1 w_13.2.1 nf na nh w_13.2.2.1 hu c0 c1 c2 c3 c4 c5 c6 c7 c8 c9 c10 c11 c12 np nd sto res c17 c18 c19 hg (by first | assumption | omega)) dX10_happens_111 [0, 1, 13, 3, 14, 2, 4, 5, 6, 7, 8, 9, 10, 11, 12, 15] (show List.Perm [0, 1, 13, 3, 14, 2, 4, 5, 6, 7, 8, 9, 10, 11, 12, 15] (List.range 16) from by decide) rfl rfl rfl rfl (Nat.le_of_ble_eq_true rfl) (fun zc1 zr hq hk => ?_)
            obtain ⟨rfl, rfl⟩ := hq
            try dsimp only at hV
            generalize hq_w_17 : F_X8_endsDay dy w_13.2.2.1 hu np hg = w_17 at hV ⊢
            try dsimp only at hV
            refine X_if_le (tgt := 124) dX10_happens_114 (by decide) (fun c_18 => ?_) (fun c_18 => ?_)
            · have hV := hV.trans (if_pos c_18)
              refine X_iload (j := 0) dX10_happens_124 rfl ?_
              try dsimp only at hV
              refine X_re (cs' := [(w, ex_o 10 [ex_r w_h, ex_r w_w, ex_r w_d, ex_i (nI wl)]), (w_h, ex_a 1 40 wh), (w_w, ex_a 1 40 ww), (w_d, ex_a 1 40 wd), (n, ex_o 8 [ex_i w_17.1, ex_i w_13.1, ex_i w_13.2.1, ex_r nf, ex_r na, ex_r nh]), (nf, ex_a 1 6 w_17.2.1), (na, ex_a 1 6 w_13.2.2.2.1), (nh, ex_a 1 6 w_17.2.2.1), (c, ex_o 0 [ex_r c0, ex_r c1, ex_r c2, ex_r c3, ex_r c4, ex_r c5, ex_r c6, ex_r c7, ex_r c8, ex_r c9, ex_r c10, ex_r c11, ex_r c12, ex_i (nI np), ex_i (nI nd), ex_i sto, ex_i res, ex_r c17, ex_r c18, ex_r c19]), (c1, ex_a 1 6 kd), (c2, ex_a 1 6 hg), (c5, ex_a 1 6 sf), (c6, ex_a 1 6 st), (c11, ex_a 1 5 co), (c17, ex_a 1 360 gf), (c18, ex_a 1 30 ga)]) [11, 12, 13, 14, 0, 1, 5, 2, 3, 6, 4, 7, 8, 9, 10, 15] (show List.Perm [11, 12, 13, 14, 0, 1, 5, 2, 3, 6, 4, 7, 8, 9, 10, 15] (List.range 16) from by decide) rfl ?_
              exact X_iret ex_nI rfl dX10_happens_126 (by (repeat refine ex_kc ?_) <;> rfl) (by subst hV; exact ⟨rfl, rfl⟩)
            · have hV := hV.trans (if_neg c_18)
              refine X_iload (j := 0) dX10_happens_117 rfl ?_
              refine X_iconst (v := 2) dX10_happens_119 (by decide) ?_
              refine X_ior (v := 6) dX10_happens_120 (by decide) ?_
              refine X_goto (tgt := 126) dX10_happens_121 (by decide) ?_
              try dsimp only at hV
              refine X_re (cs' := [(w, ex_o 10 [ex_r w_h, ex_r w_w, ex_r w_d, ex_i (nI wl)]), (w_h, ex_a 1 40 wh), (w_w, ex_a 1 40 ww), (w_d, ex_a 1 40 wd), (n, ex_o 8 [ex_i w_17.1, ex_i w_13.1, ex_i w_13.2.1, ex_r nf, ex_r na, ex_r nh]), (nf, ex_a 1 6 w_17.2.1), (na, ex_a 1 6 w_13.2.2.2.1), (nh, ex_a 1 6 w_17.2.2.1), (c, ex_o 0 [ex_r c0, ex_r c1, ex_r c2, ex_r c3, ex_r c4, ex_r c5, ex_r c6, ex_r c7, ex_r c8, ex_r c9, ex_r c10, ex_r c11, ex_r c12, ex_i (nI np), ex_i (nI nd), ex_i sto, ex_i res, ex_r c17, ex_r c18, ex_r c19]), (c1, ex_a 1 6 kd), (c2, ex_a 1 6 hg), (c5, ex_a 1 6 sf), (c6, ex_a 1 6 st), (c11, ex_a 1 5 co), (c17, ex_a 1 360 gf), (c18, ex_a 1 30 ga)]) [11, 12, 13, 14, 0, 1, 5, 2, 3, 6, 4, 7, 8, 9, 10, 15] (show List.Perm [11, 12, 13, 14, 0, 1, 5, 2, 3, 6, 4, 7, 8, 9, 10, 15] (List.range 16) from by decide) rfl ?_
              exact X_iret ex_nI rfl dX10_happens_126 (by (repeat refine ex_kc ?_) <;> rfl) (by subst hV; exact ⟨rfl, rfl⟩)
      · have hV := hV.trans (if_pos c_5)
        refine X_iconst (v := 1) dX10_happens_61 (by decide) ?_
        try dsimp only at hV
        refine X_re (cs' := [(w, ex_o 10 [ex_r w_h, ex_r w_w, ex_r w_d, ex_i (nI wl)]), (w_h, ex_a 1 40 wh), (w_w, ex_a 1 40 ww), (w_d, ex_a 1 40 wd), (n, ex_o 8 [ex_i dy, ex_i sr, ex_i il, ex_r nf, ex_r na, ex_r nh]), (nf, ex_a 1 6 fu), (na, ex_a 1 6 ae), (nh, ex_a 1 6 hu), (c, ex_o 0 [ex_r c0, ex_r c1, ex_r c2, ex_r c3, ex_r c4, ex_r c5, ex_r c6, ex_r c7, ex_r c8, ex_r c9, ex_r c10, ex_r c11, ex_r c12, ex_i (nI np), ex_i (nI nd), ex_i sto, ex_i res, ex_r c17, ex_r c18, ex_r c19]), (c1, ex_a 1 6 kd), (c2, ex_a 1 6 hg), (c5, ex_a 1 6 sf), (c6, ex_a 1 6 st), (c11, ex_a 1 5 co), (c17, ex_a 1 360 gf), (c18, ex_a 1 30 ga)]) [6, 7, 8, 9, 0, 10, 11, 12, 1, 2, 13, 3, 4, 5, 14, 15] (show List.Perm [6, 7, 8, 9, 0, 10, 11, 12, 1, 2, 13, 3, 4, 5, 14, 15] (List.range 16) from by decide) rfl ?_
        exact X_iret ex_nI rfl dX10_happens_62 (by (repeat refine ex_kc ?_) <;> rfl) (by subst hV; exact ⟨rfl, rfl⟩)
  · have hV := hV.trans (if_pos c_1)
    refine X_aload_n (j := 3) dX10_happens_10 rfl rfl ?_
    refine X_aload_n (j := 2) dX10_happens_11 rfl rfl ?_
    refine X_aload_n (j := 0) dX10_happens_12 rfl rfl ?_
    refine X_get (j := 0) fo_X10_15 dX10_happens_13 rfl rfl ?_
    refine X_iload_n (j := 1) dX10_happens_16 rfl rfl ?_
    refine X_iald (j := 2) (v := nI q) dX10_happens_17 rfl (vp_in_nI (show ln < 40 by omega) (by decide)) (by rw [nI_clamp (by omega)]; exact hq1) ?_
    refine X_aload_n (j := 0) dX10_happens_18 rfl rfl ?_
    refine X_get (j := 0) fo_X10_18 dX10_happens_19 rfl rfl ?_
    refine X_iload_n (j := 1) dX10_happens_22 rfl rfl ?_
    refine X_iald (j := 3) (v := nI dq) dX10_happens_23 rfl (vp_in_nI (show ln < 40 by omega) (by decide)) (by rw [nI_clamp (by omega)]; exact hr1) ?_
    refine X_callV (j0 := 0) (rest := [(w, ex_o 10 [ex_r w_h, ex_r w_w, ex_r w_d, ex_i (nI wl)]), (w_h, ex_a 1 40 wh), (w_w, ex_a 1 40 ww), (w_d, ex_a 1 40 wd), (na, ex_a 1 6 ae), (nh, ex_a 1 6 hu), (c1, ex_a 1 6 kd), (c2, ex_a 1 6 hg), (c5, ex_a 1 6 sf), (c6, ex_a 1 6 st), (c11, ex_a 1 5 co), (c17, ex_a 1 360 gf)]) (stk := []) co_X10_95 rfl ⟨(Nat.le_of_ble_eq_true rfl), (Nat.le_of_ble_eq_true rfl)⟩ (e_X8_eatsAbroad l n c q dq dy sr il nf na nh fu c0 c1 c2 c3 c4 c5 c6 c7 c8 c9 c10 c11 c12 np nd sto res c17 c18 c19 ga (by first | assumption | omega) (by first | assumption | omega)) dX10_happens_24 [4, 5, 8, 15, 0, 1, 2, 3, 6, 7, 9, 10, 11, 12, 13, 14] (show List.Perm [4, 5, 8, 15, 0, 1, 2, 3, 6, 7, 9, 10, 11, 12, 13, 14] (List.range 16) from by decide) rfl rfl rfl rfl (Nat.le_of_ble_eq_true rfl) (fun zc1 zr hq hk => ?_)
    obtain ⟨rfl, rfl⟩ := hq
    try dsimp only at hV
    generalize hq_w_19 : F_X8_eatsAbroad q dq fu ga = w_19 at hV ⊢
    try dsimp only at hV
    refine X_iconst (v := 0) dX10_happens_27 (by decide) ?_
    try dsimp only at hV
    refine X_re (cs' := [(w, ex_o 10 [ex_r w_h, ex_r w_w, ex_r w_d, ex_i (nI wl)]), (w_h, ex_a 1 40 wh), (w_w, ex_a 1 40 ww), (w_d, ex_a 1 40 wd), (n, ex_o 8 [ex_i dy, ex_i sr, ex_i il, ex_r nf, ex_r na, ex_r nh]), (nf, ex_a 1 6 w_19), (na, ex_a 1 6 ae), (nh, ex_a 1 6 hu), (c, ex_o 0 [ex_r c0, ex_r c1, ex_r c2, ex_r c3, ex_r c4, ex_r c5, ex_r c6, ex_r c7, ex_r c8, ex_r c9, ex_r c10, ex_r c11, ex_r c12, ex_i (nI np), ex_i (nI nd), ex_i sto, ex_i res, ex_r c17, ex_r c18, ex_r c19]), (c1, ex_a 1 6 kd), (c2, ex_a 1 6 hg), (c5, ex_a 1 6 sf), (c6, ex_a 1 6 st), (c11, ex_a 1 5 co), (c17, ex_a 1 360 gf), (c18, ex_a 1 30 ga)]) [4, 5, 6, 7, 0, 1, 8, 9, 2, 10, 11, 12, 13, 14, 15, 3] (show List.Perm [4, 5, 6, 7, 0, 1, 8, 9, 2, 10, 11, 12, 13, 14, 15, 3] (List.range 16) from by decide) rfl ?_
    exact X_iret ex_nI rfl dX10_happens_28 (by (repeat refine ex_kc ?_) <;> rfl) (by subst hV; exact ⟨rfl, rfl⟩)
