def F_X7_eaterOf (ch : Nat) : Nat := (ch / 10)
set_option maxHeartbeats 4000000 in
set_option maxRecDepth 100000 in
theorem e_X7_eaterOf (l : Launch) (ch : Nat) (hch : ch < 61) : ex_M l yX7_eaterOf cX7_eaterOf 1 (some .int) 0 0 [ex_i (nI ch)] [] (fun zcs zr => zcs = [] ∧ zr = some (ex_i (nI (F_X7_eaterOf ch)))) := by
  refine X_meth (by decide) (Nat.le_of_ble_eq_true rfl) ?_
  generalize hV : F_X7_eaterOf ch = V0
  have hV := hV.symm
  unfold F_X7_eaterOf at hV
  try dsimp only at hV
  refine X_iload_n (j := 0) dX7_eaterOf_0 rfl rfl ?_
  refine X_bipush (v := 10) dX7_eaterOf_1 (by decide) ?_
  refine X_idiv (v := nI (ch / 10)) dX7_eaterOf_3 (by decide) (nI_di (a := ch) (b := 10) (by omega) (by omega)) ?_
  try dsimp only at hV
  exact X_iret ex_nI rfl dX7_eaterOf_4 (by (repeat refine ex_kc ?_) <;> rfl) (by subst hV; exact ⟨rfl, rfl⟩)

def F_X7_dishOf (ch : Nat) : Nat := ((ch % 10) / 2)
set_option maxHeartbeats 4000000 in
set_option maxRecDepth 100000 in
theorem e_X7_dishOf (l : Launch) (ch : Nat) (hch : ch < 61) : ex_M l yX7_dishOf cX7_dishOf 1 (some .int) 0 0 [ex_i (nI ch)] [] (fun zcs zr => zcs = [] ∧ zr = some (ex_i (nI (F_X7_dishOf ch)))) := by
  refine X_meth (by decide) (Nat.le_of_ble_eq_true rfl) ?_
  generalize hV : F_X7_dishOf ch = V0
  have hV := hV.symm
  unfold F_X7_dishOf at hV
  try dsimp only at hV
  refine X_iload_n (j := 0) dX7_dishOf_0 rfl rfl ?_
  refine X_bipush (v := 10) dX7_dishOf_1 (by decide) ?_
  refine X_irem (v := nI (ch % 10)) dX7_dishOf_3 (by decide) (nI_rm (a := ch) (b := 10) (by omega) (by omega)) ?_
  refine X_iconst (v := 2) dX7_dishOf_4 (by decide) ?_
  refine X_idiv (v := nI ((ch % 10) / 2)) dX7_dishOf_5 (by decide) (nI_di (a := ch % 10) (b := 2) (by omega) (by omega)) ?_
  try dsimp only at hV
  exact X_iret ex_nI rfl dX7_dishOf_6 (by (repeat refine ex_kc ?_) <;> rfl) (by subst hV; exact ⟨rfl, rfl⟩)

def F_X7_isSlow (ch : Nat) : Int32 := (if (nI (ch % 2)) = 0 then 1 else 0)
set_option maxHeartbeats 4000000 in
set_option maxRecDepth 100000 in
theorem e_X7_isSlow (l : Launch) (ch : Nat) (hch : ch < 61) : ex_M l yX7_isSlow cX7_isSlow 1 (some .boolean) 0 0 [ex_i (nI ch)] [] (fun zcs zr => zcs = [] ∧ zr = some (ex_i (F_X7_isSlow ch))) := by
  refine X_meth (by decide) (Nat.le_of_ble_eq_true rfl) ?_
  generalize hV : F_X7_isSlow ch = V0
  have hV := hV.symm
  unfold F_X7_isSlow at hV
  try dsimp only at hV
  refine X_iload_n (j := 0) dX7_isSlow_0 rfl rfl ?_
  refine X_iconst (v := 2) dX7_isSlow_1 (by decide) ?_
  refine X_irem (v := nI (ch % 2)) dX7_isSlow_2 (by decide) (nI_rm (a := ch) (b := 2) (by omega) (by omega)) ?_
  refine X_if_ne (tgt := 10) dX7_isSlow_3 (by decide) (fun c_1 => ?_) (fun c_1 => ?_)
  · have hV := hV.trans (if_neg c_1)
    refine X_iconst (v := 0) dX7_isSlow_10 (by decide) ?_
    try dsimp only at hV
    exact X_iret ex_nZ rfl dX7_isSlow_11 (by (repeat refine ex_kc ?_) <;> rfl) (by subst hV; exact ⟨rfl, rfl⟩)
  · have hV := hV.trans (if_pos c_1)
    refine X_iconst (v := 1) dX7_isSlow_6 (by decide) ?_
    refine X_goto (tgt := 11) dX7_isSlow_7 (by decide) ?_
    try dsimp only at hV
    exact X_iret ex_nZ rfl dX7_isSlow_11 (by (repeat refine ex_kc ?_) <;> rfl) (by subst hV; exact ⟨rfl, rfl⟩)
theorem F_X7_isSlow_b (ch : Nat) : F_X7_isSlow ch = 0 ∨ F_X7_isSlow ch = 1 := by
  unfold F_X7_isSlow
  repeat' split
  all_goals first | exact Or.inl rfl | exact Or.inr rfl

theorem ea_lt {ch : Nat} (h : ch < 60) : F_X7_eaterOf ch < 6 := by
  unfold F_X7_eaterOf
  omega
theorem di_lt (ch : Nat) : F_X7_dishOf ch < 5 := by
  unfold F_X7_dishOf
  omega

def F_X7_costOf_0 (ch : Nat) (y0dy : Int32) (y0sr : Int32) (np : Nat) (nd : Nat) (kd : Nat → Int32) (sf : Nat → Int32) (st : Nat → Int32) (co : Nat → Int32) (bt : Nat → Int32) : Int32 := (if (nI ch) = 60 then 0 else (if (nI np) ≤ (nI (F_X7_eaterOf ch)) then (-1) else (if (nI nd) ≤ (nI (F_X7_dishOf ch)) then (-1) else (if (bt ch) = 0 then (if (F_X8_canEat (F_X7_eaterOf ch) (F_X7_dishOf ch) y0dy y0sr kd sf st co) = 0 then (-1) else (F_X0_costBy (F_X7_eaterOf ch) (F_X7_dishOf ch) kd co)) else (-1)))))
set_option maxHeartbeats 4000000 in
set_option maxRecDepth 100000 in
theorem e_X7_costOf_0 (l : Launch) (pp : Nat) (c : Nat) (ch : Nat) (pls : Int32) (pfi : Int32) (pbe : Nat) (ptr : Int32) (pdy : Nat) (p6 : Nat) (sk : Nat → Nat → Nat) (y0dy : Int32) (y0sr : Int32) (y0il : Int32) (c0 : Nat) (c1 : Nat) (c2 : Nat) (c3 : Nat) (c4 : Nat) (c5 : Nat) (c6 : Nat) (c7 : Nat) (c8 : Nat) (c9 : Nat) (c10 : Nat) (c11 : Nat) (c12 : Nat) (np : Nat) (nd : Nat) (sto : Int32) (res : Int32) (c17 : Nat) (c18 : Nat) (c19 : Nat) (kd : Nat → Int32) (sf : Nat → Int32) (st : Nat → Int32) (co : Nat → Int32) (bt : Nat → Int32) (hch : ch < 61) : ex_M l yX7_costOf cX7_costOf 6 (some .int) 3 67 [ex_r pp, ex_r c, ex_i 0, ex_i (nI ch)] [(pp, ex_o 7 [ex_i pls, ex_i pfi, ex_i (nI pbe), ex_i ptr, ex_i (nI pdy), ex_r p6]), (p6, ex_q 5 4 (fun j => some (sk j 0))), ((sk 0 0), ex_o 8 [ex_i y0dy, ex_i y0sr, ex_i y0il, ex_r (sk 0 1), ex_r (sk 0 2), ex_r (sk 0 3)]), (c, ex_o 0 [ex_r c0, ex_r c1, ex_r c2, ex_r c3, ex_r c4, ex_r c5, ex_r c6, ex_r c7, ex_r c8, ex_r c9, ex_r c10, ex_r c11, ex_r c12, ex_i (nI np), ex_i (nI nd), ex_i sto, ex_i res, ex_r c17, ex_r c18, ex_r c19]), (c1, ex_a 1 6 kd), (c5, ex_a 1 6 sf), (c6, ex_a 1 6 st), (c11, ex_a 1 5 co), (c19, ex_a 3 60 bt)] (fun zcs zr => zcs = [(pp, ex_o 7 [ex_i pls, ex_i pfi, ex_i (nI pbe), ex_i ptr, ex_i (nI pdy), ex_r p6]), (p6, ex_q 5 4 (fun j => some (sk j 0))), ((sk 0 0), ex_o 8 [ex_i y0dy, ex_i y0sr, ex_i y0il, ex_r (sk 0 1), ex_r (sk 0 2), ex_r (sk 0 3)]), (c, ex_o 0 [ex_r c0, ex_r c1, ex_r c2, ex_r c3, ex_r c4, ex_r c5, ex_r c6, ex_r c7, ex_r c8, ex_r c9, ex_r c10, ex_r c11, ex_r c12, ex_i (nI np), ex_i (nI nd), ex_i sto, ex_i res, ex_r c17, ex_r c18, ex_r c19]), (c1, ex_a 1 6 kd), (c5, ex_a 1 6 sf), (c6, ex_a 1 6 st), (c11, ex_a 1 5 co), (c19, ex_a 3 60 bt)] ∧ zr = some (ex_i (F_X7_costOf_0 ch y0dy y0sr np nd kd sf st co bt))) := by
  refine X_meth (by decide) (Nat.le_of_ble_eq_true rfl) ?_
  generalize hV : F_X7_costOf_0 ch y0dy y0sr np nd kd sf st co bt = V0
  have hV := hV.symm
  unfold F_X7_costOf_0 at hV
  try dsimp only at hV
  refine X_iload_n (j := 3) dX7_costOf_0 rfl rfl ?_
  refine X_bipush (v := 60) dX7_costOf_1 (by decide) ?_
  refine X_icmp_ne (tgt := 8) dX7_costOf_3 (by decide) (fun c_1 => ?_) (fun c_1 => ?_)
  · have hV := hV.trans (if_neg c_1)
    have hc60 : ch < 60 := ne60 hch c_1
    have hea : F_X7_eaterOf ch < 6 := ea_lt hc60
    have hdi : F_X7_dishOf ch < 5 := di_lt ch
    refine X_iload_n (j := 3) dX7_costOf_8 rfl rfl ?_
    refine X_callS (rest := [(pp, ex_o 7 [ex_i pls, ex_i pfi, ex_i (nI pbe), ex_i ptr, ex_i (nI pdy), ex_r p6]), (p6, ex_q 5 4 (fun j => some (sk j 0))), ((sk 0 0), ex_o 8 [ex_i y0dy, ex_i y0sr, ex_i y0il, ex_r (sk 0 1), ex_r (sk 0 2), ex_r (sk 0 3)]), (c, ex_o 0 [ex_r c0, ex_r c1, ex_r c2, ex_r c3, ex_r c4, ex_r c5, ex_r c6, ex_r c7, ex_r c8, ex_r c9, ex_r c10, ex_r c11, ex_r c12, ex_i (nI np), ex_i (nI nd), ex_i sto, ex_i res, ex_r c17, ex_r c18, ex_r c19]), (c1, ex_a 1 6 kd), (c5, ex_a 1 6 sf), (c6, ex_a 1 6 st), (c11, ex_a 1 5 co), (c19, ex_a 3 60 bt)]) (stk := []) co_X7_60 rfl ⟨(Nat.le_of_ble_eq_true rfl), (Nat.le_of_ble_eq_true rfl)⟩ (e_X7_eaterOf l ch (by first | assumption | omega)) dX7_costOf_9 [0, 1, 2, 3, 4, 5, 6, 7, 8] (show List.Perm [0, 1, 2, 3, 4, 5, 6, 7, 8] (List.range 9) from by decide) rfl rfl rfl (Nat.le_of_ble_eq_true rfl) (fun zc1 zr hq hk => ?_)
    obtain ⟨rfl, rfl⟩ := hq
    refine X_istore (lv' := [(4, ex_i (nI (F_X7_eaterOf ch))), (0, ex_r pp), (1, ex_r c), (2, ex_i 0), (3, ex_i (nI ch))]) dX7_costOf_12 (Nat.le_of_ble_eq_true rfl) rfl ?_
    refine X_iload_n (j := 4) dX7_costOf_14 rfl rfl ?_
    refine X_callS (rest := [(pp, ex_o 7 [ex_i pls, ex_i pfi, ex_i (nI pbe), ex_i ptr, ex_i (nI pdy), ex_r p6]), (p6, ex_q 5 4 (fun j => some (sk j 0))), ((sk 0 0), ex_o 8 [ex_i y0dy, ex_i y0sr, ex_i y0il, ex_r (sk 0 1), ex_r (sk 0 2), ex_r (sk 0 3)]), (c, ex_o 0 [ex_r c0, ex_r c1, ex_r c2, ex_r c3, ex_r c4, ex_r c5, ex_r c6, ex_r c7, ex_r c8, ex_r c9, ex_r c10, ex_r c11, ex_r c12, ex_i (nI np), ex_i (nI nd), ex_i sto, ex_i res, ex_r c17, ex_r c18, ex_r c19]), (c1, ex_a 1 6 kd), (c5, ex_a 1 6 sf), (c6, ex_a 1 6 st), (c11, ex_a 1 5 co), (c19, ex_a 3 60 bt)]) (stk := []) co_X7_64 rfl ⟨(Nat.le_of_ble_eq_true rfl), (Nat.le_of_ble_eq_true rfl)⟩ (e_X7_dishOf l ch (by first | assumption | omega)) dX7_costOf_15 [0, 1, 2, 3, 4, 5, 6, 7, 8] (show List.Perm [0, 1, 2, 3, 4, 5, 6, 7, 8] (List.range 9) from by decide) rfl rfl rfl (Nat.le_of_ble_eq_true rfl) (fun zc1 zr hq hk => ?_)
    obtain ⟨rfl, rfl⟩ := hq
    refine X_istore (lv' := [(5, ex_i (nI (F_X7_dishOf ch))), (4, ex_i (nI (F_X7_eaterOf ch))), (0, ex_r pp), (1, ex_r c), (2, ex_i 0), (3, ex_i (nI ch))]) dX7_costOf_18 (Nat.le_of_ble_eq_true rfl) rfl ?_
    refine X_iload (j := 1) dX7_costOf_20 rfl ?_
    refine X_aload_n (j := 3) dX7_costOf_22 rfl rfl ?_
    refine X_get (j := 3) fo_X7_67 dX7_costOf_23 rfl rfl ?_
    refine X_icmp_ge (tgt := 47) dX7_costOf_26 (by decide) (fun c_2 => ?_) (fun c_2 => ?_)
    · have hV := hV.trans (if_pos c_2)
      refine X_iconst (v := (-1)) dX7_costOf_47 (by decide) ?_
      try dsimp only at hV
      exact X_iret ex_nI rfl dX7_costOf_48 (by (repeat refine ex_kc ?_) <;> rfl) (by subst hV; exact ⟨rfl, rfl⟩)
    · have hV := hV.trans (if_neg c_2)
      refine X_iload (j := 0) dX7_costOf_29 rfl ?_
      refine X_aload_n (j := 3) dX7_costOf_31 rfl rfl ?_
      refine X_get (j := 3) fo_X7_72 dX7_costOf_32 rfl rfl ?_
      refine X_icmp_ge (tgt := 47) dX7_costOf_35 (by decide) (fun c_3 => ?_) (fun c_3 => ?_)
      · have hV := hV.trans (if_pos c_3)
        refine X_iconst (v := (-1)) dX7_costOf_47 (by decide) ?_
        try dsimp only at hV
        exact X_iret ex_nI rfl dX7_costOf_48 (by (repeat refine ex_kc ?_) <;> rfl) (by subst hV; exact ⟨rfl, rfl⟩)
      · have hV := hV.trans (if_neg c_3)
        refine X_aload_n (j := 3) dX7_costOf_38 rfl rfl ?_
        refine X_get (j := 3) fo_X7_75 dX7_costOf_39 rfl rfl ?_
        refine X_iload_n (j := 5) dX7_costOf_42 rfl rfl ?_
        refine X_zald (j := 8) (v := (bt ch)) dX7_costOf_43 rfl (vp_in_nI (show ch < 60 by omega) (by decide)) (by rw [nI_clamp (by omega)]) ?_
        refine X_if_eq (tgt := 49) dX7_costOf_44 (by decide) (fun c_4 => ?_) (fun c_4 => ?_)
        · have hV := hV.trans (if_pos c_4)
          refine X_aload_n (j := 2) dX7_costOf_49 rfl rfl ?_
          refine X_get (j := 0) fo_X7_29 dX7_costOf_50 rfl rfl ?_
          refine X_iload_n (j := 4) dX7_costOf_53 rfl rfl ?_
          refine X_aald (j := 1) (v := (sk 0 0)) dX7_costOf_54 rfl (vin (by decide)) rfl (Or.inr rfl) ?_
          refine X_aload_n (j := 3) dX7_costOf_55 rfl rfl ?_
          refine X_iload (j := 1) dX7_costOf_56 rfl ?_
          refine X_iload (j := 0) dX7_costOf_58 rfl ?_
          refine X_callV (j0 := 0) (rest := [(pp, ex_o 7 [ex_i pls, ex_i pfi, ex_i (nI pbe), ex_i ptr, ex_i (nI pdy), ex_r p6]), (p6, ex_q 5 4 (fun j => some (sk j 0))), (c19, ex_a 3 60 bt)]) (stk := []) co_X7_79 rfl ⟨(Nat.le_of_ble_eq_true rfl), (Nat.le_of_ble_eq_true rfl)⟩ (e_X8_canEat l (sk 0 0) c (F_X7_eaterOf ch) (F_X7_dishOf ch) y0dy y0sr y0il (sk 0 1) (sk 0 2) (sk 0 3) c0 c1 c2 c3 c4 c5 c6 c7 c8 c9 c10 c11 c12 np nd sto res c17 c18 c19 kd sf st co (by first | assumption | omega) (by first | assumption | omega)) dX7_costOf_60 [2, 3, 4, 5, 6, 7, 0, 1, 8] (show List.Perm [2, 3, 4, 5, 6, 7, 0, 1, 8] (List.range 9) from by decide) rfl rfl rfl rfl (Nat.le_of_ble_eq_true rfl) (fun zc1 zr hq hk => ?_)
          obtain ⟨rfl, rfl⟩ := hq
          refine X_if_eq (tgt := 77) dX7_costOf_63 (by decide) (fun c_5 => ?_) (fun c_5 => ?_)
          · have hV := hV.trans (if_pos c_5)
            refine X_iconst (v := (-1)) dX7_costOf_77 (by decide) ?_
            try dsimp only at hV
            refine X_re (cs' := [(pp, ex_o 7 [ex_i pls, ex_i pfi, ex_i (nI pbe), ex_i ptr, ex_i (nI pdy), ex_r p6]), (p6, ex_q 5 4 (fun j => some (sk j 0))), ((sk 0 0), ex_o 8 [ex_i y0dy, ex_i y0sr, ex_i y0il, ex_r (sk 0 1), ex_r (sk 0 2), ex_r (sk 0 3)]), (c, ex_o 0 [ex_r c0, ex_r c1, ex_r c2, ex_r c3, ex_r c4, ex_r c5, ex_r c6, ex_r c7, ex_r c8, ex_r c9, ex_r c10, ex_r c11, ex_r c12, ex_i (nI np), ex_i (nI nd), ex_i sto, ex_i res, ex_r c17, ex_r c18, ex_r c19]), (c1, ex_a 1 6 kd), (c5, ex_a 1 6 sf), (c6, ex_a 1 6 st), (c11, ex_a 1 5 co), (c19, ex_a 3 60 bt)]) [6, 7, 0, 1, 2, 3, 4, 5, 8] (show List.Perm [6, 7, 0, 1, 2, 3, 4, 5, 8] (List.range 9) from by decide) rfl ?_
            exact X_iret ex_nI rfl dX7_costOf_78 (by (repeat refine ex_kc ?_) <;> rfl) (by subst hV; exact ⟨rfl, rfl⟩)
          · have hV := hV.trans (if_neg c_5)
            refine X_aload_n (j := 3) dX7_costOf_66 rfl rfl ?_
            refine X_iload (j := 1) dX7_costOf_67 rfl ?_
            refine X_iload (j := 0) dX7_costOf_69 rfl ?_
            refine X_callV (j0 := 0) (rest := [((sk 0 0), ex_o 8 [ex_i y0dy, ex_i y0sr, ex_i y0il, ex_r (sk 0 1), ex_r (sk 0 2), ex_r (sk 0 3)]), (c5, ex_a 1 6 sf), (c6, ex_a 1 6 st), (pp, ex_o 7 [ex_i pls, ex_i pfi, ex_i (nI pbe), ex_i ptr, ex_i (nI pdy), ex_r p6]), (p6, ex_q 5 4 (fun j => some (sk j 0))), (c19, ex_a 3 60 bt)]) (stk := []) co_X7_82 rfl ⟨(Nat.le_of_ble_eq_true rfl), (Nat.le_of_ble_eq_true rfl)⟩ (e_X0_costBy l c (F_X7_eaterOf ch) (F_X7_dishOf ch) c0 c1 c2 c3 c4 c5 c6 c7 c8 c9 c10 c11 c12 np nd sto res c17 c18 c19 kd co (by first | assumption | omega) (by first | assumption | omega)) dX7_costOf_71 [1, 2, 5, 0, 3, 4, 6, 7, 8] (show List.Perm [1, 2, 5, 0, 3, 4, 6, 7, 8] (List.range 9) from by decide) rfl rfl rfl rfl (Nat.le_of_ble_eq_true rfl) (fun zc1 zr hq hk => ?_)
            obtain ⟨rfl, rfl⟩ := hq
            refine X_goto (tgt := 78) dX7_costOf_74 (by decide) ?_
            try dsimp only at hV
            refine X_re (cs' := [(pp, ex_o 7 [ex_i pls, ex_i pfi, ex_i (nI pbe), ex_i ptr, ex_i (nI pdy), ex_r p6]), (p6, ex_q 5 4 (fun j => some (sk j 0))), ((sk 0 0), ex_o 8 [ex_i y0dy, ex_i y0sr, ex_i y0il, ex_r (sk 0 1), ex_r (sk 0 2), ex_r (sk 0 3)]), (c, ex_o 0 [ex_r c0, ex_r c1, ex_r c2, ex_r c3, ex_r c4, ex_r c5, ex_r c6, ex_r c7, ex_r c8, ex_r c9, ex_r c10, ex_r c11, ex_r c12, ex_i (nI np), ex_i (nI nd), ex_i sto, ex_i res, ex_r c17, ex_r c18, ex_r c19]), (c1, ex_a 1 6 kd), (c5, ex_a 1 6 sf), (c6, ex_a 1 6 st), (c11, ex_a 1 5 co), (c19, ex_a 3 60 bt)]) [6, 7, 3, 0, 1, 4, 5, 2, 8] (show List.Perm [6, 7, 3, 0, 1, 4, 5, 2, 8] (List.range 9) from by decide) rfl ?_
            exact X_iret ex_nI rfl dX7_costOf_78 (by (repeat refine ex_kc ?_) <;> rfl) (by subst hV; exact ⟨rfl, rfl⟩)
        · have hV := hV.trans (if_neg c_4)
          refine X_iconst (v := (-1)) dX7_costOf_47 (by decide) ?_
          try dsimp only at hV
          exact X_iret ex_nI rfl dX7_costOf_48 (by (repeat refine ex_kc ?_) <;> rfl) (by subst hV; exact ⟨rfl, rfl⟩)
  · have hV := hV.trans (if_pos c_1)
    refine X_iconst (v := 0) dX7_costOf_6 (by decide) ?_
    try dsimp only at hV
    exact X_iret ex_nI rfl dX7_costOf_7 (by (repeat refine ex_kc ?_) <;> rfl) (by subst hV; exact ⟨rfl, rfl⟩)

def F_X7_feedsAll_0_L11 (ch : Nat) (y0dy : Int32) (y0fu : Nat → Int32) (y0ae : Nat → Int32) (res : Int32) (hg : Nat → Int32) (sf : Nat → Int32) (st : Nat → Int32) (gf : Nat → Int32) : Nat → Nat → Int32
  | 0, k11 => 1
  | zn + 1, k11 => (if (hg k11) ≤ (y0fu k11) then F_X7_feedsAll_0_L11 ch y0dy y0fu y0ae res hg sf st gf zn (k11 + 1) else (if (nI ch) = 60 then (if (hg k11) ≤ ((y0fu k11) + 0) then F_X7_feedsAll_0_L11 ch y0dy y0fu y0ae res hg sf st gf zn (k11 + 1) else 0) else (if (hg k11) ≤ ((y0fu k11) + (F_X8_gain (F_X7_eaterOf ch) (F_X7_dishOf ch) (F_X7_isSlow ch) k11 y0dy y0ae res sf st gf)) then F_X7_feedsAll_0_L11 ch y0dy y0fu y0ae res hg sf st gf zn (k11 + 1) else 0)))
theorem F_X7_feedsAll_0_L11_z (ch : Nat) (y0dy : Int32) (y0fu : Nat → Int32) (y0ae : Nat → Int32) (res : Int32) (hg : Nat → Int32) (sf : Nat → Int32) (st : Nat → Int32) (gf : Nat → Int32) (k11 : Nat) : F_X7_feedsAll_0_L11 ch y0dy y0fu y0ae res hg sf st gf 0 k11 = 1 := rfl
theorem F_X7_feedsAll_0_L11_s (ch : Nat) (y0dy : Int32) (y0fu : Nat → Int32) (y0ae : Nat → Int32) (res : Int32) (hg : Nat → Int32) (sf : Nat → Int32) (st : Nat → Int32) (gf : Nat → Int32) (k11 : Nat) (zn : Nat) : F_X7_feedsAll_0_L11 ch y0dy y0fu y0ae res hg sf st gf (zn + 1) k11 = (if (hg k11) ≤ (y0fu k11) then F_X7_feedsAll_0_L11 ch y0dy y0fu y0ae res hg sf st gf zn (k11 + 1) else (if (nI ch) = 60 then (if (hg k11) ≤ ((y0fu k11) + 0) then F_X7_feedsAll_0_L11 ch y0dy y0fu y0ae res hg sf st gf zn (k11 + 1) else 0) else (if (hg k11) ≤ ((y0fu k11) + (F_X8_gain (F_X7_eaterOf ch) (F_X7_dishOf ch) (F_X7_isSlow ch) k11 y0dy y0ae res sf st gf)) then F_X7_feedsAll_0_L11 ch y0dy y0fu y0ae res hg sf st gf zn (k11 + 1) else 0))) := rfl
def F_X7_feedsAll_0 (ch : Nat) (y0dy : Int32) (y0fu : Nat → Int32) (y0ae : Nat → Int32) (np : Nat) (res : Int32) (hg : Nat → Int32) (sf : Nat → Int32) (st : Nat → Int32) (gf : Nat → Int32) : Int32 := F_X7_feedsAll_0_L11 ch y0dy y0fu y0ae res hg sf st gf (np - 0) 0
set_option maxHeartbeats 4000000 in
set_option maxRecDepth 100000 in
theorem e_X7_feedsAll_0 (l : Launch) (pp : Nat) (c : Nat) (ch : Nat) (pls : Int32) (pfi : Int32) (pbe : Nat) (ptr : Int32) (pdy : Nat) (p6 : Nat) (sk : Nat → Nat → Nat) (y0dy : Int32) (y0sr : Int32) (y0il : Int32) (y0fu : Nat → Int32) (y0ae : Nat → Int32) (c0 : Nat) (c1 : Nat) (c2 : Nat) (c3 : Nat) (c4 : Nat) (c5 : Nat) (c6 : Nat) (c7 : Nat) (c8 : Nat) (c9 : Nat) (c10 : Nat) (c11 : Nat) (c12 : Nat) (np : Nat) (nd : Nat) (sto : Int32) (res : Int32) (c17 : Nat) (c18 : Nat) (c19 : Nat) (hg : Nat → Int32) (sf : Nat → Int32) (st : Nat → Int32) (gf : Nat → Int32) (hch : ch < 61) (hnp : np ≤ 6) : ex_M l yX7_feedsAll cX7_feedsAll 7 (some .boolean) 3 71 [ex_r pp, ex_r c, ex_i 0, ex_i (nI ch)] [(pp, ex_o 7 [ex_i pls, ex_i pfi, ex_i (nI pbe), ex_i ptr, ex_i (nI pdy), ex_r p6]), (p6, ex_q 5 4 (fun j => some (sk j 0))), ((sk 0 0), ex_o 8 [ex_i y0dy, ex_i y0sr, ex_i y0il, ex_r (sk 0 1), ex_r (sk 0 2), ex_r (sk 0 3)]), ((sk 0 1), ex_a 1 6 y0fu), ((sk 0 2), ex_a 1 6 y0ae), (c, ex_o 0 [ex_r c0, ex_r c1, ex_r c2, ex_r c3, ex_r c4, ex_r c5, ex_r c6, ex_r c7, ex_r c8, ex_r c9, ex_r c10, ex_r c11, ex_r c12, ex_i (nI np), ex_i (nI nd), ex_i sto, ex_i res, ex_r c17, ex_r c18, ex_r c19]), (c2, ex_a 1 6 hg), (c5, ex_a 1 6 sf), (c6, ex_a 1 6 st), (c17, ex_a 1 360 gf)] (fun zcs zr => zcs = [(pp, ex_o 7 [ex_i pls, ex_i pfi, ex_i (nI pbe), ex_i ptr, ex_i (nI pdy), ex_r p6]), (p6, ex_q 5 4 (fun j => some (sk j 0))), ((sk 0 0), ex_o 8 [ex_i y0dy, ex_i y0sr, ex_i y0il, ex_r (sk 0 1), ex_r (sk 0 2), ex_r (sk 0 3)]), ((sk 0 1), ex_a 1 6 y0fu), ((sk 0 2), ex_a 1 6 y0ae), (c, ex_o 0 [ex_r c0, ex_r c1, ex_r c2, ex_r c3, ex_r c4, ex_r c5, ex_r c6, ex_r c7, ex_r c8, ex_r c9, ex_r c10, ex_r c11, ex_r c12, ex_i (nI np), ex_i (nI nd), ex_i sto, ex_i res, ex_r c17, ex_r c18, ex_r c19]), (c2, ex_a 1 6 hg), (c5, ex_a 1 6 sf), (c6, ex_a 1 6 st), (c17, ex_a 1 360 gf)] ∧ zr = some (ex_i (F_X7_feedsAll_0 ch y0dy y0fu y0ae np res hg sf st gf))) := by
  refine X_meth (by decide) (Nat.le_of_ble_eq_true rfl) ?_
  generalize hV : F_X7_feedsAll_0 ch y0dy y0fu y0ae np res hg sf st gf = V0
  have hV := hV.symm
  unfold F_X7_feedsAll_0 at hV
  try dsimp only at hV
  refine X_aload_n (j := 0) dX7_feedsAll_0 rfl rfl ?_
  refine X_get (j := 0) fo_X7_29 dX7_feedsAll_1 rfl rfl ?_
  refine X_iload_n (j := 2) dX7_feedsAll_4 rfl rfl ?_
  refine X_aald (j := 1) (v := (sk 0 0)) dX7_feedsAll_5 rfl (vin (by decide)) rfl (Or.inr rfl) ?_
  refine X_astore (lv' := [(4, ex_r (sk 0 0)), (0, ex_r pp), (1, ex_r c), (2, ex_i 0), (3, ex_i (nI ch))]) dX7_feedsAll_6 (Nat.le_of_ble_eq_true rfl) rfl ?_
  refine X_iconst (v := 0) dX7_feedsAll_8 (by decide) ?_
  refine X_istore (lv' := [(5, ex_i 0), (4, ex_r (sk 0 0)), (0, ex_r pp), (1, ex_r c), (2, ex_i 0), (3, ex_i (nI ch))]) dX7_feedsAll_9 (Nat.le_of_ble_eq_true rfl) rfl ?_
  -- loop at 11
  have hL11 := hV
  try dsimp only at hL11
  refine X_ind (fun (a11 : Nat) => V0 = F_X7_feedsAll_0_L11 ch y0dy y0fu y0ae res hg sf st gf (np - a11) a11 ∧ a11 ≤ np) (fun (a11 : Nat) => np - a11) (fun (a11 : Nat) => [(pp, ex_o 7 [ex_i pls, ex_i pfi, ex_i (nI pbe), ex_i ptr, ex_i (nI pdy), ex_r p6]), (p6, ex_q 5 4 (fun j => some (sk j 0))), ((sk 0 0), ex_o 8 [ex_i y0dy, ex_i y0sr, ex_i y0il, ex_r (sk 0 1), ex_r (sk 0 2), ex_r (sk 0 3)]), ((sk 0 1), ex_a 1 6 y0fu), ((sk 0 2), ex_a 1 6 y0ae), (c, ex_o 0 [ex_r c0, ex_r c1, ex_r c2, ex_r c3, ex_r c4, ex_r c5, ex_r c6, ex_r c7, ex_r c8, ex_r c9, ex_r c10, ex_r c11, ex_r c12, ex_i (nI np), ex_i (nI nd), ex_i sto, ex_i res, ex_r c17, ex_r c18, ex_r c19]), (c2, ex_a 1 6 hg), (c5, ex_a 1 6 sf), (c6, ex_a 1 6 st), (c17, ex_a 1 360 gf)]) (fun (a11 : Nat) => [(5, ex_i (nI a11)), (4, ex_r (sk 0 0)), (0, ex_r pp), (1, ex_r c), (2, ex_i 0), (3, ex_i (nI ch))]) (fun k11 hI11 ih11 => ?_) 0 ⟨hL11, (by omega)⟩
  try dsimp only at hI11 ih11 ⊢
  have ihc11 : ∀ (k11_ : Nat), (V0 = F_X7_feedsAll_0_L11 ch y0dy y0fu y0ae res hg sf st gf (np - k11_) k11_ ∧ k11_ ≤ np) → (np - k11_) < (np - k11) → ex_O _ _ _ _ _ _ _ _ _ [(pp, ex_o 7 [ex_i pls, ex_i pfi, ex_i (nI pbe), ex_i ptr, ex_i (nI pdy), ex_r p6]), (p6, ex_q 5 4 (fun j => some (sk j 0))), ((sk 0 0), ex_o 8 [ex_i y0dy, ex_i y0sr, ex_i y0il, ex_r (sk 0 1), ex_r (sk 0 2), ex_r (sk 0 3)]), ((sk 0 1), ex_a 1 6 y0fu), ((sk 0 2), ex_a 1 6 y0ae), (c, ex_o 0 [ex_r c0, ex_r c1, ex_r c2, ex_r c3, ex_r c4, ex_r c5, ex_r c6, ex_r c7, ex_r c8, ex_r c9, ex_r c10, ex_r c11, ex_r c12, ex_i (nI np), ex_i (nI nd), ex_i sto, ex_i res, ex_r c17, ex_r c18, ex_r c19]), (c2, ex_a 1 6 hg), (c5, ex_a 1 6 sf), (c6, ex_a 1 6 st), (c17, ex_a 1 360 gf)] [(5, ex_i (nI k11_)), (4, ex_r (sk 0 0)), (0, ex_r pp), (1, ex_r c), (2, ex_i 0), (3, ex_i (nI ch))] _ _ := fun k11_ hi_ hm_ => ih11 k11_ hi_ hm_
  have hL11 := hI11.1
  have hb11 := hI11.2
  refine X_iload (j := 0) dX7_feedsAll_11 rfl ?_
  refine X_aload_n (j := 3) dX7_feedsAll_13 rfl rfl ?_
  refine X_get (j := 5) fo_X7_67 dX7_feedsAll_14 rfl rfl ?_
  refine X_icmp_ge (tgt := 99) dX7_feedsAll_17 (by decide) (fun c_1 => ?_) (fun c_1 => ?_)
  · have hlt11 : k11 = np := nlex (L := np) (by omega) hb11 c_1
    rw [show np - k11 = 0 by omega] at hL11
    have hL11 := hL11.trans (F_X7_feedsAll_0_L11_z ..)
    refine X_iconst (v := 1) dX7_feedsAll_99 (by decide) ?_
    try dsimp only at hL11
    exact X_iret ex_nZ rfl dX7_feedsAll_100 (by (repeat refine ex_kc ?_) <;> rfl) (by subst hL11; exact ⟨rfl, rfl⟩)
  · have hlt11 : k11 < np := nlen (L := np) (by omega) hb11 c_1
    rw [show np - k11 = (np - (k11 + 1)) + 1 by omega] at hL11
    have hL11 := hL11.trans (F_X7_feedsAll_0_L11_s ..)
    refine X_aload (j := 1) dX7_feedsAll_20 rfl ?_
    refine X_get (j := 2) fo_X7_85 dX7_feedsAll_22 rfl rfl ?_
    refine X_iload (j := 0) dX7_feedsAll_25 rfl ?_
    refine X_iald (j := 3) (v := (y0fu k11)) dX7_feedsAll_27 rfl (vp_in_nI (show k11 < 6 by omega) (by decide)) (by rw [nI_clamp (by omega)]) ?_
    refine X_aload_n (j := 3) dX7_feedsAll_28 rfl rfl ?_
    refine X_get (j := 5) fo_X7_89 dX7_feedsAll_29 rfl rfl ?_
    refine X_iload (j := 0) dX7_feedsAll_32 rfl ?_
    refine X_iald (j := 6) (v := (hg k11)) dX7_feedsAll_34 rfl (vp_in_nI (show k11 < 6 by omega) (by decide)) (by rw [nI_clamp (by omega)]) ?_
    refine X_icmp_ge (tgt := 93) dX7_feedsAll_35 (by decide) (fun c_2 => ?_) (fun c_2 => ?_)
    · have hL11 := hL11.trans (if_pos c_2)
      refine X_iinc (v := nI (k11 + 1)) (j := 0) (lv' := [(5, ex_i (nI (k11 + 1))), (4, ex_r (sk 0 0)), (0, ex_r pp), (1, ex_r c), (2, ex_i 0), (3, ex_i (nI ch))]) dX7_feedsAll_93 rfl (nI_add k11 1) (Nat.le_of_ble_eq_true rfl) rfl ?_
      refine X_goto (tgt := 11) dX7_feedsAll_96 (by decide) ?_
      try dsimp only at hL11
      exact ihc11 (k11 + 1) ⟨hL11, (show (k11 + 1) ≤ np by omega)⟩ (show np - (k11 + 1) < np - k11 by omega)
    · have hL11 := hL11.trans (if_neg c_2)
      refine X_iload_n (j := 5) dX7_feedsAll_38 rfl rfl ?_
      refine X_bipush (v := 60) dX7_feedsAll_39 (by decide) ?_
      refine X_icmp_ne (tgt := 48) dX7_feedsAll_41 (by decide) (fun c_3 => ?_) (fun c_3 => ?_)
      · have hL11 := hL11.trans (if_neg c_3)
        have hc60 : ch < 60 := ne60 hch c_3
        have hea : F_X7_eaterOf ch < 6 := ea_lt hc60
        have hdi : F_X7_dishOf ch < 5 := di_lt ch
        refine X_aload (j := 1) dX7_feedsAll_48 rfl ?_
        refine X_aload_n (j := 3) dX7_feedsAll_50 rfl rfl ?_
        refine X_iload_n (j := 5) dX7_feedsAll_51 rfl rfl ?_
        refine X_callS (rest := [(pp, ex_o 7 [ex_i pls, ex_i pfi, ex_i (nI pbe), ex_i ptr, ex_i (nI pdy), ex_r p6]), (p6, ex_q 5 4 (fun j => some (sk j 0))), ((sk 0 0), ex_o 8 [ex_i y0dy, ex_i y0sr, ex_i y0il, ex_r (sk 0 1), ex_r (sk 0 2), ex_r (sk 0 3)]), ((sk 0 1), ex_a 1 6 y0fu), ((sk 0 2), ex_a 1 6 y0ae), (c, ex_o 0 [ex_r c0, ex_r c1, ex_r c2, ex_r c3, ex_r c4, ex_r c5, ex_r c6, ex_r c7, ex_r c8, ex_r c9, ex_r c10, ex_r c11, ex_r c12, ex_i (nI np), ex_i (nI nd), ex_i sto, ex_i res, ex_r c17, ex_r c18, ex_r c19]), (c2, ex_a 1 6 hg), (c5, ex_a 1 6 sf), (c6, ex_a 1 6 st), (c17, ex_a 1 360 gf)]) (stk := [ex_r c, ex_r (sk 0 0)]) co_X7_60 rfl ⟨(Nat.le_of_ble_eq_true rfl), (Nat.le_of_ble_eq_true rfl)⟩ (e_X7_eaterOf l ch (by first | assumption | omega)) dX7_feedsAll_52 [0, 1, 2, 3, 4, 5, 6, 7, 8, 9] (show List.Perm [0, 1, 2, 3, 4, 5, 6, 7, 8, 9] (List.range 10) from by decide) rfl rfl rfl (Nat.le_of_ble_eq_true rfl) (fun zc1 zr hq hk => ?_)
        obtain ⟨rfl, rfl⟩ := hq
        refine X_iload_n (j := 5) dX7_feedsAll_55 rfl rfl ?_
        refine X_callS (rest := [(pp, ex_o 7 [ex_i pls, ex_i pfi, ex_i (nI pbe), ex_i ptr, ex_i (nI pdy), ex_r p6]), (p6, ex_q 5 4 (fun j => some (sk j 0))), ((sk 0 0), ex_o 8 [ex_i y0dy, ex_i y0sr, ex_i y0il, ex_r (sk 0 1), ex_r (sk 0 2), ex_r (sk 0 3)]), ((sk 0 1), ex_a 1 6 y0fu), ((sk 0 2), ex_a 1 6 y0ae), (c, ex_o 0 [ex_r c0, ex_r c1, ex_r c2, ex_r c3, ex_r c4, ex_r c5, ex_r c6, ex_r c7, ex_r c8, ex_r c9, ex_r c10, ex_r c11, ex_r c12, ex_i (nI np), ex_i (nI nd), ex_i sto, ex_i res, ex_r c17, ex_r c18, ex_r c19]), (c2, ex_a 1 6 hg), (c5, ex_a 1 6 sf), (c6, ex_a 1 6 st), (c17, ex_a 1 360 gf)]) (stk := [ex_i (nI (F_X7_eaterOf ch)), ex_r c, ex_r (sk 0 0)]) co_X7_64 rfl ⟨(Nat.le_of_ble_eq_true rfl), (Nat.le_of_ble_eq_true rfl)⟩ (e_X7_dishOf l ch (by first | assumption | omega)) dX7_feedsAll_56 [0, 1, 2, 3, 4, 5, 6, 7, 8, 9] (show List.Perm [0, 1, 2, 3, 4, 5, 6, 7, 8, 9] (List.range 10) from by decide) rfl rfl rfl (Nat.le_of_ble_eq_true rfl) (fun zc1 zr hq hk => ?_)
        obtain ⟨rfl, rfl⟩ := hq
        refine X_iload_n (j := 5) dX7_feedsAll_59 rfl rfl ?_
        refine X_callS (rest := [(pp, ex_o 7 [ex_i pls, ex_i pfi, ex_i (nI pbe), ex_i ptr, ex_i (nI pdy), ex_r p6]), (p6, ex_q 5 4 (fun j => some (sk j 0))), ((sk 0 0), ex_o 8 [ex_i y0dy, ex_i y0sr, ex_i y0il, ex_r (sk 0 1), ex_r (sk 0 2), ex_r (sk 0 3)]), ((sk 0 1), ex_a 1 6 y0fu), ((sk 0 2), ex_a 1 6 y0ae), (c, ex_o 0 [ex_r c0, ex_r c1, ex_r c2, ex_r c3, ex_r c4, ex_r c5, ex_r c6, ex_r c7, ex_r c8, ex_r c9, ex_r c10, ex_r c11, ex_r c12, ex_i (nI np), ex_i (nI nd), ex_i sto, ex_i res, ex_r c17, ex_r c18, ex_r c19]), (c2, ex_a 1 6 hg), (c5, ex_a 1 6 sf), (c6, ex_a 1 6 st), (c17, ex_a 1 360 gf)]) (stk := [ex_i (nI (F_X7_dishOf ch)), ex_i (nI (F_X7_eaterOf ch)), ex_r c, ex_r (sk 0 0)]) co_X7_92 rfl ⟨(Nat.le_of_ble_eq_true rfl), (Nat.le_of_ble_eq_true rfl)⟩ (e_X7_isSlow l ch (by first | assumption | omega)) dX7_feedsAll_60 [0, 1, 2, 3, 4, 5, 6, 7, 8, 9] (show List.Perm [0, 1, 2, 3, 4, 5, 6, 7, 8, 9] (List.range 10) from by decide) rfl rfl rfl (Nat.le_of_ble_eq_true rfl) (fun zc1 zr hq hk => ?_)
        obtain ⟨rfl, rfl⟩ := hq
        refine X_iload (j := 0) dX7_feedsAll_63 rfl ?_
        refine X_callV (j0 := 0) (rest := [(pp, ex_o 7 [ex_i pls, ex_i pfi, ex_i (nI pbe), ex_i ptr, ex_i (nI pdy), ex_r p6]), (p6, ex_q 5 4 (fun j => some (sk j 0))), ((sk 0 1), ex_a 1 6 y0fu), (c2, ex_a 1 6 hg)]) (stk := []) co_X7_96 rfl ⟨(Nat.le_of_ble_eq_true rfl), (Nat.le_of_ble_eq_true rfl)⟩ (e_X8_gain l (sk 0 0) c (F_X7_eaterOf ch) (F_X7_dishOf ch) (F_X7_isSlow ch) k11 y0dy y0sr y0il (sk 0 1) (sk 0 2) (sk 0 3) y0ae c0 c1 c2 c3 c4 c5 c6 c7 c8 c9 c10 c11 c12 np nd sto res c17 c18 c19 sf st gf (by first | assumption | omega) (by first | assumption | omega) (by first | assumption | omega)) dX7_feedsAll_65 [2, 4, 5, 7, 8, 9, 0, 1, 3, 6] (show List.Perm [2, 4, 5, 7, 8, 9, 0, 1, 3, 6] (List.range 10) from by decide) rfl rfl rfl rfl (Nat.le_of_ble_eq_true rfl) (fun zc1 zr hq hk => ?_)
        obtain ⟨rfl, rfl⟩ := hq
        refine X_istore (lv' := [(6, ex_i (F_X8_gain (F_X7_eaterOf ch) (F_X7_dishOf ch) (F_X7_isSlow ch) k11 y0dy y0ae res sf st gf)), (5, ex_i (nI k11)), (4, ex_r (sk 0 0)), (0, ex_r pp), (1, ex_r c), (2, ex_i 0), (3, ex_i (nI ch))]) dX7_feedsAll_68 (Nat.le_of_ble_eq_true rfl) rfl ?_
        refine X_aload (j := 2) dX7_feedsAll_70 rfl ?_
        refine X_get (j := 0) fo_X7_85 dX7_feedsAll_72 rfl rfl ?_
        refine X_iload (j := 1) dX7_feedsAll_75 rfl ?_
        refine X_iald (j := 8) (v := (y0fu k11)) dX7_feedsAll_77 rfl (vp_in_nI (show k11 < 6 by omega) (by decide)) (by rw [nI_clamp (by omega)]) ?_
        refine X_iload (j := 0) dX7_feedsAll_78 rfl ?_
        refine X_iadd (v := ((y0fu k11) + (F_X8_gain (F_X7_eaterOf ch) (F_X7_dishOf ch) (F_X7_isSlow ch) k11 y0dy y0ae res sf st gf))) dX7_feedsAll_80 rfl ?_
        refine X_aload_n (j := 4) dX7_feedsAll_81 rfl rfl ?_
        refine X_get (j := 2) fo_X7_89 dX7_feedsAll_82 rfl rfl ?_
        refine X_iload (j := 1) dX7_feedsAll_85 rfl ?_
        refine X_iald (j := 9) (v := (hg k11)) dX7_feedsAll_87 rfl (vp_in_nI (show k11 < 6 by omega) (by decide)) (by rw [nI_clamp (by omega)]) ?_
        refine X_icmp_ge (tgt := 93) dX7_feedsAll_88 (by decide) (fun c_4 => ?_) (fun c_4 => ?_)
        · have hL11 := hL11.trans (if_pos c_4)
          refine X_iinc (v := nI (k11 + 1)) (j := 1) (lv' := [(5, ex_i (nI (k11 + 1))), (6, ex_i (F_X8_gain (F_X7_eaterOf ch) (F_X7_dishOf ch) (F_X7_isSlow ch) k11 y0dy y0ae res sf st gf)), (4, ex_r (sk 0 0)), (0, ex_r pp), (1, ex_r c), (2, ex_i 0), (3, ex_i (nI ch))]) dX7_feedsAll_93 rfl (nI_add k11 1) (Nat.le_of_ble_eq_true rfl) rfl ?_
          refine X_goto (tgt := 11) dX7_feedsAll_96 (by decide) ?_
          try dsimp only at hL11
          refine X_re (cs' := [(pp, ex_o 7 [ex_i pls, ex_i pfi, ex_i (nI pbe), ex_i ptr, ex_i (nI pdy), ex_r p6]), (p6, ex_q 5 4 (fun j => some (sk j 0))), ((sk 0 0), ex_o 8 [ex_i y0dy, ex_i y0sr, ex_i y0il, ex_r (sk 0 1), ex_r (sk 0 2), ex_r (sk 0 3)]), ((sk 0 1), ex_a 1 6 y0fu), ((sk 0 2), ex_a 1 6 y0ae), (c, ex_o 0 [ex_r c0, ex_r c1, ex_r c2, ex_r c3, ex_r c4, ex_r c5, ex_r c6, ex_r c7, ex_r c8, ex_r c9, ex_r c10, ex_r c11, ex_r c12, ex_i (nI np), ex_i (nI nd), ex_i sto, ex_i res, ex_r c17, ex_r c18, ex_r c19]), (c2, ex_a 1 6 hg), (c5, ex_a 1 6 sf), (c6, ex_a 1 6 st), (c17, ex_a 1 360 gf)]) [6, 7, 0, 8, 1, 2, 9, 3, 4, 5] (show List.Perm [6, 7, 0, 8, 1, 2, 9, 3, 4, 5] (List.range 10) from by decide) rfl ?_
          refine X_lv (lv' := [(5, ex_i (nI (k11 + 1))), (4, ex_r (sk 0 0)), (0, ex_r pp), (1, ex_r c), (2, ex_i 0), (3, ex_i (nI ch))]) [0, 2, 3, 4, 5, 6] rfl ?_
          exact ihc11 (k11 + 1) ⟨hL11, (show (k11 + 1) ≤ np by omega)⟩ (show np - (k11 + 1) < np - k11 by omega)
        · have hL11 := hL11.trans (if_neg c_4)
          refine X_iconst (v := 0) dX7_feedsAll_91 (by decide) ?_
          try dsimp only at hL11
          refine X_re (cs' := [(pp, ex_o 7 [ex_i pls, ex_i pfi, ex_i (nI pbe), ex_i ptr, ex_i (nI pdy), ex_r p6]), (p6, ex_q 5 4 (fun j => some (sk j 0))), ((sk 0 0), ex_o 8 [ex_i y0dy, ex_i y0sr, ex_i y0il, ex_r (sk 0 1), ex_r (sk 0 2), ex_r (sk 0 3)]), ((sk 0 1), ex_a 1 6 y0fu), ((sk 0 2), ex_a 1 6 y0ae), (c, ex_o 0 [ex_r c0, ex_r c1, ex_r c2, ex_r c3, ex_r c4, ex_r c5, ex_r c6, ex_r c7, ex_r c8, ex_r c9, ex_r c10, ex_r c11, ex_r c12, ex_i (nI np), ex_i (nI nd), ex_i sto, ex_i res, ex_r c17, ex_r c18, ex_r c19]), (c2, ex_a 1 6 hg), (c5, ex_a 1 6 sf), (c6, ex_a 1 6 st), (c17, ex_a 1 360 gf)]) [6, 7, 0, 8, 1, 2, 9, 3, 4, 5] (show List.Perm [6, 7, 0, 8, 1, 2, 9, 3, 4, 5] (List.range 10) from by decide) rfl ?_
          exact X_iret ex_nZ rfl dX7_feedsAll_92 (by (repeat refine ex_kc ?_) <;> rfl) (by subst hL11; exact ⟨rfl, rfl⟩)
      · have hL11 := hL11.trans (if_pos c_3)
        refine X_iconst (v := 0) dX7_feedsAll_44 (by decide) ?_
        refine X_goto (tgt := 68) dX7_feedsAll_45 (by decide) ?_
        refine X_istore (lv' := [(6, ex_i 0), (5, ex_i (nI k11)), (4, ex_r (sk 0 0)), (0, ex_r pp), (1, ex_r c), (2, ex_i 0), (3, ex_i (nI ch))]) dX7_feedsAll_68 (Nat.le_of_ble_eq_true rfl) rfl ?_
        refine X_aload (j := 2) dX7_feedsAll_70 rfl ?_
        refine X_get (j := 2) fo_X7_85 dX7_feedsAll_72 rfl rfl ?_
        refine X_iload (j := 1) dX7_feedsAll_75 rfl ?_
        refine X_iald (j := 3) (v := (y0fu k11)) dX7_feedsAll_77 rfl (vp_in_nI (show k11 < 6 by omega) (by decide)) (by rw [nI_clamp (by omega)]) ?_
        refine X_iload (j := 0) dX7_feedsAll_78 rfl ?_
        refine X_iadd (v := ((y0fu k11) + 0)) dX7_feedsAll_80 rfl ?_
        refine X_aload_n (j := 4) dX7_feedsAll_81 rfl rfl ?_
        refine X_get (j := 5) fo_X7_89 dX7_feedsAll_82 rfl rfl ?_
        refine X_iload (j := 1) dX7_feedsAll_85 rfl ?_
        refine X_iald (j := 6) (v := (hg k11)) dX7_feedsAll_87 rfl (vp_in_nI (show k11 < 6 by omega) (by decide)) (by rw [nI_clamp (by omega)]) ?_
        refine X_icmp_ge (tgt := 93) dX7_feedsAll_88 (by decide) (fun c_5 => ?_) (fun c_5 => ?_)
        · have hL11 := hL11.trans (if_pos c_5)
          refine X_iinc (v := nI (k11 + 1)) (j := 1) (lv' := [(5, ex_i (nI (k11 + 1))), (6, ex_i 0), (4, ex_r (sk 0 0)), (0, ex_r pp), (1, ex_r c), (2, ex_i 0), (3, ex_i (nI ch))]) dX7_feedsAll_93 rfl (nI_add k11 1) (Nat.le_of_ble_eq_true rfl) rfl ?_
          refine X_goto (tgt := 11) dX7_feedsAll_96 (by decide) ?_
          try dsimp only at hL11
          refine X_lv (lv' := [(5, ex_i (nI (k11 + 1))), (4, ex_r (sk 0 0)), (0, ex_r pp), (1, ex_r c), (2, ex_i 0), (3, ex_i (nI ch))]) [0, 2, 3, 4, 5, 6] rfl ?_
          exact ihc11 (k11 + 1) ⟨hL11, (show (k11 + 1) ≤ np by omega)⟩ (show np - (k11 + 1) < np - k11 by omega)
        · have hL11 := hL11.trans (if_neg c_5)
          refine X_iconst (v := 0) dX7_feedsAll_91 (by decide) ?_
          try dsimp only at hL11
          exact X_iret ex_nZ rfl dX7_feedsAll_92 (by (repeat refine ex_kc ?_) <;> rfl) (by subst hL11; exact ⟨rfl, rfl⟩)

def F_X7_chooses_0 (ch : Nat) (y0dy : Int32) (y0sr : Int32) (y0il : Int32) (y0fu : Nat → Int32) (y0ae : Nat → Int32) (y0hu : Nat → Int32) (y1fu : Nat → Int32) (y1ae : Nat → Int32) (y1hu : Nat → Int32) (np : Nat) (res : Int32) (kd : Nat → Int32) (hg : Nat → Int32) (sf : Nat → Int32) (st : Nat → Int32) (co : Nat → Int32) (gf : Nat → Int32) : Int32 × Int32 × Int32 × (Nat → Int32) × (Nat → Int32) × (Nat → Int32) := ((fun (w_1 : Int32 × Int32 × Int32 × (Nat → Int32) × (Nat → Int32) × (Nat → Int32)) => (if (nI ch) = 60 then ((fun (w_3 : Int32 × (Nat → Int32) × (Nat → Int32) × Int32) => (w_3.1, w_1.2.1, w_1.2.2.1, w_3.2.1, w_1.2.2.2.2.1, w_3.2.2.1)) (F_X8_endsDay w_1.1 w_1.2.2.2.1 w_1.2.2.2.2.2 np hg)) else ((fun (w_4 : Int32 × Int32 × (Nat → Int32) × (Nat → Int32) × Int32) => ((fun (w_5 : Int32 × (Nat → Int32) × (Nat → Int32) × Int32) => (w_5.1, w_4.1, w_4.2.1, w_5.2.1, w_4.2.2.2.1, w_5.2.2.1)) (F_X8_endsDay w_1.1 w_4.2.2.1 w_1.2.2.2.2.2 np hg))) (F_X8_takesMeal (F_X7_eaterOf ch) (F_X7_dishOf ch) (F_X7_isSlow ch) w_1.1 w_1.2.1 w_1.2.2.1 w_1.2.2.2.1 w_1.2.2.2.2.1 np res kd sf st co gf)))) (F_X8_copies y1fu y1ae y1hu y0dy y0sr y0il y0fu y0ae y0hu))
set_option maxHeartbeats 4000000 in
set_option maxRecDepth 100000 in
theorem e_X7_chooses_0 (l : Launch) (pp : Nat) (c : Nat) (ch : Nat) (pls : Int32) (pfi : Int32) (pbe : Nat) (ptr : Int32) (pdy : Nat) (p6 : Nat) (sk : Nat → Nat → Nat) (y0dy : Int32) (y0sr : Int32) (y0il : Int32) (y0fu : Nat → Int32) (y0ae : Nat → Int32) (y0hu : Nat → Int32) (y1dy : Int32) (y1sr : Int32) (y1il : Int32) (y1fu : Nat → Int32) (y1ae : Nat → Int32) (y1hu : Nat → Int32) (c0 : Nat) (c1 : Nat) (c2 : Nat) (c3 : Nat) (c4 : Nat) (c5 : Nat) (c6 : Nat) (c7 : Nat) (c8 : Nat) (c9 : Nat) (c10 : Nat) (c11 : Nat) (c12 : Nat) (np : Nat) (nd : Nat) (sto : Int32) (res : Int32) (c17 : Nat) (c18 : Nat) (c19 : Nat) (kd : Nat → Int32) (hg : Nat → Int32) (sf : Nat → Int32) (st : Nat → Int32) (co : Nat → Int32) (gf : Nat → Int32) (hch : ch < 61) (hnp : np ≤ 6) : ex_M l yX7_chooses cX7_chooses 5 none 4 97 [ex_r pp, ex_r c, ex_i 0, ex_i (nI ch)] [(pp, ex_o 7 [ex_i pls, ex_i pfi, ex_i (nI pbe), ex_i ptr, ex_i (nI pdy), ex_r p6]), (p6, ex_q 5 4 (fun j => some (sk j 0))), ((sk 0 0), ex_o 8 [ex_i y0dy, ex_i y0sr, ex_i y0il, ex_r (sk 0 1), ex_r (sk 0 2), ex_r (sk 0 3)]), ((sk 0 1), ex_a 1 6 y0fu), ((sk 0 2), ex_a 1 6 y0ae), ((sk 0 3), ex_a 1 6 y0hu), ((sk 1 0), ex_o 8 [ex_i y1dy, ex_i y1sr, ex_i y1il, ex_r (sk 1 1), ex_r (sk 1 2), ex_r (sk 1 3)]), ((sk 1 1), ex_a 1 6 y1fu), ((sk 1 2), ex_a 1 6 y1ae), ((sk 1 3), ex_a 1 6 y1hu), (c, ex_o 0 [ex_r c0, ex_r c1, ex_r c2, ex_r c3, ex_r c4, ex_r c5, ex_r c6, ex_r c7, ex_r c8, ex_r c9, ex_r c10, ex_r c11, ex_r c12, ex_i (nI np), ex_i (nI nd), ex_i sto, ex_i res, ex_r c17, ex_r c18, ex_r c19]), (c1, ex_a 1 6 kd), (c2, ex_a 1 6 hg), (c5, ex_a 1 6 sf), (c6, ex_a 1 6 st), (c11, ex_a 1 5 co), (c17, ex_a 1 360 gf)] (fun zcs zr => zcs = [(pp, ex_o 7 [ex_i pls, ex_i pfi, ex_i (nI pbe), ex_i ptr, ex_i (nI pdy), ex_r p6]), (p6, ex_q 5 4 (fun j => some (sk j 0))), ((sk 0 0), ex_o 8 [ex_i y0dy, ex_i y0sr, ex_i y0il, ex_r (sk 0 1), ex_r (sk 0 2), ex_r (sk 0 3)]), ((sk 0 1), ex_a 1 6 y0fu), ((sk 0 2), ex_a 1 6 y0ae), ((sk 0 3), ex_a 1 6 y0hu), ((sk 1 0), ex_o 8 [ex_i ((F_X7_chooses_0 ch y0dy y0sr y0il y0fu y0ae y0hu y1fu y1ae y1hu np res kd hg sf st co gf).1), ex_i ((F_X7_chooses_0 ch y0dy y0sr y0il y0fu y0ae y0hu y1fu y1ae y1hu np res kd hg sf st co gf).2.1), ex_i ((F_X7_chooses_0 ch y0dy y0sr y0il y0fu y0ae y0hu y1fu y1ae y1hu np res kd hg sf st co gf).2.2.1), ex_r (sk 1 1), ex_r (sk 1 2), ex_r (sk 1 3)]), ((sk 1 1), ex_a 1 6 ((F_X7_chooses_0 ch y0dy y0sr y0il y0fu y0ae y0hu y1fu y1ae y1hu np res kd hg sf st co gf).2.2.2.1)), ((sk 1 2), ex_a 1 6 ((F_X7_chooses_0 ch y0dy y0sr y0il y0fu y0ae y0hu y1fu y1ae y1hu np res kd hg sf st co gf).2.2.2.2.1)), ((sk 1 3), ex_a 1 6 ((F_X7_chooses_0 ch y0dy y0sr y0il y0fu y0ae y0hu y1fu y1ae y1hu np res kd hg sf st co gf).2.2.2.2.2)), (c, ex_o 0 [ex_r c0, ex_r c1, ex_r c2, ex_r c3, ex_r c4, ex_r c5, ex_r c6, ex_r c7, ex_r c8, ex_r c9, ex_r c10, ex_r c11, ex_r c12, ex_i (nI np), ex_i (nI nd), ex_i sto, ex_i res, ex_r c17, ex_r c18, ex_r c19]), (c1, ex_a 1 6 kd), (c2, ex_a 1 6 hg), (c5, ex_a 1 6 sf), (c6, ex_a 1 6 st), (c11, ex_a 1 5 co), (c17, ex_a 1 360 gf)] ∧ zr = none) := by
  refine X_meth (by decide) (Nat.le_of_ble_eq_true rfl) ?_
  generalize hV : F_X7_chooses_0 ch y0dy y0sr y0il y0fu y0ae y0hu y1fu y1ae y1hu np res kd hg sf st co gf = V0
  have hV := hV.symm
  unfold F_X7_chooses_0 at hV
  try dsimp only at hV
  refine X_aload_n (j := 0) dX7_chooses_0 rfl rfl ?_
  refine X_get (j := 0) fo_X7_29 dX7_chooses_1 rfl rfl ?_
  refine X_iload_n (j := 2) dX7_chooses_4 rfl rfl ?_
  refine X_iconst (v := 1) dX7_chooses_5 (by decide) ?_
  refine X_iadd (v := 1) dX7_chooses_6 (by decide) ?_
  refine X_aald (j := 1) (v := (sk 1 0)) dX7_chooses_7 rfl (vin (by decide)) rfl (Or.inr rfl) ?_
  refine X_astore (lv' := [(4, ex_r (sk 1 0)), (0, ex_r pp), (1, ex_r c), (2, ex_i 0), (3, ex_i (nI ch))]) dX7_chooses_8 (Nat.le_of_ble_eq_true rfl) rfl ?_
  refine X_aload (j := 0) dX7_chooses_10 rfl ?_
  refine X_aload_n (j := 1) dX7_chooses_12 rfl rfl ?_
  refine X_get (j := 0) fo_X7_29 dX7_chooses_13 rfl rfl ?_
  refine X_iload_n (j := 3) dX7_chooses_16 rfl rfl ?_
  refine X_aald (j := 1) (v := (sk 0 0)) dX7_chooses_17 rfl (vin (by decide)) rfl (Or.inr rfl) ?_
  refine X_callV (j0 := 0) (rest := [(pp, ex_o 7 [ex_i pls, ex_i pfi, ex_i (nI pbe), ex_i ptr, ex_i (nI pdy), ex_r p6]), (p6, ex_q 5 4 (fun j => some (sk j 0))), (c, ex_o 0 [ex_r c0, ex_r c1, ex_r c2, ex_r c3, ex_r c4, ex_r c5, ex_r c6, ex_r c7, ex_r c8, ex_r c9, ex_r c10, ex_r c11, ex_r c12, ex_i (nI np), ex_i (nI nd), ex_i sto, ex_i res, ex_r c17, ex_r c18, ex_r c19]), (c1, ex_a 1 6 kd), (c2, ex_a 1 6 hg), (c5, ex_a 1 6 sf), (c6, ex_a 1 6 st), (c11, ex_a 1 5 co), (c17, ex_a 1 360 gf)]) (stk := []) co_X7_41 rfl ⟨(Nat.le_of_ble_eq_true rfl), (Nat.le_of_ble_eq_true rfl)⟩ (e_X8_copies l (sk 1 0) (sk 0 0) y1dy y1sr y1il (sk 1 1) (sk 1 2) (sk 1 3) y1fu y1ae y1hu y0dy y0sr y0il (sk 0 1) (sk 0 2) (sk 0 3) y0fu y0ae y0hu) dX7_chooses_18 [6, 7, 8, 9, 2, 3, 4, 5, 0, 1, 10, 11, 12, 13, 14, 15, 16] (show List.Perm [6, 7, 8, 9, 2, 3, 4, 5, 0, 1, 10, 11, 12, 13, 14, 15, 16] (List.range 17) from by decide) rfl rfl rfl rfl (Nat.le_of_ble_eq_true rfl) (fun zc1 zr hq hk => ?_)
  obtain ⟨rfl, rfl⟩ := hq
  try dsimp only at hV
  generalize hq_w_1 : F_X8_copies y1fu y1ae y1hu y0dy y0sr y0il y0fu y0ae y0hu = w_1 at hV ⊢
  try dsimp only at hV
  refine X_iload_n (j := 4) dX7_chooses_21 rfl rfl ?_
  refine X_bipush (v := 60) dX7_chooses_22 (by decide) ?_
  refine X_icmp_eq (tgt := 46) dX7_chooses_24 (by decide) (fun c_2 => ?_) (fun c_2 => ?_)
  · have hV := hV.trans (if_pos c_2)
    refine X_aload (j := 0) dX7_chooses_46 rfl ?_
    refine X_aload_n (j := 2) dX7_chooses_48 rfl rfl ?_
    refine X_callV (j0 := 0) (rest := [((sk 1 2), ex_a 1 6 w_1.2.2.2.2.1), ((sk 0 0), ex_o 8 [ex_i y0dy, ex_i y0sr, ex_i y0il, ex_r (sk 0 1), ex_r (sk 0 2), ex_r (sk 0 3)]), ((sk 0 1), ex_a 1 6 y0fu), ((sk 0 2), ex_a 1 6 y0ae), ((sk 0 3), ex_a 1 6 y0hu), (pp, ex_o 7 [ex_i pls, ex_i pfi, ex_i (nI pbe), ex_i ptr, ex_i (nI pdy), ex_r p6]), (p6, ex_q 5 4 (fun j => some (sk j 0))), (c1, ex_a 1 6 kd), (c5, ex_a 1 6 sf), (c6, ex_a 1 6 st), (c11, ex_a 1 5 co), (c17, ex_a 1 360 gf)]) (stk := []) co_X7_104 rfl ⟨(Nat.le_of_ble_eq_true rfl), (Nat.le_of_ble_eq_true rfl)⟩ (e_X8_endsDay l (sk 1 0) c w_1.1 w_1.2.1 w_1.2.2.1 (sk 1 1) (sk 1 2) (sk 1 3) w_1.2.2.2.1 w_1.2.2.2.2.2 c0 c1 c2 c3 c4 c5 c6 c7 c8 c9 c10 c11 c12 np nd sto res c17 c18 c19 hg (by first | assumption | omega)) dX7_chooses_49 [0, 1, 3, 10, 12, 2, 4, 5, 6, 7, 8, 9, 11, 13, 14, 15, 16] (show List.Perm [0, 1, 3, 10, 12, 2, 4, 5, 6, 7, 8, 9, 11, 13, 14, 15, 16] (List.range 17) from by decide) rfl rfl rfl rfl (Nat.le_of_ble_eq_true rfl) (fun zc1 zr hq hk => ?_)
    obtain ⟨rfl, rfl⟩ := hq
    try dsimp only at hV
    generalize hq_w_3 : F_X8_endsDay w_1.1 w_1.2.2.2.1 w_1.2.2.2.2.2 np hg = w_3 at hV ⊢
    try dsimp only at hV
    refine X_pop dX7_chooses_52 rfl ?_
    try dsimp only at hV
    refine X_re (cs' := [(pp, ex_o 7 [ex_i pls, ex_i pfi, ex_i (nI pbe), ex_i ptr, ex_i (nI pdy), ex_r p6]), (p6, ex_q 5 4 (fun j => some (sk j 0))), ((sk 0 0), ex_o 8 [ex_i y0dy, ex_i y0sr, ex_i y0il, ex_r (sk 0 1), ex_r (sk 0 2), ex_r (sk 0 3)]), ((sk 0 1), ex_a 1 6 y0fu), ((sk 0 2), ex_a 1 6 y0ae), ((sk 0 3), ex_a 1 6 y0hu), ((sk 1 0), ex_o 8 [ex_i w_3.1, ex_i w_1.2.1, ex_i w_1.2.2.1, ex_r (sk 1 1), ex_r (sk 1 2), ex_r (sk 1 3)]), ((sk 1 1), ex_a 1 6 w_3.2.1), ((sk 1 2), ex_a 1 6 w_1.2.2.2.2.1), ((sk 1 3), ex_a 1 6 w_3.2.2.1), (c, ex_o 0 [ex_r c0, ex_r c1, ex_r c2, ex_r c3, ex_r c4, ex_r c5, ex_r c6, ex_r c7, ex_r c8, ex_r c9, ex_r c10, ex_r c11, ex_r c12, ex_i (nI np), ex_i (nI nd), ex_i sto, ex_i res, ex_r c17, ex_r c18, ex_r c19]), (c1, ex_a 1 6 kd), (c2, ex_a 1 6 hg), (c5, ex_a 1 6 sf), (c6, ex_a 1 6 st), (c11, ex_a 1 5 co), (c17, ex_a 1 360 gf)]) [10, 11, 6, 7, 8, 9, 0, 1, 5, 2, 3, 12, 4, 13, 14, 15, 16] (show List.Perm [10, 11, 6, 7, 8, 9, 0, 1, 5, 2, 3, 12, 4, 13, 14, 15, 16] (List.range 17) from by decide) rfl ?_
    exact X_vret dX7_chooses_53 (by (repeat refine ex_kc ?_) <;> rfl) (by subst hV; exact ⟨rfl, rfl⟩)
  · have hV := hV.trans (if_neg c_2)
    have hc60 : ch < 60 := ne60 hch c_2
    have hea : F_X7_eaterOf ch < 6 := ea_lt hc60
    have hdi : F_X7_dishOf ch < 5 := di_lt ch
    refine X_aload (j := 0) dX7_chooses_27 rfl ?_
    refine X_aload_n (j := 2) dX7_chooses_29 rfl rfl ?_
    refine X_iload_n (j := 4) dX7_chooses_30 rfl rfl ?_
    refine X_callS (rest := [((sk 1 0), ex_o 8 [ex_i w_1.1, ex_i w_1.2.1, ex_i w_1.2.2.1, ex_r (sk 1 1), ex_r (sk 1 2), ex_r (sk 1 3)]), ((sk 1 1), ex_a 1 6 w_1.2.2.2.1), ((sk 1 2), ex_a 1 6 w_1.2.2.2.2.1), ((sk 1 3), ex_a 1 6 w_1.2.2.2.2.2), ((sk 0 0), ex_o 8 [ex_i y0dy, ex_i y0sr, ex_i y0il, ex_r (sk 0 1), ex_r (sk 0 2), ex_r (sk 0 3)]), ((sk 0 1), ex_a 1 6 y0fu), ((sk 0 2), ex_a 1 6 y0ae), ((sk 0 3), ex_a 1 6 y0hu), (pp, ex_o 7 [ex_i pls, ex_i pfi, ex_i (nI pbe), ex_i ptr, ex_i (nI pdy), ex_r p6]), (p6, ex_q 5 4 (fun j => some (sk j 0))), (c, ex_o 0 [ex_r c0, ex_r c1, ex_r c2, ex_r c3, ex_r c4, ex_r c5, ex_r c6, ex_r c7, ex_r c8, ex_r c9, ex_r c10, ex_r c11, ex_r c12, ex_i (nI np), ex_i (nI nd), ex_i sto, ex_i res, ex_r c17, ex_r c18, ex_r c19]), (c1, ex_a 1 6 kd), (c2, ex_a 1 6 hg), (c5, ex_a 1 6 sf), (c6, ex_a 1 6 st), (c11, ex_a 1 5 co), (c17, ex_a 1 360 gf)]) (stk := [ex_r c, ex_r (sk 1 0)]) co_X7_60 rfl ⟨(Nat.le_of_ble_eq_true rfl), (Nat.le_of_ble_eq_true rfl)⟩ (e_X7_eaterOf l ch (by first | assumption | omega)) dX7_chooses_31 [0, 1, 2, 3, 4, 5, 6, 7, 8, 9, 10, 11, 12, 13, 14, 15, 16] (show List.Perm [0, 1, 2, 3, 4, 5, 6, 7, 8, 9, 10, 11, 12, 13, 14, 15, 16] (List.range 17) from by decide) rfl rfl rfl (Nat.le_of_ble_eq_true rfl) (fun zc1 zr hq hk => ?_)
    obtain ⟨rfl, rfl⟩ := hq
    refine X_iload_n (j := 4) dX7_chooses_34 rfl rfl ?_
    refine X_callS (rest := [((sk 1 0), ex_o 8 [ex_i w_1.1, ex_i w_1.2.1, ex_i w_1.2.2.1, ex_r (sk 1 1), ex_r (sk 1 2), ex_r (sk 1 3)]), ((sk 1 1), ex_a 1 6 w_1.2.2.2.1), ((sk 1 2), ex_a 1 6 w_1.2.2.2.2.1), ((sk 1 3), ex_a 1 6 w_1.2.2.2.2.2), ((sk 0 0), ex_o 8 [ex_i y0dy, ex_i y0sr, ex_i y0il, ex_r (sk 0 1), ex_r (sk 0 2), ex_r (sk 0 3)]), ((sk 0 1), ex_a 1 6 y0fu), ((sk 0 2), ex_a 1 6 y0ae), ((sk 0 3), ex_a 1 6 y0hu), (pp, ex_o 7 [ex_i pls, ex_i pfi, ex_i (nI pbe), ex_i ptr, ex_i (nI pdy), ex_r p6]), (p6, ex_q 5 4 (fun j => some (sk j 0))), (c, ex_o 0 [ex_r c0, ex_r c1, ex_r c2, ex_r c3, ex_r c4, ex_r c5, ex_r c6, ex_r c7, ex_r c8, ex_r c9, ex_r c10, ex_r c11, ex_r c12, ex_i (nI np), ex_i (nI nd), ex_i sto, ex_i res, ex_r c17, ex_r c18, ex_r c19]), (c1, ex_a 1 6 kd), (c2, ex_a 1 6 hg), (c5, ex_a 1 6 sf), (c6, ex_a 1 6 st), (c11, ex_a 1 5 co), (c17, ex_a 1 360 gf)]) (stk := [ex_i (nI (F_X7_eaterOf ch)), ex_r c, ex_r (sk 1 0)]) co_X7_64 rfl ⟨(Nat.le_of_ble_eq_true rfl), (Nat.le_of_ble_eq_true rfl)⟩ (e_X7_dishOf l ch (by first | assumption | omega)) dX7_chooses_35 [0, 1, 2, 3, 4, 5, 6, 7, 8, 9, 10, 11, 12, 13, 14, 15, 16] (show List.Perm [0, 1, 2, 3, 4, 5, 6, 7, 8, 9, 10, 11, 12, 13, 14, 15, 16] (List.range 17) from by decide) rfl rfl rfl (Nat.le_of_ble_eq_true rfl) (fun zc1 zr hq hk => ?_)
    obtain ⟨rfl, rfl⟩ := hq
    refine X_iload_n (j := 4) dX7_chooses_38 rfl rfl ?_
    refine X_callS (rest := [((sk 1 0), ex_o 8 [ex_i w_1.1, ex_i w_1.2.1, ex_i w_1.2.2.1, ex_r (sk 1 1), ex_r (sk 1 2), ex_r (sk 1 3)]), ((sk 1 1), ex_a 1 6 w_1.2.2.2.1), ((sk 1 2), ex_a 1 6 w_1.2.2.2.2.1), ((sk 1 3), ex_a 1 6 w_1.2.2.2.2.2), ((sk 0 0), ex_o 8 [ex_i y0dy, ex_i y0sr, ex_i y0il, ex_r (sk 0 1), ex_r (sk 0 2), ex_r (sk 0 3)]), ((sk 0 1), ex_a 1 6 y0fu), ((sk 0 2), ex_a 1 6 y0ae), ((sk 0 3), ex_a 1 6 y0hu), (pp, ex_o 7 [ex_i pls, ex_i pfi, ex_i (nI pbe), ex_i ptr, ex_i (nI pdy), ex_r p6]), (p6, ex_q 5 4 (fun j => some (sk j 0))), (c, ex_o 0 [ex_r c0, ex_r c1, ex_r c2, ex_r c3, ex_r c4, ex_r c5, ex_r c6, ex_r c7, ex_r c8, ex_r c9, ex_r c10, ex_r c11, ex_r c12, ex_i (nI np), ex_i (nI nd), ex_i sto, ex_i res, ex_r c17, ex_r c18, ex_r c19]), (c1, ex_a 1 6 kd), (c2, ex_a 1 6 hg), (c5, ex_a 1 6 sf), (c6, ex_a 1 6 st), (c11, ex_a 1 5 co), (c17, ex_a 1 360 gf)]) (stk := [ex_i (nI (F_X7_dishOf ch)), ex_i (nI (F_X7_eaterOf ch)), ex_r c, ex_r (sk 1 0)]) co_X7_92 rfl ⟨(Nat.le_of_ble_eq_true rfl), (Nat.le_of_ble_eq_true rfl)⟩ (e_X7_isSlow l ch (by first | assumption | omega)) dX7_chooses_39 [0, 1, 2, 3, 4, 5, 6, 7, 8, 9, 10, 11, 12, 13, 14, 15, 16] (show List.Perm [0, 1, 2, 3, 4, 5, 6, 7, 8, 9, 10, 11, 12, 13, 14, 15, 16] (List.range 17) from by decide) rfl rfl rfl (Nat.le_of_ble_eq_true rfl) (fun zc1 zr hq hk => ?_)
    obtain ⟨rfl, rfl⟩ := hq
    refine X_callV (j0 := 0) (rest := [((sk 1 3), ex_a 1 6 w_1.2.2.2.2.2), ((sk 0 0), ex_o 8 [ex_i y0dy, ex_i y0sr, ex_i y0il, ex_r (sk 0 1), ex_r (sk 0 2), ex_r (sk 0 3)]), ((sk 0 1), ex_a 1 6 y0fu), ((sk 0 2), ex_a 1 6 y0ae), ((sk 0 3), ex_a 1 6 y0hu), (pp, ex_o 7 [ex_i pls, ex_i pfi, ex_i (nI pbe), ex_i ptr, ex_i (nI pdy), ex_r p6]), (p6, ex_q 5 4 (fun j => some (sk j 0))), (c2, ex_a 1 6 hg)]) (stk := []) co_X7_100 rfl ⟨(Nat.le_of_ble_eq_true rfl), (Nat.le_of_ble_eq_true rfl)⟩ (e_X8_takesMeal l (sk 1 0) c (F_X7_eaterOf ch) (F_X7_dishOf ch) (F_X7_isSlow ch) w_1.1 w_1.2.1 w_1.2.2.1 (sk 1 1) (sk 1 2) (sk 1 3) w_1.2.2.2.1 w_1.2.2.2.2.1 c0 c1 c2 c3 c4 c5 c6 c7 c8 c9 c10 c11 c12 np nd sto res c17 c18 c19 kd sf st co gf (by first | assumption | omega) (by first | assumption | omega) (by first | assumption | omega)) dX7_chooses_42 [0, 1, 2, 10, 11, 13, 14, 15, 16, 3, 4, 5, 6, 7, 8, 9, 12] (show List.Perm [0, 1, 2, 10, 11, 13, 14, 15, 16, 3, 4, 5, 6, 7, 8, 9, 12] (List.range 17) from by decide) rfl rfl rfl rfl (Nat.le_of_ble_eq_true rfl) (fun zc1 zr hq hk => ?_)
    obtain ⟨rfl, rfl⟩ := hq
    try dsimp only at hV
    generalize hq_w_4 : F_X8_takesMeal (F_X7_eaterOf ch) (F_X7_dishOf ch) (F_X7_isSlow ch) w_1.1 w_1.2.1 w_1.2.2.1 w_1.2.2.2.1 w_1.2.2.2.2.1 np res kd sf st co gf = w_4 at hV ⊢
    try dsimp only at hV
    refine X_pop dX7_chooses_45 rfl ?_
    refine X_aload (j := 0) dX7_chooses_46 rfl ?_
    refine X_aload_n (j := 2) dX7_chooses_48 rfl rfl ?_
    refine X_callV (j0 := 0) (rest := [((sk 1 2), ex_a 1 6 w_4.2.2.2.1), (c1, ex_a 1 6 kd), (c5, ex_a 1 6 sf), (c6, ex_a 1 6 st), (c11, ex_a 1 5 co), (c17, ex_a 1 360 gf), ((sk 0 0), ex_o 8 [ex_i y0dy, ex_i y0sr, ex_i y0il, ex_r (sk 0 1), ex_r (sk 0 2), ex_r (sk 0 3)]), ((sk 0 1), ex_a 1 6 y0fu), ((sk 0 2), ex_a 1 6 y0ae), ((sk 0 3), ex_a 1 6 y0hu), (pp, ex_o 7 [ex_i pls, ex_i pfi, ex_i (nI pbe), ex_i ptr, ex_i (nI pdy), ex_r p6]), (p6, ex_q 5 4 (fun j => some (sk j 0)))]) (stk := []) co_X7_104 rfl ⟨(Nat.le_of_ble_eq_true rfl), (Nat.le_of_ble_eq_true rfl)⟩ (e_X8_endsDay l (sk 1 0) c w_1.1 w_4.1 w_4.2.1 (sk 1 1) (sk 1 2) (sk 1 3) w_4.2.2.1 w_1.2.2.2.2.2 c0 c1 c2 c3 c4 c5 c6 c7 c8 c9 c10 c11 c12 np nd sto res c17 c18 c19 hg (by first | assumption | omega)) dX7_chooses_49 [0, 1, 9, 3, 16, 2, 4, 5, 6, 7, 8, 10, 11, 12, 13, 14, 15] (show List.Perm [0, 1, 9, 3, 16, 2, 4, 5, 6, 7, 8, 10, 11, 12, 13, 14, 15] (List.range 17) from by decide) rfl rfl rfl rfl (Nat.le_of_ble_eq_true rfl) (fun zc1 zr hq hk => ?_)
    obtain ⟨rfl, rfl⟩ := hq
    try dsimp only at hV
    generalize hq_w_5 : F_X8_endsDay w_1.1 w_4.2.2.1 w_1.2.2.2.2.2 np hg = w_5 at hV ⊢
    try dsimp only at hV
    refine X_pop dX7_chooses_52 rfl ?_
    try dsimp only at hV
    refine X_re (cs' := [(pp, ex_o 7 [ex_i pls, ex_i pfi, ex_i (nI pbe), ex_i ptr, ex_i (nI pdy), ex_r p6]), (p6, ex_q 5 4 (fun j => some (sk j 0))), ((sk 0 0), ex_o 8 [ex_i y0dy, ex_i y0sr, ex_i y0il, ex_r (sk 0 1), ex_r (sk 0 2), ex_r (sk 0 3)]), ((sk 0 1), ex_a 1 6 y0fu), ((sk 0 2), ex_a 1 6 y0ae), ((sk 0 3), ex_a 1 6 y0hu), ((sk 1 0), ex_o 8 [ex_i w_5.1, ex_i w_4.1, ex_i w_4.2.1, ex_r (sk 1 1), ex_r (sk 1 2), ex_r (sk 1 3)]), ((sk 1 1), ex_a 1 6 w_5.2.1), ((sk 1 2), ex_a 1 6 w_4.2.2.2.1), ((sk 1 3), ex_a 1 6 w_5.2.2.1), (c, ex_o 0 [ex_r c0, ex_r c1, ex_r c2, ex_r c3, ex_r c4, ex_r c5, ex_r c6, ex_r c7, ex_r c8, ex_r c9, ex_r c10, ex_r c11, ex_r c12, ex_i (nI np), ex_i (nI nd), ex_i sto, ex_i res, ex_r c17, ex_r c18, ex_r c19]), (c1, ex_a 1 6 kd), (c2, ex_a 1 6 hg), (c5, ex_a 1 6 sf), (c6, ex_a 1 6 st), (c11, ex_a 1 5 co), (c17, ex_a 1 360 gf)]) [15, 16, 11, 12, 13, 14, 0, 1, 5, 2, 3, 6, 4, 7, 8, 9, 10] (show List.Perm [15, 16, 11, 12, 13, 14, 0, 1, 5, 2, 3, 6, 4, 7, 8, 9, 10] (List.range 17) from by decide) rfl ?_
    exact X_vret dX7_chooses_53 (by (repeat refine ex_kc ?_) <;> rfl) (by subst hV; exact ⟨rfl, rfl⟩)

def F_X7_costOf_1 (ch : Nat) (y1dy : Int32) (y1sr : Int32) (np : Nat) (nd : Nat) (kd : Nat → Int32) (sf : Nat → Int32) (st : Nat → Int32) (co : Nat → Int32) (bt : Nat → Int32) : Int32 := (if (nI ch) = 60 then 0 else (if (nI np) ≤ (nI (F_X7_eaterOf ch)) then (-1) else (if (nI nd) ≤ (nI (F_X7_dishOf ch)) then (-1) else (if (bt ch) = 0 then (if (F_X8_canEat (F_X7_eaterOf ch) (F_X7_dishOf ch) y1dy y1sr kd sf st co) = 0 then (-1) else (F_X0_costBy (F_X7_eaterOf ch) (F_X7_dishOf ch) kd co)) else (-1)))))
set_option maxHeartbeats 4000000 in
set_option maxRecDepth 100000 in
theorem e_X7_costOf_1 (l : Launch) (pp : Nat) (c : Nat) (ch : Nat) (pls : Int32) (pfi : Int32) (pbe : Nat) (ptr : Int32) (pdy : Nat) (p6 : Nat) (sk : Nat → Nat → Nat) (y1dy : Int32) (y1sr : Int32) (y1il : Int32) (c0 : Nat) (c1 : Nat) (c2 : Nat) (c3 : Nat) (c4 : Nat) (c5 : Nat) (c6 : Nat) (c7 : Nat) (c8 : Nat) (c9 : Nat) (c10 : Nat) (c11 : Nat) (c12 : Nat) (np : Nat) (nd : Nat) (sto : Int32) (res : Int32) (c17 : Nat) (c18 : Nat) (c19 : Nat) (kd : Nat → Int32) (sf : Nat → Int32) (st : Nat → Int32) (co : Nat → Int32) (bt : Nat → Int32) (hch : ch < 61) : ex_M l yX7_costOf cX7_costOf 6 (some .int) 3 67 [ex_r pp, ex_r c, ex_i 1, ex_i (nI ch)] [(pp, ex_o 7 [ex_i pls, ex_i pfi, ex_i (nI pbe), ex_i ptr, ex_i (nI pdy), ex_r p6]), (p6, ex_q 5 4 (fun j => some (sk j 0))), ((sk 1 0), ex_o 8 [ex_i y1dy, ex_i y1sr, ex_i y1il, ex_r (sk 1 1), ex_r (sk 1 2), ex_r (sk 1 3)]), (c, ex_o 0 [ex_r c0, ex_r c1, ex_r c2, ex_r c3, ex_r c4, ex_r c5, ex_r c6, ex_r c7, ex_r c8, ex_r c9, ex_r c10, ex_r c11, ex_r c12, ex_i (nI np), ex_i (nI nd), ex_i sto, ex_i res, ex_r c17, ex_r c18, ex_r c19]), (c1, ex_a 1 6 kd), (c5, ex_a 1 6 sf), (c6, ex_a 1 6 st), (c11, ex_a 1 5 co), (c19, ex_a 3 60 bt)] (fun zcs zr => zcs = [(pp, ex_o 7 [ex_i pls, ex_i pfi, ex_i (nI pbe), ex_i ptr, ex_i (nI pdy), ex_r p6]), (p6, ex_q 5 4 (fun j => some (sk j 0))), ((sk 1 0), ex_o 8 [ex_i y1dy, ex_i y1sr, ex_i y1il, ex_r (sk 1 1), ex_r (sk 1 2), ex_r (sk 1 3)]), (c, ex_o 0 [ex_r c0, ex_r c1, ex_r c2, ex_r c3, ex_r c4, ex_r c5, ex_r c6, ex_r c7, ex_r c8, ex_r c9, ex_r c10, ex_r c11, ex_r c12, ex_i (nI np), ex_i (nI nd), ex_i sto, ex_i res, ex_r c17, ex_r c18, ex_r c19]), (c1, ex_a 1 6 kd), (c5, ex_a 1 6 sf), (c6, ex_a 1 6 st), (c11, ex_a 1 5 co), (c19, ex_a 3 60 bt)] ∧ zr = some (ex_i (F_X7_costOf_1 ch y1dy y1sr np nd kd sf st co bt))) := by
  refine X_meth (by decide) (Nat.le_of_ble_eq_true rfl) ?_
  generalize hV : F_X7_costOf_1 ch y1dy y1sr np nd kd sf st co bt = V0
  have hV := hV.symm
  unfold F_X7_costOf_1 at hV
  try dsimp only at hV
  refine X_iload_n (j := 3) dX7_costOf_0 rfl rfl ?_
  refine X_bipush (v := 60) dX7_costOf_1 (by decide) ?_
  refine X_icmp_ne (tgt := 8) dX7_costOf_3 (by decide) (fun c_1 => ?_) (fun c_1 => ?_)
  · have hV := hV.trans (if_neg c_1)
    have hc60 : ch < 60 := ne60 hch c_1
    have hea : F_X7_eaterOf ch < 6 := ea_lt hc60
    have hdi : F_X7_dishOf ch < 5 := di_lt ch
    refine X_iload_n (j := 3) dX7_costOf_8 rfl rfl ?_
    refine X_callS (rest := [(pp, ex_o 7 [ex_i pls, ex_i pfi, ex_i (nI pbe), ex_i ptr, ex_i (nI pdy), ex_r p6]), (p6, ex_q 5 4 (fun j => some (sk j 0))), ((sk 1 0), ex_o 8 [ex_i y1dy, ex_i y1sr, ex_i y1il, ex_r (sk 1 1), ex_r (sk 1 2), ex_r (sk 1 3)]), (c, ex_o 0 [ex_r c0, ex_r c1, ex_r c2, ex_r c3, ex_r c4, ex_r c5, ex_r c6, ex_r c7, ex_r c8, ex_r c9, ex_r c10, ex_r c11, ex_r c12, ex_i (nI np), ex_i (nI nd), ex_i sto, ex_i res, ex_r c17, ex_r c18, ex_r c19]), (c1, ex_a 1 6 kd), (c5, ex_a 1 6 sf), (c6, ex_a 1 6 st), (c11, ex_a 1 5 co), (c19, ex_a 3 60 bt)]) (stk := []) co_X7_60 rfl ⟨(Nat.le_of_ble_eq_true rfl), (Nat.le_of_ble_eq_true rfl)⟩ (e_X7_eaterOf l ch (by first | assumption | omega)) dX7_costOf_9 [0, 1, 2, 3, 4, 5, 6, 7, 8] (show List.Perm [0, 1, 2, 3, 4, 5, 6, 7, 8] (List.range 9) from by decide) rfl rfl rfl (Nat.le_of_ble_eq_true rfl) (fun zc1 zr hq hk => ?_)
    obtain ⟨rfl, rfl⟩ := hq
    refine X_istore (lv' := [(4, ex_i (nI (F_X7_eaterOf ch))), (0, ex_r pp), (1, ex_r c), (2, ex_i 1), (3, ex_i (nI ch))]) dX7_costOf_12 (Nat.le_of_ble_eq_true rfl) rfl ?_
    refine X_iload_n (j := 4) dX7_costOf_14 rfl rfl ?_
    refine X_callS (rest := [(pp, ex_o 7 [ex_i pls, ex_i pfi, ex_i (nI pbe), ex_i ptr, ex_i (nI pdy), ex_r p6]), (p6, ex_q 5 4 (fun j => some (sk j 0))), ((sk 1 0), ex_o 8 [ex_i y1dy, ex_i y1sr, ex_i y1il, ex_r (sk 1 1), ex_r (sk 1 2), ex_r (sk 1 3)]), (c, ex_o 0 [ex_r c0, ex_r c1, ex_r c2, ex_r c3, ex_r c4, ex_r c5, ex_r c6, ex_r c7, ex_r c8, ex_r c9, ex_r c10, ex_r c11, ex_r c12, ex_i (nI np), ex_i (nI nd), ex_i sto, ex_i res, ex_r c17, ex_r c18, ex_r c19]), (c1, ex_a 1 6 kd), (c5, ex_a 1 6 sf), (c6, ex_a 1 6 st), (c11, ex_a 1 5 co), (c19, ex_a 3 60 bt)]) (stk := []) co_X7_64 rfl ⟨(Nat.le_of_ble_eq_true rfl), (Nat.le_of_ble_eq_true rfl)⟩ (e_X7_dishOf l ch (by first | assumption | omega)) dX7_costOf_15 [0, 1, 2, 3, 4, 5, 6, 7, 8] (show List.Perm [0, 1, 2, 3, 4, 5, 6, 7, 8] (List.range 9) from by decide) rfl rfl rfl (Nat.le_of_ble_eq_true rfl) (fun zc1 zr hq hk => ?_)
    obtain ⟨rfl, rfl⟩ := hq
    refine X_istore (lv' := [(5, ex_i (nI (F_X7_dishOf ch))), (4, ex_i (nI (F_X7_eaterOf ch))), (0, ex_r pp), (1, ex_r c), (2, ex_i 1), (3, ex_i (nI ch))]) dX7_costOf_18 (Nat.le_of_ble_eq_true rfl) rfl ?_
    refine X_iload (j := 1) dX7_costOf_20 rfl ?_
    refine X_aload_n (j := 3) dX7_costOf_22 rfl rfl ?_
    refine X_get (j := 3) fo_X7_67 dX7_costOf_23 rfl rfl ?_
    refine X_icmp_ge (tgt := 47) dX7_costOf_26 (by decide) (fun c_2 => ?_) (fun c_2 => ?_)
    · have hV := hV.trans (if_pos c_2)
      refine X_iconst (v := (-1)) dX7_costOf_47 (by decide) ?_
      try dsimp only at hV
      exact X_iret ex_nI rfl dX7_costOf_48 (by (repeat refine ex_kc ?_) <;> rfl) (by subst hV; exact ⟨rfl, rfl⟩)
    · have hV := hV.trans (if_neg c_2)
      refine X_iload (j := 0) dX7_costOf_29 rfl ?_
      refine X_aload_n (j := 3) dX7_costOf_31 rfl rfl ?_
      refine X_get (j := 3) fo_X7_72 dX7_costOf_32 rfl rfl ?_
      refine X_icmp_ge (tgt := 47) dX7_costOf_35 (by decide) (fun c_3 => ?_) (fun c_3 => ?_)
      · have hV := hV.trans (if_pos c_3)
        refine X_iconst (v := (-1)) dX7_costOf_47 (by decide) ?_
        try dsimp only at hV
        exact X_iret ex_nI rfl dX7_costOf_48 (by (repeat refine ex_kc ?_) <;> rfl) (by subst hV; exact ⟨rfl, rfl⟩)
      · have hV := hV.trans (if_neg c_3)
        refine X_aload_n (j := 3) dX7_costOf_38 rfl rfl ?_
        refine X_get (j := 3) fo_X7_75 dX7_costOf_39 rfl rfl ?_
        refine X_iload_n (j := 5) dX7_costOf_42 rfl rfl ?_
        refine X_zald (j := 8) (v := (bt ch)) dX7_costOf_43 rfl (vp_in_nI (show ch < 60 by omega) (by decide)) (by rw [nI_clamp (by omega)]) ?_
        refine X_if_eq (tgt := 49) dX7_costOf_44 (by decide) (fun c_4 => ?_) (fun c_4 => ?_)
        · have hV := hV.trans (if_pos c_4)
          refine X_aload_n (j := 2) dX7_costOf_49 rfl rfl ?_
          refine X_get (j := 0) fo_X7_29 dX7_costOf_50 rfl rfl ?_
          refine X_iload_n (j := 4) dX7_costOf_53 rfl rfl ?_
          refine X_aald (j := 1) (v := (sk 1 0)) dX7_costOf_54 rfl (vin (by decide)) rfl (Or.inr rfl) ?_
          refine X_aload_n (j := 3) dX7_costOf_55 rfl rfl ?_
          refine X_iload (j := 1) dX7_costOf_56 rfl ?_
          refine X_iload (j := 0) dX7_costOf_58 rfl ?_
          refine X_callV (j0 := 0) (rest := [(pp, ex_o 7 [ex_i pls, ex_i pfi, ex_i (nI pbe), ex_i ptr, ex_i (nI pdy), ex_r p6]), (p6, ex_q 5 4 (fun j => some (sk j 0))), (c19, ex_a 3 60 bt)]) (stk := []) co_X7_79 rfl ⟨(Nat.le_of_ble_eq_true rfl), (Nat.le_of_ble_eq_true rfl)⟩ (e_X8_canEat l (sk 1 0) c (F_X7_eaterOf ch) (F_X7_dishOf ch) y1dy y1sr y1il (sk 1 1) (sk 1 2) (sk 1 3) c0 c1 c2 c3 c4 c5 c6 c7 c8 c9 c10 c11 c12 np nd sto res c17 c18 c19 kd sf st co (by first | assumption | omega) (by first | assumption | omega)) dX7_costOf_60 [2, 3, 4, 5, 6, 7, 0, 1, 8] (show List.Perm [2, 3, 4, 5, 6, 7, 0, 1, 8] (List.range 9) from by decide) rfl rfl rfl rfl (Nat.le_of_ble_eq_true rfl) (fun zc1 zr hq hk => ?_)
          obtain ⟨rfl, rfl⟩ := hq
          refine X_if_eq (tgt := 77) dX7_costOf_63 (by decide) (fun c_5 => ?_) (fun c_5 => ?_)
          · have hV := hV.trans (if_pos c_5)
            refine X_iconst (v := (-1)) dX7_costOf_77 (by decide) ?_
            try dsimp only at hV
            refine X_re (cs' := [(pp, ex_o 7 [ex_i pls, ex_i pfi, ex_i (nI pbe), ex_i ptr, ex_i (nI pdy), ex_r p6]), (p6, ex_q 5 4 (fun j => some (sk j 0))), ((sk 1 0), ex_o 8 [ex_i y1dy, ex_i y1sr, ex_i y1il, ex_r (sk 1 1), ex_r (sk 1 2), ex_r (sk 1 3)]), (c, ex_o 0 [ex_r c0, ex_r c1, ex_r c2, ex_r c3, ex_r c4, ex_r c5, ex_r c6, ex_r c7, ex_r c8, ex_r c9, ex_r c10, ex_r c11, ex_r c12, ex_i (nI np), ex_i (nI nd), ex_i sto, ex_i res, ex_r c17, ex_r c18, ex_r c19]), (c1, ex_a 1 6 kd), (c5, ex_a 1 6 sf), (c6, ex_a 1 6 st), (c11, ex_a 1 5 co), (c19, ex_a 3 60 bt)]) [6, 7, 0, 1, 2, 3, 4, 5, 8] (show List.Perm [6, 7, 0, 1, 2, 3, 4, 5, 8] (List.range 9) from by decide) rfl ?_
            exact X_iret ex_nI rfl dX7_costOf_78 (by (repeat refine ex_kc ?_) <;> rfl) (by subst hV; exact ⟨rfl, rfl⟩)
          · have hV := hV.trans (if_neg c_5)
            refine X_aload_n (j := 3) dX7_costOf_66 rfl rfl ?_
            refine X_iload (j := 1) dX7_costOf_67 rfl ?_
            refine X_iload (j := 0) dX7_costOf_69 rfl ?_
            refine X_callV (j0 := 0) (rest := [((sk 1 0), ex_o 8 [ex_i y1dy, ex_i y1sr, ex_i y1il, ex_r (sk 1 1), ex_r (sk 1 2), ex_r (sk 1 3)]), (c5, ex_a 1 6 sf), (c6, ex_a 1 6 st), (pp, ex_o 7 [ex_i pls, ex_i pfi, ex_i (nI pbe), ex_i ptr, ex_i (nI pdy), ex_r p6]), (p6, ex_q 5 4 (fun j => some (sk j 0))), (c19, ex_a 3 60 bt)]) (stk := []) co_X7_82 rfl ⟨(Nat.le_of_ble_eq_true rfl), (Nat.le_of_ble_eq_true rfl)⟩ (e_X0_costBy l c (F_X7_eaterOf ch) (F_X7_dishOf ch) c0 c1 c2 c3 c4 c5 c6 c7 c8 c9 c10 c11 c12 np nd sto res c17 c18 c19 kd co (by first | assumption | omega) (by first | assumption | omega)) dX7_costOf_71 [1, 2, 5, 0, 3, 4, 6, 7, 8] (show List.Perm [1, 2, 5, 0, 3, 4, 6, 7, 8] (List.range 9) from by decide) rfl rfl rfl rfl (Nat.le_of_ble_eq_true rfl) (fun zc1 zr hq hk => ?_)
            obtain ⟨rfl, rfl⟩ := hq
            refine X_goto (tgt := 78) dX7_costOf_74 (by decide) ?_
            try dsimp only at hV
            refine X_re (cs' := [(pp, ex_o 7 [ex_i pls, ex_i pfi, ex_i (nI pbe), ex_i ptr, ex_i (nI pdy), ex_r p6]), (p6, ex_q 5 4 (fun j => some (sk j 0))), ((sk 1 0), ex_o 8 [ex_i y1dy, ex_i y1sr, ex_i y1il, ex_r (sk 1 1), ex_r (sk 1 2), ex_r (sk 1 3)]), (c, ex_o 0 [ex_r c0, ex_r c1, ex_r c2, ex_r c3, ex_r c4, ex_r c5, ex_r c6, ex_r c7, ex_r c8, ex_r c9, ex_r c10, ex_r c11, ex_r c12, ex_i (nI np), ex_i (nI nd), ex_i sto, ex_i res, ex_r c17, ex_r c18, ex_r c19]), (c1, ex_a 1 6 kd), (c5, ex_a 1 6 sf), (c6, ex_a 1 6 st), (c11, ex_a 1 5 co), (c19, ex_a 3 60 bt)]) [6, 7, 3, 0, 1, 4, 5, 2, 8] (show List.Perm [6, 7, 3, 0, 1, 4, 5, 2, 8] (List.range 9) from by decide) rfl ?_
            exact X_iret ex_nI rfl dX7_costOf_78 (by (repeat refine ex_kc ?_) <;> rfl) (by subst hV; exact ⟨rfl, rfl⟩)
        · have hV := hV.trans (if_neg c_4)
          refine X_iconst (v := (-1)) dX7_costOf_47 (by decide) ?_
          try dsimp only at hV
          exact X_iret ex_nI rfl dX7_costOf_48 (by (repeat refine ex_kc ?_) <;> rfl) (by subst hV; exact ⟨rfl, rfl⟩)
  · have hV := hV.trans (if_pos c_1)
    refine X_iconst (v := 0) dX7_costOf_6 (by decide) ?_
    try dsimp only at hV
    exact X_iret ex_nI rfl dX7_costOf_7 (by (repeat refine ex_kc ?_) <;> rfl) (by subst hV; exact ⟨rfl, rfl⟩)

def F_X7_feedsAll_1_L11 (ch : Nat) (y1dy : Int32) (y1fu : Nat → Int32) (y1ae : Nat → Int32) (res : Int32) (hg : Nat → Int32) (sf : Nat → Int32) (st : Nat → Int32) (gf : Nat → Int32) : Nat → Nat → Int32
  | 0, k11 => 1
  | zn + 1, k11 => (if (hg k11) ≤ (y1fu k11) then F_X7_feedsAll_1_L11 ch y1dy y1fu y1ae res hg sf st gf zn (k11 + 1) else (if (nI ch) = 60 then (if (hg k11) ≤ ((y1fu k11) + 0) then F_X7_feedsAll_1_L11 ch y1dy y1fu y1ae res hg sf st gf zn (k11 + 1) else 0) else (if (hg k11) ≤ ((y1fu k11) + (F_X8_gain (F_X7_eaterOf ch) (F_X7_dishOf ch) (F_X7_isSlow ch) k11 y1dy y1ae res sf st gf)) then F_X7_feedsAll_1_L11 ch y1dy y1fu y1ae res hg sf st gf zn (k11 + 1) else 0)))
theorem F_X7_feedsAll_1_L11_z (ch : Nat) (y1dy : Int32) (y1fu : Nat → Int32) (y1ae : Nat → Int32) (res : Int32) (hg : Nat → Int32) (sf : Nat → Int32) (st : Nat → Int32) (gf : Nat → Int32) (k11 : Nat) : F_X7_feedsAll_1_L11 ch y1dy y1fu y1ae res hg sf st gf 0 k11 = 1 := rfl
theorem F_X7_feedsAll_1_L11_s (ch : Nat) (y1dy : Int32) (y1fu : Nat → Int32) (y1ae : Nat → Int32) (res : Int32) (hg : Nat → Int32) (sf : Nat → Int32) (st : Nat → Int32) (gf : Nat → Int32) (k11 : Nat) (zn : Nat) : F_X7_feedsAll_1_L11 ch y1dy y1fu y1ae res hg sf st gf (zn + 1) k11 = (if (hg k11) ≤ (y1fu k11) then F_X7_feedsAll_1_L11 ch y1dy y1fu y1ae res hg sf st gf zn (k11 + 1) else (if (nI ch) = 60 then (if (hg k11) ≤ ((y1fu k11) + 0) then F_X7_feedsAll_1_L11 ch y1dy y1fu y1ae res hg sf st gf zn (k11 + 1) else 0) else (if (hg k11) ≤ ((y1fu k11) + (F_X8_gain (F_X7_eaterOf ch) (F_X7_dishOf ch) (F_X7_isSlow ch) k11 y1dy y1ae res sf st gf)) then F_X7_feedsAll_1_L11 ch y1dy y1fu y1ae res hg sf st gf zn (k11 + 1) else 0))) := rfl
def F_X7_feedsAll_1 (ch : Nat) (y1dy : Int32) (y1fu : Nat → Int32) (y1ae : Nat → Int32) (np : Nat) (res : Int32) (hg : Nat → Int32) (sf : Nat → Int32) (st : Nat → Int32) (gf : Nat → Int32) : Int32 := F_X7_feedsAll_1_L11 ch y1dy y1fu y1ae res hg sf st gf (np - 0) 0
set_option maxHeartbeats 4000000 in
set_option maxRecDepth 100000 in
theorem e_X7_feedsAll_1 (l : Launch) (pp : Nat) (c : Nat) (ch : Nat) (pls : Int32) (pfi : Int32) (pbe : Nat) (ptr : Int32) (pdy : Nat) (p6 : Nat) (sk : Nat → Nat → Nat) (y1dy : Int32) (y1sr : Int32) (y1il : Int32) (y1fu : Nat → Int32) (y1ae : Nat → Int32) (c0 : Nat) (c1 : Nat) (c2 : Nat) (c3 : Nat) (c4 : Nat) (c5 : Nat) (c6 : Nat) (c7 : Nat) (c8 : Nat) (c9 : Nat) (c10 : Nat) (c11 : Nat) (c12 : Nat) (np : Nat) (nd : Nat) (sto : Int32) (res : Int32) (c17 : Nat) (c18 : Nat) (c19 : Nat) (hg : Nat → Int32) (sf : Nat → Int32) (st : Nat → Int32) (gf : Nat → Int32) (hch : ch < 61) (hnp : np ≤ 6) : ex_M l yX7_feedsAll cX7_feedsAll 7 (some .boolean) 3 71 [ex_r pp, ex_r c, ex_i 1, ex_i (nI ch)] [(pp, ex_o 7 [ex_i pls, ex_i pfi, ex_i (nI pbe), ex_i ptr, ex_i (nI pdy), ex_r p6]), (p6, ex_q 5 4 (fun j => some (sk j 0))), ((sk 1 0), ex_o 8 [ex_i y1dy, ex_i y1sr, ex_i y1il, ex_r (sk 1 1), ex_r (sk 1 2), ex_r (sk 1 3)]), ((sk 1 1), ex_a 1 6 y1fu), ((sk 1 2), ex_a 1 6 y1ae), (c, ex_o 0 [ex_r c0, ex_r c1, ex_r c2, ex_r c3, ex_r c4, ex_r c5, ex_r c6, ex_r c7, ex_r c8, ex_r c9, ex_r c10, ex_r c11, ex_r c12, ex_i (nI np), ex_i (nI nd), ex_i sto, ex_i res, ex_r c17, ex_r c18, ex_r c19]), (c2, ex_a 1 6 hg), (c5, ex_a 1 6 sf), (c6, ex_a 1 6 st), (c17, ex_a 1 360 gf)] (fun zcs zr => zcs = [(pp, ex_o 7 [ex_i pls, ex_i pfi, ex_i (nI pbe), ex_i ptr, ex_i (nI pdy), ex_r p6]), (p6, ex_q 5 4 (fun j => some (sk j 0))), ((sk 1 0), ex_o 8 [ex_i y1dy, ex_i y1sr, ex_i y1il, ex_r (sk 1 1), ex_r (sk 1 2), ex_r (sk 1 3)]), ((sk 1 1), ex_a 1 6 y1fu), ((sk 1 2), ex_a 1 6 y1ae), (c, ex_o 0 [ex_r c0, ex_r c1, ex_r c2, ex_r c3, ex_r c4, ex_r c5, ex_r c6, ex_r c7, ex_r c8, ex_r c9, ex_r c10, ex_r c11, ex_r c12, ex_i (nI np), ex_i (nI nd), ex_i sto, ex_i res, ex_r c17, ex_r c18, ex_r c19]), (c2, ex_a 1 6 hg), (c5, ex_a 1 6 sf), (c6, ex_a 1 6 st), (c17, ex_a 1 360 gf)] ∧ zr = some (ex_i (F_X7_feedsAll_1 ch y1dy y1fu y1ae np res hg sf st gf))) := by
  refine X_meth (by decide) (Nat.le_of_ble_eq_true rfl) ?_
  generalize hV : F_X7_feedsAll_1 ch y1dy y1fu y1ae np res hg sf st gf = V0
  have hV := hV.symm
  unfold F_X7_feedsAll_1 at hV
  try dsimp only at hV
  refine X_aload_n (j := 0) dX7_feedsAll_0 rfl rfl ?_
  refine X_get (j := 0) fo_X7_29 dX7_feedsAll_1 rfl rfl ?_
  refine X_iload_n (j := 2) dX7_feedsAll_4 rfl rfl ?_
  refine X_aald (j := 1) (v := (sk 1 0)) dX7_feedsAll_5 rfl (vin (by decide)) rfl (Or.inr rfl) ?_
  refine X_astore (lv' := [(4, ex_r (sk 1 0)), (0, ex_r pp), (1, ex_r c), (2, ex_i 1), (3, ex_i (nI ch))]) dX7_feedsAll_6 (Nat.le_of_ble_eq_true rfl) rfl ?_
  refine X_iconst (v := 0) dX7_feedsAll_8 (by decide) ?_
  refine X_istore (lv' := [(5, ex_i 0), (4, ex_r (sk 1 0)), (0, ex_r pp), (1, ex_r c), (2, ex_i 1), (3, ex_i (nI ch))]) dX7_feedsAll_9 (Nat.le_of_ble_eq_true rfl) rfl ?_
  -- loop at 11
  have hL11 := hV
  try dsimp only at hL11
  refine X_ind (fun (a11 : Nat) => V0 = F_X7_feedsAll_1_L11 ch y1dy y1fu y1ae res hg sf st gf (np - a11) a11 ∧ a11 ≤ np) (fun (a11 : Nat) => np - a11) (fun (a11 : Nat) => [(pp, ex_o 7 [ex_i pls, ex_i pfi, ex_i (nI pbe), ex_i ptr, ex_i (nI pdy), ex_r p6]), (p6, ex_q 5 4 (fun j => some (sk j 0))), ((sk 1 0), ex_o 8 [ex_i y1dy, ex_i y1sr, ex_i y1il, ex_r (sk 1 1), ex_r (sk 1 2), ex_r (sk 1 3)]), ((sk 1 1), ex_a 1 6 y1fu), ((sk 1 2), ex_a 1 6 y1ae), (c, ex_o 0 [ex_r c0, ex_r c1, ex_r c2, ex_r c3, ex_r c4, ex_r c5, ex_r c6, ex_r c7, ex_r c8, ex_r c9, ex_r c10, ex_r c11, ex_r c12, ex_i (nI np), ex_i (nI nd), ex_i sto, ex_i res, ex_r c17, ex_r c18, ex_r c19]), (c2, ex_a 1 6 hg), (c5, ex_a 1 6 sf), (c6, ex_a 1 6 st), (c17, ex_a 1 360 gf)]) (fun (a11 : Nat) => [(5, ex_i (nI a11)), (4, ex_r (sk 1 0)), (0, ex_r pp), (1, ex_r c), (2, ex_i 1), (3, ex_i (nI ch))]) (fun k11 hI11 ih11 => ?_) 0 ⟨hL11, (by omega)⟩
  try dsimp only at hI11 ih11 ⊢
  have ihc11 : ∀ (k11_ : Nat), (V0 = F_X7_feedsAll_1_L11 ch y1dy y1fu y1ae res hg sf st gf (np - k11_) k11_ ∧ k11_ ≤ np) → (np - k11_) < (np - k11) → ex_O _ _ _ _ _ _ _ _ _ [(pp, ex_o 7 [ex_i pls, ex_i pfi, ex_i (nI pbe), ex_i ptr, ex_i (nI pdy), ex_r p6]), (p6, ex_q 5 4 (fun j => some (sk j 0))), ((sk 1 0), ex_o 8 [ex_i y1dy, ex_i y1sr, ex_i y1il, ex_r (sk 1 1), ex_r (sk 1 2), ex_r (sk 1 3)]), ((sk 1 1), ex_a 1 6 y1fu), ((sk 1 2), ex_a 1 6 y1ae), (c, ex_o 0 [ex_r c0, ex_r c1, ex_r c2, ex_r c3, ex_r c4, ex_r c5, ex_r c6, ex_r c7, ex_r c8, ex_r c9, ex_r c10, ex_r c11, ex_r c12, ex_i (nI np), ex_i (nI nd), ex_i sto, ex_i res, ex_r c17, ex_r c18, ex_r c19]), (c2, ex_a 1 6 hg), (c5, ex_a 1 6 sf), (c6, ex_a 1 6 st), (c17, ex_a 1 360 gf)] [(5, ex_i (nI k11_)), (4, ex_r (sk 1 0)), (0, ex_r pp), (1, ex_r c), (2, ex_i 1), (3, ex_i (nI ch))] _ _ := fun k11_ hi_ hm_ => ih11 k11_ hi_ hm_
  have hL11 := hI11.1
  have hb11 := hI11.2
  refine X_iload (j := 0) dX7_feedsAll_11 rfl ?_
  refine X_aload_n (j := 3) dX7_feedsAll_13 rfl rfl ?_
  refine X_get (j := 5) fo_X7_67 dX7_feedsAll_14 rfl rfl ?_
  refine X_icmp_ge (tgt := 99) dX7_feedsAll_17 (by decide) (fun c_1 => ?_) (fun c_1 => ?_)
  · have hlt11 : k11 = np := nlex (L := np) (by omega) hb11 c_1
    rw [show np - k11 = 0 by omega] at hL11
    have hL11 := hL11.trans (F_X7_feedsAll_1_L11_z ..)
    refine X_iconst (v := 1) dX7_feedsAll_99 (by decide) ?_
    try dsimp only at hL11
    exact X_iret ex_nZ rfl dX7_feedsAll_100 (by (repeat refine ex_kc ?_) <;> rfl) (by subst hL11; exact ⟨rfl, rfl⟩)
  · have hlt11 : k11 < np := nlen (L := np) (by omega) hb11 c_1
    rw [show np - k11 = (np - (k11 + 1)) + 1 by omega] at hL11
    have hL11 := hL11.trans (F_X7_feedsAll_1_L11_s ..)
    refine X_aload (j := 1) dX7_feedsAll_20 rfl ?_
    refine X_get (j := 2) fo_X7_85 dX7_feedsAll_22 rfl rfl ?_
    refine X_iload (j := 0) dX7_feedsAll_25 rfl ?_
    refine X_iald (j := 3) (v := (y1fu k11)) dX7_feedsAll_27 rfl (vp_in_nI (show k11 < 6 by omega) (by decide)) (by rw [nI_clamp (by omega)]) ?_
    refine X_aload_n (j := 3) dX7_feedsAll_28 rfl rfl ?_
    refine X_get (j := 5) fo_X7_89 dX7_feedsAll_29 rfl rfl ?_
    refine X_iload (j := 0) dX7_feedsAll_32 rfl ?_
    refine X_iald (j := 6) (v := (hg k11)) dX7_feedsAll_34 rfl (vp_in_nI (show k11 < 6 by omega) (by decide)) (by rw [nI_clamp (by omega)]) ?_
    refine X_icmp_ge (tgt := 93) dX7_feedsAll_35 (by decide) (fun c_2 => ?_) (fun c_2 => ?_)
    · have hL11 := hL11.trans (if_pos c_2)
      refine X_iinc (v := nI (k11 + 1)) (j := 0) (lv' := [(5, ex_i (nI (k11 + 1))), (4, ex_r (sk 1 0)), (0, ex_r pp), (1, ex_r c), (2, ex_i 1), (3, ex_i (nI ch))]) dX7_feedsAll_93 rfl (nI_add k11 1) (Nat.le_of_ble_eq_true rfl) rfl ?_
      refine X_goto (tgt := 11) dX7_feedsAll_96 (by decide) ?_
      try dsimp only at hL11
      exact ihc11 (k11 + 1) ⟨hL11, (show (k11 + 1) ≤ np by omega)⟩ (show np - (k11 + 1) < np - k11 by omega)
    · have hL11 := hL11.trans (if_neg c_2)
      refine X_iload_n (j := 5) dX7_feedsAll_38 rfl rfl ?_
      refine X_bipush (v := 60) dX7_feedsAll_39 (by decide) ?_
      refine X_icmp_ne (tgt := 48) dX7_feedsAll_41 (by decide) (fun c_3 => ?_) (fun c_3 => ?_)
      · have hL11 := hL11.trans (if_neg c_3)
        have hc60 : ch < 60 := ne60 hch c_3
        have hea : F_X7_eaterOf ch < 6 := ea_lt hc60
        have hdi : F_X7_dishOf ch < 5 := di_lt ch
        refine X_aload (j := 1) dX7_feedsAll_48 rfl ?_
        refine X_aload_n (j := 3) dX7_feedsAll_50 rfl rfl ?_
        refine X_iload_n (j := 5) dX7_feedsAll_51 rfl rfl ?_
        refine X_callS (rest := [(pp, ex_o 7 [ex_i pls, ex_i pfi, ex_i (nI pbe), ex_i ptr, ex_i (nI pdy), ex_r p6]), (p6, ex_q 5 4 (fun j => some (sk j 0))), ((sk 1 0), ex_o 8 [ex_i y1dy, ex_i y1sr, ex_i y1il, ex_r (sk 1 1), ex_r (sk 1 2), ex_r (sk 1 3)]), ((sk 1 1), ex_a 1 6 y1fu), ((sk 1 2), ex_a 1 6 y1ae), (c, ex_o 0 [ex_r c0, ex_r c1, ex_r c2, ex_r c3, ex_r c4, ex_r c5, ex_r c6, ex_r c7, ex_r c8, ex_r c9, ex_r c10, ex_r c11, ex_r c12, ex_i (nI np), ex_i (nI nd), ex_i sto, ex_i res, ex_r c17, ex_r c18, ex_r c19]), (c2, ex_a 1 6 hg), (c5, ex_a 1 6 sf), (c6, ex_a 1 6 st), (c17, ex_a 1 360 gf)]) (stk := [ex_r c, ex_r (sk 1 0)]) co_X7_60 rfl ⟨(Nat.le_of_ble_eq_true rfl), (Nat.le_of_ble_eq_true rfl)⟩ (e_X7_eaterOf l ch (by first | assumption | omega)) dX7_feedsAll_52 [0, 1, 2, 3, 4, 5, 6, 7, 8, 9] (show List.Perm [0, 1, 2, 3, 4, 5, 6, 7, 8, 9] (List.range 10) from by decide) rfl rfl rfl (Nat.le_of_ble_eq_true rfl) (fun zc1 zr hq hk => ?_)
        obtain ⟨rfl, rfl⟩ := hq
        refine X_iload_n (j := 5) dX7_feedsAll_55 rfl rfl ?_
        refine X_callS (rest := [(pp, ex_o 7 [ex_i pls, ex_i pfi, ex_i (nI pbe), ex_i ptr, ex_i (nI pdy), ex_r p6]), (p6, ex_q 5 4 (fun j => some (sk j 0))), ((sk 1 0), ex_o 8 [ex_i y1dy, ex_i y1sr, ex_i y1il, ex_r (sk 1 1), ex_r (sk 1 2), ex_r (sk 1 3)]), ((sk 1 1), ex_a 1 6 y1fu), ((sk 1 2), ex_a 1 6 y1ae), (c, ex_o 0 [ex_r c0, ex_r c1, ex_r c2, ex_r c3, ex_r c4, ex_r c5, ex_r c6, ex_r c7, ex_r c8, ex_r c9, ex_r c10, ex_r c11, ex_r c12, ex_i (nI np), ex_i (nI nd), ex_i sto, ex_i res, ex_r c17, ex_r c18, ex_r c19]), (c2, ex_a 1 6 hg), (c5, ex_a 1 6 sf), (c6, ex_a 1 6 st), (c17, ex_a 1 360 gf)]) (stk := [ex_i (nI (F_X7_eaterOf ch)), ex_r c, ex_r (sk 1 0)]) co_X7_64 rfl ⟨(Nat.le_of_ble_eq_true rfl), (Nat.le_of_ble_eq_true rfl)⟩ (e_X7_dishOf l ch (by first | assumption | omega)) dX7_feedsAll_56 [0, 1, 2, 3, 4, 5, 6, 7, 8, 9] (show List.Perm [0, 1, 2, 3, 4, 5, 6, 7, 8, 9] (List.range 10) from by decide) rfl rfl rfl (Nat.le_of_ble_eq_true rfl) (fun zc1 zr hq hk => ?_)
        obtain ⟨rfl, rfl⟩ := hq
        refine X_iload_n (j := 5) dX7_feedsAll_59 rfl rfl ?_
        refine X_callS (rest := [(pp, ex_o 7 [ex_i pls, ex_i pfi, ex_i (nI pbe), ex_i ptr, ex_i (nI pdy), ex_r p6]), (p6, ex_q 5 4 (fun j => some (sk j 0))), ((sk 1 0), ex_o 8 [ex_i y1dy, ex_i y1sr, ex_i y1il, ex_r (sk 1 1), ex_r (sk 1 2), ex_r (sk 1 3)]), ((sk 1 1), ex_a 1 6 y1fu), ((sk 1 2), ex_a 1 6 y1ae), (c, ex_o 0 [ex_r c0, ex_r c1, ex_r c2, ex_r c3, ex_r c4, ex_r c5, ex_r c6, ex_r c7, ex_r c8, ex_r c9, ex_r c10, ex_r c11, ex_r c12, ex_i (nI np), ex_i (nI nd), ex_i sto, ex_i res, ex_r c17, ex_r c18, ex_r c19]), (c2, ex_a 1 6 hg), (c5, ex_a 1 6 sf), (c6, ex_a 1 6 st), (c17, ex_a 1 360 gf)]) (stk := [ex_i (nI (F_X7_dishOf ch)), ex_i (nI (F_X7_eaterOf ch)), ex_r c, ex_r (sk 1 0)]) co_X7_92 rfl ⟨(Nat.le_of_ble_eq_true rfl), (Nat.le_of_ble_eq_true rfl)⟩ (e_X7_isSlow l ch (by first | assumption | omega)) dX7_feedsAll_60 [0, 1, 2, 3, 4, 5, 6, 7, 8, 9] (show List.Perm [0, 1, 2, 3, 4, 5, 6, 7, 8, 9] (List.range 10) from by decide) rfl rfl rfl (Nat.le_of_ble_eq_true rfl) (fun zc1 zr hq hk => ?_)
        obtain ⟨rfl, rfl⟩ := hq
        refine X_iload (j := 0) dX7_feedsAll_63 rfl ?_
        refine X_callV (j0 := 0) (rest := [(pp, ex_o 7 [ex_i pls, ex_i pfi, ex_i (nI pbe), ex_i ptr, ex_i (nI pdy), ex_r p6]), (p6, ex_q 5 4 (fun j => some (sk j 0))), ((sk 1 1), ex_a 1 6 y1fu), (c2, ex_a 1 6 hg)]) (stk := []) co_X7_96 rfl ⟨(Nat.le_of_ble_eq_true rfl), (Nat.le_of_ble_eq_true rfl)⟩ (e_X8_gain l (sk 1 0) c (F_X7_eaterOf ch) (F_X7_dishOf ch) (F_X7_isSlow ch) k11 y1dy y1sr y1il (sk 1 1) (sk 1 2) (sk 1 3) y1ae c0 c1 c2 c3 c4 c5 c6 c7 c8 c9 c10 c11 c12 np nd sto res c17 c18 c19 sf st gf (by first | assumption | omega) (by first | assumption | omega) (by first | assumption | omega)) dX7_feedsAll_65 [2, 4, 5, 7, 8, 9, 0, 1, 3, 6] (show List.Perm [2, 4, 5, 7, 8, 9, 0, 1, 3, 6] (List.range 10) from by decide) rfl rfl rfl rfl (Nat.le_of_ble_eq_true rfl) (fun zc1 zr hq hk => ?_)
        obtain ⟨rfl, rfl⟩ := hq
        refine X_istore (lv' := [(6, ex_i (F_X8_gain (F_X7_eaterOf ch) (F_X7_dishOf ch) (F_X7_isSlow ch) k11 y1dy y1ae res sf st gf)), (5, ex_i (nI k11)), (4, ex_r (sk 1 0)), (0, ex_r pp), (1, ex_r c), (2, ex_i 1), (3, ex_i (nI ch))]) dX7_feedsAll_68 (Nat.le_of_ble_eq_true rfl) rfl ?_
        refine X_aload (j := 2) dX7_feedsAll_70 rfl ?_
        refine X_get (j := 0) fo_X7_85 dX7_feedsAll_72 rfl rfl ?_
        refine X_iload (j := 1) dX7_feedsAll_75 rfl ?_
        refine X_iald (j := 8) (v := (y1fu k11)) dX7_feedsAll_77 rfl (vp_in_nI (show k11 < 6 by omega) (by decide)) (by rw [nI_clamp (by omega)]) ?_
        refine X_iload (j := 0) dX7_feedsAll_78 rfl ?_
        refine X_iadd (v := ((y1fu k11) + (F_X8_gain (F_X7_eaterOf ch) (F_X7_dishOf ch) (F_X7_isSlow ch) k11 y1dy y1ae res sf st gf))) dX7_feedsAll_80 rfl ?_
        refine X_aload_n (j := 4) dX7_feedsAll_81 rfl rfl ?_
        refine X_get (j := 2) fo_X7_89 dX7_feedsAll_82 rfl rfl ?_
        refine X_iload (j := 1) dX7_feedsAll_85 rfl ?_
        refine X_iald (j := 9) (v := (hg k11)) dX7_feedsAll_87 rfl (vp_in_nI (show k11 < 6 by omega) (by decide)) (by rw [nI_clamp (by omega)]) ?_
        refine X_icmp_ge (tgt := 93) dX7_feedsAll_88 (by decide) (fun c_4 => ?_) (fun c_4 => ?_)
        · have hL11 := hL11.trans (if_pos c_4)
          refine X_iinc (v := nI (k11 + 1)) (j := 1) (lv' := [(5, ex_i (nI (k11 + 1))), (6, ex_i (F_X8_gain (F_X7_eaterOf ch) (F_X7_dishOf ch) (F_X7_isSlow ch) k11 y1dy y1ae res sf st gf)), (4, ex_r (sk 1 0)), (0, ex_r pp), (1, ex_r c), (2, ex_i 1), (3, ex_i (nI ch))]) dX7_feedsAll_93 rfl (nI_add k11 1) (Nat.le_of_ble_eq_true rfl) rfl ?_
          refine X_goto (tgt := 11) dX7_feedsAll_96 (by decide) ?_
          try dsimp only at hL11
          refine X_re (cs' := [(pp, ex_o 7 [ex_i pls, ex_i pfi, ex_i (nI pbe), ex_i ptr, ex_i (nI pdy), ex_r p6]), (p6, ex_q 5 4 (fun j => some (sk j 0))), ((sk 1 0), ex_o 8 [ex_i y1dy, ex_i y1sr, ex_i y1il, ex_r (sk 1 1), ex_r (sk 1 2), ex_r (sk 1 3)]), ((sk 1 1), ex_a 1 6 y1fu), ((sk 1 2), ex_a 1 6 y1ae), (c, ex_o 0 [ex_r c0, ex_r c1, ex_r c2, ex_r c3, ex_r c4, ex_r c5, ex_r c6, ex_r c7, ex_r c8, ex_r c9, ex_r c10, ex_r c11, ex_r c12, ex_i (nI np), ex_i (nI nd), ex_i sto, ex_i res, ex_r c17, ex_r c18, ex_r c19]), (c2, ex_a 1 6 hg), (c5, ex_a 1 6 sf), (c6, ex_a 1 6 st), (c17, ex_a 1 360 gf)]) [6, 7, 0, 8, 1, 2, 9, 3, 4, 5] (show List.Perm [6, 7, 0, 8, 1, 2, 9, 3, 4, 5] (List.range 10) from by decide) rfl ?_
          refine X_lv (lv' := [(5, ex_i (nI (k11 + 1))), (4, ex_r (sk 1 0)), (0, ex_r pp), (1, ex_r c), (2, ex_i 1), (3, ex_i (nI ch))]) [0, 2, 3, 4, 5, 6] rfl ?_
          exact ihc11 (k11 + 1) ⟨hL11, (show (k11 + 1) ≤ np by omega)⟩ (show np - (k11 + 1) < np - k11 by omega)
        · have hL11 := hL11.trans (if_neg c_4)
          refine X_iconst (v := 0) dX7_feedsAll_91 (by decide) ?_
          try dsimp only at hL11
          refine X_re (cs' := [(pp, ex_o 7 [ex_i pls, ex_i pfi, ex_i (nI pbe), ex_i ptr, ex_i (nI pdy), ex_r p6]), (p6, ex_q 5 4 (fun j => some (sk j 0))), ((sk 1 0), ex_o 8 [ex_i y1dy, ex_i y1sr, ex_i y1il, ex_r (sk 1 1), ex_r (sk 1 2), ex_r (sk 1 3)]), ((sk 1 1), ex_a 1 6 y1fu), ((sk 1 2), ex_a 1 6 y1ae), (c, ex_o 0 [ex_r c0, ex_r c1, ex_r c2, ex_r c3, ex_r c4, ex_r c5, ex_r c6, ex_r c7, ex_r c8, ex_r c9, ex_r c10, ex_r c11, ex_r c12, ex_i (nI np), ex_i (nI nd), ex_i sto, ex_i res, ex_r c17, ex_r c18, ex_r c19]), (c2, ex_a 1 6 hg), (c5, ex_a 1 6 sf), (c6, ex_a 1 6 st), (c17, ex_a 1 360 gf)]) [6, 7, 0, 8, 1, 2, 9, 3, 4, 5] (show List.Perm [6, 7, 0, 8, 1, 2, 9, 3, 4, 5] (List.range 10) from by decide) rfl ?_
          exact X_iret ex_nZ rfl dX7_feedsAll_92 (by (repeat refine ex_kc ?_) <;> rfl) (by subst hL11; exact ⟨rfl, rfl⟩)
      · have hL11 := hL11.trans (if_pos c_3)
        refine X_iconst (v := 0) dX7_feedsAll_44 (by decide) ?_
        refine X_goto (tgt := 68) dX7_feedsAll_45 (by decide) ?_
        refine X_istore (lv' := [(6, ex_i 0), (5, ex_i (nI k11)), (4, ex_r (sk 1 0)), (0, ex_r pp), (1, ex_r c), (2, ex_i 1), (3, ex_i (nI ch))]) dX7_feedsAll_68 (Nat.le_of_ble_eq_true rfl) rfl ?_
        refine X_aload (j := 2) dX7_feedsAll_70 rfl ?_
        refine X_get (j := 2) fo_X7_85 dX7_feedsAll_72 rfl rfl ?_
        refine X_iload (j := 1) dX7_feedsAll_75 rfl ?_
        refine X_iald (j := 3) (v := (y1fu k11)) dX7_feedsAll_77 rfl (vp_in_nI (show k11 < 6 by omega) (by decide)) (by rw [nI_clamp (by omega)]) ?_
        refine X_iload (j := 0) dX7_feedsAll_78 rfl ?_
        refine X_iadd (v := ((y1fu k11) + 0)) dX7_feedsAll_80 rfl ?_
        refine X_aload_n (j := 4) dX7_feedsAll_81 rfl rfl ?_
        refine X_get (j := 5) fo_X7_89 dX7_feedsAll_82 rfl rfl ?_
        refine X_iload (j := 1) dX7_feedsAll_85 rfl ?_
        refine X_iald (j := 6) (v := (hg k11)) dX7_feedsAll_87 rfl (vp_in_nI (show k11 < 6 by omega) (by decide)) (by rw [nI_clamp (by omega)]) ?_
        refine X_icmp_ge (tgt := 93) dX7_feedsAll_88 (by decide) (fun c_5 => ?_) (fun c_5 => ?_)
        · have hL11 := hL11.trans (if_pos c_5)
          refine X_iinc (v := nI (k11 + 1)) (j := 1) (lv' := [(5, ex_i (nI (k11 + 1))), (6, ex_i 0), (4, ex_r (sk 1 0)), (0, ex_r pp), (1, ex_r c), (2, ex_i 1), (3, ex_i (nI ch))]) dX7_feedsAll_93 rfl (nI_add k11 1) (Nat.le_of_ble_eq_true rfl) rfl ?_
          refine X_goto (tgt := 11) dX7_feedsAll_96 (by decide) ?_
          try dsimp only at hL11
          refine X_lv (lv' := [(5, ex_i (nI (k11 + 1))), (4, ex_r (sk 1 0)), (0, ex_r pp), (1, ex_r c), (2, ex_i 1), (3, ex_i (nI ch))]) [0, 2, 3, 4, 5, 6] rfl ?_
          exact ihc11 (k11 + 1) ⟨hL11, (show (k11 + 1) ≤ np by omega)⟩ (show np - (k11 + 1) < np - k11 by omega)
        · have hL11 := hL11.trans (if_neg c_5)
          refine X_iconst (v := 0) dX7_feedsAll_91 (by decide) ?_
          try dsimp only at hL11
          exact X_iret ex_nZ rfl dX7_feedsAll_92 (by (repeat refine ex_kc ?_) <;> rfl) (by subst hL11; exact ⟨rfl, rfl⟩)

def F_X7_chooses_1 (ch : Nat) (y1dy : Int32) (y1sr : Int32) (y1il : Int32) (y1fu : Nat → Int32) (y1ae : Nat → Int32) (y1hu : Nat → Int32) (y2fu : Nat → Int32) (y2ae : Nat → Int32) (y2hu : Nat → Int32) (np : Nat) (res : Int32) (kd : Nat → Int32) (hg : Nat → Int32) (sf : Nat → Int32) (st : Nat → Int32) (co : Nat → Int32) (gf : Nat → Int32) : Int32 × Int32 × Int32 × (Nat → Int32) × (Nat → Int32) × (Nat → Int32) := ((fun (w_1 : Int32 × Int32 × Int32 × (Nat → Int32) × (Nat → Int32) × (Nat → Int32)) => (if (nI ch) = 60 then ((fun (w_3 : Int32 × (Nat → Int32) × (Nat → Int32) × Int32) => (w_3.1, w_1.2.1, w_1.2.2.1, w_3.2.1, w_1.2.2.2.2.1, w_3.2.2.1)) (F_X8_endsDay w_1.1 w_1.2.2.2.1 w_1.2.2.2.2.2 np hg)) else ((fun (w_4 : Int32 × Int32 × (Nat → Int32) × (Nat → Int32) × Int32) => ((fun (w_5 : Int32 × (Nat → Int32) × (Nat → Int32) × Int32) => (w_5.1, w_4.1, w_4.2.1, w_5.2.1, w_4.2.2.2.1, w_5.2.2.1)) (F_X8_endsDay w_1.1 w_4.2.2.1 w_1.2.2.2.2.2 np hg))) (F_X8_takesMeal (F_X7_eaterOf ch) (F_X7_dishOf ch) (F_X7_isSlow ch) w_1.1 w_1.2.1 w_1.2.2.1 w_1.2.2.2.1 w_1.2.2.2.2.1 np res kd sf st co gf)))) (F_X8_copies y2fu y2ae y2hu y1dy y1sr y1il y1fu y1ae y1hu))
set_option maxHeartbeats 4000000 in
set_option maxRecDepth 100000 in
theorem e_X7_chooses_1 (l : Launch) (pp : Nat) (c : Nat) (ch : Nat) (pls : Int32) (pfi : Int32) (pbe : Nat) (ptr : Int32) (pdy : Nat) (p6 : Nat) (sk : Nat → Nat → Nat) (y1dy : Int32) (y1sr : Int32) (y1il : Int32) (y1fu : Nat → Int32) (y1ae : Nat → Int32) (y1hu : Nat → Int32) (y2dy : Int32) (y2sr : Int32) (y2il : Int32) (y2fu : Nat → Int32) (y2ae : Nat → Int32) (y2hu : Nat → Int32) (c0 : Nat) (c1 : Nat) (c2 : Nat) (c3 : Nat) (c4 : Nat) (c5 : Nat) (c6 : Nat) (c7 : Nat) (c8 : Nat) (c9 : Nat) (c10 : Nat) (c11 : Nat) (c12 : Nat) (np : Nat) (nd : Nat) (sto : Int32) (res : Int32) (c17 : Nat) (c18 : Nat) (c19 : Nat) (kd : Nat → Int32) (hg : Nat → Int32) (sf : Nat → Int32) (st : Nat → Int32) (co : Nat → Int32) (gf : Nat → Int32) (hch : ch < 61) (hnp : np ≤ 6) : ex_M l yX7_chooses cX7_chooses 5 none 4 97 [ex_r pp, ex_r c, ex_i 1, ex_i (nI ch)] [(pp, ex_o 7 [ex_i pls, ex_i pfi, ex_i (nI pbe), ex_i ptr, ex_i (nI pdy), ex_r p6]), (p6, ex_q 5 4 (fun j => some (sk j 0))), ((sk 1 0), ex_o 8 [ex_i y1dy, ex_i y1sr, ex_i y1il, ex_r (sk 1 1), ex_r (sk 1 2), ex_r (sk 1 3)]), ((sk 1 1), ex_a 1 6 y1fu), ((sk 1 2), ex_a 1 6 y1ae), ((sk 1 3), ex_a 1 6 y1hu), ((sk 2 0), ex_o 8 [ex_i y2dy, ex_i y2sr, ex_i y2il, ex_r (sk 2 1), ex_r (sk 2 2), ex_r (sk 2 3)]), ((sk 2 1), ex_a 1 6 y2fu), ((sk 2 2), ex_a 1 6 y2ae), ((sk 2 3), ex_a 1 6 y2hu), (c, ex_o 0 [ex_r c0, ex_r c1, ex_r c2, ex_r c3, ex_r c4, ex_r c5, ex_r c6, ex_r c7, ex_r c8, ex_r c9, ex_r c10, ex_r c11, ex_r c12, ex_i (nI np), ex_i (nI nd), ex_i sto, ex_i res, ex_r c17, ex_r c18, ex_r c19]), (c1, ex_a 1 6 kd), (c2, ex_a 1 6 hg), (c5, ex_a 1 6 sf), (c6, ex_a 1 6 st), (c11, ex_a 1 5 co), (c17, ex_a 1 360 gf)] (fun zcs zr => zcs = [(pp, ex_o 7 [ex_i pls, ex_i pfi, ex_i (nI pbe), ex_i ptr, ex_i (nI pdy), ex_r p6]), (p6, ex_q 5 4 (fun j => some (sk j 0))), ((sk 1 0), ex_o 8 [ex_i y1dy, ex_i y1sr, ex_i y1il, ex_r (sk 1 1), ex_r (sk 1 2), ex_r (sk 1 3)]), ((sk 1 1), ex_a 1 6 y1fu), ((sk 1 2), ex_a 1 6 y1ae), ((sk 1 3), ex_a 1 6 y1hu), ((sk 2 0), ex_o 8 [ex_i ((F_X7_chooses_1 ch y1dy y1sr y1il y1fu y1ae y1hu y2fu y2ae y2hu np res kd hg sf st co gf).1), ex_i ((F_X7_chooses_1 ch y1dy y1sr y1il y1fu y1ae y1hu y2fu y2ae y2hu np res kd hg sf st co gf).2.1), ex_i ((F_X7_chooses_1 ch y1dy y1sr y1il y1fu y1ae y1hu y2fu y2ae y2hu np res kd hg sf st co gf).2.2.1), ex_r (sk 2 1), ex_r (sk 2 2), ex_r (sk 2 3)]), ((sk 2 1), ex_a 1 6 ((F_X7_chooses_1 ch y1dy y1sr y1il y1fu y1ae y1hu y2fu y2ae y2hu np res kd hg sf st co gf).2.2.2.1)), ((sk 2 2), ex_a 1 6 ((F_X7_chooses_1 ch y1dy y1sr y1il y1fu y1ae y1hu y2fu y2ae y2hu np res kd hg sf st co gf).2.2.2.2.1)), ((sk 2 3), ex_a 1 6 ((F_X7_chooses_1 ch y1dy y1sr y1il y1fu y1ae y1hu y2fu y2ae y2hu np res kd hg sf st co gf).2.2.2.2.2)), (c, ex_o 0 [ex_r c0, ex_r c1, ex_r c2, ex_r c3, ex_r c4, ex_r c5, ex_r c6, ex_r c7, ex_r c8, ex_r c9, ex_r c10, ex_r c11, ex_r c12, ex_i (nI np), ex_i (nI nd), ex_i sto, ex_i res, ex_r c17, ex_r c18, ex_r c19]), (c1, ex_a 1 6 kd), (c2, ex_a 1 6 hg), (c5, ex_a 1 6 sf), (c6, ex_a 1 6 st), (c11, ex_a 1 5 co), (c17, ex_a 1 360 gf)] ∧ zr = none) := by
  refine X_meth (by decide) (Nat.le_of_ble_eq_true rfl) ?_
  generalize hV : F_X7_chooses_1 ch y1dy y1sr y1il y1fu y1ae y1hu y2fu y2ae y2hu np res kd hg sf st co gf = V0
  have hV := hV.symm
  unfold F_X7_chooses_1 at hV
  try dsimp only at hV
  refine X_aload_n (j := 0) dX7_chooses_0 rfl rfl ?_
  refine X_get (j := 0) fo_X7_29 dX7_chooses_1 rfl rfl ?_
  refine X_iload_n (j := 2) dX7_chooses_4 rfl rfl ?_
  refine X_iconst (v := 1) dX7_chooses_5 (by decide) ?_
  refine X_iadd (v := 2) dX7_chooses_6 (by decide) ?_
  refine X_aald (j := 1) (v := (sk 2 0)) dX7_chooses_7 rfl (vin (by decide)) rfl (Or.inr rfl) ?_
  refine X_astore (lv' := [(4, ex_r (sk 2 0)), (0, ex_r pp), (1, ex_r c), (2, ex_i 1), (3, ex_i (nI ch))]) dX7_chooses_8 (Nat.le_of_ble_eq_true rfl) rfl ?_
  refine X_aload (j := 0) dX7_chooses_10 rfl ?_
  refine X_aload_n (j := 1) dX7_chooses_12 rfl rfl ?_
  refine X_get (j := 0) fo_X7_29 dX7_chooses_13 rfl rfl ?_
  refine X_iload_n (j := 3) dX7_chooses_16 rfl rfl ?_
  refine X_aald (j := 1) (v := (sk 1 0)) dX7_chooses_17 rfl (vin (by decide)) rfl (Or.inr rfl) ?_
  refine X_callV (j0 := 0) (rest := [(pp, ex_o 7 [ex_i pls, ex_i pfi, ex_i (nI pbe), ex_i ptr, ex_i (nI pdy), ex_r p6]), (p6, ex_q 5 4 (fun j => some (sk j 0))), (c, ex_o 0 [ex_r c0, ex_r c1, ex_r c2, ex_r c3, ex_r c4, ex_r c5, ex_r c6, ex_r c7, ex_r c8, ex_r c9, ex_r c10, ex_r c11, ex_r c12, ex_i (nI np), ex_i (nI nd), ex_i sto, ex_i res, ex_r c17, ex_r c18, ex_r c19]), (c1, ex_a 1 6 kd), (c2, ex_a 1 6 hg), (c5, ex_a 1 6 sf), (c6, ex_a 1 6 st), (c11, ex_a 1 5 co), (c17, ex_a 1 360 gf)]) (stk := []) co_X7_41 rfl ⟨(Nat.le_of_ble_eq_true rfl), (Nat.le_of_ble_eq_true rfl)⟩ (e_X8_copies l (sk 2 0) (sk 1 0) y2dy y2sr y2il (sk 2 1) (sk 2 2) (sk 2 3) y2fu y2ae y2hu y1dy y1sr y1il (sk 1 1) (sk 1 2) (sk 1 3) y1fu y1ae y1hu) dX7_chooses_18 [6, 7, 8, 9, 2, 3, 4, 5, 0, 1, 10, 11, 12, 13, 14, 15, 16] (show List.Perm [6, 7, 8, 9, 2, 3, 4, 5, 0, 1, 10, 11, 12, 13, 14, 15, 16] (List.range 17) from by decide) rfl rfl rfl rfl (Nat.le_of_ble_eq_true rfl) (fun zc1 zr hq hk => ?_)
  obtain ⟨rfl, rfl⟩ := hq
  try dsimp only at hV
  generalize hq_w_1 : F_X8_copies y2fu y2ae y2hu y1dy y1sr y1il y1fu y1ae y1hu = w_1 at hV ⊢
  try dsimp only at hV
  refine X_iload_n (j := 4) dX7_chooses_21 rfl rfl ?_
  refine X_bipush (v := 60) dX7_chooses_22 (by decide) ?_
  refine X_icmp_eq (tgt := 46) dX7_chooses_24 (by decide) (fun c_2 => ?_) (fun c_2 => ?_)
  · have hV := hV.trans (if_pos c_2)
    refine X_aload (j := 0) dX7_chooses_46 rfl ?_
    refine X_aload_n (j := 2) dX7_chooses_48 rfl rfl ?_
    refine X_callV (j0 := 0) (rest := [((sk 2 2), ex_a 1 6 w_1.2.2.2.2.1), ((sk 1 0), ex_o 8 [ex_i y1dy, ex_i y1sr, ex_i y1il, ex_r (sk 1 1), ex_r (sk 1 2), ex_r (sk 1 3)]), ((sk 1 1), ex_a 1 6 y1fu), ((sk 1 2), ex_a 1 6 y1ae), ((sk 1 3), ex_a 1 6 y1hu), (pp, ex_o 7 [ex_i pls, ex_i pfi, ex_i (nI pbe), ex_i ptr, ex_i (nI pdy), ex_r p6]), (p6, ex_q 5 4 (fun j => some (sk j 0))), (c1, ex_a 1 6 kd), (c5, ex_a 1 6 sf), (c6, ex_a 1 6 st), (c11, ex_a 1 5 co), (c17, ex_a 1 360 gf)]) (stk := []) co_X7_104 rfl ⟨(Nat.le_of_ble_eq_true rfl), (Nat.le_of_ble_eq_true rfl)⟩ (e_X8_endsDay l (sk 2 0) c w_1.1 w_1.2.1 w_1.2.2.1 (sk 2 1) (sk 2 2) (sk 2 3) w_1.2.2.2.1 w_1.2.2.2.2.2 c0 c1 c2 c3 c4 c5 c6 c7 c8 c9 c10 c11 c12 np nd sto res c17 c18 c19 hg (by first | assumption | omega)) dX7_chooses_49 [0, 1, 3, 10, 12, 2, 4, 5, 6, 7, 8, 9, 11, 13, 14, 15, 16] (show List.Perm [0, 1, 3, 10, 12, 2, 4, 5, 6, 7, 8, 9, 11, 13, 14, 15, 16] (List.range 17) from by decide) rfl rfl rfl rfl (Nat.le_of_ble_eq_true rfl) (fun zc1 zr hq hk => ?_)
    obtain ⟨rfl, rfl⟩ := hq
    try dsimp only at hV
    generalize hq_w_3 : F_X8_endsDay w_1.1 w_1.2.2.2.1 w_1.2.2.2.2.2 np hg = w_3 at hV ⊢
    try dsimp only at hV
    refine X_pop dX7_chooses_52 rfl ?_
    try dsimp only at hV
    refine X_re (cs' := [(pp, ex_o 7 [ex_i pls, ex_i pfi, ex_i (nI pbe), ex_i ptr, ex_i (nI pdy), ex_r p6]), (p6, ex_q 5 4 (fun j => some (sk j 0))), ((sk 1 0), ex_o 8 [ex_i y1dy, ex_i y1sr, ex_i y1il, ex_r (sk 1 1), ex_r (sk 1 2), ex_r (sk 1 3)]), ((sk 1 1), ex_a 1 6 y1fu), ((sk 1 2), ex_a 1 6 y1ae), ((sk 1 3), ex_a 1 6 y1hu), ((sk 2 0), ex_o 8 [ex_i w_3.1, ex_i w_1.2.1, ex_i w_1.2.2.1, ex_r (sk 2 1), ex_r (sk 2 2), ex_r (sk 2 3)]), ((sk 2 1), ex_a 1 6 w_3.2.1), ((sk 2 2), ex_a 1 6 w_1.2.2.2.2.1), ((sk 2 3), ex_a 1 6 w_3.2.2.1), (c, ex_o 0 [ex_r c0, ex_r c1, ex_r c2, ex_r c3, ex_r c4, ex_r c5, ex_r c6, ex_r c7, ex_r c8, ex_r c9, ex_r c10, ex_r c11, ex_r c12, ex_i (nI np), ex_i (nI nd), ex_i sto, ex_i res, ex_r c17, ex_r c18, ex_r c19]), (c1, ex_a 1 6 kd), (c2, ex_a 1 6 hg), (c5, ex_a 1 6 sf), (c6, ex_a 1 6 st), (c11, ex_a 1 5 co), (c17, ex_a 1 360 gf)]) [10, 11, 6, 7, 8, 9, 0, 1, 5, 2, 3, 12, 4, 13, 14, 15, 16] (show List.Perm [10, 11, 6, 7, 8, 9, 0, 1, 5, 2, 3, 12, 4, 13, 14, 15, 16] (List.range 17) from by decide) rfl ?_
    exact X_vret dX7_chooses_53 (by (repeat refine ex_kc ?_) <;> rfl) (by subst hV; exact ⟨rfl, rfl⟩)
  · have hV := hV.trans (if_neg c_2)
    have hc60 : ch < 60 := ne60 hch c_2
    have hea : F_X7_eaterOf ch < 6 := ea_lt hc60
    have hdi : F_X7_dishOf ch < 5 := di_lt ch
    refine X_aload (j := 0) dX7_chooses_27 rfl ?_
    refine X_aload_n (j := 2) dX7_chooses_29 rfl rfl ?_
    refine X_iload_n (j := 4) dX7_chooses_30 rfl rfl ?_
    refine X_callS (rest := [((sk 2 0), ex_o 8 [ex_i w_1.1, ex_i w_1.2.1, ex_i w_1.2.2.1, ex_r (sk 2 1), ex_r (sk 2 2), ex_r (sk 2 3)]), ((sk 2 1), ex_a 1 6 w_1.2.2.2.1), ((sk 2 2), ex_a 1 6 w_1.2.2.2.2.1), ((sk 2 3), ex_a 1 6 w_1.2.2.2.2.2), ((sk 1 0), ex_o 8 [ex_i y1dy, ex_i y1sr, ex_i y1il, ex_r (sk 1 1), ex_r (sk 1 2), ex_r (sk 1 3)]), ((sk 1 1), ex_a 1 6 y1fu), ((sk 1 2), ex_a 1 6 y1ae), ((sk 1 3), ex_a 1 6 y1hu), (pp, ex_o 7 [ex_i pls, ex_i pfi, ex_i (nI pbe), ex_i ptr, ex_i (nI pdy), ex_r p6]), (p6, ex_q 5 4 (fun j => some (sk j 0))), (c, ex_o 0 [ex_r c0, ex_r c1, ex_r c2, ex_r c3, ex_r c4, ex_r c5, ex_r c6, ex_r c7, ex_r c8, ex_r c9, ex_r c10, ex_r c11, ex_r c12, ex_i (nI np), ex_i (nI nd), ex_i sto, ex_i res, ex_r c17, ex_r c18, ex_r c19]), (c1, ex_a 1 6 kd), (c2, ex_a 1 6 hg), (c5, ex_a 1 6 sf), (c6, ex_a 1 6 st), (c11, ex_a 1 5 co), (c17, ex_a 1 360 gf)]) (stk := [ex_r c, ex_r (sk 2 0)]) co_X7_60 rfl ⟨(Nat.le_of_ble_eq_true rfl), (Nat.le_of_ble_eq_true rfl)⟩ (e_X7_eaterOf l ch (by first | assumption | omega)) dX7_chooses_31 [0, 1, 2, 3, 4, 5, 6, 7, 8, 9, 10, 11, 12, 13, 14, 15, 16] (show List.Perm [0, 1, 2, 3, 4, 5, 6, 7, 8, 9, 10, 11, 12, 13, 14, 15, 16] (List.range 17) from by decide) rfl rfl rfl (Nat.le_of_ble_eq_true rfl) (fun zc1 zr hq hk => ?_)
    obtain ⟨rfl, rfl⟩ := hq
    refine X_iload_n (j := 4) dX7_chooses_34 rfl rfl ?_
    refine X_callS (rest := [((sk 2 0), ex_o 8 [ex_i w_1.1, ex_i w_1.2.1, ex_i w_1.2.2.1, ex_r (sk 2 1), ex_r (sk 2 2), ex_r (sk 2 3)]), ((sk 2 1), ex_a 1 6 w_1.2.2.2.1), ((sk 2 2), ex_a 1 6 w_1.2.2.2.2.1), ((sk 2 3), ex_a 1 6 w_1.2.2.2.2.2), ((sk 1 0), ex_o 8 [ex_i y1dy, ex_i y1sr, ex_i y1il, ex_r (sk 1 1), ex_r (sk 1 2), ex_r (sk 1 3)]), ((sk 1 1), ex_a 1 6 y1fu), ((sk 1 2), ex_a 1 6 y1ae), ((sk 1 3), ex_a 1 6 y1hu), (pp, ex_o 7 [ex_i pls, ex_i pfi, ex_i (nI pbe), ex_i ptr, ex_i (nI pdy), ex_r p6]), (p6, ex_q 5 4 (fun j => some (sk j 0))), (c, ex_o 0 [ex_r c0, ex_r c1, ex_r c2, ex_r c3, ex_r c4, ex_r c5, ex_r c6, ex_r c7, ex_r c8, ex_r c9, ex_r c10, ex_r c11, ex_r c12, ex_i (nI np), ex_i (nI nd), ex_i sto, ex_i res, ex_r c17, ex_r c18, ex_r c19]), (c1, ex_a 1 6 kd), (c2, ex_a 1 6 hg), (c5, ex_a 1 6 sf), (c6, ex_a 1 6 st), (c11, ex_a 1 5 co), (c17, ex_a 1 360 gf)]) (stk := [ex_i (nI (F_X7_eaterOf ch)), ex_r c, ex_r (sk 2 0)]) co_X7_64 rfl ⟨(Nat.le_of_ble_eq_true rfl), (Nat.le_of_ble_eq_true rfl)⟩ (e_X7_dishOf l ch (by first | assumption | omega)) dX7_chooses_35 [0, 1, 2, 3, 4, 5, 6, 7, 8, 9, 10, 11, 12, 13, 14, 15, 16] (show List.Perm [0, 1, 2, 3, 4, 5, 6, 7, 8, 9, 10, 11, 12, 13, 14, 15, 16] (List.range 17) from by decide) rfl rfl rfl (Nat.le_of_ble_eq_true rfl) (fun zc1 zr hq hk => ?_)
    obtain ⟨rfl, rfl⟩ := hq
    refine X_iload_n (j := 4) dX7_chooses_38 rfl rfl ?_
    refine X_callS (rest := [((sk 2 0), ex_o 8 [ex_i w_1.1, ex_i w_1.2.1, ex_i w_1.2.2.1, ex_r (sk 2 1), ex_r (sk 2 2), ex_r (sk 2 3)]), ((sk 2 1), ex_a 1 6 w_1.2.2.2.1), ((sk 2 2), ex_a 1 6 w_1.2.2.2.2.1), ((sk 2 3), ex_a 1 6 w_1.2.2.2.2.2), ((sk 1 0), ex_o 8 [ex_i y1dy, ex_i y1sr, ex_i y1il, ex_r (sk 1 1), ex_r (sk 1 2), ex_r (sk 1 3)]), ((sk 1 1), ex_a 1 6 y1fu), ((sk 1 2), ex_a 1 6 y1ae), ((sk 1 3), ex_a 1 6 y1hu), (pp, ex_o 7 [ex_i pls, ex_i pfi, ex_i (nI pbe), ex_i ptr, ex_i (nI pdy), ex_r p6]), (p6, ex_q 5 4 (fun j => some (sk j 0))), (c, ex_o 0 [ex_r c0, ex_r c1, ex_r c2, ex_r c3, ex_r c4, ex_r c5, ex_r c6, ex_r c7, ex_r c8, ex_r c9, ex_r c10, ex_r c11, ex_r c12, ex_i (nI np), ex_i (nI nd), ex_i sto, ex_i res, ex_r c17, ex_r c18, ex_r c19]), (c1, ex_a 1 6 kd), (c2, ex_a 1 6 hg), (c5, ex_a 1 6 sf), (c6, ex_a 1 6 st), (c11, ex_a 1 5 co), (c17, ex_a 1 360 gf)]) (stk := [ex_i (nI (F_X7_dishOf ch)), ex_i (nI (F_X7_eaterOf ch)), ex_r c, ex_r (sk 2 0)]) co_X7_92 rfl ⟨(Nat.le_of_ble_eq_true rfl), (Nat.le_of_ble_eq_true rfl)⟩ (e_X7_isSlow l ch (by first | assumption | omega)) dX7_chooses_39 [0, 1, 2, 3, 4, 5, 6, 7, 8, 9, 10, 11, 12, 13, 14, 15, 16] (show List.Perm [0, 1, 2, 3, 4, 5, 6, 7, 8, 9, 10, 11, 12, 13, 14, 15, 16] (List.range 17) from by decide) rfl rfl rfl (Nat.le_of_ble_eq_true rfl) (fun zc1 zr hq hk => ?_)
    obtain ⟨rfl, rfl⟩ := hq
    refine X_callV (j0 := 0) (rest := [((sk 2 3), ex_a 1 6 w_1.2.2.2.2.2), ((sk 1 0), ex_o 8 [ex_i y1dy, ex_i y1sr, ex_i y1il, ex_r (sk 1 1), ex_r (sk 1 2), ex_r (sk 1 3)]), ((sk 1 1), ex_a 1 6 y1fu), ((sk 1 2), ex_a 1 6 y1ae), ((sk 1 3), ex_a 1 6 y1hu), (pp, ex_o 7 [ex_i pls, ex_i pfi, ex_i (nI pbe), ex_i ptr, ex_i (nI pdy), ex_r p6]), (p6, ex_q 5 4 (fun j => some (sk j 0))), (c2, ex_a 1 6 hg)]) (stk := []) co_X7_100 rfl ⟨(Nat.le_of_ble_eq_true rfl), (Nat.le_of_ble_eq_true rfl)⟩ (e_X8_takesMeal l (sk 2 0) c (F_X7_eaterOf ch) (F_X7_dishOf ch) (F_X7_isSlow ch) w_1.1 w_1.2.1 w_1.2.2.1 (sk 2 1) (sk 2 2) (sk 2 3) w_1.2.2.2.1 w_1.2.2.2.2.1 c0 c1 c2 c3 c4 c5 c6 c7 c8 c9 c10 c11 c12 np nd sto res c17 c18 c19 kd sf st co gf (by first | assumption | omega) (by first | assumption | omega) (by first | assumption | omega)) dX7_chooses_42 [0, 1, 2, 10, 11, 13, 14, 15, 16, 3, 4, 5, 6, 7, 8, 9, 12] (show List.Perm [0, 1, 2, 10, 11, 13, 14, 15, 16, 3, 4, 5, 6, 7, 8, 9, 12] (List.range 17) from by decide) rfl rfl rfl rfl (Nat.le_of_ble_eq_true rfl) (fun zc1 zr hq hk => ?_)
    obtain ⟨rfl, rfl⟩ := hq
    try dsimp only at hV
    generalize hq_w_4 : F_X8_takesMeal (F_X7_eaterOf ch) (F_X7_dishOf ch) (F_X7_isSlow ch) w_1.1 w_1.2.1 w_1.2.2.1 w_1.2.2.2.1 w_1.2.2.2.2.1 np res kd sf st co gf = w_4 at hV ⊢
    try dsimp only at hV
    refine X_pop dX7_chooses_45 rfl ?_
    refine X_aload (j := 0) dX7_chooses_46 rfl ?_
    refine X_aload_n (j := 2) dX7_chooses_48 rfl rfl ?_
    refine X_callV (j0 := 0) (rest := [((sk 2 2), ex_a 1 6 w_4.2.2.2.1), (c1, ex_a 1 6 kd), (c5, ex_a 1 6 sf), (c6, ex_a 1 6 st), (c11, ex_a 1 5 co), (c17, ex_a 1 360 gf), ((sk 1 0), ex_o 8 [ex_i y1dy, ex_i y1sr, ex_i y1il, ex_r (sk 1 1), ex_r (sk 1 2), ex_r (sk 1 3)]), ((sk 1 1), ex_a 1 6 y1fu), ((sk 1 2), ex_a 1 6 y1ae), ((sk 1 3), ex_a 1 6 y1hu), (pp, ex_o 7 [ex_i pls, ex_i pfi, ex_i (nI pbe), ex_i ptr, ex_i (nI pdy), ex_r p6]), (p6, ex_q 5 4 (fun j => some (sk j 0)))]) (stk := []) co_X7_104 rfl ⟨(Nat.le_of_ble_eq_true rfl), (Nat.le_of_ble_eq_true rfl)⟩ (e_X8_endsDay l (sk 2 0) c w_1.1 w_4.1 w_4.2.1 (sk 2 1) (sk 2 2) (sk 2 3) w_4.2.2.1 w_1.2.2.2.2.2 c0 c1 c2 c3 c4 c5 c6 c7 c8 c9 c10 c11 c12 np nd sto res c17 c18 c19 hg (by first | assumption | omega)) dX7_chooses_49 [0, 1, 9, 3, 16, 2, 4, 5, 6, 7, 8, 10, 11, 12, 13, 14, 15] (show List.Perm [0, 1, 9, 3, 16, 2, 4, 5, 6, 7, 8, 10, 11, 12, 13, 14, 15] (List.range 17) from by decide) rfl rfl rfl rfl (Nat.le_of_ble_eq_true rfl) (fun zc1 zr hq hk => ?_)
    obtain ⟨rfl, rfl⟩ := hq
    try dsimp only at hV
    generalize hq_w_5 : F_X8_endsDay w_1.1 w_4.2.2.1 w_1.2.2.2.2.2 np hg = w_5 at hV ⊢
    try dsimp only at hV
    refine X_pop dX7_chooses_52 rfl ?_
    try dsimp only at hV
    refine X_re (cs' := [(pp, ex_o 7 [ex_i pls, ex_i pfi, ex_i (nI pbe), ex_i ptr, ex_i (nI pdy), ex_r p6]), (p6, ex_q 5 4 (fun j => some (sk j 0))), ((sk 1 0), ex_o 8 [ex_i y1dy, ex_i y1sr, ex_i y1il, ex_r (sk 1 1), ex_r (sk 1 2), ex_r (sk 1 3)]), ((sk 1 1), ex_a 1 6 y1fu), ((sk 1 2), ex_a 1 6 y1ae), ((sk 1 3), ex_a 1 6 y1hu), ((sk 2 0), ex_o 8 [ex_i w_5.1, ex_i w_4.1, ex_i w_4.2.1, ex_r (sk 2 1), ex_r (sk 2 2), ex_r (sk 2 3)]), ((sk 2 1), ex_a 1 6 w_5.2.1), ((sk 2 2), ex_a 1 6 w_4.2.2.2.1), ((sk 2 3), ex_a 1 6 w_5.2.2.1), (c, ex_o 0 [ex_r c0, ex_r c1, ex_r c2, ex_r c3, ex_r c4, ex_r c5, ex_r c6, ex_r c7, ex_r c8, ex_r c9, ex_r c10, ex_r c11, ex_r c12, ex_i (nI np), ex_i (nI nd), ex_i sto, ex_i res, ex_r c17, ex_r c18, ex_r c19]), (c1, ex_a 1 6 kd), (c2, ex_a 1 6 hg), (c5, ex_a 1 6 sf), (c6, ex_a 1 6 st), (c11, ex_a 1 5 co), (c17, ex_a 1 360 gf)]) [15, 16, 11, 12, 13, 14, 0, 1, 5, 2, 3, 6, 4, 7, 8, 9, 10] (show List.Perm [15, 16, 11, 12, 13, 14, 0, 1, 5, 2, 3, 6, 4, 7, 8, 9, 10] (List.range 17) from by decide) rfl ?_
    exact X_vret dX7_chooses_53 (by (repeat refine ex_kc ?_) <;> rfl) (by subst hV; exact ⟨rfl, rfl⟩)

def F_X7_costOf_2 (ch : Nat) (y2dy : Int32) (y2sr : Int32) (np : Nat) (nd : Nat) (kd : Nat → Int32) (sf : Nat → Int32) (st : Nat → Int32) (co : Nat → Int32) (bt : Nat → Int32) : Int32 := (if (nI ch) = 60 then 0 else (if (nI np) ≤ (nI (F_X7_eaterOf ch)) then (-1) else (if (nI nd) ≤ (nI (F_X7_dishOf ch)) then (-1) else (if (bt ch) = 0 then (if (F_X8_canEat (F_X7_eaterOf ch) (F_X7_dishOf ch) y2dy y2sr kd sf st co) = 0 then (-1) else (F_X0_costBy (F_X7_eaterOf ch) (F_X7_dishOf ch) kd co)) else (-1)))))
set_option maxHeartbeats 4000000 in
set_option maxRecDepth 100000 in
theorem e_X7_costOf_2 (l : Launch) (pp : Nat) (c : Nat) (ch : Nat) (pls : Int32) (pfi : Int32) (pbe : Nat) (ptr : Int32) (pdy : Nat) (p6 : Nat) (sk : Nat → Nat → Nat) (y2dy : Int32) (y2sr : Int32) (y2il : Int32) (c0 : Nat) (c1 : Nat) (c2 : Nat) (c3 : Nat) (c4 : Nat) (c5 : Nat) (c6 : Nat) (c7 : Nat) (c8 : Nat) (c9 : Nat) (c10 : Nat) (c11 : Nat) (c12 : Nat) (np : Nat) (nd : Nat) (sto : Int32) (res : Int32) (c17 : Nat) (c18 : Nat) (c19 : Nat) (kd : Nat → Int32) (sf : Nat → Int32) (st : Nat → Int32) (co : Nat → Int32) (bt : Nat → Int32) (hch : ch < 61) : ex_M l yX7_costOf cX7_costOf 6 (some .int) 3 67 [ex_r pp, ex_r c, ex_i 2, ex_i (nI ch)] [(pp, ex_o 7 [ex_i pls, ex_i pfi, ex_i (nI pbe), ex_i ptr, ex_i (nI pdy), ex_r p6]), (p6, ex_q 5 4 (fun j => some (sk j 0))), ((sk 2 0), ex_o 8 [ex_i y2dy, ex_i y2sr, ex_i y2il, ex_r (sk 2 1), ex_r (sk 2 2), ex_r (sk 2 3)]), (c, ex_o 0 [ex_r c0, ex_r c1, ex_r c2, ex_r c3, ex_r c4, ex_r c5, ex_r c6, ex_r c7, ex_r c8, ex_r c9, ex_r c10, ex_r c11, ex_r c12, ex_i (nI np), ex_i (nI nd), ex_i sto, ex_i res, ex_r c17, ex_r c18, ex_r c19]), (c1, ex_a 1 6 kd), (c5, ex_a 1 6 sf), (c6, ex_a 1 6 st), (c11, ex_a 1 5 co), (c19, ex_a 3 60 bt)] (fun zcs zr => zcs = [(pp, ex_o 7 [ex_i pls, ex_i pfi, ex_i (nI pbe), ex_i ptr, ex_i (nI pdy), ex_r p6]), (p6, ex_q 5 4 (fun j => some (sk j 0))), ((sk 2 0), ex_o 8 [ex_i y2dy, ex_i y2sr, ex_i y2il, ex_r (sk 2 1), ex_r (sk 2 2), ex_r (sk 2 3)]), (c, ex_o 0 [ex_r c0, ex_r c1, ex_r c2, ex_r c3, ex_r c4, ex_r c5, ex_r c6, ex_r c7, ex_r c8, ex_r c9, ex_r c10, ex_r c11, ex_r c12, ex_i (nI np), ex_i (nI nd), ex_i sto, ex_i res, ex_r c17, ex_r c18, ex_r c19]), (c1, ex_a 1 6 kd), (c5, ex_a 1 6 sf), (c6, ex_a 1 6 st), (c11, ex_a 1 5 co), (c19, ex_a 3 60 bt)] ∧ zr = some (ex_i (F_X7_costOf_2 ch y2dy y2sr np nd kd sf st co bt))) := by
  refine X_meth (by decide) (Nat.le_of_ble_eq_true rfl) ?_
  generalize hV : F_X7_costOf_2 ch y2dy y2sr np nd kd sf st co bt = V0
  have hV := hV.symm
  unfold F_X7_costOf_2 at hV
  try dsimp only at hV
  refine X_iload_n (j := 3) dX7_costOf_0 rfl rfl ?_
  refine X_bipush (v := 60) dX7_costOf_1 (by decide) ?_
  refine X_icmp_ne (tgt := 8) dX7_costOf_3 (by decide) (fun c_1 => ?_) (fun c_1 => ?_)
  · have hV := hV.trans (if_neg c_1)
    have hc60 : ch < 60 := ne60 hch c_1
    have hea : F_X7_eaterOf ch < 6 := ea_lt hc60
    have hdi : F_X7_dishOf ch < 5 := di_lt ch
    refine X_iload_n (j := 3) dX7_costOf_8 rfl rfl ?_
    refine X_callS (rest := [(pp, ex_o 7 [ex_i pls, ex_i pfi, ex_i (nI pbe), ex_i ptr, ex_i (nI pdy), ex_r p6]), (p6, ex_q 5 4 (fun j => some (sk j 0))), ((sk 2 0), ex_o 8 [ex_i y2dy, ex_i y2sr, ex_i y2il, ex_r (sk 2 1), ex_r (sk 2 2), ex_r (sk 2 3)]), (c, ex_o 0 [ex_r c0, ex_r c1, ex_r c2, ex_r c3, ex_r c4, ex_r c5, ex_r c6, ex_r c7, ex_r c8, ex_r c9, ex_r c10, ex_r c11, ex_r c12, ex_i (nI np), ex_i (nI nd), ex_i sto, ex_i res, ex_r c17, ex_r c18, ex_r c19]), (c1, ex_a 1 6 kd), (c5, ex_a 1 6 sf), (c6, ex_a 1 6 st), (c11, ex_a 1 5 co), (c19, ex_a 3 60 bt)]) (stk := []) co_X7_60 rfl ⟨(Nat.le_of_ble_eq_true rfl), (Nat.le_of_ble_eq_true rfl)⟩ (e_X7_eaterOf l ch (by first | assumption | omega)) dX7_costOf_9 [0, 1, 2, 3, 4, 5, 6, 7, 8] (show List.Perm [0, 1, 2, 3, 4, 5, 6, 7, 8] (List.range 9) from by decide) rfl rfl rfl (Nat.le_of_ble_eq_true rfl) (fun zc1 zr hq hk => ?_)
    obtain ⟨rfl, rfl⟩ := hq
    refine X_istore (lv' := [(4, ex_i (nI (F_X7_eaterOf ch))), (0, ex_r pp), (1, ex_r c), (2, ex_i 2), (3, ex_i (nI ch))]) dX7_costOf_12 (Nat.le_of_ble_eq_true rfl) rfl ?_
    refine X_iload_n (j := 4) dX7_costOf_14 rfl rfl ?_
    refine X_callS (rest := [(pp, ex_o 7 [ex_i pls, ex_i pfi, ex_i (nI pbe), ex_i ptr, ex_i (nI pdy), ex_r p6]), (p6, ex_q 5 4 (fun j => some (sk j 0))), ((sk 2 0), ex_o 8 [ex_i y2dy, ex_i y2sr, ex_i y2il, ex_r (sk 2 1), ex_r (sk 2 2), ex_r (sk 2 3)]), (c, ex_o 0 [ex_r c0, ex_r c1, ex_r c2, ex_r c3, ex_r c4, ex_r c5, ex_r c6, ex_r c7, ex_r c8, ex_r c9, ex_r c10, ex_r c11, ex_r c12, ex_i (nI np), ex_i (nI nd), ex_i sto, ex_i res, ex_r c17, ex_r c18, ex_r c19]), (c1, ex_a 1 6 kd), (c5, ex_a 1 6 sf), (c6, ex_a 1 6 st), (c11, ex_a 1 5 co), (c19, ex_a 3 60 bt)]) (stk := []) co_X7_64 rfl ⟨(Nat.le_of_ble_eq_true rfl), (Nat.le_of_ble_eq_true rfl)⟩ (e_X7_dishOf l ch (by first | assumption | omega)) dX7_costOf_15 [0, 1, 2, 3, 4, 5, 6, 7, 8] (show List.Perm [0, 1, 2, 3, 4, 5, 6, 7, 8] (List.range 9) from by decide) rfl rfl rfl (Nat.le_of_ble_eq_true rfl) (fun zc1 zr hq hk => ?_)
    obtain ⟨rfl, rfl⟩ := hq
    refine X_istore (lv' := [(5, ex_i (nI (F_X7_dishOf ch))), (4, ex_i (nI (F_X7_eaterOf ch))), (0, ex_r pp), (1, ex_r c), (2, ex_i 2), (3, ex_i (nI ch))]) dX7_costOf_18 (Nat.le_of_ble_eq_true rfl) rfl ?_
    refine X_iload (j := 1) dX7_costOf_20 rfl ?_
    refine X_aload_n (j := 3) dX7_costOf_22 rfl rfl ?_
    refine X_get (j := 3) fo_X7_67 dX7_costOf_23 rfl rfl ?_
    refine X_icmp_ge (tgt := 47) dX7_costOf_26 (by decide) (fun c_2 => ?_) (fun c_2 => ?_)
    · have hV := hV.trans (if_pos c_2)
      refine X_iconst (v := (-1)) dX7_costOf_47 (by decide) ?_
      try dsimp only at hV
      exact X_iret ex_nI rfl dX7_costOf_48 (by (repeat refine ex_kc ?_) <;> rfl) (by subst hV; exact ⟨rfl, rfl⟩)
    · have hV := hV.trans (if_neg c_2)
      refine X_iload (j := 0) dX7_costOf_29 rfl ?_
      refine X_aload_n (j := 3) dX7_costOf_31 rfl rfl ?_
      refine X_get (j := 3) fo_X7_72 dX7_costOf_32 rfl rfl ?_
      refine X_icmp_ge (tgt := 47) dX7_costOf_35 (by decide) (fun c_3 => ?_) (fun c_3 => ?_)
      · have hV := hV.trans (if_pos c_3)
        refine X_iconst (v := (-1)) dX7_costOf_47 (by decide) ?_
        try dsimp only at hV
        exact X_iret ex_nI rfl dX7_costOf_48 (by (repeat refine ex_kc ?_) <;> rfl) (by subst hV; exact ⟨rfl, rfl⟩)
      · have hV := hV.trans (if_neg c_3)
        refine X_aload_n (j := 3) dX7_costOf_38 rfl rfl ?_
        refine X_get (j := 3) fo_X7_75 dX7_costOf_39 rfl rfl ?_
        refine X_iload_n (j := 5) dX7_costOf_42 rfl rfl ?_
        refine X_zald (j := 8) (v := (bt ch)) dX7_costOf_43 rfl (vp_in_nI (show ch < 60 by omega) (by decide)) (by rw [nI_clamp (by omega)]) ?_
        refine X_if_eq (tgt := 49) dX7_costOf_44 (by decide) (fun c_4 => ?_) (fun c_4 => ?_)
        · have hV := hV.trans (if_pos c_4)
          refine X_aload_n (j := 2) dX7_costOf_49 rfl rfl ?_
          refine X_get (j := 0) fo_X7_29 dX7_costOf_50 rfl rfl ?_
          refine X_iload_n (j := 4) dX7_costOf_53 rfl rfl ?_
          refine X_aald (j := 1) (v := (sk 2 0)) dX7_costOf_54 rfl (vin (by decide)) rfl (Or.inr rfl) ?_
          refine X_aload_n (j := 3) dX7_costOf_55 rfl rfl ?_
          refine X_iload (j := 1) dX7_costOf_56 rfl ?_
          refine X_iload (j := 0) dX7_costOf_58 rfl ?_
          refine X_callV (j0 := 0) (rest := [(pp, ex_o 7 [ex_i pls, ex_i pfi, ex_i (nI pbe), ex_i ptr, ex_i (nI pdy), ex_r p6]), (p6, ex_q 5 4 (fun j => some (sk j 0))), (c19, ex_a 3 60 bt)]) (stk := []) co_X7_79 rfl ⟨(Nat.le_of_ble_eq_true rfl), (Nat.le_of_ble_eq_true rfl)⟩ (e_X8_canEat l (sk 2 0) c (F_X7_eaterOf ch) (F_X7_dishOf ch) y2dy y2sr y2il (sk 2 1) (sk 2 2) (sk 2 3) c0 c1 c2 c3 c4 c5 c6 c7 c8 c9 c10 c11 c12 np nd sto res c17 c18 c19 kd sf st co (by first | assumption | omega) (by first | assumption | omega)) dX7_costOf_60 [2, 3, 4, 5, 6, 7, 0, 1, 8] (show List.Perm [2, 3, 4, 5, 6, 7, 0, 1, 8] (List.range 9) from by decide) rfl rfl rfl rfl (Nat.le_of_ble_eq_true rfl) (fun zc1 zr hq hk => ?_)
          obtain ⟨rfl, rfl⟩ := hq
          refine X_if_eq (tgt := 77) dX7_costOf_63 (by decide) (fun c_5 => ?_) (fun c_5 => ?_)
          · have hV := hV.trans (if_pos c_5)
            refine X_iconst (v := (-1)) dX7_costOf_77 (by decide) ?_
            try dsimp only at hV
            refine X_re (cs' := [(pp, ex_o 7 [ex_i pls, ex_i pfi, ex_i (nI pbe), ex_i ptr, ex_i (nI pdy), ex_r p6]), (p6, ex_q 5 4 (fun j => some (sk j 0))), ((sk 2 0), ex_o 8 [ex_i y2dy, ex_i y2sr, ex_i y2il, ex_r (sk 2 1), ex_r (sk 2 2), ex_r (sk 2 3)]), (c, ex_o 0 [ex_r c0, ex_r c1, ex_r c2, ex_r c3, ex_r c4, ex_r c5, ex_r c6, ex_r c7, ex_r c8, ex_r c9, ex_r c10, ex_r c11, ex_r c12, ex_i (nI np), ex_i (nI nd), ex_i sto, ex_i res, ex_r c17, ex_r c18, ex_r c19]), (c1, ex_a 1 6 kd), (c5, ex_a 1 6 sf), (c6, ex_a 1 6 st), (c11, ex_a 1 5 co), (c19, ex_a 3 60 bt)]) [6, 7, 0, 1, 2, 3, 4, 5, 8] (show List.Perm [6, 7, 0, 1, 2, 3, 4, 5, 8] (List.range 9) from by decide) rfl ?_
            exact X_iret ex_nI rfl dX7_costOf_78 (by (repeat refine ex_kc ?_) <;> rfl) (by subst hV; exact ⟨rfl, rfl⟩)
          · have hV := hV.trans (if_neg c_5)
            refine X_aload_n (j := 3) dX7_costOf_66 rfl rfl ?_
            refine X_iload (j := 1) dX7_costOf_67 rfl ?_
            refine X_iload (j := 0) dX7_costOf_69 rfl ?_
            refine X_callV (j0 := 0) (rest := [((sk 2 0), ex_o 8 [ex_i y2dy, ex_i y2sr, ex_i y2il, ex_r (sk 2 1), ex_r (sk 2 2), ex_r (sk 2 3)]), (c5, ex_a 1 6 sf), (c6, ex_a 1 6 st), (pp, ex_o 7 [ex_i pls, ex_i pfi, ex_i (nI pbe), ex_i ptr, ex_i (nI pdy), ex_r p6]), (p6, ex_q 5 4 (fun j => some (sk j 0))), (c19, ex_a 3 60 bt)]) (stk := []) co_X7_82 rfl ⟨(Nat.le_of_ble_eq_true rfl), (Nat.le_of_ble_eq_true rfl)⟩ (e_X0_costBy l c (F_X7_eaterOf ch) (F_X7_dishOf ch) c0 c1 c2 c3 c4 c5 c6 c7 c8 c9 c10 c11 c12 np nd sto res c17 c18 c19 kd co (by first | assumption | omega) (by first | assumption | omega)) dX7_costOf_71 [1, 2, 5, 0, 3, 4, 6, 7, 8] (show List.Perm [1, 2, 5, 0, 3, 4, 6, 7, 8] (List.range 9) from by decide) rfl rfl rfl rfl (Nat.le_of_ble_eq_true rfl) (fun zc1 zr hq hk => ?_)
            obtain ⟨rfl, rfl⟩ := hq
            refine X_goto (tgt := 78) dX7_costOf_74 (by decide) ?_
            try dsimp only at hV
            refine X_re (cs' := [(pp, ex_o 7 [ex_i pls, ex_i pfi, ex_i (nI pbe), ex_i ptr, ex_i (nI pdy), ex_r p6]), (p6, ex_q 5 4 (fun j => some (sk j 0))), ((sk 2 0), ex_o 8 [ex_i y2dy, ex_i y2sr, ex_i y2il, ex_r (sk 2 1), ex_r (sk 2 2), ex_r (sk 2 3)]), (c, ex_o 0 [ex_r c0, ex_r c1, ex_r c2, ex_r c3, ex_r c4, ex_r c5, ex_r c6, ex_r c7, ex_r c8, ex_r c9, ex_r c10, ex_r c11, ex_r c12, ex_i (nI np), ex_i (nI nd), ex_i sto, ex_i res, ex_r c17, ex_r c18, ex_r c19]), (c1, ex_a 1 6 kd), (c5, ex_a 1 6 sf), (c6, ex_a 1 6 st), (c11, ex_a 1 5 co), (c19, ex_a 3 60 bt)]) [6, 7, 3, 0, 1, 4, 5, 2, 8] (show List.Perm [6, 7, 3, 0, 1, 4, 5, 2, 8] (List.range 9) from by decide) rfl ?_
            exact X_iret ex_nI rfl dX7_costOf_78 (by (repeat refine ex_kc ?_) <;> rfl) (by subst hV; exact ⟨rfl, rfl⟩)
        · have hV := hV.trans (if_neg c_4)
          refine X_iconst (v := (-1)) dX7_costOf_47 (by decide) ?_
          try dsimp only at hV
          exact X_iret ex_nI rfl dX7_costOf_48 (by (repeat refine ex_kc ?_) <;> rfl) (by subst hV; exact ⟨rfl, rfl⟩)
  · have hV := hV.trans (if_pos c_1)
    refine X_iconst (v := 0) dX7_costOf_6 (by decide) ?_
    try dsimp only at hV
    exact X_iret ex_nI rfl dX7_costOf_7 (by (repeat refine ex_kc ?_) <;> rfl) (by subst hV; exact ⟨rfl, rfl⟩)

def F_X7_feedsAll_2_L11 (ch : Nat) (y2dy : Int32) (y2fu : Nat → Int32) (y2ae : Nat → Int32) (res : Int32) (hg : Nat → Int32) (sf : Nat → Int32) (st : Nat → Int32) (gf : Nat → Int32) : Nat → Nat → Int32
  | 0, k11 => 1
  | zn + 1, k11 => (if (hg k11) ≤ (y2fu k11) then F_X7_feedsAll_2_L11 ch y2dy y2fu y2ae res hg sf st gf zn (k11 + 1) else (if (nI ch) = 60 then (if (hg k11) ≤ ((y2fu k11) + 0) then F_X7_feedsAll_2_L11 ch y2dy y2fu y2ae res hg sf st gf zn (k11 + 1) else 0) else (if (hg k11) ≤ ((y2fu k11) + (F_X8_gain (F_X7_eaterOf ch) (F_X7_dishOf ch) (F_X7_isSlow ch) k11 y2dy y2ae res sf st gf)) then F_X7_feedsAll_2_L11 ch y2dy y2fu y2ae res hg sf st gf zn (k11 + 1) else 0)))
theorem F_X7_feedsAll_2_L11_z (ch : Nat) (y2dy : Int32) (y2fu : Nat → Int32) (y2ae : Nat → Int32) (res : Int32) (hg : Nat → Int32) (sf : Nat → Int32) (st : Nat → Int32) (gf : Nat → Int32) (k11 : Nat) : F_X7_feedsAll_2_L11 ch y2dy y2fu y2ae res hg sf st gf 0 k11 = 1 := rfl
theorem F_X7_feedsAll_2_L11_s (ch : Nat) (y2dy : Int32) (y2fu : Nat → Int32) (y2ae : Nat → Int32) (res : Int32) (hg : Nat → Int32) (sf : Nat → Int32) (st : Nat → Int32) (gf : Nat → Int32) (k11 : Nat) (zn : Nat) : F_X7_feedsAll_2_L11 ch y2dy y2fu y2ae res hg sf st gf (zn + 1) k11 = (if (hg k11) ≤ (y2fu k11) then F_X7_feedsAll_2_L11 ch y2dy y2fu y2ae res hg sf st gf zn (k11 + 1) else (if (nI ch) = 60 then (if (hg k11) ≤ ((y2fu k11) + 0) then F_X7_feedsAll_2_L11 ch y2dy y2fu y2ae res hg sf st gf zn (k11 + 1) else 0) else (if (hg k11) ≤ ((y2fu k11) + (F_X8_gain (F_X7_eaterOf ch) (F_X7_dishOf ch) (F_X7_isSlow ch) k11 y2dy y2ae res sf st gf)) then F_X7_feedsAll_2_L11 ch y2dy y2fu y2ae res hg sf st gf zn (k11 + 1) else 0))) := rfl
def F_X7_feedsAll_2 (ch : Nat) (y2dy : Int32) (y2fu : Nat → Int32) (y2ae : Nat → Int32) (np : Nat) (res : Int32) (hg : Nat → Int32) (sf : Nat → Int32) (st : Nat → Int32) (gf : Nat → Int32) : Int32 := F_X7_feedsAll_2_L11 ch y2dy y2fu y2ae res hg sf st gf (np - 0) 0
set_option maxHeartbeats 4000000 in
set_option maxRecDepth 100000 in
theorem e_X7_feedsAll_2 (l : Launch) (pp : Nat) (c : Nat) (ch : Nat) (pls : Int32) (pfi : Int32) (pbe : Nat) (ptr : Int32) (pdy : Nat) (p6 : Nat) (sk : Nat → Nat → Nat) (y2dy : Int32) (y2sr : Int32) (y2il : Int32) (y2fu : Nat → Int32) (y2ae : Nat → Int32) (c0 : Nat) (c1 : Nat) (c2 : Nat) (c3 : Nat) (c4 : Nat) (c5 : Nat) (c6 : Nat) (c7 : Nat) (c8 : Nat) (c9 : Nat) (c10 : Nat) (c11 : Nat) (c12 : Nat) (np : Nat) (nd : Nat) (sto : Int32) (res : Int32) (c17 : Nat) (c18 : Nat) (c19 : Nat) (hg : Nat → Int32) (sf : Nat → Int32) (st : Nat → Int32) (gf : Nat → Int32) (hch : ch < 61) (hnp : np ≤ 6) : ex_M l yX7_feedsAll cX7_feedsAll 7 (some .boolean) 3 71 [ex_r pp, ex_r c, ex_i 2, ex_i (nI ch)] [(pp, ex_o 7 [ex_i pls, ex_i pfi, ex_i (nI pbe), ex_i ptr, ex_i (nI pdy), ex_r p6]), (p6, ex_q 5 4 (fun j => some (sk j 0))), ((sk 2 0), ex_o 8 [ex_i y2dy, ex_i y2sr, ex_i y2il, ex_r (sk 2 1), ex_r (sk 2 2), ex_r (sk 2 3)]), ((sk 2 1), ex_a 1 6 y2fu), ((sk 2 2), ex_a 1 6 y2ae), (c, ex_o 0 [ex_r c0, ex_r c1, ex_r c2, ex_r c3, ex_r c4, ex_r c5, ex_r c6, ex_r c7, ex_r c8, ex_r c9, ex_r c10, ex_r c11, ex_r c12, ex_i (nI np), ex_i (nI nd), ex_i sto, ex_i res, ex_r c17, ex_r c18, ex_r c19]), (c2, ex_a 1 6 hg), (c5, ex_a 1 6 sf), (c6, ex_a 1 6 st), (c17, ex_a 1 360 gf)] (fun zcs zr => zcs = [(pp, ex_o 7 [ex_i pls, ex_i pfi, ex_i (nI pbe), ex_i ptr, ex_i (nI pdy), ex_r p6]), (p6, ex_q 5 4 (fun j => some (sk j 0))), ((sk 2 0), ex_o 8 [ex_i y2dy, ex_i y2sr, ex_i y2il, ex_r (sk 2 1), ex_r (sk 2 2), ex_r (sk 2 3)]), ((sk 2 1), ex_a 1 6 y2fu), ((sk 2 2), ex_a 1 6 y2ae), (c, ex_o 0 [ex_r c0, ex_r c1, ex_r c2, ex_r c3, ex_r c4, ex_r c5, ex_r c6, ex_r c7, ex_r c8, ex_r c9, ex_r c10, ex_r c11, ex_r c12, ex_i (nI np), ex_i (nI nd), ex_i sto, ex_i res, ex_r c17, ex_r c18, ex_r c19]), (c2, ex_a 1 6 hg), (c5, ex_a 1 6 sf), (c6, ex_a 1 6 st), (c17, ex_a 1 360 gf)] ∧ zr = some (ex_i (F_X7_feedsAll_2 ch y2dy y2fu y2ae np res hg sf st gf))) := by
  refine X_meth (by decide) (Nat.le_of_ble_eq_true rfl) ?_
  generalize hV : F_X7_feedsAll_2 ch y2dy y2fu y2ae np res hg sf st gf = V0
  have hV := hV.symm
  unfold F_X7_feedsAll_2 at hV
  try dsimp only at hV
  refine X_aload_n (j := 0) dX7_feedsAll_0 rfl rfl ?_
  refine X_get (j := 0) fo_X7_29 dX7_feedsAll_1 rfl rfl ?_
  refine X_iload_n (j := 2) dX7_feedsAll_4 rfl rfl ?_
  refine X_aald (j := 1) (v := (sk 2 0)) dX7_feedsAll_5 rfl (vin (by decide)) rfl (Or.inr rfl) ?_
  refine X_astore (lv' := [(4, ex_r (sk 2 0)), (0, ex_r pp), (1, ex_r c), (2, ex_i 2), (3, ex_i (nI ch))]) dX7_feedsAll_6 (Nat.le_of_ble_eq_true rfl) rfl ?_
  refine X_iconst (v := 0) dX7_feedsAll_8 (by decide) ?_
  refine X_istore (lv' := [(5, ex_i 0), (4, ex_r (sk 2 0)), (0, ex_r pp), (1, ex_r c), (2, ex_i 2), (3, ex_i (nI ch))]) dX7_feedsAll_9 (Nat.le_of_ble_eq_true rfl) rfl ?_
  -- loop at 11
  have hL11 := hV
  try dsimp only at hL11
  refine X_ind (fun (a11 : Nat) => V0 = F_X7_feedsAll_2_L11 ch y2dy y2fu y2ae res hg sf st gf (np - a11) a11 ∧ a11 ≤ np) (fun (a11 : Nat) => np - a11) (fun (a11 : Nat) => [(pp, ex_o 7 [ex_i pls, ex_i pfi, ex_i (nI pbe), ex_i ptr, ex_i (nI pdy), ex_r p6]), (p6, ex_q 5 4 (fun j => some (sk j 0))), ((sk 2 0), ex_o 8 [ex_i y2dy, ex_i y2sr, ex_i y2il, ex_r (sk 2 1), ex_r (sk 2 2), ex_r (sk 2 3)]), ((sk 2 1), ex_a 1 6 y2fu), ((sk 2 2), ex_a 1 6 y2ae), (c, ex_o 0 [ex_r c0, ex_r c1, ex_r c2, ex_r c3, ex_r c4, ex_r c5, ex_r c6, ex_r c7, ex_r c8, ex_r c9, ex_r c10, ex_r c11, ex_r c12, ex_i (nI np), ex_i (nI nd), ex_i sto, ex_i res, ex_r c17, ex_r c18, ex_r c19]), (c2, ex_a 1 6 hg), (c5, ex_a 1 6 sf), (c6, ex_a 1 6 st), (c17, ex_a 1 360 gf)]) (fun (a11 : Nat) => [(5, ex_i (nI a11)), (4, ex_r (sk 2 0)), (0, ex_r pp), (1, ex_r c), (2, ex_i 2), (3, ex_i (nI ch))]) (fun k11 hI11 ih11 => ?_) 0 ⟨hL11, (by omega)⟩
  try dsimp only at hI11 ih11 ⊢
  have ihc11 : ∀ (k11_ : Nat), (V0 = F_X7_feedsAll_2_L11 ch y2dy y2fu y2ae res hg sf st gf (np - k11_) k11_ ∧ k11_ ≤ np) → (np - k11_) < (np - k11) → ex_O _ _ _ _ _ _ _ _ _ [(pp, ex_o 7 [ex_i pls, ex_i pfi, ex_i (nI pbe), ex_i ptr, ex_i (nI pdy), ex_r p6]), (p6, ex_q 5 4 (fun j => some (sk j 0))), ((sk 2 0), ex_o 8 [ex_i y2dy, ex_i y2sr, ex_i y2il, ex_r (sk 2 1), ex_r (sk 2 2), ex_r (sk 2 3)]), ((sk 2 1), ex_a 1 6 y2fu), ((sk 2 2), ex_a 1 6 y2ae), (c, ex_o 0 [ex_r c0, ex_r c1, ex_r c2, ex_r c3, ex_r c4, ex_r c5, ex_r c6, ex_r c7, ex_r c8, ex_r c9, ex_r c10, ex_r c11, ex_r c12, ex_i (nI np), ex_i (nI nd), ex_i sto, ex_i res, ex_r c17, ex_r c18, ex_r c19]), (c2, ex_a 1 6 hg), (c5, ex_a 1 6 sf), (c6, ex_a 1 6 st), (c17, ex_a 1 360 gf)] [(5, ex_i (nI k11_)), (4, ex_r (sk 2 0)), (0, ex_r pp), (1, ex_r c), (2, ex_i 2), (3, ex_i (nI ch))] _ _ := fun k11_ hi_ hm_ => ih11 k11_ hi_ hm_
  have hL11 := hI11.1
  have hb11 := hI11.2
  refine X_iload (j := 0) dX7_feedsAll_11 rfl ?_
  refine X_aload_n (j := 3) dX7_feedsAll_13 rfl rfl ?_
  refine X_get (j := 5) fo_X7_67 dX7_feedsAll_14 rfl rfl ?_
  refine X_icmp_ge (tgt := 99) dX7_feedsAll_17 (by decide) (fun c_1 => ?_) (fun c_1 => ?_)
  · have hlt11 : k11 = np := nlex (L := np) (by omega) hb11 c_1
    rw [show np - k11 = 0 by omega] at hL11
    have hL11 := hL11.trans (F_X7_feedsAll_2_L11_z ..)
    refine X_iconst (v := 1) dX7_feedsAll_99 (by decide) ?_
    try dsimp only at hL11
    exact X_iret ex_nZ rfl dX7_feedsAll_100 (by (repeat refine ex_kc ?_) <;> rfl) (by subst hL11; exact ⟨rfl, rfl⟩)
  · have hlt11 : k11 < np := nlen (L := np) (by omega) hb11 c_1
    rw [show np - k11 = (np - (k11 + 1)) + 1 by omega] at hL11
    have hL11 := hL11.trans (F_X7_feedsAll_2_L11_s ..)
    refine X_aload (j := 1) dX7_feedsAll_20 rfl ?_
    refine X_get (j := 2) fo_X7_85 dX7_feedsAll_22 rfl rfl ?_
    refine X_iload (j := 0) dX7_feedsAll_25 rfl ?_
    refine X_iald (j := 3) (v := (y2fu k11)) dX7_feedsAll_27 rfl (vp_in_nI (show k11 < 6 by omega) (by decide)) (by rw [nI_clamp (by omega)]) ?_
    refine X_aload_n (j := 3) dX7_feedsAll_28 rfl rfl ?_
    refine X_get (j := 5) fo_X7_89 dX7_feedsAll_29 rfl rfl ?_
    refine X_iload (j := 0) dX7_feedsAll_32 rfl ?_
    refine X_iald (j := 6) (v := (hg k11)) dX7_feedsAll_34 rfl (vp_in_nI (show k11 < 6 by omega) (by decide)) (by rw [nI_clamp (by omega)]) ?_
    refine X_icmp_ge (tgt := 93) dX7_feedsAll_35 (by decide) (fun c_2 => ?_) (fun c_2 => ?_)
    · have hL11 := hL11.trans (if_pos c_2)
      refine X_iinc (v := nI (k11 + 1)) (j := 0) (lv' := [(5, ex_i (nI (k11 + 1))), (4, ex_r (sk 2 0)), (0, ex_r pp), (1, ex_r c), (2, ex_i 2), (3, ex_i (nI ch))]) dX7_feedsAll_93 rfl (nI_add k11 1) (Nat.le_of_ble_eq_true rfl) rfl ?_
      refine X_goto (tgt := 11) dX7_feedsAll_96 (by decide) ?_
      try dsimp only at hL11
      exact ihc11 (k11 + 1) ⟨hL11, (show (k11 + 1) ≤ np by omega)⟩ (show np - (k11 + 1) < np - k11 by omega)
    · have hL11 := hL11.trans (if_neg c_2)
      refine X_iload_n (j := 5) dX7_feedsAll_38 rfl rfl ?_
      refine X_bipush (v := 60) dX7_feedsAll_39 (by decide) ?_
      refine X_icmp_ne (tgt := 48) dX7_feedsAll_41 (by decide) (fun c_3 => ?_) (fun c_3 => ?_)
      · have hL11 := hL11.trans (if_neg c_3)
        have hc60 : ch < 60 := ne60 hch c_3
        have hea : F_X7_eaterOf ch < 6 := ea_lt hc60
        have hdi : F_X7_dishOf ch < 5 := di_lt ch
        refine X_aload (j := 1) dX7_feedsAll_48 rfl ?_
        refine X_aload_n (j := 3) dX7_feedsAll_50 rfl rfl ?_
        refine X_iload_n (j := 5) dX7_feedsAll_51 rfl rfl ?_
        refine X_callS (rest := [(pp, ex_o 7 [ex_i pls, ex_i pfi, ex_i (nI pbe), ex_i ptr, ex_i (nI pdy), ex_r p6]), (p6, ex_q 5 4 (fun j => some (sk j 0))), ((sk 2 0), ex_o 8 [ex_i y2dy, ex_i y2sr, ex_i y2il, ex_r (sk 2 1), ex_r (sk 2 2), ex_r (sk 2 3)]), ((sk 2 1), ex_a 1 6 y2fu), ((sk 2 2), ex_a 1 6 y2ae), (c, ex_o 0 [ex_r c0, ex_r c1, ex_r c2, ex_r c3, ex_r c4, ex_r c5, ex_r c6, ex_r c7, ex_r c8, ex_r c9, ex_r c10, ex_r c11, ex_r c12, ex_i (nI np), ex_i (nI nd), ex_i sto, ex_i res, ex_r c17, ex_r c18, ex_r c19]), (c2, ex_a 1 6 hg), (c5, ex_a 1 6 sf), (c6, ex_a 1 6 st), (c17, ex_a 1 360 gf)]) (stk := [ex_r c, ex_r (sk 2 0)]) co_X7_60 rfl ⟨(Nat.le_of_ble_eq_true rfl), (Nat.le_of_ble_eq_true rfl)⟩ (e_X7_eaterOf l ch (by first | assumption | omega)) dX7_feedsAll_52 [0, 1, 2, 3, 4, 5, 6, 7, 8, 9] (show List.Perm [0, 1, 2, 3, 4, 5, 6, 7, 8, 9] (List.range 10) from by decide) rfl rfl rfl (Nat.le_of_ble_eq_true rfl) (fun zc1 zr hq hk => ?_)
        obtain ⟨rfl, rfl⟩ := hq
        refine X_iload_n (j := 5) dX7_feedsAll_55 rfl rfl ?_
        refine X_callS (rest := [(pp, ex_o 7 [ex_i pls, ex_i pfi, ex_i (nI pbe), ex_i ptr, ex_i (nI pdy), ex_r p6]), (p6, ex_q 5 4 (fun j => some (sk j 0))), ((sk 2 0), ex_o 8 [ex_i y2dy, ex_i y2sr, ex_i y2il, ex_r (sk 2 1), ex_r (sk 2 2), ex_r (sk 2 3)]), ((sk 2 1), ex_a 1 6 y2fu), ((sk 2 2), ex_a 1 6 y2ae), (c, ex_o 0 [ex_r c0, ex_r c1, ex_r c2, ex_r c3, ex_r c4, ex_r c5, ex_r c6, ex_r c7, ex_r c8, ex_r c9, ex_r c10, ex_r c11, ex_r c12, ex_i (nI np), ex_i (nI nd), ex_i sto, ex_i res, ex_r c17, ex_r c18, ex_r c19]), (c2, ex_a 1 6 hg), (c5, ex_a 1 6 sf), (c6, ex_a 1 6 st), (c17, ex_a 1 360 gf)]) (stk := [ex_i (nI (F_X7_eaterOf ch)), ex_r c, ex_r (sk 2 0)]) co_X7_64 rfl ⟨(Nat.le_of_ble_eq_true rfl), (Nat.le_of_ble_eq_true rfl)⟩ (e_X7_dishOf l ch (by first | assumption | omega)) dX7_feedsAll_56 [0, 1, 2, 3, 4, 5, 6, 7, 8, 9] (show List.Perm [0, 1, 2, 3, 4, 5, 6, 7, 8, 9] (List.range 10) from by decide) rfl rfl rfl (Nat.le_of_ble_eq_true rfl) (fun zc1 zr hq hk => ?_)
        obtain ⟨rfl, rfl⟩ := hq
        refine X_iload_n (j := 5) dX7_feedsAll_59 rfl rfl ?_
        refine X_callS (rest := [(pp, ex_o 7 [ex_i pls, ex_i pfi, ex_i (nI pbe), ex_i ptr, ex_i (nI pdy), ex_r p6]), (p6, ex_q 5 4 (fun j => some (sk j 0))), ((sk 2 0), ex_o 8 [ex_i y2dy, ex_i y2sr, ex_i y2il, ex_r (sk 2 1), ex_r (sk 2 2), ex_r (sk 2 3)]), ((sk 2 1), ex_a 1 6 y2fu), ((sk 2 2), ex_a 1 6 y2ae), (c, ex_o 0 [ex_r c0, ex_r c1, ex_r c2, ex_r c3, ex_r c4, ex_r c5, ex_r c6, ex_r c7, ex_r c8, ex_r c9, ex_r c10, ex_r c11, ex_r c12, ex_i (nI np), ex_i (nI nd), ex_i sto, ex_i res, ex_r c17, ex_r c18, ex_r c19]), (c2, ex_a 1 6 hg), (c5, ex_a 1 6 sf), (c6, ex_a 1 6 st), (c17, ex_a 1 360 gf)]) (stk := [ex_i (nI (F_X7_dishOf ch)), ex_i (nI (F_X7_eaterOf ch)), ex_r c, ex_r (sk 2 0)]) co_X7_92 rfl ⟨(Nat.le_of_ble_eq_true rfl), (Nat.le_of_ble_eq_true rfl)⟩ (e_X7_isSlow l ch (by first | assumption | omega)) dX7_feedsAll_60 [0, 1, 2, 3, 4, 5, 6, 7, 8, 9] (show List.Perm [0, 1, 2, 3, 4, 5, 6, 7, 8, 9] (List.range 10) from by decide) rfl rfl rfl (Nat.le_of_ble_eq_true rfl) (fun zc1 zr hq hk => ?_)
        obtain ⟨rfl, rfl⟩ := hq
        refine X_iload (j := 0) dX7_feedsAll_63 rfl ?_
        refine X_callV (j0 := 0) (rest := [(pp, ex_o 7 [ex_i pls, ex_i pfi, ex_i (nI pbe), ex_i ptr, ex_i (nI pdy), ex_r p6]), (p6, ex_q 5 4 (fun j => some (sk j 0))), ((sk 2 1), ex_a 1 6 y2fu), (c2, ex_a 1 6 hg)]) (stk := []) co_X7_96 rfl ⟨(Nat.le_of_ble_eq_true rfl), (Nat.le_of_ble_eq_true rfl)⟩ (e_X8_gain l (sk 2 0) c (F_X7_eaterOf ch) (F_X7_dishOf ch) (F_X7_isSlow ch) k11 y2dy y2sr y2il (sk 2 1) (sk 2 2) (sk 2 3) y2ae c0 c1 c2 c3 c4 c5 c6 c7 c8 c9 c10 c11 c12 np nd sto res c17 c18 c19 sf st gf (by first | assumption | omega) (by first | assumption | omega) (by first | assumption | omega)) dX7_feedsAll_65 [2, 4, 5, 7, 8, 9, 0, 1, 3, 6] (show List.Perm [2, 4, 5, 7, 8, 9, 0, 1, 3, 6] (List.range 10) from by decide) rfl rfl rfl rfl (Nat.le_of_ble_eq_true rfl) (fun zc1 zr hq hk => ?_)
        obtain ⟨rfl, rfl⟩ := hq
        refine X_istore (lv' := [(6, ex_i (F_X8_gain (F_X7_eaterOf ch) (F_X7_dishOf ch) (F_X7_isSlow ch) k11 y2dy y2ae res sf st gf)), (5, ex_i (nI k11)), (4, ex_r (sk 2 0)), (0, ex_r pp), (1, ex_r c), (2, ex_i 2), (3, ex_i (nI ch))]) dX7_feedsAll_68 (Nat.le_of_ble_eq_true rfl) rfl ?_
        refine X_aload (j := 2) dX7_feedsAll_70 rfl ?_
        refine X_get (j := 0) fo_X7_85 dX7_feedsAll_72 rfl rfl ?_
        refine X_iload (j := 1) dX7_feedsAll_75 rfl ?_
        refine X_iald (j := 8) (v := (y2fu k11)) dX7_feedsAll_77 rfl (vp_in_nI (show k11 < 6 by omega) (by decide)) (by rw [nI_clamp (by omega)]) ?_
        refine X_iload (j := 0) dX7_feedsAll_78 rfl ?_
        refine X_iadd (v := ((y2fu k11) + (F_X8_gain (F_X7_eaterOf ch) (F_X7_dishOf ch) (F_X7_isSlow ch) k11 y2dy y2ae res sf st gf))) dX7_feedsAll_80 rfl ?_
        refine X_aload_n (j := 4) dX7_feedsAll_81 rfl rfl ?_
        refine X_get (j := 2) fo_X7_89 dX7_feedsAll_82 rfl rfl ?_
        refine X_iload (j := 1) dX7_feedsAll_85 rfl ?_
        refine X_iald (j := 9) (v := (hg k11)) dX7_feedsAll_87 rfl (vp_in_nI (show k11 < 6 by omega) (by decide)) (by rw [nI_clamp (by omega)]) ?_
        refine X_icmp_ge (tgt := 93) dX7_feedsAll_88 (by decide) (fun c_4 => ?_) (fun c_4 => ?_)
        · have hL11 := hL11.trans (if_pos c_4)
          refine X_iinc (v := nI (k11 + 1)) (j := 1) (lv' := [(5, ex_i (nI (k11 + 1))), (6, ex_i (F_X8_gain (F_X7_eaterOf ch) (F_X7_dishOf ch) (F_X7_isSlow ch) k11 y2dy y2ae res sf st gf)), (4, ex_r (sk 2 0)), (0, ex_r pp), (1, ex_r c), (2, ex_i 2), (3, ex_i (nI ch))]) dX7_feedsAll_93 rfl (nI_add k11 1) (Nat.le_of_ble_eq_true rfl) rfl ?_
          refine X_goto (tgt := 11) dX7_feedsAll_96 (by decide) ?_
          try dsimp only at hL11
          refine X_re (cs' := [(pp, ex_o 7 [ex_i pls, ex_i pfi, ex_i (nI pbe), ex_i ptr, ex_i (nI pdy), ex_r p6]), (p6, ex_q 5 4 (fun j => some (sk j 0))), ((sk 2 0), ex_o 8 [ex_i y2dy, ex_i y2sr, ex_i y2il, ex_r (sk 2 1), ex_r (sk 2 2), ex_r (sk 2 3)]), ((sk 2 1), ex_a 1 6 y2fu), ((sk 2 2), ex_a 1 6 y2ae), (c, ex_o 0 [ex_r c0, ex_r c1, ex_r c2, ex_r c3, ex_r c4, ex_r c5, ex_r c6, ex_r c7, ex_r c8, ex_r c9, ex_r c10, ex_r c11, ex_r c12, ex_i (nI np), ex_i (nI nd), ex_i sto, ex_i res, ex_r c17, ex_r c18, ex_r c19]), (c2, ex_a 1 6 hg), (c5, ex_a 1 6 sf), (c6, ex_a 1 6 st), (c17, ex_a 1 360 gf)]) [6, 7, 0, 8, 1, 2, 9, 3, 4, 5] (show List.Perm [6, 7, 0, 8, 1, 2, 9, 3, 4, 5] (List.range 10) from by decide) rfl ?_
          refine X_lv (lv' := [(5, ex_i (nI (k11 + 1))), (4, ex_r (sk 2 0)), (0, ex_r pp), (1, ex_r c), (2, ex_i 2), (3, ex_i (nI ch))]) [0, 2, 3, 4, 5, 6] rfl ?_
          exact ihc11 (k11 + 1) ⟨hL11, (show (k11 + 1) ≤ np by omega)⟩ (show np - (k11 + 1) < np - k11 by omega)
        · have hL11 := hL11.trans (if_neg c_4)
          refine X_iconst (v := 0) dX7_feedsAll_91 (by decide) ?_
          try dsimp only at hL11
          refine X_re (cs' := [(pp, ex_o 7 [ex_i pls, ex_i pfi, ex_i (nI pbe), ex_i ptr, ex_i (nI pdy), ex_r p6]), (p6, ex_q 5 4 (fun j => some (sk j 0))), ((sk 2 0), ex_o 8 [ex_i y2dy, ex_i y2sr, ex_i y2il, ex_r (sk 2 1), ex_r (sk 2 2), ex_r (sk 2 3)]), ((sk 2 1), ex_a 1 6 y2fu), ((sk 2 2), ex_a 1 6 y2ae), (c, ex_o 0 [ex_r c0, ex_r c1, ex_r c2, ex_r c3, ex_r c4, ex_r c5, ex_r c6, ex_r c7, ex_r c8, ex_r c9, ex_r c10, ex_r c11, ex_r c12, ex_i (nI np), ex_i (nI nd), ex_i sto, ex_i res, ex_r c17, ex_r c18, ex_r c19]), (c2, ex_a 1 6 hg), (c5, ex_a 1 6 sf), (c6, ex_a 1 6 st), (c17, ex_a 1 360 gf)]) [6, 7, 0, 8, 1, 2, 9, 3, 4, 5] (show List.Perm [6, 7, 0, 8, 1, 2, 9, 3, 4, 5] (List.range 10) from by decide) rfl ?_
          exact X_iret ex_nZ rfl dX7_feedsAll_92 (by (repeat refine ex_kc ?_) <;> rfl) (by subst hL11; exact ⟨rfl, rfl⟩)
      · have hL11 := hL11.trans (if_pos c_3)
        refine X_iconst (v := 0) dX7_feedsAll_44 (by decide) ?_
        refine X_goto (tgt := 68) dX7_feedsAll_45 (by decide) ?_
        refine X_istore (lv' := [(6, ex_i 0), (5, ex_i (nI k11)), (4, ex_r (sk 2 0)), (0, ex_r pp), (1, ex_r c), (2, ex_i 2), (3, ex_i (nI ch))]) dX7_feedsAll_68 (Nat.le_of_ble_eq_true rfl) rfl ?_
        refine X_aload (j := 2) dX7_feedsAll_70 rfl ?_
        refine X_get (j := 2) fo_X7_85 dX7_feedsAll_72 rfl rfl ?_
        refine X_iload (j := 1) dX7_feedsAll_75 rfl ?_
        refine X_iald (j := 3) (v := (y2fu k11)) dX7_feedsAll_77 rfl (vp_in_nI (show k11 < 6 by omega) (by decide)) (by rw [nI_clamp (by omega)]) ?_
        refine X_iload (j := 0) dX7_feedsAll_78 rfl ?_
        refine X_iadd (v := ((y2fu k11) + 0)) dX7_feedsAll_80 rfl ?_
        refine X_aload_n (j := 4) dX7_feedsAll_81 rfl rfl ?_
        refine X_get (j := 5) fo_X7_89 dX7_feedsAll_82 rfl rfl ?_
        refine X_iload (j := 1) dX7_feedsAll_85 rfl ?_
        refine X_iald (j := 6) (v := (hg k11)) dX7_feedsAll_87 rfl (vp_in_nI (show k11 < 6 by omega) (by decide)) (by rw [nI_clamp (by omega)]) ?_
        refine X_icmp_ge (tgt := 93) dX7_feedsAll_88 (by decide) (fun c_5 => ?_) (fun c_5 => ?_)
        · have hL11 := hL11.trans (if_pos c_5)
          refine X_iinc (v := nI (k11 + 1)) (j := 1) (lv' := [(5, ex_i (nI (k11 + 1))), (6, ex_i 0), (4, ex_r (sk 2 0)), (0, ex_r pp), (1, ex_r c), (2, ex_i 2), (3, ex_i (nI ch))]) dX7_feedsAll_93 rfl (nI_add k11 1) (Nat.le_of_ble_eq_true rfl) rfl ?_
          refine X_goto (tgt := 11) dX7_feedsAll_96 (by decide) ?_
          try dsimp only at hL11
          refine X_lv (lv' := [(5, ex_i (nI (k11 + 1))), (4, ex_r (sk 2 0)), (0, ex_r pp), (1, ex_r c), (2, ex_i 2), (3, ex_i (nI ch))]) [0, 2, 3, 4, 5, 6] rfl ?_
          exact ihc11 (k11 + 1) ⟨hL11, (show (k11 + 1) ≤ np by omega)⟩ (show np - (k11 + 1) < np - k11 by omega)
        · have hL11 := hL11.trans (if_neg c_5)
          refine X_iconst (v := 0) dX7_feedsAll_91 (by decide) ?_
          try dsimp only at hL11
          exact X_iret ex_nZ rfl dX7_feedsAll_92 (by (repeat refine ex_kc ?_) <;> rfl) (by subst hL11; exact ⟨rfl, rfl⟩)

def F_X7_chooses_2 (ch : Nat) (y2dy : Int32) (y2sr : Int32) (y2il : Int32) (y2fu : Nat → Int32) (y2ae : Nat → Int32) (y2hu : Nat → Int32) (y3fu : Nat → Int32) (y3ae : Nat → Int32) (y3hu : Nat → Int32) (np : Nat) (res : Int32) (kd : Nat → Int32) (hg : Nat → Int32) (sf : Nat → Int32) (st : Nat → Int32) (co : Nat → Int32) (gf : Nat → Int32) : Int32 × Int32 × Int32 × (Nat → Int32) × (Nat → Int32) × (Nat → Int32) := ((fun (w_1 : Int32 × Int32 × Int32 × (Nat → Int32) × (Nat → Int32) × (Nat → Int32)) => (if (nI ch) = 60 then ((fun (w_3 : Int32 × (Nat → Int32) × (Nat → Int32) × Int32) => (w_3.1, w_1.2.1, w_1.2.2.1, w_3.2.1, w_1.2.2.2.2.1, w_3.2.2.1)) (F_X8_endsDay w_1.1 w_1.2.2.2.1 w_1.2.2.2.2.2 np hg)) else ((fun (w_4 : Int32 × Int32 × (Nat → Int32) × (Nat → Int32) × Int32) => ((fun (w_5 : Int32 × (Nat → Int32) × (Nat → Int32) × Int32) => (w_5.1, w_4.1, w_4.2.1, w_5.2.1, w_4.2.2.2.1, w_5.2.2.1)) (F_X8_endsDay w_1.1 w_4.2.2.1 w_1.2.2.2.2.2 np hg))) (F_X8_takesMeal (F_X7_eaterOf ch) (F_X7_dishOf ch) (F_X7_isSlow ch) w_1.1 w_1.2.1 w_1.2.2.1 w_1.2.2.2.1 w_1.2.2.2.2.1 np res kd sf st co gf)))) (F_X8_copies y3fu y3ae y3hu y2dy y2sr y2il y2fu y2ae y2hu))
set_option maxHeartbeats 4000000 in
set_option maxRecDepth 100000 in
theorem e_X7_chooses_2 (l : Launch) (pp : Nat) (c : Nat) (ch : Nat) (pls : Int32) (pfi : Int32) (pbe : Nat) (ptr : Int32) (pdy : Nat) (p6 : Nat) (sk : Nat → Nat → Nat) (y2dy : Int32) (y2sr : Int32) (y2il : Int32) (y2fu : Nat → Int32) (y2ae : Nat → Int32) (y2hu : Nat → Int32) (y3dy : Int32) (y3sr : Int32) (y3il : Int32) (y3fu : Nat → Int32) (y3ae : Nat → Int32) (y3hu : Nat → Int32) (c0 : Nat) (c1 : Nat) (c2 : Nat) (c3 : Nat) (c4 : Nat) (c5 : Nat) (c6 : Nat) (c7 : Nat) (c8 : Nat) (c9 : Nat) (c10 : Nat) (c11 : Nat) (c12 : Nat) (np : Nat) (nd : Nat) (sto : Int32) (res : Int32) (c17 : Nat) (c18 : Nat) (c19 : Nat) (kd : Nat → Int32) (hg : Nat → Int32) (sf : Nat → Int32) (st : Nat → Int32) (co : Nat → Int32) (gf : Nat → Int32) (hch : ch < 61) (hnp : np ≤ 6) : ex_M l yX7_chooses cX7_chooses 5 none 4 97 [ex_r pp, ex_r c, ex_i 2, ex_i (nI ch)] [(pp, ex_o 7 [ex_i pls, ex_i pfi, ex_i (nI pbe), ex_i ptr, ex_i (nI pdy), ex_r p6]), (p6, ex_q 5 4 (fun j => some (sk j 0))), ((sk 2 0), ex_o 8 [ex_i y2dy, ex_i y2sr, ex_i y2il, ex_r (sk 2 1), ex_r (sk 2 2), ex_r (sk 2 3)]), ((sk 2 1), ex_a 1 6 y2fu), ((sk 2 2), ex_a 1 6 y2ae), ((sk 2 3), ex_a 1 6 y2hu), ((sk 3 0), ex_o 8 [ex_i y3dy, ex_i y3sr, ex_i y3il, ex_r (sk 3 1), ex_r (sk 3 2), ex_r (sk 3 3)]), ((sk 3 1), ex_a 1 6 y3fu), ((sk 3 2), ex_a 1 6 y3ae), ((sk 3 3), ex_a 1 6 y3hu), (c, ex_o 0 [ex_r c0, ex_r c1, ex_r c2, ex_r c3, ex_r c4, ex_r c5, ex_r c6, ex_r c7, ex_r c8, ex_r c9, ex_r c10, ex_r c11, ex_r c12, ex_i (nI np), ex_i (nI nd), ex_i sto, ex_i res, ex_r c17, ex_r c18, ex_r c19]), (c1, ex_a 1 6 kd), (c2, ex_a 1 6 hg), (c5, ex_a 1 6 sf), (c6, ex_a 1 6 st), (c11, ex_a 1 5 co), (c17, ex_a 1 360 gf)] (fun zcs zr => zcs = [(pp, ex_o 7 [ex_i pls, ex_i pfi, ex_i (nI pbe), ex_i ptr, ex_i (nI pdy), ex_r p6]), (p6, ex_q 5 4 (fun j => some (sk j 0))), ((sk 2 0), ex_o 8 [ex_i y2dy, ex_i y2sr, ex_i y2il, ex_r (sk 2 1), ex_r (sk 2 2), ex_r (sk 2 3)]), ((sk 2 1), ex_a 1 6 y2fu), ((sk 2 2), ex_a 1 6 y2ae), ((sk 2 3), ex_a 1 6 y2hu), ((sk 3 0), ex_o 8 [ex_i ((F_X7_chooses_2 ch y2dy y2sr y2il y2fu y2ae y2hu y3fu y3ae y3hu np res kd hg sf st co gf).1), ex_i ((F_X7_chooses_2 ch y2dy y2sr y2il y2fu y2ae y2hu y3fu y3ae y3hu np res kd hg sf st co gf).2.1), ex_i ((F_X7_chooses_2 ch y2dy y2sr y2il y2fu y2ae y2hu y3fu y3ae y3hu np res kd hg sf st co gf).2.2.1), ex_r (sk 3 1), ex_r (sk 3 2), ex_r (sk 3 3)]), ((sk 3 1), ex_a 1 6 ((F_X7_chooses_2 ch y2dy y2sr y2il y2fu y2ae y2hu y3fu y3ae y3hu np res kd hg sf st co gf).2.2.2.1)), ((sk 3 2), ex_a 1 6 ((F_X7_chooses_2 ch y2dy y2sr y2il y2fu y2ae y2hu y3fu y3ae y3hu np res kd hg sf st co gf).2.2.2.2.1)), ((sk 3 3), ex_a 1 6 ((F_X7_chooses_2 ch y2dy y2sr y2il y2fu y2ae y2hu y3fu y3ae y3hu np res kd hg sf st co gf).2.2.2.2.2)), (c, ex_o 0 [ex_r c0, ex_r c1, ex_r c2, ex_r c3, ex_r c4, ex_r c5, ex_r c6, ex_r c7, ex_r c8, ex_r c9, ex_r c10, ex_r c11, ex_r c12, ex_i (nI np), ex_i (nI nd), ex_i sto, ex_i res, ex_r c17, ex_r c18, ex_r c19]), (c1, ex_a 1 6 kd), (c2, ex_a 1 6 hg), (c5, ex_a 1 6 sf), (c6, ex_a 1 6 st), (c11, ex_a 1 5 co), (c17, ex_a 1 360 gf)] ∧ zr = none) := by
  refine X_meth (by decide) (Nat.le_of_ble_eq_true rfl) ?_
  generalize hV : F_X7_chooses_2 ch y2dy y2sr y2il y2fu y2ae y2hu y3fu y3ae y3hu np res kd hg sf st co gf = V0
  have hV := hV.symm
  unfold F_X7_chooses_2 at hV
  try dsimp only at hV
  refine X_aload_n (j := 0) dX7_chooses_0 rfl rfl ?_
  refine X_get (j := 0) fo_X7_29 dX7_chooses_1 rfl rfl ?_
  refine X_iload_n (j := 2) dX7_chooses_4 rfl rfl ?_
  refine X_iconst (v := 1) dX7_chooses_5 (by decide) ?_
  refine X_iadd (v := 3) dX7_chooses_6 (by decide) ?_
  refine X_aald (j := 1) (v := (sk 3 0)) dX7_chooses_7 rfl (vin (by decide)) rfl (Or.inr rfl) ?_
  refine X_astore (lv' := [(4, ex_r (sk 3 0)), (0, ex_r pp), (1, ex_r c), (2, ex_i 2), (3, ex_i (nI ch))]) dX7_chooses_8 (Nat.le_of_ble_eq_true rfl) rfl ?_
  refine X_aload (j := 0) dX7_chooses_10 rfl ?_
  refine X_aload_n (j := 1) dX7_chooses_12 rfl rfl ?_
  refine X_get (j := 0) fo_X7_29 dX7_chooses_13 rfl rfl ?_
  refine X_iload_n (j := 3) dX7_chooses_16 rfl rfl ?_
  refine X_aald (j := 1) (v := (sk 2 0)) dX7_chooses_17 rfl (vin (by decide)) rfl (Or.inr rfl) ?_
  refine X_callV (j0 := 0) (rest := [(pp, ex_o 7 [ex_i pls, ex_i pfi, ex_i (nI pbe), ex_i ptr, ex_i (nI pdy), ex_r p6]), (p6, ex_q 5 4 (fun j => some (sk j 0))), (c, ex_o 0 [ex_r c0, ex_r c1, ex_r c2, ex_r c3, ex_r c4, ex_r c5, ex_r c6, ex_r c7, ex_r c8, ex_r c9, ex_r c10, ex_r c11, ex_r c12, ex_i (nI np), ex_i (nI nd), ex_i sto, ex_i res, ex_r c17, ex_r c18, ex_r c19]), (c1, ex_a 1 6 kd), (c2, ex_a 1 6 hg), (c5, ex_a 1 6 sf), (c6, ex_a 1 6 st), (c11, ex_a 1 5 co), (c17, ex_a 1 360 gf)]) (stk := []) co_X7_41 rfl ⟨(Nat.le_of_ble_eq_true rfl), (Nat.le_of_ble_eq_true rfl)⟩ (e_X8_copies l (sk 3 0) (sk 2 0) y3dy y3sr y3il (sk 3 1) (sk 3 2) (sk 3 3) y3fu y3ae y3hu y2dy y2sr y2il (sk 2 1) (sk 2 2) (sk 2 3) y2fu y2ae y2hu) dX7_chooses_18 [6, 7, 8, 9, 2, 3, 4, 5, 0, 1, 10, 11, 12, 13, 14, 15, 16] (show List.Perm [6, 7, 8, 9, 2, 3, 4, 5, 0, 1, 10, 11, 12, 13, 14, 15, 16] (List.range 17) from by decide) rfl rfl rfl rfl (Nat.le_of_ble_eq_true rfl) (fun zc1 zr hq hk => ?_)
  obtain ⟨rfl, rfl⟩ := hq
  try dsimp only at hV
  generalize hq_w_1 : F_X8_copies y3fu y3ae y3hu y2dy y2sr y2il y2fu y2ae y2hu = w_1 at hV ⊢
  try dsimp only at hV
  refine X_iload_n (j := 4) dX7_chooses_21 rfl rfl ?_
  refine X_bipush (v := 60) dX7_chooses_22 (by decide) ?_
  refine X_icmp_eq (tgt := 46) dX7_chooses_24 (by decide) (fun c_2 => ?_) (fun c_2 => ?_)
  · have hV := hV.trans (if_pos c_2)
    refine X_aload (j := 0) dX7_chooses_46 rfl ?_
    refine X_aload_n (j := 2) dX7_chooses_48 rfl rfl ?_
    refine X_callV (j0 := 0) (rest := [((sk 3 2), ex_a 1 6 w_1.2.2.2.2.1), ((sk 2 0), ex_o 8 [ex_i y2dy, ex_i y2sr, ex_i y2il, ex_r (sk 2 1), ex_r (sk 2 2), ex_r (sk 2 3)]), ((sk 2 1), ex_a 1 6 y2fu), ((sk 2 2), ex_a 1 6 y2ae), ((sk 2 3), ex_a 1 6 y2hu), (pp, ex_o 7 [ex_i pls, ex_i pfi, ex_i (nI pbe), ex_i ptr, ex_i (nI pdy), ex_r p6]), (p6, ex_q 5 4 (fun j => some (sk j 0))), (c1, ex_a 1 6 kd), (c5, ex_a 1 6 sf), (c6, ex_a 1 6 st), (c11, ex_a 1 5 co), (c17, ex_a 1 360 gf)]) (stk := []) co_X7_104 rfl ⟨(Nat.le_of_ble_eq_true rfl), (Nat.le_of_ble_eq_true rfl)⟩ (e_X8_endsDay l (sk 3 0) c w_1.1 w_1.2.1 w_1.2.2.1 (sk 3 1) (sk 3 2) (sk 3 3) w_1.2.2.2.1 w_1.2.2.2.2.2 c0 c1 c2 c3 c4 c5 c6 c7 c8 c9 c10 c11 c12 np nd sto res c17 c18 c19 hg (by first | assumption | omega)) dX7_chooses_49 [0, 1, 3, 10, 12, 2, 4, 5, 6, 7, 8, 9, 11, 13, 14, 15, 16] (show List.Perm [0, 1, 3, 10, 12, 2, 4, 5, 6, 7, 8, 9, 11, 13, 14, 15, 16] (List.range 17) from by decide) rfl rfl rfl rfl (Nat.le_of_ble_eq_true rfl) (fun zc1 zr hq hk => ?_)
    obtain ⟨rfl, rfl⟩ := hq
    try dsimp only at hV
    generalize hq_w_3 : F_X8_endsDay w_1.1 w_1.2.2.2.1 w_1.2.2.2.2.2 np hg = w_3 at hV ⊢
    try dsimp only at hV
    refine X_pop dX7_chooses_52 rfl ?_
    try dsimp only at hV
    refine X_re (cs' := [(pp, ex_o 7 [ex_i pls, ex_i pfi, ex_i (nI pbe), ex_i ptr, ex_i (nI pdy), ex_r p6]), (p6, ex_q 5 4 (fun j => some (sk j 0))), ((sk 2 0), ex_o 8 [ex_i y2dy, ex_i y2sr, ex_i y2il, ex_r (sk 2 1), ex_r (sk 2 2), ex_r (sk 2 3)]), ((sk 2 1), ex_a 1 6 y2fu), ((sk 2 2), ex_a 1 6 y2ae), ((sk 2 3), ex_a 1 6 y2hu), ((sk 3 0), ex_o 8 [ex_i w_3.1, ex_i w_1.2.1, ex_i w_1.2.2.1, ex_r (sk 3 1), ex_r (sk 3 2), ex_r (sk 3 3)]), ((sk 3 1), ex_a 1 6 w_3.2.1), ((sk 3 2), ex_a 1 6 w_1.2.2.2.2.1), ((sk 3 3), ex_a 1 6 w_3.2.2.1), (c, ex_o 0 [ex_r c0, ex_r c1, ex_r c2, ex_r c3, ex_r c4, ex_r c5, ex_r c6, ex_r c7, ex_r c8, ex_r c9, ex_r c10, ex_r c11, ex_r c12, ex_i (nI np), ex_i (nI nd), ex_i sto, ex_i res, ex_r c17, ex_r c18, ex_r c19]), (c1, ex_a 1 6 kd), (c2, ex_a 1 6 hg), (c5, ex_a 1 6 sf), (c6, ex_a 1 6 st), (c11, ex_a 1 5 co), (c17, ex_a 1 360 gf)]) [10, 11, 6, 7, 8, 9, 0, 1, 5, 2, 3, 12, 4, 13, 14, 15, 16] (show List.Perm [10, 11, 6, 7, 8, 9, 0, 1, 5, 2, 3, 12, 4, 13, 14, 15, 16] (List.range 17) from by decide) rfl ?_
    exact X_vret dX7_chooses_53 (by (repeat refine ex_kc ?_) <;> rfl) (by subst hV; exact ⟨rfl, rfl⟩)
  · have hV := hV.trans (if_neg c_2)
    have hc60 : ch < 60 := ne60 hch c_2
    have hea : F_X7_eaterOf ch < 6 := ea_lt hc60
    have hdi : F_X7_dishOf ch < 5 := di_lt ch
    refine X_aload (j := 0) dX7_chooses_27 rfl ?_
    refine X_aload_n (j := 2) dX7_chooses_29 rfl rfl ?_
    refine X_iload_n (j := 4) dX7_chooses_30 rfl rfl ?_
    refine X_callS (rest := [((sk 3 0), ex_o 8 [ex_i w_1.1, ex_i w_1.2.1, ex_i w_1.2.2.1, ex_r (sk 3 1), ex_r (sk 3 2), ex_r (sk 3 3)]), ((sk 3 1), ex_a 1 6 w_1.2.2.2.1), ((sk 3 2), ex_a 1 6 w_1.2.2.2.2.1), ((sk 3 3), ex_a 1 6 w_1.2.2.2.2.2), ((sk 2 0), ex_o 8 [ex_i y2dy, ex_i y2sr, ex_i y2il, ex_r (sk 2 1), ex_r (sk 2 2), ex_r (sk 2 3)]), ((sk 2 1), ex_a 1 6 y2fu), ((sk 2 2), ex_a 1 6 y2ae), ((sk 2 3), ex_a 1 6 y2hu), (pp, ex_o 7 [ex_i pls, ex_i pfi, ex_i (nI pbe), ex_i ptr, ex_i (nI pdy), ex_r p6]), (p6, ex_q 5 4 (fun j => some (sk j 0))), (c, ex_o 0 [ex_r c0, ex_r c1, ex_r c2, ex_r c3, ex_r c4, ex_r c5, ex_r c6, ex_r c7, ex_r c8, ex_r c9, ex_r c10, ex_r c11, ex_r c12, ex_i (nI np), ex_i (nI nd), ex_i sto, ex_i res, ex_r c17, ex_r c18, ex_r c19]), (c1, ex_a 1 6 kd), (c2, ex_a 1 6 hg), (c5, ex_a 1 6 sf), (c6, ex_a 1 6 st), (c11, ex_a 1 5 co), (c17, ex_a 1 360 gf)]) (stk := [ex_r c, ex_r (sk 3 0)]) co_X7_60 rfl ⟨(Nat.le_of_ble_eq_true rfl), (Nat.le_of_ble_eq_true rfl)⟩ (e_X7_eaterOf l ch (by first | assumption | omega)) dX7_chooses_31 [0, 1, 2, 3, 4, 5, 6, 7, 8, 9, 10, 11, 12, 13, 14, 15, 16] (show List.Perm [0, 1, 2, 3, 4, 5, 6, 7, 8, 9, 10, 11, 12, 13, 14, 15, 16] (List.range 17) from by decide) rfl rfl rfl (Nat.le_of_ble_eq_true rfl) (fun zc1 zr hq hk => ?_)
    obtain ⟨rfl, rfl⟩ := hq
    refine X_iload_n (j := 4) dX7_chooses_34 rfl rfl ?_
    refine X_callS (rest := [((sk 3 0), ex_o 8 [ex_i w_1.1, ex_i w_1.2.1, ex_i w_1.2.2.1, ex_r (sk 3 1), ex_r (sk 3 2), ex_r (sk 3 3)]), ((sk 3 1), ex_a 1 6 w_1.2.2.2.1), ((sk 3 2), ex_a 1 6 w_1.2.2.2.2.1), ((sk 3 3), ex_a 1 6 w_1.2.2.2.2.2), ((sk 2 0), ex_o 8 [ex_i y2dy, ex_i y2sr, ex_i y2il, ex_r (sk 2 1), ex_r (sk 2 2), ex_r (sk 2 3)]), ((sk 2 1), ex_a 1 6 y2fu), ((sk 2 2), ex_a 1 6 y2ae), ((sk 2 3), ex_a 1 6 y2hu), (pp, ex_o 7 [ex_i pls, ex_i pfi, ex_i (nI pbe), ex_i ptr, ex_i (nI pdy), ex_r p6]), (p6, ex_q 5 4 (fun j => some (sk j 0))), (c, ex_o 0 [ex_r c0, ex_r c1, ex_r c2, ex_r c3, ex_r c4, ex_r c5, ex_r c6, ex_r c7, ex_r c8, ex_r c9, ex_r c10, ex_r c11, ex_r c12, ex_i (nI np), ex_i (nI nd), ex_i sto, ex_i res, ex_r c17, ex_r c18, ex_r c19]), (c1, ex_a 1 6 kd), (c2, ex_a 1 6 hg), (c5, ex_a 1 6 sf), (c6, ex_a 1 6 st), (c11, ex_a 1 5 co), (c17, ex_a 1 360 gf)]) (stk := [ex_i (nI (F_X7_eaterOf ch)), ex_r c, ex_r (sk 3 0)]) co_X7_64 rfl ⟨(Nat.le_of_ble_eq_true rfl), (Nat.le_of_ble_eq_true rfl)⟩ (e_X7_dishOf l ch (by first | assumption | omega)) dX7_chooses_35 [0, 1, 2, 3, 4, 5, 6, 7, 8, 9, 10, 11, 12, 13, 14, 15, 16] (show List.Perm [0, 1, 2, 3, 4, 5, 6, 7, 8, 9, 10, 11, 12, 13, 14, 15, 16] (List.range 17) from by decide) rfl rfl rfl (Nat.le_of_ble_eq_true rfl) (fun zc1 zr hq hk => ?_)
    obtain ⟨rfl, rfl⟩ := hq
    refine X_iload_n (j := 4) dX7_chooses_38 rfl rfl ?_
    refine X_callS (rest := [((sk 3 0), ex_o 8 [ex_i w_1.1, ex_i w_1.2.1, ex_i w_1.2.2.1, ex_r (sk 3 1), ex_r (sk 3 2), ex_r (sk 3 3)]), ((sk 3 1), ex_a 1 6 w_1.2.2.2.1), ((sk 3 2), ex_a 1 6 w_1.2.2.2.2.1), ((sk 3 3), ex_a 1 6 w_1.2.2.2.2.2), ((sk 2 0), ex_o 8 [ex_i y2dy, ex_i y2sr, ex_i y2il, ex_r (sk 2 1), ex_r (sk 2 2), ex_r (sk 2 3)]), ((sk 2 1), ex_a 1 6 y2fu), ((sk 2 2), ex_a 1 6 y2ae), ((sk 2 3), ex_a 1 6 y2hu), (pp, ex_o 7 [ex_i pls, ex_i pfi, ex_i (nI pbe), ex_i ptr, ex_i (nI pdy), ex_r p6]), (p6, ex_q 5 4 (fun j => some (sk j 0))), (c, ex_o 0 [ex_r c0, ex_r c1, ex_r c2, ex_r c3, ex_r c4, ex_r c5, ex_r c6, ex_r c7, ex_r c8, ex_r c9, ex_r c10, ex_r c11, ex_r c12, ex_i (nI np), ex_i (nI nd), ex_i sto, ex_i res, ex_r c17, ex_r c18, ex_r c19]), (c1, ex_a 1 6 kd), (c2, ex_a 1 6 hg), (c5, ex_a 1 6 sf), (c6, ex_a 1 6 st), (c11, ex_a 1 5 co), (c17, ex_a 1 360 gf)]) (stk := [ex_i (nI (F_X7_dishOf ch)), ex_i (nI (F_X7_eaterOf ch)), ex_r c, ex_r (sk 3 0)]) co_X7_92 rfl ⟨(Nat.le_of_ble_eq_true rfl), (Nat.le_of_ble_eq_true rfl)⟩ (e_X7_isSlow l ch (by first | assumption | omega)) dX7_chooses_39 [0, 1, 2, 3, 4, 5, 6, 7, 8, 9, 10, 11, 12, 13, 14, 15, 16] (show List.Perm [0, 1, 2, 3, 4, 5, 6, 7, 8, 9, 10, 11, 12, 13, 14, 15, 16] (List.range 17) from by decide) rfl rfl rfl (Nat.le_of_ble_eq_true rfl) (fun zc1 zr hq hk => ?_)
    obtain ⟨rfl, rfl⟩ := hq
    refine X_callV (j0 := 0) (rest := [((sk 3 3), ex_a 1 6 w_1.2.2.2.2.2), ((sk 2 0), ex_o 8 [ex_i y2dy, ex_i y2sr, ex_i y2il, ex_r (sk 2 1), ex_r (sk 2 2), ex_r (sk 2 3)]), ((sk 2 1), ex_a 1 6 y2fu), ((sk 2 2), ex_a 1 6 y2ae), ((sk 2 3), ex_a 1 6 y2hu), (pp, ex_o 7 [ex_i pls, ex_i pfi, ex_i (nI pbe), ex_i ptr, ex_i (nI pdy), ex_r p6]), (p6, ex_q 5 4 (fun j => some (sk j 0))), (c2, ex_a 1 6 hg)]) (stk := []) co_X7_100 rfl ⟨(Nat.le_of_ble_eq_true rfl), (Nat.le_of_ble_eq_true rfl)⟩ (e_X8_takesMeal l (sk 3 0) c (F_X7_eaterOf ch) (F_X7_dishOf ch) (F_X7_isSlow ch) w_1.1 w_1.2.1 w_1.2.2.1 (sk 3 1) (sk 3 2) (sk 3 3) w_1.2.2.2.1 w_1.2.2.2.2.1 c0 c1 c2 c3 c4 c5 c6 c7 c8 c9 c10 c11 c12 np nd sto res c17 c18 c19 kd sf st co gf (by first | assumption | omega) (by first | assumption | omega) (by first | assumption | omega)) dX7_chooses_42 [0, 1, 2, 10, 11, 13, 14, 15, 16, 3, 4, 5, 6, 7, 8, 9, 12] (show List.Perm [0, 1, 2, 10, 11, 13, 14, 15, 16, 3, 4, 5, 6, 7, 8, 9, 12] (List.range 17) from by decide) rfl rfl rfl rfl (Nat.le_of_ble_eq_true rfl) (fun zc1 zr hq hk => ?_)
    obtain ⟨rfl, rfl⟩ := hq
    try dsimp only at hV
    generalize hq_w_4 : F_X8_takesMeal (F_X7_eaterOf ch) (F_X7_dishOf ch) (F_X7_isSlow ch) w_1.1 w_1.2.1 w_1.2.2.1 w_1.2.2.2.1 w_1.2.2.2.2.1 np res kd sf st co gf = w_4 at hV ⊢
    try dsimp only at hV
    refine X_pop dX7_chooses_45 rfl ?_
    refine X_aload (j := 0) dX7_chooses_46 rfl ?_
    refine X_aload_n (j := 2) dX7_chooses_48 rfl rfl ?_
    refine X_callV (j0 := 0) (rest := [((sk 3 2), ex_a 1 6 w_4.2.2.2.1), (c1, ex_a 1 6 kd), (c5, ex_a 1 6 sf), (c6, ex_a 1 6 st), (c11, ex_a 1 5 co), (c17, ex_a 1 360 gf), ((sk 2 0), ex_o 8 [ex_i y2dy, ex_i y2sr, ex_i y2il, ex_r (sk 2 1), ex_r (sk 2 2), ex_r (sk 2 3)]), ((sk 2 1), ex_a 1 6 y2fu), ((sk 2 2), ex_a 1 6 y2ae), ((sk 2 3), ex_a 1 6 y2hu), (pp, ex_o 7 [ex_i pls, ex_i pfi, ex_i (nI pbe), ex_i ptr, ex_i (nI pdy), ex_r p6]), (p6, ex_q 5 4 (fun j => some (sk j 0)))]) (stk := []) co_X7_104 rfl ⟨(Nat.le_of_ble_eq_true rfl), (Nat.le_of_ble_eq_true rfl)⟩ (e_X8_endsDay l (sk 3 0) c w_1.1 w_4.1 w_4.2.1 (sk 3 1) (sk 3 2) (sk 3 3) w_4.2.2.1 w_1.2.2.2.2.2 c0 c1 c2 c3 c4 c5 c6 c7 c8 c9 c10 c11 c12 np nd sto res c17 c18 c19 hg (by first | assumption | omega)) dX7_chooses_49 [0, 1, 9, 3, 16, 2, 4, 5, 6, 7, 8, 10, 11, 12, 13, 14, 15] (show List.Perm [0, 1, 9, 3, 16, 2, 4, 5, 6, 7, 8, 10, 11, 12, 13, 14, 15] (List.range 17) from by decide) rfl rfl rfl rfl (Nat.le_of_ble_eq_true rfl) (fun zc1 zr hq hk => ?_)
    obtain ⟨rfl, rfl⟩ := hq
    try dsimp only at hV
    generalize hq_w_5 : F_X8_endsDay w_1.1 w_4.2.2.1 w_1.2.2.2.2.2 np hg = w_5 at hV ⊢
    try dsimp only at hV
    refine X_pop dX7_chooses_52 rfl ?_
    try dsimp only at hV
    refine X_re (cs' := [(pp, ex_o 7 [ex_i pls, ex_i pfi, ex_i (nI pbe), ex_i ptr, ex_i (nI pdy), ex_r p6]), (p6, ex_q 5 4 (fun j => some (sk j 0))), ((sk 2 0), ex_o 8 [ex_i y2dy, ex_i y2sr, ex_i y2il, ex_r (sk 2 1), ex_r (sk 2 2), ex_r (sk 2 3)]), ((sk 2 1), ex_a 1 6 y2fu), ((sk 2 2), ex_a 1 6 y2ae), ((sk 2 3), ex_a 1 6 y2hu), ((sk 3 0), ex_o 8 [ex_i w_5.1, ex_i w_4.1, ex_i w_4.2.1, ex_r (sk 3 1), ex_r (sk 3 2), ex_r (sk 3 3)]), ((sk 3 1), ex_a 1 6 w_5.2.1), ((sk 3 2), ex_a 1 6 w_4.2.2.2.1), ((sk 3 3), ex_a 1 6 w_5.2.2.1), (c, ex_o 0 [ex_r c0, ex_r c1, ex_r c2, ex_r c3, ex_r c4, ex_r c5, ex_r c6, ex_r c7, ex_r c8, ex_r c9, ex_r c10, ex_r c11, ex_r c12, ex_i (nI np), ex_i (nI nd), ex_i sto, ex_i res, ex_r c17, ex_r c18, ex_r c19]), (c1, ex_a 1 6 kd), (c2, ex_a 1 6 hg), (c5, ex_a 1 6 sf), (c6, ex_a 1 6 st), (c11, ex_a 1 5 co), (c17, ex_a 1 360 gf)]) [15, 16, 11, 12, 13, 14, 0, 1, 5, 2, 3, 6, 4, 7, 8, 9, 10] (show List.Perm [15, 16, 11, 12, 13, 14, 0, 1, 5, 2, 3, 6, 4, 7, 8, 9, 10] (List.range 17) from by decide) rfl ?_
    exact X_vret dX7_chooses_53 (by (repeat refine ex_kc ?_) <;> rfl) (by subst hV; exact ⟨rfl, rfl⟩)

def F_X7_costOf_3 (ch : Nat) (y3dy : Int32) (y3sr : Int32) (np : Nat) (nd : Nat) (kd : Nat → Int32) (sf : Nat → Int32) (st : Nat → Int32) (co : Nat → Int32) (bt : Nat → Int32) : Int32 := (if (nI ch) = 60 then 0 else (if (nI np) ≤ (nI (F_X7_eaterOf ch)) then (-1) else (if (nI nd) ≤ (nI (F_X7_dishOf ch)) then (-1) else (if (bt ch) = 0 then (if (F_X8_canEat (F_X7_eaterOf ch) (F_X7_dishOf ch) y3dy y3sr kd sf st co) = 0 then (-1) else (F_X0_costBy (F_X7_eaterOf ch) (F_X7_dishOf ch) kd co)) else (-1)))))
set_option maxHeartbeats 4000000 in
set_option maxRecDepth 100000 in
theorem e_X7_costOf_3 (l : Launch) (pp : Nat) (c : Nat) (ch : Nat) (pls : Int32) (pfi : Int32) (pbe : Nat) (ptr : Int32) (pdy : Nat) (p6 : Nat) (sk : Nat → Nat → Nat) (y3dy : Int32) (y3sr : Int32) (y3il : Int32) (c0 : Nat) (c1 : Nat) (c2 : Nat) (c3 : Nat) (c4 : Nat) (c5 : Nat) (c6 : Nat) (c7 : Nat) (c8 : Nat) (c9 : Nat) (c10 : Nat) (c11 : Nat) (c12 : Nat) (np : Nat) (nd : Nat) (sto : Int32) (res : Int32) (c17 : Nat) (c18 : Nat) (c19 : Nat) (kd : Nat → Int32) (sf : Nat → Int32) (st : Nat → Int32) (co : Nat → Int32) (bt : Nat → Int32) (hch : ch < 61) : ex_M l yX7_costOf cX7_costOf 6 (some .int) 3 67 [ex_r pp, ex_r c, ex_i 3, ex_i (nI ch)] [(pp, ex_o 7 [ex_i pls, ex_i pfi, ex_i (nI pbe), ex_i ptr, ex_i (nI pdy), ex_r p6]), (p6, ex_q 5 4 (fun j => some (sk j 0))), ((sk 3 0), ex_o 8 [ex_i y3dy, ex_i y3sr, ex_i y3il, ex_r (sk 3 1), ex_r (sk 3 2), ex_r (sk 3 3)]), (c, ex_o 0 [ex_r c0, ex_r c1, ex_r c2, ex_r c3, ex_r c4, ex_r c5, ex_r c6, ex_r c7, ex_r c8, ex_r c9, ex_r c10, ex_r c11, ex_r c12, ex_i (nI np), ex_i (nI nd), ex_i sto, ex_i res, ex_r c17, ex_r c18, ex_r c19]), (c1, ex_a 1 6 kd), (c5, ex_a 1 6 sf), (c6, ex_a 1 6 st), (c11, ex_a 1 5 co), (c19, ex_a 3 60 bt)] (fun zcs zr => zcs = [(pp, ex_o 7 [ex_i pls, ex_i pfi, ex_i (nI pbe), ex_i ptr, ex_i (nI pdy), ex_r p6]), (p6, ex_q 5 4 (fun j => some (sk j 0))), ((sk 3 0), ex_o 8 [ex_i y3dy, ex_i y3sr, ex_i y3il, ex_r (sk 3 1), ex_r (sk 3 2), ex_r (sk 3 3)]), (c, ex_o 0 [ex_r c0, ex_r c1, ex_r c2, ex_r c3, ex_r c4, ex_r c5, ex_r c6, ex_r c7, ex_r c8, ex_r c9, ex_r c10, ex_r c11, ex_r c12, ex_i (nI np), ex_i (nI nd), ex_i sto, ex_i res, ex_r c17, ex_r c18, ex_r c19]), (c1, ex_a 1 6 kd), (c5, ex_a 1 6 sf), (c6, ex_a 1 6 st), (c11, ex_a 1 5 co), (c19, ex_a 3 60 bt)] ∧ zr = some (ex_i (F_X7_costOf_3 ch y3dy y3sr np nd kd sf st co bt))) := by
  refine X_meth (by decide) (Nat.le_of_ble_eq_true rfl) ?_
  generalize hV : F_X7_costOf_3 ch y3dy y3sr np nd kd sf st co bt = V0
  have hV := hV.symm
  unfold F_X7_costOf_3 at hV
  try dsimp only at hV
  refine X_iload_n (j := 3) dX7_costOf_0 rfl rfl ?_
  refine X_bipush (v := 60) dX7_costOf_1 (by decide) ?_
  refine X_icmp_ne (tgt := 8) dX7_costOf_3 (by decide) (fun c_1 => ?_) (fun c_1 => ?_)
  · have hV := hV.trans (if_neg c_1)
    have hc60 : ch < 60 := ne60 hch c_1
    have hea : F_X7_eaterOf ch < 6 := ea_lt hc60
    have hdi : F_X7_dishOf ch < 5 := di_lt ch
    refine X_iload_n (j := 3) dX7_costOf_8 rfl rfl ?_
    refine X_callS (rest := [(pp, ex_o 7 [ex_i pls, ex_i pfi, ex_i (nI pbe), ex_i ptr, ex_i (nI pdy), ex_r p6]), (p6, ex_q 5 4 (fun j => some (sk j 0))), ((sk 3 0), ex_o 8 [ex_i y3dy, ex_i y3sr, ex_i y3il, ex_r (sk 3 1), ex_r (sk 3 2), ex_r (sk 3 3)]), (c, ex_o 0 [ex_r c0, ex_r c1, ex_r c2, ex_r c3, ex_r c4, ex_r c5, ex_r c6, ex_r c7, ex_r c8, ex_r c9, ex_r c10, ex_r c11, ex_r c12, ex_i (nI np), ex_i (nI nd), ex_i sto, ex_i res, ex_r c17, ex_r c18, ex_r c19]), (c1, ex_a 1 6 kd), (c5, ex_a 1 6 sf), (c6, ex_a 1 6 st), (c11, ex_a 1 5 co), (c19, ex_a 3 60 bt)]) (stk := []) co_X7_60 rfl ⟨(Nat.le_of_ble_eq_true rfl), (Nat.le_of_ble_eq_true rfl)⟩ (e_X7_eaterOf l ch (by first | assumption | omega)) dX7_costOf_9 [0, 1, 2, 3, 4, 5, 6, 7, 8] (show List.Perm [0, 1, 2, 3, 4, 5, 6, 7, 8] (List.range 9) from by decide) rfl rfl rfl (Nat.le_of_ble_eq_true rfl) (fun zc1 zr hq hk => ?_)
    obtain ⟨rfl, rfl⟩ := hq
    refine X_istore (lv' := [(4, ex_i (nI (F_X7_eaterOf ch))), (0, ex_r pp), (1, ex_r c), (2, ex_i 3), (3, ex_i (nI ch))]) dX7_costOf_12 (Nat.le_of_ble_eq_true rfl) rfl ?_
    refine X_iload_n (j := 4) dX7_costOf_14 rfl rfl ?_
    refine X_callS (rest := [(pp, ex_o 7 [ex_i pls, ex_i pfi, ex_i (nI pbe), ex_i ptr, ex_i (nI pdy), ex_r p6]), (p6, ex_q 5 4 (fun j => some (sk j 0))), ((sk 3 0), ex_o 8 [ex_i y3dy, ex_i y3sr, ex_i y3il, ex_r (sk 3 1), ex_r (sk 3 2), ex_r (sk 3 3)]), (c, ex_o 0 [ex_r c0, ex_r c1, ex_r c2, ex_r c3, ex_r c4, ex_r c5, ex_r c6, ex_r c7, ex_r c8, ex_r c9, ex_r c10, ex_r c11, ex_r c12, ex_i (nI np), ex_i (nI nd), ex_i sto, ex_i res, ex_r c17, ex_r c18, ex_r c19]), (c1, ex_a 1 6 kd), (c5, ex_a 1 6 sf), (c6, ex_a 1 6 st), (c11, ex_a 1 5 co), (c19, ex_a 3 60 bt)]) (stk := []) co_X7_64 rfl ⟨(Nat.le_of_ble_eq_true rfl), (Nat.le_of_ble_eq_true rfl)⟩ (e_X7_dishOf l ch (by first | assumption | omega)) dX7_costOf_15 [0, 1, 2, 3, 4, 5, 6, 7, 8] (show List.Perm [0, 1, 2, 3, 4, 5, 6, 7, 8] (List.range 9) from by decide) rfl rfl rfl (Nat.le_of_ble_eq_true rfl) (fun zc1 zr hq hk => ?_)
    obtain ⟨rfl, rfl⟩ := hq
    refine X_istore (lv' := [(5, ex_i (nI (F_X7_dishOf ch))), (4, ex_i (nI (F_X7_eaterOf ch))), (0, ex_r pp), (1, ex_r c), (2, ex_i 3), (3, ex_i (nI ch))]) dX7_costOf_18 (Nat.le_of_ble_eq_true rfl) rfl ?_
    refine X_iload (j := 1) dX7_costOf_20 rfl ?_
    refine X_aload_n (j := 3) dX7_costOf_22 rfl rfl ?_
    refine X_get (j := 3) fo_X7_67 dX7_costOf_23 rfl rfl ?_
    refine X_icmp_ge (tgt := 47) dX7_costOf_26 (by decide) (fun c_2 => ?_) (fun c_2 => ?_)
    · have hV := hV.trans (if_pos c_2)
      refine X_iconst (v := (-1)) dX7_costOf_47 (by decide) ?_
      try dsimp only at hV
      exact X_iret ex_nI rfl dX7_costOf_48 (by (repeat refine ex_kc ?_) <;> rfl) (by subst hV; exact ⟨rfl, rfl⟩)
    · have hV := hV.trans (if_neg c_2)
      refine X_iload (j := 0) dX7_costOf_29 rfl ?_
      refine X_aload_n (j := 3) dX7_costOf_31 rfl rfl ?_
      refine X_get (j := 3) fo_X7_72 dX7_costOf_32 rfl rfl ?_
      refine X_icmp_ge (tgt := 47) dX7_costOf_35 (by decide) (fun c_3 => ?_) (fun c_3 => ?_)
      · have hV := hV.trans (if_pos c_3)
        refine X_iconst (v := (-1)) dX7_costOf_47 (by decide) ?_
        try dsimp only at hV
        exact X_iret ex_nI rfl dX7_costOf_48 (by (repeat refine ex_kc ?_) <;> rfl) (by subst hV; exact ⟨rfl, rfl⟩)
      · have hV := hV.trans (if_neg c_3)
        refine X_aload_n (j := 3) dX7_costOf_38 rfl rfl ?_
        refine X_get (j := 3) fo_X7_75 dX7_costOf_39 rfl rfl ?_
        refine X_iload_n (j := 5) dX7_costOf_42 rfl rfl ?_
        refine X_zald (j := 8) (v := (bt ch)) dX7_costOf_43 rfl (vp_in_nI (show ch < 60 by omega) (by decide)) (by rw [nI_clamp (by omega)]) ?_
        refine X_if_eq (tgt := 49) dX7_costOf_44 (by decide) (fun c_4 => ?_) (fun c_4 => ?_)
        · have hV := hV.trans (if_pos c_4)
          refine X_aload_n (j := 2) dX7_costOf_49 rfl rfl ?_
          refine X_get (j := 0) fo_X7_29 dX7_costOf_50 rfl rfl ?_
          refine X_iload_n (j := 4) dX7_costOf_53 rfl rfl ?_
          refine X_aald (j := 1) (v := (sk 3 0)) dX7_costOf_54 rfl (vin (by decide)) rfl (Or.inr rfl) ?_
          refine X_aload_n (j := 3) dX7_costOf_55 rfl rfl ?_
          refine X_iload (j := 1) dX7_costOf_56 rfl ?_
          refine X_iload (j := 0) dX7_costOf_58 rfl ?_
          refine X_callV (j0 := 0) (rest := [(pp, ex_o 7 [ex_i pls, ex_i pfi, ex_i (nI pbe), ex_i ptr, ex_i (nI pdy), ex_r p6]), (p6, ex_q 5 4 (fun j => some (sk j 0))), (c19, ex_a 3 60 bt)]) (stk := []) co_X7_79 rfl ⟨(Nat.le_of_ble_eq_true rfl), (Nat.le_of_ble_eq_true rfl)⟩ (e_X8_canEat l (sk 3 0) c (F_X7_eaterOf ch) (F_X7_dishOf ch) y3dy y3sr y3il (sk 3 1) (sk 3 2) (sk 3 3) c0 c1 c2 c3 c4 c5 c6 c7 c8 c9 c10 c11 c12 np nd sto res c17 c18 c19 kd sf st co (by first | assumption | omega) (by first | assumption | omega)) dX7_costOf_60 [2, 3, 4, 5, 6, 7, 0, 1, 8] (show List.Perm [2, 3, 4, 5, 6, 7, 0, 1, 8] (List.range 9) from by decide) rfl rfl rfl rfl (Nat.le_of_ble_eq_true rfl) (fun zc1 zr hq hk => ?_)
          obtain ⟨rfl, rfl⟩ := hq
          refine X_if_eq (tgt := 77) dX7_costOf_63 (by decide) (fun c_5 => ?_) (fun c_5 => ?_)
          · have hV := hV.trans (if_pos c_5)
            refine X_iconst (v := (-1)) dX7_costOf_77 (by decide) ?_
            try dsimp only at hV
            refine X_re (cs' := [(pp, ex_o 7 [ex_i pls, ex_i pfi, ex_i (nI pbe), ex_i ptr, ex_i (nI pdy), ex_r p6]), (p6, ex_q 5 4 (fun j => some (sk j 0))), ((sk 3 0), ex_o 8 [ex_i y3dy, ex_i y3sr, ex_i y3il, ex_r (sk 3 1), ex_r (sk 3 2), ex_r (sk 3 3)]), (c, ex_o 0 [ex_r c0, ex_r c1, ex_r c2, ex_r c3, ex_r c4, ex_r c5, ex_r c6, ex_r c7, ex_r c8, ex_r c9, ex_r c10, ex_r c11, ex_r c12, ex_i (nI np), ex_i (nI nd), ex_i sto, ex_i res, ex_r c17, ex_r c18, ex_r c19]), (c1, ex_a 1 6 kd), (c5, ex_a 1 6 sf), (c6, ex_a 1 6 st), (c11, ex_a 1 5 co), (c19, ex_a 3 60 bt)]) [6, 7, 0, 1, 2, 3, 4, 5, 8] (show List.Perm [6, 7, 0, 1, 2, 3, 4, 5, 8] (List.range 9) from by decide) rfl ?_
            exact X_iret ex_nI rfl dX7_costOf_78 (by (repeat refine ex_kc ?_) <;> rfl) (by subst hV; exact ⟨rfl, rfl⟩)
          · have hV := hV.trans (if_neg c_5)
            refine X_aload_n (j := 3) dX7_costOf_66 rfl rfl ?_
            refine X_iload (j := 1) dX7_costOf_67 rfl ?_
            refine X_iload (j := 0) dX7_costOf_69 rfl ?_
            refine X_callV (j0 := 0) (rest := [((sk 3 0), ex_o 8 [ex_i y3dy, ex_i y3sr, ex_i y3il, ex_r (sk 3 1), ex_r (sk 3 2), ex_r (sk 3 3)]), (c5, ex_a 1 6 sf), (c6, ex_a 1 6 st), (pp, ex_o 7 [ex_i pls, ex_i pfi, ex_i (nI pbe), ex_i ptr, ex_i (nI pdy), ex_r p6]), (p6, ex_q 5 4 (fun j => some (sk j 0))), (c19, ex_a 3 60 bt)]) (stk := []) co_X7_82 rfl ⟨(Nat.le_of_ble_eq_true rfl), (Nat.le_of_ble_eq_true rfl)⟩ (e_X0_costBy l c (F_X7_eaterOf ch) (F_X7_dishOf ch) c0 c1 c2 c3 c4 c5 c6 c7 c8 c9 c10 c11 c12 np nd sto res c17 c18 c19 kd co (by first | assumption | omega) (by first | assumption | omega)) dX7_costOf_71 [1, 2, 5, 0, 3, 4, 6, 7, 8] (show List.Perm [1, 2, 5, 0, 3, 4, 6, 7, 8] (List.range 9) from by decide) rfl rfl rfl rfl (Nat.le_of_ble_eq_true rfl) (fun zc1 zr hq hk => ?_)
            obtain ⟨rfl, rfl⟩ := hq
            refine X_goto (tgt := 78) dX7_costOf_74 (by decide) ?_
            try dsimp only at hV
            refine X_re (cs' := [(pp, ex_o 7 [ex_i pls, ex_i pfi, ex_i (nI pbe), ex_i ptr, ex_i (nI pdy), ex_r p6]), (p6, ex_q 5 4 (fun j => some (sk j 0))), ((sk 3 0), ex_o 8 [ex_i y3dy, ex_i y3sr, ex_i y3il, ex_r (sk 3 1), ex_r (sk 3 2), ex_r (sk 3 3)]), (c, ex_o 0 [ex_r c0, ex_r c1, ex_r c2, ex_r c3, ex_r c4, ex_r c5, ex_r c6, ex_r c7, ex_r c8, ex_r c9, ex_r c10, ex_r c11, ex_r c12, ex_i (nI np), ex_i (nI nd), ex_i sto, ex_i res, ex_r c17, ex_r c18, ex_r c19]), (c1, ex_a 1 6 kd), (c5, ex_a 1 6 sf), (c6, ex_a 1 6 st), (c11, ex_a 1 5 co), (c19, ex_a 3 60 bt)]) [6, 7, 3, 0, 1, 4, 5, 2, 8] (show List.Perm [6, 7, 3, 0, 1, 4, 5, 2, 8] (List.range 9) from by decide) rfl ?_
            exact X_iret ex_nI rfl dX7_costOf_78 (by (repeat refine ex_kc ?_) <;> rfl) (by subst hV; exact ⟨rfl, rfl⟩)
        · have hV := hV.trans (if_neg c_4)
          refine X_iconst (v := (-1)) dX7_costOf_47 (by decide) ?_
          try dsimp only at hV
          exact X_iret ex_nI rfl dX7_costOf_48 (by (repeat refine ex_kc ?_) <;> rfl) (by subst hV; exact ⟨rfl, rfl⟩)
  · have hV := hV.trans (if_pos c_1)
    refine X_iconst (v := 0) dX7_costOf_6 (by decide) ?_
    try dsimp only at hV
    exact X_iret ex_nI rfl dX7_costOf_7 (by (repeat refine ex_kc ?_) <;> rfl) (by subst hV; exact ⟨rfl, rfl⟩)

def F_X7_feedsAll_3_L11 (ch : Nat) (y3dy : Int32) (y3fu : Nat → Int32) (y3ae : Nat → Int32) (res : Int32) (hg : Nat → Int32) (sf : Nat → Int32) (st : Nat → Int32) (gf : Nat → Int32) : Nat → Nat → Int32
  | 0, k11 => 1
  | zn + 1, k11 => (if (hg k11) ≤ (y3fu k11) then F_X7_feedsAll_3_L11 ch y3dy y3fu y3ae res hg sf st gf zn (k11 + 1) else (if (nI ch) = 60 then (if (hg k11) ≤ ((y3fu k11) + 0) then F_X7_feedsAll_3_L11 ch y3dy y3fu y3ae res hg sf st gf zn (k11 + 1) else 0) else (if (hg k11) ≤ ((y3fu k11) + (F_X8_gain (F_X7_eaterOf ch) (F_X7_dishOf ch) (F_X7_isSlow ch) k11 y3dy y3ae res sf st gf)) then F_X7_feedsAll_3_L11 ch y3dy y3fu y3ae res hg sf st gf zn (k11 + 1) else 0)))
theorem F_X7_feedsAll_3_L11_z (ch : Nat) (y3dy : Int32) (y3fu : Nat → Int32) (y3ae : Nat → Int32) (res : Int32) (hg : Nat → Int32) (sf : Nat → Int32) (st : Nat → Int32) (gf : Nat → Int32) (k11 : Nat) : F_X7_feedsAll_3_L11 ch y3dy y3fu y3ae res hg sf st gf 0 k11 = 1 := rfl
theorem F_X7_feedsAll_3_L11_s (ch : Nat) (y3dy : Int32) (y3fu : Nat → Int32) (y3ae : Nat → Int32) (res : Int32) (hg : Nat → Int32) (sf : Nat → Int32) (st : Nat → Int32) (gf : Nat → Int32) (k11 : Nat) (zn : Nat) : F_X7_feedsAll_3_L11 ch y3dy y3fu y3ae res hg sf st gf (zn + 1) k11 = (if (hg k11) ≤ (y3fu k11) then F_X7_feedsAll_3_L11 ch y3dy y3fu y3ae res hg sf st gf zn (k11 + 1) else (if (nI ch) = 60 then (if (hg k11) ≤ ((y3fu k11) + 0) then F_X7_feedsAll_3_L11 ch y3dy y3fu y3ae res hg sf st gf zn (k11 + 1) else 0) else (if (hg k11) ≤ ((y3fu k11) + (F_X8_gain (F_X7_eaterOf ch) (F_X7_dishOf ch) (F_X7_isSlow ch) k11 y3dy y3ae res sf st gf)) then F_X7_feedsAll_3_L11 ch y3dy y3fu y3ae res hg sf st gf zn (k11 + 1) else 0))) := rfl
def F_X7_feedsAll_3 (ch : Nat) (y3dy : Int32) (y3fu : Nat → Int32) (y3ae : Nat → Int32) (np : Nat) (res : Int32) (hg : Nat → Int32) (sf : Nat → Int32) (st : Nat → Int32) (gf : Nat → Int32) : Int32 := F_X7_feedsAll_3_L11 ch y3dy y3fu y3ae res hg sf st gf (np - 0) 0
set_option maxHeartbeats 4000000 in
set_option maxRecDepth 100000 in
theorem e_X7_feedsAll_3 (l : Launch) (pp : Nat) (c : Nat) (ch : Nat) (pls : Int32) (pfi : Int32) (pbe : Nat) (ptr : Int32) (pdy : Nat) (p6 : Nat) (sk : Nat → Nat → Nat) (y3dy : Int32) (y3sr : Int32) (y3il : Int32) (y3fu : Nat → Int32) (y3ae : Nat → Int32) (c0 : Nat) (c1 : Nat) (c2 : Nat) (c3 : Nat) (c4 : Nat) (c5 : Nat) (c6 : Nat) (c7 : Nat) (c8 : Nat) (c9 : Nat) (c10 : Nat) (c11 : Nat) (c12 : Nat) (np : Nat) (nd : Nat) (sto : Int32) (res : Int32) (c17 : Nat) (c18 : Nat) (c19 : Nat) (hg : Nat → Int32) (sf : Nat → Int32) (st : Nat → Int32) (gf : Nat → Int32) (hch : ch < 61) (hnp : np ≤ 6) : ex_M l yX7_feedsAll cX7_feedsAll 7 (some .boolean) 3 71 [ex_r pp, ex_r c, ex_i 3, ex_i (nI ch)] [(pp, ex_o 7 [ex_i pls, ex_i pfi, ex_i (nI pbe), ex_i ptr, ex_i (nI pdy), ex_r p6]), (p6, ex_q 5 4 (fun j => some (sk j 0))), ((sk 3 0), ex_o 8 [ex_i y3dy, ex_i y3sr, ex_i y3il, ex_r (sk 3 1), ex_r (sk 3 2), ex_r (sk 3 3)]), ((sk 3 1), ex_a 1 6 y3fu), ((sk 3 2), ex_a 1 6 y3ae), (c, ex_o 0 [ex_r c0, ex_r c1, ex_r c2, ex_r c3, ex_r c4, ex_r c5, ex_r c6, ex_r c7, ex_r c8, ex_r c9, ex_r c10, ex_r c11, ex_r c12, ex_i (nI np), ex_i (nI nd), ex_i sto, ex_i res, ex_r c17, ex_r c18, ex_r c19]), (c2, ex_a 1 6 hg), (c5, ex_a 1 6 sf), (c6, ex_a 1 6 st), (c17, ex_a 1 360 gf)] (fun zcs zr => zcs = [(pp, ex_o 7 [ex_i pls, ex_i pfi, ex_i (nI pbe), ex_i ptr, ex_i (nI pdy), ex_r p6]), (p6, ex_q 5 4 (fun j => some (sk j 0))), ((sk 3 0), ex_o 8 [ex_i y3dy, ex_i y3sr, ex_i y3il, ex_r (sk 3 1), ex_r (sk 3 2), ex_r (sk 3 3)]), ((sk 3 1), ex_a 1 6 y3fu), ((sk 3 2), ex_a 1 6 y3ae), (c, ex_o 0 [ex_r c0, ex_r c1, ex_r c2, ex_r c3, ex_r c4, ex_r c5, ex_r c6, ex_r c7, ex_r c8, ex_r c9, ex_r c10, ex_r c11, ex_r c12, ex_i (nI np), ex_i (nI nd), ex_i sto, ex_i res, ex_r c17, ex_r c18, ex_r c19]), (c2, ex_a 1 6 hg), (c5, ex_a 1 6 sf), (c6, ex_a 1 6 st), (c17, ex_a 1 360 gf)] ∧ zr = some (ex_i (F_X7_feedsAll_3 ch y3dy y3fu y3ae np res hg sf st gf))) := by
  refine X_meth (by decide) (Nat.le_of_ble_eq_true rfl) ?_
  generalize hV : F_X7_feedsAll_3 ch y3dy y3fu y3ae np res hg sf st gf = V0
  have hV := hV.symm
  unfold F_X7_feedsAll_3 at hV
  try dsimp only at hV
  refine X_aload_n (j := 0) dX7_feedsAll_0 rfl rfl ?_
  refine X_get (j := 0) fo_X7_29 dX7_feedsAll_1 rfl rfl ?_
  refine X_iload_n (j := 2) dX7_feedsAll_4 rfl rfl ?_
  refine X_aald (j := 1) (v := (sk 3 0)) dX7_feedsAll_5 rfl (vin (by decide)) rfl (Or.inr rfl) ?_
  refine X_astore (lv' := [(4, ex_r (sk 3 0)), (0, ex_r pp), (1, ex_r c), (2, ex_i 3), (3, ex_i (nI ch))]) dX7_feedsAll_6 (Nat.le_of_ble_eq_true rfl) rfl ?_
  refine X_iconst (v := 0) dX7_feedsAll_8 (by decide) ?_
  refine X_istore (lv' := [(5, ex_i 0), (4, ex_r (sk 3 0)), (0, ex_r pp), (1, ex_r c), (2, ex_i 3), (3, ex_i (nI ch))]) dX7_feedsAll_9 (Nat.le_of_ble_eq_true rfl) rfl ?_
  -- loop at 11
  have hL11 := hV
  try dsimp only at hL11
  refine X_ind (fun (a11 : Nat) => V0 = F_X7_feedsAll_3_L11 ch y3dy y3fu y3ae res hg sf st gf (np - a11) a11 ∧ a11 ≤ np) (fun (a11 : Nat) => np - a11) (fun (a11 : Nat) => [(pp, ex_o 7 [ex_i pls, ex_i pfi, ex_i (nI pbe), ex_i ptr, ex_i (nI pdy), ex_r p6]), (p6, ex_q 5 4 (fun j => some (sk j 0))), ((sk 3 0), ex_o 8 [ex_i y3dy, ex_i y3sr, ex_i y3il, ex_r (sk 3 1), ex_r (sk 3 2), ex_r (sk 3 3)]), ((sk 3 1), ex_a 1 6 y3fu), ((sk 3 2), ex_a 1 6 y3ae), (c, ex_o 0 [ex_r c0, ex_r c1, ex_r c2, ex_r c3, ex_r c4, ex_r c5, ex_r c6, ex_r c7, ex_r c8, ex_r c9, ex_r c10, ex_r c11, ex_r c12, ex_i (nI np), ex_i (nI nd), ex_i sto, ex_i res, ex_r c17, ex_r c18, ex_r c19]), (c2, ex_a 1 6 hg), (c5, ex_a 1 6 sf), (c6, ex_a 1 6 st), (c17, ex_a 1 360 gf)]) (fun (a11 : Nat) => [(5, ex_i (nI a11)), (4, ex_r (sk 3 0)), (0, ex_r pp), (1, ex_r c), (2, ex_i 3), (3, ex_i (nI ch))]) (fun k11 hI11 ih11 => ?_) 0 ⟨hL11, (by omega)⟩
  try dsimp only at hI11 ih11 ⊢
  have ihc11 : ∀ (k11_ : Nat), (V0 = F_X7_feedsAll_3_L11 ch y3dy y3fu y3ae res hg sf st gf (np - k11_) k11_ ∧ k11_ ≤ np) → (np - k11_) < (np - k11) → ex_O _ _ _ _ _ _ _ _ _ [(pp, ex_o 7 [ex_i pls, ex_i pfi, ex_i (nI pbe), ex_i ptr, ex_i (nI pdy), ex_r p6]), (p6, ex_q 5 4 (fun j => some (sk j 0))), ((sk 3 0), ex_o 8 [ex_i y3dy, ex_i y3sr, ex_i y3il, ex_r (sk 3 1), ex_r (sk 3 2), ex_r (sk 3 3)]), ((sk 3 1), ex_a 1 6 y3fu), ((sk 3 2), ex_a 1 6 y3ae), (c, ex_o 0 [ex_r c0, ex_r c1, ex_r c2, ex_r c3, ex_r c4, ex_r c5, ex_r c6, ex_r c7, ex_r c8, ex_r c9, ex_r c10, ex_r c11, ex_r c12, ex_i (nI np), ex_i (nI nd), ex_i sto, ex_i res, ex_r c17, ex_r c18, ex_r c19]), (c2, ex_a 1 6 hg), (c5, ex_a 1 6 sf), (c6, ex_a 1 6 st), (c17, ex_a 1 360 gf)] [(5, ex_i (nI k11_)), (4, ex_r (sk 3 0)), (0, ex_r pp), (1, ex_r c), (2, ex_i 3), (3, ex_i (nI ch))] _ _ := fun k11_ hi_ hm_ => ih11 k11_ hi_ hm_
  have hL11 := hI11.1
  have hb11 := hI11.2
  refine X_iload (j := 0) dX7_feedsAll_11 rfl ?_
  refine X_aload_n (j := 3) dX7_feedsAll_13 rfl rfl ?_
  refine X_get (j := 5) fo_X7_67 dX7_feedsAll_14 rfl rfl ?_
  refine X_icmp_ge (tgt := 99) dX7_feedsAll_17 (by decide) (fun c_1 => ?_) (fun c_1 => ?_)
  · have hlt11 : k11 = np := nlex (L := np) (by omega) hb11 c_1
    rw [show np - k11 = 0 by omega] at hL11
    have hL11 := hL11.trans (F_X7_feedsAll_3_L11_z ..)
    refine X_iconst (v := 1) dX7_feedsAll_99 (by decide) ?_
    try dsimp only at hL11
    exact X_iret ex_nZ rfl dX7_feedsAll_100 (by (repeat refine ex_kc ?_) <;> rfl) (by subst hL11; exact ⟨rfl, rfl⟩)
  · have hlt11 : k11 < np := nlen (L := np) (by omega) hb11 c_1
    rw [show np - k11 = (np - (k11 + 1)) + 1 by omega] at hL11
    have hL11 := hL11.trans (F_X7_feedsAll_3_L11_s ..)
    refine X_aload (j := 1) dX7_feedsAll_20 rfl ?_
    refine X_get (j := 2) fo_X7_85 dX7_feedsAll_22 rfl rfl ?_
    refine X_iload (j := 0) dX7_feedsAll_25 rfl ?_
    refine X_iald (j := 3) (v := (y3fu k11)) dX7_feedsAll_27 rfl (vp_in_nI (show k11 < 6 by omega) (by decide)) (by rw [nI_clamp (by omega)]) ?_
    refine X_aload_n (j := 3) dX7_feedsAll_28 rfl rfl ?_
    refine X_get (j := 5) fo_X7_89 dX7_feedsAll_29 rfl rfl ?_
    refine X_iload (j := 0) dX7_feedsAll_32 rfl ?_
    refine X_iald (j := 6) (v := (hg k11)) dX7_feedsAll_34 rfl (vp_in_nI (show k11 < 6 by omega) (by decide)) (by rw [nI_clamp (by omega)]) ?_
    refine X_icmp_ge (tgt := 93) dX7_feedsAll_35 (by decide) (fun c_2 => ?_) (fun c_2 => ?_)
    · have hL11 := hL11.trans (if_pos c_2)
      refine X_iinc (v := nI (k11 + 1)) (j := 0) (lv' := [(5, ex_i (nI (k11 + 1))), (4, ex_r (sk 3 0)), (0, ex_r pp), (1, ex_r c), (2, ex_i 3), (3, ex_i (nI ch))]) dX7_feedsAll_93 rfl (nI_add k11 1) (Nat.le_of_ble_eq_true rfl) rfl ?_
      refine X_goto (tgt := 11) dX7_feedsAll_96 (by decide) ?_
      try dsimp only at hL11
      exact ihc11 (k11 + 1) ⟨hL11, (show (k11 + 1) ≤ np by omega)⟩ (show np - (k11 + 1) < np - k11 by omega)
    · have hL11 := hL11.trans (if_neg c_2)
      refine X_iload_n (j := 5) dX7_feedsAll_38 rfl rfl ?_
      refine X_bipush (v := 60) dX7_feedsAll_39 (by decide) ?_
      refine X_icmp_ne (tgt := 48) dX7_feedsAll_41 (by decide) (fun c_3 => ?_) (fun c_3 => ?_)
      · have hL11 := hL11.trans (if_neg c_3)
        have hc60 : ch < 60 := ne60 hch c_3
        have hea : F_X7_eaterOf ch < 6 := ea_lt hc60
        have hdi : F_X7_dishOf ch < 5 := di_lt ch
        refine X_aload (j := 1) dX7_feedsAll_48 rfl ?_
        refine X_aload_n (j := 3) dX7_feedsAll_50 rfl rfl ?_
        refine X_iload_n (j := 5) dX7_feedsAll_51 rfl rfl ?_
        refine X_callS (rest := [(pp, ex_o 7 [ex_i pls, ex_i pfi, ex_i (nI pbe), ex_i ptr, ex_i (nI pdy), ex_r p6]), (p6, ex_q 5 4 (fun j => some (sk j 0))), ((sk 3 0), ex_o 8 [ex_i y3dy, ex_i y3sr, ex_i y3il, ex_r (sk 3 1), ex_r (sk 3 2), ex_r (sk 3 3)]), ((sk 3 1), ex_a 1 6 y3fu), ((sk 3 2), ex_a 1 6 y3ae), (c, ex_o 0 [ex_r c0, ex_r c1, ex_r c2, ex_r c3, ex_r c4, ex_r c5, ex_r c6, ex_r c7, ex_r c8, ex_r c9, ex_r c10, ex_r c11, ex_r c12, ex_i (nI np), ex_i (nI nd), ex_i sto, ex_i res, ex_r c17, ex_r c18, ex_r c19]), (c2, ex_a 1 6 hg), (c5, ex_a 1 6 sf), (c6, ex_a 1 6 st), (c17, ex_a 1 360 gf)]) (stk := [ex_r c, ex_r (sk 3 0)]) co_X7_60 rfl ⟨(Nat.le_of_ble_eq_true rfl), (Nat.le_of_ble_eq_true rfl)⟩ (e_X7_eaterOf l ch (by first | assumption | omega)) dX7_feedsAll_52 [0, 1, 2, 3, 4, 5, 6, 7, 8, 9] (show List.Perm [0, 1, 2, 3, 4, 5, 6, 7, 8, 9] (List.range 10) from by decide) rfl rfl rfl (Nat.le_of_ble_eq_true rfl) (fun zc1 zr hq hk => ?_)
        obtain ⟨rfl, rfl⟩ := hq
        refine X_iload_n (j := 5) dX7_feedsAll_55 rfl rfl ?_
        refine X_callS (rest := [(pp, ex_o 7 [ex_i pls, ex_i pfi, ex_i (nI pbe), ex_i ptr, ex_i (nI pdy), ex_r p6]), (p6, ex_q 5 4 (fun j => some (sk j 0))), ((sk 3 0), ex_o 8 [ex_i y3dy, ex_i y3sr, ex_i y3il, ex_r (sk 3 1), ex_r (sk 3 2), ex_r (sk 3 3)]), ((sk 3 1), ex_a 1 6 y3fu), ((sk 3 2), ex_a 1 6 y3ae), (c, ex_o 0 [ex_r c0, ex_r c1, ex_r c2, ex_r c3, ex_r c4, ex_r c5, ex_r c6, ex_r c7, ex_r c8, ex_r c9, ex_r c10, ex_r c11, ex_r c12, ex_i (nI np), ex_i (nI nd), ex_i sto, ex_i res, ex_r c17, ex_r c18, ex_r c19]), (c2, ex_a 1 6 hg), (c5, ex_a 1 6 sf), (c6, ex_a 1 6 st), (c17, ex_a 1 360 gf)]) (stk := [ex_i (nI (F_X7_eaterOf ch)), ex_r c, ex_r (sk 3 0)]) co_X7_64 rfl ⟨(Nat.le_of_ble_eq_true rfl), (Nat.le_of_ble_eq_true rfl)⟩ (e_X7_dishOf l ch (by first | assumption | omega)) dX7_feedsAll_56 [0, 1, 2, 3, 4, 5, 6, 7, 8, 9] (show List.Perm [0, 1, 2, 3, 4, 5, 6, 7, 8, 9] (List.range 10) from by decide) rfl rfl rfl (Nat.le_of_ble_eq_true rfl) (fun zc1 zr hq hk => ?_)
        obtain ⟨rfl, rfl⟩ := hq
        refine X_iload_n (j := 5) dX7_feedsAll_59 rfl rfl ?_
        refine X_callS (rest := [(pp, ex_o 7 [ex_i pls, ex_i pfi, ex_i (nI pbe), ex_i ptr, ex_i (nI pdy), ex_r p6]), (p6, ex_q 5 4 (fun j => some (sk j 0))), ((sk 3 0), ex_o 8 [ex_i y3dy, ex_i y3sr, ex_i y3il, ex_r (sk 3 1), ex_r (sk 3 2), ex_r (sk 3 3)]), ((sk 3 1), ex_a 1 6 y3fu), ((sk 3 2), ex_a 1 6 y3ae), (c, ex_o 0 [ex_r c0, ex_r c1, ex_r c2, ex_r c3, ex_r c4, ex_r c5, ex_r c6, ex_r c7, ex_r c8, ex_r c9, ex_r c10, ex_r c11, ex_r c12, ex_i (nI np), ex_i (nI nd), ex_i sto, ex_i res, ex_r c17, ex_r c18, ex_r c19]), (c2, ex_a 1 6 hg), (c5, ex_a 1 6 sf), (c6, ex_a 1 6 st), (c17, ex_a 1 360 gf)]) (stk := [ex_i (nI (F_X7_dishOf ch)), ex_i (nI (F_X7_eaterOf ch)), ex_r c, ex_r (sk 3 0)]) co_X7_92 rfl ⟨(Nat.le_of_ble_eq_true rfl), (Nat.le_of_ble_eq_true rfl)⟩ (e_X7_isSlow l ch (by first | assumption | omega)) dX7_feedsAll_60 [0, 1, 2, 3, 4, 5, 6, 7, 8, 9] (show List.Perm [0, 1, 2, 3, 4, 5, 6, 7, 8, 9] (List.range 10) from by decide) rfl rfl rfl (Nat.le_of_ble_eq_true rfl) (fun zc1 zr hq hk => ?_)
        obtain ⟨rfl, rfl⟩ := hq
        refine X_iload (j := 0) dX7_feedsAll_63 rfl ?_
        refine X_callV (j0 := 0) (rest := [(pp, ex_o 7 [ex_i pls, ex_i pfi, ex_i (nI pbe), ex_i ptr, ex_i (nI pdy), ex_r p6]), (p6, ex_q 5 4 (fun j => some (sk j 0))), ((sk 3 1), ex_a 1 6 y3fu), (c2, ex_a 1 6 hg)]) (stk := []) co_X7_96 rfl ⟨(Nat.le_of_ble_eq_true rfl), (Nat.le_of_ble_eq_true rfl)⟩ (e_X8_gain l (sk 3 0) c (F_X7_eaterOf ch) (F_X7_dishOf ch) (F_X7_isSlow ch) k11 y3dy y3sr y3il (sk 3 1) (sk 3 2) (sk 3 3) y3ae c0 c1 c2 c3 c4 c5 c6 c7 c8 c9 c10 c11 c12 np nd sto res c17 c18 c19 sf st gf (by first | assumption | omega) (by first | assumption | omega) (by first | assumption | omega)) dX7_feedsAll_65 [2, 4, 5, 7, 8, 9, 0, 1, 3, 6] (show List.Perm [2, 4, 5, 7, 8, 9, 0, 1, 3, 6] (List.range 10) from by decide) rfl rfl rfl rfl (Nat.le_of_ble_eq_true rfl) (fun zc1 zr hq hk => ?_)
        obtain ⟨rfl, rfl⟩ := hq
        refine X_istore (lv' := [(6, ex_i (F_X8_gain (F_X7_eaterOf ch) (F_X7_dishOf ch) (F_X7_isSlow ch) k11 y3dy y3ae res sf st gf)), (5, ex_i (nI k11)), (4, ex_r (sk 3 0)), (0, ex_r pp), (1, ex_r c), (2, ex_i 3), (3, ex_i (nI ch))]) dX7_feedsAll_68 (Nat.le_of_ble_eq_true rfl) rfl ?_
        refine X_aload (j := 2) dX7_feedsAll_70 rfl ?_
        refine X_get (j := 0) fo_X7_85 dX7_feedsAll_72 rfl rfl ?_
        refine X_iload (j := 1) dX7_feedsAll_75 rfl ?_
        refine X_iald (j := 8) (v := (y3fu k11)) dX7_feedsAll_77 rfl (vp_in_nI (show k11 < 6 by omega) (by decide)) (by rw [nI_clamp (by omega)]) ?_
        refine X_iload (j := 0) dX7_feedsAll_78 rfl ?_
        refine X_iadd (v := ((y3fu k11) + (F_X8_gain (F_X7_eaterOf ch) (F_X7_dishOf ch) (F_X7_isSlow ch) k11 y3dy y3ae res sf st gf))) dX7_feedsAll_80 rfl ?_
        refine X_aload_n (j := 4) dX7_feedsAll_81 rfl rfl ?_
        refine X_get (j := 2) fo_X7_89 dX7_feedsAll_82 rfl rfl ?_
        refine X_iload (j := 1) dX7_feedsAll_85 rfl ?_
        refine X_iald (j := 9) (v := (hg k11)) dX7_feedsAll_87 rfl (vp_in_nI (show k11 < 6 by omega) (by decide)) (by rw [nI_clamp (by omega)]) ?_
        refine X_icmp_ge (tgt := 93) dX7_feedsAll_88 (by decide) (fun c_4 => ?_) (fun c_4 => ?_)
        · have hL11 := hL11.trans (if_pos c_4)
          refine X_iinc (v := nI (k11 + 1)) (j := 1) (lv' := [(5, ex_i (nI (k11 + 1))), (6, ex_i (F_X8_gain (F_X7_eaterOf ch) (F_X7_dishOf ch) (F_X7_isSlow ch) k11 y3dy y3ae res sf st gf)), (4, ex_r (sk 3 0)), (0, ex_r pp), (1, ex_r c), (2, ex_i 3), (3, ex_i (nI ch))]) dX7_feedsAll_93 rfl (nI_add k11 1) (Nat.le_of_ble_eq_true rfl) rfl ?_
          refine X_goto (tgt := 11) dX7_feedsAll_96 (by decide) ?_
          try dsimp only at hL11
          refine X_re (cs' := [(pp, ex_o 7 [ex_i pls, ex_i pfi, ex_i (nI pbe), ex_i ptr, ex_i (nI pdy), ex_r p6]), (p6, ex_q 5 4 (fun j => some (sk j 0))), ((sk 3 0), ex_o 8 [ex_i y3dy, ex_i y3sr, ex_i y3il, ex_r (sk 3 1), ex_r (sk 3 2), ex_r (sk 3 3)]), ((sk 3 1), ex_a 1 6 y3fu), ((sk 3 2), ex_a 1 6 y3ae), (c, ex_o 0 [ex_r c0, ex_r c1, ex_r c2, ex_r c3, ex_r c4, ex_r c5, ex_r c6, ex_r c7, ex_r c8, ex_r c9, ex_r c10, ex_r c11, ex_r c12, ex_i (nI np), ex_i (nI nd), ex_i sto, ex_i res, ex_r c17, ex_r c18, ex_r c19]), (c2, ex_a 1 6 hg), (c5, ex_a 1 6 sf), (c6, ex_a 1 6 st), (c17, ex_a 1 360 gf)]) [6, 7, 0, 8, 1, 2, 9, 3, 4, 5] (show List.Perm [6, 7, 0, 8, 1, 2, 9, 3, 4, 5] (List.range 10) from by decide) rfl ?_
          refine X_lv (lv' := [(5, ex_i (nI (k11 + 1))), (4, ex_r (sk 3 0)), (0, ex_r pp), (1, ex_r c), (2, ex_i 3), (3, ex_i (nI ch))]) [0, 2, 3, 4, 5, 6] rfl ?_
          exact ihc11 (k11 + 1) ⟨hL11, (show (k11 + 1) ≤ np by omega)⟩ (show np - (k11 + 1) < np - k11 by omega)
        · have hL11 := hL11.trans (if_neg c_4)
          refine X_iconst (v := 0) dX7_feedsAll_91 (by decide) ?_
          try dsimp only at hL11
          refine X_re (cs' := [(pp, ex_o 7 [ex_i pls, ex_i pfi, ex_i (nI pbe), ex_i ptr, ex_i (nI pdy), ex_r p6]), (p6, ex_q 5 4 (fun j => some (sk j 0))), ((sk 3 0), ex_o 8 [ex_i y3dy, ex_i y3sr, ex_i y3il, ex_r (sk 3 1), ex_r (sk 3 2), ex_r (sk 3 3)]), ((sk 3 1), ex_a 1 6 y3fu), ((sk 3 2), ex_a 1 6 y3ae), (c, ex_o 0 [ex_r c0, ex_r c1, ex_r c2, ex_r c3, ex_r c4, ex_r c5, ex_r c6, ex_r c7, ex_r c8, ex_r c9, ex_r c10, ex_r c11, ex_r c12, ex_i (nI np), ex_i (nI nd), ex_i sto, ex_i res, ex_r c17, ex_r c18, ex_r c19]), (c2, ex_a 1 6 hg), (c5, ex_a 1 6 sf), (c6, ex_a 1 6 st), (c17, ex_a 1 360 gf)]) [6, 7, 0, 8, 1, 2, 9, 3, 4, 5] (show List.Perm [6, 7, 0, 8, 1, 2, 9, 3, 4, 5] (List.range 10) from by decide) rfl ?_
          exact X_iret ex_nZ rfl dX7_feedsAll_92 (by (repeat refine ex_kc ?_) <;> rfl) (by subst hL11; exact ⟨rfl, rfl⟩)
      · have hL11 := hL11.trans (if_pos c_3)
        refine X_iconst (v := 0) dX7_feedsAll_44 (by decide) ?_
        refine X_goto (tgt := 68) dX7_feedsAll_45 (by decide) ?_
        refine X_istore (lv' := [(6, ex_i 0), (5, ex_i (nI k11)), (4, ex_r (sk 3 0)), (0, ex_r pp), (1, ex_r c), (2, ex_i 3), (3, ex_i (nI ch))]) dX7_feedsAll_68 (Nat.le_of_ble_eq_true rfl) rfl ?_
        refine X_aload (j := 2) dX7_feedsAll_70 rfl ?_
        refine X_get (j := 2) fo_X7_85 dX7_feedsAll_72 rfl rfl ?_
        refine X_iload (j := 1) dX7_feedsAll_75 rfl ?_
        refine X_iald (j := 3) (v := (y3fu k11)) dX7_feedsAll_77 rfl (vp_in_nI (show k11 < 6 by omega) (by decide)) (by rw [nI_clamp (by omega)]) ?_
        refine X_iload (j := 0) dX7_feedsAll_78 rfl ?_
        refine X_iadd (v := ((y3fu k11) + 0)) dX7_feedsAll_80 rfl ?_
        refine X_aload_n (j := 4) dX7_feedsAll_81 rfl rfl ?_
        refine X_get (j := 5) fo_X7_89 dX7_feedsAll_82 rfl rfl ?_
        refine X_iload (j := 1) dX7_feedsAll_85 rfl ?_
        refine X_iald (j := 6) (v := (hg k11)) dX7_feedsAll_87 rfl (vp_in_nI (show k11 < 6 by omega) (by decide)) (by rw [nI_clamp (by omega)]) ?_
        refine X_icmp_ge (tgt := 93) dX7_feedsAll_88 (by decide) (fun c_5 => ?_) (fun c_5 => ?_)
        · have hL11 := hL11.trans (if_pos c_5)
          refine X_iinc (v := nI (k11 + 1)) (j := 1) (lv' := [(5, ex_i (nI (k11 + 1))), (6, ex_i 0), (4, ex_r (sk 3 0)), (0, ex_r pp), (1, ex_r c), (2, ex_i 3), (3, ex_i (nI ch))]) dX7_feedsAll_93 rfl (nI_add k11 1) (Nat.le_of_ble_eq_true rfl) rfl ?_
          refine X_goto (tgt := 11) dX7_feedsAll_96 (by decide) ?_
          try dsimp only at hL11
          refine X_lv (lv' := [(5, ex_i (nI (k11 + 1))), (4, ex_r (sk 3 0)), (0, ex_r pp), (1, ex_r c), (2, ex_i 3), (3, ex_i (nI ch))]) [0, 2, 3, 4, 5, 6] rfl ?_
          exact ihc11 (k11 + 1) ⟨hL11, (show (k11 + 1) ≤ np by omega)⟩ (show np - (k11 + 1) < np - k11 by omega)
        · have hL11 := hL11.trans (if_neg c_5)
          refine X_iconst (v := 0) dX7_feedsAll_91 (by decide) ?_
          try dsimp only at hL11
          exact X_iret ex_nZ rfl dX7_feedsAll_92 (by (repeat refine ex_kc ?_) <;> rfl) (by subst hL11; exact ⟨rfl, rfl⟩)
