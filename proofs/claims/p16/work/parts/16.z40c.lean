def F_X3_truth (x : Int32) : Int32 := (if x = 0 then 0 else 1)
set_option maxHeartbeats 4000000 in
set_option maxRecDepth 100000 in
theorem e_X3_truth (l : Launch) (x : Int32) : ex_M l yX3_truth cX3_truth 1 (some .int) 0 0 [ex_i x] [] (fun zcs zr => zcs = [] ∧ zr = some (ex_i (F_X3_truth x))) := by
  refine X_meth (by decide) (Nat.le_of_ble_eq_true rfl) ?_
  generalize hV : F_X3_truth x = V0
  have hV := hV.symm
  unfold F_X3_truth at hV
  try dsimp only at hV
  refine X_iload_n (j := 0) dX3_truth_0 rfl rfl ?_
  refine X_if_eq (tgt := 8) dX3_truth_1 (by decide) (fun c_1 => ?_) (fun c_1 => ?_)
  · have hV := hV.trans (if_pos c_1)
    refine X_iconst (v := 0) dX3_truth_8 (by decide) ?_
    try dsimp only at hV
    exact X_iret ex_nI rfl dX3_truth_9 (by (repeat refine ex_kc ?_) <;> rfl) (by subst hV; exact ⟨rfl, rfl⟩)
  · have hV := hV.trans (if_neg c_1)
    refine X_iconst (v := 1) dX3_truth_4 (by decide) ?_
    refine X_goto (tgt := 9) dX3_truth_5 (by decide) ?_
    try dsimp only at hV
    exact X_iret ex_nI rfl dX3_truth_9 (by (repeat refine ex_kc ?_) <;> rfl) (by subst hV; exact ⟨rfl, rfl⟩)

def F_X3_joined (x : Int32) (lf : Int32) (rg : Int32) : Int32 := (if x = (-12) then (if lf = 0 then (F_X3_truth 0) else (if rg = 0 then (F_X3_truth 0) else (F_X3_truth 1))) else (if x = (-11) then (if lf = rg then (F_X3_truth 1) else (F_X3_truth 0)) else (if x = (-10) then (if rg ≤ lf then (F_X3_truth 0) else (F_X3_truth 1)) else (if x = (-9) then (lf - rg) else (if x = (-8) then (lf + rg) else (if x = (-7) then (lf * rg) else (if lf = 0 then (if rg = 0 then (F_X3_truth 0) else (F_X3_truth 1)) else (F_X3_truth 1))))))))
set_option maxHeartbeats 4000000 in
set_option maxRecDepth 100000 in
theorem e_X3_joined (l : Launch) (x : Int32) (lf : Int32) (rg : Int32) : ex_M l yX3_joined cX3_joined 3 (some .int) 1 20 [ex_i x, ex_i lf, ex_i rg] [] (fun zcs zr => zcs = [] ∧ zr = some (ex_i (F_X3_joined x lf rg))) := by
  refine X_meth (by decide) (Nat.le_of_ble_eq_true rfl) ?_
  generalize hV : F_X3_joined x lf rg = V0
  have hV := hV.symm
  unfold F_X3_joined at hV
  try dsimp only at hV
  refine X_iload_n (j := 0) dX3_joined_0 rfl rfl ?_
  by_cases hw_1 : x = (-12)
  · have hV := hV.trans (if_pos hw_1)
    refine X_tabIn (off := 79) (tgt := 80) dX3_joined_1 (by rw [hw_1]; decide) (by rw [hw_1]; decide) (by rw [hw_1]; decide) (by decide) ?_
    refine X_iload_n (j := 1) dX3_joined_80 rfl rfl ?_
    refine X_if_eq (tgt := 92) dX3_joined_81 (by decide) (fun c_2 => ?_) (fun c_2 => ?_)
    · have hV := hV.trans (if_pos c_2)
      refine X_iconst (v := 0) dX3_joined_92 (by decide) ?_
      refine X_callS (rest := []) (stk := []) co_X3_123 rfl ⟨(Nat.le_of_ble_eq_true rfl), (Nat.le_of_ble_eq_true rfl)⟩ (e_X3_truth l 0) dX3_joined_93 [] (show List.Perm [] (List.range 0) from by decide) rfl rfl rfl (Nat.le_of_ble_eq_true rfl) (fun zc1 zr hq hk => ?_)
      obtain ⟨rfl, rfl⟩ := hq
      try dsimp only at hV
      exact X_iret ex_nI rfl dX3_joined_96 (by (repeat refine ex_kc ?_) <;> rfl) (by subst hV; exact ⟨rfl, rfl⟩)
    · have hV := hV.trans (if_neg c_2)
      refine X_iload_n (j := 2) dX3_joined_84 rfl rfl ?_
      refine X_if_eq (tgt := 92) dX3_joined_85 (by decide) (fun c_3 => ?_) (fun c_3 => ?_)
      · have hV := hV.trans (if_pos c_3)
        refine X_iconst (v := 0) dX3_joined_92 (by decide) ?_
        refine X_callS (rest := []) (stk := []) co_X3_123 rfl ⟨(Nat.le_of_ble_eq_true rfl), (Nat.le_of_ble_eq_true rfl)⟩ (e_X3_truth l 0) dX3_joined_93 [] (show List.Perm [] (List.range 0) from by decide) rfl rfl rfl (Nat.le_of_ble_eq_true rfl) (fun zc1 zr hq hk => ?_)
        obtain ⟨rfl, rfl⟩ := hq
        try dsimp only at hV
        exact X_iret ex_nI rfl dX3_joined_96 (by (repeat refine ex_kc ?_) <;> rfl) (by subst hV; exact ⟨rfl, rfl⟩)
      · have hV := hV.trans (if_neg c_3)
        refine X_iconst (v := 1) dX3_joined_88 (by decide) ?_
        refine X_goto (tgt := 93) dX3_joined_89 (by decide) ?_
        refine X_callS (rest := []) (stk := []) co_X3_123 rfl ⟨(Nat.le_of_ble_eq_true rfl), (Nat.le_of_ble_eq_true rfl)⟩ (e_X3_truth l 1) dX3_joined_93 [] (show List.Perm [] (List.range 0) from by decide) rfl rfl rfl (Nat.le_of_ble_eq_true rfl) (fun zc1 zr hq hk => ?_)
        obtain ⟨rfl, rfl⟩ := hq
        try dsimp only at hV
        exact X_iret ex_nI rfl dX3_joined_96 (by (repeat refine ex_kc ?_) <;> rfl) (by subst hV; exact ⟨rfl, rfl⟩)
  have hV := hV.trans (if_neg hw_1)
  by_cases hw_4 : x = (-11)
  · have hV := hV.trans (if_pos hw_4)
    refine X_tabIn (off := 65) (tgt := 66) dX3_joined_1 (by rw [hw_4]; decide) (by rw [hw_4]; decide) (by rw [hw_4]; decide) (by decide) ?_
    refine X_iload_n (j := 1) dX3_joined_66 rfl rfl ?_
    refine X_iload_n (j := 2) dX3_joined_67 rfl rfl ?_
    refine X_icmp_ne (tgt := 75) dX3_joined_68 (by decide) (fun c_5 => ?_) (fun c_5 => ?_)
    · have hV := hV.trans (if_neg c_5)
      refine X_iconst (v := 0) dX3_joined_75 (by decide) ?_
      refine X_callS (rest := []) (stk := []) co_X3_123 rfl ⟨(Nat.le_of_ble_eq_true rfl), (Nat.le_of_ble_eq_true rfl)⟩ (e_X3_truth l 0) dX3_joined_76 [] (show List.Perm [] (List.range 0) from by decide) rfl rfl rfl (Nat.le_of_ble_eq_true rfl) (fun zc1 zr hq hk => ?_)
      obtain ⟨rfl, rfl⟩ := hq
      try dsimp only at hV
      exact X_iret ex_nI rfl dX3_joined_79 (by (repeat refine ex_kc ?_) <;> rfl) (by subst hV; exact ⟨rfl, rfl⟩)
    · have hV := hV.trans (if_pos c_5)
      refine X_iconst (v := 1) dX3_joined_71 (by decide) ?_
      refine X_goto (tgt := 76) dX3_joined_72 (by decide) ?_
      refine X_callS (rest := []) (stk := []) co_X3_123 rfl ⟨(Nat.le_of_ble_eq_true rfl), (Nat.le_of_ble_eq_true rfl)⟩ (e_X3_truth l 1) dX3_joined_76 [] (show List.Perm [] (List.range 0) from by decide) rfl rfl rfl (Nat.le_of_ble_eq_true rfl) (fun zc1 zr hq hk => ?_)
      obtain ⟨rfl, rfl⟩ := hq
      try dsimp only at hV
      exact X_iret ex_nI rfl dX3_joined_79 (by (repeat refine ex_kc ?_) <;> rfl) (by subst hV; exact ⟨rfl, rfl⟩)
  have hV := hV.trans (if_neg hw_4)
  by_cases hw_6 : x = (-10)
  · have hV := hV.trans (if_pos hw_6)
    refine X_tabIn (off := 51) (tgt := 52) dX3_joined_1 (by rw [hw_6]; decide) (by rw [hw_6]; decide) (by rw [hw_6]; decide) (by decide) ?_
    refine X_iload_n (j := 1) dX3_joined_52 rfl rfl ?_
    refine X_iload_n (j := 2) dX3_joined_53 rfl rfl ?_
    refine X_icmp_ge (tgt := 61) dX3_joined_54 (by decide) (fun c_7 => ?_) (fun c_7 => ?_)
    · have hV := hV.trans (if_pos c_7)
      refine X_iconst (v := 0) dX3_joined_61 (by decide) ?_
      refine X_callS (rest := []) (stk := []) co_X3_123 rfl ⟨(Nat.le_of_ble_eq_true rfl), (Nat.le_of_ble_eq_true rfl)⟩ (e_X3_truth l 0) dX3_joined_62 [] (show List.Perm [] (List.range 0) from by decide) rfl rfl rfl (Nat.le_of_ble_eq_true rfl) (fun zc1 zr hq hk => ?_)
      obtain ⟨rfl, rfl⟩ := hq
      try dsimp only at hV
      exact X_iret ex_nI rfl dX3_joined_65 (by (repeat refine ex_kc ?_) <;> rfl) (by subst hV; exact ⟨rfl, rfl⟩)
    · have hV := hV.trans (if_neg c_7)
      refine X_iconst (v := 1) dX3_joined_57 (by decide) ?_
      refine X_goto (tgt := 62) dX3_joined_58 (by decide) ?_
      refine X_callS (rest := []) (stk := []) co_X3_123 rfl ⟨(Nat.le_of_ble_eq_true rfl), (Nat.le_of_ble_eq_true rfl)⟩ (e_X3_truth l 1) dX3_joined_62 [] (show List.Perm [] (List.range 0) from by decide) rfl rfl rfl (Nat.le_of_ble_eq_true rfl) (fun zc1 zr hq hk => ?_)
      obtain ⟨rfl, rfl⟩ := hq
      try dsimp only at hV
      exact X_iret ex_nI rfl dX3_joined_65 (by (repeat refine ex_kc ?_) <;> rfl) (by subst hV; exact ⟨rfl, rfl⟩)
  have hV := hV.trans (if_neg hw_6)
  by_cases hw_8 : x = (-9)
  · have hV := hV.trans (if_pos hw_8)
    refine X_tabIn (off := 47) (tgt := 48) dX3_joined_1 (by rw [hw_8]; decide) (by rw [hw_8]; decide) (by rw [hw_8]; decide) (by decide) ?_
    refine X_iload_n (j := 1) dX3_joined_48 rfl rfl ?_
    refine X_iload_n (j := 2) dX3_joined_49 rfl rfl ?_
    refine X_isub (v := (lf - rg)) dX3_joined_50 rfl ?_
    try dsimp only at hV
    exact X_iret ex_nI rfl dX3_joined_51 (by (repeat refine ex_kc ?_) <;> rfl) (by subst hV; exact ⟨rfl, rfl⟩)
  have hV := hV.trans (if_neg hw_8)
  by_cases hw_9 : x = (-8)
  · have hV := hV.trans (if_pos hw_9)
    refine X_tabIn (off := 43) (tgt := 44) dX3_joined_1 (by rw [hw_9]; decide) (by rw [hw_9]; decide) (by rw [hw_9]; decide) (by decide) ?_
    refine X_iload_n (j := 1) dX3_joined_44 rfl rfl ?_
    refine X_iload_n (j := 2) dX3_joined_45 rfl rfl ?_
    refine X_iadd (v := (lf + rg)) dX3_joined_46 rfl ?_
    try dsimp only at hV
    exact X_iret ex_nI rfl dX3_joined_47 (by (repeat refine ex_kc ?_) <;> rfl) (by subst hV; exact ⟨rfl, rfl⟩)
  have hV := hV.trans (if_neg hw_9)
  by_cases hw_10 : x = (-7)
  · have hV := hV.trans (if_pos hw_10)
    refine X_tabIn (off := 39) (tgt := 40) dX3_joined_1 (by rw [hw_10]; decide) (by rw [hw_10]; decide) (by rw [hw_10]; decide) (by decide) ?_
    refine X_iload_n (j := 1) dX3_joined_40 rfl rfl ?_
    refine X_iload_n (j := 2) dX3_joined_41 rfl rfl ?_
    refine X_imul (v := (lf * rg)) dX3_joined_42 rfl ?_
    try dsimp only at hV
    exact X_iret ex_nI rfl dX3_joined_43 (by (repeat refine ex_kc ?_) <;> rfl) (by subst hV; exact ⟨rfl, rfl⟩)
  have hV := hV.trans (if_neg hw_10)
  refine X_tabOut (tgt := 97) dX3_joined_1 (by have n0 : x.toInt ≠ -12 := fun q => hw_1 (Int32.toInt_inj.mp (q.trans (by decide))); have n1 : x.toInt ≠ -11 := fun q => hw_4 (Int32.toInt_inj.mp (q.trans (by decide))); have n2 : x.toInt ≠ -10 := fun q => hw_6 (Int32.toInt_inj.mp (q.trans (by decide))); have n3 : x.toInt ≠ -9 := fun q => hw_8 (Int32.toInt_inj.mp (q.trans (by decide))); have n4 : x.toInt ≠ -8 := fun q => hw_9 (Int32.toInt_inj.mp (q.trans (by decide))); have n5 : x.toInt ≠ -7 := fun q => hw_10 (Int32.toInt_inj.mp (q.trans (by decide))); omega) (by decide) ?_
  refine X_iload_n (j := 1) dX3_joined_97 rfl rfl ?_
  refine X_if_ne (tgt := 105) dX3_joined_98 (by decide) (fun c_11 => ?_) (fun c_11 => ?_)
  · have hV := hV.trans (if_neg c_11)
    refine X_iconst (v := 1) dX3_joined_105 (by decide) ?_
    refine X_goto (tgt := 110) dX3_joined_106 (by decide) ?_
    refine X_callS (rest := []) (stk := []) co_X3_123 rfl ⟨(Nat.le_of_ble_eq_true rfl), (Nat.le_of_ble_eq_true rfl)⟩ (e_X3_truth l 1) dX3_joined_110 [] (show List.Perm [] (List.range 0) from by decide) rfl rfl rfl (Nat.le_of_ble_eq_true rfl) (fun zc1 zr hq hk => ?_)
    obtain ⟨rfl, rfl⟩ := hq
    try dsimp only at hV
    exact X_iret ex_nI rfl dX3_joined_113 (by (repeat refine ex_kc ?_) <;> rfl) (by subst hV; exact ⟨rfl, rfl⟩)
  · have hV := hV.trans (if_pos c_11)
    refine X_iload_n (j := 2) dX3_joined_101 rfl rfl ?_
    refine X_if_eq (tgt := 109) dX3_joined_102 (by decide) (fun c_12 => ?_) (fun c_12 => ?_)
    · have hV := hV.trans (if_pos c_12)
      refine X_iconst (v := 0) dX3_joined_109 (by decide) ?_
      refine X_callS (rest := []) (stk := []) co_X3_123 rfl ⟨(Nat.le_of_ble_eq_true rfl), (Nat.le_of_ble_eq_true rfl)⟩ (e_X3_truth l 0) dX3_joined_110 [] (show List.Perm [] (List.range 0) from by decide) rfl rfl rfl (Nat.le_of_ble_eq_true rfl) (fun zc1 zr hq hk => ?_)
      obtain ⟨rfl, rfl⟩ := hq
      try dsimp only at hV
      exact X_iret ex_nI rfl dX3_joined_113 (by (repeat refine ex_kc ?_) <;> rfl) (by subst hV; exact ⟨rfl, rfl⟩)
    · have hV := hV.trans (if_neg c_12)
      refine X_iconst (v := 1) dX3_joined_105 (by decide) ?_
      refine X_goto (tgt := 110) dX3_joined_106 (by decide) ?_
      refine X_callS (rest := []) (stk := []) co_X3_123 rfl ⟨(Nat.le_of_ble_eq_true rfl), (Nat.le_of_ble_eq_true rfl)⟩ (e_X3_truth l 1) dX3_joined_110 [] (show List.Perm [] (List.range 0) from by decide) rfl rfl rfl (Nat.le_of_ble_eq_true rfl) (fun zc1 zr hq hk => ?_)
      obtain ⟨rfl, rfl⟩ := hq
      try dsimp only at hV
      exact X_iret ex_nI rfl dX3_joined_113 (by (repeat refine ex_kc ?_) <;> rfl) (by subst hV; exact ⟨rfl, rfl⟩)

def F_X3_facesDish (mo : Int32) (ofs : Int32) (fc : Nat → Int32) : (Nat → Int32) := (upd (upd fc 0 mo) 1 ofs)
set_option maxHeartbeats 4000000 in
set_option maxRecDepth 100000 in
theorem e_X3_facesDish (l : Launch) (lw : Nat) (mo : Int32) (ofs : Int32) (w0 : Nat) (sl : Nat) (w2 : Nat) (wn : Nat) (dp : Int32) (op : Int32) (w6 : Nat) (w7 : Nat) (fc : Nat → Int32) : ex_M l yX3_facesDish cX3_facesDish 3 none 0 0 [ex_r lw, ex_i mo, ex_i ofs] [(lw, ex_o 3 [ex_r w0, ex_i (nI sl), ex_r w2, ex_i (nI wn), ex_i dp, ex_i op, ex_r w6, ex_r w7]), (w7, ex_a 1 5 fc)] (fun zcs zr => zcs = [(lw, ex_o 3 [ex_r w0, ex_i (nI sl), ex_r w2, ex_i (nI wn), ex_i dp, ex_i op, ex_r w6, ex_r w7]), (w7, ex_a 1 5 (F_X3_facesDish mo ofs fc))] ∧ zr = none) := by
  refine X_meth (by decide) (Nat.le_of_ble_eq_true rfl) ?_
  generalize hV : F_X3_facesDish mo ofs fc = V0
  have hV := hV.symm
  unfold F_X3_facesDish at hV
  try dsimp only at hV
  refine X_aload_n (j := 0) dX3_facesDish_0 rfl rfl ?_
  refine X_get (j := 0) fo_X3_34 dX3_facesDish_1 rfl rfl ?_
  refine X_iconst (v := 0) dX3_facesDish_4 (by decide) ?_
  refine X_iload_n (j := 1) dX3_facesDish_5 rfl rfl ?_
  refine X_iast (j := 1) (g := upd fc 0 mo) (cs' := [(lw, ex_o 3 [ex_r w0, ex_i (nI sl), ex_r w2, ex_i (nI wn), ex_i dp, ex_i op, ex_r w6, ex_r w7]), (w7, ex_a 1 5 (upd fc 0 mo))]) dX3_facesDish_6 rfl (vin (by decide)) rfl rfl ?_
  refine X_aload_n (j := 0) dX3_facesDish_7 rfl rfl ?_
  refine X_get (j := 0) fo_X3_34 dX3_facesDish_8 rfl rfl ?_
  refine X_iconst (v := 1) dX3_facesDish_11 (by decide) ?_
  refine X_iload_n (j := 2) dX3_facesDish_12 rfl rfl ?_
  refine X_iast (j := 1) (g := upd (upd fc 0 mo) 1 ofs) (cs' := [(lw, ex_o 3 [ex_r w0, ex_i (nI sl), ex_r w2, ex_i (nI wn), ex_i dp, ex_i op, ex_r w6, ex_r w7]), (w7, ex_a 1 5 (upd (upd fc 0 mo) 1 ofs))]) dX3_facesDish_13 rfl (vin (by decide)) rfl rfl ?_
  try dsimp only at hV
  exact X_vret dX3_facesDish_14 (by (repeat refine ex_kc ?_) <;> rfl) (by subst hV; exact ⟨rfl, rfl⟩)

def F_X3_worked_L4 (sp : Nat → Int32) (fc : Nat → Int32) : Nat → Nat → Nat → (Nat → Int32) → Nat × (Nat → Int32)
  | 0, k4, t4, s4_1 => (t4, s4_1)
  | zn + 1, k4, t4, s4_1 => (if (sp k4) < (-5) then (if (sp k4) = (-6) then (if (nI t4) ≤ 0 then F_X3_worked_L4 sp fc zn (k4 + 1) t4 s4_1 else (if (s4_1 (t4 - 1)) = 0 then F_X3_worked_L4 sp fc zn (k4 + 1) t4 (upd s4_1 (t4 - 1) (F_X3_truth 1)) else F_X3_worked_L4 sp fc zn (k4 + 1) t4 (upd s4_1 (t4 - 1) (F_X3_truth 0)))) else (if (nI t4) ≤ 1 then F_X3_worked_L4 sp fc zn (k4 + 1) t4 s4_1 else F_X3_worked_L4 sp fc zn (k4 + 1) (t4 - 1) (upd s4_1 (t4 - 1 - 1) (F_X3_joined (sp k4) (s4_1 (t4 - 1 - 1)) (s4_1 (t4 - 1)))))) else (if 40 ≤ (nI t4) then F_X3_worked_L4 sp fc zn (k4 + 1) t4 s4_1 else (if (sp k4) < 0 then F_X3_worked_L4 sp fc zn (k4 + 1) (t4 + 1) (upd s4_1 t4 (fc ((-1) - (sp k4)).toNatClampNeg)) else F_X3_worked_L4 sp fc zn (k4 + 1) (t4 + 1) (upd s4_1 t4 (sp k4)))))
theorem F_X3_worked_L4_z (sp : Nat → Int32) (fc : Nat → Int32) (k4 : Nat) (t4 : Nat) (s4_1 : Nat → Int32) : F_X3_worked_L4 sp fc 0 k4 t4 s4_1 = (t4, s4_1) := rfl
theorem F_X3_worked_L4_s (sp : Nat → Int32) (fc : Nat → Int32) (k4 : Nat) (t4 : Nat) (s4_1 : Nat → Int32) (zn : Nat) : F_X3_worked_L4 sp fc (zn + 1) k4 t4 s4_1 = (if (sp k4) < (-5) then (if (sp k4) = (-6) then (if (nI t4) ≤ 0 then F_X3_worked_L4 sp fc zn (k4 + 1) t4 s4_1 else (if (s4_1 (t4 - 1)) = 0 then F_X3_worked_L4 sp fc zn (k4 + 1) t4 (upd s4_1 (t4 - 1) (F_X3_truth 1)) else F_X3_worked_L4 sp fc zn (k4 + 1) t4 (upd s4_1 (t4 - 1) (F_X3_truth 0)))) else (if (nI t4) ≤ 1 then F_X3_worked_L4 sp fc zn (k4 + 1) t4 s4_1 else F_X3_worked_L4 sp fc zn (k4 + 1) (t4 - 1) (upd s4_1 (t4 - 1 - 1) (F_X3_joined (sp k4) (s4_1 (t4 - 1 - 1)) (s4_1 (t4 - 1)))))) else (if 40 ≤ (nI t4) then F_X3_worked_L4 sp fc zn (k4 + 1) t4 s4_1 else (if (sp k4) < 0 then F_X3_worked_L4 sp fc zn (k4 + 1) (t4 + 1) (upd s4_1 t4 (fc ((-1) - (sp k4)).toNatClampNeg)) else F_X3_worked_L4 sp fc zn (k4 + 1) (t4 + 1) (upd s4_1 t4 (sp k4))))) := rfl
def F_X3_worked (sl : Nat) (sp : Nat → Int32) (vf : Nat → Int32) (fc : Nat → Int32) : (Nat → Int32) × Int32 := ((fun (v_1 : Nat × (Nat → Int32)) => (v_1.2, v_1.2 0)) (F_X3_worked_L4 sp fc (sl - 0) 0 0 vf))
set_option maxHeartbeats 4000000 in
set_option maxRecDepth 100000 in
theorem e_X3_worked (l : Launch) (lw : Nat) (w0 : Nat) (sl : Nat) (w2 : Nat) (wn : Nat) (dp : Int32) (op : Int32) (w6 : Nat) (w7 : Nat) (sp : Nat → Int32) (vf : Nat → Int32) (fc : Nat → Int32) (hsl : sl ≤ 1000) : ex_M l yX3_worked cX3_worked 4 (some .int) 2 42 [ex_r lw] [(lw, ex_o 3 [ex_r w0, ex_i (nI sl), ex_r w2, ex_i (nI wn), ex_i dp, ex_i op, ex_r w6, ex_r w7]), (w0, ex_a 1 1000 sp), (w6, ex_a 1 40 vf), (w7, ex_a 1 5 fc)] (fun zcs zr => zcs = [(lw, ex_o 3 [ex_r w0, ex_i (nI sl), ex_r w2, ex_i (nI wn), ex_i dp, ex_i op, ex_r w6, ex_r w7]), (w0, ex_a 1 1000 sp), (w6, ex_a 1 40 ((F_X3_worked sl sp vf fc).1)), (w7, ex_a 1 5 fc)] ∧ zr = some (ex_i (F_X3_worked sl sp vf fc).2)) := by
  refine X_meth (by decide) (Nat.le_of_ble_eq_true rfl) ?_
  generalize hV : F_X3_worked sl sp vf fc = V0
  have hV := hV.symm
  unfold F_X3_worked at hV
  try dsimp only at hV
  refine X_iconst (v := 0) dX3_worked_0 (by decide) ?_
  refine X_istore_n (lv' := [(1, ex_i 0), (0, ex_r lw)]) dX3_worked_1 rfl (Nat.le_of_ble_eq_true rfl) rfl ?_
  refine X_iconst (v := 0) dX3_worked_2 (by decide) ?_
  refine X_istore_n (lv' := [(2, ex_i 0), (1, ex_i 0), (0, ex_r lw)]) dX3_worked_3 rfl (Nat.le_of_ble_eq_true rfl) rfl ?_
  -- loop at 4
  try dsimp only at hV
  generalize hq_v_1 : F_X3_worked_L4 sp fc (sl - 0) 0 0 vf = v_1 at hV
  try dsimp only at hV
  refine X_cut (P := True) (csE := [(lw, ex_o 3 [ex_r w0, ex_i (nI sl), ex_r w2, ex_i (nI wn), ex_i dp, ex_i op, ex_r w6, ex_r w7]), (w0, ex_a 1 1000 sp), (w6, ex_a 1 40 v_1.2), (w7, ex_a 1 5 fc)]) (lvE := [(1, ex_i (nI v_1.1)), (0, ex_r lw)]) (E := 139) (fun hrest4 => ?_) (fun hPX4 => ?_)
  · have hL4 := hq_v_1.symm
    refine X_ind (fun (a4 : Nat × Nat × (Nat → Int32)) => v_1 = F_X3_worked_L4 sp fc (sl - a4.1) a4.1 a4.2.1 a4.2.2 ∧ a4.1 ≤ sl ∧ a4.2.1 ≤ 40) (fun (a4 : Nat × Nat × (Nat → Int32)) => sl - a4.1) (fun (a4 : Nat × Nat × (Nat → Int32)) => [(lw, ex_o 3 [ex_r w0, ex_i (nI sl), ex_r w2, ex_i (nI wn), ex_i dp, ex_i op, ex_r w6, ex_r w7]), (w0, ex_a 1 1000 sp), (w6, ex_a 1 40 a4.2.2), (w7, ex_a 1 5 fc)]) (fun (a4 : Nat × Nat × (Nat → Int32)) => [(2, ex_i (nI a4.1)), (1, ex_i (nI a4.2.1)), (0, ex_r lw)]) (fun ⟨k4, t4, s4_1⟩ hI4 ih4 => ?_) (0, 0, vf) ⟨hL4, (by omega), (Nat.zero_le _)⟩
    try dsimp only at hI4 ih4 ⊢
    have ihc4 : ∀ (k4_ : Nat) (t4_ : Nat) (s4_1_ : Nat → Int32), (v_1 = F_X3_worked_L4 sp fc (sl - k4_) k4_ t4_ s4_1_ ∧ k4_ ≤ sl ∧ t4_ ≤ 40) → (sl - k4_) < (sl - k4) → ex_O _ _ _ _ _ _ _ _ _ [(lw, ex_o 3 [ex_r w0, ex_i (nI sl), ex_r w2, ex_i (nI wn), ex_i dp, ex_i op, ex_r w6, ex_r w7]), (w0, ex_a 1 1000 sp), (w6, ex_a 1 40 s4_1_), (w7, ex_a 1 5 fc)] [(2, ex_i (nI k4_)), (1, ex_i (nI t4_)), (0, ex_r lw)] _ _ := fun k4_ t4_ s4_1_ hi_ hm_ => ih4 (k4_, t4_, s4_1_) hi_ hm_
    have hL4 := hI4.1
    have hb4 := hI4.2.1
    have ht := hI4.2.2
    refine X_iload_n (j := 0) dX3_worked_4 rfl rfl ?_
    refine X_aload_n (j := 2) dX3_worked_5 rfl rfl ?_
    refine X_get (j := 0) fo_X3_15 dX3_worked_6 rfl rfl ?_
    refine X_icmp_ge (tgt := 139) dX3_worked_9 (by decide) (fun c_2 => ?_) (fun c_2 => ?_)
    · have hlt4 : k4 = sl := nlex (L := sl) (by omega) hb4 c_2
      rw [show sl - k4 = 0 by omega] at hL4
      have hL4 := hL4.trans (F_X3_worked_L4_z ..)
      try dsimp only at hL4
      refine X_lv (lv' := [(1, ex_i (nI t4)), (0, ex_r lw)]) [1, 2] rfl ?_
      refine X_eq (cs' := [(lw, ex_o 3 [ex_r w0, ex_i (nI sl), ex_r w2, ex_i (nI wn), ex_i dp, ex_i op, ex_r w6, ex_r w7]), (w0, ex_a 1 1000 sp), (w6, ex_a 1 40 v_1.2), (w7, ex_a 1 5 fc)]) (lv' := [(1, ex_i (nI v_1.1)), (0, ex_r lw)]) (by subst hL4; rfl) (by subst hL4; rfl) ?_
      exact hrest4 trivial
    · have hlt4 : k4 < sl := nlen (L := sl) (by omega) hb4 c_2
      rw [show sl - k4 = (sl - (k4 + 1)) + 1 by omega] at hL4
      have hL4 := hL4.trans (F_X3_worked_L4_s ..)
      refine X_aload_n (j := 2) dX3_worked_12 rfl rfl ?_
      refine X_get (j := 0) fo_X3_9 dX3_worked_13 rfl rfl ?_
      refine X_iload_n (j := 0) dX3_worked_16 rfl rfl ?_
      refine X_iald (j := 1) (v := (sp k4)) dX3_worked_17 rfl (vp_in_nI (show k4 < 1000 by omega) (by decide)) (by rw [nI_clamp (by omega)]) ?_
      refine X_istore_n (lv' := [(3, ex_i (sp k4)), (2, ex_i (nI k4)), (1, ex_i (nI t4)), (0, ex_r lw)]) dX3_worked_18 rfl (Nat.le_of_ble_eq_true rfl) rfl ?_
      refine X_iload_n (j := 0) dX3_worked_19 rfl rfl ?_
      refine X_bipush (v := (-5)) dX3_worked_20 (by decide) ?_
      refine X_icmp_lt (tgt := 59) dX3_worked_22 (by decide) (fun c_3 => ?_) (fun c_3 => ?_)
      · have hL4 := hL4.trans (if_pos c_3)
        refine X_iload_n (j := 0) dX3_worked_59 rfl rfl ?_
        refine X_bipush (v := (-6)) dX3_worked_60 (by decide) ?_
        refine X_icmp_ne (tgt := 99) dX3_worked_62 (by decide) (fun c_4 => ?_) (fun c_4 => ?_)
        · have hL4 := hL4.trans (if_neg c_4)
          refine X_iload_n (j := 2) dX3_worked_99 rfl rfl ?_
          refine X_iconst (v := 1) dX3_worked_100 (by decide) ?_
          refine X_icmp_le (tgt := 133) dX3_worked_101 (by decide) (fun c_5 => ?_) (fun c_5 => ?_)
          · have hL4 := hL4.trans (if_pos c_5)
            refine X_iinc (v := nI (k4 + 1)) (j := 1) (lv' := [(2, ex_i (nI (k4 + 1))), (3, ex_i (sp k4)), (1, ex_i (nI t4)), (0, ex_r lw)]) dX3_worked_133 rfl (nI_add k4 1) (Nat.le_of_ble_eq_true rfl) rfl ?_
            refine X_goto (tgt := 4) dX3_worked_136 (by decide) ?_
            try dsimp only at hL4
            refine X_lv (lv' := [(2, ex_i (nI (k4 + 1))), (1, ex_i (nI t4)), (0, ex_r lw)]) [0, 2, 3] rfl ?_
            exact ihc4 (k4 + 1) t4 s4_1 ⟨hL4, (show (k4 + 1) ≤ sl by omega), (show t4 ≤ 40 by omega)⟩ (show sl - (k4 + 1) < sl - k4 by omega)
          · have hL4 := hL4.trans (if_neg c_5)
            have ht1 : 1 < t4 := nI_gt (a := 1) (by omega) c_5
            refine X_iinc (v := nI (t4 - 1)) (j := 2) (lv' := [(1, ex_i (nI (t4 - 1))), (3, ex_i (sp k4)), (2, ex_i (nI k4)), (0, ex_r lw)]) dX3_worked_104 rfl (nI_s1 (a := t4) (by omega)) (Nat.le_of_ble_eq_true rfl) rfl ?_
            refine X_aload_n (j := 3) dX3_worked_107 rfl rfl ?_
            refine X_get (j := 0) fo_X3_31 dX3_worked_108 rfl rfl ?_
            refine X_iload_n (j := 0) dX3_worked_111 rfl rfl ?_
            refine X_iconst (v := 1) dX3_worked_112 (by decide) ?_
            refine X_isub (v := nI (t4 - 1 - 1)) dX3_worked_113 (nI_su (a := t4 - 1) (b := 1) (by omega)) ?_
            refine X_iload_n (j := 1) dX3_worked_114 rfl rfl ?_
            refine X_aload_n (j := 3) dX3_worked_115 rfl rfl ?_
            refine X_get (j := 0) fo_X3_31 dX3_worked_116 rfl rfl ?_
            refine X_iload_n (j := 0) dX3_worked_119 rfl rfl ?_
            refine X_iconst (v := 1) dX3_worked_120 (by decide) ?_
            refine X_isub (v := nI (t4 - 1 - 1)) dX3_worked_121 (nI_su (a := t4 - 1) (b := 1) (by omega)) ?_
            refine X_iald (j := 2) (v := (s4_1 (t4 - 1 - 1))) dX3_worked_122 rfl (vp_in_nI (show t4 - 1 - 1 < 40 by omega) (by decide)) (by rw [nI_clamp (by omega)]) ?_
            refine X_aload_n (j := 3) dX3_worked_123 rfl rfl ?_
            refine X_get (j := 0) fo_X3_31 dX3_worked_124 rfl rfl ?_
            refine X_iload_n (j := 0) dX3_worked_127 rfl rfl ?_
            refine X_iald (j := 2) (v := (s4_1 (t4 - 1))) dX3_worked_128 rfl (vp_in_nI (show t4 - 1 < 40 by omega) (by decide)) (by rw [nI_clamp (by omega)]) ?_
            refine X_callS (rest := [(lw, ex_o 3 [ex_r w0, ex_i (nI sl), ex_r w2, ex_i (nI wn), ex_i dp, ex_i op, ex_r w6, ex_r w7]), (w0, ex_a 1 1000 sp), (w6, ex_a 1 40 s4_1), (w7, ex_a 1 5 fc)]) (stk := [ex_i (nI (t4 - 1 - 1)), ex_r w6]) co_X3_133 rfl ⟨(Nat.le_of_ble_eq_true rfl), (Nat.le_of_ble_eq_true rfl)⟩ (e_X3_joined l (sp k4) (s4_1 (t4 - 1 - 1)) (s4_1 (t4 - 1))) dX3_worked_129 [0, 1, 2, 3] (show List.Perm [0, 1, 2, 3] (List.range 4) from by decide) rfl rfl rfl (Nat.le_of_ble_eq_true rfl) (fun zc1 zr hq hk => ?_)
            obtain ⟨rfl, rfl⟩ := hq
            refine X_iast (j := 2) (g := upd s4_1 (t4 - 1 - 1) (F_X3_joined (sp k4) (s4_1 (t4 - 1 - 1)) (s4_1 (t4 - 1)))) (cs' := [(lw, ex_o 3 [ex_r w0, ex_i (nI sl), ex_r w2, ex_i (nI wn), ex_i dp, ex_i op, ex_r w6, ex_r w7]), (w0, ex_a 1 1000 sp), (w6, ex_a 1 40 (upd s4_1 (t4 - 1 - 1) (F_X3_joined (sp k4) (s4_1 (t4 - 1 - 1)) (s4_1 (t4 - 1))))), (w7, ex_a 1 5 fc)]) dX3_worked_132 rfl (vp_in_nI (show t4 - 1 - 1 < 40 by omega) (by decide)) (by rw [nI_clamp (by omega)]) rfl ?_
            refine X_iinc (v := nI (k4 + 1)) (j := 2) (lv' := [(2, ex_i (nI (k4 + 1))), (1, ex_i (nI (t4 - 1))), (3, ex_i (sp k4)), (0, ex_r lw)]) dX3_worked_133 rfl (nI_add k4 1) (Nat.le_of_ble_eq_true rfl) rfl ?_
            refine X_goto (tgt := 4) dX3_worked_136 (by decide) ?_
            try dsimp only at hL4
            refine X_lv (lv' := [(2, ex_i (nI (k4 + 1))), (1, ex_i (nI (t4 - 1))), (0, ex_r lw)]) [0, 1, 3] rfl ?_
            exact ihc4 (k4 + 1) (t4 - 1) (upd s4_1 (t4 - 1 - 1) (F_X3_joined (sp k4) (s4_1 (t4 - 1 - 1)) (s4_1 (t4 - 1)))) ⟨hL4, (show (k4 + 1) ≤ sl by omega), (show (t4 - 1) ≤ 40 by omega)⟩ (show sl - (k4 + 1) < sl - k4 by omega)
        · have hL4 := hL4.trans (if_pos c_4)
          refine X_iload_n (j := 2) dX3_worked_65 rfl rfl ?_
          refine X_if_le (tgt := 133) dX3_worked_66 (by decide) (fun c_6 => ?_) (fun c_6 => ?_)
          · have hL4 := hL4.trans (if_pos c_6)
            refine X_iinc (v := nI (k4 + 1)) (j := 1) (lv' := [(2, ex_i (nI (k4 + 1))), (3, ex_i (sp k4)), (1, ex_i (nI t4)), (0, ex_r lw)]) dX3_worked_133 rfl (nI_add k4 1) (Nat.le_of_ble_eq_true rfl) rfl ?_
            refine X_goto (tgt := 4) dX3_worked_136 (by decide) ?_
            try dsimp only at hL4
            refine X_lv (lv' := [(2, ex_i (nI (k4 + 1))), (1, ex_i (nI t4)), (0, ex_r lw)]) [0, 2, 3] rfl ?_
            exact ihc4 (k4 + 1) t4 s4_1 ⟨hL4, (show (k4 + 1) ≤ sl by omega), (show t4 ≤ 40 by omega)⟩ (show sl - (k4 + 1) < sl - k4 by omega)
          · have hL4 := hL4.trans (if_neg c_6)
            have ht0 : 0 < t4 := nI_gt (a := 0) (by omega) c_6
            refine X_aload_n (j := 3) dX3_worked_69 rfl rfl ?_
            refine X_get (j := 0) fo_X3_31 dX3_worked_70 rfl rfl ?_
            refine X_iload_n (j := 2) dX3_worked_73 rfl rfl ?_
            refine X_iconst (v := 1) dX3_worked_74 (by decide) ?_
            refine X_isub (v := nI (t4 - 1)) dX3_worked_75 (nI_su (a := t4) (b := 1) (by omega)) ?_
            refine X_aload_n (j := 3) dX3_worked_76 rfl rfl ?_
            refine X_get (j := 0) fo_X3_31 dX3_worked_77 rfl rfl ?_
            refine X_iload_n (j := 2) dX3_worked_80 rfl rfl ?_
            refine X_iconst (v := 1) dX3_worked_81 (by decide) ?_
            refine X_isub (v := nI (t4 - 1)) dX3_worked_82 (nI_su (a := t4) (b := 1) (by omega)) ?_
            refine X_iald (j := 2) (v := (s4_1 (t4 - 1))) dX3_worked_83 rfl (vp_in_nI (show t4 - 1 < 40 by omega) (by decide)) (by rw [nI_clamp (by omega)]) ?_
            refine X_if_ne (tgt := 91) dX3_worked_84 (by decide) (fun c_7 => ?_) (fun c_7 => ?_)
            · have hL4 := hL4.trans (if_neg c_7)
              refine X_iconst (v := 0) dX3_worked_91 (by decide) ?_
              refine X_callS (rest := [(lw, ex_o 3 [ex_r w0, ex_i (nI sl), ex_r w2, ex_i (nI wn), ex_i dp, ex_i op, ex_r w6, ex_r w7]), (w0, ex_a 1 1000 sp), (w6, ex_a 1 40 s4_1), (w7, ex_a 1 5 fc)]) (stk := [ex_i (nI (t4 - 1)), ex_r w6]) co_X3_123 rfl ⟨(Nat.le_of_ble_eq_true rfl), (Nat.le_of_ble_eq_true rfl)⟩ (e_X3_truth l 0) dX3_worked_92 [0, 1, 2, 3] (show List.Perm [0, 1, 2, 3] (List.range 4) from by decide) rfl rfl rfl (Nat.le_of_ble_eq_true rfl) (fun zc1 zr hq hk => ?_)
              obtain ⟨rfl, rfl⟩ := hq
              refine X_iast (j := 2) (g := upd s4_1 (t4 - 1) (F_X3_truth 0)) (cs' := [(lw, ex_o 3 [ex_r w0, ex_i (nI sl), ex_r w2, ex_i (nI wn), ex_i dp, ex_i op, ex_r w6, ex_r w7]), (w0, ex_a 1 1000 sp), (w6, ex_a 1 40 (upd s4_1 (t4 - 1) (F_X3_truth 0))), (w7, ex_a 1 5 fc)]) dX3_worked_95 rfl (vp_in_nI (show t4 - 1 < 40 by omega) (by decide)) (by rw [nI_clamp (by omega)]) rfl ?_
              refine X_goto (tgt := 133) dX3_worked_96 (by decide) ?_
              refine X_iinc (v := nI (k4 + 1)) (j := 1) (lv' := [(2, ex_i (nI (k4 + 1))), (3, ex_i (sp k4)), (1, ex_i (nI t4)), (0, ex_r lw)]) dX3_worked_133 rfl (nI_add k4 1) (Nat.le_of_ble_eq_true rfl) rfl ?_
              refine X_goto (tgt := 4) dX3_worked_136 (by decide) ?_
              try dsimp only at hL4
              refine X_lv (lv' := [(2, ex_i (nI (k4 + 1))), (1, ex_i (nI t4)), (0, ex_r lw)]) [0, 2, 3] rfl ?_
              exact ihc4 (k4 + 1) t4 (upd s4_1 (t4 - 1) (F_X3_truth 0)) ⟨hL4, (show (k4 + 1) ≤ sl by omega), (show t4 ≤ 40 by omega)⟩ (show sl - (k4 + 1) < sl - k4 by omega)
            · have hL4 := hL4.trans (if_pos c_7)
              refine X_iconst (v := 1) dX3_worked_87 (by decide) ?_
              refine X_goto (tgt := 92) dX3_worked_88 (by decide) ?_
              refine X_callS (rest := [(lw, ex_o 3 [ex_r w0, ex_i (nI sl), ex_r w2, ex_i (nI wn), ex_i dp, ex_i op, ex_r w6, ex_r w7]), (w0, ex_a 1 1000 sp), (w6, ex_a 1 40 s4_1), (w7, ex_a 1 5 fc)]) (stk := [ex_i (nI (t4 - 1)), ex_r w6]) co_X3_123 rfl ⟨(Nat.le_of_ble_eq_true rfl), (Nat.le_of_ble_eq_true rfl)⟩ (e_X3_truth l 1) dX3_worked_92 [0, 1, 2, 3] (show List.Perm [0, 1, 2, 3] (List.range 4) from by decide) rfl rfl rfl (Nat.le_of_ble_eq_true rfl) (fun zc1 zr hq hk => ?_)
              obtain ⟨rfl, rfl⟩ := hq
              refine X_iast (j := 2) (g := upd s4_1 (t4 - 1) (F_X3_truth 1)) (cs' := [(lw, ex_o 3 [ex_r w0, ex_i (nI sl), ex_r w2, ex_i (nI wn), ex_i dp, ex_i op, ex_r w6, ex_r w7]), (w0, ex_a 1 1000 sp), (w6, ex_a 1 40 (upd s4_1 (t4 - 1) (F_X3_truth 1))), (w7, ex_a 1 5 fc)]) dX3_worked_95 rfl (vp_in_nI (show t4 - 1 < 40 by omega) (by decide)) (by rw [nI_clamp (by omega)]) rfl ?_
              refine X_goto (tgt := 133) dX3_worked_96 (by decide) ?_
              refine X_iinc (v := nI (k4 + 1)) (j := 1) (lv' := [(2, ex_i (nI (k4 + 1))), (3, ex_i (sp k4)), (1, ex_i (nI t4)), (0, ex_r lw)]) dX3_worked_133 rfl (nI_add k4 1) (Nat.le_of_ble_eq_true rfl) rfl ?_
              refine X_goto (tgt := 4) dX3_worked_136 (by decide) ?_
              try dsimp only at hL4
              refine X_lv (lv' := [(2, ex_i (nI (k4 + 1))), (1, ex_i (nI t4)), (0, ex_r lw)]) [0, 2, 3] rfl ?_
              exact ihc4 (k4 + 1) t4 (upd s4_1 (t4 - 1) (F_X3_truth 1)) ⟨hL4, (show (k4 + 1) ≤ sl by omega), (show t4 ≤ 40 by omega)⟩ (show sl - (k4 + 1) < sl - k4 by omega)
      · have hL4 := hL4.trans (if_neg c_3)
        refine X_iload_n (j := 2) dX3_worked_25 rfl rfl ?_
        refine X_bipush (v := 40) dX3_worked_26 (by decide) ?_
        refine X_icmp_ge (tgt := 133) dX3_worked_28 (by decide) (fun c_8 => ?_) (fun c_8 => ?_)
        · have hL4 := hL4.trans (if_pos c_8)
          refine X_iinc (v := nI (k4 + 1)) (j := 1) (lv' := [(2, ex_i (nI (k4 + 1))), (3, ex_i (sp k4)), (1, ex_i (nI t4)), (0, ex_r lw)]) dX3_worked_133 rfl (nI_add k4 1) (Nat.le_of_ble_eq_true rfl) rfl ?_
          refine X_goto (tgt := 4) dX3_worked_136 (by decide) ?_
          try dsimp only at hL4
          refine X_lv (lv' := [(2, ex_i (nI (k4 + 1))), (1, ex_i (nI t4)), (0, ex_r lw)]) [0, 2, 3] rfl ?_
          exact ihc4 (k4 + 1) t4 s4_1 ⟨hL4, (show (k4 + 1) ≤ sl by omega), (show t4 ≤ 40 by omega)⟩ (show sl - (k4 + 1) < sl - k4 by omega)
        · have hL4 := hL4.trans (if_neg c_8)
          have ht40 : t4 < 40 := nI_ltn (a := 40) (by omega) c_8
          refine X_aload_n (j := 3) dX3_worked_31 rfl rfl ?_
          refine X_get (j := 0) fo_X3_31 dX3_worked_32 rfl rfl ?_
          refine X_iload_n (j := 2) dX3_worked_35 rfl rfl ?_
          refine X_iload_n (j := 0) dX3_worked_36 rfl rfl ?_
          refine X_if_lt (tgt := 44) dX3_worked_37 (by decide) (fun c_9 => ?_) (fun c_9 => ?_)
          · have hL4 := hL4.trans (if_pos c_9)
            refine X_aload_n (j := 3) dX3_worked_44 rfl rfl ?_
            refine X_get (j := 0) fo_X3_34 dX3_worked_45 rfl rfl ?_
            refine X_iconst (v := (-1)) dX3_worked_48 (by decide) ?_
            refine X_iload_n (j := 0) dX3_worked_49 rfl rfl ?_
            refine X_isub (v := ((-1) - (sp k4))) dX3_worked_50 rfl ?_
            refine X_iald (j := 3) (v := (fc ((-1) - (sp k4)).toNatClampNeg)) dX3_worked_51 rfl (vp5 c_3 c_9) rfl ?_
            refine X_iast (j := 2) (g := upd s4_1 t4 (fc ((-1) - (sp k4)).toNatClampNeg)) (cs' := [(lw, ex_o 3 [ex_r w0, ex_i (nI sl), ex_r w2, ex_i (nI wn), ex_i dp, ex_i op, ex_r w6, ex_r w7]), (w0, ex_a 1 1000 sp), (w6, ex_a 1 40 (upd s4_1 t4 (fc ((-1) - (sp k4)).toNatClampNeg))), (w7, ex_a 1 5 fc)]) dX3_worked_52 rfl (vp_in_nI (show t4 < 40 by omega) (by decide)) (by rw [nI_clamp (by omega)]) rfl ?_
            refine X_iinc (v := nI (t4 + 1)) (j := 2) (lv' := [(1, ex_i (nI (t4 + 1))), (3, ex_i (sp k4)), (2, ex_i (nI k4)), (0, ex_r lw)]) dX3_worked_53 rfl (nI_add t4 1) (Nat.le_of_ble_eq_true rfl) rfl ?_
            refine X_goto (tgt := 133) dX3_worked_56 (by decide) ?_
            refine X_iinc (v := nI (k4 + 1)) (j := 2) (lv' := [(2, ex_i (nI (k4 + 1))), (1, ex_i (nI (t4 + 1))), (3, ex_i (sp k4)), (0, ex_r lw)]) dX3_worked_133 rfl (nI_add k4 1) (Nat.le_of_ble_eq_true rfl) rfl ?_
            refine X_goto (tgt := 4) dX3_worked_136 (by decide) ?_
            try dsimp only at hL4
            refine X_lv (lv' := [(2, ex_i (nI (k4 + 1))), (1, ex_i (nI (t4 + 1))), (0, ex_r lw)]) [0, 1, 3] rfl ?_
            exact ihc4 (k4 + 1) (t4 + 1) (upd s4_1 t4 (fc ((-1) - (sp k4)).toNatClampNeg)) ⟨hL4, (show (k4 + 1) ≤ sl by omega), (show (t4 + 1) ≤ 40 by omega)⟩ (show sl - (k4 + 1) < sl - k4 by omega)
          · have hL4 := hL4.trans (if_neg c_9)
            refine X_iload_n (j := 0) dX3_worked_40 rfl rfl ?_
            refine X_goto (tgt := 52) dX3_worked_41 (by decide) ?_
            refine X_iast (j := 2) (g := upd s4_1 t4 (sp k4)) (cs' := [(lw, ex_o 3 [ex_r w0, ex_i (nI sl), ex_r w2, ex_i (nI wn), ex_i dp, ex_i op, ex_r w6, ex_r w7]), (w0, ex_a 1 1000 sp), (w6, ex_a 1 40 (upd s4_1 t4 (sp k4))), (w7, ex_a 1 5 fc)]) dX3_worked_52 rfl (vp_in_nI (show t4 < 40 by omega) (by decide)) (by rw [nI_clamp (by omega)]) rfl ?_
            refine X_iinc (v := nI (t4 + 1)) (j := 2) (lv' := [(1, ex_i (nI (t4 + 1))), (3, ex_i (sp k4)), (2, ex_i (nI k4)), (0, ex_r lw)]) dX3_worked_53 rfl (nI_add t4 1) (Nat.le_of_ble_eq_true rfl) rfl ?_
            refine X_goto (tgt := 133) dX3_worked_56 (by decide) ?_
            refine X_iinc (v := nI (k4 + 1)) (j := 2) (lv' := [(2, ex_i (nI (k4 + 1))), (1, ex_i (nI (t4 + 1))), (3, ex_i (sp k4)), (0, ex_r lw)]) dX3_worked_133 rfl (nI_add k4 1) (Nat.le_of_ble_eq_true rfl) rfl ?_
            refine X_goto (tgt := 4) dX3_worked_136 (by decide) ?_
            try dsimp only at hL4
            refine X_lv (lv' := [(2, ex_i (nI (k4 + 1))), (1, ex_i (nI (t4 + 1))), (0, ex_r lw)]) [0, 1, 3] rfl ?_
            exact ihc4 (k4 + 1) (t4 + 1) (upd s4_1 t4 (sp k4)) ⟨hL4, (show (k4 + 1) ≤ sl by omega), (show (t4 + 1) ≤ 40 by omega)⟩ (show sl - (k4 + 1) < sl - k4 by omega)
  refine X_aload_n (j := 1) dX3_worked_139 rfl rfl ?_
  refine X_get (j := 0) fo_X3_31 dX3_worked_140 rfl rfl ?_
  refine X_iconst (v := 0) dX3_worked_143 (by decide) ?_
  refine X_iald (j := 2) (v := (v_1.2 0)) dX3_worked_144 rfl (vin (by decide)) rfl ?_
  try dsimp only at hV
  exact X_iret ex_nI rfl dX3_worked_145 (by (repeat refine ex_kc ?_) <;> rfl) (by subst hV; exact ⟨rfl, rfl⟩)

def F_X3_share (se : Int32) (slow : Int32) (own : Int32) (sl : Nat) (sp : Nat → Int32) (vf : Nat → Int32) (fc : Nat → Int32) : (Nat → Int32) × (Nat → Int32) × Int32 := ((fun (w_1 : (Nat → Int32) × Int32) => (w_1.1, upd (upd (upd fc 2 se) 3 (F_X3_truth slow)) 4 (F_X3_truth own), if 0 < (if w_1.2 < 99 then w_1.2 else 99) then (if w_1.2 < 99 then w_1.2 else 99) else 0)) (F_X3_worked sl sp vf (upd (upd (upd fc 2 se) 3 (F_X3_truth slow)) 4 (F_X3_truth own))))
set_option maxHeartbeats 4000000 in
set_option maxRecDepth 100000 in
theorem e_X3_share (l : Launch) (lw : Nat) (se : Int32) (slow : Int32) (own : Int32) (w0 : Nat) (sl : Nat) (w2 : Nat) (wn : Nat) (dp : Int32) (op : Int32) (w6 : Nat) (w7 : Nat) (sp : Nat → Int32) (vf : Nat → Int32) (fc : Nat → Int32) (hsl : sl ≤ 1000) : ex_M l yX3_share cX3_share 4 (some .int) 3 65 [ex_r lw, ex_i se, ex_i slow, ex_i own] [(lw, ex_o 3 [ex_r w0, ex_i (nI sl), ex_r w2, ex_i (nI wn), ex_i dp, ex_i op, ex_r w6, ex_r w7]), (w0, ex_a 1 1000 sp), (w6, ex_a 1 40 vf), (w7, ex_a 1 5 fc)] (fun zcs zr => zcs = [(lw, ex_o 3 [ex_r w0, ex_i (nI sl), ex_r w2, ex_i (nI wn), ex_i dp, ex_i op, ex_r w6, ex_r w7]), (w0, ex_a 1 1000 sp), (w6, ex_a 1 40 ((F_X3_share se slow own sl sp vf fc).1)), (w7, ex_a 1 5 ((F_X3_share se slow own sl sp vf fc).2.1))] ∧ zr = some (ex_i (F_X3_share se slow own sl sp vf fc).2.2)) := by
  refine X_meth (by decide) (Nat.le_of_ble_eq_true rfl) ?_
  generalize hV : F_X3_share se slow own sl sp vf fc = V0
  have hV := hV.symm
  unfold F_X3_share at hV
  try dsimp only at hV
  refine X_aload_n (j := 0) dX3_share_0 rfl rfl ?_
  refine X_get (j := 0) fo_X3_34 dX3_share_1 rfl rfl ?_
  refine X_iconst (v := 2) dX3_share_4 (by decide) ?_
  refine X_iload_n (j := 1) dX3_share_5 rfl rfl ?_
  refine X_iast (j := 3) (g := upd fc 2 se) (cs' := [(lw, ex_o 3 [ex_r w0, ex_i (nI sl), ex_r w2, ex_i (nI wn), ex_i dp, ex_i op, ex_r w6, ex_r w7]), (w0, ex_a 1 1000 sp), (w6, ex_a 1 40 vf), (w7, ex_a 1 5 (upd fc 2 se))]) dX3_share_6 rfl (vin (by decide)) rfl rfl ?_
  refine X_aload_n (j := 0) dX3_share_7 rfl rfl ?_
  refine X_get (j := 0) fo_X3_34 dX3_share_8 rfl rfl ?_
  refine X_iconst (v := 3) dX3_share_11 (by decide) ?_
  refine X_iload_n (j := 2) dX3_share_12 rfl rfl ?_
  refine X_callS (rest := [(lw, ex_o 3 [ex_r w0, ex_i (nI sl), ex_r w2, ex_i (nI wn), ex_i dp, ex_i op, ex_r w6, ex_r w7]), (w0, ex_a 1 1000 sp), (w6, ex_a 1 40 vf), (w7, ex_a 1 5 (upd fc 2 se))]) (stk := [ex_i 3, ex_r w7]) co_X3_123 rfl ⟨(Nat.le_of_ble_eq_true rfl), (Nat.le_of_ble_eq_true rfl)⟩ (e_X3_truth l slow) dX3_share_13 [0, 1, 2, 3] (show List.Perm [0, 1, 2, 3] (List.range 4) from by decide) rfl rfl rfl (Nat.le_of_ble_eq_true rfl) (fun zc1 zr hq hk => ?_)
  obtain ⟨rfl, rfl⟩ := hq
  refine X_iast (j := 3) (g := upd (upd fc 2 se) 3 (F_X3_truth slow)) (cs' := [(lw, ex_o 3 [ex_r w0, ex_i (nI sl), ex_r w2, ex_i (nI wn), ex_i dp, ex_i op, ex_r w6, ex_r w7]), (w0, ex_a 1 1000 sp), (w6, ex_a 1 40 vf), (w7, ex_a 1 5 (upd (upd fc 2 se) 3 (F_X3_truth slow)))]) dX3_share_16 rfl (vin (by decide)) rfl rfl ?_
  refine X_aload_n (j := 0) dX3_share_17 rfl rfl ?_
  refine X_get (j := 0) fo_X3_34 dX3_share_18 rfl rfl ?_
  refine X_iconst (v := 4) dX3_share_21 (by decide) ?_
  refine X_iload_n (j := 3) dX3_share_22 rfl rfl ?_
  refine X_callS (rest := [(lw, ex_o 3 [ex_r w0, ex_i (nI sl), ex_r w2, ex_i (nI wn), ex_i dp, ex_i op, ex_r w6, ex_r w7]), (w0, ex_a 1 1000 sp), (w6, ex_a 1 40 vf), (w7, ex_a 1 5 (upd (upd fc 2 se) 3 (F_X3_truth slow)))]) (stk := [ex_i 4, ex_r w7]) co_X3_123 rfl ⟨(Nat.le_of_ble_eq_true rfl), (Nat.le_of_ble_eq_true rfl)⟩ (e_X3_truth l own) dX3_share_23 [0, 1, 2, 3] (show List.Perm [0, 1, 2, 3] (List.range 4) from by decide) rfl rfl rfl (Nat.le_of_ble_eq_true rfl) (fun zc1 zr hq hk => ?_)
  obtain ⟨rfl, rfl⟩ := hq
  refine X_iast (j := 3) (g := upd (upd (upd fc 2 se) 3 (F_X3_truth slow)) 4 (F_X3_truth own)) (cs' := [(lw, ex_o 3 [ex_r w0, ex_i (nI sl), ex_r w2, ex_i (nI wn), ex_i dp, ex_i op, ex_r w6, ex_r w7]), (w0, ex_a 1 1000 sp), (w6, ex_a 1 40 vf), (w7, ex_a 1 5 (upd (upd (upd fc 2 se) 3 (F_X3_truth slow)) 4 (F_X3_truth own)))]) dX3_share_26 rfl (vin (by decide)) rfl rfl ?_
  refine X_iconst (v := 0) dX3_share_27 (by decide) ?_
  refine X_bipush (v := 99) dX3_share_28 (by decide) ?_
  refine X_aload_n (j := 0) dX3_share_30 rfl rfl ?_
  refine X_callV (j0 := 0) (rest := []) (stk := [ex_i 99, ex_i 0]) co_X3_127 rfl ⟨(Nat.le_of_ble_eq_true rfl), (Nat.le_of_ble_eq_true rfl)⟩ (e_X3_worked l lw w0 sl w2 wn dp op w6 w7 sp vf (upd (upd (upd fc 2 se) 3 (F_X3_truth slow)) 4 (F_X3_truth own)) (by first | assumption | omega)) dX3_share_31 [0, 1, 2, 3] (show List.Perm [0, 1, 2, 3] (List.range 4) from by decide) rfl rfl rfl rfl (Nat.le_of_ble_eq_true rfl) (fun zc1 zr hq hk => ?_)
  obtain ⟨rfl, rfl⟩ := hq
  try dsimp only at hV
  generalize hq_w_1 : F_X3_worked sl sp vf (upd (upd (upd fc 2 se) 3 (F_X3_truth slow)) 4 (F_X3_truth own)) = w_1 at hV ⊢
  try dsimp only at hV
  refine X_mmin (v := (if w_1.2 < 99 then w_1.2 else 99)) k_822 k_564 k_17 k_565 ⟨(Nat.le_of_ble_eq_true rfl), (Nat.le_of_ble_eq_true rfl)⟩ (Nat.le_of_ble_eq_true rfl) dX3_share_34 rfl ?_
  refine X_mmax (v := (if 0 < (if w_1.2 < 99 then w_1.2 else 99) then (if w_1.2 < 99 then w_1.2 else 99) else 0)) k_776 k_561 k_17 k_562 ⟨(Nat.le_of_ble_eq_true rfl), (Nat.le_of_ble_eq_true rfl)⟩ (Nat.le_of_ble_eq_true rfl) dX3_share_37 rfl ?_
  try dsimp only at hV
  exact X_iret ex_nI rfl dX3_share_40 (by (repeat refine ex_kc ?_) <;> rfl) (by subst hV; exact ⟨rfl, rfl⟩)
