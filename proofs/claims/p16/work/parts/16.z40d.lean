def F_X0_isSick (i : Nat) (day : Int32) (sf : Nat → Int32) (st : Nat → Int32) : Int32 := (if (sf i) = (-1) then 0 else (if day < (sf i) then 0 else (if (st i) < day then 0 else 1)))
set_option maxHeartbeats 4000000 in
set_option maxRecDepth 100000 in
theorem e_X0_isSick (l : Launch) (c : Nat) (i : Nat) (day : Int32) (c0 : Nat) (c1 : Nat) (c2 : Nat) (c3 : Nat) (c4 : Nat) (c5 : Nat) (c6 : Nat) (c7 : Nat) (c8 : Nat) (c9 : Nat) (c10 : Nat) (c11 : Nat) (c12 : Nat) (np : Nat) (nd : Nat) (sto : Int32) (res : Int32) (c17 : Nat) (c18 : Nat) (c19 : Nat) (sf : Nat → Int32) (st : Nat → Int32) (hi : i < 6) : ex_M l yX0_isSick cX0_isSick 3 (some .boolean) 0 0 [ex_r c, ex_i (nI i), ex_i day] [(c, ex_o 0 [ex_r c0, ex_r c1, ex_r c2, ex_r c3, ex_r c4, ex_r c5, ex_r c6, ex_r c7, ex_r c8, ex_r c9, ex_r c10, ex_r c11, ex_r c12, ex_i (nI np), ex_i (nI nd), ex_i sto, ex_i res, ex_r c17, ex_r c18, ex_r c19]), (c5, ex_a 1 6 sf), (c6, ex_a 1 6 st)] (fun zcs zr => zcs = [(c, ex_o 0 [ex_r c0, ex_r c1, ex_r c2, ex_r c3, ex_r c4, ex_r c5, ex_r c6, ex_r c7, ex_r c8, ex_r c9, ex_r c10, ex_r c11, ex_r c12, ex_i (nI np), ex_i (nI nd), ex_i sto, ex_i res, ex_r c17, ex_r c18, ex_r c19]), (c5, ex_a 1 6 sf), (c6, ex_a 1 6 st)] ∧ zr = some (ex_i (F_X0_isSick i day sf st))) := by
  refine X_meth (by decide) (Nat.le_of_ble_eq_true rfl) ?_
  generalize hV : F_X0_isSick i day sf st = V0
  have hV := hV.symm
  unfold F_X0_isSick at hV
  try dsimp only at hV
  refine X_aload_n (j := 0) dX0_isSick_0 rfl rfl ?_
  refine X_get (j := 0) fo_X0_28 dX0_isSick_1 rfl rfl ?_
  refine X_iload_n (j := 1) dX0_isSick_4 rfl rfl ?_
  refine X_iald (j := 1) (v := (sf i)) dX0_isSick_5 rfl (vp_in_nI (show i < 6 by omega) (by decide)) (by rw [nI_clamp (by omega)]) ?_
  refine X_iconst (v := (-1)) dX0_isSick_6 (by decide) ?_
  refine X_icmp_eq (tgt := 34) dX0_isSick_7 (by decide) (fun c_1 => ?_) (fun c_1 => ?_)
  · have hV := hV.trans (if_pos c_1)
    refine X_iconst (v := 0) dX0_isSick_34 (by decide) ?_
    try dsimp only at hV
    exact X_iret ex_nZ rfl dX0_isSick_35 (by (repeat refine ex_kc ?_) <;> rfl) (by subst hV; exact ⟨rfl, rfl⟩)
  · have hV := hV.trans (if_neg c_1)
    refine X_aload_n (j := 0) dX0_isSick_10 rfl rfl ?_
    refine X_get (j := 0) fo_X0_28 dX0_isSick_11 rfl rfl ?_
    refine X_iload_n (j := 1) dX0_isSick_14 rfl rfl ?_
    refine X_iald (j := 1) (v := (sf i)) dX0_isSick_15 rfl (vp_in_nI (show i < 6 by omega) (by decide)) (by rw [nI_clamp (by omega)]) ?_
    refine X_iload_n (j := 2) dX0_isSick_16 rfl rfl ?_
    refine X_icmp_gt (tgt := 34) dX0_isSick_17 (by decide) (fun c_2 => ?_) (fun c_2 => ?_)
    · have hV := hV.trans (if_pos c_2)
      refine X_iconst (v := 0) dX0_isSick_34 (by decide) ?_
      try dsimp only at hV
      exact X_iret ex_nZ rfl dX0_isSick_35 (by (repeat refine ex_kc ?_) <;> rfl) (by subst hV; exact ⟨rfl, rfl⟩)
    · have hV := hV.trans (if_neg c_2)
      refine X_iload_n (j := 2) dX0_isSick_20 rfl rfl ?_
      refine X_aload_n (j := 0) dX0_isSick_21 rfl rfl ?_
      refine X_get (j := 0) fo_X0_31 dX0_isSick_22 rfl rfl ?_
      refine X_iload_n (j := 1) dX0_isSick_25 rfl rfl ?_
      refine X_iald (j := 2) (v := (st i)) dX0_isSick_26 rfl (vp_in_nI (show i < 6 by omega) (by decide)) (by rw [nI_clamp (by omega)]) ?_
      refine X_icmp_gt (tgt := 34) dX0_isSick_27 (by decide) (fun c_3 => ?_) (fun c_3 => ?_)
      · have hV := hV.trans (if_pos c_3)
        refine X_iconst (v := 0) dX0_isSick_34 (by decide) ?_
        try dsimp only at hV
        exact X_iret ex_nZ rfl dX0_isSick_35 (by (repeat refine ex_kc ?_) <;> rfl) (by subst hV; exact ⟨rfl, rfl⟩)
      · have hV := hV.trans (if_neg c_3)
        refine X_iconst (v := 1) dX0_isSick_30 (by decide) ?_
        refine X_goto (tgt := 35) dX0_isSick_31 (by decide) ?_
        try dsimp only at hV
        exact X_iret ex_nZ rfl dX0_isSick_35 (by (repeat refine ex_kc ?_) <;> rfl) (by subst hV; exact ⟨rfl, rfl⟩)
theorem F_X0_isSick_b (i : Nat) (day : Int32) (sf : Nat → Int32) (st : Nat → Int32) : F_X0_isSick i day sf st = 0 ∨ F_X0_isSick i day sf st = 1 := by
  unfold F_X0_isSick
  repeat' split
  all_goals first | exact Or.inl rfl | exact Or.inr rfl

def F_X0_everybody (np : Nat) : Nat := (2 ^ np - 1)
set_option maxHeartbeats 4000000 in
set_option maxRecDepth 100000 in
theorem e_X0_everybody (l : Launch) (c : Nat) (c0 : Nat) (c1 : Nat) (c2 : Nat) (c3 : Nat) (c4 : Nat) (c5 : Nat) (c6 : Nat) (c7 : Nat) (c8 : Nat) (c9 : Nat) (c10 : Nat) (c11 : Nat) (c12 : Nat) (np : Nat) (nd : Nat) (sto : Int32) (res : Int32) (c17 : Nat) (c18 : Nat) (c19 : Nat) (hnp : np ≤ 6) : ex_M l yX0_everybody cX0_everybody 1 (some .int) 0 0 [ex_r c] [(c, ex_o 0 [ex_r c0, ex_r c1, ex_r c2, ex_r c3, ex_r c4, ex_r c5, ex_r c6, ex_r c7, ex_r c8, ex_r c9, ex_r c10, ex_r c11, ex_r c12, ex_i (nI np), ex_i (nI nd), ex_i sto, ex_i res, ex_r c17, ex_r c18, ex_r c19])] (fun zcs zr => zcs = [(c, ex_o 0 [ex_r c0, ex_r c1, ex_r c2, ex_r c3, ex_r c4, ex_r c5, ex_r c6, ex_r c7, ex_r c8, ex_r c9, ex_r c10, ex_r c11, ex_r c12, ex_i (nI np), ex_i (nI nd), ex_i sto, ex_i res, ex_r c17, ex_r c18, ex_r c19])] ∧ zr = some (ex_i (nI (F_X0_everybody np)))) := by
  refine X_meth (by decide) (Nat.le_of_ble_eq_true rfl) ?_
  generalize hV : F_X0_everybody np = V0
  have hV := hV.symm
  unfold F_X0_everybody at hV
  try dsimp only at hV
  refine X_iconst (v := 1) dX0_everybody_0 (by decide) ?_
  refine X_aload_n (j := 0) dX0_everybody_1 rfl rfl ?_
  refine X_get (j := 0) fo_X0_56 dX0_everybody_2 rfl rfl ?_
  refine X_ishl (v := nI (2 ^ np)) dX0_everybody_5 (sh_pow hnp) ?_
  refine X_iconst (v := 1) dX0_everybody_6 (by decide) ?_
  refine X_isub (v := nI (2 ^ np - 1)) dX0_everybody_7 (nI_su (a := 2 ^ np) (b := 1) (Nat.one_le_two_pow)) ?_
  try dsimp only at hV
  exact X_iret ex_nI rfl dX0_everybody_8 (by (repeat refine ex_kc ?_) <;> rfl) (by subst hV; exact ⟨rfl, rfl⟩)

theorem eb_le {np : Nat} (h : np ≤ 6) : F_X0_everybody np ≤ 63 := (by decide +kernel : ∀ k, k < 7 → F_X0_everybody k ≤ 63) np (by omega)

def F_X0_costBy (e : Nat) (d : Nat) (kd : Nat → Int32) (co : Nat → Int32) : Int32 := (if (kd e) = 1 then (2 * (co d)) else (co d))
set_option maxHeartbeats 4000000 in
set_option maxRecDepth 100000 in
theorem e_X0_costBy (l : Launch) (c : Nat) (e : Nat) (d : Nat) (c0 : Nat) (c1 : Nat) (c2 : Nat) (c3 : Nat) (c4 : Nat) (c5 : Nat) (c6 : Nat) (c7 : Nat) (c8 : Nat) (c9 : Nat) (c10 : Nat) (c11 : Nat) (c12 : Nat) (np : Nat) (nd : Nat) (sto : Int32) (res : Int32) (c17 : Nat) (c18 : Nat) (c19 : Nat) (kd : Nat → Int32) (co : Nat → Int32) (he : e < 6) (hd : d < 5) : ex_M l yX0_costBy cX0_costBy 3 (some .int) 0 0 [ex_r c, ex_i (nI e), ex_i (nI d)] [(c, ex_o 0 [ex_r c0, ex_r c1, ex_r c2, ex_r c3, ex_r c4, ex_r c5, ex_r c6, ex_r c7, ex_r c8, ex_r c9, ex_r c10, ex_r c11, ex_r c12, ex_i (nI np), ex_i (nI nd), ex_i sto, ex_i res, ex_r c17, ex_r c18, ex_r c19]), (c1, ex_a 1 6 kd), (c11, ex_a 1 5 co)] (fun zcs zr => zcs = [(c, ex_o 0 [ex_r c0, ex_r c1, ex_r c2, ex_r c3, ex_r c4, ex_r c5, ex_r c6, ex_r c7, ex_r c8, ex_r c9, ex_r c10, ex_r c11, ex_r c12, ex_i (nI np), ex_i (nI nd), ex_i sto, ex_i res, ex_r c17, ex_r c18, ex_r c19]), (c1, ex_a 1 6 kd), (c11, ex_a 1 5 co)] ∧ zr = some (ex_i (F_X0_costBy e d kd co))) := by
  refine X_meth (by decide) (Nat.le_of_ble_eq_true rfl) ?_
  generalize hV : F_X0_costBy e d kd co = V0
  have hV := hV.symm
  unfold F_X0_costBy at hV
  try dsimp only at hV
  refine X_aload_n (j := 0) dX0_costBy_0 rfl rfl ?_
  refine X_get (j := 0) fo_X0_15 dX0_costBy_1 rfl rfl ?_
  refine X_iload_n (j := 1) dX0_costBy_4 rfl rfl ?_
  refine X_iald (j := 1) (v := (kd e)) dX0_costBy_5 rfl (vp_in_nI (show e < 6 by omega) (by decide)) (by rw [nI_clamp (by omega)]) ?_
  refine X_iconst (v := 1) dX0_costBy_6 (by decide) ?_
  refine X_icmp_ne (tgt := 21) dX0_costBy_7 (by decide) (fun c_1 => ?_) (fun c_1 => ?_)
  · have hV := hV.trans (if_neg c_1)
    refine X_aload_n (j := 0) dX0_costBy_21 rfl rfl ?_
    refine X_get (j := 0) fo_X0_46 dX0_costBy_22 rfl rfl ?_
    refine X_iload_n (j := 2) dX0_costBy_25 rfl rfl ?_
    refine X_iald (j := 2) (v := (co d)) dX0_costBy_26 rfl (vp_in_nI (show d < 5 by omega) (by decide)) (by rw [nI_clamp (by omega)]) ?_
    try dsimp only at hV
    exact X_iret ex_nI rfl dX0_costBy_27 (by (repeat refine ex_kc ?_) <;> rfl) (by subst hV; exact ⟨rfl, rfl⟩)
  · have hV := hV.trans (if_pos c_1)
    refine X_iconst (v := 2) dX0_costBy_10 (by decide) ?_
    refine X_aload_n (j := 0) dX0_costBy_11 rfl rfl ?_
    refine X_get (j := 0) fo_X0_46 dX0_costBy_12 rfl rfl ?_
    refine X_iload_n (j := 2) dX0_costBy_15 rfl rfl ?_
    refine X_iald (j := 2) (v := (co d)) dX0_costBy_16 rfl (vp_in_nI (show d < 5 by omega) (by decide)) (by rw [nI_clamp (by omega)]) ?_
    refine X_imul (v := (2 * (co d))) dX0_costBy_17 rfl ?_
    refine X_goto (tgt := 27) dX0_costBy_18 (by decide) ?_
    try dsimp only at hV
    exact X_iret ex_nI rfl dX0_costBy_27 (by (repeat refine ex_kc ?_) <;> rfl) (by subst hV; exact ⟨rfl, rfl⟩)

def F_X0_giftAt (e : Nat) (d : Nat) (slow : Int32) : Nat := (if slow = 0 then (((((e * 5) + d) * 2) + 1) * 6) else (((((e * 5) + d) * 2) + 0) * 6))
set_option maxHeartbeats 4000000 in
set_option maxRecDepth 100000 in
theorem e_X0_giftAt (l : Launch) (e : Nat) (d : Nat) (slow : Int32) (he : e < 6) (hd : d < 5) : ex_M l yX0_giftAt cX0_giftAt 3 (some .int) 0 0 [ex_i (nI e), ex_i (nI d), ex_i slow] [] (fun zcs zr => zcs = [] ∧ zr = some (ex_i (nI (F_X0_giftAt e d slow)))) := by
  refine X_meth (by decide) (Nat.le_of_ble_eq_true rfl) ?_
  generalize hV : F_X0_giftAt e d slow = V0
  have hV := hV.symm
  unfold F_X0_giftAt at hV
  try dsimp only at hV
  refine X_iload_n (j := 0) dX0_giftAt_0 rfl rfl ?_
  refine X_iconst (v := 5) dX0_giftAt_1 (by decide) ?_
  refine X_imul (v := nI (e * 5)) dX0_giftAt_2 (nI_mu e 5) ?_
  refine X_iload_n (j := 1) dX0_giftAt_3 rfl rfl ?_
  refine X_iadd (v := nI ((e * 5) + d)) dX0_giftAt_4 (nI_add (e * 5) d) ?_
  refine X_iconst (v := 2) dX0_giftAt_5 (by decide) ?_
  refine X_imul (v := nI (((e * 5) + d) * 2)) dX0_giftAt_6 (nI_mu ((e * 5) + d) 2) ?_
  refine X_iload_n (j := 2) dX0_giftAt_7 rfl rfl ?_
  refine X_if_eq (tgt := 15) dX0_giftAt_8 (by decide) (fun c_1 => ?_) (fun c_1 => ?_)
  · have hV := hV.trans (if_pos c_1)
    refine X_iconst (v := 1) dX0_giftAt_15 (by decide) ?_
    refine X_iadd (v := nI ((((e * 5) + d) * 2) + 1)) dX0_giftAt_16 (nI_add (((e * 5) + d) * 2) 1) ?_
    refine X_bipush (v := 6) dX0_giftAt_17 (by decide) ?_
    refine X_imul (v := nI (((((e * 5) + d) * 2) + 1) * 6)) dX0_giftAt_19 (nI_mu ((((e * 5) + d) * 2) + 1) 6) ?_
    try dsimp only at hV
    exact X_iret ex_nI rfl dX0_giftAt_20 (by (repeat refine ex_kc ?_) <;> rfl) (by subst hV; exact ⟨rfl, rfl⟩)
  · have hV := hV.trans (if_neg c_1)
    refine X_iconst (v := 0) dX0_giftAt_11 (by decide) ?_
    refine X_goto (tgt := 16) dX0_giftAt_12 (by decide) ?_
    refine X_iadd (v := nI ((((e * 5) + d) * 2) + 0)) dX0_giftAt_16 (nI_add (((e * 5) + d) * 2) 0) ?_
    refine X_bipush (v := 6) dX0_giftAt_17 (by decide) ?_
    refine X_imul (v := nI (((((e * 5) + d) * 2) + 0) * 6)) dX0_giftAt_19 (nI_mu ((((e * 5) + d) * 2) + 0) 6) ?_
    try dsimp only at hV
    exact X_iret ex_nI rfl dX0_giftAt_20 (by (repeat refine ex_kc ?_) <;> rfl) (by subst hV; exact ⟨rfl, rfl⟩)

theorem giAt_lt {e d : Nat} {s : Int32} (he : e < 6) (hd : d < 5) : F_X0_giftAt e d s ≤ 354 := by
  unfold F_X0_giftAt
  split <;> omega

def F_X0_gift (e : Nat) (d : Nat) (slow : Int32) (i : Nat) (gf : Nat → Int32) : Int32 := (gf ((F_X0_giftAt e d slow) + i))
set_option maxHeartbeats 4000000 in
set_option maxRecDepth 100000 in
theorem e_X0_gift (l : Launch) (c : Nat) (e : Nat) (d : Nat) (slow : Int32) (i : Nat) (c0 : Nat) (c1 : Nat) (c2 : Nat) (c3 : Nat) (c4 : Nat) (c5 : Nat) (c6 : Nat) (c7 : Nat) (c8 : Nat) (c9 : Nat) (c10 : Nat) (c11 : Nat) (c12 : Nat) (np : Nat) (nd : Nat) (sto : Int32) (res : Int32) (c17 : Nat) (c18 : Nat) (c19 : Nat) (gf : Nat → Int32) (he : e < 6) (hd : d < 5) (hi : i < 6) : ex_M l yX0_gift cX0_gift 5 (some .int) 1 22 [ex_r c, ex_i (nI e), ex_i (nI d), ex_i slow, ex_i (nI i)] [(c, ex_o 0 [ex_r c0, ex_r c1, ex_r c2, ex_r c3, ex_r c4, ex_r c5, ex_r c6, ex_r c7, ex_r c8, ex_r c9, ex_r c10, ex_r c11, ex_r c12, ex_i (nI np), ex_i (nI nd), ex_i sto, ex_i res, ex_r c17, ex_r c18, ex_r c19]), (c17, ex_a 1 360 gf)] (fun zcs zr => zcs = [(c, ex_o 0 [ex_r c0, ex_r c1, ex_r c2, ex_r c3, ex_r c4, ex_r c5, ex_r c6, ex_r c7, ex_r c8, ex_r c9, ex_r c10, ex_r c11, ex_r c12, ex_i (nI np), ex_i (nI nd), ex_i sto, ex_i res, ex_r c17, ex_r c18, ex_r c19]), (c17, ex_a 1 360 gf)] ∧ zr = some (ex_i (F_X0_gift e d slow i gf))) := by
  refine X_meth (by decide) (Nat.le_of_ble_eq_true rfl) ?_
  generalize hV : F_X0_gift e d slow i gf = V0
  have hV := hV.symm
  unfold F_X0_gift at hV
  try dsimp only at hV
  refine X_aload_n (j := 0) dX0_gift_0 rfl rfl ?_
  refine X_get (j := 0) fo_X0_69 dX0_gift_1 rfl rfl ?_
  refine X_iload_n (j := 1) dX0_gift_4 rfl rfl ?_
  refine X_iload_n (j := 2) dX0_gift_5 rfl rfl ?_
  refine X_iload_n (j := 3) dX0_gift_6 rfl rfl ?_
  refine X_callS (rest := [(c, ex_o 0 [ex_r c0, ex_r c1, ex_r c2, ex_r c3, ex_r c4, ex_r c5, ex_r c6, ex_r c7, ex_r c8, ex_r c9, ex_r c10, ex_r c11, ex_r c12, ex_i (nI np), ex_i (nI nd), ex_i sto, ex_i res, ex_r c17, ex_r c18, ex_r c19]), (c17, ex_a 1 360 gf)]) (stk := [ex_r c17]) co_X0_88 rfl ⟨(Nat.le_of_ble_eq_true rfl), (Nat.le_of_ble_eq_true rfl)⟩ (e_X0_giftAt l e d slow (by first | assumption | omega) (by first | assumption | omega)) dX0_gift_7 [0, 1] (show List.Perm [0, 1] (List.range 2) from by decide) rfl rfl rfl (Nat.le_of_ble_eq_true rfl) (fun zc1 zr hq hk => ?_)
  obtain ⟨rfl, rfl⟩ := hq
  have hgi := giAt_lt (s := slow) he hd
  refine X_iload (j := 4) dX0_gift_10 rfl ?_
  refine X_iadd (v := nI ((F_X0_giftAt e d slow) + i)) dX0_gift_12 (nI_add (F_X0_giftAt e d slow) i) ?_
  refine X_iald (j := 1) (v := (gf ((F_X0_giftAt e d slow) + i))) dX0_gift_13 rfl (vp_in_nI (show (F_X0_giftAt e d slow) + i < 360 by omega) (by decide)) (by rw [nI_clamp (by omega)]) ?_
  try dsimp only at hV
  exact X_iret ex_nI rfl dX0_gift_14 (by (repeat refine ex_kc ?_) <;> rfl) (by subst hV; exact ⟨rfl, rfl⟩)

def F_X0_giftAbroad (e : Nat) (d : Nat) (ga : Nat → Int32) : Int32 := (ga ((e * 5) + d))
set_option maxHeartbeats 4000000 in
set_option maxRecDepth 100000 in
theorem e_X0_giftAbroad (l : Launch) (c : Nat) (e : Nat) (d : Nat) (c0 : Nat) (c1 : Nat) (c2 : Nat) (c3 : Nat) (c4 : Nat) (c5 : Nat) (c6 : Nat) (c7 : Nat) (c8 : Nat) (c9 : Nat) (c10 : Nat) (c11 : Nat) (c12 : Nat) (np : Nat) (nd : Nat) (sto : Int32) (res : Int32) (c17 : Nat) (c18 : Nat) (c19 : Nat) (ga : Nat → Int32) (he : e < 6) (hd : d < 5) : ex_M l yX0_giftAbroad cX0_giftAbroad 3 (some .int) 0 0 [ex_r c, ex_i (nI e), ex_i (nI d)] [(c, ex_o 0 [ex_r c0, ex_r c1, ex_r c2, ex_r c3, ex_r c4, ex_r c5, ex_r c6, ex_r c7, ex_r c8, ex_r c9, ex_r c10, ex_r c11, ex_r c12, ex_i (nI np), ex_i (nI nd), ex_i sto, ex_i res, ex_r c17, ex_r c18, ex_r c19]), (c18, ex_a 1 30 ga)] (fun zcs zr => zcs = [(c, ex_o 0 [ex_r c0, ex_r c1, ex_r c2, ex_r c3, ex_r c4, ex_r c5, ex_r c6, ex_r c7, ex_r c8, ex_r c9, ex_r c10, ex_r c11, ex_r c12, ex_i (nI np), ex_i (nI nd), ex_i sto, ex_i res, ex_r c17, ex_r c18, ex_r c19]), (c18, ex_a 1 30 ga)] ∧ zr = some (ex_i (F_X0_giftAbroad e d ga))) := by
  refine X_meth (by decide) (Nat.le_of_ble_eq_true rfl) ?_
  generalize hV : F_X0_giftAbroad e d ga = V0
  have hV := hV.symm
  unfold F_X0_giftAbroad at hV
  try dsimp only at hV
  refine X_aload_n (j := 0) dX0_giftAbroad_0 rfl rfl ?_
  refine X_get (j := 0) fo_X0_72 dX0_giftAbroad_1 rfl rfl ?_
  refine X_iload_n (j := 1) dX0_giftAbroad_4 rfl rfl ?_
  refine X_iconst (v := 5) dX0_giftAbroad_5 (by decide) ?_
  refine X_imul (v := nI (e * 5)) dX0_giftAbroad_6 (nI_mu e 5) ?_
  refine X_iload_n (j := 2) dX0_giftAbroad_7 rfl rfl ?_
  refine X_iadd (v := nI ((e * 5) + d)) dX0_giftAbroad_8 (nI_add (e * 5) d) ?_
  refine X_iald (j := 1) (v := (ga ((e * 5) + d))) dX0_giftAbroad_9 rfl (vp_in_nI (show (e * 5) + d < 30 by omega) (by decide)) (by rw [nI_clamp (by omega)]) ?_
  try dsimp only at hV
  exact X_iret ex_nI rfl dX0_giftAbroad_10 (by (repeat refine ex_kc ?_) <;> rfl) (by subst hV; exact ⟨rfl, rfl⟩)

def F_X0_byKind (kn : Int32) (own : Int32) (shr : Int32) : Int32 := (if own = 0 then (if kn = 2 then (shr + 1) else (if kn = 3 then (if 0 < (shr - 1) then (shr - 1) else 0) else shr)) else (if kn = 1 then (2 * shr) else shr))
set_option maxHeartbeats 4000000 in
set_option maxRecDepth 100000 in
theorem e_X0_byKind (l : Launch) (kn : Int32) (own : Int32) (shr : Int32) : ex_M l yX0_byKind cX0_byKind 3 (some .int) 1 40 [ex_i kn, ex_i own, ex_i shr] [] (fun zcs zr => zcs = [] ∧ zr = some (ex_i (F_X0_byKind kn own shr))) := by
  refine X_meth (by decide) (Nat.le_of_ble_eq_true rfl) ?_
  generalize hV : F_X0_byKind kn own shr = V0
  have hV := hV.symm
  unfold F_X0_byKind at hV
  try dsimp only at hV
  refine X_iload_n (j := 1) dX0_byKind_0 rfl rfl ?_
  refine X_if_eq (tgt := 17) dX0_byKind_1 (by decide) (fun c_1 => ?_) (fun c_1 => ?_)
  · have hV := hV.trans (if_pos c_1)
    refine X_iload_n (j := 0) dX0_byKind_17 rfl rfl ?_
    refine X_iconst (v := 2) dX0_byKind_18 (by decide) ?_
    refine X_icmp_ne (tgt := 26) dX0_byKind_19 (by decide) (fun c_2 => ?_) (fun c_2 => ?_)
    · have hV := hV.trans (if_neg c_2)
      refine X_iload_n (j := 0) dX0_byKind_26 rfl rfl ?_
      refine X_iconst (v := 3) dX0_byKind_27 (by decide) ?_
      refine X_icmp_ne (tgt := 41) dX0_byKind_28 (by decide) (fun c_3 => ?_) (fun c_3 => ?_)
      · have hV := hV.trans (if_neg c_3)
        refine X_iload_n (j := 2) dX0_byKind_41 rfl rfl ?_
        try dsimp only at hV
        exact X_iret ex_nI rfl dX0_byKind_42 (by (repeat refine ex_kc ?_) <;> rfl) (by subst hV; exact ⟨rfl, rfl⟩)
      · have hV := hV.trans (if_pos c_3)
        refine X_iconst (v := 0) dX0_byKind_31 (by decide) ?_
        refine X_iload_n (j := 2) dX0_byKind_32 rfl rfl ?_
        refine X_iconst (v := 1) dX0_byKind_33 (by decide) ?_
        refine X_isub (v := (shr - 1)) dX0_byKind_34 rfl ?_
        refine X_mmax (v := (if 0 < (shr - 1) then (shr - 1) else 0)) k_833 k_561 k_17 k_562 ⟨(Nat.le_of_ble_eq_true rfl), (Nat.le_of_ble_eq_true rfl)⟩ (Nat.le_of_ble_eq_true rfl) dX0_byKind_35 rfl ?_
        refine X_goto (tgt := 42) dX0_byKind_38 (by decide) ?_
        try dsimp only at hV
        exact X_iret ex_nI rfl dX0_byKind_42 (by (repeat refine ex_kc ?_) <;> rfl) (by subst hV; exact ⟨rfl, rfl⟩)
    · have hV := hV.trans (if_pos c_2)
      refine X_iload_n (j := 2) dX0_byKind_22 rfl rfl ?_
      refine X_iconst (v := 1) dX0_byKind_23 (by decide) ?_
      refine X_iadd (v := (shr + 1)) dX0_byKind_24 rfl ?_
      try dsimp only at hV
      exact X_iret ex_nI rfl dX0_byKind_25 (by (repeat refine ex_kc ?_) <;> rfl) (by subst hV; exact ⟨rfl, rfl⟩)
  · have hV := hV.trans (if_neg c_1)
    refine X_iload_n (j := 0) dX0_byKind_4 rfl rfl ?_
    refine X_iconst (v := 1) dX0_byKind_5 (by decide) ?_
    refine X_icmp_ne (tgt := 15) dX0_byKind_6 (by decide) (fun c_4 => ?_) (fun c_4 => ?_)
    · have hV := hV.trans (if_neg c_4)
      refine X_iload_n (j := 2) dX0_byKind_15 rfl rfl ?_
      try dsimp only at hV
      exact X_iret ex_nI rfl dX0_byKind_16 (by (repeat refine ex_kc ?_) <;> rfl) (by subst hV; exact ⟨rfl, rfl⟩)
    · have hV := hV.trans (if_pos c_4)
      refine X_iconst (v := 2) dX0_byKind_9 (by decide) ?_
      refine X_iload_n (j := 2) dX0_byKind_10 rfl rfl ?_
      refine X_imul (v := (2 * shr)) dX0_byKind_11 rfl ?_
      refine X_goto (tgt := 16) dX0_byKind_12 (by decide) ?_
      try dsimp only at hV
      exact X_iret ex_nI rfl dX0_byKind_16 (by (repeat refine ex_kc ?_) <;> rfl) (by subst hV; exact ⟨rfl, rfl⟩)

def F_X0_settleGiftsOf_L3 (e : Nat) (d : Nat) (slow : Int32) (kd : Nat → Int32) (sl : Nat) (sp : Nat → Int32) : Nat → Nat → (Nat → Int32) → (Nat → Int32) → (Nat → Int32) → (Nat → Int32) × (Nat → Int32) × (Nat → Int32)
  | 0, k3, s3_0, s3_1, s3_2 => (s3_0, s3_1, s3_2)
  | zn + 1, k3, s3_0, s3_1, s3_2 => (if (nI k3) = (nI e) then ((fun (w_5 : (Nat → Int32) × (Nat → Int32) × Int32) => F_X0_settleGiftsOf_L3 e d slow kd sl sp zn (k3 + 1) (upd s3_0 ((F_X0_giftAt e d slow) + k3) (F_X0_byKind (kd e) 1 w_5.2.2)) w_5.1 w_5.2.1) (F_X3_share (aI ((nI e) - (nI k3))) slow 1 sl sp s3_1 s3_2)) else ((fun (w_4 : (Nat → Int32) × (Nat → Int32) × Int32) => F_X0_settleGiftsOf_L3 e d slow kd sl sp zn (k3 + 1) (upd s3_0 ((F_X0_giftAt e d slow) + k3) (F_X0_byKind (kd e) 0 w_4.2.2)) w_4.1 w_4.2.1) (F_X3_share (aI ((nI e) - (nI k3))) slow 0 sl sp s3_1 s3_2)))
theorem F_X0_settleGiftsOf_L3_z (e : Nat) (d : Nat) (slow : Int32) (kd : Nat → Int32) (sl : Nat) (sp : Nat → Int32) (k3 : Nat) (s3_0 : Nat → Int32) (s3_1 : Nat → Int32) (s3_2 : Nat → Int32) : F_X0_settleGiftsOf_L3 e d slow kd sl sp 0 k3 s3_0 s3_1 s3_2 = (s3_0, s3_1, s3_2) := rfl
theorem F_X0_settleGiftsOf_L3_s (e : Nat) (d : Nat) (slow : Int32) (kd : Nat → Int32) (sl : Nat) (sp : Nat → Int32) (k3 : Nat) (s3_0 : Nat → Int32) (s3_1 : Nat → Int32) (s3_2 : Nat → Int32) (zn : Nat) : F_X0_settleGiftsOf_L3 e d slow kd sl sp (zn + 1) k3 s3_0 s3_1 s3_2 = (if (nI k3) = (nI e) then ((fun (w_5 : (Nat → Int32) × (Nat → Int32) × Int32) => F_X0_settleGiftsOf_L3 e d slow kd sl sp zn (k3 + 1) (upd s3_0 ((F_X0_giftAt e d slow) + k3) (F_X0_byKind (kd e) 1 w_5.2.2)) w_5.1 w_5.2.1) (F_X3_share (aI ((nI e) - (nI k3))) slow 1 sl sp s3_1 s3_2)) else ((fun (w_4 : (Nat → Int32) × (Nat → Int32) × Int32) => F_X0_settleGiftsOf_L3 e d slow kd sl sp zn (k3 + 1) (upd s3_0 ((F_X0_giftAt e d slow) + k3) (F_X0_byKind (kd e) 0 w_4.2.2)) w_4.1 w_4.2.1) (F_X3_share (aI ((nI e) - (nI k3))) slow 0 sl sp s3_1 s3_2))) := rfl
def F_X0_settleGiftsOf (e : Nat) (d : Nat) (slow : Int32) (np : Nat) (kd : Nat → Int32) (gf : Nat → Int32) (sl : Nat) (sp : Nat → Int32) (vf : Nat → Int32) (fc : Nat → Int32) : (Nat → Int32) × (Nat → Int32) × (Nat → Int32) := ((fun (v_1 : (Nat → Int32) × (Nat → Int32) × (Nat → Int32)) => (v_1.1, v_1.2.1, v_1.2.2)) (F_X0_settleGiftsOf_L3 e d slow kd sl sp (np - 0) 0 gf vf fc))
set_option maxHeartbeats 4000000 in
set_option maxRecDepth 100000 in
theorem e_X0_settleGiftsOf (l : Launch) (c : Nat) (e : Nat) (d : Nat) (slow : Int32) (c0 : Nat) (c1 : Nat) (c2 : Nat) (c3 : Nat) (c4 : Nat) (c5 : Nat) (c6 : Nat) (c7 : Nat) (c8 : Nat) (c9 : Nat) (c10 : Nat) (c11 : Nat) (c12 : Nat) (np : Nat) (nd : Nat) (sto : Int32) (res : Int32) (c17 : Nat) (c18 : Nat) (c19 : Nat) (kd : Nat → Int32) (gf : Nat → Int32) (w0 : Nat) (sl : Nat) (w2 : Nat) (wn : Nat) (dp : Int32) (op : Int32) (w6 : Nat) (w7 : Nat) (sp : Nat → Int32) (vf : Nat → Int32) (fc : Nat → Int32) (he : e < 6) (hd : d < 5) (hnp : np ≤ 6) (hsl : sl ≤ 1000) : ex_M l yX0_settleGiftsOf cX0_settleGiftsOf 6 none 4 88 [ex_r c, ex_i (nI e), ex_i (nI d), ex_i slow] [(c, ex_o 0 [ex_r c0, ex_r c1, ex_r c2, ex_r c3, ex_r c4, ex_r c5, ex_r c6, ex_r c7, ex_r c8, ex_r c9, ex_r c10, ex_r c11, ex_r c12, ex_i (nI np), ex_i (nI nd), ex_i sto, ex_i res, ex_r c17, ex_r c18, ex_r c19]), (c1, ex_a 1 6 kd), (c17, ex_a 1 360 gf), (c12, ex_o 3 [ex_r w0, ex_i (nI sl), ex_r w2, ex_i (nI wn), ex_i dp, ex_i op, ex_r w6, ex_r w7]), (w0, ex_a 1 1000 sp), (w6, ex_a 1 40 vf), (w7, ex_a 1 5 fc)] (fun zcs zr => zcs = [(c, ex_o 0 [ex_r c0, ex_r c1, ex_r c2, ex_r c3, ex_r c4, ex_r c5, ex_r c6, ex_r c7, ex_r c8, ex_r c9, ex_r c10, ex_r c11, ex_r c12, ex_i (nI np), ex_i (nI nd), ex_i sto, ex_i res, ex_r c17, ex_r c18, ex_r c19]), (c1, ex_a 1 6 kd), (c17, ex_a 1 360 ((F_X0_settleGiftsOf e d slow np kd gf sl sp vf fc).1)), (c12, ex_o 3 [ex_r w0, ex_i (nI sl), ex_r w2, ex_i (nI wn), ex_i dp, ex_i op, ex_r w6, ex_r w7]), (w0, ex_a 1 1000 sp), (w6, ex_a 1 40 ((F_X0_settleGiftsOf e d slow np kd gf sl sp vf fc).2.1)), (w7, ex_a 1 5 ((F_X0_settleGiftsOf e d slow np kd gf sl sp vf fc).2.2))] ∧ zr = none) := by
  refine X_meth (by decide) (Nat.le_of_ble_eq_true rfl) ?_
  generalize hV : F_X0_settleGiftsOf e d slow np kd gf sl sp vf fc = V0
  have hV := hV.symm
  unfold F_X0_settleGiftsOf at hV
  try dsimp only at hV
  refine X_iconst (v := 0) dX0_settleGiftsOf_0 (by decide) ?_
  refine X_istore (lv' := [(4, ex_i 0), (0, ex_r c), (1, ex_i (nI e)), (2, ex_i (nI d)), (3, ex_i slow)]) dX0_settleGiftsOf_1 (Nat.le_of_ble_eq_true rfl) rfl ?_
  -- loop at 3
  try dsimp only at hV
  generalize hq_v_1 : F_X0_settleGiftsOf_L3 e d slow kd sl sp (np - 0) 0 gf vf fc = v_1 at hV
  try dsimp only at hV
  refine X_cut (P := True) (csE := [(c, ex_o 0 [ex_r c0, ex_r c1, ex_r c2, ex_r c3, ex_r c4, ex_r c5, ex_r c6, ex_r c7, ex_r c8, ex_r c9, ex_r c10, ex_r c11, ex_r c12, ex_i (nI np), ex_i (nI nd), ex_i sto, ex_i res, ex_r c17, ex_r c18, ex_r c19]), (c1, ex_a 1 6 kd), (c17, ex_a 1 360 v_1.1), (c12, ex_o 3 [ex_r w0, ex_i (nI sl), ex_r w2, ex_i (nI wn), ex_i dp, ex_i op, ex_r w6, ex_r w7]), (w0, ex_a 1 1000 sp), (w6, ex_a 1 40 v_1.2.1), (w7, ex_a 1 5 v_1.2.2)]) (lvE := [(0, ex_r c), (1, ex_i (nI e)), (2, ex_i (nI d)), (3, ex_i slow)]) (E := 82) (fun hrest3 => ?_) (fun hPX3 => ?_)
  · have hL3 := hq_v_1.symm
    refine X_ind (fun (a3 : Nat × (Nat → Int32) × (Nat → Int32) × (Nat → Int32)) => v_1 = F_X0_settleGiftsOf_L3 e d slow kd sl sp (np - a3.1) a3.1 a3.2.1 a3.2.2.1 a3.2.2.2 ∧ a3.1 ≤ np) (fun (a3 : Nat × (Nat → Int32) × (Nat → Int32) × (Nat → Int32)) => np - a3.1) (fun (a3 : Nat × (Nat → Int32) × (Nat → Int32) × (Nat → Int32)) => [(c, ex_o 0 [ex_r c0, ex_r c1, ex_r c2, ex_r c3, ex_r c4, ex_r c5, ex_r c6, ex_r c7, ex_r c8, ex_r c9, ex_r c10, ex_r c11, ex_r c12, ex_i (nI np), ex_i (nI nd), ex_i sto, ex_i res, ex_r c17, ex_r c18, ex_r c19]), (c1, ex_a 1 6 kd), (c17, ex_a 1 360 a3.2.1), (c12, ex_o 3 [ex_r w0, ex_i (nI sl), ex_r w2, ex_i (nI wn), ex_i dp, ex_i op, ex_r w6, ex_r w7]), (w0, ex_a 1 1000 sp), (w6, ex_a 1 40 a3.2.2.1), (w7, ex_a 1 5 a3.2.2.2)]) (fun (a3 : Nat × (Nat → Int32) × (Nat → Int32) × (Nat → Int32)) => [(4, ex_i (nI a3.1)), (0, ex_r c), (1, ex_i (nI e)), (2, ex_i (nI d)), (3, ex_i slow)]) (fun ⟨k3, s3_0, s3_1, s3_2⟩ hI3 ih3 => ?_) (0, gf, vf, fc) ⟨hL3, (by omega)⟩
    try dsimp only at hI3 ih3 ⊢
    have ihc3 : ∀ (k3_ : Nat) (s3_0_ : Nat → Int32) (s3_1_ : Nat → Int32) (s3_2_ : Nat → Int32), (v_1 = F_X0_settleGiftsOf_L3 e d slow kd sl sp (np - k3_) k3_ s3_0_ s3_1_ s3_2_ ∧ k3_ ≤ np) → (np - k3_) < (np - k3) → ex_O _ _ _ _ _ _ _ _ _ [(c, ex_o 0 [ex_r c0, ex_r c1, ex_r c2, ex_r c3, ex_r c4, ex_r c5, ex_r c6, ex_r c7, ex_r c8, ex_r c9, ex_r c10, ex_r c11, ex_r c12, ex_i (nI np), ex_i (nI nd), ex_i sto, ex_i res, ex_r c17, ex_r c18, ex_r c19]), (c1, ex_a 1 6 kd), (c17, ex_a 1 360 s3_0_), (c12, ex_o 3 [ex_r w0, ex_i (nI sl), ex_r w2, ex_i (nI wn), ex_i dp, ex_i op, ex_r w6, ex_r w7]), (w0, ex_a 1 1000 sp), (w6, ex_a 1 40 s3_1_), (w7, ex_a 1 5 s3_2_)] [(4, ex_i (nI k3_)), (0, ex_r c), (1, ex_i (nI e)), (2, ex_i (nI d)), (3, ex_i slow)] _ _ := fun k3_ s3_0_ s3_1_ s3_2_ hi_ hm_ => ih3 (k3_, s3_0_, s3_1_, s3_2_) hi_ hm_
    have hL3 := hI3.1
    have hb3 := hI3.2
    refine X_iload (j := 0) dX0_settleGiftsOf_3 rfl ?_
    refine X_aload_n (j := 1) dX0_settleGiftsOf_5 rfl rfl ?_
    refine X_get (j := 0) fo_X0_56 dX0_settleGiftsOf_6 rfl rfl ?_
    refine X_icmp_ge (tgt := 82) dX0_settleGiftsOf_9 (by decide) (fun c_2 => ?_) (fun c_2 => ?_)
    · have hlt3 : k3 = np := nlex (L := np) (by omega) hb3 c_2
      rw [show np - k3 = 0 by omega] at hL3
      have hL3 := hL3.trans (F_X0_settleGiftsOf_L3_z ..)
      try dsimp only at hL3
      refine X_lv (lv' := [(0, ex_r c), (1, ex_i (nI e)), (2, ex_i (nI d)), (3, ex_i slow)]) [1, 2, 3, 4] rfl ?_
      refine X_eq (cs' := [(c, ex_o 0 [ex_r c0, ex_r c1, ex_r c2, ex_r c3, ex_r c4, ex_r c5, ex_r c6, ex_r c7, ex_r c8, ex_r c9, ex_r c10, ex_r c11, ex_r c12, ex_i (nI np), ex_i (nI nd), ex_i sto, ex_i res, ex_r c17, ex_r c18, ex_r c19]), (c1, ex_a 1 6 kd), (c17, ex_a 1 360 v_1.1), (c12, ex_o 3 [ex_r w0, ex_i (nI sl), ex_r w2, ex_i (nI wn), ex_i dp, ex_i op, ex_r w6, ex_r w7]), (w0, ex_a 1 1000 sp), (w6, ex_a 1 40 v_1.2.1), (w7, ex_a 1 5 v_1.2.2)]) (lv' := [(0, ex_r c), (1, ex_i (nI e)), (2, ex_i (nI d)), (3, ex_i slow)]) (by subst hL3; rfl) (by subst hL3; rfl) ?_
      exact hrest3 trivial
    · have hlt3 : k3 < np := nlen (L := np) (by omega) hb3 c_2
      rw [show np - k3 = (np - (k3 + 1)) + 1 by omega] at hL3
      have hL3 := hL3.trans (F_X0_settleGiftsOf_L3_s ..)
      refine X_aload_n (j := 1) dX0_settleGiftsOf_12 rfl rfl ?_
      refine X_get (j := 0) fo_X0_52 dX0_settleGiftsOf_13 rfl rfl ?_
      refine X_iload_n (j := 2) dX0_settleGiftsOf_16 rfl rfl ?_
      refine X_iload (j := 0) dX0_settleGiftsOf_17 rfl ?_
      refine X_isub (v := ((nI e) - (nI k3))) dX0_settleGiftsOf_19 rfl ?_
      refine X_mabs (v := (aI ((nI e) - (nI k3)))) k_801 k_802 k_17 k_803 ⟨(Nat.le_of_ble_eq_true rfl), (Nat.le_of_ble_eq_true rfl)⟩ (Nat.le_of_ble_eq_true rfl) dX0_settleGiftsOf_20 rfl ?_
      refine X_iload_n (j := 4) dX0_settleGiftsOf_23 rfl rfl ?_
      refine X_iload (j := 0) dX0_settleGiftsOf_24 rfl ?_
      refine X_iload_n (j := 2) dX0_settleGiftsOf_26 rfl rfl ?_
      refine X_icmp_ne (tgt := 34) dX0_settleGiftsOf_27 (by decide) (fun c_3 => ?_) (fun c_3 => ?_)
      · have hL3 := hL3.trans (if_neg c_3)
        refine X_iconst (v := 0) dX0_settleGiftsOf_34 (by decide) ?_
        refine X_callV (j0 := 0) (rest := [(c, ex_o 0 [ex_r c0, ex_r c1, ex_r c2, ex_r c3, ex_r c4, ex_r c5, ex_r c6, ex_r c7, ex_r c8, ex_r c9, ex_r c10, ex_r c11, ex_r c12, ex_i (nI np), ex_i (nI nd), ex_i sto, ex_i res, ex_r c17, ex_r c18, ex_r c19]), (c1, ex_a 1 6 kd), (c17, ex_a 1 360 s3_0)]) (stk := []) co_X0_102 rfl ⟨(Nat.le_of_ble_eq_true rfl), (Nat.le_of_ble_eq_true rfl)⟩ (e_X3_share l c12 (aI ((nI e) - (nI k3))) slow 0 w0 sl w2 wn dp op w6 w7 sp s3_1 s3_2 (by first | assumption | omega)) dX0_settleGiftsOf_35 [3, 4, 5, 6, 0, 1, 2] (show List.Perm [3, 4, 5, 6, 0, 1, 2] (List.range 7) from by decide) rfl rfl rfl rfl (Nat.le_of_ble_eq_true rfl) (fun zc1 zr hq hk => ?_)
        obtain ⟨rfl, rfl⟩ := hq
        try dsimp only at hL3
        generalize hq_w_4 : F_X3_share (aI ((nI e) - (nI k3))) slow 0 sl sp s3_1 s3_2 = w_4 at hL3 ⊢
        try dsimp only at hL3
        refine X_istore (lv' := [(5, ex_i w_4.2.2), (4, ex_i (nI k3)), (0, ex_r c), (1, ex_i (nI e)), (2, ex_i (nI d)), (3, ex_i slow)]) dX0_settleGiftsOf_38 (Nat.le_of_ble_eq_true rfl) rfl ?_
        refine X_aload_n (j := 2) dX0_settleGiftsOf_40 rfl rfl ?_
        refine X_get (j := 4) fo_X0_69 dX0_settleGiftsOf_41 rfl rfl ?_
        refine X_iload_n (j := 3) dX0_settleGiftsOf_44 rfl rfl ?_
        refine X_iload_n (j := 4) dX0_settleGiftsOf_45 rfl rfl ?_
        refine X_iload_n (j := 5) dX0_settleGiftsOf_46 rfl rfl ?_
        refine X_callS (rest := [(c12, ex_o 3 [ex_r w0, ex_i (nI sl), ex_r w2, ex_i (nI wn), ex_i dp, ex_i op, ex_r w6, ex_r w7]), (w0, ex_a 1 1000 sp), (w6, ex_a 1 40 w_4.1), (w7, ex_a 1 5 w_4.2.1), (c, ex_o 0 [ex_r c0, ex_r c1, ex_r c2, ex_r c3, ex_r c4, ex_r c5, ex_r c6, ex_r c7, ex_r c8, ex_r c9, ex_r c10, ex_r c11, ex_r c12, ex_i (nI np), ex_i (nI nd), ex_i sto, ex_i res, ex_r c17, ex_r c18, ex_r c19]), (c1, ex_a 1 6 kd), (c17, ex_a 1 360 s3_0)]) (stk := [ex_r c17]) co_X0_88 rfl ⟨(Nat.le_of_ble_eq_true rfl), (Nat.le_of_ble_eq_true rfl)⟩ (e_X0_giftAt l e d slow (by first | assumption | omega) (by first | assumption | omega)) dX0_settleGiftsOf_47 [0, 1, 2, 3, 4, 5, 6] (show List.Perm [0, 1, 2, 3, 4, 5, 6] (List.range 7) from by decide) rfl rfl rfl (Nat.le_of_ble_eq_true rfl) (fun zc1 zr hq hk => ?_)
        obtain ⟨rfl, rfl⟩ := hq
        have hgi := giAt_lt (s := slow) he hd
        refine X_iload (j := 1) dX0_settleGiftsOf_50 rfl ?_
        refine X_iadd (v := nI ((F_X0_giftAt e d slow) + k3)) dX0_settleGiftsOf_52 (nI_add (F_X0_giftAt e d slow) k3) ?_
        refine X_aload_n (j := 2) dX0_settleGiftsOf_53 rfl rfl ?_
        refine X_get (j := 4) fo_X0_15 dX0_settleGiftsOf_54 rfl rfl ?_
        refine X_iload_n (j := 3) dX0_settleGiftsOf_57 rfl rfl ?_
        refine X_iald (j := 5) (v := (kd e)) dX0_settleGiftsOf_58 rfl (vp_in_nI (show e < 6 by omega) (by decide)) (by rw [nI_clamp (by omega)]) ?_
        refine X_iload (j := 1) dX0_settleGiftsOf_59 rfl ?_
        refine X_iload_n (j := 3) dX0_settleGiftsOf_61 rfl rfl ?_
        refine X_icmp_ne (tgt := 69) dX0_settleGiftsOf_62 (by decide) (fun _ => ?_) (fun c_ => absurd c_ c_3)
        refine X_iconst (v := 0) dX0_settleGiftsOf_69 (by decide) ?_
        refine X_iload (j := 0) dX0_settleGiftsOf_70 rfl ?_
        refine X_callS (rest := [(c12, ex_o 3 [ex_r w0, ex_i (nI sl), ex_r w2, ex_i (nI wn), ex_i dp, ex_i op, ex_r w6, ex_r w7]), (w0, ex_a 1 1000 sp), (w6, ex_a 1 40 w_4.1), (w7, ex_a 1 5 w_4.2.1), (c, ex_o 0 [ex_r c0, ex_r c1, ex_r c2, ex_r c3, ex_r c4, ex_r c5, ex_r c6, ex_r c7, ex_r c8, ex_r c9, ex_r c10, ex_r c11, ex_r c12, ex_i (nI np), ex_i (nI nd), ex_i sto, ex_i res, ex_r c17, ex_r c18, ex_r c19]), (c1, ex_a 1 6 kd), (c17, ex_a 1 360 s3_0)]) (stk := [ex_i (nI ((F_X0_giftAt e d slow) + k3)), ex_r c17]) co_X0_118 rfl ⟨(Nat.le_of_ble_eq_true rfl), (Nat.le_of_ble_eq_true rfl)⟩ (e_X0_byKind l (kd e) 0 w_4.2.2) dX0_settleGiftsOf_72 [0, 1, 2, 3, 4, 5, 6] (show List.Perm [0, 1, 2, 3, 4, 5, 6] (List.range 7) from by decide) rfl rfl rfl (Nat.le_of_ble_eq_true rfl) (fun zc1 zr hq hk => ?_)
        obtain ⟨rfl, rfl⟩ := hq
        refine X_iast (j := 6) (g := upd s3_0 ((F_X0_giftAt e d slow) + k3) (F_X0_byKind (kd e) 0 w_4.2.2)) (cs' := [(c12, ex_o 3 [ex_r w0, ex_i (nI sl), ex_r w2, ex_i (nI wn), ex_i dp, ex_i op, ex_r w6, ex_r w7]), (w0, ex_a 1 1000 sp), (w6, ex_a 1 40 w_4.1), (w7, ex_a 1 5 w_4.2.1), (c, ex_o 0 [ex_r c0, ex_r c1, ex_r c2, ex_r c3, ex_r c4, ex_r c5, ex_r c6, ex_r c7, ex_r c8, ex_r c9, ex_r c10, ex_r c11, ex_r c12, ex_i (nI np), ex_i (nI nd), ex_i sto, ex_i res, ex_r c17, ex_r c18, ex_r c19]), (c1, ex_a 1 6 kd), (c17, ex_a 1 360 (upd s3_0 ((F_X0_giftAt e d slow) + k3) (F_X0_byKind (kd e) 0 w_4.2.2)))]) dX0_settleGiftsOf_75 rfl (vp_in_nI (show (F_X0_giftAt e d slow) + k3 < 360 by omega) (by decide)) (by rw [nI_clamp (by omega)]) rfl ?_
        refine X_iinc (v := nI (k3 + 1)) (j := 1) (lv' := [(4, ex_i (nI (k3 + 1))), (5, ex_i w_4.2.2), (0, ex_r c), (1, ex_i (nI e)), (2, ex_i (nI d)), (3, ex_i slow)]) dX0_settleGiftsOf_76 rfl (nI_add k3 1) (Nat.le_of_ble_eq_true rfl) rfl ?_
        refine X_goto (tgt := 3) dX0_settleGiftsOf_79 (by decide) ?_
        try dsimp only at hL3
        refine X_re (cs' := [(c, ex_o 0 [ex_r c0, ex_r c1, ex_r c2, ex_r c3, ex_r c4, ex_r c5, ex_r c6, ex_r c7, ex_r c8, ex_r c9, ex_r c10, ex_r c11, ex_r c12, ex_i (nI np), ex_i (nI nd), ex_i sto, ex_i res, ex_r c17, ex_r c18, ex_r c19]), (c1, ex_a 1 6 kd), (c17, ex_a 1 360 (upd s3_0 ((F_X0_giftAt e d slow) + k3) (F_X0_byKind (kd e) 0 w_4.2.2))), (c12, ex_o 3 [ex_r w0, ex_i (nI sl), ex_r w2, ex_i (nI wn), ex_i dp, ex_i op, ex_r w6, ex_r w7]), (w0, ex_a 1 1000 sp), (w6, ex_a 1 40 w_4.1), (w7, ex_a 1 5 w_4.2.1)]) [4, 5, 6, 0, 1, 2, 3] (show List.Perm [4, 5, 6, 0, 1, 2, 3] (List.range 7) from by decide) rfl ?_
        refine X_lv (lv' := [(4, ex_i (nI (k3 + 1))), (0, ex_r c), (1, ex_i (nI e)), (2, ex_i (nI d)), (3, ex_i slow)]) [0, 2, 3, 4, 5] rfl ?_
        exact ihc3 (k3 + 1) (upd s3_0 ((F_X0_giftAt e d slow) + k3) (F_X0_byKind (kd e) 0 w_4.2.2)) w_4.1 w_4.2.1 ⟨hL3, (show (k3 + 1) ≤ np by omega)⟩ (show np - (k3 + 1) < np - k3 by omega)
      · have hL3 := hL3.trans (if_pos c_3)
        refine X_iconst (v := 1) dX0_settleGiftsOf_30 (by decide) ?_
        refine X_goto (tgt := 35) dX0_settleGiftsOf_31 (by decide) ?_
        refine X_callV (j0 := 0) (rest := [(c, ex_o 0 [ex_r c0, ex_r c1, ex_r c2, ex_r c3, ex_r c4, ex_r c5, ex_r c6, ex_r c7, ex_r c8, ex_r c9, ex_r c10, ex_r c11, ex_r c12, ex_i (nI np), ex_i (nI nd), ex_i sto, ex_i res, ex_r c17, ex_r c18, ex_r c19]), (c1, ex_a 1 6 kd), (c17, ex_a 1 360 s3_0)]) (stk := []) co_X0_102 rfl ⟨(Nat.le_of_ble_eq_true rfl), (Nat.le_of_ble_eq_true rfl)⟩ (e_X3_share l c12 (aI ((nI e) - (nI k3))) slow 1 w0 sl w2 wn dp op w6 w7 sp s3_1 s3_2 (by first | assumption | omega)) dX0_settleGiftsOf_35 [3, 4, 5, 6, 0, 1, 2] (show List.Perm [3, 4, 5, 6, 0, 1, 2] (List.range 7) from by decide) rfl rfl rfl rfl (Nat.le_of_ble_eq_true rfl) (fun zc1 zr hq hk => ?_)
        obtain ⟨rfl, rfl⟩ := hq
        try dsimp only at hL3
        generalize hq_w_5 : F_X3_share (aI ((nI e) - (nI k3))) slow 1 sl sp s3_1 s3_2 = w_5 at hL3 ⊢
        try dsimp only at hL3
        refine X_istore (lv' := [(5, ex_i w_5.2.2), (4, ex_i (nI k3)), (0, ex_r c), (1, ex_i (nI e)), (2, ex_i (nI d)), (3, ex_i slow)]) dX0_settleGiftsOf_38 (Nat.le_of_ble_eq_true rfl) rfl ?_
        refine X_aload_n (j := 2) dX0_settleGiftsOf_40 rfl rfl ?_
        refine X_get (j := 4) fo_X0_69 dX0_settleGiftsOf_41 rfl rfl ?_
        refine X_iload_n (j := 3) dX0_settleGiftsOf_44 rfl rfl ?_
        refine X_iload_n (j := 4) dX0_settleGiftsOf_45 rfl rfl ?_
        refine X_iload_n (j := 5) dX0_settleGiftsOf_46 rfl rfl ?_
        refine X_callS (rest := [(c12, ex_o 3 [ex_r w0, ex_i (nI sl), ex_r w2, ex_i (nI wn), ex_i dp, ex_i op, ex_r w6, ex_r w7]), (w0, ex_a 1 1000 sp), (w6, ex_a 1 40 w_5.1), (w7, ex_a 1 5 w_5.2.1), (c, ex_o 0 [ex_r c0, ex_r c1, ex_r c2, ex_r c3, ex_r c4, ex_r c5, ex_r c6, ex_r c7, ex_r c8, ex_r c9, ex_r c10, ex_r c11, ex_r c12, ex_i (nI np), ex_i (nI nd), ex_i sto, ex_i res, ex_r c17, ex_r c18, ex_r c19]), (c1, ex_a 1 6 kd), (c17, ex_a 1 360 s3_0)]) (stk := [ex_r c17]) co_X0_88 rfl ⟨(Nat.le_of_ble_eq_true rfl), (Nat.le_of_ble_eq_true rfl)⟩ (e_X0_giftAt l e d slow (by first | assumption | omega) (by first | assumption | omega)) dX0_settleGiftsOf_47 [0, 1, 2, 3, 4, 5, 6] (show List.Perm [0, 1, 2, 3, 4, 5, 6] (List.range 7) from by decide) rfl rfl rfl (Nat.le_of_ble_eq_true rfl) (fun zc1 zr hq hk => ?_)
        obtain ⟨rfl, rfl⟩ := hq
        have hgi := giAt_lt (s := slow) he hd
        refine X_iload (j := 1) dX0_settleGiftsOf_50 rfl ?_
        refine X_iadd (v := nI ((F_X0_giftAt e d slow) + k3)) dX0_settleGiftsOf_52 (nI_add (F_X0_giftAt e d slow) k3) ?_
        refine X_aload_n (j := 2) dX0_settleGiftsOf_53 rfl rfl ?_
        refine X_get (j := 4) fo_X0_15 dX0_settleGiftsOf_54 rfl rfl ?_
        refine X_iload_n (j := 3) dX0_settleGiftsOf_57 rfl rfl ?_
        refine X_iald (j := 5) (v := (kd e)) dX0_settleGiftsOf_58 rfl (vp_in_nI (show e < 6 by omega) (by decide)) (by rw [nI_clamp (by omega)]) ?_
        refine X_iload (j := 1) dX0_settleGiftsOf_59 rfl ?_
        refine X_iload_n (j := 3) dX0_settleGiftsOf_61 rfl rfl ?_
        refine X_icmp_ne (tgt := 69) dX0_settleGiftsOf_62 (by decide) (fun c_ => absurd c_3 c_) (fun _ => ?_)
        refine X_iconst (v := 1) dX0_settleGiftsOf_65 (by decide) ?_
        refine X_goto (tgt := 70) dX0_settleGiftsOf_66 (by decide) ?_
        refine X_iload (j := 0) dX0_settleGiftsOf_70 rfl ?_
        refine X_callS (rest := [(c12, ex_o 3 [ex_r w0, ex_i (nI sl), ex_r w2, ex_i (nI wn), ex_i dp, ex_i op, ex_r w6, ex_r w7]), (w0, ex_a 1 1000 sp), (w6, ex_a 1 40 w_5.1), (w7, ex_a 1 5 w_5.2.1), (c, ex_o 0 [ex_r c0, ex_r c1, ex_r c2, ex_r c3, ex_r c4, ex_r c5, ex_r c6, ex_r c7, ex_r c8, ex_r c9, ex_r c10, ex_r c11, ex_r c12, ex_i (nI np), ex_i (nI nd), ex_i sto, ex_i res, ex_r c17, ex_r c18, ex_r c19]), (c1, ex_a 1 6 kd), (c17, ex_a 1 360 s3_0)]) (stk := [ex_i (nI ((F_X0_giftAt e d slow) + k3)), ex_r c17]) co_X0_118 rfl ⟨(Nat.le_of_ble_eq_true rfl), (Nat.le_of_ble_eq_true rfl)⟩ (e_X0_byKind l (kd e) 1 w_5.2.2) dX0_settleGiftsOf_72 [0, 1, 2, 3, 4, 5, 6] (show List.Perm [0, 1, 2, 3, 4, 5, 6] (List.range 7) from by decide) rfl rfl rfl (Nat.le_of_ble_eq_true rfl) (fun zc1 zr hq hk => ?_)
        obtain ⟨rfl, rfl⟩ := hq
        refine X_iast (j := 6) (g := upd s3_0 ((F_X0_giftAt e d slow) + k3) (F_X0_byKind (kd e) 1 w_5.2.2)) (cs' := [(c12, ex_o 3 [ex_r w0, ex_i (nI sl), ex_r w2, ex_i (nI wn), ex_i dp, ex_i op, ex_r w6, ex_r w7]), (w0, ex_a 1 1000 sp), (w6, ex_a 1 40 w_5.1), (w7, ex_a 1 5 w_5.2.1), (c, ex_o 0 [ex_r c0, ex_r c1, ex_r c2, ex_r c3, ex_r c4, ex_r c5, ex_r c6, ex_r c7, ex_r c8, ex_r c9, ex_r c10, ex_r c11, ex_r c12, ex_i (nI np), ex_i (nI nd), ex_i sto, ex_i res, ex_r c17, ex_r c18, ex_r c19]), (c1, ex_a 1 6 kd), (c17, ex_a 1 360 (upd s3_0 ((F_X0_giftAt e d slow) + k3) (F_X0_byKind (kd e) 1 w_5.2.2)))]) dX0_settleGiftsOf_75 rfl (vp_in_nI (show (F_X0_giftAt e d slow) + k3 < 360 by omega) (by decide)) (by rw [nI_clamp (by omega)]) rfl ?_
        refine X_iinc (v := nI (k3 + 1)) (j := 1) (lv' := [(4, ex_i (nI (k3 + 1))), (5, ex_i w_5.2.2), (0, ex_r c), (1, ex_i (nI e)), (2, ex_i (nI d)), (3, ex_i slow)]) dX0_settleGiftsOf_76 rfl (nI_add k3 1) (Nat.le_of_ble_eq_true rfl) rfl ?_
        refine X_goto (tgt := 3) dX0_settleGiftsOf_79 (by decide) ?_
        try dsimp only at hL3
        refine X_re (cs' := [(c, ex_o 0 [ex_r c0, ex_r c1, ex_r c2, ex_r c3, ex_r c4, ex_r c5, ex_r c6, ex_r c7, ex_r c8, ex_r c9, ex_r c10, ex_r c11, ex_r c12, ex_i (nI np), ex_i (nI nd), ex_i sto, ex_i res, ex_r c17, ex_r c18, ex_r c19]), (c1, ex_a 1 6 kd), (c17, ex_a 1 360 (upd s3_0 ((F_X0_giftAt e d slow) + k3) (F_X0_byKind (kd e) 1 w_5.2.2))), (c12, ex_o 3 [ex_r w0, ex_i (nI sl), ex_r w2, ex_i (nI wn), ex_i dp, ex_i op, ex_r w6, ex_r w7]), (w0, ex_a 1 1000 sp), (w6, ex_a 1 40 w_5.1), (w7, ex_a 1 5 w_5.2.1)]) [4, 5, 6, 0, 1, 2, 3] (show List.Perm [4, 5, 6, 0, 1, 2, 3] (List.range 7) from by decide) rfl ?_
        refine X_lv (lv' := [(4, ex_i (nI (k3 + 1))), (0, ex_r c), (1, ex_i (nI e)), (2, ex_i (nI d)), (3, ex_i slow)]) [0, 2, 3, 4, 5] rfl ?_
        exact ihc3 (k3 + 1) (upd s3_0 ((F_X0_giftAt e d slow) + k3) (F_X0_byKind (kd e) 1 w_5.2.2)) w_5.1 w_5.2.1 ⟨hL3, (show (k3 + 1) ≤ np by omega)⟩ (show np - (k3 + 1) < np - k3 by omega)
  try dsimp only at hV
  exact X_vret dX0_settleGiftsOf_82 (by (repeat refine ex_kc ?_) <;> rfl) (by subst hV; exact ⟨rfl, rfl⟩)

def F_X0_isNoWorse_L29 (m1 : Nat) (m2 : Nat) (gf : Nat → Int32) : Nat → Nat → Int32
  | 0, k29 => 1
  | zn + 1, k29 => (if (gf ((m2 * 6) + k29)) ≤ (gf ((m1 * 6) + k29)) then F_X0_isNoWorse_L29 m1 m2 gf zn (k29 + 1) else 0)
theorem F_X0_isNoWorse_L29_z (m1 : Nat) (m2 : Nat) (gf : Nat → Int32) (k29 : Nat) : F_X0_isNoWorse_L29 m1 m2 gf 0 k29 = 1 := rfl
theorem F_X0_isNoWorse_L29_s (m1 : Nat) (m2 : Nat) (gf : Nat → Int32) (k29 : Nat) (zn : Nat) : F_X0_isNoWorse_L29 m1 m2 gf (zn + 1) k29 = (if (gf ((m2 * 6) + k29)) ≤ (gf ((m1 * 6) + k29)) then F_X0_isNoWorse_L29 m1 m2 gf zn (k29 + 1) else 0) := rfl
def F_X0_isNoWorse (m1 : Nat) (m2 : Nat) (np : Nat) (co : Nat → Int32) (gf : Nat → Int32) : Int32 := (if (co ((m1 % 10) / 2)) ≤ (co ((m2 % 10) / 2)) then F_X0_isNoWorse_L29 m1 m2 gf (np - 0) 0 else 0)
set_option maxHeartbeats 4000000 in
set_option maxRecDepth 100000 in
theorem e_X0_isNoWorse (l : Launch) (c : Nat) (m1 : Nat) (m2 : Nat) (c0 : Nat) (c1 : Nat) (c2 : Nat) (c3 : Nat) (c4 : Nat) (c5 : Nat) (c6 : Nat) (c7 : Nat) (c8 : Nat) (c9 : Nat) (c10 : Nat) (c11 : Nat) (c12 : Nat) (np : Nat) (nd : Nat) (sto : Int32) (res : Int32) (c17 : Nat) (c18 : Nat) (c19 : Nat) (co : Nat → Int32) (gf : Nat → Int32) (hnp : np ≤ 6) (hm1 : m1 < 60) (hm2 : m2 < 60) : ex_M l yX0_isNoWorse cX0_isNoWorse 4 (some .boolean) 0 0 [ex_r c, ex_i (nI m1), ex_i (nI m2)] [(c, ex_o 0 [ex_r c0, ex_r c1, ex_r c2, ex_r c3, ex_r c4, ex_r c5, ex_r c6, ex_r c7, ex_r c8, ex_r c9, ex_r c10, ex_r c11, ex_r c12, ex_i (nI np), ex_i (nI nd), ex_i sto, ex_i res, ex_r c17, ex_r c18, ex_r c19]), (c11, ex_a 1 5 co), (c17, ex_a 1 360 gf)] (fun zcs zr => zcs = [(c, ex_o 0 [ex_r c0, ex_r c1, ex_r c2, ex_r c3, ex_r c4, ex_r c5, ex_r c6, ex_r c7, ex_r c8, ex_r c9, ex_r c10, ex_r c11, ex_r c12, ex_i (nI np), ex_i (nI nd), ex_i sto, ex_i res, ex_r c17, ex_r c18, ex_r c19]), (c11, ex_a 1 5 co), (c17, ex_a 1 360 gf)] ∧ zr = some (ex_i (F_X0_isNoWorse m1 m2 np co gf))) := by
  refine X_meth (by decide) (Nat.le_of_ble_eq_true rfl) ?_
  generalize hV : F_X0_isNoWorse m1 m2 np co gf = V0
  have hV := hV.symm
  unfold F_X0_isNoWorse at hV
  try dsimp only at hV
  refine X_aload_n (j := 0) dX0_isNoWorse_0 rfl rfl ?_
  refine X_get (j := 0) fo_X0_46 dX0_isNoWorse_1 rfl rfl ?_
  refine X_iload_n (j := 1) dX0_isNoWorse_4 rfl rfl ?_
  refine X_bipush (v := 10) dX0_isNoWorse_5 (by decide) ?_
  refine X_irem (v := nI (m1 % 10)) dX0_isNoWorse_7 (by decide) (nI_rm (a := m1) (b := 10) (by omega) (by omega)) ?_
  refine X_iconst (v := 2) dX0_isNoWorse_8 (by decide) ?_
  refine X_idiv (v := nI ((m1 % 10) / 2)) dX0_isNoWorse_9 (by decide) (nI_di (a := m1 % 10) (b := 2) (by omega) (by omega)) ?_
  refine X_iald (j := 1) (v := (co ((m1 % 10) / 2))) dX0_isNoWorse_10 rfl (vp_in_nI (show (m1 % 10) / 2 < 5 by omega) (by decide)) (by rw [nI_clamp (by omega)]) ?_
  refine X_aload_n (j := 0) dX0_isNoWorse_11 rfl rfl ?_
  refine X_get (j := 0) fo_X0_46 dX0_isNoWorse_12 rfl rfl ?_
  refine X_iload_n (j := 2) dX0_isNoWorse_15 rfl rfl ?_
  refine X_bipush (v := 10) dX0_isNoWorse_16 (by decide) ?_
  refine X_irem (v := nI (m2 % 10)) dX0_isNoWorse_18 (by decide) (nI_rm (a := m2) (b := 10) (by omega) (by omega)) ?_
  refine X_iconst (v := 2) dX0_isNoWorse_19 (by decide) ?_
  refine X_idiv (v := nI ((m2 % 10) / 2)) dX0_isNoWorse_20 (by decide) (nI_di (a := m2 % 10) (b := 2) (by omega) (by omega)) ?_
  refine X_iald (j := 1) (v := (co ((m2 % 10) / 2))) dX0_isNoWorse_21 rfl (vp_in_nI (show (m2 % 10) / 2 < 5 by omega) (by decide)) (by rw [nI_clamp (by omega)]) ?_
  refine X_icmp_le (tgt := 27) dX0_isNoWorse_22 (by decide) (fun c_1 => ?_) (fun c_1 => ?_)
  · have hV := hV.trans (if_pos c_1)
    refine X_iconst (v := 0) dX0_isNoWorse_27 (by decide) ?_
    refine X_istore_n (lv' := [(3, ex_i 0), (0, ex_r c), (1, ex_i (nI m1)), (2, ex_i (nI m2))]) dX0_isNoWorse_28 rfl (Nat.le_of_ble_eq_true rfl) rfl ?_
    -- loop at 29
    have hL29 := hV
    try dsimp only at hL29
    refine X_ind (fun (a29 : Nat) => V0 = F_X0_isNoWorse_L29 m1 m2 gf (np - a29) a29 ∧ a29 ≤ np) (fun (a29 : Nat) => np - a29) (fun (a29 : Nat) => [(c, ex_o 0 [ex_r c0, ex_r c1, ex_r c2, ex_r c3, ex_r c4, ex_r c5, ex_r c6, ex_r c7, ex_r c8, ex_r c9, ex_r c10, ex_r c11, ex_r c12, ex_i (nI np), ex_i (nI nd), ex_i sto, ex_i res, ex_r c17, ex_r c18, ex_r c19]), (c11, ex_a 1 5 co), (c17, ex_a 1 360 gf)]) (fun (a29 : Nat) => [(3, ex_i (nI a29)), (0, ex_r c), (1, ex_i (nI m1)), (2, ex_i (nI m2))]) (fun k29 hI29 ih29 => ?_) 0 ⟨hL29, (by omega)⟩
    try dsimp only at hI29 ih29 ⊢
    have ihc29 : ∀ (k29_ : Nat), (V0 = F_X0_isNoWorse_L29 m1 m2 gf (np - k29_) k29_ ∧ k29_ ≤ np) → (np - k29_) < (np - k29) → ex_O _ _ _ _ _ _ _ _ _ [(c, ex_o 0 [ex_r c0, ex_r c1, ex_r c2, ex_r c3, ex_r c4, ex_r c5, ex_r c6, ex_r c7, ex_r c8, ex_r c9, ex_r c10, ex_r c11, ex_r c12, ex_i (nI np), ex_i (nI nd), ex_i sto, ex_i res, ex_r c17, ex_r c18, ex_r c19]), (c11, ex_a 1 5 co), (c17, ex_a 1 360 gf)] [(3, ex_i (nI k29_)), (0, ex_r c), (1, ex_i (nI m1)), (2, ex_i (nI m2))] _ _ := fun k29_ hi_ hm_ => ih29 k29_ hi_ hm_
    have hL29 := hI29.1
    have hb29 := hI29.2
    refine X_iload_n (j := 0) dX0_isNoWorse_29 rfl rfl ?_
    refine X_aload_n (j := 1) dX0_isNoWorse_30 rfl rfl ?_
    refine X_get (j := 0) fo_X0_56 dX0_isNoWorse_31 rfl rfl ?_
    refine X_icmp_ge (tgt := 70) dX0_isNoWorse_34 (by decide) (fun c_2 => ?_) (fun c_2 => ?_)
    · have hlt29 : k29 = np := nlex (L := np) (by omega) hb29 c_2
      rw [show np - k29 = 0 by omega] at hL29
      have hL29 := hL29.trans (F_X0_isNoWorse_L29_z ..)
      refine X_iconst (v := 1) dX0_isNoWorse_70 (by decide) ?_
      try dsimp only at hL29
      exact X_iret ex_nZ rfl dX0_isNoWorse_71 (by (repeat refine ex_kc ?_) <;> rfl) (by subst hL29; exact ⟨rfl, rfl⟩)
    · have hlt29 : k29 < np := nlen (L := np) (by omega) hb29 c_2
      rw [show np - k29 = (np - (k29 + 1)) + 1 by omega] at hL29
      have hL29 := hL29.trans (F_X0_isNoWorse_L29_s ..)
      refine X_aload_n (j := 1) dX0_isNoWorse_37 rfl rfl ?_
      refine X_get (j := 0) fo_X0_69 dX0_isNoWorse_38 rfl rfl ?_
      refine X_iload_n (j := 2) dX0_isNoWorse_41 rfl rfl ?_
      refine X_bipush (v := 6) dX0_isNoWorse_42 (by decide) ?_
      refine X_imul (v := nI (m1 * 6)) dX0_isNoWorse_44 (nI_mu m1 6) ?_
      refine X_iload_n (j := 0) dX0_isNoWorse_45 rfl rfl ?_
      refine X_iadd (v := nI ((m1 * 6) + k29)) dX0_isNoWorse_46 (nI_add (m1 * 6) k29) ?_
      refine X_iald (j := 2) (v := (gf ((m1 * 6) + k29))) dX0_isNoWorse_47 rfl (vp_in_nI (show (m1 * 6) + k29 < 360 by omega) (by decide)) (by rw [nI_clamp (by omega)]) ?_
      refine X_aload_n (j := 1) dX0_isNoWorse_48 rfl rfl ?_
      refine X_get (j := 0) fo_X0_69 dX0_isNoWorse_49 rfl rfl ?_
      refine X_iload_n (j := 3) dX0_isNoWorse_52 rfl rfl ?_
      refine X_bipush (v := 6) dX0_isNoWorse_53 (by decide) ?_
      refine X_imul (v := nI (m2 * 6)) dX0_isNoWorse_55 (nI_mu m2 6) ?_
      refine X_iload_n (j := 0) dX0_isNoWorse_56 rfl rfl ?_
      refine X_iadd (v := nI ((m2 * 6) + k29)) dX0_isNoWorse_57 (nI_add (m2 * 6) k29) ?_
      refine X_iald (j := 2) (v := (gf ((m2 * 6) + k29))) dX0_isNoWorse_58 rfl (vp_in_nI (show (m2 * 6) + k29 < 360 by omega) (by decide)) (by rw [nI_clamp (by omega)]) ?_
      refine X_icmp_ge (tgt := 64) dX0_isNoWorse_59 (by decide) (fun c_3 => ?_) (fun c_3 => ?_)
      · have hL29 := hL29.trans (if_pos c_3)
        refine X_iinc (v := nI (k29 + 1)) (j := 0) (lv' := [(3, ex_i (nI (k29 + 1))), (0, ex_r c), (1, ex_i (nI m1)), (2, ex_i (nI m2))]) dX0_isNoWorse_64 rfl (nI_add k29 1) (Nat.le_of_ble_eq_true rfl) rfl ?_
        refine X_goto (tgt := 29) dX0_isNoWorse_67 (by decide) ?_
        try dsimp only at hL29
        exact ihc29 (k29 + 1) ⟨hL29, (show (k29 + 1) ≤ np by omega)⟩ (show np - (k29 + 1) < np - k29 by omega)
      · have hL29 := hL29.trans (if_neg c_3)
        refine X_iconst (v := 0) dX0_isNoWorse_62 (by decide) ?_
        try dsimp only at hL29
        exact X_iret ex_nZ rfl dX0_isNoWorse_63 (by (repeat refine ex_kc ?_) <;> rfl) (by subst hL29; exact ⟨rfl, rfl⟩)
  · have hV := hV.trans (if_neg c_1)
    refine X_iconst (v := 0) dX0_isNoWorse_25 (by decide) ?_
    try dsimp only at hV
    exact X_iret ex_nZ rfl dX0_isNoWorse_26 (by (repeat refine ex_kc ?_) <;> rfl) (by subst hV; exact ⟨rfl, rfl⟩)

def F_X0_settleBeaten_L29 (np : Nat) (co : Nat → Int32) (gf : Nat → Int32) (k7 : Nat) : Nat → Nat → (Nat → Int32) → (Nat → Int32)
  | 0, k29, s29_0 => s29_0
  | zn + 1, k29, s29_0 => (if (s29_0 k7) = 0 then F_X0_settleBeaten_L29 np co gf k7 zn (k29 + 1) (upd s29_0 k7 (vp_nar .boolean (F_X0_isNoWorse k29 k7 np co gf))) else s29_0)
theorem F_X0_settleBeaten_L29_z (np : Nat) (co : Nat → Int32) (gf : Nat → Int32) (k7 : Nat) (k29 : Nat) (s29_0 : Nat → Int32) : F_X0_settleBeaten_L29 np co gf k7 0 k29 s29_0 = s29_0 := rfl
theorem F_X0_settleBeaten_L29_s (np : Nat) (co : Nat → Int32) (gf : Nat → Int32) (k7 : Nat) (k29 : Nat) (s29_0 : Nat → Int32) (zn : Nat) : F_X0_settleBeaten_L29 np co gf k7 (zn + 1) k29 s29_0 = (if (s29_0 k7) = 0 then F_X0_settleBeaten_L29 np co gf k7 zn (k29 + 1) (upd s29_0 k7 (vp_nar .boolean (F_X0_isNoWorse k29 k7 np co gf))) else s29_0) := rfl
def F_X0_settleBeaten_L7 (e : Nat) (np : Nat) (co : Nat → Int32) (gf : Nat → Int32) : Nat → Nat → (Nat → Int32) → (Nat → Int32)
  | 0, k7, s7_0 => s7_0
  | zn + 1, k7, s7_0 => ((fun (v_3 : (Nat → Int32)) => F_X0_settleBeaten_L7 e np co gf zn (k7 + 1) v_3) (F_X0_settleBeaten_L29 np co gf k7 (k7 - (e * 10)) (e * 10) (upd s7_0 k7 (vp_nar .boolean 0))))
theorem F_X0_settleBeaten_L7_z (e : Nat) (np : Nat) (co : Nat → Int32) (gf : Nat → Int32) (k7 : Nat) (s7_0 : Nat → Int32) : F_X0_settleBeaten_L7 e np co gf 0 k7 s7_0 = s7_0 := rfl
theorem F_X0_settleBeaten_L7_s (e : Nat) (np : Nat) (co : Nat → Int32) (gf : Nat → Int32) (k7 : Nat) (s7_0 : Nat → Int32) (zn : Nat) : F_X0_settleBeaten_L7 e np co gf (zn + 1) k7 s7_0 = ((fun (v_3 : (Nat → Int32)) => F_X0_settleBeaten_L7 e np co gf zn (k7 + 1) v_3) (F_X0_settleBeaten_L29 np co gf k7 (k7 - (e * 10)) (e * 10) (upd s7_0 k7 (vp_nar .boolean 0)))) := rfl
def F_X0_settleBeaten (e : Nat) (np : Nat) (nd : Nat) (co : Nat → Int32) (gf : Nat → Int32) (bt : Nat → Int32) : (Nat → Int32) := ((fun (v_1 : (Nat → Int32)) => v_1) (F_X0_settleBeaten_L7 e np co gf (((e * 10) + (2 * nd)) - (e * 10)) (e * 10) bt))
set_option maxHeartbeats 4000000 in
set_option maxRecDepth 100000 in
theorem e_X0_settleBeaten (l : Launch) (c : Nat) (e : Nat) (c0 : Nat) (c1 : Nat) (c2 : Nat) (c3 : Nat) (c4 : Nat) (c5 : Nat) (c6 : Nat) (c7 : Nat) (c8 : Nat) (c9 : Nat) (c10 : Nat) (c11 : Nat) (c12 : Nat) (np : Nat) (nd : Nat) (sto : Int32) (res : Int32) (c17 : Nat) (c18 : Nat) (c19 : Nat) (co : Nat → Int32) (gf : Nat → Int32) (bt : Nat → Int32) (he : e < 6) (hnp : np ≤ 6) (hnd : nd ≤ 5) : ex_M l yX0_settleBeaten cX0_settleBeaten 5 none 1 23 [ex_r c, ex_i (nI e)] [(c, ex_o 0 [ex_r c0, ex_r c1, ex_r c2, ex_r c3, ex_r c4, ex_r c5, ex_r c6, ex_r c7, ex_r c8, ex_r c9, ex_r c10, ex_r c11, ex_r c12, ex_i (nI np), ex_i (nI nd), ex_i sto, ex_i res, ex_r c17, ex_r c18, ex_r c19]), (c11, ex_a 1 5 co), (c17, ex_a 1 360 gf), (c19, ex_a 3 60 bt)] (fun zcs zr => zcs = [(c, ex_o 0 [ex_r c0, ex_r c1, ex_r c2, ex_r c3, ex_r c4, ex_r c5, ex_r c6, ex_r c7, ex_r c8, ex_r c9, ex_r c10, ex_r c11, ex_r c12, ex_i (nI np), ex_i (nI nd), ex_i sto, ex_i res, ex_r c17, ex_r c18, ex_r c19]), (c11, ex_a 1 5 co), (c17, ex_a 1 360 gf), (c19, ex_a 3 60 (F_X0_settleBeaten e np nd co gf bt))] ∧ zr = none) := by
  refine X_meth (by decide) (Nat.le_of_ble_eq_true rfl) ?_
  generalize hV : F_X0_settleBeaten e np nd co gf bt = V0
  have hV := hV.symm
  unfold F_X0_settleBeaten at hV
  try dsimp only at hV
  refine X_iload_n (j := 1) dX0_settleBeaten_0 rfl rfl ?_
  refine X_bipush (v := 10) dX0_settleBeaten_1 (by decide) ?_
  refine X_imul (v := nI (e * 10)) dX0_settleBeaten_3 (nI_mu e 10) ?_
  refine X_istore_n (lv' := [(2, ex_i (nI (e * 10))), (0, ex_r c), (1, ex_i (nI e))]) dX0_settleBeaten_4 rfl (Nat.le_of_ble_eq_true rfl) rfl ?_
  refine X_iload_n (j := 0) dX0_settleBeaten_5 rfl rfl ?_
  refine X_istore_n (lv' := [(3, ex_i (nI (e * 10))), (2, ex_i (nI (e * 10))), (0, ex_r c), (1, ex_i (nI e))]) dX0_settleBeaten_6 rfl (Nat.le_of_ble_eq_true rfl) rfl ?_
  -- loop at 7
  try dsimp only at hV
  generalize hq_v_1 : F_X0_settleBeaten_L7 e np co gf (((e * 10) + (2 * nd)) - (e * 10)) (e * 10) bt = v_1 at hV
  try dsimp only at hV
  refine X_cut (P := True) (csE := [(c, ex_o 0 [ex_r c0, ex_r c1, ex_r c2, ex_r c3, ex_r c4, ex_r c5, ex_r c6, ex_r c7, ex_r c8, ex_r c9, ex_r c10, ex_r c11, ex_r c12, ex_i (nI np), ex_i (nI nd), ex_i sto, ex_i res, ex_r c17, ex_r c18, ex_r c19]), (c11, ex_a 1 5 co), (c17, ex_a 1 360 gf), (c19, ex_a 3 60 v_1)]) (lvE := [(2, ex_i (nI (e * 10))), (0, ex_r c), (1, ex_i (nI e))]) (E := 69) (fun hrest7 => ?_) (fun hPX7 => ?_)
  · have hL7 := hq_v_1.symm
    refine X_ind (fun (a7 : Nat × (Nat → Int32)) => v_1 = F_X0_settleBeaten_L7 e np co gf (((e * 10) + (2 * nd)) - a7.1) a7.1 a7.2 ∧ a7.1 ≤ ((e * 10) + (2 * nd)) ∧ e * 10 ≤ a7.1) (fun (a7 : Nat × (Nat → Int32)) => ((e * 10) + (2 * nd)) - a7.1) (fun (a7 : Nat × (Nat → Int32)) => [(c, ex_o 0 [ex_r c0, ex_r c1, ex_r c2, ex_r c3, ex_r c4, ex_r c5, ex_r c6, ex_r c7, ex_r c8, ex_r c9, ex_r c10, ex_r c11, ex_r c12, ex_i (nI np), ex_i (nI nd), ex_i sto, ex_i res, ex_r c17, ex_r c18, ex_r c19]), (c11, ex_a 1 5 co), (c17, ex_a 1 360 gf), (c19, ex_a 3 60 a7.2)]) (fun (a7 : Nat × (Nat → Int32)) => [(3, ex_i (nI a7.1)), (2, ex_i (nI (e * 10))), (0, ex_r c), (1, ex_i (nI e))]) (fun ⟨k7, s7_0⟩ hI7 ih7 => ?_) (e * 10, bt) ⟨hL7, (by omega), (Nat.le_refl _)⟩
    try dsimp only at hI7 ih7 ⊢
    have ihc7 : ∀ (k7_ : Nat) (s7_0_ : Nat → Int32), (v_1 = F_X0_settleBeaten_L7 e np co gf (((e * 10) + (2 * nd)) - k7_) k7_ s7_0_ ∧ k7_ ≤ ((e * 10) + (2 * nd)) ∧ e * 10 ≤ k7_) → (((e * 10) + (2 * nd)) - k7_) < (((e * 10) + (2 * nd)) - k7) → ex_O _ _ _ _ _ _ _ _ _ [(c, ex_o 0 [ex_r c0, ex_r c1, ex_r c2, ex_r c3, ex_r c4, ex_r c5, ex_r c6, ex_r c7, ex_r c8, ex_r c9, ex_r c10, ex_r c11, ex_r c12, ex_i (nI np), ex_i (nI nd), ex_i sto, ex_i res, ex_r c17, ex_r c18, ex_r c19]), (c11, ex_a 1 5 co), (c17, ex_a 1 360 gf), (c19, ex_a 3 60 s7_0_)] [(3, ex_i (nI k7_)), (2, ex_i (nI (e * 10))), (0, ex_r c), (1, ex_i (nI e))] _ _ := fun k7_ s7_0_ hi_ hm_ => ih7 (k7_, s7_0_) hi_ hm_
    have hL7 := hI7.1
    have hb7 := hI7.2.1
    have hk7 := hI7.2.2
    refine X_iload_n (j := 0) dX0_settleBeaten_7 rfl rfl ?_
    refine X_iload_n (j := 1) dX0_settleBeaten_8 rfl rfl ?_
    refine X_iconst (v := 2) dX0_settleBeaten_9 (by decide) ?_
    refine X_aload_n (j := 2) dX0_settleBeaten_10 rfl rfl ?_
    refine X_get (j := 0) fo_X0_60 dX0_settleBeaten_11 rfl rfl ?_
    refine X_imul (v := nI (2 * nd)) dX0_settleBeaten_14 (nI_mu 2 nd) ?_
    refine X_iadd (v := nI ((e * 10) + (2 * nd))) dX0_settleBeaten_15 (nI_add (e * 10) (2 * nd)) ?_
    refine X_icmp_ge (tgt := 69) dX0_settleBeaten_16 (by decide) (fun c_2 => ?_) (fun c_2 => ?_)
    · have hlt7 : k7 = ((e * 10) + (2 * nd)) := nlex (L := ((e * 10) + (2 * nd))) (by omega) hb7 c_2
      rw [show ((e * 10) + (2 * nd)) - k7 = 0 by omega] at hL7
      have hL7 := hL7.trans (F_X0_settleBeaten_L7_z ..)
      try dsimp only at hL7
      refine X_lv (lv' := [(2, ex_i (nI (e * 10))), (0, ex_r c), (1, ex_i (nI e))]) [1, 2, 3] rfl ?_
      refine X_eq (cs' := [(c, ex_o 0 [ex_r c0, ex_r c1, ex_r c2, ex_r c3, ex_r c4, ex_r c5, ex_r c6, ex_r c7, ex_r c8, ex_r c9, ex_r c10, ex_r c11, ex_r c12, ex_i (nI np), ex_i (nI nd), ex_i sto, ex_i res, ex_r c17, ex_r c18, ex_r c19]), (c11, ex_a 1 5 co), (c17, ex_a 1 360 gf), (c19, ex_a 3 60 v_1)]) (lv' := [(2, ex_i (nI (e * 10))), (0, ex_r c), (1, ex_i (nI e))]) (by subst hL7; rfl) (by subst hL7; rfl) ?_
      exact hrest7 trivial
    · have hlt7 : k7 < ((e * 10) + (2 * nd)) := nlen (L := ((e * 10) + (2 * nd))) (by omega) hb7 c_2
      rw [show ((e * 10) + (2 * nd)) - k7 = (((e * 10) + (2 * nd)) - (k7 + 1)) + 1 by omega] at hL7
      have hL7 := hL7.trans (F_X0_settleBeaten_L7_s ..)
      refine X_aload_n (j := 2) dX0_settleBeaten_19 rfl rfl ?_
      refine X_get (j := 0) fo_X0_75 dX0_settleBeaten_20 rfl rfl ?_
      refine X_iload_n (j := 0) dX0_settleBeaten_23 rfl rfl ?_
      refine X_iconst (v := 0) dX0_settleBeaten_24 (by decide) ?_
      refine X_zast (j := 3) (g := upd s7_0 k7 (vp_nar .boolean 0)) (cs' := [(c, ex_o 0 [ex_r c0, ex_r c1, ex_r c2, ex_r c3, ex_r c4, ex_r c5, ex_r c6, ex_r c7, ex_r c8, ex_r c9, ex_r c10, ex_r c11, ex_r c12, ex_i (nI np), ex_i (nI nd), ex_i sto, ex_i res, ex_r c17, ex_r c18, ex_r c19]), (c11, ex_a 1 5 co), (c17, ex_a 1 360 gf), (c19, ex_a 3 60 (upd s7_0 k7 (vp_nar .boolean 0)))]) dX0_settleBeaten_25 rfl (vp_in_nI (show k7 < 60 by omega) (by decide)) (by rw [nI_clamp (by omega)]) rfl ?_
      refine X_iload_n (j := 1) dX0_settleBeaten_26 rfl rfl ?_
      refine X_istore (lv' := [(4, ex_i (nI (e * 10))), (3, ex_i (nI k7)), (2, ex_i (nI (e * 10))), (0, ex_r c), (1, ex_i (nI e))]) dX0_settleBeaten_27 (Nat.le_of_ble_eq_true rfl) rfl ?_
      -- loop at 29
      try dsimp only at hL7
      generalize hq_v_3 : F_X0_settleBeaten_L29 np co gf k7 (k7 - (e * 10)) (e * 10) (upd s7_0 k7 (vp_nar .boolean 0)) = v_3 at hL7
      try dsimp only at hL7
      refine X_cut (P := True) (csE := [(c, ex_o 0 [ex_r c0, ex_r c1, ex_r c2, ex_r c3, ex_r c4, ex_r c5, ex_r c6, ex_r c7, ex_r c8, ex_r c9, ex_r c10, ex_r c11, ex_r c12, ex_i (nI np), ex_i (nI nd), ex_i sto, ex_i res, ex_r c17, ex_r c18, ex_r c19]), (c11, ex_a 1 5 co), (c17, ex_a 1 360 gf), (c19, ex_a 3 60 v_3)]) (lvE := [(3, ex_i (nI k7)), (2, ex_i (nI (e * 10))), (0, ex_r c), (1, ex_i (nI e))]) (E := 63) (fun hrest29 => ?_) (fun hPX29 => ?_)
      · have hL29 := hq_v_3.symm
        refine X_ind (fun (a29 : Nat × (Nat → Int32)) => v_3 = F_X0_settleBeaten_L29 np co gf k7 (k7 - a29.1) a29.1 a29.2 ∧ a29.1 ≤ k7) (fun (a29 : Nat × (Nat → Int32)) => k7 - a29.1) (fun (a29 : Nat × (Nat → Int32)) => [(c, ex_o 0 [ex_r c0, ex_r c1, ex_r c2, ex_r c3, ex_r c4, ex_r c5, ex_r c6, ex_r c7, ex_r c8, ex_r c9, ex_r c10, ex_r c11, ex_r c12, ex_i (nI np), ex_i (nI nd), ex_i sto, ex_i res, ex_r c17, ex_r c18, ex_r c19]), (c11, ex_a 1 5 co), (c17, ex_a 1 360 gf), (c19, ex_a 3 60 a29.2)]) (fun (a29 : Nat × (Nat → Int32)) => [(4, ex_i (nI a29.1)), (3, ex_i (nI k7)), (2, ex_i (nI (e * 10))), (0, ex_r c), (1, ex_i (nI e))]) (fun ⟨k29, s29_0⟩ hI29 ih29 => ?_) (e * 10, (upd s7_0 k7 (vp_nar .boolean 0))) ⟨hL29, (by omega)⟩
        try dsimp only at hI29 ih29 ⊢
        have ihc29 : ∀ (k29_ : Nat) (s29_0_ : Nat → Int32), (v_3 = F_X0_settleBeaten_L29 np co gf k7 (k7 - k29_) k29_ s29_0_ ∧ k29_ ≤ k7) → (k7 - k29_) < (k7 - k29) → ex_O _ _ _ _ _ _ _ _ _ [(c, ex_o 0 [ex_r c0, ex_r c1, ex_r c2, ex_r c3, ex_r c4, ex_r c5, ex_r c6, ex_r c7, ex_r c8, ex_r c9, ex_r c10, ex_r c11, ex_r c12, ex_i (nI np), ex_i (nI nd), ex_i sto, ex_i res, ex_r c17, ex_r c18, ex_r c19]), (c11, ex_a 1 5 co), (c17, ex_a 1 360 gf), (c19, ex_a 3 60 s29_0_)] [(4, ex_i (nI k29_)), (3, ex_i (nI k7)), (2, ex_i (nI (e * 10))), (0, ex_r c), (1, ex_i (nI e))] _ _ := fun k29_ s29_0_ hi_ hm_ => ih29 (k29_, s29_0_) hi_ hm_
        have hL29 := hI29.1
        have hb29 := hI29.2
        refine X_iload (j := 0) dX0_settleBeaten_29 rfl ?_
        refine X_iload_n (j := 1) dX0_settleBeaten_31 rfl rfl ?_
        refine X_icmp_ge (tgt := 63) dX0_settleBeaten_32 (by decide) (fun c_4 => ?_) (fun c_4 => ?_)
        · have hlt29 : k29 = k7 := nlex (L := k7) (by omega) hb29 c_4
          rw [show k7 - k29 = 0 by omega] at hL29
          have hL29 := hL29.trans (F_X0_settleBeaten_L29_z ..)
          try dsimp only at hL29
          refine X_lv (lv' := [(3, ex_i (nI k7)), (2, ex_i (nI (e * 10))), (0, ex_r c), (1, ex_i (nI e))]) [1, 2, 3, 4] rfl ?_
          refine X_eq (cs' := [(c, ex_o 0 [ex_r c0, ex_r c1, ex_r c2, ex_r c3, ex_r c4, ex_r c5, ex_r c6, ex_r c7, ex_r c8, ex_r c9, ex_r c10, ex_r c11, ex_r c12, ex_i (nI np), ex_i (nI nd), ex_i sto, ex_i res, ex_r c17, ex_r c18, ex_r c19]), (c11, ex_a 1 5 co), (c17, ex_a 1 360 gf), (c19, ex_a 3 60 v_3)]) (lv' := [(3, ex_i (nI k7)), (2, ex_i (nI (e * 10))), (0, ex_r c), (1, ex_i (nI e))]) (by subst hL29; rfl) (by subst hL29; rfl) ?_
          exact hrest29 trivial
        · have hlt29 : k29 < k7 := nlen (L := k7) (by omega) hb29 c_4
          rw [show k7 - k29 = (k7 - (k29 + 1)) + 1 by omega] at hL29
          have hL29 := hL29.trans (F_X0_settleBeaten_L29_s ..)
          refine X_aload_n (j := 3) dX0_settleBeaten_35 rfl rfl ?_
          refine X_get (j := 0) fo_X0_75 dX0_settleBeaten_36 rfl rfl ?_
          refine X_iload_n (j := 1) dX0_settleBeaten_39 rfl rfl ?_
          refine X_zald (j := 3) (v := (s29_0 k7)) dX0_settleBeaten_40 rfl (vp_in_nI (show k7 < 60 by omega) (by decide)) (by rw [nI_clamp (by omega)]) ?_
          refine X_if_ne (tgt := 63) dX0_settleBeaten_41 (by decide) (fun c_5 => ?_) (fun c_5 => ?_)
          · have hL29 := hL29.trans (if_neg c_5)
            try dsimp only at hL29
            refine X_lv (lv' := [(3, ex_i (nI k7)), (2, ex_i (nI (e * 10))), (0, ex_r c), (1, ex_i (nI e))]) [1, 2, 3, 4] rfl ?_
            refine X_eq (cs' := [(c, ex_o 0 [ex_r c0, ex_r c1, ex_r c2, ex_r c3, ex_r c4, ex_r c5, ex_r c6, ex_r c7, ex_r c8, ex_r c9, ex_r c10, ex_r c11, ex_r c12, ex_i (nI np), ex_i (nI nd), ex_i sto, ex_i res, ex_r c17, ex_r c18, ex_r c19]), (c11, ex_a 1 5 co), (c17, ex_a 1 360 gf), (c19, ex_a 3 60 v_3)]) (lv' := [(3, ex_i (nI k7)), (2, ex_i (nI (e * 10))), (0, ex_r c), (1, ex_i (nI e))]) (by subst hL29; rfl) (by subst hL29; rfl) ?_
            exact hrest29 trivial
          · have hL29 := hL29.trans (if_pos c_5)
            refine X_aload_n (j := 3) dX0_settleBeaten_44 rfl rfl ?_
            refine X_get (j := 0) fo_X0_75 dX0_settleBeaten_45 rfl rfl ?_
            refine X_iload_n (j := 1) dX0_settleBeaten_48 rfl rfl ?_
            refine X_aload_n (j := 3) dX0_settleBeaten_49 rfl rfl ?_
            refine X_iload (j := 0) dX0_settleBeaten_50 rfl ?_
            refine X_iload_n (j := 1) dX0_settleBeaten_52 rfl rfl ?_
            refine X_callV (j0 := 0) (rest := [(c19, ex_a 3 60 s29_0)]) (stk := [ex_i (nI k7), ex_r c19]) co_X0_114 rfl ⟨(Nat.le_of_ble_eq_true rfl), (Nat.le_of_ble_eq_true rfl)⟩ (e_X0_isNoWorse l c k29 k7 c0 c1 c2 c3 c4 c5 c6 c7 c8 c9 c10 c11 c12 np nd sto res c17 c18 c19 co gf (by first | assumption | omega) (by first | assumption | omega) (by first | assumption | omega)) dX0_settleBeaten_53 [0, 1, 2, 3] (show List.Perm [0, 1, 2, 3] (List.range 4) from by decide) rfl rfl rfl rfl (Nat.le_of_ble_eq_true rfl) (fun zc1 zr hq hk => ?_)
            obtain ⟨rfl, rfl⟩ := hq
            refine X_zast (j := 3) (g := upd s29_0 k7 (vp_nar .boolean (F_X0_isNoWorse k29 k7 np co gf))) (cs' := [(c, ex_o 0 [ex_r c0, ex_r c1, ex_r c2, ex_r c3, ex_r c4, ex_r c5, ex_r c6, ex_r c7, ex_r c8, ex_r c9, ex_r c10, ex_r c11, ex_r c12, ex_i (nI np), ex_i (nI nd), ex_i sto, ex_i res, ex_r c17, ex_r c18, ex_r c19]), (c11, ex_a 1 5 co), (c17, ex_a 1 360 gf), (c19, ex_a 3 60 (upd s29_0 k7 (vp_nar .boolean (F_X0_isNoWorse k29 k7 np co gf))))]) dX0_settleBeaten_56 rfl (vp_in_nI (show k7 < 60 by omega) (by decide)) (by rw [nI_clamp (by omega)]) rfl ?_
            refine X_iinc (v := nI (k29 + 1)) (j := 0) (lv' := [(4, ex_i (nI (k29 + 1))), (3, ex_i (nI k7)), (2, ex_i (nI (e * 10))), (0, ex_r c), (1, ex_i (nI e))]) dX0_settleBeaten_57 rfl (nI_add k29 1) (Nat.le_of_ble_eq_true rfl) rfl ?_
            refine X_goto (tgt := 29) dX0_settleBeaten_60 (by decide) ?_
            try dsimp only at hL29
            exact ihc29 (k29 + 1) (upd s29_0 k7 (vp_nar .boolean (F_X0_isNoWorse k29 k7 np co gf))) ⟨hL29, (show (k29 + 1) ≤ k7 by omega)⟩ (show k7 - (k29 + 1) < k7 - k29 by omega)
      refine X_iinc (v := nI (k7 + 1)) (j := 0) (lv' := [(3, ex_i (nI (k7 + 1))), (2, ex_i (nI (e * 10))), (0, ex_r c), (1, ex_i (nI e))]) dX0_settleBeaten_63 rfl (nI_add k7 1) (Nat.le_of_ble_eq_true rfl) rfl ?_
      refine X_goto (tgt := 7) dX0_settleBeaten_66 (by decide) ?_
      try dsimp only at hL7
      exact ihc7 (k7 + 1) v_3 ⟨hL7, (show (k7 + 1) ≤ ((e * 10) + (2 * nd)) by omega), (show e * 10 ≤ (k7 + 1) by omega)⟩ (show ((e * 10) + (2 * nd)) - (k7 + 1) < ((e * 10) + (2 * nd)) - k7 by omega)
  try dsimp only at hV
  exact X_vret dX0_settleBeaten_69 (by (repeat refine ex_kc ?_) <;> rfl) (by subst hV; exact ⟨rfl, rfl⟩)

def F_X0_settleGifts_L12 (np : Nat) (kd : Nat → Int32) (ta : Nat → Int32) (bi : Nat → Int32) (sa : Nat → Int32) (sl : Nat) (sp : Nat → Int32) (k2 : Nat) : Nat → Nat → (Nat → Int32) → (Nat → Int32) → (Nat → Int32) → (Nat → Int32) → (Nat → Int32) × (Nat → Int32) × (Nat → Int32) × (Nat → Int32)
  | 0, k12, s12_0, s12_1, s12_2, s12_3 => (s12_0, s12_1, s12_2, s12_3)
  | zn + 1, k12, s12_0, s12_1, s12_2, s12_3 => ((fun (w_5 : (Nat → Int32)) => ((fun (w_6 : (Nat → Int32) × (Nat → Int32) × Int32) => ((fun (w_7 : (Nat → Int32) × (Nat → Int32) × (Nat → Int32)) => ((fun (w_8 : (Nat → Int32) × (Nat → Int32) × (Nat → Int32)) => F_X0_settleGifts_L12 np kd ta bi sa sl sp k2 zn (k12 + 1) w_8.1 (upd s12_1 ((k2 * 5) + k12) w_6.2.2) w_8.2.1 w_8.2.2) (F_X0_settleGiftsOf k2 k12 0 np kd w_7.1 sl sp w_7.2.1 w_7.2.2))) (F_X0_settleGiftsOf k2 k12 1 np kd s12_0 sl sp w_6.1 w_6.2.1))) (F_X3_share 0 0 1 sl sp s12_2 w_5))) (F_X3_facesDish (bi k12) (aI ((sa k12) - (ta k2))) s12_3))
theorem F_X0_settleGifts_L12_z (np : Nat) (kd : Nat → Int32) (ta : Nat → Int32) (bi : Nat → Int32) (sa : Nat → Int32) (sl : Nat) (sp : Nat → Int32) (k2 : Nat) (k12 : Nat) (s12_0 : Nat → Int32) (s12_1 : Nat → Int32) (s12_2 : Nat → Int32) (s12_3 : Nat → Int32) : F_X0_settleGifts_L12 np kd ta bi sa sl sp k2 0 k12 s12_0 s12_1 s12_2 s12_3 = (s12_0, s12_1, s12_2, s12_3) := rfl
theorem F_X0_settleGifts_L12_s (np : Nat) (kd : Nat → Int32) (ta : Nat → Int32) (bi : Nat → Int32) (sa : Nat → Int32) (sl : Nat) (sp : Nat → Int32) (k2 : Nat) (k12 : Nat) (s12_0 : Nat → Int32) (s12_1 : Nat → Int32) (s12_2 : Nat → Int32) (s12_3 : Nat → Int32) (zn : Nat) : F_X0_settleGifts_L12 np kd ta bi sa sl sp k2 (zn + 1) k12 s12_0 s12_1 s12_2 s12_3 = ((fun (w_5 : (Nat → Int32)) => ((fun (w_6 : (Nat → Int32) × (Nat → Int32) × Int32) => ((fun (w_7 : (Nat → Int32) × (Nat → Int32) × (Nat → Int32)) => ((fun (w_8 : (Nat → Int32) × (Nat → Int32) × (Nat → Int32)) => F_X0_settleGifts_L12 np kd ta bi sa sl sp k2 zn (k12 + 1) w_8.1 (upd s12_1 ((k2 * 5) + k12) w_6.2.2) w_8.2.1 w_8.2.2) (F_X0_settleGiftsOf k2 k12 0 np kd w_7.1 sl sp w_7.2.1 w_7.2.2))) (F_X0_settleGiftsOf k2 k12 1 np kd s12_0 sl sp w_6.1 w_6.2.1))) (F_X3_share 0 0 1 sl sp s12_2 w_5))) (F_X3_facesDish (bi k12) (aI ((sa k12) - (ta k2))) s12_3)) := rfl
def F_X0_settleGifts_L2 (np : Nat) (nd : Nat) (kd : Nat → Int32) (ta : Nat → Int32) (bi : Nat → Int32) (sa : Nat → Int32) (co : Nat → Int32) (sl : Nat) (sp : Nat → Int32) : Nat → Nat → (Nat → Int32) → (Nat → Int32) → (Nat → Int32) → (Nat → Int32) → (Nat → Int32) → (Nat → Int32) × (Nat → Int32) × (Nat → Int32) × (Nat → Int32) × (Nat → Int32)
  | 0, k2, s2_0, s2_1, s2_2, s2_3, s2_4 => (s2_0, s2_1, s2_2, s2_3, s2_4)
  | zn + 1, k2, s2_0, s2_1, s2_2, s2_3, s2_4 => ((fun (v_3 : (Nat → Int32) × (Nat → Int32) × (Nat → Int32) × (Nat → Int32)) => ((fun (w_9 : (Nat → Int32)) => F_X0_settleGifts_L2 np nd kd ta bi sa co sl sp zn (k2 + 1) v_3.1 v_3.2.1 w_9 v_3.2.2.1 v_3.2.2.2) (F_X0_settleBeaten k2 np nd co v_3.1 s2_2))) (F_X0_settleGifts_L12 np kd ta bi sa sl sp k2 (nd - 0) 0 s2_0 s2_1 s2_3 s2_4))
theorem F_X0_settleGifts_L2_z (np : Nat) (nd : Nat) (kd : Nat → Int32) (ta : Nat → Int32) (bi : Nat → Int32) (sa : Nat → Int32) (co : Nat → Int32) (sl : Nat) (sp : Nat → Int32) (k2 : Nat) (s2_0 : Nat → Int32) (s2_1 : Nat → Int32) (s2_2 : Nat → Int32) (s2_3 : Nat → Int32) (s2_4 : Nat → Int32) : F_X0_settleGifts_L2 np nd kd ta bi sa co sl sp 0 k2 s2_0 s2_1 s2_2 s2_3 s2_4 = (s2_0, s2_1, s2_2, s2_3, s2_4) := rfl
theorem F_X0_settleGifts_L2_s (np : Nat) (nd : Nat) (kd : Nat → Int32) (ta : Nat → Int32) (bi : Nat → Int32) (sa : Nat → Int32) (co : Nat → Int32) (sl : Nat) (sp : Nat → Int32) (k2 : Nat) (s2_0 : Nat → Int32) (s2_1 : Nat → Int32) (s2_2 : Nat → Int32) (s2_3 : Nat → Int32) (s2_4 : Nat → Int32) (zn : Nat) : F_X0_settleGifts_L2 np nd kd ta bi sa co sl sp (zn + 1) k2 s2_0 s2_1 s2_2 s2_3 s2_4 = ((fun (v_3 : (Nat → Int32) × (Nat → Int32) × (Nat → Int32) × (Nat → Int32)) => ((fun (w_9 : (Nat → Int32)) => F_X0_settleGifts_L2 np nd kd ta bi sa co sl sp zn (k2 + 1) v_3.1 v_3.2.1 w_9 v_3.2.2.1 v_3.2.2.2) (F_X0_settleBeaten k2 np nd co v_3.1 s2_2))) (F_X0_settleGifts_L12 np kd ta bi sa sl sp k2 (nd - 0) 0 s2_0 s2_1 s2_3 s2_4)) := rfl
def F_X0_settleGifts (np : Nat) (nd : Nat) (kd : Nat → Int32) (ta : Nat → Int32) (bi : Nat → Int32) (sa : Nat → Int32) (co : Nat → Int32) (gf : Nat → Int32) (ga : Nat → Int32) (bt : Nat → Int32) (sl : Nat) (sp : Nat → Int32) (vf : Nat → Int32) (fc : Nat → Int32) : (Nat → Int32) × (Nat → Int32) × (Nat → Int32) × (Nat → Int32) × (Nat → Int32) := ((fun (v_1 : (Nat → Int32) × (Nat → Int32) × (Nat → Int32) × (Nat → Int32) × (Nat → Int32)) => (v_1.1, v_1.2.1, v_1.2.2.1, v_1.2.2.2.1, v_1.2.2.2.2)) (F_X0_settleGifts_L2 np nd kd ta bi sa co sl sp (np - 0) 0 gf ga bt vf fc))
set_option maxHeartbeats 4000000 in
set_option maxRecDepth 100000 in
theorem e_X0_settleGifts (l : Launch) (c : Nat) (c0 : Nat) (c1 : Nat) (c2 : Nat) (c3 : Nat) (c4 : Nat) (c5 : Nat) (c6 : Nat) (c7 : Nat) (c8 : Nat) (c9 : Nat) (c10 : Nat) (c11 : Nat) (c12 : Nat) (np : Nat) (nd : Nat) (sto : Int32) (res : Int32) (c17 : Nat) (c18 : Nat) (c19 : Nat) (kd : Nat → Int32) (ta : Nat → Int32) (bi : Nat → Int32) (sa : Nat → Int32) (co : Nat → Int32) (gf : Nat → Int32) (ga : Nat → Int32) (bt : Nat → Int32) (w0 : Nat) (sl : Nat) (w2 : Nat) (wn : Nat) (dp : Int32) (op : Int32) (w6 : Nat) (w7 : Nat) (sp : Nat → Int32) (vf : Nat → Int32) (fc : Nat → Int32) (hnp : np ≤ 6) (hnd : nd ≤ 5) (hsl : sl ≤ 1000) : ex_M l yX0_settleGifts cX0_settleGifts 3 none 5 113 [ex_r c] [(c, ex_o 0 [ex_r c0, ex_r c1, ex_r c2, ex_r c3, ex_r c4, ex_r c5, ex_r c6, ex_r c7, ex_r c8, ex_r c9, ex_r c10, ex_r c11, ex_r c12, ex_i (nI np), ex_i (nI nd), ex_i sto, ex_i res, ex_r c17, ex_r c18, ex_r c19]), (c1, ex_a 1 6 kd), (c3, ex_a 1 6 ta), (c9, ex_a 1 5 bi), (c10, ex_a 1 5 sa), (c11, ex_a 1 5 co), (c17, ex_a 1 360 gf), (c18, ex_a 1 30 ga), (c19, ex_a 3 60 bt), (c12, ex_o 3 [ex_r w0, ex_i (nI sl), ex_r w2, ex_i (nI wn), ex_i dp, ex_i op, ex_r w6, ex_r w7]), (w0, ex_a 1 1000 sp), (w6, ex_a 1 40 vf), (w7, ex_a 1 5 fc)] (fun zcs zr => zcs = [(c, ex_o 0 [ex_r c0, ex_r c1, ex_r c2, ex_r c3, ex_r c4, ex_r c5, ex_r c6, ex_r c7, ex_r c8, ex_r c9, ex_r c10, ex_r c11, ex_r c12, ex_i (nI np), ex_i (nI nd), ex_i sto, ex_i res, ex_r c17, ex_r c18, ex_r c19]), (c1, ex_a 1 6 kd), (c3, ex_a 1 6 ta), (c9, ex_a 1 5 bi), (c10, ex_a 1 5 sa), (c11, ex_a 1 5 co), (c17, ex_a 1 360 ((F_X0_settleGifts np nd kd ta bi sa co gf ga bt sl sp vf fc).1)), (c18, ex_a 1 30 ((F_X0_settleGifts np nd kd ta bi sa co gf ga bt sl sp vf fc).2.1)), (c19, ex_a 3 60 ((F_X0_settleGifts np nd kd ta bi sa co gf ga bt sl sp vf fc).2.2.1)), (c12, ex_o 3 [ex_r w0, ex_i (nI sl), ex_r w2, ex_i (nI wn), ex_i dp, ex_i op, ex_r w6, ex_r w7]), (w0, ex_a 1 1000 sp), (w6, ex_a 1 40 ((F_X0_settleGifts np nd kd ta bi sa co gf ga bt sl sp vf fc).2.2.2.1)), (w7, ex_a 1 5 ((F_X0_settleGifts np nd kd ta bi sa co gf ga bt sl sp vf fc).2.2.2.2))] ∧ zr = none) := by
  refine X_meth (by decide) (Nat.le_of_ble_eq_true rfl) ?_
  generalize hV : F_X0_settleGifts np nd kd ta bi sa co gf ga bt sl sp vf fc = V0
  have hV := hV.symm
  unfold F_X0_settleGifts at hV
  try dsimp only at hV
  refine X_iconst (v := 0) dX0_settleGifts_0 (by decide) ?_
  refine X_istore_n (lv' := [(1, ex_i 0), (0, ex_r c)]) dX0_settleGifts_1 rfl (Nat.le_of_ble_eq_true rfl) rfl ?_
  -- loop at 2
  try dsimp only at hV
  generalize hq_v_1 : F_X0_settleGifts_L2 np nd kd ta bi sa co sl sp (np - 0) 0 gf ga bt vf fc = v_1 at hV
  try dsimp only at hV
  refine X_cut (P := True) (csE := [(c, ex_o 0 [ex_r c0, ex_r c1, ex_r c2, ex_r c3, ex_r c4, ex_r c5, ex_r c6, ex_r c7, ex_r c8, ex_r c9, ex_r c10, ex_r c11, ex_r c12, ex_i (nI np), ex_i (nI nd), ex_i sto, ex_i res, ex_r c17, ex_r c18, ex_r c19]), (c1, ex_a 1 6 kd), (c3, ex_a 1 6 ta), (c9, ex_a 1 5 bi), (c10, ex_a 1 5 sa), (c11, ex_a 1 5 co), (c17, ex_a 1 360 v_1.1), (c18, ex_a 1 30 v_1.2.1), (c19, ex_a 3 60 v_1.2.2.1), (c12, ex_o 3 [ex_r w0, ex_i (nI sl), ex_r w2, ex_i (nI wn), ex_i dp, ex_i op, ex_r w6, ex_r w7]), (w0, ex_a 1 1000 sp), (w6, ex_a 1 40 v_1.2.2.2.1), (w7, ex_a 1 5 v_1.2.2.2.2)]) (lvE := [(0, ex_r c)]) (E := 100) (fun hrest2 => ?_) (fun hPX2 => ?_)
  · have hL2 := hq_v_1.symm
    refine X_ind (fun (a2 : Nat × (Nat → Int32) × (Nat → Int32) × (Nat → Int32) × (Nat → Int32) × (Nat → Int32)) => v_1 = F_X0_settleGifts_L2 np nd kd ta bi sa co sl sp (np - a2.1) a2.1 a2.2.1 a2.2.2.1 a2.2.2.2.1 a2.2.2.2.2.1 a2.2.2.2.2.2 ∧ a2.1 ≤ np) (fun (a2 : Nat × (Nat → Int32) × (Nat → Int32) × (Nat → Int32) × (Nat → Int32) × (Nat → Int32)) => np - a2.1) (fun (a2 : Nat × (Nat → Int32) × (Nat → Int32) × (Nat → Int32) × (Nat → Int32) × (Nat → Int32)) => [(c, ex_o 0 [ex_r c0, ex_r c1, ex_r c2, ex_r c3, ex_r c4, ex_r c5, ex_r c6, ex_r c7, ex_r c8, ex_r c9, ex_r c10, ex_r c11, ex_r c12, ex_i (nI np), ex_i (nI nd), ex_i sto, ex_i res, ex_r c17, ex_r c18, ex_r c19]), (c1, ex_a 1 6 kd), (c3, ex_a 1 6 ta), (c9, ex_a 1 5 bi), (c10, ex_a 1 5 sa), (c11, ex_a 1 5 co), (c17, ex_a 1 360 a2.2.1), (c18, ex_a 1 30 a2.2.2.1), (c19, ex_a 3 60 a2.2.2.2.1), (c12, ex_o 3 [ex_r w0, ex_i (nI sl), ex_r w2, ex_i (nI wn), ex_i dp, ex_i op, ex_r w6, ex_r w7]), (w0, ex_a 1 1000 sp), (w6, ex_a 1 40 a2.2.2.2.2.1), (w7, ex_a 1 5 a2.2.2.2.2.2)]) (fun (a2 : Nat × (Nat → Int32) × (Nat → Int32) × (Nat → Int32) × (Nat → Int32) × (Nat → Int32)) => [(1, ex_i (nI a2.1)), (0, ex_r c)]) (fun ⟨k2, s2_0, s2_1, s2_2, s2_3, s2_4⟩ hI2 ih2 => ?_) (0, gf, ga, bt, vf, fc) ⟨hL2, (by omega)⟩
    try dsimp only at hI2 ih2 ⊢
    have ihc2 : ∀ (k2_ : Nat) (s2_0_ : Nat → Int32) (s2_1_ : Nat → Int32) (s2_2_ : Nat → Int32) (s2_3_ : Nat → Int32) (s2_4_ : Nat → Int32), (v_1 = F_X0_settleGifts_L2 np nd kd ta bi sa co sl sp (np - k2_) k2_ s2_0_ s2_1_ s2_2_ s2_3_ s2_4_ ∧ k2_ ≤ np) → (np - k2_) < (np - k2) → ex_O _ _ _ _ _ _ _ _ _ [(c, ex_o 0 [ex_r c0, ex_r c1, ex_r c2, ex_r c3, ex_r c4, ex_r c5, ex_r c6, ex_r c7, ex_r c8, ex_r c9, ex_r c10, ex_r c11, ex_r c12, ex_i (nI np), ex_i (nI nd), ex_i sto, ex_i res, ex_r c17, ex_r c18, ex_r c19]), (c1, ex_a 1 6 kd), (c3, ex_a 1 6 ta), (c9, ex_a 1 5 bi), (c10, ex_a 1 5 sa), (c11, ex_a 1 5 co), (c17, ex_a 1 360 s2_0_), (c18, ex_a 1 30 s2_1_), (c19, ex_a 3 60 s2_2_), (c12, ex_o 3 [ex_r w0, ex_i (nI sl), ex_r w2, ex_i (nI wn), ex_i dp, ex_i op, ex_r w6, ex_r w7]), (w0, ex_a 1 1000 sp), (w6, ex_a 1 40 s2_3_), (w7, ex_a 1 5 s2_4_)] [(1, ex_i (nI k2_)), (0, ex_r c)] _ _ := fun k2_ s2_0_ s2_1_ s2_2_ s2_3_ s2_4_ hi_ hm_ => ih2 (k2_, s2_0_, s2_1_, s2_2_, s2_3_, s2_4_) hi_ hm_
    have hL2 := hI2.1
    have hb2 := hI2.2
    refine X_iload_n (j := 0) dX0_settleGifts_2 rfl rfl ?_
    refine X_aload_n (j := 1) dX0_settleGifts_3 rfl rfl ?_
    refine X_get (j := 0) fo_X0_56 dX0_settleGifts_4 rfl rfl ?_
    refine X_icmp_ge (tgt := 100) dX0_settleGifts_7 (by decide) (fun c_2 => ?_) (fun c_2 => ?_)
    · have hlt2 : k2 = np := nlex (L := np) (by omega) hb2 c_2
      rw [show np - k2 = 0 by omega] at hL2
      have hL2 := hL2.trans (F_X0_settleGifts_L2_z ..)
      try dsimp only at hL2
      refine X_lv (lv' := [(0, ex_r c)]) [1] rfl ?_
      refine X_eq (cs' := [(c, ex_o 0 [ex_r c0, ex_r c1, ex_r c2, ex_r c3, ex_r c4, ex_r c5, ex_r c6, ex_r c7, ex_r c8, ex_r c9, ex_r c10, ex_r c11, ex_r c12, ex_i (nI np), ex_i (nI nd), ex_i sto, ex_i res, ex_r c17, ex_r c18, ex_r c19]), (c1, ex_a 1 6 kd), (c3, ex_a 1 6 ta), (c9, ex_a 1 5 bi), (c10, ex_a 1 5 sa), (c11, ex_a 1 5 co), (c17, ex_a 1 360 v_1.1), (c18, ex_a 1 30 v_1.2.1), (c19, ex_a 3 60 v_1.2.2.1), (c12, ex_o 3 [ex_r w0, ex_i (nI sl), ex_r w2, ex_i (nI wn), ex_i dp, ex_i op, ex_r w6, ex_r w7]), (w0, ex_a 1 1000 sp), (w6, ex_a 1 40 v_1.2.2.2.1), (w7, ex_a 1 5 v_1.2.2.2.2)]) (lv' := [(0, ex_r c)]) (by subst hL2; rfl) (by subst hL2; rfl) ?_
      exact hrest2 trivial
    · have hlt2 : k2 < np := nlen (L := np) (by omega) hb2 c_2
      rw [show np - k2 = (np - (k2 + 1)) + 1 by omega] at hL2
      have hL2 := hL2.trans (F_X0_settleGifts_L2_s ..)
      refine X_iconst (v := 0) dX0_settleGifts_10 (by decide) ?_
      refine X_istore_n (lv' := [(2, ex_i 0), (1, ex_i (nI k2)), (0, ex_r c)]) dX0_settleGifts_11 rfl (Nat.le_of_ble_eq_true rfl) rfl ?_
      -- loop at 12
      try dsimp only at hL2
      generalize hq_v_3 : F_X0_settleGifts_L12 np kd ta bi sa sl sp k2 (nd - 0) 0 s2_0 s2_1 s2_3 s2_4 = v_3 at hL2
      try dsimp only at hL2
      refine X_cut (P := True) (csE := [(c, ex_o 0 [ex_r c0, ex_r c1, ex_r c2, ex_r c3, ex_r c4, ex_r c5, ex_r c6, ex_r c7, ex_r c8, ex_r c9, ex_r c10, ex_r c11, ex_r c12, ex_i (nI np), ex_i (nI nd), ex_i sto, ex_i res, ex_r c17, ex_r c18, ex_r c19]), (c1, ex_a 1 6 kd), (c3, ex_a 1 6 ta), (c9, ex_a 1 5 bi), (c10, ex_a 1 5 sa), (c11, ex_a 1 5 co), (c17, ex_a 1 360 v_3.1), (c18, ex_a 1 30 v_3.2.1), (c19, ex_a 3 60 s2_2), (c12, ex_o 3 [ex_r w0, ex_i (nI sl), ex_r w2, ex_i (nI wn), ex_i dp, ex_i op, ex_r w6, ex_r w7]), (w0, ex_a 1 1000 sp), (w6, ex_a 1 40 v_3.2.2.1), (w7, ex_a 1 5 v_3.2.2.2)]) (lvE := [(1, ex_i (nI k2)), (0, ex_r c)]) (E := 89) (fun hrest12 => ?_) (fun hPX12 => ?_)
      · have hL12 := hq_v_3.symm
        refine X_ind (fun (a12 : Nat × (Nat → Int32) × (Nat → Int32) × (Nat → Int32) × (Nat → Int32)) => v_3 = F_X0_settleGifts_L12 np kd ta bi sa sl sp k2 (nd - a12.1) a12.1 a12.2.1 a12.2.2.1 a12.2.2.2.1 a12.2.2.2.2 ∧ a12.1 ≤ nd) (fun (a12 : Nat × (Nat → Int32) × (Nat → Int32) × (Nat → Int32) × (Nat → Int32)) => nd - a12.1) (fun (a12 : Nat × (Nat → Int32) × (Nat → Int32) × (Nat → Int32) × (Nat → Int32)) => [(c, ex_o 0 [ex_r c0, ex_r c1, ex_r c2, ex_r c3, ex_r c4, ex_r c5, ex_r c6, ex_r c7, ex_r c8, ex_r c9, ex_r c10, ex_r c11, ex_r c12, ex_i (nI np), ex_i (nI nd), ex_i sto, ex_i res, ex_r c17, ex_r c18, ex_r c19]), (c1, ex_a 1 6 kd), (c3, ex_a 1 6 ta), (c9, ex_a 1 5 bi), (c10, ex_a 1 5 sa), (c11, ex_a 1 5 co), (c17, ex_a 1 360 a12.2.1), (c18, ex_a 1 30 a12.2.2.1), (c19, ex_a 3 60 s2_2), (c12, ex_o 3 [ex_r w0, ex_i (nI sl), ex_r w2, ex_i (nI wn), ex_i dp, ex_i op, ex_r w6, ex_r w7]), (w0, ex_a 1 1000 sp), (w6, ex_a 1 40 a12.2.2.2.1), (w7, ex_a 1 5 a12.2.2.2.2)]) (fun (a12 : Nat × (Nat → Int32) × (Nat → Int32) × (Nat → Int32) × (Nat → Int32)) => [(2, ex_i (nI a12.1)), (1, ex_i (nI k2)), (0, ex_r c)]) (fun ⟨k12, s12_0, s12_1, s12_2, s12_3⟩ hI12 ih12 => ?_) (0, s2_0, s2_1, s2_3, s2_4) ⟨hL12, (by omega)⟩
        try dsimp only at hI12 ih12 ⊢
        have ihc12 : ∀ (k12_ : Nat) (s12_0_ : Nat → Int32) (s12_1_ : Nat → Int32) (s12_2_ : Nat → Int32) (s12_3_ : Nat → Int32), (v_3 = F_X0_settleGifts_L12 np kd ta bi sa sl sp k2 (nd - k12_) k12_ s12_0_ s12_1_ s12_2_ s12_3_ ∧ k12_ ≤ nd) → (nd - k12_) < (nd - k12) → ex_O _ _ _ _ _ _ _ _ _ [(c, ex_o 0 [ex_r c0, ex_r c1, ex_r c2, ex_r c3, ex_r c4, ex_r c5, ex_r c6, ex_r c7, ex_r c8, ex_r c9, ex_r c10, ex_r c11, ex_r c12, ex_i (nI np), ex_i (nI nd), ex_i sto, ex_i res, ex_r c17, ex_r c18, ex_r c19]), (c1, ex_a 1 6 kd), (c3, ex_a 1 6 ta), (c9, ex_a 1 5 bi), (c10, ex_a 1 5 sa), (c11, ex_a 1 5 co), (c17, ex_a 1 360 s12_0_), (c18, ex_a 1 30 s12_1_), (c19, ex_a 3 60 s2_2), (c12, ex_o 3 [ex_r w0, ex_i (nI sl), ex_r w2, ex_i (nI wn), ex_i dp, ex_i op, ex_r w6, ex_r w7]), (w0, ex_a 1 1000 sp), (w6, ex_a 1 40 s12_2_), (w7, ex_a 1 5 s12_3_)] [(2, ex_i (nI k12_)), (1, ex_i (nI k2)), (0, ex_r c)] _ _ := fun k12_ s12_0_ s12_1_ s12_2_ s12_3_ hi_ hm_ => ih12 (k12_, s12_0_, s12_1_, s12_2_, s12_3_) hi_ hm_
        have hL12 := hI12.1
        have hb12 := hI12.2
        refine X_iload_n (j := 0) dX0_settleGifts_12 rfl rfl ?_
        refine X_aload_n (j := 2) dX0_settleGifts_13 rfl rfl ?_
        refine X_get (j := 0) fo_X0_60 dX0_settleGifts_14 rfl rfl ?_
        refine X_icmp_ge (tgt := 89) dX0_settleGifts_17 (by decide) (fun c_4 => ?_) (fun c_4 => ?_)
        · have hlt12 : k12 = nd := nlex (L := nd) (by omega) hb12 c_4
          rw [show nd - k12 = 0 by omega] at hL12
          have hL12 := hL12.trans (F_X0_settleGifts_L12_z ..)
          try dsimp only at hL12
          refine X_lv (lv' := [(1, ex_i (nI k2)), (0, ex_r c)]) [1, 2] rfl ?_
          refine X_eq (cs' := [(c, ex_o 0 [ex_r c0, ex_r c1, ex_r c2, ex_r c3, ex_r c4, ex_r c5, ex_r c6, ex_r c7, ex_r c8, ex_r c9, ex_r c10, ex_r c11, ex_r c12, ex_i (nI np), ex_i (nI nd), ex_i sto, ex_i res, ex_r c17, ex_r c18, ex_r c19]), (c1, ex_a 1 6 kd), (c3, ex_a 1 6 ta), (c9, ex_a 1 5 bi), (c10, ex_a 1 5 sa), (c11, ex_a 1 5 co), (c17, ex_a 1 360 v_3.1), (c18, ex_a 1 30 v_3.2.1), (c19, ex_a 3 60 s2_2), (c12, ex_o 3 [ex_r w0, ex_i (nI sl), ex_r w2, ex_i (nI wn), ex_i dp, ex_i op, ex_r w6, ex_r w7]), (w0, ex_a 1 1000 sp), (w6, ex_a 1 40 v_3.2.2.1), (w7, ex_a 1 5 v_3.2.2.2)]) (lv' := [(1, ex_i (nI k2)), (0, ex_r c)]) (by subst hL12; rfl) (by subst hL12; rfl) ?_
          exact hrest12 trivial
        · have hlt12 : k12 < nd := nlen (L := nd) (by omega) hb12 c_4
          rw [show nd - k12 = (nd - (k12 + 1)) + 1 by omega] at hL12
          have hL12 := hL12.trans (F_X0_settleGifts_L12_s ..)
          refine X_aload_n (j := 2) dX0_settleGifts_20 rfl rfl ?_
          refine X_get (j := 0) fo_X0_52 dX0_settleGifts_21 rfl rfl ?_
          refine X_aload_n (j := 2) dX0_settleGifts_24 rfl rfl ?_
          refine X_get (j := 0) fo_X0_40 dX0_settleGifts_25 rfl rfl ?_
          refine X_iload_n (j := 0) dX0_settleGifts_28 rfl rfl ?_
          refine X_iald (j := 3) (v := (bi k12)) dX0_settleGifts_29 rfl (vp_in_nI (show k12 < 5 by omega) (by decide)) (by rw [nI_clamp (by omega)]) ?_
          refine X_aload_n (j := 2) dX0_settleGifts_30 rfl rfl ?_
          refine X_get (j := 0) fo_X0_43 dX0_settleGifts_31 rfl rfl ?_
          refine X_iload_n (j := 0) dX0_settleGifts_34 rfl rfl ?_
          refine X_iald (j := 4) (v := (sa k12)) dX0_settleGifts_35 rfl (vp_in_nI (show k12 < 5 by omega) (by decide)) (by rw [nI_clamp (by omega)]) ?_
          refine X_aload_n (j := 2) dX0_settleGifts_36 rfl rfl ?_
          refine X_get (j := 0) fo_X0_22 dX0_settleGifts_37 rfl rfl ?_
          refine X_iload_n (j := 1) dX0_settleGifts_40 rfl rfl ?_
          refine X_iald (j := 2) (v := (ta k2)) dX0_settleGifts_41 rfl (vp_in_nI (show k2 < 6 by omega) (by decide)) (by rw [nI_clamp (by omega)]) ?_
          refine X_isub (v := ((sa k12) - (ta k2))) dX0_settleGifts_42 rfl ?_
          refine X_mabs (v := (aI ((sa k12) - (ta k2)))) k_801 k_802 k_17 k_803 ⟨(Nat.le_of_ble_eq_true rfl), (Nat.le_of_ble_eq_true rfl)⟩ (Nat.le_of_ble_eq_true rfl) dX0_settleGifts_43 rfl ?_
          refine X_callV (j0 := 0) (rest := [(c, ex_o 0 [ex_r c0, ex_r c1, ex_r c2, ex_r c3, ex_r c4, ex_r c5, ex_r c6, ex_r c7, ex_r c8, ex_r c9, ex_r c10, ex_r c11, ex_r c12, ex_i (nI np), ex_i (nI nd), ex_i sto, ex_i res, ex_r c17, ex_r c18, ex_r c19]), (c1, ex_a 1 6 kd), (c3, ex_a 1 6 ta), (c9, ex_a 1 5 bi), (c10, ex_a 1 5 sa), (c11, ex_a 1 5 co), (c17, ex_a 1 360 s12_0), (c18, ex_a 1 30 s12_1), (c19, ex_a 3 60 s2_2), (w0, ex_a 1 1000 sp), (w6, ex_a 1 40 s12_2)]) (stk := []) co_X0_98 rfl ⟨(Nat.le_of_ble_eq_true rfl), (Nat.le_of_ble_eq_true rfl)⟩ (e_X3_facesDish l c12 (bi k12) (aI ((sa k12) - (ta k2))) w0 sl w2 wn dp op w6 w7 s12_3) dX0_settleGifts_46 [9, 12, 0, 1, 2, 3, 4, 5, 6, 7, 8, 10, 11] (show List.Perm [9, 12, 0, 1, 2, 3, 4, 5, 6, 7, 8, 10, 11] (List.range 13) from by decide) rfl rfl rfl rfl (Nat.le_of_ble_eq_true rfl) (fun zc1 zr hq hk => ?_)
          obtain ⟨rfl, rfl⟩ := hq
          try dsimp only at hL12
          generalize hq_w_5 : F_X3_facesDish (bi k12) (aI ((sa k12) - (ta k2))) s12_3 = w_5 at hL12 ⊢
          try dsimp only at hL12
          refine X_aload_n (j := 2) dX0_settleGifts_49 rfl rfl ?_
          refine X_get (j := 2) fo_X0_72 dX0_settleGifts_50 rfl rfl ?_
          refine X_iload_n (j := 1) dX0_settleGifts_53 rfl rfl ?_
          refine X_iconst (v := 5) dX0_settleGifts_54 (by decide) ?_
          refine X_imul (v := nI (k2 * 5)) dX0_settleGifts_55 (nI_mu k2 5) ?_
          refine X_iload_n (j := 0) dX0_settleGifts_56 rfl rfl ?_
          refine X_iadd (v := nI ((k2 * 5) + k12)) dX0_settleGifts_57 (nI_add (k2 * 5) k12) ?_
          refine X_aload_n (j := 2) dX0_settleGifts_58 rfl rfl ?_
          refine X_get (j := 2) fo_X0_52 dX0_settleGifts_59 rfl rfl ?_
          refine X_iconst (v := 0) dX0_settleGifts_62 (by decide) ?_
          refine X_iconst (v := 0) dX0_settleGifts_63 (by decide) ?_
          refine X_iconst (v := 1) dX0_settleGifts_64 (by decide) ?_
          refine X_callV (j0 := 0) (rest := [(c, ex_o 0 [ex_r c0, ex_r c1, ex_r c2, ex_r c3, ex_r c4, ex_r c5, ex_r c6, ex_r c7, ex_r c8, ex_r c9, ex_r c10, ex_r c11, ex_r c12, ex_i (nI np), ex_i (nI nd), ex_i sto, ex_i res, ex_r c17, ex_r c18, ex_r c19]), (c1, ex_a 1 6 kd), (c3, ex_a 1 6 ta), (c9, ex_a 1 5 bi), (c10, ex_a 1 5 sa), (c11, ex_a 1 5 co), (c17, ex_a 1 360 s12_0), (c18, ex_a 1 30 s12_1), (c19, ex_a 3 60 s2_2)]) (stk := [ex_i (nI ((k2 * 5) + k12)), ex_r c18]) co_X0_102 rfl ⟨(Nat.le_of_ble_eq_true rfl), (Nat.le_of_ble_eq_true rfl)⟩ (e_X3_share l c12 0 0 1 w0 sl w2 wn dp op w6 w7 sp s12_2 w_5 (by first | assumption | omega)) dX0_settleGifts_65 [0, 11, 12, 1, 2, 3, 4, 5, 6, 7, 8, 9, 10] (show List.Perm [0, 11, 12, 1, 2, 3, 4, 5, 6, 7, 8, 9, 10] (List.range 13) from by decide) rfl rfl rfl rfl (Nat.le_of_ble_eq_true rfl) (fun zc1 zr hq hk => ?_)
          obtain ⟨rfl, rfl⟩ := hq
          try dsimp only at hL12
          generalize hq_w_6 : F_X3_share 0 0 1 sl sp s12_2 w_5 = w_6 at hL12 ⊢
          try dsimp only at hL12
          refine X_iast (j := 11) (g := upd s12_1 ((k2 * 5) + k12) w_6.2.2) (cs' := [(c12, ex_o 3 [ex_r w0, ex_i (nI sl), ex_r w2, ex_i (nI wn), ex_i dp, ex_i op, ex_r w6, ex_r w7]), (w0, ex_a 1 1000 sp), (w6, ex_a 1 40 w_6.1), (w7, ex_a 1 5 w_6.2.1), (c, ex_o 0 [ex_r c0, ex_r c1, ex_r c2, ex_r c3, ex_r c4, ex_r c5, ex_r c6, ex_r c7, ex_r c8, ex_r c9, ex_r c10, ex_r c11, ex_r c12, ex_i (nI np), ex_i (nI nd), ex_i sto, ex_i res, ex_r c17, ex_r c18, ex_r c19]), (c1, ex_a 1 6 kd), (c3, ex_a 1 6 ta), (c9, ex_a 1 5 bi), (c10, ex_a 1 5 sa), (c11, ex_a 1 5 co), (c17, ex_a 1 360 s12_0), (c18, ex_a 1 30 (upd s12_1 ((k2 * 5) + k12) w_6.2.2)), (c19, ex_a 3 60 s2_2)]) dX0_settleGifts_68 rfl (vp_in_nI (show (k2 * 5) + k12 < 30 by omega) (by decide)) (by rw [nI_clamp (by omega)]) rfl ?_
          refine X_aload_n (j := 2) dX0_settleGifts_69 rfl rfl ?_
          refine X_iload_n (j := 1) dX0_settleGifts_70 rfl rfl ?_
          refine X_iload_n (j := 0) dX0_settleGifts_71 rfl rfl ?_
          refine X_iconst (v := 1) dX0_settleGifts_72 (by decide) ?_
          refine X_callV (j0 := 0) (rest := [(c3, ex_a 1 6 ta), (c9, ex_a 1 5 bi), (c10, ex_a 1 5 sa), (c11, ex_a 1 5 co), (c18, ex_a 1 30 (upd s12_1 ((k2 * 5) + k12) w_6.2.2)), (c19, ex_a 3 60 s2_2)]) (stk := []) co_X0_106 rfl ⟨(Nat.le_of_ble_eq_true rfl), (Nat.le_of_ble_eq_true rfl)⟩ (e_X0_settleGiftsOf l c k2 k12 1 c0 c1 c2 c3 c4 c5 c6 c7 c8 c9 c10 c11 c12 np nd sto res c17 c18 c19 kd s12_0 w0 sl w2 wn dp op w6 w7 sp w_6.1 w_6.2.1 (by first | assumption | omega) (by first | assumption | omega) (by first | assumption | omega) (by first | assumption | omega)) dX0_settleGifts_73 [4, 5, 10, 0, 1, 2, 3, 6, 7, 8, 9, 11, 12] (show List.Perm [4, 5, 10, 0, 1, 2, 3, 6, 7, 8, 9, 11, 12] (List.range 13) from by decide) rfl rfl rfl rfl (Nat.le_of_ble_eq_true rfl) (fun zc1 zr hq hk => ?_)
          obtain ⟨rfl, rfl⟩ := hq
          try dsimp only at hL12
          generalize hq_w_7 : F_X0_settleGiftsOf k2 k12 1 np kd s12_0 sl sp w_6.1 w_6.2.1 = w_7 at hL12 ⊢
          try dsimp only at hL12
          refine X_aload_n (j := 2) dX0_settleGifts_76 rfl rfl ?_
          refine X_iload_n (j := 1) dX0_settleGifts_77 rfl rfl ?_
          refine X_iload_n (j := 0) dX0_settleGifts_78 rfl rfl ?_
          refine X_iconst (v := 0) dX0_settleGifts_79 (by decide) ?_
          refine X_callV (j0 := 0) (rest := [(c3, ex_a 1 6 ta), (c9, ex_a 1 5 bi), (c10, ex_a 1 5 sa), (c11, ex_a 1 5 co), (c18, ex_a 1 30 (upd s12_1 ((k2 * 5) + k12) w_6.2.2)), (c19, ex_a 3 60 s2_2)]) (stk := []) co_X0_106 rfl ⟨(Nat.le_of_ble_eq_true rfl), (Nat.le_of_ble_eq_true rfl)⟩ (e_X0_settleGiftsOf l c k2 k12 0 c0 c1 c2 c3 c4 c5 c6 c7 c8 c9 c10 c11 c12 np nd sto res c17 c18 c19 kd w_7.1 w0 sl w2 wn dp op w6 w7 sp w_7.2.1 w_7.2.2 (by first | assumption | omega) (by first | assumption | omega) (by first | assumption | omega) (by first | assumption | omega)) dX0_settleGifts_80 [0, 1, 2, 3, 4, 5, 6, 7, 8, 9, 10, 11, 12] (show List.Perm [0, 1, 2, 3, 4, 5, 6, 7, 8, 9, 10, 11, 12] (List.range 13) from by decide) rfl rfl rfl rfl (Nat.le_of_ble_eq_true rfl) (fun zc1 zr hq hk => ?_)
          obtain ⟨rfl, rfl⟩ := hq
          try dsimp only at hL12
          generalize hq_w_8 : F_X0_settleGiftsOf k2 k12 0 np kd w_7.1 sl sp w_7.2.1 w_7.2.2 = w_8 at hL12 ⊢
          try dsimp only at hL12
          refine X_iinc (v := nI (k12 + 1)) (j := 0) (lv' := [(2, ex_i (nI (k12 + 1))), (1, ex_i (nI k2)), (0, ex_r c)]) dX0_settleGifts_83 rfl (nI_add k12 1) (Nat.le_of_ble_eq_true rfl) rfl ?_
          refine X_goto (tgt := 12) dX0_settleGifts_86 (by decide) ?_
          try dsimp only at hL12
          refine X_re (cs' := [(c, ex_o 0 [ex_r c0, ex_r c1, ex_r c2, ex_r c3, ex_r c4, ex_r c5, ex_r c6, ex_r c7, ex_r c8, ex_r c9, ex_r c10, ex_r c11, ex_r c12, ex_i (nI np), ex_i (nI nd), ex_i sto, ex_i res, ex_r c17, ex_r c18, ex_r c19]), (c1, ex_a 1 6 kd), (c3, ex_a 1 6 ta), (c9, ex_a 1 5 bi), (c10, ex_a 1 5 sa), (c11, ex_a 1 5 co), (c17, ex_a 1 360 w_8.1), (c18, ex_a 1 30 (upd s12_1 ((k2 * 5) + k12) w_6.2.2)), (c19, ex_a 3 60 s2_2), (c12, ex_o 3 [ex_r w0, ex_i (nI sl), ex_r w2, ex_i (nI wn), ex_i dp, ex_i op, ex_r w6, ex_r w7]), (w0, ex_a 1 1000 sp), (w6, ex_a 1 40 w_8.2.1), (w7, ex_a 1 5 w_8.2.2)]) [0, 1, 7, 8, 9, 10, 2, 11, 12, 3, 4, 5, 6] (show List.Perm [0, 1, 7, 8, 9, 10, 2, 11, 12, 3, 4, 5, 6] (List.range 13) from by decide) rfl ?_
          exact ihc12 (k12 + 1) w_8.1 (upd s12_1 ((k2 * 5) + k12) w_6.2.2) w_8.2.1 w_8.2.2 ⟨hL12, (show (k12 + 1) ≤ nd by omega)⟩ (show nd - (k12 + 1) < nd - k12 by omega)
      refine X_aload_n (j := 1) dX0_settleGifts_89 rfl rfl ?_
      refine X_iload_n (j := 0) dX0_settleGifts_90 rfl rfl ?_
      refine X_callV (j0 := 0) (rest := [(c1, ex_a 1 6 kd), (c3, ex_a 1 6 ta), (c9, ex_a 1 5 bi), (c10, ex_a 1 5 sa), (c18, ex_a 1 30 v_3.2.1), (c12, ex_o 3 [ex_r w0, ex_i (nI sl), ex_r w2, ex_i (nI wn), ex_i dp, ex_i op, ex_r w6, ex_r w7]), (w0, ex_a 1 1000 sp), (w6, ex_a 1 40 v_3.2.2.1), (w7, ex_a 1 5 v_3.2.2.2)]) (stk := []) co_X0_110 rfl ⟨(Nat.le_of_ble_eq_true rfl), (Nat.le_of_ble_eq_true rfl)⟩ (e_X0_settleBeaten l c k2 c0 c1 c2 c3 c4 c5 c6 c7 c8 c9 c10 c11 c12 np nd sto res c17 c18 c19 co v_3.1 s2_2 (by first | assumption | omega) (by first | assumption | omega) (by first | assumption | omega)) dX0_settleGifts_91 [0, 5, 6, 8, 1, 2, 3, 4, 7, 9, 10, 11, 12] (show List.Perm [0, 5, 6, 8, 1, 2, 3, 4, 7, 9, 10, 11, 12] (List.range 13) from by decide) rfl rfl rfl rfl (Nat.le_of_ble_eq_true rfl) (fun zc1 zr hq hk => ?_)
      obtain ⟨rfl, rfl⟩ := hq
      try dsimp only at hL2
      generalize hq_w_9 : F_X0_settleBeaten k2 np nd co v_3.1 s2_2 = w_9 at hL2 ⊢
      try dsimp only at hL2
      refine X_iinc (v := nI (k2 + 1)) (j := 0) (lv' := [(1, ex_i (nI (k2 + 1))), (0, ex_r c)]) dX0_settleGifts_94 rfl (nI_add k2 1) (Nat.le_of_ble_eq_true rfl) rfl ?_
      refine X_goto (tgt := 2) dX0_settleGifts_97 (by decide) ?_
      try dsimp only at hL2
      refine X_re (cs' := [(c, ex_o 0 [ex_r c0, ex_r c1, ex_r c2, ex_r c3, ex_r c4, ex_r c5, ex_r c6, ex_r c7, ex_r c8, ex_r c9, ex_r c10, ex_r c11, ex_r c12, ex_i (nI np), ex_i (nI nd), ex_i sto, ex_i res, ex_r c17, ex_r c18, ex_r c19]), (c1, ex_a 1 6 kd), (c3, ex_a 1 6 ta), (c9, ex_a 1 5 bi), (c10, ex_a 1 5 sa), (c11, ex_a 1 5 co), (c17, ex_a 1 360 v_3.1), (c18, ex_a 1 30 v_3.2.1), (c19, ex_a 3 60 w_9), (c12, ex_o 3 [ex_r w0, ex_i (nI sl), ex_r w2, ex_i (nI wn), ex_i dp, ex_i op, ex_r w6, ex_r w7]), (w0, ex_a 1 1000 sp), (w6, ex_a 1 40 v_3.2.2.1), (w7, ex_a 1 5 v_3.2.2.2)]) [0, 4, 5, 6, 7, 1, 2, 8, 3, 9, 10, 11, 12] (show List.Perm [0, 4, 5, 6, 7, 1, 2, 8, 3, 9, 10, 11, 12] (List.range 13) from by decide) rfl ?_
      exact ihc2 (k2 + 1) v_3.1 v_3.2.1 w_9 v_3.2.2.1 v_3.2.2.2 ⟨hL2, (show (k2 + 1) ≤ np by omega)⟩ (show np - (k2 + 1) < np - k2 by omega)
  try dsimp only at hV
  exact X_vret dX0_settleGifts_100 (by (repeat refine ex_kc ?_) <;> rfl) (by subst hV; exact ⟨rfl, rfl⟩)

def F_X0_cupsInAll_L4 (cu : Nat → Int32) : Nat → Nat → Int32 → Int32
  | 0, k4, s4_0 => s4_0
  | zn + 1, k4, s4_0 => F_X0_cupsInAll_L4 cu zn (k4 + 1) (s4_0 + (F_J6_bitCount_0f7a4 (cu k4)))
theorem F_X0_cupsInAll_L4_z (cu : Nat → Int32) (k4 : Nat) (s4_0 : Int32) : F_X0_cupsInAll_L4 cu 0 k4 s4_0 = s4_0 := rfl
theorem F_X0_cupsInAll_L4_s (cu : Nat → Int32) (k4 : Nat) (s4_0 : Int32) (zn : Nat) : F_X0_cupsInAll_L4 cu (zn + 1) k4 s4_0 = F_X0_cupsInAll_L4 cu zn (k4 + 1) (s4_0 + (F_J6_bitCount_0f7a4 (cu k4))) := rfl
def F_X0_cupsInAll (np : Nat) (cu : Nat → Int32) : Int32 := ((fun (v_1 : Int32) => (v_1 / 2)) (F_X0_cupsInAll_L4 cu (np - 0) 0 0))
set_option maxHeartbeats 4000000 in
set_option maxRecDepth 100000 in
theorem e_X0_cupsInAll (l : Launch) (c : Nat) (c0 : Nat) (c1 : Nat) (c2 : Nat) (c3 : Nat) (c4 : Nat) (c5 : Nat) (c6 : Nat) (c7 : Nat) (c8 : Nat) (c9 : Nat) (c10 : Nat) (c11 : Nat) (c12 : Nat) (np : Nat) (nd : Nat) (sto : Int32) (res : Int32) (c17 : Nat) (c18 : Nat) (c19 : Nat) (cu : Nat → Int32) (hnp : np ≤ 6) : ex_M l yX0_cupsInAll cX0_cupsInAll 3 (some .int) 1 20 [ex_r c] [(c, ex_o 0 [ex_r c0, ex_r c1, ex_r c2, ex_r c3, ex_r c4, ex_r c5, ex_r c6, ex_r c7, ex_r c8, ex_r c9, ex_r c10, ex_r c11, ex_r c12, ex_i (nI np), ex_i (nI nd), ex_i sto, ex_i res, ex_r c17, ex_r c18, ex_r c19]), (c7, ex_a 1 6 cu)] (fun zcs zr => zcs = [(c, ex_o 0 [ex_r c0, ex_r c1, ex_r c2, ex_r c3, ex_r c4, ex_r c5, ex_r c6, ex_r c7, ex_r c8, ex_r c9, ex_r c10, ex_r c11, ex_r c12, ex_i (nI np), ex_i (nI nd), ex_i sto, ex_i res, ex_r c17, ex_r c18, ex_r c19]), (c7, ex_a 1 6 cu)] ∧ zr = some (ex_i (F_X0_cupsInAll np cu))) := by
  refine X_meth (by decide) (Nat.le_of_ble_eq_true rfl) ?_
  generalize hV : F_X0_cupsInAll np cu = V0
  have hV := hV.symm
  unfold F_X0_cupsInAll at hV
  try dsimp only at hV
  refine X_iconst (v := 0) dX0_cupsInAll_0 (by decide) ?_
  refine X_istore_n (lv' := [(1, ex_i 0), (0, ex_r c)]) dX0_cupsInAll_1 rfl (Nat.le_of_ble_eq_true rfl) rfl ?_
  refine X_iconst (v := 0) dX0_cupsInAll_2 (by decide) ?_
  refine X_istore_n (lv' := [(2, ex_i 0), (1, ex_i 0), (0, ex_r c)]) dX0_cupsInAll_3 rfl (Nat.le_of_ble_eq_true rfl) rfl ?_
  -- loop at 4
  try dsimp only at hV
  generalize hq_v_1 : F_X0_cupsInAll_L4 cu (np - 0) 0 0 = v_1 at hV
  try dsimp only at hV
  refine X_cut (P := True) (csE := [(c, ex_o 0 [ex_r c0, ex_r c1, ex_r c2, ex_r c3, ex_r c4, ex_r c5, ex_r c6, ex_r c7, ex_r c8, ex_r c9, ex_r c10, ex_r c11, ex_r c12, ex_i (nI np), ex_i (nI nd), ex_i sto, ex_i res, ex_r c17, ex_r c18, ex_r c19]), (c7, ex_a 1 6 cu)]) (lvE := [(1, ex_i v_1), (0, ex_r c)]) (E := 30) (fun hrest4 => ?_) (fun hPX4 => ?_)
  · have hL4 := hq_v_1.symm
    refine X_ind (fun (a4 : Nat × Int32) => v_1 = F_X0_cupsInAll_L4 cu (np - a4.1) a4.1 a4.2 ∧ a4.1 ≤ np) (fun (a4 : Nat × Int32) => np - a4.1) (fun (a4 : Nat × Int32) => [(c, ex_o 0 [ex_r c0, ex_r c1, ex_r c2, ex_r c3, ex_r c4, ex_r c5, ex_r c6, ex_r c7, ex_r c8, ex_r c9, ex_r c10, ex_r c11, ex_r c12, ex_i (nI np), ex_i (nI nd), ex_i sto, ex_i res, ex_r c17, ex_r c18, ex_r c19]), (c7, ex_a 1 6 cu)]) (fun (a4 : Nat × Int32) => [(2, ex_i (nI a4.1)), (1, ex_i a4.2), (0, ex_r c)]) (fun ⟨k4, s4_0⟩ hI4 ih4 => ?_) (0, 0) ⟨hL4, (by omega)⟩
    try dsimp only at hI4 ih4 ⊢
    have ihc4 : ∀ (k4_ : Nat) (s4_0_ : Int32), (v_1 = F_X0_cupsInAll_L4 cu (np - k4_) k4_ s4_0_ ∧ k4_ ≤ np) → (np - k4_) < (np - k4) → ex_O _ _ _ _ _ _ _ _ _ [(c, ex_o 0 [ex_r c0, ex_r c1, ex_r c2, ex_r c3, ex_r c4, ex_r c5, ex_r c6, ex_r c7, ex_r c8, ex_r c9, ex_r c10, ex_r c11, ex_r c12, ex_i (nI np), ex_i (nI nd), ex_i sto, ex_i res, ex_r c17, ex_r c18, ex_r c19]), (c7, ex_a 1 6 cu)] [(2, ex_i (nI k4_)), (1, ex_i s4_0_), (0, ex_r c)] _ _ := fun k4_ s4_0_ hi_ hm_ => ih4 (k4_, s4_0_) hi_ hm_
    have hL4 := hI4.1
    have hb4 := hI4.2
    refine X_iload_n (j := 0) dX0_cupsInAll_4 rfl rfl ?_
    refine X_aload_n (j := 2) dX0_cupsInAll_5 rfl rfl ?_
    refine X_get (j := 0) fo_X0_56 dX0_cupsInAll_6 rfl rfl ?_
    refine X_icmp_ge (tgt := 30) dX0_cupsInAll_9 (by decide) (fun c_2 => ?_) (fun c_2 => ?_)
    · have hlt4 : k4 = np := nlex (L := np) (by omega) hb4 c_2
      rw [show np - k4 = 0 by omega] at hL4
      have hL4 := hL4.trans (F_X0_cupsInAll_L4_z ..)
      try dsimp only at hL4
      refine X_lv (lv' := [(1, ex_i s4_0), (0, ex_r c)]) [1, 2] rfl ?_
      refine X_eq (cs' := [(c, ex_o 0 [ex_r c0, ex_r c1, ex_r c2, ex_r c3, ex_r c4, ex_r c5, ex_r c6, ex_r c7, ex_r c8, ex_r c9, ex_r c10, ex_r c11, ex_r c12, ex_i (nI np), ex_i (nI nd), ex_i sto, ex_i res, ex_r c17, ex_r c18, ex_r c19]), (c7, ex_a 1 6 cu)]) (lv' := [(1, ex_i v_1), (0, ex_r c)]) (by subst hL4; rfl) (by subst hL4; rfl) ?_
      exact hrest4 trivial
    · have hlt4 : k4 < np := nlen (L := np) (by omega) hb4 c_2
      rw [show np - k4 = (np - (k4 + 1)) + 1 by omega] at hL4
      have hL4 := hL4.trans (F_X0_cupsInAll_L4_s ..)
      refine X_iload_n (j := 1) dX0_cupsInAll_12 rfl rfl ?_
      refine X_aload_n (j := 2) dX0_cupsInAll_13 rfl rfl ?_
      refine X_get (j := 0) fo_X0_34 dX0_cupsInAll_14 rfl rfl ?_
      refine X_iload_n (j := 0) dX0_cupsInAll_17 rfl rfl ?_
      refine X_iald (j := 1) (v := (cu k4)) dX0_cupsInAll_18 rfl (vp_in_nI (show k4 < 6 by omega) (by decide)) (by rw [nI_clamp (by omega)]) ?_
      refine X_callS (rest := [(c, ex_o 0 [ex_r c0, ex_r c1, ex_r c2, ex_r c3, ex_r c4, ex_r c5, ex_r c6, ex_r c7, ex_r c8, ex_r c9, ex_r c10, ex_r c11, ex_r c12, ex_i (nI np), ex_i (nI nd), ex_i sto, ex_i res, ex_r c17, ex_r c18, ex_r c19]), (c7, ex_a 1 6 cu)]) (stk := [ex_i s4_0]) co_X0_126 rfl ⟨(Nat.le_of_ble_eq_true rfl), (Nat.le_of_ble_eq_true rfl)⟩ (e_J6_bitCount_0f7a4 l (cu k4)) dX0_cupsInAll_19 [0, 1] (show List.Perm [0, 1] (List.range 2) from by decide) rfl rfl rfl (Nat.le_of_ble_eq_true rfl) (fun zc1 zr hq hk => ?_)
      obtain ⟨rfl, rfl⟩ := hq
      refine X_iadd (v := (s4_0 + (F_J6_bitCount_0f7a4 (cu k4)))) dX0_cupsInAll_22 rfl ?_
      refine X_istore_n (lv' := [(1, ex_i (s4_0 + (F_J6_bitCount_0f7a4 (cu k4)))), (2, ex_i (nI k4)), (0, ex_r c)]) dX0_cupsInAll_23 rfl (Nat.le_of_ble_eq_true rfl) rfl ?_
      refine X_iinc (v := nI (k4 + 1)) (j := 1) (lv' := [(2, ex_i (nI (k4 + 1))), (1, ex_i (s4_0 + (F_J6_bitCount_0f7a4 (cu k4)))), (0, ex_r c)]) dX0_cupsInAll_24 rfl (nI_add k4 1) (Nat.le_of_ble_eq_true rfl) rfl ?_
      refine X_goto (tgt := 4) dX0_cupsInAll_27 (by decide) ?_
      try dsimp only at hL4
      exact ihc4 (k4 + 1) (s4_0 + (F_J6_bitCount_0f7a4 (cu k4))) ⟨hL4, (show (k4 + 1) ≤ np by omega)⟩ (show np - (k4 + 1) < np - k4 by omega)
  refine X_iload_n (j := 0) dX0_cupsInAll_30 rfl rfl ?_
  refine X_iconst (v := 2) dX0_cupsInAll_31 (by decide) ?_
  refine X_idiv (v := (v_1 / 2)) dX0_cupsInAll_32 (by decide) rfl ?_
  try dsimp only at hV
  exact X_iret ex_nI rfl dX0_cupsInAll_33 (by (repeat refine ex_kc ?_) <;> rfl) (by subst hV; exact ⟨rfl, rfl⟩)

def F_X0_reached_L17 (aw : Int32) (cu : Nat → Int32) : Nat → Nat → Int32 → Int32
  | 0, k17, s17_0 => s17_0
  | zn + 1, k17, s17_0 => (if ((s17_0 >>> ((nI k17) &&& 31)) &&& 1) = 1 then F_X0_reached_L17 aw cu zn (k17 + 1) (s17_0 ||| ((cu k17) &&& (aw ^^^ (-1)))) else F_X0_reached_L17 aw cu zn (k17 + 1) s17_0)
theorem F_X0_reached_L17_z (aw : Int32) (cu : Nat → Int32) (k17 : Nat) (s17_0 : Int32) : F_X0_reached_L17 aw cu 0 k17 s17_0 = s17_0 := rfl
theorem F_X0_reached_L17_s (aw : Int32) (cu : Nat → Int32) (k17 : Nat) (s17_0 : Int32) (zn : Nat) : F_X0_reached_L17 aw cu (zn + 1) k17 s17_0 = (if ((s17_0 >>> ((nI k17) &&& 31)) &&& 1) = 1 then F_X0_reached_L17 aw cu zn (k17 + 1) (s17_0 ||| ((cu k17) &&& (aw ^^^ (-1)))) else F_X0_reached_L17 aw cu zn (k17 + 1) s17_0) := rfl
def F_X0_reached_L5 (aw : Int32) (np : Nat) (cu : Nat → Int32) : Nat → Nat → Int32 → Int32
  | 0, k5, s5_0 => s5_0
  | zn + 1, k5, s5_0 => ((fun (v_3 : Int32) => F_X0_reached_L5 aw np cu zn (k5 + 1) v_3) (F_X0_reached_L17 aw cu (np - 0) 0 s5_0))
theorem F_X0_reached_L5_z (aw : Int32) (np : Nat) (cu : Nat → Int32) (k5 : Nat) (s5_0 : Int32) : F_X0_reached_L5 aw np cu 0 k5 s5_0 = s5_0 := rfl
theorem F_X0_reached_L5_s (aw : Int32) (np : Nat) (cu : Nat → Int32) (k5 : Nat) (s5_0 : Int32) (zn : Nat) : F_X0_reached_L5 aw np cu (zn + 1) k5 s5_0 = ((fun (v_3 : Int32) => F_X0_reached_L5 aw np cu zn (k5 + 1) v_3) (F_X0_reached_L17 aw cu (np - 0) 0 s5_0)) := rfl
def F_X0_reached (fr0 : Int32) (aw : Int32) (np : Nat) (cu : Nat → Int32) : Int32 := ((fun (v_1 : Int32) => v_1) (F_X0_reached_L5 aw np cu (np - 0) 0 fr0))
set_option maxHeartbeats 4000000 in
set_option maxRecDepth 100000 in
theorem e_X0_reached (l : Launch) (c : Nat) (fr0 : Int32) (aw : Int32) (c0 : Nat) (c1 : Nat) (c2 : Nat) (c3 : Nat) (c4 : Nat) (c5 : Nat) (c6 : Nat) (c7 : Nat) (c8 : Nat) (c9 : Nat) (c10 : Nat) (c11 : Nat) (c12 : Nat) (np : Nat) (nd : Nat) (sto : Int32) (res : Int32) (c17 : Nat) (c18 : Nat) (c19 : Nat) (cu : Nat → Int32) (hnp : np ≤ 6) : ex_M l yX0_reached cX0_reached 6 (some .int) 0 0 [ex_r c, ex_i fr0, ex_i aw] [(c, ex_o 0 [ex_r c0, ex_r c1, ex_r c2, ex_r c3, ex_r c4, ex_r c5, ex_r c6, ex_r c7, ex_r c8, ex_r c9, ex_r c10, ex_r c11, ex_r c12, ex_i (nI np), ex_i (nI nd), ex_i sto, ex_i res, ex_r c17, ex_r c18, ex_r c19]), (c7, ex_a 1 6 cu)] (fun zcs zr => zcs = [(c, ex_o 0 [ex_r c0, ex_r c1, ex_r c2, ex_r c3, ex_r c4, ex_r c5, ex_r c6, ex_r c7, ex_r c8, ex_r c9, ex_r c10, ex_r c11, ex_r c12, ex_i (nI np), ex_i (nI nd), ex_i sto, ex_i res, ex_r c17, ex_r c18, ex_r c19]), (c7, ex_a 1 6 cu)] ∧ zr = some (ex_i (F_X0_reached fr0 aw np cu))) := by
  refine X_meth (by decide) (Nat.le_of_ble_eq_true rfl) ?_
  generalize hV : F_X0_reached fr0 aw np cu = V0
  have hV := hV.symm
  unfold F_X0_reached at hV
  try dsimp only at hV
  refine X_iload_n (j := 1) dX0_reached_0 rfl rfl ?_
  refine X_istore_n (lv' := [(3, ex_i fr0), (0, ex_r c), (1, ex_i fr0), (2, ex_i aw)]) dX0_reached_1 rfl (Nat.le_of_ble_eq_true rfl) rfl ?_
  refine X_iconst (v := 0) dX0_reached_2 (by decide) ?_
  refine X_istore (lv' := [(4, ex_i 0), (3, ex_i fr0), (0, ex_r c), (1, ex_i fr0), (2, ex_i aw)]) dX0_reached_3 (Nat.le_of_ble_eq_true rfl) rfl ?_
  -- loop at 5
  try dsimp only at hV
  generalize hq_v_1 : F_X0_reached_L5 aw np cu (np - 0) 0 fr0 = v_1 at hV
  try dsimp only at hV
  refine X_cut (P := True) (csE := [(c, ex_o 0 [ex_r c0, ex_r c1, ex_r c2, ex_r c3, ex_r c4, ex_r c5, ex_r c6, ex_r c7, ex_r c8, ex_r c9, ex_r c10, ex_r c11, ex_r c12, ex_i (nI np), ex_i (nI nd), ex_i sto, ex_i res, ex_r c17, ex_r c18, ex_r c19]), (c7, ex_a 1 6 cu)]) (lvE := [(3, ex_i v_1), (0, ex_r c), (1, ex_i fr0), (2, ex_i aw)]) (E := 62) (fun hrest5 => ?_) (fun hPX5 => ?_)
  · have hL5 := hq_v_1.symm
    refine X_ind (fun (a5 : Nat × Int32) => v_1 = F_X0_reached_L5 aw np cu (np - a5.1) a5.1 a5.2 ∧ a5.1 ≤ np) (fun (a5 : Nat × Int32) => np - a5.1) (fun (a5 : Nat × Int32) => [(c, ex_o 0 [ex_r c0, ex_r c1, ex_r c2, ex_r c3, ex_r c4, ex_r c5, ex_r c6, ex_r c7, ex_r c8, ex_r c9, ex_r c10, ex_r c11, ex_r c12, ex_i (nI np), ex_i (nI nd), ex_i sto, ex_i res, ex_r c17, ex_r c18, ex_r c19]), (c7, ex_a 1 6 cu)]) (fun (a5 : Nat × Int32) => [(4, ex_i (nI a5.1)), (3, ex_i a5.2), (0, ex_r c), (1, ex_i fr0), (2, ex_i aw)]) (fun ⟨k5, s5_0⟩ hI5 ih5 => ?_) (0, fr0) ⟨hL5, (by omega)⟩
    try dsimp only at hI5 ih5 ⊢
    have ihc5 : ∀ (k5_ : Nat) (s5_0_ : Int32), (v_1 = F_X0_reached_L5 aw np cu (np - k5_) k5_ s5_0_ ∧ k5_ ≤ np) → (np - k5_) < (np - k5) → ex_O _ _ _ _ _ _ _ _ _ [(c, ex_o 0 [ex_r c0, ex_r c1, ex_r c2, ex_r c3, ex_r c4, ex_r c5, ex_r c6, ex_r c7, ex_r c8, ex_r c9, ex_r c10, ex_r c11, ex_r c12, ex_i (nI np), ex_i (nI nd), ex_i sto, ex_i res, ex_r c17, ex_r c18, ex_r c19]), (c7, ex_a 1 6 cu)] [(4, ex_i (nI k5_)), (3, ex_i s5_0_), (0, ex_r c), (1, ex_i fr0), (2, ex_i aw)] _ _ := fun k5_ s5_0_ hi_ hm_ => ih5 (k5_, s5_0_) hi_ hm_
    have hL5 := hI5.1
    have hb5 := hI5.2
    refine X_iload (j := 0) dX0_reached_5 rfl ?_
    refine X_aload_n (j := 2) dX0_reached_7 rfl rfl ?_
    refine X_get (j := 0) fo_X0_56 dX0_reached_8 rfl rfl ?_
    refine X_icmp_ge (tgt := 62) dX0_reached_11 (by decide) (fun c_2 => ?_) (fun c_2 => ?_)
    · have hlt5 : k5 = np := nlex (L := np) (by omega) hb5 c_2
      rw [show np - k5 = 0 by omega] at hL5
      have hL5 := hL5.trans (F_X0_reached_L5_z ..)
      try dsimp only at hL5
      refine X_lv (lv' := [(3, ex_i s5_0), (0, ex_r c), (1, ex_i fr0), (2, ex_i aw)]) [1, 2, 3, 4] rfl ?_
      refine X_eq (cs' := [(c, ex_o 0 [ex_r c0, ex_r c1, ex_r c2, ex_r c3, ex_r c4, ex_r c5, ex_r c6, ex_r c7, ex_r c8, ex_r c9, ex_r c10, ex_r c11, ex_r c12, ex_i (nI np), ex_i (nI nd), ex_i sto, ex_i res, ex_r c17, ex_r c18, ex_r c19]), (c7, ex_a 1 6 cu)]) (lv' := [(3, ex_i v_1), (0, ex_r c), (1, ex_i fr0), (2, ex_i aw)]) (by subst hL5; rfl) (by subst hL5; rfl) ?_
      exact hrest5 trivial
    · have hlt5 : k5 < np := nlen (L := np) (by omega) hb5 c_2
      rw [show np - k5 = (np - (k5 + 1)) + 1 by omega] at hL5
      have hL5 := hL5.trans (F_X0_reached_L5_s ..)
      refine X_iconst (v := 0) dX0_reached_14 (by decide) ?_
      refine X_istore (lv' := [(5, ex_i 0), (4, ex_i (nI k5)), (3, ex_i s5_0), (0, ex_r c), (1, ex_i fr0), (2, ex_i aw)]) dX0_reached_15 (Nat.le_of_ble_eq_true rfl) rfl ?_
      -- loop at 17
      try dsimp only at hL5
      generalize hq_v_3 : F_X0_reached_L17 aw cu (np - 0) 0 s5_0 = v_3 at hL5
      try dsimp only at hL5
      refine X_cut (P := True) (csE := [(c, ex_o 0 [ex_r c0, ex_r c1, ex_r c2, ex_r c3, ex_r c4, ex_r c5, ex_r c6, ex_r c7, ex_r c8, ex_r c9, ex_r c10, ex_r c11, ex_r c12, ex_i (nI np), ex_i (nI nd), ex_i sto, ex_i res, ex_r c17, ex_r c18, ex_r c19]), (c7, ex_a 1 6 cu)]) (lvE := [(4, ex_i (nI k5)), (3, ex_i v_3), (0, ex_r c), (1, ex_i fr0), (2, ex_i aw)]) (E := 56) (fun hrest17 => ?_) (fun hPX17 => ?_)
      · have hL17 := hq_v_3.symm
        refine X_ind (fun (a17 : Nat × Int32) => v_3 = F_X0_reached_L17 aw cu (np - a17.1) a17.1 a17.2 ∧ a17.1 ≤ np) (fun (a17 : Nat × Int32) => np - a17.1) (fun (a17 : Nat × Int32) => [(c, ex_o 0 [ex_r c0, ex_r c1, ex_r c2, ex_r c3, ex_r c4, ex_r c5, ex_r c6, ex_r c7, ex_r c8, ex_r c9, ex_r c10, ex_r c11, ex_r c12, ex_i (nI np), ex_i (nI nd), ex_i sto, ex_i res, ex_r c17, ex_r c18, ex_r c19]), (c7, ex_a 1 6 cu)]) (fun (a17 : Nat × Int32) => [(5, ex_i (nI a17.1)), (4, ex_i (nI k5)), (3, ex_i a17.2), (0, ex_r c), (1, ex_i fr0), (2, ex_i aw)]) (fun ⟨k17, s17_0⟩ hI17 ih17 => ?_) (0, s5_0) ⟨hL17, (by omega)⟩
        try dsimp only at hI17 ih17 ⊢
        have ihc17 : ∀ (k17_ : Nat) (s17_0_ : Int32), (v_3 = F_X0_reached_L17 aw cu (np - k17_) k17_ s17_0_ ∧ k17_ ≤ np) → (np - k17_) < (np - k17) → ex_O _ _ _ _ _ _ _ _ _ [(c, ex_o 0 [ex_r c0, ex_r c1, ex_r c2, ex_r c3, ex_r c4, ex_r c5, ex_r c6, ex_r c7, ex_r c8, ex_r c9, ex_r c10, ex_r c11, ex_r c12, ex_i (nI np), ex_i (nI nd), ex_i sto, ex_i res, ex_r c17, ex_r c18, ex_r c19]), (c7, ex_a 1 6 cu)] [(5, ex_i (nI k17_)), (4, ex_i (nI k5)), (3, ex_i s17_0_), (0, ex_r c), (1, ex_i fr0), (2, ex_i aw)] _ _ := fun k17_ s17_0_ hi_ hm_ => ih17 (k17_, s17_0_) hi_ hm_
        have hL17 := hI17.1
        have hb17 := hI17.2
        refine X_iload (j := 0) dX0_reached_17 rfl ?_
        refine X_aload_n (j := 3) dX0_reached_19 rfl rfl ?_
        refine X_get (j := 0) fo_X0_56 dX0_reached_20 rfl rfl ?_
        refine X_icmp_ge (tgt := 56) dX0_reached_23 (by decide) (fun c_4 => ?_) (fun c_4 => ?_)
        · have hlt17 : k17 = np := nlex (L := np) (by omega) hb17 c_4
          rw [show np - k17 = 0 by omega] at hL17
          have hL17 := hL17.trans (F_X0_reached_L17_z ..)
          try dsimp only at hL17
          refine X_lv (lv' := [(4, ex_i (nI k5)), (3, ex_i s17_0), (0, ex_r c), (1, ex_i fr0), (2, ex_i aw)]) [1, 2, 3, 4, 5] rfl ?_
          refine X_eq (cs' := [(c, ex_o 0 [ex_r c0, ex_r c1, ex_r c2, ex_r c3, ex_r c4, ex_r c5, ex_r c6, ex_r c7, ex_r c8, ex_r c9, ex_r c10, ex_r c11, ex_r c12, ex_i (nI np), ex_i (nI nd), ex_i sto, ex_i res, ex_r c17, ex_r c18, ex_r c19]), (c7, ex_a 1 6 cu)]) (lv' := [(4, ex_i (nI k5)), (3, ex_i v_3), (0, ex_r c), (1, ex_i fr0), (2, ex_i aw)]) (by subst hL17; rfl) (by subst hL17; rfl) ?_
          exact hrest17 trivial
        · have hlt17 : k17 < np := nlen (L := np) (by omega) hb17 c_4
          rw [show np - k17 = (np - (k17 + 1)) + 1 by omega] at hL17
          have hL17 := hL17.trans (F_X0_reached_L17_s ..)
          refine X_iload_n (j := 2) dX0_reached_26 rfl rfl ?_
          refine X_iload (j := 0) dX0_reached_27 rfl ?_
          refine X_ishr (v := (s17_0 >>> ((nI k17) &&& 31))) dX0_reached_29 rfl ?_
          refine X_iconst (v := 1) dX0_reached_30 (by decide) ?_
          refine X_iand (v := ((s17_0 >>> ((nI k17) &&& 31)) &&& 1)) dX0_reached_31 rfl ?_
          refine X_iconst (v := 1) dX0_reached_32 (by decide) ?_
          refine X_icmp_ne (tgt := 50) dX0_reached_33 (by decide) (fun c_5 => ?_) (fun c_5 => ?_)
          · have hL17 := hL17.trans (if_neg c_5)
            refine X_iinc (v := nI (k17 + 1)) (j := 0) (lv' := [(5, ex_i (nI (k17 + 1))), (4, ex_i (nI k5)), (3, ex_i s17_0), (0, ex_r c), (1, ex_i fr0), (2, ex_i aw)]) dX0_reached_50 rfl (nI_add k17 1) (Nat.le_of_ble_eq_true rfl) rfl ?_
            refine X_goto (tgt := 17) dX0_reached_53 (by decide) ?_
            try dsimp only at hL17
            exact ihc17 (k17 + 1) s17_0 ⟨hL17, (show (k17 + 1) ≤ np by omega)⟩ (show np - (k17 + 1) < np - k17 by omega)
          · have hL17 := hL17.trans (if_pos c_5)
            refine X_iload_n (j := 2) dX0_reached_36 rfl rfl ?_
            refine X_aload_n (j := 3) dX0_reached_37 rfl rfl ?_
            refine X_get (j := 0) fo_X0_34 dX0_reached_38 rfl rfl ?_
            refine X_iload (j := 0) dX0_reached_41 rfl ?_
            refine X_iald (j := 1) (v := (cu k17)) dX0_reached_43 rfl (vp_in_nI (show k17 < 6 by omega) (by decide)) (by rw [nI_clamp (by omega)]) ?_
            refine X_iload_n (j := 5) dX0_reached_44 rfl rfl ?_
            refine X_iconst (v := (-1)) dX0_reached_45 (by decide) ?_
            refine X_ixor (v := (aw ^^^ (-1))) dX0_reached_46 rfl ?_
            refine X_iand (v := ((cu k17) &&& (aw ^^^ (-1)))) dX0_reached_47 rfl ?_
            refine X_ior (v := (s17_0 ||| ((cu k17) &&& (aw ^^^ (-1))))) dX0_reached_48 rfl ?_
            refine X_istore_n (lv' := [(3, ex_i (s17_0 ||| ((cu k17) &&& (aw ^^^ (-1))))), (5, ex_i (nI k17)), (4, ex_i (nI k5)), (0, ex_r c), (1, ex_i fr0), (2, ex_i aw)]) dX0_reached_49 rfl (Nat.le_of_ble_eq_true rfl) rfl ?_
            refine X_iinc (v := nI (k17 + 1)) (j := 1) (lv' := [(5, ex_i (nI (k17 + 1))), (3, ex_i (s17_0 ||| ((cu k17) &&& (aw ^^^ (-1))))), (4, ex_i (nI k5)), (0, ex_r c), (1, ex_i fr0), (2, ex_i aw)]) dX0_reached_50 rfl (nI_add k17 1) (Nat.le_of_ble_eq_true rfl) rfl ?_
            refine X_goto (tgt := 17) dX0_reached_53 (by decide) ?_
            try dsimp only at hL17
            refine X_lv (lv' := [(5, ex_i (nI (k17 + 1))), (4, ex_i (nI k5)), (3, ex_i (s17_0 ||| ((cu k17) &&& (aw ^^^ (-1))))), (0, ex_r c), (1, ex_i fr0), (2, ex_i aw)]) [0, 2, 1, 3, 4, 5] rfl ?_
            exact ihc17 (k17 + 1) (s17_0 ||| ((cu k17) &&& (aw ^^^ (-1)))) ⟨hL17, (show (k17 + 1) ≤ np by omega)⟩ (show np - (k17 + 1) < np - k17 by omega)
      refine X_iinc (v := nI (k5 + 1)) (j := 0) (lv' := [(4, ex_i (nI (k5 + 1))), (3, ex_i v_3), (0, ex_r c), (1, ex_i fr0), (2, ex_i aw)]) dX0_reached_56 rfl (nI_add k5 1) (Nat.le_of_ble_eq_true rfl) rfl ?_
      refine X_goto (tgt := 5) dX0_reached_59 (by decide) ?_
      try dsimp only at hL5
      exact ihc5 (k5 + 1) v_3 ⟨hL5, (show (k5 + 1) ≤ np by omega)⟩ (show np - (k5 + 1) < np - k5 by omega)
  refine X_iload_n (j := 0) dX0_reached_62 rfl rfl ?_
  try dsimp only at hV
  exact X_iret ex_nI rfl dX0_reached_63 (by (repeat refine ex_kc ?_) <;> rfl) (by subst hV; exact ⟨rfl, rfl⟩)

def F_X0_votesOf_L4 (set : Int32) (vo : Nat → Int32) : Nat → Nat → Int32 → Int32
  | 0, k4, s4_0 => s4_0
  | zn + 1, k4, s4_0 => F_X0_votesOf_L4 set vo zn (k4 + 1) (s4_0 + (((set >>> ((nI k4) &&& 31)) &&& 1) * (vo k4)))
theorem F_X0_votesOf_L4_z (set : Int32) (vo : Nat → Int32) (k4 : Nat) (s4_0 : Int32) : F_X0_votesOf_L4 set vo 0 k4 s4_0 = s4_0 := rfl
theorem F_X0_votesOf_L4_s (set : Int32) (vo : Nat → Int32) (k4 : Nat) (s4_0 : Int32) (zn : Nat) : F_X0_votesOf_L4 set vo (zn + 1) k4 s4_0 = F_X0_votesOf_L4 set vo zn (k4 + 1) (s4_0 + (((set >>> ((nI k4) &&& 31)) &&& 1) * (vo k4))) := rfl
def F_X0_votesOf (set : Int32) (np : Nat) (vo : Nat → Int32) : Int32 := ((fun (v_1 : Int32) => v_1) (F_X0_votesOf_L4 set vo (np - 0) 0 0))
set_option maxHeartbeats 4000000 in
set_option maxRecDepth 100000 in
theorem e_X0_votesOf (l : Launch) (c : Nat) (set : Int32) (c0 : Nat) (c1 : Nat) (c2 : Nat) (c3 : Nat) (c4 : Nat) (c5 : Nat) (c6 : Nat) (c7 : Nat) (c8 : Nat) (c9 : Nat) (c10 : Nat) (c11 : Nat) (c12 : Nat) (np : Nat) (nd : Nat) (sto : Int32) (res : Int32) (c17 : Nat) (c18 : Nat) (c19 : Nat) (vo : Nat → Int32) (hnp : np ≤ 6) : ex_M l yX0_votesOf cX0_votesOf 4 (some .int) 0 0 [ex_r c, ex_i set] [(c, ex_o 0 [ex_r c0, ex_r c1, ex_r c2, ex_r c3, ex_r c4, ex_r c5, ex_r c6, ex_r c7, ex_r c8, ex_r c9, ex_r c10, ex_r c11, ex_r c12, ex_i (nI np), ex_i (nI nd), ex_i sto, ex_i res, ex_r c17, ex_r c18, ex_r c19]), (c4, ex_a 1 6 vo)] (fun zcs zr => zcs = [(c, ex_o 0 [ex_r c0, ex_r c1, ex_r c2, ex_r c3, ex_r c4, ex_r c5, ex_r c6, ex_r c7, ex_r c8, ex_r c9, ex_r c10, ex_r c11, ex_r c12, ex_i (nI np), ex_i (nI nd), ex_i sto, ex_i res, ex_r c17, ex_r c18, ex_r c19]), (c4, ex_a 1 6 vo)] ∧ zr = some (ex_i (F_X0_votesOf set np vo))) := by
  refine X_meth (by decide) (Nat.le_of_ble_eq_true rfl) ?_
  generalize hV : F_X0_votesOf set np vo = V0
  have hV := hV.symm
  unfold F_X0_votesOf at hV
  try dsimp only at hV
  refine X_iconst (v := 0) dX0_votesOf_0 (by decide) ?_
  refine X_istore_n (lv' := [(2, ex_i 0), (0, ex_r c), (1, ex_i set)]) dX0_votesOf_1 rfl (Nat.le_of_ble_eq_true rfl) rfl ?_
  refine X_iconst (v := 0) dX0_votesOf_2 (by decide) ?_
  refine X_istore_n (lv' := [(3, ex_i 0), (2, ex_i 0), (0, ex_r c), (1, ex_i set)]) dX0_votesOf_3 rfl (Nat.le_of_ble_eq_true rfl) rfl ?_
  -- loop at 4
  try dsimp only at hV
  generalize hq_v_1 : F_X0_votesOf_L4 set vo (np - 0) 0 0 = v_1 at hV
  try dsimp only at hV
  refine X_cut (P := True) (csE := [(c, ex_o 0 [ex_r c0, ex_r c1, ex_r c2, ex_r c3, ex_r c4, ex_r c5, ex_r c6, ex_r c7, ex_r c8, ex_r c9, ex_r c10, ex_r c11, ex_r c12, ex_i (nI np), ex_i (nI nd), ex_i sto, ex_i res, ex_r c17, ex_r c18, ex_r c19]), (c4, ex_a 1 6 vo)]) (lvE := [(2, ex_i v_1), (0, ex_r c), (1, ex_i set)]) (E := 33) (fun hrest4 => ?_) (fun hPX4 => ?_)
  · have hL4 := hq_v_1.symm
    refine X_ind (fun (a4 : Nat × Int32) => v_1 = F_X0_votesOf_L4 set vo (np - a4.1) a4.1 a4.2 ∧ a4.1 ≤ np) (fun (a4 : Nat × Int32) => np - a4.1) (fun (a4 : Nat × Int32) => [(c, ex_o 0 [ex_r c0, ex_r c1, ex_r c2, ex_r c3, ex_r c4, ex_r c5, ex_r c6, ex_r c7, ex_r c8, ex_r c9, ex_r c10, ex_r c11, ex_r c12, ex_i (nI np), ex_i (nI nd), ex_i sto, ex_i res, ex_r c17, ex_r c18, ex_r c19]), (c4, ex_a 1 6 vo)]) (fun (a4 : Nat × Int32) => [(3, ex_i (nI a4.1)), (2, ex_i a4.2), (0, ex_r c), (1, ex_i set)]) (fun ⟨k4, s4_0⟩ hI4 ih4 => ?_) (0, 0) ⟨hL4, (by omega)⟩
    try dsimp only at hI4 ih4 ⊢
    have ihc4 : ∀ (k4_ : Nat) (s4_0_ : Int32), (v_1 = F_X0_votesOf_L4 set vo (np - k4_) k4_ s4_0_ ∧ k4_ ≤ np) → (np - k4_) < (np - k4) → ex_O _ _ _ _ _ _ _ _ _ [(c, ex_o 0 [ex_r c0, ex_r c1, ex_r c2, ex_r c3, ex_r c4, ex_r c5, ex_r c6, ex_r c7, ex_r c8, ex_r c9, ex_r c10, ex_r c11, ex_r c12, ex_i (nI np), ex_i (nI nd), ex_i sto, ex_i res, ex_r c17, ex_r c18, ex_r c19]), (c4, ex_a 1 6 vo)] [(3, ex_i (nI k4_)), (2, ex_i s4_0_), (0, ex_r c), (1, ex_i set)] _ _ := fun k4_ s4_0_ hi_ hm_ => ih4 (k4_, s4_0_) hi_ hm_
    have hL4 := hI4.1
    have hb4 := hI4.2
    refine X_iload_n (j := 0) dX0_votesOf_4 rfl rfl ?_
    refine X_aload_n (j := 2) dX0_votesOf_5 rfl rfl ?_
    refine X_get (j := 0) fo_X0_56 dX0_votesOf_6 rfl rfl ?_
    refine X_icmp_ge (tgt := 33) dX0_votesOf_9 (by decide) (fun c_2 => ?_) (fun c_2 => ?_)
    · have hlt4 : k4 = np := nlex (L := np) (by omega) hb4 c_2
      rw [show np - k4 = 0 by omega] at hL4
      have hL4 := hL4.trans (F_X0_votesOf_L4_z ..)
      try dsimp only at hL4
      refine X_lv (lv' := [(2, ex_i s4_0), (0, ex_r c), (1, ex_i set)]) [1, 2, 3] rfl ?_
      refine X_eq (cs' := [(c, ex_o 0 [ex_r c0, ex_r c1, ex_r c2, ex_r c3, ex_r c4, ex_r c5, ex_r c6, ex_r c7, ex_r c8, ex_r c9, ex_r c10, ex_r c11, ex_r c12, ex_i (nI np), ex_i (nI nd), ex_i sto, ex_i res, ex_r c17, ex_r c18, ex_r c19]), (c4, ex_a 1 6 vo)]) (lv' := [(2, ex_i v_1), (0, ex_r c), (1, ex_i set)]) (by subst hL4; rfl) (by subst hL4; rfl) ?_
      exact hrest4 trivial
    · have hlt4 : k4 < np := nlen (L := np) (by omega) hb4 c_2
      rw [show np - k4 = (np - (k4 + 1)) + 1 by omega] at hL4
      have hL4 := hL4.trans (F_X0_votesOf_L4_s ..)
      refine X_iload_n (j := 1) dX0_votesOf_12 rfl rfl ?_
      refine X_iload_n (j := 3) dX0_votesOf_13 rfl rfl ?_
      refine X_iload_n (j := 0) dX0_votesOf_14 rfl rfl ?_
      refine X_ishr (v := (set >>> ((nI k4) &&& 31))) dX0_votesOf_15 rfl ?_
      refine X_iconst (v := 1) dX0_votesOf_16 (by decide) ?_
      refine X_iand (v := ((set >>> ((nI k4) &&& 31)) &&& 1)) dX0_votesOf_17 rfl ?_
      refine X_aload_n (j := 2) dX0_votesOf_18 rfl rfl ?_
      refine X_get (j := 0) fo_X0_25 dX0_votesOf_19 rfl rfl ?_
      refine X_iload_n (j := 0) dX0_votesOf_22 rfl rfl ?_
      refine X_iald (j := 1) (v := (vo k4)) dX0_votesOf_23 rfl (vp_in_nI (show k4 < 6 by omega) (by decide)) (by rw [nI_clamp (by omega)]) ?_
      refine X_imul (v := (((set >>> ((nI k4) &&& 31)) &&& 1) * (vo k4))) dX0_votesOf_24 rfl ?_
      refine X_iadd (v := (s4_0 + (((set >>> ((nI k4) &&& 31)) &&& 1) * (vo k4)))) dX0_votesOf_25 rfl ?_
      refine X_istore_n (lv' := [(2, ex_i (s4_0 + (((set >>> ((nI k4) &&& 31)) &&& 1) * (vo k4)))), (3, ex_i (nI k4)), (0, ex_r c), (1, ex_i set)]) dX0_votesOf_26 rfl (Nat.le_of_ble_eq_true rfl) rfl ?_
      refine X_iinc (v := nI (k4 + 1)) (j := 1) (lv' := [(3, ex_i (nI (k4 + 1))), (2, ex_i (s4_0 + (((set >>> ((nI k4) &&& 31)) &&& 1) * (vo k4)))), (0, ex_r c), (1, ex_i set)]) dX0_votesOf_27 rfl (nI_add k4 1) (Nat.le_of_ble_eq_true rfl) rfl ?_
      refine X_goto (tgt := 4) dX0_votesOf_30 (by decide) ?_
      try dsimp only at hL4
      exact ihc4 (k4 + 1) (s4_0 + (((set >>> ((nI k4) &&& 31)) &&& 1) * (vo k4))) ⟨hL4, (show (k4 + 1) ≤ np by omega)⟩ (show np - (k4 + 1) < np - k4 by omega)
  refine X_iload_n (j := 0) dX0_votesOf_33 rfl rfl ?_
  try dsimp only at hV
  exact X_iret ex_nI rfl dX0_votesOf_34 (by (repeat refine ex_kc ?_) <;> rfl) (by subst hV; exact ⟨rfl, rfl⟩)
