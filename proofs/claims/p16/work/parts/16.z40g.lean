def F_X2_isTold (i : Nat) (to : Nat → Int32) : Int32 := (if (to i) = (-1) then 0 else 1)
set_option maxHeartbeats 4000000 in
set_option maxRecDepth 100000 in
theorem e_X2_isTold (l : Launch) (hs : Nat) (i : Nat) (h0 : Nat) (hm : Int32) (hia : Int32) (hso : Int32) (h4 : Nat) (to : Nat → Int32) (hi : i < 6) : ex_M l yX2_isTold cX2_isTold 2 (some .boolean) 0 0 [ex_r hs, ex_i (nI i)] [(hs, ex_o 2 [ex_r h0, ex_i hm, ex_i hia, ex_i hso, ex_r h4]), (h0, ex_a 1 6 to)] (fun zcs zr => zcs = [(hs, ex_o 2 [ex_r h0, ex_i hm, ex_i hia, ex_i hso, ex_r h4]), (h0, ex_a 1 6 to)] ∧ zr = some (ex_i (F_X2_isTold i to))) := by
  refine X_meth (by decide) (Nat.le_of_ble_eq_true rfl) ?_
  generalize hV : F_X2_isTold i to = V0
  have hV := hV.symm
  unfold F_X2_isTold at hV
  try dsimp only at hV
  refine X_aload_n (j := 0) dX2_isTold_0 rfl rfl ?_
  refine X_get (j := 0) fo_X2_9 dX2_isTold_1 rfl rfl ?_
  refine X_iload_n (j := 1) dX2_isTold_4 rfl rfl ?_
  refine X_iald (j := 1) (v := (to i)) dX2_isTold_5 rfl (vp_in_nI (show i < 6 by omega) (by decide)) (by rw [nI_clamp (by omega)]) ?_
  refine X_iconst (v := (-1)) dX2_isTold_6 (by decide) ?_
  refine X_icmp_eq (tgt := 14) dX2_isTold_7 (by decide) (fun c_1 => ?_) (fun c_1 => ?_)
  · have hV := hV.trans (if_pos c_1)
    refine X_iconst (v := 0) dX2_isTold_14 (by decide) ?_
    try dsimp only at hV
    exact X_iret ex_nZ rfl dX2_isTold_15 (by (repeat refine ex_kc ?_) <;> rfl) (by subst hV; exact ⟨rfl, rfl⟩)
  · have hV := hV.trans (if_neg c_1)
    refine X_iconst (v := 1) dX2_isTold_10 (by decide) ?_
    refine X_goto (tgt := 15) dX2_isTold_11 (by decide) ?_
    try dsimp only at hV
    exact X_iret ex_nZ rfl dX2_isTold_15 (by (repeat refine ex_kc ?_) <;> rfl) (by subst hV; exact ⟨rfl, rfl⟩)
theorem F_X2_isTold_b (i : Nat) (to : Nat → Int32) : F_X2_isTold i to = 0 ∨ F_X2_isTold i to = 1 := by
  unfold F_X2_isTold
  repeat' split
  all_goals first | exact Or.inl rfl | exact Or.inr rfl

def F_X2_howManyTold_L4 (to : Nat → Int32) : Nat → Nat → Int32 → Int32
  | 0, k4, s4_0 => s4_0
  | zn + 1, k4, s4_0 => (if (F_X2_isTold k4 to) = 0 then F_X2_howManyTold_L4 to zn (k4 + 1) (s4_0 + 0) else F_X2_howManyTold_L4 to zn (k4 + 1) (s4_0 + 1))
theorem F_X2_howManyTold_L4_z (to : Nat → Int32) (k4 : Nat) (s4_0 : Int32) : F_X2_howManyTold_L4 to 0 k4 s4_0 = s4_0 := rfl
theorem F_X2_howManyTold_L4_s (to : Nat → Int32) (k4 : Nat) (s4_0 : Int32) (zn : Nat) : F_X2_howManyTold_L4 to (zn + 1) k4 s4_0 = (if (F_X2_isTold k4 to) = 0 then F_X2_howManyTold_L4 to zn (k4 + 1) (s4_0 + 0) else F_X2_howManyTold_L4 to zn (k4 + 1) (s4_0 + 1)) := rfl
def F_X2_howManyTold (to : Nat → Int32) : Int32 := ((fun (v_1 : Int32) => v_1) (F_X2_howManyTold_L4 to (6 - 0) 0 0))
set_option maxHeartbeats 4000000 in
set_option maxRecDepth 100000 in
theorem e_X2_howManyTold (l : Launch) (hs : Nat) (h0 : Nat) (hm : Int32) (hia : Int32) (hso : Int32) (h4 : Nat) (to : Nat → Int32) : ex_M l yX2_howManyTold cX2_howManyTold 3 (some .int) 1 21 [ex_r hs] [(hs, ex_o 2 [ex_r h0, ex_i hm, ex_i hia, ex_i hso, ex_r h4]), (h0, ex_a 1 6 to)] (fun zcs zr => zcs = [(hs, ex_o 2 [ex_r h0, ex_i hm, ex_i hia, ex_i hso, ex_r h4]), (h0, ex_a 1 6 to)] ∧ zr = some (ex_i (F_X2_howManyTold to))) := by
  refine X_meth (by decide) (Nat.le_of_ble_eq_true rfl) ?_
  generalize hV : F_X2_howManyTold to = V0
  have hV := hV.symm
  unfold F_X2_howManyTold at hV
  try dsimp only at hV
  refine X_iconst (v := 0) dX2_howManyTold_0 (by decide) ?_
  refine X_istore_n (lv' := [(1, ex_i 0), (0, ex_r hs)]) dX2_howManyTold_1 rfl (Nat.le_of_ble_eq_true rfl) rfl ?_
  refine X_iconst (v := 0) dX2_howManyTold_2 (by decide) ?_
  refine X_istore_n (lv' := [(2, ex_i 0), (1, ex_i 0), (0, ex_r hs)]) dX2_howManyTold_3 rfl (Nat.le_of_ble_eq_true rfl) rfl ?_
  -- loop at 4
  try dsimp only at hV
  generalize hq_v_1 : F_X2_howManyTold_L4 to (6 - 0) 0 0 = v_1 at hV
  try dsimp only at hV
  refine X_cut (P := True) (csE := [(hs, ex_o 2 [ex_r h0, ex_i hm, ex_i hia, ex_i hso, ex_r h4]), (h0, ex_a 1 6 to)]) (lvE := [(1, ex_i v_1), (0, ex_r hs)]) (E := 32) (fun hrest4 => ?_) (fun hPX4 => ?_)
  · have hL4 := hq_v_1.symm
    refine X_ind (fun (a4 : Nat × Int32) => v_1 = F_X2_howManyTold_L4 to (6 - a4.1) a4.1 a4.2 ∧ a4.1 ≤ 6) (fun (a4 : Nat × Int32) => 6 - a4.1) (fun (a4 : Nat × Int32) => [(hs, ex_o 2 [ex_r h0, ex_i hm, ex_i hia, ex_i hso, ex_r h4]), (h0, ex_a 1 6 to)]) (fun (a4 : Nat × Int32) => [(2, ex_i (nI a4.1)), (1, ex_i a4.2), (0, ex_r hs)]) (fun ⟨k4, s4_0⟩ hI4 ih4 => ?_) (0, 0) ⟨hL4, (by omega)⟩
    try dsimp only at hI4 ih4 ⊢
    have ihc4 : ∀ (k4_ : Nat) (s4_0_ : Int32), (v_1 = F_X2_howManyTold_L4 to (6 - k4_) k4_ s4_0_ ∧ k4_ ≤ 6) → (6 - k4_) < (6 - k4) → ex_O _ _ _ _ _ _ _ _ _ [(hs, ex_o 2 [ex_r h0, ex_i hm, ex_i hia, ex_i hso, ex_r h4]), (h0, ex_a 1 6 to)] [(2, ex_i (nI k4_)), (1, ex_i s4_0_), (0, ex_r hs)] _ _ := fun k4_ s4_0_ hi_ hm_ => ih4 (k4_, s4_0_) hi_ hm_
    have hL4 := hI4.1
    have hb4 := hI4.2
    refine X_iload_n (j := 0) dX2_howManyTold_4 rfl rfl ?_
    refine X_bipush (v := 6) dX2_howManyTold_5 (by decide) ?_
    refine X_icmp_ge (tgt := 32) dX2_howManyTold_7 (by decide) (fun c_2 => ?_) (fun c_2 => ?_)
    · have hlt4 : k4 = 6 := nlex (L := 6) (by omega) hb4 c_2
      rw [show 6 - k4 = 0 by omega] at hL4
      have hL4 := hL4.trans (F_X2_howManyTold_L4_z ..)
      try dsimp only at hL4
      refine X_lv (lv' := [(1, ex_i s4_0), (0, ex_r hs)]) [1, 2] rfl ?_
      refine X_eq (cs' := [(hs, ex_o 2 [ex_r h0, ex_i hm, ex_i hia, ex_i hso, ex_r h4]), (h0, ex_a 1 6 to)]) (lv' := [(1, ex_i v_1), (0, ex_r hs)]) (by subst hL4; rfl) (by subst hL4; rfl) ?_
      exact hrest4 trivial
    · have hlt4 : k4 < 6 := nlen (L := 6) (by omega) hb4 c_2
      rw [show 6 - k4 = (6 - (k4 + 1)) + 1 by omega] at hL4
      have hL4 := hL4.trans (F_X2_howManyTold_L4_s ..)
      refine X_iload_n (j := 1) dX2_howManyTold_10 rfl rfl ?_
      refine X_aload_n (j := 2) dX2_howManyTold_11 rfl rfl ?_
      refine X_iload_n (j := 0) dX2_howManyTold_12 rfl rfl ?_
      refine X_callV (j0 := 0) (rest := []) (stk := [ex_i s4_0]) co_X2_34 rfl ⟨(Nat.le_of_ble_eq_true rfl), (Nat.le_of_ble_eq_true rfl)⟩ (e_X2_isTold l hs k4 h0 hm hia hso h4 to (by first | assumption | omega)) dX2_howManyTold_13 [0, 1] (show List.Perm [0, 1] (List.range 2) from by decide) rfl rfl rfl rfl (Nat.le_of_ble_eq_true rfl) (fun zc1 zr hq hk => ?_)
      obtain ⟨rfl, rfl⟩ := hq
      refine X_if_eq (tgt := 23) dX2_howManyTold_16 (by decide) (fun c_3 => ?_) (fun c_3 => ?_)
      · have hL4 := hL4.trans (if_pos c_3)
        refine X_iconst (v := 0) dX2_howManyTold_23 (by decide) ?_
        refine X_iadd (v := (s4_0 + 0)) dX2_howManyTold_24 rfl ?_
        refine X_istore_n (lv' := [(1, ex_i (s4_0 + 0)), (2, ex_i (nI k4)), (0, ex_r hs)]) dX2_howManyTold_25 rfl (Nat.le_of_ble_eq_true rfl) rfl ?_
        refine X_iinc (v := nI (k4 + 1)) (j := 1) (lv' := [(2, ex_i (nI (k4 + 1))), (1, ex_i (s4_0 + 0)), (0, ex_r hs)]) dX2_howManyTold_26 rfl (nI_add k4 1) (Nat.le_of_ble_eq_true rfl) rfl ?_
        refine X_goto (tgt := 4) dX2_howManyTold_29 (by decide) ?_
        try dsimp only at hL4
        exact ihc4 (k4 + 1) (s4_0 + 0) ⟨hL4, (show (k4 + 1) ≤ 6 by omega)⟩ (show 6 - (k4 + 1) < 6 - k4 by omega)
      · have hL4 := hL4.trans (if_neg c_3)
        refine X_iconst (v := 1) dX2_howManyTold_19 (by decide) ?_
        refine X_goto (tgt := 24) dX2_howManyTold_20 (by decide) ?_
        refine X_iadd (v := (s4_0 + 1)) dX2_howManyTold_24 rfl ?_
        refine X_istore_n (lv' := [(1, ex_i (s4_0 + 1)), (2, ex_i (nI k4)), (0, ex_r hs)]) dX2_howManyTold_25 rfl (Nat.le_of_ble_eq_true rfl) rfl ?_
        refine X_iinc (v := nI (k4 + 1)) (j := 1) (lv' := [(2, ex_i (nI (k4 + 1))), (1, ex_i (s4_0 + 1)), (0, ex_r hs)]) dX2_howManyTold_26 rfl (nI_add k4 1) (Nat.le_of_ble_eq_true rfl) rfl ?_
        refine X_goto (tgt := 4) dX2_howManyTold_29 (by decide) ?_
        try dsimp only at hL4
        exact ihc4 (k4 + 1) (s4_0 + 1) ⟨hL4, (show (k4 + 1) ≤ 6 by omega)⟩ (show 6 - (k4 + 1) < 6 - k4 by omega)
  refine X_iload_n (j := 0) dX2_howManyTold_32 rfl rfl ?_
  try dsimp only at hV
  exact X_iret ex_nI rfl dX2_howManyTold_33 (by (repeat refine ex_kc ?_) <;> rfl) (by subst hV; exact ⟨rfl, rfl⟩)

def F_X2_fullAbroad (d : Nat) (i : Nat) (fu : Nat → Int32) (ga : Nat → Int32) : Int32 := (if ((fu i) + (F_X0_giftAbroad i d ga)) < 99 then ((fu i) + (F_X0_giftAbroad i d ga)) else 99)
set_option maxHeartbeats 4000000 in
set_option maxRecDepth 100000 in
theorem e_X2_fullAbroad (l : Launch) (c : Nat) (n : Nat) (d : Nat) (i : Nat) (dy : Int32) (sr : Int32) (il : Int32) (nf : Nat) (na : Nat) (nh : Nat) (fu : Nat → Int32) (c0 : Nat) (c1 : Nat) (c2 : Nat) (c3 : Nat) (c4 : Nat) (c5 : Nat) (c6 : Nat) (c7 : Nat) (c8 : Nat) (c9 : Nat) (c10 : Nat) (c11 : Nat) (c12 : Nat) (np : Nat) (nd : Nat) (sto : Int32) (res : Int32) (c17 : Nat) (c18 : Nat) (c19 : Nat) (ga : Nat → Int32) (hd : d < 5) (hi : i < 6) : ex_M l yX2_fullAbroad cX2_fullAbroad 4 (some .int) 1 40 [ex_r c, ex_r n, ex_i (nI d), ex_i (nI i)] [(n, ex_o 8 [ex_i dy, ex_i sr, ex_i il, ex_r nf, ex_r na, ex_r nh]), (nf, ex_a 1 6 fu), (c, ex_o 0 [ex_r c0, ex_r c1, ex_r c2, ex_r c3, ex_r c4, ex_r c5, ex_r c6, ex_r c7, ex_r c8, ex_r c9, ex_r c10, ex_r c11, ex_r c12, ex_i (nI np), ex_i (nI nd), ex_i sto, ex_i res, ex_r c17, ex_r c18, ex_r c19]), (c18, ex_a 1 30 ga)] (fun zcs zr => zcs = [(n, ex_o 8 [ex_i dy, ex_i sr, ex_i il, ex_r nf, ex_r na, ex_r nh]), (nf, ex_a 1 6 fu), (c, ex_o 0 [ex_r c0, ex_r c1, ex_r c2, ex_r c3, ex_r c4, ex_r c5, ex_r c6, ex_r c7, ex_r c8, ex_r c9, ex_r c10, ex_r c11, ex_r c12, ex_i (nI np), ex_i (nI nd), ex_i sto, ex_i res, ex_r c17, ex_r c18, ex_r c19]), (c18, ex_a 1 30 ga)] ∧ zr = some (ex_i (F_X2_fullAbroad d i fu ga))) := by
  refine X_meth (by decide) (Nat.le_of_ble_eq_true rfl) ?_
  generalize hV : F_X2_fullAbroad d i fu ga = V0
  have hV := hV.symm
  unfold F_X2_fullAbroad at hV
  try dsimp only at hV
  refine X_bipush (v := 99) dX2_fullAbroad_0 (by decide) ?_
  refine X_aload_n (j := 1) dX2_fullAbroad_2 rfl rfl ?_
  refine X_get (j := 0) fo_X2_55 dX2_fullAbroad_3 rfl rfl ?_
  refine X_iload_n (j := 3) dX2_fullAbroad_6 rfl rfl ?_
  refine X_iald (j := 1) (v := (fu i)) dX2_fullAbroad_7 rfl (vp_in_nI (show i < 6 by omega) (by decide)) (by rw [nI_clamp (by omega)]) ?_
  refine X_aload_n (j := 0) dX2_fullAbroad_8 rfl rfl ?_
  refine X_iload_n (j := 3) dX2_fullAbroad_9 rfl rfl ?_
  refine X_iload_n (j := 2) dX2_fullAbroad_10 rfl rfl ?_
  refine X_callV (j0 := 0) (rest := [(n, ex_o 8 [ex_i dy, ex_i sr, ex_i il, ex_r nf, ex_r na, ex_r nh]), (nf, ex_a 1 6 fu)]) (stk := [ex_i (fu i), ex_i 99]) co_X2_60 rfl ⟨(Nat.le_of_ble_eq_true rfl), (Nat.le_of_ble_eq_true rfl)⟩ (e_X0_giftAbroad l c i d c0 c1 c2 c3 c4 c5 c6 c7 c8 c9 c10 c11 c12 np nd sto res c17 c18 c19 ga (by first | assumption | omega) (by first | assumption | omega)) dX2_fullAbroad_11 [2, 3, 0, 1] (show List.Perm [2, 3, 0, 1] (List.range 4) from by decide) rfl rfl rfl rfl (Nat.le_of_ble_eq_true rfl) (fun zc1 zr hq hk => ?_)
  obtain ⟨rfl, rfl⟩ := hq
  refine X_iadd (v := ((fu i) + (F_X0_giftAbroad i d ga))) dX2_fullAbroad_14 rfl ?_
  refine X_mmin (v := (if ((fu i) + (F_X0_giftAbroad i d ga)) < 99 then ((fu i) + (F_X0_giftAbroad i d ga)) else 99)) k_1113 k_564 k_17 k_565 ⟨(Nat.le_of_ble_eq_true rfl), (Nat.le_of_ble_eq_true rfl)⟩ (Nat.le_of_ble_eq_true rfl) dX2_fullAbroad_15 rfl ?_
  try dsimp only at hV
  refine X_re (cs' := [(n, ex_o 8 [ex_i dy, ex_i sr, ex_i il, ex_r nf, ex_r na, ex_r nh]), (nf, ex_a 1 6 fu), (c, ex_o 0 [ex_r c0, ex_r c1, ex_r c2, ex_r c3, ex_r c4, ex_r c5, ex_r c6, ex_r c7, ex_r c8, ex_r c9, ex_r c10, ex_r c11, ex_r c12, ex_i (nI np), ex_i (nI nd), ex_i sto, ex_i res, ex_r c17, ex_r c18, ex_r c19]), (c18, ex_a 1 30 ga)]) [2, 3, 0, 1] (show List.Perm [2, 3, 0, 1] (List.range 4) from by decide) rfl ?_
  exact X_iret ex_nI rfl dX2_fullAbroad_18 (by (repeat refine ex_kc ?_) <;> rfl) (by subst hV; exact ⟨rfl, rfl⟩)

def F_X2_agrees_L3 (d : Nat) (sx : Nat) (to : Nat → Int32) (fu : Nat → Int32) (ga : Nat → Int32) : Nat → Nat → Int32
  | 0, k3 => 1
  | zn + 1, k3 => (if (((nI sx) >>> ((nI k3) &&& 31)) &&& 1) = 1 then (if (F_X2_isTold k3 to) = 0 then F_X2_agrees_L3 d sx to fu ga zn (k3 + 1) else (if (to k3) = (F_X2_fullAbroad d k3 fu ga) then F_X2_agrees_L3 d sx to fu ga zn (k3 + 1) else 0)) else (if (F_X2_isTold k3 to) = 0 then F_X2_agrees_L3 d sx to fu ga zn (k3 + 1) else (if (to k3) = (fu k3) then F_X2_agrees_L3 d sx to fu ga zn (k3 + 1) else 0)))
theorem F_X2_agrees_L3_z (d : Nat) (sx : Nat) (to : Nat → Int32) (fu : Nat → Int32) (ga : Nat → Int32) (k3 : Nat) : F_X2_agrees_L3 d sx to fu ga 0 k3 = 1 := rfl
theorem F_X2_agrees_L3_s (d : Nat) (sx : Nat) (to : Nat → Int32) (fu : Nat → Int32) (ga : Nat → Int32) (k3 : Nat) (zn : Nat) : F_X2_agrees_L3 d sx to fu ga (zn + 1) k3 = (if (((nI sx) >>> ((nI k3) &&& 31)) &&& 1) = 1 then (if (F_X2_isTold k3 to) = 0 then F_X2_agrees_L3 d sx to fu ga zn (k3 + 1) else (if (to k3) = (F_X2_fullAbroad d k3 fu ga) then F_X2_agrees_L3 d sx to fu ga zn (k3 + 1) else 0)) else (if (F_X2_isTold k3 to) = 0 then F_X2_agrees_L3 d sx to fu ga zn (k3 + 1) else (if (to k3) = (fu k3) then F_X2_agrees_L3 d sx to fu ga zn (k3 + 1) else 0))) := rfl
def F_X2_agrees (d : Nat) (sx : Nat) (to : Nat → Int32) (fu : Nat → Int32) (np : Nat) (ga : Nat → Int32) : Int32 := F_X2_agrees_L3 d sx to fu ga (np - 0) 0
set_option maxHeartbeats 4000000 in
set_option maxRecDepth 100000 in
theorem e_X2_agrees (l : Launch) (hs : Nat) (c : Nat) (n : Nat) (d : Nat) (sx : Nat) (h0 : Nat) (hm : Int32) (hia : Int32) (hso : Int32) (h4 : Nat) (to : Nat → Int32) (dy : Int32) (sr : Int32) (il : Int32) (nf : Nat) (na : Nat) (nh : Nat) (fu : Nat → Int32) (c0 : Nat) (c1 : Nat) (c2 : Nat) (c3 : Nat) (c4 : Nat) (c5 : Nat) (c6 : Nat) (c7 : Nat) (c8 : Nat) (c9 : Nat) (c10 : Nat) (c11 : Nat) (c12 : Nat) (np : Nat) (nd : Nat) (sto : Int32) (res : Int32) (c17 : Nat) (c18 : Nat) (c19 : Nat) (ga : Nat → Int32) (hd : d < 5) (hnp : np ≤ 6) : ex_M l yX2_agrees cX2_agrees 8 (some .boolean) 2 63 [ex_r hs, ex_r c, ex_r n, ex_i (nI d), ex_i (nI sx)] [(hs, ex_o 2 [ex_r h0, ex_i hm, ex_i hia, ex_i hso, ex_r h4]), (h0, ex_a 1 6 to), (n, ex_o 8 [ex_i dy, ex_i sr, ex_i il, ex_r nf, ex_r na, ex_r nh]), (nf, ex_a 1 6 fu), (c, ex_o 0 [ex_r c0, ex_r c1, ex_r c2, ex_r c3, ex_r c4, ex_r c5, ex_r c6, ex_r c7, ex_r c8, ex_r c9, ex_r c10, ex_r c11, ex_r c12, ex_i (nI np), ex_i (nI nd), ex_i sto, ex_i res, ex_r c17, ex_r c18, ex_r c19]), (c18, ex_a 1 30 ga)] (fun zcs zr => zcs = [(hs, ex_o 2 [ex_r h0, ex_i hm, ex_i hia, ex_i hso, ex_r h4]), (h0, ex_a 1 6 to), (n, ex_o 8 [ex_i dy, ex_i sr, ex_i il, ex_r nf, ex_r na, ex_r nh]), (nf, ex_a 1 6 fu), (c, ex_o 0 [ex_r c0, ex_r c1, ex_r c2, ex_r c3, ex_r c4, ex_r c5, ex_r c6, ex_r c7, ex_r c8, ex_r c9, ex_r c10, ex_r c11, ex_r c12, ex_i (nI np), ex_i (nI nd), ex_i sto, ex_i res, ex_r c17, ex_r c18, ex_r c19]), (c18, ex_a 1 30 ga)] ∧ zr = some (ex_i (F_X2_agrees d sx to fu np ga))) := by
  refine X_meth (by decide) (Nat.le_of_ble_eq_true rfl) ?_
  generalize hV : F_X2_agrees d sx to fu np ga = V0
  have hV := hV.symm
  unfold F_X2_agrees at hV
  try dsimp only at hV
  refine X_iconst (v := 0) dX2_agrees_0 (by decide) ?_
  refine X_istore (lv' := [(5, ex_i 0), (0, ex_r hs), (1, ex_r c), (2, ex_r n), (3, ex_i (nI d)), (4, ex_i (nI sx))]) dX2_agrees_1 (Nat.le_of_ble_eq_true rfl) rfl ?_
  -- loop at 3
  have hL3 := hV
  try dsimp only at hL3
  refine X_ind (fun (a3 : Nat) => V0 = F_X2_agrees_L3 d sx to fu ga (np - a3) a3 ∧ a3 ≤ np) (fun (a3 : Nat) => np - a3) (fun (a3 : Nat) => [(hs, ex_o 2 [ex_r h0, ex_i hm, ex_i hia, ex_i hso, ex_r h4]), (h0, ex_a 1 6 to), (n, ex_o 8 [ex_i dy, ex_i sr, ex_i il, ex_r nf, ex_r na, ex_r nh]), (nf, ex_a 1 6 fu), (c, ex_o 0 [ex_r c0, ex_r c1, ex_r c2, ex_r c3, ex_r c4, ex_r c5, ex_r c6, ex_r c7, ex_r c8, ex_r c9, ex_r c10, ex_r c11, ex_r c12, ex_i (nI np), ex_i (nI nd), ex_i sto, ex_i res, ex_r c17, ex_r c18, ex_r c19]), (c18, ex_a 1 30 ga)]) (fun (a3 : Nat) => [(5, ex_i (nI a3)), (0, ex_r hs), (1, ex_r c), (2, ex_r n), (3, ex_i (nI d)), (4, ex_i (nI sx))]) (fun k3 hI3 ih3 => ?_) 0 ⟨hL3, (by omega)⟩
  try dsimp only at hI3 ih3 ⊢
  have ihc3 : ∀ (k3_ : Nat), (V0 = F_X2_agrees_L3 d sx to fu ga (np - k3_) k3_ ∧ k3_ ≤ np) → (np - k3_) < (np - k3) → ex_O _ _ _ _ _ _ _ _ _ [(hs, ex_o 2 [ex_r h0, ex_i hm, ex_i hia, ex_i hso, ex_r h4]), (h0, ex_a 1 6 to), (n, ex_o 8 [ex_i dy, ex_i sr, ex_i il, ex_r nf, ex_r na, ex_r nh]), (nf, ex_a 1 6 fu), (c, ex_o 0 [ex_r c0, ex_r c1, ex_r c2, ex_r c3, ex_r c4, ex_r c5, ex_r c6, ex_r c7, ex_r c8, ex_r c9, ex_r c10, ex_r c11, ex_r c12, ex_i (nI np), ex_i (nI nd), ex_i sto, ex_i res, ex_r c17, ex_r c18, ex_r c19]), (c18, ex_a 1 30 ga)] [(5, ex_i (nI k3_)), (0, ex_r hs), (1, ex_r c), (2, ex_r n), (3, ex_i (nI d)), (4, ex_i (nI sx))] _ _ := fun k3_ hi_ hm_ => ih3 k3_ hi_ hm_
  have hL3 := hI3.1
  have hb3 := hI3.2
  refine X_iload (j := 0) dX2_agrees_3 rfl ?_
  refine X_aload_n (j := 2) dX2_agrees_5 rfl rfl ?_
  refine X_get (j := 4) fo_X2_48 dX2_agrees_6 rfl rfl ?_
  refine X_icmp_ge (tgt := 84) dX2_agrees_9 (by decide) (fun c_1 => ?_) (fun c_1 => ?_)
  · have hlt3 : k3 = np := nlex (L := np) (by omega) hb3 c_1
    rw [show np - k3 = 0 by omega] at hL3
    have hL3 := hL3.trans (F_X2_agrees_L3_z ..)
    refine X_iconst (v := 1) dX2_agrees_84 (by decide) ?_
    try dsimp only at hL3
    exact X_iret ex_nZ rfl dX2_agrees_85 (by (repeat refine ex_kc ?_) <;> rfl) (by subst hL3; exact ⟨rfl, rfl⟩)
  · have hlt3 : k3 < np := nlen (L := np) (by omega) hb3 c_1
    rw [show np - k3 = (np - (k3 + 1)) + 1 by omega] at hL3
    have hL3 := hL3.trans (F_X2_agrees_L3_s ..)
    refine X_iload (j := 5) dX2_agrees_12 rfl ?_
    refine X_iload (j := 0) dX2_agrees_14 rfl ?_
    refine X_ishr (v := ((nI sx) >>> ((nI k3) &&& 31))) dX2_agrees_16 rfl ?_
    refine X_iconst (v := 1) dX2_agrees_17 (by decide) ?_
    refine X_iand (v := (((nI sx) >>> ((nI k3) &&& 31)) &&& 1)) dX2_agrees_18 rfl ?_
    refine X_iconst (v := 1) dX2_agrees_19 (by decide) ?_
    refine X_icmp_ne (tgt := 27) dX2_agrees_20 (by decide) (fun c_2 => ?_) (fun c_2 => ?_)
    · have hL3 := hL3.trans (if_neg c_2)
      refine X_iconst (v := 0) dX2_agrees_27 (by decide) ?_
      refine X_istore (lv' := [(6, ex_i 0), (5, ex_i (nI k3)), (0, ex_r hs), (1, ex_r c), (2, ex_r n), (3, ex_i (nI d)), (4, ex_i (nI sx))]) dX2_agrees_28 (Nat.le_of_ble_eq_true rfl) rfl ?_
      refine X_iload (j := 0) dX2_agrees_30 rfl ?_
      refine X_if_eq (tgt := 46) dX2_agrees_32 (by decide) (fun _ => ?_) (fun c_ => absurd rfl c_)
      refine X_aload_n (j := 4) dX2_agrees_46 rfl rfl ?_
      refine X_get (j := 2) fo_X2_55 dX2_agrees_47 rfl rfl ?_
      refine X_iload (j := 1) dX2_agrees_50 rfl ?_
      refine X_iald (j := 3) (v := (fu k3)) dX2_agrees_52 rfl (vp_in_nI (show k3 < 6 by omega) (by decide)) (by rw [nI_clamp (by omega)]) ?_
      refine X_istore (lv' := [(7, ex_i (fu k3)), (6, ex_i 0), (5, ex_i (nI k3)), (0, ex_r hs), (1, ex_r c), (2, ex_r n), (3, ex_i (nI d)), (4, ex_i (nI sx))]) dX2_agrees_53 (Nat.le_of_ble_eq_true rfl) rfl ?_
      refine X_aload_n (j := 3) dX2_agrees_55 rfl rfl ?_
      refine X_iload (j := 2) dX2_agrees_56 rfl ?_
      refine X_callV (j0 := 0) (rest := [(n, ex_o 8 [ex_i dy, ex_i sr, ex_i il, ex_r nf, ex_r na, ex_r nh]), (nf, ex_a 1 6 fu), (c, ex_o 0 [ex_r c0, ex_r c1, ex_r c2, ex_r c3, ex_r c4, ex_r c5, ex_r c6, ex_r c7, ex_r c8, ex_r c9, ex_r c10, ex_r c11, ex_r c12, ex_i (nI np), ex_i (nI nd), ex_i sto, ex_i res, ex_r c17, ex_r c18, ex_r c19]), (c18, ex_a 1 30 ga)]) (stk := []) co_X2_34 rfl ⟨(Nat.le_of_ble_eq_true rfl), (Nat.le_of_ble_eq_true rfl)⟩ (e_X2_isTold l hs k3 h0 hm hia hso h4 to (by first | assumption | omega)) dX2_agrees_58 [0, 1, 2, 3, 4, 5] (show List.Perm [0, 1, 2, 3, 4, 5] (List.range 6) from by decide) rfl rfl rfl rfl (Nat.le_of_ble_eq_true rfl) (fun zc1 zr hq hk => ?_)
      obtain ⟨rfl, rfl⟩ := hq
      refine X_if_eq (tgt := 78) dX2_agrees_61 (by decide) (fun c_3 => ?_) (fun c_3 => ?_)
      · have hL3 := hL3.trans (if_pos c_3)
        refine X_iinc (v := nI (k3 + 1)) (j := 2) (lv' := [(5, ex_i (nI (k3 + 1))), (7, ex_i (fu k3)), (6, ex_i 0), (0, ex_r hs), (1, ex_r c), (2, ex_r n), (3, ex_i (nI d)), (4, ex_i (nI sx))]) dX2_agrees_78 rfl (nI_add k3 1) (Nat.le_of_ble_eq_true rfl) rfl ?_
        refine X_goto (tgt := 3) dX2_agrees_81 (by decide) ?_
        try dsimp only at hL3
        refine X_lv (lv' := [(5, ex_i (nI (k3 + 1))), (0, ex_r hs), (1, ex_r c), (2, ex_r n), (3, ex_i (nI d)), (4, ex_i (nI sx))]) [0, 3, 4, 5, 6, 7] rfl ?_
        exact ihc3 (k3 + 1) ⟨hL3, (show (k3 + 1) ≤ np by omega)⟩ (show np - (k3 + 1) < np - k3 by omega)
      · have hL3 := hL3.trans (if_neg c_3)
        refine X_aload_n (j := 3) dX2_agrees_64 rfl rfl ?_
        refine X_get (j := 0) fo_X2_9 dX2_agrees_65 rfl rfl ?_
        refine X_iload (j := 2) dX2_agrees_68 rfl ?_
        refine X_iald (j := 1) (v := (to k3)) dX2_agrees_70 rfl (vp_in_nI (show k3 < 6 by omega) (by decide)) (by rw [nI_clamp (by omega)]) ?_
        refine X_iload (j := 0) dX2_agrees_71 rfl ?_
        refine X_icmp_eq (tgt := 78) dX2_agrees_73 (by decide) (fun c_4 => ?_) (fun c_4 => ?_)
        · have hL3 := hL3.trans (if_pos c_4)
          refine X_iinc (v := nI (k3 + 1)) (j := 2) (lv' := [(5, ex_i (nI (k3 + 1))), (7, ex_i (fu k3)), (6, ex_i 0), (0, ex_r hs), (1, ex_r c), (2, ex_r n), (3, ex_i (nI d)), (4, ex_i (nI sx))]) dX2_agrees_78 rfl (nI_add k3 1) (Nat.le_of_ble_eq_true rfl) rfl ?_
          refine X_goto (tgt := 3) dX2_agrees_81 (by decide) ?_
          try dsimp only at hL3
          refine X_lv (lv' := [(5, ex_i (nI (k3 + 1))), (0, ex_r hs), (1, ex_r c), (2, ex_r n), (3, ex_i (nI d)), (4, ex_i (nI sx))]) [0, 3, 4, 5, 6, 7] rfl ?_
          exact ihc3 (k3 + 1) ⟨hL3, (show (k3 + 1) ≤ np by omega)⟩ (show np - (k3 + 1) < np - k3 by omega)
        · have hL3 := hL3.trans (if_neg c_4)
          refine X_iconst (v := 0) dX2_agrees_76 (by decide) ?_
          try dsimp only at hL3
          exact X_iret ex_nZ rfl dX2_agrees_77 (by (repeat refine ex_kc ?_) <;> rfl) (by subst hL3; exact ⟨rfl, rfl⟩)
    · have hL3 := hL3.trans (if_pos c_2)
      refine X_iconst (v := 1) dX2_agrees_23 (by decide) ?_
      refine X_goto (tgt := 28) dX2_agrees_24 (by decide) ?_
      refine X_istore (lv' := [(6, ex_i 1), (5, ex_i (nI k3)), (0, ex_r hs), (1, ex_r c), (2, ex_r n), (3, ex_i (nI d)), (4, ex_i (nI sx))]) dX2_agrees_28 (Nat.le_of_ble_eq_true rfl) rfl ?_
      refine X_iload (j := 0) dX2_agrees_30 rfl ?_
      refine X_if_eq (tgt := 46) dX2_agrees_32 (by decide) (fun c_ => absurd c_ (by decide)) (fun _ => ?_)
      refine X_aload_n (j := 3) dX2_agrees_35 rfl rfl ?_
      refine X_aload_n (j := 4) dX2_agrees_36 rfl rfl ?_
      refine X_iload_n (j := 5) dX2_agrees_37 rfl rfl ?_
      refine X_iload (j := 1) dX2_agrees_38 rfl ?_
      refine X_callS (rest := [(hs, ex_o 2 [ex_r h0, ex_i hm, ex_i hia, ex_i hso, ex_r h4]), (h0, ex_a 1 6 to)]) (stk := []) co_X2_51 rfl ⟨(Nat.le_of_ble_eq_true rfl), (Nat.le_of_ble_eq_true rfl)⟩ (e_X2_fullAbroad l c n d k3 dy sr il nf na nh fu c0 c1 c2 c3 c4 c5 c6 c7 c8 c9 c10 c11 c12 np nd sto res c17 c18 c19 ga (by first | assumption | omega) (by first | assumption | omega)) dX2_agrees_40 [2, 3, 4, 5, 0, 1] (show List.Perm [2, 3, 4, 5, 0, 1] (List.range 6) from by decide) rfl rfl rfl (Nat.le_of_ble_eq_true rfl) (fun zc1 zr hq hk => ?_)
      obtain ⟨rfl, rfl⟩ := hq
      refine X_goto (tgt := 53) dX2_agrees_43 (by decide) ?_
      refine X_istore (lv' := [(7, ex_i (F_X2_fullAbroad d k3 fu ga)), (6, ex_i 1), (5, ex_i (nI k3)), (0, ex_r hs), (1, ex_r c), (2, ex_r n), (3, ex_i (nI d)), (4, ex_i (nI sx))]) dX2_agrees_53 (Nat.le_of_ble_eq_true rfl) rfl ?_
      refine X_aload_n (j := 3) dX2_agrees_55 rfl rfl ?_
      refine X_iload (j := 2) dX2_agrees_56 rfl ?_
      refine X_callV (j0 := 0) (rest := [(n, ex_o 8 [ex_i dy, ex_i sr, ex_i il, ex_r nf, ex_r na, ex_r nh]), (nf, ex_a 1 6 fu), (c, ex_o 0 [ex_r c0, ex_r c1, ex_r c2, ex_r c3, ex_r c4, ex_r c5, ex_r c6, ex_r c7, ex_r c8, ex_r c9, ex_r c10, ex_r c11, ex_r c12, ex_i (nI np), ex_i (nI nd), ex_i sto, ex_i res, ex_r c17, ex_r c18, ex_r c19]), (c18, ex_a 1 30 ga)]) (stk := []) co_X2_34 rfl ⟨(Nat.le_of_ble_eq_true rfl), (Nat.le_of_ble_eq_true rfl)⟩ (e_X2_isTold l hs k3 h0 hm hia hso h4 to (by first | assumption | omega)) dX2_agrees_58 [4, 5, 0, 1, 2, 3] (show List.Perm [4, 5, 0, 1, 2, 3] (List.range 6) from by decide) rfl rfl rfl rfl (Nat.le_of_ble_eq_true rfl) (fun zc1 zr hq hk => ?_)
      obtain ⟨rfl, rfl⟩ := hq
      refine X_if_eq (tgt := 78) dX2_agrees_61 (by decide) (fun c_5 => ?_) (fun c_5 => ?_)
      · have hL3 := hL3.trans (if_pos c_5)
        refine X_iinc (v := nI (k3 + 1)) (j := 2) (lv' := [(5, ex_i (nI (k3 + 1))), (7, ex_i (F_X2_fullAbroad d k3 fu ga)), (6, ex_i 1), (0, ex_r hs), (1, ex_r c), (2, ex_r n), (3, ex_i (nI d)), (4, ex_i (nI sx))]) dX2_agrees_78 rfl (nI_add k3 1) (Nat.le_of_ble_eq_true rfl) rfl ?_
        refine X_goto (tgt := 3) dX2_agrees_81 (by decide) ?_
        try dsimp only at hL3
        refine X_lv (lv' := [(5, ex_i (nI (k3 + 1))), (0, ex_r hs), (1, ex_r c), (2, ex_r n), (3, ex_i (nI d)), (4, ex_i (nI sx))]) [0, 3, 4, 5, 6, 7] rfl ?_
        exact ihc3 (k3 + 1) ⟨hL3, (show (k3 + 1) ≤ np by omega)⟩ (show np - (k3 + 1) < np - k3 by omega)
      · have hL3 := hL3.trans (if_neg c_5)
        refine X_aload_n (j := 3) dX2_agrees_64 rfl rfl ?_
        refine X_get (j := 0) fo_X2_9 dX2_agrees_65 rfl rfl ?_
        refine X_iload (j := 2) dX2_agrees_68 rfl ?_
        refine X_iald (j := 1) (v := (to k3)) dX2_agrees_70 rfl (vp_in_nI (show k3 < 6 by omega) (by decide)) (by rw [nI_clamp (by omega)]) ?_
        refine X_iload (j := 0) dX2_agrees_71 rfl ?_
        refine X_icmp_eq (tgt := 78) dX2_agrees_73 (by decide) (fun c_6 => ?_) (fun c_6 => ?_)
        · have hL3 := hL3.trans (if_pos c_6)
          refine X_iinc (v := nI (k3 + 1)) (j := 2) (lv' := [(5, ex_i (nI (k3 + 1))), (7, ex_i (F_X2_fullAbroad d k3 fu ga)), (6, ex_i 1), (0, ex_r hs), (1, ex_r c), (2, ex_r n), (3, ex_i (nI d)), (4, ex_i (nI sx))]) dX2_agrees_78 rfl (nI_add k3 1) (Nat.le_of_ble_eq_true rfl) rfl ?_
          refine X_goto (tgt := 3) dX2_agrees_81 (by decide) ?_
          try dsimp only at hL3
          refine X_lv (lv' := [(5, ex_i (nI (k3 + 1))), (0, ex_r hs), (1, ex_r c), (2, ex_r n), (3, ex_i (nI d)), (4, ex_i (nI sx))]) [0, 3, 4, 5, 6, 7] rfl ?_
          exact ihc3 (k3 + 1) ⟨hL3, (show (k3 + 1) ≤ np by omega)⟩ (show np - (k3 + 1) < np - k3 by omega)
        · have hL3 := hL3.trans (if_neg c_6)
          refine X_iconst (v := 0) dX2_agrees_76 (by decide) ?_
          try dsimp only at hL3
          exact X_iret ex_nZ rfl dX2_agrees_77 (by (repeat refine ex_kc ?_) <;> rfl) (by subst hL3; exact ⟨rfl, rfl⟩)

def F_X2_weighs_L85 (k29 : Nat) : Nat → Nat → (Nat → Int32) → (Nat → Int32)
  | 0, k85, s85_0 => s85_0
  | zn + 1, k85, s85_0 => F_X2_weighs_L85 k29 zn (k85 + 1) (upd s85_0 k85 ((s85_0 k85) + (((nI k29) >>> ((nI k85) &&& 31)) &&& 1)))
theorem F_X2_weighs_L85_z (k29 : Nat) (k85 : Nat) (s85_0 : Nat → Int32) : F_X2_weighs_L85 k29 0 k85 s85_0 = s85_0 := rfl
theorem F_X2_weighs_L85_s (k29 : Nat) (k85 : Nat) (s85_0 : Nat → Int32) (zn : Nat) : F_X2_weighs_L85 k29 (zn + 1) k85 s85_0 = F_X2_weighs_L85 k29 zn (k85 + 1) (upd s85_0 k85 ((s85_0 k85) + (((nI k29) >>> ((nI k85) &&& 31)) &&& 1))) := rfl
def F_X2_weighs_L29 (d : Nat) (to : Nat → Int32) (fu : Nat → Int32) (np : Nat) (ga : Nat → Int32) : Nat → Nat → (Nat → Int32) → Int32 → Int32 → Int32 → (Nat → Int32) × Int32 × Int32 × Int32
  | 0, k29, s29_0, s29_1, s29_2, s29_3 => (s29_0, s29_1, s29_2, s29_3)
  | zn + 1, k29, s29_0, s29_1, s29_2, s29_3 => (if (F_X2_agrees d k29 to fu np ga) = 0 then F_X2_weighs_L29 d to fu np ga zn (k29 + 1) s29_0 s29_1 s29_2 s29_3 else ((fun (v_4 : (Nat → Int32)) => F_X2_weighs_L29 d to fu np ga zn (k29 + 1) v_4 (s29_1 + 1) (s29_2 &&& (nI k29)) (s29_3 ||| (nI k29))) (F_X2_weighs_L85 k29 (np - 0) 0 s29_0)))
theorem F_X2_weighs_L29_z (d : Nat) (to : Nat → Int32) (fu : Nat → Int32) (np : Nat) (ga : Nat → Int32) (k29 : Nat) (s29_0 : Nat → Int32) (s29_1 : Int32) (s29_2 : Int32) (s29_3 : Int32) : F_X2_weighs_L29 d to fu np ga 0 k29 s29_0 s29_1 s29_2 s29_3 = (s29_0, s29_1, s29_2, s29_3) := rfl
theorem F_X2_weighs_L29_s (d : Nat) (to : Nat → Int32) (fu : Nat → Int32) (np : Nat) (ga : Nat → Int32) (k29 : Nat) (s29_0 : Nat → Int32) (s29_1 : Int32) (s29_2 : Int32) (s29_3 : Int32) (zn : Nat) : F_X2_weighs_L29 d to fu np ga (zn + 1) k29 s29_0 s29_1 s29_2 s29_3 = (if (F_X2_agrees d k29 to fu np ga) = 0 then F_X2_weighs_L29 d to fu np ga zn (k29 + 1) s29_0 s29_1 s29_2 s29_3 else ((fun (v_4 : (Nat → Int32)) => F_X2_weighs_L29 d to fu np ga zn (k29 + 1) v_4 (s29_1 + 1) (s29_2 &&& (nI k29)) (s29_3 ||| (nI k29))) (F_X2_weighs_L85 k29 (np - 0) 0 s29_0))) := rfl
def F_X2_weighs (d : Nat) (to : Nat → Int32) (sw : Nat → Int32) (fu : Nat → Int32) (np : Nat) (ga : Nat → Int32) : Int32 × Int32 × Int32 × (Nat → Int32) := ((fun (v_1 : (Nat → Int32) × Int32 × Int32 × Int32) => (v_1.2.1, v_1.2.2.1, v_1.2.2.2, v_1.1)) (F_X2_weighs_L29 d to fu np ga (((F_X0_everybody np) + 1) - 0) 0 (fil 6 0 sw) 0 (nI (F_X0_everybody np)) 0))
set_option maxHeartbeats 4000000 in
set_option maxRecDepth 100000 in
theorem e_X2_weighs (l : Launch) (hs : Nat) (c : Nat) (n : Nat) (d : Nat) (h0 : Nat) (hm : Int32) (hia : Int32) (hso : Int32) (h4 : Nat) (to : Nat → Int32) (sw : Nat → Int32) (dy : Int32) (sr : Int32) (il : Int32) (nf : Nat) (na : Nat) (nh : Nat) (fu : Nat → Int32) (c0 : Nat) (c1 : Nat) (c2 : Nat) (c3 : Nat) (c4 : Nat) (c5 : Nat) (c6 : Nat) (c7 : Nat) (c8 : Nat) (c9 : Nat) (c10 : Nat) (c11 : Nat) (c12 : Nat) (np : Nat) (nd : Nat) (sto : Int32) (res : Int32) (c17 : Nat) (c18 : Nat) (c19 : Nat) (ga : Nat → Int32) (hd : d < 5) (hnp : np ≤ 6) : ex_M l yX2_weighs cX2_weighs 6 none 3 90 [ex_r hs, ex_r c, ex_r n, ex_i (nI d)] [(hs, ex_o 2 [ex_r h0, ex_i hm, ex_i hia, ex_i hso, ex_r h4]), (h0, ex_a 1 6 to), (h4, ex_a 1 6 sw), (n, ex_o 8 [ex_i dy, ex_i sr, ex_i il, ex_r nf, ex_r na, ex_r nh]), (nf, ex_a 1 6 fu), (c, ex_o 0 [ex_r c0, ex_r c1, ex_r c2, ex_r c3, ex_r c4, ex_r c5, ex_r c6, ex_r c7, ex_r c8, ex_r c9, ex_r c10, ex_r c11, ex_r c12, ex_i (nI np), ex_i (nI nd), ex_i sto, ex_i res, ex_r c17, ex_r c18, ex_r c19]), (c18, ex_a 1 30 ga)] (fun zcs zr => zcs = [(hs, ex_o 2 [ex_r h0, ex_i ((F_X2_weighs d to sw fu np ga).1), ex_i ((F_X2_weighs d to sw fu np ga).2.1), ex_i ((F_X2_weighs d to sw fu np ga).2.2.1), ex_r h4]), (h0, ex_a 1 6 to), (h4, ex_a 1 6 ((F_X2_weighs d to sw fu np ga).2.2.2)), (n, ex_o 8 [ex_i dy, ex_i sr, ex_i il, ex_r nf, ex_r na, ex_r nh]), (nf, ex_a 1 6 fu), (c, ex_o 0 [ex_r c0, ex_r c1, ex_r c2, ex_r c3, ex_r c4, ex_r c5, ex_r c6, ex_r c7, ex_r c8, ex_r c9, ex_r c10, ex_r c11, ex_r c12, ex_i (nI np), ex_i (nI nd), ex_i sto, ex_i res, ex_r c17, ex_r c18, ex_r c19]), (c18, ex_a 1 30 ga)] ∧ zr = none) := by
  refine X_meth (by decide) (Nat.le_of_ble_eq_true rfl) ?_
  generalize hV : F_X2_weighs d to sw fu np ga = V0
  have hV := hV.symm
  unfold F_X2_weighs at hV
  try dsimp only at hV
  have hpw : F_X0_everybody np ≤ 63 := eb_le hnp
  refine X_aload_n (j := 0) dX2_weighs_0 rfl rfl ?_
  refine X_iconst (v := 0) dX2_weighs_1 (by decide) ?_
  refine X_put (j := 0) (cs' := [(hs, ex_o 2 [ex_r h0, ex_i 0, ex_i hia, ex_i hso, ex_r h4]), (h0, ex_a 1 6 to), (h4, ex_a 1 6 sw), (n, ex_o 8 [ex_i dy, ex_i sr, ex_i il, ex_r nf, ex_r na, ex_r nh]), (nf, ex_a 1 6 fu), (c, ex_o 0 [ex_r c0, ex_r c1, ex_r c2, ex_r c3, ex_r c4, ex_r c5, ex_r c6, ex_r c7, ex_r c8, ex_r c9, ex_r c10, ex_r c11, ex_r c12, ex_i (nI np), ex_i (nI nd), ex_i sto, ex_i res, ex_r c17, ex_r c18, ex_r c19]), (c18, ex_a 1 30 ga)]) fo_X2_15 (by decide) dX2_weighs_2 rfl (Nat.le_of_ble_eq_true rfl) trivial rfl ?_
  refine X_aload_n (j := 0) dX2_weighs_5 rfl rfl ?_
  refine X_aload_n (j := 1) dX2_weighs_6 rfl rfl ?_
  refine X_callV (j0 := 0) (rest := [(hs, ex_o 2 [ex_r h0, ex_i 0, ex_i hia, ex_i hso, ex_r h4]), (h0, ex_a 1 6 to), (h4, ex_a 1 6 sw), (n, ex_o 8 [ex_i dy, ex_i sr, ex_i il, ex_r nf, ex_r na, ex_r nh]), (nf, ex_a 1 6 fu), (c18, ex_a 1 30 ga)]) (stk := [ex_r hs]) co_X2_38 rfl ⟨(Nat.le_of_ble_eq_true rfl), (Nat.le_of_ble_eq_true rfl)⟩ (e_X0_everybody l c c0 c1 c2 c3 c4 c5 c6 c7 c8 c9 c10 c11 c12 np nd sto res c17 c18 c19 (by first | assumption | omega)) dX2_weighs_7 [5, 0, 1, 2, 3, 4, 6] (show List.Perm [5, 0, 1, 2, 3, 4, 6] (List.range 7) from by decide) rfl rfl rfl rfl (Nat.le_of_ble_eq_true rfl) (fun zc1 zr hq hk => ?_)
  obtain ⟨rfl, rfl⟩ := hq
  refine X_put (j := 1) (cs' := [(c, ex_o 0 [ex_r c0, ex_r c1, ex_r c2, ex_r c3, ex_r c4, ex_r c5, ex_r c6, ex_r c7, ex_r c8, ex_r c9, ex_r c10, ex_r c11, ex_r c12, ex_i (nI np), ex_i (nI nd), ex_i sto, ex_i res, ex_r c17, ex_r c18, ex_r c19]), (hs, ex_o 2 [ex_r h0, ex_i 0, ex_i (nI (F_X0_everybody np)), ex_i hso, ex_r h4]), (h0, ex_a 1 6 to), (h4, ex_a 1 6 sw), (n, ex_o 8 [ex_i dy, ex_i sr, ex_i il, ex_r nf, ex_r na, ex_r nh]), (nf, ex_a 1 6 fu), (c18, ex_a 1 30 ga)]) fo_X2_19 (by decide) dX2_weighs_10 rfl (Nat.le_of_ble_eq_true rfl) trivial rfl ?_
  refine X_aload_n (j := 0) dX2_weighs_13 rfl rfl ?_
  refine X_iconst (v := 0) dX2_weighs_14 (by decide) ?_
  refine X_put (j := 1) (cs' := [(c, ex_o 0 [ex_r c0, ex_r c1, ex_r c2, ex_r c3, ex_r c4, ex_r c5, ex_r c6, ex_r c7, ex_r c8, ex_r c9, ex_r c10, ex_r c11, ex_r c12, ex_i (nI np), ex_i (nI nd), ex_i sto, ex_i res, ex_r c17, ex_r c18, ex_r c19]), (hs, ex_o 2 [ex_r h0, ex_i 0, ex_i (nI (F_X0_everybody np)), ex_i 0, ex_r h4]), (h0, ex_a 1 6 to), (h4, ex_a 1 6 sw), (n, ex_o 8 [ex_i dy, ex_i sr, ex_i il, ex_r nf, ex_r na, ex_r nh]), (nf, ex_a 1 6 fu), (c18, ex_a 1 30 ga)]) fo_X2_22 (by decide) dX2_weighs_15 rfl (Nat.le_of_ble_eq_true rfl) trivial rfl ?_
  refine X_aload_n (j := 0) dX2_weighs_18 rfl rfl ?_
  refine X_get (j := 1) fo_X2_25 dX2_weighs_19 rfl rfl ?_
  refine X_iconst (v := 0) dX2_weighs_22 (by decide) ?_
  refine X_callS (rest := [(c, ex_o 0 [ex_r c0, ex_r c1, ex_r c2, ex_r c3, ex_r c4, ex_r c5, ex_r c6, ex_r c7, ex_r c8, ex_r c9, ex_r c10, ex_r c11, ex_r c12, ex_i (nI np), ex_i (nI nd), ex_i sto, ex_i res, ex_r c17, ex_r c18, ex_r c19]), (hs, ex_o 2 [ex_r h0, ex_i 0, ex_i (nI (F_X0_everybody np)), ex_i 0, ex_r h4]), (h0, ex_a 1 6 to), (n, ex_o 8 [ex_i dy, ex_i sr, ex_i il, ex_r nf, ex_r na, ex_r nh]), (nf, ex_a 1 6 fu), (c18, ex_a 1 30 ga)]) (stk := []) co_X2_28 rfl ⟨(Nat.le_of_ble_eq_true rfl), (Nat.le_of_ble_eq_true rfl)⟩ (e_J7_fill_53178 l h4 6 0 sw (by decide)) dX2_weighs_23 [3, 0, 1, 2, 4, 5, 6] (show List.Perm [3, 0, 1, 2, 4, 5, 6] (List.range 7) from by decide) rfl rfl rfl (Nat.le_of_ble_eq_true rfl) (fun cs1 r hq hk => ?_)
  rcases hq with ⟨rfl, rfl⟩
  refine X_iconst (v := 0) dX2_weighs_26 (by decide) ?_
  refine X_istore (lv' := [(4, ex_i 0), (0, ex_r hs), (1, ex_r c), (2, ex_r n), (3, ex_i (nI d))]) dX2_weighs_27 (Nat.le_of_ble_eq_true rfl) rfl ?_
  -- loop at 29
  try dsimp only at hV
  generalize hq_v_1 : F_X2_weighs_L29 d to fu np ga (((F_X0_everybody np) + 1) - 0) 0 (fil 6 0 sw) 0 (nI (F_X0_everybody np)) 0 = v_1 at hV
  try dsimp only at hV
  refine X_cut (P := True) (csE := [(h4, ex_a 1 6 v_1.1), (c, ex_o 0 [ex_r c0, ex_r c1, ex_r c2, ex_r c3, ex_r c4, ex_r c5, ex_r c6, ex_r c7, ex_r c8, ex_r c9, ex_r c10, ex_r c11, ex_r c12, ex_i (nI np), ex_i (nI nd), ex_i sto, ex_i res, ex_r c17, ex_r c18, ex_r c19]), (hs, ex_o 2 [ex_r h0, ex_i v_1.2.1, ex_i v_1.2.2.1, ex_i v_1.2.2.2, ex_r h4]), (h0, ex_a 1 6 to), (n, ex_o 8 [ex_i dy, ex_i sr, ex_i il, ex_r nf, ex_r na, ex_r nh]), (nf, ex_a 1 6 fu), (c18, ex_a 1 30 ga)]) (lvE := [(0, ex_r hs), (1, ex_r c), (2, ex_r n), (3, ex_i (nI d))]) (E := 123) (fun hrest29 => ?_) (fun hPX29 => ?_)
  · have hL29 := hq_v_1.symm
    refine X_ind (fun (a29 : Nat × (Nat → Int32) × Int32 × Int32 × Int32) => v_1 = F_X2_weighs_L29 d to fu np ga (((F_X0_everybody np) + 1) - a29.1) a29.1 a29.2.1 a29.2.2.1 a29.2.2.2.1 a29.2.2.2.2 ∧ a29.1 ≤ ((F_X0_everybody np) + 1)) (fun (a29 : Nat × (Nat → Int32) × Int32 × Int32 × Int32) => ((F_X0_everybody np) + 1) - a29.1) (fun (a29 : Nat × (Nat → Int32) × Int32 × Int32 × Int32) => [(h4, ex_a 1 6 a29.2.1), (c, ex_o 0 [ex_r c0, ex_r c1, ex_r c2, ex_r c3, ex_r c4, ex_r c5, ex_r c6, ex_r c7, ex_r c8, ex_r c9, ex_r c10, ex_r c11, ex_r c12, ex_i (nI np), ex_i (nI nd), ex_i sto, ex_i res, ex_r c17, ex_r c18, ex_r c19]), (hs, ex_o 2 [ex_r h0, ex_i a29.2.2.1, ex_i a29.2.2.2.1, ex_i a29.2.2.2.2, ex_r h4]), (h0, ex_a 1 6 to), (n, ex_o 8 [ex_i dy, ex_i sr, ex_i il, ex_r nf, ex_r na, ex_r nh]), (nf, ex_a 1 6 fu), (c18, ex_a 1 30 ga)]) (fun (a29 : Nat × (Nat → Int32) × Int32 × Int32 × Int32) => [(4, ex_i (nI a29.1)), (0, ex_r hs), (1, ex_r c), (2, ex_r n), (3, ex_i (nI d))]) (fun ⟨k29, s29_0, s29_1, s29_2, s29_3⟩ hI29 ih29 => ?_) (0, (fil 6 0 sw), 0, (nI (F_X0_everybody np)), 0) ⟨hL29, (by omega)⟩
    try dsimp only at hI29 ih29 ⊢
    have ihc29 : ∀ (k29_ : Nat) (s29_0_ : Nat → Int32) (s29_1_ : Int32) (s29_2_ : Int32) (s29_3_ : Int32), (v_1 = F_X2_weighs_L29 d to fu np ga (((F_X0_everybody np) + 1) - k29_) k29_ s29_0_ s29_1_ s29_2_ s29_3_ ∧ k29_ ≤ ((F_X0_everybody np) + 1)) → (((F_X0_everybody np) + 1) - k29_) < (((F_X0_everybody np) + 1) - k29) → ex_O _ _ _ _ _ _ _ _ _ [(h4, ex_a 1 6 s29_0_), (c, ex_o 0 [ex_r c0, ex_r c1, ex_r c2, ex_r c3, ex_r c4, ex_r c5, ex_r c6, ex_r c7, ex_r c8, ex_r c9, ex_r c10, ex_r c11, ex_r c12, ex_i (nI np), ex_i (nI nd), ex_i sto, ex_i res, ex_r c17, ex_r c18, ex_r c19]), (hs, ex_o 2 [ex_r h0, ex_i s29_1_, ex_i s29_2_, ex_i s29_3_, ex_r h4]), (h0, ex_a 1 6 to), (n, ex_o 8 [ex_i dy, ex_i sr, ex_i il, ex_r nf, ex_r na, ex_r nh]), (nf, ex_a 1 6 fu), (c18, ex_a 1 30 ga)] [(4, ex_i (nI k29_)), (0, ex_r hs), (1, ex_r c), (2, ex_r n), (3, ex_i (nI d))] _ _ := fun k29_ s29_0_ s29_1_ s29_2_ s29_3_ hi_ hm_ => ih29 (k29_, s29_0_, s29_1_, s29_2_, s29_3_) hi_ hm_
    have hL29 := hI29.1
    have hb29 := hI29.2
    refine X_iload (j := 0) dX2_weighs_29 rfl ?_
    refine X_aload_n (j := 2) dX2_weighs_31 rfl rfl ?_
    refine X_callV (j0 := 0) (rest := [(h4, ex_a 1 6 s29_0), (hs, ex_o 2 [ex_r h0, ex_i s29_1, ex_i s29_2, ex_i s29_3, ex_r h4]), (h0, ex_a 1 6 to), (n, ex_o 8 [ex_i dy, ex_i sr, ex_i il, ex_r nf, ex_r na, ex_r nh]), (nf, ex_a 1 6 fu), (c18, ex_a 1 30 ga)]) (stk := [ex_i (nI k29)]) co_X2_38 rfl ⟨(Nat.le_of_ble_eq_true rfl), (Nat.le_of_ble_eq_true rfl)⟩ (e_X0_everybody l c c0 c1 c2 c3 c4 c5 c6 c7 c8 c9 c10 c11 c12 np nd sto res c17 c18 c19 (by first | assumption | omega)) dX2_weighs_32 [1, 0, 2, 3, 4, 5, 6] (show List.Perm [1, 0, 2, 3, 4, 5, 6] (List.range 7) from by decide) rfl rfl rfl rfl (Nat.le_of_ble_eq_true rfl) (fun zc1 zr hq hk => ?_)
    obtain ⟨rfl, rfl⟩ := hq
    refine X_icmp_gt (tgt := 123) dX2_weighs_35 (by decide) (fun c_2 => ?_) (fun c_2 => ?_)
    · have hlt29 : k29 = ((F_X0_everybody np) + 1) := ngtx (L := ((F_X0_everybody np) + 1)) (by omega) hb29 c_2
      rw [show ((F_X0_everybody np) + 1) - k29 = 0 by omega] at hL29
      have hL29 := hL29.trans (F_X2_weighs_L29_z ..)
      try dsimp only at hL29
      refine X_re (cs' := [(h4, ex_a 1 6 s29_0), (c, ex_o 0 [ex_r c0, ex_r c1, ex_r c2, ex_r c3, ex_r c4, ex_r c5, ex_r c6, ex_r c7, ex_r c8, ex_r c9, ex_r c10, ex_r c11, ex_r c12, ex_i (nI np), ex_i (nI nd), ex_i sto, ex_i res, ex_r c17, ex_r c18, ex_r c19]), (hs, ex_o 2 [ex_r h0, ex_i s29_1, ex_i s29_2, ex_i s29_3, ex_r h4]), (h0, ex_a 1 6 to), (n, ex_o 8 [ex_i dy, ex_i sr, ex_i il, ex_r nf, ex_r na, ex_r nh]), (nf, ex_a 1 6 fu), (c18, ex_a 1 30 ga)]) [1, 0, 2, 3, 4, 5, 6] (show List.Perm [1, 0, 2, 3, 4, 5, 6] (List.range 7) from by decide) rfl ?_
      refine X_lv (lv' := [(0, ex_r hs), (1, ex_r c), (2, ex_r n), (3, ex_i (nI d))]) [1, 2, 3, 4] rfl ?_
      refine X_eq (cs' := [(h4, ex_a 1 6 v_1.1), (c, ex_o 0 [ex_r c0, ex_r c1, ex_r c2, ex_r c3, ex_r c4, ex_r c5, ex_r c6, ex_r c7, ex_r c8, ex_r c9, ex_r c10, ex_r c11, ex_r c12, ex_i (nI np), ex_i (nI nd), ex_i sto, ex_i res, ex_r c17, ex_r c18, ex_r c19]), (hs, ex_o 2 [ex_r h0, ex_i v_1.2.1, ex_i v_1.2.2.1, ex_i v_1.2.2.2, ex_r h4]), (h0, ex_a 1 6 to), (n, ex_o 8 [ex_i dy, ex_i sr, ex_i il, ex_r nf, ex_r na, ex_r nh]), (nf, ex_a 1 6 fu), (c18, ex_a 1 30 ga)]) (lv' := [(0, ex_r hs), (1, ex_r c), (2, ex_r n), (3, ex_i (nI d))]) (by subst hL29; rfl) (by subst hL29; rfl) ?_
      exact hrest29 trivial
    · have hlt29 : k29 < ((F_X0_everybody np) + 1) := ngti (L := ((F_X0_everybody np) + 1)) (by omega) hb29 c_2
      rw [show ((F_X0_everybody np) + 1) - k29 = (((F_X0_everybody np) + 1) - (k29 + 1)) + 1 by omega] at hL29
      have hL29 := hL29.trans (F_X2_weighs_L29_s ..)
      refine X_aload_n (j := 1) dX2_weighs_38 rfl rfl ?_
      refine X_aload_n (j := 2) dX2_weighs_39 rfl rfl ?_
      refine X_aload_n (j := 3) dX2_weighs_40 rfl rfl ?_
      refine X_iload_n (j := 4) dX2_weighs_41 rfl rfl ?_
      refine X_iload (j := 0) dX2_weighs_42 rfl ?_
      refine X_callV (j0 := 0) (rest := [(h4, ex_a 1 6 s29_0)]) (stk := []) co_X2_44 rfl ⟨(Nat.le_of_ble_eq_true rfl), (Nat.le_of_ble_eq_true rfl)⟩ (e_X2_agrees l hs c n d k29 h0 s29_1 s29_2 s29_3 h4 to dy sr il nf na nh fu c0 c1 c2 c3 c4 c5 c6 c7 c8 c9 c10 c11 c12 np nd sto res c17 c18 c19 ga (by first | assumption | omega) (by first | assumption | omega)) dX2_weighs_44 [2, 3, 4, 5, 0, 6, 1] (show List.Perm [2, 3, 4, 5, 0, 6, 1] (List.range 7) from by decide) rfl rfl rfl rfl (Nat.le_of_ble_eq_true rfl) (fun zc1 zr hq hk => ?_)
      obtain ⟨rfl, rfl⟩ := hq
      refine X_if_eq (tgt := 117) dX2_weighs_47 (by decide) (fun c_3 => ?_) (fun c_3 => ?_)
      · have hL29 := hL29.trans (if_pos c_3)
        refine X_iinc (v := nI (k29 + 1)) (j := 0) (lv' := [(4, ex_i (nI (k29 + 1))), (0, ex_r hs), (1, ex_r c), (2, ex_r n), (3, ex_i (nI d))]) dX2_weighs_117 rfl (nI_add k29 1) (Nat.le_of_ble_eq_true rfl) rfl ?_
        refine X_goto (tgt := 29) dX2_weighs_120 (by decide) ?_
        try dsimp only at hL29
        refine X_re (cs' := [(h4, ex_a 1 6 s29_0), (c, ex_o 0 [ex_r c0, ex_r c1, ex_r c2, ex_r c3, ex_r c4, ex_r c5, ex_r c6, ex_r c7, ex_r c8, ex_r c9, ex_r c10, ex_r c11, ex_r c12, ex_i (nI np), ex_i (nI nd), ex_i sto, ex_i res, ex_r c17, ex_r c18, ex_r c19]), (hs, ex_o 2 [ex_r h0, ex_i s29_1, ex_i s29_2, ex_i s29_3, ex_r h4]), (h0, ex_a 1 6 to), (n, ex_o 8 [ex_i dy, ex_i sr, ex_i il, ex_r nf, ex_r na, ex_r nh]), (nf, ex_a 1 6 fu), (c18, ex_a 1 30 ga)]) [6, 4, 0, 1, 2, 3, 5] (show List.Perm [6, 4, 0, 1, 2, 3, 5] (List.range 7) from by decide) rfl ?_
        exact ihc29 (k29 + 1) s29_0 s29_1 s29_2 s29_3 ⟨hL29, (show (k29 + 1) ≤ ((F_X0_everybody np) + 1) by omega)⟩ (show ((F_X0_everybody np) + 1) - (k29 + 1) < ((F_X0_everybody np) + 1) - k29 by omega)
      · have hL29 := hL29.trans (if_neg c_3)
        refine X_aload_n (j := 1) dX2_weighs_50 rfl rfl ?_
        refine X_dup dX2_weighs_51 rfl ?_
        refine X_get (j := 0) fo_X2_15 dX2_weighs_52 rfl rfl ?_
        refine X_iconst (v := 1) dX2_weighs_55 (by decide) ?_
        refine X_iadd (v := (s29_1 + 1)) dX2_weighs_56 rfl ?_
        refine X_put (j := 0) (cs' := [(hs, ex_o 2 [ex_r h0, ex_i (s29_1 + 1), ex_i s29_2, ex_i s29_3, ex_r h4]), (h0, ex_a 1 6 to), (n, ex_o 8 [ex_i dy, ex_i sr, ex_i il, ex_r nf, ex_r na, ex_r nh]), (nf, ex_a 1 6 fu), (c, ex_o 0 [ex_r c0, ex_r c1, ex_r c2, ex_r c3, ex_r c4, ex_r c5, ex_r c6, ex_r c7, ex_r c8, ex_r c9, ex_r c10, ex_r c11, ex_r c12, ex_i (nI np), ex_i (nI nd), ex_i sto, ex_i res, ex_r c17, ex_r c18, ex_r c19]), (c18, ex_a 1 30 ga), (h4, ex_a 1 6 s29_0)]) fo_X2_15 (by decide) dX2_weighs_57 rfl (Nat.le_of_ble_eq_true rfl) trivial rfl ?_
        refine X_aload_n (j := 1) dX2_weighs_60 rfl rfl ?_
        refine X_dup dX2_weighs_61 rfl ?_
        refine X_get (j := 0) fo_X2_19 dX2_weighs_62 rfl rfl ?_
        refine X_iload (j := 0) dX2_weighs_65 rfl ?_
        refine X_iand (v := (s29_2 &&& (nI k29))) dX2_weighs_67 rfl ?_
        refine X_put (j := 0) (cs' := [(hs, ex_o 2 [ex_r h0, ex_i (s29_1 + 1), ex_i (s29_2 &&& (nI k29)), ex_i s29_3, ex_r h4]), (h0, ex_a 1 6 to), (n, ex_o 8 [ex_i dy, ex_i sr, ex_i il, ex_r nf, ex_r na, ex_r nh]), (nf, ex_a 1 6 fu), (c, ex_o 0 [ex_r c0, ex_r c1, ex_r c2, ex_r c3, ex_r c4, ex_r c5, ex_r c6, ex_r c7, ex_r c8, ex_r c9, ex_r c10, ex_r c11, ex_r c12, ex_i (nI np), ex_i (nI nd), ex_i sto, ex_i res, ex_r c17, ex_r c18, ex_r c19]), (c18, ex_a 1 30 ga), (h4, ex_a 1 6 s29_0)]) fo_X2_19 (by decide) dX2_weighs_68 rfl (Nat.le_of_ble_eq_true rfl) trivial rfl ?_
        refine X_aload_n (j := 1) dX2_weighs_71 rfl rfl ?_
        refine X_dup dX2_weighs_72 rfl ?_
        refine X_get (j := 0) fo_X2_22 dX2_weighs_73 rfl rfl ?_
        refine X_iload (j := 0) dX2_weighs_76 rfl ?_
        refine X_ior (v := (s29_3 ||| (nI k29))) dX2_weighs_78 rfl ?_
        refine X_put (j := 0) (cs' := [(hs, ex_o 2 [ex_r h0, ex_i (s29_1 + 1), ex_i (s29_2 &&& (nI k29)), ex_i (s29_3 ||| (nI k29)), ex_r h4]), (h0, ex_a 1 6 to), (n, ex_o 8 [ex_i dy, ex_i sr, ex_i il, ex_r nf, ex_r na, ex_r nh]), (nf, ex_a 1 6 fu), (c, ex_o 0 [ex_r c0, ex_r c1, ex_r c2, ex_r c3, ex_r c4, ex_r c5, ex_r c6, ex_r c7, ex_r c8, ex_r c9, ex_r c10, ex_r c11, ex_r c12, ex_i (nI np), ex_i (nI nd), ex_i sto, ex_i res, ex_r c17, ex_r c18, ex_r c19]), (c18, ex_a 1 30 ga), (h4, ex_a 1 6 s29_0)]) fo_X2_22 (by decide) dX2_weighs_79 rfl (Nat.le_of_ble_eq_true rfl) trivial rfl ?_
        refine X_iconst (v := 0) dX2_weighs_82 (by decide) ?_
        refine X_istore (lv' := [(5, ex_i 0), (4, ex_i (nI k29)), (0, ex_r hs), (1, ex_r c), (2, ex_r n), (3, ex_i (nI d))]) dX2_weighs_83 (Nat.le_of_ble_eq_true rfl) rfl ?_
        -- loop at 85
        try dsimp only at hL29
        generalize hq_v_4 : F_X2_weighs_L85 k29 (np - 0) 0 s29_0 = v_4 at hL29
        try dsimp only at hL29
        refine X_cut (P := True) (csE := [(hs, ex_o 2 [ex_r h0, ex_i (s29_1 + 1), ex_i (s29_2 &&& (nI k29)), ex_i (s29_3 ||| (nI k29)), ex_r h4]), (h0, ex_a 1 6 to), (n, ex_o 8 [ex_i dy, ex_i sr, ex_i il, ex_r nf, ex_r na, ex_r nh]), (nf, ex_a 1 6 fu), (c, ex_o 0 [ex_r c0, ex_r c1, ex_r c2, ex_r c3, ex_r c4, ex_r c5, ex_r c6, ex_r c7, ex_r c8, ex_r c9, ex_r c10, ex_r c11, ex_r c12, ex_i (nI np), ex_i (nI nd), ex_i sto, ex_i res, ex_r c17, ex_r c18, ex_r c19]), (c18, ex_a 1 30 ga), (h4, ex_a 1 6 v_4)]) (lvE := [(4, ex_i (nI k29)), (0, ex_r hs), (1, ex_r c), (2, ex_r n), (3, ex_i (nI d))]) (E := 117) (fun hrest85 => ?_) (fun hPX85 => ?_)
        · have hL85 := hq_v_4.symm
          refine X_ind (fun (a85 : Nat × (Nat → Int32)) => v_4 = F_X2_weighs_L85 k29 (np - a85.1) a85.1 a85.2 ∧ a85.1 ≤ np) (fun (a85 : Nat × (Nat → Int32)) => np - a85.1) (fun (a85 : Nat × (Nat → Int32)) => [(hs, ex_o 2 [ex_r h0, ex_i (s29_1 + 1), ex_i (s29_2 &&& (nI k29)), ex_i (s29_3 ||| (nI k29)), ex_r h4]), (h0, ex_a 1 6 to), (n, ex_o 8 [ex_i dy, ex_i sr, ex_i il, ex_r nf, ex_r na, ex_r nh]), (nf, ex_a 1 6 fu), (c, ex_o 0 [ex_r c0, ex_r c1, ex_r c2, ex_r c3, ex_r c4, ex_r c5, ex_r c6, ex_r c7, ex_r c8, ex_r c9, ex_r c10, ex_r c11, ex_r c12, ex_i (nI np), ex_i (nI nd), ex_i sto, ex_i res, ex_r c17, ex_r c18, ex_r c19]), (c18, ex_a 1 30 ga), (h4, ex_a 1 6 a85.2)]) (fun (a85 : Nat × (Nat → Int32)) => [(5, ex_i (nI a85.1)), (4, ex_i (nI k29)), (0, ex_r hs), (1, ex_r c), (2, ex_r n), (3, ex_i (nI d))]) (fun ⟨k85, s85_0⟩ hI85 ih85 => ?_) (0, s29_0) ⟨hL85, (by omega)⟩
          try dsimp only at hI85 ih85 ⊢
          have ihc85 : ∀ (k85_ : Nat) (s85_0_ : Nat → Int32), (v_4 = F_X2_weighs_L85 k29 (np - k85_) k85_ s85_0_ ∧ k85_ ≤ np) → (np - k85_) < (np - k85) → ex_O _ _ _ _ _ _ _ _ _ [(hs, ex_o 2 [ex_r h0, ex_i (s29_1 + 1), ex_i (s29_2 &&& (nI k29)), ex_i (s29_3 ||| (nI k29)), ex_r h4]), (h0, ex_a 1 6 to), (n, ex_o 8 [ex_i dy, ex_i sr, ex_i il, ex_r nf, ex_r na, ex_r nh]), (nf, ex_a 1 6 fu), (c, ex_o 0 [ex_r c0, ex_r c1, ex_r c2, ex_r c3, ex_r c4, ex_r c5, ex_r c6, ex_r c7, ex_r c8, ex_r c9, ex_r c10, ex_r c11, ex_r c12, ex_i (nI np), ex_i (nI nd), ex_i sto, ex_i res, ex_r c17, ex_r c18, ex_r c19]), (c18, ex_a 1 30 ga), (h4, ex_a 1 6 s85_0_)] [(5, ex_i (nI k85_)), (4, ex_i (nI k29)), (0, ex_r hs), (1, ex_r c), (2, ex_r n), (3, ex_i (nI d))] _ _ := fun k85_ s85_0_ hi_ hm_ => ih85 (k85_, s85_0_) hi_ hm_
          have hL85 := hI85.1
          have hb85 := hI85.2
          refine X_iload (j := 0) dX2_weighs_85 rfl ?_
          refine X_aload_n (j := 3) dX2_weighs_87 rfl rfl ?_
          refine X_get (j := 4) fo_X2_48 dX2_weighs_88 rfl rfl ?_
          refine X_icmp_ge (tgt := 117) dX2_weighs_91 (by decide) (fun c_5 => ?_) (fun c_5 => ?_)
          · have hlt85 : k85 = np := nlex (L := np) (by omega) hb85 c_5
            rw [show np - k85 = 0 by omega] at hL85
            have hL85 := hL85.trans (F_X2_weighs_L85_z ..)
            try dsimp only at hL85
            refine X_lv (lv' := [(4, ex_i (nI k29)), (0, ex_r hs), (1, ex_r c), (2, ex_r n), (3, ex_i (nI d))]) [1, 2, 3, 4, 5] rfl ?_
            refine X_eq (cs' := [(hs, ex_o 2 [ex_r h0, ex_i (s29_1 + 1), ex_i (s29_2 &&& (nI k29)), ex_i (s29_3 ||| (nI k29)), ex_r h4]), (h0, ex_a 1 6 to), (n, ex_o 8 [ex_i dy, ex_i sr, ex_i il, ex_r nf, ex_r na, ex_r nh]), (nf, ex_a 1 6 fu), (c, ex_o 0 [ex_r c0, ex_r c1, ex_r c2, ex_r c3, ex_r c4, ex_r c5, ex_r c6, ex_r c7, ex_r c8, ex_r c9, ex_r c10, ex_r c11, ex_r c12, ex_i (nI np), ex_i (nI nd), ex_i sto, ex_i res, ex_r c17, ex_r c18, ex_r c19]), (c18, ex_a 1 30 ga), (h4, ex_a 1 6 v_4)]) (lv' := [(4, ex_i (nI k29)), (0, ex_r hs), (1, ex_r c), (2, ex_r n), (3, ex_i (nI d))]) (by subst hL85; rfl) (by subst hL85; rfl) ?_
            exact hrest85 trivial
          · have hlt85 : k85 < np := nlen (L := np) (by omega) hb85 c_5
            rw [show np - k85 = (np - (k85 + 1)) + 1 by omega] at hL85
            have hL85 := hL85.trans (F_X2_weighs_L85_s ..)
            refine X_aload_n (j := 2) dX2_weighs_94 rfl rfl ?_
            refine X_get (j := 0) fo_X2_25 dX2_weighs_95 rfl rfl ?_
            refine X_iload (j := 0) dX2_weighs_98 rfl ?_
            refine X_dup2_11 dX2_weighs_100 rfl rfl ?_
            refine X_iald (j := 6) (v := (s85_0 k85)) dX2_weighs_101 rfl (vp_in_nI (show k85 < 6 by omega) (by decide)) (by rw [nI_clamp (by omega)]) ?_
            refine X_iload (j := 1) dX2_weighs_102 rfl ?_
            refine X_iload (j := 0) dX2_weighs_104 rfl ?_
            refine X_ishr (v := ((nI k29) >>> ((nI k85) &&& 31))) dX2_weighs_106 rfl ?_
            refine X_iconst (v := 1) dX2_weighs_107 (by decide) ?_
            refine X_iand (v := (((nI k29) >>> ((nI k85) &&& 31)) &&& 1)) dX2_weighs_108 rfl ?_
            refine X_iadd (v := ((s85_0 k85) + (((nI k29) >>> ((nI k85) &&& 31)) &&& 1))) dX2_weighs_109 rfl ?_
            refine X_iast (j := 6) (g := upd s85_0 k85 ((s85_0 k85) + (((nI k29) >>> ((nI k85) &&& 31)) &&& 1))) (cs' := [(hs, ex_o 2 [ex_r h0, ex_i (s29_1 + 1), ex_i (s29_2 &&& (nI k29)), ex_i (s29_3 ||| (nI k29)), ex_r h4]), (h0, ex_a 1 6 to), (n, ex_o 8 [ex_i dy, ex_i sr, ex_i il, ex_r nf, ex_r na, ex_r nh]), (nf, ex_a 1 6 fu), (c, ex_o 0 [ex_r c0, ex_r c1, ex_r c2, ex_r c3, ex_r c4, ex_r c5, ex_r c6, ex_r c7, ex_r c8, ex_r c9, ex_r c10, ex_r c11, ex_r c12, ex_i (nI np), ex_i (nI nd), ex_i sto, ex_i res, ex_r c17, ex_r c18, ex_r c19]), (c18, ex_a 1 30 ga), (h4, ex_a 1 6 (upd s85_0 k85 ((s85_0 k85) + (((nI k29) >>> ((nI k85) &&& 31)) &&& 1))))]) dX2_weighs_110 rfl (vp_in_nI (show k85 < 6 by omega) (by decide)) (by rw [nI_clamp (by omega)]) rfl ?_
            refine X_iinc (v := nI (k85 + 1)) (j := 0) (lv' := [(5, ex_i (nI (k85 + 1))), (4, ex_i (nI k29)), (0, ex_r hs), (1, ex_r c), (2, ex_r n), (3, ex_i (nI d))]) dX2_weighs_111 rfl (nI_add k85 1) (Nat.le_of_ble_eq_true rfl) rfl ?_
            refine X_goto (tgt := 85) dX2_weighs_114 (by decide) ?_
            try dsimp only at hL85
            exact ihc85 (k85 + 1) (upd s85_0 k85 ((s85_0 k85) + (((nI k29) >>> ((nI k85) &&& 31)) &&& 1))) ⟨hL85, (show (k85 + 1) ≤ np by omega)⟩ (show np - (k85 + 1) < np - k85 by omega)
        refine X_iinc (v := nI (k29 + 1)) (j := 0) (lv' := [(4, ex_i (nI (k29 + 1))), (0, ex_r hs), (1, ex_r c), (2, ex_r n), (3, ex_i (nI d))]) dX2_weighs_117 rfl (nI_add k29 1) (Nat.le_of_ble_eq_true rfl) rfl ?_
        refine X_goto (tgt := 29) dX2_weighs_120 (by decide) ?_
        try dsimp only at hL29
        refine X_re (cs' := [(h4, ex_a 1 6 v_4), (c, ex_o 0 [ex_r c0, ex_r c1, ex_r c2, ex_r c3, ex_r c4, ex_r c5, ex_r c6, ex_r c7, ex_r c8, ex_r c9, ex_r c10, ex_r c11, ex_r c12, ex_i (nI np), ex_i (nI nd), ex_i sto, ex_i res, ex_r c17, ex_r c18, ex_r c19]), (hs, ex_o 2 [ex_r h0, ex_i (s29_1 + 1), ex_i (s29_2 &&& (nI k29)), ex_i (s29_3 ||| (nI k29)), ex_r h4]), (h0, ex_a 1 6 to), (n, ex_o 8 [ex_i dy, ex_i sr, ex_i il, ex_r nf, ex_r na, ex_r nh]), (nf, ex_a 1 6 fu), (c18, ex_a 1 30 ga)]) [6, 4, 0, 1, 2, 3, 5] (show List.Perm [6, 4, 0, 1, 2, 3, 5] (List.range 7) from by decide) rfl ?_
        exact ihc29 (k29 + 1) v_4 (s29_1 + 1) (s29_2 &&& (nI k29)) (s29_3 ||| (nI k29)) ⟨hL29, (show (k29 + 1) ≤ ((F_X0_everybody np) + 1) by omega)⟩ (show ((F_X0_everybody np) + 1) - (k29 + 1) < ((F_X0_everybody np) + 1) - k29 by omega)
  try dsimp only at hV
  refine X_re (cs' := [(hs, ex_o 2 [ex_r h0, ex_i v_1.2.1, ex_i v_1.2.2.1, ex_i v_1.2.2.2, ex_r h4]), (h0, ex_a 1 6 to), (h4, ex_a 1 6 v_1.1), (n, ex_o 8 [ex_i dy, ex_i sr, ex_i il, ex_r nf, ex_r na, ex_r nh]), (nf, ex_a 1 6 fu), (c, ex_o 0 [ex_r c0, ex_r c1, ex_r c2, ex_r c3, ex_r c4, ex_r c5, ex_r c6, ex_r c7, ex_r c8, ex_r c9, ex_r c10, ex_r c11, ex_r c12, ex_i (nI np), ex_i (nI nd), ex_i sto, ex_i res, ex_r c17, ex_r c18, ex_r c19]), (c18, ex_a 1 30 ga)]) [2, 3, 0, 4, 5, 1, 6] (show List.Perm [2, 3, 0, 4, 5, 1, 6] (List.range 7) from by decide) rfl ?_
  exact X_vret dX2_weighs_123 (by (repeat refine ex_kc ?_) <;> rfl) (by subst hV; exact ⟨rfl, rfl⟩)

def F_X2_whomToAsk_L12 (d : Nat) (hm : Int32) (to : Nat → Int32) (sw : Nat → Int32) (fu : Nat → Int32) (ga : Nat → Int32) : Nat → Nat → Int32 → Int32 → Int32 × Int32
  | 0, k12, s12_0, s12_1 => (s12_0, s12_1)
  | zn + 1, k12, s12_0, s12_1 => (if (F_X2_fullAbroad d k12 fu ga) = (fu k12) then (if (F_X2_isTold k12 to) = 0 then (if s12_1 ≤ hm then F_X2_whomToAsk_L12 d hm to sw fu ga zn (k12 + 1) s12_0 s12_1 else F_X2_whomToAsk_L12 d hm to sw fu ga zn (k12 + 1) (nI k12) hm) else F_X2_whomToAsk_L12 d hm to sw fu ga zn (k12 + 1) s12_0 s12_1) else (if (F_X2_isTold k12 to) = 0 then (if s12_1 ≤ (if (sw k12) < (hm - (sw k12)) then (hm - (sw k12)) else (sw k12)) then F_X2_whomToAsk_L12 d hm to sw fu ga zn (k12 + 1) s12_0 s12_1 else F_X2_whomToAsk_L12 d hm to sw fu ga zn (k12 + 1) (nI k12) (if (sw k12) < (hm - (sw k12)) then (hm - (sw k12)) else (sw k12))) else F_X2_whomToAsk_L12 d hm to sw fu ga zn (k12 + 1) s12_0 s12_1))
theorem F_X2_whomToAsk_L12_z (d : Nat) (hm : Int32) (to : Nat → Int32) (sw : Nat → Int32) (fu : Nat → Int32) (ga : Nat → Int32) (k12 : Nat) (s12_0 : Int32) (s12_1 : Int32) : F_X2_whomToAsk_L12 d hm to sw fu ga 0 k12 s12_0 s12_1 = (s12_0, s12_1) := rfl
theorem F_X2_whomToAsk_L12_s (d : Nat) (hm : Int32) (to : Nat → Int32) (sw : Nat → Int32) (fu : Nat → Int32) (ga : Nat → Int32) (k12 : Nat) (s12_0 : Int32) (s12_1 : Int32) (zn : Nat) : F_X2_whomToAsk_L12 d hm to sw fu ga (zn + 1) k12 s12_0 s12_1 = (if (F_X2_fullAbroad d k12 fu ga) = (fu k12) then (if (F_X2_isTold k12 to) = 0 then (if s12_1 ≤ hm then F_X2_whomToAsk_L12 d hm to sw fu ga zn (k12 + 1) s12_0 s12_1 else F_X2_whomToAsk_L12 d hm to sw fu ga zn (k12 + 1) (nI k12) hm) else F_X2_whomToAsk_L12 d hm to sw fu ga zn (k12 + 1) s12_0 s12_1) else (if (F_X2_isTold k12 to) = 0 then (if s12_1 ≤ (if (sw k12) < (hm - (sw k12)) then (hm - (sw k12)) else (sw k12)) then F_X2_whomToAsk_L12 d hm to sw fu ga zn (k12 + 1) s12_0 s12_1 else F_X2_whomToAsk_L12 d hm to sw fu ga zn (k12 + 1) (nI k12) (if (sw k12) < (hm - (sw k12)) then (hm - (sw k12)) else (sw k12))) else F_X2_whomToAsk_L12 d hm to sw fu ga zn (k12 + 1) s12_0 s12_1)) := rfl
def F_X2_whomToAsk (d : Nat) (hm : Int32) (to : Nat → Int32) (sw : Nat → Int32) (fu : Nat → Int32) (np : Nat) (ga : Nat → Int32) : Int32 := ((fun (v_1 : Int32 × Int32) => v_1.1) (F_X2_whomToAsk_L12 d hm to sw fu ga (np - 0) 0 (-1) hm))
set_option maxHeartbeats 4000000 in
set_option maxRecDepth 100000 in
theorem e_X2_whomToAsk (l : Launch) (hs : Nat) (c : Nat) (n : Nat) (d : Nat) (h0 : Nat) (hm : Int32) (hia : Int32) (hso : Int32) (h4 : Nat) (to : Nat → Int32) (sw : Nat → Int32) (dy : Int32) (sr : Int32) (il : Int32) (nf : Nat) (na : Nat) (nh : Nat) (fu : Nat → Int32) (c0 : Nat) (c1 : Nat) (c2 : Nat) (c3 : Nat) (c4 : Nat) (c5 : Nat) (c6 : Nat) (c7 : Nat) (c8 : Nat) (c9 : Nat) (c10 : Nat) (c11 : Nat) (c12 : Nat) (np : Nat) (nd : Nat) (sto : Int32) (res : Int32) (c17 : Nat) (c18 : Nat) (c19 : Nat) (ga : Nat → Int32) (hd : d < 5) (hnp : np ≤ 6) : ex_M l yX2_whomToAsk cX2_whomToAsk 9 (some .int) 2 63 [ex_r hs, ex_r c, ex_r n, ex_i (nI d)] [(hs, ex_o 2 [ex_r h0, ex_i hm, ex_i hia, ex_i hso, ex_r h4]), (h0, ex_a 1 6 to), (h4, ex_a 1 6 sw), (n, ex_o 8 [ex_i dy, ex_i sr, ex_i il, ex_r nf, ex_r na, ex_r nh]), (nf, ex_a 1 6 fu), (c, ex_o 0 [ex_r c0, ex_r c1, ex_r c2, ex_r c3, ex_r c4, ex_r c5, ex_r c6, ex_r c7, ex_r c8, ex_r c9, ex_r c10, ex_r c11, ex_r c12, ex_i (nI np), ex_i (nI nd), ex_i sto, ex_i res, ex_r c17, ex_r c18, ex_r c19]), (c18, ex_a 1 30 ga)] (fun zcs zr => zcs = [(hs, ex_o 2 [ex_r h0, ex_i hm, ex_i hia, ex_i hso, ex_r h4]), (h0, ex_a 1 6 to), (h4, ex_a 1 6 sw), (n, ex_o 8 [ex_i dy, ex_i sr, ex_i il, ex_r nf, ex_r na, ex_r nh]), (nf, ex_a 1 6 fu), (c, ex_o 0 [ex_r c0, ex_r c1, ex_r c2, ex_r c3, ex_r c4, ex_r c5, ex_r c6, ex_r c7, ex_r c8, ex_r c9, ex_r c10, ex_r c11, ex_r c12, ex_i (nI np), ex_i (nI nd), ex_i sto, ex_i res, ex_r c17, ex_r c18, ex_r c19]), (c18, ex_a 1 30 ga)] ∧ zr = some (ex_i (F_X2_whomToAsk d hm to sw fu np ga))) := by
  refine X_meth (by decide) (Nat.le_of_ble_eq_true rfl) ?_
  generalize hV : F_X2_whomToAsk d hm to sw fu np ga = V0
  have hV := hV.symm
  unfold F_X2_whomToAsk at hV
  try dsimp only at hV
  refine X_iconst (v := (-1)) dX2_whomToAsk_0 (by decide) ?_
  refine X_istore (lv' := [(4, ex_i (-1)), (0, ex_r hs), (1, ex_r c), (2, ex_r n), (3, ex_i (nI d))]) dX2_whomToAsk_1 (Nat.le_of_ble_eq_true rfl) rfl ?_
  refine X_aload_n (j := 1) dX2_whomToAsk_3 rfl rfl ?_
  refine X_get (j := 0) fo_X2_15 dX2_whomToAsk_4 rfl rfl ?_
  refine X_istore (lv' := [(5, ex_i hm), (4, ex_i (-1)), (0, ex_r hs), (1, ex_r c), (2, ex_r n), (3, ex_i (nI d))]) dX2_whomToAsk_7 (Nat.le_of_ble_eq_true rfl) rfl ?_
  refine X_iconst (v := 0) dX2_whomToAsk_9 (by decide) ?_
  refine X_istore (lv' := [(6, ex_i 0), (5, ex_i hm), (4, ex_i (-1)), (0, ex_r hs), (1, ex_r c), (2, ex_r n), (3, ex_i (nI d))]) dX2_whomToAsk_10 (Nat.le_of_ble_eq_true rfl) rfl ?_
  -- loop at 12
  try dsimp only at hV
  generalize hq_v_1 : F_X2_whomToAsk_L12 d hm to sw fu ga (np - 0) 0 (-1) hm = v_1 at hV
  try dsimp only at hV
  refine X_cut (P := True) (csE := [(hs, ex_o 2 [ex_r h0, ex_i hm, ex_i hia, ex_i hso, ex_r h4]), (h0, ex_a 1 6 to), (h4, ex_a 1 6 sw), (n, ex_o 8 [ex_i dy, ex_i sr, ex_i il, ex_r nf, ex_r na, ex_r nh]), (nf, ex_a 1 6 fu), (c, ex_o 0 [ex_r c0, ex_r c1, ex_r c2, ex_r c3, ex_r c4, ex_r c5, ex_r c6, ex_r c7, ex_r c8, ex_r c9, ex_r c10, ex_r c11, ex_r c12, ex_i (nI np), ex_i (nI nd), ex_i sto, ex_i res, ex_r c17, ex_r c18, ex_r c19]), (c18, ex_a 1 30 ga)]) (lvE := [(5, ex_i v_1.2), (4, ex_i v_1.1), (0, ex_r hs), (1, ex_r c), (2, ex_r n), (3, ex_i (nI d))]) (E := 112) (fun hrest12 => ?_) (fun hPX12 => ?_)
  · have hL12 := hq_v_1.symm
    refine X_ind (fun (a12 : Nat × Int32 × Int32) => v_1 = F_X2_whomToAsk_L12 d hm to sw fu ga (np - a12.1) a12.1 a12.2.1 a12.2.2 ∧ a12.1 ≤ np) (fun (a12 : Nat × Int32 × Int32) => np - a12.1) (fun (a12 : Nat × Int32 × Int32) => [(hs, ex_o 2 [ex_r h0, ex_i hm, ex_i hia, ex_i hso, ex_r h4]), (h0, ex_a 1 6 to), (h4, ex_a 1 6 sw), (n, ex_o 8 [ex_i dy, ex_i sr, ex_i il, ex_r nf, ex_r na, ex_r nh]), (nf, ex_a 1 6 fu), (c, ex_o 0 [ex_r c0, ex_r c1, ex_r c2, ex_r c3, ex_r c4, ex_r c5, ex_r c6, ex_r c7, ex_r c8, ex_r c9, ex_r c10, ex_r c11, ex_r c12, ex_i (nI np), ex_i (nI nd), ex_i sto, ex_i res, ex_r c17, ex_r c18, ex_r c19]), (c18, ex_a 1 30 ga)]) (fun (a12 : Nat × Int32 × Int32) => [(6, ex_i (nI a12.1)), (5, ex_i a12.2.2), (4, ex_i a12.2.1), (0, ex_r hs), (1, ex_r c), (2, ex_r n), (3, ex_i (nI d))]) (fun ⟨k12, s12_0, s12_1⟩ hI12 ih12 => ?_) (0, (-1), hm) ⟨hL12, (by omega)⟩
    try dsimp only at hI12 ih12 ⊢
    have ihc12 : ∀ (k12_ : Nat) (s12_0_ : Int32) (s12_1_ : Int32), (v_1 = F_X2_whomToAsk_L12 d hm to sw fu ga (np - k12_) k12_ s12_0_ s12_1_ ∧ k12_ ≤ np) → (np - k12_) < (np - k12) → ex_O _ _ _ _ _ _ _ _ _ [(hs, ex_o 2 [ex_r h0, ex_i hm, ex_i hia, ex_i hso, ex_r h4]), (h0, ex_a 1 6 to), (h4, ex_a 1 6 sw), (n, ex_o 8 [ex_i dy, ex_i sr, ex_i il, ex_r nf, ex_r na, ex_r nh]), (nf, ex_a 1 6 fu), (c, ex_o 0 [ex_r c0, ex_r c1, ex_r c2, ex_r c3, ex_r c4, ex_r c5, ex_r c6, ex_r c7, ex_r c8, ex_r c9, ex_r c10, ex_r c11, ex_r c12, ex_i (nI np), ex_i (nI nd), ex_i sto, ex_i res, ex_r c17, ex_r c18, ex_r c19]), (c18, ex_a 1 30 ga)] [(6, ex_i (nI k12_)), (5, ex_i s12_1_), (4, ex_i s12_0_), (0, ex_r hs), (1, ex_r c), (2, ex_r n), (3, ex_i (nI d))] _ _ := fun k12_ s12_0_ s12_1_ hi_ hm_ => ih12 (k12_, s12_0_, s12_1_) hi_ hm_
    have hL12 := hI12.1
    have hb12 := hI12.2
    refine X_iload (j := 0) dX2_whomToAsk_12 rfl ?_
    refine X_aload_n (j := 4) dX2_whomToAsk_14 rfl rfl ?_
    refine X_get (j := 5) fo_X2_48 dX2_whomToAsk_15 rfl rfl ?_
    refine X_icmp_ge (tgt := 112) dX2_whomToAsk_18 (by decide) (fun c_2 => ?_) (fun c_2 => ?_)
    · have hlt12 : k12 = np := nlex (L := np) (by omega) hb12 c_2
      rw [show np - k12 = 0 by omega] at hL12
      have hL12 := hL12.trans (F_X2_whomToAsk_L12_z ..)
      try dsimp only at hL12
      refine X_lv (lv' := [(5, ex_i s12_1), (4, ex_i s12_0), (0, ex_r hs), (1, ex_r c), (2, ex_r n), (3, ex_i (nI d))]) [1, 2, 3, 4, 5, 6] rfl ?_
      refine X_eq (cs' := [(hs, ex_o 2 [ex_r h0, ex_i hm, ex_i hia, ex_i hso, ex_r h4]), (h0, ex_a 1 6 to), (h4, ex_a 1 6 sw), (n, ex_o 8 [ex_i dy, ex_i sr, ex_i il, ex_r nf, ex_r na, ex_r nh]), (nf, ex_a 1 6 fu), (c, ex_o 0 [ex_r c0, ex_r c1, ex_r c2, ex_r c3, ex_r c4, ex_r c5, ex_r c6, ex_r c7, ex_r c8, ex_r c9, ex_r c10, ex_r c11, ex_r c12, ex_i (nI np), ex_i (nI nd), ex_i sto, ex_i res, ex_r c17, ex_r c18, ex_r c19]), (c18, ex_a 1 30 ga)]) (lv' := [(5, ex_i v_1.2), (4, ex_i v_1.1), (0, ex_r hs), (1, ex_r c), (2, ex_r n), (3, ex_i (nI d))]) (by subst hL12; rfl) (by subst hL12; rfl) ?_
      exact hrest12 trivial
    · have hlt12 : k12 < np := nlen (L := np) (by omega) hb12 c_2
      rw [show np - k12 = (np - (k12 + 1)) + 1 by omega] at hL12
      have hL12 := hL12.trans (F_X2_whomToAsk_L12_s ..)
      refine X_aload_n (j := 4) dX2_whomToAsk_21 rfl rfl ?_
      refine X_aload_n (j := 5) dX2_whomToAsk_22 rfl rfl ?_
      refine X_iload_n (j := 6) dX2_whomToAsk_23 rfl rfl ?_
      refine X_iload (j := 0) dX2_whomToAsk_24 rfl ?_
      refine X_callS (rest := [(hs, ex_o 2 [ex_r h0, ex_i hm, ex_i hia, ex_i hso, ex_r h4]), (h0, ex_a 1 6 to), (h4, ex_a 1 6 sw)]) (stk := []) co_X2_51 rfl ⟨(Nat.le_of_ble_eq_true rfl), (Nat.le_of_ble_eq_true rfl)⟩ (e_X2_fullAbroad l c n d k12 dy sr il nf na nh fu c0 c1 c2 c3 c4 c5 c6 c7 c8 c9 c10 c11 c12 np nd sto res c17 c18 c19 ga (by first | assumption | omega) (by first | assumption | omega)) dX2_whomToAsk_26 [3, 4, 5, 6, 0, 1, 2] (show List.Perm [3, 4, 5, 6, 0, 1, 2] (List.range 7) from by decide) rfl rfl rfl (Nat.le_of_ble_eq_true rfl) (fun zc1 zr hq hk => ?_)
      obtain ⟨rfl, rfl⟩ := hq
      refine X_aload_n (j := 5) dX2_whomToAsk_29 rfl rfl ?_
      refine X_get (j := 0) fo_X2_55 dX2_whomToAsk_30 rfl rfl ?_
      refine X_iload (j := 0) dX2_whomToAsk_33 rfl ?_
      refine X_iald (j := 1) (v := (fu k12)) dX2_whomToAsk_35 rfl (vp_in_nI (show k12 < 6 by omega) (by decide)) (by rw [nI_clamp (by omega)]) ?_
      refine X_icmp_eq (tgt := 43) dX2_whomToAsk_36 (by decide) (fun c_3 => ?_) (fun c_3 => ?_)
      · have hL12 := hL12.trans (if_pos c_3)
        refine X_iconst (v := 0) dX2_whomToAsk_43 (by decide) ?_
        refine X_istore (lv' := [(7, ex_i 0), (6, ex_i (nI k12)), (5, ex_i s12_1), (4, ex_i s12_0), (0, ex_r hs), (1, ex_r c), (2, ex_r n), (3, ex_i (nI d))]) dX2_whomToAsk_44 (Nat.le_of_ble_eq_true rfl) rfl ?_
        refine X_iload (j := 0) dX2_whomToAsk_46 rfl ?_
        refine X_if_eq (tgt := 76) dX2_whomToAsk_48 (by decide) (fun _ => ?_) (fun c_ => absurd rfl c_)
        refine X_aload_n (j := 4) dX2_whomToAsk_76 rfl rfl ?_
        refine X_get (j := 4) fo_X2_15 dX2_whomToAsk_77 rfl rfl ?_
        refine X_istore (lv' := [(8, ex_i hm), (7, ex_i 0), (6, ex_i (nI k12)), (5, ex_i s12_1), (4, ex_i s12_0), (0, ex_r hs), (1, ex_r c), (2, ex_r n), (3, ex_i (nI d))]) dX2_whomToAsk_80 (Nat.le_of_ble_eq_true rfl) rfl ?_
        refine X_aload_n (j := 5) dX2_whomToAsk_82 rfl rfl ?_
        refine X_iload (j := 2) dX2_whomToAsk_83 rfl ?_
        refine X_callV (j0 := 0) (rest := [(n, ex_o 8 [ex_i dy, ex_i sr, ex_i il, ex_r nf, ex_r na, ex_r nh]), (nf, ex_a 1 6 fu), (c, ex_o 0 [ex_r c0, ex_r c1, ex_r c2, ex_r c3, ex_r c4, ex_r c5, ex_r c6, ex_r c7, ex_r c8, ex_r c9, ex_r c10, ex_r c11, ex_r c12, ex_i (nI np), ex_i (nI nd), ex_i sto, ex_i res, ex_r c17, ex_r c18, ex_r c19]), (c18, ex_a 1 30 ga), (h4, ex_a 1 6 sw)]) (stk := []) co_X2_34 rfl ⟨(Nat.le_of_ble_eq_true rfl), (Nat.le_of_ble_eq_true rfl)⟩ (e_X2_isTold l hs k12 h0 hm hia hso h4 to (by first | assumption | omega)) dX2_whomToAsk_85 [4, 5, 0, 1, 2, 3, 6] (show List.Perm [4, 5, 0, 1, 2, 3, 6] (List.range 7) from by decide) rfl rfl rfl rfl (Nat.le_of_ble_eq_true rfl) (fun zc1 zr hq hk => ?_)
        obtain ⟨rfl, rfl⟩ := hq
        refine X_if_ne (tgt := 106) dX2_whomToAsk_88 (by decide) (fun c_4 => ?_) (fun c_4 => ?_)
        · have hL12 := hL12.trans (if_neg c_4)
          refine X_iinc (v := nI (k12 + 1)) (j := 2) (lv' := [(6, ex_i (nI (k12 + 1))), (8, ex_i hm), (7, ex_i 0), (5, ex_i s12_1), (4, ex_i s12_0), (0, ex_r hs), (1, ex_r c), (2, ex_r n), (3, ex_i (nI d))]) dX2_whomToAsk_106 rfl (nI_add k12 1) (Nat.le_of_ble_eq_true rfl) rfl ?_
          refine X_goto (tgt := 12) dX2_whomToAsk_109 (by decide) ?_
          try dsimp only at hL12
          refine X_re (cs' := [(hs, ex_o 2 [ex_r h0, ex_i hm, ex_i hia, ex_i hso, ex_r h4]), (h0, ex_a 1 6 to), (h4, ex_a 1 6 sw), (n, ex_o 8 [ex_i dy, ex_i sr, ex_i il, ex_r nf, ex_r na, ex_r nh]), (nf, ex_a 1 6 fu), (c, ex_o 0 [ex_r c0, ex_r c1, ex_r c2, ex_r c3, ex_r c4, ex_r c5, ex_r c6, ex_r c7, ex_r c8, ex_r c9, ex_r c10, ex_r c11, ex_r c12, ex_i (nI np), ex_i (nI nd), ex_i sto, ex_i res, ex_r c17, ex_r c18, ex_r c19]), (c18, ex_a 1 30 ga)]) [0, 1, 6, 2, 3, 4, 5] (show List.Perm [0, 1, 6, 2, 3, 4, 5] (List.range 7) from by decide) rfl ?_
          refine X_lv (lv' := [(6, ex_i (nI (k12 + 1))), (5, ex_i s12_1), (4, ex_i s12_0), (0, ex_r hs), (1, ex_r c), (2, ex_r n), (3, ex_i (nI d))]) [0, 3, 4, 5, 6, 7, 8] rfl ?_
          exact ihc12 (k12 + 1) s12_0 s12_1 ⟨hL12, (show (k12 + 1) ≤ np by omega)⟩ (show np - (k12 + 1) < np - k12 by omega)
        · have hL12 := hL12.trans (if_pos c_4)
          refine X_iload (j := 0) dX2_whomToAsk_91 rfl ?_
          refine X_iload (j := 3) dX2_whomToAsk_93 rfl ?_
          refine X_icmp_ge (tgt := 106) dX2_whomToAsk_95 (by decide) (fun c_5 => ?_) (fun c_5 => ?_)
          · have hL12 := hL12.trans (if_pos c_5)
            refine X_iinc (v := nI (k12 + 1)) (j := 2) (lv' := [(6, ex_i (nI (k12 + 1))), (8, ex_i hm), (7, ex_i 0), (5, ex_i s12_1), (4, ex_i s12_0), (0, ex_r hs), (1, ex_r c), (2, ex_r n), (3, ex_i (nI d))]) dX2_whomToAsk_106 rfl (nI_add k12 1) (Nat.le_of_ble_eq_true rfl) rfl ?_
            refine X_goto (tgt := 12) dX2_whomToAsk_109 (by decide) ?_
            try dsimp only at hL12
            refine X_re (cs' := [(hs, ex_o 2 [ex_r h0, ex_i hm, ex_i hia, ex_i hso, ex_r h4]), (h0, ex_a 1 6 to), (h4, ex_a 1 6 sw), (n, ex_o 8 [ex_i dy, ex_i sr, ex_i il, ex_r nf, ex_r na, ex_r nh]), (nf, ex_a 1 6 fu), (c, ex_o 0 [ex_r c0, ex_r c1, ex_r c2, ex_r c3, ex_r c4, ex_r c5, ex_r c6, ex_r c7, ex_r c8, ex_r c9, ex_r c10, ex_r c11, ex_r c12, ex_i (nI np), ex_i (nI nd), ex_i sto, ex_i res, ex_r c17, ex_r c18, ex_r c19]), (c18, ex_a 1 30 ga)]) [0, 1, 6, 2, 3, 4, 5] (show List.Perm [0, 1, 6, 2, 3, 4, 5] (List.range 7) from by decide) rfl ?_
            refine X_lv (lv' := [(6, ex_i (nI (k12 + 1))), (5, ex_i s12_1), (4, ex_i s12_0), (0, ex_r hs), (1, ex_r c), (2, ex_r n), (3, ex_i (nI d))]) [0, 3, 4, 5, 6, 7, 8] rfl ?_
            exact ihc12 (k12 + 1) s12_0 s12_1 ⟨hL12, (show (k12 + 1) ≤ np by omega)⟩ (show np - (k12 + 1) < np - k12 by omega)
          · have hL12 := hL12.trans (if_neg c_5)
            refine X_iload (j := 0) dX2_whomToAsk_98 rfl ?_
            refine X_istore (lv' := [(5, ex_i hm), (8, ex_i hm), (7, ex_i 0), (6, ex_i (nI k12)), (4, ex_i s12_0), (0, ex_r hs), (1, ex_r c), (2, ex_r n), (3, ex_i (nI d))]) dX2_whomToAsk_100 (Nat.le_of_ble_eq_true rfl) rfl ?_
            refine X_iload (j := 3) dX2_whomToAsk_102 rfl ?_
            refine X_istore (lv' := [(4, ex_i (nI k12)), (5, ex_i hm), (8, ex_i hm), (7, ex_i 0), (6, ex_i (nI k12)), (0, ex_r hs), (1, ex_r c), (2, ex_r n), (3, ex_i (nI d))]) dX2_whomToAsk_104 (Nat.le_of_ble_eq_true rfl) rfl ?_
            refine X_iinc (v := nI (k12 + 1)) (j := 4) (lv' := [(6, ex_i (nI (k12 + 1))), (4, ex_i (nI k12)), (5, ex_i hm), (8, ex_i hm), (7, ex_i 0), (0, ex_r hs), (1, ex_r c), (2, ex_r n), (3, ex_i (nI d))]) dX2_whomToAsk_106 rfl (nI_add k12 1) (Nat.le_of_ble_eq_true rfl) rfl ?_
            refine X_goto (tgt := 12) dX2_whomToAsk_109 (by decide) ?_
            try dsimp only at hL12
            refine X_re (cs' := [(hs, ex_o 2 [ex_r h0, ex_i hm, ex_i hia, ex_i hso, ex_r h4]), (h0, ex_a 1 6 to), (h4, ex_a 1 6 sw), (n, ex_o 8 [ex_i dy, ex_i sr, ex_i il, ex_r nf, ex_r na, ex_r nh]), (nf, ex_a 1 6 fu), (c, ex_o 0 [ex_r c0, ex_r c1, ex_r c2, ex_r c3, ex_r c4, ex_r c5, ex_r c6, ex_r c7, ex_r c8, ex_r c9, ex_r c10, ex_r c11, ex_r c12, ex_i (nI np), ex_i (nI nd), ex_i sto, ex_i res, ex_r c17, ex_r c18, ex_r c19]), (c18, ex_a 1 30 ga)]) [0, 1, 6, 2, 3, 4, 5] (show List.Perm [0, 1, 6, 2, 3, 4, 5] (List.range 7) from by decide) rfl ?_
            refine X_lv (lv' := [(6, ex_i (nI (k12 + 1))), (5, ex_i hm), (4, ex_i (nI k12)), (0, ex_r hs), (1, ex_r c), (2, ex_r n), (3, ex_i (nI d))]) [0, 2, 1, 5, 6, 7, 8] rfl ?_
            exact ihc12 (k12 + 1) (nI k12) hm ⟨hL12, (show (k12 + 1) ≤ np by omega)⟩ (show np - (k12 + 1) < np - k12 by omega)
      · have hL12 := hL12.trans (if_neg c_3)
        refine X_iconst (v := 1) dX2_whomToAsk_39 (by decide) ?_
        refine X_goto (tgt := 44) dX2_whomToAsk_40 (by decide) ?_
        refine X_istore (lv' := [(7, ex_i 1), (6, ex_i (nI k12)), (5, ex_i s12_1), (4, ex_i s12_0), (0, ex_r hs), (1, ex_r c), (2, ex_r n), (3, ex_i (nI d))]) dX2_whomToAsk_44 (Nat.le_of_ble_eq_true rfl) rfl ?_
        refine X_iload (j := 0) dX2_whomToAsk_46 rfl ?_
        refine X_if_eq (tgt := 76) dX2_whomToAsk_48 (by decide) (fun c_ => absurd c_ (by decide)) (fun _ => ?_)
        refine X_aload_n (j := 4) dX2_whomToAsk_51 rfl rfl ?_
        refine X_get (j := 4) fo_X2_25 dX2_whomToAsk_52 rfl rfl ?_
        refine X_iload (j := 1) dX2_whomToAsk_55 rfl ?_
        refine X_iald (j := 6) (v := (sw k12)) dX2_whomToAsk_57 rfl (vp_in_nI (show k12 < 6 by omega) (by decide)) (by rw [nI_clamp (by omega)]) ?_
        refine X_aload_n (j := 4) dX2_whomToAsk_58 rfl rfl ?_
        refine X_get (j := 4) fo_X2_15 dX2_whomToAsk_59 rfl rfl ?_
        refine X_aload_n (j := 4) dX2_whomToAsk_62 rfl rfl ?_
        refine X_get (j := 4) fo_X2_25 dX2_whomToAsk_63 rfl rfl ?_
        refine X_iload (j := 1) dX2_whomToAsk_66 rfl ?_
        refine X_iald (j := 6) (v := (sw k12)) dX2_whomToAsk_68 rfl (vp_in_nI (show k12 < 6 by omega) (by decide)) (by rw [nI_clamp (by omega)]) ?_
        refine X_isub (v := (hm - (sw k12))) dX2_whomToAsk_69 rfl ?_
        refine X_mmax (v := (if (sw k12) < (hm - (sw k12)) then (hm - (sw k12)) else (sw k12))) k_1122 k_561 k_17 k_562 ⟨(Nat.le_of_ble_eq_true rfl), (Nat.le_of_ble_eq_true rfl)⟩ (Nat.le_of_ble_eq_true rfl) dX2_whomToAsk_70 rfl ?_
        refine X_goto (tgt := 80) dX2_whomToAsk_73 (by decide) ?_
        refine X_istore (lv' := [(8, ex_i (if (sw k12) < (hm - (sw k12)) then (hm - (sw k12)) else (sw k12))), (7, ex_i 1), (6, ex_i (nI k12)), (5, ex_i s12_1), (4, ex_i s12_0), (0, ex_r hs), (1, ex_r c), (2, ex_r n), (3, ex_i (nI d))]) dX2_whomToAsk_80 (Nat.le_of_ble_eq_true rfl) rfl ?_
        refine X_aload_n (j := 5) dX2_whomToAsk_82 rfl rfl ?_
        refine X_iload (j := 2) dX2_whomToAsk_83 rfl ?_
        refine X_callV (j0 := 0) (rest := [(n, ex_o 8 [ex_i dy, ex_i sr, ex_i il, ex_r nf, ex_r na, ex_r nh]), (nf, ex_a 1 6 fu), (c, ex_o 0 [ex_r c0, ex_r c1, ex_r c2, ex_r c3, ex_r c4, ex_r c5, ex_r c6, ex_r c7, ex_r c8, ex_r c9, ex_r c10, ex_r c11, ex_r c12, ex_i (nI np), ex_i (nI nd), ex_i sto, ex_i res, ex_r c17, ex_r c18, ex_r c19]), (c18, ex_a 1 30 ga), (h4, ex_a 1 6 sw)]) (stk := []) co_X2_34 rfl ⟨(Nat.le_of_ble_eq_true rfl), (Nat.le_of_ble_eq_true rfl)⟩ (e_X2_isTold l hs k12 h0 hm hia hso h4 to (by first | assumption | omega)) dX2_whomToAsk_85 [4, 5, 0, 1, 2, 3, 6] (show List.Perm [4, 5, 0, 1, 2, 3, 6] (List.range 7) from by decide) rfl rfl rfl rfl (Nat.le_of_ble_eq_true rfl) (fun zc1 zr hq hk => ?_)
        obtain ⟨rfl, rfl⟩ := hq
        refine X_if_ne (tgt := 106) dX2_whomToAsk_88 (by decide) (fun c_6 => ?_) (fun c_6 => ?_)
        · have hL12 := hL12.trans (if_neg c_6)
          refine X_iinc (v := nI (k12 + 1)) (j := 2) (lv' := [(6, ex_i (nI (k12 + 1))), (8, ex_i (if (sw k12) < (hm - (sw k12)) then (hm - (sw k12)) else (sw k12))), (7, ex_i 1), (5, ex_i s12_1), (4, ex_i s12_0), (0, ex_r hs), (1, ex_r c), (2, ex_r n), (3, ex_i (nI d))]) dX2_whomToAsk_106 rfl (nI_add k12 1) (Nat.le_of_ble_eq_true rfl) rfl ?_
          refine X_goto (tgt := 12) dX2_whomToAsk_109 (by decide) ?_
          try dsimp only at hL12
          refine X_re (cs' := [(hs, ex_o 2 [ex_r h0, ex_i hm, ex_i hia, ex_i hso, ex_r h4]), (h0, ex_a 1 6 to), (h4, ex_a 1 6 sw), (n, ex_o 8 [ex_i dy, ex_i sr, ex_i il, ex_r nf, ex_r na, ex_r nh]), (nf, ex_a 1 6 fu), (c, ex_o 0 [ex_r c0, ex_r c1, ex_r c2, ex_r c3, ex_r c4, ex_r c5, ex_r c6, ex_r c7, ex_r c8, ex_r c9, ex_r c10, ex_r c11, ex_r c12, ex_i (nI np), ex_i (nI nd), ex_i sto, ex_i res, ex_r c17, ex_r c18, ex_r c19]), (c18, ex_a 1 30 ga)]) [0, 1, 6, 2, 3, 4, 5] (show List.Perm [0, 1, 6, 2, 3, 4, 5] (List.range 7) from by decide) rfl ?_
          refine X_lv (lv' := [(6, ex_i (nI (k12 + 1))), (5, ex_i s12_1), (4, ex_i s12_0), (0, ex_r hs), (1, ex_r c), (2, ex_r n), (3, ex_i (nI d))]) [0, 3, 4, 5, 6, 7, 8] rfl ?_
          exact ihc12 (k12 + 1) s12_0 s12_1 ⟨hL12, (show (k12 + 1) ≤ np by omega)⟩ (show np - (k12 + 1) < np - k12 by omega)
        · have hL12 := hL12.trans (if_pos c_6)
          refine X_iload (j := 0) dX2_whomToAsk_91 rfl ?_
          refine X_iload (j := 3) dX2_whomToAsk_93 rfl ?_
          refine X_icmp_ge (tgt := 106) dX2_whomToAsk_95 (by decide) (fun c_7 => ?_) (fun c_7 => ?_)
          · have hL12 := hL12.trans (if_pos c_7)
            refine X_iinc (v := nI (k12 + 1)) (j := 2) (lv' := [(6, ex_i (nI (k12 + 1))), (8, ex_i (if (sw k12) < (hm - (sw k12)) then (hm - (sw k12)) else (sw k12))), (7, ex_i 1), (5, ex_i s12_1), (4, ex_i s12_0), (0, ex_r hs), (1, ex_r c), (2, ex_r n), (3, ex_i (nI d))]) dX2_whomToAsk_106 rfl (nI_add k12 1) (Nat.le_of_ble_eq_true rfl) rfl ?_
            refine X_goto (tgt := 12) dX2_whomToAsk_109 (by decide) ?_
            try dsimp only at hL12
            refine X_re (cs' := [(hs, ex_o 2 [ex_r h0, ex_i hm, ex_i hia, ex_i hso, ex_r h4]), (h0, ex_a 1 6 to), (h4, ex_a 1 6 sw), (n, ex_o 8 [ex_i dy, ex_i sr, ex_i il, ex_r nf, ex_r na, ex_r nh]), (nf, ex_a 1 6 fu), (c, ex_o 0 [ex_r c0, ex_r c1, ex_r c2, ex_r c3, ex_r c4, ex_r c5, ex_r c6, ex_r c7, ex_r c8, ex_r c9, ex_r c10, ex_r c11, ex_r c12, ex_i (nI np), ex_i (nI nd), ex_i sto, ex_i res, ex_r c17, ex_r c18, ex_r c19]), (c18, ex_a 1 30 ga)]) [0, 1, 6, 2, 3, 4, 5] (show List.Perm [0, 1, 6, 2, 3, 4, 5] (List.range 7) from by decide) rfl ?_
            refine X_lv (lv' := [(6, ex_i (nI (k12 + 1))), (5, ex_i s12_1), (4, ex_i s12_0), (0, ex_r hs), (1, ex_r c), (2, ex_r n), (3, ex_i (nI d))]) [0, 3, 4, 5, 6, 7, 8] rfl ?_
            exact ihc12 (k12 + 1) s12_0 s12_1 ⟨hL12, (show (k12 + 1) ≤ np by omega)⟩ (show np - (k12 + 1) < np - k12 by omega)
          · have hL12 := hL12.trans (if_neg c_7)
            refine X_iload (j := 0) dX2_whomToAsk_98 rfl ?_
            refine X_istore (lv' := [(5, ex_i (if (sw k12) < (hm - (sw k12)) then (hm - (sw k12)) else (sw k12))), (8, ex_i (if (sw k12) < (hm - (sw k12)) then (hm - (sw k12)) else (sw k12))), (7, ex_i 1), (6, ex_i (nI k12)), (4, ex_i s12_0), (0, ex_r hs), (1, ex_r c), (2, ex_r n), (3, ex_i (nI d))]) dX2_whomToAsk_100 (Nat.le_of_ble_eq_true rfl) rfl ?_
            refine X_iload (j := 3) dX2_whomToAsk_102 rfl ?_
            refine X_istore (lv' := [(4, ex_i (nI k12)), (5, ex_i (if (sw k12) < (hm - (sw k12)) then (hm - (sw k12)) else (sw k12))), (8, ex_i (if (sw k12) < (hm - (sw k12)) then (hm - (sw k12)) else (sw k12))), (7, ex_i 1), (6, ex_i (nI k12)), (0, ex_r hs), (1, ex_r c), (2, ex_r n), (3, ex_i (nI d))]) dX2_whomToAsk_104 (Nat.le_of_ble_eq_true rfl) rfl ?_
            refine X_iinc (v := nI (k12 + 1)) (j := 4) (lv' := [(6, ex_i (nI (k12 + 1))), (4, ex_i (nI k12)), (5, ex_i (if (sw k12) < (hm - (sw k12)) then (hm - (sw k12)) else (sw k12))), (8, ex_i (if (sw k12) < (hm - (sw k12)) then (hm - (sw k12)) else (sw k12))), (7, ex_i 1), (0, ex_r hs), (1, ex_r c), (2, ex_r n), (3, ex_i (nI d))]) dX2_whomToAsk_106 rfl (nI_add k12 1) (Nat.le_of_ble_eq_true rfl) rfl ?_
            refine X_goto (tgt := 12) dX2_whomToAsk_109 (by decide) ?_
            try dsimp only at hL12
            refine X_re (cs' := [(hs, ex_o 2 [ex_r h0, ex_i hm, ex_i hia, ex_i hso, ex_r h4]), (h0, ex_a 1 6 to), (h4, ex_a 1 6 sw), (n, ex_o 8 [ex_i dy, ex_i sr, ex_i il, ex_r nf, ex_r na, ex_r nh]), (nf, ex_a 1 6 fu), (c, ex_o 0 [ex_r c0, ex_r c1, ex_r c2, ex_r c3, ex_r c4, ex_r c5, ex_r c6, ex_r c7, ex_r c8, ex_r c9, ex_r c10, ex_r c11, ex_r c12, ex_i (nI np), ex_i (nI nd), ex_i sto, ex_i res, ex_r c17, ex_r c18, ex_r c19]), (c18, ex_a 1 30 ga)]) [0, 1, 6, 2, 3, 4, 5] (show List.Perm [0, 1, 6, 2, 3, 4, 5] (List.range 7) from by decide) rfl ?_
            refine X_lv (lv' := [(6, ex_i (nI (k12 + 1))), (5, ex_i (if (sw k12) < (hm - (sw k12)) then (hm - (sw k12)) else (sw k12))), (4, ex_i (nI k12)), (0, ex_r hs), (1, ex_r c), (2, ex_r n), (3, ex_i (nI d))]) [0, 2, 1, 5, 6, 7, 8] rfl ?_
            exact ihc12 (k12 + 1) (nI k12) (if (sw k12) < (hm - (sw k12)) then (hm - (sw k12)) else (sw k12)) ⟨hL12, (show (k12 + 1) ≤ np by omega)⟩ (show np - (k12 + 1) < np - k12 by omega)
  refine X_iload (j := 1) dX2_whomToAsk_112 rfl ?_
  try dsimp only at hV
  exact X_iret ex_nI rfl dX2_whomToAsk_114 (by (repeat refine ex_kc ?_) <;> rfl) (by subst hV; exact ⟨rfl, rfl⟩)
