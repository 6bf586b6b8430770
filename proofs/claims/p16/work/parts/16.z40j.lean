def F_X6_worthBy_L6 (sx : Nat) (d : Nat) (e : Nat) (gf : Nat → Int32) : Nat → Nat → Int32 → Int32
  | 0, k6, s6_0 => s6_0
  | zn + 1, k6, s6_0 => (if (((nI sx) >>> ((nI k6) &&& 31)) &&& 1) = 1 then F_X6_worthBy_L6 sx d e gf zn (k6 + 1) (s6_0 + (F_X0_gift e d 1 k6 gf)) else F_X6_worthBy_L6 sx d e gf zn (k6 + 1) s6_0)
theorem F_X6_worthBy_L6_z (sx : Nat) (d : Nat) (e : Nat) (gf : Nat → Int32) (k6 : Nat) (s6_0 : Int32) : F_X6_worthBy_L6 sx d e gf 0 k6 s6_0 = s6_0 := rfl
theorem F_X6_worthBy_L6_s (sx : Nat) (d : Nat) (e : Nat) (gf : Nat → Int32) (k6 : Nat) (s6_0 : Int32) (zn : Nat) : F_X6_worthBy_L6 sx d e gf (zn + 1) k6 s6_0 = (if (((nI sx) >>> ((nI k6) &&& 31)) &&& 1) = 1 then F_X6_worthBy_L6 sx d e gf zn (k6 + 1) (s6_0 + (F_X0_gift e d 1 k6 gf)) else F_X6_worthBy_L6 sx d e gf zn (k6 + 1) s6_0) := rfl
def F_X6_worthBy (sx : Nat) (d : Nat) (e : Nat) (np : Nat) (gf : Nat → Int32) : Int32 := ((fun (v_1 : Int32) => v_1) (F_X6_worthBy_L6 sx d e gf (np - 0) 0 0))
set_option maxHeartbeats 4000000 in
set_option maxRecDepth 100000 in
theorem e_X6_worthBy (l : Launch) (c : Nat) (sx : Nat) (d : Nat) (e : Nat) (c0 : Nat) (c1 : Nat) (c2 : Nat) (c3 : Nat) (c4 : Nat) (c5 : Nat) (c6 : Nat) (c7 : Nat) (c8 : Nat) (c9 : Nat) (c10 : Nat) (c11 : Nat) (c12 : Nat) (np : Nat) (nd : Nat) (sto : Int32) (res : Int32) (c17 : Nat) (c18 : Nat) (c19 : Nat) (gf : Nat → Int32) (hd : d < 5) (he : e < 6) (hnp : np ≤ 6) : ex_M l yX6_worthBy cX6_worthBy 6 (some .int) 2 46 [ex_r c, ex_i (nI sx), ex_i (nI d), ex_i (nI e)] [(c, ex_o 0 [ex_r c0, ex_r c1, ex_r c2, ex_r c3, ex_r c4, ex_r c5, ex_r c6, ex_r c7, ex_r c8, ex_r c9, ex_r c10, ex_r c11, ex_r c12, ex_i (nI np), ex_i (nI nd), ex_i sto, ex_i res, ex_r c17, ex_r c18, ex_r c19]), (c17, ex_a 1 360 gf)] (fun zcs zr => zcs = [(c, ex_o 0 [ex_r c0, ex_r c1, ex_r c2, ex_r c3, ex_r c4, ex_r c5, ex_r c6, ex_r c7, ex_r c8, ex_r c9, ex_r c10, ex_r c11, ex_r c12, ex_i (nI np), ex_i (nI nd), ex_i sto, ex_i res, ex_r c17, ex_r c18, ex_r c19]), (c17, ex_a 1 360 gf)] ∧ zr = some (ex_i (F_X6_worthBy sx d e np gf))) := by
  refine X_meth (by decide) (Nat.le_of_ble_eq_true rfl) ?_
  generalize hV : F_X6_worthBy sx d e np gf = V0
  have hV := hV.symm
  unfold F_X6_worthBy at hV
  try dsimp only at hV
  refine X_iconst (v := 0) dX6_worthBy_0 (by decide) ?_
  refine X_istore (lv' := [(4, ex_i 0), (0, ex_r c), (1, ex_i (nI sx)), (2, ex_i (nI d)), (3, ex_i (nI e))]) dX6_worthBy_1 (Nat.le_of_ble_eq_true rfl) rfl ?_
  refine X_iconst (v := 0) dX6_worthBy_3 (by decide) ?_
  refine X_istore (lv' := [(5, ex_i 0), (4, ex_i 0), (0, ex_r c), (1, ex_i (nI sx)), (2, ex_i (nI d)), (3, ex_i (nI e))]) dX6_worthBy_4 (Nat.le_of_ble_eq_true rfl) rfl ?_
  -- loop at 6
  try dsimp only at hV
  generalize hq_v_1 : F_X6_worthBy_L6 sx d e gf (np - 0) 0 0 = v_1 at hV
  try dsimp only at hV
  refine X_cut (P := True) (csE := [(c, ex_o 0 [ex_r c0, ex_r c1, ex_r c2, ex_r c3, ex_r c4, ex_r c5, ex_r c6, ex_r c7, ex_r c8, ex_r c9, ex_r c10, ex_r c11, ex_r c12, ex_i (nI np), ex_i (nI nd), ex_i sto, ex_i res, ex_r c17, ex_r c18, ex_r c19]), (c17, ex_a 1 360 gf)]) (lvE := [(4, ex_i v_1), (0, ex_r c), (1, ex_i (nI sx)), (2, ex_i (nI d)), (3, ex_i (nI e))]) (E := 45) (fun hrest6 => ?_) (fun hPX6 => ?_)
  · have hL6 := hq_v_1.symm
    refine X_ind (fun (a6 : Nat × Int32) => v_1 = F_X6_worthBy_L6 sx d e gf (np - a6.1) a6.1 a6.2 ∧ a6.1 ≤ np) (fun (a6 : Nat × Int32) => np - a6.1) (fun (a6 : Nat × Int32) => [(c, ex_o 0 [ex_r c0, ex_r c1, ex_r c2, ex_r c3, ex_r c4, ex_r c5, ex_r c6, ex_r c7, ex_r c8, ex_r c9, ex_r c10, ex_r c11, ex_r c12, ex_i (nI np), ex_i (nI nd), ex_i sto, ex_i res, ex_r c17, ex_r c18, ex_r c19]), (c17, ex_a 1 360 gf)]) (fun (a6 : Nat × Int32) => [(5, ex_i (nI a6.1)), (4, ex_i a6.2), (0, ex_r c), (1, ex_i (nI sx)), (2, ex_i (nI d)), (3, ex_i (nI e))]) (fun ⟨k6, s6_0⟩ hI6 ih6 => ?_) (0, 0) ⟨hL6, (by omega)⟩
    try dsimp only at hI6 ih6 ⊢
    have ihc6 : ∀ (k6_ : Nat) (s6_0_ : Int32), (v_1 = F_X6_worthBy_L6 sx d e gf (np - k6_) k6_ s6_0_ ∧ k6_ ≤ np) → (np - k6_) < (np - k6) → ex_O _ _ _ _ _ _ _ _ _ [(c, ex_o 0 [ex_r c0, ex_r c1, ex_r c2, ex_r c3, ex_r c4, ex_r c5, ex_r c6, ex_r c7, ex_r c8, ex_r c9, ex_r c10, ex_r c11, ex_r c12, ex_i (nI np), ex_i (nI nd), ex_i sto, ex_i res, ex_r c17, ex_r c18, ex_r c19]), (c17, ex_a 1 360 gf)] [(5, ex_i (nI k6_)), (4, ex_i s6_0_), (0, ex_r c), (1, ex_i (nI sx)), (2, ex_i (nI d)), (3, ex_i (nI e))] _ _ := fun k6_ s6_0_ hi_ hm_ => ih6 (k6_, s6_0_) hi_ hm_
    have hL6 := hI6.1
    have hb6 := hI6.2
    refine X_iload (j := 0) dX6_worthBy_6 rfl ?_
    refine X_aload_n (j := 2) dX6_worthBy_8 rfl rfl ?_
    refine X_get (j := 0) fo_X6_34 dX6_worthBy_9 rfl rfl ?_
    refine X_icmp_ge (tgt := 45) dX6_worthBy_12 (by decide) (fun c_2 => ?_) (fun c_2 => ?_)
    · have hlt6 : k6 = np := nlex (L := np) (by omega) hb6 c_2
      rw [show np - k6 = 0 by omega] at hL6
      have hL6 := hL6.trans (F_X6_worthBy_L6_z ..)
      try dsimp only at hL6
      refine X_lv (lv' := [(4, ex_i s6_0), (0, ex_r c), (1, ex_i (nI sx)), (2, ex_i (nI d)), (3, ex_i (nI e))]) [1, 2, 3, 4, 5] rfl ?_
      refine X_eq (cs' := [(c, ex_o 0 [ex_r c0, ex_r c1, ex_r c2, ex_r c3, ex_r c4, ex_r c5, ex_r c6, ex_r c7, ex_r c8, ex_r c9, ex_r c10, ex_r c11, ex_r c12, ex_i (nI np), ex_i (nI nd), ex_i sto, ex_i res, ex_r c17, ex_r c18, ex_r c19]), (c17, ex_a 1 360 gf)]) (lv' := [(4, ex_i v_1), (0, ex_r c), (1, ex_i (nI sx)), (2, ex_i (nI d)), (3, ex_i (nI e))]) (by subst hL6; rfl) (by subst hL6; rfl) ?_
      exact hrest6 trivial
    · have hlt6 : k6 < np := nlen (L := np) (by omega) hb6 c_2
      rw [show np - k6 = (np - (k6 + 1)) + 1 by omega] at hL6
      have hL6 := hL6.trans (F_X6_worthBy_L6_s ..)
      refine X_iload_n (j := 3) dX6_worthBy_15 rfl rfl ?_
      refine X_iload (j := 0) dX6_worthBy_16 rfl ?_
      refine X_ishr (v := ((nI sx) >>> ((nI k6) &&& 31))) dX6_worthBy_18 rfl ?_
      refine X_iconst (v := 1) dX6_worthBy_19 (by decide) ?_
      refine X_iand (v := (((nI sx) >>> ((nI k6) &&& 31)) &&& 1)) dX6_worthBy_20 rfl ?_
      refine X_iconst (v := 1) dX6_worthBy_21 (by decide) ?_
      refine X_icmp_ne (tgt := 39) dX6_worthBy_22 (by decide) (fun c_3 => ?_) (fun c_3 => ?_)
      · have hL6 := hL6.trans (if_neg c_3)
        refine X_iinc (v := nI (k6 + 1)) (j := 0) (lv' := [(5, ex_i (nI (k6 + 1))), (4, ex_i s6_0), (0, ex_r c), (1, ex_i (nI sx)), (2, ex_i (nI d)), (3, ex_i (nI e))]) dX6_worthBy_39 rfl (nI_add k6 1) (Nat.le_of_ble_eq_true rfl) rfl ?_
        refine X_goto (tgt := 6) dX6_worthBy_42 (by decide) ?_
        try dsimp only at hL6
        exact ihc6 (k6 + 1) s6_0 ⟨hL6, (show (k6 + 1) ≤ np by omega)⟩ (show np - (k6 + 1) < np - k6 by omega)
      · have hL6 := hL6.trans (if_pos c_3)
        refine X_iload (j := 1) dX6_worthBy_25 rfl ?_
        refine X_aload_n (j := 2) dX6_worthBy_27 rfl rfl ?_
        refine X_iload_n (j := 5) dX6_worthBy_28 rfl rfl ?_
        refine X_iload_n (j := 4) dX6_worthBy_29 rfl rfl ?_
        refine X_iconst (v := 1) dX6_worthBy_30 (by decide) ?_
        refine X_iload (j := 0) dX6_worthBy_31 rfl ?_
        refine X_callV (j0 := 0) (rest := []) (stk := [ex_i s6_0]) co_X6_61 rfl ⟨(Nat.le_of_ble_eq_true rfl), (Nat.le_of_ble_eq_true rfl)⟩ (e_X0_gift l c e d 1 k6 c0 c1 c2 c3 c4 c5 c6 c7 c8 c9 c10 c11 c12 np nd sto res c17 c18 c19 gf (by first | assumption | omega) (by first | assumption | omega) (by first | assumption | omega)) dX6_worthBy_33 [0, 1] (show List.Perm [0, 1] (List.range 2) from by decide) rfl rfl rfl rfl (Nat.le_of_ble_eq_true rfl) (fun zc1 zr hq hk => ?_)
        obtain ⟨rfl, rfl⟩ := hq
        refine X_iadd (v := (s6_0 + (F_X0_gift e d 1 k6 gf))) dX6_worthBy_36 rfl ?_
        refine X_istore (lv' := [(4, ex_i (s6_0 + (F_X0_gift e d 1 k6 gf))), (5, ex_i (nI k6)), (0, ex_r c), (1, ex_i (nI sx)), (2, ex_i (nI d)), (3, ex_i (nI e))]) dX6_worthBy_37 (Nat.le_of_ble_eq_true rfl) rfl ?_
        refine X_iinc (v := nI (k6 + 1)) (j := 1) (lv' := [(5, ex_i (nI (k6 + 1))), (4, ex_i (s6_0 + (F_X0_gift e d 1 k6 gf))), (0, ex_r c), (1, ex_i (nI sx)), (2, ex_i (nI d)), (3, ex_i (nI e))]) dX6_worthBy_39 rfl (nI_add k6 1) (Nat.le_of_ble_eq_true rfl) rfl ?_
        refine X_goto (tgt := 6) dX6_worthBy_42 (by decide) ?_
        try dsimp only at hL6
        exact ihc6 (k6 + 1) (s6_0 + (F_X0_gift e d 1 k6 gf)) ⟨hL6, (show (k6 + 1) ≤ np by omega)⟩ (show np - (k6 + 1) < np - k6 by omega)
  refine X_iload (j := 0) dX6_worthBy_45 rfl ?_
  try dsimp only at hV
  exact X_iret ex_nI rfl dX6_worthBy_47 (by (repeat refine ex_kc ?_) <;> rfl) (by subst hV; exact ⟨rfl, rfl⟩)

def F_X6_worthOf_L5 (sx : Nat) (d : Nat) (np : Nat) (gf : Nat → Int32) : Nat → Nat → Int32 → Int32
  | 0, k5, s5_0 => s5_0
  | zn + 1, k5, s5_0 => (if (((nI sx) >>> ((nI k5) &&& 31)) &&& 1) = 1 then F_X6_worthOf_L5 sx d np gf zn (k5 + 1) (if s5_0 < (F_X6_worthBy sx d k5 np gf) then (F_X6_worthBy sx d k5 np gf) else s5_0) else F_X6_worthOf_L5 sx d np gf zn (k5 + 1) s5_0)
theorem F_X6_worthOf_L5_z (sx : Nat) (d : Nat) (np : Nat) (gf : Nat → Int32) (k5 : Nat) (s5_0 : Int32) : F_X6_worthOf_L5 sx d np gf 0 k5 s5_0 = s5_0 := rfl
theorem F_X6_worthOf_L5_s (sx : Nat) (d : Nat) (np : Nat) (gf : Nat → Int32) (k5 : Nat) (s5_0 : Int32) (zn : Nat) : F_X6_worthOf_L5 sx d np gf (zn + 1) k5 s5_0 = (if (((nI sx) >>> ((nI k5) &&& 31)) &&& 1) = 1 then F_X6_worthOf_L5 sx d np gf zn (k5 + 1) (if s5_0 < (F_X6_worthBy sx d k5 np gf) then (F_X6_worthBy sx d k5 np gf) else s5_0) else F_X6_worthOf_L5 sx d np gf zn (k5 + 1) s5_0) := rfl
def F_X6_worthOf (sx : Nat) (d : Nat) (np : Nat) (gf : Nat → Int32) : Int32 := ((fun (v_1 : Int32) => v_1) (F_X6_worthOf_L5 sx d np gf (np - 0) 0 0))
set_option maxHeartbeats 4000000 in
set_option maxRecDepth 100000 in
theorem e_X6_worthOf (l : Launch) (c : Nat) (sx : Nat) (d : Nat) (c0 : Nat) (c1 : Nat) (c2 : Nat) (c3 : Nat) (c4 : Nat) (c5 : Nat) (c6 : Nat) (c7 : Nat) (c8 : Nat) (c9 : Nat) (c10 : Nat) (c11 : Nat) (c12 : Nat) (np : Nat) (nd : Nat) (sto : Int32) (res : Int32) (c17 : Nat) (c18 : Nat) (c19 : Nat) (gf : Nat → Int32) (hd : d < 5) (hnp : np ≤ 6) : ex_M l yX6_worthOf cX6_worthOf 5 (some .int) 3 71 [ex_r c, ex_i (nI sx), ex_i (nI d)] [(c, ex_o 0 [ex_r c0, ex_r c1, ex_r c2, ex_r c3, ex_r c4, ex_r c5, ex_r c6, ex_r c7, ex_r c8, ex_r c9, ex_r c10, ex_r c11, ex_r c12, ex_i (nI np), ex_i (nI nd), ex_i sto, ex_i res, ex_r c17, ex_r c18, ex_r c19]), (c17, ex_a 1 360 gf)] (fun zcs zr => zcs = [(c, ex_o 0 [ex_r c0, ex_r c1, ex_r c2, ex_r c3, ex_r c4, ex_r c5, ex_r c6, ex_r c7, ex_r c8, ex_r c9, ex_r c10, ex_r c11, ex_r c12, ex_i (nI np), ex_i (nI nd), ex_i sto, ex_i res, ex_r c17, ex_r c18, ex_r c19]), (c17, ex_a 1 360 gf)] ∧ zr = some (ex_i (F_X6_worthOf sx d np gf))) := by
  refine X_meth (by decide) (Nat.le_of_ble_eq_true rfl) ?_
  generalize hV : F_X6_worthOf sx d np gf = V0
  have hV := hV.symm
  unfold F_X6_worthOf at hV
  try dsimp only at hV
  refine X_iconst (v := 0) dX6_worthOf_0 (by decide) ?_
  refine X_istore_n (lv' := [(3, ex_i 0), (0, ex_r c), (1, ex_i (nI sx)), (2, ex_i (nI d))]) dX6_worthOf_1 rfl (Nat.le_of_ble_eq_true rfl) rfl ?_
  refine X_iconst (v := 0) dX6_worthOf_2 (by decide) ?_
  refine X_istore (lv' := [(4, ex_i 0), (3, ex_i 0), (0, ex_r c), (1, ex_i (nI sx)), (2, ex_i (nI d))]) dX6_worthOf_3 (Nat.le_of_ble_eq_true rfl) rfl ?_
  -- loop at 5
  try dsimp only at hV
  generalize hq_v_1 : F_X6_worthOf_L5 sx d np gf (np - 0) 0 0 = v_1 at hV
  try dsimp only at hV
  refine X_cut (P := True) (csE := [(c, ex_o 0 [ex_r c0, ex_r c1, ex_r c2, ex_r c3, ex_r c4, ex_r c5, ex_r c6, ex_r c7, ex_r c8, ex_r c9, ex_r c10, ex_r c11, ex_r c12, ex_i (nI np), ex_i (nI nd), ex_i sto, ex_i res, ex_r c17, ex_r c18, ex_r c19]), (c17, ex_a 1 360 gf)]) (lvE := [(3, ex_i v_1), (0, ex_r c), (1, ex_i (nI sx)), (2, ex_i (nI d))]) (E := 43) (fun hrest5 => ?_) (fun hPX5 => ?_)
  · have hL5 := hq_v_1.symm
    refine X_ind (fun (a5 : Nat × Int32) => v_1 = F_X6_worthOf_L5 sx d np gf (np - a5.1) a5.1 a5.2 ∧ a5.1 ≤ np) (fun (a5 : Nat × Int32) => np - a5.1) (fun (a5 : Nat × Int32) => [(c, ex_o 0 [ex_r c0, ex_r c1, ex_r c2, ex_r c3, ex_r c4, ex_r c5, ex_r c6, ex_r c7, ex_r c8, ex_r c9, ex_r c10, ex_r c11, ex_r c12, ex_i (nI np), ex_i (nI nd), ex_i sto, ex_i res, ex_r c17, ex_r c18, ex_r c19]), (c17, ex_a 1 360 gf)]) (fun (a5 : Nat × Int32) => [(4, ex_i (nI a5.1)), (3, ex_i a5.2), (0, ex_r c), (1, ex_i (nI sx)), (2, ex_i (nI d))]) (fun ⟨k5, s5_0⟩ hI5 ih5 => ?_) (0, 0) ⟨hL5, (by omega)⟩
    try dsimp only at hI5 ih5 ⊢
    have ihc5 : ∀ (k5_ : Nat) (s5_0_ : Int32), (v_1 = F_X6_worthOf_L5 sx d np gf (np - k5_) k5_ s5_0_ ∧ k5_ ≤ np) → (np - k5_) < (np - k5) → ex_O _ _ _ _ _ _ _ _ _ [(c, ex_o 0 [ex_r c0, ex_r c1, ex_r c2, ex_r c3, ex_r c4, ex_r c5, ex_r c6, ex_r c7, ex_r c8, ex_r c9, ex_r c10, ex_r c11, ex_r c12, ex_i (nI np), ex_i (nI nd), ex_i sto, ex_i res, ex_r c17, ex_r c18, ex_r c19]), (c17, ex_a 1 360 gf)] [(4, ex_i (nI k5_)), (3, ex_i s5_0_), (0, ex_r c), (1, ex_i (nI sx)), (2, ex_i (nI d))] _ _ := fun k5_ s5_0_ hi_ hm_ => ih5 (k5_, s5_0_) hi_ hm_
    have hL5 := hI5.1
    have hb5 := hI5.2
    refine X_iload (j := 0) dX6_worthOf_5 rfl ?_
    refine X_aload_n (j := 2) dX6_worthOf_7 rfl rfl ?_
    refine X_get (j := 0) fo_X6_34 dX6_worthOf_8 rfl rfl ?_
    refine X_icmp_ge (tgt := 43) dX6_worthOf_11 (by decide) (fun c_2 => ?_) (fun c_2 => ?_)
    · have hlt5 : k5 = np := nlex (L := np) (by omega) hb5 c_2
      rw [show np - k5 = 0 by omega] at hL5
      have hL5 := hL5.trans (F_X6_worthOf_L5_z ..)
      try dsimp only at hL5
      refine X_lv (lv' := [(3, ex_i s5_0), (0, ex_r c), (1, ex_i (nI sx)), (2, ex_i (nI d))]) [1, 2, 3, 4] rfl ?_
      refine X_eq (cs' := [(c, ex_o 0 [ex_r c0, ex_r c1, ex_r c2, ex_r c3, ex_r c4, ex_r c5, ex_r c6, ex_r c7, ex_r c8, ex_r c9, ex_r c10, ex_r c11, ex_r c12, ex_i (nI np), ex_i (nI nd), ex_i sto, ex_i res, ex_r c17, ex_r c18, ex_r c19]), (c17, ex_a 1 360 gf)]) (lv' := [(3, ex_i v_1), (0, ex_r c), (1, ex_i (nI sx)), (2, ex_i (nI d))]) (by subst hL5; rfl) (by subst hL5; rfl) ?_
      exact hrest5 trivial
    · have hlt5 : k5 < np := nlen (L := np) (by omega) hb5 c_2
      rw [show np - k5 = (np - (k5 + 1)) + 1 by omega] at hL5
      have hL5 := hL5.trans (F_X6_worthOf_L5_s ..)
      refine X_iload_n (j := 3) dX6_worthOf_14 rfl rfl ?_
      refine X_iload (j := 0) dX6_worthOf_15 rfl ?_
      refine X_ishr (v := ((nI sx) >>> ((nI k5) &&& 31))) dX6_worthOf_17 rfl ?_
      refine X_iconst (v := 1) dX6_worthOf_18 (by decide) ?_
      refine X_iand (v := (((nI sx) >>> ((nI k5) &&& 31)) &&& 1)) dX6_worthOf_19 rfl ?_
      refine X_iconst (v := 1) dX6_worthOf_20 (by decide) ?_
      refine X_icmp_ne (tgt := 37) dX6_worthOf_21 (by decide) (fun c_3 => ?_) (fun c_3 => ?_)
      · have hL5 := hL5.trans (if_neg c_3)
        refine X_iinc (v := nI (k5 + 1)) (j := 0) (lv' := [(4, ex_i (nI (k5 + 1))), (3, ex_i s5_0), (0, ex_r c), (1, ex_i (nI sx)), (2, ex_i (nI d))]) dX6_worthOf_37 rfl (nI_add k5 1) (Nat.le_of_ble_eq_true rfl) rfl ?_
        refine X_goto (tgt := 5) dX6_worthOf_40 (by decide) ?_
        try dsimp only at hL5
        exact ihc5 (k5 + 1) s5_0 ⟨hL5, (show (k5 + 1) ≤ np by omega)⟩ (show np - (k5 + 1) < np - k5 by omega)
      · have hL5 := hL5.trans (if_pos c_3)
        refine X_iload_n (j := 1) dX6_worthOf_24 rfl rfl ?_
        refine X_aload_n (j := 2) dX6_worthOf_25 rfl rfl ?_
        refine X_iload_n (j := 3) dX6_worthOf_26 rfl rfl ?_
        refine X_iload_n (j := 4) dX6_worthOf_27 rfl rfl ?_
        refine X_iload (j := 0) dX6_worthOf_28 rfl ?_
        refine X_callS (rest := []) (stk := [ex_i s5_0]) co_X6_51 rfl ⟨(Nat.le_of_ble_eq_true rfl), (Nat.le_of_ble_eq_true rfl)⟩ (e_X6_worthBy l c sx d k5 c0 c1 c2 c3 c4 c5 c6 c7 c8 c9 c10 c11 c12 np nd sto res c17 c18 c19 gf (by first | assumption | omega) (by first | assumption | omega) (by first | assumption | omega)) dX6_worthOf_30 [0, 1] (show List.Perm [0, 1] (List.range 2) from by decide) rfl rfl rfl (Nat.le_of_ble_eq_true rfl) (fun zc1 zr hq hk => ?_)
        obtain ⟨rfl, rfl⟩ := hq
        refine X_mmax (v := (if s5_0 < (F_X6_worthBy sx d k5 np gf) then (F_X6_worthBy sx d k5 np gf) else s5_0)) k_1069 k_561 k_17 k_562 ⟨(Nat.le_of_ble_eq_true rfl), (Nat.le_of_ble_eq_true rfl)⟩ (Nat.le_of_ble_eq_true rfl) dX6_worthOf_33 rfl ?_
        refine X_istore_n (lv' := [(3, ex_i (if s5_0 < (F_X6_worthBy sx d k5 np gf) then (F_X6_worthBy sx d k5 np gf) else s5_0)), (4, ex_i (nI k5)), (0, ex_r c), (1, ex_i (nI sx)), (2, ex_i (nI d))]) dX6_worthOf_36 rfl (Nat.le_of_ble_eq_true rfl) rfl ?_
        refine X_iinc (v := nI (k5 + 1)) (j := 1) (lv' := [(4, ex_i (nI (k5 + 1))), (3, ex_i (if s5_0 < (F_X6_worthBy sx d k5 np gf) then (F_X6_worthBy sx d k5 np gf) else s5_0)), (0, ex_r c), (1, ex_i (nI sx)), (2, ex_i (nI d))]) dX6_worthOf_37 rfl (nI_add k5 1) (Nat.le_of_ble_eq_true rfl) rfl ?_
        refine X_goto (tgt := 5) dX6_worthOf_40 (by decide) ?_
        try dsimp only at hL5
        exact ihc5 (k5 + 1) (if s5_0 < (F_X6_worthBy sx d k5 np gf) then (F_X6_worthBy sx d k5 np gf) else s5_0) ⟨hL5, (show (k5 + 1) ≤ np by omega)⟩ (show np - (k5 + 1) < np - k5 by omega)
  refine X_iload_n (j := 0) dX6_worthOf_43 rfl rfl ?_
  try dsimp only at hV
  exact X_iret ex_nI rfl dX6_worthOf_44 (by (repeat refine ex_kc ?_) <;> rfl) (by subst hV; exact ⟨rfl, rfl⟩)

def F_X6_keepIfBetter_L4 (ts : Nat → Int32) (wrt : Nat → Int32) : Nat → Nat → Int32 → Int32
  | 0, k4, s4_0 => s4_0
  | zn + 1, k4, s4_0 => F_X6_keepIfBetter_L4 ts wrt zn (k4 + 1) (s4_0 + (wrt (ts k4).toNatClampNeg))
theorem F_X6_keepIfBetter_L4_z (ts : Nat → Int32) (wrt : Nat → Int32) (k4 : Nat) (s4_0 : Int32) : F_X6_keepIfBetter_L4 ts wrt 0 k4 s4_0 = s4_0 := rfl
theorem F_X6_keepIfBetter_L4_s (ts : Nat → Int32) (wrt : Nat → Int32) (k4 : Nat) (s4_0 : Int32) (zn : Nat) : F_X6_keepIfBetter_L4 ts wrt (zn + 1) k4 s4_0 = F_X6_keepIfBetter_L4 ts wrt zn (k4 + 1) (s4_0 + (wrt (ts k4).toNatClampNeg)) := rfl
def F_X6_keepIfBetter (tb : Nat) (pm : Int32) (pb : Nat → Int32) (pr : Nat → Int32) (ts : Nat → Int32) (wrt : Nat → Int32) : Int32 × (Nat → Int32) := ((fun (v_1 : Int32) => (if v_1 ≤ pm then (pm, pb) else (v_1, va_cpy pr pb 0 0 6))) (F_X6_keepIfBetter_L4 ts wrt (tb - 0) 0 0))
set_option maxHeartbeats 4000000 in
set_option maxRecDepth 100000 in
theorem e_X6_keepIfBetter (l : Launch) (pt : Nat) (tb : Nat) (pm : Int32) (p1 : Nat) (p2 : Nat) (p3 : Nat) (p4 : Nat) (ppn : Nat) (pss : Nat) (pb : Nat → Int32) (pr : Nat → Int32) (ts : Nat → Int32) (wrt : Nat → Int32) (htb : tb ≤ 6) (hts : ∀ j, j < 6 → vp_in (ts j) 64) : ex_M l yX6_keepIfBetter cX6_keepIfBetter 4 none 1 40 [ex_r pt, ex_i (nI tb)] [(pt, ex_o 6 [ex_i pm, ex_r p1, ex_r p2, ex_r p3, ex_r p4, ex_i (nI ppn), ex_i (nI pss)]), (p1, ex_a 1 6 pb), (p2, ex_a 1 6 pr), (p3, ex_a 1 6 ts), (p4, ex_a 1 64 wrt)] (fun zcs zr => zcs = [(pt, ex_o 6 [ex_i ((F_X6_keepIfBetter tb pm pb pr ts wrt).1), ex_r p1, ex_r p2, ex_r p3, ex_r p4, ex_i (nI ppn), ex_i (nI pss)]), (p1, ex_a 1 6 ((F_X6_keepIfBetter tb pm pb pr ts wrt).2)), (p2, ex_a 1 6 pr), (p3, ex_a 1 6 ts), (p4, ex_a 1 64 wrt)] ∧ zr = none) := by
  refine X_meth (by decide) (Nat.le_of_ble_eq_true rfl) ?_
  generalize hV : F_X6_keepIfBetter tb pm pb pr ts wrt = V0
  have hV := hV.symm
  unfold F_X6_keepIfBetter at hV
  try dsimp only at hV
  refine X_iconst (v := 0) dX6_keepIfBetter_0 (by decide) ?_
  refine X_istore_n (lv' := [(2, ex_i 0), (0, ex_r pt), (1, ex_i (nI tb))]) dX6_keepIfBetter_1 rfl (Nat.le_of_ble_eq_true rfl) rfl ?_
  refine X_iconst (v := 0) dX6_keepIfBetter_2 (by decide) ?_
  refine X_istore_n (lv' := [(3, ex_i 0), (2, ex_i 0), (0, ex_r pt), (1, ex_i (nI tb))]) dX6_keepIfBetter_3 rfl (Nat.le_of_ble_eq_true rfl) rfl ?_
  -- loop at 4
  try dsimp only at hV
  generalize hq_v_1 : F_X6_keepIfBetter_L4 ts wrt (tb - 0) 0 0 = v_1 at hV
  try dsimp only at hV
  refine X_cut (P := True) (csE := [(pt, ex_o 6 [ex_i pm, ex_r p1, ex_r p2, ex_r p3, ex_r p4, ex_i (nI ppn), ex_i (nI pss)]), (p1, ex_a 1 6 pb), (p2, ex_a 1 6 pr), (p3, ex_a 1 6 ts), (p4, ex_a 1 64 wrt)]) (lvE := [(2, ex_i v_1), (0, ex_r pt), (1, ex_i (nI tb))]) (E := 29) (fun hrest4 => ?_) (fun hPX4 => ?_)
  · have hL4 := hq_v_1.symm
    refine X_ind (fun (a4 : Nat × Int32) => v_1 = F_X6_keepIfBetter_L4 ts wrt (tb - a4.1) a4.1 a4.2 ∧ a4.1 ≤ tb) (fun (a4 : Nat × Int32) => tb - a4.1) (fun (a4 : Nat × Int32) => [(pt, ex_o 6 [ex_i pm, ex_r p1, ex_r p2, ex_r p3, ex_r p4, ex_i (nI ppn), ex_i (nI pss)]), (p1, ex_a 1 6 pb), (p2, ex_a 1 6 pr), (p3, ex_a 1 6 ts), (p4, ex_a 1 64 wrt)]) (fun (a4 : Nat × Int32) => [(3, ex_i (nI a4.1)), (2, ex_i a4.2), (0, ex_r pt), (1, ex_i (nI tb))]) (fun ⟨k4, s4_0⟩ hI4 ih4 => ?_) (0, 0) ⟨hL4, (by omega)⟩
    try dsimp only at hI4 ih4 ⊢
    have ihc4 : ∀ (k4_ : Nat) (s4_0_ : Int32), (v_1 = F_X6_keepIfBetter_L4 ts wrt (tb - k4_) k4_ s4_0_ ∧ k4_ ≤ tb) → (tb - k4_) < (tb - k4) → ex_O _ _ _ _ _ _ _ _ _ [(pt, ex_o 6 [ex_i pm, ex_r p1, ex_r p2, ex_r p3, ex_r p4, ex_i (nI ppn), ex_i (nI pss)]), (p1, ex_a 1 6 pb), (p2, ex_a 1 6 pr), (p3, ex_a 1 6 ts), (p4, ex_a 1 64 wrt)] [(3, ex_i (nI k4_)), (2, ex_i s4_0_), (0, ex_r pt), (1, ex_i (nI tb))] _ _ := fun k4_ s4_0_ hi_ hm_ => ih4 (k4_, s4_0_) hi_ hm_
    have hL4 := hI4.1
    have hb4 := hI4.2
    refine X_iload_n (j := 0) dX6_keepIfBetter_4 rfl rfl ?_
    refine X_iload_n (j := 3) dX6_keepIfBetter_5 rfl rfl ?_
    refine X_icmp_ge (tgt := 29) dX6_keepIfBetter_6 (by decide) (fun c_2 => ?_) (fun c_2 => ?_)
    · have hlt4 : k4 = tb := nlex (L := tb) (by omega) hb4 c_2
      rw [show tb - k4 = 0 by omega] at hL4
      have hL4 := hL4.trans (F_X6_keepIfBetter_L4_z ..)
      try dsimp only at hL4
      refine X_lv (lv' := [(2, ex_i s4_0), (0, ex_r pt), (1, ex_i (nI tb))]) [1, 2, 3] rfl ?_
      refine X_eq (cs' := [(pt, ex_o 6 [ex_i pm, ex_r p1, ex_r p2, ex_r p3, ex_r p4, ex_i (nI ppn), ex_i (nI pss)]), (p1, ex_a 1 6 pb), (p2, ex_a 1 6 pr), (p3, ex_a 1 6 ts), (p4, ex_a 1 64 wrt)]) (lv' := [(2, ex_i v_1), (0, ex_r pt), (1, ex_i (nI tb))]) (by subst hL4; rfl) (by subst hL4; rfl) ?_
      exact hrest4 trivial
    · have hlt4 : k4 < tb := nlen (L := tb) (by omega) hb4 c_2
      rw [show tb - k4 = (tb - (k4 + 1)) + 1 by omega] at hL4
      have hL4 := hL4.trans (F_X6_keepIfBetter_L4_s ..)
      refine X_iload_n (j := 1) dX6_keepIfBetter_9 rfl rfl ?_
      refine X_aload_n (j := 2) dX6_keepIfBetter_10 rfl rfl ?_
      refine X_get (j := 0) fo_X6_25 dX6_keepIfBetter_11 rfl rfl ?_
      refine X_aload_n (j := 2) dX6_keepIfBetter_14 rfl rfl ?_
      refine X_get (j := 0) fo_X6_22 dX6_keepIfBetter_15 rfl rfl ?_
      refine X_iload_n (j := 0) dX6_keepIfBetter_18 rfl rfl ?_
      refine X_iald (j := 3) (v := (ts k4)) dX6_keepIfBetter_19 rfl (vp_in_nI (show k4 < 6 by omega) (by decide)) (by rw [nI_clamp (by omega)]) ?_
      refine X_iald (j := 4) (v := (wrt (ts k4).toNatClampNeg)) dX6_keepIfBetter_20 rfl (hts k4 (by omega)) rfl ?_
      refine X_iadd (v := (s4_0 + (wrt (ts k4).toNatClampNeg))) dX6_keepIfBetter_21 rfl ?_
      refine X_istore_n (lv' := [(2, ex_i (s4_0 + (wrt (ts k4).toNatClampNeg))), (3, ex_i (nI k4)), (0, ex_r pt), (1, ex_i (nI tb))]) dX6_keepIfBetter_22 rfl (Nat.le_of_ble_eq_true rfl) rfl ?_
      refine X_iinc (v := nI (k4 + 1)) (j := 1) (lv' := [(3, ex_i (nI (k4 + 1))), (2, ex_i (s4_0 + (wrt (ts k4).toNatClampNeg))), (0, ex_r pt), (1, ex_i (nI tb))]) dX6_keepIfBetter_23 rfl (nI_add k4 1) (Nat.le_of_ble_eq_true rfl) rfl ?_
      refine X_goto (tgt := 4) dX6_keepIfBetter_26 (by decide) ?_
      try dsimp only at hL4
      exact ihc4 (k4 + 1) (s4_0 + (wrt (ts k4).toNatClampNeg)) ⟨hL4, (show (k4 + 1) ≤ tb by omega)⟩ (show tb - (k4 + 1) < tb - k4 by omega)
  refine X_iload_n (j := 0) dX6_keepIfBetter_29 rfl rfl ?_
  refine X_aload_n (j := 1) dX6_keepIfBetter_30 rfl rfl ?_
  refine X_get (j := 0) fo_X6_9 dX6_keepIfBetter_31 rfl rfl ?_
  refine X_icmp_le (tgt := 57) dX6_keepIfBetter_34 (by decide) (fun c_3 => ?_) (fun c_3 => ?_)
  · have hV := hV.trans (if_pos c_3)
    try dsimp only at hV
    exact X_vret dX6_keepIfBetter_57 (by (repeat refine ex_kc ?_) <;> rfl) (by subst hV; exact ⟨rfl, rfl⟩)
  · have hV := hV.trans (if_neg c_3)
    refine X_aload_n (j := 1) dX6_keepIfBetter_37 rfl rfl ?_
    refine X_iload_n (j := 0) dX6_keepIfBetter_38 rfl rfl ?_
    refine X_put (j := 0) (cs' := [(pt, ex_o 6 [ex_i v_1, ex_r p1, ex_r p2, ex_r p3, ex_r p4, ex_i (nI ppn), ex_i (nI pss)]), (p1, ex_a 1 6 pb), (p2, ex_a 1 6 pr), (p3, ex_a 1 6 ts), (p4, ex_a 1 64 wrt)]) fo_X6_9 (by decide) dX6_keepIfBetter_39 rfl (Nat.le_of_ble_eq_true rfl) trivial rfl ?_
    refine X_aload_n (j := 1) dX6_keepIfBetter_42 rfl rfl ?_
    refine X_get (j := 0) fo_X6_19 dX6_keepIfBetter_43 rfl rfl ?_
    refine X_iconst (v := 0) dX6_keepIfBetter_46 (by decide) ?_
    refine X_aload_n (j := 1) dX6_keepIfBetter_47 rfl rfl ?_
    refine X_get (j := 0) fo_X6_15 dX6_keepIfBetter_48 rfl rfl ?_
    refine X_iconst (v := 0) dX6_keepIfBetter_51 (by decide) ?_
    refine X_bipush (v := 6) dX6_keepIfBetter_52 (by decide) ?_
    refine X_copy (j := 2) (j2 := 1) (cs' := [(pt, ex_o 6 [ex_i v_1, ex_r p1, ex_r p2, ex_r p3, ex_r p4, ex_i (nI ppn), ex_i (nI pss)]), (p1, ex_a 1 6 (va_cpy pr pb 0 0 6)), (p2, ex_a 1 6 pr), (p3, ex_a 1 6 ts), (p4, ex_a 1 64 wrt)]) k_1079 k_961 k_960 k_21 ⟨(Nat.le_of_ble_eq_true rfl), (Nat.le_of_ble_eq_true rfl)⟩ dX6_keepIfBetter_54 rfl rfl (by decide) (by decide) (by decide) (by decide) (by decide) rfl (by decide) ?_
    try dsimp only at hV
    exact X_vret dX6_keepIfBetter_57 (by (repeat refine ex_kc ?_) <;> rfl) (by subst hV; exact ⟨rfl, rfl⟩)

def F_X6_seat_6 (tb : Nat) (pm : Int32) (pb : Nat → Int32) (pr : Nat → Int32) (ts : Nat → Int32) (wrt : Nat → Int32) : Int32 × (Nat → Int32) := ((fun (w_1 : Int32 × (Nat → Int32)) => (w_1.1, w_1.2)) (F_X6_keepIfBetter tb pm pb pr ts wrt))
set_option maxHeartbeats 4000000 in
set_option maxRecDepth 100000 in
theorem e_X6_seat_6 (l : Launch) (pt : Nat) (tb : Nat) (pm : Int32) (p1 : Nat) (p2 : Nat) (p3 : Nat) (p4 : Nat) (ppn : Nat) (pss : Nat) (pb : Nat → Int32) (pr : Nat → Int32) (ts : Nat → Int32) (wrt : Nat → Int32) (hpn : ppn ≤ 6) (htb : tb ≤ 6) (hts : ∀ j, j < 6 → vp_in (ts j) 64) : ex_M l yX6_seat cX6_seat 4 none 2 63 [ex_r pt, ex_i 6, ex_i (nI tb)] [(pt, ex_o 6 [ex_i pm, ex_r p1, ex_r p2, ex_r p3, ex_r p4, ex_i (nI ppn), ex_i (nI pss)]), (p1, ex_a 1 6 pb), (p2, ex_a 1 6 pr), (p3, ex_a 1 6 ts), (p4, ex_a 1 64 wrt)] (fun zcs zr => zcs = [(pt, ex_o 6 [ex_i ((F_X6_seat_6 tb pm pb pr ts wrt).1), ex_r p1, ex_r p2, ex_r p3, ex_r p4, ex_i (nI ppn), ex_i (nI pss)]), (p1, ex_a 1 6 ((F_X6_seat_6 tb pm pb pr ts wrt).2)), (p2, ex_a 1 6 pr), (p3, ex_a 1 6 ts), (p4, ex_a 1 64 wrt)] ∧ zr = none ∧ (∀ j, j < 6 → vp_in (ts j) 64)) := by
  refine X_meth (by decide) (Nat.le_of_ble_eq_true rfl) ?_
  generalize hV : F_X6_seat_6 tb pm pb pr ts wrt = V0
  have hV := hV.symm
  unfold F_X6_seat_6 at hV
  try dsimp only at hV
  refine X_iload_n (j := 1) dX6_seat_0 rfl rfl ?_
  refine X_aload_n (j := 0) dX6_seat_1 rfl rfl ?_
  refine X_get (j := 0) fo_X6_28 dX6_seat_2 rfl rfl ?_
  refine X_icmp_lt (tgt := 14) dX6_seat_5 (by decide) (fun c_ => absurd c_ (nI_nlt (a := 6) (b := ppn) hpn (by decide))) (fun _ => ?_)
  refine X_aload_n (j := 0) dX6_seat_8 rfl rfl ?_
  refine X_iload_n (j := 2) dX6_seat_9 rfl rfl ?_
  refine X_callV (j0 := 0) (rest := []) (stk := []) co_X6_65 rfl ⟨(Nat.le_of_ble_eq_true rfl), (Nat.le_of_ble_eq_true rfl)⟩ (e_X6_keepIfBetter l pt tb pm p1 p2 p3 p4 ppn pss pb pr ts wrt (by first | assumption | omega) (by first | assumption | omega)) dX6_seat_10 [0, 1, 2, 3, 4] (show List.Perm [0, 1, 2, 3, 4] (List.range 5) from by decide) rfl rfl rfl rfl (Nat.le_of_ble_eq_true rfl) (fun zc1 zr hq hk => ?_)
  obtain ⟨rfl, rfl⟩ := hq
  try dsimp only at hV
  generalize hq_w_1 : F_X6_keepIfBetter tb pm pb pr ts wrt = w_1 at hV ⊢
  try dsimp only at hV
  try dsimp only at hV
  exact X_vret dX6_seat_13 (by (repeat refine ex_kc ?_) <;> rfl) (by subst hV; exact ⟨rfl, rfl, hts⟩)

def F_X6_seat_5_L43 (tb : Nat) (wrt : Nat → Int32) : Nat → Nat → Int32 → (Nat → Int32) → (Nat → Int32) → (Nat → Int32) → Int32 × (Nat → Int32) × (Nat → Int32) × (Nat → Int32)
  | 0, k43, s43_0, s43_1, s43_2, tz => (s43_0, s43_1, s43_2, tz)
  | zn + 1, k43, s43_0, s43_1, s43_2, tz => ((fun (w_6 : Int32 × (Nat → Int32)) => F_X6_seat_5_L43 tb wrt zn (k43 + 1) w_6.1 w_6.2 (upd s43_2 5 (nI k43)) (upd (upd tz k43 ((tz k43) ||| 32)) k43 (((upd tz k43 ((tz k43) ||| 32)) k43) &&& (-33)))) (F_X6_seat_6 (max tb (k43 + 1)) s43_0 s43_1 (upd s43_2 5 (nI k43)) (upd tz k43 ((tz k43) ||| 32)) wrt))
theorem F_X6_seat_5_L43_z (tb : Nat) (wrt : Nat → Int32) (k43 : Nat) (s43_0 : Int32) (s43_1 : Nat → Int32) (s43_2 : Nat → Int32) (tz : Nat → Int32) : F_X6_seat_5_L43 tb wrt 0 k43 s43_0 s43_1 s43_2 tz = (s43_0, s43_1, s43_2, tz) := rfl
theorem F_X6_seat_5_L43_s (tb : Nat) (wrt : Nat → Int32) (k43 : Nat) (s43_0 : Int32) (s43_1 : Nat → Int32) (s43_2 : Nat → Int32) (tz : Nat → Int32) (zn : Nat) : F_X6_seat_5_L43 tb wrt (zn + 1) k43 s43_0 s43_1 s43_2 tz = ((fun (w_6 : Int32 × (Nat → Int32)) => F_X6_seat_5_L43 tb wrt zn (k43 + 1) w_6.1 w_6.2 (upd s43_2 5 (nI k43)) (upd (upd tz k43 ((tz k43) ||| 32)) k43 (((upd tz k43 ((tz k43) ||| 32)) k43) &&& (-33)))) (F_X6_seat_6 (max tb (k43 + 1)) s43_0 s43_1 (upd s43_2 5 (nI k43)) (upd tz k43 ((tz k43) ||| 32)) wrt)) := rfl
def F_X6_seat_5 (tb : Nat) (pm : Int32) (ppn : Nat) (pss : Nat) (pb : Nat → Int32) (pr : Nat → Int32) (ts : Nat → Int32) (wrt : Nat → Int32) : Int32 × (Nat → Int32) × (Nat → Int32) × (Nat → Int32) := (if 5 < (nI ppn) then (if (((nI pss) >>> (5 &&& 31)) &&& 1) = 0 then ((fun (w_8 : Int32 × (Nat → Int32)) => (w_8.1, w_8.2, upd pr 5 (-1), ts)) (F_X6_seat_6 tb pm pb (upd pr 5 (-1)) ts wrt)) else ((fun (v_3 : Int32 × (Nat → Int32) × (Nat → Int32) × (Nat → Int32)) => (v_3.1, v_3.2.1, v_3.2.2.1, v_3.2.2.2)) (F_X6_seat_5_L43 tb wrt ((tb + 1) - 0) 0 pm pb pr ts))) else ((fun (w_9 : Int32 × (Nat → Int32)) => (w_9.1, w_9.2, pr, ts)) (F_X6_keepIfBetter tb pm pb pr ts wrt)))
set_option maxHeartbeats 4000000 in
set_option maxRecDepth 100000 in
theorem e_X6_seat_5 (l : Launch) (pt : Nat) (tb : Nat) (pm : Int32) (p1 : Nat) (p2 : Nat) (p3 : Nat) (p4 : Nat) (ppn : Nat) (pss : Nat) (pb : Nat → Int32) (pr : Nat → Int32) (ts : Nat → Int32) (wrt : Nat → Int32) (hpn : ppn ≤ 6) (htb : tb ≤ 5) (hts : ∀ j, j < 6 → vp_in (ts j) 64) : ex_M l yX6_seat cX6_seat 4 none 3 86 [ex_r pt, ex_i 5, ex_i (nI tb)] [(pt, ex_o 6 [ex_i pm, ex_r p1, ex_r p2, ex_r p3, ex_r p4, ex_i (nI ppn), ex_i (nI pss)]), (p1, ex_a 1 6 pb), (p2, ex_a 1 6 pr), (p3, ex_a 1 6 ts), (p4, ex_a 1 64 wrt)] (fun zcs zr => zcs = [(pt, ex_o 6 [ex_i ((F_X6_seat_5 tb pm ppn pss pb pr ts wrt).1), ex_r p1, ex_r p2, ex_r p3, ex_r p4, ex_i (nI ppn), ex_i (nI pss)]), (p1, ex_a 1 6 ((F_X6_seat_5 tb pm ppn pss pb pr ts wrt).2.1)), (p2, ex_a 1 6 ((F_X6_seat_5 tb pm ppn pss pb pr ts wrt).2.2.1)), (p3, ex_a 1 6 ((F_X6_seat_5 tb pm ppn pss pb pr ts wrt).2.2.2)), (p4, ex_a 1 64 wrt)] ∧ zr = none ∧ (∀ j, j < 6 → vp_in (((F_X6_seat_5 tb pm ppn pss pb pr ts wrt)).2.2.2 j) 64)) := by
  refine X_meth (by decide) (Nat.le_of_ble_eq_true rfl) ?_
  generalize hV : F_X6_seat_5 tb pm ppn pss pb pr ts wrt = V0
  have hV := hV.symm
  unfold F_X6_seat_5 at hV
  try dsimp only at hV
  refine X_iload_n (j := 1) dX6_seat_0 rfl rfl ?_
  refine X_aload_n (j := 0) dX6_seat_1 rfl rfl ?_
  refine X_get (j := 0) fo_X6_28 dX6_seat_2 rfl rfl ?_
  refine X_icmp_lt (tgt := 14) dX6_seat_5 (by decide) (fun c_1 => ?_) (fun c_1 => ?_)
  · have hV := hV.trans (if_pos c_1)
    refine X_aload_n (j := 0) dX6_seat_14 rfl rfl ?_
    refine X_get (j := 0) fo_X6_31 dX6_seat_15 rfl rfl ?_
    refine X_iload_n (j := 1) dX6_seat_18 rfl rfl ?_
    refine X_ishr (v := ((nI pss) >>> (5 &&& 31))) dX6_seat_19 rfl ?_
    refine X_iconst (v := 1) dX6_seat_20 (by decide) ?_
    refine X_iand (v := (((nI pss) >>> (5 &&& 31)) &&& 1)) dX6_seat_21 rfl ?_
    refine X_if_ne (tgt := 41) dX6_seat_22 (by decide) (fun c_2 => ?_) (fun c_2 => ?_)
    · have hV := hV.trans (if_neg c_2)
      refine X_iconst (v := 0) dX6_seat_41 (by decide) ?_
      refine X_istore_n (lv' := [(3, ex_i 0), (0, ex_r pt), (1, ex_i 5), (2, ex_i (nI tb))]) dX6_seat_42 rfl (Nat.le_of_ble_eq_true rfl) rfl ?_
      -- loop at 43
      try dsimp only at hV
      generalize hq_v_3 : F_X6_seat_5_L43 tb wrt ((tb + 1) - 0) 0 pm pb pr ts = v_3 at hV
      try dsimp only at hV
      refine X_cut (P := (∀ j, j < 6 → vp_in (v_3.2.2.2 j) 64)) (csE := [(pt, ex_o 6 [ex_i v_3.1, ex_r p1, ex_r p2, ex_r p3, ex_r p4, ex_i (nI ppn), ex_i (nI pss)]), (p1, ex_a 1 6 v_3.2.1), (p2, ex_a 1 6 v_3.2.2.1), (p3, ex_a 1 6 v_3.2.2.2), (p4, ex_a 1 64 wrt)]) (lvE := [(0, ex_r pt), (1, ex_i 5), (2, ex_i (nI tb))]) (E := 107) (fun hrest43 => ?_) (fun hPX43 => ?_)
      · have hL43 := hq_v_3.symm
        refine X_ind (fun (a43 : Nat × Int32 × (Nat → Int32) × (Nat → Int32) × (Nat → Int32)) => v_3 = F_X6_seat_5_L43 tb wrt ((tb + 1) - a43.1) a43.1 a43.2.1 a43.2.2.1 a43.2.2.2.1 a43.2.2.2.2 ∧ a43.1 ≤ (tb + 1) ∧ ∀ j, j < 6 → vp_in (a43.2.2.2.2 j) 64) (fun (a43 : Nat × Int32 × (Nat → Int32) × (Nat → Int32) × (Nat → Int32)) => (tb + 1) - a43.1) (fun (a43 : Nat × Int32 × (Nat → Int32) × (Nat → Int32) × (Nat → Int32)) => [(pt, ex_o 6 [ex_i a43.2.1, ex_r p1, ex_r p2, ex_r p3, ex_r p4, ex_i (nI ppn), ex_i (nI pss)]), (p1, ex_a 1 6 a43.2.2.1), (p2, ex_a 1 6 a43.2.2.2.1), (p3, ex_a 1 6 a43.2.2.2.2), (p4, ex_a 1 64 wrt)]) (fun (a43 : Nat × Int32 × (Nat → Int32) × (Nat → Int32) × (Nat → Int32)) => [(3, ex_i (nI a43.1)), (0, ex_r pt), (1, ex_i 5), (2, ex_i (nI tb))]) (fun ⟨k43, s43_0, s43_1, s43_2, tz⟩ hI43 ih43 => ?_) (0, pm, pb, pr, ts) ⟨hL43, (by omega), hts⟩
        try dsimp only at hI43 ih43 ⊢
        have ihc43 : ∀ (k43_ : Nat) (s43_0_ : Int32) (s43_1_ : Nat → Int32) (s43_2_ : Nat → Int32) (tz_ : Nat → Int32), (v_3 = F_X6_seat_5_L43 tb wrt ((tb + 1) - k43_) k43_ s43_0_ s43_1_ s43_2_ tz_ ∧ k43_ ≤ (tb + 1) ∧ ∀ j, j < 6 → vp_in (tz_ j) 64) → ((tb + 1) - k43_) < ((tb + 1) - k43) → ex_O _ _ _ _ _ _ _ _ _ [(pt, ex_o 6 [ex_i s43_0_, ex_r p1, ex_r p2, ex_r p3, ex_r p4, ex_i (nI ppn), ex_i (nI pss)]), (p1, ex_a 1 6 s43_1_), (p2, ex_a 1 6 s43_2_), (p3, ex_a 1 6 tz_), (p4, ex_a 1 64 wrt)] [(3, ex_i (nI k43_)), (0, ex_r pt), (1, ex_i 5), (2, ex_i (nI tb))] _ _ := fun k43_ s43_0_ s43_1_ s43_2_ tz_ hi_ hm_ => ih43 (k43_, s43_0_, s43_1_, s43_2_, tz_) hi_ hm_
        have hL43 := hI43.1
        have hb43 := hI43.2.1
        have hts43 := hI43.2.2
        refine X_iload_n (j := 0) dX6_seat_43 rfl rfl ?_
        refine X_iload_n (j := 3) dX6_seat_44 rfl rfl ?_
        refine X_icmp_gt (tgt := 107) dX6_seat_45 (by decide) (fun c_4 => ?_) (fun c_4 => ?_)
        · have hlt43 : k43 = (tb + 1) := ngtx (L := (tb + 1)) (by omega) hb43 c_4
          rw [show (tb + 1) - k43 = 0 by omega] at hL43
          have hL43 := hL43.trans (F_X6_seat_5_L43_z ..)
          try dsimp only at hL43
          refine X_lv (lv' := [(0, ex_r pt), (1, ex_i 5), (2, ex_i (nI tb))]) [1, 2, 3] rfl ?_
          refine X_eq (cs' := [(pt, ex_o 6 [ex_i v_3.1, ex_r p1, ex_r p2, ex_r p3, ex_r p4, ex_i (nI ppn), ex_i (nI pss)]), (p1, ex_a 1 6 v_3.2.1), (p2, ex_a 1 6 v_3.2.2.1), (p3, ex_a 1 6 v_3.2.2.2), (p4, ex_a 1 64 wrt)]) (lv' := [(0, ex_r pt), (1, ex_i 5), (2, ex_i (nI tb))]) (by subst hL43; rfl) (by subst hL43; rfl) ?_
          exact hrest43 (by subst hL43; exact hts43)
        · have hlt43 : k43 < (tb + 1) := ngti (L := (tb + 1)) (by omega) hb43 c_4
          rw [show (tb + 1) - k43 = ((tb + 1) - (k43 + 1)) + 1 by omega] at hL43
          have hL43 := hL43.trans (F_X6_seat_5_L43_s ..)
          refine X_iload_n (j := 0) dX6_seat_48 rfl rfl ?_
          refine X_bipush (v := 6) dX6_seat_49 (by decide) ?_
          refine X_icmp_ge (tgt := 107) dX6_seat_51 (by decide) (fun c_ => absurd c_ (nI_ge (a := k43) (b := 6) (by omega) (by decide))) (fun _ => ?_)
          refine X_aload_n (j := 1) dX6_seat_54 rfl rfl ?_
          refine X_get (j := 0) fo_X6_19 dX6_seat_55 rfl rfl ?_
          refine X_iload_n (j := 2) dX6_seat_58 rfl rfl ?_
          refine X_iload_n (j := 0) dX6_seat_59 rfl rfl ?_
          refine X_iast (j := 2) (g := upd s43_2 5 (nI k43)) (cs' := [(pt, ex_o 6 [ex_i s43_0, ex_r p1, ex_r p2, ex_r p3, ex_r p4, ex_i (nI ppn), ex_i (nI pss)]), (p1, ex_a 1 6 s43_1), (p2, ex_a 1 6 (upd s43_2 5 (nI k43))), (p3, ex_a 1 6 tz), (p4, ex_a 1 64 wrt)]) dX6_seat_60 rfl (vin (by decide)) rfl rfl ?_
          refine X_aload_n (j := 1) dX6_seat_61 rfl rfl ?_
          refine X_get (j := 0) fo_X6_22 dX6_seat_62 rfl rfl ?_
          refine X_iload_n (j := 0) dX6_seat_65 rfl rfl ?_
          refine X_dup2_11 dX6_seat_66 rfl rfl ?_
          refine X_iald (j := 3) (v := (tz k43)) dX6_seat_67 rfl (vp_in_nI (show k43 < 6 by omega) (by decide)) (by rw [nI_clamp (by omega)]) ?_
          refine X_iconst (v := 1) dX6_seat_68 (by decide) ?_
          refine X_iload_n (j := 2) dX6_seat_69 rfl rfl ?_
          refine X_ishl (v := 32) dX6_seat_70 (by decide) ?_
          refine X_ior (v := ((tz k43) ||| 32)) dX6_seat_71 rfl ?_
          refine X_iast (j := 3) (g := upd tz k43 ((tz k43) ||| 32)) (cs' := [(pt, ex_o 6 [ex_i s43_0, ex_r p1, ex_r p2, ex_r p3, ex_r p4, ex_i (nI ppn), ex_i (nI pss)]), (p1, ex_a 1 6 s43_1), (p2, ex_a 1 6 (upd s43_2 5 (nI k43))), (p3, ex_a 1 6 (upd tz k43 ((tz k43) ||| 32))), (p4, ex_a 1 64 wrt)]) dX6_seat_72 rfl (vp_in_nI (show k43 < 6 by omega) (by decide)) (by rw [nI_clamp (by omega)]) rfl ?_
          refine X_aload_n (j := 1) dX6_seat_73 rfl rfl ?_
          refine X_iload_n (j := 2) dX6_seat_74 rfl rfl ?_
          refine X_iconst (v := 1) dX6_seat_75 (by decide) ?_
          refine X_iadd (v := 6) dX6_seat_76 (by decide) ?_
          refine X_iload_n (j := 3) dX6_seat_77 rfl rfl ?_
          refine X_iload_n (j := 0) dX6_seat_78 rfl rfl ?_
          refine X_iconst (v := 1) dX6_seat_79 (by decide) ?_
          refine X_iadd (v := nI (k43 + 1)) dX6_seat_80 (nI_add k43 1) ?_
          refine X_mmax (v := nI (max tb (k43 + 1))) k_1069 k_561 k_17 k_562 ⟨(Nat.le_of_ble_eq_true rfl), (Nat.le_of_ble_eq_true rfl)⟩ (Nat.le_of_ble_eq_true rfl) dX6_seat_81 (nI_max (a := tb) (b := k43 + 1) (by omega) (by omega)) ?_
          refine X_callV (j0 := 0) (rest := []) (stk := []) co_X6_47 rfl ⟨(Nat.le_of_ble_eq_true rfl), (Nat.le_of_ble_eq_true rfl)⟩ (e_X6_seat_6 l pt (max tb (k43 + 1)) s43_0 p1 p2 p3 p4 ppn pss s43_1 (upd s43_2 5 (nI k43)) (upd tz k43 ((tz k43) ||| 32)) wrt (by first | assumption | omega) (by first | assumption | omega) (ts_upd hts43 (by omega) (vp_or6 (hts43 k43 (by omega)) (by decide)))) dX6_seat_84 [0, 1, 2, 3, 4] (show List.Perm [0, 1, 2, 3, 4] (List.range 5) from by decide) rfl rfl rfl rfl (Nat.le_of_ble_eq_true rfl) (fun zc1 zr hq hk => ?_)
          obtain ⟨rfl, rfl, he0_e_5⟩ := hq
          try dsimp only at hL43
          generalize hq_w_6 : F_X6_seat_6 (max tb (k43 + 1)) s43_0 s43_1 (upd s43_2 5 (nI k43)) (upd tz k43 ((tz k43) ||| 32)) wrt = w_6 at hL43 he0_e_5 ⊢
          try dsimp only at hL43
          refine X_aload_n (j := 1) dX6_seat_87 rfl rfl ?_
          refine X_get (j := 0) fo_X6_22 dX6_seat_88 rfl rfl ?_
          refine X_iload_n (j := 0) dX6_seat_91 rfl rfl ?_
          refine X_dup2_11 dX6_seat_92 rfl rfl ?_
          refine X_iald (j := 3) (v := ((upd tz k43 ((tz k43) ||| 32)) k43)) dX6_seat_93 rfl (vp_in_nI (show k43 < 6 by omega) (by decide)) (by rw [nI_clamp (by omega)]) ?_
          refine X_iconst (v := 1) dX6_seat_94 (by decide) ?_
          refine X_iload_n (j := 2) dX6_seat_95 rfl rfl ?_
          refine X_ishl (v := 32) dX6_seat_96 (by decide) ?_
          refine X_iconst (v := (-1)) dX6_seat_97 (by decide) ?_
          refine X_ixor (v := (-33)) dX6_seat_98 (by decide) ?_
          refine X_iand (v := (((upd tz k43 ((tz k43) ||| 32)) k43) &&& (-33))) dX6_seat_99 rfl ?_
          refine X_iast (j := 3) (g := upd (upd tz k43 ((tz k43) ||| 32)) k43 (((upd tz k43 ((tz k43) ||| 32)) k43) &&& (-33))) (cs' := [(pt, ex_o 6 [ex_i w_6.1, ex_r p1, ex_r p2, ex_r p3, ex_r p4, ex_i (nI ppn), ex_i (nI pss)]), (p1, ex_a 1 6 w_6.2), (p2, ex_a 1 6 (upd s43_2 5 (nI k43))), (p3, ex_a 1 6 (upd (upd tz k43 ((tz k43) ||| 32)) k43 (((upd tz k43 ((tz k43) ||| 32)) k43) &&& (-33)))), (p4, ex_a 1 64 wrt)]) dX6_seat_100 rfl (vp_in_nI (show k43 < 6 by omega) (by decide)) (by rw [nI_clamp (by omega)]) rfl ?_
          refine X_iinc (v := nI (k43 + 1)) (j := 0) (lv' := [(3, ex_i (nI (k43 + 1))), (0, ex_r pt), (1, ex_i 5), (2, ex_i (nI tb))]) dX6_seat_101 rfl (nI_add k43 1) (Nat.le_of_ble_eq_true rfl) rfl ?_
          refine X_goto (tgt := 43) dX6_seat_104 (by decide) ?_
          try dsimp only at hL43
          exact ihc43 (k43 + 1) w_6.1 w_6.2 (upd s43_2 5 (nI k43)) (upd (upd tz k43 ((tz k43) ||| 32)) k43 (((upd tz k43 ((tz k43) ||| 32)) k43) &&& (-33))) ⟨hL43, (show (k43 + 1) ≤ (tb + 1) by omega), (ts_upd he0_e_5 (by omega) (vp_an6 (he0_e_5 k43 (by omega)) (by decide)))⟩ (show (tb + 1) - (k43 + 1) < (tb + 1) - k43 by omega)
      have hts43_x := hPX43
      try dsimp only at hV
      exact X_vret dX6_seat_107 (by (repeat refine ex_kc ?_) <;> rfl) (by subst hV; exact ⟨rfl, rfl, hts43_x⟩)
    · have hV := hV.trans (if_pos c_2)
      refine X_aload_n (j := 0) dX6_seat_25 rfl rfl ?_
      refine X_get (j := 0) fo_X6_19 dX6_seat_26 rfl rfl ?_
      refine X_iload_n (j := 1) dX6_seat_29 rfl rfl ?_
      refine X_iconst (v := (-1)) dX6_seat_30 (by decide) ?_
      refine X_iast (j := 2) (g := upd pr 5 (-1)) (cs' := [(pt, ex_o 6 [ex_i pm, ex_r p1, ex_r p2, ex_r p3, ex_r p4, ex_i (nI ppn), ex_i (nI pss)]), (p1, ex_a 1 6 pb), (p2, ex_a 1 6 (upd pr 5 (-1))), (p3, ex_a 1 6 ts), (p4, ex_a 1 64 wrt)]) dX6_seat_31 rfl (vin (by decide)) rfl rfl ?_
      refine X_aload_n (j := 0) dX6_seat_32 rfl rfl ?_
      refine X_iload_n (j := 1) dX6_seat_33 rfl rfl ?_
      refine X_iconst (v := 1) dX6_seat_34 (by decide) ?_
      refine X_iadd (v := 6) dX6_seat_35 (by decide) ?_
      refine X_iload_n (j := 2) dX6_seat_36 rfl rfl ?_
      refine X_callV (j0 := 0) (rest := []) (stk := []) co_X6_47 rfl ⟨(Nat.le_of_ble_eq_true rfl), (Nat.le_of_ble_eq_true rfl)⟩ (e_X6_seat_6 l pt tb pm p1 p2 p3 p4 ppn pss pb (upd pr 5 (-1)) ts wrt (by first | assumption | omega) (by first | assumption | omega) hts) dX6_seat_37 [0, 1, 2, 3, 4] (show List.Perm [0, 1, 2, 3, 4] (List.range 5) from by decide) rfl rfl rfl rfl (Nat.le_of_ble_eq_true rfl) (fun zc1 zr hq hk => ?_)
      obtain ⟨rfl, rfl, he0_e_7⟩ := hq
      try dsimp only at hV
      generalize hq_w_8 : F_X6_seat_6 tb pm pb (upd pr 5 (-1)) ts wrt = w_8 at hV he0_e_7 ⊢
      try dsimp only at hV
      try dsimp only at hV
      exact X_vret dX6_seat_40 (by (repeat refine ex_kc ?_) <;> rfl) (by subst hV; exact ⟨rfl, rfl, hts⟩)
  · have hV := hV.trans (if_neg c_1)
    refine X_aload_n (j := 0) dX6_seat_8 rfl rfl ?_
    refine X_iload_n (j := 2) dX6_seat_9 rfl rfl ?_
    refine X_callV (j0 := 0) (rest := []) (stk := []) co_X6_65 rfl ⟨(Nat.le_of_ble_eq_true rfl), (Nat.le_of_ble_eq_true rfl)⟩ (e_X6_keepIfBetter l pt tb pm p1 p2 p3 p4 ppn pss pb pr ts wrt (by first | assumption | omega) (by first | assumption | omega)) dX6_seat_10 [0, 1, 2, 3, 4] (show List.Perm [0, 1, 2, 3, 4] (List.range 5) from by decide) rfl rfl rfl rfl (Nat.le_of_ble_eq_true rfl) (fun zc1 zr hq hk => ?_)
    obtain ⟨rfl, rfl⟩ := hq
    try dsimp only at hV
    generalize hq_w_9 : F_X6_keepIfBetter tb pm pb pr ts wrt = w_9 at hV ⊢
    try dsimp only at hV
    try dsimp only at hV
    exact X_vret dX6_seat_13 (by (repeat refine ex_kc ?_) <;> rfl) (by subst hV; exact ⟨rfl, rfl, hts⟩)

def F_X6_seat_4_L43 (tb : Nat) (ppn : Nat) (pss : Nat) (wrt : Nat → Int32) : Nat → Nat → Int32 → (Nat → Int32) → (Nat → Int32) → (Nat → Int32) → Int32 × (Nat → Int32) × (Nat → Int32) × (Nat → Int32)
  | 0, k43, s43_0, s43_1, s43_2, tz => (s43_0, s43_1, s43_2, tz)
  | zn + 1, k43, s43_0, s43_1, s43_2, tz => ((fun (w_6 : Int32 × (Nat → Int32) × (Nat → Int32) × (Nat → Int32)) => F_X6_seat_4_L43 tb ppn pss wrt zn (k43 + 1) w_6.1 w_6.2.1 w_6.2.2.1 (upd w_6.2.2.2 k43 ((w_6.2.2.2 k43) &&& (-17)))) (F_X6_seat_5 (max tb (k43 + 1)) s43_0 ppn pss s43_1 (upd s43_2 4 (nI k43)) (upd tz k43 ((tz k43) ||| 16)) wrt))
theorem F_X6_seat_4_L43_z (tb : Nat) (ppn : Nat) (pss : Nat) (wrt : Nat → Int32) (k43 : Nat) (s43_0 : Int32) (s43_1 : Nat → Int32) (s43_2 : Nat → Int32) (tz : Nat → Int32) : F_X6_seat_4_L43 tb ppn pss wrt 0 k43 s43_0 s43_1 s43_2 tz = (s43_0, s43_1, s43_2, tz) := rfl
theorem F_X6_seat_4_L43_s (tb : Nat) (ppn : Nat) (pss : Nat) (wrt : Nat → Int32) (k43 : Nat) (s43_0 : Int32) (s43_1 : Nat → Int32) (s43_2 : Nat → Int32) (tz : Nat → Int32) (zn : Nat) : F_X6_seat_4_L43 tb ppn pss wrt (zn + 1) k43 s43_0 s43_1 s43_2 tz = ((fun (w_6 : Int32 × (Nat → Int32) × (Nat → Int32) × (Nat → Int32)) => F_X6_seat_4_L43 tb ppn pss wrt zn (k43 + 1) w_6.1 w_6.2.1 w_6.2.2.1 (upd w_6.2.2.2 k43 ((w_6.2.2.2 k43) &&& (-17)))) (F_X6_seat_5 (max tb (k43 + 1)) s43_0 ppn pss s43_1 (upd s43_2 4 (nI k43)) (upd tz k43 ((tz k43) ||| 16)) wrt)) := rfl
def F_X6_seat_4 (tb : Nat) (pm : Int32) (ppn : Nat) (pss : Nat) (pb : Nat → Int32) (pr : Nat → Int32) (ts : Nat → Int32) (wrt : Nat → Int32) : Int32 × (Nat → Int32) × (Nat → Int32) × (Nat → Int32) := (if 4 < (nI ppn) then (if (((nI pss) >>> (4 &&& 31)) &&& 1) = 0 then ((fun (w_8 : Int32 × (Nat → Int32) × (Nat → Int32) × (Nat → Int32)) => (w_8.1, w_8.2.1, w_8.2.2.1, w_8.2.2.2)) (F_X6_seat_5 tb pm ppn pss pb (upd pr 4 (-1)) ts wrt)) else ((fun (v_3 : Int32 × (Nat → Int32) × (Nat → Int32) × (Nat → Int32)) => (v_3.1, v_3.2.1, v_3.2.2.1, v_3.2.2.2)) (F_X6_seat_4_L43 tb ppn pss wrt ((tb + 1) - 0) 0 pm pb pr ts))) else ((fun (w_9 : Int32 × (Nat → Int32)) => (w_9.1, w_9.2, pr, ts)) (F_X6_keepIfBetter tb pm pb pr ts wrt)))
set_option maxHeartbeats 4000000 in
set_option maxRecDepth 100000 in
theorem e_X6_seat_4 (l : Launch) (pt : Nat) (tb : Nat) (pm : Int32) (p1 : Nat) (p2 : Nat) (p3 : Nat) (p4 : Nat) (ppn : Nat) (pss : Nat) (pb : Nat → Int32) (pr : Nat → Int32) (ts : Nat → Int32) (wrt : Nat → Int32) (hpn : ppn ≤ 6) (htb : tb ≤ 4) (hts : ∀ j, j < 6 → vp_in (ts j) 64) : ex_M l yX6_seat cX6_seat 4 none 4 109 [ex_r pt, ex_i 4, ex_i (nI tb)] [(pt, ex_o 6 [ex_i pm, ex_r p1, ex_r p2, ex_r p3, ex_r p4, ex_i (nI ppn), ex_i (nI pss)]), (p1, ex_a 1 6 pb), (p2, ex_a 1 6 pr), (p3, ex_a 1 6 ts), (p4, ex_a 1 64 wrt)] (fun zcs zr => zcs = [(pt, ex_o 6 [ex_i ((F_X6_seat_4 tb pm ppn pss pb pr ts wrt).1), ex_r p1, ex_r p2, ex_r p3, ex_r p4, ex_i (nI ppn), ex_i (nI pss)]), (p1, ex_a 1 6 ((F_X6_seat_4 tb pm ppn pss pb pr ts wrt).2.1)), (p2, ex_a 1 6 ((F_X6_seat_4 tb pm ppn pss pb pr ts wrt).2.2.1)), (p3, ex_a 1 6 ((F_X6_seat_4 tb pm ppn pss pb pr ts wrt).2.2.2)), (p4, ex_a 1 64 wrt)] ∧ zr = none ∧ (∀ j, j < 6 → vp_in (((F_X6_seat_4 tb pm ppn pss pb pr ts wrt)).2.2.2 j) 64)) := by
  refine X_meth (by decide) (Nat.le_of_ble_eq_true rfl) ?_
  generalize hV : F_X6_seat_4 tb pm ppn pss pb pr ts wrt = V0
  have hV := hV.symm
  unfold F_X6_seat_4 at hV
  try dsimp only at hV
  refine X_iload_n (j := 1) dX6_seat_0 rfl rfl ?_
  refine X_aload_n (j := 0) dX6_seat_1 rfl rfl ?_
  refine X_get (j := 0) fo_X6_28 dX6_seat_2 rfl rfl ?_
  refine X_icmp_lt (tgt := 14) dX6_seat_5 (by decide) (fun c_1 => ?_) (fun c_1 => ?_)
  · have hV := hV.trans (if_pos c_1)
    refine X_aload_n (j := 0) dX6_seat_14 rfl rfl ?_
    refine X_get (j := 0) fo_X6_31 dX6_seat_15 rfl rfl ?_
    refine X_iload_n (j := 1) dX6_seat_18 rfl rfl ?_
    refine X_ishr (v := ((nI pss) >>> (4 &&& 31))) dX6_seat_19 rfl ?_
    refine X_iconst (v := 1) dX6_seat_20 (by decide) ?_
    refine X_iand (v := (((nI pss) >>> (4 &&& 31)) &&& 1)) dX6_seat_21 rfl ?_
    refine X_if_ne (tgt := 41) dX6_seat_22 (by decide) (fun c_2 => ?_) (fun c_2 => ?_)
    · have hV := hV.trans (if_neg c_2)
      refine X_iconst (v := 0) dX6_seat_41 (by decide) ?_
      refine X_istore_n (lv' := [(3, ex_i 0), (0, ex_r pt), (1, ex_i 4), (2, ex_i (nI tb))]) dX6_seat_42 rfl (Nat.le_of_ble_eq_true rfl) rfl ?_
      -- loop at 43
      try dsimp only at hV
      generalize hq_v_3 : F_X6_seat_4_L43 tb ppn pss wrt ((tb + 1) - 0) 0 pm pb pr ts = v_3 at hV
      try dsimp only at hV
      refine X_cut (P := (∀ j, j < 6 → vp_in (v_3.2.2.2 j) 64)) (csE := [(pt, ex_o 6 [ex_i v_3.1, ex_r p1, ex_r p2, ex_r p3, ex_r p4, ex_i (nI ppn), ex_i (nI pss)]), (p1, ex_a 1 6 v_3.2.1), (p2, ex_a 1 6 v_3.2.2.1), (p3, ex_a 1 6 v_3.2.2.2), (p4, ex_a 1 64 wrt)]) (lvE := [(0, ex_r pt), (1, ex_i 4), (2, ex_i (nI tb))]) (E := 107) (fun hrest43 => ?_) (fun hPX43 => ?_)
      · have hL43 := hq_v_3.symm
        refine X_ind (fun (a43 : Nat × Int32 × (Nat → Int32) × (Nat → Int32) × (Nat → Int32)) => v_3 = F_X6_seat_4_L43 tb ppn pss wrt ((tb + 1) - a43.1) a43.1 a43.2.1 a43.2.2.1 a43.2.2.2.1 a43.2.2.2.2 ∧ a43.1 ≤ (tb + 1) ∧ ∀ j, j < 6 → vp_in (a43.2.2.2.2 j) 64) (fun (a43 : Nat × Int32 × (Nat → Int32) × (Nat → Int32) × (Nat → Int32)) => (tb + 1) - a43.1) (fun (a43 : Nat × Int32 × (Nat → Int32) × (Nat → Int32) × (Nat → Int32)) => [(pt, ex_o 6 [ex_i a43.2.1, ex_r p1, ex_r p2, ex_r p3, ex_r p4, ex_i (nI ppn), ex_i (nI pss)]), (p1, ex_a 1 6 a43.2.2.1), (p2, ex_a 1 6 a43.2.2.2.1), (p3, ex_a 1 6 a43.2.2.2.2), (p4, ex_a 1 64 wrt)]) (fun (a43 : Nat × Int32 × (Nat → Int32) × (Nat → Int32) × (Nat → Int32)) => [(3, ex_i (nI a43.1)), (0, ex_r pt), (1, ex_i 4), (2, ex_i (nI tb))]) (fun ⟨k43, s43_0, s43_1, s43_2, tz⟩ hI43 ih43 => ?_) (0, pm, pb, pr, ts) ⟨hL43, (by omega), hts⟩
        try dsimp only at hI43 ih43 ⊢
        have ihc43 : ∀ (k43_ : Nat) (s43_0_ : Int32) (s43_1_ : Nat → Int32) (s43_2_ : Nat → Int32) (tz_ : Nat → Int32), (v_3 = F_X6_seat_4_L43 tb ppn pss wrt ((tb + 1) - k43_) k43_ s43_0_ s43_1_ s43_2_ tz_ ∧ k43_ ≤ (tb + 1) ∧ ∀ j, j < 6 → vp_in (tz_ j) 64) → ((tb + 1) - k43_) < ((tb + 1) - k43) → ex_O _ _ _ _ _ _ _ _ _ [(pt, ex_o 6 [ex_i s43_0_, ex_r p1, ex_r p2, ex_r p3, ex_r p4, ex_i (nI ppn), ex_i (nI pss)]), (p1, ex_a 1 6 s43_1_), (p2, ex_a 1 6 s43_2_), (p3, ex_a 1 6 tz_), (p4, ex_a 1 64 wrt)] [(3, ex_i (nI k43_)), (0, ex_r pt), (1, ex_i 4), (2, ex_i (nI tb))] _ _ := fun k43_ s43_0_ s43_1_ s43_2_ tz_ hi_ hm_ => ih43 (k43_, s43_0_, s43_1_, s43_2_, tz_) hi_ hm_
        have hL43 := hI43.1
        have hb43 := hI43.2.1
        have hts43 := hI43.2.2
        refine X_iload_n (j := 0) dX6_seat_43 rfl rfl ?_
        refine X_iload_n (j := 3) dX6_seat_44 rfl rfl ?_
        refine X_icmp_gt (tgt := 107) dX6_seat_45 (by decide) (fun c_4 => ?_) (fun c_4 => ?_)
        · have hlt43 : k43 = (tb + 1) := ngtx (L := (tb + 1)) (by omega) hb43 c_4
          rw [show (tb + 1) - k43 = 0 by omega] at hL43
          have hL43 := hL43.trans (F_X6_seat_4_L43_z ..)
          try dsimp only at hL43
          refine X_lv (lv' := [(0, ex_r pt), (1, ex_i 4), (2, ex_i (nI tb))]) [1, 2, 3] rfl ?_
          refine X_eq (cs' := [(pt, ex_o 6 [ex_i v_3.1, ex_r p1, ex_r p2, ex_r p3, ex_r p4, ex_i (nI ppn), ex_i (nI pss)]), (p1, ex_a 1 6 v_3.2.1), (p2, ex_a 1 6 v_3.2.2.1), (p3, ex_a 1 6 v_3.2.2.2), (p4, ex_a 1 64 wrt)]) (lv' := [(0, ex_r pt), (1, ex_i 4), (2, ex_i (nI tb))]) (by subst hL43; rfl) (by subst hL43; rfl) ?_
          exact hrest43 (by subst hL43; exact hts43)
        · have hlt43 : k43 < (tb + 1) := ngti (L := (tb + 1)) (by omega) hb43 c_4
          rw [show (tb + 1) - k43 = ((tb + 1) - (k43 + 1)) + 1 by omega] at hL43
          have hL43 := hL43.trans (F_X6_seat_4_L43_s ..)
          refine X_iload_n (j := 0) dX6_seat_48 rfl rfl ?_
          refine X_bipush (v := 6) dX6_seat_49 (by decide) ?_
          refine X_icmp_ge (tgt := 107) dX6_seat_51 (by decide) (fun c_ => absurd c_ (nI_ge (a := k43) (b := 6) (by omega) (by decide))) (fun _ => ?_)
          refine X_aload_n (j := 1) dX6_seat_54 rfl rfl ?_
          refine X_get (j := 0) fo_X6_19 dX6_seat_55 rfl rfl ?_
          refine X_iload_n (j := 2) dX6_seat_58 rfl rfl ?_
          refine X_iload_n (j := 0) dX6_seat_59 rfl rfl ?_
          refine X_iast (j := 2) (g := upd s43_2 4 (nI k43)) (cs' := [(pt, ex_o 6 [ex_i s43_0, ex_r p1, ex_r p2, ex_r p3, ex_r p4, ex_i (nI ppn), ex_i (nI pss)]), (p1, ex_a 1 6 s43_1), (p2, ex_a 1 6 (upd s43_2 4 (nI k43))), (p3, ex_a 1 6 tz), (p4, ex_a 1 64 wrt)]) dX6_seat_60 rfl (vin (by decide)) rfl rfl ?_
          refine X_aload_n (j := 1) dX6_seat_61 rfl rfl ?_
          refine X_get (j := 0) fo_X6_22 dX6_seat_62 rfl rfl ?_
          refine X_iload_n (j := 0) dX6_seat_65 rfl rfl ?_
          refine X_dup2_11 dX6_seat_66 rfl rfl ?_
          refine X_iald (j := 3) (v := (tz k43)) dX6_seat_67 rfl (vp_in_nI (show k43 < 6 by omega) (by decide)) (by rw [nI_clamp (by omega)]) ?_
          refine X_iconst (v := 1) dX6_seat_68 (by decide) ?_
          refine X_iload_n (j := 2) dX6_seat_69 rfl rfl ?_
          refine X_ishl (v := 16) dX6_seat_70 (by decide) ?_
          refine X_ior (v := ((tz k43) ||| 16)) dX6_seat_71 rfl ?_
          refine X_iast (j := 3) (g := upd tz k43 ((tz k43) ||| 16)) (cs' := [(pt, ex_o 6 [ex_i s43_0, ex_r p1, ex_r p2, ex_r p3, ex_r p4, ex_i (nI ppn), ex_i (nI pss)]), (p1, ex_a 1 6 s43_1), (p2, ex_a 1 6 (upd s43_2 4 (nI k43))), (p3, ex_a 1 6 (upd tz k43 ((tz k43) ||| 16))), (p4, ex_a 1 64 wrt)]) dX6_seat_72 rfl (vp_in_nI (show k43 < 6 by omega) (by decide)) (by rw [nI_clamp (by omega)]) rfl ?_
          refine X_aload_n (j := 1) dX6_seat_73 rfl rfl ?_
          refine X_iload_n (j := 2) dX6_seat_74 rfl rfl ?_
          refine X_iconst (v := 1) dX6_seat_75 (by decide) ?_
          refine X_iadd (v := 5) dX6_seat_76 (by decide) ?_
          refine X_iload_n (j := 3) dX6_seat_77 rfl rfl ?_
          refine X_iload_n (j := 0) dX6_seat_78 rfl rfl ?_
          refine X_iconst (v := 1) dX6_seat_79 (by decide) ?_
          refine X_iadd (v := nI (k43 + 1)) dX6_seat_80 (nI_add k43 1) ?_
          refine X_mmax (v := nI (max tb (k43 + 1))) k_1069 k_561 k_17 k_562 ⟨(Nat.le_of_ble_eq_true rfl), (Nat.le_of_ble_eq_true rfl)⟩ (Nat.le_of_ble_eq_true rfl) dX6_seat_81 (nI_max (a := tb) (b := k43 + 1) (by omega) (by omega)) ?_
          refine X_callV (j0 := 0) (rest := []) (stk := []) co_X6_47 rfl ⟨(Nat.le_of_ble_eq_true rfl), (Nat.le_of_ble_eq_true rfl)⟩ (e_X6_seat_5 l pt (max tb (k43 + 1)) s43_0 p1 p2 p3 p4 ppn pss s43_1 (upd s43_2 4 (nI k43)) (upd tz k43 ((tz k43) ||| 16)) wrt (by first | assumption | omega) (by first | assumption | omega) (ts_upd hts43 (by omega) (vp_or6 (hts43 k43 (by omega)) (by decide)))) dX6_seat_84 [0, 1, 2, 3, 4] (show List.Perm [0, 1, 2, 3, 4] (List.range 5) from by decide) rfl rfl rfl rfl (Nat.le_of_ble_eq_true rfl) (fun zc1 zr hq hk => ?_)
          obtain ⟨rfl, rfl, he0_e_5⟩ := hq
          try dsimp only at hL43
          generalize hq_w_6 : F_X6_seat_5 (max tb (k43 + 1)) s43_0 ppn pss s43_1 (upd s43_2 4 (nI k43)) (upd tz k43 ((tz k43) ||| 16)) wrt = w_6 at hL43 he0_e_5 ⊢
          try dsimp only at hL43
          refine X_aload_n (j := 1) dX6_seat_87 rfl rfl ?_
          refine X_get (j := 0) fo_X6_22 dX6_seat_88 rfl rfl ?_
          refine X_iload_n (j := 0) dX6_seat_91 rfl rfl ?_
          refine X_dup2_11 dX6_seat_92 rfl rfl ?_
          refine X_iald (j := 3) (v := (w_6.2.2.2 k43)) dX6_seat_93 rfl (vp_in_nI (show k43 < 6 by omega) (by decide)) (by rw [nI_clamp (by omega)]) ?_
          refine X_iconst (v := 1) dX6_seat_94 (by decide) ?_
          refine X_iload_n (j := 2) dX6_seat_95 rfl rfl ?_
          refine X_ishl (v := 16) dX6_seat_96 (by decide) ?_
          refine X_iconst (v := (-1)) dX6_seat_97 (by decide) ?_
          refine X_ixor (v := (-17)) dX6_seat_98 (by decide) ?_
          refine X_iand (v := ((w_6.2.2.2 k43) &&& (-17))) dX6_seat_99 rfl ?_
          refine X_iast (j := 3) (g := upd w_6.2.2.2 k43 ((w_6.2.2.2 k43) &&& (-17))) (cs' := [(pt, ex_o 6 [ex_i w_6.1, ex_r p1, ex_r p2, ex_r p3, ex_r p4, ex_i (nI ppn), ex_i (nI pss)]), (p1, ex_a 1 6 w_6.2.1), (p2, ex_a 1 6 w_6.2.2.1), (p3, ex_a 1 6 (upd w_6.2.2.2 k43 ((w_6.2.2.2 k43) &&& (-17)))), (p4, ex_a 1 64 wrt)]) dX6_seat_100 rfl (vp_in_nI (show k43 < 6 by omega) (by decide)) (by rw [nI_clamp (by omega)]) rfl ?_
          refine X_iinc (v := nI (k43 + 1)) (j := 0) (lv' := [(3, ex_i (nI (k43 + 1))), (0, ex_r pt), (1, ex_i 4), (2, ex_i (nI tb))]) dX6_seat_101 rfl (nI_add k43 1) (Nat.le_of_ble_eq_true rfl) rfl ?_
          refine X_goto (tgt := 43) dX6_seat_104 (by decide) ?_
          try dsimp only at hL43
          exact ihc43 (k43 + 1) w_6.1 w_6.2.1 w_6.2.2.1 (upd w_6.2.2.2 k43 ((w_6.2.2.2 k43) &&& (-17))) ⟨hL43, (show (k43 + 1) ≤ (tb + 1) by omega), (ts_upd he0_e_5 (by omega) (vp_an6 (he0_e_5 k43 (by omega)) (by decide)))⟩ (show (tb + 1) - (k43 + 1) < (tb + 1) - k43 by omega)
      have hts43_x := hPX43
      try dsimp only at hV
      exact X_vret dX6_seat_107 (by (repeat refine ex_kc ?_) <;> rfl) (by subst hV; exact ⟨rfl, rfl, hts43_x⟩)
    · have hV := hV.trans (if_pos c_2)
      refine X_aload_n (j := 0) dX6_seat_25 rfl rfl ?_
      refine X_get (j := 0) fo_X6_19 dX6_seat_26 rfl rfl ?_
      refine X_iload_n (j := 1) dX6_seat_29 rfl rfl ?_
      refine X_iconst (v := (-1)) dX6_seat_30 (by decide) ?_
      refine X_iast (j := 2) (g := upd pr 4 (-1)) (cs' := [(pt, ex_o 6 [ex_i pm, ex_r p1, ex_r p2, ex_r p3, ex_r p4, ex_i (nI ppn), ex_i (nI pss)]), (p1, ex_a 1 6 pb), (p2, ex_a 1 6 (upd pr 4 (-1))), (p3, ex_a 1 6 ts), (p4, ex_a 1 64 wrt)]) dX6_seat_31 rfl (vin (by decide)) rfl rfl ?_
      refine X_aload_n (j := 0) dX6_seat_32 rfl rfl ?_
      refine X_iload_n (j := 1) dX6_seat_33 rfl rfl ?_
      refine X_iconst (v := 1) dX6_seat_34 (by decide) ?_
      refine X_iadd (v := 5) dX6_seat_35 (by decide) ?_
      refine X_iload_n (j := 2) dX6_seat_36 rfl rfl ?_
      refine X_callV (j0 := 0) (rest := []) (stk := []) co_X6_47 rfl ⟨(Nat.le_of_ble_eq_true rfl), (Nat.le_of_ble_eq_true rfl)⟩ (e_X6_seat_5 l pt tb pm p1 p2 p3 p4 ppn pss pb (upd pr 4 (-1)) ts wrt (by first | assumption | omega) (by first | assumption | omega) hts) dX6_seat_37 [0, 1, 2, 3, 4] (show List.Perm [0, 1, 2, 3, 4] (List.range 5) from by decide) rfl rfl rfl rfl (Nat.le_of_ble_eq_true rfl) (fun zc1 zr hq hk => ?_)
      obtain ⟨rfl, rfl, he0_e_7⟩ := hq
      try dsimp only at hV
      generalize hq_w_8 : F_X6_seat_5 tb pm ppn pss pb (upd pr 4 (-1)) ts wrt = w_8 at hV he0_e_7 ⊢
      try dsimp only at hV
      try dsimp only at hV
      exact X_vret dX6_seat_40 (by (repeat refine ex_kc ?_) <;> rfl) (by subst hV; exact ⟨rfl, rfl, he0_e_7⟩)
  · have hV := hV.trans (if_neg c_1)
    refine X_aload_n (j := 0) dX6_seat_8 rfl rfl ?_
    refine X_iload_n (j := 2) dX6_seat_9 rfl rfl ?_
    refine X_callV (j0 := 0) (rest := []) (stk := []) co_X6_65 rfl ⟨(Nat.le_of_ble_eq_true rfl), (Nat.le_of_ble_eq_true rfl)⟩ (e_X6_keepIfBetter l pt tb pm p1 p2 p3 p4 ppn pss pb pr ts wrt (by first | assumption | omega) (by first | assumption | omega)) dX6_seat_10 [0, 1, 2, 3, 4] (show List.Perm [0, 1, 2, 3, 4] (List.range 5) from by decide) rfl rfl rfl rfl (Nat.le_of_ble_eq_true rfl) (fun zc1 zr hq hk => ?_)
    obtain ⟨rfl, rfl⟩ := hq
    try dsimp only at hV
    generalize hq_w_9 : F_X6_keepIfBetter tb pm pb pr ts wrt = w_9 at hV ⊢
    try dsimp only at hV
    try dsimp only at hV
    exact X_vret dX6_seat_13 (by (repeat refine ex_kc ?_) <;> rfl) (by subst hV; exact ⟨rfl, rfl, hts⟩)

def F_X6_seat_3_L43 (tb : Nat) (ppn : Nat) (pss : Nat) (wrt : Nat → Int32) : Nat → Nat → Int32 → (Nat → Int32) → (Nat → Int32) → (Nat → Int32) → Int32 × (Nat → Int32) × (Nat → Int32) × (Nat → Int32)
  | 0, k43, s43_0, s43_1, s43_2, tz => (s43_0, s43_1, s43_2, tz)
  | zn + 1, k43, s43_0, s43_1, s43_2, tz => ((fun (w_6 : Int32 × (Nat → Int32) × (Nat → Int32) × (Nat → Int32)) => F_X6_seat_3_L43 tb ppn pss wrt zn (k43 + 1) w_6.1 w_6.2.1 w_6.2.2.1 (upd w_6.2.2.2 k43 ((w_6.2.2.2 k43) &&& (-9)))) (F_X6_seat_4 (max tb (k43 + 1)) s43_0 ppn pss s43_1 (upd s43_2 3 (nI k43)) (upd tz k43 ((tz k43) ||| 8)) wrt))
theorem F_X6_seat_3_L43_z (tb : Nat) (ppn : Nat) (pss : Nat) (wrt : Nat → Int32) (k43 : Nat) (s43_0 : Int32) (s43_1 : Nat → Int32) (s43_2 : Nat → Int32) (tz : Nat → Int32) : F_X6_seat_3_L43 tb ppn pss wrt 0 k43 s43_0 s43_1 s43_2 tz = (s43_0, s43_1, s43_2, tz) := rfl
theorem F_X6_seat_3_L43_s (tb : Nat) (ppn : Nat) (pss : Nat) (wrt : Nat → Int32) (k43 : Nat) (s43_0 : Int32) (s43_1 : Nat → Int32) (s43_2 : Nat → Int32) (tz : Nat → Int32) (zn : Nat) : F_X6_seat_3_L43 tb ppn pss wrt (zn + 1) k43 s43_0 s43_1 s43_2 tz = ((fun (w_6 : Int32 × (Nat → Int32) × (Nat → Int32) × (Nat → Int32)) => F_X6_seat_3_L43 tb ppn pss wrt zn (k43 + 1) w_6.1 w_6.2.1 w_6.2.2.1 (upd w_6.2.2.2 k43 ((w_6.2.2.2 k43) &&& (-9)))) (F_X6_seat_4 (max tb (k43 + 1)) s43_0 ppn pss s43_1 (upd s43_2 3 (nI k43)) (upd tz k43 ((tz k43) ||| 8)) wrt)) := rfl
def F_X6_seat_3 (tb : Nat) (pm : Int32) (ppn : Nat) (pss : Nat) (pb : Nat → Int32) (pr : Nat → Int32) (ts : Nat → Int32) (wrt : Nat → Int32) : Int32 × (Nat → Int32) × (Nat → Int32) × (Nat → Int32) := (if 3 < (nI ppn) then (if (((nI pss) >>> (3 &&& 31)) &&& 1) = 0 then ((fun (w_8 : Int32 × (Nat → Int32) × (Nat → Int32) × (Nat → Int32)) => (w_8.1, w_8.2.1, w_8.2.2.1, w_8.2.2.2)) (F_X6_seat_4 tb pm ppn pss pb (upd pr 3 (-1)) ts wrt)) else ((fun (v_3 : Int32 × (Nat → Int32) × (Nat → Int32) × (Nat → Int32)) => (v_3.1, v_3.2.1, v_3.2.2.1, v_3.2.2.2)) (F_X6_seat_3_L43 tb ppn pss wrt ((tb + 1) - 0) 0 pm pb pr ts))) else ((fun (w_9 : Int32 × (Nat → Int32)) => (w_9.1, w_9.2, pr, ts)) (F_X6_keepIfBetter tb pm pb pr ts wrt)))
set_option maxHeartbeats 4000000 in
set_option maxRecDepth 100000 in
theorem e_X6_seat_3 (l : Launch) (pt : Nat) (tb : Nat) (pm : Int32) (p1 : Nat) (p2 : Nat) (p3 : Nat) (p4 : Nat) (ppn : Nat) (pss : Nat) (pb : Nat → Int32) (pr : Nat → Int32) (ts : Nat → Int32) (wrt : Nat → Int32) (hpn : ppn ≤ 6) (htb : tb ≤ 3) (hts : ∀ j, j < 6 → vp_in (ts j) 64) : ex_M l yX6_seat cX6_seat 4 none 5 132 [ex_r pt, ex_i 3, ex_i (nI tb)] [(pt, ex_o 6 [ex_i pm, ex_r p1, ex_r p2, ex_r p3, ex_r p4, ex_i (nI ppn), ex_i (nI pss)]), (p1, ex_a 1 6 pb), (p2, ex_a 1 6 pr), (p3, ex_a 1 6 ts), (p4, ex_a 1 64 wrt)] (fun zcs zr => zcs = [(pt, ex_o 6 [ex_i ((F_X6_seat_3 tb pm ppn pss pb pr ts wrt).1), ex_r p1, ex_r p2, ex_r p3, ex_r p4, ex_i (nI ppn), ex_i (nI pss)]), (p1, ex_a 1 6 ((F_X6_seat_3 tb pm ppn pss pb pr ts wrt).2.1)), (p2, ex_a 1 6 ((F_X6_seat_3 tb pm ppn pss pb pr ts wrt).2.2.1)), (p3, ex_a 1 6 ((F_X6_seat_3 tb pm ppn pss pb pr ts wrt).2.2.2)), (p4, ex_a 1 64 wrt)] ∧ zr = none ∧ (∀ j, j < 6 → vp_in (((F_X6_seat_3 tb pm ppn pss pb pr ts wrt)).2.2.2 j) 64)) := by
  refine X_meth (by decide) (Nat.le_of_ble_eq_true rfl) ?_
  generalize hV : F_X6_seat_3 tb pm ppn pss pb pr ts wrt = V0
  have hV := hV.symm
  unfold F_X6_seat_3 at hV
  try dsimp only at hV
  refine X_iload_n (j := 1) dX6_seat_0 rfl rfl ?_
  refine X_aload_n (j := 0) dX6_seat_1 rfl rfl ?_
  refine X_get (j := 0) fo_X6_28 dX6_seat_2 rfl rfl ?_
  refine X_icmp_lt (tgt := 14) dX6_seat_5 (by decide) (fun c_1 => ?_) (fun c_1 => ?_)
  · have hV := hV.trans (if_pos c_1)
    refine X_aload_n (j := 0) dX6_seat_14 rfl rfl ?_
    refine X_get (j := 0) fo_X6_31 dX6_seat_15 rfl rfl ?_
    refine X_iload_n (j := 1) dX6_seat_18 rfl rfl ?_
    refine X_ishr (v := ((nI pss) >>> (3 &&& 31))) dX6_seat_19 rfl ?_
    refine X_iconst (v := 1) dX6_seat_20 (by decide) ?_
    refine X_iand (v := (((nI pss) >>> (3 &&& 31)) &&& 1)) dX6_seat_21 rfl ?_
    refine X_if_ne (tgt := 41) dX6_seat_22 (by decide) (fun c_2 => ?_) (fun c_2 => ?_)
    · have hV := hV.trans (if_neg c_2)
      refine X_iconst (v := 0) dX6_seat_41 (by decide) ?_
      refine X_istore_n (lv' := [(3, ex_i 0), (0, ex_r pt), (1, ex_i 3), (2, ex_i (nI tb))]) dX6_seat_42 rfl (Nat.le_of_ble_eq_true rfl) rfl ?_
      -- loop at 43
      try dsimp only at hV
      generalize hq_v_3 : F_X6_seat_3_L43 tb ppn pss wrt ((tb + 1) - 0) 0 pm pb pr ts = v_3 at hV
      try dsimp only at hV
      refine X_cut (P := (∀ j, j < 6 → vp_in (v_3.2.2.2 j) 64)) (csE := [(pt, ex_o 6 [ex_i v_3.1, ex_r p1, ex_r p2, ex_r p3, ex_r p4, ex_i (nI ppn), ex_i (nI pss)]), (p1, ex_a 1 6 v_3.2.1), (p2, ex_a 1 6 v_3.2.2.1), (p3, ex_a 1 6 v_3.2.2.2), (p4, ex_a 1 64 wrt)]) (lvE := [(0, ex_r pt), (1, ex_i 3), (2, ex_i (nI tb))]) (E := 107) (fun hrest43 => ?_) (fun hPX43 => ?_)
      · have hL43 := hq_v_3.symm
        refine X_ind (fun (a43 : Nat × Int32 × (Nat → Int32) × (Nat → Int32) × (Nat → Int32)) => v_3 = F_X6_seat_3_L43 tb ppn pss wrt ((tb + 1) - a43.1) a43.1 a43.2.1 a43.2.2.1 a43.2.2.2.1 a43.2.2.2.2 ∧ a43.1 ≤ (tb + 1) ∧ ∀ j, j < 6 → vp_in (a43.2.2.2.2 j) 64) (fun (a43 : Nat × Int32 × (Nat → Int32) × (Nat → Int32) × (Nat → Int32)) => (tb + 1) - a43.1) (fun (a43 : Nat × Int32 × (Nat → Int32) × (Nat → Int32) × (Nat → Int32)) => [(pt, ex_o 6 [ex_i a43.2.1, ex_r p1, ex_r p2, ex_r p3, ex_r p4, ex_i (nI ppn), ex_i (nI pss)]), (p1, ex_a 1 6 a43.2.2.1), (p2, ex_a 1 6 a43.2.2.2.1), (p3, ex_a 1 6 a43.2.2.2.2), (p4, ex_a 1 64 wrt)]) (fun (a43 : Nat × Int32 × (Nat → Int32) × (Nat → Int32) × (Nat → Int32)) => [(3, ex_i (nI a43.1)), (0, ex_r pt), (1, ex_i 3), (2, ex_i (nI tb))]) (fun ⟨k43, s43_0, s43_1, s43_2, tz⟩ hI43 ih43 => ?_) (0, pm, pb, pr, ts) ⟨hL43, (by omega), hts⟩
        try dsimp only at hI43 ih43 ⊢
        have ihc43 : ∀ (k43_ : Nat) (s43_0_ : Int32) (s43_1_ : Nat → Int32) (s43_2_ : Nat → Int32) (tz_ : Nat → Int32), (v_3 = F_X6_seat_3_L43 tb ppn pss wrt ((tb + 1) - k43_) k43_ s43_0_ s43_1_ s43_2_ tz_ ∧ k43_ ≤ (tb + 1) ∧ ∀ j, j < 6 → vp_in (tz_ j) 64) → ((tb + 1) - k43_) < ((tb + 1) - k43) → ex_O _ _ _ _ _ _ _ _ _ [(pt, ex_o 6 [ex_i s43_0_, ex_r p1, ex_r p2, ex_r p3, ex_r p4, ex_i (nI ppn), ex_i (nI pss)]), (p1, ex_a 1 6 s43_1_), (p2, ex_a 1 6 s43_2_), (p3, ex_a 1 6 tz_), (p4, ex_a 1 64 wrt)] [(3, ex_i (nI k43_)), (0, ex_r pt), (1, ex_i 3), (2, ex_i (nI tb))] _ _ := fun k43_ s43_0_ s43_1_ s43_2_ tz_ hi_ hm_ => ih43 (k43_, s43_0_, s43_1_, s43_2_, tz_) hi_ hm_
        have hL43 := hI43.1
        have hb43 := hI43.2.1
        have hts43 := hI43.2.2
        refine X_iload_n (j := 0) dX6_seat_43 rfl rfl ?_
        refine X_iload_n (j := 3) dX6_seat_44 rfl rfl ?_
        refine X_icmp_gt (tgt := 107) dX6_seat_45 (by decide) (fun c_4 => ?_) (fun c_4 => ?_)
        · have hlt43 : k43 = (tb + 1) := ngtx (L := (tb + 1)) (by omega) hb43 c_4
          rw [show (tb + 1) - k43 = 0 by omega] at hL43
          have hL43 := hL43.trans (F_X6_seat_3_L43_z ..)
          try dsimp only at hL43
          refine X_lv (lv' := [(0, ex_r pt), (1, ex_i 3), (2, ex_i (nI tb))]) [1, 2, 3] rfl ?_
          refine X_eq (cs' := [(pt, ex_o 6 [ex_i v_3.1, ex_r p1, ex_r p2, ex_r p3, ex_r p4, ex_i (nI ppn), ex_i (nI pss)]), (p1, ex_a 1 6 v_3.2.1), (p2, ex_a 1 6 v_3.2.2.1), (p3, ex_a 1 6 v_3.2.2.2), (p4, ex_a 1 64 wrt)]) (lv' := [(0, ex_r pt), (1, ex_i 3), (2, ex_i (nI tb))]) (by subst hL43; rfl) (by subst hL43; rfl) ?_
          exact hrest43 (by subst hL43; exact hts43)
        · have hlt43 : k43 < (tb + 1) := ngti (L := (tb + 1)) (by omega) hb43 c_4
          rw [show (tb + 1) - k43 = ((tb + 1) - (k43 + 1)) + 1 by omega] at hL43
          have hL43 := hL43.trans (F_X6_seat_3_L43_s ..)
          refine X_iload_n (j := 0) dX6_seat_48 rfl rfl ?_
          refine X_bipush (v := 6) dX6_seat_49 (by decide) ?_
          refine X_icmp_ge (tgt := 107) dX6_seat_51 (by decide) (fun c_ => absurd c_ (nI_ge (a := k43) (b := 6) (by omega) (by decide))) (fun _ => ?_)
          refine X_aload_n (j := 1) dX6_seat_54 rfl rfl ?_
          refine X_get (j := 0) fo_X6_19 dX6_seat_55 rfl rfl ?_
          refine X_iload_n (j := 2) dX6_seat_58 rfl rfl ?_
          refine X_iload_n (j := 0) dX6_seat_59 rfl rfl ?_
          refine X_iast (j := 2) (g := upd s43_2 3 (nI k43)) (cs' := [(pt, ex_o 6 [ex_i s43_0, ex_r p1, ex_r p2, ex_r p3, ex_r p4, ex_i (nI ppn), ex_i (nI pss)]), (p1, ex_a 1 6 s43_1), (p2, ex_a 1 6 (upd s43_2 3 (nI k43))), (p3, ex_a 1 6 tz), (p4, ex_a 1 64 wrt)]) dX6_seat_60 rfl (vin (by decide)) rfl rfl ?_
          refine X_aload_n (j := 1) dX6_seat_61 rfl rfl ?_
          refine X_get (j := 0) fo_X6_22 dX6_seat_62 rfl rfl ?_
          refine X_iload_n (j := 0) dX6_seat_65 rfl rfl ?_
          refine X_dup2_11 dX6_seat_66 rfl rfl ?_
          refine X_iald (j := 3) (v := (tz k43)) dX6_seat_67 rfl (vp_in_nI (show k43 < 6 by omega) (by decide)) (by rw [nI_clamp (by omega)]) ?_
          refine X_iconst (v := 1) dX6_seat_68 (by decide) ?_
          refine X_iload_n (j := 2) dX6_seat_69 rfl rfl ?_
          refine X_ishl (v := 8) dX6_seat_70 (by decide) ?_
          refine X_ior (v := ((tz k43) ||| 8)) dX6_seat_71 rfl ?_
          refine X_iast (j := 3) (g := upd tz k43 ((tz k43) ||| 8)) (cs' := [(pt, ex_o 6 [ex_i s43_0, ex_r p1, ex_r p2, ex_r p3, ex_r p4, ex_i (nI ppn), ex_i (nI pss)]), (p1, ex_a 1 6 s43_1), (p2, ex_a 1 6 (upd s43_2 3 (nI k43))), (p3, ex_a 1 6 (upd tz k43 ((tz k43) ||| 8))), (p4, ex_a 1 64 wrt)]) dX6_seat_72 rfl (vp_in_nI (show k43 < 6 by omega) (by decide)) (by rw [nI_clamp (by omega)]) rfl ?_
          refine X_aload_n (j := 1) dX6_seat_73 rfl rfl ?_
          refine X_iload_n (j := 2) dX6_seat_74 rfl rfl ?_
          refine X_iconst (v := 1) dX6_seat_75 (by decide) ?_
          refine X_iadd (v := 4) dX6_seat_76 (by decide) ?_
          refine X_iload_n (j := 3) dX6_seat_77 rfl rfl ?_
          refine X_iload_n (j := 0) dX6_seat_78 rfl rfl ?_
          refine X_iconst (v := 1) dX6_seat_79 (by decide) ?_
          refine X_iadd (v := nI (k43 + 1)) dX6_seat_80 (nI_add k43 1) ?_
          refine X_mmax (v := nI (max tb (k43 + 1))) k_1069 k_561 k_17 k_562 ⟨(Nat.le_of_ble_eq_true rfl), (Nat.le_of_ble_eq_true rfl)⟩ (Nat.le_of_ble_eq_true rfl) dX6_seat_81 (nI_max (a := tb) (b := k43 + 1) (by omega) (by omega)) ?_
          refine X_callV (j0 := 0) (rest := []) (stk := []) co_X6_47 rfl ⟨(Nat.le_of_ble_eq_true rfl), (Nat.le_of_ble_eq_true rfl)⟩ (e_X6_seat_4 l pt (max tb (k43 + 1)) s43_0 p1 p2 p3 p4 ppn pss s43_1 (upd s43_2 3 (nI k43)) (upd tz k43 ((tz k43) ||| 8)) wrt (by first | assumption | omega) (by first | assumption | omega) (ts_upd hts43 (by omega) (vp_or6 (hts43 k43 (by omega)) (by decide)))) dX6_seat_84 [0, 1, 2, 3, 4] (show List.Perm [0, 1, 2, 3, 4] (List.range 5) from by decide) rfl rfl rfl rfl (Nat.le_of_ble_eq_true rfl) (fun zc1 zr hq hk => ?_)
          obtain ⟨rfl, rfl, he0_e_5⟩ := hq
          try dsimp only at hL43
          generalize hq_w_6 : F_X6_seat_4 (max tb (k43 + 1)) s43_0 ppn pss s43_1 (upd s43_2 3 (nI k43)) (upd tz k43 ((tz k43) ||| 8)) wrt = w_6 at hL43 he0_e_5 ⊢
          try dsimp only at hL43
          refine X_aload_n (j := 1) dX6_seat_87 rfl rfl ?_
          refine X_get (j := 0) fo_X6_22 dX6_seat_88 rfl rfl ?_
          refine X_iload_n (j := 0) dX6_seat_91 rfl rfl ?_
          refine X_dup2_11 dX6_seat_92 rfl rfl ?_
          refine X_iald (j := 3) (v := (w_6.2.2.2 k43)) dX6_seat_93 rfl (vp_in_nI (show k43 < 6 by omega) (by decide)) (by rw [nI_clamp (by omega)]) ?_
          refine X_iconst (v := 1) dX6_seat_94 (by decide) ?_
          refine X_iload_n (j := 2) dX6_seat_95 rfl rfl ?_
          refine X_ishl (v := 8) dX6_seat_96 (by decide) ?_
          refine X_iconst (v := (-1)) dX6_seat_97 (by decide) ?_
          refine X_ixor (v := (-9)) dX6_seat_98 (by decide) ?_
          refine X_iand (v := ((w_6.2.2.2 k43) &&& (-9))) dX6_seat_99 rfl ?_
          refine X_iast (j := 3) (g := upd w_6.2.2.2 k43 ((w_6.2.2.2 k43) &&& (-9))) (cs' := [(pt, ex_o 6 [ex_i w_6.1, ex_r p1, ex_r p2, ex_r p3, ex_r p4, ex_i (nI ppn), ex_i (nI pss)]), (p1, ex_a 1 6 w_6.2.1), (p2, ex_a 1 6 w_6.2.2.1), (p3, ex_a 1 6 (upd w_6.2.2.2 k43 ((w_6.2.2.2 k43) &&& (-9)))), (p4, ex_a 1 64 wrt)]) dX6_seat_100 rfl (vp_in_nI (show k43 < 6 by omega) (by decide)) (by rw [nI_clamp (by omega)]) rfl ?_
          refine X_iinc (v := nI (k43 + 1)) (j := 0) (lv' := [(3, ex_i (nI (k43 + 1))), (0, ex_r pt), (1, ex_i 3), (2, ex_i (nI tb))]) dX6_seat_101 rfl (nI_add k43 1) (Nat.le_of_ble_eq_true rfl) rfl ?_
          refine X_goto (tgt := 43) dX6_seat_104 (by decide) ?_
          try dsimp only at hL43
          exact ihc43 (k43 + 1) w_6.1 w_6.2.1 w_6.2.2.1 (upd w_6.2.2.2 k43 ((w_6.2.2.2 k43) &&& (-9))) ⟨hL43, (show (k43 + 1) ≤ (tb + 1) by omega), (ts_upd he0_e_5 (by omega) (vp_an6 (he0_e_5 k43 (by omega)) (by decide)))⟩ (show (tb + 1) - (k43 + 1) < (tb + 1) - k43 by omega)
      have hts43_x := hPX43
      try dsimp only at hV
      exact X_vret dX6_seat_107 (by (repeat refine ex_kc ?_) <;> rfl) (by subst hV; exact ⟨rfl, rfl, hts43_x⟩)
    · have hV := hV.trans (if_pos c_2)
      refine X_aload_n (j := 0) dX6_seat_25 rfl rfl ?_
      refine X_get (j := 0) fo_X6_19 dX6_seat_26 rfl rfl ?_
      refine X_iload_n (j := 1) dX6_seat_29 rfl rfl ?_
      refine X_iconst (v := (-1)) dX6_seat_30 (by decide) ?_
      refine X_iast (j := 2) (g := upd pr 3 (-1)) (cs' := [(pt, ex_o 6 [ex_i pm, ex_r p1, ex_r p2, ex_r p3, ex_r p4, ex_i (nI ppn), ex_i (nI pss)]), (p1, ex_a 1 6 pb), (p2, ex_a 1 6 (upd pr 3 (-1))), (p3, ex_a 1 6 ts), (p4, ex_a 1 64 wrt)]) dX6_seat_31 rfl (vin (by decide)) rfl rfl ?_
      refine X_aload_n (j := 0) dX6_seat_32 rfl rfl ?_
      refine X_iload_n (j := 1) dX6_seat_33 rfl rfl ?_
      refine X_iconst (v := 1) dX6_seat_34 (by decide) ?_
      refine X_iadd (v := 4) dX6_seat_35 (by decide) ?_
      refine X_iload_n (j := 2) dX6_seat_36 rfl rfl ?_
      refine X_callV (j0 := 0) (rest := []) (stk := []) co_X6_47 rfl ⟨(Nat.le_of_ble_eq_true rfl), (Nat.le_of_ble_eq_true rfl)⟩ (e_X6_seat_4 l pt tb pm p1 p2 p3 p4 ppn pss pb (upd pr 3 (-1)) ts wrt (by first | assumption | omega) (by first | assumption | omega) hts) dX6_seat_37 [0, 1, 2, 3, 4] (show List.Perm [0, 1, 2, 3, 4] (List.range 5) from by decide) rfl rfl rfl rfl (Nat.le_of_ble_eq_true rfl) (fun zc1 zr hq hk => ?_)
      obtain ⟨rfl, rfl, he0_e_7⟩ := hq
      try dsimp only at hV
      generalize hq_w_8 : F_X6_seat_4 tb pm ppn pss pb (upd pr 3 (-1)) ts wrt = w_8 at hV he0_e_7 ⊢
      try dsimp only at hV
      try dsimp only at hV
      exact X_vret dX6_seat_40 (by (repeat refine ex_kc ?_) <;> rfl) (by subst hV; exact ⟨rfl, rfl, he0_e_7⟩)
  · have hV := hV.trans (if_neg c_1)
    refine X_aload_n (j := 0) dX6_seat_8 rfl rfl ?_
    refine X_iload_n (j := 2) dX6_seat_9 rfl rfl ?_
    refine X_callV (j0 := 0) (rest := []) (stk := []) co_X6_65 rfl ⟨(Nat.le_of_ble_eq_true rfl), (Nat.le_of_ble_eq_true rfl)⟩ (e_X6_keepIfBetter l pt tb pm p1 p2 p3 p4 ppn pss pb pr ts wrt (by first | assumption | omega) (by first | assumption | omega)) dX6_seat_10 [0, 1, 2, 3, 4] (show List.Perm [0, 1, 2, 3, 4] (List.range 5) from by decide) rfl rfl rfl rfl (Nat.le_of_ble_eq_true rfl) (fun zc1 zr hq hk => ?_)
    obtain ⟨rfl, rfl⟩ := hq
    try dsimp only at hV
    generalize hq_w_9 : F_X6_keepIfBetter tb pm pb pr ts wrt = w_9 at hV ⊢
    try dsimp only at hV
    try dsimp only at hV
    exact X_vret dX6_seat_13 (by (repeat refine ex_kc ?_) <;> rfl) (by subst hV; exact ⟨rfl, rfl, hts⟩)

def F_X6_seat_2_L43 (tb : Nat) (ppn : Nat) (pss : Nat) (wrt : Nat → Int32) : Nat → Nat → Int32 → (Nat → Int32) → (Nat → Int32) → (Nat → Int32) → Int32 × (Nat → Int32) × (Nat → Int32) × (Nat → Int32)
  | 0, k43, s43_0, s43_1, s43_2, tz => (s43_0, s43_1, s43_2, tz)
  | zn + 1, k43, s43_0, s43_1, s43_2, tz => ((fun (w_6 : Int32 × (Nat → Int32) × (Nat → Int32) × (Nat → Int32)) => F_X6_seat_2_L43 tb ppn pss wrt zn (k43 + 1) w_6.1 w_6.2.1 w_6.2.2.1 (upd w_6.2.2.2 k43 ((w_6.2.2.2 k43) &&& (-5)))) (F_X6_seat_3 (max tb (k43 + 1)) s43_0 ppn pss s43_1 (upd s43_2 2 (nI k43)) (upd tz k43 ((tz k43) ||| 4)) wrt))
theorem F_X6_seat_2_L43_z (tb : Nat) (ppn : Nat) (pss : Nat) (wrt : Nat → Int32) (k43 : Nat) (s43_0 : Int32) (s43_1 : Nat → Int32) (s43_2 : Nat → Int32) (tz : Nat → Int32) : F_X6_seat_2_L43 tb ppn pss wrt 0 k43 s43_0 s43_1 s43_2 tz = (s43_0, s43_1, s43_2, tz) := rfl
theorem F_X6_seat_2_L43_s (tb : Nat) (ppn : Nat) (pss : Nat) (wrt : Nat → Int32) (k43 : Nat) (s43_0 : Int32) (s43_1 : Nat → Int32) (s43_2 : Nat → Int32) (tz : Nat → Int32) (zn : Nat) : F_X6_seat_2_L43 tb ppn pss wrt (zn + 1) k43 s43_0 s43_1 s43_2 tz = ((fun (w_6 : Int32 × (Nat → Int32) × (Nat → Int32) × (Nat → Int32)) => F_X6_seat_2_L43 tb ppn pss wrt zn (k43 + 1) w_6.1 w_6.2.1 w_6.2.2.1 (upd w_6.2.2.2 k43 ((w_6.2.2.2 k43) &&& (-5)))) (F_X6_seat_3 (max tb (k43 + 1)) s43_0 ppn pss s43_1 (upd s43_2 2 (nI k43)) (upd tz k43 ((tz k43) ||| 4)) wrt)) := rfl
def F_X6_seat_2 (tb : Nat) (pm : Int32) (ppn : Nat) (pss : Nat) (pb : Nat → Int32) (pr : Nat → Int32) (ts : Nat → Int32) (wrt : Nat → Int32) : Int32 × (Nat → Int32) × (Nat → Int32) × (Nat → Int32) := (if 2 < (nI ppn) then (if (((nI pss) >>> (2 &&& 31)) &&& 1) = 0 then ((fun (w_8 : Int32 × (Nat → Int32) × (Nat → Int32) × (Nat → Int32)) => (w_8.1, w_8.2.1, w_8.2.2.1, w_8.2.2.2)) (F_X6_seat_3 tb pm ppn pss pb (upd pr 2 (-1)) ts wrt)) else ((fun (v_3 : Int32 × (Nat → Int32) × (Nat → Int32) × (Nat → Int32)) => (v_3.1, v_3.2.1, v_3.2.2.1, v_3.2.2.2)) (F_X6_seat_2_L43 tb ppn pss wrt ((tb + 1) - 0) 0 pm pb pr ts))) else ((fun (w_9 : Int32 × (Nat → Int32)) => (w_9.1, w_9.2, pr, ts)) (F_X6_keepIfBetter tb pm pb pr ts wrt)))
set_option maxHeartbeats 4000000 in
set_option maxRecDepth 100000 in
theorem e_X6_seat_2 (l : Launch) (pt : Nat) (tb : Nat) (pm : Int32) (p1 : Nat) (p2 : Nat) (p3 : Nat) (p4 : Nat) (ppn : Nat) (pss : Nat) (pb : Nat → Int32) (pr : Nat → Int32) (ts : Nat → Int32) (wrt : Nat → Int32) (hpn : ppn ≤ 6) (htb : tb ≤ 2) (hts : ∀ j, j < 6 → vp_in (ts j) 64) : ex_M l yX6_seat cX6_seat 4 none 6 155 [ex_r pt, ex_i 2, ex_i (nI tb)] [(pt, ex_o 6 [ex_i pm, ex_r p1, ex_r p2, ex_r p3, ex_r p4, ex_i (nI ppn), ex_i (nI pss)]), (p1, ex_a 1 6 pb), (p2, ex_a 1 6 pr), (p3, ex_a 1 6 ts), (p4, ex_a 1 64 wrt)] (fun zcs zr => zcs = [(pt, ex_o 6 [ex_i ((F_X6_seat_2 tb pm ppn pss pb pr ts wrt).1), ex_r p1, ex_r p2, ex_r p3, ex_r p4, ex_i (nI ppn), ex_i (nI pss)]), (p1, ex_a 1 6 ((F_X6_seat_2 tb pm ppn pss pb pr ts wrt).2.1)), (p2, ex_a 1 6 ((F_X6_seat_2 tb pm ppn pss pb pr ts wrt).2.2.1)), (p3, ex_a 1 6 ((F_X6_seat_2 tb pm ppn pss pb pr ts wrt).2.2.2)), (p4, ex_a 1 64 wrt)] ∧ zr = none ∧ (∀ j, j < 6 → vp_in (((F_X6_seat_2 tb pm ppn pss pb pr ts wrt)).2.2.2 j) 64)) := by
  refine X_meth (by decide) (Nat.le_of_ble_eq_true rfl) ?_
  generalize hV : F_X6_seat_2 tb pm ppn pss pb pr ts wrt = V0
  have hV := hV.symm
  unfold F_X6_seat_2 at hV
  try dsimp only at hV
  refine X_iload_n (j := 1) dX6_seat_0 rfl rfl ?_
  refine X_aload_n (j := 0) dX6_seat_1 rfl rfl ?_
  refine X_get (j := 0) fo_X6_28 dX6_seat_2 rfl rfl ?_
  refine X_icmp_lt (tgt := 14) dX6_seat_5 (by decide) (fun c_1 => ?_) (fun c_1 => ?_)
  · have hV := hV.trans (if_pos c_1)
    refine X_aload_n (j := 0) dX6_seat_14 rfl rfl ?_
    refine X_get (j := 0) fo_X6_31 dX6_seat_15 rfl rfl ?_
    refine X_iload_n (j := 1) dX6_seat_18 rfl rfl ?_
    refine X_ishr (v := ((nI pss) >>> (2 &&& 31))) dX6_seat_19 rfl ?_
    refine X_iconst (v := 1) dX6_seat_20 (by decide) ?_
    refine X_iand (v := (((nI pss) >>> (2 &&& 31)) &&& 1)) dX6_seat_21 rfl ?_
    refine X_if_ne (tgt := 41) dX6_seat_22 (by decide) (fun c_2 => ?_) (fun c_2 => ?_)
    · have hV := hV.trans (if_neg c_2)
      refine X_iconst (v := 0) dX6_seat_41 (by decide) ?_
      refine X_istore_n (lv' := [(3, ex_i 0), (0, ex_r pt), (1, ex_i 2), (2, ex_i (nI tb))]) dX6_seat_42 rfl (Nat.le_of_ble_eq_true rfl) rfl ?_
      -- loop at 43
      try dsimp only at hV
      generalize hq_v_3 : F_X6_seat_2_L43 tb ppn pss wrt ((tb + 1) - 0) 0 pm pb pr ts = v_3 at hV
      try dsimp only at hV
      refine X_cut (P := (∀ j, j < 6 → vp_in (v_3.2.2.2 j) 64)) (csE := [(pt, ex_o 6 [ex_i v_3.1, ex_r p1, ex_r p2, ex_r p3, ex_r p4, ex_i (nI ppn), ex_i (nI pss)]), (p1, ex_a 1 6 v_3.2.1), (p2, ex_a 1 6 v_3.2.2.1), (p3, ex_a 1 6 v_3.2.2.2), (p4, ex_a 1 64 wrt)]) (lvE := [(0, ex_r pt), (1, ex_i 2), (2, ex_i (nI tb))]) (E := 107) (fun hrest43 => ?_) (fun hPX43 => ?_)
      · have hL43 := hq_v_3.symm
        refine X_ind (fun (a43 : Nat × Int32 × (Nat → Int32) × (Nat → Int32) × (Nat → Int32)) => v_3 = F_X6_seat_2_L43 tb ppn pss wrt ((tb + 1) - a43.1) a43.1 a43.2.1 a43.2.2.1 a43.2.2.2.1 a43.2.2.2.2 ∧ a43.1 ≤ (tb + 1) ∧ ∀ j, j < 6 → vp_in (a43.2.2.2.2 j) 64) (fun (a43 : Nat × Int32 × (Nat → Int32) × (Nat → Int32) × (Nat → Int32)) => (tb + 1) - a43.1) (fun (a43 : Nat × Int32 × (Nat → Int32) × (Nat → Int32) × (Nat → Int32)) => [(pt, ex_o 6 [ex_i a43.2.1, ex_r p1, ex_r p2, ex_r p3, ex_r p4, ex_i (nI ppn), ex_i (nI pss)]), (p1, ex_a 1 6 a43.2.2.1), (p2, ex_a 1 6 a43.2.2.2.1), (p3, ex_a 1 6 a43.2.2.2.2), (p4, ex_a 1 64 wrt)]) (fun (a43 : Nat × Int32 × (Nat → Int32) × (Nat → Int32) × (Nat → Int32)) => [(3, ex_i (nI a43.1)), (0, ex_r pt), (1, ex_i 2), (2, ex_i (nI tb))]) (fun ⟨k43, s43_0, s43_1, s43_2, tz⟩ hI43 ih43 => ?_) (0, pm, pb, pr, ts) ⟨hL43, (by omega), hts⟩
        try dsimp only at hI43 ih43 ⊢
        have ihc43 : ∀ (k43_ : Nat) (s43_0_ : Int32) (s43_1_ : Nat → Int32) (s43_2_ : Nat → Int32) (tz_ : Nat → Int32), (v_3 = F_X6_seat_2_L43 tb ppn pss wrt ((tb + 1) - k43_) k43_ s43_0_ s43_1_ s43_2_ tz_ ∧ k43_ ≤ (tb + 1) ∧ ∀ j, j < 6 → vp_in (tz_ j) 64) → ((tb + 1) - k43_) < ((tb + 1) - k43) → ex_O _ _ _ _ _ _ _ _ _ [(pt, ex_o 6 [ex_i s43_0_, ex_r p1, ex_r p2, ex_r p3, ex_r p4, ex_i (nI ppn), ex_i (nI pss)]), (p1, ex_a 1 6 s43_1_), (p2, ex_a 1 6 s43_2_), (p3, ex_a 1 6 tz_), (p4, ex_a 1 64 wrt)] [(3, ex_i (nI k43_)), (0, ex_r pt), (1, ex_i 2), (2, ex_i (nI tb))] _ _ := fun k43_ s43_0_ s43_1_ s43_2_ tz_ hi_ hm_ => ih43 (k43_, s43_0_, s43_1_, s43_2_, tz_) hi_ hm_
        have hL43 := hI43.1
        have hb43 := hI43.2.1
        have hts43 := hI43.2.2
        refine X_iload_n (j := 0) dX6_seat_43 rfl rfl ?_
        refine X_iload_n (j := 3) dX6_seat_44 rfl rfl ?_
        refine X_icmp_gt (tgt := 107) dX6_seat_45 (by decide) (fun c_4 => ?_) (fun c_4 => ?_)
        · have hlt43 : k43 = (tb + 1) := ngtx (L := (tb + 1)) (by omega) hb43 c_4
          rw [show (tb + 1) - k43 = 0 by omega] at hL43
          have hL43 := hL43.trans (F_X6_seat_2_L43_z ..)
          try dsimp only at hL43
          refine X_lv (lv' := [(0, ex_r pt), (1, ex_i 2), (2, ex_i (nI tb))]) [1, 2, 3] rfl ?_
          refine X_eq (cs' := [(pt, ex_o 6 [ex_i v_3.1, ex_r p1, ex_r p2, ex_r p3, ex_r p4, ex_i (nI ppn), ex_i (nI pss)]), (p1, ex_a 1 6 v_3.2.1), (p2, ex_a 1 6 v_3.2.2.1), (p3, ex_a 1 6 v_3.2.2.2), (p4, ex_a 1 64 wrt)]) (lv' := [(0, ex_r pt), (1, ex_i 2), (2, ex_i (nI tb))]) (by subst hL43; rfl) (by subst hL43; rfl) ?_
          exact hrest43 (by subst hL43; exact hts43)
        · have hlt43 : k43 < (tb + 1) := ngti (L := (tb + 1)) (by omega) hb43 c_4
          rw [show (tb + 1) - k43 = ((tb + 1) - (k43 + 1)) + 1 by omega] at hL43
          have hL43 := hL43.trans (F_X6_seat_2_L43_s ..)
          refine X_iload_n (j := 0) dX6_seat_48 rfl rfl ?_
          refine X_bipush (v := 6) dX6_seat_49 (by decide) ?_
          refine X_icmp_ge (tgt := 107) dX6_seat_51 (by decide) (fun c_ => absurd c_ (nI_ge (a := k43) (b := 6) (by omega) (by decide))) (fun _ => ?_)
          refine X_aload_n (j := 1) dX6_seat_54 rfl rfl ?_
          refine X_get (j := 0) fo_X6_19 dX6_seat_55 rfl rfl ?_
          refine X_iload_n (j := 2) dX6_seat_58 rfl rfl ?_
          refine X_iload_n (j := 0) dX6_seat_59 rfl rfl ?_
          refine X_iast (j := 2) (g := upd s43_2 2 (nI k43)) (cs' := [(pt, ex_o 6 [ex_i s43_0, ex_r p1, ex_r p2, ex_r p3, ex_r p4, ex_i (nI ppn), ex_i (nI pss)]), (p1, ex_a 1 6 s43_1), (p2, ex_a 1 6 (upd s43_2 2 (nI k43))), (p3, ex_a 1 6 tz), (p4, ex_a 1 64 wrt)]) dX6_seat_60 rfl (vin (by decide)) rfl rfl ?_
          refine X_aload_n (j := 1) dX6_seat_61 rfl rfl ?_
          refine X_get (j := 0) fo_X6_22 dX6_seat_62 rfl rfl ?_
          refine X_iload_n (j := 0) dX6_seat_65 rfl rfl ?_
          refine X_dup2_11 dX6_seat_66 rfl rfl ?_
          refine X_iald (j := 3) (v := (tz k43)) dX6_seat_67 rfl (vp_in_nI (show k43 < 6 by omega) (by decide)) (by rw [nI_clamp (by omega)]) ?_
          refine X_iconst (v := 1) dX6_seat_68 (by decide) ?_
          refine X_iload_n (j := 2) dX6_seat_69 rfl rfl ?_
          refine X_ishl (v := 4) dX6_seat_70 (by decide) ?_
          refine X_ior (v := ((tz k43) ||| 4)) dX6_seat_71 rfl ?_
          refine X_iast (j := 3) (g := upd tz k43 ((tz k43) ||| 4)) (cs' := [(pt, ex_o 6 [ex_i s43_0, ex_r p1, ex_r p2, ex_r p3, ex_r p4, ex_i (nI ppn), ex_i (nI pss)]), (p1, ex_a 1 6 s43_1), (p2, ex_a 1 6 (upd s43_2 2 (nI k43))), (p3, ex_a 1 6 (upd tz k43 ((tz k43) ||| 4))), (p4, ex_a 1 64 wrt)]) dX6_seat_72 rfl (vp_in_nI (show k43 < 6 by omega) (by decide)) (by rw [nI_clamp (by omega)]) rfl ?_
          refine X_aload_n (j := 1) dX6_seat_73 rfl rfl ?_
          refine X_iload_n (j := 2) dX6_seat_74 rfl rfl ?_
          refine X_iconst (v := 1) dX6_seat_75 (by decide) ?_
          refine X_iadd (v := 3) dX6_seat_76 (by decide) ?_
          refine X_iload_n (j := 3) dX6_seat_77 rfl rfl ?_
          refine X_iload_n (j := 0) dX6_seat_78 rfl rfl ?_
          refine X_iconst (v := 1) dX6_seat_79 (by decide) ?_
          refine X_iadd (v := nI (k43 + 1)) dX6_seat_80 (nI_add k43 1) ?_
          refine X_mmax (v := nI (max tb (k43 + 1))) k_1069 k_561 k_17 k_562 ⟨(Nat.le_of_ble_eq_true rfl), (Nat.le_of_ble_eq_true rfl)⟩ (Nat.le_of_ble_eq_true rfl) dX6_seat_81 (nI_max (a := tb) (b := k43 + 1) (by omega) (by omega)) ?_
          refine X_callV (j0 := 0) (rest := []) (stk := []) co_X6_47 rfl ⟨(Nat.le_of_ble_eq_true rfl), (Nat.le_of_ble_eq_true rfl)⟩ (e_X6_seat_3 l pt (max tb (k43 + 1)) s43_0 p1 p2 p3 p4 ppn pss s43_1 (upd s43_2 2 (nI k43)) (upd tz k43 ((tz k43) ||| 4)) wrt (by first | assumption | omega) (by first | assumption | omega) (ts_upd hts43 (by omega) (vp_or6 (hts43 k43 (by omega)) (by decide)))) dX6_seat_84 [0, 1, 2, 3, 4] (show List.Perm [0, 1, 2, 3, 4] (List.range 5) from by decide) rfl rfl rfl rfl (Nat.le_of_ble_eq_true rfl) (fun zc1 zr hq hk => ?_)
          obtain ⟨rfl, rfl, he0_e_5⟩ := hq
          try dsimp only at hL43
          generalize hq_w_6 : F_X6_seat_3 (max tb (k43 + 1)) s43_0 ppn pss s43_1 (upd s43_2 2 (nI k43)) (upd tz k43 ((tz k43) ||| 4)) wrt = w_6 at hL43 he0_e_5 ⊢
          try dsimp only at hL43
          refine X_aload_n (j := 1) dX6_seat_87 rfl rfl ?_
          refine X_get (j := 0) fo_X6_22 dX6_seat_88 rfl rfl ?_
          refine X_iload_n (j := 0) dX6_seat_91 rfl rfl ?_
          refine X_dup2_11 dX6_seat_92 rfl rfl ?_
          refine X_iald (j := 3) (v := (w_6.2.2.2 k43)) dX6_seat_93 rfl (vp_in_nI (show k43 < 6 by omega) (by decide)) (by rw [nI_clamp (by omega)]) ?_
          refine X_iconst (v := 1) dX6_seat_94 (by decide) ?_
          refine X_iload_n (j := 2) dX6_seat_95 rfl rfl ?_
          refine X_ishl (v := 4) dX6_seat_96 (by decide) ?_
          refine X_iconst (v := (-1)) dX6_seat_97 (by decide) ?_
          refine X_ixor (v := (-5)) dX6_seat_98 (by decide) ?_
          refine X_iand (v := ((w_6.2.2.2 k43) &&& (-5))) dX6_seat_99 rfl ?_
          refine X_iast (j := 3) (g := upd w_6.2.2.2 k43 ((w_6.2.2.2 k43) &&& (-5))) (cs' := [(pt, ex_o 6 [ex_i w_6.1, ex_r p1, ex_r p2, ex_r p3, ex_r p4, ex_i (nI ppn), ex_i (nI pss)]), (p1, ex_a 1 6 w_6.2.1), (p2, ex_a 1 6 w_6.2.2.1), (p3, ex_a 1 6 (upd w_6.2.2.2 k43 ((w_6.2.2.2 k43) &&& (-5)))), (p4, ex_a 1 64 wrt)]) dX6_seat_100 rfl (vp_in_nI (show k43 < 6 by omega) (by decide)) (by rw [nI_clamp (by omega)]) rfl ?_
          refine X_iinc (v := nI (k43 + 1)) (j := 0) (lv' := [(3, ex_i (nI (k43 + 1))), (0, ex_r pt), (1, ex_i 2), (2, ex_i (nI tb))]) dX6_seat_101 rfl (nI_add k43 1) (Nat.le_of_ble_eq_true rfl) rfl ?_
          refine X_goto (tgt := 43) dX6_seat_104 (by decide) ?_
          try dsimp only at hL43
          exact ihc43 (k43 + 1) w_6.1 w_6.2.1 w_6.2.2.1 (upd w_6.2.2.2 k43 ((w_6.2.2.2 k43) &&& (-5))) ⟨hL43, (show (k43 + 1) ≤ (tb + 1) by omega), (ts_upd he0_e_5 (by omega) (vp_an6 (he0_e_5 k43 (by omega)) (by decide)))⟩ (show (tb + 1) - (k43 + 1) < (tb + 1) - k43 by omega)
      have hts43_x := hPX43
      try dsimp only at hV
      exact X_vret dX6_seat_107 (by (repeat refine ex_kc ?_) <;> rfl) (by subst hV; exact ⟨rfl, rfl, hts43_x⟩)
    · have hV := hV.trans (if_pos c_2)
      refine X_aload_n (j := 0) dX6_seat_25 rfl rfl ?_
      refine X_get (j := 0) fo_X6_19 dX6_seat_26 rfl rfl ?_
      refine X_iload_n (j := 1) dX6_seat_29 rfl rfl ?_
      refine X_iconst (v := (-1)) dX6_seat_30 (by decide) ?_
      refine X_iast (j := 2) (g := upd pr 2 (-1)) (cs' := [(pt, ex_o 6 [ex_i pm, ex_r p1, ex_r p2, ex_r p3, ex_r p4, ex_i (nI ppn), ex_i (nI pss)]), (p1, ex_a 1 6 pb), (p2, ex_a 1 6 (upd pr 2 (-1))), (p3, ex_a 1 6 ts), (p4, ex_a 1 64 wrt)]) dX6_seat_31 rfl (vin (by decide)) rfl rfl ?_
      refine X_aload_n (j := 0) dX6_seat_32 rfl rfl ?_
      refine X_iload_n (j := 1) dX6_seat_33 rfl rfl ?_
      refine X_iconst (v := 1) dX6_seat_34 (by decide) ?_
      refine X_iadd (v := 3) dX6_seat_35 (by decide) ?_
      refine X_iload_n (j := 2) dX6_seat_36 rfl rfl ?_
      refine X_callV (j0 := 0) (rest := []) (stk := []) co_X6_47 rfl ⟨(Nat.le_of_ble_eq_true rfl), (Nat.le_of_ble_eq_true rfl)⟩ (e_X6_seat_3 l pt tb pm p1 p2 p3 p4 ppn pss pb (upd pr 2 (-1)) ts wrt (by first | assumption | omega) (by first | assumption | omega) hts) dX6_seat_37 [0, 1, 2, 3, 4] (show List.Perm [0, 1, 2, 3, 4] (List.range 5) from by decide) rfl rfl rfl rfl (Nat.le_of_ble_eq_true rfl) (fun zc1 zr hq hk => ?_)
      obtain ⟨rfl, rfl, he0_e_7⟩ := hq
      try dsimp only at hV
      generalize hq_w_8 : F_X6_seat_3 tb pm ppn pss pb (upd pr 2 (-1)) ts wrt = w_8 at hV he0_e_7 ⊢
      try dsimp only at hV
      try dsimp only at hV
      exact X_vret dX6_seat_40 (by (repeat refine ex_kc ?_) <;> rfl) (by subst hV; exact ⟨rfl, rfl, he0_e_7⟩)
  · have hV := hV.trans (if_neg c_1)
    refine X_aload_n (j := 0) dX6_seat_8 rfl rfl ?_
    refine X_iload_n (j := 2) dX6_seat_9 rfl rfl ?_
    refine X_callV (j0 := 0) (rest := []) (stk := []) co_X6_65 rfl ⟨(Nat.le_of_ble_eq_true rfl), (Nat.le_of_ble_eq_true rfl)⟩ (e_X6_keepIfBetter l pt tb pm p1 p2 p3 p4 ppn pss pb pr ts wrt (by first | assumption | omega) (by first | assumption | omega)) dX6_seat_10 [0, 1, 2, 3, 4] (show List.Perm [0, 1, 2, 3, 4] (List.range 5) from by decide) rfl rfl rfl rfl (Nat.le_of_ble_eq_true rfl) (fun zc1 zr hq hk => ?_)
    obtain ⟨rfl, rfl⟩ := hq
    try dsimp only at hV
    generalize hq_w_9 : F_X6_keepIfBetter tb pm pb pr ts wrt = w_9 at hV ⊢
    try dsimp only at hV
    try dsimp only at hV
    exact X_vret dX6_seat_13 (by (repeat refine ex_kc ?_) <;> rfl) (by subst hV; exact ⟨rfl, rfl, hts⟩)

def F_X6_seat_1_L43 (tb : Nat) (ppn : Nat) (pss : Nat) (wrt : Nat → Int32) : Nat → Nat → Int32 → (Nat → Int32) → (Nat → Int32) → (Nat → Int32) → Int32 × (Nat → Int32) × (Nat → Int32) × (Nat → Int32)
  | 0, k43, s43_0, s43_1, s43_2, tz => (s43_0, s43_1, s43_2, tz)
  | zn + 1, k43, s43_0, s43_1, s43_2, tz => ((fun (w_6 : Int32 × (Nat → Int32) × (Nat → Int32) × (Nat → Int32)) => F_X6_seat_1_L43 tb ppn pss wrt zn (k43 + 1) w_6.1 w_6.2.1 w_6.2.2.1 (upd w_6.2.2.2 k43 ((w_6.2.2.2 k43) &&& (-3)))) (F_X6_seat_2 (max tb (k43 + 1)) s43_0 ppn pss s43_1 (upd s43_2 1 (nI k43)) (upd tz k43 ((tz k43) ||| 2)) wrt))
theorem F_X6_seat_1_L43_z (tb : Nat) (ppn : Nat) (pss : Nat) (wrt : Nat → Int32) (k43 : Nat) (s43_0 : Int32) (s43_1 : Nat → Int32) (s43_2 : Nat → Int32) (tz : Nat → Int32) : F_X6_seat_1_L43 tb ppn pss wrt 0 k43 s43_0 s43_1 s43_2 tz = (s43_0, s43_1, s43_2, tz) := rfl
theorem F_X6_seat_1_L43_s (tb : Nat) (ppn : Nat) (pss : Nat) (wrt : Nat → Int32) (k43 : Nat) (s43_0 : Int32) (s43_1 : Nat → Int32) (s43_2 : Nat → Int32) (tz : Nat → Int32) (zn : Nat) : F_X6_seat_1_L43 tb ppn pss wrt (zn + 1) k43 s43_0 s43_1 s43_2 tz = ((fun (w_6 : Int32 × (Nat → Int32) × (Nat → Int32) × (Nat → Int32)) => F_X6_seat_1_L43 tb ppn pss wrt zn (k43 + 1) w_6.1 w_6.2.1 w_6.2.2.1 (upd w_6.2.2.2 k43 ((w_6.2.2.2 k43) &&& (-3)))) (F_X6_seat_2 (max tb (k43 + 1)) s43_0 ppn pss s43_1 (upd s43_2 1 (nI k43)) (upd tz k43 ((tz k43) ||| 2)) wrt)) := rfl
def F_X6_seat_1 (tb : Nat) (pm : Int32) (ppn : Nat) (pss : Nat) (pb : Nat → Int32) (pr : Nat → Int32) (ts : Nat → Int32) (wrt : Nat → Int32) : Int32 × (Nat → Int32) × (Nat → Int32) × (Nat → Int32) := (if 1 < (nI ppn) then (if (((nI pss) >>> (1 &&& 31)) &&& 1) = 0 then ((fun (w_8 : Int32 × (Nat → Int32) × (Nat → Int32) × (Nat → Int32)) => (w_8.1, w_8.2.1, w_8.2.2.1, w_8.2.2.2)) (F_X6_seat_2 tb pm ppn pss pb (upd pr 1 (-1)) ts wrt)) else ((fun (v_3 : Int32 × (Nat → Int32) × (Nat → Int32) × (Nat → Int32)) => (v_3.1, v_3.2.1, v_3.2.2.1, v_3.2.2.2)) (F_X6_seat_1_L43 tb ppn pss wrt ((tb + 1) - 0) 0 pm pb pr ts))) else ((fun (w_9 : Int32 × (Nat → Int32)) => (w_9.1, w_9.2, pr, ts)) (F_X6_keepIfBetter tb pm pb pr ts wrt)))
set_option maxHeartbeats 4000000 in
set_option maxRecDepth 100000 in
theorem e_X6_seat_1 (l : Launch) (pt : Nat) (tb : Nat) (pm : Int32) (p1 : Nat) (p2 : Nat) (p3 : Nat) (p4 : Nat) (ppn : Nat) (pss : Nat) (pb : Nat → Int32) (pr : Nat → Int32) (ts : Nat → Int32) (wrt : Nat → Int32) (hpn : ppn ≤ 6) (htb : tb ≤ 1) (hts : ∀ j, j < 6 → vp_in (ts j) 64) : ex_M l yX6_seat cX6_seat 4 none 7 178 [ex_r pt, ex_i 1, ex_i (nI tb)] [(pt, ex_o 6 [ex_i pm, ex_r p1, ex_r p2, ex_r p3, ex_r p4, ex_i (nI ppn), ex_i (nI pss)]), (p1, ex_a 1 6 pb), (p2, ex_a 1 6 pr), (p3, ex_a 1 6 ts), (p4, ex_a 1 64 wrt)] (fun zcs zr => zcs = [(pt, ex_o 6 [ex_i ((F_X6_seat_1 tb pm ppn pss pb pr ts wrt).1), ex_r p1, ex_r p2, ex_r p3, ex_r p4, ex_i (nI ppn), ex_i (nI pss)]), (p1, ex_a 1 6 ((F_X6_seat_1 tb pm ppn pss pb pr ts wrt).2.1)), (p2, ex_a 1 6 ((F_X6_seat_1 tb pm ppn pss pb pr ts wrt).2.2.1)), (p3, ex_a 1 6 ((F_X6_seat_1 tb pm ppn pss pb pr ts wrt).2.2.2)), (p4, ex_a 1 64 wrt)] ∧ zr = none ∧ (∀ j, j < 6 → vp_in (((F_X6_seat_1 tb pm ppn pss pb pr ts wrt)).2.2.2 j) 64)) := by
  refine X_meth (by decide) (Nat.le_of_ble_eq_true rfl) ?_
  generalize hV : F_X6_seat_1 tb pm ppn pss pb pr ts wrt = V0
  have hV := hV.symm
  unfold F_X6_seat_1 at hV
  try dsimp only at hV
  refine X_iload_n (j := 1) dX6_seat_0 rfl rfl ?_
  refine X_aload_n (j := 0) dX6_seat_1 rfl rfl ?_
  refine X_get (j := 0) fo_X6_28 dX6_seat_2 rfl rfl ?_
  refine X_icmp_lt (tgt := 14) dX6_seat_5 (by decide) (fun c_1 => ?_) (fun c_1 => ?_)
  · have hV := hV.trans (if_pos c_1)
    refine X_aload_n (j := 0) dX6_seat_14 rfl rfl ?_
    refine X_get (j := 0) fo_X6_31 dX6_seat_15 rfl rfl ?_
    refine X_iload_n (j := 1) dX6_seat_18 rfl rfl ?_
    refine X_ishr (v := ((nI pss) >>> (1 &&& 31))) dX6_seat_19 rfl ?_
    refine X_iconst (v := 1) dX6_seat_20 (by decide) ?_
    refine X_iand (v := (((nI pss) >>> (1 &&& 31)) &&& 1)) dX6_seat_21 rfl ?_
    refine X_if_ne (tgt := 41) dX6_seat_22 (by decide) (fun c_2 => ?_) (fun c_2 => ?_)
    · have hV := hV.trans (if_neg c_2)
      refine X_iconst (v := 0) dX6_seat_41 (by decide) ?_
      refine X_istore_n (lv' := [(3, ex_i 0), (0, ex_r pt), (1, ex_i 1), (2, ex_i (nI tb))]) dX6_seat_42 rfl (Nat.le_of_ble_eq_true rfl) rfl ?_
      -- loop at 43
      try dsimp only at hV
      generalize hq_v_3 : F_X6_seat_1_L43 tb ppn pss wrt ((tb + 1) - 0) 0 pm pb pr ts = v_3 at hV
      try dsimp only at hV
      refine X_cut (P := (∀ j, j < 6 → vp_in (v_3.2.2.2 j) 64)) (csE := [(pt, ex_o 6 [ex_i v_3.1, ex_r p1, ex_r p2, ex_r p3, ex_r p4, ex_i (nI ppn), ex_i (nI pss)]), (p1, ex_a 1 6 v_3.2.1), (p2, ex_a 1 6 v_3.2.2.1), (p3, ex_a 1 6 v_3.2.2.2), (p4, ex_a 1 64 wrt)]) (lvE := [(0, ex_r pt), (1, ex_i 1), (2, ex_i (nI tb))]) (E := 107) (fun hrest43 => ?_) (fun hPX43 => ?_)
      · have hL43 := hq_v_3.symm
        refine X_ind (fun (a43 : Nat × Int32 × (Nat → Int32) × (Nat → Int32) × (Nat → Int32)) => v_3 = F_X6_seat_1_L43 tb ppn pss wrt ((tb + 1) - a43.1) a43.1 a43.2.1 a43.2.2.1 a43.2.2.2.1 a43.2.2.2.2 ∧ a43.1 ≤ (tb + 1) ∧ ∀ j, j < 6 → vp_in (a43.2.2.2.2 j) 64) (fun (a43 : Nat × Int32 × (Nat → Int32) × (Nat → Int32) × (Nat → Int32)) => (tb + 1) - a43.1) (fun (a43 : Nat × Int32 × (Nat → Int32) × (Nat → Int32) × (Nat → Int32)) => [(pt, ex_o 6 [ex_i a43.2.1, ex_r p1, ex_r p2, ex_r p3, ex_r p4, ex_i (nI ppn), ex_i (nI pss)]), (p1, ex_a 1 6 a43.2.2.1), (p2, ex_a 1 6 a43.2.2.2.1), (p3, ex_a 1 6 a43.2.2.2.2), (p4, ex_a 1 64 wrt)]) (fun (a43 : Nat × Int32 × (Nat → Int32) × (Nat → Int32) × (Nat → Int32)) => [(3, ex_i (nI a43.1)), (0, ex_r pt), (1, ex_i 1), (2, ex_i (nI tb))]) (fun ⟨k43, s43_0, s43_1, s43_2, tz⟩ hI43 ih43 => ?_) (0, pm, pb, pr, ts) ⟨hL43, (by omega), hts⟩
        try dsimp only at hI43 ih43 ⊢
        have ihc43 : ∀ (k43_ : Nat) (s43_0_ : Int32) (s43_1_ : Nat → Int32) (s43_2_ : Nat → Int32) (tz_ : Nat → Int32), (v_3 = F_X6_seat_1_L43 tb ppn pss wrt ((tb + 1) - k43_) k43_ s43_0_ s43_1_ s43_2_ tz_ ∧ k43_ ≤ (tb + 1) ∧ ∀ j, j < 6 → vp_in (tz_ j) 64) → ((tb + 1) - k43_) < ((tb + 1) - k43) → ex_O _ _ _ _ _ _ _ _ _ [(pt, ex_o 6 [ex_i s43_0_, ex_r p1, ex_r p2, ex_r p3, ex_r p4, ex_i (nI ppn), ex_i (nI pss)]), (p1, ex_a 1 6 s43_1_), (p2, ex_a 1 6 s43_2_), (p3, ex_a 1 6 tz_), (p4, ex_a 1 64 wrt)] [(3, ex_i (nI k43_)), (0, ex_r pt), (1, ex_i 1), (2, ex_i (nI tb))] _ _ := fun k43_ s43_0_ s43_1_ s43_2_ tz_ hi_ hm_ => ih43 (k43_, s43_0_, s43_1_, s43_2_, tz_) hi_ hm_
        have hL43 := hI43.1
        have hb43 := hI43.2.1
        have hts43 := hI43.2.2
        refine X_iload_n (j := 0) dX6_seat_43 rfl rfl ?_
        refine X_iload_n (j := 3) dX6_seat_44 rfl rfl ?_
        refine X_icmp_gt (tgt := 107) dX6_seat_45 (by decide) (fun c_4 => ?_) (fun c_4 => ?_)
        · have hlt43 : k43 = (tb + 1) := ngtx (L := (tb + 1)) (by omega) hb43 c_4
          rw [show (tb + 1) - k43 = 0 by omega] at hL43
          have hL43 := hL43.trans (F_X6_seat_1_L43_z ..)
          try dsimp only at hL43
          refine X_lv (lv' := [(0, ex_r pt), (1, ex_i 1), (2, ex_i (nI tb))]) [1, 2, 3] rfl ?_
          refine X_eq (cs' := [(pt, ex_o 6 [ex_i v_3.1, ex_r p1, ex_r p2, ex_r p3, ex_r p4, ex_i (nI ppn), ex_i (nI pss)]), (p1, ex_a 1 6 v_3.2.1), (p2, ex_a 1 6 v_3.2.2.1), (p3, ex_a 1 6 v_3.2.2.2), (p4, ex_a 1 64 wrt)]) (lv' := [(0, ex_r pt), (1, ex_i 1), (2, ex_i (nI tb))]) (by subst hL43; rfl) (by subst hL43; rfl) ?_
          exact hrest43 (by subst hL43; exact hts43)
        · have hlt43 : k43 < (tb + 1) := ngti (L := (tb + 1)) (by omega) hb43 c_4
          rw [show (tb + 1) - k43 = ((tb + 1) - (k43 + 1)) + 1 by omega] at hL43
          have hL43 := hL43.trans (F_X6_seat_1_L43_s ..)
          refine X_iload_n (j := 0) dX6_seat_48 rfl rfl ?_
          refine X_bipush (v := 6) dX6_seat_49 (by decide) ?_
          refine X_icmp_ge (tgt := 107) dX6_seat_51 (by decide) (fun c_ => absurd c_ (nI_ge (a := k43) (b := 6) (by omega) (by decide))) (fun _ => ?_)
          refine X_aload_n (j := 1) dX6_seat_54 rfl rfl ?_
          refine X_get (j := 0) fo_X6_19 dX6_seat_55 rfl rfl ?_
          refine X_iload_n (j := 2) dX6_seat_58 rfl rfl ?_
          refine X_iload_n (j := 0) dX6_seat_59 rfl rfl ?_
          refine X_iast (j := 2) (g := upd s43_2 1 (nI k43)) (cs' := [(pt, ex_o 6 [ex_i s43_0, ex_r p1, ex_r p2, ex_r p3, ex_r p4, ex_i (nI ppn), ex_i (nI pss)]), (p1, ex_a 1 6 s43_1), (p2, ex_a 1 6 (upd s43_2 1 (nI k43))), (p3, ex_a 1 6 tz), (p4, ex_a 1 64 wrt)]) dX6_seat_60 rfl (vin (by decide)) rfl rfl ?_
          refine X_aload_n (j := 1) dX6_seat_61 rfl rfl ?_
          refine X_get (j := 0) fo_X6_22 dX6_seat_62 rfl rfl ?_
          refine X_iload_n (j := 0) dX6_seat_65 rfl rfl ?_
          refine X_dup2_11 dX6_seat_66 rfl rfl ?_
          refine X_iald (j := 3) (v := (tz k43)) dX6_seat_67 rfl (vp_in_nI (show k43 < 6 by omega) (by decide)) (by rw [nI_clamp (by omega)]) ?_
          refine X_iconst (v := 1) dX6_seat_68 (by decide) ?_
          refine X_iload_n (j := 2) dX6_seat_69 rfl rfl ?_
          refine X_ishl (v := 2) dX6_seat_70 (by decide) ?_
          refine X_ior (v := ((tz k43) ||| 2)) dX6_seat_71 rfl ?_
          refine X_iast (j := 3) (g := upd tz k43 ((tz k43) ||| 2)) (cs' := [(pt, ex_o 6 [ex_i s43_0, ex_r p1, ex_r p2, ex_r p3, ex_r p4, ex_i (nI ppn), ex_i (nI pss)]), (p1, ex_a 1 6 s43_1), (p2, ex_a 1 6 (upd s43_2 1 (nI k43))), (p3, ex_a 1 6 (upd tz k43 ((tz k43) ||| 2))), (p4, ex_a 1 64 wrt)]) dX6_seat_72 rfl (vp_in_nI (show k43 < 6 by omega) (by decide)) (by rw [nI_clamp (by omega)]) rfl ?_
          refine X_aload_n (j := 1) dX6_seat_73 rfl rfl ?_
          refine X_iload_n (j := 2) dX6_seat_74 rfl rfl ?_
          refine X_iconst (v := 1) dX6_seat_75 (by decide) ?_
          refine X_iadd (v := 2) dX6_seat_76 (by decide) ?_
          refine X_iload_n (j := 3) dX6_seat_77 rfl rfl ?_
          refine X_iload_n (j := 0) dX6_seat_78 rfl rfl ?_
          refine X_iconst (v := 1) dX6_seat_79 (by decide) ?_
          refine X_iadd (v := nI (k43 + 1)) dX6_seat_80 (nI_add k43 1) ?_
          refine X_mmax (v := nI (max tb (k43 + 1))) k_1069 k_561 k_17 k_562 ⟨(Nat.le_of_ble_eq_true rfl), (Nat.le_of_ble_eq_true rfl)⟩ (Nat.le_of_ble_eq_true rfl) dX6_seat_81 (nI_max (a := tb) (b := k43 + 1) (by omega) (by omega)) ?_
          refine X_callV (j0 := 0) (rest := []) (stk := []) co_X6_47 rfl ⟨(Nat.le_of_ble_eq_true rfl), (Nat.le_of_ble_eq_true rfl)⟩ (e_X6_seat_2 l pt (max tb (k43 + 1)) s43_0 p1 p2 p3 p4 ppn pss s43_1 (upd s43_2 1 (nI k43)) (upd tz k43 ((tz k43) ||| 2)) wrt (by first | assumption | omega) (by first | assumption | omega) (ts_upd hts43 (by omega) (vp_or6 (hts43 k43 (by omega)) (by decide)))) dX6_seat_84 [0, 1, 2, 3, 4] (show List.Perm [0, 1, 2, 3, 4] (List.range 5) from by decide) rfl rfl rfl rfl (Nat.le_of_ble_eq_true rfl) (fun zc1 zr hq hk => ?_)
          obtain ⟨rfl, rfl, he0_e_5⟩ := hq
          try dsimp only at hL43
          generalize hq_w_6 : F_X6_seat_2 (max tb (k43 + 1)) s43_0 ppn pss s43_1 (upd s43_2 1 (nI k43)) (upd tz k43 ((tz k43) ||| 2)) wrt = w_6 at hL43 he0_e_5 ⊢
          try dsimp only at hL43
          refine X_aload_n (j := 1) dX6_seat_87 rfl rfl ?_
          refine X_get (j := 0) fo_X6_22 dX6_seat_88 rfl rfl ?_
          refine X_iload_n (j := 0) dX6_seat_91 rfl rfl ?_
          refine X_dup2_11 dX6_seat_92 rfl rfl ?_
          refine X_iald (j := 3) (v := (w_6.2.2.2 k43)) dX6_seat_93 rfl (vp_in_nI (show k43 < 6 by omega) (by decide)) (by rw [nI_clamp (by omega)]) ?_
          refine X_iconst (v := 1) dX6_seat_94 (by decide) ?_
          refine X_iload_n (j := 2) dX6_seat_95 rfl rfl ?_
          refine X_ishl (v := 2) dX6_seat_96 (by decide) ?_
          refine X_iconst (v := (-1)) dX6_seat_97 (by decide) ?_
          refine X_ixor (v := (-3)) dX6_seat_98 (by decide) ?_
          refine X_iand (v := ((w_6.2.2.2 k43) &&& (-3))) dX6_seat_99 rfl ?_
          refine X_iast (j := 3) (g := upd w_6.2.2.2 k43 ((w_6.2.2.2 k43) &&& (-3))) (cs' := [(pt, ex_o 6 [ex_i w_6.1, ex_r p1, ex_r p2, ex_r p3, ex_r p4, ex_i (nI ppn), ex_i (nI pss)]), (p1, ex_a 1 6 w_6.2.1), (p2, ex_a 1 6 w_6.2.2.1), (p3, ex_a 1 6 (upd w_6.2.2.2 k43 ((w_6.2.2.2 k43) &&& (-3)))), (p4, ex_a 1 64 wrt)]) dX6_seat_100 rfl (vp_in_nI (show k43 < 6 by omega) (by decide)) (by rw [nI_clamp (by omega)]) rfl ?_
          refine X_iinc (v := nI (k43 + 1)) (j := 0) (lv' := [(3, ex_i (nI (k43 + 1))), (0, ex_r pt), (1, ex_i 1), (2, ex_i (nI tb))]) dX6_seat_101 rfl (nI_add k43 1) (Nat.le_of_ble_eq_true rfl) rfl ?_
          refine X_goto (tgt := 43) dX6_seat_104 (by decide) ?_
          try dsimp only at hL43
          exact ihc43 (k43 + 1) w_6.1 w_6.2.1 w_6.2.2.1 (upd w_6.2.2.2 k43 ((w_6.2.2.2 k43) &&& (-3))) ⟨hL43, (show (k43 + 1) ≤ (tb + 1) by omega), (ts_upd he0_e_5 (by omega) (vp_an6 (he0_e_5 k43 (by omega)) (by decide)))⟩ (show (tb + 1) - (k43 + 1) < (tb + 1) - k43 by omega)
      have hts43_x := hPX43
      try dsimp only at hV
      exact X_vret dX6_seat_107 (by (repeat refine ex_kc ?_) <;> rfl) (by subst hV; exact ⟨rfl, rfl, hts43_x⟩)
    · have hV := hV.trans (if_pos c_2)
      refine X_aload_n (j := 0) dX6_seat_25 rfl rfl ?_
      refine X_get (j := 0) fo_X6_19 dX6_seat_26 rfl rfl ?_
      refine X_iload_n (j := 1) dX6_seat_29 rfl rfl ?_
      refine X_iconst (v := (-1)) dX6_seat_30 (by decide) ?_
      refine X_iast (j := 2) (g := upd pr 1 (-1)) (cs' := [(pt, ex_o 6 [ex_i pm, ex_r p1, ex_r p2, ex_r p3, ex_r p4, ex_i (nI ppn), ex_i (nI pss)]), (p1, ex_a 1 6 pb), (p2, ex_a 1 6 (upd pr 1 (-1))), (p3, ex_a 1 6 ts), (p4, ex_a 1 64 wrt)]) dX6_seat_31 rfl (vin (by decide)) rfl rfl ?_
      refine X_aload_n (j := 0) dX6_seat_32 rfl rfl ?_
      refine X_iload_n (j := 1) dX6_seat_33 rfl rfl ?_
      refine X_iconst (v := 1) dX6_seat_34 (by decide) ?_
      refine X_iadd (v := 2) dX6_seat_35 (by decide) ?_
      refine X_iload_n (j := 2) dX6_seat_36 rfl rfl ?_
      refine X_callV (j0 := 0) (rest := []) (stk := []) co_X6_47 rfl ⟨(Nat.le_of_ble_eq_true rfl), (Nat.le_of_ble_eq_true rfl)⟩ (e_X6_seat_2 l pt tb pm p1 p2 p3 p4 ppn pss pb (upd pr 1 (-1)) ts wrt (by first | assumption | omega) (by first | assumption | omega) hts) dX6_seat_37 [0, 1, 2, 3, 4] (show List.Perm [0, 1, 2, 3, 4] (List.range 5) from by decide) rfl rfl rfl rfl (Nat.le_of_ble_eq_true rfl) (fun zc1 zr hq hk => ?_)
      obtain ⟨rfl, rfl, he0_e_7⟩ := hq
      try dsimp only at hV
      generalize hq_w_8 : F_X6_seat_2 tb pm ppn pss pb (upd pr 1 (-1)) ts wrt = w_8 at hV he0_e_7 ⊢
      try dsimp only at hV
      try dsimp only at hV
      exact X_vret dX6_seat_40 (by (repeat refine ex_kc ?_) <;> rfl) (by subst hV; exact ⟨rfl, rfl, he0_e_7⟩)
  · have hV := hV.trans (if_neg c_1)
    refine X_aload_n (j := 0) dX6_seat_8 rfl rfl ?_
    refine X_iload_n (j := 2) dX6_seat_9 rfl rfl ?_
    refine X_callV (j0 := 0) (rest := []) (stk := []) co_X6_65 rfl ⟨(Nat.le_of_ble_eq_true rfl), (Nat.le_of_ble_eq_true rfl)⟩ (e_X6_keepIfBetter l pt tb pm p1 p2 p3 p4 ppn pss pb pr ts wrt (by first | assumption | omega) (by first | assumption | omega)) dX6_seat_10 [0, 1, 2, 3, 4] (show List.Perm [0, 1, 2, 3, 4] (List.range 5) from by decide) rfl rfl rfl rfl (Nat.le_of_ble_eq_true rfl) (fun zc1 zr hq hk => ?_)
    obtain ⟨rfl, rfl⟩ := hq
    try dsimp only at hV
    generalize hq_w_9 : F_X6_keepIfBetter tb pm pb pr ts wrt = w_9 at hV ⊢
    try dsimp only at hV
    try dsimp only at hV
    exact X_vret dX6_seat_13 (by (repeat refine ex_kc ?_) <;> rfl) (by subst hV; exact ⟨rfl, rfl, hts⟩)

def F_X6_seat_0_L43 (tb : Nat) (ppn : Nat) (pss : Nat) (wrt : Nat → Int32) : Nat → Nat → Int32 → (Nat → Int32) → (Nat → Int32) → (Nat → Int32) → Int32 × (Nat → Int32) × (Nat → Int32) × (Nat → Int32)
  | 0, k43, s43_0, s43_1, s43_2, tz => (s43_0, s43_1, s43_2, tz)
  | zn + 1, k43, s43_0, s43_1, s43_2, tz => ((fun (w_6 : Int32 × (Nat → Int32) × (Nat → Int32) × (Nat → Int32)) => F_X6_seat_0_L43 tb ppn pss wrt zn (k43 + 1) w_6.1 w_6.2.1 w_6.2.2.1 (upd w_6.2.2.2 k43 ((w_6.2.2.2 k43) &&& (-2)))) (F_X6_seat_1 (max tb (k43 + 1)) s43_0 ppn pss s43_1 (upd s43_2 0 (nI k43)) (upd tz k43 ((tz k43) ||| 1)) wrt))
theorem F_X6_seat_0_L43_z (tb : Nat) (ppn : Nat) (pss : Nat) (wrt : Nat → Int32) (k43 : Nat) (s43_0 : Int32) (s43_1 : Nat → Int32) (s43_2 : Nat → Int32) (tz : Nat → Int32) : F_X6_seat_0_L43 tb ppn pss wrt 0 k43 s43_0 s43_1 s43_2 tz = (s43_0, s43_1, s43_2, tz) := rfl
theorem F_X6_seat_0_L43_s (tb : Nat) (ppn : Nat) (pss : Nat) (wrt : Nat → Int32) (k43 : Nat) (s43_0 : Int32) (s43_1 : Nat → Int32) (s43_2 : Nat → Int32) (tz : Nat → Int32) (zn : Nat) : F_X6_seat_0_L43 tb ppn pss wrt (zn + 1) k43 s43_0 s43_1 s43_2 tz = ((fun (w_6 : Int32 × (Nat → Int32) × (Nat → Int32) × (Nat → Int32)) => F_X6_seat_0_L43 tb ppn pss wrt zn (k43 + 1) w_6.1 w_6.2.1 w_6.2.2.1 (upd w_6.2.2.2 k43 ((w_6.2.2.2 k43) &&& (-2)))) (F_X6_seat_1 (max tb (k43 + 1)) s43_0 ppn pss s43_1 (upd s43_2 0 (nI k43)) (upd tz k43 ((tz k43) ||| 1)) wrt)) := rfl
def F_X6_seat_0 (tb : Nat) (pm : Int32) (ppn : Nat) (pss : Nat) (pb : Nat → Int32) (pr : Nat → Int32) (ts : Nat → Int32) (wrt : Nat → Int32) : Int32 × (Nat → Int32) × (Nat → Int32) × (Nat → Int32) := (if 0 < (nI ppn) then (if (((nI pss) >>> (0 &&& 31)) &&& 1) = 0 then ((fun (w_8 : Int32 × (Nat → Int32) × (Nat → Int32) × (Nat → Int32)) => (w_8.1, w_8.2.1, w_8.2.2.1, w_8.2.2.2)) (F_X6_seat_1 tb pm ppn pss pb (upd pr 0 (-1)) ts wrt)) else ((fun (v_3 : Int32 × (Nat → Int32) × (Nat → Int32) × (Nat → Int32)) => (v_3.1, v_3.2.1, v_3.2.2.1, v_3.2.2.2)) (F_X6_seat_0_L43 tb ppn pss wrt ((tb + 1) - 0) 0 pm pb pr ts))) else ((fun (w_9 : Int32 × (Nat → Int32)) => (w_9.1, w_9.2, pr, ts)) (F_X6_keepIfBetter tb pm pb pr ts wrt)))
set_option maxHeartbeats 4000000 in
set_option maxRecDepth 100000 in
theorem e_X6_seat_0 (l : Launch) (pt : Nat) (tb : Nat) (pm : Int32) (p1 : Nat) (p2 : Nat) (p3 : Nat) (p4 : Nat) (ppn : Nat) (pss : Nat) (pb : Nat → Int32) (pr : Nat → Int32) (ts : Nat → Int32) (wrt : Nat → Int32) (hpn : ppn ≤ 6) (htb : tb ≤ 0) (hts : ∀ j, j < 6 → vp_in (ts j) 64) : ex_M l yX6_seat cX6_seat 4 none 8 201 [ex_r pt, ex_i 0, ex_i (nI tb)] [(pt, ex_o 6 [ex_i pm, ex_r p1, ex_r p2, ex_r p3, ex_r p4, ex_i (nI ppn), ex_i (nI pss)]), (p1, ex_a 1 6 pb), (p2, ex_a 1 6 pr), (p3, ex_a 1 6 ts), (p4, ex_a 1 64 wrt)] (fun zcs zr => zcs = [(pt, ex_o 6 [ex_i ((F_X6_seat_0 tb pm ppn pss pb pr ts wrt).1), ex_r p1, ex_r p2, ex_r p3, ex_r p4, ex_i (nI ppn), ex_i (nI pss)]), (p1, ex_a 1 6 ((F_X6_seat_0 tb pm ppn pss pb pr ts wrt).2.1)), (p2, ex_a 1 6 ((F_X6_seat_0 tb pm ppn pss pb pr ts wrt).2.2.1)), (p3, ex_a 1 6 ((F_X6_seat_0 tb pm ppn pss pb pr ts wrt).2.2.2)), (p4, ex_a 1 64 wrt)] ∧ zr = none ∧ (∀ j, j < 6 → vp_in (((F_X6_seat_0 tb pm ppn pss pb pr ts wrt)).2.2.2 j) 64)) := by
  refine X_meth (by decide) (Nat.le_of_ble_eq_true rfl) ?_
  generalize hV : F_X6_seat_0 tb pm ppn pss pb pr ts wrt = V0
  have hV := hV.symm
  unfold F_X6_seat_0 at hV
  try dsimp only at hV
  refine X_iload_n (j := 1) dX6_seat_0 rfl rfl ?_
  refine X_aload_n (j := 0) dX6_seat_1 rfl rfl ?_
  refine X_get (j := 0) fo_X6_28 dX6_seat_2 rfl rfl ?_
  refine X_icmp_lt (tgt := 14) dX6_seat_5 (by decide) (fun c_1 => ?_) (fun c_1 => ?_)
  · have hV := hV.trans (if_pos c_1)
    refine X_aload_n (j := 0) dX6_seat_14 rfl rfl ?_
    refine X_get (j := 0) fo_X6_31 dX6_seat_15 rfl rfl ?_
    refine X_iload_n (j := 1) dX6_seat_18 rfl rfl ?_
    refine X_ishr (v := ((nI pss) >>> (0 &&& 31))) dX6_seat_19 rfl ?_
    refine X_iconst (v := 1) dX6_seat_20 (by decide) ?_
    refine X_iand (v := (((nI pss) >>> (0 &&& 31)) &&& 1)) dX6_seat_21 rfl ?_
    refine X_if_ne (tgt := 41) dX6_seat_22 (by decide) (fun c_2 => ?_) (fun c_2 => ?_)
    · have hV := hV.trans (if_neg c_2)
      refine X_iconst (v := 0) dX6_seat_41 (by decide) ?_
      refine X_istore_n (lv' := [(3, ex_i 0), (0, ex_r pt), (1, ex_i 0), (2, ex_i (nI tb))]) dX6_seat_42 rfl (Nat.le_of_ble_eq_true rfl) rfl ?_
      -- loop at 43
      try dsimp only at hV
      generalize hq_v_3 : F_X6_seat_0_L43 tb ppn pss wrt ((tb + 1) - 0) 0 pm pb pr ts = v_3 at hV
      try dsimp only at hV
      refine X_cut (P := (∀ j, j < 6 → vp_in (v_3.2.2.2 j) 64)) (csE := [(pt, ex_o 6 [ex_i v_3.1, ex_r p1, ex_r p2, ex_r p3, ex_r p4, ex_i (nI ppn), ex_i (nI pss)]), (p1, ex_a 1 6 v_3.2.1), (p2, ex_a 1 6 v_3.2.2.1), (p3, ex_a 1 6 v_3.2.2.2), (p4, ex_a 1 64 wrt)]) (lvE := [(0, ex_r pt), (1, ex_i 0), (2, ex_i (nI tb))]) (E := 107) (fun hrest43 => ?_) (fun hPX43 => ?_)
      · have hL43 := hq_v_3.symm
        refine X_ind (fun (a43 : Nat × Int32 × (Nat → Int32) × (Nat → Int32) × (Nat → Int32)) => v_3 = F_X6_seat_0_L43 tb ppn pss wrt ((tb + 1) - a43.1) a43.1 a43.2.1 a43.2.2.1 a43.2.2.2.1 a43.2.2.2.2 ∧ a43.1 ≤ (tb + 1) ∧ ∀ j, j < 6 → vp_in (a43.2.2.2.2 j) 64) (fun (a43 : Nat × Int32 × (Nat → Int32) × (Nat → Int32) × (Nat → Int32)) => (tb + 1) - a43.1) (fun (a43 : Nat × Int32 × (Nat → Int32) × (Nat → Int32) × (Nat → Int32)) => [(pt, ex_o 6 [ex_i a43.2.1, ex_r p1, ex_r p2, ex_r p3, ex_r p4, ex_i (nI ppn), ex_i (nI pss)]), (p1, ex_a 1 6 a43.2.2.1), (p2, ex_a 1 6 a43.2.2.2.1), (p3, ex_a 1 6 a43.2.2.2.2), (p4, ex_a 1 64 wrt)]) (fun (a43 : Nat × Int32 × (Nat → Int32) × (Nat → Int32) × (Nat → Int32)) => [(3, ex_i (nI a43.1)), (0, ex_r pt), (1, ex_i 0), (2, ex_i (nI tb))]) (fun ⟨k43, s43_0, s43_1, s43_2, tz⟩ hI43 ih43 => ?_) (0, pm, pb, pr, ts) ⟨hL43, (by omega), hts⟩
        try dsimp only at hI43 ih43 ⊢
        have ihc43 : ∀ (k43_ : Nat) (s43_0_ : Int32) (s43_1_ : Nat → Int32) (s43_2_ : Nat → Int32) (tz_ : Nat → Int32), (v_3 = F_X6_seat_0_L43 tb ppn pss wrt ((tb + 1) - k43_) k43_ s43_0_ s43_1_ s43_2_ tz_ ∧ k43_ ≤ (tb + 1) ∧ ∀ j, j < 6 → vp_in (tz_ j) 64) → ((tb + 1) - k43_) < ((tb + 1) - k43) → ex_O _ _ _ _ _ _ _ _ _ [(pt, ex_o 6 [ex_i s43_0_, ex_r p1, ex_r p2, ex_r p3, ex_r p4, ex_i (nI ppn), ex_i (nI pss)]), (p1, ex_a 1 6 s43_1_), (p2, ex_a 1 6 s43_2_), (p3, ex_a 1 6 tz_), (p4, ex_a 1 64 wrt)] [(3, ex_i (nI k43_)), (0, ex_r pt), (1, ex_i 0), (2, ex_i (nI tb))] _ _ := fun k43_ s43_0_ s43_1_ s43_2_ tz_ hi_ hm_ => ih43 (k43_, s43_0_, s43_1_, s43_2_, tz_) hi_ hm_
        have hL43 := hI43.1
        have hb43 := hI43.2.1
        have hts43 := hI43.2.2
        refine X_iload_n (j := 0) dX6_seat_43 rfl rfl ?_
        refine X_iload_n (j := 3) dX6_seat_44 rfl rfl ?_
        refine X_icmp_gt (tgt := 107) dX6_seat_45 (by decide) (fun c_4 => ?_) (fun c_4 => ?_)
        · have hlt43 : k43 = (tb + 1) := ngtx (L := (tb + 1)) (by omega) hb43 c_4
          rw [show (tb + 1) - k43 = 0 by omega] at hL43
          have hL43 := hL43.trans (F_X6_seat_0_L43_z ..)
          try dsimp only at hL43
          refine X_lv (lv' := [(0, ex_r pt), (1, ex_i 0), (2, ex_i (nI tb))]) [1, 2, 3] rfl ?_
          refine X_eq (cs' := [(pt, ex_o 6 [ex_i v_3.1, ex_r p1, ex_r p2, ex_r p3, ex_r p4, ex_i (nI ppn), ex_i (nI pss)]), (p1, ex_a 1 6 v_3.2.1), (p2, ex_a 1 6 v_3.2.2.1), (p3, ex_a 1 6 v_3.2.2.2), (p4, ex_a 1 64 wrt)]) (lv' := [(0, ex_r pt), (1, ex_i 0), (2, ex_i (nI tb))]) (by subst hL43; rfl) (by subst hL43; rfl) ?_
          exact hrest43 (by subst hL43; exact hts43)
        · have hlt43 : k43 < (tb + 1) := ngti (L := (tb + 1)) (by omega) hb43 c_4
          rw [show (tb + 1) - k43 = ((tb + 1) - (k43 + 1)) + 1 by omega] at hL43
          have hL43 := hL43.trans (F_X6_seat_0_L43_s ..)
          refine X_iload_n (j := 0) dX6_seat_48 rfl rfl ?_
          refine X_bipush (v := 6) dX6_seat_49 (by decide) ?_
          refine X_icmp_ge (tgt := 107) dX6_seat_51 (by decide) (fun c_ => absurd c_ (nI_ge (a := k43) (b := 6) (by omega) (by decide))) (fun _ => ?_)
          refine X_aload_n (j := 1) dX6_seat_54 rfl rfl ?_
          refine X_get (j := 0) fo_X6_19 dX6_seat_55 rfl rfl ?_
          refine X_iload_n (j := 2) dX6_seat_58 rfl rfl ?_
          refine X_iload_n (j := 0) dX6_seat_59 rfl rfl ?_
          refine X_iast (j := 2) (g := upd s43_2 0 (nI k43)) (cs' := [(pt, ex_o 6 [ex_i s43_0, ex_r p1, ex_r p2, ex_r p3, ex_r p4, ex_i (nI ppn), ex_i (nI pss)]), (p1, ex_a 1 6 s43_1), (p2, ex_a 1 6 (upd s43_2 0 (nI k43))), (p3, ex_a 1 6 tz), (p4, ex_a 1 64 wrt)]) dX6_seat_60 rfl (vin (by decide)) rfl rfl ?_
          refine X_aload_n (j := 1) dX6_seat_61 rfl rfl ?_
          refine X_get (j := 0) fo_X6_22 dX6_seat_62 rfl rfl ?_
          refine X_iload_n (j := 0) dX6_seat_65 rfl rfl ?_
          refine X_dup2_11 dX6_seat_66 rfl rfl ?_
          refine X_iald (j := 3) (v := (tz k43)) dX6_seat_67 rfl (vp_in_nI (show k43 < 6 by omega) (by decide)) (by rw [nI_clamp (by omega)]) ?_
          refine X_iconst (v := 1) dX6_seat_68 (by decide) ?_
          refine X_iload_n (j := 2) dX6_seat_69 rfl rfl ?_
          refine X_ishl (v := 1) dX6_seat_70 (by decide) ?_
          refine X_ior (v := ((tz k43) ||| 1)) dX6_seat_71 rfl ?_
          refine X_iast (j := 3) (g := upd tz k43 ((tz k43) ||| 1)) (cs' := [(pt, ex_o 6 [ex_i s43_0, ex_r p1, ex_r p2, ex_r p3, ex_r p4, ex_i (nI ppn), ex_i (nI pss)]), (p1, ex_a 1 6 s43_1), (p2, ex_a 1 6 (upd s43_2 0 (nI k43))), (p3, ex_a 1 6 (upd tz k43 ((tz k43) ||| 1))), (p4, ex_a 1 64 wrt)]) dX6_seat_72 rfl (vp_in_nI (show k43 < 6 by omega) (by decide)) (by rw [nI_clamp (by omega)]) rfl ?_
          refine X_aload_n (j := 1) dX6_seat_73 rfl rfl ?_
          refine X_iload_n (j := 2) dX6_seat_74 rfl rfl ?_
          refine X_iconst (v := 1) dX6_seat_75 (by decide) ?_
          refine X_iadd (v := 1) dX6_seat_76 (by decide) ?_
          refine X_iload_n (j := 3) dX6_seat_77 rfl rfl ?_
          refine X_iload_n (j := 0) dX6_seat_78 rfl rfl ?_
          refine X_iconst (v := 1) dX6_seat_79 (by decide) ?_
          refine X_iadd (v := nI (k43 + 1)) dX6_seat_80 (nI_add k43 1) ?_
          refine X_mmax (v := nI (max tb (k43 + 1))) k_1069 k_561 k_17 k_562 ⟨(Nat.le_of_ble_eq_true rfl), (Nat.le_of_ble_eq_true rfl)⟩ (Nat.le_of_ble_eq_true rfl) dX6_seat_81 (nI_max (a := tb) (b := k43 + 1) (by omega) (by omega)) ?_
          refine X_callV (j0 := 0) (rest := []) (stk := []) co_X6_47 rfl ⟨(Nat.le_of_ble_eq_true rfl), (Nat.le_of_ble_eq_true rfl)⟩ (e_X6_seat_1 l pt (max tb (k43 + 1)) s43_0 p1 p2 p3 p4 ppn pss s43_1 (upd s43_2 0 (nI k43)) (upd tz k43 ((tz k43) ||| 1)) wrt (by first | assumption | omega) (by first | assumption | omega) (ts_upd hts43 (by omega) (vp_or6 (hts43 k43 (by omega)) (by decide)))) dX6_seat_84 [0, 1, 2, 3, 4] (show List.Perm [0, 1, 2, 3, 4] (List.range 5) from by decide) rfl rfl rfl rfl (Nat.le_of_ble_eq_true rfl) (fun zc1 zr hq hk => ?_)
          obtain ⟨rfl, rfl, he0_e_5⟩ := hq
          try dsimp only at hL43
          generalize hq_w_6 : F_X6_seat_1 (max tb (k43 + 1)) s43_0 ppn pss s43_1 (upd s43_2 0 (nI k43)) (upd tz k43 ((tz k43) ||| 1)) wrt = w_6 at hL43 he0_e_5 ⊢
          try dsimp only at hL43
          refine X_aload_n (j := 1) dX6_seat_87 rfl rfl ?_
          refine X_get (j := 0) fo_X6_22 dX6_seat_88 rfl rfl ?_
          refine X_iload_n (j := 0) dX6_seat_91 rfl rfl ?_
          refine X_dup2_11 dX6_seat_92 rfl rfl ?_
          refine X_iald (j := 3) (v := (w_6.2.2.2 k43)) dX6_seat_93 rfl (vp_in_nI (show k43 < 6 by omega) (by decide)) (by rw [nI_clamp (by omega)]) ?_
          refine X_iconst (v := 1) dX6_seat_94 (by decide) ?_
          refine X_iload_n (j := 2) dX6_seat_95 rfl rfl ?_
          refine X_ishl (v := 1) dX6_seat_96 (by decide) ?_
          refine X_iconst (v := (-1)) dX6_seat_97 (by decide) ?_
          refine X_ixor (v := (-2)) dX6_seat_98 (by decide) ?_
          refine X_iand (v := ((w_6.2.2.2 k43) &&& (-2))) dX6_seat_99 rfl ?_
          refine X_iast (j := 3) (g := upd w_6.2.2.2 k43 ((w_6.2.2.2 k43) &&& (-2))) (cs' := [(pt, ex_o 6 [ex_i w_6.1, ex_r p1, ex_r p2, ex_r p3, ex_r p4, ex_i (nI ppn), ex_i (nI pss)]), (p1, ex_a 1 6 w_6.2.1), (p2, ex_a 1 6 w_6.2.2.1), (p3, ex_a 1 6 (upd w_6.2.2.2 k43 ((w_6.2.2.2 k43) &&& (-2)))), (p4, ex_a 1 64 wrt)]) dX6_seat_100 rfl (vp_in_nI (show k43 < 6 by omega) (by decide)) (by rw [nI_clamp (by omega)]) rfl ?_
          refine X_iinc (v := nI (k43 + 1)) (j := 0) (lv' := [(3, ex_i (nI (k43 + 1))), (0, ex_r pt), (1, ex_i 0), (2, ex_i (nI tb))]) dX6_seat_101 rfl (nI_add k43 1) (Nat.le_of_ble_eq_true rfl) rfl ?_
          refine X_goto (tgt := 43) dX6_seat_104 (by decide) ?_
          try dsimp only at hL43
          exact ihc43 (k43 + 1) w_6.1 w_6.2.1 w_6.2.2.1 (upd w_6.2.2.2 k43 ((w_6.2.2.2 k43) &&& (-2))) ⟨hL43, (show (k43 + 1) ≤ (tb + 1) by omega), (ts_upd he0_e_5 (by omega) (vp_an6 (he0_e_5 k43 (by omega)) (by decide)))⟩ (show (tb + 1) - (k43 + 1) < (tb + 1) - k43 by omega)
      have hts43_x := hPX43
      try dsimp only at hV
      exact X_vret dX6_seat_107 (by (repeat refine ex_kc ?_) <;> rfl) (by subst hV; exact ⟨rfl, rfl, hts43_x⟩)
    · have hV := hV.trans (if_pos c_2)
      refine X_aload_n (j := 0) dX6_seat_25 rfl rfl ?_
      refine X_get (j := 0) fo_X6_19 dX6_seat_26 rfl rfl ?_
      refine X_iload_n (j := 1) dX6_seat_29 rfl rfl ?_
      refine X_iconst (v := (-1)) dX6_seat_30 (by decide) ?_
      refine X_iast (j := 2) (g := upd pr 0 (-1)) (cs' := [(pt, ex_o 6 [ex_i pm, ex_r p1, ex_r p2, ex_r p3, ex_r p4, ex_i (nI ppn), ex_i (nI pss)]), (p1, ex_a 1 6 pb), (p2, ex_a 1 6 (upd pr 0 (-1))), (p3, ex_a 1 6 ts), (p4, ex_a 1 64 wrt)]) dX6_seat_31 rfl (vin (by decide)) rfl rfl ?_
      refine X_aload_n (j := 0) dX6_seat_32 rfl rfl ?_
      refine X_iload_n (j := 1) dX6_seat_33 rfl rfl ?_
      refine X_iconst (v := 1) dX6_seat_34 (by decide) ?_
      refine X_iadd (v := 1) dX6_seat_35 (by decide) ?_
      refine X_iload_n (j := 2) dX6_seat_36 rfl rfl ?_
      refine X_callV (j0 := 0) (rest := []) (stk := []) co_X6_47 rfl ⟨(Nat.le_of_ble_eq_true rfl), (Nat.le_of_ble_eq_true rfl)⟩ (e_X6_seat_1 l pt tb pm p1 p2 p3 p4 ppn pss pb (upd pr 0 (-1)) ts wrt (by first | assumption | omega) (by first | assumption | omega) hts) dX6_seat_37 [0, 1, 2, 3, 4] (show List.Perm [0, 1, 2, 3, 4] (List.range 5) from by decide) rfl rfl rfl rfl (Nat.le_of_ble_eq_true rfl) (fun zc1 zr hq hk => ?_)
      obtain ⟨rfl, rfl, he0_e_7⟩ := hq
      try dsimp only at hV
      generalize hq_w_8 : F_X6_seat_1 tb pm ppn pss pb (upd pr 0 (-1)) ts wrt = w_8 at hV he0_e_7 ⊢
      try dsimp only at hV
      try dsimp only at hV
      exact X_vret dX6_seat_40 (by (repeat refine ex_kc ?_) <;> rfl) (by subst hV; exact ⟨rfl, rfl, he0_e_7⟩)
  · have hV := hV.trans (if_neg c_1)
    refine X_aload_n (j := 0) dX6_seat_8 rfl rfl ?_
    refine X_iload_n (j := 2) dX6_seat_9 rfl rfl ?_
    refine X_callV (j0 := 0) (rest := []) (stk := []) co_X6_65 rfl ⟨(Nat.le_of_ble_eq_true rfl), (Nat.le_of_ble_eq_true rfl)⟩ (e_X6_keepIfBetter l pt tb pm p1 p2 p3 p4 ppn pss pb pr ts wrt (by first | assumption | omega) (by first | assumption | omega)) dX6_seat_10 [0, 1, 2, 3, 4] (show List.Perm [0, 1, 2, 3, 4] (List.range 5) from by decide) rfl rfl rfl rfl (Nat.le_of_ble_eq_true rfl) (fun zc1 zr hq hk => ?_)
    obtain ⟨rfl, rfl⟩ := hq
    try dsimp only at hV
    generalize hq_w_9 : F_X6_keepIfBetter tb pm pb pr ts wrt = w_9 at hV ⊢
    try dsimp only at hV
    try dsimp only at hV
    exact X_vret dX6_seat_13 (by (repeat refine ex_kc ?_) <;> rfl) (by subst hV; exact ⟨rfl, rfl, hts⟩)

def F_X6_parts_L16 (ss : Nat) (d : Nat) (np : Nat) (gf : Nat → Int32) : Nat → Nat → (Nat → Int32) → (Nat → Int32)
  | 0, k16, s16_0 => s16_0
  | zn + 1, k16, s16_0 => (if ((nI k16) &&& ((nI ss) ^^^ (-1))) = 0 then F_X6_parts_L16 ss d np gf zn (k16 + 1) (upd s16_0 k16 (F_X6_worthOf k16 d np gf)) else F_X6_parts_L16 ss d np gf zn (k16 + 1) (upd s16_0 k16 0))
theorem F_X6_parts_L16_z (ss : Nat) (d : Nat) (np : Nat) (gf : Nat → Int32) (k16 : Nat) (s16_0 : Nat → Int32) : F_X6_parts_L16 ss d np gf 0 k16 s16_0 = s16_0 := rfl
theorem F_X6_parts_L16_s (ss : Nat) (d : Nat) (np : Nat) (gf : Nat → Int32) (k16 : Nat) (s16_0 : Nat → Int32) (zn : Nat) : F_X6_parts_L16 ss d np gf (zn + 1) k16 s16_0 = (if ((nI k16) &&& ((nI ss) ^^^ (-1))) = 0 then F_X6_parts_L16 ss d np gf zn (k16 + 1) (upd s16_0 k16 (F_X6_worthOf k16 d np gf)) else F_X6_parts_L16 ss d np gf zn (k16 + 1) (upd s16_0 k16 0)) := rfl
def F_X6_parts (ss : Nat) (d : Nat) (pb : Nat → Int32) (pr : Nat → Int32) (ts : Nat → Int32) (wrt : Nat → Int32) (np : Nat) (gf : Nat → Int32) : Int32 × Nat × Nat × (Nat → Int32) × (Nat → Int32) × (Nat → Int32) × (Nat → Int32) := ((fun (v_1 : (Nat → Int32)) => ((fun (w_5 : Int32 × (Nat → Int32) × (Nat → Int32) × (Nat → Int32)) => (w_5.1, np, ss, w_5.2.1, w_5.2.2.1, w_5.2.2.2, v_1)) (F_X6_seat_0 0 (-1) np ss pb pr (fil 6 0 ts) v_1))) (F_X6_parts_L16 ss d np gf ((ss + 1) - 0) 0 wrt))
set_option maxHeartbeats 4000000 in
set_option maxRecDepth 100000 in
theorem e_X6_parts (l : Launch) (pt : Nat) (c : Nat) (ss : Nat) (d : Nat) (pm : Int32) (p1 : Nat) (p2 : Nat) (p3 : Nat) (p4 : Nat) (ppn : Nat) (pss : Nat) (pb : Nat → Int32) (pr : Nat → Int32) (ts : Nat → Int32) (wrt : Nat → Int32) (c0 : Nat) (c1 : Nat) (c2 : Nat) (c3 : Nat) (c4 : Nat) (c5 : Nat) (c6 : Nat) (c7 : Nat) (c8 : Nat) (c9 : Nat) (c10 : Nat) (c11 : Nat) (c12 : Nat) (np : Nat) (nd : Nat) (sto : Int32) (res : Int32) (c17 : Nat) (c18 : Nat) (c19 : Nat) (gf : Nat → Int32) (hnp : np ≤ 6) (hd : d < 5) (hss : ss < 64) : ex_M l yX6_parts cX6_parts 5 none 9 224 [ex_r pt, ex_r c, ex_i (nI ss), ex_i (nI d)] [(pt, ex_o 6 [ex_i pm, ex_r p1, ex_r p2, ex_r p3, ex_r p4, ex_i (nI ppn), ex_i (nI pss)]), (p1, ex_a 1 6 pb), (p2, ex_a 1 6 pr), (p3, ex_a 1 6 ts), (p4, ex_a 1 64 wrt), (c, ex_o 0 [ex_r c0, ex_r c1, ex_r c2, ex_r c3, ex_r c4, ex_r c5, ex_r c6, ex_r c7, ex_r c8, ex_r c9, ex_r c10, ex_r c11, ex_r c12, ex_i (nI np), ex_i (nI nd), ex_i sto, ex_i res, ex_r c17, ex_r c18, ex_r c19]), (c17, ex_a 1 360 gf)] (fun zcs zr => zcs = [(pt, ex_o 6 [ex_i ((F_X6_parts ss d pb pr ts wrt np gf).1), ex_r p1, ex_r p2, ex_r p3, ex_r p4, ex_i (nI (F_X6_parts ss d pb pr ts wrt np gf).2.1), ex_i (nI (F_X6_parts ss d pb pr ts wrt np gf).2.2.1)]), (p1, ex_a 1 6 ((F_X6_parts ss d pb pr ts wrt np gf).2.2.2.1)), (p2, ex_a 1 6 ((F_X6_parts ss d pb pr ts wrt np gf).2.2.2.2.1)), (p3, ex_a 1 6 ((F_X6_parts ss d pb pr ts wrt np gf).2.2.2.2.2.1)), (p4, ex_a 1 64 ((F_X6_parts ss d pb pr ts wrt np gf).2.2.2.2.2.2)), (c, ex_o 0 [ex_r c0, ex_r c1, ex_r c2, ex_r c3, ex_r c4, ex_r c5, ex_r c6, ex_r c7, ex_r c8, ex_r c9, ex_r c10, ex_r c11, ex_r c12, ex_i (nI np), ex_i (nI nd), ex_i sto, ex_i res, ex_r c17, ex_r c18, ex_r c19]), (c17, ex_a 1 360 gf)] ∧ zr = none) := by
  refine X_meth (by decide) (Nat.le_of_ble_eq_true rfl) ?_
  generalize hV : F_X6_parts ss d pb pr ts wrt np gf = V0
  have hV := hV.symm
  unfold F_X6_parts at hV
  try dsimp only at hV
  refine X_aload_n (j := 0) dX6_parts_0 rfl rfl ?_
  refine X_aload_n (j := 1) dX6_parts_1 rfl rfl ?_
  refine X_get (j := 5) fo_X6_34 dX6_parts_2 rfl rfl ?_
  refine X_put (j := 0) (cs' := [(pt, ex_o 6 [ex_i pm, ex_r p1, ex_r p2, ex_r p3, ex_r p4, ex_i (nI np), ex_i (nI pss)]), (p1, ex_a 1 6 pb), (p2, ex_a 1 6 pr), (p3, ex_a 1 6 ts), (p4, ex_a 1 64 wrt), (c, ex_o 0 [ex_r c0, ex_r c1, ex_r c2, ex_r c3, ex_r c4, ex_r c5, ex_r c6, ex_r c7, ex_r c8, ex_r c9, ex_r c10, ex_r c11, ex_r c12, ex_i (nI np), ex_i (nI nd), ex_i sto, ex_i res, ex_r c17, ex_r c18, ex_r c19]), (c17, ex_a 1 360 gf)]) fo_X6_28 (by decide) dX6_parts_5 rfl (Nat.le_of_ble_eq_true rfl) trivial rfl ?_
  refine X_aload_n (j := 0) dX6_parts_8 rfl rfl ?_
  refine X_iload_n (j := 2) dX6_parts_9 rfl rfl ?_
  refine X_put (j := 0) (cs' := [(pt, ex_o 6 [ex_i pm, ex_r p1, ex_r p2, ex_r p3, ex_r p4, ex_i (nI np), ex_i (nI ss)]), (p1, ex_a 1 6 pb), (p2, ex_a 1 6 pr), (p3, ex_a 1 6 ts), (p4, ex_a 1 64 wrt), (c, ex_o 0 [ex_r c0, ex_r c1, ex_r c2, ex_r c3, ex_r c4, ex_r c5, ex_r c6, ex_r c7, ex_r c8, ex_r c9, ex_r c10, ex_r c11, ex_r c12, ex_i (nI np), ex_i (nI nd), ex_i sto, ex_i res, ex_r c17, ex_r c18, ex_r c19]), (c17, ex_a 1 360 gf)]) fo_X6_31 (by decide) dX6_parts_10 rfl (Nat.le_of_ble_eq_true rfl) trivial rfl ?_
  refine X_iconst (v := 0) dX6_parts_13 (by decide) ?_
  refine X_istore (lv' := [(4, ex_i 0), (0, ex_r pt), (1, ex_r c), (2, ex_i (nI ss)), (3, ex_i (nI d))]) dX6_parts_14 (Nat.le_of_ble_eq_true rfl) rfl ?_
  -- loop at 16
  try dsimp only at hV
  generalize hq_v_1 : F_X6_parts_L16 ss d np gf ((ss + 1) - 0) 0 wrt = v_1 at hV
  try dsimp only at hV
  refine X_cut (P := True) (csE := [(pt, ex_o 6 [ex_i pm, ex_r p1, ex_r p2, ex_r p3, ex_r p4, ex_i (nI np), ex_i (nI ss)]), (p1, ex_a 1 6 pb), (p2, ex_a 1 6 pr), (p3, ex_a 1 6 ts), (p4, ex_a 1 64 v_1), (c, ex_o 0 [ex_r c0, ex_r c1, ex_r c2, ex_r c3, ex_r c4, ex_r c5, ex_r c6, ex_r c7, ex_r c8, ex_r c9, ex_r c10, ex_r c11, ex_r c12, ex_i (nI np), ex_i (nI nd), ex_i sto, ex_i res, ex_r c17, ex_r c18, ex_r c19]), (c17, ex_a 1 360 gf)]) (lvE := [(0, ex_r pt), (1, ex_r c), (2, ex_i (nI ss)), (3, ex_i (nI d))]) (E := 61) (fun hrest16 => ?_) (fun hPX16 => ?_)
  · have hL16 := hq_v_1.symm
    refine X_ind (fun (a16 : Nat × (Nat → Int32)) => v_1 = F_X6_parts_L16 ss d np gf ((ss + 1) - a16.1) a16.1 a16.2 ∧ a16.1 ≤ (ss + 1)) (fun (a16 : Nat × (Nat → Int32)) => (ss + 1) - a16.1) (fun (a16 : Nat × (Nat → Int32)) => [(pt, ex_o 6 [ex_i pm, ex_r p1, ex_r p2, ex_r p3, ex_r p4, ex_i (nI np), ex_i (nI ss)]), (p1, ex_a 1 6 pb), (p2, ex_a 1 6 pr), (p3, ex_a 1 6 ts), (p4, ex_a 1 64 a16.2), (c, ex_o 0 [ex_r c0, ex_r c1, ex_r c2, ex_r c3, ex_r c4, ex_r c5, ex_r c6, ex_r c7, ex_r c8, ex_r c9, ex_r c10, ex_r c11, ex_r c12, ex_i (nI np), ex_i (nI nd), ex_i sto, ex_i res, ex_r c17, ex_r c18, ex_r c19]), (c17, ex_a 1 360 gf)]) (fun (a16 : Nat × (Nat → Int32)) => [(4, ex_i (nI a16.1)), (0, ex_r pt), (1, ex_r c), (2, ex_i (nI ss)), (3, ex_i (nI d))]) (fun ⟨k16, s16_0⟩ hI16 ih16 => ?_) (0, wrt) ⟨hL16, (by omega)⟩
    try dsimp only at hI16 ih16 ⊢
    have ihc16 : ∀ (k16_ : Nat) (s16_0_ : Nat → Int32), (v_1 = F_X6_parts_L16 ss d np gf ((ss + 1) - k16_) k16_ s16_0_ ∧ k16_ ≤ (ss + 1)) → ((ss + 1) - k16_) < ((ss + 1) - k16) → ex_O _ _ _ _ _ _ _ _ _ [(pt, ex_o 6 [ex_i pm, ex_r p1, ex_r p2, ex_r p3, ex_r p4, ex_i (nI np), ex_i (nI ss)]), (p1, ex_a 1 6 pb), (p2, ex_a 1 6 pr), (p3, ex_a 1 6 ts), (p4, ex_a 1 64 s16_0_), (c, ex_o 0 [ex_r c0, ex_r c1, ex_r c2, ex_r c3, ex_r c4, ex_r c5, ex_r c6, ex_r c7, ex_r c8, ex_r c9, ex_r c10, ex_r c11, ex_r c12, ex_i (nI np), ex_i (nI nd), ex_i sto, ex_i res, ex_r c17, ex_r c18, ex_r c19]), (c17, ex_a 1 360 gf)] [(4, ex_i (nI k16_)), (0, ex_r pt), (1, ex_r c), (2, ex_i (nI ss)), (3, ex_i (nI d))] _ _ := fun k16_ s16_0_ hi_ hm_ => ih16 (k16_, s16_0_) hi_ hm_
    have hL16 := hI16.1
    have hb16 := hI16.2
    refine X_iload (j := 0) dX6_parts_16 rfl ?_
    refine X_aload_n (j := 1) dX6_parts_18 rfl rfl ?_
    refine X_get (j := 0) fo_X6_31 dX6_parts_19 rfl rfl ?_
    refine X_icmp_gt (tgt := 61) dX6_parts_22 (by decide) (fun c_2 => ?_) (fun c_2 => ?_)
    · have hlt16 : k16 = (ss + 1) := ngtx (L := (ss + 1)) (by omega) hb16 c_2
      rw [show (ss + 1) - k16 = 0 by omega] at hL16
      have hL16 := hL16.trans (F_X6_parts_L16_z ..)
      try dsimp only at hL16
      refine X_lv (lv' := [(0, ex_r pt), (1, ex_r c), (2, ex_i (nI ss)), (3, ex_i (nI d))]) [1, 2, 3, 4] rfl ?_
      refine X_eq (cs' := [(pt, ex_o 6 [ex_i pm, ex_r p1, ex_r p2, ex_r p3, ex_r p4, ex_i (nI np), ex_i (nI ss)]), (p1, ex_a 1 6 pb), (p2, ex_a 1 6 pr), (p3, ex_a 1 6 ts), (p4, ex_a 1 64 v_1), (c, ex_o 0 [ex_r c0, ex_r c1, ex_r c2, ex_r c3, ex_r c4, ex_r c5, ex_r c6, ex_r c7, ex_r c8, ex_r c9, ex_r c10, ex_r c11, ex_r c12, ex_i (nI np), ex_i (nI nd), ex_i sto, ex_i res, ex_r c17, ex_r c18, ex_r c19]), (c17, ex_a 1 360 gf)]) (lv' := [(0, ex_r pt), (1, ex_r c), (2, ex_i (nI ss)), (3, ex_i (nI d))]) (by subst hL16; rfl) (by subst hL16; rfl) ?_
      exact hrest16 trivial
    · have hlt16 : k16 < (ss + 1) := ngti (L := (ss + 1)) (by omega) hb16 c_2
      rw [show (ss + 1) - k16 = ((ss + 1) - (k16 + 1)) + 1 by omega] at hL16
      have hL16 := hL16.trans (F_X6_parts_L16_s ..)
      refine X_aload_n (j := 1) dX6_parts_25 rfl rfl ?_
      refine X_get (j := 0) fo_X6_25 dX6_parts_26 rfl rfl ?_
      refine X_iload (j := 0) dX6_parts_29 rfl ?_
      refine X_iload (j := 0) dX6_parts_31 rfl ?_
      refine X_aload_n (j := 1) dX6_parts_33 rfl rfl ?_
      refine X_get (j := 0) fo_X6_31 dX6_parts_34 rfl rfl ?_
      refine X_iconst (v := (-1)) dX6_parts_37 (by decide) ?_
      refine X_ixor (v := ((nI ss) ^^^ (-1))) dX6_parts_38 rfl ?_
      refine X_iand (v := ((nI k16) &&& ((nI ss) ^^^ (-1)))) dX6_parts_39 rfl ?_
      refine X_if_ne (tgt := 53) dX6_parts_40 (by decide) (fun c_3 => ?_) (fun c_3 => ?_)
      · have hL16 := hL16.trans (if_neg c_3)
        refine X_iconst (v := 0) dX6_parts_53 (by decide) ?_
        refine X_iast (j := 4) (g := upd s16_0 k16 0) (cs' := [(pt, ex_o 6 [ex_i pm, ex_r p1, ex_r p2, ex_r p3, ex_r p4, ex_i (nI np), ex_i (nI ss)]), (p1, ex_a 1 6 pb), (p2, ex_a 1 6 pr), (p3, ex_a 1 6 ts), (p4, ex_a 1 64 (upd s16_0 k16 0)), (c, ex_o 0 [ex_r c0, ex_r c1, ex_r c2, ex_r c3, ex_r c4, ex_r c5, ex_r c6, ex_r c7, ex_r c8, ex_r c9, ex_r c10, ex_r c11, ex_r c12, ex_i (nI np), ex_i (nI nd), ex_i sto, ex_i res, ex_r c17, ex_r c18, ex_r c19]), (c17, ex_a 1 360 gf)]) dX6_parts_54 rfl (vp_in_nI (show k16 < 64 by omega) (by decide)) (by rw [nI_clamp (by omega)]) rfl ?_
        refine X_iinc (v := nI (k16 + 1)) (j := 0) (lv' := [(4, ex_i (nI (k16 + 1))), (0, ex_r pt), (1, ex_r c), (2, ex_i (nI ss)), (3, ex_i (nI d))]) dX6_parts_55 rfl (nI_add k16 1) (Nat.le_of_ble_eq_true rfl) rfl ?_
        refine X_goto (tgt := 16) dX6_parts_58 (by decide) ?_
        try dsimp only at hL16
        exact ihc16 (k16 + 1) (upd s16_0 k16 0) ⟨hL16, (show (k16 + 1) ≤ (ss + 1) by omega)⟩ (show (ss + 1) - (k16 + 1) < (ss + 1) - k16 by omega)
      · have hL16 := hL16.trans (if_pos c_3)
        refine X_aload_n (j := 2) dX6_parts_43 rfl rfl ?_
        refine X_iload (j := 0) dX6_parts_44 rfl ?_
        refine X_iload_n (j := 4) dX6_parts_46 rfl rfl ?_
        refine X_callS (rest := [(pt, ex_o 6 [ex_i pm, ex_r p1, ex_r p2, ex_r p3, ex_r p4, ex_i (nI np), ex_i (nI ss)]), (p1, ex_a 1 6 pb), (p2, ex_a 1 6 pr), (p3, ex_a 1 6 ts), (p4, ex_a 1 64 s16_0)]) (stk := [ex_i (nI k16), ex_r p4]) co_X6_37 rfl ⟨(Nat.le_of_ble_eq_true rfl), (Nat.le_of_ble_eq_true rfl)⟩ (e_X6_worthOf l c k16 d c0 c1 c2 c3 c4 c5 c6 c7 c8 c9 c10 c11 c12 np nd sto res c17 c18 c19 gf (by first | assumption | omega) (by first | assumption | omega)) dX6_parts_47 [5, 6, 0, 1, 2, 3, 4] (show List.Perm [5, 6, 0, 1, 2, 3, 4] (List.range 7) from by decide) rfl rfl rfl (Nat.le_of_ble_eq_true rfl) (fun zc1 zr hq hk => ?_)
        obtain ⟨rfl, rfl⟩ := hq
        refine X_goto (tgt := 54) dX6_parts_50 (by decide) ?_
        refine X_iast (j := 6) (g := upd s16_0 k16 (F_X6_worthOf k16 d np gf)) (cs' := [(c, ex_o 0 [ex_r c0, ex_r c1, ex_r c2, ex_r c3, ex_r c4, ex_r c5, ex_r c6, ex_r c7, ex_r c8, ex_r c9, ex_r c10, ex_r c11, ex_r c12, ex_i (nI np), ex_i (nI nd), ex_i sto, ex_i res, ex_r c17, ex_r c18, ex_r c19]), (c17, ex_a 1 360 gf), (pt, ex_o 6 [ex_i pm, ex_r p1, ex_r p2, ex_r p3, ex_r p4, ex_i (nI np), ex_i (nI ss)]), (p1, ex_a 1 6 pb), (p2, ex_a 1 6 pr), (p3, ex_a 1 6 ts), (p4, ex_a 1 64 (upd s16_0 k16 (F_X6_worthOf k16 d np gf)))]) dX6_parts_54 rfl (vp_in_nI (show k16 < 64 by omega) (by decide)) (by rw [nI_clamp (by omega)]) rfl ?_
        refine X_iinc (v := nI (k16 + 1)) (j := 0) (lv' := [(4, ex_i (nI (k16 + 1))), (0, ex_r pt), (1, ex_r c), (2, ex_i (nI ss)), (3, ex_i (nI d))]) dX6_parts_55 rfl (nI_add k16 1) (Nat.le_of_ble_eq_true rfl) rfl ?_
        refine X_goto (tgt := 16) dX6_parts_58 (by decide) ?_
        try dsimp only at hL16
        refine X_re (cs' := [(pt, ex_o 6 [ex_i pm, ex_r p1, ex_r p2, ex_r p3, ex_r p4, ex_i (nI np), ex_i (nI ss)]), (p1, ex_a 1 6 pb), (p2, ex_a 1 6 pr), (p3, ex_a 1 6 ts), (p4, ex_a 1 64 (upd s16_0 k16 (F_X6_worthOf k16 d np gf))), (c, ex_o 0 [ex_r c0, ex_r c1, ex_r c2, ex_r c3, ex_r c4, ex_r c5, ex_r c6, ex_r c7, ex_r c8, ex_r c9, ex_r c10, ex_r c11, ex_r c12, ex_i (nI np), ex_i (nI nd), ex_i sto, ex_i res, ex_r c17, ex_r c18, ex_r c19]), (c17, ex_a 1 360 gf)]) [2, 3, 4, 5, 6, 0, 1] (show List.Perm [2, 3, 4, 5, 6, 0, 1] (List.range 7) from by decide) rfl ?_
        exact ihc16 (k16 + 1) (upd s16_0 k16 (F_X6_worthOf k16 d np gf)) ⟨hL16, (show (k16 + 1) ≤ (ss + 1) by omega)⟩ (show (ss + 1) - (k16 + 1) < (ss + 1) - k16 by omega)
  refine X_aload_n (j := 0) dX6_parts_61 rfl rfl ?_
  refine X_get (j := 0) fo_X6_22 dX6_parts_62 rfl rfl ?_
  refine X_iconst (v := 0) dX6_parts_65 (by decide) ?_
  refine X_callS (rest := [(pt, ex_o 6 [ex_i pm, ex_r p1, ex_r p2, ex_r p3, ex_r p4, ex_i (nI np), ex_i (nI ss)]), (p1, ex_a 1 6 pb), (p2, ex_a 1 6 pr), (p4, ex_a 1 64 v_1), (c, ex_o 0 [ex_r c0, ex_r c1, ex_r c2, ex_r c3, ex_r c4, ex_r c5, ex_r c6, ex_r c7, ex_r c8, ex_r c9, ex_r c10, ex_r c11, ex_r c12, ex_i (nI np), ex_i (nI nd), ex_i sto, ex_i res, ex_r c17, ex_r c18, ex_r c19]), (c17, ex_a 1 360 gf)]) (stk := []) co_X6_41 rfl ⟨(Nat.le_of_ble_eq_true rfl), (Nat.le_of_ble_eq_true rfl)⟩ (e_J7_fill_53178 l p3 6 0 ts (by decide)) dX6_parts_66 [3, 0, 1, 2, 4, 5, 6] (show List.Perm [3, 0, 1, 2, 4, 5, 6] (List.range 7) from by decide) rfl rfl rfl (Nat.le_of_ble_eq_true rfl) (fun cs1 r hq hk => ?_)
  rcases hq with ⟨rfl, rfl⟩
  refine X_aload_n (j := 0) dX6_parts_69 rfl rfl ?_
  refine X_iconst (v := (-1)) dX6_parts_70 (by decide) ?_
  refine X_put (j := 1) (cs' := [(p3, ex_a 1 6 (fil 6 0 ts)), (pt, ex_o 6 [ex_i (-1), ex_r p1, ex_r p2, ex_r p3, ex_r p4, ex_i (nI np), ex_i (nI ss)]), (p1, ex_a 1 6 pb), (p2, ex_a 1 6 pr), (p4, ex_a 1 64 v_1), (c, ex_o 0 [ex_r c0, ex_r c1, ex_r c2, ex_r c3, ex_r c4, ex_r c5, ex_r c6, ex_r c7, ex_r c8, ex_r c9, ex_r c10, ex_r c11, ex_r c12, ex_i (nI np), ex_i (nI nd), ex_i sto, ex_i res, ex_r c17, ex_r c18, ex_r c19]), (c17, ex_a 1 360 gf)]) fo_X6_9 (by decide) dX6_parts_71 rfl (Nat.le_of_ble_eq_true rfl) trivial rfl ?_
  refine X_aload_n (j := 0) dX6_parts_74 rfl rfl ?_
  refine X_iconst (v := 0) dX6_parts_75 (by decide) ?_
  refine X_iconst (v := 0) dX6_parts_76 (by decide) ?_
  refine X_callV (j0 := 0) (rest := [(c, ex_o 0 [ex_r c0, ex_r c1, ex_r c2, ex_r c3, ex_r c4, ex_r c5, ex_r c6, ex_r c7, ex_r c8, ex_r c9, ex_r c10, ex_r c11, ex_r c12, ex_i (nI np), ex_i (nI nd), ex_i sto, ex_i res, ex_r c17, ex_r c18, ex_r c19]), (c17, ex_a 1 360 gf)]) (stk := []) co_X6_47 rfl ⟨(Nat.le_of_ble_eq_true rfl), (Nat.le_of_ble_eq_true rfl)⟩ (e_X6_seat_0 l pt 0 (-1) p1 p2 p3 p4 np ss pb pr (fil 6 0 ts) v_1 (by first | assumption | omega) (Nat.le_refl 0) (fun j hj => by rw [fil_lt hj]; exact vin (by decide))) dX6_parts_77 [1, 2, 3, 0, 4, 5, 6] (show List.Perm [1, 2, 3, 0, 4, 5, 6] (List.range 7) from by decide) rfl rfl rfl rfl (Nat.le_of_ble_eq_true rfl) (fun zc1 zr hq hk => ?_)
  obtain ⟨rfl, rfl, he0_e_4⟩ := hq
  try dsimp only at hV
  generalize hq_w_5 : F_X6_seat_0 0 (-1) np ss pb pr (fil 6 0 ts) v_1 = w_5 at hV he0_e_4 ⊢
  try dsimp only at hV
  try dsimp only at hV
  exact X_vret dX6_parts_80 (by (repeat refine ex_kc ?_) <;> rfl) (by subst hV; exact ⟨rfl, rfl⟩)
