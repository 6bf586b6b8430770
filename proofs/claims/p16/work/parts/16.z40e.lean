def F_X8_begins (fu : Nat → Int32) (ae : Nat → Int32) (hu : Nat → Int32) (sto : Int32) : Int32 × Int32 × Int32 × (Nat → Int32) × (Nat → Int32) × (Nat → Int32) := (0, sto, 0, fil 6 50 fu, fil 6 (-1) ae, fil 6 0 hu)
set_option maxHeartbeats 4000000 in
set_option maxRecDepth 100000 in
theorem e_X8_begins (l : Launch) (n : Nat) (c : Nat) (dy : Int32) (sr : Int32) (il : Int32) (nf : Nat) (na : Nat) (nh : Nat) (fu : Nat → Int32) (ae : Nat → Int32) (hu : Nat → Int32) (c0 : Nat) (c1 : Nat) (c2 : Nat) (c3 : Nat) (c4 : Nat) (c5 : Nat) (c6 : Nat) (c7 : Nat) (c8 : Nat) (c9 : Nat) (c10 : Nat) (c11 : Nat) (c12 : Nat) (np : Nat) (nd : Nat) (sto : Int32) (res : Int32) (c17 : Nat) (c18 : Nat) (c19 : Nat) : ex_M l yX8_begins cX8_begins 2 none 1 23 [ex_r n, ex_r c] [(n, ex_o 8 [ex_i dy, ex_i sr, ex_i il, ex_r nf, ex_r na, ex_r nh]), (nf, ex_a 1 6 fu), (na, ex_a 1 6 ae), (nh, ex_a 1 6 hu), (c, ex_o 0 [ex_r c0, ex_r c1, ex_r c2, ex_r c3, ex_r c4, ex_r c5, ex_r c6, ex_r c7, ex_r c8, ex_r c9, ex_r c10, ex_r c11, ex_r c12, ex_i (nI np), ex_i (nI nd), ex_i sto, ex_i res, ex_r c17, ex_r c18, ex_r c19])] (fun zcs zr => zcs = [(n, ex_o 8 [ex_i ((F_X8_begins fu ae hu sto).1), ex_i ((F_X8_begins fu ae hu sto).2.1), ex_i ((F_X8_begins fu ae hu sto).2.2.1), ex_r nf, ex_r na, ex_r nh]), (nf, ex_a 1 6 ((F_X8_begins fu ae hu sto).2.2.2.1)), (na, ex_a 1 6 ((F_X8_begins fu ae hu sto).2.2.2.2.1)), (nh, ex_a 1 6 ((F_X8_begins fu ae hu sto).2.2.2.2.2)), (c, ex_o 0 [ex_r c0, ex_r c1, ex_r c2, ex_r c3, ex_r c4, ex_r c5, ex_r c6, ex_r c7, ex_r c8, ex_r c9, ex_r c10, ex_r c11, ex_r c12, ex_i (nI np), ex_i (nI nd), ex_i sto, ex_i res, ex_r c17, ex_r c18, ex_r c19])] ∧ zr = none) := by
  refine X_meth (by decide) (Nat.le_of_ble_eq_true rfl) ?_
  generalize hV : F_X8_begins fu ae hu sto = V0
  have hV := hV.symm
  unfold F_X8_begins at hV
  try dsimp only at hV
  refine X_aload_n (j := 0) dX8_begins_0 rfl rfl ?_
  refine X_iconst (v := 0) dX8_begins_1 (by decide) ?_
  refine X_put (j := 0) (cs' := [(n, ex_o 8 [ex_i 0, ex_i sr, ex_i il, ex_r nf, ex_r na, ex_r nh]), (nf, ex_a 1 6 fu), (na, ex_a 1 6 ae), (nh, ex_a 1 6 hu), (c, ex_o 0 [ex_r c0, ex_r c1, ex_r c2, ex_r c3, ex_r c4, ex_r c5, ex_r c6, ex_r c7, ex_r c8, ex_r c9, ex_r c10, ex_r c11, ex_r c12, ex_i (nI np), ex_i (nI nd), ex_i sto, ex_i res, ex_r c17, ex_r c18, ex_r c19])]) fo_X8_9 (by decide) dX8_begins_2 rfl (Nat.le_of_ble_eq_true rfl) trivial rfl ?_
  refine X_aload_n (j := 0) dX8_begins_5 rfl rfl ?_
  refine X_aload_n (j := 1) dX8_begins_6 rfl rfl ?_
  refine X_get (j := 4) fo_X8_31 dX8_begins_7 rfl rfl ?_
  refine X_put (j := 0) (cs' := [(n, ex_o 8 [ex_i 0, ex_i sto, ex_i il, ex_r nf, ex_r na, ex_r nh]), (nf, ex_a 1 6 fu), (na, ex_a 1 6 ae), (nh, ex_a 1 6 hu), (c, ex_o 0 [ex_r c0, ex_r c1, ex_r c2, ex_r c3, ex_r c4, ex_r c5, ex_r c6, ex_r c7, ex_r c8, ex_r c9, ex_r c10, ex_r c11, ex_r c12, ex_i (nI np), ex_i (nI nd), ex_i sto, ex_i res, ex_r c17, ex_r c18, ex_r c19])]) fo_X8_15 (by decide) dX8_begins_10 rfl (Nat.le_of_ble_eq_true rfl) trivial rfl ?_
  refine X_aload_n (j := 0) dX8_begins_13 rfl rfl ?_
  refine X_iconst (v := 0) dX8_begins_14 (by decide) ?_
  refine X_put (j := 0) (cs' := [(n, ex_o 8 [ex_i 0, ex_i sto, ex_i 0, ex_r nf, ex_r na, ex_r nh]), (nf, ex_a 1 6 fu), (na, ex_a 1 6 ae), (nh, ex_a 1 6 hu), (c, ex_o 0 [ex_r c0, ex_r c1, ex_r c2, ex_r c3, ex_r c4, ex_r c5, ex_r c6, ex_r c7, ex_r c8, ex_r c9, ex_r c10, ex_r c11, ex_r c12, ex_i (nI np), ex_i (nI nd), ex_i sto, ex_i res, ex_r c17, ex_r c18, ex_r c19])]) fo_X8_18 (by decide) dX8_begins_15 rfl (Nat.le_of_ble_eq_true rfl) trivial rfl ?_
  refine X_aload_n (j := 0) dX8_begins_18 rfl rfl ?_
  refine X_get (j := 0) fo_X8_21 dX8_begins_19 rfl rfl ?_
  refine X_bipush (v := 50) dX8_begins_22 (by decide) ?_
  refine X_callS (rest := [(n, ex_o 8 [ex_i 0, ex_i sto, ex_i 0, ex_r nf, ex_r na, ex_r nh]), (na, ex_a 1 6 ae), (nh, ex_a 1 6 hu), (c, ex_o 0 [ex_r c0, ex_r c1, ex_r c2, ex_r c3, ex_r c4, ex_r c5, ex_r c6, ex_r c7, ex_r c8, ex_r c9, ex_r c10, ex_r c11, ex_r c12, ex_i (nI np), ex_i (nI nd), ex_i sto, ex_i res, ex_r c17, ex_r c18, ex_r c19])]) (stk := []) co_X8_34 rfl ⟨(Nat.le_of_ble_eq_true rfl), (Nat.le_of_ble_eq_true rfl)⟩ (e_J7_fill_53178 l nf 6 50 fu (by decide)) dX8_begins_24 [1, 0, 2, 3, 4] (show List.Perm [1, 0, 2, 3, 4] (List.range 5) from by decide) rfl rfl rfl (Nat.le_of_ble_eq_true rfl) (fun cs1 r hq hk => ?_)
  rcases hq with ⟨rfl, rfl⟩
  refine X_aload_n (j := 0) dX8_begins_27 rfl rfl ?_
  refine X_get (j := 1) fo_X8_25 dX8_begins_28 rfl rfl ?_
  refine X_iconst (v := (-1)) dX8_begins_31 (by decide) ?_
  refine X_callS (rest := [(nf, ex_a 1 6 (fil 6 50 fu)), (n, ex_o 8 [ex_i 0, ex_i sto, ex_i 0, ex_r nf, ex_r na, ex_r nh]), (nh, ex_a 1 6 hu), (c, ex_o 0 [ex_r c0, ex_r c1, ex_r c2, ex_r c3, ex_r c4, ex_r c5, ex_r c6, ex_r c7, ex_r c8, ex_r c9, ex_r c10, ex_r c11, ex_r c12, ex_i (nI np), ex_i (nI nd), ex_i sto, ex_i res, ex_r c17, ex_r c18, ex_r c19])]) (stk := []) co_X8_34 rfl ⟨(Nat.le_of_ble_eq_true rfl), (Nat.le_of_ble_eq_true rfl)⟩ (e_J7_fill_53178 l na 6 (-1) ae (by decide)) dX8_begins_32 [2, 0, 1, 3, 4] (show List.Perm [2, 0, 1, 3, 4] (List.range 5) from by decide) rfl rfl rfl (Nat.le_of_ble_eq_true rfl) (fun cs1 r hq hk => ?_)
  rcases hq with ⟨rfl, rfl⟩
  refine X_aload_n (j := 0) dX8_begins_35 rfl rfl ?_
  refine X_get (j := 2) fo_X8_28 dX8_begins_36 rfl rfl ?_
  refine X_iconst (v := 0) dX8_begins_39 (by decide) ?_
  refine X_callS (rest := [(na, ex_a 1 6 (fil 6 (-1) ae)), (nf, ex_a 1 6 (fil 6 50 fu)), (n, ex_o 8 [ex_i 0, ex_i sto, ex_i 0, ex_r nf, ex_r na, ex_r nh]), (c, ex_o 0 [ex_r c0, ex_r c1, ex_r c2, ex_r c3, ex_r c4, ex_r c5, ex_r c6, ex_r c7, ex_r c8, ex_r c9, ex_r c10, ex_r c11, ex_r c12, ex_i (nI np), ex_i (nI nd), ex_i sto, ex_i res, ex_r c17, ex_r c18, ex_r c19])]) (stk := []) co_X8_34 rfl ⟨(Nat.le_of_ble_eq_true rfl), (Nat.le_of_ble_eq_true rfl)⟩ (e_J7_fill_53178 l nh 6 0 hu (by decide)) dX8_begins_40 [3, 0, 1, 2, 4] (show List.Perm [3, 0, 1, 2, 4] (List.range 5) from by decide) rfl rfl rfl (Nat.le_of_ble_eq_true rfl) (fun cs1 r hq hk => ?_)
  rcases hq with ⟨rfl, rfl⟩
  try dsimp only at hV
  refine X_re (cs' := [(n, ex_o 8 [ex_i 0, ex_i sto, ex_i 0, ex_r nf, ex_r na, ex_r nh]), (nf, ex_a 1 6 (fil 6 50 fu)), (na, ex_a 1 6 (fil 6 (-1) ae)), (nh, ex_a 1 6 (fil 6 0 hu)), (c, ex_o 0 [ex_r c0, ex_r c1, ex_r c2, ex_r c3, ex_r c4, ex_r c5, ex_r c6, ex_r c7, ex_r c8, ex_r c9, ex_r c10, ex_r c11, ex_r c12, ex_i (nI np), ex_i (nI nd), ex_i sto, ex_i res, ex_r c17, ex_r c18, ex_r c19])]) [3, 2, 1, 0, 4] (show List.Perm [3, 2, 1, 0, 4] (List.range 5) from by decide) rfl ?_
  exact X_vret dX8_begins_43 (by (repeat refine ex_kc ?_) <;> rfl) (by subst hV; exact ⟨rfl, rfl⟩)

def F_X8_copiesDay (fu : Nat → Int32) (ae : Nat → Int32) (ody : Int32) (osr : Int32) (ofu : Nat → Int32) (oae : Nat → Int32) : Int32 × Int32 × (Nat → Int32) × (Nat → Int32) := (ody, osr, va_cpy ofu fu 0 0 6, va_cpy oae ae 0 0 6)
set_option maxHeartbeats 4000000 in
set_option maxRecDepth 100000 in
theorem e_X8_copiesDay (l : Launch) (nh : Nat) (oh : Nat) (n : Nat) (o : Nat) (dy : Int32) (sr : Int32) (il : Int32) (nf : Nat) (na : Nat) (fu : Nat → Int32) (ae : Nat → Int32) (ody : Int32) (osr : Int32) (oil : Int32) (of : Nat) (oa : Nat) (ofu : Nat → Int32) (oae : Nat → Int32) : ex_M l yX8_copiesDay cX8_copiesDay 2 none 1 40 [ex_r n, ex_r o] [(n, ex_o 8 [ex_i dy, ex_i sr, ex_i il, ex_r nf, ex_r na, ex_r nh]), (nf, ex_a 1 6 fu), (na, ex_a 1 6 ae), (o, ex_o 8 [ex_i ody, ex_i osr, ex_i oil, ex_r of, ex_r oa, ex_r oh]), (of, ex_a 1 6 ofu), (oa, ex_a 1 6 oae)] (fun zcs zr => zcs = [(n, ex_o 8 [ex_i ((F_X8_copiesDay fu ae ody osr ofu oae).1), ex_i ((F_X8_copiesDay fu ae ody osr ofu oae).2.1), ex_i il, ex_r nf, ex_r na, ex_r nh]), (nf, ex_a 1 6 ((F_X8_copiesDay fu ae ody osr ofu oae).2.2.1)), (na, ex_a 1 6 ((F_X8_copiesDay fu ae ody osr ofu oae).2.2.2)), (o, ex_o 8 [ex_i ody, ex_i osr, ex_i oil, ex_r of, ex_r oa, ex_r oh]), (of, ex_a 1 6 ofu), (oa, ex_a 1 6 oae)] ∧ zr = none) := by
  refine X_meth (by decide) (Nat.le_of_ble_eq_true rfl) ?_
  generalize hV : F_X8_copiesDay fu ae ody osr ofu oae = V0
  have hV := hV.symm
  unfold F_X8_copiesDay at hV
  try dsimp only at hV
  refine X_aload_n (j := 0) dX8_copiesDay_0 rfl rfl ?_
  refine X_aload_n (j := 1) dX8_copiesDay_1 rfl rfl ?_
  refine X_get (j := 3) fo_X8_9 dX8_copiesDay_2 rfl rfl ?_
  refine X_put (j := 0) (cs' := [(n, ex_o 8 [ex_i ody, ex_i sr, ex_i il, ex_r nf, ex_r na, ex_r nh]), (nf, ex_a 1 6 fu), (na, ex_a 1 6 ae), (o, ex_o 8 [ex_i ody, ex_i osr, ex_i oil, ex_r of, ex_r oa, ex_r oh]), (of, ex_a 1 6 ofu), (oa, ex_a 1 6 oae)]) fo_X8_9 (by decide) dX8_copiesDay_5 rfl (Nat.le_of_ble_eq_true rfl) trivial rfl ?_
  refine X_aload_n (j := 0) dX8_copiesDay_8 rfl rfl ?_
  refine X_aload_n (j := 1) dX8_copiesDay_9 rfl rfl ?_
  refine X_get (j := 3) fo_X8_15 dX8_copiesDay_10 rfl rfl ?_
  refine X_put (j := 0) (cs' := [(n, ex_o 8 [ex_i ody, ex_i osr, ex_i il, ex_r nf, ex_r na, ex_r nh]), (nf, ex_a 1 6 fu), (na, ex_a 1 6 ae), (o, ex_o 8 [ex_i ody, ex_i osr, ex_i oil, ex_r of, ex_r oa, ex_r oh]), (of, ex_a 1 6 ofu), (oa, ex_a 1 6 oae)]) fo_X8_15 (by decide) dX8_copiesDay_13 rfl (Nat.le_of_ble_eq_true rfl) trivial rfl ?_
  refine X_aload_n (j := 1) dX8_copiesDay_16 rfl rfl ?_
  refine X_get (j := 3) fo_X8_21 dX8_copiesDay_17 rfl rfl ?_
  refine X_iconst (v := 0) dX8_copiesDay_20 (by decide) ?_
  refine X_aload_n (j := 0) dX8_copiesDay_21 rfl rfl ?_
  refine X_get (j := 0) fo_X8_21 dX8_copiesDay_22 rfl rfl ?_
  refine X_iconst (v := 0) dX8_copiesDay_25 (by decide) ?_
  refine X_bipush (v := 6) dX8_copiesDay_26 (by decide) ?_
  refine X_copy (j := 4) (j2 := 1) (cs' := [(n, ex_o 8 [ex_i ody, ex_i osr, ex_i il, ex_r nf, ex_r na, ex_r nh]), (nf, ex_a 1 6 (va_cpy ofu fu 0 0 6)), (na, ex_a 1 6 ae), (o, ex_o 8 [ex_i ody, ex_i osr, ex_i oil, ex_r of, ex_r oa, ex_r oh]), (of, ex_a 1 6 ofu), (oa, ex_a 1 6 oae)]) k_959 k_961 k_960 k_21 ⟨(Nat.le_of_ble_eq_true rfl), (Nat.le_of_ble_eq_true rfl)⟩ dX8_copiesDay_28 rfl rfl (by decide) (by decide) (by decide) (by decide) (by decide) rfl (by decide) ?_
  refine X_aload_n (j := 1) dX8_copiesDay_31 rfl rfl ?_
  refine X_get (j := 3) fo_X8_25 dX8_copiesDay_32 rfl rfl ?_
  refine X_iconst (v := 0) dX8_copiesDay_35 (by decide) ?_
  refine X_aload_n (j := 0) dX8_copiesDay_36 rfl rfl ?_
  refine X_get (j := 0) fo_X8_25 dX8_copiesDay_37 rfl rfl ?_
  refine X_iconst (v := 0) dX8_copiesDay_40 (by decide) ?_
  refine X_bipush (v := 6) dX8_copiesDay_41 (by decide) ?_
  refine X_copy (j := 5) (j2 := 2) (cs' := [(n, ex_o 8 [ex_i ody, ex_i osr, ex_i il, ex_r nf, ex_r na, ex_r nh]), (nf, ex_a 1 6 (va_cpy ofu fu 0 0 6)), (na, ex_a 1 6 (va_cpy oae ae 0 0 6)), (o, ex_o 8 [ex_i ody, ex_i osr, ex_i oil, ex_r of, ex_r oa, ex_r oh]), (of, ex_a 1 6 ofu), (oa, ex_a 1 6 oae)]) k_959 k_961 k_960 k_21 ⟨(Nat.le_of_ble_eq_true rfl), (Nat.le_of_ble_eq_true rfl)⟩ dX8_copiesDay_43 rfl rfl (by decide) (by decide) (by decide) (by decide) (by decide) rfl (by decide) ?_
  try dsimp only at hV
  exact X_vret dX8_copiesDay_46 (by (repeat refine ex_kc ?_) <;> rfl) (by subst hV; exact ⟨rfl, rfl⟩)

def F_X8_copies (fu : Nat → Int32) (ae : Nat → Int32) (hu : Nat → Int32) (ody : Int32) (osr : Int32) (oil : Int32) (ofu : Nat → Int32) (oae : Nat → Int32) (ohu : Nat → Int32) : Int32 × Int32 × Int32 × (Nat → Int32) × (Nat → Int32) × (Nat → Int32) := ((fun (w_1 : Int32 × Int32 × (Nat → Int32) × (Nat → Int32)) => (w_1.1, w_1.2.1, oil, w_1.2.2.1, w_1.2.2.2, va_cpy ohu hu 0 0 6)) (F_X8_copiesDay fu ae ody osr ofu oae))
set_option maxHeartbeats 4000000 in
set_option maxRecDepth 100000 in
theorem e_X8_copies (l : Launch) (n : Nat) (o : Nat) (dy : Int32) (sr : Int32) (il : Int32) (nf : Nat) (na : Nat) (nh : Nat) (fu : Nat → Int32) (ae : Nat → Int32) (hu : Nat → Int32) (ody : Int32) (osr : Int32) (oil : Int32) (of : Nat) (oa : Nat) (oh : Nat) (ofu : Nat → Int32) (oae : Nat → Int32) (ohu : Nat → Int32) : ex_M l yX8_copies cX8_copies 2 none 2 61 [ex_r n, ex_r o] [(n, ex_o 8 [ex_i dy, ex_i sr, ex_i il, ex_r nf, ex_r na, ex_r nh]), (nf, ex_a 1 6 fu), (na, ex_a 1 6 ae), (nh, ex_a 1 6 hu), (o, ex_o 8 [ex_i ody, ex_i osr, ex_i oil, ex_r of, ex_r oa, ex_r oh]), (of, ex_a 1 6 ofu), (oa, ex_a 1 6 oae), (oh, ex_a 1 6 ohu)] (fun zcs zr => zcs = [(n, ex_o 8 [ex_i ((F_X8_copies fu ae hu ody osr oil ofu oae ohu).1), ex_i ((F_X8_copies fu ae hu ody osr oil ofu oae ohu).2.1), ex_i ((F_X8_copies fu ae hu ody osr oil ofu oae ohu).2.2.1), ex_r nf, ex_r na, ex_r nh]), (nf, ex_a 1 6 ((F_X8_copies fu ae hu ody osr oil ofu oae ohu).2.2.2.1)), (na, ex_a 1 6 ((F_X8_copies fu ae hu ody osr oil ofu oae ohu).2.2.2.2.1)), (nh, ex_a 1 6 ((F_X8_copies fu ae hu ody osr oil ofu oae ohu).2.2.2.2.2)), (o, ex_o 8 [ex_i ody, ex_i osr, ex_i oil, ex_r of, ex_r oa, ex_r oh]), (of, ex_a 1 6 ofu), (oa, ex_a 1 6 oae), (oh, ex_a 1 6 ohu)] ∧ zr = none) := by
  refine X_meth (by decide) (Nat.le_of_ble_eq_true rfl) ?_
  generalize hV : F_X8_copies fu ae hu ody osr oil ofu oae ohu = V0
  have hV := hV.symm
  unfold F_X8_copies at hV
  try dsimp only at hV
  refine X_aload_n (j := 0) dX8_copies_0 rfl rfl ?_
  refine X_aload_n (j := 1) dX8_copies_1 rfl rfl ?_
  refine X_callV (j0 := 0) (rest := [(nh, ex_a 1 6 hu), (oh, ex_a 1 6 ohu)]) (stk := []) co_X8_40 rfl ⟨(Nat.le_of_ble_eq_true rfl), (Nat.le_of_ble_eq_true rfl)⟩ (e_X8_copiesDay l nh oh n o dy sr il nf na fu ae ody osr oil of oa ofu oae) dX8_copies_2 [0, 1, 2, 4, 5, 6, 3, 7] (show List.Perm [0, 1, 2, 4, 5, 6, 3, 7] (List.range 8) from by decide) rfl rfl rfl rfl (Nat.le_of_ble_eq_true rfl) (fun zc1 zr hq hk => ?_)
  obtain ⟨rfl, rfl⟩ := hq
  try dsimp only at hV
  generalize hq_w_1 : F_X8_copiesDay fu ae ody osr ofu oae = w_1 at hV ⊢
  try dsimp only at hV
  refine X_aload_n (j := 0) dX8_copies_5 rfl rfl ?_
  refine X_aload_n (j := 1) dX8_copies_6 rfl rfl ?_
  refine X_get (j := 3) fo_X8_18 dX8_copies_7 rfl rfl ?_
  refine X_put (j := 0) (cs' := [(n, ex_o 8 [ex_i w_1.1, ex_i w_1.2.1, ex_i oil, ex_r nf, ex_r na, ex_r nh]), (nf, ex_a 1 6 w_1.2.2.1), (na, ex_a 1 6 w_1.2.2.2), (o, ex_o 8 [ex_i ody, ex_i osr, ex_i oil, ex_r of, ex_r oa, ex_r oh]), (of, ex_a 1 6 ofu), (oa, ex_a 1 6 oae), (nh, ex_a 1 6 hu), (oh, ex_a 1 6 ohu)]) fo_X8_18 (by decide) dX8_copies_10 rfl (Nat.le_of_ble_eq_true rfl) trivial rfl ?_
  refine X_aload_n (j := 1) dX8_copies_13 rfl rfl ?_
  refine X_get (j := 3) fo_X8_28 dX8_copies_14 rfl rfl ?_
  refine X_iconst (v := 0) dX8_copies_17 (by decide) ?_
  refine X_aload_n (j := 0) dX8_copies_18 rfl rfl ?_
  refine X_get (j := 0) fo_X8_28 dX8_copies_19 rfl rfl ?_
  refine X_iconst (v := 0) dX8_copies_22 (by decide) ?_
  refine X_bipush (v := 6) dX8_copies_23 (by decide) ?_
  refine X_copy (j := 7) (j2 := 6) (cs' := [(n, ex_o 8 [ex_i w_1.1, ex_i w_1.2.1, ex_i oil, ex_r nf, ex_r na, ex_r nh]), (nf, ex_a 1 6 w_1.2.2.1), (na, ex_a 1 6 w_1.2.2.2), (o, ex_o 8 [ex_i ody, ex_i osr, ex_i oil, ex_r of, ex_r oa, ex_r oh]), (of, ex_a 1 6 ofu), (oa, ex_a 1 6 oae), (nh, ex_a 1 6 (va_cpy ohu hu 0 0 6)), (oh, ex_a 1 6 ohu)]) k_959 k_961 k_960 k_21 ⟨(Nat.le_of_ble_eq_true rfl), (Nat.le_of_ble_eq_true rfl)⟩ dX8_copies_25 rfl rfl (by decide) (by decide) (by decide) (by decide) (by decide) rfl (by decide) ?_
  try dsimp only at hV
  refine X_re (cs' := [(n, ex_o 8 [ex_i w_1.1, ex_i w_1.2.1, ex_i oil, ex_r nf, ex_r na, ex_r nh]), (nf, ex_a 1 6 w_1.2.2.1), (na, ex_a 1 6 w_1.2.2.2), (nh, ex_a 1 6 (va_cpy ohu hu 0 0 6)), (o, ex_o 8 [ex_i ody, ex_i osr, ex_i oil, ex_r of, ex_r oa, ex_r oh]), (of, ex_a 1 6 ofu), (oa, ex_a 1 6 oae), (oh, ex_a 1 6 ohu)]) [0, 1, 2, 6, 3, 4, 5, 7] (show List.Perm [0, 1, 2, 6, 3, 4, 5, 7] (List.range 8) from by decide) rfl ?_
  exact X_vret dX8_copies_28 (by (repeat refine ex_kc ?_) <;> rfl) (by subst hV; exact ⟨rfl, rfl⟩)

def F_X8_sits (i : Nat) (dy : Int32) (sf : Nat → Int32) (st : Nat → Int32) : Int32 := (if (F_X0_isSick i dy sf st) = 0 then 1 else 0)
set_option maxHeartbeats 4000000 in
set_option maxRecDepth 100000 in
theorem e_X8_sits (l : Launch) (n : Nat) (c : Nat) (i : Nat) (dy : Int32) (sr : Int32) (il : Int32) (nf : Nat) (na : Nat) (nh : Nat) (c0 : Nat) (c1 : Nat) (c2 : Nat) (c3 : Nat) (c4 : Nat) (c5 : Nat) (c6 : Nat) (c7 : Nat) (c8 : Nat) (c9 : Nat) (c10 : Nat) (c11 : Nat) (c12 : Nat) (np : Nat) (nd : Nat) (sto : Int32) (res : Int32) (c17 : Nat) (c18 : Nat) (c19 : Nat) (sf : Nat → Int32) (st : Nat → Int32) (hi : i < 6) : ex_M l yX8_sits cX8_sits 3 (some .boolean) 1 22 [ex_r n, ex_r c, ex_i (nI i)] [(n, ex_o 8 [ex_i dy, ex_i sr, ex_i il, ex_r nf, ex_r na, ex_r nh]), (c, ex_o 0 [ex_r c0, ex_r c1, ex_r c2, ex_r c3, ex_r c4, ex_r c5, ex_r c6, ex_r c7, ex_r c8, ex_r c9, ex_r c10, ex_r c11, ex_r c12, ex_i (nI np), ex_i (nI nd), ex_i sto, ex_i res, ex_r c17, ex_r c18, ex_r c19]), (c5, ex_a 1 6 sf), (c6, ex_a 1 6 st)] (fun zcs zr => zcs = [(n, ex_o 8 [ex_i dy, ex_i sr, ex_i il, ex_r nf, ex_r na, ex_r nh]), (c, ex_o 0 [ex_r c0, ex_r c1, ex_r c2, ex_r c3, ex_r c4, ex_r c5, ex_r c6, ex_r c7, ex_r c8, ex_r c9, ex_r c10, ex_r c11, ex_r c12, ex_i (nI np), ex_i (nI nd), ex_i sto, ex_i res, ex_r c17, ex_r c18, ex_r c19]), (c5, ex_a 1 6 sf), (c6, ex_a 1 6 st)] ∧ zr = some (ex_i (F_X8_sits i dy sf st))) := by
  refine X_meth (by decide) (Nat.le_of_ble_eq_true rfl) ?_
  generalize hV : F_X8_sits i dy sf st = V0
  have hV := hV.symm
  unfold F_X8_sits at hV
  try dsimp only at hV
  refine X_aload_n (j := 1) dX8_sits_0 rfl rfl ?_
  refine X_iload_n (j := 2) dX8_sits_1 rfl rfl ?_
  refine X_aload_n (j := 0) dX8_sits_2 rfl rfl ?_
  refine X_get (j := 0) fo_X8_9 dX8_sits_3 rfl rfl ?_
  refine X_callV (j0 := 0) (rest := [(n, ex_o 8 [ex_i dy, ex_i sr, ex_i il, ex_r nf, ex_r na, ex_r nh])]) (stk := []) co_X8_50 rfl ⟨(Nat.le_of_ble_eq_true rfl), (Nat.le_of_ble_eq_true rfl)⟩ (e_X0_isSick l c i dy c0 c1 c2 c3 c4 c5 c6 c7 c8 c9 c10 c11 c12 np nd sto res c17 c18 c19 sf st (by first | assumption | omega)) dX8_sits_6 [1, 2, 3, 0] (show List.Perm [1, 2, 3, 0] (List.range 4) from by decide) rfl rfl rfl rfl (Nat.le_of_ble_eq_true rfl) (fun zc1 zr hq hk => ?_)
  obtain ⟨rfl, rfl⟩ := hq
  refine X_if_ne (tgt := 16) dX8_sits_9 (by decide) (fun c_1 => ?_) (fun c_1 => ?_)
  · have hV := hV.trans (if_neg c_1)
    refine X_iconst (v := 0) dX8_sits_16 (by decide) ?_
    try dsimp only at hV
    refine X_re (cs' := [(n, ex_o 8 [ex_i dy, ex_i sr, ex_i il, ex_r nf, ex_r na, ex_r nh]), (c, ex_o 0 [ex_r c0, ex_r c1, ex_r c2, ex_r c3, ex_r c4, ex_r c5, ex_r c6, ex_r c7, ex_r c8, ex_r c9, ex_r c10, ex_r c11, ex_r c12, ex_i (nI np), ex_i (nI nd), ex_i sto, ex_i res, ex_r c17, ex_r c18, ex_r c19]), (c5, ex_a 1 6 sf), (c6, ex_a 1 6 st)]) [3, 0, 1, 2] (show List.Perm [3, 0, 1, 2] (List.range 4) from by decide) rfl ?_
    exact X_iret ex_nZ rfl dX8_sits_17 (by (repeat refine ex_kc ?_) <;> rfl) (by subst hV; exact ⟨rfl, rfl⟩)
  · have hV := hV.trans (if_pos c_1)
    refine X_iconst (v := 1) dX8_sits_12 (by decide) ?_
    refine X_goto (tgt := 17) dX8_sits_13 (by decide) ?_
    try dsimp only at hV
    refine X_re (cs' := [(n, ex_o 8 [ex_i dy, ex_i sr, ex_i il, ex_r nf, ex_r na, ex_r nh]), (c, ex_o 0 [ex_r c0, ex_r c1, ex_r c2, ex_r c3, ex_r c4, ex_r c5, ex_r c6, ex_r c7, ex_r c8, ex_r c9, ex_r c10, ex_r c11, ex_r c12, ex_i (nI np), ex_i (nI nd), ex_i sto, ex_i res, ex_r c17, ex_r c18, ex_r c19]), (c5, ex_a 1 6 sf), (c6, ex_a 1 6 st)]) [3, 0, 1, 2] (show List.Perm [3, 0, 1, 2] (List.range 4) from by decide) rfl ?_
    exact X_iret ex_nZ rfl dX8_sits_17 (by (repeat refine ex_kc ?_) <;> rfl) (by subst hV; exact ⟨rfl, rfl⟩)
theorem F_X8_sits_b (i : Nat) (dy : Int32) (sf : Nat → Int32) (st : Nat → Int32) : F_X8_sits i dy sf st = 0 ∨ F_X8_sits i dy sf st = 1 := by
  unfold F_X8_sits
  repeat' split
  all_goals first | exact Or.inl rfl | exact Or.inr rfl

def F_X8_whoSits_L4 (dy : Int32) (sf : Nat → Int32) (st : Nat → Int32) : Nat → Nat → Int32 → Int32
  | 0, k4, s4_0 => s4_0
  | zn + 1, k4, s4_0 => (if (F_X8_sits k4 dy sf st) = 0 then F_X8_whoSits_L4 dy sf st zn (k4 + 1) s4_0 else F_X8_whoSits_L4 dy sf st zn (k4 + 1) (s4_0 ||| (1 <<< ((nI k4) &&& 31))))
theorem F_X8_whoSits_L4_z (dy : Int32) (sf : Nat → Int32) (st : Nat → Int32) (k4 : Nat) (s4_0 : Int32) : F_X8_whoSits_L4 dy sf st 0 k4 s4_0 = s4_0 := rfl
theorem F_X8_whoSits_L4_s (dy : Int32) (sf : Nat → Int32) (st : Nat → Int32) (k4 : Nat) (s4_0 : Int32) (zn : Nat) : F_X8_whoSits_L4 dy sf st (zn + 1) k4 s4_0 = (if (F_X8_sits k4 dy sf st) = 0 then F_X8_whoSits_L4 dy sf st zn (k4 + 1) s4_0 else F_X8_whoSits_L4 dy sf st zn (k4 + 1) (s4_0 ||| (1 <<< ((nI k4) &&& 31)))) := rfl
def F_X8_whoSits (dy : Int32) (np : Nat) (sf : Nat → Int32) (st : Nat → Int32) : Int32 := ((fun (v_1 : Int32) => v_1) (F_X8_whoSits_L4 dy sf st (np - 0) 0 0))
set_option maxHeartbeats 4000000 in
set_option maxRecDepth 100000 in
theorem e_X8_whoSits (l : Launch) (n : Nat) (c : Nat) (dy : Int32) (sr : Int32) (il : Int32) (nf : Nat) (na : Nat) (nh : Nat) (c0 : Nat) (c1 : Nat) (c2 : Nat) (c3 : Nat) (c4 : Nat) (c5 : Nat) (c6 : Nat) (c7 : Nat) (c8 : Nat) (c9 : Nat) (c10 : Nat) (c11 : Nat) (c12 : Nat) (np : Nat) (nd : Nat) (sto : Int32) (res : Int32) (c17 : Nat) (c18 : Nat) (c19 : Nat) (sf : Nat → Int32) (st : Nat → Int32) (hnp : np ≤ 6) : ex_M l yX8_whoSits cX8_whoSits 4 (some .int) 2 44 [ex_r n, ex_r c] [(n, ex_o 8 [ex_i dy, ex_i sr, ex_i il, ex_r nf, ex_r na, ex_r nh]), (c, ex_o 0 [ex_r c0, ex_r c1, ex_r c2, ex_r c3, ex_r c4, ex_r c5, ex_r c6, ex_r c7, ex_r c8, ex_r c9, ex_r c10, ex_r c11, ex_r c12, ex_i (nI np), ex_i (nI nd), ex_i sto, ex_i res, ex_r c17, ex_r c18, ex_r c19]), (c5, ex_a 1 6 sf), (c6, ex_a 1 6 st)] (fun zcs zr => zcs = [(n, ex_o 8 [ex_i dy, ex_i sr, ex_i il, ex_r nf, ex_r na, ex_r nh]), (c, ex_o 0 [ex_r c0, ex_r c1, ex_r c2, ex_r c3, ex_r c4, ex_r c5, ex_r c6, ex_r c7, ex_r c8, ex_r c9, ex_r c10, ex_r c11, ex_r c12, ex_i (nI np), ex_i (nI nd), ex_i sto, ex_i res, ex_r c17, ex_r c18, ex_r c19]), (c5, ex_a 1 6 sf), (c6, ex_a 1 6 st)] ∧ zr = some (ex_i (F_X8_whoSits dy np sf st))) := by
  refine X_meth (by decide) (Nat.le_of_ble_eq_true rfl) ?_
  generalize hV : F_X8_whoSits dy np sf st = V0
  have hV := hV.symm
  unfold F_X8_whoSits at hV
  try dsimp only at hV
  refine X_iconst (v := 0) dX8_whoSits_0 (by decide) ?_
  refine X_istore_n (lv' := [(2, ex_i 0), (0, ex_r n), (1, ex_r c)]) dX8_whoSits_1 rfl (Nat.le_of_ble_eq_true rfl) rfl ?_
  refine X_iconst (v := 0) dX8_whoSits_2 (by decide) ?_
  refine X_istore_n (lv' := [(3, ex_i 0), (2, ex_i 0), (0, ex_r n), (1, ex_r c)]) dX8_whoSits_3 rfl (Nat.le_of_ble_eq_true rfl) rfl ?_
  -- loop at 4
  try dsimp only at hV
  generalize hq_v_1 : F_X8_whoSits_L4 dy sf st (np - 0) 0 0 = v_1 at hV
  try dsimp only at hV
  refine X_cut (P := True) (csE := [(n, ex_o 8 [ex_i dy, ex_i sr, ex_i il, ex_r nf, ex_r na, ex_r nh]), (c, ex_o 0 [ex_r c0, ex_r c1, ex_r c2, ex_r c3, ex_r c4, ex_r c5, ex_r c6, ex_r c7, ex_r c8, ex_r c9, ex_r c10, ex_r c11, ex_r c12, ex_i (nI np), ex_i (nI nd), ex_i sto, ex_i res, ex_r c17, ex_r c18, ex_r c19]), (c5, ex_a 1 6 sf), (c6, ex_a 1 6 st)]) (lvE := [(2, ex_i v_1), (0, ex_r n), (1, ex_r c)]) (E := 33) (fun hrest4 => ?_) (fun hPX4 => ?_)
  · have hL4 := hq_v_1.symm
    refine X_ind (fun (a4 : Nat × Int32) => v_1 = F_X8_whoSits_L4 dy sf st (np - a4.1) a4.1 a4.2 ∧ a4.1 ≤ np) (fun (a4 : Nat × Int32) => np - a4.1) (fun (a4 : Nat × Int32) => [(n, ex_o 8 [ex_i dy, ex_i sr, ex_i il, ex_r nf, ex_r na, ex_r nh]), (c, ex_o 0 [ex_r c0, ex_r c1, ex_r c2, ex_r c3, ex_r c4, ex_r c5, ex_r c6, ex_r c7, ex_r c8, ex_r c9, ex_r c10, ex_r c11, ex_r c12, ex_i (nI np), ex_i (nI nd), ex_i sto, ex_i res, ex_r c17, ex_r c18, ex_r c19]), (c5, ex_a 1 6 sf), (c6, ex_a 1 6 st)]) (fun (a4 : Nat × Int32) => [(3, ex_i (nI a4.1)), (2, ex_i a4.2), (0, ex_r n), (1, ex_r c)]) (fun ⟨k4, s4_0⟩ hI4 ih4 => ?_) (0, 0) ⟨hL4, (by omega)⟩
    try dsimp only at hI4 ih4 ⊢
    have ihc4 : ∀ (k4_ : Nat) (s4_0_ : Int32), (v_1 = F_X8_whoSits_L4 dy sf st (np - k4_) k4_ s4_0_ ∧ k4_ ≤ np) → (np - k4_) < (np - k4) → ex_O _ _ _ _ _ _ _ _ _ [(n, ex_o 8 [ex_i dy, ex_i sr, ex_i il, ex_r nf, ex_r na, ex_r nh]), (c, ex_o 0 [ex_r c0, ex_r c1, ex_r c2, ex_r c3, ex_r c4, ex_r c5, ex_r c6, ex_r c7, ex_r c8, ex_r c9, ex_r c10, ex_r c11, ex_r c12, ex_i (nI np), ex_i (nI nd), ex_i sto, ex_i res, ex_r c17, ex_r c18, ex_r c19]), (c5, ex_a 1 6 sf), (c6, ex_a 1 6 st)] [(3, ex_i (nI k4_)), (2, ex_i s4_0_), (0, ex_r n), (1, ex_r c)] _ _ := fun k4_ s4_0_ hi_ hm_ => ih4 (k4_, s4_0_) hi_ hm_
    have hL4 := hI4.1
    have hb4 := hI4.2
    refine X_iload_n (j := 0) dX8_whoSits_4 rfl rfl ?_
    refine X_aload_n (j := 3) dX8_whoSits_5 rfl rfl ?_
    refine X_get (j := 1) fo_X8_54 dX8_whoSits_6 rfl rfl ?_
    refine X_icmp_ge (tgt := 33) dX8_whoSits_9 (by decide) (fun c_2 => ?_) (fun c_2 => ?_)
    · have hlt4 : k4 = np := nlex (L := np) (by omega) hb4 c_2
      rw [show np - k4 = 0 by omega] at hL4
      have hL4 := hL4.trans (F_X8_whoSits_L4_z ..)
      try dsimp only at hL4
      refine X_lv (lv' := [(2, ex_i s4_0), (0, ex_r n), (1, ex_r c)]) [1, 2, 3] rfl ?_
      refine X_eq (cs' := [(n, ex_o 8 [ex_i dy, ex_i sr, ex_i il, ex_r nf, ex_r na, ex_r nh]), (c, ex_o 0 [ex_r c0, ex_r c1, ex_r c2, ex_r c3, ex_r c4, ex_r c5, ex_r c6, ex_r c7, ex_r c8, ex_r c9, ex_r c10, ex_r c11, ex_r c12, ex_i (nI np), ex_i (nI nd), ex_i sto, ex_i res, ex_r c17, ex_r c18, ex_r c19]), (c5, ex_a 1 6 sf), (c6, ex_a 1 6 st)]) (lv' := [(2, ex_i v_1), (0, ex_r n), (1, ex_r c)]) (by subst hL4; rfl) (by subst hL4; rfl) ?_
      exact hrest4 trivial
    · have hlt4 : k4 < np := nlen (L := np) (by omega) hb4 c_2
      rw [show np - k4 = (np - (k4 + 1)) + 1 by omega] at hL4
      have hL4 := hL4.trans (F_X8_whoSits_L4_s ..)
      refine X_aload_n (j := 2) dX8_whoSits_12 rfl rfl ?_
      refine X_aload_n (j := 3) dX8_whoSits_13 rfl rfl ?_
      refine X_iload_n (j := 0) dX8_whoSits_14 rfl rfl ?_
      refine X_callV (j0 := 0) (rest := []) (stk := []) co_X8_57 rfl ⟨(Nat.le_of_ble_eq_true rfl), (Nat.le_of_ble_eq_true rfl)⟩ (e_X8_sits l n c k4 dy sr il nf na nh c0 c1 c2 c3 c4 c5 c6 c7 c8 c9 c10 c11 c12 np nd sto res c17 c18 c19 sf st (by first | assumption | omega)) dX8_whoSits_15 [0, 1, 2, 3] (show List.Perm [0, 1, 2, 3] (List.range 4) from by decide) rfl rfl rfl rfl (Nat.le_of_ble_eq_true rfl) (fun zc1 zr hq hk => ?_)
      obtain ⟨rfl, rfl⟩ := hq
      refine X_if_eq (tgt := 27) dX8_whoSits_18 (by decide) (fun c_3 => ?_) (fun c_3 => ?_)
      · have hL4 := hL4.trans (if_pos c_3)
        refine X_iinc (v := nI (k4 + 1)) (j := 0) (lv' := [(3, ex_i (nI (k4 + 1))), (2, ex_i s4_0), (0, ex_r n), (1, ex_r c)]) dX8_whoSits_27 rfl (nI_add k4 1) (Nat.le_of_ble_eq_true rfl) rfl ?_
        refine X_goto (tgt := 4) dX8_whoSits_30 (by decide) ?_
        try dsimp only at hL4
        exact ihc4 (k4 + 1) s4_0 ⟨hL4, (show (k4 + 1) ≤ np by omega)⟩ (show np - (k4 + 1) < np - k4 by omega)
      · have hL4 := hL4.trans (if_neg c_3)
        refine X_iload_n (j := 1) dX8_whoSits_21 rfl rfl ?_
        refine X_iconst (v := 1) dX8_whoSits_22 (by decide) ?_
        refine X_iload_n (j := 0) dX8_whoSits_23 rfl rfl ?_
        refine X_ishl (v := (1 <<< ((nI k4) &&& 31))) dX8_whoSits_24 rfl ?_
        refine X_ior (v := (s4_0 ||| (1 <<< ((nI k4) &&& 31)))) dX8_whoSits_25 rfl ?_
        refine X_istore_n (lv' := [(2, ex_i (s4_0 ||| (1 <<< ((nI k4) &&& 31)))), (3, ex_i (nI k4)), (0, ex_r n), (1, ex_r c)]) dX8_whoSits_26 rfl (Nat.le_of_ble_eq_true rfl) rfl ?_
        refine X_iinc (v := nI (k4 + 1)) (j := 1) (lv' := [(3, ex_i (nI (k4 + 1))), (2, ex_i (s4_0 ||| (1 <<< ((nI k4) &&& 31)))), (0, ex_r n), (1, ex_r c)]) dX8_whoSits_27 rfl (nI_add k4 1) (Nat.le_of_ble_eq_true rfl) rfl ?_
        refine X_goto (tgt := 4) dX8_whoSits_30 (by decide) ?_
        try dsimp only at hL4
        exact ihc4 (k4 + 1) (s4_0 ||| (1 <<< ((nI k4) &&& 31))) ⟨hL4, (show (k4 + 1) ≤ np by omega)⟩ (show np - (k4 + 1) < np - k4 by omega)
  refine X_iload_n (j := 0) dX8_whoSits_33 rfl rfl ?_
  try dsimp only at hV
  exact X_iret ex_nI rfl dX8_whoSits_34 (by (repeat refine ex_kc ?_) <;> rfl) (by subst hV; exact ⟨rfl, rfl⟩)

def F_X8_canEat (e : Nat) (d : Nat) (dy : Int32) (sr : Int32) (kd : Nat → Int32) (sf : Nat → Int32) (st : Nat → Int32) (co : Nat → Int32) : Int32 := (if (F_X8_sits e dy sf st) = 0 then 0 else (if sr < (F_X0_costBy e d kd co) then 0 else 1))
set_option maxHeartbeats 4000000 in
set_option maxRecDepth 100000 in
theorem e_X8_canEat (l : Launch) (n : Nat) (c : Nat) (e : Nat) (d : Nat) (dy : Int32) (sr : Int32) (il : Int32) (nf : Nat) (na : Nat) (nh : Nat) (c0 : Nat) (c1 : Nat) (c2 : Nat) (c3 : Nat) (c4 : Nat) (c5 : Nat) (c6 : Nat) (c7 : Nat) (c8 : Nat) (c9 : Nat) (c10 : Nat) (c11 : Nat) (c12 : Nat) (np : Nat) (nd : Nat) (sto : Int32) (res : Int32) (c17 : Nat) (c18 : Nat) (c19 : Nat) (kd : Nat → Int32) (sf : Nat → Int32) (st : Nat → Int32) (co : Nat → Int32) (he : e < 6) (hd : d < 5) : ex_M l yX8_canEat cX8_canEat 4 (some .boolean) 2 44 [ex_r n, ex_r c, ex_i (nI e), ex_i (nI d)] [(n, ex_o 8 [ex_i dy, ex_i sr, ex_i il, ex_r nf, ex_r na, ex_r nh]), (c, ex_o 0 [ex_r c0, ex_r c1, ex_r c2, ex_r c3, ex_r c4, ex_r c5, ex_r c6, ex_r c7, ex_r c8, ex_r c9, ex_r c10, ex_r c11, ex_r c12, ex_i (nI np), ex_i (nI nd), ex_i sto, ex_i res, ex_r c17, ex_r c18, ex_r c19]), (c1, ex_a 1 6 kd), (c5, ex_a 1 6 sf), (c6, ex_a 1 6 st), (c11, ex_a 1 5 co)] (fun zcs zr => zcs = [(n, ex_o 8 [ex_i dy, ex_i sr, ex_i il, ex_r nf, ex_r na, ex_r nh]), (c, ex_o 0 [ex_r c0, ex_r c1, ex_r c2, ex_r c3, ex_r c4, ex_r c5, ex_r c6, ex_r c7, ex_r c8, ex_r c9, ex_r c10, ex_r c11, ex_r c12, ex_i (nI np), ex_i (nI nd), ex_i sto, ex_i res, ex_r c17, ex_r c18, ex_r c19]), (c1, ex_a 1 6 kd), (c5, ex_a 1 6 sf), (c6, ex_a 1 6 st), (c11, ex_a 1 5 co)] ∧ zr = some (ex_i (F_X8_canEat e d dy sr kd sf st co))) := by
  refine X_meth (by decide) (Nat.le_of_ble_eq_true rfl) ?_
  generalize hV : F_X8_canEat e d dy sr kd sf st co = V0
  have hV := hV.symm
  unfold F_X8_canEat at hV
  try dsimp only at hV
  refine X_aload_n (j := 0) dX8_canEat_0 rfl rfl ?_
  refine X_aload_n (j := 1) dX8_canEat_1 rfl rfl ?_
  refine X_iload_n (j := 2) dX8_canEat_2 rfl rfl ?_
  refine X_callV (j0 := 0) (rest := [(c1, ex_a 1 6 kd), (c11, ex_a 1 5 co)]) (stk := []) co_X8_57 rfl ⟨(Nat.le_of_ble_eq_true rfl), (Nat.le_of_ble_eq_true rfl)⟩ (e_X8_sits l n c e dy sr il nf na nh c0 c1 c2 c3 c4 c5 c6 c7 c8 c9 c10 c11 c12 np nd sto res c17 c18 c19 sf st (by first | assumption | omega)) dX8_canEat_3 [0, 1, 3, 4, 2, 5] (show List.Perm [0, 1, 3, 4, 2, 5] (List.range 6) from by decide) rfl rfl rfl rfl (Nat.le_of_ble_eq_true rfl) (fun zc1 zr hq hk => ?_)
  obtain ⟨rfl, rfl⟩ := hq
  refine X_if_eq (tgt := 26) dX8_canEat_6 (by decide) (fun c_1 => ?_) (fun c_1 => ?_)
  · have hV := hV.trans (if_pos c_1)
    refine X_iconst (v := 0) dX8_canEat_26 (by decide) ?_
    try dsimp only at hV
    refine X_re (cs' := [(n, ex_o 8 [ex_i dy, ex_i sr, ex_i il, ex_r nf, ex_r na, ex_r nh]), (c, ex_o 0 [ex_r c0, ex_r c1, ex_r c2, ex_r c3, ex_r c4, ex_r c5, ex_r c6, ex_r c7, ex_r c8, ex_r c9, ex_r c10, ex_r c11, ex_r c12, ex_i (nI np), ex_i (nI nd), ex_i sto, ex_i res, ex_r c17, ex_r c18, ex_r c19]), (c1, ex_a 1 6 kd), (c5, ex_a 1 6 sf), (c6, ex_a 1 6 st), (c11, ex_a 1 5 co)]) [0, 1, 4, 2, 3, 5] (show List.Perm [0, 1, 4, 2, 3, 5] (List.range 6) from by decide) rfl ?_
    exact X_iret ex_nZ rfl dX8_canEat_27 (by (repeat refine ex_kc ?_) <;> rfl) (by subst hV; exact ⟨rfl, rfl⟩)
  · have hV := hV.trans (if_neg c_1)
    refine X_aload_n (j := 1) dX8_canEat_9 rfl rfl ?_
    refine X_iload_n (j := 2) dX8_canEat_10 rfl rfl ?_
    refine X_iload_n (j := 3) dX8_canEat_11 rfl rfl ?_
    refine X_callV (j0 := 0) (rest := [(n, ex_o 8 [ex_i dy, ex_i sr, ex_i il, ex_r nf, ex_r na, ex_r nh]), (c5, ex_a 1 6 sf), (c6, ex_a 1 6 st)]) (stk := []) co_X8_61 rfl ⟨(Nat.le_of_ble_eq_true rfl), (Nat.le_of_ble_eq_true rfl)⟩ (e_X0_costBy l c e d c0 c1 c2 c3 c4 c5 c6 c7 c8 c9 c10 c11 c12 np nd sto res c17 c18 c19 kd co (by first | assumption | omega) (by first | assumption | omega)) dX8_canEat_12 [1, 4, 5, 0, 2, 3] (show List.Perm [1, 4, 5, 0, 2, 3] (List.range 6) from by decide) rfl rfl rfl rfl (Nat.le_of_ble_eq_true rfl) (fun zc1 zr hq hk => ?_)
    obtain ⟨rfl, rfl⟩ := hq
    refine X_aload_n (j := 0) dX8_canEat_15 rfl rfl ?_
    refine X_get (j := 3) fo_X8_15 dX8_canEat_16 rfl rfl ?_
    refine X_icmp_gt (tgt := 26) dX8_canEat_19 (by decide) (fun c_2 => ?_) (fun c_2 => ?_)
    · have hV := hV.trans (if_pos c_2)
      refine X_iconst (v := 0) dX8_canEat_26 (by decide) ?_
      try dsimp only at hV
      refine X_re (cs' := [(n, ex_o 8 [ex_i dy, ex_i sr, ex_i il, ex_r nf, ex_r na, ex_r nh]), (c, ex_o 0 [ex_r c0, ex_r c1, ex_r c2, ex_r c3, ex_r c4, ex_r c5, ex_r c6, ex_r c7, ex_r c8, ex_r c9, ex_r c10, ex_r c11, ex_r c12, ex_i (nI np), ex_i (nI nd), ex_i sto, ex_i res, ex_r c17, ex_r c18, ex_r c19]), (c1, ex_a 1 6 kd), (c5, ex_a 1 6 sf), (c6, ex_a 1 6 st), (c11, ex_a 1 5 co)]) [3, 0, 1, 4, 5, 2] (show List.Perm [3, 0, 1, 4, 5, 2] (List.range 6) from by decide) rfl ?_
      exact X_iret ex_nZ rfl dX8_canEat_27 (by (repeat refine ex_kc ?_) <;> rfl) (by subst hV; exact ⟨rfl, rfl⟩)
    · have hV := hV.trans (if_neg c_2)
      refine X_iconst (v := 1) dX8_canEat_22 (by decide) ?_
      refine X_goto (tgt := 27) dX8_canEat_23 (by decide) ?_
      try dsimp only at hV
      refine X_re (cs' := [(n, ex_o 8 [ex_i dy, ex_i sr, ex_i il, ex_r nf, ex_r na, ex_r nh]), (c, ex_o 0 [ex_r c0, ex_r c1, ex_r c2, ex_r c3, ex_r c4, ex_r c5, ex_r c6, ex_r c7, ex_r c8, ex_r c9, ex_r c10, ex_r c11, ex_r c12, ex_i (nI np), ex_i (nI nd), ex_i sto, ex_i res, ex_r c17, ex_r c18, ex_r c19]), (c1, ex_a 1 6 kd), (c5, ex_a 1 6 sf), (c6, ex_a 1 6 st), (c11, ex_a 1 5 co)]) [3, 0, 1, 4, 5, 2] (show List.Perm [3, 0, 1, 4, 5, 2] (List.range 6) from by decide) rfl ?_
      exact X_iret ex_nZ rfl dX8_canEat_27 (by (repeat refine ex_kc ?_) <;> rfl) (by subst hV; exact ⟨rfl, rfl⟩)
theorem F_X8_canEat_b (e : Nat) (d : Nat) (dy : Int32) (sr : Int32) (kd : Nat → Int32) (sf : Nat → Int32) (st : Nat → Int32) (co : Nat → Int32) : F_X8_canEat e d dy sr kd sf st co = 0 ∨ F_X8_canEat e d dy sr kd sf st co = 1 := by
  unfold F_X8_canEat
  repeat' split
  all_goals first | exact Or.inl rfl | exact Or.inr rfl

def F_X8_wouldBeIll (e : Nat) (dy : Int32) (ae : Nat → Int32) (res : Int32) : Int32 := (if (ae e) = (-1) then 0 else (if res < (dy - (ae e)) then 0 else 1))
set_option maxHeartbeats 4000000 in
set_option maxRecDepth 100000 in
theorem e_X8_wouldBeIll (l : Launch) (n : Nat) (c : Nat) (e : Nat) (dy : Int32) (sr : Int32) (il : Int32) (nf : Nat) (na : Nat) (nh : Nat) (ae : Nat → Int32) (c0 : Nat) (c1 : Nat) (c2 : Nat) (c3 : Nat) (c4 : Nat) (c5 : Nat) (c6 : Nat) (c7 : Nat) (c8 : Nat) (c9 : Nat) (c10 : Nat) (c11 : Nat) (c12 : Nat) (np : Nat) (nd : Nat) (sto : Int32) (res : Int32) (c17 : Nat) (c18 : Nat) (c19 : Nat) (he : e < 6) : ex_M l yX8_wouldBeIll cX8_wouldBeIll 3 (some .boolean) 0 0 [ex_r n, ex_r c, ex_i (nI e)] [(n, ex_o 8 [ex_i dy, ex_i sr, ex_i il, ex_r nf, ex_r na, ex_r nh]), (na, ex_a 1 6 ae), (c, ex_o 0 [ex_r c0, ex_r c1, ex_r c2, ex_r c3, ex_r c4, ex_r c5, ex_r c6, ex_r c7, ex_r c8, ex_r c9, ex_r c10, ex_r c11, ex_r c12, ex_i (nI np), ex_i (nI nd), ex_i sto, ex_i res, ex_r c17, ex_r c18, ex_r c19])] (fun zcs zr => zcs = [(n, ex_o 8 [ex_i dy, ex_i sr, ex_i il, ex_r nf, ex_r na, ex_r nh]), (na, ex_a 1 6 ae), (c, ex_o 0 [ex_r c0, ex_r c1, ex_r c2, ex_r c3, ex_r c4, ex_r c5, ex_r c6, ex_r c7, ex_r c8, ex_r c9, ex_r c10, ex_r c11, ex_r c12, ex_i (nI np), ex_i (nI nd), ex_i sto, ex_i res, ex_r c17, ex_r c18, ex_r c19])] ∧ zr = some (ex_i (F_X8_wouldBeIll e dy ae res))) := by
  refine X_meth (by decide) (Nat.le_of_ble_eq_true rfl) ?_
  generalize hV : F_X8_wouldBeIll e dy ae res = V0
  have hV := hV.symm
  unfold F_X8_wouldBeIll at hV
  try dsimp only at hV
  refine X_aload_n (j := 0) dX8_wouldBeIll_0 rfl rfl ?_
  refine X_get (j := 0) fo_X8_25 dX8_wouldBeIll_1 rfl rfl ?_
  refine X_iload_n (j := 2) dX8_wouldBeIll_4 rfl rfl ?_
  refine X_iald (j := 1) (v := (ae e)) dX8_wouldBeIll_5 rfl (vp_in_nI (show e < 6 by omega) (by decide)) (by rw [nI_clamp (by omega)]) ?_
  refine X_iconst (v := (-1)) dX8_wouldBeIll_6 (by decide) ?_
  refine X_icmp_eq (tgt := 32) dX8_wouldBeIll_7 (by decide) (fun c_1 => ?_) (fun c_1 => ?_)
  · have hV := hV.trans (if_pos c_1)
    refine X_iconst (v := 0) dX8_wouldBeIll_32 (by decide) ?_
    try dsimp only at hV
    exact X_iret ex_nZ rfl dX8_wouldBeIll_33 (by (repeat refine ex_kc ?_) <;> rfl) (by subst hV; exact ⟨rfl, rfl⟩)
  · have hV := hV.trans (if_neg c_1)
    refine X_aload_n (j := 0) dX8_wouldBeIll_10 rfl rfl ?_
    refine X_get (j := 0) fo_X8_9 dX8_wouldBeIll_11 rfl rfl ?_
    refine X_aload_n (j := 0) dX8_wouldBeIll_14 rfl rfl ?_
    refine X_get (j := 0) fo_X8_25 dX8_wouldBeIll_15 rfl rfl ?_
    refine X_iload_n (j := 2) dX8_wouldBeIll_18 rfl rfl ?_
    refine X_iald (j := 1) (v := (ae e)) dX8_wouldBeIll_19 rfl (vp_in_nI (show e < 6 by omega) (by decide)) (by rw [nI_clamp (by omega)]) ?_
    refine X_isub (v := (dy - (ae e))) dX8_wouldBeIll_20 rfl ?_
    refine X_aload_n (j := 1) dX8_wouldBeIll_21 rfl rfl ?_
    refine X_get (j := 2) fo_X8_65 dX8_wouldBeIll_22 rfl rfl ?_
    refine X_icmp_gt (tgt := 32) dX8_wouldBeIll_25 (by decide) (fun c_2 => ?_) (fun c_2 => ?_)
    · have hV := hV.trans (if_pos c_2)
      refine X_iconst (v := 0) dX8_wouldBeIll_32 (by decide) ?_
      try dsimp only at hV
      exact X_iret ex_nZ rfl dX8_wouldBeIll_33 (by (repeat refine ex_kc ?_) <;> rfl) (by subst hV; exact ⟨rfl, rfl⟩)
    · have hV := hV.trans (if_neg c_2)
      refine X_iconst (v := 1) dX8_wouldBeIll_28 (by decide) ?_
      refine X_goto (tgt := 33) dX8_wouldBeIll_29 (by decide) ?_
      try dsimp only at hV
      exact X_iret ex_nZ rfl dX8_wouldBeIll_33 (by (repeat refine ex_kc ?_) <;> rfl) (by subst hV; exact ⟨rfl, rfl⟩)
theorem F_X8_wouldBeIll_b (e : Nat) (dy : Int32) (ae : Nat → Int32) (res : Int32) : F_X8_wouldBeIll e dy ae res = 0 ∨ F_X8_wouldBeIll e dy ae res = 1 := by
  unfold F_X8_wouldBeIll
  repeat' split
  all_goals first | exact Or.inl rfl | exact Or.inr rfl

def F_X8_gain (e : Nat) (d : Nat) (slow : Int32) (i : Nat) (dy : Int32) (ae : Nat → Int32) (res : Int32) (sf : Nat → Int32) (st : Nat → Int32) (gf : Nat → Int32) : Int32 := (if (F_X8_wouldBeIll e dy ae res) = 0 then (if (F_X8_sits i dy sf st) = 0 then 0 else (F_X0_gift e d slow i gf)) else 0)
set_option maxHeartbeats 4000000 in
set_option maxRecDepth 100000 in
theorem e_X8_gain (l : Launch) (n : Nat) (c : Nat) (e : Nat) (d : Nat) (slow : Int32) (i : Nat) (dy : Int32) (sr : Int32) (il : Int32) (nf : Nat) (na : Nat) (nh : Nat) (ae : Nat → Int32) (c0 : Nat) (c1 : Nat) (c2 : Nat) (c3 : Nat) (c4 : Nat) (c5 : Nat) (c6 : Nat) (c7 : Nat) (c8 : Nat) (c9 : Nat) (c10 : Nat) (c11 : Nat) (c12 : Nat) (np : Nat) (nd : Nat) (sto : Int32) (res : Int32) (c17 : Nat) (c18 : Nat) (c19 : Nat) (sf : Nat → Int32) (st : Nat → Int32) (gf : Nat → Int32) (he : e < 6) (hd : d < 5) (hi : i < 6) : ex_M l yX8_gain cX8_gain 6 (some .int) 2 46 [ex_r n, ex_r c, ex_i (nI e), ex_i (nI d), ex_i slow, ex_i (nI i)] [(n, ex_o 8 [ex_i dy, ex_i sr, ex_i il, ex_r nf, ex_r na, ex_r nh]), (na, ex_a 1 6 ae), (c, ex_o 0 [ex_r c0, ex_r c1, ex_r c2, ex_r c3, ex_r c4, ex_r c5, ex_r c6, ex_r c7, ex_r c8, ex_r c9, ex_r c10, ex_r c11, ex_r c12, ex_i (nI np), ex_i (nI nd), ex_i sto, ex_i res, ex_r c17, ex_r c18, ex_r c19]), (c5, ex_a 1 6 sf), (c6, ex_a 1 6 st), (c17, ex_a 1 360 gf)] (fun zcs zr => zcs = [(n, ex_o 8 [ex_i dy, ex_i sr, ex_i il, ex_r nf, ex_r na, ex_r nh]), (na, ex_a 1 6 ae), (c, ex_o 0 [ex_r c0, ex_r c1, ex_r c2, ex_r c3, ex_r c4, ex_r c5, ex_r c6, ex_r c7, ex_r c8, ex_r c9, ex_r c10, ex_r c11, ex_r c12, ex_i (nI np), ex_i (nI nd), ex_i sto, ex_i res, ex_r c17, ex_r c18, ex_r c19]), (c5, ex_a 1 6 sf), (c6, ex_a 1 6 st), (c17, ex_a 1 360 gf)] ∧ zr = some (ex_i (F_X8_gain e d slow i dy ae res sf st gf))) := by
  refine X_meth (by decide) (Nat.le_of_ble_eq_true rfl) ?_
  generalize hV : F_X8_gain e d slow i dy ae res sf st gf = V0
  have hV := hV.symm
  unfold F_X8_gain at hV
  try dsimp only at hV
  refine X_aload_n (j := 0) dX8_gain_0 rfl rfl ?_
  refine X_aload_n (j := 1) dX8_gain_1 rfl rfl ?_
  refine X_iload_n (j := 2) dX8_gain_2 rfl rfl ?_
  refine X_callV (j0 := 0) (rest := [(c5, ex_a 1 6 sf), (c6, ex_a 1 6 st), (c17, ex_a 1 360 gf)]) (stk := []) co_X8_68 rfl ⟨(Nat.le_of_ble_eq_true rfl), (Nat.le_of_ble_eq_true rfl)⟩ (e_X8_wouldBeIll l n c e dy sr il nf na nh ae c0 c1 c2 c3 c4 c5 c6 c7 c8 c9 c10 c11 c12 np nd sto res c17 c18 c19 (by first | assumption | omega)) dX8_gain_3 [0, 1, 2, 3, 4, 5] (show List.Perm [0, 1, 2, 3, 4, 5] (List.range 6) from by decide) rfl rfl rfl rfl (Nat.le_of_ble_eq_true rfl) (fun zc1 zr hq hk => ?_)
  obtain ⟨rfl, rfl⟩ := hq
  refine X_if_ne (tgt := 19) dX8_gain_6 (by decide) (fun c_1 => ?_) (fun c_1 => ?_)
  · have hV := hV.trans (if_neg c_1)
    refine X_iconst (v := 0) dX8_gain_19 (by decide) ?_
    try dsimp only at hV
    exact X_iret ex_nI rfl dX8_gain_20 (by (repeat refine ex_kc ?_) <;> rfl) (by subst hV; exact ⟨rfl, rfl⟩)
  · have hV := hV.trans (if_pos c_1)
    refine X_aload_n (j := 0) dX8_gain_9 rfl rfl ?_
    refine X_aload_n (j := 1) dX8_gain_10 rfl rfl ?_
    refine X_iload (j := 5) dX8_gain_11 rfl ?_
    refine X_callV (j0 := 0) (rest := [(na, ex_a 1 6 ae), (c17, ex_a 1 360 gf)]) (stk := []) co_X8_57 rfl ⟨(Nat.le_of_ble_eq_true rfl), (Nat.le_of_ble_eq_true rfl)⟩ (e_X8_sits l n c i dy sr il nf na nh c0 c1 c2 c3 c4 c5 c6 c7 c8 c9 c10 c11 c12 np nd sto res c17 c18 c19 sf st (by first | assumption | omega)) dX8_gain_13 [0, 2, 3, 4, 1, 5] (show List.Perm [0, 2, 3, 4, 1, 5] (List.range 6) from by decide) rfl rfl rfl rfl (Nat.le_of_ble_eq_true rfl) (fun zc1 zr hq hk => ?_)
    obtain ⟨rfl, rfl⟩ := hq
    refine X_if_ne (tgt := 21) dX8_gain_16 (by decide) (fun c_2 => ?_) (fun c_2 => ?_)
    · have hV := hV.trans (if_neg c_2)
      refine X_aload_n (j := 1) dX8_gain_21 rfl rfl ?_
      refine X_iload_n (j := 2) dX8_gain_22 rfl rfl ?_
      refine X_iload_n (j := 3) dX8_gain_23 rfl rfl ?_
      refine X_iload (j := 4) dX8_gain_24 rfl ?_
      refine X_iload (j := 5) dX8_gain_26 rfl ?_
      refine X_callV (j0 := 0) (rest := [(n, ex_o 8 [ex_i dy, ex_i sr, ex_i il, ex_r nf, ex_r na, ex_r nh]), (c5, ex_a 1 6 sf), (c6, ex_a 1 6 st), (na, ex_a 1 6 ae)]) (stk := []) co_X8_71 rfl ⟨(Nat.le_of_ble_eq_true rfl), (Nat.le_of_ble_eq_true rfl)⟩ (e_X0_gift l c e d slow i c0 c1 c2 c3 c4 c5 c6 c7 c8 c9 c10 c11 c12 np nd sto res c17 c18 c19 gf (by first | assumption | omega) (by first | assumption | omega) (by first | assumption | omega)) dX8_gain_28 [1, 5, 0, 2, 3, 4] (show List.Perm [1, 5, 0, 2, 3, 4] (List.range 6) from by decide) rfl rfl rfl rfl (Nat.le_of_ble_eq_true rfl) (fun zc1 zr hq hk => ?_)
      obtain ⟨rfl, rfl⟩ := hq
      try dsimp only at hV
      refine X_re (cs' := [(n, ex_o 8 [ex_i dy, ex_i sr, ex_i il, ex_r nf, ex_r na, ex_r nh]), (na, ex_a 1 6 ae), (c, ex_o 0 [ex_r c0, ex_r c1, ex_r c2, ex_r c3, ex_r c4, ex_r c5, ex_r c6, ex_r c7, ex_r c8, ex_r c9, ex_r c10, ex_r c11, ex_r c12, ex_i (nI np), ex_i (nI nd), ex_i sto, ex_i res, ex_r c17, ex_r c18, ex_r c19]), (c5, ex_a 1 6 sf), (c6, ex_a 1 6 st), (c17, ex_a 1 360 gf)]) [2, 5, 0, 3, 4, 1] (show List.Perm [2, 5, 0, 3, 4, 1] (List.range 6) from by decide) rfl ?_
      exact X_iret ex_nI rfl dX8_gain_31 (by (repeat refine ex_kc ?_) <;> rfl) (by subst hV; exact ⟨rfl, rfl⟩)
    · have hV := hV.trans (if_pos c_2)
      refine X_iconst (v := 0) dX8_gain_19 (by decide) ?_
      try dsimp only at hV
      refine X_re (cs' := [(n, ex_o 8 [ex_i dy, ex_i sr, ex_i il, ex_r nf, ex_r na, ex_r nh]), (na, ex_a 1 6 ae), (c, ex_o 0 [ex_r c0, ex_r c1, ex_r c2, ex_r c3, ex_r c4, ex_r c5, ex_r c6, ex_r c7, ex_r c8, ex_r c9, ex_r c10, ex_r c11, ex_r c12, ex_i (nI np), ex_i (nI nd), ex_i sto, ex_i res, ex_r c17, ex_r c18, ex_r c19]), (c5, ex_a 1 6 sf), (c6, ex_a 1 6 st), (c17, ex_a 1 360 gf)]) [0, 4, 1, 2, 3, 5] (show List.Perm [0, 4, 1, 2, 3, 5] (List.range 6) from by decide) rfl ?_
      exact X_iret ex_nI rfl dX8_gain_20 (by (repeat refine ex_kc ?_) <;> rfl) (by subst hV; exact ⟨rfl, rfl⟩)

def F_X8_fill (i : Nat) (g0 : Int32) (fu : Nat → Int32) : (Nat → Int32) := (upd fu i (if ((fu i) + g0) < 99 then ((fu i) + g0) else 99))
set_option maxHeartbeats 4000000 in
set_option maxRecDepth 100000 in
theorem e_X8_fill (l : Launch) (n : Nat) (i : Nat) (g0 : Int32) (dy : Int32) (sr : Int32) (il : Int32) (nf : Nat) (na : Nat) (nh : Nat) (fu : Nat → Int32) (hi : i < 6) : ex_M l yX8_fill cX8_fill 3 none 1 40 [ex_r n, ex_i (nI i), ex_i g0] [(n, ex_o 8 [ex_i dy, ex_i sr, ex_i il, ex_r nf, ex_r na, ex_r nh]), (nf, ex_a 1 6 fu)] (fun zcs zr => zcs = [(n, ex_o 8 [ex_i dy, ex_i sr, ex_i il, ex_r nf, ex_r na, ex_r nh]), (nf, ex_a 1 6 (F_X8_fill i g0 fu))] ∧ zr = none) := by
  refine X_meth (by decide) (Nat.le_of_ble_eq_true rfl) ?_
  generalize hV : F_X8_fill i g0 fu = V0
  have hV := hV.symm
  unfold F_X8_fill at hV
  try dsimp only at hV
  refine X_aload_n (j := 0) dX8_fill_0 rfl rfl ?_
  refine X_get (j := 0) fo_X8_21 dX8_fill_1 rfl rfl ?_
  refine X_iload_n (j := 1) dX8_fill_4 rfl rfl ?_
  refine X_bipush (v := 99) dX8_fill_5 (by decide) ?_
  refine X_aload_n (j := 0) dX8_fill_7 rfl rfl ?_
  refine X_get (j := 0) fo_X8_21 dX8_fill_8 rfl rfl ?_
  refine X_iload_n (j := 1) dX8_fill_11 rfl rfl ?_
  refine X_iald (j := 1) (v := (fu i)) dX8_fill_12 rfl (vp_in_nI (show i < 6 by omega) (by decide)) (by rw [nI_clamp (by omega)]) ?_
  refine X_iload_n (j := 2) dX8_fill_13 rfl rfl ?_
  refine X_iadd (v := ((fu i) + g0)) dX8_fill_14 rfl ?_
  refine X_mmin (v := (if ((fu i) + g0) < 99 then ((fu i) + g0) else 99)) k_972 k_564 k_17 k_565 ⟨(Nat.le_of_ble_eq_true rfl), (Nat.le_of_ble_eq_true rfl)⟩ (Nat.le_of_ble_eq_true rfl) dX8_fill_15 rfl ?_
  refine X_iast (j := 1) (g := upd fu i (if ((fu i) + g0) < 99 then ((fu i) + g0) else 99)) (cs' := [(n, ex_o 8 [ex_i dy, ex_i sr, ex_i il, ex_r nf, ex_r na, ex_r nh]), (nf, ex_a 1 6 (upd fu i (if ((fu i) + g0) < 99 then ((fu i) + g0) else 99)))]) dX8_fill_18 rfl (vp_in_nI (show i < 6 by omega) (by decide)) (by rw [nI_clamp (by omega)]) rfl ?_
  try dsimp only at hV
  exact X_vret dX8_fill_19 (by (repeat refine ex_kc ?_) <;> rfl) (by subst hV; exact ⟨rfl, rfl⟩)

def F_X8_takesMeal_L11 (e : Nat) (d : Nat) (slow : Int32) (dy : Int32) (ae : Nat → Int32) (res : Int32) (sf : Nat → Int32) (st : Nat → Int32) (gf : Nat → Int32) : Nat → Nat → (Nat → Int32) → (Nat → Int32)
  | 0, k11, s11_0 => s11_0
  | zn + 1, k11, s11_0 => ((fun (w_3 : (Nat → Int32)) => F_X8_takesMeal_L11 e d slow dy ae res sf st gf zn (k11 + 1) w_3) (F_X8_fill k11 (F_X8_gain e d slow k11 dy ae res sf st gf) s11_0))
theorem F_X8_takesMeal_L11_z (e : Nat) (d : Nat) (slow : Int32) (dy : Int32) (ae : Nat → Int32) (res : Int32) (sf : Nat → Int32) (st : Nat → Int32) (gf : Nat → Int32) (k11 : Nat) (s11_0 : Nat → Int32) : F_X8_takesMeal_L11 e d slow dy ae res sf st gf 0 k11 s11_0 = s11_0 := rfl
theorem F_X8_takesMeal_L11_s (e : Nat) (d : Nat) (slow : Int32) (dy : Int32) (ae : Nat → Int32) (res : Int32) (sf : Nat → Int32) (st : Nat → Int32) (gf : Nat → Int32) (k11 : Nat) (s11_0 : Nat → Int32) (zn : Nat) : F_X8_takesMeal_L11 e d slow dy ae res sf st gf (zn + 1) k11 s11_0 = ((fun (w_3 : (Nat → Int32)) => F_X8_takesMeal_L11 e d slow dy ae res sf st gf zn (k11 + 1) w_3) (F_X8_fill k11 (F_X8_gain e d slow k11 dy ae res sf st gf) s11_0)) := rfl
def F_X8_takesMeal (e : Nat) (d : Nat) (slow : Int32) (dy : Int32) (sr : Int32) (il : Int32) (fu : Nat → Int32) (ae : Nat → Int32) (np : Nat) (res : Int32) (kd : Nat → Int32) (sf : Nat → Int32) (st : Nat → Int32) (co : Nat → Int32) (gf : Nat → Int32) : Int32 × Int32 × (Nat → Int32) × (Nat → Int32) × Int32 := ((fun (v_1 : (Nat → Int32)) => (if (F_X8_wouldBeIll e dy ae res) = 0 then (sr - (F_X0_costBy e d kd co), il + 0, v_1, upd ae e dy, F_X8_wouldBeIll e dy ae res) else (sr - (F_X0_costBy e d kd co), il + 1, v_1, upd ae e dy, F_X8_wouldBeIll e dy ae res))) (F_X8_takesMeal_L11 e d slow dy ae res sf st gf (np - 0) 0 fu))
set_option maxHeartbeats 4000000 in
set_option maxRecDepth 100000 in
theorem e_X8_takesMeal (l : Launch) (n : Nat) (c : Nat) (e : Nat) (d : Nat) (slow : Int32) (dy : Int32) (sr : Int32) (il : Int32) (nf : Nat) (na : Nat) (nh : Nat) (fu : Nat → Int32) (ae : Nat → Int32) (c0 : Nat) (c1 : Nat) (c2 : Nat) (c3 : Nat) (c4 : Nat) (c5 : Nat) (c6 : Nat) (c7 : Nat) (c8 : Nat) (c9 : Nat) (c10 : Nat) (c11 : Nat) (c12 : Nat) (np : Nat) (nd : Nat) (sto : Int32) (res : Int32) (c17 : Nat) (c18 : Nat) (c19 : Nat) (kd : Nat → Int32) (sf : Nat → Int32) (st : Nat → Int32) (co : Nat → Int32) (gf : Nat → Int32) (he : e < 6) (hd : d < 5) (hnp : np ≤ 6) : ex_M l yX8_takesMeal cX8_takesMeal 7 (some .boolean) 3 71 [ex_r n, ex_r c, ex_i (nI e), ex_i (nI d), ex_i slow] [(n, ex_o 8 [ex_i dy, ex_i sr, ex_i il, ex_r nf, ex_r na, ex_r nh]), (nf, ex_a 1 6 fu), (na, ex_a 1 6 ae), (c, ex_o 0 [ex_r c0, ex_r c1, ex_r c2, ex_r c3, ex_r c4, ex_r c5, ex_r c6, ex_r c7, ex_r c8, ex_r c9, ex_r c10, ex_r c11, ex_r c12, ex_i (nI np), ex_i (nI nd), ex_i sto, ex_i res, ex_r c17, ex_r c18, ex_r c19]), (c1, ex_a 1 6 kd), (c5, ex_a 1 6 sf), (c6, ex_a 1 6 st), (c11, ex_a 1 5 co), (c17, ex_a 1 360 gf)] (fun zcs zr => zcs = [(n, ex_o 8 [ex_i dy, ex_i ((F_X8_takesMeal e d slow dy sr il fu ae np res kd sf st co gf).1), ex_i ((F_X8_takesMeal e d slow dy sr il fu ae np res kd sf st co gf).2.1), ex_r nf, ex_r na, ex_r nh]), (nf, ex_a 1 6 ((F_X8_takesMeal e d slow dy sr il fu ae np res kd sf st co gf).2.2.1)), (na, ex_a 1 6 ((F_X8_takesMeal e d slow dy sr il fu ae np res kd sf st co gf).2.2.2.1)), (c, ex_o 0 [ex_r c0, ex_r c1, ex_r c2, ex_r c3, ex_r c4, ex_r c5, ex_r c6, ex_r c7, ex_r c8, ex_r c9, ex_r c10, ex_r c11, ex_r c12, ex_i (nI np), ex_i (nI nd), ex_i sto, ex_i res, ex_r c17, ex_r c18, ex_r c19]), (c1, ex_a 1 6 kd), (c5, ex_a 1 6 sf), (c6, ex_a 1 6 st), (c11, ex_a 1 5 co), (c17, ex_a 1 360 gf)] ∧ zr = some (ex_i (F_X8_takesMeal e d slow dy sr il fu ae np res kd sf st co gf).2.2.2.2)) := by
  refine X_meth (by decide) (Nat.le_of_ble_eq_true rfl) ?_
  generalize hV : F_X8_takesMeal e d slow dy sr il fu ae np res kd sf st co gf = V0
  have hV := hV.symm
  unfold F_X8_takesMeal at hV
  try dsimp only at hV
  refine X_aload_n (j := 0) dX8_takesMeal_0 rfl rfl ?_
  refine X_aload_n (j := 1) dX8_takesMeal_1 rfl rfl ?_
  refine X_iload_n (j := 2) dX8_takesMeal_2 rfl rfl ?_
  refine X_callV (j0 := 0) (rest := [(nf, ex_a 1 6 fu), (c1, ex_a 1 6 kd), (c5, ex_a 1 6 sf), (c6, ex_a 1 6 st), (c11, ex_a 1 5 co), (c17, ex_a 1 360 gf)]) (stk := []) co_X8_68 rfl ⟨(Nat.le_of_ble_eq_true rfl), (Nat.le_of_ble_eq_true rfl)⟩ (e_X8_wouldBeIll l n c e dy sr il nf na nh ae c0 c1 c2 c3 c4 c5 c6 c7 c8 c9 c10 c11 c12 np nd sto res c17 c18 c19 (by first | assumption | omega)) dX8_takesMeal_3 [0, 2, 3, 1, 4, 5, 6, 7, 8] (show List.Perm [0, 2, 3, 1, 4, 5, 6, 7, 8] (List.range 9) from by decide) rfl rfl rfl rfl (Nat.le_of_ble_eq_true rfl) (fun zc1 zr hq hk => ?_)
  obtain ⟨rfl, rfl⟩ := hq
  refine X_istore (lv' := [(5, ex_i (F_X8_wouldBeIll e dy ae res)), (0, ex_r n), (1, ex_r c), (2, ex_i (nI e)), (3, ex_i (nI d)), (4, ex_i slow)]) dX8_takesMeal_6 (Nat.le_of_ble_eq_true rfl) rfl ?_
  refine X_iconst (v := 0) dX8_takesMeal_8 (by decide) ?_
  refine X_istore (lv' := [(6, ex_i 0), (5, ex_i (F_X8_wouldBeIll e dy ae res)), (0, ex_r n), (1, ex_r c), (2, ex_i (nI e)), (3, ex_i (nI d)), (4, ex_i slow)]) dX8_takesMeal_9 (Nat.le_of_ble_eq_true rfl) rfl ?_
  -- loop at 11
  try dsimp only at hV
  generalize hq_v_1 : F_X8_takesMeal_L11 e d slow dy ae res sf st gf (np - 0) 0 fu = v_1 at hV
  try dsimp only at hV
  refine X_cut (P := True) (csE := [(n, ex_o 8 [ex_i dy, ex_i sr, ex_i il, ex_r nf, ex_r na, ex_r nh]), (na, ex_a 1 6 ae), (c, ex_o 0 [ex_r c0, ex_r c1, ex_r c2, ex_r c3, ex_r c4, ex_r c5, ex_r c6, ex_r c7, ex_r c8, ex_r c9, ex_r c10, ex_r c11, ex_r c12, ex_i (nI np), ex_i (nI nd), ex_i sto, ex_i res, ex_r c17, ex_r c18, ex_r c19]), (nf, ex_a 1 6 v_1), (c1, ex_a 1 6 kd), (c5, ex_a 1 6 sf), (c6, ex_a 1 6 st), (c11, ex_a 1 5 co), (c17, ex_a 1 360 gf)]) (lvE := [(5, ex_i (F_X8_wouldBeIll e dy ae res)), (0, ex_r n), (1, ex_r c), (2, ex_i (nI e)), (3, ex_i (nI d)), (4, ex_i slow)]) (E := 43) (fun hrest11 => ?_) (fun hPX11 => ?_)
  · have hL11 := hq_v_1.symm
    refine X_ind (fun (a11 : Nat × (Nat → Int32)) => v_1 = F_X8_takesMeal_L11 e d slow dy ae res sf st gf (np - a11.1) a11.1 a11.2 ∧ a11.1 ≤ np) (fun (a11 : Nat × (Nat → Int32)) => np - a11.1) (fun (a11 : Nat × (Nat → Int32)) => [(n, ex_o 8 [ex_i dy, ex_i sr, ex_i il, ex_r nf, ex_r na, ex_r nh]), (na, ex_a 1 6 ae), (c, ex_o 0 [ex_r c0, ex_r c1, ex_r c2, ex_r c3, ex_r c4, ex_r c5, ex_r c6, ex_r c7, ex_r c8, ex_r c9, ex_r c10, ex_r c11, ex_r c12, ex_i (nI np), ex_i (nI nd), ex_i sto, ex_i res, ex_r c17, ex_r c18, ex_r c19]), (nf, ex_a 1 6 a11.2), (c1, ex_a 1 6 kd), (c5, ex_a 1 6 sf), (c6, ex_a 1 6 st), (c11, ex_a 1 5 co), (c17, ex_a 1 360 gf)]) (fun (a11 : Nat × (Nat → Int32)) => [(6, ex_i (nI a11.1)), (5, ex_i (F_X8_wouldBeIll e dy ae res)), (0, ex_r n), (1, ex_r c), (2, ex_i (nI e)), (3, ex_i (nI d)), (4, ex_i slow)]) (fun ⟨k11, s11_0⟩ hI11 ih11 => ?_) (0, fu) ⟨hL11, (by omega)⟩
    try dsimp only at hI11 ih11 ⊢
    have ihc11 : ∀ (k11_ : Nat) (s11_0_ : Nat → Int32), (v_1 = F_X8_takesMeal_L11 e d slow dy ae res sf st gf (np - k11_) k11_ s11_0_ ∧ k11_ ≤ np) → (np - k11_) < (np - k11) → ex_O _ _ _ _ _ _ _ _ _ [(n, ex_o 8 [ex_i dy, ex_i sr, ex_i il, ex_r nf, ex_r na, ex_r nh]), (na, ex_a 1 6 ae), (c, ex_o 0 [ex_r c0, ex_r c1, ex_r c2, ex_r c3, ex_r c4, ex_r c5, ex_r c6, ex_r c7, ex_r c8, ex_r c9, ex_r c10, ex_r c11, ex_r c12, ex_i (nI np), ex_i (nI nd), ex_i sto, ex_i res, ex_r c17, ex_r c18, ex_r c19]), (nf, ex_a 1 6 s11_0_), (c1, ex_a 1 6 kd), (c5, ex_a 1 6 sf), (c6, ex_a 1 6 st), (c11, ex_a 1 5 co), (c17, ex_a 1 360 gf)] [(6, ex_i (nI k11_)), (5, ex_i (F_X8_wouldBeIll e dy ae res)), (0, ex_r n), (1, ex_r c), (2, ex_i (nI e)), (3, ex_i (nI d)), (4, ex_i slow)] _ _ := fun k11_ s11_0_ hi_ hm_ => ih11 (k11_, s11_0_) hi_ hm_
    have hL11 := hI11.1
    have hb11 := hI11.2
    refine X_iload (j := 0) dX8_takesMeal_11 rfl ?_
    refine X_aload_n (j := 3) dX8_takesMeal_13 rfl rfl ?_
    refine X_get (j := 2) fo_X8_54 dX8_takesMeal_14 rfl rfl ?_
    refine X_icmp_ge (tgt := 43) dX8_takesMeal_17 (by decide) (fun c_2 => ?_) (fun c_2 => ?_)
    · have hlt11 : k11 = np := nlex (L := np) (by omega) hb11 c_2
      rw [show np - k11 = 0 by omega] at hL11
      have hL11 := hL11.trans (F_X8_takesMeal_L11_z ..)
      try dsimp only at hL11
      refine X_lv (lv' := [(5, ex_i (F_X8_wouldBeIll e dy ae res)), (0, ex_r n), (1, ex_r c), (2, ex_i (nI e)), (3, ex_i (nI d)), (4, ex_i slow)]) [1, 2, 3, 4, 5, 6] rfl ?_
      refine X_eq (cs' := [(n, ex_o 8 [ex_i dy, ex_i sr, ex_i il, ex_r nf, ex_r na, ex_r nh]), (na, ex_a 1 6 ae), (c, ex_o 0 [ex_r c0, ex_r c1, ex_r c2, ex_r c3, ex_r c4, ex_r c5, ex_r c6, ex_r c7, ex_r c8, ex_r c9, ex_r c10, ex_r c11, ex_r c12, ex_i (nI np), ex_i (nI nd), ex_i sto, ex_i res, ex_r c17, ex_r c18, ex_r c19]), (nf, ex_a 1 6 v_1), (c1, ex_a 1 6 kd), (c5, ex_a 1 6 sf), (c6, ex_a 1 6 st), (c11, ex_a 1 5 co), (c17, ex_a 1 360 gf)]) (lv' := [(5, ex_i (F_X8_wouldBeIll e dy ae res)), (0, ex_r n), (1, ex_r c), (2, ex_i (nI e)), (3, ex_i (nI d)), (4, ex_i slow)]) (by subst hL11; rfl) (by subst hL11; rfl) ?_
      exact hrest11 trivial
    · have hlt11 : k11 < np := nlen (L := np) (by omega) hb11 c_2
      rw [show np - k11 = (np - (k11 + 1)) + 1 by omega] at hL11
      have hL11 := hL11.trans (F_X8_takesMeal_L11_s ..)
      refine X_aload_n (j := 2) dX8_takesMeal_20 rfl rfl ?_
      refine X_iload (j := 0) dX8_takesMeal_21 rfl ?_
      refine X_aload_n (j := 2) dX8_takesMeal_23 rfl rfl ?_
      refine X_aload_n (j := 3) dX8_takesMeal_24 rfl rfl ?_
      refine X_iload_n (j := 4) dX8_takesMeal_25 rfl rfl ?_
      refine X_iload_n (j := 5) dX8_takesMeal_26 rfl rfl ?_
      refine X_iload (j := 6) dX8_takesMeal_27 rfl ?_
      refine X_iload (j := 0) dX8_takesMeal_29 rfl ?_
      refine X_callV (j0 := 0) (rest := [(nf, ex_a 1 6 s11_0), (c1, ex_a 1 6 kd), (c11, ex_a 1 5 co)]) (stk := [ex_i (nI k11), ex_r n]) co_X8_75 rfl ⟨(Nat.le_of_ble_eq_true rfl), (Nat.le_of_ble_eq_true rfl)⟩ (e_X8_gain l n c e d slow k11 dy sr il nf na nh ae c0 c1 c2 c3 c4 c5 c6 c7 c8 c9 c10 c11 c12 np nd sto res c17 c18 c19 sf st gf (by first | assumption | omega) (by first | assumption | omega) (by first | assumption | omega)) dX8_takesMeal_31 [0, 1, 2, 5, 6, 8, 3, 4, 7] (show List.Perm [0, 1, 2, 5, 6, 8, 3, 4, 7] (List.range 9) from by decide) rfl rfl rfl rfl (Nat.le_of_ble_eq_true rfl) (fun zc1 zr hq hk => ?_)
      obtain ⟨rfl, rfl⟩ := hq
      refine X_callV (j0 := 0) (rest := [(na, ex_a 1 6 ae), (c, ex_o 0 [ex_r c0, ex_r c1, ex_r c2, ex_r c3, ex_r c4, ex_r c5, ex_r c6, ex_r c7, ex_r c8, ex_r c9, ex_r c10, ex_r c11, ex_r c12, ex_i (nI np), ex_i (nI nd), ex_i sto, ex_i res, ex_r c17, ex_r c18, ex_r c19]), (c5, ex_a 1 6 sf), (c6, ex_a 1 6 st), (c17, ex_a 1 360 gf), (c1, ex_a 1 6 kd), (c11, ex_a 1 5 co)]) (stk := []) co_X8_79 rfl ⟨(Nat.le_of_ble_eq_true rfl), (Nat.le_of_ble_eq_true rfl)⟩ (e_X8_fill l n k11 (F_X8_gain e d slow k11 dy ae res sf st gf) dy sr il nf na nh s11_0 (by first | assumption | omega)) dX8_takesMeal_34 [0, 6, 1, 2, 3, 4, 5, 7, 8] (show List.Perm [0, 6, 1, 2, 3, 4, 5, 7, 8] (List.range 9) from by decide) rfl rfl rfl rfl (Nat.le_of_ble_eq_true rfl) (fun zc1 zr hq hk => ?_)
      obtain ⟨rfl, rfl⟩ := hq
      try dsimp only at hL11
      generalize hq_w_3 : F_X8_fill k11 (F_X8_gain e d slow k11 dy ae res sf st gf) s11_0 = w_3 at hL11 ⊢
      try dsimp only at hL11
      refine X_iinc (v := nI (k11 + 1)) (j := 0) (lv' := [(6, ex_i (nI (k11 + 1))), (5, ex_i (F_X8_wouldBeIll e dy ae res)), (0, ex_r n), (1, ex_r c), (2, ex_i (nI e)), (3, ex_i (nI d)), (4, ex_i slow)]) dX8_takesMeal_37 rfl (nI_add k11 1) (Nat.le_of_ble_eq_true rfl) rfl ?_
      refine X_goto (tgt := 11) dX8_takesMeal_40 (by decide) ?_
      try dsimp only at hL11
      refine X_re (cs' := [(n, ex_o 8 [ex_i dy, ex_i sr, ex_i il, ex_r nf, ex_r na, ex_r nh]), (na, ex_a 1 6 ae), (c, ex_o 0 [ex_r c0, ex_r c1, ex_r c2, ex_r c3, ex_r c4, ex_r c5, ex_r c6, ex_r c7, ex_r c8, ex_r c9, ex_r c10, ex_r c11, ex_r c12, ex_i (nI np), ex_i (nI nd), ex_i sto, ex_i res, ex_r c17, ex_r c18, ex_r c19]), (nf, ex_a 1 6 w_3), (c1, ex_a 1 6 kd), (c5, ex_a 1 6 sf), (c6, ex_a 1 6 st), (c11, ex_a 1 5 co), (c17, ex_a 1 360 gf)]) [0, 2, 3, 1, 7, 4, 5, 8, 6] (show List.Perm [0, 2, 3, 1, 7, 4, 5, 8, 6] (List.range 9) from by decide) rfl ?_
      exact ihc11 (k11 + 1) w_3 ⟨hL11, (show (k11 + 1) ≤ np by omega)⟩ (show np - (k11 + 1) < np - k11 by omega)
  refine X_aload_n (j := 1) dX8_takesMeal_43 rfl rfl ?_
  refine X_dup dX8_takesMeal_44 rfl ?_
  refine X_get (j := 0) fo_X8_15 dX8_takesMeal_45 rfl rfl ?_
  refine X_aload_n (j := 2) dX8_takesMeal_48 rfl rfl ?_
  refine X_iload_n (j := 3) dX8_takesMeal_49 rfl rfl ?_
  refine X_iload_n (j := 4) dX8_takesMeal_50 rfl rfl ?_
  refine X_callV (j0 := 0) (rest := [(n, ex_o 8 [ex_i dy, ex_i sr, ex_i il, ex_r nf, ex_r na, ex_r nh]), (na, ex_a 1 6 ae), (nf, ex_a 1 6 v_1), (c5, ex_a 1 6 sf), (c6, ex_a 1 6 st), (c17, ex_a 1 360 gf)]) (stk := [ex_i sr, ex_r n]) co_X8_61 rfl ⟨(Nat.le_of_ble_eq_true rfl), (Nat.le_of_ble_eq_true rfl)⟩ (e_X0_costBy l c e d c0 c1 c2 c3 c4 c5 c6 c7 c8 c9 c10 c11 c12 np nd sto res c17 c18 c19 kd co (by first | assumption | omega) (by first | assumption | omega)) dX8_takesMeal_51 [2, 4, 7, 0, 1, 3, 5, 6, 8] (show List.Perm [2, 4, 7, 0, 1, 3, 5, 6, 8] (List.range 9) from by decide) rfl rfl rfl rfl (Nat.le_of_ble_eq_true rfl) (fun zc1 zr hq hk => ?_)
  obtain ⟨rfl, rfl⟩ := hq
  refine X_isub (v := (sr - (F_X0_costBy e d kd co))) dX8_takesMeal_54 rfl ?_
  refine X_put (j := 3) (cs' := [(c, ex_o 0 [ex_r c0, ex_r c1, ex_r c2, ex_r c3, ex_r c4, ex_r c5, ex_r c6, ex_r c7, ex_r c8, ex_r c9, ex_r c10, ex_r c11, ex_r c12, ex_i (nI np), ex_i (nI nd), ex_i sto, ex_i res, ex_r c17, ex_r c18, ex_r c19]), (c1, ex_a 1 6 kd), (c11, ex_a 1 5 co), (n, ex_o 8 [ex_i dy, ex_i (sr - (F_X0_costBy e d kd co)), ex_i il, ex_r nf, ex_r na, ex_r nh]), (na, ex_a 1 6 ae), (nf, ex_a 1 6 v_1), (c5, ex_a 1 6 sf), (c6, ex_a 1 6 st), (c17, ex_a 1 360 gf)]) fo_X8_15 (by decide) dX8_takesMeal_55 rfl (Nat.le_of_ble_eq_true rfl) trivial rfl ?_
  refine X_aload_n (j := 1) dX8_takesMeal_58 rfl rfl ?_
  refine X_get (j := 3) fo_X8_25 dX8_takesMeal_59 rfl rfl ?_
  refine X_iload_n (j := 3) dX8_takesMeal_62 rfl rfl ?_
  refine X_aload_n (j := 1) dX8_takesMeal_63 rfl rfl ?_
  refine X_get (j := 3) fo_X8_9 dX8_takesMeal_64 rfl rfl ?_
  refine X_iast (j := 4) (g := upd ae e dy) (cs' := [(c, ex_o 0 [ex_r c0, ex_r c1, ex_r c2, ex_r c3, ex_r c4, ex_r c5, ex_r c6, ex_r c7, ex_r c8, ex_r c9, ex_r c10, ex_r c11, ex_r c12, ex_i (nI np), ex_i (nI nd), ex_i sto, ex_i res, ex_r c17, ex_r c18, ex_r c19]), (c1, ex_a 1 6 kd), (c11, ex_a 1 5 co), (n, ex_o 8 [ex_i dy, ex_i (sr - (F_X0_costBy e d kd co)), ex_i il, ex_r nf, ex_r na, ex_r nh]), (na, ex_a 1 6 (upd ae e dy)), (nf, ex_a 1 6 v_1), (c5, ex_a 1 6 sf), (c6, ex_a 1 6 st), (c17, ex_a 1 360 gf)]) dX8_takesMeal_67 rfl (vp_in_nI (show e < 6 by omega) (by decide)) (by rw [nI_clamp (by omega)]) rfl ?_
  refine X_aload_n (j := 1) dX8_takesMeal_68 rfl rfl ?_
  refine X_dup dX8_takesMeal_69 rfl ?_
  refine X_get (j := 3) fo_X8_18 dX8_takesMeal_70 rfl rfl ?_
  refine X_iload (j := 0) dX8_takesMeal_73 rfl ?_
  refine X_if_eq (tgt := 82) dX8_takesMeal_75 (by decide) (fun c_4 => ?_) (fun c_4 => ?_)
  · have hV := hV.trans (if_pos c_4)
    refine X_iconst (v := 0) dX8_takesMeal_82 (by decide) ?_
    refine X_iadd (v := (il + 0)) dX8_takesMeal_83 rfl ?_
    refine X_put (j := 3) (cs' := [(c, ex_o 0 [ex_r c0, ex_r c1, ex_r c2, ex_r c3, ex_r c4, ex_r c5, ex_r c6, ex_r c7, ex_r c8, ex_r c9, ex_r c10, ex_r c11, ex_r c12, ex_i (nI np), ex_i (nI nd), ex_i sto, ex_i res, ex_r c17, ex_r c18, ex_r c19]), (c1, ex_a 1 6 kd), (c11, ex_a 1 5 co), (n, ex_o 8 [ex_i dy, ex_i (sr - (F_X0_costBy e d kd co)), ex_i (il + 0), ex_r nf, ex_r na, ex_r nh]), (na, ex_a 1 6 (upd ae e dy)), (nf, ex_a 1 6 v_1), (c5, ex_a 1 6 sf), (c6, ex_a 1 6 st), (c17, ex_a 1 360 gf)]) fo_X8_18 (by decide) dX8_takesMeal_84 rfl (Nat.le_of_ble_eq_true rfl) trivial rfl ?_
    refine X_iload (j := 0) dX8_takesMeal_87 rfl ?_
    try dsimp only at hV
    refine X_re (cs' := [(n, ex_o 8 [ex_i dy, ex_i (sr - (F_X0_costBy e d kd co)), ex_i (il + 0), ex_r nf, ex_r na, ex_r nh]), (nf, ex_a 1 6 v_1), (na, ex_a 1 6 (upd ae e dy)), (c, ex_o 0 [ex_r c0, ex_r c1, ex_r c2, ex_r c3, ex_r c4, ex_r c5, ex_r c6, ex_r c7, ex_r c8, ex_r c9, ex_r c10, ex_r c11, ex_r c12, ex_i (nI np), ex_i (nI nd), ex_i sto, ex_i res, ex_r c17, ex_r c18, ex_r c19]), (c1, ex_a 1 6 kd), (c5, ex_a 1 6 sf), (c6, ex_a 1 6 st), (c11, ex_a 1 5 co), (c17, ex_a 1 360 gf)]) [3, 5, 4, 0, 1, 6, 7, 2, 8] (show List.Perm [3, 5, 4, 0, 1, 6, 7, 2, 8] (List.range 9) from by decide) rfl ?_
    exact X_iret ex_nZ (ex_nb (F_X8_wouldBeIll_b ..)) dX8_takesMeal_89 (by (repeat refine ex_kc ?_) <;> rfl) (by subst hV; exact ⟨rfl, rfl⟩)
  · have hV := hV.trans (if_neg c_4)
    refine X_iconst (v := 1) dX8_takesMeal_78 (by decide) ?_
    refine X_goto (tgt := 83) dX8_takesMeal_79 (by decide) ?_
    refine X_iadd (v := (il + 1)) dX8_takesMeal_83 rfl ?_
    refine X_put (j := 3) (cs' := [(c, ex_o 0 [ex_r c0, ex_r c1, ex_r c2, ex_r c3, ex_r c4, ex_r c5, ex_r c6, ex_r c7, ex_r c8, ex_r c9, ex_r c10, ex_r c11, ex_r c12, ex_i (nI np), ex_i (nI nd), ex_i sto, ex_i res, ex_r c17, ex_r c18, ex_r c19]), (c1, ex_a 1 6 kd), (c11, ex_a 1 5 co), (n, ex_o 8 [ex_i dy, ex_i (sr - (F_X0_costBy e d kd co)), ex_i (il + 1), ex_r nf, ex_r na, ex_r nh]), (na, ex_a 1 6 (upd ae e dy)), (nf, ex_a 1 6 v_1), (c5, ex_a 1 6 sf), (c6, ex_a 1 6 st), (c17, ex_a 1 360 gf)]) fo_X8_18 (by decide) dX8_takesMeal_84 rfl (Nat.le_of_ble_eq_true rfl) trivial rfl ?_
    refine X_iload (j := 0) dX8_takesMeal_87 rfl ?_
    try dsimp only at hV
    refine X_re (cs' := [(n, ex_o 8 [ex_i dy, ex_i (sr - (F_X0_costBy e d kd co)), ex_i (il + 1), ex_r nf, ex_r na, ex_r nh]), (nf, ex_a 1 6 v_1), (na, ex_a 1 6 (upd ae e dy)), (c, ex_o 0 [ex_r c0, ex_r c1, ex_r c2, ex_r c3, ex_r c4, ex_r c5, ex_r c6, ex_r c7, ex_r c8, ex_r c9, ex_r c10, ex_r c11, ex_r c12, ex_i (nI np), ex_i (nI nd), ex_i sto, ex_i res, ex_r c17, ex_r c18, ex_r c19]), (c1, ex_a 1 6 kd), (c5, ex_a 1 6 sf), (c6, ex_a 1 6 st), (c11, ex_a 1 5 co), (c17, ex_a 1 360 gf)]) [3, 5, 4, 0, 1, 6, 7, 2, 8] (show List.Perm [3, 5, 4, 0, 1, 6, 7, 2, 8] (List.range 9) from by decide) rfl ?_
    exact X_iret ex_nZ (ex_nb (F_X8_wouldBeIll_b ..)) dX8_takesMeal_89 (by (repeat refine ex_kc ?_) <;> rfl) (by subst hV; exact ⟨rfl, rfl⟩)

def F_X8_eatsAbroad (i : Nat) (d : Nat) (fu : Nat → Int32) (ga : Nat → Int32) : (Nat → Int32) := ((fun (w_1 : (Nat → Int32)) => w_1) (F_X8_fill i (F_X0_giftAbroad i d ga) fu))
set_option maxHeartbeats 4000000 in
set_option maxRecDepth 100000 in
theorem e_X8_eatsAbroad (l : Launch) (n : Nat) (c : Nat) (i : Nat) (d : Nat) (dy : Int32) (sr : Int32) (il : Int32) (nf : Nat) (na : Nat) (nh : Nat) (fu : Nat → Int32) (c0 : Nat) (c1 : Nat) (c2 : Nat) (c3 : Nat) (c4 : Nat) (c5 : Nat) (c6 : Nat) (c7 : Nat) (c8 : Nat) (c9 : Nat) (c10 : Nat) (c11 : Nat) (c12 : Nat) (np : Nat) (nd : Nat) (sto : Int32) (res : Int32) (c17 : Nat) (c18 : Nat) (c19 : Nat) (ga : Nat → Int32) (hi : i < 6) (hd : d < 5) : ex_M l yX8_eatsAbroad cX8_eatsAbroad 4 none 2 62 [ex_r n, ex_r c, ex_i (nI i), ex_i (nI d)] [(n, ex_o 8 [ex_i dy, ex_i sr, ex_i il, ex_r nf, ex_r na, ex_r nh]), (nf, ex_a 1 6 fu), (c, ex_o 0 [ex_r c0, ex_r c1, ex_r c2, ex_r c3, ex_r c4, ex_r c5, ex_r c6, ex_r c7, ex_r c8, ex_r c9, ex_r c10, ex_r c11, ex_r c12, ex_i (nI np), ex_i (nI nd), ex_i sto, ex_i res, ex_r c17, ex_r c18, ex_r c19]), (c18, ex_a 1 30 ga)] (fun zcs zr => zcs = [(n, ex_o 8 [ex_i dy, ex_i sr, ex_i il, ex_r nf, ex_r na, ex_r nh]), (nf, ex_a 1 6 (F_X8_eatsAbroad i d fu ga)), (c, ex_o 0 [ex_r c0, ex_r c1, ex_r c2, ex_r c3, ex_r c4, ex_r c5, ex_r c6, ex_r c7, ex_r c8, ex_r c9, ex_r c10, ex_r c11, ex_r c12, ex_i (nI np), ex_i (nI nd), ex_i sto, ex_i res, ex_r c17, ex_r c18, ex_r c19]), (c18, ex_a 1 30 ga)] ∧ zr = none) := by
  refine X_meth (by decide) (Nat.le_of_ble_eq_true rfl) ?_
  generalize hV : F_X8_eatsAbroad i d fu ga = V0
  have hV := hV.symm
  unfold F_X8_eatsAbroad at hV
  try dsimp only at hV
  refine X_aload_n (j := 0) dX8_eatsAbroad_0 rfl rfl ?_
  refine X_iload_n (j := 2) dX8_eatsAbroad_1 rfl rfl ?_
  refine X_aload_n (j := 1) dX8_eatsAbroad_2 rfl rfl ?_
  refine X_iload_n (j := 2) dX8_eatsAbroad_3 rfl rfl ?_
  refine X_iload_n (j := 3) dX8_eatsAbroad_4 rfl rfl ?_
  refine X_callV (j0 := 0) (rest := [(n, ex_o 8 [ex_i dy, ex_i sr, ex_i il, ex_r nf, ex_r na, ex_r nh]), (nf, ex_a 1 6 fu)]) (stk := [ex_i (nI i), ex_r n]) co_X8_82 rfl ⟨(Nat.le_of_ble_eq_true rfl), (Nat.le_of_ble_eq_true rfl)⟩ (e_X0_giftAbroad l c i d c0 c1 c2 c3 c4 c5 c6 c7 c8 c9 c10 c11 c12 np nd sto res c17 c18 c19 ga (by first | assumption | omega) (by first | assumption | omega)) dX8_eatsAbroad_5 [2, 3, 0, 1] (show List.Perm [2, 3, 0, 1] (List.range 4) from by decide) rfl rfl rfl rfl (Nat.le_of_ble_eq_true rfl) (fun zc1 zr hq hk => ?_)
  obtain ⟨rfl, rfl⟩ := hq
  refine X_callV (j0 := 0) (rest := [(c, ex_o 0 [ex_r c0, ex_r c1, ex_r c2, ex_r c3, ex_r c4, ex_r c5, ex_r c6, ex_r c7, ex_r c8, ex_r c9, ex_r c10, ex_r c11, ex_r c12, ex_i (nI np), ex_i (nI nd), ex_i sto, ex_i res, ex_r c17, ex_r c18, ex_r c19]), (c18, ex_a 1 30 ga)]) (stk := []) co_X8_79 rfl ⟨(Nat.le_of_ble_eq_true rfl), (Nat.le_of_ble_eq_true rfl)⟩ (e_X8_fill l n i (F_X0_giftAbroad i d ga) dy sr il nf na nh fu (by first | assumption | omega)) dX8_eatsAbroad_8 [2, 3, 0, 1] (show List.Perm [2, 3, 0, 1] (List.range 4) from by decide) rfl rfl rfl rfl (Nat.le_of_ble_eq_true rfl) (fun zc1 zr hq hk => ?_)
  obtain ⟨rfl, rfl⟩ := hq
  try dsimp only at hV
  generalize hq_w_1 : F_X8_fill i (F_X0_giftAbroad i d ga) fu = w_1 at hV ⊢
  try dsimp only at hV
  try dsimp only at hV
  exact X_vret dX8_eatsAbroad_11 (by (repeat refine ex_kc ?_) <;> rfl) (by subst hV; exact ⟨rfl, rfl⟩)

def F_X8_endsDay_L4 (hg : Nat → Int32) : Nat → Nat → (Nat → Int32) → Int32 → (Nat → Int32) → (Nat → Int32) × Int32 × (Nat → Int32)
  | 0, k4, s4_0, s4_1, s4_2 => (s4_0, s4_1, s4_2)
  | zn + 1, k4, s4_0, s4_1, s4_2 => (if (hg k4) ≤ (s4_0 k4) then F_X8_endsDay_L4 hg zn (k4 + 1) (upd s4_0 k4 ((s4_0 k4) - (hg k4))) s4_1 s4_2 else F_X8_endsDay_L4 hg zn (k4 + 1) (upd s4_0 k4 0) (s4_1 + 1) (upd s4_2 k4 ((s4_2 k4) + 1)))
theorem F_X8_endsDay_L4_z (hg : Nat → Int32) (k4 : Nat) (s4_0 : Nat → Int32) (s4_1 : Int32) (s4_2 : Nat → Int32) : F_X8_endsDay_L4 hg 0 k4 s4_0 s4_1 s4_2 = (s4_0, s4_1, s4_2) := rfl
theorem F_X8_endsDay_L4_s (hg : Nat → Int32) (k4 : Nat) (s4_0 : Nat → Int32) (s4_1 : Int32) (s4_2 : Nat → Int32) (zn : Nat) : F_X8_endsDay_L4 hg (zn + 1) k4 s4_0 s4_1 s4_2 = (if (hg k4) ≤ (s4_0 k4) then F_X8_endsDay_L4 hg zn (k4 + 1) (upd s4_0 k4 ((s4_0 k4) - (hg k4))) s4_1 s4_2 else F_X8_endsDay_L4 hg zn (k4 + 1) (upd s4_0 k4 0) (s4_1 + 1) (upd s4_2 k4 ((s4_2 k4) + 1))) := rfl
def F_X8_endsDay (dy : Int32) (fu : Nat → Int32) (hu : Nat → Int32) (np : Nat) (hg : Nat → Int32) : Int32 × (Nat → Int32) × (Nat → Int32) × Int32 := ((fun (v_1 : (Nat → Int32) × Int32 × (Nat → Int32)) => (dy + 1, v_1.1, v_1.2.2, v_1.2.1)) (F_X8_endsDay_L4 hg (np - 0) 0 fu 0 hu))
set_option maxHeartbeats 4000000 in
set_option maxRecDepth 100000 in
theorem e_X8_endsDay (l : Launch) (n : Nat) (c : Nat) (dy : Int32) (sr : Int32) (il : Int32) (nf : Nat) (na : Nat) (nh : Nat) (fu : Nat → Int32) (hu : Nat → Int32) (c0 : Nat) (c1 : Nat) (c2 : Nat) (c3 : Nat) (c4 : Nat) (c5 : Nat) (c6 : Nat) (c7 : Nat) (c8 : Nat) (c9 : Nat) (c10 : Nat) (c11 : Nat) (c12 : Nat) (np : Nat) (nd : Nat) (sto : Int32) (res : Int32) (c17 : Nat) (c18 : Nat) (c19 : Nat) (hg : Nat → Int32) (hnp : np ≤ 6) : ex_M l yX8_endsDay cX8_endsDay 4 (some .int) 0 0 [ex_r n, ex_r c] [(n, ex_o 8 [ex_i dy, ex_i sr, ex_i il, ex_r nf, ex_r na, ex_r nh]), (nf, ex_a 1 6 fu), (nh, ex_a 1 6 hu), (c, ex_o 0 [ex_r c0, ex_r c1, ex_r c2, ex_r c3, ex_r c4, ex_r c5, ex_r c6, ex_r c7, ex_r c8, ex_r c9, ex_r c10, ex_r c11, ex_r c12, ex_i (nI np), ex_i (nI nd), ex_i sto, ex_i res, ex_r c17, ex_r c18, ex_r c19]), (c2, ex_a 1 6 hg)] (fun zcs zr => zcs = [(n, ex_o 8 [ex_i ((F_X8_endsDay dy fu hu np hg).1), ex_i sr, ex_i il, ex_r nf, ex_r na, ex_r nh]), (nf, ex_a 1 6 ((F_X8_endsDay dy fu hu np hg).2.1)), (nh, ex_a 1 6 ((F_X8_endsDay dy fu hu np hg).2.2.1)), (c, ex_o 0 [ex_r c0, ex_r c1, ex_r c2, ex_r c3, ex_r c4, ex_r c5, ex_r c6, ex_r c7, ex_r c8, ex_r c9, ex_r c10, ex_r c11, ex_r c12, ex_i (nI np), ex_i (nI nd), ex_i sto, ex_i res, ex_r c17, ex_r c18, ex_r c19]), (c2, ex_a 1 6 hg)] ∧ zr = some (ex_i (F_X8_endsDay dy fu hu np hg).2.2.2)) := by
  refine X_meth (by decide) (Nat.le_of_ble_eq_true rfl) ?_
  generalize hV : F_X8_endsDay dy fu hu np hg = V0
  have hV := hV.symm
  unfold F_X8_endsDay at hV
  try dsimp only at hV
  refine X_iconst (v := 0) dX8_endsDay_0 (by decide) ?_
  refine X_istore_n (lv' := [(2, ex_i 0), (0, ex_r n), (1, ex_r c)]) dX8_endsDay_1 rfl (Nat.le_of_ble_eq_true rfl) rfl ?_
  refine X_iconst (v := 0) dX8_endsDay_2 (by decide) ?_
  refine X_istore_n (lv' := [(3, ex_i 0), (2, ex_i 0), (0, ex_r n), (1, ex_r c)]) dX8_endsDay_3 rfl (Nat.le_of_ble_eq_true rfl) rfl ?_
  -- loop at 4
  try dsimp only at hV
  generalize hq_v_1 : F_X8_endsDay_L4 hg (np - 0) 0 fu 0 hu = v_1 at hV
  try dsimp only at hV
  refine X_cut (P := True) (csE := [(n, ex_o 8 [ex_i dy, ex_i sr, ex_i il, ex_r nf, ex_r na, ex_r nh]), (nf, ex_a 1 6 v_1.1), (nh, ex_a 1 6 v_1.2.2), (c, ex_o 0 [ex_r c0, ex_r c1, ex_r c2, ex_r c3, ex_r c4, ex_r c5, ex_r c6, ex_r c7, ex_r c8, ex_r c9, ex_r c10, ex_r c11, ex_r c12, ex_i (nI np), ex_i (nI nd), ex_i sto, ex_i res, ex_r c17, ex_r c18, ex_r c19]), (c2, ex_a 1 6 hg)]) (lvE := [(2, ex_i v_1.2.1), (0, ex_r n), (1, ex_r c)]) (E := 71) (fun hrest4 => ?_) (fun hPX4 => ?_)
  · have hL4 := hq_v_1.symm
    refine X_ind (fun (a4 : Nat × (Nat → Int32) × Int32 × (Nat → Int32)) => v_1 = F_X8_endsDay_L4 hg (np - a4.1) a4.1 a4.2.1 a4.2.2.1 a4.2.2.2 ∧ a4.1 ≤ np) (fun (a4 : Nat × (Nat → Int32) × Int32 × (Nat → Int32)) => np - a4.1) (fun (a4 : Nat × (Nat → Int32) × Int32 × (Nat → Int32)) => [(n, ex_o 8 [ex_i dy, ex_i sr, ex_i il, ex_r nf, ex_r na, ex_r nh]), (nf, ex_a 1 6 a4.2.1), (nh, ex_a 1 6 a4.2.2.2), (c, ex_o 0 [ex_r c0, ex_r c1, ex_r c2, ex_r c3, ex_r c4, ex_r c5, ex_r c6, ex_r c7, ex_r c8, ex_r c9, ex_r c10, ex_r c11, ex_r c12, ex_i (nI np), ex_i (nI nd), ex_i sto, ex_i res, ex_r c17, ex_r c18, ex_r c19]), (c2, ex_a 1 6 hg)]) (fun (a4 : Nat × (Nat → Int32) × Int32 × (Nat → Int32)) => [(3, ex_i (nI a4.1)), (2, ex_i a4.2.2.1), (0, ex_r n), (1, ex_r c)]) (fun ⟨k4, s4_0, s4_1, s4_2⟩ hI4 ih4 => ?_) (0, fu, 0, hu) ⟨hL4, (by omega)⟩
    try dsimp only at hI4 ih4 ⊢
    have ihc4 : ∀ (k4_ : Nat) (s4_0_ : Nat → Int32) (s4_1_ : Int32) (s4_2_ : Nat → Int32), (v_1 = F_X8_endsDay_L4 hg (np - k4_) k4_ s4_0_ s4_1_ s4_2_ ∧ k4_ ≤ np) → (np - k4_) < (np - k4) → ex_O _ _ _ _ _ _ _ _ _ [(n, ex_o 8 [ex_i dy, ex_i sr, ex_i il, ex_r nf, ex_r na, ex_r nh]), (nf, ex_a 1 6 s4_0_), (nh, ex_a 1 6 s4_2_), (c, ex_o 0 [ex_r c0, ex_r c1, ex_r c2, ex_r c3, ex_r c4, ex_r c5, ex_r c6, ex_r c7, ex_r c8, ex_r c9, ex_r c10, ex_r c11, ex_r c12, ex_i (nI np), ex_i (nI nd), ex_i sto, ex_i res, ex_r c17, ex_r c18, ex_r c19]), (c2, ex_a 1 6 hg)] [(3, ex_i (nI k4_)), (2, ex_i s4_1_), (0, ex_r n), (1, ex_r c)] _ _ := fun k4_ s4_0_ s4_1_ s4_2_ hi_ hm_ => ih4 (k4_, s4_0_, s4_1_, s4_2_) hi_ hm_
    have hL4 := hI4.1
    have hb4 := hI4.2
    refine X_iload_n (j := 0) dX8_endsDay_4 rfl rfl ?_
    refine X_aload_n (j := 3) dX8_endsDay_5 rfl rfl ?_
    refine X_get (j := 3) fo_X8_54 dX8_endsDay_6 rfl rfl ?_
    refine X_icmp_ge (tgt := 71) dX8_endsDay_9 (by decide) (fun c_2 => ?_) (fun c_2 => ?_)
    · have hlt4 : k4 = np := nlex (L := np) (by omega) hb4 c_2
      rw [show np - k4 = 0 by omega] at hL4
      have hL4 := hL4.trans (F_X8_endsDay_L4_z ..)
      try dsimp only at hL4
      refine X_lv (lv' := [(2, ex_i s4_1), (0, ex_r n), (1, ex_r c)]) [1, 2, 3] rfl ?_
      refine X_eq (cs' := [(n, ex_o 8 [ex_i dy, ex_i sr, ex_i il, ex_r nf, ex_r na, ex_r nh]), (nf, ex_a 1 6 v_1.1), (nh, ex_a 1 6 v_1.2.2), (c, ex_o 0 [ex_r c0, ex_r c1, ex_r c2, ex_r c3, ex_r c4, ex_r c5, ex_r c6, ex_r c7, ex_r c8, ex_r c9, ex_r c10, ex_r c11, ex_r c12, ex_i (nI np), ex_i (nI nd), ex_i sto, ex_i res, ex_r c17, ex_r c18, ex_r c19]), (c2, ex_a 1 6 hg)]) (lv' := [(2, ex_i v_1.2.1), (0, ex_r n), (1, ex_r c)]) (by subst hL4; rfl) (by subst hL4; rfl) ?_
      exact hrest4 trivial
    · have hlt4 : k4 < np := nlen (L := np) (by omega) hb4 c_2
      rw [show np - k4 = (np - (k4 + 1)) + 1 by omega] at hL4
      have hL4 := hL4.trans (F_X8_endsDay_L4_s ..)
      refine X_aload_n (j := 2) dX8_endsDay_12 rfl rfl ?_
      refine X_get (j := 0) fo_X8_21 dX8_endsDay_13 rfl rfl ?_
      refine X_iload_n (j := 0) dX8_endsDay_16 rfl rfl ?_
      refine X_iald (j := 1) (v := (s4_0 k4)) dX8_endsDay_17 rfl (vp_in_nI (show k4 < 6 by omega) (by decide)) (by rw [nI_clamp (by omega)]) ?_
      refine X_aload_n (j := 3) dX8_endsDay_18 rfl rfl ?_
      refine X_get (j := 3) fo_X8_90 dX8_endsDay_19 rfl rfl ?_
      refine X_iload_n (j := 0) dX8_endsDay_22 rfl rfl ?_
      refine X_iald (j := 4) (v := (hg k4)) dX8_endsDay_23 rfl (vp_in_nI (show k4 < 6 by omega) (by decide)) (by rw [nI_clamp (by omega)]) ?_
      refine X_icmp_ge (tgt := 50) dX8_endsDay_24 (by decide) (fun c_3 => ?_) (fun c_3 => ?_)
      · have hL4 := hL4.trans (if_pos c_3)
        refine X_aload_n (j := 2) dX8_endsDay_50 rfl rfl ?_
        refine X_get (j := 0) fo_X8_21 dX8_endsDay_51 rfl rfl ?_
        refine X_iload_n (j := 0) dX8_endsDay_54 rfl rfl ?_
        refine X_dup2_11 dX8_endsDay_55 rfl rfl ?_
        refine X_iald (j := 1) (v := (s4_0 k4)) dX8_endsDay_56 rfl (vp_in_nI (show k4 < 6 by omega) (by decide)) (by rw [nI_clamp (by omega)]) ?_
        refine X_aload_n (j := 3) dX8_endsDay_57 rfl rfl ?_
        refine X_get (j := 3) fo_X8_90 dX8_endsDay_58 rfl rfl ?_
        refine X_iload_n (j := 0) dX8_endsDay_61 rfl rfl ?_
        refine X_iald (j := 4) (v := (hg k4)) dX8_endsDay_62 rfl (vp_in_nI (show k4 < 6 by omega) (by decide)) (by rw [nI_clamp (by omega)]) ?_
        refine X_isub (v := ((s4_0 k4) - (hg k4))) dX8_endsDay_63 rfl ?_
        refine X_iast (j := 1) (g := upd s4_0 k4 ((s4_0 k4) - (hg k4))) (cs' := [(n, ex_o 8 [ex_i dy, ex_i sr, ex_i il, ex_r nf, ex_r na, ex_r nh]), (nf, ex_a 1 6 (upd s4_0 k4 ((s4_0 k4) - (hg k4)))), (nh, ex_a 1 6 s4_2), (c, ex_o 0 [ex_r c0, ex_r c1, ex_r c2, ex_r c3, ex_r c4, ex_r c5, ex_r c6, ex_r c7, ex_r c8, ex_r c9, ex_r c10, ex_r c11, ex_r c12, ex_i (nI np), ex_i (nI nd), ex_i sto, ex_i res, ex_r c17, ex_r c18, ex_r c19]), (c2, ex_a 1 6 hg)]) dX8_endsDay_64 rfl (vp_in_nI (show k4 < 6 by omega) (by decide)) (by rw [nI_clamp (by omega)]) rfl ?_
        refine X_iinc (v := nI (k4 + 1)) (j := 0) (lv' := [(3, ex_i (nI (k4 + 1))), (2, ex_i s4_1), (0, ex_r n), (1, ex_r c)]) dX8_endsDay_65 rfl (nI_add k4 1) (Nat.le_of_ble_eq_true rfl) rfl ?_
        refine X_goto (tgt := 4) dX8_endsDay_68 (by decide) ?_
        try dsimp only at hL4
        exact ihc4 (k4 + 1) (upd s4_0 k4 ((s4_0 k4) - (hg k4))) s4_1 s4_2 ⟨hL4, (show (k4 + 1) ≤ np by omega)⟩ (show np - (k4 + 1) < np - k4 by omega)
      · have hL4 := hL4.trans (if_neg c_3)
        refine X_aload_n (j := 2) dX8_endsDay_27 rfl rfl ?_
        refine X_get (j := 0) fo_X8_21 dX8_endsDay_28 rfl rfl ?_
        refine X_iload_n (j := 0) dX8_endsDay_31 rfl rfl ?_
        refine X_iconst (v := 0) dX8_endsDay_32 (by decide) ?_
        refine X_iast (j := 1) (g := upd s4_0 k4 0) (cs' := [(n, ex_o 8 [ex_i dy, ex_i sr, ex_i il, ex_r nf, ex_r na, ex_r nh]), (nf, ex_a 1 6 (upd s4_0 k4 0)), (nh, ex_a 1 6 s4_2), (c, ex_o 0 [ex_r c0, ex_r c1, ex_r c2, ex_r c3, ex_r c4, ex_r c5, ex_r c6, ex_r c7, ex_r c8, ex_r c9, ex_r c10, ex_r c11, ex_r c12, ex_i (nI np), ex_i (nI nd), ex_i sto, ex_i res, ex_r c17, ex_r c18, ex_r c19]), (c2, ex_a 1 6 hg)]) dX8_endsDay_33 rfl (vp_in_nI (show k4 < 6 by omega) (by decide)) (by rw [nI_clamp (by omega)]) rfl ?_
        refine X_aload_n (j := 2) dX8_endsDay_34 rfl rfl ?_
        refine X_get (j := 0) fo_X8_28 dX8_endsDay_35 rfl rfl ?_
        refine X_iload_n (j := 0) dX8_endsDay_38 rfl rfl ?_
        refine X_dup2_11 dX8_endsDay_39 rfl rfl ?_
        refine X_iald (j := 2) (v := (s4_2 k4)) dX8_endsDay_40 rfl (vp_in_nI (show k4 < 6 by omega) (by decide)) (by rw [nI_clamp (by omega)]) ?_
        refine X_iconst (v := 1) dX8_endsDay_41 (by decide) ?_
        refine X_iadd (v := ((s4_2 k4) + 1)) dX8_endsDay_42 rfl ?_
        refine X_iast (j := 2) (g := upd s4_2 k4 ((s4_2 k4) + 1)) (cs' := [(n, ex_o 8 [ex_i dy, ex_i sr, ex_i il, ex_r nf, ex_r na, ex_r nh]), (nf, ex_a 1 6 (upd s4_0 k4 0)), (nh, ex_a 1 6 (upd s4_2 k4 ((s4_2 k4) + 1))), (c, ex_o 0 [ex_r c0, ex_r c1, ex_r c2, ex_r c3, ex_r c4, ex_r c5, ex_r c6, ex_r c7, ex_r c8, ex_r c9, ex_r c10, ex_r c11, ex_r c12, ex_i (nI np), ex_i (nI nd), ex_i sto, ex_i res, ex_r c17, ex_r c18, ex_r c19]), (c2, ex_a 1 6 hg)]) dX8_endsDay_43 rfl (vp_in_nI (show k4 < 6 by omega) (by decide)) (by rw [nI_clamp (by omega)]) rfl ?_
        refine X_iinc (v := (s4_1 + 1)) (j := 1) (lv' := [(2, ex_i (s4_1 + 1)), (3, ex_i (nI k4)), (0, ex_r n), (1, ex_r c)]) dX8_endsDay_44 rfl rfl (Nat.le_of_ble_eq_true rfl) rfl ?_
        refine X_goto (tgt := 65) dX8_endsDay_47 (by decide) ?_
        refine X_iinc (v := nI (k4 + 1)) (j := 1) (lv' := [(3, ex_i (nI (k4 + 1))), (2, ex_i (s4_1 + 1)), (0, ex_r n), (1, ex_r c)]) dX8_endsDay_65 rfl (nI_add k4 1) (Nat.le_of_ble_eq_true rfl) rfl ?_
        refine X_goto (tgt := 4) dX8_endsDay_68 (by decide) ?_
        try dsimp only at hL4
        exact ihc4 (k4 + 1) (upd s4_0 k4 0) (s4_1 + 1) (upd s4_2 k4 ((s4_2 k4) + 1)) ⟨hL4, (show (k4 + 1) ≤ np by omega)⟩ (show np - (k4 + 1) < np - k4 by omega)
  refine X_aload_n (j := 1) dX8_endsDay_71 rfl rfl ?_
  refine X_dup dX8_endsDay_72 rfl ?_
  refine X_get (j := 0) fo_X8_9 dX8_endsDay_73 rfl rfl ?_
  refine X_iconst (v := 1) dX8_endsDay_76 (by decide) ?_
  refine X_iadd (v := (dy + 1)) dX8_endsDay_77 rfl ?_
  refine X_put (j := 0) (cs' := [(n, ex_o 8 [ex_i (dy + 1), ex_i sr, ex_i il, ex_r nf, ex_r na, ex_r nh]), (nf, ex_a 1 6 v_1.1), (nh, ex_a 1 6 v_1.2.2), (c, ex_o 0 [ex_r c0, ex_r c1, ex_r c2, ex_r c3, ex_r c4, ex_r c5, ex_r c6, ex_r c7, ex_r c8, ex_r c9, ex_r c10, ex_r c11, ex_r c12, ex_i (nI np), ex_i (nI nd), ex_i sto, ex_i res, ex_r c17, ex_r c18, ex_r c19]), (c2, ex_a 1 6 hg)]) fo_X8_9 (by decide) dX8_endsDay_78 rfl (Nat.le_of_ble_eq_true rfl) trivial rfl ?_
  refine X_iload_n (j := 0) dX8_endsDay_81 rfl rfl ?_
  try dsimp only at hV
  exact X_iret ex_nI rfl dX8_endsDay_82 (by (repeat refine ex_kc ?_) <;> rfl) (by subst hV; exact ⟨rfl, rfl⟩)
