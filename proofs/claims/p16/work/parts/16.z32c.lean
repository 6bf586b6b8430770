set_option maxHeartbeats 4000000 in
set_option maxRecDepth 100000 in
theorem e_X9_wrong (l : Launch) (t : Nat) (g : Nat) (L : Nat) (fa : Int32) (ki : Int32) (nu : Int32) (sg : Int32) (wo : Int64) (ne : Int32) (pl : Int32) (kq : Int32) : ex_M l yX9_wrong cX9_wrong 2 (some .boolean) 0 0 [ex_r t, ex_i kq] [(t, ex_o 9 [ex_r g, ex_i (nI L), ex_i fa, ex_i ki, ex_i nu, ex_i sg, ex_j wo, ex_i ne, ex_i pl])] (fun cs r => (cs = [(t, ex_o 9 [ex_r g, ex_i (nI L), ex_i (kq + 16 * pl), ex_i ki, ex_i nu, ex_i sg, ex_j wo, ex_i ne, ex_i pl])] ∧ r = some (ex_i 0))) := by
  refine X_meth (by decide) (Nat.le_of_ble_eq_true rfl) ?_
  refine X_aload_n (j := 0) dX9_wrong_0 rfl rfl ?_
  refine X_iload_n (j := 1) dX9_wrong_1 rfl rfl ?_
  refine X_bipush (v := 16) dX9_wrong_2 (by decide) ?_
  refine X_aload_n (j := 0) dX9_wrong_4 rfl rfl ?_
  refine X_get (j := 0) fo_X9_39 dX9_wrong_5 rfl rfl ?_
  refine X_imul (v := (16 * pl)) dX9_wrong_8 rfl ?_
  refine X_iadd (v := (kq + (16 * pl))) dX9_wrong_9 rfl ?_
  refine X_put (j := 0) (cs' := [(t, ex_o 9 [ex_r g, ex_i (nI L), ex_i (kq + (16 * pl)), ex_i ki, ex_i nu, ex_i sg, ex_j wo, ex_i ne, ex_i pl])]) fo_X9_19 (by decide) dX9_wrong_10 rfl (Nat.le_of_ble_eq_true rfl) trivial rfl ?_
  refine X_iconst (v := 0) dX9_wrong_13 (by decide) ?_
  exact X_iret ex_nZ rfl dX9_wrong_14 rfl (⟨rfl, rfl⟩)

set_option maxHeartbeats 4000000 in
set_option maxRecDepth 100000 in
theorem e_X9_isSign (l : Launch) (t : Nat) (g : Nat) (L : Nat) (fa : Int32) (ki : Int32) (nu : Int32) (sg : Int32) (wo : Int64) (ne : Int32) (pl : Int32) (cq : Int32) : ex_M l yX9_isSign cX9_isSign 2 (some .boolean) 0 0 [ex_r t, ex_i cq] [(t, ex_o 9 [ex_r g, ex_i (nI L), ex_i fa, ex_i ki, ex_i nu, ex_i sg, ex_j wo, ex_i ne, ex_i pl])] (fun cs r => ((ki = 3 ∧ sg = cq) ∧ cs = [(t, ex_o 9 [ex_r g, ex_i (nI L), ex_i fa, ex_i ki, ex_i nu, ex_i sg, ex_j wo, ex_i ne, ex_i pl])] ∧ r = some (ex_i 1)) ∨ ((¬ (ki = 3 ∧ sg = cq)) ∧ cs = [(t, ex_o 9 [ex_r g, ex_i (nI L), ex_i fa, ex_i ki, ex_i nu, ex_i sg, ex_j wo, ex_i ne, ex_i pl])] ∧ r = some (ex_i 0))) := by
  refine X_meth (by decide) (Nat.le_of_ble_eq_true rfl) ?_
  refine X_aload_n (j := 0) dX9_isSign_0 rfl rfl ?_
  refine X_get (j := 0) fo_X9_22 dX9_isSign_1 rfl rfl ?_
  refine X_iconst (v := 3) dX9_isSign_4 (by decide) ?_
  refine X_icmp_ne (tgt := 20) dX9_isSign_5 (by decide) (fun c_1 => ?_) (fun c_1 => ?_)
  · refine X_iconst (v := 0) dX9_isSign_20 (by decide) ?_
    exact X_iret ex_nZ rfl dX9_isSign_21 rfl (Or.inr ⟨(fun q => c_1 q.1), rfl, rfl⟩)
  · refine X_aload_n (j := 0) dX9_isSign_8 rfl rfl ?_
    refine X_get (j := 0) fo_X9_28 dX9_isSign_9 rfl rfl ?_
    refine X_iload_n (j := 1) dX9_isSign_12 rfl rfl ?_
    refine X_icmp_ne (tgt := 20) dX9_isSign_13 (by decide) (fun c_2 => ?_) (fun c_2 => ?_)
    · refine X_iconst (v := 0) dX9_isSign_20 (by decide) ?_
      exact X_iret ex_nZ rfl dX9_isSign_21 rfl (Or.inr ⟨(fun q => c_2 q.2), rfl, rfl⟩)
    · refine X_iconst (v := 1) dX9_isSign_16 (by decide) ?_
      refine X_goto (tgt := 21) dX9_isSign_17 (by decide) ?_
      exact X_iret ex_nZ rfl dX9_isSign_21 rfl (Or.inl ⟨⟨c_1, c_2⟩, rfl, rfl⟩)

set_option maxHeartbeats 4000000 in
set_option maxRecDepth 100000 in
theorem e_X9_isWord (l : Launch) (t : Nat) (g : Nat) (L : Nat) (fa : Int32) (ki : Int32) (nu : Int32) (sg : Int32) (wo : Int64) (ne : Int32) (pl : Int32) (k0 : Nat) (z : Lit) (hz : lits[k0]? = some z) : ex_M l yX9_isWord cX9_isWord 5 (some .boolean) 4 85 [ex_r t, ex_r (10000 + k0)] [(t, ex_o 9 [ex_r g, ex_i (nI L), ex_i fa, ex_i ki, ex_i nu, ex_i sg, ex_j wo, ex_i ne, ex_i pl])] (fun cs r => ((ki = 1 ∧ wo = bw z) ∧ cs = [(t, ex_o 9 [ex_r g, ex_i (nI L), ex_i fa, ex_i ki, ex_i nu, ex_i sg, ex_j wo, ex_i ne, ex_i pl])] ∧ r = some (ex_i 1)) ∨ ((¬ (ki = 1 ∧ wo = bw z)) ∧ cs = [(t, ex_o 9 [ex_r g, ex_i (nI L), ex_i fa, ex_i ki, ex_i nu, ex_i sg, ex_j wo, ex_i ne, ex_i pl])] ∧ r = some (ex_i 0))) := by
  refine X_meth (by decide) (Nat.le_of_ble_eq_true rfl) ?_
  refine X_aload_n (j := 0) dX9_isWord_0 rfl rfl ?_
  refine X_get (j := 0) fo_X9_22 dX9_isWord_1 rfl rfl ?_
  refine X_iconst (v := 1) dX9_isWord_4 (by decide) ?_
  refine X_icmp_eq (tgt := 10) dX9_isWord_5 (by decide) (fun c_1 => ?_) (fun c_1 => ?_)
  · refine X_lconst (v := 0) dX9_isWord_10 (by decide) ?_
    refine X_lstore_n (lv' := [(2, ex_j 0), (0, ex_r t), (1, ex_r (10000 + k0))]) dX9_isWord_11 rfl (Nat.le_of_ble_eq_true rfl) rfl ?_
    refine X_iconst (v := 0) dX9_isWord_12 (by decide) ?_
    refine X_istore (lv' := [(4, ex_i 0), (2, ex_j 0), (0, ex_r t), (1, ex_r (10000 + k0))]) dX9_isWord_13 (Nat.le_of_ble_eq_true rfl) rfl ?_
    have hki : ki = 1 := c_1
    refine X_lv (lv' := [(0, ex_r t), (1, ex_r (10000 + k0)), (2, ex_j 0), (4, ex_i 0)]) [2, 3, 1, 0] rfl ?_
    refine X_ind (fun (k : Nat) => k ≤ z.2.2.2.length) (fun (k : Nat) => z.2.2.2.length - k) (fun (k : Nat) => [(t, ex_o 9 [ex_r g, ex_i (nI L), ex_i fa, ex_i ki, ex_i nu, ex_i sg, ex_j wo, ex_i ne, ex_i pl])]) (fun (k : Nat) => [(0, ex_r t), (1, ex_r (10000 + k0)), (2, ex_j (wl z.2.2.2 k)), (4, ex_i (nI k))]) (fun k hI ih => ?_) 0 (Nat.zero_le _)
    try dsimp only at hI ih ⊢
    refine X_iload (j := 3) dX9_isWord_15 rfl ?_
    refine X_aload_n (j := 1) dX9_isWord_17 rfl rfl ?_
    refine X_callT (k0 := k0) (rest := [(t, ex_o 9 [ex_r g, ex_i (nI L), ex_i fa, ex_i ki, ex_i nu, ex_i sg, ex_j wo, ex_i ne, ex_i pl])]) (stk := [ex_i (nI k)]) co_X9_74 rfl ⟨(Nat.le_of_ble_eq_true rfl), (Nat.le_of_ble_eq_true rfl)⟩ (e_J0_length_8abf5 l k0 z hz) dX9_isWord_18 [0] (show List.Perm [0] (List.range 1) from by decide) rfl rfl hz rfl rfl (Nat.le_of_ble_eq_true rfl) (fun cs1 r hq hk => ?_)
    rcases hq with ⟨rfl, rfl⟩
    refine X_icmp_ge (tgt := 41) dX9_isWord_21 (by decide) (fun c_2 => ?_) (fun c_2 => ?_)
    · have he : k = z.2.2.2.length := nlex (Nat.le_of_lt (lit_n hz)) hI c_2
      refine X_lload_n (j := 2) dX9_isWord_41 rfl rfl ?_
      refine X_aload_n (j := 0) dX9_isWord_42 rfl rfl ?_
      refine X_get (j := 0) fo_X9_32 dX9_isWord_43 rfl rfl ?_
      refine X_lcmp (v := (lg_cmp (wl z.2.2.2 k) wo)) dX9_isWord_46 rfl ?_
      refine X_if_ne (tgt := 54) dX9_isWord_47 (by decide) (fun c_3 => ?_) (fun c_3 => ?_)
      · refine X_iconst (v := 0) dX9_isWord_54 (by decide) ?_
        exact X_iret ex_nZ rfl dX9_isWord_55 rfl (Or.inr ⟨(fun q => c_3 (by rw [q.2, he]; exact ex_lc1 _)), rfl, rfl⟩)
      · refine X_iconst (v := 1) dX9_isWord_50 (by decide) ?_
        refine X_goto (tgt := 55) dX9_isWord_51 (by decide) ?_
        exact X_iret ex_nZ rfl dX9_isWord_55 rfl (Or.inl ⟨⟨hki, by rw [← ex_lc2 c_3, he]; rfl⟩, rfl, rfl⟩)
    · have hlt : k < z.2.2.2.length := nlen (Nat.le_of_lt (lit_n hz)) hI c_2
      refine X_lload_n (j := 2) dX9_isWord_24 rfl rfl ?_
      refine X_aload_n (j := 1) dX9_isWord_25 rfl rfl ?_
      refine X_iload (j := 3) dX9_isWord_26 rfl ?_
      refine X_callT (k0 := k0) (rest := [(t, ex_o 9 [ex_r g, ex_i (nI L), ex_i fa, ex_i ki, ex_i nu, ex_i sg, ex_j wo, ex_i ne, ex_i pl])]) (stk := [ex_j (wl z.2.2.2 k)]) co_X9_77 rfl ⟨(Nat.le_of_ble_eq_true rfl), (Nat.le_of_ble_eq_true rfl)⟩ (e_J0_charAt_5068e l k0 z k hz hlt) dX9_isWord_28 [0] (show List.Perm [0] (List.range 1) from by decide) rfl rfl hz rfl rfl (Nat.le_of_ble_eq_true rfl) (fun cs1 r hq hk => ?_)
      rcases hq with ⟨rfl, rfl⟩
      refine X_callS (rest := [(t, ex_o 9 [ex_r g, ex_i (nI L), ex_i fa, ex_i ki, ex_i nu, ex_i sg, ex_j wo, ex_i ne, ex_i pl])]) (stk := []) co_X9_68 rfl ⟨(Nat.le_of_ble_eq_true rfl), (Nat.le_of_ble_eq_true rfl)⟩ (e_X9_withLetter l (wl z.2.2.2 k) (z.2.2.2.getD k 0)) dX9_isWord_31 [0] (show List.Perm [0] (List.range 1) from by decide) rfl rfl rfl (Nat.le_of_ble_eq_true rfl) (fun cs1 r hq hk => ?_)
      rcases hq with ⟨rfl, rfl⟩
      refine X_lstore_n (lv' := [(2, ex_j ((wl z.2.2.2 k) * 32 + ((z.2.2.2.getD k 0) - 97 + 1).toInt64)), (0, ex_r t), (1, ex_r (10000 + k0)), (4, ex_i (nI k))]) dX9_isWord_34 rfl (Nat.le_of_ble_eq_true rfl) rfl ?_
      refine X_iinc (v := nI (k + 1)) (j := 3) (lv' := [(4, ex_i (nI (k + 1))), (2, ex_j ((wl z.2.2.2 k) * 32 + ((z.2.2.2.getD k 0) - 97 + 1).toInt64)), (0, ex_r t), (1, ex_r (10000 + k0))]) dX9_isWord_35 rfl (nI_1 k) (Nat.le_of_ble_eq_true rfl) rfl ?_
      refine X_goto (tgt := 15) dX9_isWord_38 (by decide) ?_
      refine X_lv (lv' := [(0, ex_r t), (1, ex_r (10000 + k0)), (2, ex_j ((wl z.2.2.2 k) * 32 + ((z.2.2.2.getD k 0) - 97 + 1).toInt64)), (4, ex_i (nI (k + 1)))]) [2, 3, 1, 0] rfl ?_
      exact ih (k + 1) hlt (by omega)
  · refine X_iconst (v := 0) dX9_isWord_8 (by decide) ?_
    exact X_iret ex_nZ rfl dX9_isWord_9 rfl (Or.inr ⟨(fun q => c_1 q.1), rfl, rfl⟩)


set_option maxHeartbeats 4000000 in
set_option maxRecDepth 100000 in
theorem e_X9_isName (l : Launch) (t : Nat) (g : Nat) (L : Nat) (fa : Int32) (ki : Int32) (nu : Int32) (sg : Int32) (wo : Int64) (ne : Int32) (pl : Int32) : ex_M l yX9_isName cX9_isName 5 (some .boolean) 4 85 [ex_r t] [(t, ex_o 9 [ex_r g, ex_i (nI L), ex_i fa, ex_i ki, ex_i nu, ex_i sg, ex_j wo, ex_i ne, ex_i pl])] (fun cs r => ((ki = 1 ∧ nmR rz.2.2.2 wo = true) ∧ cs = [(t, ex_o 9 [ex_r g, ex_i (nI L), ex_i fa, ex_i ki, ex_i nu, ex_i sg, ex_j wo, ex_i ne, ex_i pl])] ∧ r = some (ex_i 1)) ∨ ((¬ (ki = 1 ∧ nmR rz.2.2.2 wo = true)) ∧ cs = [(t, ex_o 9 [ex_r g, ex_i (nI L), ex_i fa, ex_i ki, ex_i nu, ex_i sg, ex_j wo, ex_i ne, ex_i pl])] ∧ r = some (ex_i 0))) := by
  refine X_meth (by decide) (Nat.le_of_ble_eq_true rfl) ?_
  refine X_aload_n (j := 0) dX9_isName_0 rfl rfl ?_
  refine X_get (j := 0) fo_X9_22 dX9_isName_1 rfl rfl ?_
  refine X_iconst (v := 1) dX9_isName_4 (by decide) ?_
  refine X_icmp_eq (tgt := 10) dX9_isName_5 (by decide) (fun c_1 => ?_) (fun c_1 => ?_)
  · refine X_lconst (v := 0) dX9_isName_10 (by decide) ?_
    refine X_lstore_n (lv' := [(1, ex_j 0), (0, ex_r t)]) dX9_isName_11 rfl (Nat.le_of_ble_eq_true rfl) rfl ?_
    refine X_iconst (v := 0) dX9_isName_12 (by decide) ?_
    refine X_istore_n (lv' := [(3, ex_i 0), (1, ex_j 0), (0, ex_r t)]) dX9_isName_13 rfl (Nat.le_of_ble_eq_true rfl) rfl ?_
    have hki : ki = 1 := c_1
    refine X_lv (lv' := [(0, ex_r t), (1, ex_j 0), (3, ex_i 0)]) [2, 1, 0] rfl ?_
    refine X_ind (fun (a : Nat × Int64) => a.1 ≤ rz.2.2.2.length ∧ nmR rz.2.2.2 wo = nmG rz.2.2.2 wo (rz.2.2.2.length - a.1) a.1 a.2) (fun (a : Nat × Int64) => rz.2.2.2.length - a.1) (fun (a : Nat × Int64) => [(t, ex_o 9 [ex_r g, ex_i (nI L), ex_i fa, ex_i ki, ex_i nu, ex_i sg, ex_j wo, ex_i ne, ex_i pl])]) (fun (a : Nat × Int64) => [(0, ex_r t), (1, ex_j a.2), (3, ex_i (nI a.1))]) (fun ⟨i, cd⟩ hI ih => ?_) (0, 0) (⟨Nat.zero_le _, rfl⟩)
    try dsimp only at hI ih ⊢
    refine X_iload_n (j := 2) dX9_isName_14 rfl rfl ?_
    refine X_lds (k := 30) (key := 10030) rfl rfl rfl rfl dX9_isName_15 ?_
    refine X_callT (k0 := 30) (rest := [(t, ex_o 9 [ex_r g, ex_i (nI L), ex_i fa, ex_i ki, ex_i nu, ex_i sg, ex_j wo, ex_i ne, ex_i pl])]) (stk := [ex_i (nI i)]) co_X9_74 rfl ⟨(Nat.le_of_ble_eq_true rfl), (Nat.le_of_ble_eq_true rfl)⟩ (e_J0_length_8abf5 l 30 rz rz_ok) dX9_isName_17 [0] (show List.Perm [0] (List.range 1) from by decide) rfl rfl rfl rfl rfl (Nat.le_of_ble_eq_true rfl) (fun cs1 r hq hk => ?_)
    rcases hq with ⟨rfl, rfl⟩
    refine X_icmp_ge (tgt := 67) dX9_isName_20 (by decide) (fun c_2 => ?_) (fun c_2 => ?_)
    · refine X_iconst (v := 1) dX9_isName_67 (by decide) ?_
      exact X_iret ex_nZ rfl dX9_isName_68 rfl (Or.inl ⟨⟨hki, by rw [hI.2, nlex (Nat.le_of_lt (lit_n rz_ok)) hI.1 c_2, Nat.sub_self]; rfl⟩, rfl, rfl⟩)
    · have hlt : i < rz.2.2.2.length := nlen (Nat.le_of_lt (lit_n rz_ok)) hI.1 c_2
      have hs : rz.2.2.2.length - i = (rz.2.2.2.length - (i + 1)) + 1 := by omega
      refine X_lds (k := 30) (key := 10030) rfl rfl rfl rfl dX9_isName_23 ?_
      refine X_iload_n (j := 2) dX9_isName_25 rfl rfl ?_
      refine X_callT (k0 := 30) (rest := [(t, ex_o 9 [ex_r g, ex_i (nI L), ex_i fa, ex_i ki, ex_i nu, ex_i sg, ex_j wo, ex_i ne, ex_i pl])]) (stk := []) co_X9_77 rfl ⟨(Nat.le_of_ble_eq_true rfl), (Nat.le_of_ble_eq_true rfl)⟩ (e_J0_charAt_5068e l 30 rz i rz_ok hlt) dX9_isName_26 [0] (show List.Perm [0] (List.range 1) from by decide) rfl rfl rfl rfl rfl (Nat.le_of_ble_eq_true rfl) (fun cs1 r hq hk => ?_)
      rcases hq with ⟨rfl, rfl⟩
      refine X_istore (lv' := [(4, ex_i (rz.2.2.2.getD i 0)), (0, ex_r t), (1, ex_j cd), (3, ex_i (nI i))]) dX9_isName_29 (Nat.le_of_ble_eq_true rfl) rfl ?_
      refine X_iload (j := 0) dX9_isName_31 rfl ?_
      refine X_bipush (v := 32) dX9_isName_33 (by decide) ?_
      refine X_icmp_eq (tgt := 48) dX9_isName_35 (by decide) (fun c_3 => ?_) (fun c_3 => ?_)
      · have hb32 := c_3
        refine X_lload_n (j := 2) dX9_isName_48 rfl rfl ?_
        refine X_aload_n (j := 1) dX9_isName_49 rfl rfl ?_
        refine X_get (j := 0) fo_X9_32 dX9_isName_50 rfl rfl ?_
        refine X_lcmp (v := (lg_cmp cd wo)) dX9_isName_53 rfl ?_
        refine X_if_ne (tgt := 59) dX9_isName_54 (by decide) (fun c_4 => ?_) (fun c_4 => ?_)
        · have hcw : ¬ cd = wo := fun q => c_4 (by rw [q]; exact ex_lc1 _)
          refine X_lconst (v := 0) dX9_isName_59 (by decide) ?_
          refine X_lstore_n (lv' := [(1, ex_j 0), (4, ex_i (rz.2.2.2.getD i 0)), (0, ex_r t), (3, ex_i (nI i))]) dX9_isName_60 rfl (Nat.le_of_ble_eq_true rfl) rfl ?_
          refine X_iinc (v := nI (i + 1)) (j := 3) (lv' := [(3, ex_i (nI (i + 1))), (1, ex_j 0), (4, ex_i (rz.2.2.2.getD i 0)), (0, ex_r t)]) dX9_isName_61 rfl (nI_1 i) (Nat.le_of_ble_eq_true rfl) rfl ?_
          refine X_goto (tgt := 14) dX9_isName_64 (by decide) ?_
          refine X_lv (lv' := [(0, ex_r t), (1, ex_j 0), (3, ex_i (nI (i + 1)))]) [3, 1, 0] rfl ?_
          exact ih (i + 1, 0) (⟨hlt, by rw [hI.2, hs, nmG_n hb32 hcw]⟩) (by omega)
        · refine X_iconst (v := 0) dX9_isName_57 (by decide) ?_
          exact X_iret ex_nZ rfl dX9_isName_58 rfl (Or.inr ⟨(fun q => absurd q.2 (by rw [hI.2, hs, nmG_y hb32 (ex_lc2 c_4)]; decide)), rfl, rfl⟩)
      · have hb32 := c_3
        refine X_lload_n (j := 2) dX9_isName_38 rfl rfl ?_
        refine X_iload (j := 0) dX9_isName_39 rfl ?_
        refine X_callS (rest := [(t, ex_o 9 [ex_r g, ex_i (nI L), ex_i fa, ex_i ki, ex_i nu, ex_i sg, ex_j wo, ex_i ne, ex_i pl])]) (stk := []) co_X9_68 rfl ⟨(Nat.le_of_ble_eq_true rfl), (Nat.le_of_ble_eq_true rfl)⟩ (e_X9_withLetter l cd (rz.2.2.2.getD i 0)) dX9_isName_41 [0] (show List.Perm [0] (List.range 1) from by decide) rfl rfl rfl (Nat.le_of_ble_eq_true rfl) (fun cs1 r hq hk => ?_)
        rcases hq with ⟨rfl, rfl⟩
        refine X_lstore_n (lv' := [(1, ex_j (cd * 32 + ((rz.2.2.2.getD i 0) - 97 + 1).toInt64)), (4, ex_i (rz.2.2.2.getD i 0)), (0, ex_r t), (3, ex_i (nI i))]) dX9_isName_44 rfl (Nat.le_of_ble_eq_true rfl) rfl ?_
        refine X_goto (tgt := 61) dX9_isName_45 (by decide) ?_
        refine X_iinc (v := nI (i + 1)) (j := 3) (lv' := [(3, ex_i (nI (i + 1))), (1, ex_j (cd * 32 + ((rz.2.2.2.getD i 0) - 97 + 1).toInt64)), (4, ex_i (rz.2.2.2.getD i 0)), (0, ex_r t)]) dX9_isName_61 rfl (nI_1 i) (Nat.le_of_ble_eq_true rfl) rfl ?_
        refine X_goto (tgt := 14) dX9_isName_64 (by decide) ?_
        refine X_lv (lv' := [(0, ex_r t), (1, ex_j (cd * 32 + ((rz.2.2.2.getD i 0) - 97 + 1).toInt64)), (3, ex_i (nI (i + 1)))]) [3, 1, 0] rfl ?_
        exact ih (i + 1, cd * 32 + ((rz.2.2.2.getD i 0) - 97 + 1).toInt64) (⟨hlt, by rw [hI.2, hs, nmG_l hb32]⟩) (by omega)
  · refine X_iconst (v := 0) dX9_isName_8 (by decide) ?_
    exact X_iret ex_nZ rfl dX9_isName_9 rfl (Or.inr ⟨(fun q => c_1 q.1), rfl, rfl⟩)

def sz9 : Lit := lits.getD 29 ("", 0, "", [])
theorem sz9_ok : lits[29]? = some sz9 := rfl
theorem sz9_b : sz9.2.2.2 = [40, 41, 60, 61, 43, 45, 42, 59] := rfl
theorem sz9_s (v : Int32) : (ioG sz9.2.2.2 v sz9.2.2.2.length 0 < 0 ∧ bSg v = false) ∨ (¬ ioG sz9.2.2.2 v sz9.2.2.2.length 0 < 0 ∧ bSg v = true) := io_sg v

set_option maxHeartbeats 4000000 in
set_option maxRecDepth 100000 in
theorem e_X9_takesToken (l : Launch) (t : Nat) (g : Nat) (L : Nat) (fa : Int32) (ki : Int32) (nu : Int32) (sg : Int32) (wo : Int64) (n : Nat) (pl : Int32) (f : Nat → Int32) (hL : L ≤ 1000) (hn : n ≤ L) (hf : ∀ j, 0 ≤ (f j).toInt ∧ (f j).toInt ≤ 127) : ex_M l yX9_takesToken cX9_takesToken 1 none 4 106 [ex_r t] [(t, ex_o 9 [ex_r g, ex_i (nI L), ex_i fa, ex_i ki, ex_i nu, ex_i sg, ex_j wo, ex_i (nI n), ex_i pl]), (g, ex_a 0 1000 f)] (fun cs r => (∃ (nu1 : Int32), ∃ (sg1 : Int32), ∃ (wo1 : Int64), (tK f L n = 1 → wo1 = tW f L n) ∧ (tK f L n = 2 → nu1 = tV f L n) ∧ (tK f L n = 3 → sg1 = f (tP f L n)) ∧ cs = [(t, ex_o 9 [ex_r g, ex_i (nI L), ex_i fa, ex_i (tK f L n), ex_i nu1, ex_i sg1, ex_j wo1, ex_i (nI (tN f L n)), ex_i (nI (tP f L n))]), (g, ex_a 0 1000 f)] ∧ r = none)) := by
  refine X_meth (by decide) (Nat.le_of_ble_eq_true rfl) ?_
  refine X_lv (lv' := [(0, ex_r t)]) [0] rfl ?_
  refine X_ind (fun (p : Nat) => p ≤ L ∧ tP f L n = sk bBl f L p) (fun (p : Nat) => L - p) (fun (p : Nat) => [(t, ex_o 9 [ex_r g, ex_i (nI L), ex_i fa, ex_i ki, ex_i nu, ex_i sg, ex_j wo, ex_i (nI p), ex_i pl]), (g, ex_a 0 1000 f)]) (fun (p : Nat) => [(0, ex_r t)]) (fun p hI ih => ?_) n (⟨hn, rfl⟩)
  try dsimp only at hI ih ⊢
  refine X_aload_n (j := 0) dX9_takesToken_0 rfl rfl ?_
  refine X_get (j := 0) fo_X9_36 dX9_takesToken_1 rfl rfl ?_
  refine X_aload_n (j := 0) dX9_takesToken_4 rfl rfl ?_
  refine X_get (j := 0) fo_X9_15 dX9_takesToken_5 rfl rfl ?_
  refine X_icmp_ge (tgt := 39) dX9_takesToken_8 (by decide) (fun c_1 => ?_) (fun c_1 => ?_)
  · have he : tP f L n = p := by rw [hI.2]; exact sk_stop (fun q => absurd q (by rw [nlex hL hI.1 c_1]; exact Nat.lt_irrefl _))
    refine X_aload_n (j := 0) dX9_takesToken_39 rfl rfl ?_
    refine X_aload_n (j := 0) dX9_takesToken_40 rfl rfl ?_
    refine X_get (j := 0) fo_X9_36 dX9_takesToken_41 rfl rfl ?_
    refine X_put (j := 0) (cs' := [(t, ex_o 9 [ex_r g, ex_i (nI L), ex_i fa, ex_i ki, ex_i nu, ex_i sg, ex_j wo, ex_i (nI p), ex_i (nI p)]), (g, ex_a 0 1000 f)]) fo_X9_39 (by decide) dX9_takesToken_44 rfl (Nat.le_of_ble_eq_true rfl) trivial rfl ?_
    refine X_aload_n (j := 0) dX9_takesToken_47 rfl rfl ?_
    refine X_get (j := 0) fo_X9_36 dX9_takesToken_48 rfl rfl ?_
    refine X_aload_n (j := 0) dX9_takesToken_51 rfl rfl ?_
    refine X_get (j := 0) fo_X9_15 dX9_takesToken_52 rfl rfl ?_
    refine X_icmp_lt (tgt := 66) dX9_takesToken_55 (by decide) (fun c_2 => ?_) (fun c_2 => ?_)
    · have hlt9 : tP f L n < L := by rw [he]; exact nltn hL hI.1 c_2
      refine X_aload_n (j := 0) dX9_takesToken_66 rfl rfl ?_
      refine X_get (j := 0) fo_X9_9 dX9_takesToken_67 rfl rfl ?_
      refine X_aload_n (j := 0) dX9_takesToken_70 rfl rfl ?_
      refine X_get (j := 0) fo_X9_36 dX9_takesToken_71 rfl rfl ?_
      refine X_bald (j := 1) (v := (f p)) dX9_takesToken_74 rfl (vp_in_nI (show p < 1000 by omega) (by decide)) (by rw [nI_clamp (by omega)]) ?_
      refine X_callS (rest := [(t, ex_o 9 [ex_r g, ex_i (nI L), ex_i fa, ex_i ki, ex_i nu, ex_i sg, ex_j wo, ex_i (nI p), ex_i (nI p)]), (g, ex_a 0 1000 f)]) (stk := []) co_X9_48 rfl ⟨(Nat.le_of_ble_eq_true rfl), (Nat.le_of_ble_eq_true rfl)⟩ (e_X9_isLetter l (f p)) dX9_takesToken_75 [0, 1] (show List.Perm [0, 1] (List.range 2) from by decide) rfl rfl rfl (Nat.le_of_ble_eq_true rfl) (fun cs1 r hq hk => ?_)
      rcases hq with ⟨hp_3, rfl, rfl⟩ | ⟨hp_4, rfl, rfl⟩
      · have hle := hp_3
        rw [← he] at hle
        refine X_if_eq (tgt := 88) dX9_takesToken_78 (by decide) (fun c_ => absurd c_ (by decide)) (fun _ => ?_)
        refine X_aload_n (j := 0) dX9_takesToken_81 rfl rfl ?_
        refine X_callV (j0 := 0) (rest := []) (stk := []) co_X9_51 rfl ⟨(Nat.le_of_ble_eq_true rfl), (Nat.le_of_ble_eq_true rfl)⟩ (e_X9_takesLetters l t g L p fa ki nu sg wo f hL hI.1) dX9_takesToken_82 [0, 1] (show List.Perm [0, 1] (List.range 2) from by decide) rfl rfl rfl rfl (Nat.le_of_ble_eq_true rfl) (fun cs1 r hq hk => ?_)
        rcases hq with ⟨hp_5, rfl, rfl⟩ | ⟨hp_6, rfl, rfl⟩
        · refine X_goto (tgt := 155) dX9_takesToken_85 (by decide) ?_
          have h8 := hp_5
          rw [← he] at h8
          have hk := tK_1 hlt9 hle h8
          have hN := tN_w hlt9 hle
          exact X_vret dX9_takesToken_155 rfl (⟨nu, sg, (w3 f p (sk bLe f L p - p)), (fun _ => by unfold tW; rw [hN, he]), (fun q => absurd (hk.symm.trans q) (by decide)), (fun q => absurd (hk.symm.trans q) (by decide)), (by rw [hN, hk, he]; try rfl), rfl⟩)
        · refine X_goto (tgt := 155) dX9_takesToken_85 (by decide) ?_
          have h8 := hp_6
          rw [← he] at h8
          have hk := tK_14 hlt9 hle h8
          have hN := tN_w hlt9 hle
          exact X_vret dX9_takesToken_155 rfl (⟨nu, sg, (w3 f p (sk bLe f L p - p)), (fun q => absurd (hk.symm.trans q) (by decide)), (fun q => absurd (hk.symm.trans q) (by decide)), (fun q => absurd (hk.symm.trans q) (by decide)), (by rw [hN, hk, he]; try rfl), rfl⟩)
      · have hle := hp_4
        rw [← he] at hle
        refine X_if_eq (tgt := 88) dX9_takesToken_78 (by decide) (fun _ => ?_) (fun c_ => absurd rfl c_)
        refine X_aload_n (j := 0) dX9_takesToken_88 rfl rfl ?_
        refine X_get (j := 0) fo_X9_9 dX9_takesToken_89 rfl rfl ?_
        refine X_aload_n (j := 0) dX9_takesToken_92 rfl rfl ?_
        refine X_get (j := 0) fo_X9_36 dX9_takesToken_93 rfl rfl ?_
        refine X_bald (j := 1) (v := (f p)) dX9_takesToken_96 rfl (vp_in_nI (show p < 1000 by omega) (by decide)) (by rw [nI_clamp (by omega)]) ?_
        refine X_callS (rest := [(t, ex_o 9 [ex_r g, ex_i (nI L), ex_i fa, ex_i ki, ex_i nu, ex_i sg, ex_j wo, ex_i (nI p), ex_i (nI p)]), (g, ex_a 0 1000 f)]) (stk := []) co_X9_54 rfl ⟨(Nat.le_of_ble_eq_true rfl), (Nat.le_of_ble_eq_true rfl)⟩ (e_X9_isDigit l (f p)) dX9_takesToken_97 [0, 1] (show List.Perm [0, 1] (List.range 2) from by decide) rfl rfl rfl (Nat.le_of_ble_eq_true rfl) (fun cs1 r hq hk => ?_)
        rcases hq with ⟨hp_7, rfl, rfl⟩ | ⟨hp_8, rfl, rfl⟩
        · have hdi := hp_7
          rw [← he] at hdi
          refine X_if_eq (tgt := 110) dX9_takesToken_100 (by decide) (fun c_ => absurd c_ (by decide)) (fun _ => ?_)
          refine X_aload_n (j := 0) dX9_takesToken_103 rfl rfl ?_
          refine X_callV (j0 := 0) (rest := []) (stk := []) co_X9_57 rfl ⟨(Nat.le_of_ble_eq_true rfl), (Nat.le_of_ble_eq_true rfl)⟩ (e_X9_takesDigits l t g L p fa ki nu sg wo f hL hI.1) dX9_takesToken_104 [0, 1] (show List.Perm [0, 1] (List.range 2) from by decide) rfl rfl rfl rfl (Nat.le_of_ble_eq_true rfl) (fun cs1 r hq hk => ?_)
          rcases hq with ⟨hp_9, rfl, rfl⟩ | ⟨hp_10, rfl, rfl⟩
          · refine X_goto (tgt := 155) dX9_takesToken_107 (by decide) ?_
            have h8 := hp_9
            rw [← he] at h8
            have hk := tK_2 hlt9 hle hdi h8
            have hN := tN_d hlt9 hle hdi
            exact X_vret dX9_takesToken_155 rfl (⟨(dg f p (sk bDi f L p - p)), sg, wo, (fun q => absurd (hk.symm.trans q) (by decide)), (fun _ => by unfold tV; rw [hN, he]), (fun q => absurd (hk.symm.trans q) (by decide)), (by rw [hN, hk, he]; try rfl), rfl⟩)
          · refine X_goto (tgt := 155) dX9_takesToken_107 (by decide) ?_
            have h8 := hp_10
            rw [← he] at h8
            have hk := tK_24 hlt9 hle hdi h8
            have hN := tN_d hlt9 hle hdi
            exact X_vret dX9_takesToken_155 rfl (⟨(dg f p (sk bDi f L p - p)), sg, wo, (fun q => absurd (hk.symm.trans q) (by decide)), (fun q => absurd (hk.symm.trans q) (by decide)), (fun q => absurd (hk.symm.trans q) (by decide)), (by rw [hN, hk, he]; try rfl), rfl⟩)
        · have hdi := hp_8
          rw [← he] at hdi
          refine X_if_eq (tgt := 110) dX9_takesToken_100 (by decide) (fun _ => ?_) (fun c_ => absurd rfl c_)
          refine X_aload_n (j := 0) dX9_takesToken_110 rfl rfl ?_
          refine X_aload_n (j := 0) dX9_takesToken_111 rfl rfl ?_
          refine X_get (j := 0) fo_X9_9 dX9_takesToken_112 rfl rfl ?_
          refine X_aload_n (j := 0) dX9_takesToken_115 rfl rfl ?_
          refine X_get (j := 0) fo_X9_36 dX9_takesToken_116 rfl rfl ?_
          refine X_bald (j := 1) (v := (f p)) dX9_takesToken_119 rfl (vp_in_nI (show p < 1000 by omega) (by decide)) (by rw [nI_clamp (by omega)]) ?_
          refine X_i2c (v := (f p)) dX9_takesToken_120 (i2c_id (hf p).1 (by have := (hf p).2; omega)) ?_
          refine X_put (j := 0) (cs' := [(t, ex_o 9 [ex_r g, ex_i (nI L), ex_i fa, ex_i ki, ex_i nu, ex_i (f p), ex_j wo, ex_i (nI p), ex_i (nI p)]), (g, ex_a 0 1000 f)]) fo_X9_28 (by decide) dX9_takesToken_121 rfl (Nat.le_of_ble_eq_true rfl) (show 0 ≤ (f p).toInt ∧ (f p).toInt ≤ 65535 from ⟨(hf p).1, by have := (hf p).2; omega⟩) rfl ?_
          refine X_aload_n (j := 0) dX9_takesToken_124 rfl rfl ?_
          refine X_lds (k := 29) (key := 10029) rfl rfl rfl rfl dX9_takesToken_125 ?_
          refine X_aload_n (j := 0) dX9_takesToken_127 rfl rfl ?_
          refine X_get (j := 0) fo_X9_28 dX9_takesToken_128 rfl rfl ?_
          refine X_callT (k0 := 29) (rest := [(t, ex_o 9 [ex_r g, ex_i (nI L), ex_i fa, ex_i ki, ex_i nu, ex_i (f p), ex_j wo, ex_i (nI p), ex_i (nI p)]), (g, ex_a 0 1000 f)]) (stk := [ex_r t]) co_X9_62 rfl ⟨(Nat.le_of_ble_eq_true rfl), (Nat.le_of_ble_eq_true rfl)⟩ (e_J0_indexOf_0f7a4 l 29 sz9 (f p) sz9_ok ((hf p).1) ((hf p).2) (by decide)) dX9_takesToken_131 [0, 1] (show List.Perm [0, 1] (List.range 2) from by decide) rfl rfl rfl rfl rfl (Nat.le_of_ble_eq_true rfl) (fun cs1 r hq hk => ?_)
          rcases hq with ⟨rfl, rfl⟩
          have hsg := sz9_s (f p)
          refine X_if_lt (tgt := 141) dX9_takesToken_134 (by decide) (fun c_11 => ?_) (fun c_11 => ?_)
          · refine X_iconst (v := 4) dX9_takesToken_141 (by decide) ?_
            refine X_put (j := 0) (cs' := [(t, ex_o 9 [ex_r g, ex_i (nI L), ex_i fa, ex_i 4, ex_i nu, ex_i (f p), ex_j wo, ex_i (nI p), ex_i (nI p)]), (g, ex_a 0 1000 f)]) fo_X9_22 (by decide) dX9_takesToken_142 rfl (Nat.le_of_ble_eq_true rfl) trivial rfl ?_
            refine X_aload_n (j := 0) dX9_takesToken_145 rfl rfl ?_
            refine X_dup dX9_takesToken_146 rfl ?_
            refine X_get (j := 0) fo_X9_36 dX9_takesToken_147 rfl rfl ?_
            refine X_iconst (v := 1) dX9_takesToken_150 (by decide) ?_
            refine X_iadd (v := (nI (p + 1))) dX9_takesToken_151 (nI_1 p) ?_
            refine X_put (j := 0) (cs' := [(t, ex_o 9 [ex_r g, ex_i (nI L), ex_i fa, ex_i 4, ex_i nu, ex_i (f p), ex_j wo, ex_i (nI (p + 1)), ex_i (nI p)]), (g, ex_a 0 1000 f)]) fo_X9_36 (by decide) dX9_takesToken_152 rfl (Nat.le_of_ble_eq_true rfl) trivial rfl ?_
            have hs : bSg (f (tP f L n)) = false := by rw [he]; exact hsg.elim (fun q => q.2) (fun q => absurd c_11 q.1)
            have hk := tK_34 hlt9 hle hdi hs
            have hN := tN_s hlt9 hle hdi
            exact X_vret dX9_takesToken_155 rfl (⟨nu, (f p), wo, (fun q => absurd (hk.symm.trans q) (by decide)), (fun q => absurd (hk.symm.trans q) (by decide)), (fun q => absurd (hk.symm.trans q) (by decide)), (by rw [hN, hk, he]; try rfl), rfl⟩)
          · refine X_iconst (v := 3) dX9_takesToken_137 (by decide) ?_
            refine X_goto (tgt := 142) dX9_takesToken_138 (by decide) ?_
            refine X_put (j := 0) (cs' := [(t, ex_o 9 [ex_r g, ex_i (nI L), ex_i fa, ex_i 3, ex_i nu, ex_i (f p), ex_j wo, ex_i (nI p), ex_i (nI p)]), (g, ex_a 0 1000 f)]) fo_X9_22 (by decide) dX9_takesToken_142 rfl (Nat.le_of_ble_eq_true rfl) trivial rfl ?_
            refine X_aload_n (j := 0) dX9_takesToken_145 rfl rfl ?_
            refine X_dup dX9_takesToken_146 rfl ?_
            refine X_get (j := 0) fo_X9_36 dX9_takesToken_147 rfl rfl ?_
            refine X_iconst (v := 1) dX9_takesToken_150 (by decide) ?_
            refine X_iadd (v := (nI (p + 1))) dX9_takesToken_151 (nI_1 p) ?_
            refine X_put (j := 0) (cs' := [(t, ex_o 9 [ex_r g, ex_i (nI L), ex_i fa, ex_i 3, ex_i nu, ex_i (f p), ex_j wo, ex_i (nI (p + 1)), ex_i (nI p)]), (g, ex_a 0 1000 f)]) fo_X9_36 (by decide) dX9_takesToken_152 rfl (Nat.le_of_ble_eq_true rfl) trivial rfl ?_
            have hs : bSg (f (tP f L n)) = true := by rw [he]; exact hsg.elim (fun q => absurd q.1 c_11) (fun q => q.2)
            have hk := tK_3 hlt9 hle hdi hs
            have hN := tN_s hlt9 hle hdi
            exact X_vret dX9_takesToken_155 rfl (⟨nu, (f p), wo, (fun q => absurd (hk.symm.trans q) (by decide)), (fun q => absurd (hk.symm.trans q) (by decide)), (fun _ => by rw [he]), (by rw [hN, hk, he]; try rfl), rfl⟩)
    · refine X_aload_n (j := 0) dX9_takesToken_58 rfl rfl ?_
      refine X_iconst (v := 0) dX9_takesToken_59 (by decide) ?_
      refine X_put (j := 0) (cs' := [(t, ex_o 9 [ex_r g, ex_i (nI L), ex_i fa, ex_i 0, ex_i nu, ex_i sg, ex_j wo, ex_i (nI p), ex_i (nI p)]), (g, ex_a 0 1000 f)]) fo_X9_22 (by decide) dX9_takesToken_60 rfl (Nat.le_of_ble_eq_true rfl) trivial rfl ?_
      refine X_goto (tgt := 155) dX9_takesToken_63 (by decide) ?_
      have hk := tK_0 (f := f) (L := L) (n := n) (by rw [he, nltx hL hI.1 c_2]; exact Nat.lt_irrefl _)
      exact X_vret dX9_takesToken_155 rfl (⟨nu, sg, wo, (fun q => absurd (hk.1.symm.trans q) (by decide)), (fun q => absurd (hk.1.symm.trans q) (by decide)), (fun q => absurd (hk.1.symm.trans q) (by decide)), (by rw [hk.2, hk.1, he]; try rfl), rfl⟩)
  · have hlt : p < L := nlen hL hI.1 c_1
    refine X_aload_n (j := 0) dX9_takesToken_11 rfl rfl ?_
    refine X_get (j := 0) fo_X9_9 dX9_takesToken_12 rfl rfl ?_
    refine X_aload_n (j := 0) dX9_takesToken_15 rfl rfl ?_
    refine X_get (j := 0) fo_X9_36 dX9_takesToken_16 rfl rfl ?_
    refine X_bald (j := 1) (v := (f p)) dX9_takesToken_19 rfl (vp_in_nI (show p < 1000 by omega) (by decide)) (by rw [nI_clamp (by omega)]) ?_
    refine X_callS (rest := [(t, ex_o 9 [ex_r g, ex_i (nI L), ex_i fa, ex_i ki, ex_i nu, ex_i sg, ex_j wo, ex_i (nI p), ex_i pl]), (g, ex_a 0 1000 f)]) (stk := []) co_X9_44 rfl ⟨(Nat.le_of_ble_eq_true rfl), (Nat.le_of_ble_eq_true rfl)⟩ (e_X9_isBlank l (f p)) dX9_takesToken_20 [0, 1] (show List.Perm [0, 1] (List.range 2) from by decide) rfl rfl rfl (Nat.le_of_ble_eq_true rfl) (fun cs1 r hq hk => ?_)
    rcases hq with ⟨hp_12, rfl, rfl⟩ | ⟨hp_13, rfl, rfl⟩
    · have hb := hp_12
      refine X_if_eq (tgt := 39) dX9_takesToken_23 (by decide) (fun c_ => absurd c_ (by decide)) (fun _ => ?_)
      refine X_aload_n (j := 0) dX9_takesToken_26 rfl rfl ?_
      refine X_dup dX9_takesToken_27 rfl ?_
      refine X_get (j := 0) fo_X9_36 dX9_takesToken_28 rfl rfl ?_
      refine X_iconst (v := 1) dX9_takesToken_31 (by decide) ?_
      refine X_iadd (v := (nI (p + 1))) dX9_takesToken_32 (nI_1 p) ?_
      refine X_put (j := 0) (cs' := [(t, ex_o 9 [ex_r g, ex_i (nI L), ex_i fa, ex_i ki, ex_i nu, ex_i sg, ex_j wo, ex_i (nI (p + 1)), ex_i pl]), (g, ex_a 0 1000 f)]) fo_X9_36 (by decide) dX9_takesToken_33 rfl (Nat.le_of_ble_eq_true rfl) trivial rfl ?_
      refine X_goto (tgt := 0) dX9_takesToken_36 (by decide) ?_
      refine X_lv (lv' := [(0, ex_r t)]) [0] rfl ?_
      exact ih (p + 1) (⟨hlt, by rw [hI.2, sk_go hlt hb]⟩) (by omega)
    · have hb := hp_13
      refine X_if_eq (tgt := 39) dX9_takesToken_23 (by decide) (fun _ => ?_) (fun c_ => absurd rfl c_)
      have he : tP f L n = p := by rw [hI.2]; exact sk_stop (fun _ => hb)
      refine X_aload_n (j := 0) dX9_takesToken_39 rfl rfl ?_
      refine X_aload_n (j := 0) dX9_takesToken_40 rfl rfl ?_
      refine X_get (j := 0) fo_X9_36 dX9_takesToken_41 rfl rfl ?_
      refine X_put (j := 0) (cs' := [(t, ex_o 9 [ex_r g, ex_i (nI L), ex_i fa, ex_i ki, ex_i nu, ex_i sg, ex_j wo, ex_i (nI p), ex_i (nI p)]), (g, ex_a 0 1000 f)]) fo_X9_39 (by decide) dX9_takesToken_44 rfl (Nat.le_of_ble_eq_true rfl) trivial rfl ?_
      refine X_aload_n (j := 0) dX9_takesToken_47 rfl rfl ?_
      refine X_get (j := 0) fo_X9_36 dX9_takesToken_48 rfl rfl ?_
      refine X_aload_n (j := 0) dX9_takesToken_51 rfl rfl ?_
      refine X_get (j := 0) fo_X9_15 dX9_takesToken_52 rfl rfl ?_
      refine X_icmp_lt (tgt := 66) dX9_takesToken_55 (by decide) (fun c_14 => ?_) (fun c_14 => ?_)
      · have hlt9 : tP f L n < L := by rw [he]; exact nltn hL hI.1 c_14
        refine X_aload_n (j := 0) dX9_takesToken_66 rfl rfl ?_
        refine X_get (j := 0) fo_X9_9 dX9_takesToken_67 rfl rfl ?_
        refine X_aload_n (j := 0) dX9_takesToken_70 rfl rfl ?_
        refine X_get (j := 0) fo_X9_36 dX9_takesToken_71 rfl rfl ?_
        refine X_bald (j := 1) (v := (f p)) dX9_takesToken_74 rfl (vp_in_nI (show p < 1000 by omega) (by decide)) (by rw [nI_clamp (by omega)]) ?_
        refine X_callS (rest := [(t, ex_o 9 [ex_r g, ex_i (nI L), ex_i fa, ex_i ki, ex_i nu, ex_i sg, ex_j wo, ex_i (nI p), ex_i (nI p)]), (g, ex_a 0 1000 f)]) (stk := []) co_X9_48 rfl ⟨(Nat.le_of_ble_eq_true rfl), (Nat.le_of_ble_eq_true rfl)⟩ (e_X9_isLetter l (f p)) dX9_takesToken_75 [0, 1] (show List.Perm [0, 1] (List.range 2) from by decide) rfl rfl rfl (Nat.le_of_ble_eq_true rfl) (fun cs1 r hq hk => ?_)
        rcases hq with ⟨hp_15, rfl, rfl⟩ | ⟨hp_16, rfl, rfl⟩
        · have hle := hp_15
          rw [← he] at hle
          refine X_if_eq (tgt := 88) dX9_takesToken_78 (by decide) (fun c_ => absurd c_ (by decide)) (fun _ => ?_)
          refine X_aload_n (j := 0) dX9_takesToken_81 rfl rfl ?_
          refine X_callV (j0 := 0) (rest := []) (stk := []) co_X9_51 rfl ⟨(Nat.le_of_ble_eq_true rfl), (Nat.le_of_ble_eq_true rfl)⟩ (e_X9_takesLetters l t g L p fa ki nu sg wo f hL hI.1) dX9_takesToken_82 [0, 1] (show List.Perm [0, 1] (List.range 2) from by decide) rfl rfl rfl rfl (Nat.le_of_ble_eq_true rfl) (fun cs1 r hq hk => ?_)
          rcases hq with ⟨hp_17, rfl, rfl⟩ | ⟨hp_18, rfl, rfl⟩
          · refine X_goto (tgt := 155) dX9_takesToken_85 (by decide) ?_
            have h8 := hp_17
            rw [← he] at h8
            have hk := tK_1 hlt9 hle h8
            have hN := tN_w hlt9 hle
            exact X_vret dX9_takesToken_155 rfl (⟨nu, sg, (w3 f p (sk bLe f L p - p)), (fun _ => by unfold tW; rw [hN, he]), (fun q => absurd (hk.symm.trans q) (by decide)), (fun q => absurd (hk.symm.trans q) (by decide)), (by rw [hN, hk, he]; try rfl), rfl⟩)
          · refine X_goto (tgt := 155) dX9_takesToken_85 (by decide) ?_
            have h8 := hp_18
            rw [← he] at h8
            have hk := tK_14 hlt9 hle h8
            have hN := tN_w hlt9 hle
            exact X_vret dX9_takesToken_155 rfl (⟨nu, sg, (w3 f p (sk bLe f L p - p)), (fun q => absurd (hk.symm.trans q) (by decide)), (fun q => absurd (hk.symm.trans q) (by decide)), (fun q => absurd (hk.symm.trans q) (by decide)), (by rw [hN, hk, he]; try rfl), rfl⟩)
        · have hle := hp_16
          rw [← he] at hle
          refine X_if_eq (tgt := 88) dX9_takesToken_78 (by decide) (fun _ => ?_) (fun c_ => absurd rfl c_)
          refine X_aload_n (j := 0) dX9_takesToken_88 rfl rfl ?_
          refine X_get (j := 0) fo_X9_9 dX9_takesToken_89 rfl rfl ?_
          refine X_aload_n (j := 0) dX9_takesToken_92 rfl rfl ?_
          refine X_get (j := 0) fo_X9_36 dX9_takesToken_93 rfl rfl ?_
          refine X_bald (j := 1) (v := (f p)) dX9_takesToken_96 rfl (vp_in_nI (show p < 1000 by omega) (by decide)) (by rw [nI_clamp (by omega)]) ?_
          refine X_callS (rest := [(t, ex_o 9 [ex_r g, ex_i (nI L), ex_i fa, ex_i ki, ex_i nu, ex_i sg, ex_j wo, ex_i (nI p), ex_i (nI p)]), (g, ex_a 0 1000 f)]) (stk := []) co_X9_54 rfl ⟨(Nat.le_of_ble_eq_true rfl), (Nat.le_of_ble_eq_true rfl)⟩ (e_X9_isDigit l (f p)) dX9_takesToken_97 [0, 1] (show List.Perm [0, 1] (List.range 2) from by decide) rfl rfl rfl (Nat.le_of_ble_eq_true rfl) (fun cs1 r hq hk => ?_)
          rcases hq with ⟨hp_19, rfl, rfl⟩ | ⟨hp_20, rfl, rfl⟩
          · have hdi := hp_19
            rw [← he] at hdi
            refine X_if_eq (tgt := 110) dX9_takesToken_100 (by decide) (fun c_ => absurd c_ (by decide)) (fun _ => ?_)
            refine X_aload_n (j := 0) dX9_takesToken_103 rfl rfl ?_
            refine X_callV (j0 := 0) (rest := []) (stk := []) co_X9_57 rfl ⟨(Nat.le_of_ble_eq_true rfl), (Nat.le_of_ble_eq_true rfl)⟩ (e_X9_takesDigits l t g L p fa ki nu sg wo f hL hI.1) dX9_takesToken_104 [0, 1] (show List.Perm [0, 1] (List.range 2) from by decide) rfl rfl rfl rfl (Nat.le_of_ble_eq_true rfl) (fun cs1 r hq hk => ?_)
            rcases hq with ⟨hp_21, rfl, rfl⟩ | ⟨hp_22, rfl, rfl⟩
            · refine X_goto (tgt := 155) dX9_takesToken_107 (by decide) ?_
              have h8 := hp_21
              rw [← he] at h8
              have hk := tK_2 hlt9 hle hdi h8
              have hN := tN_d hlt9 hle hdi
              exact X_vret dX9_takesToken_155 rfl (⟨(dg f p (sk bDi f L p - p)), sg, wo, (fun q => absurd (hk.symm.trans q) (by decide)), (fun _ => by unfold tV; rw [hN, he]), (fun q => absurd (hk.symm.trans q) (by decide)), (by rw [hN, hk, he]; try rfl), rfl⟩)
            · refine X_goto (tgt := 155) dX9_takesToken_107 (by decide) ?_
              have h8 := hp_22
              rw [← he] at h8
              have hk := tK_24 hlt9 hle hdi h8
              have hN := tN_d hlt9 hle hdi
              exact X_vret dX9_takesToken_155 rfl (⟨(dg f p (sk bDi f L p - p)), sg, wo, (fun q => absurd (hk.symm.trans q) (by decide)), (fun q => absurd (hk.symm.trans q) (by decide)), (fun q => absurd (hk.symm.trans q) (by decide)), (by rw [hN, hk, he]; try rfl), rfl⟩)
          · have hdi := hp_20
            rw [← he] at hdi
            refine X_if_eq (tgt := 110) dX9_takesToken_100 (by decide) (fun _ => ?_) (fun c_ => absurd rfl c_)
            refine X_aload_n (j := 0) dX9_takesToken_110 rfl rfl ?_
            refine X_aload_n (j := 0) dX9_takesToken_111 rfl rfl ?_
            refine X_get (j := 0) fo_X9_9 dX9_takesToken_112 rfl rfl ?_
            refine X_aload_n (j := 0) dX9_takesToken_115 rfl rfl ?_
            refine X_get (j := 0) fo_X9_36 dX9_takesToken_116 rfl rfl ?_
            refine X_bald (j := 1) (v := (f p)) dX9_takesToken_119 rfl (vp_in_nI (show p < 1000 by omega) (by decide)) (by rw [nI_clamp (by omega)]) ?_
            refine X_i2c (v := (f p)) dX9_takesToken_120 (i2c_id (hf p).1 (by have := (hf p).2; omega)) ?_
            refine X_put (j := 0) (cs' := [(t, ex_o 9 [ex_r g, ex_i (nI L), ex_i fa, ex_i ki, ex_i nu, ex_i (f p), ex_j wo, ex_i (nI p), ex_i (nI p)]), (g, ex_a 0 1000 f)]) fo_X9_28 (by decide) dX9_takesToken_121 rfl (Nat.le_of_ble_eq_true rfl) (show 0 ≤ (f p).toInt ∧ (f p).toInt ≤ 65535 from ⟨(hf p).1, by have := (hf p).2; omega⟩) rfl ?_
            refine X_aload_n (j := 0) dX9_takesToken_124 rfl rfl ?_
            refine X_lds (k := 29) (key := 10029) rfl rfl rfl rfl dX9_takesToken_125 ?_
            refine X_aload_n (j := 0) dX9_takesToken_127 rfl rfl ?_
            refine X_get (j := 0) fo_X9_28 dX9_takesToken_128 rfl rfl ?_
            refine X_callT (k0 := 29) (rest := [(t, ex_o 9 [ex_r g, ex_i (nI L), ex_i fa, ex_i ki, ex_i nu, ex_i (f p), ex_j wo, ex_i (nI p), ex_i (nI p)]), (g, ex_a 0 1000 f)]) (stk := [ex_r t]) co_X9_62 rfl ⟨(Nat.le_of_ble_eq_true rfl), (Nat.le_of_ble_eq_true rfl)⟩ (e_J0_indexOf_0f7a4 l 29 sz9 (f p) sz9_ok ((hf p).1) ((hf p).2) (by decide)) dX9_takesToken_131 [0, 1] (show List.Perm [0, 1] (List.range 2) from by decide) rfl rfl rfl rfl rfl (Nat.le_of_ble_eq_true rfl) (fun cs1 r hq hk => ?_)
            rcases hq with ⟨rfl, rfl⟩
            have hsg := sz9_s (f p)
            refine X_if_lt (tgt := 141) dX9_takesToken_134 (by decide) (fun c_23 => ?_) (fun c_23 => ?_)
            · refine X_iconst (v := 4) dX9_takesToken_141 (by decide) ?_
              refine X_put (j := 0) (cs' := [(t, ex_o 9 [ex_r g, ex_i (nI L), ex_i fa, ex_i 4, ex_i nu, ex_i (f p), ex_j wo, ex_i (nI p), ex_i (nI p)]), (g, ex_a 0 1000 f)]) fo_X9_22 (by decide) dX9_takesToken_142 rfl (Nat.le_of_ble_eq_true rfl) trivial rfl ?_
              refine X_aload_n (j := 0) dX9_takesToken_145 rfl rfl ?_
              refine X_dup dX9_takesToken_146 rfl ?_
              refine X_get (j := 0) fo_X9_36 dX9_takesToken_147 rfl rfl ?_
              refine X_iconst (v := 1) dX9_takesToken_150 (by decide) ?_
              refine X_iadd (v := (nI (p + 1))) dX9_takesToken_151 (nI_1 p) ?_
              refine X_put (j := 0) (cs' := [(t, ex_o 9 [ex_r g, ex_i (nI L), ex_i fa, ex_i 4, ex_i nu, ex_i (f p), ex_j wo, ex_i (nI (p + 1)), ex_i (nI p)]), (g, ex_a 0 1000 f)]) fo_X9_36 (by decide) dX9_takesToken_152 rfl (Nat.le_of_ble_eq_true rfl) trivial rfl ?_
              have hs : bSg (f (tP f L n)) = false := by rw [he]; exact hsg.elim (fun q => q.2) (fun q => absurd c_23 q.1)
              have hk := tK_34 hlt9 hle hdi hs
              have hN := tN_s hlt9 hle hdi
              exact X_vret dX9_takesToken_155 rfl (⟨nu, (f p), wo, (fun q => absurd (hk.symm.trans q) (by decide)), (fun q => absurd (hk.symm.trans q) (by decide)), (fun q => absurd (hk.symm.trans q) (by decide)), (by rw [hN, hk, he]; try rfl), rfl⟩)
            · refine X_iconst (v := 3) dX9_takesToken_137 (by decide) ?_
              refine X_goto (tgt := 142) dX9_takesToken_138 (by decide) ?_
              refine X_put (j := 0) (cs' := [(t, ex_o 9 [ex_r g, ex_i (nI L), ex_i fa, ex_i 3, ex_i nu, ex_i (f p), ex_j wo, ex_i (nI p), ex_i (nI p)]), (g, ex_a 0 1000 f)]) fo_X9_22 (by decide) dX9_takesToken_142 rfl (Nat.le_of_ble_eq_true rfl) trivial rfl ?_
              refine X_aload_n (j := 0) dX9_takesToken_145 rfl rfl ?_
              refine X_dup dX9_takesToken_146 rfl ?_
              refine X_get (j := 0) fo_X9_36 dX9_takesToken_147 rfl rfl ?_
              refine X_iconst (v := 1) dX9_takesToken_150 (by decide) ?_
              refine X_iadd (v := (nI (p + 1))) dX9_takesToken_151 (nI_1 p) ?_
              refine X_put (j := 0) (cs' := [(t, ex_o 9 [ex_r g, ex_i (nI L), ex_i fa, ex_i 3, ex_i nu, ex_i (f p), ex_j wo, ex_i (nI (p + 1)), ex_i (nI p)]), (g, ex_a 0 1000 f)]) fo_X9_36 (by decide) dX9_takesToken_152 rfl (Nat.le_of_ble_eq_true rfl) trivial rfl ?_
              have hs : bSg (f (tP f L n)) = true := by rw [he]; exact hsg.elim (fun q => absurd q.1 c_23) (fun q => q.2)
              have hk := tK_3 hlt9 hle hdi hs
              have hN := tN_s hlt9 hle hdi
              exact X_vret dX9_takesToken_155 rfl (⟨nu, (f p), wo, (fun q => absurd (hk.symm.trans q) (by decide)), (fun q => absurd (hk.symm.trans q) (by decide)), (fun _ => by rw [he]), (by rw [hN, hk, he]; try rfl), rfl⟩)
      · refine X_aload_n (j := 0) dX9_takesToken_58 rfl rfl ?_
        refine X_iconst (v := 0) dX9_takesToken_59 (by decide) ?_
        refine X_put (j := 0) (cs' := [(t, ex_o 9 [ex_r g, ex_i (nI L), ex_i fa, ex_i 0, ex_i nu, ex_i sg, ex_j wo, ex_i (nI p), ex_i (nI p)]), (g, ex_a 0 1000 f)]) fo_X9_22 (by decide) dX9_takesToken_60 rfl (Nat.le_of_ble_eq_true rfl) trivial rfl ?_
        refine X_goto (tgt := 155) dX9_takesToken_63 (by decide) ?_
        have hk := tK_0 (f := f) (L := L) (n := n) (by rw [he, nltx hL hI.1 c_14]; exact Nat.lt_irrefl _)
        exact X_vret dX9_takesToken_155 rfl (⟨nu, sg, wo, (fun q => absurd (hk.1.symm.trans q) (by decide)), (fun q => absurd (hk.1.symm.trans q) (by decide)), (fun q => absurd (hk.1.symm.trans q) (by decide)), (by rw [hk.2, hk.1, he]; try rfl), rfl⟩)
