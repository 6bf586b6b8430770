set_option maxHeartbeats 4000000 in
set_option maxRecDepth 100000 in
theorem e_X9_takesWord (l : Launch) (t : Nat) (g : Nat) (L : Nat) (fa : Int32) (ki : Int32) (nu : Int32) (sg : Int32) (wo : Int64) (n : Nat) (pl : Int32) (f : Nat → Int32) (k0 : Nat) (z : Lit) (hL : L ≤ 1000) (hn : n ≤ L) (hf : ∀ j, 0 ≤ (f j).toInt ∧ (f j).toInt ≤ 127) (hz : lits[k0]? = some z) : ex_M l yX9_takesWord cX9_takesWord 2 (some .boolean) 5 126 [ex_r t, ex_r (10000 + k0)] [(t, ex_o 9 [ex_r g, ex_i (nI L), ex_i fa, ex_i ki, ex_i nu, ex_i sg, ex_j wo, ex_i (nI n), ex_i pl]), (g, ex_a 0 1000 f)] (fun cs r => (∃ (ki2 : Int32), ∃ (nu2 : Int32), ∃ (sg2 : Int32), ∃ (wo2 : Int64), ∃ (pl2 : Int32), ∃ (n2 : Nat), sWord f L (bw z) n = .inr n2 ∧ n2 ≤ L ∧ cs = [(t, ex_o 9 [ex_r g, ex_i (nI L), ex_i fa, ex_i ki2, ex_i nu2, ex_i sg2, ex_j wo2, ex_i (nI n2), ex_i pl2]), (g, ex_a 0 1000 f)] ∧ r = some (ex_i 1)) ∨ (∃ (fa2 : Int32), ∃ (ki2 : Int32), ∃ (nu2 : Int32), ∃ (sg2 : Int32), ∃ (wo2 : Int64), ∃ (ne2 : Int32), ∃ (pl2 : Int32), sWord f L (bw z) n = .inl fa2 ∧ cs = [(t, ex_o 9 [ex_r g, ex_i (nI L), ex_i fa2, ex_i ki2, ex_i nu2, ex_i sg2, ex_j wo2, ex_i ne2, ex_i pl2]), (g, ex_a 0 1000 f)] ∧ r = some (ex_i 0))) := by
  refine X_meth (by decide) (Nat.le_of_ble_eq_true rfl) ?_
  refine X_aload_n (j := 0) dX9_takesWord_0 rfl rfl ?_
  refine X_callV (j0 := 0) (rest := []) (stk := []) co_X9_83 rfl ⟨(Nat.le_of_ble_eq_true rfl), (Nat.le_of_ble_eq_true rfl)⟩ (e_X9_takesToken l t g L fa ki nu sg wo n pl f hL hn hf) dX9_takesWord_1 [0, 1] (show List.Perm [0, 1] (List.range 2) from by decide) rfl rfl rfl rfl (Nat.le_of_ble_eq_true rfl) (fun cs1 r hq hk => ?_)
  rcases hq with ⟨nu1_1, sg1_2, wo1_3, hp_4, hp_5, hp_6, rfl, rfl⟩
  refine X_aload_n (j := 0) dX9_takesWord_4 rfl rfl ?_
  refine X_aload_n (j := 1) dX9_takesWord_5 rfl rfl ?_
  refine X_callV (j0 := 0) (rest := [(g, ex_a 0 1000 f)]) (stk := []) co_X9_86 rfl ⟨(Nat.le_of_ble_eq_true rfl), (Nat.le_of_ble_eq_true rfl)⟩ (e_X9_isWord l t g L fa (tK f L n) nu1_1 sg1_2 wo1_3 (nI (tN f L n)) (nI (tP f L n)) k0 z hz) dX9_takesWord_6 [0, 1] (show List.Perm [0, 1] (List.range 2) from by decide) rfl rfl rfl rfl (Nat.le_of_ble_eq_true rfl) (fun cs1 r hq hk => ?_)
  rcases hq with ⟨hp_7, rfl, rfl⟩ | ⟨hp_8, rfl, rfl⟩
  · refine X_if_ne (tgt := 20) dX9_takesWord_9 (by decide) (fun _ => ?_) (fun c_ => absurd c_ (by decide))
    refine X_iconst (v := 1) dX9_takesWord_20 (by decide) ?_
    refine X_goto (tgt := 25) dX9_takesWord_21 (by decide) ?_
    exact X_iret ex_nZ rfl dX9_takesWord_25 rfl (Or.inl ⟨(tK f L n), nu1_1, sg1_2, wo1_3, (nI (tP f L n)), (tN f L n), (by unfold sWord; rw [if_pos ⟨hp_7.1, by rw [← hp_4 hp_7.1]; exact hp_7.2⟩]), (tN_le hn), rfl, rfl⟩)
  · refine X_if_ne (tgt := 20) dX9_takesWord_9 (by decide) (fun c_ => absurd rfl c_) (fun _ => ?_)
    refine X_aload_n (j := 0) dX9_takesWord_12 rfl rfl ?_
    refine X_iconst (v := 1) dX9_takesWord_13 (by decide) ?_
    refine X_callV (j0 := 0) (rest := [(g, ex_a 0 1000 f)]) (stk := []) co_X9_90 rfl ⟨(Nat.le_of_ble_eq_true rfl), (Nat.le_of_ble_eq_true rfl)⟩ (e_X9_wrong l t g L fa (tK f L n) nu1_1 sg1_2 wo1_3 (nI (tN f L n)) (nI (tP f L n)) 1) dX9_takesWord_14 [0, 1] (show List.Perm [0, 1] (List.range 2) from by decide) rfl rfl rfl rfl (Nat.le_of_ble_eq_true rfl) (fun cs1 r hq hk => ?_)
    rcases hq with ⟨rfl, rfl⟩
    refine X_if_eq (tgt := 24) dX9_takesWord_17 (by decide) (fun _ => ?_) (fun c_ => absurd rfl c_)
    refine X_iconst (v := 0) dX9_takesWord_24 (by decide) ?_
    exact X_iret ex_nZ rfl dX9_takesWord_25 rfl (Or.inr ⟨(1 + 16 * (nI (tP f L n))), (tK f L n), nu1_1, sg1_2, wo1_3, (nI (tN f L n)), (nI (tP f L n)), (by unfold sWord; rw [if_neg (fun q => hp_8 ⟨q.1, by rw [hp_4 q.1]; exact q.2⟩)]; rfl), rfl, rfl⟩)

set_option maxHeartbeats 4000000 in
set_option maxRecDepth 100000 in
theorem e_X9_takesEnd (l : Launch) (t : Nat) (g : Nat) (L : Nat) (fa : Int32) (ki : Int32) (nu : Int32) (sg : Int32) (wo : Int64) (n : Nat) (pl : Int32) (f : Nat → Int32) (hL : L ≤ 1000) (hn : n ≤ L) (hf : ∀ j, 0 ≤ (f j).toInt ∧ (f j).toInt ≤ 127) : ex_M l yX9_takesEnd cX9_takesEnd 1 (some .boolean) 5 126 [ex_r t] [(t, ex_o 9 [ex_r g, ex_i (nI L), ex_i fa, ex_i ki, ex_i nu, ex_i sg, ex_j wo, ex_i (nI n), ex_i pl]), (g, ex_a 0 1000 f)] (fun cs r => (∃ (ki2 : Int32), ∃ (nu2 : Int32), ∃ (sg2 : Int32), ∃ (wo2 : Int64), ∃ (pl2 : Int32), ∃ (n2 : Nat), sEnd f L n = .inr n2 ∧ n2 ≤ L ∧ cs = [(t, ex_o 9 [ex_r g, ex_i (nI L), ex_i fa, ex_i ki2, ex_i nu2, ex_i sg2, ex_j wo2, ex_i (nI n2), ex_i pl2]), (g, ex_a 0 1000 f)] ∧ r = some (ex_i 1)) ∨ (∃ (fa2 : Int32), ∃ (ki2 : Int32), ∃ (nu2 : Int32), ∃ (sg2 : Int32), ∃ (wo2 : Int64), ∃ (ne2 : Int32), ∃ (pl2 : Int32), sEnd f L n = .inl fa2 ∧ cs = [(t, ex_o 9 [ex_r g, ex_i (nI L), ex_i fa2, ex_i ki2, ex_i nu2, ex_i sg2, ex_j wo2, ex_i ne2, ex_i pl2]), (g, ex_a 0 1000 f)] ∧ r = some (ex_i 0))) := by
  refine X_meth (by decide) (Nat.le_of_ble_eq_true rfl) ?_
  refine X_aload_n (j := 0) dX9_takesEnd_0 rfl rfl ?_
  refine X_callV (j0 := 0) (rest := []) (stk := []) co_X9_83 rfl ⟨(Nat.le_of_ble_eq_true rfl), (Nat.le_of_ble_eq_true rfl)⟩ (e_X9_takesToken l t g L fa ki nu sg wo n pl f hL hn hf) dX9_takesEnd_1 [0, 1] (show List.Perm [0, 1] (List.range 2) from by decide) rfl rfl rfl rfl (Nat.le_of_ble_eq_true rfl) (fun cs1 r hq hk => ?_)
  rcases hq with ⟨nu1_1, sg1_2, wo1_3, hp_4, hp_5, hp_6, rfl, rfl⟩
  refine X_aload_n (j := 0) dX9_takesEnd_4 rfl rfl ?_
  refine X_bipush (v := 59) dX9_takesEnd_5 (by decide) ?_
  refine X_callV (j0 := 0) (rest := [(g, ex_a 0 1000 f)]) (stk := []) co_X9_93 rfl ⟨(Nat.le_of_ble_eq_true rfl), (Nat.le_of_ble_eq_true rfl)⟩ (e_X9_isSign l t g L fa (tK f L n) nu1_1 sg1_2 wo1_3 (nI (tN f L n)) (nI (tP f L n)) 59) dX9_takesEnd_7 [0, 1] (show List.Perm [0, 1] (List.range 2) from by decide) rfl rfl rfl rfl (Nat.le_of_ble_eq_true rfl) (fun cs1 r hq hk => ?_)
  rcases hq with ⟨hp_7, rfl, rfl⟩ | ⟨hp_8, rfl, rfl⟩
  · refine X_if_ne (tgt := 21) dX9_takesEnd_10 (by decide) (fun _ => ?_) (fun c_ => absurd c_ (by decide))
    refine X_iconst (v := 1) dX9_takesEnd_21 (by decide) ?_
    refine X_goto (tgt := 26) dX9_takesEnd_22 (by decide) ?_
    exact X_iret ex_nZ rfl dX9_takesEnd_26 rfl (Or.inl ⟨(tK f L n), nu1_1, sg1_2, wo1_3, (nI (tP f L n)), (tN f L n), (by unfold sEnd; rw [if_pos ⟨hp_7.1, by rw [← hp_6 hp_7.1]; exact hp_7.2⟩]), (tN_le hn), rfl, rfl⟩)
  · refine X_if_ne (tgt := 21) dX9_takesEnd_10 (by decide) (fun c_ => absurd rfl c_) (fun _ => ?_)
    refine X_aload_n (j := 0) dX9_takesEnd_13 rfl rfl ?_
    refine X_iconst (v := 1) dX9_takesEnd_14 (by decide) ?_
    refine X_callV (j0 := 0) (rest := [(g, ex_a 0 1000 f)]) (stk := []) co_X9_90 rfl ⟨(Nat.le_of_ble_eq_true rfl), (Nat.le_of_ble_eq_true rfl)⟩ (e_X9_wrong l t g L fa (tK f L n) nu1_1 sg1_2 wo1_3 (nI (tN f L n)) (nI (tP f L n)) 1) dX9_takesEnd_15 [0, 1] (show List.Perm [0, 1] (List.range 2) from by decide) rfl rfl rfl rfl (Nat.le_of_ble_eq_true rfl) (fun cs1 r hq hk => ?_)
    rcases hq with ⟨rfl, rfl⟩
    refine X_if_eq (tgt := 25) dX9_takesEnd_18 (by decide) (fun _ => ?_) (fun c_ => absurd rfl c_)
    refine X_iconst (v := 0) dX9_takesEnd_25 (by decide) ?_
    exact X_iret ex_nZ rfl dX9_takesEnd_26 rfl (Or.inr ⟨(1 + 16 * (nI (tP f L n))), (tK f L n), nu1_1, sg1_2, wo1_3, (nI (tN f L n)), (nI (tP f L n)), (by unfold sEnd; rw [if_neg (fun q => hp_8 ⟨q.1, by rw [hp_6 q.1]; exact q.2⟩)]; rfl), rfl, rfl⟩)

set_option maxHeartbeats 4000000 in
set_option maxRecDepth 100000 in
theorem e_X9_takesNumber (l : Launch) (t : Nat) (g : Nat) (L : Nat) (fa : Int32) (ki : Int32) (nu : Int32) (sg : Int32) (wo : Int64) (n : Nat) (pl : Int32) (f : Nat → Int32) (lo : Int32) (hi : Int32) (hL : L ≤ 1000) (hn : n ≤ L) (hf : ∀ j, 0 ≤ (f j).toInt ∧ (f j).toInt ≤ 127) : ex_M l yX9_takesNumber cX9_takesNumber 3 (some .boolean) 5 126 [ex_r t, ex_i lo, ex_i hi] [(t, ex_o 9 [ex_r g, ex_i (nI L), ex_i fa, ex_i ki, ex_i nu, ex_i sg, ex_j wo, ex_i (nI n), ex_i pl]), (g, ex_a 0 1000 f)] (fun cs r => (∃ (ki2 : Int32), ∃ (nu2 : Int32), ∃ (sg2 : Int32), ∃ (wo2 : Int64), ∃ (pl2 : Int32), ∃ (n2 : Nat), sNum f L lo hi n = .inr (n2, nu2) ∧ n2 ≤ L ∧ cs = [(t, ex_o 9 [ex_r g, ex_i (nI L), ex_i fa, ex_i ki2, ex_i nu2, ex_i sg2, ex_j wo2, ex_i (nI n2), ex_i pl2]), (g, ex_a 0 1000 f)] ∧ r = some (ex_i 1)) ∨ (∃ (fa2 : Int32), ∃ (ki2 : Int32), ∃ (nu2 : Int32), ∃ (sg2 : Int32), ∃ (wo2 : Int64), ∃ (ne2 : Int32), ∃ (pl2 : Int32), sNum f L lo hi n = .inl fa2 ∧ cs = [(t, ex_o 9 [ex_r g, ex_i (nI L), ex_i fa2, ex_i ki2, ex_i nu2, ex_i sg2, ex_j wo2, ex_i ne2, ex_i pl2]), (g, ex_a 0 1000 f)] ∧ r = some (ex_i 0))) := by
  refine X_meth (by decide) (Nat.le_of_ble_eq_true rfl) ?_
  refine X_aload_n (j := 0) dX9_takesNumber_0 rfl rfl ?_
  refine X_callV (j0 := 0) (rest := []) (stk := []) co_X9_83 rfl ⟨(Nat.le_of_ble_eq_true rfl), (Nat.le_of_ble_eq_true rfl)⟩ (e_X9_takesToken l t g L fa ki nu sg wo n pl f hL hn hf) dX9_takesNumber_1 [0, 1] (show List.Perm [0, 1] (List.range 2) from by decide) rfl rfl rfl rfl (Nat.le_of_ble_eq_true rfl) (fun cs1 r hq hk => ?_)
  rcases hq with ⟨nu1_1, sg1_2, wo1_3, hp_4, hp_5, hp_6, rfl, rfl⟩
  refine X_aload_n (j := 0) dX9_takesNumber_4 rfl rfl ?_
  refine X_get (j := 0) fo_X9_22 dX9_takesNumber_5 rfl rfl ?_
  refine X_iconst (v := 2) dX9_takesNumber_8 (by decide) ?_
  refine X_icmp_eq (tgt := 18) dX9_takesNumber_9 (by decide) (fun c_7 => ?_) (fun c_7 => ?_)
  · refine X_aload_n (j := 0) dX9_takesNumber_18 rfl rfl ?_
    refine X_get (j := 0) fo_X9_25 dX9_takesNumber_19 rfl rfl ?_
    refine X_iload_n (j := 1) dX9_takesNumber_22 rfl rfl ?_
    refine X_icmp_lt (tgt := 34) dX9_takesNumber_23 (by decide) (fun c_8 => ?_) (fun c_8 => ?_)
    · refine X_aload_n (j := 0) dX9_takesNumber_34 rfl rfl ?_
      refine X_iconst (v := 4) dX9_takesNumber_35 (by decide) ?_
      refine X_callV (j0 := 0) (rest := [(g, ex_a 0 1000 f)]) (stk := []) co_X9_90 rfl ⟨(Nat.le_of_ble_eq_true rfl), (Nat.le_of_ble_eq_true rfl)⟩ (e_X9_wrong l t g L fa (tK f L n) nu1_1 sg1_2 wo1_3 (nI (tN f L n)) (nI (tP f L n)) 4) dX9_takesNumber_36 [0, 1] (show List.Perm [0, 1] (List.range 2) from by decide) rfl rfl rfl rfl (Nat.le_of_ble_eq_true rfl) (fun cs1 r hq hk => ?_)
      rcases hq with ⟨rfl, rfl⟩
      refine X_if_eq (tgt := 46) dX9_takesNumber_39 (by decide) (fun _ => ?_) (fun c_ => absurd rfl c_)
      refine X_iconst (v := 0) dX9_takesNumber_46 (by decide) ?_
      exact X_iret ex_nZ rfl dX9_takesNumber_47 rfl (Or.inr ⟨(4 + 16 * (nI (tP f L n))), (tK f L n), nu1_1, sg1_2, wo1_3, (nI (tN f L n)), (nI (tP f L n)), (by unfold sNum; rw [if_pos c_7, ← hp_5 c_7, if_neg (fun q => Int32.not_lt.mpr q.1 c_8)]; rfl), rfl, rfl⟩)
    · refine X_aload_n (j := 0) dX9_takesNumber_26 rfl rfl ?_
      refine X_get (j := 0) fo_X9_25 dX9_takesNumber_27 rfl rfl ?_
      refine X_iload_n (j := 2) dX9_takesNumber_30 rfl rfl ?_
      refine X_icmp_le (tgt := 42) dX9_takesNumber_31 (by decide) (fun c_9 => ?_) (fun c_9 => ?_)
      · refine X_iconst (v := 1) dX9_takesNumber_42 (by decide) ?_
        refine X_goto (tgt := 47) dX9_takesNumber_43 (by decide) ?_
        exact X_iret ex_nZ rfl dX9_takesNumber_47 rfl (Or.inl ⟨(tK f L n), nu1_1, sg1_2, wo1_3, (nI (tP f L n)), (tN f L n), (by unfold sNum; rw [if_pos c_7, ← hp_5 c_7, if_pos ⟨Int32.not_lt.mp c_8, c_9⟩]), (tN_le hn), rfl, rfl⟩)
      · refine X_aload_n (j := 0) dX9_takesNumber_34 rfl rfl ?_
        refine X_iconst (v := 4) dX9_takesNumber_35 (by decide) ?_
        refine X_callV (j0 := 0) (rest := [(g, ex_a 0 1000 f)]) (stk := []) co_X9_90 rfl ⟨(Nat.le_of_ble_eq_true rfl), (Nat.le_of_ble_eq_true rfl)⟩ (e_X9_wrong l t g L fa (tK f L n) nu1_1 sg1_2 wo1_3 (nI (tN f L n)) (nI (tP f L n)) 4) dX9_takesNumber_36 [0, 1] (show List.Perm [0, 1] (List.range 2) from by decide) rfl rfl rfl rfl (Nat.le_of_ble_eq_true rfl) (fun cs1 r hq hk => ?_)
        rcases hq with ⟨rfl, rfl⟩
        refine X_if_eq (tgt := 46) dX9_takesNumber_39 (by decide) (fun _ => ?_) (fun c_ => absurd rfl c_)
        refine X_iconst (v := 0) dX9_takesNumber_46 (by decide) ?_
        exact X_iret ex_nZ rfl dX9_takesNumber_47 rfl (Or.inr ⟨(4 + 16 * (nI (tP f L n))), (tK f L n), nu1_1, sg1_2, wo1_3, (nI (tN f L n)), (nI (tP f L n)), (by unfold sNum; rw [if_pos c_7, ← hp_5 c_7, if_neg (fun q => c_9 q.2)]; rfl), rfl, rfl⟩)
  · refine X_aload_n (j := 0) dX9_takesNumber_12 rfl rfl ?_
    refine X_iconst (v := 1) dX9_takesNumber_13 (by decide) ?_
    refine X_callV (j0 := 0) (rest := [(g, ex_a 0 1000 f)]) (stk := []) co_X9_90 rfl ⟨(Nat.le_of_ble_eq_true rfl), (Nat.le_of_ble_eq_true rfl)⟩ (e_X9_wrong l t g L fa (tK f L n) nu1_1 sg1_2 wo1_3 (nI (tN f L n)) (nI (tP f L n)) 1) dX9_takesNumber_14 [0, 1] (show List.Perm [0, 1] (List.range 2) from by decide) rfl rfl rfl rfl (Nat.le_of_ble_eq_true rfl) (fun cs1 r hq hk => ?_)
    rcases hq with ⟨rfl, rfl⟩
    exact X_iret ex_nZ rfl dX9_takesNumber_17 rfl (Or.inr ⟨(1 + 16 * (nI (tP f L n))), (tK f L n), nu1_1, sg1_2, wo1_3, (nI (tN f L n)), (nI (tP f L n)), (by unfold sNum; rw [if_neg c_7]; rfl), rfl, rfl⟩)

set_option maxHeartbeats 4000000 in
set_option maxRecDepth 100000 in
theorem e_X9_takesNumberOf (l : Launch) (t : Nat) (g : Nat) (L : Nat) (fa : Int32) (ki : Int32) (nu : Int32) (sg : Int32) (wo : Int64) (n : Nat) (pl : Int32) (f : Nat → Int32) (k0 : Nat) (z : Lit) (hi : Int32) (hL : L ≤ 1000) (hn : n ≤ L) (hf : ∀ j, 0 ≤ (f j).toInt ∧ (f j).toInt ≤ 127) (hz : lits[k0]? = some z) : ex_M l yX9_takesNumberOf cX9_takesNumberOf 3 (some .boolean) 6 148 [ex_r t, ex_r (10000 + k0), ex_i hi] [(t, ex_o 9 [ex_r g, ex_i (nI L), ex_i fa, ex_i ki, ex_i nu, ex_i sg, ex_j wo, ex_i (nI n), ex_i pl]), (g, ex_a 0 1000 f)] (fun cs r => (∃ (ki2 : Int32), ∃ (nu2 : Int32), ∃ (sg2 : Int32), ∃ (wo2 : Int64), ∃ (pl2 : Int32), ∃ (n2 : Nat), sBoth f L (bw z) hi n = .inr (n2, nu2) ∧ n2 ≤ L ∧ cs = [(t, ex_o 9 [ex_r g, ex_i (nI L), ex_i fa, ex_i ki2, ex_i nu2, ex_i sg2, ex_j wo2, ex_i (nI n2), ex_i pl2]), (g, ex_a 0 1000 f)] ∧ r = some (ex_i 1)) ∨ (∃ (fa2 : Int32), ∃ (ki2 : Int32), ∃ (nu2 : Int32), ∃ (sg2 : Int32), ∃ (wo2 : Int64), ∃ (ne2 : Int32), ∃ (pl2 : Int32), sBoth f L (bw z) hi n = .inl fa2 ∧ cs = [(t, ex_o 9 [ex_r g, ex_i (nI L), ex_i fa2, ex_i ki2, ex_i nu2, ex_i sg2, ex_j wo2, ex_i ne2, ex_i pl2]), (g, ex_a 0 1000 f)] ∧ r = some (ex_i 0))) := by
  refine X_meth (by decide) (Nat.le_of_ble_eq_true rfl) ?_
  refine X_aload_n (j := 0) dX9_takesNumberOf_0 rfl rfl ?_
  refine X_aload_n (j := 1) dX9_takesNumberOf_1 rfl rfl ?_
  refine X_callV (j0 := 0) (rest := []) (stk := []) co_X9_97 rfl ⟨(Nat.le_of_ble_eq_true rfl), (Nat.le_of_ble_eq_true rfl)⟩ (e_X9_takesWord l t g L fa ki nu sg wo n pl f k0 z hL hn hf hz) dX9_takesNumberOf_2 [0, 1] (show List.Perm [0, 1] (List.range 2) from by decide) rfl rfl rfl rfl (Nat.le_of_ble_eq_true rfl) (fun cs1 r hq hk => ?_)
  rcases hq with ⟨ki2_1, nu2_2, sg2_3, wo2_4, pl2_5, n2_6, hp_7, hp_8, rfl, rfl⟩ | ⟨fa2_9, ki2_10, nu2_11, sg2_12, wo2_13, ne2_14, pl2_15, hp_16, rfl, rfl⟩
  · refine X_if_eq (tgt := 21) dX9_takesNumberOf_5 (by decide) (fun c_ => absurd c_ (by decide)) (fun _ => ?_)
    refine X_aload_n (j := 0) dX9_takesNumberOf_8 rfl rfl ?_
    refine X_iconst (v := 0) dX9_takesNumberOf_9 (by decide) ?_
    refine X_iload_n (j := 2) dX9_takesNumberOf_10 rfl rfl ?_
    refine X_callV (j0 := 0) (rest := []) (stk := []) co_X9_100 rfl ⟨(Nat.le_of_ble_eq_true rfl), (Nat.le_of_ble_eq_true rfl)⟩ (e_X9_takesNumber l t g L fa ki2_1 nu2_2 sg2_3 wo2_4 n2_6 pl2_5 f 0 hi hL hp_8 hf) dX9_takesNumberOf_11 [0, 1] (show List.Perm [0, 1] (List.range 2) from by decide) rfl rfl rfl rfl (Nat.le_of_ble_eq_true rfl) (fun cs1 r hq hk => ?_)
    rcases hq with ⟨ki2_17, nu2_18, sg2_19, wo2_20, pl2_21, n2_22, hp_23, hp_24, rfl, rfl⟩ | ⟨fa2_25, ki2_26, nu2_27, sg2_28, wo2_29, ne2_30, pl2_31, hp_32, rfl, rfl⟩
    · refine X_if_eq (tgt := 21) dX9_takesNumberOf_14 (by decide) (fun c_ => absurd c_ (by decide)) (fun _ => ?_)
      refine X_iconst (v := 1) dX9_takesNumberOf_17 (by decide) ?_
      refine X_goto (tgt := 22) dX9_takesNumberOf_18 (by decide) ?_
      exact X_iret ex_nZ rfl dX9_takesNumberOf_22 rfl (Or.inl ⟨ki2_17, nu2_18, sg2_19, wo2_20, pl2_21, n2_22, (by unfold sBoth; rw [hp_7]; exact hp_23), hp_24, rfl, rfl⟩)
    · refine X_if_eq (tgt := 21) dX9_takesNumberOf_14 (by decide) (fun _ => ?_) (fun c_ => absurd rfl c_)
      refine X_iconst (v := 0) dX9_takesNumberOf_21 (by decide) ?_
      exact X_iret ex_nZ rfl dX9_takesNumberOf_22 rfl (Or.inr ⟨fa2_25, ki2_26, nu2_27, sg2_28, wo2_29, ne2_30, pl2_31, (by unfold sBoth; rw [hp_7]; exact hp_32), rfl, rfl⟩)
  · refine X_if_eq (tgt := 21) dX9_takesNumberOf_5 (by decide) (fun _ => ?_) (fun c_ => absurd rfl c_)
    refine X_iconst (v := 0) dX9_takesNumberOf_21 (by decide) ?_
    exact X_iret ex_nZ rfl dX9_takesNumberOf_22 rfl (Or.inr ⟨fa2_9, ki2_10, nu2_11, sg2_12, wo2_13, ne2_14, pl2_15, (by unfold sBoth; rw [hp_16]), rfl, rfl⟩)

set_option maxHeartbeats 4000000 in
set_option maxRecDepth 100000 in
theorem e_X9_takesName (l : Launch) (t : Nat) (g : Nat) (L : Nat) (fa : Int32) (ki : Int32) (nu : Int32) (sg : Int32) (wo : Int64) (n : Nat) (pl : Int32) (f : Nat → Int32) (hL : L ≤ 1000) (hn : n ≤ L) (hf : ∀ j, 0 ≤ (f j).toInt ∧ (f j).toInt ≤ 127) : ex_M l yX9_takesName cX9_takesName 1 (some .boolean) 5 126 [ex_r t] [(t, ex_o 9 [ex_r g, ex_i (nI L), ex_i fa, ex_i ki, ex_i nu, ex_i sg, ex_j wo, ex_i (nI n), ex_i pl]), (g, ex_a 0 1000 f)] (fun cs r => (∃ (ki2 : Int32), ∃ (nu2 : Int32), ∃ (sg2 : Int32), ∃ (wo2 : Int64), ∃ (n2 : Nat), sName f L rz.2.2.2 n = .inr (n2, wo2) ∧ n2 ≤ L ∧ cs = [(t, ex_o 9 [ex_r g, ex_i (nI L), ex_i fa, ex_i ki2, ex_i nu2, ex_i sg2, ex_j wo2, ex_i (nI n2), ex_i (nI (tP f L n))]), (g, ex_a 0 1000 f)] ∧ r = some (ex_i 1)) ∨ (∃ (fa2 : Int32), ∃ (ki2 : Int32), ∃ (nu2 : Int32), ∃ (sg2 : Int32), ∃ (wo2 : Int64), ∃ (ne2 : Int32), ∃ (pl2 : Int32), sName f L rz.2.2.2 n = .inl fa2 ∧ cs = [(t, ex_o 9 [ex_r g, ex_i (nI L), ex_i fa2, ex_i ki2, ex_i nu2, ex_i sg2, ex_j wo2, ex_i ne2, ex_i pl2]), (g, ex_a 0 1000 f)] ∧ r = some (ex_i 0))) := by
  refine X_meth (by decide) (Nat.le_of_ble_eq_true rfl) ?_
  refine X_aload_n (j := 0) dX9_takesName_0 rfl rfl ?_
  refine X_callV (j0 := 0) (rest := []) (stk := []) co_X9_83 rfl ⟨(Nat.le_of_ble_eq_true rfl), (Nat.le_of_ble_eq_true rfl)⟩ (e_X9_takesToken l t g L fa ki nu sg wo n pl f hL hn hf) dX9_takesName_1 [0, 1] (show List.Perm [0, 1] (List.range 2) from by decide) rfl rfl rfl rfl (Nat.le_of_ble_eq_true rfl) (fun cs1 r hq hk => ?_)
  rcases hq with ⟨nu1_1, sg1_2, wo1_3, hp_4, hp_5, hp_6, rfl, rfl⟩
  refine X_aload_n (j := 0) dX9_takesName_4 rfl rfl ?_
  refine X_callV (j0 := 0) (rest := [(g, ex_a 0 1000 f)]) (stk := []) co_X9_104 rfl ⟨(Nat.le_of_ble_eq_true rfl), (Nat.le_of_ble_eq_true rfl)⟩ (e_X9_isName l t g L fa (tK f L n) nu1_1 sg1_2 wo1_3 (nI (tN f L n)) (nI (tP f L n))) dX9_takesName_5 [0, 1] (show List.Perm [0, 1] (List.range 2) from by decide) rfl rfl rfl rfl (Nat.le_of_ble_eq_true rfl) (fun cs1 r hq hk => ?_)
  rcases hq with ⟨hp_7, rfl, rfl⟩ | ⟨hp_8, rfl, rfl⟩
  · refine X_if_ne (tgt := 19) dX9_takesName_8 (by decide) (fun _ => ?_) (fun c_ => absurd c_ (by decide))
    refine X_iconst (v := 1) dX9_takesName_19 (by decide) ?_
    refine X_goto (tgt := 24) dX9_takesName_20 (by decide) ?_
    exact X_iret ex_nZ rfl dX9_takesName_24 rfl (Or.inl ⟨(tK f L n), nu1_1, sg1_2, wo1_3, (tN f L n), (sName_y hp_7 (hp_4 hp_7.1)), (tN_le hn), rfl, rfl⟩)
  · refine X_if_ne (tgt := 19) dX9_takesName_8 (by decide) (fun c_ => absurd rfl c_) (fun _ => ?_)
    refine X_aload_n (j := 0) dX9_takesName_11 rfl rfl ?_
    refine X_iconst (v := 1) dX9_takesName_12 (by decide) ?_
    refine X_callV (j0 := 0) (rest := [(g, ex_a 0 1000 f)]) (stk := []) co_X9_90 rfl ⟨(Nat.le_of_ble_eq_true rfl), (Nat.le_of_ble_eq_true rfl)⟩ (e_X9_wrong l t g L fa (tK f L n) nu1_1 sg1_2 wo1_3 (nI (tN f L n)) (nI (tP f L n)) 1) dX9_takesName_13 [0, 1] (show List.Perm [0, 1] (List.range 2) from by decide) rfl rfl rfl rfl (Nat.le_of_ble_eq_true rfl) (fun cs1 r hq hk => ?_)
    rcases hq with ⟨rfl, rfl⟩
    refine X_if_eq (tgt := 23) dX9_takesName_16 (by decide) (fun _ => ?_) (fun c_ => absurd rfl c_)
    refine X_iconst (v := 0) dX9_takesName_23 (by decide) ?_
    exact X_iret ex_nZ rfl dX9_takesName_24 rfl (Or.inr ⟨(1 + 16 * (nI (tP f L n))), (tK f L n), nu1_1, sg1_2, wo1_3, (nI (tN f L n)), (nI (tP f L n)), (sName_n hp_8 hp_4), rfl, rfl⟩)
