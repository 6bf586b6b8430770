set_option maxHeartbeats 4000000 in
set_option maxRecDepth 100000 in
theorem e_X9_isBlank (l : Launch) (v : Int32) : ex_M l yX9_isBlank cX9_isBlank 1 (some .boolean) 0 0 [ex_i v] [] (fun cs r => (bBl v = true ∧ cs = [] ∧ r = some (ex_i 1)) ∨ (bBl v = false ∧ cs = [] ∧ r = some (ex_i 0))) := by
  refine X_meth (by decide) (Nat.le_of_ble_eq_true rfl) ?_
  refine X_iload_n (j := 0) dX9_isBlank_0 rfl rfl ?_
  refine X_bipush (v := 10) dX9_isBlank_1 (by decide) ?_
  refine X_icmp_eq (tgt := 12) dX9_isBlank_3 (by decide) (fun c_1 => ?_) (fun c_1 => ?_)
  · refine X_iconst (v := 1) dX9_isBlank_12 (by decide) ?_
    refine X_goto (tgt := 17) dX9_isBlank_13 (by decide) ?_
    exact X_iret ex_nZ rfl dX9_isBlank_17 rfl (Or.inl ⟨(bBl_t (Or.inl c_1)), rfl, rfl⟩)
  · refine X_iload_n (j := 0) dX9_isBlank_6 rfl rfl ?_
    refine X_bipush (v := 32) dX9_isBlank_7 (by decide) ?_
    refine X_icmp_ne (tgt := 16) dX9_isBlank_9 (by decide) (fun c_2 => ?_) (fun c_2 => ?_)
    · refine X_iconst (v := 0) dX9_isBlank_16 (by decide) ?_
      exact X_iret ex_nZ rfl dX9_isBlank_17 rfl (Or.inr ⟨(bBl_f c_1 c_2), rfl, rfl⟩)
    · refine X_iconst (v := 1) dX9_isBlank_12 (by decide) ?_
      refine X_goto (tgt := 17) dX9_isBlank_13 (by decide) ?_
      exact X_iret ex_nZ rfl dX9_isBlank_17 rfl (Or.inl ⟨(bBl_t (Or.inr c_2)), rfl, rfl⟩)

set_option maxHeartbeats 4000000 in
set_option maxRecDepth 100000 in
theorem e_X9_isLetter (l : Launch) (v : Int32) : ex_M l yX9_isLetter cX9_isLetter 1 (some .boolean) 0 0 [ex_i v] [] (fun cs r => (bLe v = true ∧ cs = [] ∧ r = some (ex_i 1)) ∨ (bLe v = false ∧ cs = [] ∧ r = some (ex_i 0))) := by
  refine X_meth (by decide) (Nat.le_of_ble_eq_true rfl) ?_
  refine X_iload_n (j := 0) dX9_isLetter_0 rfl rfl ?_
  refine X_bipush (v := 97) dX9_isLetter_1 (by decide) ?_
  refine X_icmp_lt (tgt := 16) dX9_isLetter_3 (by decide) (fun c_1 => ?_) (fun c_1 => ?_)
  · refine X_iconst (v := 0) dX9_isLetter_16 (by decide) ?_
    exact X_iret ex_nZ rfl dX9_isLetter_17 rfl (Or.inr ⟨(bLe_f1 c_1), rfl, rfl⟩)
  · refine X_iload_n (j := 0) dX9_isLetter_6 rfl rfl ?_
    refine X_bipush (v := 122) dX9_isLetter_7 (by decide) ?_
    refine X_icmp_gt (tgt := 16) dX9_isLetter_9 (by decide) (fun c_2 => ?_) (fun c_2 => ?_)
    · refine X_iconst (v := 0) dX9_isLetter_16 (by decide) ?_
      exact X_iret ex_nZ rfl dX9_isLetter_17 rfl (Or.inr ⟨(bLe_f2 c_2), rfl, rfl⟩)
    · refine X_iconst (v := 1) dX9_isLetter_12 (by decide) ?_
      refine X_goto (tgt := 17) dX9_isLetter_13 (by decide) ?_
      exact X_iret ex_nZ rfl dX9_isLetter_17 rfl (Or.inl ⟨(bLe_t c_1 c_2), rfl, rfl⟩)

set_option maxHeartbeats 4000000 in
set_option maxRecDepth 100000 in
theorem e_X9_isDigit (l : Launch) (v : Int32) : ex_M l yX9_isDigit cX9_isDigit 1 (some .boolean) 0 0 [ex_i v] [] (fun cs r => (bDi v = true ∧ cs = [] ∧ r = some (ex_i 1)) ∨ (bDi v = false ∧ cs = [] ∧ r = some (ex_i 0))) := by
  refine X_meth (by decide) (Nat.le_of_ble_eq_true rfl) ?_
  refine X_iload_n (j := 0) dX9_isDigit_0 rfl rfl ?_
  refine X_bipush (v := 48) dX9_isDigit_1 (by decide) ?_
  refine X_icmp_lt (tgt := 16) dX9_isDigit_3 (by decide) (fun c_1 => ?_) (fun c_1 => ?_)
  · refine X_iconst (v := 0) dX9_isDigit_16 (by decide) ?_
    exact X_iret ex_nZ rfl dX9_isDigit_17 rfl (Or.inr ⟨(bDi_f1 c_1), rfl, rfl⟩)
  · refine X_iload_n (j := 0) dX9_isDigit_6 rfl rfl ?_
    refine X_bipush (v := 57) dX9_isDigit_7 (by decide) ?_
    refine X_icmp_gt (tgt := 16) dX9_isDigit_9 (by decide) (fun c_2 => ?_) (fun c_2 => ?_)
    · refine X_iconst (v := 0) dX9_isDigit_16 (by decide) ?_
      exact X_iret ex_nZ rfl dX9_isDigit_17 rfl (Or.inr ⟨(bDi_f2 c_2), rfl, rfl⟩)
    · refine X_iconst (v := 1) dX9_isDigit_12 (by decide) ?_
      refine X_goto (tgt := 17) dX9_isDigit_13 (by decide) ?_
      exact X_iret ex_nZ rfl dX9_isDigit_17 rfl (Or.inl ⟨(bDi_t c_1 c_2), rfl, rfl⟩)

set_option maxHeartbeats 4000000 in
set_option maxRecDepth 100000 in
theorem e_X9_withLetter (l : Launch) (w : Int64) (v : Int32) : ex_M l yX9_withLetter cX9_withLetter 3 (some .long) 0 0 [ex_j w, ex_i v] [] (fun cs r => (cs = [] ∧ r = some (ex_j (w * 32 + (v - 97 + 1).toInt64)))) := by
  refine X_meth (by decide) (Nat.le_of_ble_eq_true rfl) ?_
  refine X_lload_n (j := 0) dX9_withLetter_0 rfl rfl ?_
  refine X_ldc2_w (v := 32) k_523 dX9_withLetter_1 ?_
  refine X_lmul (v := (w * 32)) dX9_withLetter_4 rfl ?_
  refine X_iload_n (j := 1) dX9_withLetter_5 rfl rfl ?_
  refine X_bipush (v := 97) dX9_withLetter_6 (by decide) ?_
  refine X_isub (v := (v - 97)) dX9_withLetter_8 rfl ?_
  refine X_iconst (v := 1) dX9_withLetter_9 (by decide) ?_
  refine X_iadd (v := ((v - 97) + 1)) dX9_withLetter_10 rfl ?_
  refine X_i2l (v := ((v - 97) + 1).toInt64) dX9_withLetter_11 rfl ?_
  refine X_ladd (v := ((w * 32) + (((v - 97) + 1).toInt64))) dX9_withLetter_12 rfl ?_
  exact X_lret dX9_withLetter_13 rfl (⟨rfl, rfl⟩)

set_option maxHeartbeats 4000000 in
set_option maxRecDepth 100000 in
theorem e_X9_takesLetters (l : Launch) (t : Nat) (g : Nat) (L : Nat) (p : Nat) (fa : Int32) (ki : Int32) (nu : Int32) (sg : Int32) (wo : Int64) (f : Nat → Int32) (hL : L ≤ 1000) (hp : p ≤ L) : ex_M l yX9_takesLetters cX9_takesLetters 1 none 1 22 [ex_r t] [(t, ex_o 9 [ex_r g, ex_i (nI L), ex_i fa, ex_i ki, ex_i nu, ex_i sg, ex_j wo, ex_i (nI p), ex_i (nI p)]), (g, ex_a 0 1000 f)] (fun cs r => (sk bLe f L p - p ≤ 8 ∧ cs = [(t, ex_o 9 [ex_r g, ex_i (nI L), ex_i fa, ex_i 1, ex_i nu, ex_i sg, ex_j (w3 f p (sk bLe f L p - p)), ex_i (nI (sk bLe f L p)), ex_i (nI p)]), (g, ex_a 0 1000 f)] ∧ r = none) ∨ (¬ sk bLe f L p - p ≤ 8 ∧ cs = [(t, ex_o 9 [ex_r g, ex_i (nI L), ex_i fa, ex_i 4, ex_i nu, ex_i sg, ex_j (w3 f p (sk bLe f L p - p)), ex_i (nI (sk bLe f L p)), ex_i (nI p)]), (g, ex_a 0 1000 f)] ∧ r = none)) := by
  refine X_meth (by decide) (Nat.le_of_ble_eq_true rfl) ?_
  refine X_aload_n (j := 0) dX9_takesLetters_0 rfl rfl ?_
  refine X_lconst (v := 0) dX9_takesLetters_1 (by decide) ?_
  refine X_put (j := 0) (cs' := [(t, ex_o 9 [ex_r g, ex_i (nI L), ex_i fa, ex_i ki, ex_i nu, ex_i sg, ex_j 0, ex_i (nI p), ex_i (nI p)]), (g, ex_a 0 1000 f)]) fo_X9_32 (by decide) dX9_takesLetters_2 rfl (Nat.le_of_ble_eq_true rfl) rfl rfl ?_
  refine X_lv (lv' := [(0, ex_r t)]) [0] rfl ?_
  refine X_ind (fun (k : Nat) => p + k ≤ L ∧ sk bLe f L p = sk bLe f L (p + k)) (fun (k : Nat) => L - (p + k)) (fun (k : Nat) => [(t, ex_o 9 [ex_r g, ex_i (nI L), ex_i fa, ex_i ki, ex_i nu, ex_i sg, ex_j (w3 f p k), ex_i (nI (p + k)), ex_i (nI p)]), (g, ex_a 0 1000 f)]) (fun (k : Nat) => [(0, ex_r t)]) (fun k hI ih => ?_) 0 (⟨hp, rfl⟩)
  try dsimp only at hI ih ⊢
  refine X_aload_n (j := 0) dX9_takesLetters_5 rfl rfl ?_
  refine X_get (j := 0) fo_X9_36 dX9_takesLetters_6 rfl rfl ?_
  refine X_aload_n (j := 0) dX9_takesLetters_9 rfl rfl ?_
  refine X_get (j := 0) fo_X9_15 dX9_takesLetters_10 rfl rfl ?_
  refine X_icmp_ge (tgt := 65) dX9_takesLetters_13 (by decide) (fun c_1 => ?_) (fun c_1 => ?_)
  · have he : sk bLe f L p = p + k := by rw [hI.2]; exact sk_stop (fun q => absurd q (by rw [nlex hL hI.1 c_1]; exact Nat.lt_irrefl _))
    refine X_aload_n (j := 0) dX9_takesLetters_65 rfl rfl ?_
    refine X_aload_n (j := 0) dX9_takesLetters_66 rfl rfl ?_
    refine X_get (j := 0) fo_X9_36 dX9_takesLetters_67 rfl rfl ?_
    refine X_aload_n (j := 0) dX9_takesLetters_70 rfl rfl ?_
    refine X_get (j := 0) fo_X9_39 dX9_takesLetters_71 rfl rfl ?_
    refine X_isub (v := (nI k)) dX9_takesLetters_74 (by rw [pk_sub (Nat.le_add_right p k), Nat.add_sub_cancel_left]) ?_
    refine X_bipush (v := 8) dX9_takesLetters_75 (by decide) ?_
    refine X_icmp_gt (tgt := 84) dX9_takesLetters_77 (by decide) (fun c_2 => ?_) (fun c_2 => ?_)
    · refine X_iconst (v := 4) dX9_takesLetters_84 (by decide) ?_
      refine X_put (j := 0) (cs' := [(t, ex_o 9 [ex_r g, ex_i (nI L), ex_i fa, ex_i 4, ex_i nu, ex_i sg, ex_j (w3 f p k), ex_i (nI (p + k)), ex_i (nI p)]), (g, ex_a 0 1000 f)]) fo_X9_22 (by decide) dX9_takesLetters_85 rfl (Nat.le_of_ble_eq_true rfl) trivial rfl ?_
      exact X_vret dX9_takesLetters_88 rfl (Or.inr ⟨(by rw [he, Nat.add_sub_cancel_left]; exact fun q => absurd c_2 (nI_nlt (a := 8) (b := k) q (by decide))), (by rw [he, Nat.add_sub_cancel_left]; try rfl), rfl⟩)
    · refine X_iconst (v := 1) dX9_takesLetters_80 (by decide) ?_
      refine X_goto (tgt := 85) dX9_takesLetters_81 (by decide) ?_
      refine X_put (j := 0) (cs' := [(t, ex_o 9 [ex_r g, ex_i (nI L), ex_i fa, ex_i 1, ex_i nu, ex_i sg, ex_j (w3 f p k), ex_i (nI (p + k)), ex_i (nI p)]), (g, ex_a 0 1000 f)]) fo_X9_22 (by decide) dX9_takesLetters_85 rfl (Nat.le_of_ble_eq_true rfl) trivial rfl ?_
      exact X_vret dX9_takesLetters_88 rfl (Or.inl ⟨(by rw [he, Nat.add_sub_cancel_left]; exact Nat.le_of_not_lt fun q => c_2 (nI_lt (a := 8) q (by omega))), (by rw [he, Nat.add_sub_cancel_left]; try rfl), rfl⟩)
  · have hlt : p + k < L := nlen hL hI.1 c_1
    refine X_aload_n (j := 0) dX9_takesLetters_16 rfl rfl ?_
    refine X_get (j := 0) fo_X9_9 dX9_takesLetters_17 rfl rfl ?_
    refine X_aload_n (j := 0) dX9_takesLetters_20 rfl rfl ?_
    refine X_get (j := 0) fo_X9_36 dX9_takesLetters_21 rfl rfl ?_
    refine X_bald (j := 1) (v := (f (p + k))) dX9_takesLetters_24 rfl (vp_in_nI (show p + k < 1000 by omega) (by decide)) (by rw [nI_clamp (by omega)]) ?_
    refine X_callS (rest := [(t, ex_o 9 [ex_r g, ex_i (nI L), ex_i fa, ex_i ki, ex_i nu, ex_i sg, ex_j (w3 f p k), ex_i (nI (p + k)), ex_i (nI p)]), (g, ex_a 0 1000 f)]) (stk := []) co_X9_48 rfl ⟨(Nat.le_of_ble_eq_true rfl), (Nat.le_of_ble_eq_true rfl)⟩ (e_X9_isLetter l (f (p + k))) dX9_takesLetters_25 [0, 1] (show List.Perm [0, 1] (List.range 2) from by decide) rfl rfl rfl (Nat.le_of_ble_eq_true rfl) (fun cs1 r hq hk => ?_)
    rcases hq with ⟨hp_3, rfl, rfl⟩ | ⟨hp_4, rfl, rfl⟩
    · have hb := hp_3
      refine X_if_eq (tgt := 65) dX9_takesLetters_28 (by decide) (fun c_ => absurd c_ (by decide)) (fun _ => ?_)
      refine X_aload_n (j := 0) dX9_takesLetters_31 rfl rfl ?_
      refine X_aload_n (j := 0) dX9_takesLetters_32 rfl rfl ?_
      refine X_get (j := 0) fo_X9_32 dX9_takesLetters_33 rfl rfl ?_
      refine X_aload_n (j := 0) dX9_takesLetters_36 rfl rfl ?_
      refine X_get (j := 0) fo_X9_9 dX9_takesLetters_37 rfl rfl ?_
      refine X_aload_n (j := 0) dX9_takesLetters_40 rfl rfl ?_
      refine X_get (j := 0) fo_X9_36 dX9_takesLetters_41 rfl rfl ?_
      refine X_bald (j := 1) (v := (f (p + k))) dX9_takesLetters_44 rfl (vp_in_nI (show p + k < 1000 by omega) (by decide)) (by rw [nI_clamp (by omega)]) ?_
      refine X_i2c (v := (f (p + k))) dX9_takesLetters_45 (i2c_id (by have := bLe_r hb; omega) (by have := bLe_r hb; omega)) ?_
      refine X_callS (rest := [(t, ex_o 9 [ex_r g, ex_i (nI L), ex_i fa, ex_i ki, ex_i nu, ex_i sg, ex_j (w3 f p k), ex_i (nI (p + k)), ex_i (nI p)]), (g, ex_a 0 1000 f)]) (stk := [ex_r t]) co_X9_68 rfl ⟨(Nat.le_of_ble_eq_true rfl), (Nat.le_of_ble_eq_true rfl)⟩ (e_X9_withLetter l (w3 f p k) (f (p + k))) dX9_takesLetters_46 [0, 1] (show List.Perm [0, 1] (List.range 2) from by decide) rfl rfl rfl (Nat.le_of_ble_eq_true rfl) (fun cs1 r hq hk => ?_)
      rcases hq with ⟨rfl, rfl⟩
      refine X_put (j := 0) (cs' := [(t, ex_o 9 [ex_r g, ex_i (nI L), ex_i fa, ex_i ki, ex_i nu, ex_i sg, ex_j ((w3 f p k) * 32 + ((f (p + k)) - 97 + 1).toInt64), ex_i (nI (p + k)), ex_i (nI p)]), (g, ex_a 0 1000 f)]) fo_X9_32 (by decide) dX9_takesLetters_49 rfl (Nat.le_of_ble_eq_true rfl) rfl rfl ?_
      refine X_aload_n (j := 0) dX9_takesLetters_52 rfl rfl ?_
      refine X_dup dX9_takesLetters_53 rfl ?_
      refine X_get (j := 0) fo_X9_36 dX9_takesLetters_54 rfl rfl ?_
      refine X_iconst (v := 1) dX9_takesLetters_57 (by decide) ?_
      refine X_iadd (v := (nI (p + (k + 1)))) dX9_takesLetters_58 (nI_1 (p + k)) ?_
      refine X_put (j := 0) (cs' := [(t, ex_o 9 [ex_r g, ex_i (nI L), ex_i fa, ex_i ki, ex_i nu, ex_i sg, ex_j ((w3 f p k) * 32 + ((f (p + k)) - 97 + 1).toInt64), ex_i (nI (p + (k + 1))), ex_i (nI p)]), (g, ex_a 0 1000 f)]) fo_X9_36 (by decide) dX9_takesLetters_59 rfl (Nat.le_of_ble_eq_true rfl) trivial rfl ?_
      refine X_goto (tgt := 5) dX9_takesLetters_62 (by decide) ?_
      refine X_lv (lv' := [(0, ex_r t)]) [0] rfl ?_
      exact ih (k + 1) (⟨by omega, by rw [hI.2, sk_go hlt hb, Nat.add_assoc]⟩) (by omega)
    · have hb := hp_4
      refine X_if_eq (tgt := 65) dX9_takesLetters_28 (by decide) (fun _ => ?_) (fun c_ => absurd rfl c_)
      have he : sk bLe f L p = p + k := by rw [hI.2]; exact sk_stop (fun _ => hb)
      refine X_aload_n (j := 0) dX9_takesLetters_65 rfl rfl ?_
      refine X_aload_n (j := 0) dX9_takesLetters_66 rfl rfl ?_
      refine X_get (j := 0) fo_X9_36 dX9_takesLetters_67 rfl rfl ?_
      refine X_aload_n (j := 0) dX9_takesLetters_70 rfl rfl ?_
      refine X_get (j := 0) fo_X9_39 dX9_takesLetters_71 rfl rfl ?_
      refine X_isub (v := (nI k)) dX9_takesLetters_74 (by rw [pk_sub (Nat.le_add_right p k), Nat.add_sub_cancel_left]) ?_
      refine X_bipush (v := 8) dX9_takesLetters_75 (by decide) ?_
      refine X_icmp_gt (tgt := 84) dX9_takesLetters_77 (by decide) (fun c_5 => ?_) (fun c_5 => ?_)
      · refine X_iconst (v := 4) dX9_takesLetters_84 (by decide) ?_
        refine X_put (j := 0) (cs' := [(t, ex_o 9 [ex_r g, ex_i (nI L), ex_i fa, ex_i 4, ex_i nu, ex_i sg, ex_j (w3 f p k), ex_i (nI (p + k)), ex_i (nI p)]), (g, ex_a 0 1000 f)]) fo_X9_22 (by decide) dX9_takesLetters_85 rfl (Nat.le_of_ble_eq_true rfl) trivial rfl ?_
        exact X_vret dX9_takesLetters_88 rfl (Or.inr ⟨(by rw [he, Nat.add_sub_cancel_left]; exact fun q => absurd c_5 (nI_nlt (a := 8) (b := k) q (by decide))), (by rw [he, Nat.add_sub_cancel_left]; try rfl), rfl⟩)
      · refine X_iconst (v := 1) dX9_takesLetters_80 (by decide) ?_
        refine X_goto (tgt := 85) dX9_takesLetters_81 (by decide) ?_
        refine X_put (j := 0) (cs' := [(t, ex_o 9 [ex_r g, ex_i (nI L), ex_i fa, ex_i 1, ex_i nu, ex_i sg, ex_j (w3 f p k), ex_i (nI (p + k)), ex_i (nI p)]), (g, ex_a 0 1000 f)]) fo_X9_22 (by decide) dX9_takesLetters_85 rfl (Nat.le_of_ble_eq_true rfl) trivial rfl ?_
        exact X_vret dX9_takesLetters_88 rfl (Or.inl ⟨(by rw [he, Nat.add_sub_cancel_left]; exact Nat.le_of_not_lt fun q => c_5 (nI_lt (a := 8) q (by omega))), (by rw [he, Nat.add_sub_cancel_left]; try rfl), rfl⟩)

set_option maxHeartbeats 4000000 in
set_option maxRecDepth 100000 in
theorem e_X9_takesDigits (l : Launch) (t : Nat) (g : Nat) (L : Nat) (p : Nat) (fa : Int32) (ki : Int32) (nu : Int32) (sg : Int32) (wo : Int64) (f : Nat → Int32) (hL : L ≤ 1000) (hp : p ≤ L) : ex_M l yX9_takesDigits cX9_takesDigits 1 none 1 20 [ex_r t] [(t, ex_o 9 [ex_r g, ex_i (nI L), ex_i fa, ex_i ki, ex_i nu, ex_i sg, ex_j wo, ex_i (nI p), ex_i (nI p)]), (g, ex_a 0 1000 f)] (fun cs r => (sk bDi f L p - p ≤ 4 ∧ cs = [(t, ex_o 9 [ex_r g, ex_i (nI L), ex_i fa, ex_i 2, ex_i (dg f p (sk bDi f L p - p)), ex_i sg, ex_j wo, ex_i (nI (sk bDi f L p)), ex_i (nI p)]), (g, ex_a 0 1000 f)] ∧ r = none) ∨ (¬ sk bDi f L p - p ≤ 4 ∧ cs = [(t, ex_o 9 [ex_r g, ex_i (nI L), ex_i fa, ex_i 4, ex_i (dg f p (sk bDi f L p - p)), ex_i sg, ex_j wo, ex_i (nI (sk bDi f L p)), ex_i (nI p)]), (g, ex_a 0 1000 f)] ∧ r = none)) := by
  refine X_meth (by decide) (Nat.le_of_ble_eq_true rfl) ?_
  refine X_aload_n (j := 0) dX9_takesDigits_0 rfl rfl ?_
  refine X_iconst (v := 0) dX9_takesDigits_1 (by decide) ?_
  refine X_put (j := 0) (cs' := [(t, ex_o 9 [ex_r g, ex_i (nI L), ex_i fa, ex_i ki, ex_i 0, ex_i sg, ex_j wo, ex_i (nI p), ex_i (nI p)]), (g, ex_a 0 1000 f)]) fo_X9_25 (by decide) dX9_takesDigits_2 rfl (Nat.le_of_ble_eq_true rfl) trivial rfl ?_
  refine X_lv (lv' := [(0, ex_r t)]) [0] rfl ?_
  refine X_ind (fun (k : Nat) => p + k ≤ L ∧ sk bDi f L p = sk bDi f L (p + k)) (fun (k : Nat) => L - (p + k)) (fun (k : Nat) => [(t, ex_o 9 [ex_r g, ex_i (nI L), ex_i fa, ex_i ki, ex_i (dg f p k), ex_i sg, ex_j wo, ex_i (nI (p + k)), ex_i (nI p)]), (g, ex_a 0 1000 f)]) (fun (k : Nat) => [(0, ex_r t)]) (fun k hI ih => ?_) 0 (⟨hp, rfl⟩)
  try dsimp only at hI ih ⊢
  refine X_aload_n (j := 0) dX9_takesDigits_5 rfl rfl ?_
  refine X_get (j := 0) fo_X9_36 dX9_takesDigits_6 rfl rfl ?_
  refine X_aload_n (j := 0) dX9_takesDigits_9 rfl rfl ?_
  refine X_get (j := 0) fo_X9_15 dX9_takesDigits_10 rfl rfl ?_
  refine X_icmp_ge (tgt := 68) dX9_takesDigits_13 (by decide) (fun c_1 => ?_) (fun c_1 => ?_)
  · have he : sk bDi f L p = p + k := by rw [hI.2]; exact sk_stop (fun q => absurd q (by rw [nlex hL hI.1 c_1]; exact Nat.lt_irrefl _))
    refine X_aload_n (j := 0) dX9_takesDigits_68 rfl rfl ?_
    refine X_aload_n (j := 0) dX9_takesDigits_69 rfl rfl ?_
    refine X_get (j := 0) fo_X9_36 dX9_takesDigits_70 rfl rfl ?_
    refine X_aload_n (j := 0) dX9_takesDigits_73 rfl rfl ?_
    refine X_get (j := 0) fo_X9_39 dX9_takesDigits_74 rfl rfl ?_
    refine X_isub (v := (nI k)) dX9_takesDigits_77 (by rw [pk_sub (Nat.le_add_right p k), Nat.add_sub_cancel_left]) ?_
    refine X_iconst (v := 4) dX9_takesDigits_78 (by decide) ?_
    refine X_icmp_gt (tgt := 86) dX9_takesDigits_79 (by decide) (fun c_2 => ?_) (fun c_2 => ?_)
    · refine X_iconst (v := 4) dX9_takesDigits_86 (by decide) ?_
      refine X_put (j := 0) (cs' := [(t, ex_o 9 [ex_r g, ex_i (nI L), ex_i fa, ex_i 4, ex_i (dg f p k), ex_i sg, ex_j wo, ex_i (nI (p + k)), ex_i (nI p)]), (g, ex_a 0 1000 f)]) fo_X9_22 (by decide) dX9_takesDigits_87 rfl (Nat.le_of_ble_eq_true rfl) trivial rfl ?_
      exact X_vret dX9_takesDigits_90 rfl (Or.inr ⟨(by rw [he, Nat.add_sub_cancel_left]; exact fun q => absurd c_2 (nI_nlt (a := 4) (b := k) q (by decide))), (by rw [he, Nat.add_sub_cancel_left]; try rfl), rfl⟩)
    · refine X_iconst (v := 2) dX9_takesDigits_82 (by decide) ?_
      refine X_goto (tgt := 87) dX9_takesDigits_83 (by decide) ?_
      refine X_put (j := 0) (cs' := [(t, ex_o 9 [ex_r g, ex_i (nI L), ex_i fa, ex_i 2, ex_i (dg f p k), ex_i sg, ex_j wo, ex_i (nI (p + k)), ex_i (nI p)]), (g, ex_a 0 1000 f)]) fo_X9_22 (by decide) dX9_takesDigits_87 rfl (Nat.le_of_ble_eq_true rfl) trivial rfl ?_
      exact X_vret dX9_takesDigits_90 rfl (Or.inl ⟨(by rw [he, Nat.add_sub_cancel_left]; exact Nat.le_of_not_lt fun q => c_2 (nI_lt (a := 4) q (by omega))), (by rw [he, Nat.add_sub_cancel_left]; try rfl), rfl⟩)
  · have hlt : p + k < L := nlen hL hI.1 c_1
    refine X_aload_n (j := 0) dX9_takesDigits_16 rfl rfl ?_
    refine X_get (j := 0) fo_X9_9 dX9_takesDigits_17 rfl rfl ?_
    refine X_aload_n (j := 0) dX9_takesDigits_20 rfl rfl ?_
    refine X_get (j := 0) fo_X9_36 dX9_takesDigits_21 rfl rfl ?_
    refine X_bald (j := 1) (v := (f (p + k))) dX9_takesDigits_24 rfl (vp_in_nI (show p + k < 1000 by omega) (by decide)) (by rw [nI_clamp (by omega)]) ?_
    refine X_callS (rest := [(t, ex_o 9 [ex_r g, ex_i (nI L), ex_i fa, ex_i ki, ex_i (dg f p k), ex_i sg, ex_j wo, ex_i (nI (p + k)), ex_i (nI p)]), (g, ex_a 0 1000 f)]) (stk := []) co_X9_54 rfl ⟨(Nat.le_of_ble_eq_true rfl), (Nat.le_of_ble_eq_true rfl)⟩ (e_X9_isDigit l (f (p + k))) dX9_takesDigits_25 [0, 1] (show List.Perm [0, 1] (List.range 2) from by decide) rfl rfl rfl (Nat.le_of_ble_eq_true rfl) (fun cs1 r hq hk => ?_)
    rcases hq with ⟨hp_3, rfl, rfl⟩ | ⟨hp_4, rfl, rfl⟩
    · have hb := hp_3
      refine X_if_eq (tgt := 68) dX9_takesDigits_28 (by decide) (fun c_ => absurd c_ (by decide)) (fun _ => ?_)
      refine X_aload_n (j := 0) dX9_takesDigits_31 rfl rfl ?_
      refine X_aload_n (j := 0) dX9_takesDigits_32 rfl rfl ?_
      refine X_get (j := 0) fo_X9_25 dX9_takesDigits_33 rfl rfl ?_
      refine X_bipush (v := 10) dX9_takesDigits_36 (by decide) ?_
      refine X_imul (v := ((dg f p k) * 10)) dX9_takesDigits_38 rfl ?_
      refine X_aload_n (j := 0) dX9_takesDigits_39 rfl rfl ?_
      refine X_get (j := 0) fo_X9_9 dX9_takesDigits_40 rfl rfl ?_
      refine X_aload_n (j := 0) dX9_takesDigits_43 rfl rfl ?_
      refine X_get (j := 0) fo_X9_36 dX9_takesDigits_44 rfl rfl ?_
      refine X_bald (j := 1) (v := (f (p + k))) dX9_takesDigits_47 rfl (vp_in_nI (show p + k < 1000 by omega) (by decide)) (by rw [nI_clamp (by omega)]) ?_
      refine X_iadd (v := (((dg f p k) * 10) + (f (p + k)))) dX9_takesDigits_48 rfl ?_
      refine X_bipush (v := 48) dX9_takesDigits_49 (by decide) ?_
      refine X_isub (v := ((((dg f p k) * 10) + (f (p + k))) - 48)) dX9_takesDigits_51 rfl ?_
      refine X_put (j := 0) (cs' := [(t, ex_o 9 [ex_r g, ex_i (nI L), ex_i fa, ex_i ki, ex_i ((((dg f p k) * 10) + (f (p + k))) - 48), ex_i sg, ex_j wo, ex_i (nI (p + k)), ex_i (nI p)]), (g, ex_a 0 1000 f)]) fo_X9_25 (by decide) dX9_takesDigits_52 rfl (Nat.le_of_ble_eq_true rfl) trivial rfl ?_
      refine X_aload_n (j := 0) dX9_takesDigits_55 rfl rfl ?_
      refine X_dup dX9_takesDigits_56 rfl ?_
      refine X_get (j := 0) fo_X9_36 dX9_takesDigits_57 rfl rfl ?_
      refine X_iconst (v := 1) dX9_takesDigits_60 (by decide) ?_
      refine X_iadd (v := (nI (p + (k + 1)))) dX9_takesDigits_61 (nI_1 (p + k)) ?_
      refine X_put (j := 0) (cs' := [(t, ex_o 9 [ex_r g, ex_i (nI L), ex_i fa, ex_i ki, ex_i ((((dg f p k) * 10) + (f (p + k))) - 48), ex_i sg, ex_j wo, ex_i (nI (p + (k + 1))), ex_i (nI p)]), (g, ex_a 0 1000 f)]) fo_X9_36 (by decide) dX9_takesDigits_62 rfl (Nat.le_of_ble_eq_true rfl) trivial rfl ?_
      refine X_goto (tgt := 5) dX9_takesDigits_65 (by decide) ?_
      refine X_lv (lv' := [(0, ex_r t)]) [0] rfl ?_
      exact ih (k + 1) (⟨by omega, by rw [hI.2, sk_go hlt hb, Nat.add_assoc]⟩) (by omega)
    · have hb := hp_4
      refine X_if_eq (tgt := 68) dX9_takesDigits_28 (by decide) (fun _ => ?_) (fun c_ => absurd rfl c_)
      have he : sk bDi f L p = p + k := by rw [hI.2]; exact sk_stop (fun _ => hb)
      refine X_aload_n (j := 0) dX9_takesDigits_68 rfl rfl ?_
      refine X_aload_n (j := 0) dX9_takesDigits_69 rfl rfl ?_
      refine X_get (j := 0) fo_X9_36 dX9_takesDigits_70 rfl rfl ?_
      refine X_aload_n (j := 0) dX9_takesDigits_73 rfl rfl ?_
      refine X_get (j := 0) fo_X9_39 dX9_takesDigits_74 rfl rfl ?_
      refine X_isub (v := (nI k)) dX9_takesDigits_77 (by rw [pk_sub (Nat.le_add_right p k), Nat.add_sub_cancel_left]) ?_
      refine X_iconst (v := 4) dX9_takesDigits_78 (by decide) ?_
      refine X_icmp_gt (tgt := 86) dX9_takesDigits_79 (by decide) (fun c_5 => ?_) (fun c_5 => ?_)
      · refine X_iconst (v := 4) dX9_takesDigits_86 (by decide) ?_
        refine X_put (j := 0) (cs' := [(t, ex_o 9 [ex_r g, ex_i (nI L), ex_i fa, ex_i 4, ex_i (dg f p k), ex_i sg, ex_j wo, ex_i (nI (p + k)), ex_i (nI p)]), (g, ex_a 0 1000 f)]) fo_X9_22 (by decide) dX9_takesDigits_87 rfl (Nat.le_of_ble_eq_true rfl) trivial rfl ?_
        exact X_vret dX9_takesDigits_90 rfl (Or.inr ⟨(by rw [he, Nat.add_sub_cancel_left]; exact fun q => absurd c_5 (nI_nlt (a := 4) (b := k) q (by decide))), (by rw [he, Nat.add_sub_cancel_left]; try rfl), rfl⟩)
      · refine X_iconst (v := 2) dX9_takesDigits_82 (by decide) ?_
        refine X_goto (tgt := 87) dX9_takesDigits_83 (by decide) ?_
        refine X_put (j := 0) (cs' := [(t, ex_o 9 [ex_r g, ex_i (nI L), ex_i fa, ex_i 2, ex_i (dg f p k), ex_i sg, ex_j wo, ex_i (nI (p + k)), ex_i (nI p)]), (g, ex_a 0 1000 f)]) fo_X9_22 (by decide) dX9_takesDigits_87 rfl (Nat.le_of_ble_eq_true rfl) trivial rfl ?_
        exact X_vret dX9_takesDigits_90 rfl (Or.inl ⟨(by rw [he, Nat.add_sub_cancel_left]; exact Nat.le_of_not_lt fun q => c_5 (nI_lt (a := 4) q (by omega))), (by rw [he, Nat.add_sub_cancel_left]; try rfl), rfl⟩)
