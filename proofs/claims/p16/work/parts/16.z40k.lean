def F_X5_pairRest_0 (ap : Int32) (gl : Int32) (gb : Nat → Int32) (gr : Nat → Int32) : Int32 × (Nat → Int32) := (if gl ≤ ap then (gl, gb) else (ap, va_cpy gr gb 0 0 6))
set_option maxHeartbeats 4000000 in
set_option maxRecDepth 100000 in
theorem e_X5_pairRest_0 (l : Launch) (pg : Nat) (c : Nat) (lf : Nat) (al : Int32) (ap : Int32) (gl : Int32) (g1 : Nat) (g2 : Nat) (gb : Nat → Int32) (gr : Nat → Int32) (c0 : Nat) (c1 : Nat) (c2 : Nat) (c3 : Nat) (c4 : Nat) (c5 : Nat) (c6 : Nat) (c7 : Nat) (c8 : Nat) (c9 : Nat) (c10 : Nat) (c11 : Nat) (c12 : Nat) (np : Nat) (nd : Nat) (sto : Int32) (res : Int32) (c17 : Nat) (c18 : Nat) (c19 : Nat) (ta : Nat → Int32) (hlf : lf < 64) (hb : bits6 lf ≤ 0) : ex_M l yX5_pairRest cX5_pairRest 9 none 1 40 [ex_r pg, ex_r c, ex_i (nI lf), ex_i al, ex_i ap] [(pg, ex_o 5 [ex_i gl, ex_r g1, ex_r g2]), (g1, ex_a 1 6 gb), (g2, ex_a 1 6 gr), (c, ex_o 0 [ex_r c0, ex_r c1, ex_r c2, ex_r c3, ex_r c4, ex_r c5, ex_r c6, ex_r c7, ex_r c8, ex_r c9, ex_r c10, ex_r c11, ex_r c12, ex_i (nI np), ex_i (nI nd), ex_i sto, ex_i res, ex_r c17, ex_r c18, ex_r c19]), (c3, ex_a 1 6 ta)] (fun zcs zr => zcs = [(pg, ex_o 5 [ex_i ((F_X5_pairRest_0 ap gl gb gr).1), ex_r g1, ex_r g2]), (g1, ex_a 1 6 ((F_X5_pairRest_0 ap gl gb gr).2)), (g2, ex_a 1 6 gr), (c, ex_o 0 [ex_r c0, ex_r c1, ex_r c2, ex_r c3, ex_r c4, ex_r c5, ex_r c6, ex_r c7, ex_r c8, ex_r c9, ex_r c10, ex_r c11, ex_r c12, ex_i (nI np), ex_i (nI nd), ex_i sto, ex_i res, ex_r c17, ex_r c18, ex_r c19]), (c3, ex_a 1 6 ta)] ∧ zr = none) := by
  refine X_meth (by decide) (Nat.le_of_ble_eq_true rfl) ?_
  generalize hV : F_X5_pairRest_0 ap gl gb gr = V0
  have hV := hV.symm
  unfold F_X5_pairRest_0 at hV
  try dsimp only at hV
  refine X_iload_n (j := 2) dX5_pairRest_0 rfl rfl ?_
  refine X_if_ne (tgt := 35) dX5_pairRest_1 (by decide) (fun c_ => absurd (bits0 hlf hb) c_) (fun _ => ?_)
  refine X_iload (j := 4) dX5_pairRest_4 rfl ?_
  refine X_aload_n (j := 0) dX5_pairRest_6 rfl rfl ?_
  refine X_get (j := 0) fo_X5_9 dX5_pairRest_7 rfl rfl ?_
  refine X_icmp_ge (tgt := 34) dX5_pairRest_10 (by decide) (fun c_1 => ?_) (fun c_1 => ?_)
  · have hV := hV.trans (if_pos c_1)
    try dsimp only at hV
    exact X_vret dX5_pairRest_34 (by (repeat refine ex_kc ?_) <;> rfl) (by subst hV; exact ⟨rfl, rfl⟩)
  · have hV := hV.trans (if_neg c_1)
    refine X_aload_n (j := 0) dX5_pairRest_13 rfl rfl ?_
    refine X_iload (j := 4) dX5_pairRest_14 rfl ?_
    refine X_put (j := 0) (cs' := [(pg, ex_o 5 [ex_i ap, ex_r g1, ex_r g2]), (g1, ex_a 1 6 gb), (g2, ex_a 1 6 gr), (c, ex_o 0 [ex_r c0, ex_r c1, ex_r c2, ex_r c3, ex_r c4, ex_r c5, ex_r c6, ex_r c7, ex_r c8, ex_r c9, ex_r c10, ex_r c11, ex_r c12, ex_i (nI np), ex_i (nI nd), ex_i sto, ex_i res, ex_r c17, ex_r c18, ex_r c19]), (c3, ex_a 1 6 ta)]) fo_X5_9 (by decide) dX5_pairRest_16 rfl (Nat.le_of_ble_eq_true rfl) trivial rfl ?_
    refine X_aload_n (j := 0) dX5_pairRest_19 rfl rfl ?_
    refine X_get (j := 0) fo_X5_19 dX5_pairRest_20 rfl rfl ?_
    refine X_iconst (v := 0) dX5_pairRest_23 (by decide) ?_
    refine X_aload_n (j := 0) dX5_pairRest_24 rfl rfl ?_
    refine X_get (j := 0) fo_X5_15 dX5_pairRest_25 rfl rfl ?_
    refine X_iconst (v := 0) dX5_pairRest_28 (by decide) ?_
    refine X_bipush (v := 6) dX5_pairRest_29 (by decide) ?_
    refine X_copy (j := 2) (j2 := 1) (cs' := [(pg, ex_o 5 [ex_i ap, ex_r g1, ex_r g2]), (g1, ex_a 1 6 (va_cpy gr gb 0 0 6)), (g2, ex_a 1 6 gr), (c, ex_o 0 [ex_r c0, ex_r c1, ex_r c2, ex_r c3, ex_r c4, ex_r c5, ex_r c6, ex_r c7, ex_r c8, ex_r c9, ex_r c10, ex_r c11, ex_r c12, ex_i (nI np), ex_i (nI nd), ex_i sto, ex_i res, ex_r c17, ex_r c18, ex_r c19]), (c3, ex_a 1 6 ta)]) k_1161 k_961 k_960 k_21 ⟨(Nat.le_of_ble_eq_true rfl), (Nat.le_of_ble_eq_true rfl)⟩ dX5_pairRest_31 rfl rfl (by decide) (by decide) (by decide) (by decide) (by decide) rfl (by decide) ?_
    try dsimp only at hV
    exact X_vret dX5_pairRest_34 (by (repeat refine ex_kc ?_) <;> rfl) (by subst hV; exact ⟨rfl, rfl⟩)

def F_X5_pairRest_1_L57 (lf : Nat) (ap : Int32) (ta : Nat → Int32) : Nat → Nat → Int32 → (Nat → Int32) → (Nat → Int32) → Int32 × (Nat → Int32) × (Nat → Int32)
  | 0, k57, s57_0, s57_1, s57_2 => (s57_0, s57_1, s57_2)
  | zn + 1, k57, s57_0, s57_1, s57_2 => (if (((nI (lf - 2 ^ tz6 lf)) >>> ((nI k57) &&& 31)) &&& 1) = 1 then ((fun (w_5 : Int32 × (Nat → Int32)) => F_X5_pairRest_1_L57 lf ap ta zn (k57 + 1) w_5.1 w_5.2 (upd (upd s57_2 (tz6 lf) (nI k57)) k57 (nI (tz6 lf)))) (F_X5_pairRest_0 (ap + (aI ((ta (tz6 lf)) - (ta k57)))) s57_0 s57_1 (upd (upd s57_2 (tz6 lf) (nI k57)) k57 (nI (tz6 lf))))) else F_X5_pairRest_1_L57 lf ap ta zn (k57 + 1) s57_0 s57_1 s57_2)
theorem F_X5_pairRest_1_L57_z (lf : Nat) (ap : Int32) (ta : Nat → Int32) (k57 : Nat) (s57_0 : Int32) (s57_1 : Nat → Int32) (s57_2 : Nat → Int32) : F_X5_pairRest_1_L57 lf ap ta 0 k57 s57_0 s57_1 s57_2 = (s57_0, s57_1, s57_2) := rfl
theorem F_X5_pairRest_1_L57_s (lf : Nat) (ap : Int32) (ta : Nat → Int32) (k57 : Nat) (s57_0 : Int32) (s57_1 : Nat → Int32) (s57_2 : Nat → Int32) (zn : Nat) : F_X5_pairRest_1_L57 lf ap ta (zn + 1) k57 s57_0 s57_1 s57_2 = (if (((nI (lf - 2 ^ tz6 lf)) >>> ((nI k57) &&& 31)) &&& 1) = 1 then ((fun (w_5 : Int32 × (Nat → Int32)) => F_X5_pairRest_1_L57 lf ap ta zn (k57 + 1) w_5.1 w_5.2 (upd (upd s57_2 (tz6 lf) (nI k57)) k57 (nI (tz6 lf)))) (F_X5_pairRest_0 (ap + (aI ((ta (tz6 lf)) - (ta k57)))) s57_0 s57_1 (upd (upd s57_2 (tz6 lf) (nI k57)) k57 (nI (tz6 lf))))) else F_X5_pairRest_1_L57 lf ap ta zn (k57 + 1) s57_0 s57_1 s57_2) := rfl
def F_X5_pairRest_1 (lf : Nat) (al : Int32) (ap : Int32) (gl : Int32) (gb : Nat → Int32) (gr : Nat → Int32) (ta : Nat → Int32) : Int32 × (Nat → Int32) × (Nat → Int32) := (if (nI lf) = 0 then (if gl ≤ ap then (gl, gb, gr) else (ap, va_cpy gr gb 0 0 6, gr)) else ((fun (v_2 : Int32 × (Nat → Int32) × (Nat → Int32)) => (if al = 0 then (v_2.1, v_2.2.1, upd v_2.2.2 (tz6 lf) (-1)) else ((fun (w_7 : Int32 × (Nat → Int32)) => (w_7.1, w_7.2, upd v_2.2.2 (tz6 lf) (-1))) (F_X5_pairRest_0 ap v_2.1 v_2.2.1 (upd v_2.2.2 (tz6 lf) (-1)))))) (F_X5_pairRest_1_L57 lf ap ta (6 - ((tz6 lf) + 1)) ((tz6 lf) + 1) gl gb gr)))
set_option maxHeartbeats 4000000 in
set_option maxRecDepth 100000 in
theorem e_X5_pairRest_1 (l : Launch) (pg : Nat) (c : Nat) (lf : Nat) (al : Int32) (ap : Int32) (gl : Int32) (g1 : Nat) (g2 : Nat) (gb : Nat → Int32) (gr : Nat → Int32) (c0 : Nat) (c1 : Nat) (c2 : Nat) (c3 : Nat) (c4 : Nat) (c5 : Nat) (c6 : Nat) (c7 : Nat) (c8 : Nat) (c9 : Nat) (c10 : Nat) (c11 : Nat) (c12 : Nat) (np : Nat) (nd : Nat) (sto : Int32) (res : Int32) (c17 : Nat) (c18 : Nat) (c19 : Nat) (ta : Nat → Int32) (hlf : lf < 64) (hb : bits6 lf ≤ 1) : ex_M l yX5_pairRest cX5_pairRest 9 none 2 68 [ex_r pg, ex_r c, ex_i (nI lf), ex_i al, ex_i ap] [(pg, ex_o 5 [ex_i gl, ex_r g1, ex_r g2]), (g1, ex_a 1 6 gb), (g2, ex_a 1 6 gr), (c, ex_o 0 [ex_r c0, ex_r c1, ex_r c2, ex_r c3, ex_r c4, ex_r c5, ex_r c6, ex_r c7, ex_r c8, ex_r c9, ex_r c10, ex_r c11, ex_r c12, ex_i (nI np), ex_i (nI nd), ex_i sto, ex_i res, ex_r c17, ex_r c18, ex_r c19]), (c3, ex_a 1 6 ta)] (fun zcs zr => zcs = [(pg, ex_o 5 [ex_i ((F_X5_pairRest_1 lf al ap gl gb gr ta).1), ex_r g1, ex_r g2]), (g1, ex_a 1 6 ((F_X5_pairRest_1 lf al ap gl gb gr ta).2.1)), (g2, ex_a 1 6 ((F_X5_pairRest_1 lf al ap gl gb gr ta).2.2)), (c, ex_o 0 [ex_r c0, ex_r c1, ex_r c2, ex_r c3, ex_r c4, ex_r c5, ex_r c6, ex_r c7, ex_r c8, ex_r c9, ex_r c10, ex_r c11, ex_r c12, ex_i (nI np), ex_i (nI nd), ex_i sto, ex_i res, ex_r c17, ex_r c18, ex_r c19]), (c3, ex_a 1 6 ta)] ∧ zr = none) := by
  refine X_meth (by decide) (Nat.le_of_ble_eq_true rfl) ?_
  generalize hV : F_X5_pairRest_1 lf al ap gl gb gr ta = V0
  have hV := hV.symm
  unfold F_X5_pairRest_1 at hV
  try dsimp only at hV
  refine X_iload_n (j := 2) dX5_pairRest_0 rfl rfl ?_
  refine X_if_ne (tgt := 35) dX5_pairRest_1 (by decide) (fun c_1 => ?_) (fun c_1 => ?_)
  · have hV := hV.trans (if_neg c_1)
    refine X_iload_n (j := 2) dX5_pairRest_35 rfl rfl ?_
    refine X_callS (rest := [(pg, ex_o 5 [ex_i gl, ex_r g1, ex_r g2]), (g1, ex_a 1 6 gb), (g2, ex_a 1 6 gr), (c, ex_o 0 [ex_r c0, ex_r c1, ex_r c2, ex_r c3, ex_r c4, ex_r c5, ex_r c6, ex_r c7, ex_r c8, ex_r c9, ex_r c10, ex_r c11, ex_r c12, ex_i (nI np), ex_i (nI nd), ex_i sto, ex_i res, ex_r c17, ex_r c18, ex_r c19]), (c3, ex_a 1 6 ta)]) (stk := []) co_X5_45 rfl ⟨(Nat.le_of_ble_eq_true rfl), (Nat.le_of_ble_eq_true rfl)⟩ (e_J6_numberOfTrailingZeros_0f7a4 l (nI lf)) dX5_pairRest_36 [0, 1, 2, 3, 4] (show List.Perm [0, 1, 2, 3, 4] (List.range 5) from by decide) rfl rfl rfl (Nat.le_of_ble_eq_true rfl) (fun zc1 zr hq hk => ?_)
    obtain ⟨rfl, rfl⟩ := hq
    have hl0 : ¬ lf = 0 := fun q => c_1 (by rw [q]; rfl)
    have htz : tz6 lf < 6 := tz_lt hlf hl0
    have hO : lf - 2 ^ tz6 lf < 64 := Nat.lt_of_le_of_lt (Nat.sub_le _ _) hlf
    refine X_eqs (stk' := [ex_i (nI (tz6 lf))]) (by rw [ntz_eq hlf hl0] <;> rfl) ?_
    refine X_istore (lv' := [(5, ex_i (nI (tz6 lf))), (0, ex_r pg), (1, ex_r c), (2, ex_i (nI lf)), (3, ex_i al), (4, ex_i ap)]) dX5_pairRest_39 (Nat.le_of_ble_eq_true rfl) rfl ?_
    refine X_iload_n (j := 3) dX5_pairRest_41 rfl rfl ?_
    refine X_iconst (v := 1) dX5_pairRest_42 (by decide) ?_
    refine X_iload (j := 0) dX5_pairRest_43 rfl ?_
    refine X_ishl (v := (1 <<< ((nI (tz6 lf)) &&& 31))) dX5_pairRest_45 rfl ?_
    refine X_iconst (v := (-1)) dX5_pairRest_46 (by decide) ?_
    refine X_ixor (v := ((1 <<< ((nI (tz6 lf)) &&& 31)) ^^^ (-1))) dX5_pairRest_47 rfl ?_
    refine X_iand (v := nI (lf - 2 ^ tz6 lf)) dX5_pairRest_48 (an_tz hlf hl0) ?_
    refine X_istore (lv' := [(6, ex_i (nI (lf - 2 ^ tz6 lf))), (5, ex_i (nI (tz6 lf))), (0, ex_r pg), (1, ex_r c), (2, ex_i (nI lf)), (3, ex_i al), (4, ex_i ap)]) dX5_pairRest_49 (Nat.le_of_ble_eq_true rfl) rfl ?_
    refine X_iload (j := 1) dX5_pairRest_51 rfl ?_
    refine X_iconst (v := 1) dX5_pairRest_53 (by decide) ?_
    refine X_iadd (v := nI ((tz6 lf) + 1)) dX5_pairRest_54 (nI_add (tz6 lf) 1) ?_
    refine X_istore (lv' := [(7, ex_i (nI ((tz6 lf) + 1))), (6, ex_i (nI (lf - 2 ^ tz6 lf))), (5, ex_i (nI (tz6 lf))), (0, ex_r pg), (1, ex_r c), (2, ex_i (nI lf)), (3, ex_i al), (4, ex_i ap)]) dX5_pairRest_55 (Nat.le_of_ble_eq_true rfl) rfl ?_
    -- loop at 57
    try dsimp only at hV
    generalize hq_v_2 : F_X5_pairRest_1_L57 lf ap ta (6 - ((tz6 lf) + 1)) ((tz6 lf) + 1) gl gb gr = v_2 at hV
    try dsimp only at hV
    refine X_cut (P := True) (csE := [(pg, ex_o 5 [ex_i v_2.1, ex_r g1, ex_r g2]), (g1, ex_a 1 6 v_2.2.1), (g2, ex_a 1 6 v_2.2.2), (c, ex_o 0 [ex_r c0, ex_r c1, ex_r c2, ex_r c3, ex_r c4, ex_r c5, ex_r c6, ex_r c7, ex_r c8, ex_r c9, ex_r c10, ex_r c11, ex_r c12, ex_i (nI np), ex_i (nI nd), ex_i sto, ex_i res, ex_r c17, ex_r c18, ex_r c19]), (c3, ex_a 1 6 ta)]) (lvE := [(6, ex_i (nI (lf - 2 ^ tz6 lf))), (5, ex_i (nI (tz6 lf))), (0, ex_r pg), (1, ex_r c), (2, ex_i (nI lf)), (3, ex_i al), (4, ex_i ap)]) (E := 139) (fun hrest57 => ?_) (fun hPX57 => ?_)
    · have hL57 := hq_v_2.symm
      refine X_ind (fun (a57 : Nat × Int32 × (Nat → Int32) × (Nat → Int32)) => v_2 = F_X5_pairRest_1_L57 lf ap ta (6 - a57.1) a57.1 a57.2.1 a57.2.2.1 a57.2.2.2 ∧ a57.1 ≤ 6) (fun (a57 : Nat × Int32 × (Nat → Int32) × (Nat → Int32)) => 6 - a57.1) (fun (a57 : Nat × Int32 × (Nat → Int32) × (Nat → Int32)) => [(pg, ex_o 5 [ex_i a57.2.1, ex_r g1, ex_r g2]), (g1, ex_a 1 6 a57.2.2.1), (g2, ex_a 1 6 a57.2.2.2), (c, ex_o 0 [ex_r c0, ex_r c1, ex_r c2, ex_r c3, ex_r c4, ex_r c5, ex_r c6, ex_r c7, ex_r c8, ex_r c9, ex_r c10, ex_r c11, ex_r c12, ex_i (nI np), ex_i (nI nd), ex_i sto, ex_i res, ex_r c17, ex_r c18, ex_r c19]), (c3, ex_a 1 6 ta)]) (fun (a57 : Nat × Int32 × (Nat → Int32) × (Nat → Int32)) => [(7, ex_i (nI a57.1)), (6, ex_i (nI (lf - 2 ^ tz6 lf))), (5, ex_i (nI (tz6 lf))), (0, ex_r pg), (1, ex_r c), (2, ex_i (nI lf)), (3, ex_i al), (4, ex_i ap)]) (fun ⟨k57, s57_0, s57_1, s57_2⟩ hI57 ih57 => ?_) ((tz6 lf) + 1, gl, gb, gr) ⟨hL57, (by omega)⟩
      try dsimp only at hI57 ih57 ⊢
      have ihc57 : ∀ (k57_ : Nat) (s57_0_ : Int32) (s57_1_ : Nat → Int32) (s57_2_ : Nat → Int32), (v_2 = F_X5_pairRest_1_L57 lf ap ta (6 - k57_) k57_ s57_0_ s57_1_ s57_2_ ∧ k57_ ≤ 6) → (6 - k57_) < (6 - k57) → ex_O _ _ _ _ _ _ _ _ _ [(pg, ex_o 5 [ex_i s57_0_, ex_r g1, ex_r g2]), (g1, ex_a 1 6 s57_1_), (g2, ex_a 1 6 s57_2_), (c, ex_o 0 [ex_r c0, ex_r c1, ex_r c2, ex_r c3, ex_r c4, ex_r c5, ex_r c6, ex_r c7, ex_r c8, ex_r c9, ex_r c10, ex_r c11, ex_r c12, ex_i (nI np), ex_i (nI nd), ex_i sto, ex_i res, ex_r c17, ex_r c18, ex_r c19]), (c3, ex_a 1 6 ta)] [(7, ex_i (nI k57_)), (6, ex_i (nI (lf - 2 ^ tz6 lf))), (5, ex_i (nI (tz6 lf))), (0, ex_r pg), (1, ex_r c), (2, ex_i (nI lf)), (3, ex_i al), (4, ex_i ap)] _ _ := fun k57_ s57_0_ s57_1_ s57_2_ hi_ hm_ => ih57 (k57_, s57_0_, s57_1_, s57_2_) hi_ hm_
      have hL57 := hI57.1
      have hb57 := hI57.2
      refine X_iload (j := 0) dX5_pairRest_57 rfl ?_
      refine X_bipush (v := 6) dX5_pairRest_59 (by decide) ?_
      refine X_icmp_ge (tgt := 139) dX5_pairRest_61 (by decide) (fun c_3 => ?_) (fun c_3 => ?_)
      · have hlt57 : k57 = 6 := nlex (L := 6) (by omega) hb57 c_3
        rw [show 6 - k57 = 0 by omega] at hL57
        have hL57 := hL57.trans (F_X5_pairRest_1_L57_z ..)
        try dsimp only at hL57
        refine X_lv (lv' := [(6, ex_i (nI (lf - 2 ^ tz6 lf))), (5, ex_i (nI (tz6 lf))), (0, ex_r pg), (1, ex_r c), (2, ex_i (nI lf)), (3, ex_i al), (4, ex_i ap)]) [1, 2, 3, 4, 5, 6, 7] rfl ?_
        refine X_eq (cs' := [(pg, ex_o 5 [ex_i v_2.1, ex_r g1, ex_r g2]), (g1, ex_a 1 6 v_2.2.1), (g2, ex_a 1 6 v_2.2.2), (c, ex_o 0 [ex_r c0, ex_r c1, ex_r c2, ex_r c3, ex_r c4, ex_r c5, ex_r c6, ex_r c7, ex_r c8, ex_r c9, ex_r c10, ex_r c11, ex_r c12, ex_i (nI np), ex_i (nI nd), ex_i sto, ex_i res, ex_r c17, ex_r c18, ex_r c19]), (c3, ex_a 1 6 ta)]) (lv' := [(6, ex_i (nI (lf - 2 ^ tz6 lf))), (5, ex_i (nI (tz6 lf))), (0, ex_r pg), (1, ex_r c), (2, ex_i (nI lf)), (3, ex_i al), (4, ex_i ap)]) (by subst hL57; rfl) (by subst hL57; rfl) ?_
        exact hrest57 trivial
      · have hlt57 : k57 < 6 := nlen (L := 6) (by omega) hb57 c_3
        rw [show 6 - k57 = (6 - (k57 + 1)) + 1 by omega] at hL57
        have hL57 := hL57.trans (F_X5_pairRest_1_L57_s ..)
        refine X_iload (j := 1) dX5_pairRest_64 rfl ?_
        refine X_iload (j := 0) dX5_pairRest_66 rfl ?_
        refine X_ishr (v := ((nI (lf - 2 ^ tz6 lf)) >>> ((nI k57) &&& 31))) dX5_pairRest_68 rfl ?_
        refine X_iconst (v := 1) dX5_pairRest_69 (by decide) ?_
        refine X_iand (v := (((nI (lf - 2 ^ tz6 lf)) >>> ((nI k57) &&& 31)) &&& 1)) dX5_pairRest_70 rfl ?_
        refine X_iconst (v := 1) dX5_pairRest_71 (by decide) ?_
        refine X_icmp_ne (tgt := 133) dX5_pairRest_72 (by decide) (fun c_4 => ?_) (fun c_4 => ?_)
        · have hL57 := hL57.trans (if_neg c_4)
          refine X_iinc (v := nI (k57 + 1)) (j := 0) (lv' := [(7, ex_i (nI (k57 + 1))), (6, ex_i (nI (lf - 2 ^ tz6 lf))), (5, ex_i (nI (tz6 lf))), (0, ex_r pg), (1, ex_r c), (2, ex_i (nI lf)), (3, ex_i al), (4, ex_i ap)]) dX5_pairRest_133 rfl (nI_add k57 1) (Nat.le_of_ble_eq_true rfl) rfl ?_
          refine X_goto (tgt := 57) dX5_pairRest_136 (by decide) ?_
          try dsimp only at hL57
          exact ihc57 (k57 + 1) s57_0 s57_1 s57_2 ⟨hL57, (show (k57 + 1) ≤ 6 by omega)⟩ (show 6 - (k57 + 1) < 6 - k57 by omega)
        · have hL57 := hL57.trans (if_pos c_4)
          refine X_aload_n (j := 3) dX5_pairRest_75 rfl rfl ?_
          refine X_get (j := 0) fo_X5_19 dX5_pairRest_76 rfl rfl ?_
          refine X_iload (j := 2) dX5_pairRest_79 rfl ?_
          refine X_iload (j := 0) dX5_pairRest_81 rfl ?_
          refine X_iast (j := 2) (g := upd s57_2 (tz6 lf) (nI k57)) (cs' := [(pg, ex_o 5 [ex_i s57_0, ex_r g1, ex_r g2]), (g1, ex_a 1 6 s57_1), (g2, ex_a 1 6 (upd s57_2 (tz6 lf) (nI k57))), (c, ex_o 0 [ex_r c0, ex_r c1, ex_r c2, ex_r c3, ex_r c4, ex_r c5, ex_r c6, ex_r c7, ex_r c8, ex_r c9, ex_r c10, ex_r c11, ex_r c12, ex_i (nI np), ex_i (nI nd), ex_i sto, ex_i res, ex_r c17, ex_r c18, ex_r c19]), (c3, ex_a 1 6 ta)]) dX5_pairRest_83 rfl (vp_in_nI (show tz6 lf < 6 by omega) (by decide)) (by rw [nI_clamp (by omega)]) rfl ?_
          refine X_aload_n (j := 3) dX5_pairRest_84 rfl rfl ?_
          refine X_get (j := 0) fo_X5_19 dX5_pairRest_85 rfl rfl ?_
          refine X_iload (j := 0) dX5_pairRest_88 rfl ?_
          refine X_iload (j := 2) dX5_pairRest_90 rfl ?_
          refine X_iast (j := 2) (g := upd (upd s57_2 (tz6 lf) (nI k57)) k57 (nI (tz6 lf))) (cs' := [(pg, ex_o 5 [ex_i s57_0, ex_r g1, ex_r g2]), (g1, ex_a 1 6 s57_1), (g2, ex_a 1 6 (upd (upd s57_2 (tz6 lf) (nI k57)) k57 (nI (tz6 lf)))), (c, ex_o 0 [ex_r c0, ex_r c1, ex_r c2, ex_r c3, ex_r c4, ex_r c5, ex_r c6, ex_r c7, ex_r c8, ex_r c9, ex_r c10, ex_r c11, ex_r c12, ex_i (nI np), ex_i (nI nd), ex_i sto, ex_i res, ex_r c17, ex_r c18, ex_r c19]), (c3, ex_a 1 6 ta)]) dX5_pairRest_92 rfl (vp_in_nI (show k57 < 6 by omega) (by decide)) (by rw [nI_clamp (by omega)]) rfl ?_
          refine X_aload_n (j := 4) dX5_pairRest_93 rfl rfl ?_
          refine X_get (j := 3) fo_X5_48 dX5_pairRest_94 rfl rfl ?_
          refine X_iload (j := 2) dX5_pairRest_97 rfl ?_
          refine X_iald (j := 4) (v := (ta (tz6 lf))) dX5_pairRest_99 rfl (vp_in_nI (show tz6 lf < 6 by omega) (by decide)) (by rw [nI_clamp (by omega)]) ?_
          refine X_aload_n (j := 4) dX5_pairRest_100 rfl rfl ?_
          refine X_get (j := 3) fo_X5_48 dX5_pairRest_101 rfl rfl ?_
          refine X_iload (j := 0) dX5_pairRest_104 rfl ?_
          refine X_iald (j := 4) (v := (ta k57)) dX5_pairRest_106 rfl (vp_in_nI (show k57 < 6 by omega) (by decide)) (by rw [nI_clamp (by omega)]) ?_
          refine X_isub (v := ((ta (tz6 lf)) - (ta k57))) dX5_pairRest_107 rfl ?_
          refine X_mabs (v := (aI ((ta (tz6 lf)) - (ta k57)))) k_1166 k_802 k_17 k_803 ⟨(Nat.le_of_ble_eq_true rfl), (Nat.le_of_ble_eq_true rfl)⟩ (Nat.le_of_ble_eq_true rfl) dX5_pairRest_108 rfl ?_
          refine X_istore (lv' := [(8, ex_i (aI ((ta (tz6 lf)) - (ta k57)))), (7, ex_i (nI k57)), (6, ex_i (nI (lf - 2 ^ tz6 lf))), (5, ex_i (nI (tz6 lf))), (0, ex_r pg), (1, ex_r c), (2, ex_i (nI lf)), (3, ex_i al), (4, ex_i ap)]) dX5_pairRest_111 (Nat.le_of_ble_eq_true rfl) rfl ?_
          refine X_aload_n (j := 4) dX5_pairRest_113 rfl rfl ?_
          refine X_aload_n (j := 5) dX5_pairRest_114 rfl rfl ?_
          refine X_iload (j := 2) dX5_pairRest_115 rfl ?_
          refine X_iconst (v := 1) dX5_pairRest_117 (by decide) ?_
          refine X_iload (j := 1) dX5_pairRest_118 rfl ?_
          refine X_ishl (v := (1 <<< ((nI k57) &&& 31))) dX5_pairRest_120 rfl ?_
          refine X_iconst (v := (-1)) dX5_pairRest_121 (by decide) ?_
          refine X_ixor (v := ((1 <<< ((nI k57) &&& 31)) ^^^ (-1))) dX5_pairRest_122 rfl ?_
          refine X_iand (v := nI ((lf - 2 ^ tz6 lf) - 2 ^ k57)) dX5_pairRest_123 (an_bit hO (by omega) c_4) ?_
          refine X_iload_n (j := 7) dX5_pairRest_124 rfl rfl ?_
          refine X_iload (j := 8) dX5_pairRest_125 rfl ?_
          refine X_iload (j := 0) dX5_pairRest_127 rfl ?_
          refine X_iadd (v := (ap + (aI ((ta (tz6 lf)) - (ta k57))))) dX5_pairRest_129 rfl ?_
          refine X_callV (j0 := 0) (rest := []) (stk := []) co_X5_35 rfl ⟨(Nat.le_of_ble_eq_true rfl), (Nat.le_of_ble_eq_true rfl)⟩ (e_X5_pairRest_0 l pg c ((lf - 2 ^ tz6 lf) - 2 ^ k57) al (ap + (aI ((ta (tz6 lf)) - (ta k57)))) s57_0 g1 g2 s57_1 (upd (upd s57_2 (tz6 lf) (nI k57)) k57 (nI (tz6 lf))) c0 c1 c2 c3 c4 c5 c6 c7 c8 c9 c10 c11 c12 np nd sto res c17 c18 c19 ta (Nat.lt_of_le_of_lt (Nat.sub_le _ _) hO) (bi_bit hO (by omega) c_4 (bi_tz hlf hl0 hb))) dX5_pairRest_130 [0, 1, 2, 3, 4] (show List.Perm [0, 1, 2, 3, 4] (List.range 5) from by decide) rfl rfl rfl rfl (Nat.le_of_ble_eq_true rfl) (fun zc1 zr hq hk => ?_)
          obtain ⟨rfl, rfl⟩ := hq
          try dsimp only at hL57
          generalize hq_w_5 : F_X5_pairRest_0 (ap + (aI ((ta (tz6 lf)) - (ta k57)))) s57_0 s57_1 (upd (upd s57_2 (tz6 lf) (nI k57)) k57 (nI (tz6 lf))) = w_5 at hL57 ⊢
          try dsimp only at hL57
          refine X_iinc (v := nI (k57 + 1)) (j := 1) (lv' := [(7, ex_i (nI (k57 + 1))), (8, ex_i (aI ((ta (tz6 lf)) - (ta k57)))), (6, ex_i (nI (lf - 2 ^ tz6 lf))), (5, ex_i (nI (tz6 lf))), (0, ex_r pg), (1, ex_r c), (2, ex_i (nI lf)), (3, ex_i al), (4, ex_i ap)]) dX5_pairRest_133 rfl (nI_add k57 1) (Nat.le_of_ble_eq_true rfl) rfl ?_
          refine X_goto (tgt := 57) dX5_pairRest_136 (by decide) ?_
          try dsimp only at hL57
          refine X_lv (lv' := [(7, ex_i (nI (k57 + 1))), (6, ex_i (nI (lf - 2 ^ tz6 lf))), (5, ex_i (nI (tz6 lf))), (0, ex_r pg), (1, ex_r c), (2, ex_i (nI lf)), (3, ex_i al), (4, ex_i ap)]) [0, 2, 3, 4, 5, 6, 7, 8] rfl ?_
          exact ihc57 (k57 + 1) w_5.1 w_5.2 (upd (upd s57_2 (tz6 lf) (nI k57)) k57 (nI (tz6 lf))) ⟨hL57, (show (k57 + 1) ≤ 6 by omega)⟩ (show 6 - (k57 + 1) < 6 - k57 by omega)
    refine X_aload_n (j := 2) dX5_pairRest_139 rfl rfl ?_
    refine X_get (j := 0) fo_X5_19 dX5_pairRest_140 rfl rfl ?_
    refine X_iload (j := 1) dX5_pairRest_143 rfl ?_
    refine X_iconst (v := (-1)) dX5_pairRest_145 (by decide) ?_
    refine X_iast (j := 2) (g := upd v_2.2.2 (tz6 lf) (-1)) (cs' := [(pg, ex_o 5 [ex_i v_2.1, ex_r g1, ex_r g2]), (g1, ex_a 1 6 v_2.2.1), (g2, ex_a 1 6 (upd v_2.2.2 (tz6 lf) (-1))), (c, ex_o 0 [ex_r c0, ex_r c1, ex_r c2, ex_r c3, ex_r c4, ex_r c5, ex_r c6, ex_r c7, ex_r c8, ex_r c9, ex_r c10, ex_r c11, ex_r c12, ex_i (nI np), ex_i (nI nd), ex_i sto, ex_i res, ex_r c17, ex_r c18, ex_r c19]), (c3, ex_a 1 6 ta)]) dX5_pairRest_146 rfl (vp_in_nI (show tz6 lf < 6 by omega) (by decide)) (by rw [nI_clamp (by omega)]) rfl ?_
    refine X_iload_n (j := 5) dX5_pairRest_147 rfl rfl ?_
    refine X_if_eq (tgt := 161) dX5_pairRest_148 (by decide) (fun c_6 => ?_) (fun c_6 => ?_)
    · have hV := hV.trans (if_pos c_6)
      try dsimp only at hV
      exact X_vret dX5_pairRest_161 (by (repeat refine ex_kc ?_) <;> rfl) (by subst hV; exact ⟨rfl, rfl⟩)
    · have hV := hV.trans (if_neg c_6)
      refine X_aload_n (j := 2) dX5_pairRest_151 rfl rfl ?_
      refine X_aload_n (j := 3) dX5_pairRest_152 rfl rfl ?_
      refine X_iload (j := 0) dX5_pairRest_153 rfl ?_
      refine X_iconst (v := 0) dX5_pairRest_155 (by decide) ?_
      refine X_iload (j := 6) dX5_pairRest_156 rfl ?_
      refine X_callV (j0 := 0) (rest := []) (stk := []) co_X5_35 rfl ⟨(Nat.le_of_ble_eq_true rfl), (Nat.le_of_ble_eq_true rfl)⟩ (e_X5_pairRest_0 l pg c (lf - 2 ^ tz6 lf) 0 ap v_2.1 g1 g2 v_2.2.1 (upd v_2.2.2 (tz6 lf) (-1)) c0 c1 c2 c3 c4 c5 c6 c7 c8 c9 c10 c11 c12 np nd sto res c17 c18 c19 ta hO (bi_tz hlf hl0 hb)) dX5_pairRest_158 [0, 1, 2, 3, 4] (show List.Perm [0, 1, 2, 3, 4] (List.range 5) from by decide) rfl rfl rfl rfl (Nat.le_of_ble_eq_true rfl) (fun zc1 zr hq hk => ?_)
      obtain ⟨rfl, rfl⟩ := hq
      try dsimp only at hV
      generalize hq_w_7 : F_X5_pairRest_0 ap v_2.1 v_2.2.1 (upd v_2.2.2 (tz6 lf) (-1)) = w_7 at hV ⊢
      try dsimp only at hV
      try dsimp only at hV
      exact X_vret dX5_pairRest_161 (by (repeat refine ex_kc ?_) <;> rfl) (by subst hV; exact ⟨rfl, rfl⟩)
  · have hV := hV.trans (if_pos c_1)
    refine X_iload (j := 4) dX5_pairRest_4 rfl ?_
    refine X_aload_n (j := 0) dX5_pairRest_6 rfl rfl ?_
    refine X_get (j := 0) fo_X5_9 dX5_pairRest_7 rfl rfl ?_
    refine X_icmp_ge (tgt := 34) dX5_pairRest_10 (by decide) (fun c_8 => ?_) (fun c_8 => ?_)
    · have hV := hV.trans (if_pos c_8)
      try dsimp only at hV
      exact X_vret dX5_pairRest_34 (by (repeat refine ex_kc ?_) <;> rfl) (by subst hV; exact ⟨rfl, rfl⟩)
    · have hV := hV.trans (if_neg c_8)
      refine X_aload_n (j := 0) dX5_pairRest_13 rfl rfl ?_
      refine X_iload (j := 4) dX5_pairRest_14 rfl ?_
      refine X_put (j := 0) (cs' := [(pg, ex_o 5 [ex_i ap, ex_r g1, ex_r g2]), (g1, ex_a 1 6 gb), (g2, ex_a 1 6 gr), (c, ex_o 0 [ex_r c0, ex_r c1, ex_r c2, ex_r c3, ex_r c4, ex_r c5, ex_r c6, ex_r c7, ex_r c8, ex_r c9, ex_r c10, ex_r c11, ex_r c12, ex_i (nI np), ex_i (nI nd), ex_i sto, ex_i res, ex_r c17, ex_r c18, ex_r c19]), (c3, ex_a 1 6 ta)]) fo_X5_9 (by decide) dX5_pairRest_16 rfl (Nat.le_of_ble_eq_true rfl) trivial rfl ?_
      refine X_aload_n (j := 0) dX5_pairRest_19 rfl rfl ?_
      refine X_get (j := 0) fo_X5_19 dX5_pairRest_20 rfl rfl ?_
      refine X_iconst (v := 0) dX5_pairRest_23 (by decide) ?_
      refine X_aload_n (j := 0) dX5_pairRest_24 rfl rfl ?_
      refine X_get (j := 0) fo_X5_15 dX5_pairRest_25 rfl rfl ?_
      refine X_iconst (v := 0) dX5_pairRest_28 (by decide) ?_
      refine X_bipush (v := 6) dX5_pairRest_29 (by decide) ?_
      refine X_copy (j := 2) (j2 := 1) (cs' := [(pg, ex_o 5 [ex_i ap, ex_r g1, ex_r g2]), (g1, ex_a 1 6 (va_cpy gr gb 0 0 6)), (g2, ex_a 1 6 gr), (c, ex_o 0 [ex_r c0, ex_r c1, ex_r c2, ex_r c3, ex_r c4, ex_r c5, ex_r c6, ex_r c7, ex_r c8, ex_r c9, ex_r c10, ex_r c11, ex_r c12, ex_i (nI np), ex_i (nI nd), ex_i sto, ex_i res, ex_r c17, ex_r c18, ex_r c19]), (c3, ex_a 1 6 ta)]) k_1161 k_961 k_960 k_21 ⟨(Nat.le_of_ble_eq_true rfl), (Nat.le_of_ble_eq_true rfl)⟩ dX5_pairRest_31 rfl rfl (by decide) (by decide) (by decide) (by decide) (by decide) rfl (by decide) ?_
      try dsimp only at hV
      exact X_vret dX5_pairRest_34 (by (repeat refine ex_kc ?_) <;> rfl) (by subst hV; exact ⟨rfl, rfl⟩)

def F_X5_pairRest_2_L57 (lf : Nat) (al : Int32) (ap : Int32) (ta : Nat → Int32) : Nat → Nat → Int32 → (Nat → Int32) → (Nat → Int32) → Int32 × (Nat → Int32) × (Nat → Int32)
  | 0, k57, s57_0, s57_1, s57_2 => (s57_0, s57_1, s57_2)
  | zn + 1, k57, s57_0, s57_1, s57_2 => (if (((nI (lf - 2 ^ tz6 lf)) >>> ((nI k57) &&& 31)) &&& 1) = 1 then ((fun (w_5 : Int32 × (Nat → Int32) × (Nat → Int32)) => F_X5_pairRest_2_L57 lf al ap ta zn (k57 + 1) w_5.1 w_5.2.1 w_5.2.2) (F_X5_pairRest_1 ((lf - 2 ^ tz6 lf) - 2 ^ k57) al (ap + (aI ((ta (tz6 lf)) - (ta k57)))) s57_0 s57_1 (upd (upd s57_2 (tz6 lf) (nI k57)) k57 (nI (tz6 lf))) ta)) else F_X5_pairRest_2_L57 lf al ap ta zn (k57 + 1) s57_0 s57_1 s57_2)
theorem F_X5_pairRest_2_L57_z (lf : Nat) (al : Int32) (ap : Int32) (ta : Nat → Int32) (k57 : Nat) (s57_0 : Int32) (s57_1 : Nat → Int32) (s57_2 : Nat → Int32) : F_X5_pairRest_2_L57 lf al ap ta 0 k57 s57_0 s57_1 s57_2 = (s57_0, s57_1, s57_2) := rfl
theorem F_X5_pairRest_2_L57_s (lf : Nat) (al : Int32) (ap : Int32) (ta : Nat → Int32) (k57 : Nat) (s57_0 : Int32) (s57_1 : Nat → Int32) (s57_2 : Nat → Int32) (zn : Nat) : F_X5_pairRest_2_L57 lf al ap ta (zn + 1) k57 s57_0 s57_1 s57_2 = (if (((nI (lf - 2 ^ tz6 lf)) >>> ((nI k57) &&& 31)) &&& 1) = 1 then ((fun (w_5 : Int32 × (Nat → Int32) × (Nat → Int32)) => F_X5_pairRest_2_L57 lf al ap ta zn (k57 + 1) w_5.1 w_5.2.1 w_5.2.2) (F_X5_pairRest_1 ((lf - 2 ^ tz6 lf) - 2 ^ k57) al (ap + (aI ((ta (tz6 lf)) - (ta k57)))) s57_0 s57_1 (upd (upd s57_2 (tz6 lf) (nI k57)) k57 (nI (tz6 lf))) ta)) else F_X5_pairRest_2_L57 lf al ap ta zn (k57 + 1) s57_0 s57_1 s57_2) := rfl
def F_X5_pairRest_2 (lf : Nat) (al : Int32) (ap : Int32) (gl : Int32) (gb : Nat → Int32) (gr : Nat → Int32) (ta : Nat → Int32) : Int32 × (Nat → Int32) × (Nat → Int32) := (if (nI lf) = 0 then (if gl ≤ ap then (gl, gb, gr) else (ap, va_cpy gr gb 0 0 6, gr)) else ((fun (v_2 : Int32 × (Nat → Int32) × (Nat → Int32)) => (if al = 0 then (v_2.1, v_2.2.1, upd v_2.2.2 (tz6 lf) (-1)) else ((fun (w_7 : Int32 × (Nat → Int32) × (Nat → Int32)) => (w_7.1, w_7.2.1, w_7.2.2)) (F_X5_pairRest_1 (lf - 2 ^ tz6 lf) 0 ap v_2.1 v_2.2.1 (upd v_2.2.2 (tz6 lf) (-1)) ta)))) (F_X5_pairRest_2_L57 lf al ap ta (6 - ((tz6 lf) + 1)) ((tz6 lf) + 1) gl gb gr)))
set_option maxHeartbeats 4000000 in
set_option maxRecDepth 100000 in
theorem e_X5_pairRest_2 (l : Launch) (pg : Nat) (c : Nat) (lf : Nat) (al : Int32) (ap : Int32) (gl : Int32) (g1 : Nat) (g2 : Nat) (gb : Nat → Int32) (gr : Nat → Int32) (c0 : Nat) (c1 : Nat) (c2 : Nat) (c3 : Nat) (c4 : Nat) (c5 : Nat) (c6 : Nat) (c7 : Nat) (c8 : Nat) (c9 : Nat) (c10 : Nat) (c11 : Nat) (c12 : Nat) (np : Nat) (nd : Nat) (sto : Int32) (res : Int32) (c17 : Nat) (c18 : Nat) (c19 : Nat) (ta : Nat → Int32) (hlf : lf < 64) (hb : bits6 lf ≤ 2) : ex_M l yX5_pairRest cX5_pairRest 9 none 3 96 [ex_r pg, ex_r c, ex_i (nI lf), ex_i al, ex_i ap] [(pg, ex_o 5 [ex_i gl, ex_r g1, ex_r g2]), (g1, ex_a 1 6 gb), (g2, ex_a 1 6 gr), (c, ex_o 0 [ex_r c0, ex_r c1, ex_r c2, ex_r c3, ex_r c4, ex_r c5, ex_r c6, ex_r c7, ex_r c8, ex_r c9, ex_r c10, ex_r c11, ex_r c12, ex_i (nI np), ex_i (nI nd), ex_i sto, ex_i res, ex_r c17, ex_r c18, ex_r c19]), (c3, ex_a 1 6 ta)] (fun zcs zr => zcs = [(pg, ex_o 5 [ex_i ((F_X5_pairRest_2 lf al ap gl gb gr ta).1), ex_r g1, ex_r g2]), (g1, ex_a 1 6 ((F_X5_pairRest_2 lf al ap gl gb gr ta).2.1)), (g2, ex_a 1 6 ((F_X5_pairRest_2 lf al ap gl gb gr ta).2.2)), (c, ex_o 0 [ex_r c0, ex_r c1, ex_r c2, ex_r c3, ex_r c4, ex_r c5, ex_r c6, ex_r c7, ex_r c8, ex_r c9, ex_r c10, ex_r c11, ex_r c12, ex_i (nI np), ex_i (nI nd), ex_i sto, ex_i res, ex_r c17, ex_r c18, ex_r c19]), (c3, ex_a 1 6 ta)] ∧ zr = none) := by
  refine X_meth (by decide) (Nat.le_of_ble_eq_true rfl) ?_
  generalize hV : F_X5_pairRest_2 lf al ap gl gb gr ta = V0
  have hV := hV.symm
  unfold F_X5_pairRest_2 at hV
  try dsimp only at hV
  refine X_iload_n (j := 2) dX5_pairRest_0 rfl rfl ?_
  refine X_if_ne (tgt := 35) dX5_pairRest_1 (by decide) (fun c_1 => ?_) (fun c_1 => ?_)
  · have hV := hV.trans (if_neg c_1)
    refine X_iload_n (j := 2) dX5_pairRest_35 rfl rfl ?_
    refine X_callS (rest := [(pg, ex_o 5 [ex_i gl, ex_r g1, ex_r g2]), (g1, ex_a 1 6 gb), (g2, ex_a 1 6 gr), (c, ex_o 0 [ex_r c0, ex_r c1, ex_r c2, ex_r c3, ex_r c4, ex_r c5, ex_r c6, ex_r c7, ex_r c8, ex_r c9, ex_r c10, ex_r c11, ex_r c12, ex_i (nI np), ex_i (nI nd), ex_i sto, ex_i res, ex_r c17, ex_r c18, ex_r c19]), (c3, ex_a 1 6 ta)]) (stk := []) co_X5_45 rfl ⟨(Nat.le_of_ble_eq_true rfl), (Nat.le_of_ble_eq_true rfl)⟩ (e_J6_numberOfTrailingZeros_0f7a4 l (nI lf)) dX5_pairRest_36 [0, 1, 2, 3, 4] (show List.Perm [0, 1, 2, 3, 4] (List.range 5) from by decide) rfl rfl rfl (Nat.le_of_ble_eq_true rfl) (fun zc1 zr hq hk => ?_)
    obtain ⟨rfl, rfl⟩ := hq
    have hl0 : ¬ lf = 0 := fun q => c_1 (by rw [q]; rfl)
    have htz : tz6 lf < 6 := tz_lt hlf hl0
    have hO : lf - 2 ^ tz6 lf < 64 := Nat.lt_of_le_of_lt (Nat.sub_le _ _) hlf
    refine X_eqs (stk' := [ex_i (nI (tz6 lf))]) (by rw [ntz_eq hlf hl0] <;> rfl) ?_
    refine X_istore (lv' := [(5, ex_i (nI (tz6 lf))), (0, ex_r pg), (1, ex_r c), (2, ex_i (nI lf)), (3, ex_i al), (4, ex_i ap)]) dX5_pairRest_39 (Nat.le_of_ble_eq_true rfl) rfl ?_
    refine X_iload_n (j := 3) dX5_pairRest_41 rfl rfl ?_
    refine X_iconst (v := 1) dX5_pairRest_42 (by decide) ?_
    refine X_iload (j := 0) dX5_pairRest_43 rfl ?_
    refine X_ishl (v := (1 <<< ((nI (tz6 lf)) &&& 31))) dX5_pairRest_45 rfl ?_
    refine X_iconst (v := (-1)) dX5_pairRest_46 (by decide) ?_
    refine X_ixor (v := ((1 <<< ((nI (tz6 lf)) &&& 31)) ^^^ (-1))) dX5_pairRest_47 rfl ?_
    refine X_iand (v := nI (lf - 2 ^ tz6 lf)) dX5_pairRest_48 (an_tz hlf hl0) ?_
    refine X_istore (lv' := [(6, ex_i (nI (lf - 2 ^ tz6 lf))), (5, ex_i (nI (tz6 lf))), (0, ex_r pg), (1, ex_r c), (2, ex_i (nI lf)), (3, ex_i al), (4, ex_i ap)]) dX5_pairRest_49 (Nat.le_of_ble_eq_true rfl) rfl ?_
    refine X_iload (j := 1) dX5_pairRest_51 rfl ?_
    refine X_iconst (v := 1) dX5_pairRest_53 (by decide) ?_
    refine X_iadd (v := nI ((tz6 lf) + 1)) dX5_pairRest_54 (nI_add (tz6 lf) 1) ?_
    refine X_istore (lv' := [(7, ex_i (nI ((tz6 lf) + 1))), (6, ex_i (nI (lf - 2 ^ tz6 lf))), (5, ex_i (nI (tz6 lf))), (0, ex_r pg), (1, ex_r c), (2, ex_i (nI lf)), (3, ex_i al), (4, ex_i ap)]) dX5_pairRest_55 (Nat.le_of_ble_eq_true rfl) rfl ?_
    -- loop at 57
    try dsimp only at hV
    generalize hq_v_2 : F_X5_pairRest_2_L57 lf al ap ta (6 - ((tz6 lf) + 1)) ((tz6 lf) + 1) gl gb gr = v_2 at hV
    try dsimp only at hV
    refine X_cut (P := True) (csE := [(pg, ex_o 5 [ex_i v_2.1, ex_r g1, ex_r g2]), (g1, ex_a 1 6 v_2.2.1), (g2, ex_a 1 6 v_2.2.2), (c, ex_o 0 [ex_r c0, ex_r c1, ex_r c2, ex_r c3, ex_r c4, ex_r c5, ex_r c6, ex_r c7, ex_r c8, ex_r c9, ex_r c10, ex_r c11, ex_r c12, ex_i (nI np), ex_i (nI nd), ex_i sto, ex_i res, ex_r c17, ex_r c18, ex_r c19]), (c3, ex_a 1 6 ta)]) (lvE := [(6, ex_i (nI (lf - 2 ^ tz6 lf))), (5, ex_i (nI (tz6 lf))), (0, ex_r pg), (1, ex_r c), (2, ex_i (nI lf)), (3, ex_i al), (4, ex_i ap)]) (E := 139) (fun hrest57 => ?_) (fun hPX57 => ?_)
    · have hL57 := hq_v_2.symm
      refine X_ind (fun (a57 : Nat × Int32 × (Nat → Int32) × (Nat → Int32)) => v_2 = F_X5_pairRest_2_L57 lf al ap ta (6 - a57.1) a57.1 a57.2.1 a57.2.2.1 a57.2.2.2 ∧ a57.1 ≤ 6) (fun (a57 : Nat × Int32 × (Nat → Int32) × (Nat → Int32)) => 6 - a57.1) (fun (a57 : Nat × Int32 × (Nat → Int32) × (Nat → Int32)) => [(pg, ex_o 5 [ex_i a57.2.1, ex_r g1, ex_r g2]), (g1, ex_a 1 6 a57.2.2.1), (g2, ex_a 1 6 a57.2.2.2), (c, ex_o 0 [ex_r c0, ex_r c1, ex_r c2, ex_r c3, ex_r c4, ex_r c5, ex_r c6, ex_r c7, ex_r c8, ex_r c9, ex_r c10, ex_r c11, ex_r c12, ex_i (nI np), ex_i (nI nd), ex_i sto, ex_i res, ex_r c17, ex_r c18, ex_r c19]), (c3, ex_a 1 6 ta)]) (fun (a57 : Nat × Int32 × (Nat → Int32) × (Nat → Int32)) => [(7, ex_i (nI a57.1)), (6, ex_i (nI (lf - 2 ^ tz6 lf))), (5, ex_i (nI (tz6 lf))), (0, ex_r pg), (1, ex_r c), (2, ex_i (nI lf)), (3, ex_i al), (4, ex_i ap)]) (fun ⟨k57, s57_0, s57_1, s57_2⟩ hI57 ih57 => ?_) ((tz6 lf) + 1, gl, gb, gr) ⟨hL57, (by omega)⟩
      try dsimp only at hI57 ih57 ⊢
      have ihc57 : ∀ (k57_ : Nat) (s57_0_ : Int32) (s57_1_ : Nat → Int32) (s57_2_ : Nat → Int32), (v_2 = F_X5_pairRest_2_L57 lf al ap ta (6 - k57_) k57_ s57_0_ s57_1_ s57_2_ ∧ k57_ ≤ 6) → (6 - k57_) < (6 - k57) → ex_O _ _ _ _ _ _ _ _ _ [(pg, ex_o 5 [ex_i s57_0_, ex_r g1, ex_r g2]), (g1, ex_a 1 6 s57_1_), (g2, ex_a 1 6 s57_2_), (c, ex_o 0 [ex_r c0, ex_r c1, ex_r c2, ex_r c3, ex_r c4, ex_r c5, ex_r c6, ex_r c7, ex_r c8, ex_r c9, ex_r c10, ex_r c11, ex_r c12, ex_i (nI np), ex_i (nI nd), ex_i sto, ex_i res, ex_r c17, ex_r c18, ex_r c19]), (c3, ex_a 1 6 ta)] [(7, ex_i (nI k57_)), (6, ex_i (nI (lf - 2 ^ tz6 lf))), (5, ex_i (nI (tz6 lf))), (0, ex_r pg), (1, ex_r c), (2, ex_i (nI lf)), (3, ex_i al), (4, ex_i ap)] _ _ := fun k57_ s57_0_ s57_1_ s57_2_ hi_ hm_ => ih57 (k57_, s57_0_, s57_1_, s57_2_) hi_ hm_
      have hL57 := hI57.1
      have hb57 := hI57.2
      refine X_iload (j := 0) dX5_pairRest_57 rfl ?_
      refine X_bipush (v := 6) dX5_pairRest_59 (by decide) ?_
      refine X_icmp_ge (tgt := 139) dX5_pairRest_61 (by decide) (fun c_3 => ?_) (fun c_3 => ?_)
      · have hlt57 : k57 = 6 := nlex (L := 6) (by omega) hb57 c_3
        rw [show 6 - k57 = 0 by omega] at hL57
        have hL57 := hL57.trans (F_X5_pairRest_2_L57_z ..)
        try dsimp only at hL57
        refine X_lv (lv' := [(6, ex_i (nI (lf - 2 ^ tz6 lf))), (5, ex_i (nI (tz6 lf))), (0, ex_r pg), (1, ex_r c), (2, ex_i (nI lf)), (3, ex_i al), (4, ex_i ap)]) [1, 2, 3, 4, 5, 6, 7] rfl ?_
        refine X_eq (cs' := [(pg, ex_o 5 [ex_i v_2.1, ex_r g1, ex_r g2]), (g1, ex_a 1 6 v_2.2.1), (g2, ex_a 1 6 v_2.2.2), (c, ex_o 0 [ex_r c0, ex_r c1, ex_r c2, ex_r c3, ex_r c4, ex_r c5, ex_r c6, ex_r c7, ex_r c8, ex_r c9, ex_r c10, ex_r c11, ex_r c12, ex_i (nI np), ex_i (nI nd), ex_i sto, ex_i res, ex_r c17, ex_r c18, ex_r c19]), (c3, ex_a 1 6 ta)]) (lv' := [(6, ex_i (nI (lf - 2 ^ tz6 lf))), (5, ex_i (nI (tz6 lf))), (0, ex_r pg), (1, ex_r c), (2, ex_i (nI lf)), (3, ex_i al), (4, ex_i ap)]) (by subst hL57; rfl) (by subst hL57; rfl) ?_
        exact hrest57 trivial
      · have hlt57 : k57 < 6 := nlen (L := 6) (by omega) hb57 c_3
        rw [show 6 - k57 = (6 - (k57 + 1)) + 1 by omega] at hL57
        have hL57 := hL57.trans (F_X5_pairRest_2_L57_s ..)
        refine X_iload (j := 1) dX5_pairRest_64 rfl ?_
        refine X_iload (j := 0) dX5_pairRest_66 rfl ?_
        refine X_ishr (v := ((nI (lf - 2 ^ tz6 lf)) >>> ((nI k57) &&& 31))) dX5_pairRest_68 rfl ?_
        refine X_iconst (v := 1) dX5_pairRest_69 (by decide) ?_
        refine X_iand (v := (((nI (lf - 2 ^ tz6 lf)) >>> ((nI k57) &&& 31)) &&& 1)) dX5_pairRest_70 rfl ?_
        refine X_iconst (v := 1) dX5_pairRest_71 (by decide) ?_
        refine X_icmp_ne (tgt := 133) dX5_pairRest_72 (by decide) (fun c_4 => ?_) (fun c_4 => ?_)
        · have hL57 := hL57.trans (if_neg c_4)
          refine X_iinc (v := nI (k57 + 1)) (j := 0) (lv' := [(7, ex_i (nI (k57 + 1))), (6, ex_i (nI (lf - 2 ^ tz6 lf))), (5, ex_i (nI (tz6 lf))), (0, ex_r pg), (1, ex_r c), (2, ex_i (nI lf)), (3, ex_i al), (4, ex_i ap)]) dX5_pairRest_133 rfl (nI_add k57 1) (Nat.le_of_ble_eq_true rfl) rfl ?_
          refine X_goto (tgt := 57) dX5_pairRest_136 (by decide) ?_
          try dsimp only at hL57
          exact ihc57 (k57 + 1) s57_0 s57_1 s57_2 ⟨hL57, (show (k57 + 1) ≤ 6 by omega)⟩ (show 6 - (k57 + 1) < 6 - k57 by omega)
        · have hL57 := hL57.trans (if_pos c_4)
          refine X_aload_n (j := 3) dX5_pairRest_75 rfl rfl ?_
          refine X_get (j := 0) fo_X5_19 dX5_pairRest_76 rfl rfl ?_
          refine X_iload (j := 2) dX5_pairRest_79 rfl ?_
          refine X_iload (j := 0) dX5_pairRest_81 rfl ?_
          refine X_iast (j := 2) (g := upd s57_2 (tz6 lf) (nI k57)) (cs' := [(pg, ex_o 5 [ex_i s57_0, ex_r g1, ex_r g2]), (g1, ex_a 1 6 s57_1), (g2, ex_a 1 6 (upd s57_2 (tz6 lf) (nI k57))), (c, ex_o 0 [ex_r c0, ex_r c1, ex_r c2, ex_r c3, ex_r c4, ex_r c5, ex_r c6, ex_r c7, ex_r c8, ex_r c9, ex_r c10, ex_r c11, ex_r c12, ex_i (nI np), ex_i (nI nd), ex_i sto, ex_i res, ex_r c17, ex_r c18, ex_r c19]), (c3, ex_a 1 6 ta)]) dX5_pairRest_83 rfl (vp_in_nI (show tz6 lf < 6 by omega) (by decide)) (by rw [nI_clamp (by omega)]) rfl ?_
          refine X_aload_n (j := 3) dX5_pairRest_84 rfl rfl ?_
          refine X_get (j := 0) fo_X5_19 dX5_pairRest_85 rfl rfl ?_
          refine X_iload (j := 0) dX5_pairRest_88 rfl ?_
          refine X_iload (j := 2) dX5_pairRest_90 rfl ?_
          refine X_iast (j := 2) (g := upd (upd s57_2 (tz6 lf) (nI k57)) k57 (nI (tz6 lf))) (cs' := [(pg, ex_o 5 [ex_i s57_0, ex_r g1, ex_r g2]), (g1, ex_a 1 6 s57_1), (g2, ex_a 1 6 (upd (upd s57_2 (tz6 lf) (nI k57)) k57 (nI (tz6 lf)))), (c, ex_o 0 [ex_r c0, ex_r c1, ex_r c2, ex_r c3, ex_r c4, ex_r c5, ex_r c6, ex_r c7, ex_r c8, ex_r c9, ex_r c10, ex_r c11, ex_r c12, ex_i (nI np), ex_i (nI nd), ex_i sto, ex_i res, ex_r c17, ex_r c18, ex_r c19]), (c3, ex_a 1 6 ta)]) dX5_pairRest_92 rfl (vp_in_nI (show k57 < 6 by omega) (by decide)) (by rw [nI_clamp (by omega)]) rfl ?_
          refine X_aload_n (j := 4) dX5_pairRest_93 rfl rfl ?_
          refine X_get (j := 3) fo_X5_48 dX5_pairRest_94 rfl rfl ?_
          refine X_iload (j := 2) dX5_pairRest_97 rfl ?_
          refine X_iald (j := 4) (v := (ta (tz6 lf))) dX5_pairRest_99 rfl (vp_in_nI (show tz6 lf < 6 by omega) (by decide)) (by rw [nI_clamp (by omega)]) ?_
          refine X_aload_n (j := 4) dX5_pairRest_100 rfl rfl ?_
          refine X_get (j := 3) fo_X5_48 dX5_pairRest_101 rfl rfl ?_
          refine X_iload (j := 0) dX5_pairRest_104 rfl ?_
          refine X_iald (j := 4) (v := (ta k57)) dX5_pairRest_106 rfl (vp_in_nI (show k57 < 6 by omega) (by decide)) (by rw [nI_clamp (by omega)]) ?_
          refine X_isub (v := ((ta (tz6 lf)) - (ta k57))) dX5_pairRest_107 rfl ?_
          refine X_mabs (v := (aI ((ta (tz6 lf)) - (ta k57)))) k_1166 k_802 k_17 k_803 ⟨(Nat.le_of_ble_eq_true rfl), (Nat.le_of_ble_eq_true rfl)⟩ (Nat.le_of_ble_eq_true rfl) dX5_pairRest_108 rfl ?_
          refine X_istore (lv' := [(8, ex_i (aI ((ta (tz6 lf)) - (ta k57)))), (7, ex_i (nI k57)), (6, ex_i (nI (lf - 2 ^ tz6 lf))), (5, ex_i (nI (tz6 lf))), (0, ex_r pg), (1, ex_r c), (2, ex_i (nI lf)), (3, ex_i al), (4, ex_i ap)]) dX5_pairRest_111 (Nat.le_of_ble_eq_true rfl) rfl ?_
          refine X_aload_n (j := 4) dX5_pairRest_113 rfl rfl ?_
          refine X_aload_n (j := 5) dX5_pairRest_114 rfl rfl ?_
          refine X_iload (j := 2) dX5_pairRest_115 rfl ?_
          refine X_iconst (v := 1) dX5_pairRest_117 (by decide) ?_
          refine X_iload (j := 1) dX5_pairRest_118 rfl ?_
          refine X_ishl (v := (1 <<< ((nI k57) &&& 31))) dX5_pairRest_120 rfl ?_
          refine X_iconst (v := (-1)) dX5_pairRest_121 (by decide) ?_
          refine X_ixor (v := ((1 <<< ((nI k57) &&& 31)) ^^^ (-1))) dX5_pairRest_122 rfl ?_
          refine X_iand (v := nI ((lf - 2 ^ tz6 lf) - 2 ^ k57)) dX5_pairRest_123 (an_bit hO (by omega) c_4) ?_
          refine X_iload_n (j := 7) dX5_pairRest_124 rfl rfl ?_
          refine X_iload (j := 8) dX5_pairRest_125 rfl ?_
          refine X_iload (j := 0) dX5_pairRest_127 rfl ?_
          refine X_iadd (v := (ap + (aI ((ta (tz6 lf)) - (ta k57))))) dX5_pairRest_129 rfl ?_
          refine X_callV (j0 := 0) (rest := []) (stk := []) co_X5_35 rfl ⟨(Nat.le_of_ble_eq_true rfl), (Nat.le_of_ble_eq_true rfl)⟩ (e_X5_pairRest_1 l pg c ((lf - 2 ^ tz6 lf) - 2 ^ k57) al (ap + (aI ((ta (tz6 lf)) - (ta k57)))) s57_0 g1 g2 s57_1 (upd (upd s57_2 (tz6 lf) (nI k57)) k57 (nI (tz6 lf))) c0 c1 c2 c3 c4 c5 c6 c7 c8 c9 c10 c11 c12 np nd sto res c17 c18 c19 ta (Nat.lt_of_le_of_lt (Nat.sub_le _ _) hO) (bi_bit hO (by omega) c_4 (bi_tz hlf hl0 hb))) dX5_pairRest_130 [0, 1, 2, 3, 4] (show List.Perm [0, 1, 2, 3, 4] (List.range 5) from by decide) rfl rfl rfl rfl (Nat.le_of_ble_eq_true rfl) (fun zc1 zr hq hk => ?_)
          obtain ⟨rfl, rfl⟩ := hq
          try dsimp only at hL57
          generalize hq_w_5 : F_X5_pairRest_1 ((lf - 2 ^ tz6 lf) - 2 ^ k57) al (ap + (aI ((ta (tz6 lf)) - (ta k57)))) s57_0 s57_1 (upd (upd s57_2 (tz6 lf) (nI k57)) k57 (nI (tz6 lf))) ta = w_5 at hL57 ⊢
          try dsimp only at hL57
          refine X_iinc (v := nI (k57 + 1)) (j := 1) (lv' := [(7, ex_i (nI (k57 + 1))), (8, ex_i (aI ((ta (tz6 lf)) - (ta k57)))), (6, ex_i (nI (lf - 2 ^ tz6 lf))), (5, ex_i (nI (tz6 lf))), (0, ex_r pg), (1, ex_r c), (2, ex_i (nI lf)), (3, ex_i al), (4, ex_i ap)]) dX5_pairRest_133 rfl (nI_add k57 1) (Nat.le_of_ble_eq_true rfl) rfl ?_
          refine X_goto (tgt := 57) dX5_pairRest_136 (by decide) ?_
          try dsimp only at hL57
          refine X_lv (lv' := [(7, ex_i (nI (k57 + 1))), (6, ex_i (nI (lf - 2 ^ tz6 lf))), (5, ex_i (nI (tz6 lf))), (0, ex_r pg), (1, ex_r c), (2, ex_i (nI lf)), (3, ex_i al), (4, ex_i ap)]) [0, 2, 3, 4, 5, 6, 7, 8] rfl ?_
          exact ihc57 (k57 + 1) w_5.1 w_5.2.1 w_5.2.2 ⟨hL57, (show (k57 + 1) ≤ 6 by omega)⟩ (show 6 - (k57 + 1) < 6 - k57 by omega)
    refine X_aload_n (j := 2) dX5_pairRest_139 rfl rfl ?_
    refine X_get (j := 0) fo_X5_19 dX5_pairRest_140 rfl rfl ?_
    refine X_iload (j := 1) dX5_pairRest_143 rfl ?_
    refine X_iconst (v := (-1)) dX5_pairRest_145 (by decide) ?_
    refine X_iast (j := 2) (g := upd v_2.2.2 (tz6 lf) (-1)) (cs' := [(pg, ex_o 5 [ex_i v_2.1, ex_r g1, ex_r g2]), (g1, ex_a 1 6 v_2.2.1), (g2, ex_a 1 6 (upd v_2.2.2 (tz6 lf) (-1))), (c, ex_o 0 [ex_r c0, ex_r c1, ex_r c2, ex_r c3, ex_r c4, ex_r c5, ex_r c6, ex_r c7, ex_r c8, ex_r c9, ex_r c10, ex_r c11, ex_r c12, ex_i (nI np), ex_i (nI nd), ex_i sto, ex_i res, ex_r c17, ex_r c18, ex_r c19]), (c3, ex_a 1 6 ta)]) dX5_pairRest_146 rfl (vp_in_nI (show tz6 lf < 6 by omega) (by decide)) (by rw [nI_clamp (by omega)]) rfl ?_
    refine X_iload_n (j := 5) dX5_pairRest_147 rfl rfl ?_
    refine X_if_eq (tgt := 161) dX5_pairRest_148 (by decide) (fun c_6 => ?_) (fun c_6 => ?_)
    · have hV := hV.trans (if_pos c_6)
      try dsimp only at hV
      exact X_vret dX5_pairRest_161 (by (repeat refine ex_kc ?_) <;> rfl) (by subst hV; exact ⟨rfl, rfl⟩)
    · have hV := hV.trans (if_neg c_6)
      refine X_aload_n (j := 2) dX5_pairRest_151 rfl rfl ?_
      refine X_aload_n (j := 3) dX5_pairRest_152 rfl rfl ?_
      refine X_iload (j := 0) dX5_pairRest_153 rfl ?_
      refine X_iconst (v := 0) dX5_pairRest_155 (by decide) ?_
      refine X_iload (j := 6) dX5_pairRest_156 rfl ?_
      refine X_callV (j0 := 0) (rest := []) (stk := []) co_X5_35 rfl ⟨(Nat.le_of_ble_eq_true rfl), (Nat.le_of_ble_eq_true rfl)⟩ (e_X5_pairRest_1 l pg c (lf - 2 ^ tz6 lf) 0 ap v_2.1 g1 g2 v_2.2.1 (upd v_2.2.2 (tz6 lf) (-1)) c0 c1 c2 c3 c4 c5 c6 c7 c8 c9 c10 c11 c12 np nd sto res c17 c18 c19 ta hO (bi_tz hlf hl0 hb)) dX5_pairRest_158 [0, 1, 2, 3, 4] (show List.Perm [0, 1, 2, 3, 4] (List.range 5) from by decide) rfl rfl rfl rfl (Nat.le_of_ble_eq_true rfl) (fun zc1 zr hq hk => ?_)
      obtain ⟨rfl, rfl⟩ := hq
      try dsimp only at hV
      generalize hq_w_7 : F_X5_pairRest_1 (lf - 2 ^ tz6 lf) 0 ap v_2.1 v_2.2.1 (upd v_2.2.2 (tz6 lf) (-1)) ta = w_7 at hV ⊢
      try dsimp only at hV
      try dsimp only at hV
      exact X_vret dX5_pairRest_161 (by (repeat refine ex_kc ?_) <;> rfl) (by subst hV; exact ⟨rfl, rfl⟩)
  · have hV := hV.trans (if_pos c_1)
    refine X_iload (j := 4) dX5_pairRest_4 rfl ?_
    refine X_aload_n (j := 0) dX5_pairRest_6 rfl rfl ?_
    refine X_get (j := 0) fo_X5_9 dX5_pairRest_7 rfl rfl ?_
    refine X_icmp_ge (tgt := 34) dX5_pairRest_10 (by decide) (fun c_8 => ?_) (fun c_8 => ?_)
    · have hV := hV.trans (if_pos c_8)
      try dsimp only at hV
      exact X_vret dX5_pairRest_34 (by (repeat refine ex_kc ?_) <;> rfl) (by subst hV; exact ⟨rfl, rfl⟩)
    · have hV := hV.trans (if_neg c_8)
      refine X_aload_n (j := 0) dX5_pairRest_13 rfl rfl ?_
      refine X_iload (j := 4) dX5_pairRest_14 rfl ?_
      refine X_put (j := 0) (cs' := [(pg, ex_o 5 [ex_i ap, ex_r g1, ex_r g2]), (g1, ex_a 1 6 gb), (g2, ex_a 1 6 gr), (c, ex_o 0 [ex_r c0, ex_r c1, ex_r c2, ex_r c3, ex_r c4, ex_r c5, ex_r c6, ex_r c7, ex_r c8, ex_r c9, ex_r c10, ex_r c11, ex_r c12, ex_i (nI np), ex_i (nI nd), ex_i sto, ex_i res, ex_r c17, ex_r c18, ex_r c19]), (c3, ex_a 1 6 ta)]) fo_X5_9 (by decide) dX5_pairRest_16 rfl (Nat.le_of_ble_eq_true rfl) trivial rfl ?_
      refine X_aload_n (j := 0) dX5_pairRest_19 rfl rfl ?_
      refine X_get (j := 0) fo_X5_19 dX5_pairRest_20 rfl rfl ?_
      refine X_iconst (v := 0) dX5_pairRest_23 (by decide) ?_
      refine X_aload_n (j := 0) dX5_pairRest_24 rfl rfl ?_
      refine X_get (j := 0) fo_X5_15 dX5_pairRest_25 rfl rfl ?_
      refine X_iconst (v := 0) dX5_pairRest_28 (by decide) ?_
      refine X_bipush (v := 6) dX5_pairRest_29 (by decide) ?_
      refine X_copy (j := 2) (j2 := 1) (cs' := [(pg, ex_o 5 [ex_i ap, ex_r g1, ex_r g2]), (g1, ex_a 1 6 (va_cpy gr gb 0 0 6)), (g2, ex_a 1 6 gr), (c, ex_o 0 [ex_r c0, ex_r c1, ex_r c2, ex_r c3, ex_r c4, ex_r c5, ex_r c6, ex_r c7, ex_r c8, ex_r c9, ex_r c10, ex_r c11, ex_r c12, ex_i (nI np), ex_i (nI nd), ex_i sto, ex_i res, ex_r c17, ex_r c18, ex_r c19]), (c3, ex_a 1 6 ta)]) k_1161 k_961 k_960 k_21 ⟨(Nat.le_of_ble_eq_true rfl), (Nat.le_of_ble_eq_true rfl)⟩ dX5_pairRest_31 rfl rfl (by decide) (by decide) (by decide) (by decide) (by decide) rfl (by decide) ?_
      try dsimp only at hV
      exact X_vret dX5_pairRest_34 (by (repeat refine ex_kc ?_) <;> rfl) (by subst hV; exact ⟨rfl, rfl⟩)

def F_X5_pairRest_3_L57 (lf : Nat) (al : Int32) (ap : Int32) (ta : Nat → Int32) : Nat → Nat → Int32 → (Nat → Int32) → (Nat → Int32) → Int32 × (Nat → Int32) × (Nat → Int32)
  | 0, k57, s57_0, s57_1, s57_2 => (s57_0, s57_1, s57_2)
  | zn + 1, k57, s57_0, s57_1, s57_2 => (if (((nI (lf - 2 ^ tz6 lf)) >>> ((nI k57) &&& 31)) &&& 1) = 1 then ((fun (w_5 : Int32 × (Nat → Int32) × (Nat → Int32)) => F_X5_pairRest_3_L57 lf al ap ta zn (k57 + 1) w_5.1 w_5.2.1 w_5.2.2) (F_X5_pairRest_2 ((lf - 2 ^ tz6 lf) - 2 ^ k57) al (ap + (aI ((ta (tz6 lf)) - (ta k57)))) s57_0 s57_1 (upd (upd s57_2 (tz6 lf) (nI k57)) k57 (nI (tz6 lf))) ta)) else F_X5_pairRest_3_L57 lf al ap ta zn (k57 + 1) s57_0 s57_1 s57_2)
theorem F_X5_pairRest_3_L57_z (lf : Nat) (al : Int32) (ap : Int32) (ta : Nat → Int32) (k57 : Nat) (s57_0 : Int32) (s57_1 : Nat → Int32) (s57_2 : Nat → Int32) : F_X5_pairRest_3_L57 lf al ap ta 0 k57 s57_0 s57_1 s57_2 = (s57_0, s57_1, s57_2) := rfl
theorem F_X5_pairRest_3_L57_s (lf : Nat) (al : Int32) (ap : Int32) (ta : Nat → Int32) (k57 : Nat) (s57_0 : Int32) (s57_1 : Nat → Int32) (s57_2 : Nat → Int32) (zn : Nat) : F_X5_pairRest_3_L57 lf al ap ta (zn + 1) k57 s57_0 s57_1 s57_2 = (if (((nI (lf - 2 ^ tz6 lf)) >>> ((nI k57) &&& 31)) &&& 1) = 1 then ((fun (w_5 : Int32 × (Nat → Int32) × (Nat → Int32)) => F_X5_pairRest_3_L57 lf al ap ta zn (k57 + 1) w_5.1 w_5.2.1 w_5.2.2) (F_X5_pairRest_2 ((lf - 2 ^ tz6 lf) - 2 ^ k57) al (ap + (aI ((ta (tz6 lf)) - (ta k57)))) s57_0 s57_1 (upd (upd s57_2 (tz6 lf) (nI k57)) k57 (nI (tz6 lf))) ta)) else F_X5_pairRest_3_L57 lf al ap ta zn (k57 + 1) s57_0 s57_1 s57_2) := rfl
def F_X5_pairRest_3 (lf : Nat) (al : Int32) (ap : Int32) (gl : Int32) (gb : Nat → Int32) (gr : Nat → Int32) (ta : Nat → Int32) : Int32 × (Nat → Int32) × (Nat → Int32) := (if (nI lf) = 0 then (if gl ≤ ap then (gl, gb, gr) else (ap, va_cpy gr gb 0 0 6, gr)) else ((fun (v_2 : Int32 × (Nat → Int32) × (Nat → Int32)) => (if al = 0 then (v_2.1, v_2.2.1, upd v_2.2.2 (tz6 lf) (-1)) else ((fun (w_7 : Int32 × (Nat → Int32) × (Nat → Int32)) => (w_7.1, w_7.2.1, w_7.2.2)) (F_X5_pairRest_2 (lf - 2 ^ tz6 lf) 0 ap v_2.1 v_2.2.1 (upd v_2.2.2 (tz6 lf) (-1)) ta)))) (F_X5_pairRest_3_L57 lf al ap ta (6 - ((tz6 lf) + 1)) ((tz6 lf) + 1) gl gb gr)))
set_option maxHeartbeats 4000000 in
set_option maxRecDepth 100000 in
theorem e_X5_pairRest_3 (l : Launch) (pg : Nat) (c : Nat) (lf : Nat) (al : Int32) (ap : Int32) (gl : Int32) (g1 : Nat) (g2 : Nat) (gb : Nat → Int32) (gr : Nat → Int32) (c0 : Nat) (c1 : Nat) (c2 : Nat) (c3 : Nat) (c4 : Nat) (c5 : Nat) (c6 : Nat) (c7 : Nat) (c8 : Nat) (c9 : Nat) (c10 : Nat) (c11 : Nat) (c12 : Nat) (np : Nat) (nd : Nat) (sto : Int32) (res : Int32) (c17 : Nat) (c18 : Nat) (c19 : Nat) (ta : Nat → Int32) (hlf : lf < 64) (hb : bits6 lf ≤ 3) : ex_M l yX5_pairRest cX5_pairRest 9 none 4 124 [ex_r pg, ex_r c, ex_i (nI lf), ex_i al, ex_i ap] [(pg, ex_o 5 [ex_i gl, ex_r g1, ex_r g2]), (g1, ex_a 1 6 gb), (g2, ex_a 1 6 gr), (c, ex_o 0 [ex_r c0, ex_r c1, ex_r c2, ex_r c3, ex_r c4, ex_r c5, ex_r c6, ex_r c7, ex_r c8, ex_r c9, ex_r c10, ex_r c11, ex_r c12, ex_i (nI np), ex_i (nI nd), ex_i sto, ex_i res, ex_r c17, ex_r c18, ex_r c19]), (c3, ex_a 1 6 ta)] (fun zcs zr => zcs = [(pg, ex_o 5 [ex_i ((F_X5_pairRest_3 lf al ap gl gb gr ta).1), ex_r g1, ex_r g2]), (g1, ex_a 1 6 ((F_X5_pairRest_3 lf al ap gl gb gr ta).2.1)), (g2, ex_a 1 6 ((F_X5_pairRest_3 lf al ap gl gb gr ta).2.2)), (c, ex_o 0 [ex_r c0, ex_r c1, ex_r c2, ex_r c3, ex_r c4, ex_r c5, ex_r c6, ex_r c7, ex_r c8, ex_r c9, ex_r c10, ex_r c11, ex_r c12, ex_i (nI np), ex_i (nI nd), ex_i sto, ex_i res, ex_r c17, ex_r c18, ex_r c19]), (c3, ex_a 1 6 ta)] ∧ zr = none) := by
  refine X_meth (by decide) (Nat.le_of_ble_eq_true rfl) ?_
  generalize hV : F_X5_pairRest_3 lf al ap gl gb gr ta = V0
  have hV := hV.symm
  unfold F_X5_pairRest_3 at hV
  try dsimp only at hV
  refine X_iload_n (j := 2) dX5_pairRest_0 rfl rfl ?_
  refine X_if_ne (tgt := 35) dX5_pairRest_1 (by decide) (fun c_1 => ?_) (fun c_1 => ?_)
  · have hV := hV.trans (if_neg c_1)
    refine X_iload_n (j := 2) dX5_pairRest_35 rfl rfl ?_
    refine X_callS (rest := [(pg, ex_o 5 [ex_i gl, ex_r g1, ex_r g2]), (g1, ex_a 1 6 gb), (g2, ex_a 1 6 gr), (c, ex_o 0 [ex_r c0, ex_r c1, ex_r c2, ex_r c3, ex_r c4, ex_r c5, ex_r c6, ex_r c7, ex_r c8, ex_r c9, ex_r c10, ex_r c11, ex_r c12, ex_i (nI np), ex_i (nI nd), ex_i sto, ex_i res, ex_r c17, ex_r c18, ex_r c19]), (c3, ex_a 1 6 ta)]) (stk := []) co_X5_45 rfl ⟨(Nat.le_of_ble_eq_true rfl), (Nat.le_of_ble_eq_true rfl)⟩ (e_J6_numberOfTrailingZeros_0f7a4 l (nI lf)) dX5_pairRest_36 [0, 1, 2, 3, 4] (show List.Perm [0, 1, 2, 3, 4] (List.range 5) from by decide) rfl rfl rfl (Nat.le_of_ble_eq_true rfl) (fun zc1 zr hq hk => ?_)
    obtain ⟨rfl, rfl⟩ := hq
    have hl0 : ¬ lf = 0 := fun q => c_1 (by rw [q]; rfl)
    have htz : tz6 lf < 6 := tz_lt hlf hl0
    have hO : lf - 2 ^ tz6 lf < 64 := Nat.lt_of_le_of_lt (Nat.sub_le _ _) hlf
    refine X_eqs (stk' := [ex_i (nI (tz6 lf))]) (by rw [ntz_eq hlf hl0] <;> rfl) ?_
    refine X_istore (lv' := [(5, ex_i (nI (tz6 lf))), (0, ex_r pg), (1, ex_r c), (2, ex_i (nI lf)), (3, ex_i al), (4, ex_i ap)]) dX5_pairRest_39 (Nat.le_of_ble_eq_true rfl) rfl ?_
    refine X_iload_n (j := 3) dX5_pairRest_41 rfl rfl ?_
    refine X_iconst (v := 1) dX5_pairRest_42 (by decide) ?_
    refine X_iload (j := 0) dX5_pairRest_43 rfl ?_
    refine X_ishl (v := (1 <<< ((nI (tz6 lf)) &&& 31))) dX5_pairRest_45 rfl ?_
    refine X_iconst (v := (-1)) dX5_pairRest_46 (by decide) ?_
    refine X_ixor (v := ((1 <<< ((nI (tz6 lf)) &&& 31)) ^^^ (-1))) dX5_pairRest_47 rfl ?_
    refine X_iand (v := nI (lf - 2 ^ tz6 lf)) dX5_pairRest_48 (an_tz hlf hl0) ?_
    refine X_istore (lv' := [(6, ex_i (nI (lf - 2 ^ tz6 lf))), (5, ex_i (nI (tz6 lf))), (0, ex_r pg), (1, ex_r c), (2, ex_i (nI lf)), (3, ex_i al), (4, ex_i ap)]) dX5_pairRest_49 (Nat.le_of_ble_eq_true rfl) rfl ?_
    refine X_iload (j := 1) dX5_pairRest_51 rfl ?_
    refine X_iconst (v := 1) dX5_pairRest_53 (by decide) ?_
    refine X_iadd (v := nI ((tz6 lf) + 1)) dX5_pairRest_54 (nI_add (tz6 lf) 1) ?_
    refine X_istore (lv' := [(7, ex_i (nI ((tz6 lf) + 1))), (6, ex_i (nI (lf - 2 ^ tz6 lf))), (5, ex_i (nI (tz6 lf))), (0, ex_r pg), (1, ex_r c), (2, ex_i (nI lf)), (3, ex_i al), (4, ex_i ap)]) dX5_pairRest_55 (Nat.le_of_ble_eq_true rfl) rfl ?_
    -- loop at 57
    try dsimp only at hV
    generalize hq_v_2 : F_X5_pairRest_3_L57 lf al ap ta (6 - ((tz6 lf) + 1)) ((tz6 lf) + 1) gl gb gr = v_2 at hV
    try dsimp only at hV
    refine X_cut (P := True) (csE := [(pg, ex_o 5 [ex_i v_2.1, ex_r g1, ex_r g2]), (g1, ex_a 1 6 v_2.2.1), (g2, ex_a 1 6 v_2.2.2), (c, ex_o 0 [ex_r c0, ex_r c1, ex_r c2, ex_r c3, ex_r c4, ex_r c5, ex_r c6, ex_r c7, ex_r c8, ex_r c9, ex_r c10, ex_r c11, ex_r c12, ex_i (nI np), ex_i (nI nd), ex_i sto, ex_i res, ex_r c17, ex_r c18, ex_r c19]), (c3, ex_a 1 6 ta)]) (lvE := [(6, ex_i (nI (lf - 2 ^ tz6 lf))), (5, ex_i (nI (tz6 lf))), (0, ex_r pg), (1, ex_r c), (2, ex_i (nI lf)), (3, ex_i al), (4, ex_i ap)]) (E := 139) (fun hrest57 => ?_) (fun hPX57 => ?_)
    · have hL57 := hq_v_2.symm
      refine X_ind (fun (a57 : Nat × Int32 × (Nat → Int32) × (Nat → Int32)) => v_2 = F_X5_pairRest_3_L57 lf al ap ta (6 - a57.1) a57.1 a57.2.1 a57.2.2.1 a57.2.2.2 ∧ a57.1 ≤ 6) (fun (a57 : Nat × Int32 × (Nat → Int32) × (Nat → Int32)) => 6 - a57.1) (fun (a57 : Nat × Int32 × (Nat → Int32) × (Nat → Int32)) => [(pg, ex_o 5 [ex_i a57.2.1, ex_r g1, ex_r g2]), (g1, ex_a 1 6 a57.2.2.1), (g2, ex_a 1 6 a57.2.2.2), (c, ex_o 0 [ex_r c0, ex_r c1, ex_r c2, ex_r c3, ex_r c4, ex_r c5, ex_r c6, ex_r c7, ex_r c8, ex_r c9, ex_r c10, ex_r c11, ex_r c12, ex_i (nI np), ex_i (nI nd), ex_i sto, ex_i res, ex_r c17, ex_r c18, ex_r c19]), (c3, ex_a 1 6 ta)]) (fun (a57 : Nat × Int32 × (Nat → Int32) × (Nat → Int32)) => [(7, ex_i (nI a57.1)), (6, ex_i (nI (lf - 2 ^ tz6 lf))), (5, ex_i (nI (tz6 lf))), (0, ex_r pg), (1, ex_r c), (2, ex_i (nI lf)), (3, ex_i al), (4, ex_i ap)]) (fun ⟨k57, s57_0, s57_1, s57_2⟩ hI57 ih57 => ?_) ((tz6 lf) + 1, gl, gb, gr) ⟨hL57, (by omega)⟩
      try dsimp only at hI57 ih57 ⊢
      have ihc57 : ∀ (k57_ : Nat) (s57_0_ : Int32) (s57_1_ : Nat → Int32) (s57_2_ : Nat → Int32), (v_2 = F_X5_pairRest_3_L57 lf al ap ta (6 - k57_) k57_ s57_0_ s57_1_ s57_2_ ∧ k57_ ≤ 6) → (6 - k57_) < (6 - k57) → ex_O _ _ _ _ _ _ _ _ _ [(pg, ex_o 5 [ex_i s57_0_, ex_r g1, ex_r g2]), (g1, ex_a 1 6 s57_1_), (g2, ex_a 1 6 s57_2_), (c, ex_o 0 [ex_r c0, ex_r c1, ex_r c2, ex_r c3, ex_r c4, ex_r c5, ex_r c6, ex_r c7, ex_r c8, ex_r c9, ex_r c10, ex_r c11, ex_r c12, ex_i (nI np), ex_i (nI nd), ex_i sto, ex_i res, ex_r c17, ex_r c18, ex_r c19]), (c3, ex_a 1 6 ta)] [(7, ex_i (nI k57_)), (6, ex_i (nI (lf - 2 ^ tz6 lf))), (5, ex_i (nI (tz6 lf))), (0, ex_r pg), (1, ex_r c), (2, ex_i (nI lf)), (3, ex_i al), (4, ex_i ap)] _ _ := fun k57_ s57_0_ s57_1_ s57_2_ hi_ hm_ => ih57 (k57_, s57_0_, s57_1_, s57_2_) hi_ hm_
      have hL57 := hI57.1
      have hb57 := hI57.2
      refine X_iload (j := 0) dX5_pairRest_57 rfl ?_
      refine X_bipush (v := 6) dX5_pairRest_59 (by decide) ?_
      refine X_icmp_ge (tgt := 139) dX5_pairRest_61 (by decide) (fun c_3 => ?_) (fun c_3 => ?_)
      · have hlt57 : k57 = 6 := nlex (L := 6) (by omega) hb57 c_3
        rw [show 6 - k57 = 0 by omega] at hL57
        have hL57 := hL57.trans (F_X5_pairRest_3_L57_z ..)
        try dsimp only at hL57
        refine X_lv (lv' := [(6, ex_i (nI (lf - 2 ^ tz6 lf))), (5, ex_i (nI (tz6 lf))), (0, ex_r pg), (1, ex_r c), (2, ex_i (nI lf)), (3, ex_i al), (4, ex_i ap)]) [1, 2, 3, 4, 5, 6, 7] rfl ?_
        refine X_eq (cs' := [(pg, ex_o 5 [ex_i v_2.1, ex_r g1, ex_r g2]), (g1, ex_a 1 6 v_2.2.1), (g2, ex_a 1 6 v_2.2.2), (c, ex_o 0 [ex_r c0, ex_r c1, ex_r c2, ex_r c3, ex_r c4, ex_r c5, ex_r c6, ex_r c7, ex_r c8, ex_r c9, ex_r c10, ex_r c11, ex_r c12, ex_i (nI np), ex_i (nI nd), ex_i sto, ex_i res, ex_r c17, ex_r c18, ex_r c19]), (c3, ex_a 1 6 ta)]) (lv' := [(6, ex_i (nI (lf - 2 ^ tz6 lf))), (5, ex_i (nI (tz6 lf))), (0, ex_r pg), (1, ex_r c), (2, ex_i (nI lf)), (3, ex_i al), (4, ex_i ap)]) (by subst hL57; rfl) (by subst hL57; rfl) ?_
        exact hrest57 trivial
      · have hlt57 : k57 < 6 := nlen (L := 6) (by omega) hb57 c_3
        rw [show 6 - k57 = (6 - (k57 + 1)) + 1 by omega] at hL57
        have hL57 := hL57.trans (F_X5_pairRest_3_L57_s ..)
        refine X_iload (j := 1) dX5_pairRest_64 rfl ?_
        refine X_iload (j := 0) dX5_pairRest_66 rfl ?_
        refine X_ishr (v := ((nI (lf - 2 ^ tz6 lf)) >>> ((nI k57) &&& 31))) dX5_pairRest_68 rfl ?_
        refine X_iconst (v := 1) dX5_pairRest_69 (by decide) ?_
        refine X_iand (v := (((nI (lf - 2 ^ tz6 lf)) >>> ((nI k57) &&& 31)) &&& 1)) dX5_pairRest_70 rfl ?_
        refine X_iconst (v := 1) dX5_pairRest_71 (by decide) ?_
        refine X_icmp_ne (tgt := 133) dX5_pairRest_72 (by decide) (fun c_4 => ?_) (fun c_4 => ?_)
        · have hL57 := hL57.trans (if_neg c_4)
          refine X_iinc (v := nI (k57 + 1)) (j := 0) (lv' := [(7, ex_i (nI (k57 + 1))), (6, ex_i (nI (lf - 2 ^ tz6 lf))), (5, ex_i (nI (tz6 lf))), (0, ex_r pg), (1, ex_r c), (2, ex_i (nI lf)), (3, ex_i al), (4, ex_i ap)]) dX5_pairRest_133 rfl (nI_add k57 1) (Nat.le_of_ble_eq_true rfl) rfl ?_
          refine X_goto (tgt := 57) dX5_pairRest_136 (by decide) ?_
          try dsimp only at hL57
          exact ihc57 (k57 + 1) s57_0 s57_1 s57_2 ⟨hL57, (show (k57 + 1) ≤ 6 by omega)⟩ (show 6 - (k57 + 1) < 6 - k57 by omega)
        · have hL57 := hL57.trans (if_pos c_4)
          refine X_aload_n (j := 3) dX5_pairRest_75 rfl rfl ?_
          refine X_get (j := 0) fo_X5_19 dX5_pairRest_76 rfl rfl ?_
          refine X_iload (j := 2) dX5_pairRest_79 rfl ?_
          refine X_iload (j := 0) dX5_pairRest_81 rfl ?_
          refine X_iast (j := 2) (g := upd s57_2 (tz6 lf) (nI k57)) (cs' := [(pg, ex_o 5 [ex_i s57_0, ex_r g1, ex_r g2]), (g1, ex_a 1 6 s57_1), (g2, ex_a 1 6 (upd s57_2 (tz6 lf) (nI k57))), (c, ex_o 0 [ex_r c0, ex_r c1, ex_r c2, ex_r c3, ex_r c4, ex_r c5, ex_r c6, ex_r c7, ex_r c8, ex_r c9, ex_r c10, ex_r c11, ex_r c12, ex_i (nI np), ex_i (nI nd), ex_i sto, ex_i res, ex_r c17, ex_r c18, ex_r c19]), (c3, ex_a 1 6 ta)]) dX5_pairRest_83 rfl (vp_in_nI (show tz6 lf < 6 by omega) (by decide)) (by rw [nI_clamp (by omega)]) rfl ?_
          refine X_aload_n (j := 3) dX5_pairRest_84 rfl rfl ?_
          refine X_get (j := 0) fo_X5_19 dX5_pairRest_85 rfl rfl ?_
          refine X_iload (j := 0) dX5_pairRest_88 rfl ?_
          refine X_iload (j := 2) dX5_pairRest_90 rfl ?_
          refine X_iast (j := 2) (g := upd (upd s57_2 (tz6 lf) (nI k57)) k57 (nI (tz6 lf))) (cs' := [(pg, ex_o 5 [ex_i s57_0, ex_r g1, ex_r g2]), (g1, ex_a 1 6 s57_1), (g2, ex_a 1 6 (upd (upd s57_2 (tz6 lf) (nI k57)) k57 (nI (tz6 lf)))), (c, ex_o 0 [ex_r c0, ex_r c1, ex_r c2, ex_r c3, ex_r c4, ex_r c5, ex_r c6, ex_r c7, ex_r c8, ex_r c9, ex_r c10, ex_r c11, ex_r c12, ex_i (nI np), ex_i (nI nd), ex_i sto, ex_i res, ex_r c17, ex_r c18, ex_r c19]), (c3, ex_a 1 6 ta)]) dX5_pairRest_92 rfl (vp_in_nI (show k57 < 6 by omega) (by decide)) (by rw [nI_clamp (by omega)]) rfl ?_
          refine X_aload_n (j := 4) dX5_pairRest_93 rfl rfl ?_
          refine X_get (j := 3) fo_X5_48 dX5_pairRest_94 rfl rfl ?_
          refine X_iload (j := 2) dX5_pairRest_97 rfl ?_
          refine X_iald (j := 4) (v := (ta (tz6 lf))) dX5_pairRest_99 rfl (vp_in_nI (show tz6 lf < 6 by omega) (by decide)) (by rw [nI_clamp (by omega)]) ?_
          refine X_aload_n (j := 4) dX5_pairRest_100 rfl rfl ?_
          refine X_get (j := 3) fo_X5_48 dX5_pairRest_101 rfl rfl ?_
          refine X_iload (j := 0) dX5_pairRest_104 rfl ?_
          refine X_iald (j := 4) (v := (ta k57)) dX5_pairRest_106 rfl (vp_in_nI (show k57 < 6 by omega) (by decide)) (by rw [nI_clamp (by omega)]) ?_
          refine X_isub (v := ((ta (tz6 lf)) - (ta k57))) dX5_pairRest_107 rfl ?_
          refine X_mabs (v := (aI ((ta (tz6 lf)) - (ta k57)))) k_1166 k_802 k_17 k_803 ⟨(Nat.le_of_ble_eq_true rfl), (Nat.le_of_ble_eq_true rfl)⟩ (Nat.le_of_ble_eq_true rfl) dX5_pairRest_108 rfl ?_
          refine X_istore (lv' := [(8, ex_i (aI ((ta (tz6 lf)) - (ta k57)))), (7, ex_i (nI k57)), (6, ex_i (nI (lf - 2 ^ tz6 lf))), (5, ex_i (nI (tz6 lf))), (0, ex_r pg), (1, ex_r c), (2, ex_i (nI lf)), (3, ex_i al), (4, ex_i ap)]) dX5_pairRest_111 (Nat.le_of_ble_eq_true rfl) rfl ?_
          refine X_aload_n (j := 4) dX5_pairRest_113 rfl rfl ?_
          refine X_aload_n (j := 5) dX5_pairRest_114 rfl rfl ?_
          refine X_iload (j := 2) dX5_pairRest_115 rfl ?_
          refine X_iconst (v := 1) dX5_pairRest_117 (by decide) ?_
          refine X_iload (j := 1) dX5_pairRest_118 rfl ?_
          refine X_ishl (v := (1 <<< ((nI k57) &&& 31))) dX5_pairRest_120 rfl ?_
          refine X_iconst (v := (-1)) dX5_pairRest_121 (by decide) ?_
          refine X_ixor (v := ((1 <<< ((nI k57) &&& 31)) ^^^ (-1))) dX5_pairRest_122 rfl ?_
          refine X_iand (v := nI ((lf - 2 ^ tz6 lf) - 2 ^ k57)) dX5_pairRest_123 (an_bit hO (by omega) c_4) ?_
          refine X_iload_n (j := 7) dX5_pairRest_124 rfl rfl ?_
          refine X_iload (j := 8) dX5_pairRest_125 rfl ?_
          refine X_iload (j := 0) dX5_pairRest_127 rfl ?_
          refine X_iadd (v := (ap + (aI ((ta (tz6 lf)) - (ta k57))))) dX5_pairRest_129 rfl ?_
          refine X_callV (j0 := 0) (rest := []) (stk := []) co_X5_35 rfl ⟨(Nat.le_of_ble_eq_true rfl), (Nat.le_of_ble_eq_true rfl)⟩ (e_X5_pairRest_2 l pg c ((lf - 2 ^ tz6 lf) - 2 ^ k57) al (ap + (aI ((ta (tz6 lf)) - (ta k57)))) s57_0 g1 g2 s57_1 (upd (upd s57_2 (tz6 lf) (nI k57)) k57 (nI (tz6 lf))) c0 c1 c2 c3 c4 c5 c6 c7 c8 c9 c10 c11 c12 np nd sto res c17 c18 c19 ta (Nat.lt_of_le_of_lt (Nat.sub_le _ _) hO) (bi_bit hO (by omega) c_4 (bi_tz hlf hl0 hb))) dX5_pairRest_130 [0, 1, 2, 3, 4] (show List.Perm [0, 1, 2, 3, 4] (List.range 5) from by decide) rfl rfl rfl rfl (Nat.le_of_ble_eq_true rfl) (fun zc1 zr hq hk => ?_)
          obtain ⟨rfl, rfl⟩ := hq
          try dsimp only at hL57
          generalize hq_w_5 : F_X5_pairRest_2 ((lf - 2 ^ tz6 lf) - 2 ^ k57) al (ap + (aI ((ta (tz6 lf)) - (ta k57)))) s57_0 s57_1 (upd (upd s57_2 (tz6 lf) (nI k57)) k57 (nI (tz6 lf))) ta = w_5 at hL57 ⊢
          try dsimp only at hL57
          refine X_iinc (v := nI (k57 + 1)) (j := 1) (lv' := [(7, ex_i (nI (k57 + 1))), (8, ex_i (aI ((ta (tz6 lf)) - (ta k57)))), (6, ex_i (nI (lf - 2 ^ tz6 lf))), (5, ex_i (nI (tz6 lf))), (0, ex_r pg), (1, ex_r c), (2, ex_i (nI lf)), (3, ex_i al), (4, ex_i ap)]) dX5_pairRest_133 rfl (nI_add k57 1) (Nat.le_of_ble_eq_true rfl) rfl ?_
          refine X_goto (tgt := 57) dX5_pairRest_136 (by decide) ?_
          try dsimp only at hL57
          refine X_lv (lv' := [(7, ex_i (nI (k57 + 1))), (6, ex_i (nI (lf - 2 ^ tz6 lf))), (5, ex_i (nI (tz6 lf))), (0, ex_r pg), (1, ex_r c), (2, ex_i (nI lf)), (3, ex_i al), (4, ex_i ap)]) [0, 2, 3, 4, 5, 6, 7, 8] rfl ?_
          exact ihc57 (k57 + 1) w_5.1 w_5.2.1 w_5.2.2 ⟨hL57, (show (k57 + 1) ≤ 6 by omega)⟩ (show 6 - (k57 + 1) < 6 - k57 by omega)
    refine X_aload_n (j := 2) dX5_pairRest_139 rfl rfl ?_
    refine X_get (j := 0) fo_X5_19 dX5_pairRest_140 rfl rfl ?_
    refine X_iload (j := 1) dX5_pairRest_143 rfl ?_
    refine X_iconst (v := (-1)) dX5_pairRest_145 (by decide) ?_
    refine X_iast (j := 2) (g := upd v_2.2.2 (tz6 lf) (-1)) (cs' := [(pg, ex_o 5 [ex_i v_2.1, ex_r g1, ex_r g2]), (g1, ex_a 1 6 v_2.2.1), (g2, ex_a 1 6 (upd v_2.2.2 (tz6 lf) (-1))), (c, ex_o 0 [ex_r c0, ex_r c1, ex_r c2, ex_r c3, ex_r c4, ex_r c5, ex_r c6, ex_r c7, ex_r c8, ex_r c9, ex_r c10, ex_r c11, ex_r c12, ex_i (nI np), ex_i (nI nd), ex_i sto, ex_i res, ex_r c17, ex_r c18, ex_r c19]), (c3, ex_a 1 6 ta)]) dX5_pairRest_146 rfl (vp_in_nI (show tz6 lf < 6 by omega) (by decide)) (by rw [nI_clamp (by omega)]) rfl ?_
    refine X_iload_n (j := 5) dX5_pairRest_147 rfl rfl ?_
    refine X_if_eq (tgt := 161) dX5_pairRest_148 (by decide) (fun c_6 => ?_) (fun c_6 => ?_)
    · have hV := hV.trans (if_pos c_6)
      try dsimp only at hV
      exact X_vret dX5_pairRest_161 (by (repeat refine ex_kc ?_) <;> rfl) (by subst hV; exact ⟨rfl, rfl⟩)
    · have hV := hV.trans (if_neg c_6)
      refine X_aload_n (j := 2) dX5_pairRest_151 rfl rfl ?_
      refine X_aload_n (j := 3) dX5_pairRest_152 rfl rfl ?_
      refine X_iload (j := 0) dX5_pairRest_153 rfl ?_
      refine X_iconst (v := 0) dX5_pairRest_155 (by decide) ?_
      refine X_iload (j := 6) dX5_pairRest_156 rfl ?_
      refine X_callV (j0 := 0) (rest := []) (stk := []) co_X5_35 rfl ⟨(Nat.le_of_ble_eq_true rfl), (Nat.le_of_ble_eq_true rfl)⟩ (e_X5_pairRest_2 l pg c (lf - 2 ^ tz6 lf) 0 ap v_2.1 g1 g2 v_2.2.1 (upd v_2.2.2 (tz6 lf) (-1)) c0 c1 c2 c3 c4 c5 c6 c7 c8 c9 c10 c11 c12 np nd sto res c17 c18 c19 ta hO (bi_tz hlf hl0 hb)) dX5_pairRest_158 [0, 1, 2, 3, 4] (show List.Perm [0, 1, 2, 3, 4] (List.range 5) from by decide) rfl rfl rfl rfl (Nat.le_of_ble_eq_true rfl) (fun zc1 zr hq hk => ?_)
      obtain ⟨rfl, rfl⟩ := hq
      try dsimp only at hV
      generalize hq_w_7 : F_X5_pairRest_2 (lf - 2 ^ tz6 lf) 0 ap v_2.1 v_2.2.1 (upd v_2.2.2 (tz6 lf) (-1)) ta = w_7 at hV ⊢
      try dsimp only at hV
      try dsimp only at hV
      exact X_vret dX5_pairRest_161 (by (repeat refine ex_kc ?_) <;> rfl) (by subst hV; exact ⟨rfl, rfl⟩)
  · have hV := hV.trans (if_pos c_1)
    refine X_iload (j := 4) dX5_pairRest_4 rfl ?_
    refine X_aload_n (j := 0) dX5_pairRest_6 rfl rfl ?_
    refine X_get (j := 0) fo_X5_9 dX5_pairRest_7 rfl rfl ?_
    refine X_icmp_ge (tgt := 34) dX5_pairRest_10 (by decide) (fun c_8 => ?_) (fun c_8 => ?_)
    · have hV := hV.trans (if_pos c_8)
      try dsimp only at hV
      exact X_vret dX5_pairRest_34 (by (repeat refine ex_kc ?_) <;> rfl) (by subst hV; exact ⟨rfl, rfl⟩)
    · have hV := hV.trans (if_neg c_8)
      refine X_aload_n (j := 0) dX5_pairRest_13 rfl rfl ?_
      refine X_iload (j := 4) dX5_pairRest_14 rfl ?_
      refine X_put (j := 0) (cs' := [(pg, ex_o 5 [ex_i ap, ex_r g1, ex_r g2]), (g1, ex_a 1 6 gb), (g2, ex_a 1 6 gr), (c, ex_o 0 [ex_r c0, ex_r c1, ex_r c2, ex_r c3, ex_r c4, ex_r c5, ex_r c6, ex_r c7, ex_r c8, ex_r c9, ex_r c10, ex_r c11, ex_r c12, ex_i (nI np), ex_i (nI nd), ex_i sto, ex_i res, ex_r c17, ex_r c18, ex_r c19]), (c3, ex_a 1 6 ta)]) fo_X5_9 (by decide) dX5_pairRest_16 rfl (Nat.le_of_ble_eq_true rfl) trivial rfl ?_
      refine X_aload_n (j := 0) dX5_pairRest_19 rfl rfl ?_
      refine X_get (j := 0) fo_X5_19 dX5_pairRest_20 rfl rfl ?_
      refine X_iconst (v := 0) dX5_pairRest_23 (by decide) ?_
      refine X_aload_n (j := 0) dX5_pairRest_24 rfl rfl ?_
      refine X_get (j := 0) fo_X5_15 dX5_pairRest_25 rfl rfl ?_
      refine X_iconst (v := 0) dX5_pairRest_28 (by decide) ?_
      refine X_bipush (v := 6) dX5_pairRest_29 (by decide) ?_
      refine X_copy (j := 2) (j2 := 1) (cs' := [(pg, ex_o 5 [ex_i ap, ex_r g1, ex_r g2]), (g1, ex_a 1 6 (va_cpy gr gb 0 0 6)), (g2, ex_a 1 6 gr), (c, ex_o 0 [ex_r c0, ex_r c1, ex_r c2, ex_r c3, ex_r c4, ex_r c5, ex_r c6, ex_r c7, ex_r c8, ex_r c9, ex_r c10, ex_r c11, ex_r c12, ex_i (nI np), ex_i (nI nd), ex_i sto, ex_i res, ex_r c17, ex_r c18, ex_r c19]), (c3, ex_a 1 6 ta)]) k_1161 k_961 k_960 k_21 ⟨(Nat.le_of_ble_eq_true rfl), (Nat.le_of_ble_eq_true rfl)⟩ dX5_pairRest_31 rfl rfl (by decide) (by decide) (by decide) (by decide) (by decide) rfl (by decide) ?_
      try dsimp only at hV
      exact X_vret dX5_pairRest_34 (by (repeat refine ex_kc ?_) <;> rfl) (by subst hV; exact ⟨rfl, rfl⟩)

def F_X5_pairRest_4_L57 (lf : Nat) (al : Int32) (ap : Int32) (ta : Nat → Int32) : Nat → Nat → Int32 → (Nat → Int32) → (Nat → Int32) → Int32 × (Nat → Int32) × (Nat → Int32)
  | 0, k57, s57_0, s57_1, s57_2 => (s57_0, s57_1, s57_2)
  | zn + 1, k57, s57_0, s57_1, s57_2 => (if (((nI (lf - 2 ^ tz6 lf)) >>> ((nI k57) &&& 31)) &&& 1) = 1 then ((fun (w_5 : Int32 × (Nat → Int32) × (Nat → Int32)) => F_X5_pairRest_4_L57 lf al ap ta zn (k57 + 1) w_5.1 w_5.2.1 w_5.2.2) (F_X5_pairRest_3 ((lf - 2 ^ tz6 lf) - 2 ^ k57) al (ap + (aI ((ta (tz6 lf)) - (ta k57)))) s57_0 s57_1 (upd (upd s57_2 (tz6 lf) (nI k57)) k57 (nI (tz6 lf))) ta)) else F_X5_pairRest_4_L57 lf al ap ta zn (k57 + 1) s57_0 s57_1 s57_2)
theorem F_X5_pairRest_4_L57_z (lf : Nat) (al : Int32) (ap : Int32) (ta : Nat → Int32) (k57 : Nat) (s57_0 : Int32) (s57_1 : Nat → Int32) (s57_2 : Nat → Int32) : F_X5_pairRest_4_L57 lf al ap ta 0 k57 s57_0 s57_1 s57_2 = (s57_0, s57_1, s57_2) := rfl
theorem F_X5_pairRest_4_L57_s (lf : Nat) (al : Int32) (ap : Int32) (ta : Nat → Int32) (k57 : Nat) (s57_0 : Int32) (s57_1 : Nat → Int32) (s57_2 : Nat → Int32) (zn : Nat) : F_X5_pairRest_4_L57 lf al ap ta (zn + 1) k57 s57_0 s57_1 s57_2 = (if (((nI (lf - 2 ^ tz6 lf)) >>> ((nI k57) &&& 31)) &&& 1) = 1 then ((fun (w_5 : Int32 × (Nat → Int32) × (Nat → Int32)) => F_X5_pairRest_4_L57 lf al ap ta zn (k57 + 1) w_5.1 w_5.2.1 w_5.2.2) (F_X5_pairRest_3 ((lf - 2 ^ tz6 lf) - 2 ^ k57) al (ap + (aI ((ta (tz6 lf)) - (ta k57)))) s57_0 s57_1 (upd (upd s57_2 (tz6 lf) (nI k57)) k57 (nI (tz6 lf))) ta)) else F_X5_pairRest_4_L57 lf al ap ta zn (k57 + 1) s57_0 s57_1 s57_2) := rfl
def F_X5_pairRest_4 (lf : Nat) (al : Int32) (ap : Int32) (gl : Int32) (gb : Nat → Int32) (gr : Nat → Int32) (ta : Nat → Int32) : Int32 × (Nat → Int32) × (Nat → Int32) := (if (nI lf) = 0 then (if gl ≤ ap then (gl, gb, gr) else (ap, va_cpy gr gb 0 0 6, gr)) else ((fun (v_2 : Int32 × (Nat → Int32) × (Nat → Int32)) => (if al = 0 then (v_2.1, v_2.2.1, upd v_2.2.2 (tz6 lf) (-1)) else ((fun (w_7 : Int32 × (Nat → Int32) × (Nat → Int32)) => (w_7.1, w_7.2.1, w_7.2.2)) (F_X5_pairRest_3 (lf - 2 ^ tz6 lf) 0 ap v_2.1 v_2.2.1 (upd v_2.2.2 (tz6 lf) (-1)) ta)))) (F_X5_pairRest_4_L57 lf al ap ta (6 - ((tz6 lf) + 1)) ((tz6 lf) + 1) gl gb gr)))
set_option maxHeartbeats 4000000 in
set_option maxRecDepth 100000 in
theorem e_X5_pairRest_4 (l : Launch) (pg : Nat) (c : Nat) (lf : Nat) (al : Int32) (ap : Int32) (gl : Int32) (g1 : Nat) (g2 : Nat) (gb : Nat → Int32) (gr : Nat → Int32) (c0 : Nat) (c1 : Nat) (c2 : Nat) (c3 : Nat) (c4 : Nat) (c5 : Nat) (c6 : Nat) (c7 : Nat) (c8 : Nat) (c9 : Nat) (c10 : Nat) (c11 : Nat) (c12 : Nat) (np : Nat) (nd : Nat) (sto : Int32) (res : Int32) (c17 : Nat) (c18 : Nat) (c19 : Nat) (ta : Nat → Int32) (hlf : lf < 64) (hb : bits6 lf ≤ 4) : ex_M l yX5_pairRest cX5_pairRest 9 none 5 152 [ex_r pg, ex_r c, ex_i (nI lf), ex_i al, ex_i ap] [(pg, ex_o 5 [ex_i gl, ex_r g1, ex_r g2]), (g1, ex_a 1 6 gb), (g2, ex_a 1 6 gr), (c, ex_o 0 [ex_r c0, ex_r c1, ex_r c2, ex_r c3, ex_r c4, ex_r c5, ex_r c6, ex_r c7, ex_r c8, ex_r c9, ex_r c10, ex_r c11, ex_r c12, ex_i (nI np), ex_i (nI nd), ex_i sto, ex_i res, ex_r c17, ex_r c18, ex_r c19]), (c3, ex_a 1 6 ta)] (fun zcs zr => zcs = [(pg, ex_o 5 [ex_i ((F_X5_pairRest_4 lf al ap gl gb gr ta).1), ex_r g1, ex_r g2]), (g1, ex_a 1 6 ((F_X5_pairRest_4 lf al ap gl gb gr ta).2.1)), (g2, ex_a 1 6 ((F_X5_pairRest_4 lf al ap gl gb gr ta).2.2)), (c, ex_o 0 [ex_r c0, ex_r c1, ex_r c2, ex_r c3, ex_r c4, ex_r c5, ex_r c6, ex_r c7, ex_r c8, ex_r c9, ex_r c10, ex_r c11, ex_r c12, ex_i (nI np), ex_i (nI nd), ex_i sto, ex_i res, ex_r c17, ex_r c18, ex_r c19]), (c3, ex_a 1 6 ta)] ∧ zr = none) := by
  refine X_meth (by decide) (Nat.le_of_ble_eq_true rfl) ?_
  generalize hV : F_X5_pairRest_4 lf al ap gl gb gr ta = V0
  have hV := hV.symm
  unfold F_X5_pairRest_4 at hV
  try dsimp only at hV
  refine X_iload_n (j := 2) dX5_pairRest_0 rfl rfl ?_
  refine X_if_ne (tgt := 35) dX5_pairRest_1 (by decide) (fun c_1 => ?_) (fun c_1 => ?_)
  · have hV := hV.trans (if_neg c_1)
    refine X_iload_n (j := 2) dX5_pairRest_35 rfl rfl ?_
    refine X_callS (rest := [(pg, ex_o 5 [ex_i gl, ex_r g1, ex_r g2]), (g1, ex_a 1 6 gb), (g2, ex_a 1 6 gr), (c, ex_o 0 [ex_r c0, ex_r c1, ex_r c2, ex_r c3, ex_r c4, ex_r c5, ex_r c6, ex_r c7, ex_r c8, ex_r c9, ex_r c10, ex_r c11, ex_r c12, ex_i (nI np), ex_i (nI nd), ex_i sto, ex_i res, ex_r c17, ex_r c18, ex_r c19]), (c3, ex_a 1 6 ta)]) (stk := []) co_X5_45 rfl ⟨(Nat.le_of_ble_eq_true rfl), (Nat.le_of_ble_eq_true rfl)⟩ (e_J6_numberOfTrailingZeros_0f7a4 l (nI lf)) dX5_pairRest_36 [0, 1, 2, 3, 4] (show List.Perm [0, 1, 2, 3, 4] (List.range 5) from by decide) rfl rfl rfl (Nat.le_of_ble_eq_true rfl) (fun zc1 zr hq hk => ?_)
    obtain ⟨rfl, rfl⟩ := hq
    have hl0 : ¬ lf = 0 := fun q => c_1 (by rw [q]; rfl)
    have htz : tz6 lf < 6 := tz_lt hlf hl0
    have hO : lf - 2 ^ tz6 lf < 64 := Nat.lt_of_le_of_lt (Nat.sub_le _ _) hlf
    refine X_eqs (stk' := [ex_i (nI (tz6 lf))]) (by rw [ntz_eq hlf hl0] <;> rfl) ?_
    refine X_istore (lv' := [(5, ex_i (nI (tz6 lf))), (0, ex_r pg), (1, ex_r c), (2, ex_i (nI lf)), (3, ex_i al), (4, ex_i ap)]) dX5_pairRest_39 (Nat.le_of_ble_eq_true rfl) rfl ?_
    refine X_iload_n (j := 3) dX5_pairRest_41 rfl rfl ?_
    refine X_iconst (v := 1) dX5_pairRest_42 (by decide) ?_
    refine X_iload (j := 0) dX5_pairRest_43 rfl ?_
    refine X_ishl (v := (1 <<< ((nI (tz6 lf)) &&& 31))) dX5_pairRest_45 rfl ?_
    refine X_iconst (v := (-1)) dX5_pairRest_46 (by decide) ?_
    refine X_ixor (v := ((1 <<< ((nI (tz6 lf)) &&& 31)) ^^^ (-1))) dX5_pairRest_47 rfl ?_
    refine X_iand (v := nI (lf - 2 ^ tz6 lf)) dX5_pairRest_48 (an_tz hlf hl0) ?_
    refine X_istore (lv' := [(6, ex_i (nI (lf - 2 ^ tz6 lf))), (5, ex_i (nI (tz6 lf))), (0, ex_r pg), (1, ex_r c), (2, ex_i (nI lf)), (3, ex_i al), (4, ex_i ap)]) dX5_pairRest_49 (Nat.le_of_ble_eq_true rfl) rfl ?_
    refine X_iload (j := 1) dX5_pairRest_51 rfl ?_
    refine X_iconst (v := 1) dX5_pairRest_53 (by decide) ?_
    refine X_iadd (v := nI ((tz6 lf) + 1)) dX5_pairRest_54 (nI_add (tz6 lf) 1) ?_
    refine X_istore (lv' := [(7, ex_i (nI ((tz6 lf) + 1))), (6, ex_i (nI (lf - 2 ^ tz6 lf))), (5, ex_i (nI (tz6 lf))), (0, ex_r pg), (1, ex_r c), (2, ex_i (nI lf)), (3, ex_i al), (4, ex_i ap)]) dX5_pairRest_55 (Nat.le_of_ble_eq_true rfl) rfl ?_
    -- loop at 57
    try dsimp only at hV
    generalize hq_v_2 : F_X5_pairRest_4_L57 lf al ap ta (6 - ((tz6 lf) + 1)) ((tz6 lf) + 1) gl gb gr = v_2 at hV
    try dsimp only at hV
    refine X_cut (P := True) (csE := [(pg, ex_o 5 [ex_i v_2.1, ex_r g1, ex_r g2]), (g1, ex_a 1 6 v_2.2.1), (g2, ex_a 1 6 v_2.2.2), (c, ex_o 0 [ex_r c0, ex_r c1, ex_r c2, ex_r c3, ex_r c4, ex_r c5, ex_r c6, ex_r c7, ex_r c8, ex_r c9, ex_r c10, ex_r c11, ex_r c12, ex_i (nI np), ex_i (nI nd), ex_i sto, ex_i res, ex_r c17, ex_r c18, ex_r c19]), (c3, ex_a 1 6 ta)]) (lvE := [(6, ex_i (nI (lf - 2 ^ tz6 lf))), (5, ex_i (nI (tz6 lf))), (0, ex_r pg), (1, ex_r c), (2, ex_i (nI lf)), (3, ex_i al), (4, ex_i ap)]) (E := 139) (fun hrest57 => ?_) (fun hPX57 => ?_)
    · have hL57 := hq_v_2.symm
      refine X_ind (fun (a57 : Nat × Int32 × (Nat → Int32) × (Nat → Int32)) => v_2 = F_X5_pairRest_4_L57 lf al ap ta (6 - a57.1) a57.1 a57.2.1 a57.2.2.1 a57.2.2.2 ∧ a57.1 ≤ 6) (fun (a57 : Nat × Int32 × (Nat → Int32) × (Nat → Int32)) => 6 - a57.1) (fun (a57 : Nat × Int32 × (Nat → Int32) × (Nat → Int32)) => [(pg, ex_o 5 [ex_i a57.2.1, ex_r g1, ex_r g2]), (g1, ex_a 1 6 a57.2.2.1), (g2, ex_a 1 6 a57.2.2.2), (c, ex_o 0 [ex_r c0, ex_r c1, ex_r c2, ex_r c3, ex_r c4, ex_r c5, ex_r c6, ex_r c7, ex_r c8, ex_r c9, ex_r c10, ex_r c11, ex_r c12, ex_i (nI np), ex_i (nI nd), ex_i sto, ex_i res, ex_r c17, ex_r c18, ex_r c19]), (c3, ex_a 1 6 ta)]) (fun (a57 : Nat × Int32 × (Nat → Int32) × (Nat → Int32)) => [(7, ex_i (nI a57.1)), (6, ex_i (nI (lf - 2 ^ tz6 lf))), (5, ex_i (nI (tz6 lf))), (0, ex_r pg), (1, ex_r c), (2, ex_i (nI lf)), (3, ex_i al), (4, ex_i ap)]) (fun ⟨k57, s57_0, s57_1, s57_2⟩ hI57 ih57 => ?_) ((tz6 lf) + 1, gl, gb, gr) ⟨hL57, (by omega)⟩
      try dsimp only at hI57 ih57 ⊢
      have ihc57 : ∀ (k57_ : Nat) (s57_0_ : Int32) (s57_1_ : Nat → Int32) (s57_2_ : Nat → Int32), (v_2 = F_X5_pairRest_4_L57 lf al ap ta (6 - k57_) k57_ s57_0_ s57_1_ s57_2_ ∧ k57_ ≤ 6) → (6 - k57_) < (6 - k57) → ex_O _ _ _ _ _ _ _ _ _ [(pg, ex_o 5 [ex_i s57_0_, ex_r g1, ex_r g2]), (g1, ex_a 1 6 s57_1_), (g2, ex_a 1 6 s57_2_), (c, ex_o 0 [ex_r c0, ex_r c1, ex_r c2, ex_r c3, ex_r c4, ex_r c5, ex_r c6, ex_r c7, ex_r c8, ex_r c9, ex_r c10, ex_r c11, ex_r c12, ex_i (nI np), ex_i (nI nd), ex_i sto, ex_i res, ex_r c17, ex_r c18, ex_r c19]), (c3, ex_a 1 6 ta)] [(7, ex_i (nI k57_)), (6, ex_i (nI (lf - 2 ^ tz6 lf))), (5, ex_i (nI (tz6 lf))), (0, ex_r pg), (1, ex_r c), (2, ex_i (nI lf)), (3, ex_i al), (4, ex_i ap)] _ _ := fun k57_ s57_0_ s57_1_ s57_2_ hi_ hm_ => ih57 (k57_, s57_0_, s57_1_, s57_2_) hi_ hm_
      have hL57 := hI57.1
      have hb57 := hI57.2
      refine X_iload (j := 0) dX5_pairRest_57 rfl ?_
      refine X_bipush (v := 6) dX5_pairRest_59 (by decide) ?_
      refine X_icmp_ge (tgt := 139) dX5_pairRest_61 (by decide) (fun c_3 => ?_) (fun c_3 => ?_)
      · have hlt57 : k57 = 6 := nlex (L := 6) (by omega) hb57 c_3
        rw [show 6 - k57 = 0 by omega] at hL57
        have hL57 := hL57.trans (F_X5_pairRest_4_L57_z ..)
        try dsimp only at hL57
        refine X_lv (lv' := [(6, ex_i (nI (lf - 2 ^ tz6 lf))), (5, ex_i (nI (tz6 lf))), (0, ex_r pg), (1, ex_r c), (2, ex_i (nI lf)), (3, ex_i al), (4, ex_i ap)]) [1, 2, 3, 4, 5, 6, 7] rfl ?_
        refine X_eq (cs' := [(pg, ex_o 5 [ex_i v_2.1, ex_r g1, ex_r g2]), (g1, ex_a 1 6 v_2.2.1), (g2, ex_a 1 6 v_2.2.2), (c, ex_o 0 [ex_r c0, ex_r c1, ex_r c2, ex_r c3, ex_r c4, ex_r c5, ex_r c6, ex_r c7, ex_r c8, ex_r c9, ex_r c10, ex_r c11, ex_r c12, ex_i (nI np), ex_i (nI nd), ex_i sto, ex_i res, ex_r c17, ex_r c18, ex_r c19]), (c3, ex_a 1 6 ta)]) (lv' := [(6, ex_i (nI (lf - 2 ^ tz6 lf))), (5, ex_i (nI (tz6 lf))), (0, ex_r pg), (1, ex_r c), (2, ex_i (nI lf)), (3, ex_i al), (4, ex_i ap)]) (by subst hL57; rfl) (by subst hL57; rfl) ?_
        exact hrest57 trivial
      · have hlt57 : k57 < 6 := nlen (L := 6) (by omega) hb57 c_3
        rw [show 6 - k57 = (6 - (k57 + 1)) + 1 by omega] at hL57
        have hL57 := hL57.trans (F_X5_pairRest_4_L57_s ..)
        refine X_iload (j := 1) dX5_pairRest_64 rfl ?_
        refine X_iload (j := 0) dX5_pairRest_66 rfl ?_
        refine X_ishr (v := ((nI (lf - 2 ^ tz6 lf)) >>> ((nI k57) &&& 31))) dX5_pairRest_68 rfl ?_
        refine X_iconst (v := 1) dX5_pairRest_69 (by decide) ?_
        refine X_iand (v := (((nI (lf - 2 ^ tz6 lf)) >>> ((nI k57) &&& 31)) &&& 1)) dX5_pairRest_70 rfl ?_
        refine X_iconst (v := 1) dX5_pairRest_71 (by decide) ?_
        refine X_icmp_ne (tgt := 133) dX5_pairRest_72 (by decide) (fun c_4 => ?_) (fun c_4 => ?_)
        · have hL57 := hL57.trans (if_neg c_4)
          refine X_iinc (v := nI (k57 + 1)) (j := 0) (lv' := [(7, ex_i (nI (k57 + 1))), (6, ex_i (nI (lf - 2 ^ tz6 lf))), (5, ex_i (nI (tz6 lf))), (0, ex_r pg), (1, ex_r c), (2, ex_i (nI lf)), (3, ex_i al), (4, ex_i ap)]) dX5_pairRest_133 rfl (nI_add k57 1) (Nat.le_of_ble_eq_true rfl) rfl ?_
          refine X_goto (tgt := 57) dX5_pairRest_136 (by decide) ?_
          try dsimp only at hL57
          exact ihc57 (k57 + 1) s57_0 s57_1 s57_2 ⟨hL57, (show (k57 + 1) ≤ 6 by omega)⟩ (show 6 - (k57 + 1) < 6 - k57 by omega)
        · have hL57 := hL57.trans (if_pos c_4)
          refine X_aload_n (j := 3) dX5_pairRest_75 rfl rfl ?_
          refine X_get (j := 0) fo_X5_19 dX5_pairRest_76 rfl rfl ?_
          refine X_iload (j := 2) dX5_pairRest_79 rfl ?_
          refine X_iload (j := 0) dX5_pairRest_81 rfl ?_
          refine X_iast (j := 2) (g := upd s57_2 (tz6 lf) (nI k57)) (cs' := [(pg, ex_o 5 [ex_i s57_0, ex_r g1, ex_r g2]), (g1, ex_a 1 6 s57_1), (g2, ex_a 1 6 (upd s57_2 (tz6 lf) (nI k57))), (c, ex_o 0 [ex_r c0, ex_r c1, ex_r c2, ex_r c3, ex_r c4, ex_r c5, ex_r c6, ex_r c7, ex_r c8, ex_r c9, ex_r c10, ex_r c11, ex_r c12, ex_i (nI np), ex_i (nI nd), ex_i sto, ex_i res, ex_r c17, ex_r c18, ex_r c19]), (c3, ex_a 1 6 ta)]) dX5_pairRest_83 rfl (vp_in_nI (show tz6 lf < 6 by omega) (by decide)) (by rw [nI_clamp (by omega)]) rfl ?_
          refine X_aload_n (j := 3) dX5_pairRest_84 rfl rfl ?_
          refine X_get (j := 0) fo_X5_19 dX5_pairRest_85 rfl rfl ?_
          refine X_iload (j := 0) dX5_pairRest_88 rfl ?_
          refine X_iload (j := 2) dX5_pairRest_90 rfl ?_
          refine X_iast (j := 2) (g := upd (upd s57_2 (tz6 lf) (nI k57)) k57 (nI (tz6 lf))) (cs' := [(pg, ex_o 5 [ex_i s57_0, ex_r g1, ex_r g2]), (g1, ex_a 1 6 s57_1), (g2, ex_a 1 6 (upd (upd s57_2 (tz6 lf) (nI k57)) k57 (nI (tz6 lf)))), (c, ex_o 0 [ex_r c0, ex_r c1, ex_r c2, ex_r c3, ex_r c4, ex_r c5, ex_r c6, ex_r c7, ex_r c8, ex_r c9, ex_r c10, ex_r c11, ex_r c12, ex_i (nI np), ex_i (nI nd), ex_i sto, ex_i res, ex_r c17, ex_r c18, ex_r c19]), (c3, ex_a 1 6 ta)]) dX5_pairRest_92 rfl (vp_in_nI (show k57 < 6 by omega) (by decide)) (by rw [nI_clamp (by omega)]) rfl ?_
          refine X_aload_n (j := 4) dX5_pairRest_93 rfl rfl ?_
          refine X_get (j := 3) fo_X5_48 dX5_pairRest_94 rfl rfl ?_
          refine X_iload (j := 2) dX5_pairRest_97 rfl ?_
          refine X_iald (j := 4) (v := (ta (tz6 lf))) dX5_pairRest_99 rfl (vp_in_nI (show tz6 lf < 6 by omega) (by decide)) (by rw [nI_clamp (by omega)]) ?_
          refine X_aload_n (j := 4) dX5_pairRest_100 rfl rfl ?_
          refine X_get (j := 3) fo_X5_48 dX5_pairRest_101 rfl rfl ?_
          refine X_iload (j := 0) dX5_pairRest_104 rfl ?_
          refine X_iald (j := 4) (v := (ta k57)) dX5_pairRest_106 rfl (vp_in_nI (show k57 < 6 by omega) (by decide)) (by rw [nI_clamp (by omega)]) ?_
          refine X_isub (v := ((ta (tz6 lf)) - (ta k57))) dX5_pairRest_107 rfl ?_
          refine X_mabs (v := (aI ((ta (tz6 lf)) - (ta k57)))) k_1166 k_802 k_17 k_803 ⟨(Nat.le_of_ble_eq_true rfl), (Nat.le_of_ble_eq_true rfl)⟩ (Nat.le_of_ble_eq_true rfl) dX5_pairRest_108 rfl ?_
          refine X_istore (lv' := [(8, ex_i (aI ((ta (tz6 lf)) - (ta k57)))), (7, ex_i (nI k57)), (6, ex_i (nI (lf - 2 ^ tz6 lf))), (5, ex_i (nI (tz6 lf))), (0, ex_r pg), (1, ex_r c), (2, ex_i (nI lf)), (3, ex_i al), (4, ex_i ap)]) dX5_pairRest_111 (Nat.le_of_ble_eq_true rfl) rfl ?_
          refine X_aload_n (j := 4) dX5_pairRest_113 rfl rfl ?_
          refine X_aload_n (j := 5) dX5_pairRest_114 rfl rfl ?_
          refine X_iload (j := 2) dX5_pairRest_115 rfl ?_
          refine X_iconst (v := 1) dX5_pairRest_117 (by decide) ?_
          refine X_iload (j := 1) dX5_pairRest_118 rfl ?_
          refine X_ishl (v := (1 <<< ((nI k57) &&& 31))) dX5_pairRest_120 rfl ?_
          refine X_iconst (v := (-1)) dX5_pairRest_121 (by decide) ?_
          refine X_ixor (v := ((1 <<< ((nI k57) &&& 31)) ^^^ (-1))) dX5_pairRest_122 rfl ?_
          refine X_iand (v := nI ((lf - 2 ^ tz6 lf) - 2 ^ k57)) dX5_pairRest_123 (an_bit hO (by omega) c_4) ?_
          refine X_iload_n (j := 7) dX5_pairRest_124 rfl rfl ?_
          refine X_iload (j := 8) dX5_pairRest_125 rfl ?_
          refine X_iload (j := 0) dX5_pairRest_127 rfl ?_
          refine X_iadd (v := (ap + (aI ((ta (tz6 lf)) - (ta k57))))) dX5_pairRest_129 rfl ?_
          refine X_callV (j0 := 0) (rest := []) (stk := []) co_X5_35 rfl ⟨(Nat.le_of_ble_eq_true rfl), (Nat.le_of_ble_eq_true rfl)⟩ (e_X5_pairRest_3 l pg c ((lf - 2 ^ tz6 lf) - 2 ^ k57) al (ap + (aI ((ta (tz6 lf)) - (ta k57)))) s57_0 g1 g2 s57_1 (upd (upd s57_2 (tz6 lf) (nI k57)) k57 (nI (tz6 lf))) c0 c1 c2 c3 c4 c5 c6 c7 c8 c9 c10 c11 c12 np nd sto res c17 c18 c19 ta (Nat.lt_of_le_of_lt (Nat.sub_le _ _) hO) (bi_bit hO (by omega) c_4 (bi_tz hlf hl0 hb))) dX5_pairRest_130 [0, 1, 2, 3, 4] (show List.Perm [0, 1, 2, 3, 4] (List.range 5) from by decide) rfl rfl rfl rfl (Nat.le_of_ble_eq_true rfl) (fun zc1 zr hq hk => ?_)
          obtain ⟨rfl, rfl⟩ := hq
          try dsimp only at hL57
          generalize hq_w_5 : F_X5_pairRest_3 ((lf - 2 ^ tz6 lf) - 2 ^ k57) al (ap + (aI ((ta (tz6 lf)) - (ta k57)))) s57_0 s57_1 (upd (upd s57_2 (tz6 lf) (nI k57)) k57 (nI (tz6 lf))) ta = w_5 at hL57 ⊢
          try dsimp only at hL57
          refine X_iinc (v := nI (k57 + 1)) (j := 1) (lv' := [(7, ex_i (nI (k57 + 1))), (8, ex_i (aI ((ta (tz6 lf)) - (ta k57)))), (6, ex_i (nI (lf - 2 ^ tz6 lf))), (5, ex_i (nI (tz6 lf))), (0, ex_r pg), (1, ex_r c), (2, ex_i (nI lf)), (3, ex_i al), (4, ex_i ap)]) dX5_pairRest_133 rfl (nI_add k57 1) (Nat.le_of_ble_eq_true rfl) rfl ?_
          refine X_goto (tgt := 57) dX5_pairRest_136 (by decide) ?_
          try dsimp only at hL57
          refine X_lv (lv' := [(7, ex_i (nI (k57 + 1))), (6, ex_i (nI (lf - 2 ^ tz6 lf))), (5, ex_i (nI (tz6 lf))), (0, ex_r pg), (1, ex_r c), (2, ex_i (nI lf)), (3, ex_i al), (4, ex_i ap)]) [0, 2, 3, 4, 5, 6, 7, 8] rfl ?_
          exact ihc57 (k57 + 1) w_5.1 w_5.2.1 w_5.2.2 ⟨hL57, (show (k57 + 1) ≤ 6 by omega)⟩ (show 6 - (k57 + 1) < 6 - k57 by omega)
    refine X_aload_n (j := 2) dX5_pairRest_139 rfl rfl ?_
    refine X_get (j := 0) fo_X5_19 dX5_pairRest_140 rfl rfl ?_
    refine X_iload (j := 1) dX5_pairRest_143 rfl ?_
    refine X_iconst (v := (-1)) dX5_pairRest_145 (by decide) ?_
    refine X_iast (j := 2) (g := upd v_2.2.2 (tz6 lf) (-1)) (cs' := [(pg, ex_o 5 [ex_i v_2.1, ex_r g1, ex_r g2]), (g1, ex_a 1 6 v_2.2.1), (g2, ex_a 1 6 (upd v_2.2.2 (tz6 lf) (-1))), (c, ex_o 0 [ex_r c0, ex_r c1, ex_r c2, ex_r c3, ex_r c4, ex_r c5, ex_r c6, ex_r c7, ex_r c8, ex_r c9, ex_r c10, ex_r c11, ex_r c12, ex_i (nI np), ex_i (nI nd), ex_i sto, ex_i res, ex_r c17, ex_r c18, ex_r c19]), (c3, ex_a 1 6 ta)]) dX5_pairRest_146 rfl (vp_in_nI (show tz6 lf < 6 by omega) (by decide)) (by rw [nI_clamp (by omega)]) rfl ?_
    refine X_iload_n (j := 5) dX5_pairRest_147 rfl rfl ?_
    refine X_if_eq (tgt := 161) dX5_pairRest_148 (by decide) (fun c_6 => ?_) (fun c_6 => ?_)
    · have hV := hV.trans (if_pos c_6)
      try dsimp only at hV
      exact X_vret dX5_pairRest_161 (by (repeat refine ex_kc ?_) <;> rfl) (by subst hV; exact ⟨rfl, rfl⟩)
    · have hV := hV.trans (if_neg c_6)
      refine X_aload_n (j := 2) dX5_pairRest_151 rfl rfl ?_
      refine X_aload_n (j := 3) dX5_pairRest_152 rfl rfl ?_
      refine X_iload (j := 0) dX5_pairRest_153 rfl ?_
      refine X_iconst (v := 0) dX5_pairRest_155 (by decide) ?_
      refine X_iload (j := 6) dX5_pairRest_156 rfl ?_
      refine X_callV (j0 := 0) (rest := []) (stk := []) co_X5_35 rfl ⟨(Nat.le_of_ble_eq_true rfl), (Nat.le_of_ble_eq_true rfl)⟩ (e_X5_pairRest_3 l pg c (lf - 2 ^ tz6 lf) 0 ap v_2.1 g1 g2 v_2.2.1 (upd v_2.2.2 (tz6 lf) (-1)) c0 c1 c2 c3 c4 c5 c6 c7 c8 c9 c10 c11 c12 np nd sto res c17 c18 c19 ta hO (bi_tz hlf hl0 hb)) dX5_pairRest_158 [0, 1, 2, 3, 4] (show List.Perm [0, 1, 2, 3, 4] (List.range 5) from by decide) rfl rfl rfl rfl (Nat.le_of_ble_eq_true rfl) (fun zc1 zr hq hk => ?_)
      obtain ⟨rfl, rfl⟩ := hq
      try dsimp only at hV
      generalize hq_w_7 : F_X5_pairRest_3 (lf - 2 ^ tz6 lf) 0 ap v_2.1 v_2.2.1 (upd v_2.2.2 (tz6 lf) (-1)) ta = w_7 at hV ⊢
      try dsimp only at hV
      try dsimp only at hV
      exact X_vret dX5_pairRest_161 (by (repeat refine ex_kc ?_) <;> rfl) (by subst hV; exact ⟨rfl, rfl⟩)
  · have hV := hV.trans (if_pos c_1)
    refine X_iload (j := 4) dX5_pairRest_4 rfl ?_
    refine X_aload_n (j := 0) dX5_pairRest_6 rfl rfl ?_
    refine X_get (j := 0) fo_X5_9 dX5_pairRest_7 rfl rfl ?_
    refine X_icmp_ge (tgt := 34) dX5_pairRest_10 (by decide) (fun c_8 => ?_) (fun c_8 => ?_)
    · have hV := hV.trans (if_pos c_8)
      try dsimp only at hV
      exact X_vret dX5_pairRest_34 (by (repeat refine ex_kc ?_) <;> rfl) (by subst hV; exact ⟨rfl, rfl⟩)
    · have hV := hV.trans (if_neg c_8)
      refine X_aload_n (j := 0) dX5_pairRest_13 rfl rfl ?_
      refine X_iload (j := 4) dX5_pairRest_14 rfl ?_
      refine X_put (j := 0) (cs' := [(pg, ex_o 5 [ex_i ap, ex_r g1, ex_r g2]), (g1, ex_a 1 6 gb), (g2, ex_a 1 6 gr), (c, ex_o 0 [ex_r c0, ex_r c1, ex_r c2, ex_r c3, ex_r c4, ex_r c5, ex_r c6, ex_r c7, ex_r c8, ex_r c9, ex_r c10, ex_r c11, ex_r c12, ex_i (nI np), ex_i (nI nd), ex_i sto, ex_i res, ex_r c17, ex_r c18, ex_r c19]), (c3, ex_a 1 6 ta)]) fo_X5_9 (by decide) dX5_pairRest_16 rfl (Nat.le_of_ble_eq_true rfl) trivial rfl ?_
      refine X_aload_n (j := 0) dX5_pairRest_19 rfl rfl ?_
      refine X_get (j := 0) fo_X5_19 dX5_pairRest_20 rfl rfl ?_
      refine X_iconst (v := 0) dX5_pairRest_23 (by decide) ?_
      refine X_aload_n (j := 0) dX5_pairRest_24 rfl rfl ?_
      refine X_get (j := 0) fo_X5_15 dX5_pairRest_25 rfl rfl ?_
      refine X_iconst (v := 0) dX5_pairRest_28 (by decide) ?_
      refine X_bipush (v := 6) dX5_pairRest_29 (by decide) ?_
      refine X_copy (j := 2) (j2 := 1) (cs' := [(pg, ex_o 5 [ex_i ap, ex_r g1, ex_r g2]), (g1, ex_a 1 6 (va_cpy gr gb 0 0 6)), (g2, ex_a 1 6 gr), (c, ex_o 0 [ex_r c0, ex_r c1, ex_r c2, ex_r c3, ex_r c4, ex_r c5, ex_r c6, ex_r c7, ex_r c8, ex_r c9, ex_r c10, ex_r c11, ex_r c12, ex_i (nI np), ex_i (nI nd), ex_i sto, ex_i res, ex_r c17, ex_r c18, ex_r c19]), (c3, ex_a 1 6 ta)]) k_1161 k_961 k_960 k_21 ⟨(Nat.le_of_ble_eq_true rfl), (Nat.le_of_ble_eq_true rfl)⟩ dX5_pairRest_31 rfl rfl (by decide) (by decide) (by decide) (by decide) (by decide) rfl (by decide) ?_
      try dsimp only at hV
      exact X_vret dX5_pairRest_34 (by (repeat refine ex_kc ?_) <;> rfl) (by subst hV; exact ⟨rfl, rfl⟩)

def F_X5_pairRest_5_L57 (lf : Nat) (al : Int32) (ap : Int32) (ta : Nat → Int32) : Nat → Nat → Int32 → (Nat → Int32) → (Nat → Int32) → Int32 × (Nat → Int32) × (Nat → Int32)
  | 0, k57, s57_0, s57_1, s57_2 => (s57_0, s57_1, s57_2)
  | zn + 1, k57, s57_0, s57_1, s57_2 => (if (((nI (lf - 2 ^ tz6 lf)) >>> ((nI k57) &&& 31)) &&& 1) = 1 then ((fun (w_5 : Int32 × (Nat → Int32) × (Nat → Int32)) => F_X5_pairRest_5_L57 lf al ap ta zn (k57 + 1) w_5.1 w_5.2.1 w_5.2.2) (F_X5_pairRest_4 ((lf - 2 ^ tz6 lf) - 2 ^ k57) al (ap + (aI ((ta (tz6 lf)) - (ta k57)))) s57_0 s57_1 (upd (upd s57_2 (tz6 lf) (nI k57)) k57 (nI (tz6 lf))) ta)) else F_X5_pairRest_5_L57 lf al ap ta zn (k57 + 1) s57_0 s57_1 s57_2)
theorem F_X5_pairRest_5_L57_z (lf : Nat) (al : Int32) (ap : Int32) (ta : Nat → Int32) (k57 : Nat) (s57_0 : Int32) (s57_1 : Nat → Int32) (s57_2 : Nat → Int32) : F_X5_pairRest_5_L57 lf al ap ta 0 k57 s57_0 s57_1 s57_2 = (s57_0, s57_1, s57_2) := rfl
theorem F_X5_pairRest_5_L57_s (lf : Nat) (al : Int32) (ap : Int32) (ta : Nat → Int32) (k57 : Nat) (s57_0 : Int32) (s57_1 : Nat → Int32) (s57_2 : Nat → Int32) (zn : Nat) : F_X5_pairRest_5_L57 lf al ap ta (zn + 1) k57 s57_0 s57_1 s57_2 = (if (((nI (lf - 2 ^ tz6 lf)) >>> ((nI k57) &&& 31)) &&& 1) = 1 then ((fun (w_5 : Int32 × (Nat → Int32) × (Nat → Int32)) => F_X5_pairRest_5_L57 lf al ap ta zn (k57 + 1) w_5.1 w_5.2.1 w_5.2.2) (F_X5_pairRest_4 ((lf - 2 ^ tz6 lf) - 2 ^ k57) al (ap + (aI ((ta (tz6 lf)) - (ta k57)))) s57_0 s57_1 (upd (upd s57_2 (tz6 lf) (nI k57)) k57 (nI (tz6 lf))) ta)) else F_X5_pairRest_5_L57 lf al ap ta zn (k57 + 1) s57_0 s57_1 s57_2) := rfl
def F_X5_pairRest_5 (lf : Nat) (al : Int32) (ap : Int32) (gl : Int32) (gb : Nat → Int32) (gr : Nat → Int32) (ta : Nat → Int32) : Int32 × (Nat → Int32) × (Nat → Int32) := (if (nI lf) = 0 then (if gl ≤ ap then (gl, gb, gr) else (ap, va_cpy gr gb 0 0 6, gr)) else ((fun (v_2 : Int32 × (Nat → Int32) × (Nat → Int32)) => (if al = 0 then (v_2.1, v_2.2.1, upd v_2.2.2 (tz6 lf) (-1)) else ((fun (w_7 : Int32 × (Nat → Int32) × (Nat → Int32)) => (w_7.1, w_7.2.1, w_7.2.2)) (F_X5_pairRest_4 (lf - 2 ^ tz6 lf) 0 ap v_2.1 v_2.2.1 (upd v_2.2.2 (tz6 lf) (-1)) ta)))) (F_X5_pairRest_5_L57 lf al ap ta (6 - ((tz6 lf) + 1)) ((tz6 lf) + 1) gl gb gr)))
set_option maxHeartbeats 4000000 in
set_option maxRecDepth 100000 in
theorem e_X5_pairRest_5 (l : Launch) (pg : Nat) (c : Nat) (lf : Nat) (al : Int32) (ap : Int32) (gl : Int32) (g1 : Nat) (g2 : Nat) (gb : Nat → Int32) (gr : Nat → Int32) (c0 : Nat) (c1 : Nat) (c2 : Nat) (c3 : Nat) (c4 : Nat) (c5 : Nat) (c6 : Nat) (c7 : Nat) (c8 : Nat) (c9 : Nat) (c10 : Nat) (c11 : Nat) (c12 : Nat) (np : Nat) (nd : Nat) (sto : Int32) (res : Int32) (c17 : Nat) (c18 : Nat) (c19 : Nat) (ta : Nat → Int32) (hlf : lf < 64) (hb : bits6 lf ≤ 5) : ex_M l yX5_pairRest cX5_pairRest 9 none 6 180 [ex_r pg, ex_r c, ex_i (nI lf), ex_i al, ex_i ap] [(pg, ex_o 5 [ex_i gl, ex_r g1, ex_r g2]), (g1, ex_a 1 6 gb), (g2, ex_a 1 6 gr), (c, ex_o 0 [ex_r c0, ex_r c1, ex_r c2, ex_r c3, ex_r c4, ex_r c5, ex_r c6, ex_r c7, ex_r c8, ex_r c9, ex_r c10, ex_r c11, ex_r c12, ex_i (nI np), ex_i (nI nd), ex_i sto, ex_i res, ex_r c17, ex_r c18, ex_r c19]), (c3, ex_a 1 6 ta)] (fun zcs zr => zcs = [(pg, ex_o 5 [ex_i ((F_X5_pairRest_5 lf al ap gl gb gr ta).1), ex_r g1, ex_r g2]), (g1, ex_a 1 6 ((F_X5_pairRest_5 lf al ap gl gb gr ta).2.1)), (g2, ex_a 1 6 ((F_X5_pairRest_5 lf al ap gl gb gr ta).2.2)), (c, ex_o 0 [ex_r c0, ex_r c1, ex_r c2, ex_r c3, ex_r c4, ex_r c5, ex_r c6, ex_r c7, ex_r c8, ex_r c9, ex_r c10, ex_r c11, ex_r c12, ex_i (nI np), ex_i (nI nd), ex_i sto, ex_i res, ex_r c17, ex_r c18, ex_r c19]), (c3, ex_a 1 6 ta)] ∧ zr = none) := by
  refine X_meth (by decide) (Nat.le_of_ble_eq_true rfl) ?_
  generalize hV : F_X5_pairRest_5 lf al ap gl gb gr ta = V0
  have hV := hV.symm
  unfold F_X5_pairRest_5 at hV
  try dsimp only at hV
  refine X_iload_n (j := 2) dX5_pairRest_0 rfl rfl ?_
  refine X_if_ne (tgt := 35) dX5_pairRest_1 (by decide) (fun c_1 => ?_) (fun c_1 => ?_)
  · have hV := hV.trans (if_neg c_1)
    refine X_iload_n (j := 2) dX5_pairRest_35 rfl rfl ?_
    refine X_callS (rest := [(pg, ex_o 5 [ex_i gl, ex_r g1, ex_r g2]), (g1, ex_a 1 6 gb), (g2, ex_a 1 6 gr), (c, ex_o 0 [ex_r c0, ex_r c1, ex_r c2, ex_r c3, ex_r c4, ex_r c5, ex_r c6, ex_r c7, ex_r c8, ex_r c9, ex_r c10, ex_r c11, ex_r c12, ex_i (nI np), ex_i (nI nd), ex_i sto, ex_i res, ex_r c17, ex_r c18, ex_r c19]), (c3, ex_a 1 6 ta)]) (stk := []) co_X5_45 rfl ⟨(Nat.le_of_ble_eq_true rfl), (Nat.le_of_ble_eq_true rfl)⟩ (e_J6_numberOfTrailingZeros_0f7a4 l (nI lf)) dX5_pairRest_36 [0, 1, 2, 3, 4] (show List.Perm [0, 1, 2, 3, 4] (List.range 5) from by decide) rfl rfl rfl (Nat.le_of_ble_eq_true rfl) (fun zc1 zr hq hk => ?_)
    obtain ⟨rfl, rfl⟩ := hq
    have hl0 : ¬ lf = 0 := fun q => c_1 (by rw [q]; rfl)
    have htz : tz6 lf < 6 := tz_lt hlf hl0
    have hO : lf - 2 ^ tz6 lf < 64 := Nat.lt_of_le_of_lt (Nat.sub_le _ _) hlf
    refine X_eqs (stk' := [ex_i (nI (tz6 lf))]) (by rw [ntz_eq hlf hl0] <;> rfl) ?_
    refine X_istore (lv' := [(5, ex_i (nI (tz6 lf))), (0, ex_r pg), (1, ex_r c), (2, ex_i (nI lf)), (3, ex_i al), (4, ex_i ap)]) dX5_pairRest_39 (Nat.le_of_ble_eq_true rfl) rfl ?_
    refine X_iload_n (j := 3) dX5_pairRest_41 rfl rfl ?_
    refine X_iconst (v := 1) dX5_pairRest_42 (by decide) ?_
    refine X_iload (j := 0) dX5_pairRest_43 rfl ?_
    refine X_ishl (v := (1 <<< ((nI (tz6 lf)) &&& 31))) dX5_pairRest_45 rfl ?_
    refine X_iconst (v := (-1)) dX5_pairRest_46 (by decide) ?_
    refine X_ixor (v := ((1 <<< ((nI (tz6 lf)) &&& 31)) ^^^ (-1))) dX5_pairRest_47 rfl ?_
    refine X_iand (v := nI (lf - 2 ^ tz6 lf)) dX5_pairRest_48 (an_tz hlf hl0) ?_
    refine X_istore (lv' := [(6, ex_i (nI (lf - 2 ^ tz6 lf))), (5, ex_i (nI (tz6 lf))), (0, ex_r pg), (1, ex_r c), (2, ex_i (nI lf)), (3, ex_i al), (4, ex_i ap)]) dX5_pairRest_49 (Nat.le_of_ble_eq_true rfl) rfl ?_
    refine X_iload (j := 1) dX5_pairRest_51 rfl ?_
    refine X_iconst (v := 1) dX5_pairRest_53 (by decide) ?_
    refine X_iadd (v := nI ((tz6 lf) + 1)) dX5_pairRest_54 (nI_add (tz6 lf) 1) ?_
    refine X_istore (lv' := [(7, ex_i (nI ((tz6 lf) + 1))), (6, ex_i (nI (lf - 2 ^ tz6 lf))), (5, ex_i (nI (tz6 lf))), (0, ex_r pg), (1, ex_r c), (2, ex_i (nI lf)), (3, ex_i al), (4, ex_i ap)]) dX5_pairRest_55 (Nat.le_of_ble_eq_true rfl) rfl ?_
    -- loop at 57
    try dsimp only at hV
    generalize hq_v_2 : F_X5_pairRest_5_L57 lf al ap ta (6 - ((tz6 lf) + 1)) ((tz6 lf) + 1) gl gb gr = v_2 at hV
    try dsimp only at hV
    refine X_cut (P := True) (csE := [(pg, ex_o 5 [ex_i v_2.1, ex_r g1, ex_r g2]), (g1, ex_a 1 6 v_2.2.1), (g2, ex_a 1 6 v_2.2.2), (c, ex_o 0 [ex_r c0, ex_r c1, ex_r c2, ex_r c3, ex_r c4, ex_r c5, ex_r c6, ex_r c7, ex_r c8, ex_r c9, ex_r c10, ex_r c11, ex_r c12, ex_i (nI np), ex_i (nI nd), ex_i sto, ex_i res, ex_r c17, ex_r c18, ex_r c19]), (c3, ex_a 1 6 ta)]) (lvE := [(6, ex_i (nI (lf - 2 ^ tz6 lf))), (5, ex_i (nI (tz6 lf))), (0, ex_r pg), (1, ex_r c), (2, ex_i (nI lf)), (3, ex_i al), (4, ex_i ap)]) (E := 139) (fun hrest57 => ?_) (fun hPX57 => ?_)
    · have hL57 := hq_v_2.symm
      refine X_ind (fun (a57 : Nat × Int32 × (Nat → Int32) × (Nat → Int32)) => v_2 = F_X5_pairRest_5_L57 lf al ap ta (6 - a57.1) a57.1 a57.2.1 a57.2.2.1 a57.2.2.2 ∧ a57.1 ≤ 6) (fun (a57 : Nat × Int32 × (Nat → Int32) × (Nat → Int32)) => 6 - a57.1) (fun (a57 : Nat × Int32 × (Nat → Int32) × (Nat → Int32)) => [(pg, ex_o 5 [ex_i a57.2.1, ex_r g1, ex_r g2]), (g1, ex_a 1 6 a57.2.2.1), (g2, ex_a 1 6 a57.2.2.2), (c, ex_o 0 [ex_r c0, ex_r c1, ex_r c2, ex_r c3, ex_r c4, ex_r c5, ex_r c6, ex_r c7, ex_r c8, ex_r c9, ex_r c10, ex_r c11, ex_r c12, ex_i (nI np), ex_i (nI nd), ex_i sto, ex_i res, ex_r c17, ex_r c18, ex_r c19]), (c3, ex_a 1 6 ta)]) (fun (a57 : Nat × Int32 × (Nat → Int32) × (Nat → Int32)) => [(7, ex_i (nI a57.1)), (6, ex_i (nI (lf - 2 ^ tz6 lf))), (5, ex_i (nI (tz6 lf))), (0, ex_r pg), (1, ex_r c), (2, ex_i (nI lf)), (3, ex_i al), (4, ex_i ap)]) (fun ⟨k57, s57_0, s57_1, s57_2⟩ hI57 ih57 => ?_) ((tz6 lf) + 1, gl, gb, gr) ⟨hL57, (by omega)⟩
      try dsimp only at hI57 ih57 ⊢
      have ihc57 : ∀ (k57_ : Nat) (s57_0_ : Int32) (s57_1_ : Nat → Int32) (s57_2_ : Nat → Int32), (v_2 = F_X5_pairRest_5_L57 lf al ap ta (6 - k57_) k57_ s57_0_ s57_1_ s57_2_ ∧ k57_ ≤ 6) → (6 - k57_) < (6 - k57) → ex_O _ _ _ _ _ _ _ _ _ [(pg, ex_o 5 [ex_i s57_0_, ex_r g1, ex_r g2]), (g1, ex_a 1 6 s57_1_), (g2, ex_a 1 6 s57_2_), (c, ex_o 0 [ex_r c0, ex_r c1, ex_r c2, ex_r c3, ex_r c4, ex_r c5, ex_r c6, ex_r c7, ex_r c8, ex_r c9, ex_r c10, ex_r c11, ex_r c12, ex_i (nI np), ex_i (nI nd), ex_i sto, ex_i res, ex_r c17, ex_r c18, ex_r c19]), (c3, ex_a 1 6 ta)] [(7, ex_i (nI k57_)), (6, ex_i (nI (lf - 2 ^ tz6 lf))), (5, ex_i (nI (tz6 lf))), (0, ex_r pg), (1, ex_r c), (2, ex_i (nI lf)), (3, ex_i al), (4, ex_i ap)] _ _ := fun k57_ s57_0_ s57_1_ s57_2_ hi_ hm_ => ih57 (k57_, s57_0_, s57_1_, s57_2_) hi_ hm_
      have hL57 := hI57.1
      have hb57 := hI57.2
      refine X_iload (j := 0) dX5_pairRest_57 rfl ?_
      refine X_bipush (v := 6) dX5_pairRest_59 (by decide) ?_
      refine X_icmp_ge (tgt := 139) dX5_pairRest_61 (by decide) (fun c_3 => ?_) (fun c_3 => ?_)
      · have hlt57 : k57 = 6 := nlex (L := 6) (by omega) hb57 c_3
        rw [show 6 - k57 = 0 by omega] at hL57
        have hL57 := hL57.trans (F_X5_pairRest_5_L57_z ..)
        try dsimp only at hL57
        refine X_lv (lv' := [(6, ex_i (nI (lf - 2 ^ tz6 lf))), (5, ex_i (nI (tz6 lf))), (0, ex_r pg), (1, ex_r c), (2, ex_i (nI lf)), (3, ex_i al), (4, ex_i ap)]) [1, 2, 3, 4, 5, 6, 7] rfl ?_
        refine X_eq (cs' := [(pg, ex_o 5 [ex_i v_2.1, ex_r g1, ex_r g2]), (g1, ex_a 1 6 v_2.2.1), (g2, ex_a 1 6 v_2.2.2), (c, ex_o 0 [ex_r c0, ex_r c1, ex_r c2, ex_r c3, ex_r c4, ex_r c5, ex_r c6, ex_r c7, ex_r c8, ex_r c9, ex_r c10, ex_r c11, ex_r c12, ex_i (nI np), ex_i (nI nd), ex_i sto, ex_i res, ex_r c17, ex_r c18, ex_r c19]), (c3, ex_a 1 6 ta)]) (lv' := [(6, ex_i (nI (lf - 2 ^ tz6 lf))), (5, ex_i (nI (tz6 lf))), (0, ex_r pg), (1, ex_r c), (2, ex_i (nI lf)), (3, ex_i al), (4, ex_i ap)]) (by subst hL57; rfl) (by subst hL57; rfl) ?_
        exact hrest57 trivial
      · have hlt57 : k57 < 6 := nlen (L := 6) (by omega) hb57 c_3
        rw [show 6 - k57 = (6 - (k57 + 1)) + 1 by omega] at hL57
        have hL57 := hL57.trans (F_X5_pairRest_5_L57_s ..)
        refine X_iload (j := 1) dX5_pairRest_64 rfl ?_
        refine X_iload (j := 0) dX5_pairRest_66 rfl ?_
        refine X_ishr (v := ((nI (lf - 2 ^ tz6 lf)) >>> ((nI k57) &&& 31))) dX5_pairRest_68 rfl ?_
        refine X_iconst (v := 1) dX5_pairRest_69 (by decide) ?_
        refine X_iand (v := (((nI (lf - 2 ^ tz6 lf)) >>> ((nI k57) &&& 31)) &&& 1)) dX5_pairRest_70 rfl ?_
        refine X_iconst (v := 1) dX5_pairRest_71 (by decide) ?_
        refine X_icmp_ne (tgt := 133) dX5_pairRest_72 (by decide) (fun c_4 => ?_) (fun c_4 => ?_)
        · have hL57 := hL57.trans (if_neg c_4)
          refine X_iinc (v := nI (k57 + 1)) (j := 0) (lv' := [(7, ex_i (nI (k57 + 1))), (6, ex_i (nI (lf - 2 ^ tz6 lf))), (5, ex_i (nI (tz6 lf))), (0, ex_r pg), (1, ex_r c), (2, ex_i (nI lf)), (3, ex_i al), (4, ex_i ap)]) dX5_pairRest_133 rfl (nI_add k57 1) (Nat.le_of_ble_eq_true rfl) rfl ?_
          refine X_goto (tgt := 57) dX5_pairRest_136 (by decide) ?_
          try dsimp only at hL57
          exact ihc57 (k57 + 1) s57_0 s57_1 s57_2 ⟨hL57, (show (k57 + 1) ≤ 6 by omega)⟩ (show 6 - (k57 + 1) < 6 - k57 by omega)
        · have hL57 := hL57.trans (if_pos c_4)
          refine X_aload_n (j := 3) dX5_pairRest_75 rfl rfl ?_
          refine X_get (j := 0) fo_X5_19 dX5_pairRest_76 rfl rfl ?_
          refine X_iload (j := 2) dX5_pairRest_79 rfl ?_
          refine X_iload (j := 0) dX5_pairRest_81 rfl ?_
          refine X_iast (j := 2) (g := upd s57_2 (tz6 lf) (nI k57)) (cs' := [(pg, ex_o 5 [ex_i s57_0, ex_r g1, ex_r g2]), (g1, ex_a 1 6 s57_1), (g2, ex_a 1 6 (upd s57_2 (tz6 lf) (nI k57))), (c, ex_o 0 [ex_r c0, ex_r c1, ex_r c2, ex_r c3, ex_r c4, ex_r c5, ex_r c6, ex_r c7, ex_r c8, ex_r c9, ex_r c10, ex_r c11, ex_r c12, ex_i (nI np), ex_i (nI nd), ex_i sto, ex_i res, ex_r c17, ex_r c18, ex_r c19]), (c3, ex_a 1 6 ta)]) dX5_pairRest_83 rfl (vp_in_nI (show tz6 lf < 6 by omega) (by decide)) (by rw [nI_clamp (by omega)]) rfl ?_
          refine X_aload_n (j := 3) dX5_pairRest_84 rfl rfl ?_
          refine X_get (j := 0) fo_X5_19 dX5_pairRest_85 rfl rfl ?_
          refine X_iload (j := 0) dX5_pairRest_88 rfl ?_
          refine X_iload (j := 2) dX5_pairRest_90 rfl ?_
          refine X_iast (j := 2) (g := upd (upd s57_2 (tz6 lf) (nI k57)) k57 (nI (tz6 lf))) (cs' := [(pg, ex_o 5 [ex_i s57_0, ex_r g1, ex_r g2]), (g1, ex_a 1 6 s57_1), (g2, ex_a 1 6 (upd (upd s57_2 (tz6 lf) (nI k57)) k57 (nI (tz6 lf)))), (c, ex_o 0 [ex_r c0, ex_r c1, ex_r c2, ex_r c3, ex_r c4, ex_r c5, ex_r c6, ex_r c7, ex_r c8, ex_r c9, ex_r c10, ex_r c11, ex_r c12, ex_i (nI np), ex_i (nI nd), ex_i sto, ex_i res, ex_r c17, ex_r c18, ex_r c19]), (c3, ex_a 1 6 ta)]) dX5_pairRest_92 rfl (vp_in_nI (show k57 < 6 by omega) (by decide)) (by rw [nI_clamp (by omega)]) rfl ?_
          refine X_aload_n (j := 4) dX5_pairRest_93 rfl rfl ?_
          refine X_get (j := 3) fo_X5_48 dX5_pairRest_94 rfl rfl ?_
          refine X_iload (j := 2) dX5_pairRest_97 rfl ?_
          refine X_iald (j := 4) (v := (ta (tz6 lf))) dX5_pairRest_99 rfl (vp_in_nI (show tz6 lf < 6 by omega) (by decide)) (by rw [nI_clamp (by omega)]) ?_
          refine X_aload_n (j := 4) dX5_pairRest_100 rfl rfl ?_
          refine X_get (j := 3) fo_X5_48 dX5_pairRest_101 rfl rfl ?_
          refine X_iload (j := 0) dX5_pairRest_104 rfl ?_
          refine X_iald (j := 4) (v := (ta k57)) dX5_pairRest_106 rfl (vp_in_nI (show k57 < 6 by omega) (by decide)) (by rw [nI_clamp (by omega)]) ?_
          refine X_isub (v := ((ta (tz6 lf)) - (ta k57))) dX5_pairRest_107 rfl ?_
          refine X_mabs (v := (aI ((ta (tz6 lf)) - (ta k57)))) k_1166 k_802 k_17 k_803 ⟨(Nat.le_of_ble_eq_true rfl), (Nat.le_of_ble_eq_true rfl)⟩ (Nat.le_of_ble_eq_true rfl) dX5_pairRest_108 rfl ?_
          refine X_istore (lv' := [(8, ex_i (aI ((ta (tz6 lf)) - (ta k57)))), (7, ex_i (nI k57)), (6, ex_i (nI (lf - 2 ^ tz6 lf))), (5, ex_i (nI (tz6 lf))), (0, ex_r pg), (1, ex_r c), (2, ex_i (nI lf)), (3, ex_i al), (4, ex_i ap)]) dX5_pairRest_111 (Nat.le_of_ble_eq_true rfl) rfl ?_
          refine X_aload_n (j := 4) dX5_pairRest_113 rfl rfl ?_
          refine X_aload_n (j := 5) dX5_pairRest_114 rfl rfl ?_
          refine X_iload (j := 2) dX5_pairRest_115 rfl ?_
          refine X_iconst (v := 1) dX5_pairRest_117 (by decide) ?_
          refine X_iload (j := 1) dX5_pairRest_118 rfl ?_
          refine X_ishl (v := (1 <<< ((nI k57) &&& 31))) dX5_pairRest_120 rfl ?_
          refine X_iconst (v := (-1)) dX5_pairRest_121 (by decide) ?_
          refine X_ixor (v := ((1 <<< ((nI k57) &&& 31)) ^^^ (-1))) dX5_pairRest_122 rfl ?_
          refine X_iand (v := nI ((lf - 2 ^ tz6 lf) - 2 ^ k57)) dX5_pairRest_123 (an_bit hO (by omega) c_4) ?_
          refine X_iload_n (j := 7) dX5_pairRest_124 rfl rfl ?_
          refine X_iload (j := 8) dX5_pairRest_125 rfl ?_
          refine X_iload (j := 0) dX5_pairRest_127 rfl ?_
          refine X_iadd (v := (ap + (aI ((ta (tz6 lf)) - (ta k57))))) dX5_pairRest_129 rfl ?_
          refine X_callV (j0 := 0) (rest := []) (stk := []) co_X5_35 rfl ⟨(Nat.le_of_ble_eq_true rfl), (Nat.le_of_ble_eq_true rfl)⟩ (e_X5_pairRest_4 l pg c ((lf - 2 ^ tz6 lf) - 2 ^ k57) al (ap + (aI ((ta (tz6 lf)) - (ta k57)))) s57_0 g1 g2 s57_1 (upd (upd s57_2 (tz6 lf) (nI k57)) k57 (nI (tz6 lf))) c0 c1 c2 c3 c4 c5 c6 c7 c8 c9 c10 c11 c12 np nd sto res c17 c18 c19 ta (Nat.lt_of_le_of_lt (Nat.sub_le _ _) hO) (bi_bit hO (by omega) c_4 (bi_tz hlf hl0 hb))) dX5_pairRest_130 [0, 1, 2, 3, 4] (show List.Perm [0, 1, 2, 3, 4] (List.range 5) from by decide) rfl rfl rfl rfl (Nat.le_of_ble_eq_true rfl) (fun zc1 zr hq hk => ?_)
          obtain ⟨rfl, rfl⟩ := hq
          try dsimp only at hL57
          generalize hq_w_5 : F_X5_pairRest_4 ((lf - 2 ^ tz6 lf) - 2 ^ k57) al (ap + (aI ((ta (tz6 lf)) - (ta k57)))) s57_0 s57_1 (upd (upd s57_2 (tz6 lf) (nI k57)) k57 (nI (tz6 lf))) ta = w_5 at hL57 ⊢
          try dsimp only at hL57
          refine X_iinc (v := nI (k57 + 1)) (j := 1) (lv' := [(7, ex_i (nI (k57 + 1))), (8, ex_i (aI ((ta (tz6 lf)) - (ta k57)))), (6, ex_i (nI (lf - 2 ^ tz6 lf))), (5, ex_i (nI (tz6 lf))), (0, ex_r pg), (1, ex_r c), (2, ex_i (nI lf)), (3, ex_i al), (4, ex_i ap)]) dX5_pairRest_133 rfl (nI_add k57 1) (Nat.le_of_ble_eq_true rfl) rfl ?_
          refine X_goto (tgt := 57) dX5_pairRest_136 (by decide) ?_
          try dsimp only at hL57
          refine X_lv (lv' := [(7, ex_i (nI (k57 + 1))), (6, ex_i (nI (lf - 2 ^ tz6 lf))), (5, ex_i (nI (tz6 lf))), (0, ex_r pg), (1, ex_r c), (2, ex_i (nI lf)), (3, ex_i al), (4, ex_i ap)]) [0, 2, 3, 4, 5, 6, 7, 8] rfl ?_
          exact ihc57 (k57 + 1) w_5.1 w_5.2.1 w_5.2.2 ⟨hL57, (show (k57 + 1) ≤ 6 by omega)⟩ (show 6 - (k57 + 1) < 6 - k57 by omega)
    refine X_aload_n (j := 2) dX5_pairRest_139 rfl rfl ?_
    refine X_get (j := 0) fo_X5_19 dX5_pairRest_140 rfl rfl ?_
    refine X_iload (j := 1) dX5_pairRest_143 rfl ?_
    refine X_iconst (v := (-1)) dX5_pairRest_145 (by decide) ?_
    refine X_iast (j := 2) (g := upd v_2.2.2 (tz6 lf) (-1)) (cs' := [(pg, ex_o 5 [ex_i v_2.1, ex_r g1, ex_r g2]), (g1, ex_a 1 6 v_2.2.1), (g2, ex_a 1 6 (upd v_2.2.2 (tz6 lf) (-1))), (c, ex_o 0 [ex_r c0, ex_r c1, ex_r c2, ex_r c3, ex_r c4, ex_r c5, ex_r c6, ex_r c7, ex_r c8, ex_r c9, ex_r c10, ex_r c11, ex_r c12, ex_i (nI np), ex_i (nI nd), ex_i sto, ex_i res, ex_r c17, ex_r c18, ex_r c19]), (c3, ex_a 1 6 ta)]) dX5_pairRest_146 rfl (vp_in_nI (show tz6 lf < 6 by omega) (by decide)) (by rw [nI_clamp (by omega)]) rfl ?_
    refine X_iload_n (j := 5) dX5_pairRest_147 rfl rfl ?_
    refine X_if_eq (tgt := 161) dX5_pairRest_148 (by decide) (fun c_6 => ?_) (fun c_6 => ?_)
    · have hV := hV.trans (if_pos c_6)
      try dsimp only at hV
      exact X_vret dX5_pairRest_161 (by (repeat refine ex_kc ?_) <;> rfl) (by subst hV; exact ⟨rfl, rfl⟩)
    · have hV := hV.trans (if_neg c_6)
      refine X_aload_n (j := 2) dX5_pairRest_151 rfl rfl ?_
      refine X_aload_n (j := 3) dX5_pairRest_152 rfl rfl ?_
      refine X_iload (j := 0) dX5_pairRest_153 rfl ?_
      refine X_iconst (v := 0) dX5_pairRest_155 (by decide) ?_
      refine X_iload (j := 6) dX5_pairRest_156 rfl ?_
      refine X_callV (j0 := 0) (rest := []) (stk := []) co_X5_35 rfl ⟨(Nat.le_of_ble_eq_true rfl), (Nat.le_of_ble_eq_true rfl)⟩ (e_X5_pairRest_4 l pg c (lf - 2 ^ tz6 lf) 0 ap v_2.1 g1 g2 v_2.2.1 (upd v_2.2.2 (tz6 lf) (-1)) c0 c1 c2 c3 c4 c5 c6 c7 c8 c9 c10 c11 c12 np nd sto res c17 c18 c19 ta hO (bi_tz hlf hl0 hb)) dX5_pairRest_158 [0, 1, 2, 3, 4] (show List.Perm [0, 1, 2, 3, 4] (List.range 5) from by decide) rfl rfl rfl rfl (Nat.le_of_ble_eq_true rfl) (fun zc1 zr hq hk => ?_)
      obtain ⟨rfl, rfl⟩ := hq
      try dsimp only at hV
      generalize hq_w_7 : F_X5_pairRest_4 (lf - 2 ^ tz6 lf) 0 ap v_2.1 v_2.2.1 (upd v_2.2.2 (tz6 lf) (-1)) ta = w_7 at hV ⊢
      try dsimp only at hV
      try dsimp only at hV
      exact X_vret dX5_pairRest_161 (by (repeat refine ex_kc ?_) <;> rfl) (by subst hV; exact ⟨rfl, rfl⟩)
  · have hV := hV.trans (if_pos c_1)
    refine X_iload (j := 4) dX5_pairRest_4 rfl ?_
    refine X_aload_n (j := 0) dX5_pairRest_6 rfl rfl ?_
    refine X_get (j := 0) fo_X5_9 dX5_pairRest_7 rfl rfl ?_
    refine X_icmp_ge (tgt := 34) dX5_pairRest_10 (by decide) (fun c_8 => ?_) (fun c_8 => ?_)
    · have hV := hV.trans (if_pos c_8)
      try dsimp only at hV
      exact X_vret dX5_pairRest_34 (by (repeat refine ex_kc ?_) <;> rfl) (by subst hV; exact ⟨rfl, rfl⟩)
    · have hV := hV.trans (if_neg c_8)
      refine X_aload_n (j := 0) dX5_pairRest_13 rfl rfl ?_
      refine X_iload (j := 4) dX5_pairRest_14 rfl ?_
      refine X_put (j := 0) (cs' := [(pg, ex_o 5 [ex_i ap, ex_r g1, ex_r g2]), (g1, ex_a 1 6 gb), (g2, ex_a 1 6 gr), (c, ex_o 0 [ex_r c0, ex_r c1, ex_r c2, ex_r c3, ex_r c4, ex_r c5, ex_r c6, ex_r c7, ex_r c8, ex_r c9, ex_r c10, ex_r c11, ex_r c12, ex_i (nI np), ex_i (nI nd), ex_i sto, ex_i res, ex_r c17, ex_r c18, ex_r c19]), (c3, ex_a 1 6 ta)]) fo_X5_9 (by decide) dX5_pairRest_16 rfl (Nat.le_of_ble_eq_true rfl) trivial rfl ?_
      refine X_aload_n (j := 0) dX5_pairRest_19 rfl rfl ?_
      refine X_get (j := 0) fo_X5_19 dX5_pairRest_20 rfl rfl ?_
      refine X_iconst (v := 0) dX5_pairRest_23 (by decide) ?_
      refine X_aload_n (j := 0) dX5_pairRest_24 rfl rfl ?_
      refine X_get (j := 0) fo_X5_15 dX5_pairRest_25 rfl rfl ?_
      refine X_iconst (v := 0) dX5_pairRest_28 (by decide) ?_
      refine X_bipush (v := 6) dX5_pairRest_29 (by decide) ?_
      refine X_copy (j := 2) (j2 := 1) (cs' := [(pg, ex_o 5 [ex_i ap, ex_r g1, ex_r g2]), (g1, ex_a 1 6 (va_cpy gr gb 0 0 6)), (g2, ex_a 1 6 gr), (c, ex_o 0 [ex_r c0, ex_r c1, ex_r c2, ex_r c3, ex_r c4, ex_r c5, ex_r c6, ex_r c7, ex_r c8, ex_r c9, ex_r c10, ex_r c11, ex_r c12, ex_i (nI np), ex_i (nI nd), ex_i sto, ex_i res, ex_r c17, ex_r c18, ex_r c19]), (c3, ex_a 1 6 ta)]) k_1161 k_961 k_960 k_21 ⟨(Nat.le_of_ble_eq_true rfl), (Nat.le_of_ble_eq_true rfl)⟩ dX5_pairRest_31 rfl rfl (by decide) (by decide) (by decide) (by decide) (by decide) rfl (by decide) ?_
      try dsimp only at hV
      exact X_vret dX5_pairRest_34 (by (repeat refine ex_kc ?_) <;> rfl) (by subst hV; exact ⟨rfl, rfl⟩)

def F_X5_pairRest_6_L57 (lf : Nat) (al : Int32) (ap : Int32) (ta : Nat → Int32) : Nat → Nat → Int32 → (Nat → Int32) → (Nat → Int32) → Int32 × (Nat → Int32) × (Nat → Int32)
  | 0, k57, s57_0, s57_1, s57_2 => (s57_0, s57_1, s57_2)
  | zn + 1, k57, s57_0, s57_1, s57_2 => (if (((nI (lf - 2 ^ tz6 lf)) >>> ((nI k57) &&& 31)) &&& 1) = 1 then ((fun (w_5 : Int32 × (Nat → Int32) × (Nat → Int32)) => F_X5_pairRest_6_L57 lf al ap ta zn (k57 + 1) w_5.1 w_5.2.1 w_5.2.2) (F_X5_pairRest_5 ((lf - 2 ^ tz6 lf) - 2 ^ k57) al (ap + (aI ((ta (tz6 lf)) - (ta k57)))) s57_0 s57_1 (upd (upd s57_2 (tz6 lf) (nI k57)) k57 (nI (tz6 lf))) ta)) else F_X5_pairRest_6_L57 lf al ap ta zn (k57 + 1) s57_0 s57_1 s57_2)
theorem F_X5_pairRest_6_L57_z (lf : Nat) (al : Int32) (ap : Int32) (ta : Nat → Int32) (k57 : Nat) (s57_0 : Int32) (s57_1 : Nat → Int32) (s57_2 : Nat → Int32) : F_X5_pairRest_6_L57 lf al ap ta 0 k57 s57_0 s57_1 s57_2 = (s57_0, s57_1, s57_2) := rfl
theorem F_X5_pairRest_6_L57_s (lf : Nat) (al : Int32) (ap : Int32) (ta : Nat → Int32) (k57 : Nat) (s57_0 : Int32) (s57_1 : Nat → Int32) (s57_2 : Nat → Int32) (zn : Nat) : F_X5_pairRest_6_L57 lf al ap ta (zn + 1) k57 s57_0 s57_1 s57_2 = (if (((nI (lf - 2 ^ tz6 lf)) >>> ((nI k57) &&& 31)) &&& 1) = 1 then ((fun (w_5 : Int32 × (Nat → Int32) × (Nat → Int32)) => F_X5_pairRest_6_L57 lf al ap ta zn (k57 + 1) w_5.1 w_5.2.1 w_5.2.2) (F_X5_pairRest_5 ((lf - 2 ^ tz6 lf) - 2 ^ k57) al (ap + (aI ((ta (tz6 lf)) - (ta k57)))) s57_0 s57_1 (upd (upd s57_2 (tz6 lf) (nI k57)) k57 (nI (tz6 lf))) ta)) else F_X5_pairRest_6_L57 lf al ap ta zn (k57 + 1) s57_0 s57_1 s57_2) := rfl
def F_X5_pairRest_6 (lf : Nat) (al : Int32) (ap : Int32) (gl : Int32) (gb : Nat → Int32) (gr : Nat → Int32) (ta : Nat → Int32) : Int32 × (Nat → Int32) × (Nat → Int32) := (if (nI lf) = 0 then (if gl ≤ ap then (gl, gb, gr) else (ap, va_cpy gr gb 0 0 6, gr)) else ((fun (v_2 : Int32 × (Nat → Int32) × (Nat → Int32)) => (if al = 0 then (v_2.1, v_2.2.1, upd v_2.2.2 (tz6 lf) (-1)) else ((fun (w_7 : Int32 × (Nat → Int32) × (Nat → Int32)) => (w_7.1, w_7.2.1, w_7.2.2)) (F_X5_pairRest_5 (lf - 2 ^ tz6 lf) 0 ap v_2.1 v_2.2.1 (upd v_2.2.2 (tz6 lf) (-1)) ta)))) (F_X5_pairRest_6_L57 lf al ap ta (6 - ((tz6 lf) + 1)) ((tz6 lf) + 1) gl gb gr)))
set_option maxHeartbeats 4000000 in
set_option maxRecDepth 100000 in
theorem e_X5_pairRest_6 (l : Launch) (pg : Nat) (c : Nat) (lf : Nat) (al : Int32) (ap : Int32) (gl : Int32) (g1 : Nat) (g2 : Nat) (gb : Nat → Int32) (gr : Nat → Int32) (c0 : Nat) (c1 : Nat) (c2 : Nat) (c3 : Nat) (c4 : Nat) (c5 : Nat) (c6 : Nat) (c7 : Nat) (c8 : Nat) (c9 : Nat) (c10 : Nat) (c11 : Nat) (c12 : Nat) (np : Nat) (nd : Nat) (sto : Int32) (res : Int32) (c17 : Nat) (c18 : Nat) (c19 : Nat) (ta : Nat → Int32) (hlf : lf < 64) (hb : bits6 lf ≤ 6) : ex_M l yX5_pairRest cX5_pairRest 9 none 7 208 [ex_r pg, ex_r c, ex_i (nI lf), ex_i al, ex_i ap] [(pg, ex_o 5 [ex_i gl, ex_r g1, ex_r g2]), (g1, ex_a 1 6 gb), (g2, ex_a 1 6 gr), (c, ex_o 0 [ex_r c0, ex_r c1, ex_r c2, ex_r c3, ex_r c4, ex_r c5, ex_r c6, ex_r c7, ex_r c8, ex_r c9, ex_r c10, ex_r c11, ex_r c12, ex_i (nI np), ex_i (nI nd), ex_i sto, ex_i res, ex_r c17, ex_r c18, ex_r c19]), (c3, ex_a 1 6 ta)] (fun zcs zr => zcs = [(pg, ex_o 5 [ex_i ((F_X5_pairRest_6 lf al ap gl gb gr ta).1), ex_r g1, ex_r g2]), (g1, ex_a 1 6 ((F_X5_pairRest_6 lf al ap gl gb gr ta).2.1)), (g2, ex_a 1 6 ((F_X5_pairRest_6 lf al ap gl gb gr ta).2.2)), (c, ex_o 0 [ex_r c0, ex_r c1, ex_r c2, ex_r c3, ex_r c4, ex_r c5, ex_r c6, ex_r c7, ex_r c8, ex_r c9, ex_r c10, ex_r c11, ex_r c12, ex_i (nI np), ex_i (nI nd), ex_i sto, ex_i res, ex_r c17, ex_r c18, ex_r c19]), (c3, ex_a 1 6 ta)] ∧ zr = none) := by
  refine X_meth (by decide) (Nat.le_of_ble_eq_true rfl) ?_
  generalize hV : F_X5_pairRest_6 lf al ap gl gb gr ta = V0
  have hV := hV.symm
  unfold F_X5_pairRest_6 at hV
  try dsimp only at hV
  refine X_iload_n (j := 2) dX5_pairRest_0 rfl rfl ?_
  refine X_if_ne (tgt := 35) dX5_pairRest_1 (by decide) (fun c_1 => ?_) (fun c_1 => ?_)
  · have hV := hV.trans (if_neg c_1)
    refine X_iload_n (j := 2) dX5_pairRest_35 rfl rfl ?_
    refine X_callS (rest := [(pg, ex_o 5 [ex_i gl, ex_r g1, ex_r g2]), (g1, ex_a 1 6 gb), (g2, ex_a 1 6 gr), (c, ex_o 0 [ex_r c0, ex_r c1, ex_r c2, ex_r c3, ex_r c4, ex_r c5, ex_r c6, ex_r c7, ex_r c8, ex_r c9, ex_r c10, ex_r c11, ex_r c12, ex_i (nI np), ex_i (nI nd), ex_i sto, ex_i res, ex_r c17, ex_r c18, ex_r c19]), (c3, ex_a 1 6 ta)]) (stk := []) co_X5_45 rfl ⟨(Nat.le_of_ble_eq_true rfl), (Nat.le_of_ble_eq_true rfl)⟩ (e_J6_numberOfTrailingZeros_0f7a4 l (nI lf)) dX5_pairRest_36 [0, 1, 2, 3, 4] (show List.Perm [0, 1, 2, 3, 4] (List.range 5) from by decide) rfl rfl rfl (Nat.le_of_ble_eq_true rfl) (fun zc1 zr hq hk => ?_)
    obtain ⟨rfl, rfl⟩ := hq
    have hl0 : ¬ lf = 0 := fun q => c_1 (by rw [q]; rfl)
    have htz : tz6 lf < 6 := tz_lt hlf hl0
    have hO : lf - 2 ^ tz6 lf < 64 := Nat.lt_of_le_of_lt (Nat.sub_le _ _) hlf
    refine X_eqs (stk' := [ex_i (nI (tz6 lf))]) (by rw [ntz_eq hlf hl0] <;> rfl) ?_
    refine X_istore (lv' := [(5, ex_i (nI (tz6 lf))), (0, ex_r pg), (1, ex_r c), (2, ex_i (nI lf)), (3, ex_i al), (4, ex_i ap)]) dX5_pairRest_39 (Nat.le_of_ble_eq_true rfl) rfl ?_
    refine X_iload_n (j := 3) dX5_pairRest_41 rfl rfl ?_
    refine X_iconst (v := 1) dX5_pairRest_42 (by decide) ?_
    refine X_iload (j := 0) dX5_pairRest_43 rfl ?_
    refine X_ishl (v := (1 <<< ((nI (tz6 lf)) &&& 31))) dX5_pairRest_45 rfl ?_
    refine X_iconst (v := (-1)) dX5_pairRest_46 (by decide) ?_
    refine X_ixor (v := ((1 <<< ((nI (tz6 lf)) &&& 31)) ^^^ (-1))) dX5_pairRest_47 rfl ?_
    refine X_iand (v := nI (lf - 2 ^ tz6 lf)) dX5_pairRest_48 (an_tz hlf hl0) ?_
    refine X_istore (lv' := [(6, ex_i (nI (lf - 2 ^ tz6 lf))), (5, ex_i (nI (tz6 lf))), (0, ex_r pg), (1, ex_r c), (2, ex_i (nI lf)), (3, ex_i al), (4, ex_i ap)]) dX5_pairRest_49 (Nat.le_of_ble_eq_true rfl) rfl ?_
    refine X_iload (j := 1) dX5_pairRest_51 rfl ?_
    refine X_iconst (v := 1) dX5_pairRest_53 (by decide) ?_
    refine X_iadd (v := nI ((tz6 lf) + 1)) dX5_pairRest_54 (nI_add (tz6 lf) 1) ?_
    refine X_istore (lv' := [(7, ex_i (nI ((tz6 lf) + 1))), (6, ex_i (nI (lf - 2 ^ tz6 lf))), (5, ex_i (nI (tz6 lf))), (0, ex_r pg), (1, ex_r c), (2, ex_i (nI lf)), (3, ex_i al), (4, ex_i ap)]) dX5_pairRest_55 (Nat.le_of_ble_eq_true rfl) rfl ?_
    -- loop at 57
    try dsimp only at hV
    generalize hq_v_2 : F_X5_pairRest_6_L57 lf al ap ta (6 - ((tz6 lf) + 1)) ((tz6 lf) + 1) gl gb gr = v_2 at hV
    try dsimp only at hV
    refine X_cut (P := True) (csE := [(pg, ex_o 5 [ex_i v_2.1, ex_r g1, ex_r g2]), (g1, ex_a 1 6 v_2.2.1), (g2, ex_a 1 6 v_2.2.2), (c, ex_o 0 [ex_r c0, ex_r c1, ex_r c2, ex_r c3, ex_r c4, ex_r c5, ex_r c6, ex_r c7, ex_r c8, ex_r c9, ex_r c10, ex_r c11, ex_r c12, ex_i (nI np), ex_i (nI nd), ex_i sto, ex_i res, ex_r c17, ex_r c18, ex_r c19]), (c3, ex_a 1 6 ta)]) (lvE := [(6, ex_i (nI (lf - 2 ^ tz6 lf))), (5, ex_i (nI (tz6 lf))), (0, ex_r pg), (1, ex_r c), (2, ex_i (nI lf)), (3, ex_i al), (4, ex_i ap)]) (E := 139) (fun hrest57 => ?_) (fun hPX57 => ?_)
    · have hL57 := hq_v_2.symm
      refine X_ind (fun (a57 : Nat × Int32 × (Nat → Int32) × (Nat → Int32)) => v_2 = F_X5_pairRest_6_L57 lf al ap ta (6 - a57.1) a57.1 a57.2.1 a57.2.2.1 a57.2.2.2 ∧ a57.1 ≤ 6) (fun (a57 : Nat × Int32 × (Nat → Int32) × (Nat → Int32)) => 6 - a57.1) (fun (a57 : Nat × Int32 × (Nat → Int32) × (Nat → Int32)) => [(pg, ex_o 5 [ex_i a57.2.1, ex_r g1, ex_r g2]), (g1, ex_a 1 6 a57.2.2.1), (g2, ex_a 1 6 a57.2.2.2), (c, ex_o 0 [ex_r c0, ex_r c1, ex_r c2, ex_r c3, ex_r c4, ex_r c5, ex_r c6, ex_r c7, ex_r c8, ex_r c9, ex_r c10, ex_r c11, ex_r c12, ex_i (nI np), ex_i (nI nd), ex_i sto, ex_i res, ex_r c17, ex_r c18, ex_r c19]), (c3, ex_a 1 6 ta)]) (fun (a57 : Nat × Int32 × (Nat → Int32) × (Nat → Int32)) => [(7, ex_i (nI a57.1)), (6, ex_i (nI (lf - 2 ^ tz6 lf))), (5, ex_i (nI (tz6 lf))), (0, ex_r pg), (1, ex_r c), (2, ex_i (nI lf)), (3, ex_i al), (4, ex_i ap)]) (fun ⟨k57, s57_0, s57_1, s57_2⟩ hI57 ih57 => ?_) ((tz6 lf) + 1, gl, gb, gr) ⟨hL57, (by omega)⟩
      try dsimp only at hI57 ih57 ⊢
      have ihc57 : ∀ (k57_ : Nat) (s57_0_ : Int32) (s57_1_ : Nat → Int32) (s57_2_ : Nat → Int32), (v_2 = F_X5_pairRest_6_L57 lf al ap ta (6 - k57_) k57_ s57_0_ s57_1_ s57_2_ ∧ k57_ ≤ 6) → (6 - k57_) < (6 - k57) → ex_O _ _ _ _ _ _ _ _ _ [(pg, ex_o 5 [ex_i s57_0_, ex_r g1, ex_r g2]), (g1, ex_a 1 6 s57_1_), (g2, ex_a 1 6 s57_2_), (c, ex_o 0 [ex_r c0, ex_r c1, ex_r c2, ex_r c3, ex_r c4, ex_r c5, ex_r c6, ex_r c7, ex_r c8, ex_r c9, ex_r c10, ex_r c11, ex_r c12, ex_i (nI np), ex_i (nI nd), ex_i sto, ex_i res, ex_r c17, ex_r c18, ex_r c19]), (c3, ex_a 1 6 ta)] [(7, ex_i (nI k57_)), (6, ex_i (nI (lf - 2 ^ tz6 lf))), (5, ex_i (nI (tz6 lf))), (0, ex_r pg), (1, ex_r c), (2, ex_i (nI lf)), (3, ex_i al), (4, ex_i ap)] _ _ := fun k57_ s57_0_ s57_1_ s57_2_ hi_ hm_ => ih57 (k57_, s57_0_, s57_1_, s57_2_) hi_ hm_
      have hL57 := hI57.1
      have hb57 := hI57.2
      refine X_iload (j := 0) dX5_pairRest_57 rfl ?_
      refine X_bipush (v := 6) dX5_pairRest_59 (by decide) ?_
      refine X_icmp_ge (tgt := 139) dX5_pairRest_61 (by decide) (fun c_3 => ?_) (fun c_3 => ?_)
      · have hlt57 : k57 = 6 := nlex (L := 6) (by omega) hb57 c_3
        rw [show 6 - k57 = 0 by omega] at hL57
        have hL57 := hL57.trans (F_X5_pairRest_6_L57_z ..)
        try dsimp only at hL57
        refine X_lv (lv' := [(6, ex_i (nI (lf - 2 ^ tz6 lf))), (5, ex_i (nI (tz6 lf))), (0, ex_r pg), (1, ex_r c), (2, ex_i (nI lf)), (3, ex_i al), (4, ex_i ap)]) [1, 2, 3, 4, 5, 6, 7] rfl ?_
        refine X_eq (cs' := [(pg, ex_o 5 [ex_i v_2.1, ex_r g1, ex_r g2]), (g1, ex_a 1 6 v_2.2.1), (g2, ex_a 1 6 v_2.2.2), (c, ex_o 0 [ex_r c0, ex_r c1, ex_r c2, ex_r c3, ex_r c4, ex_r c5, ex_r c6, ex_r c7, ex_r c8, ex_r c9, ex_r c10, ex_r c11, ex_r c12, ex_i (nI np), ex_i (nI nd), ex_i sto, ex_i res, ex_r c17, ex_r c18, ex_r c19]), (c3, ex_a 1 6 ta)]) (lv' := [(6, ex_i (nI (lf - 2 ^ tz6 lf))), (5, ex_i (nI (tz6 lf))), (0, ex_r pg), (1, ex_r c), (2, ex_i (nI lf)), (3, ex_i al), (4, ex_i ap)]) (by subst hL57; rfl) (by subst hL57; rfl) ?_
        exact hrest57 trivial
      · have hlt57 : k57 < 6 := nlen (L := 6) (by omega) hb57 c_3
        rw [show 6 - k57 = (6 - (k57 + 1)) + 1 by omega] at hL57
        have hL57 := hL57.trans (F_X5_pairRest_6_L57_s ..)
        refine X_iload (j := 1) dX5_pairRest_64 rfl ?_
        refine X_iload (j := 0) dX5_pairRest_66 rfl ?_
        refine X_ishr (v := ((nI (lf - 2 ^ tz6 lf)) >>> ((nI k57) &&& 31))) dX5_pairRest_68 rfl ?_
        refine X_iconst (v := 1) dX5_pairRest_69 (by decide) ?_
        refine X_iand (v := (((nI (lf - 2 ^ tz6 lf)) >>> ((nI k57) &&& 31)) &&& 1)) dX5_pairRest_70 rfl ?_
        refine X_iconst (v := 1) dX5_pairRest_71 (by decide) ?_
        refine X_icmp_ne (tgt := 133) dX5_pairRest_72 (by decide) (fun c_4 => ?_) (fun c_4 => ?_)
        · have hL57 := hL57.trans (if_neg c_4)
          refine X_iinc (v := nI (k57 + 1)) (j := 0) (lv' := [(7, ex_i (nI (k57 + 1))), (6, ex_i (nI (lf - 2 ^ tz6 lf))), (5, ex_i (nI (tz6 lf))), (0, ex_r pg), (1, ex_r c), (2, ex_i (nI lf)), (3, ex_i al), (4, ex_i ap)]) dX5_pairRest_133 rfl (nI_add k57 1) (Nat.le_of_ble_eq_true rfl) rfl ?_
          refine X_goto (tgt := 57) dX5_pairRest_136 (by decide) ?_
          try dsimp only at hL57
          exact ihc57 (k57 + 1) s57_0 s57_1 s57_2 ⟨hL57, (show (k57 + 1) ≤ 6 by omega)⟩ (show 6 - (k57 + 1) < 6 - k57 by omega)
        · have hL57 := hL57.trans (if_pos c_4)
          refine X_aload_n (j := 3) dX5_pairRest_75 rfl rfl ?_
          refine X_get (j := 0) fo_X5_19 dX5_pairRest_76 rfl rfl ?_
          refine X_iload (j := 2) dX5_pairRest_79 rfl ?_
          refine X_iload (j := 0) dX5_pairRest_81 rfl ?_
          refine X_iast (j := 2) (g := upd s57_2 (tz6 lf) (nI k57)) (cs' := [(pg, ex_o 5 [ex_i s57_0, ex_r g1, ex_r g2]), (g1, ex_a 1 6 s57_1), (g2, ex_a 1 6 (upd s57_2 (tz6 lf) (nI k57))), (c, ex_o 0 [ex_r c0, ex_r c1, ex_r c2, ex_r c3, ex_r c4, ex_r c5, ex_r c6, ex_r c7, ex_r c8, ex_r c9, ex_r c10, ex_r c11, ex_r c12, ex_i (nI np), ex_i (nI nd), ex_i sto, ex_i res, ex_r c17, ex_r c18, ex_r c19]), (c3, ex_a 1 6 ta)]) dX5_pairRest_83 rfl (vp_in_nI (show tz6 lf < 6 by omega) (by decide)) (by rw [nI_clamp (by omega)]) rfl ?_
          refine X_aload_n (j := 3) dX5_pairRest_84 rfl rfl ?_
          refine X_get (j := 0) fo_X5_19 dX5_pairRest_85 rfl rfl ?_
          refine X_iload (j := 0) dX5_pairRest_88 rfl ?_
          refine X_iload (j := 2) dX5_pairRest_90 rfl ?_
          refine X_iast (j := 2) (g := upd (upd s57_2 (tz6 lf) (nI k57)) k57 (nI (tz6 lf))) (cs' := [(pg, ex_o 5 [ex_i s57_0, ex_r g1, ex_r g2]), (g1, ex_a 1 6 s57_1), (g2, ex_a 1 6 (upd (upd s57_2 (tz6 lf) (nI k57)) k57 (nI (tz6 lf)))), (c, ex_o 0 [ex_r c0, ex_r c1, ex_r c2, ex_r c3, ex_r c4, ex_r c5, ex_r c6, ex_r c7, ex_r c8, ex_r c9, ex_r c10, ex_r c11, ex_r c12, ex_i (nI np), ex_i (nI nd), ex_i sto, ex_i res, ex_r c17, ex_r c18, ex_r c19]), (c3, ex_a 1 6 ta)]) dX5_pairRest_92 rfl (vp_in_nI (show k57 < 6 by omega) (by decide)) (by rw [nI_clamp (by omega)]) rfl ?_
          refine X_aload_n (j := 4) dX5_pairRest_93 rfl rfl ?_
          refine X_get (j := 3) fo_X5_48 dX5_pairRest_94 rfl rfl ?_
          refine X_iload (j := 2) dX5_pairRest_97 rfl ?_
          refine X_iald (j := 4) (v := (ta (tz6 lf))) dX5_pairRest_99 rfl (vp_in_nI (show tz6 lf < 6 by omega) (by decide)) (by rw [nI_clamp (by omega)]) ?_
          refine X_aload_n (j := 4) dX5_pairRest_100 rfl rfl ?_
          refine X_get (j := 3) fo_X5_48 dX5_pairRest_101 rfl rfl ?_
          refine X_iload (j := 0) dX5_pairRest_104 rfl ?_
          refine X_iald (j := 4) (v := (ta k57)) dX5_pairRest_106 rfl (vp_in_nI (show k57 < 6 by omega) (by decide)) (by rw [nI_clamp (by omega)]) ?_
          refine X_isub (v := ((ta (tz6 lf)) - (ta k57))) dX5_pairRest_107 rfl ?_
          refine X_mabs (v := (aI ((ta (tz6 lf)) - (ta k57)))) k_1166 k_802 k_17 k_803 ⟨(Nat.le_of_ble_eq_true rfl), (Nat.le_of_ble_eq_true rfl)⟩ (Nat.le_of_ble_eq_true rfl) dX5_pairRest_108 rfl ?_
          refine X_istore (lv' := [(8, ex_i (aI ((ta (tz6 lf)) - (ta k57)))), (7, ex_i (nI k57)), (6, ex_i (nI (lf - 2 ^ tz6 lf))), (5, ex_i (nI (tz6 lf))), (0, ex_r pg), (1, ex_r c), (2, ex_i (nI lf)), (3, ex_i al), (4, ex_i ap)]) dX5_pairRest_111 (Nat.le_of_ble_eq_true rfl) rfl ?_
          refine X_aload_n (j := 4) dX5_pairRest_113 rfl rfl ?_
          refine X_aload_n (j := 5) dX5_pairRest_114 rfl rfl ?_
          refine X_iload (j := 2) dX5_pairRest_115 rfl ?_
          refine X_iconst (v := 1) dX5_pairRest_117 (by decide) ?_
          refine X_iload (j := 1) dX5_pairRest_118 rfl ?_
          refine X_ishl (v := (1 <<< ((nI k57) &&& 31))) dX5_pairRest_120 rfl ?_
          refine X_iconst (v := (-1)) dX5_pairRest_121 (by decide) ?_
          refine X_ixor (v := ((1 <<< ((nI k57) &&& 31)) ^^^ (-1))) dX5_pairRest_122 rfl ?_
          refine X_iand (v := nI ((lf - 2 ^ tz6 lf) - 2 ^ k57)) dX5_pairRest_123 (an_bit hO (by omega) c_4) ?_
          refine X_iload_n (j := 7) dX5_pairRest_124 rfl rfl ?_
          refine X_iload (j := 8) dX5_pairRest_125 rfl ?_
          refine X_iload (j := 0) dX5_pairRest_127 rfl ?_
          refine X_iadd (v := (ap + (aI ((ta (tz6 lf)) - (ta k57))))) dX5_pairRest_129 rfl ?_
          refine X_callV (j0 := 0) (rest := []) (stk := []) co_X5_35 rfl ⟨(Nat.le_of_ble_eq_true rfl), (Nat.le_of_ble_eq_true rfl)⟩ (e_X5_pairRest_5 l pg c ((lf - 2 ^ tz6 lf) - 2 ^ k57) al (ap + (aI ((ta (tz6 lf)) - (ta k57)))) s57_0 g1 g2 s57_1 (upd (upd s57_2 (tz6 lf) (nI k57)) k57 (nI (tz6 lf))) c0 c1 c2 c3 c4 c5 c6 c7 c8 c9 c10 c11 c12 np nd sto res c17 c18 c19 ta (Nat.lt_of_le_of_lt (Nat.sub_le _ _) hO) (bi_bit hO (by omega) c_4 (bi_tz hlf hl0 hb))) dX5_pairRest_130 [0, 1, 2, 3, 4] (show List.Perm [0, 1, 2, 3, 4] (List.range 5) from by decide) rfl rfl rfl rfl (Nat.le_of_ble_eq_true rfl) (fun zc1 zr hq hk => ?_)
          obtain ⟨rfl, rfl⟩ := hq
          try dsimp only at hL57
          generalize hq_w_5 : F_X5_pairRest_5 ((lf - 2 ^ tz6 lf) - 2 ^ k57) al (ap + (aI ((ta (tz6 lf)) - (ta k57)))) s57_0 s57_1 (upd (upd s57_2 (tz6 lf) (nI k57)) k57 (nI (tz6 lf))) ta = w_5 at hL57 ⊢
          try dsimp only at hL57
          refine X_iinc (v := nI (k57 + 1)) (j := 1) (lv' := [(7, ex_i (nI (k57 + 1))), (8, ex_i (aI ((ta (tz6 lf)) - (ta k57)))), (6, ex_i (nI (lf - 2 ^ tz6 lf))), (5, ex_i (nI (tz6 lf))), (0, ex_r pg), (1, ex_r c), (2, ex_i (nI lf)), (3, ex_i al), (4, ex_i ap)]) dX5_pairRest_133 rfl (nI_add k57 1) (Nat.le_of_ble_eq_true rfl) rfl ?_
          refine X_goto (tgt := 57) dX5_pairRest_136 (by decide) ?_
          try dsimp only at hL57
          refine X_lv (lv' := [(7, ex_i (nI (k57 + 1))), (6, ex_i (nI (lf - 2 ^ tz6 lf))), (5, ex_i (nI (tz6 lf))), (0, ex_r pg), (1, ex_r c), (2, ex_i (nI lf)), (3, ex_i al), (4, ex_i ap)]) [0, 2, 3, 4, 5, 6, 7, 8] rfl ?_
          exact ihc57 (k57 + 1) w_5.1 w_5.2.1 w_5.2.2 ⟨hL57, (show (k57 + 1) ≤ 6 by omega)⟩ (show 6 - (k57 + 1) < 6 - k57 by omega)
    refine X_aload_n (j := 2) dX5_pairRest_139 rfl rfl ?_
    refine X_get (j := 0) fo_X5_19 dX5_pairRest_140 rfl rfl ?_
    refine X_iload (j := 1) dX5_pairRest_143 rfl ?_
    refine X_iconst (v := (-1)) dX5_pairRest_145 (by decide) ?_
    refine X_iast (j := 2) (g := upd v_2.2.2 (tz6 lf) (-1)) (cs' := [(pg, ex_o 5 [ex_i v_2.1, ex_r g1, ex_r g2]), (g1, ex_a 1 6 v_2.2.1), (g2, ex_a 1 6 (upd v_2.2.2 (tz6 lf) (-1))), (c, ex_o 0 [ex_r c0, ex_r c1, ex_r c2, ex_r c3, ex_r c4, ex_r c5, ex_r c6, ex_r c7, ex_r c8, ex_r c9, ex_r c10, ex_r c11, ex_r c12, ex_i (nI np), ex_i (nI nd), ex_i sto, ex_i res, ex_r c17, ex_r c18, ex_r c19]), (c3, ex_a 1 6 ta)]) dX5_pairRest_146 rfl (vp_in_nI (show tz6 lf < 6 by omega) (by decide)) (by rw [nI_clamp (by omega)]) rfl ?_
    refine X_iload_n (j := 5) dX5_pairRest_147 rfl rfl ?_
    refine X_if_eq (tgt := 161) dX5_pairRest_148 (by decide) (fun c_6 => ?_) (fun c_6 => ?_)
    · have hV := hV.trans (if_pos c_6)
      try dsimp only at hV
      exact X_vret dX5_pairRest_161 (by (repeat refine ex_kc ?_) <;> rfl) (by subst hV; exact ⟨rfl, rfl⟩)
    · have hV := hV.trans (if_neg c_6)
      refine X_aload_n (j := 2) dX5_pairRest_151 rfl rfl ?_
      refine X_aload_n (j := 3) dX5_pairRest_152 rfl rfl ?_
      refine X_iload (j := 0) dX5_pairRest_153 rfl ?_
      refine X_iconst (v := 0) dX5_pairRest_155 (by decide) ?_
      refine X_iload (j := 6) dX5_pairRest_156 rfl ?_
      refine X_callV (j0 := 0) (rest := []) (stk := []) co_X5_35 rfl ⟨(Nat.le_of_ble_eq_true rfl), (Nat.le_of_ble_eq_true rfl)⟩ (e_X5_pairRest_5 l pg c (lf - 2 ^ tz6 lf) 0 ap v_2.1 g1 g2 v_2.2.1 (upd v_2.2.2 (tz6 lf) (-1)) c0 c1 c2 c3 c4 c5 c6 c7 c8 c9 c10 c11 c12 np nd sto res c17 c18 c19 ta hO (bi_tz hlf hl0 hb)) dX5_pairRest_158 [0, 1, 2, 3, 4] (show List.Perm [0, 1, 2, 3, 4] (List.range 5) from by decide) rfl rfl rfl rfl (Nat.le_of_ble_eq_true rfl) (fun zc1 zr hq hk => ?_)
      obtain ⟨rfl, rfl⟩ := hq
      try dsimp only at hV
      generalize hq_w_7 : F_X5_pairRest_5 (lf - 2 ^ tz6 lf) 0 ap v_2.1 v_2.2.1 (upd v_2.2.2 (tz6 lf) (-1)) ta = w_7 at hV ⊢
      try dsimp only at hV
      try dsimp only at hV
      exact X_vret dX5_pairRest_161 (by (repeat refine ex_kc ?_) <;> rfl) (by subst hV; exact ⟨rfl, rfl⟩)
  · have hV := hV.trans (if_pos c_1)
    refine X_iload (j := 4) dX5_pairRest_4 rfl ?_
    refine X_aload_n (j := 0) dX5_pairRest_6 rfl rfl ?_
    refine X_get (j := 0) fo_X5_9 dX5_pairRest_7 rfl rfl ?_
    refine X_icmp_ge (tgt := 34) dX5_pairRest_10 (by decide) (fun c_8 => ?_) (fun c_8 => ?_)
    · have hV := hV.trans (if_pos c_8)
      try dsimp only at hV
      exact X_vret dX5_pairRest_34 (by (repeat refine ex_kc ?_) <;> rfl) (by subst hV; exact ⟨rfl, rfl⟩)
    · have hV := hV.trans (if_neg c_8)
      refine X_aload_n (j := 0) dX5_pairRest_13 rfl rfl ?_
      refine X_iload (j := 4) dX5_pairRest_14 rfl ?_
      refine X_put (j := 0) (cs' := [(pg, ex_o 5 [ex_i ap, ex_r g1, ex_r g2]), (g1, ex_a 1 6 gb), (g2, ex_a 1 6 gr), (c, ex_o 0 [ex_r c0, ex_r c1, ex_r c2, ex_r c3, ex_r c4, ex_r c5, ex_r c6, ex_r c7, ex_r c8, ex_r c9, ex_r c10, ex_r c11, ex_r c12, ex_i (nI np), ex_i (nI nd), ex_i sto, ex_i res, ex_r c17, ex_r c18, ex_r c19]), (c3, ex_a 1 6 ta)]) fo_X5_9 (by decide) dX5_pairRest_16 rfl (Nat.le_of_ble_eq_true rfl) trivial rfl ?_
      refine X_aload_n (j := 0) dX5_pairRest_19 rfl rfl ?_
      refine X_get (j := 0) fo_X5_19 dX5_pairRest_20 rfl rfl ?_
      refine X_iconst (v := 0) dX5_pairRest_23 (by decide) ?_
      refine X_aload_n (j := 0) dX5_pairRest_24 rfl rfl ?_
      refine X_get (j := 0) fo_X5_15 dX5_pairRest_25 rfl rfl ?_
      refine X_iconst (v := 0) dX5_pairRest_28 (by decide) ?_
      refine X_bipush (v := 6) dX5_pairRest_29 (by decide) ?_
      refine X_copy (j := 2) (j2 := 1) (cs' := [(pg, ex_o 5 [ex_i ap, ex_r g1, ex_r g2]), (g1, ex_a 1 6 (va_cpy gr gb 0 0 6)), (g2, ex_a 1 6 gr), (c, ex_o 0 [ex_r c0, ex_r c1, ex_r c2, ex_r c3, ex_r c4, ex_r c5, ex_r c6, ex_r c7, ex_r c8, ex_r c9, ex_r c10, ex_r c11, ex_r c12, ex_i (nI np), ex_i (nI nd), ex_i sto, ex_i res, ex_r c17, ex_r c18, ex_r c19]), (c3, ex_a 1 6 ta)]) k_1161 k_961 k_960 k_21 ⟨(Nat.le_of_ble_eq_true rfl), (Nat.le_of_ble_eq_true rfl)⟩ dX5_pairRest_31 rfl rfl (by decide) (by decide) (by decide) (by decide) (by decide) rfl (by decide) ?_
      try dsimp only at hV
      exact X_vret dX5_pairRest_34 (by (repeat refine ex_kc ?_) <;> rfl) (by subst hV; exact ⟨rfl, rfl⟩)

def F_X5_pairs (ss : Nat) (gb : Nat → Int32) (gr : Nat → Int32) (ta : Nat → Int32) : Int32 × (Nat → Int32) × (Nat → Int32) := (if ((F_J6_bitCount_0f7a4 (nI ss)) - (F_J6_bitCount_0f7a4 (nI ss)) / 2 * 2) = 1 then ((fun (w_3 : Int32 × (Nat → Int32) × (Nat → Int32)) => (w_3.1, w_3.2.1, w_3.2.2)) (F_X5_pairRest_6 ss 1 0 1000000 gb (fil 6 (-1) gr) ta)) else ((fun (w_2 : Int32 × (Nat → Int32) × (Nat → Int32)) => (w_2.1, w_2.2.1, w_2.2.2)) (F_X5_pairRest_6 ss 0 0 1000000 gb (fil 6 (-1) gr) ta)))
set_option maxHeartbeats 4000000 in
set_option maxRecDepth 100000 in
theorem e_X5_pairs (l : Launch) (pg : Nat) (c : Nat) (ss : Nat) (gl : Int32) (g1 : Nat) (g2 : Nat) (gb : Nat → Int32) (gr : Nat → Int32) (c0 : Nat) (c1 : Nat) (c2 : Nat) (c3 : Nat) (c4 : Nat) (c5 : Nat) (c6 : Nat) (c7 : Nat) (c8 : Nat) (c9 : Nat) (c10 : Nat) (c11 : Nat) (c12 : Nat) (np : Nat) (nd : Nat) (sto : Int32) (res : Int32) (c17 : Nat) (c18 : Nat) (c19 : Nat) (ta : Nat → Int32) (hss : ss < 64) : ex_M l yX5_pairs cX5_pairs 3 none 8 236 [ex_r pg, ex_r c, ex_i (nI ss)] [(pg, ex_o 5 [ex_i gl, ex_r g1, ex_r g2]), (g1, ex_a 1 6 gb), (g2, ex_a 1 6 gr), (c, ex_o 0 [ex_r c0, ex_r c1, ex_r c2, ex_r c3, ex_r c4, ex_r c5, ex_r c6, ex_r c7, ex_r c8, ex_r c9, ex_r c10, ex_r c11, ex_r c12, ex_i (nI np), ex_i (nI nd), ex_i sto, ex_i res, ex_r c17, ex_r c18, ex_r c19]), (c3, ex_a 1 6 ta)] (fun zcs zr => zcs = [(pg, ex_o 5 [ex_i ((F_X5_pairs ss gb gr ta).1), ex_r g1, ex_r g2]), (g1, ex_a 1 6 ((F_X5_pairs ss gb gr ta).2.1)), (g2, ex_a 1 6 ((F_X5_pairs ss gb gr ta).2.2)), (c, ex_o 0 [ex_r c0, ex_r c1, ex_r c2, ex_r c3, ex_r c4, ex_r c5, ex_r c6, ex_r c7, ex_r c8, ex_r c9, ex_r c10, ex_r c11, ex_r c12, ex_i (nI np), ex_i (nI nd), ex_i sto, ex_i res, ex_r c17, ex_r c18, ex_r c19]), (c3, ex_a 1 6 ta)] ∧ zr = none) := by
  refine X_meth (by decide) (Nat.le_of_ble_eq_true rfl) ?_
  generalize hV : F_X5_pairs ss gb gr ta = V0
  have hV := hV.symm
  unfold F_X5_pairs at hV
  try dsimp only at hV
  refine X_aload_n (j := 0) dX5_pairs_0 rfl rfl ?_
  refine X_ldc (v := 1000000) k_1154 dX5_pairs_1 ?_
  refine X_put (j := 0) (cs' := [(pg, ex_o 5 [ex_i 1000000, ex_r g1, ex_r g2]), (g1, ex_a 1 6 gb), (g2, ex_a 1 6 gr), (c, ex_o 0 [ex_r c0, ex_r c1, ex_r c2, ex_r c3, ex_r c4, ex_r c5, ex_r c6, ex_r c7, ex_r c8, ex_r c9, ex_r c10, ex_r c11, ex_r c12, ex_i (nI np), ex_i (nI nd), ex_i sto, ex_i res, ex_r c17, ex_r c18, ex_r c19]), (c3, ex_a 1 6 ta)]) fo_X5_9 (by decide) dX5_pairs_3 rfl (Nat.le_of_ble_eq_true rfl) trivial rfl ?_
  refine X_aload_n (j := 0) dX5_pairs_6 rfl rfl ?_
  refine X_get (j := 0) fo_X5_19 dX5_pairs_7 rfl rfl ?_
  refine X_iconst (v := (-1)) dX5_pairs_10 (by decide) ?_
  refine X_callS (rest := [(pg, ex_o 5 [ex_i 1000000, ex_r g1, ex_r g2]), (g1, ex_a 1 6 gb), (c, ex_o 0 [ex_r c0, ex_r c1, ex_r c2, ex_r c3, ex_r c4, ex_r c5, ex_r c6, ex_r c7, ex_r c8, ex_r c9, ex_r c10, ex_r c11, ex_r c12, ex_i (nI np), ex_i (nI nd), ex_i sto, ex_i res, ex_r c17, ex_r c18, ex_r c19]), (c3, ex_a 1 6 ta)]) (stk := []) co_X5_23 rfl ⟨(Nat.le_of_ble_eq_true rfl), (Nat.le_of_ble_eq_true rfl)⟩ (e_J7_fill_53178 l g2 6 (-1) gr (by decide)) dX5_pairs_11 [2, 0, 1, 3, 4] (show List.Perm [2, 0, 1, 3, 4] (List.range 5) from by decide) rfl rfl rfl (Nat.le_of_ble_eq_true rfl) (fun cs1 r hq hk => ?_)
  rcases hq with ⟨rfl, rfl⟩
  refine X_aload_n (j := 0) dX5_pairs_14 rfl rfl ?_
  refine X_aload_n (j := 1) dX5_pairs_15 rfl rfl ?_
  refine X_iload_n (j := 2) dX5_pairs_16 rfl rfl ?_
  refine X_iload_n (j := 2) dX5_pairs_17 rfl rfl ?_
  refine X_callS (rest := [(g2, ex_a 1 6 (fil 6 (-1) gr)), (pg, ex_o 5 [ex_i 1000000, ex_r g1, ex_r g2]), (g1, ex_a 1 6 gb), (c, ex_o 0 [ex_r c0, ex_r c1, ex_r c2, ex_r c3, ex_r c4, ex_r c5, ex_r c6, ex_r c7, ex_r c8, ex_r c9, ex_r c10, ex_r c11, ex_r c12, ex_i (nI np), ex_i (nI nd), ex_i sto, ex_i res, ex_r c17, ex_r c18, ex_r c19]), (c3, ex_a 1 6 ta)]) (stk := [ex_i (nI ss), ex_r c, ex_r pg]) co_X5_29 rfl ⟨(Nat.le_of_ble_eq_true rfl), (Nat.le_of_ble_eq_true rfl)⟩ (e_J6_bitCount_0f7a4 l (nI ss)) dX5_pairs_18 [0, 1, 2, 3, 4] (show List.Perm [0, 1, 2, 3, 4] (List.range 5) from by decide) rfl rfl rfl (Nat.le_of_ble_eq_true rfl) (fun zc1 zr hq hk => ?_)
  obtain ⟨rfl, rfl⟩ := hq
  refine X_iconst (v := 2) dX5_pairs_21 (by decide) ?_
  refine X_irem (v := ((F_J6_bitCount_0f7a4 (nI ss)) - (F_J6_bitCount_0f7a4 (nI ss)) / 2 * 2)) dX5_pairs_22 (by decide) rfl ?_
  refine X_iconst (v := 1) dX5_pairs_23 (by decide) ?_
  refine X_icmp_ne (tgt := 31) dX5_pairs_24 (by decide) (fun c_1 => ?_) (fun c_1 => ?_)
  · have hV := hV.trans (if_neg c_1)
    refine X_iconst (v := 0) dX5_pairs_31 (by decide) ?_
    refine X_iconst (v := 0) dX5_pairs_32 (by decide) ?_
    refine X_callV (j0 := 0) (rest := []) (stk := []) co_X5_35 rfl ⟨(Nat.le_of_ble_eq_true rfl), (Nat.le_of_ble_eq_true rfl)⟩ (e_X5_pairRest_6 l pg c ss 0 0 1000000 g1 g2 gb (fil 6 (-1) gr) c0 c1 c2 c3 c4 c5 c6 c7 c8 c9 c10 c11 c12 np nd sto res c17 c18 c19 ta (by first | assumption | omega) (bits_le hss)) dX5_pairs_33 [1, 2, 0, 3, 4] (show List.Perm [1, 2, 0, 3, 4] (List.range 5) from by decide) rfl rfl rfl rfl (Nat.le_of_ble_eq_true rfl) (fun zc1 zr hq hk => ?_)
    obtain ⟨rfl, rfl⟩ := hq
    try dsimp only at hV
    generalize hq_w_2 : F_X5_pairRest_6 ss 0 0 1000000 gb (fil 6 (-1) gr) ta = w_2 at hV ⊢
    try dsimp only at hV
    try dsimp only at hV
    exact X_vret dX5_pairs_36 (by (repeat refine ex_kc ?_) <;> rfl) (by subst hV; exact ⟨rfl, rfl⟩)
  · have hV := hV.trans (if_pos c_1)
    refine X_iconst (v := 1) dX5_pairs_27 (by decide) ?_
    refine X_goto (tgt := 32) dX5_pairs_28 (by decide) ?_
    refine X_iconst (v := 0) dX5_pairs_32 (by decide) ?_
    refine X_callV (j0 := 0) (rest := []) (stk := []) co_X5_35 rfl ⟨(Nat.le_of_ble_eq_true rfl), (Nat.le_of_ble_eq_true rfl)⟩ (e_X5_pairRest_6 l pg c ss 1 0 1000000 g1 g2 gb (fil 6 (-1) gr) c0 c1 c2 c3 c4 c5 c6 c7 c8 c9 c10 c11 c12 np nd sto res c17 c18 c19 ta (by first | assumption | omega) (bits_le hss)) dX5_pairs_33 [1, 2, 0, 3, 4] (show List.Perm [1, 2, 0, 3, 4] (List.range 5) from by decide) rfl rfl rfl rfl (Nat.le_of_ble_eq_true rfl) (fun zc1 zr hq hk => ?_)
    obtain ⟨rfl, rfl⟩ := hq
    try dsimp only at hV
    generalize hq_w_3 : F_X5_pairRest_6 ss 1 0 1000000 gb (fil 6 (-1) gr) ta = w_3 at hV ⊢
    try dsimp only at hV
    try dsimp only at hV
    exact X_vret dX5_pairs_36 (by (repeat refine ex_kc ?_) <;> rfl) (by subst hV; exact ⟨rfl, rfl⟩)
