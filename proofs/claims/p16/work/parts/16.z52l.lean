def F_X12_laysLines_L14 (fm : Nat) (tm : Nat) : Nat → Nat → (Nat → Int32) → (Nat → Int32) → (Nat → Int32) → (Nat → Int32) → (Nat → Int32) × (Nat → Int32) × (Nat → Int32) × (Nat → Int32)
  | 0, k14, s14_0, s14_1, s14_2, s14_3 => (s14_0, s14_1, s14_2, s14_3)
  | zn + 1, k14, s14_0, s14_1, s14_2, s14_3 => F_X12_laysLines_L14 fm tm zn (k14 + 1) (upd s14_0 ((40 * tm) + k14) (s14_0 ((40 * fm) + k14))) (upd s14_1 ((40 * tm) + k14) (s14_1 ((40 * fm) + k14))) (upd s14_2 ((40 * tm) + k14) (s14_2 ((40 * fm) + k14))) (upd s14_3 ((40 * tm) + k14) (vp_nar .boolean (s14_3 ((40 * fm) + k14))))
theorem F_X12_laysLines_L14_z (fm : Nat) (tm : Nat) (k14 : Nat) (s14_0 : Nat → Int32) (s14_1 : Nat → Int32) (s14_2 : Nat → Int32) (s14_3 : Nat → Int32) : F_X12_laysLines_L14 fm tm 0 k14 s14_0 s14_1 s14_2 s14_3 = (s14_0, s14_1, s14_2, s14_3) := rfl
theorem F_X12_laysLines_L14_s (fm : Nat) (tm : Nat) (k14 : Nat) (s14_0 : Nat → Int32) (s14_1 : Nat → Int32) (s14_2 : Nat → Int32) (s14_3 : Nat → Int32) (zn : Nat) : F_X12_laysLines_L14 fm tm (zn + 1) k14 s14_0 s14_1 s14_2 s14_3 = F_X12_laysLines_L14 fm tm zn (k14 + 1) (upd s14_0 ((40 * tm) + k14) (s14_0 ((40 * fm) + k14))) (upd s14_1 ((40 * tm) + k14) (s14_1 ((40 * fm) + k14))) (upd s14_2 ((40 * tm) + k14) (s14_2 ((40 * fm) + k14))) (upd s14_3 ((40 * tm) + k14) (vp_nar .boolean (s14_3 ((40 * fm) + k14)))) := rfl
def F_X12_laysLines (fm : Nat) (tm : Nat) (li : Nat → Int32) (lw : Nat → Int32) (lo : Nat → Int32) (ld : Nat → Int32) (ls : Nat → Int32) : (Nat → Int32) × (Nat → Int32) × (Nat → Int32) × (Nat → Int32) × (Nat → Int32) := ((fun (v_1 : (Nat → Int32) × (Nat → Int32) × (Nat → Int32) × (Nat → Int32)) => (upd li tm (li fm), v_1.1, v_1.2.1, v_1.2.2.1, v_1.2.2.2)) (F_X12_laysLines_L14 fm tm (40 - 0) 0 lw lo ld ls))
set_option maxHeartbeats 4000000 in
set_option maxRecDepth 100000 in
theorem e_X12_laysLines (l : Launch) (m : Nat) (fm : Nat) (tm : Nat) (x0 : Int32) (x1 : Int32) (x2 : Nat) (x3 : Int32) (x4 : Int32) (x5 : Int32) (x6 : Int32) (x7 : Int64) (x8 : Int32) (x9 : Int32) (x10 : Nat) (x11 : Nat) (x12 : Nat) (x13 : Nat) (x14 : Nat) (x15 : Nat) (x16 : Nat) (x17 : Nat) (x18 : Nat) (x19 : Nat) (x20 : Nat) (x21 : Nat) (x22 : Nat) (x23 : Nat) (x24 : Nat) (x25 : Nat) (x26 : Int32) (x27 : Int32) (x28 : Nat) (x29 : Nat) (x30 : Nat) (x31 : Nat) (x32 : Nat) (x33 : Nat) (x34 : Nat) (x35 : Nat) (x36 : Nat) (x37 : Nat) (x38 : Nat) (x39 : Nat) (x40 : Int32) (x41 : Int64) (x42 : Nat) (x43 : Nat) (x44 : Nat) (x45 : Nat) (x46 : Nat) (x47 : Nat) (x48 : Nat) (x49 : Nat) (x50 : Nat) (x51 : Nat) (x52 : Nat) (x53 : Nat) (x54 : Int32) (x55 : Int32) (x56 : Int32) (x57 : Int32) (x58 : Nat) (x59 : Nat) (x60 : Nat) (x61 : Nat) (x62 : Int32) (x63 : Nat) (x64 : Nat) (x65 : Int32) (x66 : Int64) (li : Nat → Int32) (lw : Nat → Int32) (lo : Nat → Int32) (ld : Nat → Int32) (ls : Nat → Int32) (hfm : fm < 6) (htm : tm < 6) : ex_M l yX12_laysLines cX12_laysLines 4 none 0 0 [ex_r m, ex_i (nI fm), ex_i (nI tm)] [(m, ex_o 12 [ex_i x0, ex_i x1, ex_r x2, ex_i x3, ex_i x4, ex_i x5, ex_i x6, ex_j x7, ex_i x8, ex_i x9, ex_r x10, ex_r x11, ex_r x12, ex_r x13, ex_r x14, ex_r x15, ex_r x16, ex_r x17, ex_r x18, ex_r x19, ex_r x20, ex_r x21, ex_r x22, ex_r x23, ex_r x24, ex_r x25, ex_i x26, ex_i x27, ex_r x28, ex_r x29, ex_r x30, ex_r x31, ex_r x32, ex_r x33, ex_r x34, ex_r x35, ex_r x36, ex_r x37, ex_r x38, ex_r x39, ex_i x40, ex_j x41, ex_r x42, ex_r x43, ex_r x44, ex_r x45, ex_r x46, ex_r x47, ex_r x48, ex_r x49, ex_r x50, ex_r x51, ex_r x52, ex_r x53, ex_i x54, ex_i x55, ex_i x56, ex_i x57, ex_r x58, ex_r x59, ex_r x60, ex_r x61, ex_i x62, ex_r x63, ex_r x64, ex_i x65, ex_j x66]), (x42, ex_a 1 6 li), (x43, ex_a 1 240 lw), (x44, ex_a 1 240 lo), (x45, ex_a 1 240 ld), (x46, ex_a 3 240 ls)] (fun zcs zr => zcs = [(m, ex_o 12 [ex_i x0, ex_i x1, ex_r x2, ex_i x3, ex_i x4, ex_i x5, ex_i x6, ex_j x7, ex_i x8, ex_i x9, ex_r x10, ex_r x11, ex_r x12, ex_r x13, ex_r x14, ex_r x15, ex_r x16, ex_r x17, ex_r x18, ex_r x19, ex_r x20, ex_r x21, ex_r x22, ex_r x23, ex_r x24, ex_r x25, ex_i x26, ex_i x27, ex_r x28, ex_r x29, ex_r x30, ex_r x31, ex_r x32, ex_r x33, ex_r x34, ex_r x35, ex_r x36, ex_r x37, ex_r x38, ex_r x39, ex_i x40, ex_j x41, ex_r x42, ex_r x43, ex_r x44, ex_r x45, ex_r x46, ex_r x47, ex_r x48, ex_r x49, ex_r x50, ex_r x51, ex_r x52, ex_r x53, ex_i x54, ex_i x55, ex_i x56, ex_i x57, ex_r x58, ex_r x59, ex_r x60, ex_r x61, ex_i x62, ex_r x63, ex_r x64, ex_i x65, ex_j x66]), (x42, ex_a 1 6 ((F_X12_laysLines fm tm li lw lo ld ls).1)), (x43, ex_a 1 240 ((F_X12_laysLines fm tm li lw lo ld ls).2.1)), (x44, ex_a 1 240 ((F_X12_laysLines fm tm li lw lo ld ls).2.2.1)), (x45, ex_a 1 240 ((F_X12_laysLines fm tm li lw lo ld ls).2.2.2.1)), (x46, ex_a 3 240 ((F_X12_laysLines fm tm li lw lo ld ls).2.2.2.2))] ∧ zr = none) := by
  refine X_meth (by decide) (Nat.le_of_ble_eq_true rfl) ?_
  generalize hV : F_X12_laysLines fm tm li lw lo ld ls = V0
  have hV := hV.symm
  unfold F_X12_laysLines at hV
  try dsimp only at hV
  refine X_aload_n (j := 0) dX12_laysLines_0 rfl rfl ?_
  refine X_get (j := 0) fo_X12_99 dX12_laysLines_1 rfl rfl ?_
  refine X_iload_n (j := 2) dX12_laysLines_4 rfl rfl ?_
  refine X_aload_n (j := 0) dX12_laysLines_5 rfl rfl ?_
  refine X_get (j := 0) fo_X12_99 dX12_laysLines_6 rfl rfl ?_
  refine X_iload_n (j := 1) dX12_laysLines_9 rfl rfl ?_
  refine X_iald (j := 1) (v := (li fm)) dX12_laysLines_10 rfl (vp_in_nI (show fm < 6 by omega) (by decide)) (by rw [nI_clamp (by omega)]) ?_
  refine X_iast (j := 1) (g := upd li tm (li fm)) (cs' := [(m, ex_o 12 [ex_i x0, ex_i x1, ex_r x2, ex_i x3, ex_i x4, ex_i x5, ex_i x6, ex_j x7, ex_i x8, ex_i x9, ex_r x10, ex_r x11, ex_r x12, ex_r x13, ex_r x14, ex_r x15, ex_r x16, ex_r x17, ex_r x18, ex_r x19, ex_r x20, ex_r x21, ex_r x22, ex_r x23, ex_r x24, ex_r x25, ex_i x26, ex_i x27, ex_r x28, ex_r x29, ex_r x30, ex_r x31, ex_r x32, ex_r x33, ex_r x34, ex_r x35, ex_r x36, ex_r x37, ex_r x38, ex_r x39, ex_i x40, ex_j x41, ex_r x42, ex_r x43, ex_r x44, ex_r x45, ex_r x46, ex_r x47, ex_r x48, ex_r x49, ex_r x50, ex_r x51, ex_r x52, ex_r x53, ex_i x54, ex_i x55, ex_i x56, ex_i x57, ex_r x58, ex_r x59, ex_r x60, ex_r x61, ex_i x62, ex_r x63, ex_r x64, ex_i x65, ex_j x66]), (x42, ex_a 1 6 (upd li tm (li fm))), (x43, ex_a 1 240 lw), (x44, ex_a 1 240 lo), (x45, ex_a 1 240 ld), (x46, ex_a 3 240 ls)]) dX12_laysLines_11 rfl (vp_in_nI (show tm < 6 by omega) (by decide)) (by rw [nI_clamp (by omega)]) rfl ?_
  refine X_iconst (v := 0) dX12_laysLines_12 (by decide) ?_
  refine X_istore_n (lv' := [(3, ex_i 0), (0, ex_r m), (1, ex_i (nI fm)), (2, ex_i (nI tm))]) dX12_laysLines_13 rfl (Nat.le_of_ble_eq_true rfl) rfl ?_
  -- loop at 14
  try dsimp only at hV
  generalize hq_v_1 : F_X12_laysLines_L14 fm tm (40 - 0) 0 lw lo ld ls = v_1 at hV
  try dsimp only at hV
  refine X_cut (P := True) (csE := [(m, ex_o 12 [ex_i x0, ex_i x1, ex_r x2, ex_i x3, ex_i x4, ex_i x5, ex_i x6, ex_j x7, ex_i x8, ex_i x9, ex_r x10, ex_r x11, ex_r x12, ex_r x13, ex_r x14, ex_r x15, ex_r x16, ex_r x17, ex_r x18, ex_r x19, ex_r x20, ex_r x21, ex_r x22, ex_r x23, ex_r x24, ex_r x25, ex_i x26, ex_i x27, ex_r x28, ex_r x29, ex_r x30, ex_r x31, ex_r x32, ex_r x33, ex_r x34, ex_r x35, ex_r x36, ex_r x37, ex_r x38, ex_r x39, ex_i x40, ex_j x41, ex_r x42, ex_r x43, ex_r x44, ex_r x45, ex_r x46, ex_r x47, ex_r x48, ex_r x49, ex_r x50, ex_r x51, ex_r x52, ex_r x53, ex_i x54, ex_i x55, ex_i x56, ex_i x57, ex_r x58, ex_r x59, ex_r x60, ex_r x61, ex_i x62, ex_r x63, ex_r x64, ex_i x65, ex_j x66]), (x42, ex_a 1 6 (upd li tm (li fm))), (x43, ex_a 1 240 v_1.1), (x44, ex_a 1 240 v_1.2.1), (x45, ex_a 1 240 v_1.2.2.1), (x46, ex_a 3 240 v_1.2.2.2)]) (lvE := [(0, ex_r m), (1, ex_i (nI fm)), (2, ex_i (nI tm))]) (E := 114) (fun hrest14 => ?_) (fun hPX14 => ?_)
  · have hL14 := hq_v_1.symm
    refine X_ind (fun (a14 : Nat × (Nat → Int32) × (Nat → Int32) × (Nat → Int32) × (Nat → Int32)) => v_1 = F_X12_laysLines_L14 fm tm (40 - a14.1) a14.1 a14.2.1 a14.2.2.1 a14.2.2.2.1 a14.2.2.2.2 ∧ a14.1 ≤ 40) (fun (a14 : Nat × (Nat → Int32) × (Nat → Int32) × (Nat → Int32) × (Nat → Int32)) => 40 - a14.1) (fun (a14 : Nat × (Nat → Int32) × (Nat → Int32) × (Nat → Int32) × (Nat → Int32)) => [(m, ex_o 12 [ex_i x0, ex_i x1, ex_r x2, ex_i x3, ex_i x4, ex_i x5, ex_i x6, ex_j x7, ex_i x8, ex_i x9, ex_r x10, ex_r x11, ex_r x12, ex_r x13, ex_r x14, ex_r x15, ex_r x16, ex_r x17, ex_r x18, ex_r x19, ex_r x20, ex_r x21, ex_r x22, ex_r x23, ex_r x24, ex_r x25, ex_i x26, ex_i x27, ex_r x28, ex_r x29, ex_r x30, ex_r x31, ex_r x32, ex_r x33, ex_r x34, ex_r x35, ex_r x36, ex_r x37, ex_r x38, ex_r x39, ex_i x40, ex_j x41, ex_r x42, ex_r x43, ex_r x44, ex_r x45, ex_r x46, ex_r x47, ex_r x48, ex_r x49, ex_r x50, ex_r x51, ex_r x52, ex_r x53, ex_i x54, ex_i x55, ex_i x56, ex_i x57, ex_r x58, ex_r x59, ex_r x60, ex_r x61, ex_i x62, ex_r x63, ex_r x64, ex_i x65, ex_j x66]), (x42, ex_a 1 6 (upd li tm (li fm))), (x43, ex_a 1 240 a14.2.1), (x44, ex_a 1 240 a14.2.2.1), (x45, ex_a 1 240 a14.2.2.2.1), (x46, ex_a 3 240 a14.2.2.2.2)]) (fun (a14 : Nat × (Nat → Int32) × (Nat → Int32) × (Nat → Int32) × (Nat → Int32)) => [(3, ex_i (nI a14.1)), (0, ex_r m), (1, ex_i (nI fm)), (2, ex_i (nI tm))]) (fun ⟨k14, s14_0, s14_1, s14_2, s14_3⟩ hI14 ih14 => ?_) (0, lw, lo, ld, ls) ⟨hL14, (by omega)⟩
    try dsimp only at hI14 ih14 ⊢
    have ihc14 : ∀ (k14_ : Nat) (s14_0_ : Nat → Int32) (s14_1_ : Nat → Int32) (s14_2_ : Nat → Int32) (s14_3_ : Nat → Int32), (v_1 = F_X12_laysLines_L14 fm tm (40 - k14_) k14_ s14_0_ s14_1_ s14_2_ s14_3_ ∧ k14_ ≤ 40) → (40 - k14_) < (40 - k14) → ex_O _ _ _ _ _ _ _ _ _ [(m, ex_o 12 [ex_i x0, ex_i x1, ex_r x2, ex_i x3, ex_i x4, ex_i x5, ex_i x6, ex_j x7, ex_i x8, ex_i x9, ex_r x10, ex_r x11, ex_r x12, ex_r x13, ex_r x14, ex_r x15, ex_r x16, ex_r x17, ex_r x18, ex_r x19, ex_r x20, ex_r x21, ex_r x22, ex_r x23, ex_r x24, ex_r x25, ex_i x26, ex_i x27, ex_r x28, ex_r x29, ex_r x30, ex_r x31, ex_r x32, ex_r x33, ex_r x34, ex_r x35, ex_r x36, ex_r x37, ex_r x38, ex_r x39, ex_i x40, ex_j x41, ex_r x42, ex_r x43, ex_r x44, ex_r x45, ex_r x46, ex_r x47, ex_r x48, ex_r x49, ex_r x50, ex_r x51, ex_r x52, ex_r x53, ex_i x54, ex_i x55, ex_i x56, ex_i x57, ex_r x58, ex_r x59, ex_r x60, ex_r x61, ex_i x62, ex_r x63, ex_r x64, ex_i x65, ex_j x66]), (x42, ex_a 1 6 (upd li tm (li fm))), (x43, ex_a 1 240 s14_0_), (x44, ex_a 1 240 s14_1_), (x45, ex_a 1 240 s14_2_), (x46, ex_a 3 240 s14_3_)] [(3, ex_i (nI k14_)), (0, ex_r m), (1, ex_i (nI fm)), (2, ex_i (nI tm))] _ _ := fun k14_ s14_0_ s14_1_ s14_2_ s14_3_ hi_ hm_ => ih14 (k14_, s14_0_, s14_1_, s14_2_, s14_3_) hi_ hm_
    have hL14 := hI14.1
    have hb14 := hI14.2
    refine X_iload_n (j := 0) dX12_laysLines_14 rfl rfl ?_
    refine X_bipush (v := 40) dX12_laysLines_15 (by decide) ?_
    refine X_icmp_ge (tgt := 114) dX12_laysLines_17 (by decide) (fun c_2 => ?_) (fun c_2 => ?_)
    · have hlt14 : k14 = 40 := nlex (L := 40) (by omega) hb14 c_2
      rw [show 40 - k14 = 0 by omega] at hL14
      have hL14 := hL14.trans (F_X12_laysLines_L14_z ..)
      try dsimp only at hL14
      refine X_lv (lv' := [(0, ex_r m), (1, ex_i (nI fm)), (2, ex_i (nI tm))]) [1, 2, 3] rfl ?_
      refine X_eq (cs' := [(m, ex_o 12 [ex_i x0, ex_i x1, ex_r x2, ex_i x3, ex_i x4, ex_i x5, ex_i x6, ex_j x7, ex_i x8, ex_i x9, ex_r x10, ex_r x11, ex_r x12, ex_r x13, ex_r x14, ex_r x15, ex_r x16, ex_r x17, ex_r x18, ex_r x19, ex_r x20, ex_r x21, ex_r x22, ex_r x23, ex_r x24, ex_r x25, ex_i x26, ex_i x27, ex_r x28, ex_r x29, ex_r x30, ex_r x31, ex_r x32, ex_r x33, ex_r x34, ex_r x35, ex_r x36, ex_r x37, ex_r x38, ex_r x39, ex_i x40, ex_j x41, ex_r x42, ex_r x43, ex_r x44, ex_r x45, ex_r x46, ex_r x47, ex_r x48, ex_r x49, ex_r x50, ex_r x51, ex_r x52, ex_r x53, ex_i x54, ex_i x55, ex_i x56, ex_i x57, ex_r x58, ex_r x59, ex_r x60, ex_r x61, ex_i x62, ex_r x63, ex_r x64, ex_i x65, ex_j x66]), (x42, ex_a 1 6 (upd li tm (li fm))), (x43, ex_a 1 240 v_1.1), (x44, ex_a 1 240 v_1.2.1), (x45, ex_a 1 240 v_1.2.2.1), (x46, ex_a 3 240 v_1.2.2.2)]) (lv' := [(0, ex_r m), (1, ex_i (nI fm)), (2, ex_i (nI tm))]) (by subst hL14; rfl) (by subst hL14; rfl) ?_
      exact hrest14 trivial
    · have hlt14 : k14 < 40 := nlen (L := 40) (by omega) hb14 c_2
      rw [show 40 - k14 = (40 - (k14 + 1)) + 1 by omega] at hL14
      have hL14 := hL14.trans (F_X12_laysLines_L14_s ..)
      refine X_aload_n (j := 1) dX12_laysLines_20 rfl rfl ?_
      refine X_get (j := 0) fo_X12_102 dX12_laysLines_21 rfl rfl ?_
      refine X_bipush (v := 40) dX12_laysLines_24 (by decide) ?_
      refine X_iload_n (j := 3) dX12_laysLines_26 rfl rfl ?_
      refine X_imul (v := nI (40 * tm)) dX12_laysLines_27 (nI_mu 40 tm) ?_
      refine X_iload_n (j := 0) dX12_laysLines_28 rfl rfl ?_
      refine X_iadd (v := nI ((40 * tm) + k14)) dX12_laysLines_29 (nI_add (40 * tm) k14) ?_
      refine X_aload_n (j := 1) dX12_laysLines_30 rfl rfl ?_
      refine X_get (j := 0) fo_X12_102 dX12_laysLines_31 rfl rfl ?_
      refine X_bipush (v := 40) dX12_laysLines_34 (by decide) ?_
      refine X_iload_n (j := 2) dX12_laysLines_36 rfl rfl ?_
      refine X_imul (v := nI (40 * fm)) dX12_laysLines_37 (nI_mu 40 fm) ?_
      refine X_iload_n (j := 0) dX12_laysLines_38 rfl rfl ?_
      refine X_iadd (v := nI ((40 * fm) + k14)) dX12_laysLines_39 (nI_add (40 * fm) k14) ?_
      refine X_iald (j := 2) (v := (s14_0 ((40 * fm) + k14))) dX12_laysLines_40 rfl (vp_in_nI (show (40 * fm) + k14 < 240 by omega) (by decide)) (by rw [nI_clamp (by omega)]) ?_
      refine X_iast (j := 2) (g := upd s14_0 ((40 * tm) + k14) (s14_0 ((40 * fm) + k14))) (cs' := [(m, ex_o 12 [ex_i x0, ex_i x1, ex_r x2, ex_i x3, ex_i x4, ex_i x5, ex_i x6, ex_j x7, ex_i x8, ex_i x9, ex_r x10, ex_r x11, ex_r x12, ex_r x13, ex_r x14, ex_r x15, ex_r x16, ex_r x17, ex_r x18, ex_r x19, ex_r x20, ex_r x21, ex_r x22, ex_r x23, ex_r x24, ex_r x25, ex_i x26, ex_i x27, ex_r x28, ex_r x29, ex_r x30, ex_r x31, ex_r x32, ex_r x33, ex_r x34, ex_r x35, ex_r x36, ex_r x37, ex_r x38, ex_r x39, ex_i x40, ex_j x41, ex_r x42, ex_r x43, ex_r x44, ex_r x45, ex_r x46, ex_r x47, ex_r x48, ex_r x49, ex_r x50, ex_r x51, ex_r x52, ex_r x53, ex_i x54, ex_i x55, ex_i x56, ex_i x57, ex_r x58, ex_r x59, ex_r x60, ex_r x61, ex_i x62, ex_r x63, ex_r x64, ex_i x65, ex_j x66]), (x42, ex_a 1 6 (upd li tm (li fm))), (x43, ex_a 1 240 (upd s14_0 ((40 * tm) + k14) (s14_0 ((40 * fm) + k14)))), (x44, ex_a 1 240 s14_1), (x45, ex_a 1 240 s14_2), (x46, ex_a 3 240 s14_3)]) dX12_laysLines_41 rfl (vp_in_nI (show (40 * tm) + k14 < 240 by omega) (by decide)) (by rw [nI_clamp (by omega)]) rfl ?_
      refine X_aload_n (j := 1) dX12_laysLines_42 rfl rfl ?_
      refine X_get (j := 0) fo_X12_105 dX12_laysLines_43 rfl rfl ?_
      refine X_bipush (v := 40) dX12_laysLines_46 (by decide) ?_
      refine X_iload_n (j := 3) dX12_laysLines_48 rfl rfl ?_
      refine X_imul (v := nI (40 * tm)) dX12_laysLines_49 (nI_mu 40 tm) ?_
      refine X_iload_n (j := 0) dX12_laysLines_50 rfl rfl ?_
      refine X_iadd (v := nI ((40 * tm) + k14)) dX12_laysLines_51 (nI_add (40 * tm) k14) ?_
      refine X_aload_n (j := 1) dX12_laysLines_52 rfl rfl ?_
      refine X_get (j := 0) fo_X12_105 dX12_laysLines_53 rfl rfl ?_
      refine X_bipush (v := 40) dX12_laysLines_56 (by decide) ?_
      refine X_iload_n (j := 2) dX12_laysLines_58 rfl rfl ?_
      refine X_imul (v := nI (40 * fm)) dX12_laysLines_59 (nI_mu 40 fm) ?_
      refine X_iload_n (j := 0) dX12_laysLines_60 rfl rfl ?_
      refine X_iadd (v := nI ((40 * fm) + k14)) dX12_laysLines_61 (nI_add (40 * fm) k14) ?_
      refine X_iald (j := 3) (v := (s14_1 ((40 * fm) + k14))) dX12_laysLines_62 rfl (vp_in_nI (show (40 * fm) + k14 < 240 by omega) (by decide)) (by rw [nI_clamp (by omega)]) ?_
      refine X_iast (j := 3) (g := upd s14_1 ((40 * tm) + k14) (s14_1 ((40 * fm) + k14))) (cs' := [(m, ex_o 12 [ex_i x0, ex_i x1, ex_r x2, ex_i x3, ex_i x4, ex_i x5, ex_i x6, ex_j x7, ex_i x8, ex_i x9, ex_r x10, ex_r x11, ex_r x12, ex_r x13, ex_r x14, ex_r x15, ex_r x16, ex_r x17, ex_r x18, ex_r x19, ex_r x20, ex_r x21, ex_r x22, ex_r x23, ex_r x24, ex_r x25, ex_i x26, ex_i x27, ex_r x28, ex_r x29, ex_r x30, ex_r x31, ex_r x32, ex_r x33, ex_r x34, ex_r x35, ex_r x36, ex_r x37, ex_r x38, ex_r x39, ex_i x40, ex_j x41, ex_r x42, ex_r x43, ex_r x44, ex_r x45, ex_r x46, ex_r x47, ex_r x48, ex_r x49, ex_r x50, ex_r x51, ex_r x52, ex_r x53, ex_i x54, ex_i x55, ex_i x56, ex_i x57, ex_r x58, ex_r x59, ex_r x60, ex_r x61, ex_i x62, ex_r x63, ex_r x64, ex_i x65, ex_j x66]), (x42, ex_a 1 6 (upd li tm (li fm))), (x43, ex_a 1 240 (upd s14_0 ((40 * tm) + k14) (s14_0 ((40 * fm) + k14)))), (x44, ex_a 1 240 (upd s14_1 ((40 * tm) + k14) (s14_1 ((40 * fm) + k14)))), (x45, ex_a 1 240 s14_2), (x46, ex_a 3 240 s14_3)]) dX12_laysLines_63 rfl (vp_in_nI (show (40 * tm) + k14 < 240 by omega) (by decide)) (by rw [nI_clamp (by omega)]) rfl ?_
      refine X_aload_n (j := 1) dX12_laysLines_64 rfl rfl ?_
      refine X_get (j := 0) fo_X12_108 dX12_laysLines_65 rfl rfl ?_
      refine X_bipush (v := 40) dX12_laysLines_68 (by decide) ?_
      refine X_iload_n (j := 3) dX12_laysLines_70 rfl rfl ?_
      refine X_imul (v := nI (40 * tm)) dX12_laysLines_71 (nI_mu 40 tm) ?_
      refine X_iload_n (j := 0) dX12_laysLines_72 rfl rfl ?_
      refine X_iadd (v := nI ((40 * tm) + k14)) dX12_laysLines_73 (nI_add (40 * tm) k14) ?_
      refine X_aload_n (j := 1) dX12_laysLines_74 rfl rfl ?_
      refine X_get (j := 0) fo_X12_108 dX12_laysLines_75 rfl rfl ?_
      refine X_bipush (v := 40) dX12_laysLines_78 (by decide) ?_
      refine X_iload_n (j := 2) dX12_laysLines_80 rfl rfl ?_
      refine X_imul (v := nI (40 * fm)) dX12_laysLines_81 (nI_mu 40 fm) ?_
      refine X_iload_n (j := 0) dX12_laysLines_82 rfl rfl ?_
      refine X_iadd (v := nI ((40 * fm) + k14)) dX12_laysLines_83 (nI_add (40 * fm) k14) ?_
      refine X_iald (j := 4) (v := (s14_2 ((40 * fm) + k14))) dX12_laysLines_84 rfl (vp_in_nI (show (40 * fm) + k14 < 240 by omega) (by decide)) (by rw [nI_clamp (by omega)]) ?_
      refine X_iast (j := 4) (g := upd s14_2 ((40 * tm) + k14) (s14_2 ((40 * fm) + k14))) (cs' := [(m, ex_o 12 [ex_i x0, ex_i x1, ex_r x2, ex_i x3, ex_i x4, ex_i x5, ex_i x6, ex_j x7, ex_i x8, ex_i x9, ex_r x10, ex_r x11, ex_r x12, ex_r x13, ex_r x14, ex_r x15, ex_r x16, ex_r x17, ex_r x18, ex_r x19, ex_r x20, ex_r x21, ex_r x22, ex_r x23, ex_r x24, ex_r x25, ex_i x26, ex_i x27, ex_r x28, ex_r x29, ex_r x30, ex_r x31, ex_r x32, ex_r x33, ex_r x34, ex_r x35, ex_r x36, ex_r x37, ex_r x38, ex_r x39, ex_i x40, ex_j x41, ex_r x42, ex_r x43, ex_r x44, ex_r x45, ex_r x46, ex_r x47, ex_r x48, ex_r x49, ex_r x50, ex_r x51, ex_r x52, ex_r x53, ex_i x54, ex_i x55, ex_i x56, ex_i x57, ex_r x58, ex_r x59, ex_r x60, ex_r x61, ex_i x62, ex_r x63, ex_r x64, ex_i x65, ex_j x66]), (x42, ex_a 1 6 (upd li tm (li fm))), (x43, ex_a 1 240 (upd s14_0 ((40 * tm) + k14) (s14_0 ((40 * fm) + k14)))), (x44, ex_a 1 240 (upd s14_1 ((40 * tm) + k14) (s14_1 ((40 * fm) + k14)))), (x45, ex_a 1 240 (upd s14_2 ((40 * tm) + k14) (s14_2 ((40 * fm) + k14)))), (x46, ex_a 3 240 s14_3)]) dX12_laysLines_85 rfl (vp_in_nI (show (40 * tm) + k14 < 240 by omega) (by decide)) (by rw [nI_clamp (by omega)]) rfl ?_
      refine X_aload_n (j := 1) dX12_laysLines_86 rfl rfl ?_
      refine X_get (j := 0) fo_X12_111 dX12_laysLines_87 rfl rfl ?_
      refine X_bipush (v := 40) dX12_laysLines_90 (by decide) ?_
      refine X_iload_n (j := 3) dX12_laysLines_92 rfl rfl ?_
      refine X_imul (v := nI (40 * tm)) dX12_laysLines_93 (nI_mu 40 tm) ?_
      refine X_iload_n (j := 0) dX12_laysLines_94 rfl rfl ?_
      refine X_iadd (v := nI ((40 * tm) + k14)) dX12_laysLines_95 (nI_add (40 * tm) k14) ?_
      refine X_aload_n (j := 1) dX12_laysLines_96 rfl rfl ?_
      refine X_get (j := 0) fo_X12_111 dX12_laysLines_97 rfl rfl ?_
      refine X_bipush (v := 40) dX12_laysLines_100 (by decide) ?_
      refine X_iload_n (j := 2) dX12_laysLines_102 rfl rfl ?_
      refine X_imul (v := nI (40 * fm)) dX12_laysLines_103 (nI_mu 40 fm) ?_
      refine X_iload_n (j := 0) dX12_laysLines_104 rfl rfl ?_
      refine X_iadd (v := nI ((40 * fm) + k14)) dX12_laysLines_105 (nI_add (40 * fm) k14) ?_
      refine X_zald (j := 5) (v := (s14_3 ((40 * fm) + k14))) dX12_laysLines_106 rfl (vp_in_nI (show (40 * fm) + k14 < 240 by omega) (by decide)) (by rw [nI_clamp (by omega)]) ?_
      refine X_zast (j := 5) (g := upd s14_3 ((40 * tm) + k14) (vp_nar .boolean (s14_3 ((40 * fm) + k14)))) (cs' := [(m, ex_o 12 [ex_i x0, ex_i x1, ex_r x2, ex_i x3, ex_i x4, ex_i x5, ex_i x6, ex_j x7, ex_i x8, ex_i x9, ex_r x10, ex_r x11, ex_r x12, ex_r x13, ex_r x14, ex_r x15, ex_r x16, ex_r x17, ex_r x18, ex_r x19, ex_r x20, ex_r x21, ex_r x22, ex_r x23, ex_r x24, ex_r x25, ex_i x26, ex_i x27, ex_r x28, ex_r x29, ex_r x30, ex_r x31, ex_r x32, ex_r x33, ex_r x34, ex_r x35, ex_r x36, ex_r x37, ex_r x38, ex_r x39, ex_i x40, ex_j x41, ex_r x42, ex_r x43, ex_r x44, ex_r x45, ex_r x46, ex_r x47, ex_r x48, ex_r x49, ex_r x50, ex_r x51, ex_r x52, ex_r x53, ex_i x54, ex_i x55, ex_i x56, ex_i x57, ex_r x58, ex_r x59, ex_r x60, ex_r x61, ex_i x62, ex_r x63, ex_r x64, ex_i x65, ex_j x66]), (x42, ex_a 1 6 (upd li tm (li fm))), (x43, ex_a 1 240 (upd s14_0 ((40 * tm) + k14) (s14_0 ((40 * fm) + k14)))), (x44, ex_a 1 240 (upd s14_1 ((40 * tm) + k14) (s14_1 ((40 * fm) + k14)))), (x45, ex_a 1 240 (upd s14_2 ((40 * tm) + k14) (s14_2 ((40 * fm) + k14)))), (x46, ex_a 3 240 (upd s14_3 ((40 * tm) + k14) (vp_nar .boolean (s14_3 ((40 * fm) + k14)))))]) dX12_laysLines_107 rfl (vp_in_nI (show (40 * tm) + k14 < 240 by omega) (by decide)) (by rw [nI_clamp (by omega)]) rfl ?_
      refine X_iinc (v := nI (k14 + 1)) (j := 0) (lv' := [(3, ex_i (nI (k14 + 1))), (0, ex_r m), (1, ex_i (nI fm)), (2, ex_i (nI tm))]) dX12_laysLines_108 rfl (nI_add k14 1) (Nat.le_of_ble_eq_true rfl) rfl ?_
      refine X_goto (tgt := 14) dX12_laysLines_111 (by decide) ?_
      try dsimp only at hL14
      exact ihc14 (k14 + 1) (upd s14_0 ((40 * tm) + k14) (s14_0 ((40 * fm) + k14))) (upd s14_1 ((40 * tm) + k14) (s14_1 ((40 * fm) + k14))) (upd s14_2 ((40 * tm) + k14) (s14_2 ((40 * fm) + k14))) (upd s14_3 ((40 * tm) + k14) (vp_nar .boolean (s14_3 ((40 * fm) + k14)))) ⟨hL14, (show (k14 + 1) ≤ 40 by omega)⟩ (show 40 - (k14 + 1) < 40 - k14 by omega)
  try dsimp only at hV
  exact X_vret dX12_laysLines_114 (by (repeat refine ex_kc ?_) <;> rfl) (by subst hV; exact ⟨rfl, rfl⟩)

def F_X12_laysTold_L2 (fm : Nat) (tm : Nat) : Nat → Nat → (Nat → Int32) → (Nat → Int32)
  | 0, k2, s2_0 => s2_0
  | zn + 1, k2, s2_0 => F_X12_laysTold_L2 fm tm zn (k2 + 1) (upd s2_0 ((6 * tm) + k2) (s2_0 ((6 * fm) + k2)))
theorem F_X12_laysTold_L2_z (fm : Nat) (tm : Nat) (k2 : Nat) (s2_0 : Nat → Int32) : F_X12_laysTold_L2 fm tm 0 k2 s2_0 = s2_0 := rfl
theorem F_X12_laysTold_L2_s (fm : Nat) (tm : Nat) (k2 : Nat) (s2_0 : Nat → Int32) (zn : Nat) : F_X12_laysTold_L2 fm tm (zn + 1) k2 s2_0 = F_X12_laysTold_L2 fm tm zn (k2 + 1) (upd s2_0 ((6 * tm) + k2) (s2_0 ((6 * fm) + k2))) := rfl
def F_X12_laysTold (fm : Nat) (tm : Nat) (to : Nat → Int32) : (Nat → Int32) := ((fun (v_1 : (Nat → Int32)) => v_1) (F_X12_laysTold_L2 fm tm (6 - 0) 0 to))
set_option maxHeartbeats 4000000 in
set_option maxRecDepth 100000 in
theorem e_X12_laysTold (l : Launch) (m : Nat) (fm : Nat) (tm : Nat) (x0 : Int32) (x1 : Int32) (x2 : Nat) (x3 : Int32) (x4 : Int32) (x5 : Int32) (x6 : Int32) (x7 : Int64) (x8 : Int32) (x9 : Int32) (x10 : Nat) (x11 : Nat) (x12 : Nat) (x13 : Nat) (x14 : Nat) (x15 : Nat) (x16 : Nat) (x17 : Nat) (x18 : Nat) (x19 : Nat) (x20 : Nat) (x21 : Nat) (x22 : Nat) (x23 : Nat) (x24 : Nat) (x25 : Nat) (x26 : Int32) (x27 : Int32) (x28 : Nat) (x29 : Nat) (x30 : Nat) (x31 : Nat) (x32 : Nat) (x33 : Nat) (x34 : Nat) (x35 : Nat) (x36 : Nat) (x37 : Nat) (x38 : Nat) (x39 : Nat) (x40 : Int32) (x41 : Int64) (x42 : Nat) (x43 : Nat) (x44 : Nat) (x45 : Nat) (x46 : Nat) (x47 : Nat) (x48 : Nat) (x49 : Nat) (x50 : Nat) (x51 : Nat) (x52 : Nat) (x53 : Nat) (x54 : Int32) (x55 : Int32) (x56 : Int32) (x57 : Int32) (x58 : Nat) (x59 : Nat) (x60 : Nat) (x61 : Nat) (x62 : Int32) (x63 : Nat) (x64 : Nat) (x65 : Int32) (x66 : Int64) (to : Nat → Int32) (hfm : fm < 5) (htm : tm < 5) : ex_M l yX12_laysTold cX12_laysTold 4 none 0 0 [ex_r m, ex_i (nI fm), ex_i (nI tm)] [(m, ex_o 12 [ex_i x0, ex_i x1, ex_r x2, ex_i x3, ex_i x4, ex_i x5, ex_i x6, ex_j x7, ex_i x8, ex_i x9, ex_r x10, ex_r x11, ex_r x12, ex_r x13, ex_r x14, ex_r x15, ex_r x16, ex_r x17, ex_r x18, ex_r x19, ex_r x20, ex_r x21, ex_r x22, ex_r x23, ex_r x24, ex_r x25, ex_i x26, ex_i x27, ex_r x28, ex_r x29, ex_r x30, ex_r x31, ex_r x32, ex_r x33, ex_r x34, ex_r x35, ex_r x36, ex_r x37, ex_r x38, ex_r x39, ex_i x40, ex_j x41, ex_r x42, ex_r x43, ex_r x44, ex_r x45, ex_r x46, ex_r x47, ex_r x48, ex_r x49, ex_r x50, ex_r x51, ex_r x52, ex_r x53, ex_i x54, ex_i x55, ex_i x56, ex_i x57, ex_r x58, ex_r x59, ex_r x60, ex_r x61, ex_i x62, ex_r x63, ex_r x64, ex_i x65, ex_j x66]), (x47, ex_a 1 30 to)] (fun zcs zr => zcs = [(m, ex_o 12 [ex_i x0, ex_i x1, ex_r x2, ex_i x3, ex_i x4, ex_i x5, ex_i x6, ex_j x7, ex_i x8, ex_i x9, ex_r x10, ex_r x11, ex_r x12, ex_r x13, ex_r x14, ex_r x15, ex_r x16, ex_r x17, ex_r x18, ex_r x19, ex_r x20, ex_r x21, ex_r x22, ex_r x23, ex_r x24, ex_r x25, ex_i x26, ex_i x27, ex_r x28, ex_r x29, ex_r x30, ex_r x31, ex_r x32, ex_r x33, ex_r x34, ex_r x35, ex_r x36, ex_r x37, ex_r x38, ex_r x39, ex_i x40, ex_j x41, ex_r x42, ex_r x43, ex_r x44, ex_r x45, ex_r x46, ex_r x47, ex_r x48, ex_r x49, ex_r x50, ex_r x51, ex_r x52, ex_r x53, ex_i x54, ex_i x55, ex_i x56, ex_i x57, ex_r x58, ex_r x59, ex_r x60, ex_r x61, ex_i x62, ex_r x63, ex_r x64, ex_i x65, ex_j x66]), (x47, ex_a 1 30 (F_X12_laysTold fm tm to))] ∧ zr = none) := by
  refine X_meth (by decide) (Nat.le_of_ble_eq_true rfl) ?_
  generalize hV : F_X12_laysTold fm tm to = V0
  have hV := hV.symm
  unfold F_X12_laysTold at hV
  try dsimp only at hV
  refine X_iconst (v := 0) dX12_laysTold_0 (by decide) ?_
  refine X_istore_n (lv' := [(3, ex_i 0), (0, ex_r m), (1, ex_i (nI fm)), (2, ex_i (nI tm))]) dX12_laysTold_1 rfl (Nat.le_of_ble_eq_true rfl) rfl ?_
  -- loop at 2
  try dsimp only at hV
  generalize hq_v_1 : F_X12_laysTold_L2 fm tm (6 - 0) 0 to = v_1 at hV
  try dsimp only at hV
  refine X_cut (P := True) (csE := [(m, ex_o 12 [ex_i x0, ex_i x1, ex_r x2, ex_i x3, ex_i x4, ex_i x5, ex_i x6, ex_j x7, ex_i x8, ex_i x9, ex_r x10, ex_r x11, ex_r x12, ex_r x13, ex_r x14, ex_r x15, ex_r x16, ex_r x17, ex_r x18, ex_r x19, ex_r x20, ex_r x21, ex_r x22, ex_r x23, ex_r x24, ex_r x25, ex_i x26, ex_i x27, ex_r x28, ex_r x29, ex_r x30, ex_r x31, ex_r x32, ex_r x33, ex_r x34, ex_r x35, ex_r x36, ex_r x37, ex_r x38, ex_r x39, ex_i x40, ex_j x41, ex_r x42, ex_r x43, ex_r x44, ex_r x45, ex_r x46, ex_r x47, ex_r x48, ex_r x49, ex_r x50, ex_r x51, ex_r x52, ex_r x53, ex_i x54, ex_i x55, ex_i x56, ex_i x57, ex_r x58, ex_r x59, ex_r x60, ex_r x61, ex_i x62, ex_r x63, ex_r x64, ex_i x65, ex_j x66]), (x47, ex_a 1 30 v_1)]) (lvE := [(0, ex_r m), (1, ex_i (nI fm)), (2, ex_i (nI tm))]) (E := 36) (fun hrest2 => ?_) (fun hPX2 => ?_)
  · have hL2 := hq_v_1.symm
    refine X_ind (fun (a2 : Nat × (Nat → Int32)) => v_1 = F_X12_laysTold_L2 fm tm (6 - a2.1) a2.1 a2.2 ∧ a2.1 ≤ 6) (fun (a2 : Nat × (Nat → Int32)) => 6 - a2.1) (fun (a2 : Nat × (Nat → Int32)) => [(m, ex_o 12 [ex_i x0, ex_i x1, ex_r x2, ex_i x3, ex_i x4, ex_i x5, ex_i x6, ex_j x7, ex_i x8, ex_i x9, ex_r x10, ex_r x11, ex_r x12, ex_r x13, ex_r x14, ex_r x15, ex_r x16, ex_r x17, ex_r x18, ex_r x19, ex_r x20, ex_r x21, ex_r x22, ex_r x23, ex_r x24, ex_r x25, ex_i x26, ex_i x27, ex_r x28, ex_r x29, ex_r x30, ex_r x31, ex_r x32, ex_r x33, ex_r x34, ex_r x35, ex_r x36, ex_r x37, ex_r x38, ex_r x39, ex_i x40, ex_j x41, ex_r x42, ex_r x43, ex_r x44, ex_r x45, ex_r x46, ex_r x47, ex_r x48, ex_r x49, ex_r x50, ex_r x51, ex_r x52, ex_r x53, ex_i x54, ex_i x55, ex_i x56, ex_i x57, ex_r x58, ex_r x59, ex_r x60, ex_r x61, ex_i x62, ex_r x63, ex_r x64, ex_i x65, ex_j x66]), (x47, ex_a 1 30 a2.2)]) (fun (a2 : Nat × (Nat → Int32)) => [(3, ex_i (nI a2.1)), (0, ex_r m), (1, ex_i (nI fm)), (2, ex_i (nI tm))]) (fun ⟨k2, s2_0⟩ hI2 ih2 => ?_) (0, to) ⟨hL2, (by omega)⟩
    try dsimp only at hI2 ih2 ⊢
    have ihc2 : ∀ (k2_ : Nat) (s2_0_ : Nat → Int32), (v_1 = F_X12_laysTold_L2 fm tm (6 - k2_) k2_ s2_0_ ∧ k2_ ≤ 6) → (6 - k2_) < (6 - k2) → ex_O _ _ _ _ _ _ _ _ _ [(m, ex_o 12 [ex_i x0, ex_i x1, ex_r x2, ex_i x3, ex_i x4, ex_i x5, ex_i x6, ex_j x7, ex_i x8, ex_i x9, ex_r x10, ex_r x11, ex_r x12, ex_r x13, ex_r x14, ex_r x15, ex_r x16, ex_r x17, ex_r x18, ex_r x19, ex_r x20, ex_r x21, ex_r x22, ex_r x23, ex_r x24, ex_r x25, ex_i x26, ex_i x27, ex_r x28, ex_r x29, ex_r x30, ex_r x31, ex_r x32, ex_r x33, ex_r x34, ex_r x35, ex_r x36, ex_r x37, ex_r x38, ex_r x39, ex_i x40, ex_j x41, ex_r x42, ex_r x43, ex_r x44, ex_r x45, ex_r x46, ex_r x47, ex_r x48, ex_r x49, ex_r x50, ex_r x51, ex_r x52, ex_r x53, ex_i x54, ex_i x55, ex_i x56, ex_i x57, ex_r x58, ex_r x59, ex_r x60, ex_r x61, ex_i x62, ex_r x63, ex_r x64, ex_i x65, ex_j x66]), (x47, ex_a 1 30 s2_0_)] [(3, ex_i (nI k2_)), (0, ex_r m), (1, ex_i (nI fm)), (2, ex_i (nI tm))] _ _ := fun k2_ s2_0_ hi_ hm_ => ih2 (k2_, s2_0_) hi_ hm_
    have hL2 := hI2.1
    have hb2 := hI2.2
    refine X_iload_n (j := 0) dX12_laysTold_2 rfl rfl ?_
    refine X_bipush (v := 6) dX12_laysTold_3 (by decide) ?_
    refine X_icmp_ge (tgt := 36) dX12_laysTold_5 (by decide) (fun c_2 => ?_) (fun c_2 => ?_)
    · have hlt2 : k2 = 6 := nlex (L := 6) (by omega) hb2 c_2
      rw [show 6 - k2 = 0 by omega] at hL2
      have hL2 := hL2.trans (F_X12_laysTold_L2_z ..)
      try dsimp only at hL2
      refine X_lv (lv' := [(0, ex_r m), (1, ex_i (nI fm)), (2, ex_i (nI tm))]) [1, 2, 3] rfl ?_
      refine X_eq (cs' := [(m, ex_o 12 [ex_i x0, ex_i x1, ex_r x2, ex_i x3, ex_i x4, ex_i x5, ex_i x6, ex_j x7, ex_i x8, ex_i x9, ex_r x10, ex_r x11, ex_r x12, ex_r x13, ex_r x14, ex_r x15, ex_r x16, ex_r x17, ex_r x18, ex_r x19, ex_r x20, ex_r x21, ex_r x22, ex_r x23, ex_r x24, ex_r x25, ex_i x26, ex_i x27, ex_r x28, ex_r x29, ex_r x30, ex_r x31, ex_r x32, ex_r x33, ex_r x34, ex_r x35, ex_r x36, ex_r x37, ex_r x38, ex_r x39, ex_i x40, ex_j x41, ex_r x42, ex_r x43, ex_r x44, ex_r x45, ex_r x46, ex_r x47, ex_r x48, ex_r x49, ex_r x50, ex_r x51, ex_r x52, ex_r x53, ex_i x54, ex_i x55, ex_i x56, ex_i x57, ex_r x58, ex_r x59, ex_r x60, ex_r x61, ex_i x62, ex_r x63, ex_r x64, ex_i x65, ex_j x66]), (x47, ex_a 1 30 v_1)]) (lv' := [(0, ex_r m), (1, ex_i (nI fm)), (2, ex_i (nI tm))]) (by subst hL2; rfl) (by subst hL2; rfl) ?_
      exact hrest2 trivial
    · have hlt2 : k2 < 6 := nlen (L := 6) (by omega) hb2 c_2
      rw [show 6 - k2 = (6 - (k2 + 1)) + 1 by omega] at hL2
      have hL2 := hL2.trans (F_X12_laysTold_L2_s ..)
      refine X_aload_n (j := 1) dX12_laysTold_8 rfl rfl ?_
      refine X_get (j := 0) fo_X12_114 dX12_laysTold_9 rfl rfl ?_
      refine X_bipush (v := 6) dX12_laysTold_12 (by decide) ?_
      refine X_iload_n (j := 3) dX12_laysTold_14 rfl rfl ?_
      refine X_imul (v := nI (6 * tm)) dX12_laysTold_15 (nI_mu 6 tm) ?_
      refine X_iload_n (j := 0) dX12_laysTold_16 rfl rfl ?_
      refine X_iadd (v := nI ((6 * tm) + k2)) dX12_laysTold_17 (nI_add (6 * tm) k2) ?_
      refine X_aload_n (j := 1) dX12_laysTold_18 rfl rfl ?_
      refine X_get (j := 0) fo_X12_114 dX12_laysTold_19 rfl rfl ?_
      refine X_bipush (v := 6) dX12_laysTold_22 (by decide) ?_
      refine X_iload_n (j := 2) dX12_laysTold_24 rfl rfl ?_
      refine X_imul (v := nI (6 * fm)) dX12_laysTold_25 (nI_mu 6 fm) ?_
      refine X_iload_n (j := 0) dX12_laysTold_26 rfl rfl ?_
      refine X_iadd (v := nI ((6 * fm) + k2)) dX12_laysTold_27 (nI_add (6 * fm) k2) ?_
      refine X_iald (j := 1) (v := (s2_0 ((6 * fm) + k2))) dX12_laysTold_28 rfl (vp_in_nI (show (6 * fm) + k2 < 30 by omega) (by decide)) (by rw [nI_clamp (by omega)]) ?_
      refine X_iast (j := 1) (g := upd s2_0 ((6 * tm) + k2) (s2_0 ((6 * fm) + k2))) (cs' := [(m, ex_o 12 [ex_i x0, ex_i x1, ex_r x2, ex_i x3, ex_i x4, ex_i x5, ex_i x6, ex_j x7, ex_i x8, ex_i x9, ex_r x10, ex_r x11, ex_r x12, ex_r x13, ex_r x14, ex_r x15, ex_r x16, ex_r x17, ex_r x18, ex_r x19, ex_r x20, ex_r x21, ex_r x22, ex_r x23, ex_r x24, ex_r x25, ex_i x26, ex_i x27, ex_r x28, ex_r x29, ex_r x30, ex_r x31, ex_r x32, ex_r x33, ex_r x34, ex_r x35, ex_r x36, ex_r x37, ex_r x38, ex_r x39, ex_i x40, ex_j x41, ex_r x42, ex_r x43, ex_r x44, ex_r x45, ex_r x46, ex_r x47, ex_r x48, ex_r x49, ex_r x50, ex_r x51, ex_r x52, ex_r x53, ex_i x54, ex_i x55, ex_i x56, ex_i x57, ex_r x58, ex_r x59, ex_r x60, ex_r x61, ex_i x62, ex_r x63, ex_r x64, ex_i x65, ex_j x66]), (x47, ex_a 1 30 (upd s2_0 ((6 * tm) + k2) (s2_0 ((6 * fm) + k2))))]) dX12_laysTold_29 rfl (vp_in_nI (show (6 * tm) + k2 < 30 by omega) (by decide)) (by rw [nI_clamp (by omega)]) rfl ?_
      refine X_iinc (v := nI (k2 + 1)) (j := 0) (lv' := [(3, ex_i (nI (k2 + 1))), (0, ex_r m), (1, ex_i (nI fm)), (2, ex_i (nI tm))]) dX12_laysTold_30 rfl (nI_add k2 1) (Nat.le_of_ble_eq_true rfl) rfl ?_
      refine X_goto (tgt := 2) dX12_laysTold_33 (by decide) ?_
      try dsimp only at hL2
      exact ihc2 (k2 + 1) (upd s2_0 ((6 * tm) + k2) (s2_0 ((6 * fm) + k2))) ⟨hL2, (show (k2 + 1) ≤ 6 by omega)⟩ (show 6 - (k2 + 1) < 6 - k2 by omega)
  try dsimp only at hV
  exact X_vret dX12_laysTold_36 (by (repeat refine ex_kc ?_) <;> rfl) (by subst hV; exact ⟨rfl, rfl⟩)

def F_X12_mark (mz : Int32) (bk : Int32) (dn : Nat) (li : Nat → Int32) (lw : Nat → Int32) (lo : Nat → Int32) (ld : Nat → Int32) (ls : Nat → Int32) (to : Nat → Int32) (s : Nat → Int32) (mk : Nat → Int32) (il : Nat → Int32) : Int32 × Nat × (Nat → Int32) × (Nat → Int32) × (Nat → Int32) × (Nat → Int32) × (Nat → Int32) × (Nat → Int32) × (Nat → Int32) × (Nat → Int32) × (Nat → Int32) × Int32 := (if (F_X12_within_f mz 0 3) = 0 then (0, dn, li, lw, lo, ld, ls, to, s, mk, il, 0) else (if bk = 0 then ((fun (w_3 : (Nat → Int32) × (Nat → Int32) × (Nat → Int32) × (Nat → Int32) × (Nat → Int32)) => ((fun (w_4 : (Nat → Int32)) => ((fun (w_5 : (Nat → Int32)) => (0, dn, w_3.1, w_3.2.1, w_3.2.2.1, w_3.2.2.2.1, w_3.2.2.2.2, w_4, s, w_5, upd il mz.toNatClampNeg (vp_nar .boolean 1), 1)) (F_X12_copies 0 (21 * mz.toNatClampNeg) s mk))) (F_X12_laysTold 0 (1 + mz.toNatClampNeg) to))) (F_X12_laysLines 0 (1 + mz.toNatClampNeg) li lw lo ld ls)) else (if (il mz.toNatClampNeg) = 0 then (0, dn, li, lw, lo, ld, ls, to, s, mk, il, 0) else ((fun (w_7 : (Nat → Int32) × (Nat → Int32) × (Nat → Int32) × (Nat → Int32) × (Nat → Int32)) => ((fun (w_8 : (Nat → Int32)) => ((fun (w_9 : (Nat → Int32)) => (0, 0, w_7.1, w_7.2.1, w_7.2.2.1, w_7.2.2.2.1, w_7.2.2.2.2, w_8, w_9, mk, upd il mz.toNatClampNeg (vp_nar .boolean 1), 1)) (F_X12_copies (21 * mz.toNatClampNeg) 0 mk s))) (F_X12_laysTold (1 + mz.toNatClampNeg) 0 to))) (F_X12_laysLines (1 + mz.toNatClampNeg) 0 li lw lo ld ls)))))
set_option maxHeartbeats 4000000 in
set_option maxRecDepth 100000 in
theorem e_X12_mark (l : Launch) (m : Nat) (mz : Int32) (bk : Int32) (x0 : Int32) (x1 : Int32) (x2 : Nat) (x3 : Int32) (x4 : Int32) (x5 : Int32) (x6 : Int32) (x7 : Int64) (x8 : Int32) (x9 : Int32) (x10 : Nat) (x11 : Nat) (x12 : Nat) (x13 : Nat) (x14 : Nat) (x15 : Nat) (x16 : Nat) (x17 : Nat) (x18 : Nat) (x19 : Nat) (x20 : Nat) (x21 : Nat) (x22 : Nat) (x23 : Nat) (x24 : Nat) (x25 : Nat) (x26 : Int32) (x27 : Int32) (x28 : Nat) (x29 : Nat) (x30 : Nat) (x31 : Nat) (x32 : Nat) (x33 : Nat) (x34 : Nat) (x35 : Nat) (x36 : Nat) (x37 : Nat) (x38 : Nat) (x39 : Nat) (x40 : Int32) (x41 : Int64) (x42 : Nat) (x43 : Nat) (x44 : Nat) (x45 : Nat) (x46 : Nat) (x47 : Nat) (x48 : Nat) (x49 : Nat) (x50 : Nat) (x51 : Nat) (x52 : Nat) (x53 : Nat) (dn : Nat) (x55 : Int32) (x56 : Int32) (x57 : Int32) (x58 : Nat) (x59 : Nat) (x60 : Nat) (x61 : Nat) (x62 : Int32) (x63 : Nat) (x64 : Nat) (x65 : Int32) (x66 : Int64) (li : Nat → Int32) (lw : Nat → Int32) (lo : Nat → Int32) (ld : Nat → Int32) (ls : Nat → Int32) (to : Nat → Int32) (s : Nat → Int32) (mk : Nat → Int32) (il : Nat → Int32) (hdn : dn ≤ 16) : ex_M l yX12_mark cX12_mark 5 (some .boolean) 1 24 [ex_r m, ex_i mz, ex_i bk] [(m, ex_o 12 [ex_i x0, ex_i x1, ex_r x2, ex_i x3, ex_i x4, ex_i x5, ex_i x6, ex_j x7, ex_i x8, ex_i x9, ex_r x10, ex_r x11, ex_r x12, ex_r x13, ex_r x14, ex_r x15, ex_r x16, ex_r x17, ex_r x18, ex_r x19, ex_r x20, ex_r x21, ex_r x22, ex_r x23, ex_r x24, ex_r x25, ex_i x26, ex_i x27, ex_r x28, ex_r x29, ex_r x30, ex_r x31, ex_r x32, ex_r x33, ex_r x34, ex_r x35, ex_r x36, ex_r x37, ex_r x38, ex_r x39, ex_i x40, ex_j x41, ex_r x42, ex_r x43, ex_r x44, ex_r x45, ex_r x46, ex_r x47, ex_r x48, ex_r x49, ex_r x50, ex_r x51, ex_r x52, ex_r x53, ex_i (nI dn), ex_i x55, ex_i x56, ex_i x57, ex_r x58, ex_r x59, ex_r x60, ex_r x61, ex_i x62, ex_r x63, ex_r x64, ex_i x65, ex_j x66]), (x42, ex_a 1 6 li), (x43, ex_a 1 240 lw), (x44, ex_a 1 240 lo), (x45, ex_a 1 240 ld), (x46, ex_a 3 240 ls), (x47, ex_a 1 30 to), (x48, ex_a 1 21 s), (x51, ex_a 1 84 mk), (x53, ex_a 3 4 il)] (fun zcs zr => zcs = [(m, ex_o 12 [ex_i ((F_X12_mark mz bk dn li lw lo ld ls to s mk il).1), ex_i x1, ex_r x2, ex_i x3, ex_i x4, ex_i x5, ex_i x6, ex_j x7, ex_i x8, ex_i x9, ex_r x10, ex_r x11, ex_r x12, ex_r x13, ex_r x14, ex_r x15, ex_r x16, ex_r x17, ex_r x18, ex_r x19, ex_r x20, ex_r x21, ex_r x22, ex_r x23, ex_r x24, ex_r x25, ex_i x26, ex_i x27, ex_r x28, ex_r x29, ex_r x30, ex_r x31, ex_r x32, ex_r x33, ex_r x34, ex_r x35, ex_r x36, ex_r x37, ex_r x38, ex_r x39, ex_i x40, ex_j x41, ex_r x42, ex_r x43, ex_r x44, ex_r x45, ex_r x46, ex_r x47, ex_r x48, ex_r x49, ex_r x50, ex_r x51, ex_r x52, ex_r x53, ex_i (nI (F_X12_mark mz bk dn li lw lo ld ls to s mk il).2.1), ex_i x55, ex_i x56, ex_i x57, ex_r x58, ex_r x59, ex_r x60, ex_r x61, ex_i x62, ex_r x63, ex_r x64, ex_i x65, ex_j x66]), (x42, ex_a 1 6 ((F_X12_mark mz bk dn li lw lo ld ls to s mk il).2.2.1)), (x43, ex_a 1 240 ((F_X12_mark mz bk dn li lw lo ld ls to s mk il).2.2.2.1)), (x44, ex_a 1 240 ((F_X12_mark mz bk dn li lw lo ld ls to s mk il).2.2.2.2.1)), (x45, ex_a 1 240 ((F_X12_mark mz bk dn li lw lo ld ls to s mk il).2.2.2.2.2.1)), (x46, ex_a 3 240 ((F_X12_mark mz bk dn li lw lo ld ls to s mk il).2.2.2.2.2.2.1)), (x47, ex_a 1 30 ((F_X12_mark mz bk dn li lw lo ld ls to s mk il).2.2.2.2.2.2.2.1)), (x48, ex_a 1 21 ((F_X12_mark mz bk dn li lw lo ld ls to s mk il).2.2.2.2.2.2.2.2.1)), (x51, ex_a 1 84 ((F_X12_mark mz bk dn li lw lo ld ls to s mk il).2.2.2.2.2.2.2.2.2.1)), (x53, ex_a 3 4 ((F_X12_mark mz bk dn li lw lo ld ls to s mk il).2.2.2.2.2.2.2.2.2.2.1))] ∧ zr = some (ex_i (F_X12_mark mz bk dn li lw lo ld ls to s mk il).2.2.2.2.2.2.2.2.2.2.2)) := by
  refine X_meth (by decide) (Nat.le_of_ble_eq_true rfl) ?_
  generalize hV : F_X12_mark mz bk dn li lw lo ld ls to s mk il = V0
  have hV := hV.symm
  unfold F_X12_mark at hV
  try dsimp only at hV
  refine X_aload_n (j := 0) dX12_mark_0 rfl rfl ?_
  refine X_iconst (v := 0) dX12_mark_1 (by decide) ?_
  refine X_put (j := 0) (cs' := [(m, ex_o 12 [ex_i 0, ex_i x1, ex_r x2, ex_i x3, ex_i x4, ex_i x5, ex_i x6, ex_j x7, ex_i x8, ex_i x9, ex_r x10, ex_r x11, ex_r x12, ex_r x13, ex_r x14, ex_r x15, ex_r x16, ex_r x17, ex_r x18, ex_r x19, ex_r x20, ex_r x21, ex_r x22, ex_r x23, ex_r x24, ex_r x25, ex_i x26, ex_i x27, ex_r x28, ex_r x29, ex_r x30, ex_r x31, ex_r x32, ex_r x33, ex_r x34, ex_r x35, ex_r x36, ex_r x37, ex_r x38, ex_r x39, ex_i x40, ex_j x41, ex_r x42, ex_r x43, ex_r x44, ex_r x45, ex_r x46, ex_r x47, ex_r x48, ex_r x49, ex_r x50, ex_r x51, ex_r x52, ex_r x53, ex_i (nI dn), ex_i x55, ex_i x56, ex_i x57, ex_r x58, ex_r x59, ex_r x60, ex_r x61, ex_i x62, ex_r x63, ex_r x64, ex_i x65, ex_j x66]), (x42, ex_a 1 6 li), (x43, ex_a 1 240 lw), (x44, ex_a 1 240 lo), (x45, ex_a 1 240 ld), (x46, ex_a 3 240 ls), (x47, ex_a 1 30 to), (x48, ex_a 1 21 s), (x51, ex_a 1 84 mk), (x53, ex_a 3 4 il)]) fo_X12_156 (by decide) dX12_mark_2 rfl (Nat.le_of_ble_eq_true rfl) trivial rfl ?_
  refine X_iload_n (j := 1) dX12_mark_5 rfl rfl ?_
  refine X_iconst (v := 0) dX12_mark_6 (by decide) ?_
  refine X_iconst (v := 3) dX12_mark_7 (by decide) ?_
  refine X_callS (rest := [(m, ex_o 12 [ex_i 0, ex_i x1, ex_r x2, ex_i x3, ex_i x4, ex_i x5, ex_i x6, ex_j x7, ex_i x8, ex_i x9, ex_r x10, ex_r x11, ex_r x12, ex_r x13, ex_r x14, ex_r x15, ex_r x16, ex_r x17, ex_r x18, ex_r x19, ex_r x20, ex_r x21, ex_r x22, ex_r x23, ex_r x24, ex_r x25, ex_i x26, ex_i x27, ex_r x28, ex_r x29, ex_r x30, ex_r x31, ex_r x32, ex_r x33, ex_r x34, ex_r x35, ex_r x36, ex_r x37, ex_r x38, ex_r x39, ex_i x40, ex_j x41, ex_r x42, ex_r x43, ex_r x44, ex_r x45, ex_r x46, ex_r x47, ex_r x48, ex_r x49, ex_r x50, ex_r x51, ex_r x52, ex_r x53, ex_i (nI dn), ex_i x55, ex_i x56, ex_i x57, ex_r x58, ex_r x59, ex_r x60, ex_r x61, ex_i x62, ex_r x63, ex_r x64, ex_i x65, ex_j x66]), (x42, ex_a 1 6 li), (x43, ex_a 1 240 lw), (x44, ex_a 1 240 lo), (x45, ex_a 1 240 ld), (x46, ex_a 3 240 ls), (x47, ex_a 1 30 to), (x48, ex_a 1 21 s), (x51, ex_a 1 84 mk), (x53, ex_a 3 4 il)]) (stk := []) co_X12_293 rfl ⟨(Nat.le_of_ble_eq_true rfl), (Nat.le_of_ble_eq_true rfl)⟩ (e_X12_within_f l mz 0 3) dX12_mark_8 [0, 1, 2, 3, 4, 5, 6, 7, 8, 9] (show List.Perm [0, 1, 2, 3, 4, 5, 6, 7, 8, 9] (List.range 10) from by decide) rfl rfl rfl (Nat.le_of_ble_eq_true rfl) (fun zc1 zr hq hk => ?_)
  obtain ⟨rfl, rfl⟩ := hq
  refine X_if_eq (tgt := 27) dX12_mark_11 (by decide) (fun c_1 => ?_) (fun c_1 => ?_)
  · have hV := hV.trans (if_pos c_1)
    refine X_iconst (v := 0) dX12_mark_27 (by decide) ?_
    try dsimp only at hV
    exact X_iret ex_nZ rfl dX12_mark_28 (by (repeat refine ex_kc ?_) <;> rfl) (by subst hV; exact ⟨rfl, rfl⟩)
  · have hV := hV.trans (if_neg c_1)
    have hz1 := wi_of c_1
    have hx1 := nI_ofc hz1.1
    have hl1 := nI_ofle (n := 3) hz1.1 (by decide) hz1.2
    refine X_eq (cs' := [(m, ex_o 12 [ex_i 0, ex_i x1, ex_r x2, ex_i x3, ex_i x4, ex_i x5, ex_i x6, ex_j x7, ex_i x8, ex_i x9, ex_r x10, ex_r x11, ex_r x12, ex_r x13, ex_r x14, ex_r x15, ex_r x16, ex_r x17, ex_r x18, ex_r x19, ex_r x20, ex_r x21, ex_r x22, ex_r x23, ex_r x24, ex_r x25, ex_i x26, ex_i x27, ex_r x28, ex_r x29, ex_r x30, ex_r x31, ex_r x32, ex_r x33, ex_r x34, ex_r x35, ex_r x36, ex_r x37, ex_r x38, ex_r x39, ex_i x40, ex_j x41, ex_r x42, ex_r x43, ex_r x44, ex_r x45, ex_r x46, ex_r x47, ex_r x48, ex_r x49, ex_r x50, ex_r x51, ex_r x52, ex_r x53, ex_i (nI dn), ex_i x55, ex_i x56, ex_i x57, ex_r x58, ex_r x59, ex_r x60, ex_r x61, ex_i x62, ex_r x63, ex_r x64, ex_i x65, ex_j x66]), (x42, ex_a 1 6 li), (x43, ex_a 1 240 lw), (x44, ex_a 1 240 lo), (x45, ex_a 1 240 ld), (x46, ex_a 3 240 ls), (x47, ex_a 1 30 to), (x48, ex_a 1 21 s), (x51, ex_a 1 84 mk), (x53, ex_a 3 4 il)]) (lv' := [(0, ex_r m), (1, ex_i (nI mz.toNatClampNeg)), (2, ex_i bk)]) rfl (by rw [← hx1] <;> rfl) ?_
    refine X_iload_n (j := 2) dX12_mark_14 rfl rfl ?_
    refine X_if_eq (tgt := 29) dX12_mark_15 (by decide) (fun c_2 => ?_) (fun c_2 => ?_)
    · have hV := hV.trans (if_pos c_2)
      refine X_aload_n (j := 0) dX12_mark_29 rfl rfl ?_
      refine X_get (j := 0) fo_X12_132 dX12_mark_30 rfl rfl ?_
      refine X_iload_n (j := 1) dX12_mark_33 rfl rfl ?_
      refine X_iconst (v := 1) dX12_mark_34 (by decide) ?_
      refine X_zast (j := 9) (g := upd il mz.toNatClampNeg (vp_nar .boolean 1)) (cs' := [(m, ex_o 12 [ex_i 0, ex_i x1, ex_r x2, ex_i x3, ex_i x4, ex_i x5, ex_i x6, ex_j x7, ex_i x8, ex_i x9, ex_r x10, ex_r x11, ex_r x12, ex_r x13, ex_r x14, ex_r x15, ex_r x16, ex_r x17, ex_r x18, ex_r x19, ex_r x20, ex_r x21, ex_r x22, ex_r x23, ex_r x24, ex_r x25, ex_i x26, ex_i x27, ex_r x28, ex_r x29, ex_r x30, ex_r x31, ex_r x32, ex_r x33, ex_r x34, ex_r x35, ex_r x36, ex_r x37, ex_r x38, ex_r x39, ex_i x40, ex_j x41, ex_r x42, ex_r x43, ex_r x44, ex_r x45, ex_r x46, ex_r x47, ex_r x48, ex_r x49, ex_r x50, ex_r x51, ex_r x52, ex_r x53, ex_i (nI dn), ex_i x55, ex_i x56, ex_i x57, ex_r x58, ex_r x59, ex_r x60, ex_r x61, ex_i x62, ex_r x63, ex_r x64, ex_i x65, ex_j x66]), (x42, ex_a 1 6 li), (x43, ex_a 1 240 lw), (x44, ex_a 1 240 lo), (x45, ex_a 1 240 ld), (x46, ex_a 3 240 ls), (x47, ex_a 1 30 to), (x48, ex_a 1 21 s), (x51, ex_a 1 84 mk), (x53, ex_a 3 4 (upd il mz.toNatClampNeg (vp_nar .boolean 1)))]) dX12_mark_35 rfl (vp_in_nI (show mz.toNatClampNeg < 4 by omega) (by decide)) (by rw [nI_clamp (by omega)]) rfl ?_
      refine X_iload_n (j := 2) dX12_mark_36 rfl rfl ?_
      refine X_if_eq (tgt := 46) dX12_mark_37 (by decide) (fun _ => ?_) (fun c_ => absurd c_2 c_)
      refine X_iconst (v := 0) dX12_mark_46 (by decide) ?_
      refine X_istore_n (lv' := [(3, ex_i 0), (0, ex_r m), (1, ex_i (nI mz.toNatClampNeg)), (2, ex_i bk)]) dX12_mark_47 rfl (Nat.le_of_ble_eq_true rfl) rfl ?_
      refine X_iload_n (j := 3) dX12_mark_48 rfl rfl ?_
      refine X_if_eq (tgt := 56) dX12_mark_49 (by decide) (fun _ => ?_) (fun c_ => absurd c_2 c_)
      refine X_iconst (v := 1) dX12_mark_56 (by decide) ?_
      refine X_iload_n (j := 2) dX12_mark_57 rfl rfl ?_
      refine X_iadd (v := nI (1 + mz.toNatClampNeg)) dX12_mark_58 (nI_add 1 mz.toNatClampNeg) ?_
      refine X_istore (lv' := [(4, ex_i (nI (1 + mz.toNatClampNeg))), (3, ex_i 0), (0, ex_r m), (1, ex_i (nI mz.toNatClampNeg)), (2, ex_i bk)]) dX12_mark_59 (Nat.le_of_ble_eq_true rfl) rfl ?_
      refine X_aload_n (j := 2) dX12_mark_61 rfl rfl ?_
      refine X_iload_n (j := 1) dX12_mark_62 rfl rfl ?_
      refine X_iload (j := 0) dX12_mark_63 rfl ?_
      refine X_callV (j0 := 0) (rest := [(x47, ex_a 1 30 to), (x48, ex_a 1 21 s), (x51, ex_a 1 84 mk), (x53, ex_a 3 4 (upd il mz.toNatClampNeg (vp_nar .boolean 1)))]) (stk := []) co_X12_391 rfl ⟨(Nat.le_of_ble_eq_true rfl), (Nat.le_of_ble_eq_true rfl)⟩ (e_X12_laysLines l m 0 (1 + mz.toNatClampNeg) 0 x1 x2 x3 x4 x5 x6 x7 x8 x9 x10 x11 x12 x13 x14 x15 x16 x17 x18 x19 x20 x21 x22 x23 x24 x25 x26 x27 x28 x29 x30 x31 x32 x33 x34 x35 x36 x37 x38 x39 x40 x41 x42 x43 x44 x45 x46 x47 x48 x49 x50 x51 x52 x53 (nI dn) x55 x56 x57 x58 x59 x60 x61 x62 x63 x64 x65 x66 li lw lo ld ls (by first | assumption | omega) (by first | assumption | omega)) dX12_mark_65 [0, 1, 2, 3, 4, 5, 6, 7, 8, 9] (show List.Perm [0, 1, 2, 3, 4, 5, 6, 7, 8, 9] (List.range 10) from by decide) rfl rfl rfl rfl (Nat.le_of_ble_eq_true rfl) (fun zc1 zr hq hk => ?_)
      obtain ⟨rfl, rfl⟩ := hq
      try dsimp only at hV
      generalize hq_w_3 : F_X12_laysLines 0 (1 + mz.toNatClampNeg) li lw lo ld ls = w_3 at hV ⊢
      try dsimp only at hV
      refine X_aload_n (j := 2) dX12_mark_68 rfl rfl ?_
      refine X_iload_n (j := 1) dX12_mark_69 rfl rfl ?_
      refine X_iload (j := 0) dX12_mark_70 rfl ?_
      refine X_callV (j0 := 0) (rest := [(x42, ex_a 1 6 w_3.1), (x43, ex_a 1 240 w_3.2.1), (x44, ex_a 1 240 w_3.2.2.1), (x45, ex_a 1 240 w_3.2.2.2.1), (x46, ex_a 3 240 w_3.2.2.2.2), (x48, ex_a 1 21 s), (x51, ex_a 1 84 mk), (x53, ex_a 3 4 (upd il mz.toNatClampNeg (vp_nar .boolean 1)))]) (stk := []) co_X12_544 rfl ⟨(Nat.le_of_ble_eq_true rfl), (Nat.le_of_ble_eq_true rfl)⟩ (e_X12_laysTold l m 0 (1 + mz.toNatClampNeg) 0 x1 x2 x3 x4 x5 x6 x7 x8 x9 x10 x11 x12 x13 x14 x15 x16 x17 x18 x19 x20 x21 x22 x23 x24 x25 x26 x27 x28 x29 x30 x31 x32 x33 x34 x35 x36 x37 x38 x39 x40 x41 x42 x43 x44 x45 x46 x47 x48 x49 x50 x51 x52 x53 (nI dn) x55 x56 x57 x58 x59 x60 x61 x62 x63 x64 x65 x66 to (by first | assumption | omega) (by first | assumption | omega)) dX12_mark_72 [0, 6, 1, 2, 3, 4, 5, 7, 8, 9] (show List.Perm [0, 6, 1, 2, 3, 4, 5, 7, 8, 9] (List.range 10) from by decide) rfl rfl rfl rfl (Nat.le_of_ble_eq_true rfl) (fun zc1 zr hq hk => ?_)
      obtain ⟨rfl, rfl⟩ := hq
      try dsimp only at hV
      generalize hq_w_4 : F_X12_laysTold 0 (1 + mz.toNatClampNeg) to = w_4 at hV ⊢
      try dsimp only at hV
      refine X_iload_n (j := 4) dX12_mark_75 rfl rfl ?_
      refine X_if_eq (tgt := 103) dX12_mark_76 (by decide) (fun _ => ?_) (fun c_ => absurd c_2 c_)
      refine X_aload_n (j := 2) dX12_mark_103 rfl rfl ?_
      refine X_get (j := 0) fo_X12_117 dX12_mark_104 rfl rfl ?_
      refine X_iconst (v := 0) dX12_mark_107 (by decide) ?_
      refine X_aload_n (j := 2) dX12_mark_108 rfl rfl ?_
      refine X_get (j := 0) fo_X12_126 dX12_mark_109 rfl rfl ?_
      refine X_bipush (v := 21) dX12_mark_112 (by decide) ?_
      refine X_iload_n (j := 3) dX12_mark_114 rfl rfl ?_
      refine X_imul (v := nI (21 * mz.toNatClampNeg)) dX12_mark_115 (nI_mu 21 mz.toNatClampNeg) ?_
      refine X_callS (rest := [(m, ex_o 12 [ex_i 0, ex_i x1, ex_r x2, ex_i x3, ex_i x4, ex_i x5, ex_i x6, ex_j x7, ex_i x8, ex_i x9, ex_r x10, ex_r x11, ex_r x12, ex_r x13, ex_r x14, ex_r x15, ex_r x16, ex_r x17, ex_r x18, ex_r x19, ex_r x20, ex_r x21, ex_r x22, ex_r x23, ex_r x24, ex_r x25, ex_i x26, ex_i x27, ex_r x28, ex_r x29, ex_r x30, ex_r x31, ex_r x32, ex_r x33, ex_r x34, ex_r x35, ex_r x36, ex_r x37, ex_r x38, ex_r x39, ex_i x40, ex_j x41, ex_r x42, ex_r x43, ex_r x44, ex_r x45, ex_r x46, ex_r x47, ex_r x48, ex_r x49, ex_r x50, ex_r x51, ex_r x52, ex_r x53, ex_i (nI dn), ex_i x55, ex_i x56, ex_i x57, ex_r x58, ex_r x59, ex_r x60, ex_r x61, ex_i x62, ex_r x63, ex_r x64, ex_i x65, ex_j x66]), (x47, ex_a 1 30 w_4), (x42, ex_a 1 6 w_3.1), (x43, ex_a 1 240 w_3.2.1), (x44, ex_a 1 240 w_3.2.2.1), (x45, ex_a 1 240 w_3.2.2.2.1), (x46, ex_a 3 240 w_3.2.2.2.2), (x53, ex_a 3 4 (upd il mz.toNatClampNeg (vp_nar .boolean 1)))]) (stk := []) co_X12_453 rfl ⟨(Nat.le_of_ble_eq_true rfl), (Nat.le_of_ble_eq_true rfl)⟩ (e_X12_copies l x48 0 x51 (21 * mz.toNatClampNeg) 21 s 84 mk (by first | assumption | omega) (by first | assumption | omega) (by first | assumption | omega) (by first | assumption | omega)) dX12_mark_116 [7, 8, 0, 1, 2, 3, 4, 5, 6, 9] (show List.Perm [7, 8, 0, 1, 2, 3, 4, 5, 6, 9] (List.range 10) from by decide) rfl rfl rfl (Nat.le_of_ble_eq_true rfl) (fun zc1 zr hq hk => ?_)
      obtain ⟨rfl, rfl⟩ := hq
      try dsimp only at hV
      generalize hq_w_5 : F_X12_copies 0 (21 * mz.toNatClampNeg) s mk = w_5 at hV ⊢
      try dsimp only at hV
      refine X_iconst (v := 1) dX12_mark_119 (by decide) ?_
      try dsimp only at hV
      refine X_re (cs' := [(m, ex_o 12 [ex_i 0, ex_i x1, ex_r x2, ex_i x3, ex_i x4, ex_i x5, ex_i x6, ex_j x7, ex_i x8, ex_i x9, ex_r x10, ex_r x11, ex_r x12, ex_r x13, ex_r x14, ex_r x15, ex_r x16, ex_r x17, ex_r x18, ex_r x19, ex_r x20, ex_r x21, ex_r x22, ex_r x23, ex_r x24, ex_r x25, ex_i x26, ex_i x27, ex_r x28, ex_r x29, ex_r x30, ex_r x31, ex_r x32, ex_r x33, ex_r x34, ex_r x35, ex_r x36, ex_r x37, ex_r x38, ex_r x39, ex_i x40, ex_j x41, ex_r x42, ex_r x43, ex_r x44, ex_r x45, ex_r x46, ex_r x47, ex_r x48, ex_r x49, ex_r x50, ex_r x51, ex_r x52, ex_r x53, ex_i (nI dn), ex_i x55, ex_i x56, ex_i x57, ex_r x58, ex_r x59, ex_r x60, ex_r x61, ex_i x62, ex_r x63, ex_r x64, ex_i x65, ex_j x66]), (x42, ex_a 1 6 w_3.1), (x43, ex_a 1 240 w_3.2.1), (x44, ex_a 1 240 w_3.2.2.1), (x45, ex_a 1 240 w_3.2.2.2.1), (x46, ex_a 3 240 w_3.2.2.2.2), (x47, ex_a 1 30 w_4), (x48, ex_a 1 21 s), (x51, ex_a 1 84 w_5), (x53, ex_a 3 4 (upd il mz.toNatClampNeg (vp_nar .boolean 1)))]) [2, 4, 5, 6, 7, 8, 3, 0, 1, 9] (show List.Perm [2, 4, 5, 6, 7, 8, 3, 0, 1, 9] (List.range 10) from by decide) rfl ?_
      exact X_iret ex_nZ rfl dX12_mark_120 (by (repeat refine ex_kc ?_) <;> rfl) (by subst hV; exact ⟨rfl, rfl⟩)
    · have hV := hV.trans (if_neg c_2)
      refine X_aload_n (j := 0) dX12_mark_18 rfl rfl ?_
      refine X_get (j := 0) fo_X12_132 dX12_mark_19 rfl rfl ?_
      refine X_iload_n (j := 1) dX12_mark_22 rfl rfl ?_
      refine X_zald (j := 9) (v := (il mz.toNatClampNeg)) dX12_mark_23 rfl (vp_in_nI (show mz.toNatClampNeg < 4 by omega) (by decide)) (by rw [nI_clamp (by omega)]) ?_
      refine X_if_ne (tgt := 29) dX12_mark_24 (by decide) (fun c_6 => ?_) (fun c_6 => ?_)
      · have hV := hV.trans (if_neg c_6)
        refine X_aload_n (j := 0) dX12_mark_29 rfl rfl ?_
        refine X_get (j := 0) fo_X12_132 dX12_mark_30 rfl rfl ?_
        refine X_iload_n (j := 1) dX12_mark_33 rfl rfl ?_
        refine X_iconst (v := 1) dX12_mark_34 (by decide) ?_
        refine X_zast (j := 9) (g := upd il mz.toNatClampNeg (vp_nar .boolean 1)) (cs' := [(m, ex_o 12 [ex_i 0, ex_i x1, ex_r x2, ex_i x3, ex_i x4, ex_i x5, ex_i x6, ex_j x7, ex_i x8, ex_i x9, ex_r x10, ex_r x11, ex_r x12, ex_r x13, ex_r x14, ex_r x15, ex_r x16, ex_r x17, ex_r x18, ex_r x19, ex_r x20, ex_r x21, ex_r x22, ex_r x23, ex_r x24, ex_r x25, ex_i x26, ex_i x27, ex_r x28, ex_r x29, ex_r x30, ex_r x31, ex_r x32, ex_r x33, ex_r x34, ex_r x35, ex_r x36, ex_r x37, ex_r x38, ex_r x39, ex_i x40, ex_j x41, ex_r x42, ex_r x43, ex_r x44, ex_r x45, ex_r x46, ex_r x47, ex_r x48, ex_r x49, ex_r x50, ex_r x51, ex_r x52, ex_r x53, ex_i (nI dn), ex_i x55, ex_i x56, ex_i x57, ex_r x58, ex_r x59, ex_r x60, ex_r x61, ex_i x62, ex_r x63, ex_r x64, ex_i x65, ex_j x66]), (x42, ex_a 1 6 li), (x43, ex_a 1 240 lw), (x44, ex_a 1 240 lo), (x45, ex_a 1 240 ld), (x46, ex_a 3 240 ls), (x47, ex_a 1 30 to), (x48, ex_a 1 21 s), (x51, ex_a 1 84 mk), (x53, ex_a 3 4 (upd il mz.toNatClampNeg (vp_nar .boolean 1)))]) dX12_mark_35 rfl (vp_in_nI (show mz.toNatClampNeg < 4 by omega) (by decide)) (by rw [nI_clamp (by omega)]) rfl ?_
        refine X_iload_n (j := 2) dX12_mark_36 rfl rfl ?_
        refine X_if_eq (tgt := 46) dX12_mark_37 (by decide) (fun c_ => absurd c_ c_2) (fun _ => ?_)
        refine X_iconst (v := 1) dX12_mark_40 (by decide) ?_
        refine X_iload_n (j := 1) dX12_mark_41 rfl rfl ?_
        refine X_iadd (v := nI (1 + mz.toNatClampNeg)) dX12_mark_42 (nI_add 1 mz.toNatClampNeg) ?_
        refine X_goto (tgt := 47) dX12_mark_43 (by decide) ?_
        refine X_istore_n (lv' := [(3, ex_i (nI (1 + mz.toNatClampNeg))), (0, ex_r m), (1, ex_i (nI mz.toNatClampNeg)), (2, ex_i bk)]) dX12_mark_47 rfl (Nat.le_of_ble_eq_true rfl) rfl ?_
        refine X_iload_n (j := 3) dX12_mark_48 rfl rfl ?_
        refine X_if_eq (tgt := 56) dX12_mark_49 (by decide) (fun c_ => absurd c_ c_2) (fun _ => ?_)
        refine X_iconst (v := 0) dX12_mark_52 (by decide) ?_
        refine X_goto (tgt := 59) dX12_mark_53 (by decide) ?_
        refine X_istore (lv' := [(4, ex_i 0), (3, ex_i (nI (1 + mz.toNatClampNeg))), (0, ex_r m), (1, ex_i (nI mz.toNatClampNeg)), (2, ex_i bk)]) dX12_mark_59 (Nat.le_of_ble_eq_true rfl) rfl ?_
        refine X_aload_n (j := 2) dX12_mark_61 rfl rfl ?_
        refine X_iload_n (j := 1) dX12_mark_62 rfl rfl ?_
        refine X_iload (j := 0) dX12_mark_63 rfl ?_
        refine X_callV (j0 := 0) (rest := [(x47, ex_a 1 30 to), (x48, ex_a 1 21 s), (x51, ex_a 1 84 mk), (x53, ex_a 3 4 (upd il mz.toNatClampNeg (vp_nar .boolean 1)))]) (stk := []) co_X12_391 rfl ⟨(Nat.le_of_ble_eq_true rfl), (Nat.le_of_ble_eq_true rfl)⟩ (e_X12_laysLines l m (1 + mz.toNatClampNeg) 0 0 x1 x2 x3 x4 x5 x6 x7 x8 x9 x10 x11 x12 x13 x14 x15 x16 x17 x18 x19 x20 x21 x22 x23 x24 x25 x26 x27 x28 x29 x30 x31 x32 x33 x34 x35 x36 x37 x38 x39 x40 x41 x42 x43 x44 x45 x46 x47 x48 x49 x50 x51 x52 x53 (nI dn) x55 x56 x57 x58 x59 x60 x61 x62 x63 x64 x65 x66 li lw lo ld ls (by first | assumption | omega) (by first | assumption | omega)) dX12_mark_65 [0, 1, 2, 3, 4, 5, 6, 7, 8, 9] (show List.Perm [0, 1, 2, 3, 4, 5, 6, 7, 8, 9] (List.range 10) from by decide) rfl rfl rfl rfl (Nat.le_of_ble_eq_true rfl) (fun zc1 zr hq hk => ?_)
        obtain ⟨rfl, rfl⟩ := hq
        try dsimp only at hV
        generalize hq_w_7 : F_X12_laysLines (1 + mz.toNatClampNeg) 0 li lw lo ld ls = w_7 at hV ⊢
        try dsimp only at hV
        refine X_aload_n (j := 2) dX12_mark_68 rfl rfl ?_
        refine X_iload_n (j := 1) dX12_mark_69 rfl rfl ?_
        refine X_iload (j := 0) dX12_mark_70 rfl ?_
        refine X_callV (j0 := 0) (rest := [(x42, ex_a 1 6 w_7.1), (x43, ex_a 1 240 w_7.2.1), (x44, ex_a 1 240 w_7.2.2.1), (x45, ex_a 1 240 w_7.2.2.2.1), (x46, ex_a 3 240 w_7.2.2.2.2), (x48, ex_a 1 21 s), (x51, ex_a 1 84 mk), (x53, ex_a 3 4 (upd il mz.toNatClampNeg (vp_nar .boolean 1)))]) (stk := []) co_X12_544 rfl ⟨(Nat.le_of_ble_eq_true rfl), (Nat.le_of_ble_eq_true rfl)⟩ (e_X12_laysTold l m (1 + mz.toNatClampNeg) 0 0 x1 x2 x3 x4 x5 x6 x7 x8 x9 x10 x11 x12 x13 x14 x15 x16 x17 x18 x19 x20 x21 x22 x23 x24 x25 x26 x27 x28 x29 x30 x31 x32 x33 x34 x35 x36 x37 x38 x39 x40 x41 x42 x43 x44 x45 x46 x47 x48 x49 x50 x51 x52 x53 (nI dn) x55 x56 x57 x58 x59 x60 x61 x62 x63 x64 x65 x66 to (by first | assumption | omega) (by first | assumption | omega)) dX12_mark_72 [0, 6, 1, 2, 3, 4, 5, 7, 8, 9] (show List.Perm [0, 6, 1, 2, 3, 4, 5, 7, 8, 9] (List.range 10) from by decide) rfl rfl rfl rfl (Nat.le_of_ble_eq_true rfl) (fun zc1 zr hq hk => ?_)
        obtain ⟨rfl, rfl⟩ := hq
        try dsimp only at hV
        generalize hq_w_8 : F_X12_laysTold (1 + mz.toNatClampNeg) 0 to = w_8 at hV ⊢
        try dsimp only at hV
        refine X_iload_n (j := 4) dX12_mark_75 rfl rfl ?_
        refine X_if_eq (tgt := 103) dX12_mark_76 (by decide) (fun c_ => absurd c_ c_2) (fun _ => ?_)
        refine X_aload_n (j := 2) dX12_mark_79 rfl rfl ?_
        refine X_get (j := 0) fo_X12_126 dX12_mark_80 rfl rfl ?_
        refine X_bipush (v := 21) dX12_mark_83 (by decide) ?_
        refine X_iload_n (j := 3) dX12_mark_85 rfl rfl ?_
        refine X_imul (v := nI (21 * mz.toNatClampNeg)) dX12_mark_86 (nI_mu 21 mz.toNatClampNeg) ?_
        refine X_aload_n (j := 2) dX12_mark_87 rfl rfl ?_
        refine X_get (j := 0) fo_X12_117 dX12_mark_88 rfl rfl ?_
        refine X_iconst (v := 0) dX12_mark_91 (by decide) ?_
        refine X_callS (rest := [(m, ex_o 12 [ex_i 0, ex_i x1, ex_r x2, ex_i x3, ex_i x4, ex_i x5, ex_i x6, ex_j x7, ex_i x8, ex_i x9, ex_r x10, ex_r x11, ex_r x12, ex_r x13, ex_r x14, ex_r x15, ex_r x16, ex_r x17, ex_r x18, ex_r x19, ex_r x20, ex_r x21, ex_r x22, ex_r x23, ex_r x24, ex_r x25, ex_i x26, ex_i x27, ex_r x28, ex_r x29, ex_r x30, ex_r x31, ex_r x32, ex_r x33, ex_r x34, ex_r x35, ex_r x36, ex_r x37, ex_r x38, ex_r x39, ex_i x40, ex_j x41, ex_r x42, ex_r x43, ex_r x44, ex_r x45, ex_r x46, ex_r x47, ex_r x48, ex_r x49, ex_r x50, ex_r x51, ex_r x52, ex_r x53, ex_i (nI dn), ex_i x55, ex_i x56, ex_i x57, ex_r x58, ex_r x59, ex_r x60, ex_r x61, ex_i x62, ex_r x63, ex_r x64, ex_i x65, ex_j x66]), (x47, ex_a 1 30 w_8), (x42, ex_a 1 6 w_7.1), (x43, ex_a 1 240 w_7.2.1), (x44, ex_a 1 240 w_7.2.2.1), (x45, ex_a 1 240 w_7.2.2.2.1), (x46, ex_a 3 240 w_7.2.2.2.2), (x53, ex_a 3 4 (upd il mz.toNatClampNeg (vp_nar .boolean 1)))]) (stk := []) co_X12_453 rfl ⟨(Nat.le_of_ble_eq_true rfl), (Nat.le_of_ble_eq_true rfl)⟩ (e_X12_copies l x51 (21 * mz.toNatClampNeg) x48 0 84 mk 21 s (by first | assumption | omega) (by first | assumption | omega) (by first | assumption | omega) (by first | assumption | omega)) dX12_mark_92 [8, 7, 0, 1, 2, 3, 4, 5, 6, 9] (show List.Perm [8, 7, 0, 1, 2, 3, 4, 5, 6, 9] (List.range 10) from by decide) rfl rfl rfl (Nat.le_of_ble_eq_true rfl) (fun zc1 zr hq hk => ?_)
        obtain ⟨rfl, rfl⟩ := hq
        try dsimp only at hV
        generalize hq_w_9 : F_X12_copies (21 * mz.toNatClampNeg) 0 mk s = w_9 at hV ⊢
        try dsimp only at hV
        refine X_aload_n (j := 2) dX12_mark_95 rfl rfl ?_
        refine X_iconst (v := 0) dX12_mark_96 (by decide) ?_
        refine X_put (j := 2) (cs' := [(x51, ex_a 1 84 mk), (x48, ex_a 1 21 w_9), (m, ex_o 12 [ex_i 0, ex_i x1, ex_r x2, ex_i x3, ex_i x4, ex_i x5, ex_i x6, ex_j x7, ex_i x8, ex_i x9, ex_r x10, ex_r x11, ex_r x12, ex_r x13, ex_r x14, ex_r x15, ex_r x16, ex_r x17, ex_r x18, ex_r x19, ex_r x20, ex_r x21, ex_r x22, ex_r x23, ex_r x24, ex_r x25, ex_i x26, ex_i x27, ex_r x28, ex_r x29, ex_r x30, ex_r x31, ex_r x32, ex_r x33, ex_r x34, ex_r x35, ex_r x36, ex_r x37, ex_r x38, ex_r x39, ex_i x40, ex_j x41, ex_r x42, ex_r x43, ex_r x44, ex_r x45, ex_r x46, ex_r x47, ex_r x48, ex_r x49, ex_r x50, ex_r x51, ex_r x52, ex_r x53, ex_i 0, ex_i x55, ex_i x56, ex_i x57, ex_r x58, ex_r x59, ex_r x60, ex_r x61, ex_i x62, ex_r x63, ex_r x64, ex_i x65, ex_j x66]), (x47, ex_a 1 30 w_8), (x42, ex_a 1 6 w_7.1), (x43, ex_a 1 240 w_7.2.1), (x44, ex_a 1 240 w_7.2.2.1), (x45, ex_a 1 240 w_7.2.2.2.1), (x46, ex_a 3 240 w_7.2.2.2.2), (x53, ex_a 3 4 (upd il mz.toNatClampNeg (vp_nar .boolean 1)))]) fo_X12_385 (by decide) dX12_mark_97 rfl (Nat.le_of_ble_eq_true rfl) trivial rfl ?_
        refine X_goto (tgt := 119) dX12_mark_100 (by decide) ?_
        refine X_iconst (v := 1) dX12_mark_119 (by decide) ?_
        try dsimp only at hV
        refine X_re (cs' := [(m, ex_o 12 [ex_i 0, ex_i x1, ex_r x2, ex_i x3, ex_i x4, ex_i x5, ex_i x6, ex_j x7, ex_i x8, ex_i x9, ex_r x10, ex_r x11, ex_r x12, ex_r x13, ex_r x14, ex_r x15, ex_r x16, ex_r x17, ex_r x18, ex_r x19, ex_r x20, ex_r x21, ex_r x22, ex_r x23, ex_r x24, ex_r x25, ex_i x26, ex_i x27, ex_r x28, ex_r x29, ex_r x30, ex_r x31, ex_r x32, ex_r x33, ex_r x34, ex_r x35, ex_r x36, ex_r x37, ex_r x38, ex_r x39, ex_i x40, ex_j x41, ex_r x42, ex_r x43, ex_r x44, ex_r x45, ex_r x46, ex_r x47, ex_r x48, ex_r x49, ex_r x50, ex_r x51, ex_r x52, ex_r x53, ex_i 0, ex_i x55, ex_i x56, ex_i x57, ex_r x58, ex_r x59, ex_r x60, ex_r x61, ex_i x62, ex_r x63, ex_r x64, ex_i x65, ex_j x66]), (x42, ex_a 1 6 w_7.1), (x43, ex_a 1 240 w_7.2.1), (x44, ex_a 1 240 w_7.2.2.1), (x45, ex_a 1 240 w_7.2.2.2.1), (x46, ex_a 3 240 w_7.2.2.2.2), (x47, ex_a 1 30 w_8), (x48, ex_a 1 21 w_9), (x51, ex_a 1 84 mk), (x53, ex_a 3 4 (upd il mz.toNatClampNeg (vp_nar .boolean 1)))]) [2, 4, 5, 6, 7, 8, 3, 1, 0, 9] (show List.Perm [2, 4, 5, 6, 7, 8, 3, 1, 0, 9] (List.range 10) from by decide) rfl ?_
        exact X_iret ex_nZ rfl dX12_mark_120 (by (repeat refine ex_kc ?_) <;> rfl) (by subst hV; exact ⟨rfl, rfl⟩)
      · have hV := hV.trans (if_pos c_6)
        refine X_iconst (v := 0) dX12_mark_27 (by decide) ?_
        try dsimp only at hV
        exact X_iret ex_nZ rfl dX12_mark_28 (by (repeat refine ex_kc ?_) <;> rfl) (by subst hV; exact ⟨rfl, rfl⟩)
