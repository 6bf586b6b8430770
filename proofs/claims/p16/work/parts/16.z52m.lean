def F_X12_toldMany_L4 (to : Nat → Int32) : Nat → Nat → Int32 → Int32
  | 0, k4, s4_0 => s4_0
  | zn + 1, k4, s4_0 => (if (to k4) < 0 then F_X12_toldMany_L4 to zn (k4 + 1) (s4_0 + 0) else F_X12_toldMany_L4 to zn (k4 + 1) (s4_0 + 1))
theorem F_X12_toldMany_L4_z (to : Nat → Int32) (k4 : Nat) (s4_0 : Int32) : F_X12_toldMany_L4 to 0 k4 s4_0 = s4_0 := rfl
theorem F_X12_toldMany_L4_s (to : Nat → Int32) (k4 : Nat) (s4_0 : Int32) (zn : Nat) : F_X12_toldMany_L4 to (zn + 1) k4 s4_0 = (if (to k4) < 0 then F_X12_toldMany_L4 to zn (k4 + 1) (s4_0 + 0) else F_X12_toldMany_L4 to zn (k4 + 1) (s4_0 + 1)) := rfl
def F_X12_toldMany (np : Nat) (to : Nat → Int32) : Int32 := ((fun (v_1 : Int32) => v_1) (F_X12_toldMany_L4 to (np - 0) 0 0))
set_option maxHeartbeats 4000000 in
set_option maxRecDepth 100000 in
theorem e_X12_toldMany (l : Launch) (np : Nat) (m : Nat) (x0 : Int32) (x1 : Int32) (x2 : Nat) (x3 : Int32) (x4 : Int32) (x5 : Int32) (x6 : Int32) (x7 : Int64) (x8 : Int32) (x9 : Int32) (x10 : Nat) (x11 : Nat) (x12 : Nat) (x13 : Nat) (x14 : Nat) (x15 : Nat) (x16 : Nat) (x17 : Nat) (x18 : Nat) (x19 : Nat) (x20 : Nat) (x21 : Nat) (x22 : Nat) (x23 : Nat) (x24 : Nat) (x25 : Nat) (x26 : Int32) (x27 : Int32) (x28 : Nat) (x29 : Nat) (x30 : Nat) (x31 : Nat) (x32 : Nat) (x33 : Nat) (x34 : Nat) (x35 : Nat) (x36 : Nat) (x37 : Nat) (x38 : Nat) (x39 : Nat) (x40 : Int32) (x41 : Int64) (x42 : Nat) (x43 : Nat) (x44 : Nat) (x45 : Nat) (x46 : Nat) (x47 : Nat) (x48 : Nat) (x49 : Nat) (x50 : Nat) (x51 : Nat) (x52 : Nat) (x53 : Nat) (x54 : Int32) (x55 : Int32) (x56 : Int32) (x57 : Int32) (x58 : Nat) (x59 : Nat) (x60 : Nat) (x61 : Nat) (x62 : Int32) (x63 : Nat) (x64 : Nat) (x65 : Int32) (x66 : Int64) (ho : Nat → Int32) (to : Nat → Int32) (hho0 : ho 0 = nI np) (hnp : np ≤ 6) : ex_M l yX12_toldMany cX12_toldMany 3 (some .int) 0 0 [ex_r m] [(m, ex_o 12 [ex_i x0, ex_i x1, ex_r x2, ex_i x3, ex_i x4, ex_i x5, ex_i x6, ex_j x7, ex_i x8, ex_i x9, ex_r x10, ex_r x11, ex_r x12, ex_r x13, ex_r x14, ex_r x15, ex_r x16, ex_r x17, ex_r x18, ex_r x19, ex_r x20, ex_r x21, ex_r x22, ex_r x23, ex_r x24, ex_r x25, ex_i x26, ex_i x27, ex_r x28, ex_r x29, ex_r x30, ex_r x31, ex_r x32, ex_r x33, ex_r x34, ex_r x35, ex_r x36, ex_r x37, ex_r x38, ex_r x39, ex_i x40, ex_j x41, ex_r x42, ex_r x43, ex_r x44, ex_r x45, ex_r x46, ex_r x47, ex_r x48, ex_r x49, ex_r x50, ex_r x51, ex_r x52, ex_r x53, ex_i x54, ex_i x55, ex_i x56, ex_i x57, ex_r x58, ex_r x59, ex_r x60, ex_r x61, ex_i x62, ex_r x63, ex_r x64, ex_i x65, ex_j x66]), (x10, ex_a 1 10 ho), (x47, ex_a 1 30 to)] (fun zcs zr => zcs = [(m, ex_o 12 [ex_i x0, ex_i x1, ex_r x2, ex_i x3, ex_i x4, ex_i x5, ex_i x6, ex_j x7, ex_i x8, ex_i x9, ex_r x10, ex_r x11, ex_r x12, ex_r x13, ex_r x14, ex_r x15, ex_r x16, ex_r x17, ex_r x18, ex_r x19, ex_r x20, ex_r x21, ex_r x22, ex_r x23, ex_r x24, ex_r x25, ex_i x26, ex_i x27, ex_r x28, ex_r x29, ex_r x30, ex_r x31, ex_r x32, ex_r x33, ex_r x34, ex_r x35, ex_r x36, ex_r x37, ex_r x38, ex_r x39, ex_i x40, ex_j x41, ex_r x42, ex_r x43, ex_r x44, ex_r x45, ex_r x46, ex_r x47, ex_r x48, ex_r x49, ex_r x50, ex_r x51, ex_r x52, ex_r x53, ex_i x54, ex_i x55, ex_i x56, ex_i x57, ex_r x58, ex_r x59, ex_r x60, ex_r x61, ex_i x62, ex_r x63, ex_r x64, ex_i x65, ex_j x66]), (x10, ex_a 1 10 ho), (x47, ex_a 1 30 to)] ∧ zr = some (ex_i (F_X12_toldMany np to))) := by
  refine X_meth (by decide) (Nat.le_of_ble_eq_true rfl) ?_
  generalize hV : F_X12_toldMany np to = V0
  have hV := hV.symm
  unfold F_X12_toldMany at hV
  try dsimp only at hV
  refine X_iconst (v := 0) dX12_toldMany_0 (by decide) ?_
  refine X_istore_n (lv' := [(1, ex_i 0), (0, ex_r m)]) dX12_toldMany_1 rfl (Nat.le_of_ble_eq_true rfl) rfl ?_
  refine X_iconst (v := 0) dX12_toldMany_2 (by decide) ?_
  refine X_istore_n (lv' := [(2, ex_i 0), (1, ex_i 0), (0, ex_r m)]) dX12_toldMany_3 rfl (Nat.le_of_ble_eq_true rfl) rfl ?_
  -- loop at 4
  try dsimp only at hV
  generalize hq_v_1 : F_X12_toldMany_L4 to (np - 0) 0 0 = v_1 at hV
  try dsimp only at hV
  refine X_cut (P := True) (csE := [(m, ex_o 12 [ex_i x0, ex_i x1, ex_r x2, ex_i x3, ex_i x4, ex_i x5, ex_i x6, ex_j x7, ex_i x8, ex_i x9, ex_r x10, ex_r x11, ex_r x12, ex_r x13, ex_r x14, ex_r x15, ex_r x16, ex_r x17, ex_r x18, ex_r x19, ex_r x20, ex_r x21, ex_r x22, ex_r x23, ex_r x24, ex_r x25, ex_i x26, ex_i x27, ex_r x28, ex_r x29, ex_r x30, ex_r x31, ex_r x32, ex_r x33, ex_r x34, ex_r x35, ex_r x36, ex_r x37, ex_r x38, ex_r x39, ex_i x40, ex_j x41, ex_r x42, ex_r x43, ex_r x44, ex_r x45, ex_r x46, ex_r x47, ex_r x48, ex_r x49, ex_r x50, ex_r x51, ex_r x52, ex_r x53, ex_i x54, ex_i x55, ex_i x56, ex_i x57, ex_r x58, ex_r x59, ex_r x60, ex_r x61, ex_i x62, ex_r x63, ex_r x64, ex_i x65, ex_j x66]), (x10, ex_a 1 10 ho), (x47, ex_a 1 30 to)]) (lvE := [(1, ex_i v_1), (0, ex_r m)]) (E := 37) (fun hrest4 => ?_) (fun hPX4 => ?_)
  · have hL4 := hq_v_1.symm
    refine X_ind (fun (a4 : Nat × Int32) => v_1 = F_X12_toldMany_L4 to (np - a4.1) a4.1 a4.2 ∧ a4.1 ≤ np) (fun (a4 : Nat × Int32) => np - a4.1) (fun (a4 : Nat × Int32) => [(m, ex_o 12 [ex_i x0, ex_i x1, ex_r x2, ex_i x3, ex_i x4, ex_i x5, ex_i x6, ex_j x7, ex_i x8, ex_i x9, ex_r x10, ex_r x11, ex_r x12, ex_r x13, ex_r x14, ex_r x15, ex_r x16, ex_r x17, ex_r x18, ex_r x19, ex_r x20, ex_r x21, ex_r x22, ex_r x23, ex_r x24, ex_r x25, ex_i x26, ex_i x27, ex_r x28, ex_r x29, ex_r x30, ex_r x31, ex_r x32, ex_r x33, ex_r x34, ex_r x35, ex_r x36, ex_r x37, ex_r x38, ex_r x39, ex_i x40, ex_j x41, ex_r x42, ex_r x43, ex_r x44, ex_r x45, ex_r x46, ex_r x47, ex_r x48, ex_r x49, ex_r x50, ex_r x51, ex_r x52, ex_r x53, ex_i x54, ex_i x55, ex_i x56, ex_i x57, ex_r x58, ex_r x59, ex_r x60, ex_r x61, ex_i x62, ex_r x63, ex_r x64, ex_i x65, ex_j x66]), (x10, ex_a 1 10 ho), (x47, ex_a 1 30 to)]) (fun (a4 : Nat × Int32) => [(2, ex_i (nI a4.1)), (1, ex_i a4.2), (0, ex_r m)]) (fun ⟨k4, s4_0⟩ hI4 ih4 => ?_) (0, 0) ⟨hL4, (by omega)⟩
    try dsimp only at hI4 ih4 ⊢
    have ihc4 : ∀ (k4_ : Nat) (s4_0_ : Int32), (v_1 = F_X12_toldMany_L4 to (np - k4_) k4_ s4_0_ ∧ k4_ ≤ np) → (np - k4_) < (np - k4) → ex_O _ _ _ _ _ _ _ _ _ [(m, ex_o 12 [ex_i x0, ex_i x1, ex_r x2, ex_i x3, ex_i x4, ex_i x5, ex_i x6, ex_j x7, ex_i x8, ex_i x9, ex_r x10, ex_r x11, ex_r x12, ex_r x13, ex_r x14, ex_r x15, ex_r x16, ex_r x17, ex_r x18, ex_r x19, ex_r x20, ex_r x21, ex_r x22, ex_r x23, ex_r x24, ex_r x25, ex_i x26, ex_i x27, ex_r x28, ex_r x29, ex_r x30, ex_r x31, ex_r x32, ex_r x33, ex_r x34, ex_r x35, ex_r x36, ex_r x37, ex_r x38, ex_r x39, ex_i x40, ex_j x41, ex_r x42, ex_r x43, ex_r x44, ex_r x45, ex_r x46, ex_r x47, ex_r x48, ex_r x49, ex_r x50, ex_r x51, ex_r x52, ex_r x53, ex_i x54, ex_i x55, ex_i x56, ex_i x57, ex_r x58, ex_r x59, ex_r x60, ex_r x61, ex_i x62, ex_r x63, ex_r x64, ex_i x65, ex_j x66]), (x10, ex_a 1 10 ho), (x47, ex_a 1 30 to)] [(2, ex_i (nI k4_)), (1, ex_i s4_0_), (0, ex_r m)] _ _ := fun k4_ s4_0_ hi_ hm_ => ih4 (k4_, s4_0_) hi_ hm_
    have hL4 := hI4.1
    have hb4 := hI4.2
    refine X_iload_n (j := 0) dX12_toldMany_4 rfl rfl ?_
    refine X_aload_n (j := 2) dX12_toldMany_5 rfl rfl ?_
    refine X_get (j := 0) fo_X12_13 dX12_toldMany_6 rfl rfl ?_
    refine X_iconst (v := 0) dX12_toldMany_9 (by decide) ?_
    refine X_iald (j := 1) (v := nI np) dX12_toldMany_10 rfl (vin (by decide)) hho0 ?_
    refine X_icmp_ge (tgt := 37) dX12_toldMany_11 (by decide) (fun c_2 => ?_) (fun c_2 => ?_)
    · have hlt4 : k4 = np := nlex (L := np) (by omega) hb4 c_2
      rw [show np - k4 = 0 by omega] at hL4
      have hL4 := hL4.trans (F_X12_toldMany_L4_z ..)
      try dsimp only at hL4
      refine X_lv (lv' := [(1, ex_i s4_0), (0, ex_r m)]) [1, 2] rfl ?_
      refine X_eq (cs' := [(m, ex_o 12 [ex_i x0, ex_i x1, ex_r x2, ex_i x3, ex_i x4, ex_i x5, ex_i x6, ex_j x7, ex_i x8, ex_i x9, ex_r x10, ex_r x11, ex_r x12, ex_r x13, ex_r x14, ex_r x15, ex_r x16, ex_r x17, ex_r x18, ex_r x19, ex_r x20, ex_r x21, ex_r x22, ex_r x23, ex_r x24, ex_r x25, ex_i x26, ex_i x27, ex_r x28, ex_r x29, ex_r x30, ex_r x31, ex_r x32, ex_r x33, ex_r x34, ex_r x35, ex_r x36, ex_r x37, ex_r x38, ex_r x39, ex_i x40, ex_j x41, ex_r x42, ex_r x43, ex_r x44, ex_r x45, ex_r x46, ex_r x47, ex_r x48, ex_r x49, ex_r x50, ex_r x51, ex_r x52, ex_r x53, ex_i x54, ex_i x55, ex_i x56, ex_i x57, ex_r x58, ex_r x59, ex_r x60, ex_r x61, ex_i x62, ex_r x63, ex_r x64, ex_i x65, ex_j x66]), (x10, ex_a 1 10 ho), (x47, ex_a 1 30 to)]) (lv' := [(1, ex_i v_1), (0, ex_r m)]) (by subst hL4; rfl) (by subst hL4; rfl) ?_
      exact hrest4 trivial
    · have hlt4 : k4 < np := nlen (L := np) (by omega) hb4 c_2
      rw [show np - k4 = (np - (k4 + 1)) + 1 by omega] at hL4
      have hL4 := hL4.trans (F_X12_toldMany_L4_s ..)
      refine X_iload_n (j := 1) dX12_toldMany_14 rfl rfl ?_
      refine X_aload_n (j := 2) dX12_toldMany_15 rfl rfl ?_
      refine X_get (j := 0) fo_X12_114 dX12_toldMany_16 rfl rfl ?_
      refine X_iload_n (j := 0) dX12_toldMany_19 rfl rfl ?_
      refine X_iald (j := 2) (v := (to k4)) dX12_toldMany_20 rfl (vp_in_nI (show k4 < 30 by omega) (by decide)) (by rw [nI_clamp (by omega)]) ?_
      refine X_if_lt (tgt := 28) dX12_toldMany_21 (by decide) (fun c_3 => ?_) (fun c_3 => ?_)
      · have hL4 := hL4.trans (if_pos c_3)
        refine X_iconst (v := 0) dX12_toldMany_28 (by decide) ?_
        refine X_iadd (v := (s4_0 + 0)) dX12_toldMany_29 rfl ?_
        refine X_istore_n (lv' := [(1, ex_i (s4_0 + 0)), (2, ex_i (nI k4)), (0, ex_r m)]) dX12_toldMany_30 rfl (Nat.le_of_ble_eq_true rfl) rfl ?_
        refine X_iinc (v := nI (k4 + 1)) (j := 1) (lv' := [(2, ex_i (nI (k4 + 1))), (1, ex_i (s4_0 + 0)), (0, ex_r m)]) dX12_toldMany_31 rfl (nI_add k4 1) (Nat.le_of_ble_eq_true rfl) rfl ?_
        refine X_goto (tgt := 4) dX12_toldMany_34 (by decide) ?_
        try dsimp only at hL4
        exact ihc4 (k4 + 1) (s4_0 + 0) ⟨hL4, (show (k4 + 1) ≤ np by omega)⟩ (show np - (k4 + 1) < np - k4 by omega)
      · have hL4 := hL4.trans (if_neg c_3)
        refine X_iconst (v := 1) dX12_toldMany_24 (by decide) ?_
        refine X_goto (tgt := 29) dX12_toldMany_25 (by decide) ?_
        refine X_iadd (v := (s4_0 + 1)) dX12_toldMany_29 rfl ?_
        refine X_istore_n (lv' := [(1, ex_i (s4_0 + 1)), (2, ex_i (nI k4)), (0, ex_r m)]) dX12_toldMany_30 rfl (Nat.le_of_ble_eq_true rfl) rfl ?_
        refine X_iinc (v := nI (k4 + 1)) (j := 1) (lv' := [(2, ex_i (nI (k4 + 1))), (1, ex_i (s4_0 + 1)), (0, ex_r m)]) dX12_toldMany_31 rfl (nI_add k4 1) (Nat.le_of_ble_eq_true rfl) rfl ?_
        refine X_goto (tgt := 4) dX12_toldMany_34 (by decide) ?_
        try dsimp only at hL4
        exact ihc4 (k4 + 1) (s4_0 + 1) ⟨hL4, (show (k4 + 1) ≤ np by omega)⟩ (show np - (k4 + 1) < np - k4 by omega)
  refine X_iload_n (j := 0) dX12_toldMany_37 rfl rfl ?_
  try dsimp only at hV
  exact X_iret ex_nI rfl dX12_toldMany_38 (by (repeat refine ex_kc ?_) <;> rfl) (by subst hV; exact ⟨rfl, rfl⟩)

def F_X12_count (np : Nat) (wt : Int32) (x1 : Int32) (x54 : Int32) (ho : Nat → Int32) (zf : Nat → Int32) (ze : Nat → Int32) (li : Nat → Int32) (to : Nat → Int32) (s : Nat → Int32) : Int32 × Int32 := (if (F_X12_within_f wt 0 12) = 0 then (0, (-1)) else (if 3 ≤ wt then (if 6 ≤ wt then (if 8 ≤ wt then (if 10 ≤ wt then (if wt = 10 then (0, x54) else (if wt = 11 then (0, x1) else (0, F_X12_sum 3 s))) else (if wt = 8 then (0, li 0) else (0, F_X12_toldMany np to))) else (if wt = 6 then (0, F_X12_sum 15 s) else (0, s 2))) else (if wt = 3 then (0, s 0) else (if wt = 4 then (0, s 1) else (0, F_X12_sitting np zf ze s)))) else (0, ho wt.toNatClampNeg)))
set_option maxHeartbeats 4000000 in
set_option maxRecDepth 100000 in
theorem e_X12_count (l : Launch) (np : Nat) (m : Nat) (wt : Int32) (x0 : Int32) (x1 : Int32) (x2 : Nat) (x3 : Int32) (x4 : Int32) (x5 : Int32) (x6 : Int32) (x7 : Int64) (x8 : Int32) (x9 : Int32) (x10 : Nat) (x11 : Nat) (x12 : Nat) (x13 : Nat) (x14 : Nat) (x15 : Nat) (x16 : Nat) (x17 : Nat) (x18 : Nat) (x19 : Nat) (x20 : Nat) (x21 : Nat) (x22 : Nat) (x23 : Nat) (x24 : Nat) (x25 : Nat) (x26 : Int32) (x27 : Int32) (x28 : Nat) (x29 : Nat) (x30 : Nat) (x31 : Nat) (x32 : Nat) (x33 : Nat) (x34 : Nat) (x35 : Nat) (x36 : Nat) (x37 : Nat) (x38 : Nat) (x39 : Nat) (x40 : Int32) (x41 : Int64) (x42 : Nat) (x43 : Nat) (x44 : Nat) (x45 : Nat) (x46 : Nat) (x47 : Nat) (x48 : Nat) (x49 : Nat) (x50 : Nat) (x51 : Nat) (x52 : Nat) (x53 : Nat) (x54 : Int32) (x55 : Int32) (x56 : Int32) (x57 : Int32) (x58 : Nat) (x59 : Nat) (x60 : Nat) (x61 : Nat) (x62 : Int32) (x63 : Nat) (x64 : Nat) (x65 : Int32) (x66 : Int64) (ho : Nat → Int32) (zf : Nat → Int32) (ze : Nat → Int32) (li : Nat → Int32) (to : Nat → Int32) (s : Nat → Int32) (hho0 : ho 0 = nI np) (hnp : np ≤ 6) : ex_M l yX12_count cX12_count 2 (some .int) 3 65 [ex_r m, ex_i wt] [(m, ex_o 12 [ex_i x0, ex_i x1, ex_r x2, ex_i x3, ex_i x4, ex_i x5, ex_i x6, ex_j x7, ex_i x8, ex_i x9, ex_r x10, ex_r x11, ex_r x12, ex_r x13, ex_r x14, ex_r x15, ex_r x16, ex_r x17, ex_r x18, ex_r x19, ex_r x20, ex_r x21, ex_r x22, ex_r x23, ex_r x24, ex_r x25, ex_i x26, ex_i x27, ex_r x28, ex_r x29, ex_r x30, ex_r x31, ex_r x32, ex_r x33, ex_r x34, ex_r x35, ex_r x36, ex_r x37, ex_r x38, ex_r x39, ex_i x40, ex_j x41, ex_r x42, ex_r x43, ex_r x44, ex_r x45, ex_r x46, ex_r x47, ex_r x48, ex_r x49, ex_r x50, ex_r x51, ex_r x52, ex_r x53, ex_i x54, ex_i x55, ex_i x56, ex_i x57, ex_r x58, ex_r x59, ex_r x60, ex_r x61, ex_i x62, ex_r x63, ex_r x64, ex_i x65, ex_j x66]), (x10, ex_a 1 10 ho), (x17, ex_a 1 12 zf), (x18, ex_a 1 12 ze), (x42, ex_a 1 6 li), (x47, ex_a 1 30 to), (x48, ex_a 1 21 s)] (fun zcs zr => zcs = [(m, ex_o 12 [ex_i ((F_X12_count np wt x1 x54 ho zf ze li to s).1), ex_i x1, ex_r x2, ex_i x3, ex_i x4, ex_i x5, ex_i x6, ex_j x7, ex_i x8, ex_i x9, ex_r x10, ex_r x11, ex_r x12, ex_r x13, ex_r x14, ex_r x15, ex_r x16, ex_r x17, ex_r x18, ex_r x19, ex_r x20, ex_r x21, ex_r x22, ex_r x23, ex_r x24, ex_r x25, ex_i x26, ex_i x27, ex_r x28, ex_r x29, ex_r x30, ex_r x31, ex_r x32, ex_r x33, ex_r x34, ex_r x35, ex_r x36, ex_r x37, ex_r x38, ex_r x39, ex_i x40, ex_j x41, ex_r x42, ex_r x43, ex_r x44, ex_r x45, ex_r x46, ex_r x47, ex_r x48, ex_r x49, ex_r x50, ex_r x51, ex_r x52, ex_r x53, ex_i x54, ex_i x55, ex_i x56, ex_i x57, ex_r x58, ex_r x59, ex_r x60, ex_r x61, ex_i x62, ex_r x63, ex_r x64, ex_i x65, ex_j x66]), (x10, ex_a 1 10 ho), (x17, ex_a 1 12 zf), (x18, ex_a 1 12 ze), (x42, ex_a 1 6 li), (x47, ex_a 1 30 to), (x48, ex_a 1 21 s)] ∧ zr = some (ex_i (F_X12_count np wt x1 x54 ho zf ze li to s).2)) := by
  refine X_meth (by decide) (Nat.le_of_ble_eq_true rfl) ?_
  generalize hV : F_X12_count np wt x1 x54 ho zf ze li to s = V0
  have hV := hV.symm
  unfold F_X12_count at hV
  try dsimp only at hV
  refine X_aload_n (j := 0) dX12_count_0 rfl rfl ?_
  refine X_iconst (v := 0) dX12_count_1 (by decide) ?_
  refine X_put (j := 0) (cs' := [(m, ex_o 12 [ex_i 0, ex_i x1, ex_r x2, ex_i x3, ex_i x4, ex_i x5, ex_i x6, ex_j x7, ex_i x8, ex_i x9, ex_r x10, ex_r x11, ex_r x12, ex_r x13, ex_r x14, ex_r x15, ex_r x16, ex_r x17, ex_r x18, ex_r x19, ex_r x20, ex_r x21, ex_r x22, ex_r x23, ex_r x24, ex_r x25, ex_i x26, ex_i x27, ex_r x28, ex_r x29, ex_r x30, ex_r x31, ex_r x32, ex_r x33, ex_r x34, ex_r x35, ex_r x36, ex_r x37, ex_r x38, ex_r x39, ex_i x40, ex_j x41, ex_r x42, ex_r x43, ex_r x44, ex_r x45, ex_r x46, ex_r x47, ex_r x48, ex_r x49, ex_r x50, ex_r x51, ex_r x52, ex_r x53, ex_i x54, ex_i x55, ex_i x56, ex_i x57, ex_r x58, ex_r x59, ex_r x60, ex_r x61, ex_i x62, ex_r x63, ex_r x64, ex_i x65, ex_j x66]), (x10, ex_a 1 10 ho), (x17, ex_a 1 12 zf), (x18, ex_a 1 12 ze), (x42, ex_a 1 6 li), (x47, ex_a 1 30 to), (x48, ex_a 1 21 s)]) fo_X12_156 (by decide) dX12_count_2 rfl (Nat.le_of_ble_eq_true rfl) trivial rfl ?_
  refine X_iload_n (j := 1) dX12_count_5 rfl rfl ?_
  refine X_iconst (v := 0) dX12_count_6 (by decide) ?_
  refine X_bipush (v := 12) dX12_count_7 (by decide) ?_
  refine X_callS (rest := [(m, ex_o 12 [ex_i 0, ex_i x1, ex_r x2, ex_i x3, ex_i x4, ex_i x5, ex_i x6, ex_j x7, ex_i x8, ex_i x9, ex_r x10, ex_r x11, ex_r x12, ex_r x13, ex_r x14, ex_r x15, ex_r x16, ex_r x17, ex_r x18, ex_r x19, ex_r x20, ex_r x21, ex_r x22, ex_r x23, ex_r x24, ex_r x25, ex_i x26, ex_i x27, ex_r x28, ex_r x29, ex_r x30, ex_r x31, ex_r x32, ex_r x33, ex_r x34, ex_r x35, ex_r x36, ex_r x37, ex_r x38, ex_r x39, ex_i x40, ex_j x41, ex_r x42, ex_r x43, ex_r x44, ex_r x45, ex_r x46, ex_r x47, ex_r x48, ex_r x49, ex_r x50, ex_r x51, ex_r x52, ex_r x53, ex_i x54, ex_i x55, ex_i x56, ex_i x57, ex_r x58, ex_r x59, ex_r x60, ex_r x61, ex_i x62, ex_r x63, ex_r x64, ex_i x65, ex_j x66]), (x10, ex_a 1 10 ho), (x17, ex_a 1 12 zf), (x18, ex_a 1 12 ze), (x42, ex_a 1 6 li), (x47, ex_a 1 30 to), (x48, ex_a 1 21 s)]) (stk := []) co_X12_293 rfl ⟨(Nat.le_of_ble_eq_true rfl), (Nat.le_of_ble_eq_true rfl)⟩ (e_X12_within_f l wt 0 12) dX12_count_9 [0, 1, 2, 3, 4, 5, 6] (show List.Perm [0, 1, 2, 3, 4, 5, 6] (List.range 7) from by decide) rfl rfl rfl (Nat.le_of_ble_eq_true rfl) (fun zc1 zr hq hk => ?_)
  obtain ⟨rfl, rfl⟩ := hq
  refine X_if_ne (tgt := 17) dX12_count_12 (by decide) (fun c_1 => ?_) (fun c_1 => ?_)
  · have hV := hV.trans (if_neg c_1)
    refine X_iload_n (j := 1) dX12_count_17 rfl rfl ?_
    refine X_iconst (v := 3) dX12_count_18 (by decide) ?_
    refine X_icmp_ge (tgt := 29) dX12_count_19 (by decide) (fun c_2 => ?_) (fun c_2 => ?_)
    · have hV := hV.trans (if_pos c_2)
      refine X_iload_n (j := 1) dX12_count_29 rfl rfl ?_
      refine X_bipush (v := 6) dX12_count_30 (by decide) ?_
      refine X_icmp_ge (tgt := 68) dX12_count_32 (by decide) (fun c_3 => ?_) (fun c_3 => ?_)
      · have hV := hV.trans (if_pos c_3)
        refine X_iload_n (j := 1) dX12_count_68 rfl rfl ?_
        refine X_bipush (v := 8) dX12_count_69 (by decide) ?_
        refine X_icmp_ge (tgt := 99) dX12_count_71 (by decide) (fun c_4 => ?_) (fun c_4 => ?_)
        · have hV := hV.trans (if_pos c_4)
          refine X_iload_n (j := 1) dX12_count_99 rfl rfl ?_
          refine X_bipush (v := 10) dX12_count_100 (by decide) ?_
          refine X_icmp_ge (tgt := 125) dX12_count_102 (by decide) (fun c_5 => ?_) (fun c_5 => ?_)
          · have hV := hV.trans (if_pos c_5)
            refine X_iload_n (j := 1) dX12_count_125 rfl rfl ?_
            refine X_bipush (v := 10) dX12_count_126 (by decide) ?_
            refine X_icmp_ne (tgt := 138) dX12_count_128 (by decide) (fun c_6 => ?_) (fun c_6 => ?_)
            · have hV := hV.trans (if_neg c_6)
              refine X_iload_n (j := 1) dX12_count_138 rfl rfl ?_
              refine X_bipush (v := 11) dX12_count_139 (by decide) ?_
              refine X_icmp_ne (tgt := 151) dX12_count_141 (by decide) (fun c_7 => ?_) (fun c_7 => ?_)
              · have hV := hV.trans (if_neg c_7)
                refine X_aload_n (j := 0) dX12_count_151 rfl rfl ?_
                refine X_get (j := 0) fo_X12_117 dX12_count_152 rfl rfl ?_
                refine X_iconst (v := 3) dX12_count_155 (by decide) ?_
                refine X_callS (rest := [(m, ex_o 12 [ex_i 0, ex_i x1, ex_r x2, ex_i x3, ex_i x4, ex_i x5, ex_i x6, ex_j x7, ex_i x8, ex_i x9, ex_r x10, ex_r x11, ex_r x12, ex_r x13, ex_r x14, ex_r x15, ex_r x16, ex_r x17, ex_r x18, ex_r x19, ex_r x20, ex_r x21, ex_r x22, ex_r x23, ex_r x24, ex_r x25, ex_i x26, ex_i x27, ex_r x28, ex_r x29, ex_r x30, ex_r x31, ex_r x32, ex_r x33, ex_r x34, ex_r x35, ex_r x36, ex_r x37, ex_r x38, ex_r x39, ex_i x40, ex_j x41, ex_r x42, ex_r x43, ex_r x44, ex_r x45, ex_r x46, ex_r x47, ex_r x48, ex_r x49, ex_r x50, ex_r x51, ex_r x52, ex_r x53, ex_i x54, ex_i x55, ex_i x56, ex_i x57, ex_r x58, ex_r x59, ex_r x60, ex_r x61, ex_i x62, ex_r x63, ex_r x64, ex_i x65, ex_j x66]), (x10, ex_a 1 10 ho), (x17, ex_a 1 12 zf), (x18, ex_a 1 12 ze), (x42, ex_a 1 6 li), (x47, ex_a 1 30 to)]) (stk := []) co_X12_541 rfl ⟨(Nat.le_of_ble_eq_true rfl), (Nat.le_of_ble_eq_true rfl)⟩ (e_X12_sum l x48 3 s (by first | assumption | omega)) dX12_count_156 [6, 0, 1, 2, 3, 4, 5] (show List.Perm [6, 0, 1, 2, 3, 4, 5] (List.range 7) from by decide) rfl rfl rfl (Nat.le_of_ble_eq_true rfl) (fun zc1 zr hq hk => ?_)
                obtain ⟨rfl, rfl⟩ := hq
                try dsimp only at hV
                refine X_re (cs' := [(m, ex_o 12 [ex_i 0, ex_i x1, ex_r x2, ex_i x3, ex_i x4, ex_i x5, ex_i x6, ex_j x7, ex_i x8, ex_i x9, ex_r x10, ex_r x11, ex_r x12, ex_r x13, ex_r x14, ex_r x15, ex_r x16, ex_r x17, ex_r x18, ex_r x19, ex_r x20, ex_r x21, ex_r x22, ex_r x23, ex_r x24, ex_r x25, ex_i x26, ex_i x27, ex_r x28, ex_r x29, ex_r x30, ex_r x31, ex_r x32, ex_r x33, ex_r x34, ex_r x35, ex_r x36, ex_r x37, ex_r x38, ex_r x39, ex_i x40, ex_j x41, ex_r x42, ex_r x43, ex_r x44, ex_r x45, ex_r x46, ex_r x47, ex_r x48, ex_r x49, ex_r x50, ex_r x51, ex_r x52, ex_r x53, ex_i x54, ex_i x55, ex_i x56, ex_i x57, ex_r x58, ex_r x59, ex_r x60, ex_r x61, ex_i x62, ex_r x63, ex_r x64, ex_i x65, ex_j x66]), (x10, ex_a 1 10 ho), (x17, ex_a 1 12 zf), (x18, ex_a 1 12 ze), (x42, ex_a 1 6 li), (x47, ex_a 1 30 to), (x48, ex_a 1 21 s)]) [1, 2, 3, 4, 5, 6, 0] (show List.Perm [1, 2, 3, 4, 5, 6, 0] (List.range 7) from by decide) rfl ?_
                exact X_iret ex_nI rfl dX12_count_159 (by (repeat refine ex_kc ?_) <;> rfl) (by subst hV; exact ⟨rfl, rfl⟩)
              · have hV := hV.trans (if_pos c_7)
                refine X_aload_n (j := 0) dX12_count_144 rfl rfl ?_
                refine X_get (j := 0) fo_X12_162 dX12_count_145 rfl rfl ?_
                refine X_goto (tgt := 159) dX12_count_148 (by decide) ?_
                try dsimp only at hV
                exact X_iret ex_nI rfl dX12_count_159 (by (repeat refine ex_kc ?_) <;> rfl) (by subst hV; exact ⟨rfl, rfl⟩)
            · have hV := hV.trans (if_pos c_6)
              refine X_aload_n (j := 0) dX12_count_131 rfl rfl ?_
              refine X_get (j := 0) fo_X12_385 dX12_count_132 rfl rfl ?_
              refine X_goto (tgt := 159) dX12_count_135 (by decide) ?_
              try dsimp only at hV
              exact X_iret ex_nI rfl dX12_count_159 (by (repeat refine ex_kc ?_) <;> rfl) (by subst hV; exact ⟨rfl, rfl⟩)
          · have hV := hV.trans (if_neg c_5)
            refine X_iload_n (j := 1) dX12_count_105 rfl rfl ?_
            refine X_bipush (v := 8) dX12_count_106 (by decide) ?_
            refine X_icmp_ne (tgt := 120) dX12_count_108 (by decide) (fun c_8 => ?_) (fun c_8 => ?_)
            · have hV := hV.trans (if_neg c_8)
              refine X_aload_n (j := 0) dX12_count_120 rfl rfl ?_
              refine X_callV (j0 := 0) (rest := [(x17, ex_a 1 12 zf), (x18, ex_a 1 12 ze), (x42, ex_a 1 6 li), (x48, ex_a 1 21 s)]) (stk := []) co_X12_547 rfl ⟨(Nat.le_of_ble_eq_true rfl), (Nat.le_of_ble_eq_true rfl)⟩ (e_X12_toldMany l np m 0 x1 x2 x3 x4 x5 x6 x7 x8 x9 x10 x11 x12 x13 x14 x15 x16 x17 x18 x19 x20 x21 x22 x23 x24 x25 x26 x27 x28 x29 x30 x31 x32 x33 x34 x35 x36 x37 x38 x39 x40 x41 x42 x43 x44 x45 x46 x47 x48 x49 x50 x51 x52 x53 x54 x55 x56 x57 x58 x59 x60 x61 x62 x63 x64 x65 x66 ho to (by first | assumption | omega) (by first | assumption | omega)) dX12_count_121 [0, 1, 5, 2, 3, 4, 6] (show List.Perm [0, 1, 5, 2, 3, 4, 6] (List.range 7) from by decide) rfl rfl rfl rfl (Nat.le_of_ble_eq_true rfl) (fun zc1 zr hq hk => ?_)
              obtain ⟨rfl, rfl⟩ := hq
              try dsimp only at hV
              refine X_re (cs' := [(m, ex_o 12 [ex_i 0, ex_i x1, ex_r x2, ex_i x3, ex_i x4, ex_i x5, ex_i x6, ex_j x7, ex_i x8, ex_i x9, ex_r x10, ex_r x11, ex_r x12, ex_r x13, ex_r x14, ex_r x15, ex_r x16, ex_r x17, ex_r x18, ex_r x19, ex_r x20, ex_r x21, ex_r x22, ex_r x23, ex_r x24, ex_r x25, ex_i x26, ex_i x27, ex_r x28, ex_r x29, ex_r x30, ex_r x31, ex_r x32, ex_r x33, ex_r x34, ex_r x35, ex_r x36, ex_r x37, ex_r x38, ex_r x39, ex_i x40, ex_j x41, ex_r x42, ex_r x43, ex_r x44, ex_r x45, ex_r x46, ex_r x47, ex_r x48, ex_r x49, ex_r x50, ex_r x51, ex_r x52, ex_r x53, ex_i x54, ex_i x55, ex_i x56, ex_i x57, ex_r x58, ex_r x59, ex_r x60, ex_r x61, ex_i x62, ex_r x63, ex_r x64, ex_i x65, ex_j x66]), (x10, ex_a 1 10 ho), (x17, ex_a 1 12 zf), (x18, ex_a 1 12 ze), (x42, ex_a 1 6 li), (x47, ex_a 1 30 to), (x48, ex_a 1 21 s)]) [0, 1, 3, 4, 5, 2, 6] (show List.Perm [0, 1, 3, 4, 5, 2, 6] (List.range 7) from by decide) rfl ?_
              exact X_iret ex_nI rfl dX12_count_124 (by (repeat refine ex_kc ?_) <;> rfl) (by subst hV; exact ⟨rfl, rfl⟩)
            · have hV := hV.trans (if_pos c_8)
              refine X_aload_n (j := 0) dX12_count_111 rfl rfl ?_
              refine X_get (j := 0) fo_X12_99 dX12_count_112 rfl rfl ?_
              refine X_iconst (v := 0) dX12_count_115 (by decide) ?_
              refine X_iald (j := 4) (v := (li 0)) dX12_count_116 rfl (vin (by decide)) rfl ?_
              refine X_goto (tgt := 124) dX12_count_117 (by decide) ?_
              try dsimp only at hV
              exact X_iret ex_nI rfl dX12_count_124 (by (repeat refine ex_kc ?_) <;> rfl) (by subst hV; exact ⟨rfl, rfl⟩)
        · have hV := hV.trans (if_neg c_4)
          refine X_iload_n (j := 1) dX12_count_74 rfl rfl ?_
          refine X_bipush (v := 6) dX12_count_75 (by decide) ?_
          refine X_icmp_ne (tgt := 92) dX12_count_77 (by decide) (fun c_9 => ?_) (fun c_9 => ?_)
          · have hV := hV.trans (if_neg c_9)
            refine X_aload_n (j := 0) dX12_count_92 rfl rfl ?_
            refine X_get (j := 0) fo_X12_117 dX12_count_93 rfl rfl ?_
            refine X_iconst (v := 2) dX12_count_96 (by decide) ?_
            refine X_iald (j := 6) (v := (s 2)) dX12_count_97 rfl (vin (by decide)) rfl ?_
            try dsimp only at hV
            exact X_iret ex_nI rfl dX12_count_98 (by (repeat refine ex_kc ?_) <;> rfl) (by subst hV; exact ⟨rfl, rfl⟩)
          · have hV := hV.trans (if_pos c_9)
            refine X_aload_n (j := 0) dX12_count_80 rfl rfl ?_
            refine X_get (j := 0) fo_X12_117 dX12_count_81 rfl rfl ?_
            refine X_bipush (v := 15) dX12_count_84 (by decide) ?_
            refine X_callS (rest := [(m, ex_o 12 [ex_i 0, ex_i x1, ex_r x2, ex_i x3, ex_i x4, ex_i x5, ex_i x6, ex_j x7, ex_i x8, ex_i x9, ex_r x10, ex_r x11, ex_r x12, ex_r x13, ex_r x14, ex_r x15, ex_r x16, ex_r x17, ex_r x18, ex_r x19, ex_r x20, ex_r x21, ex_r x22, ex_r x23, ex_r x24, ex_r x25, ex_i x26, ex_i x27, ex_r x28, ex_r x29, ex_r x30, ex_r x31, ex_r x32, ex_r x33, ex_r x34, ex_r x35, ex_r x36, ex_r x37, ex_r x38, ex_r x39, ex_i x40, ex_j x41, ex_r x42, ex_r x43, ex_r x44, ex_r x45, ex_r x46, ex_r x47, ex_r x48, ex_r x49, ex_r x50, ex_r x51, ex_r x52, ex_r x53, ex_i x54, ex_i x55, ex_i x56, ex_i x57, ex_r x58, ex_r x59, ex_r x60, ex_r x61, ex_i x62, ex_r x63, ex_r x64, ex_i x65, ex_j x66]), (x10, ex_a 1 10 ho), (x17, ex_a 1 12 zf), (x18, ex_a 1 12 ze), (x42, ex_a 1 6 li), (x47, ex_a 1 30 to)]) (stk := []) co_X12_541 rfl ⟨(Nat.le_of_ble_eq_true rfl), (Nat.le_of_ble_eq_true rfl)⟩ (e_X12_sum l x48 15 s (by first | assumption | omega)) dX12_count_86 [6, 0, 1, 2, 3, 4, 5] (show List.Perm [6, 0, 1, 2, 3, 4, 5] (List.range 7) from by decide) rfl rfl rfl (Nat.le_of_ble_eq_true rfl) (fun zc1 zr hq hk => ?_)
            obtain ⟨rfl, rfl⟩ := hq
            refine X_goto (tgt := 98) dX12_count_89 (by decide) ?_
            try dsimp only at hV
            refine X_re (cs' := [(m, ex_o 12 [ex_i 0, ex_i x1, ex_r x2, ex_i x3, ex_i x4, ex_i x5, ex_i x6, ex_j x7, ex_i x8, ex_i x9, ex_r x10, ex_r x11, ex_r x12, ex_r x13, ex_r x14, ex_r x15, ex_r x16, ex_r x17, ex_r x18, ex_r x19, ex_r x20, ex_r x21, ex_r x22, ex_r x23, ex_r x24, ex_r x25, ex_i x26, ex_i x27, ex_r x28, ex_r x29, ex_r x30, ex_r x31, ex_r x32, ex_r x33, ex_r x34, ex_r x35, ex_r x36, ex_r x37, ex_r x38, ex_r x39, ex_i x40, ex_j x41, ex_r x42, ex_r x43, ex_r x44, ex_r x45, ex_r x46, ex_r x47, ex_r x48, ex_r x49, ex_r x50, ex_r x51, ex_r x52, ex_r x53, ex_i x54, ex_i x55, ex_i x56, ex_i x57, ex_r x58, ex_r x59, ex_r x60, ex_r x61, ex_i x62, ex_r x63, ex_r x64, ex_i x65, ex_j x66]), (x10, ex_a 1 10 ho), (x17, ex_a 1 12 zf), (x18, ex_a 1 12 ze), (x42, ex_a 1 6 li), (x47, ex_a 1 30 to), (x48, ex_a 1 21 s)]) [1, 2, 3, 4, 5, 6, 0] (show List.Perm [1, 2, 3, 4, 5, 6, 0] (List.range 7) from by decide) rfl ?_
            exact X_iret ex_nI rfl dX12_count_98 (by (repeat refine ex_kc ?_) <;> rfl) (by subst hV; exact ⟨rfl, rfl⟩)
      · have hV := hV.trans (if_neg c_3)
        refine X_iload_n (j := 1) dX12_count_35 rfl rfl ?_
        refine X_iconst (v := 3) dX12_count_36 (by decide) ?_
        refine X_icmp_ne (tgt := 49) dX12_count_37 (by decide) (fun c_10 => ?_) (fun c_10 => ?_)
        · have hV := hV.trans (if_neg c_10)
          refine X_iload_n (j := 1) dX12_count_49 rfl rfl ?_
          refine X_iconst (v := 4) dX12_count_50 (by decide) ?_
          refine X_icmp_ne (tgt := 63) dX12_count_51 (by decide) (fun c_11 => ?_) (fun c_11 => ?_)
          · have hV := hV.trans (if_neg c_11)
            refine X_aload_n (j := 0) dX12_count_63 rfl rfl ?_
            refine X_callV (j0 := 0) (rest := [(x42, ex_a 1 6 li), (x47, ex_a 1 30 to)]) (stk := []) co_X12_431 rfl ⟨(Nat.le_of_ble_eq_true rfl), (Nat.le_of_ble_eq_true rfl)⟩ (e_X12_sitting l np m 0 x1 x2 x3 x4 x5 x6 x7 x8 x9 x10 x11 x12 x13 x14 x15 x16 x17 x18 x19 x20 x21 x22 x23 x24 x25 x26 x27 x28 x29 x30 x31 x32 x33 x34 x35 x36 x37 x38 x39 x40 x41 x42 x43 x44 x45 x46 x47 x48 x49 x50 x51 x52 x53 x54 x55 x56 x57 x58 x59 x60 x61 x62 x63 x64 x65 x66 ho zf ze s (by first | assumption | omega) (by first | assumption | omega)) dX12_count_64 [0, 1, 2, 3, 6, 4, 5] (show List.Perm [0, 1, 2, 3, 6, 4, 5] (List.range 7) from by decide) rfl rfl rfl rfl (Nat.le_of_ble_eq_true rfl) (fun zc1 zr hq hk => ?_)
            obtain ⟨rfl, rfl⟩ := hq
            try dsimp only at hV
            refine X_re (cs' := [(m, ex_o 12 [ex_i 0, ex_i x1, ex_r x2, ex_i x3, ex_i x4, ex_i x5, ex_i x6, ex_j x7, ex_i x8, ex_i x9, ex_r x10, ex_r x11, ex_r x12, ex_r x13, ex_r x14, ex_r x15, ex_r x16, ex_r x17, ex_r x18, ex_r x19, ex_r x20, ex_r x21, ex_r x22, ex_r x23, ex_r x24, ex_r x25, ex_i x26, ex_i x27, ex_r x28, ex_r x29, ex_r x30, ex_r x31, ex_r x32, ex_r x33, ex_r x34, ex_r x35, ex_r x36, ex_r x37, ex_r x38, ex_r x39, ex_i x40, ex_j x41, ex_r x42, ex_r x43, ex_r x44, ex_r x45, ex_r x46, ex_r x47, ex_r x48, ex_r x49, ex_r x50, ex_r x51, ex_r x52, ex_r x53, ex_i x54, ex_i x55, ex_i x56, ex_i x57, ex_r x58, ex_r x59, ex_r x60, ex_r x61, ex_i x62, ex_r x63, ex_r x64, ex_i x65, ex_j x66]), (x10, ex_a 1 10 ho), (x17, ex_a 1 12 zf), (x18, ex_a 1 12 ze), (x42, ex_a 1 6 li), (x47, ex_a 1 30 to), (x48, ex_a 1 21 s)]) [0, 1, 2, 3, 5, 6, 4] (show List.Perm [0, 1, 2, 3, 5, 6, 4] (List.range 7) from by decide) rfl ?_
            exact X_iret ex_nI rfl dX12_count_67 (by (repeat refine ex_kc ?_) <;> rfl) (by subst hV; exact ⟨rfl, rfl⟩)
          · have hV := hV.trans (if_pos c_11)
            refine X_aload_n (j := 0) dX12_count_54 rfl rfl ?_
            refine X_get (j := 0) fo_X12_117 dX12_count_55 rfl rfl ?_
            refine X_iconst (v := 1) dX12_count_58 (by decide) ?_
            refine X_iald (j := 6) (v := (s 1)) dX12_count_59 rfl (vin (by decide)) rfl ?_
            refine X_goto (tgt := 67) dX12_count_60 (by decide) ?_
            try dsimp only at hV
            exact X_iret ex_nI rfl dX12_count_67 (by (repeat refine ex_kc ?_) <;> rfl) (by subst hV; exact ⟨rfl, rfl⟩)
        · have hV := hV.trans (if_pos c_10)
          refine X_aload_n (j := 0) dX12_count_40 rfl rfl ?_
          refine X_get (j := 0) fo_X12_117 dX12_count_41 rfl rfl ?_
          refine X_iconst (v := 0) dX12_count_44 (by decide) ?_
          refine X_iald (j := 6) (v := (s 0)) dX12_count_45 rfl (vin (by decide)) rfl ?_
          refine X_goto (tgt := 67) dX12_count_46 (by decide) ?_
          try dsimp only at hV
          exact X_iret ex_nI rfl dX12_count_67 (by (repeat refine ex_kc ?_) <;> rfl) (by subst hV; exact ⟨rfl, rfl⟩)
    · have hV := hV.trans (if_neg c_2)
      have hz1 := wi_of c_1
      have hx1 := nI_ofc hz1.1
      have hl1 := nI_ofl (n := 3) hz1.1 (by decide) c_2
      refine X_eq (cs' := [(m, ex_o 12 [ex_i 0, ex_i x1, ex_r x2, ex_i x3, ex_i x4, ex_i x5, ex_i x6, ex_j x7, ex_i x8, ex_i x9, ex_r x10, ex_r x11, ex_r x12, ex_r x13, ex_r x14, ex_r x15, ex_r x16, ex_r x17, ex_r x18, ex_r x19, ex_r x20, ex_r x21, ex_r x22, ex_r x23, ex_r x24, ex_r x25, ex_i x26, ex_i x27, ex_r x28, ex_r x29, ex_r x30, ex_r x31, ex_r x32, ex_r x33, ex_r x34, ex_r x35, ex_r x36, ex_r x37, ex_r x38, ex_r x39, ex_i x40, ex_j x41, ex_r x42, ex_r x43, ex_r x44, ex_r x45, ex_r x46, ex_r x47, ex_r x48, ex_r x49, ex_r x50, ex_r x51, ex_r x52, ex_r x53, ex_i x54, ex_i x55, ex_i x56, ex_i x57, ex_r x58, ex_r x59, ex_r x60, ex_r x61, ex_i x62, ex_r x63, ex_r x64, ex_i x65, ex_j x66]), (x10, ex_a 1 10 ho), (x17, ex_a 1 12 zf), (x18, ex_a 1 12 ze), (x42, ex_a 1 6 li), (x47, ex_a 1 30 to), (x48, ex_a 1 21 s)]) (lv' := [(0, ex_r m), (1, ex_i (nI wt.toNatClampNeg))]) rfl (by rw [← hx1] <;> rfl) ?_
      refine X_aload_n (j := 0) dX12_count_22 rfl rfl ?_
      refine X_get (j := 0) fo_X12_13 dX12_count_23 rfl rfl ?_
      refine X_iload_n (j := 1) dX12_count_26 rfl rfl ?_
      refine X_iald (j := 1) (v := (ho wt.toNatClampNeg)) dX12_count_27 rfl (vp_in_nI (show wt.toNatClampNeg < 10 by omega) (by decide)) (by rw [nI_clamp (by omega)]) ?_
      try dsimp only at hV
      exact X_iret ex_nI rfl dX12_count_28 (by (repeat refine ex_kc ?_) <;> rfl) (by subst hV; exact ⟨rfl, rfl⟩)
  · have hV := hV.trans (if_pos c_1)
    refine X_iconst (v := (-1)) dX12_count_15 (by decide) ?_
    try dsimp only at hV
    exact X_iret ex_nI rfl dX12_count_16 (by (repeat refine ex_kc ?_) <;> rfl) (by subst hV; exact ⟨rfl, rfl⟩)
