def F_X12_nextEater_L2 (np : Nat) (tu : Nat) (d : Nat) (ho : Nat → Int32) (zk : Nat → Int32) (zf : Nat → Int32) (ze : Nat → Int32) (zo : Nat → Int32) (s : Nat → Int32) : Nat → Nat → Int32
  | 0, k2 => (-1)
  | zn + 1, k2 => (if (F_X12_canEat ((tu + k2) % np) d zk zf ze zo s) = 0 then F_X12_nextEater_L2 np tu d ho zk zf ze zo s zn (k2 + 1) else (if (F_X12_wouldBeIll ((tu + k2) % np) ho s) = 0 then (nI ((tu + k2) % np)) else F_X12_nextEater_L2 np tu d ho zk zf ze zo s zn (k2 + 1)))
theorem F_X12_nextEater_L2_z (np : Nat) (tu : Nat) (d : Nat) (ho : Nat → Int32) (zk : Nat → Int32) (zf : Nat → Int32) (ze : Nat → Int32) (zo : Nat → Int32) (s : Nat → Int32) (k2 : Nat) : F_X12_nextEater_L2 np tu d ho zk zf ze zo s 0 k2 = (-1) := rfl
theorem F_X12_nextEater_L2_s (np : Nat) (tu : Nat) (d : Nat) (ho : Nat → Int32) (zk : Nat → Int32) (zf : Nat → Int32) (ze : Nat → Int32) (zo : Nat → Int32) (s : Nat → Int32) (k2 : Nat) (zn : Nat) : F_X12_nextEater_L2 np tu d ho zk zf ze zo s (zn + 1) k2 = (if (F_X12_canEat ((tu + k2) % np) d zk zf ze zo s) = 0 then F_X12_nextEater_L2 np tu d ho zk zf ze zo s zn (k2 + 1) else (if (F_X12_wouldBeIll ((tu + k2) % np) ho s) = 0 then (nI ((tu + k2) % np)) else F_X12_nextEater_L2 np tu d ho zk zf ze zo s zn (k2 + 1))) := rfl
def F_X12_nextEater (np : Nat) (tu : Nat) (d : Nat) (ho : Nat → Int32) (zk : Nat → Int32) (zf : Nat → Int32) (ze : Nat → Int32) (zo : Nat → Int32) (s : Nat → Int32) : Int32 := F_X12_nextEater_L2 np tu d ho zk zf ze zo s (np - 0) 0
set_option maxHeartbeats 4000000 in
set_option maxRecDepth 100000 in
theorem e_X12_nextEater (l : Launch) (np : Nat) (m : Nat) (tu : Nat) (d : Nat) (x0 : Int32) (x1 : Int32) (x2 : Nat) (x3 : Int32) (x4 : Int32) (x5 : Int32) (x6 : Int32) (x7 : Int64) (x8 : Int32) (x9 : Int32) (x10 : Nat) (x11 : Nat) (x12 : Nat) (x13 : Nat) (x14 : Nat) (x15 : Nat) (x16 : Nat) (x17 : Nat) (x18 : Nat) (x19 : Nat) (x20 : Nat) (x21 : Nat) (x22 : Nat) (x23 : Nat) (x24 : Nat) (x25 : Nat) (x26 : Int32) (x27 : Int32) (x28 : Nat) (x29 : Nat) (x30 : Nat) (x31 : Nat) (x32 : Nat) (x33 : Nat) (x34 : Nat) (x35 : Nat) (x36 : Nat) (x37 : Nat) (x38 : Nat) (x39 : Nat) (x40 : Int32) (x41 : Int64) (x42 : Nat) (x43 : Nat) (x44 : Nat) (x45 : Nat) (x46 : Nat) (x47 : Nat) (x48 : Nat) (x49 : Nat) (x50 : Nat) (x51 : Nat) (x52 : Nat) (x53 : Nat) (x54 : Int32) (x55 : Int32) (x56 : Int32) (x57 : Int32) (x58 : Nat) (x59 : Nat) (x60 : Nat) (x61 : Nat) (x62 : Int32) (x63 : Nat) (x64 : Nat) (x65 : Int32) (x66 : Int64) (ho : Nat → Int32) (zk : Nat → Int32) (zf : Nat → Int32) (ze : Nat → Int32) (zo : Nat → Int32) (s : Nat → Int32) (hd : d < 5) (hho0 : ho 0 = nI np) (hnp : np ≤ 6) (htu : tu ≤ 6) : ex_M l yX12_nextEater cX12_nextEater 5 (some .int) 3 65 [ex_r m, ex_i (nI tu), ex_i (nI d)] [(m, ex_o 12 [ex_i x0, ex_i x1, ex_r x2, ex_i x3, ex_i x4, ex_i x5, ex_i x6, ex_j x7, ex_i x8, ex_i x9, ex_r x10, ex_r x11, ex_r x12, ex_r x13, ex_r x14, ex_r x15, ex_r x16, ex_r x17, ex_r x18, ex_r x19, ex_r x20, ex_r x21, ex_r x22, ex_r x23, ex_r x24, ex_r x25, ex_i x26, ex_i x27, ex_r x28, ex_r x29, ex_r x30, ex_r x31, ex_r x32, ex_r x33, ex_r x34, ex_r x35, ex_r x36, ex_r x37, ex_r x38, ex_r x39, ex_i x40, ex_j x41, ex_r x42, ex_r x43, ex_r x44, ex_r x45, ex_r x46, ex_r x47, ex_r x48, ex_r x49, ex_r x50, ex_r x51, ex_r x52, ex_r x53, ex_i x54, ex_i x55, ex_i x56, ex_i x57, ex_r x58, ex_r x59, ex_r x60, ex_r x61, ex_i x62, ex_r x63, ex_r x64, ex_i x65, ex_j x66]), (x10, ex_a 1 10 ho), (x13, ex_a 1 12 zk), (x17, ex_a 1 12 zf), (x18, ex_a 1 12 ze), (x21, ex_a 1 10 zo), (x48, ex_a 1 21 s)] (fun zcs zr => zcs = [(m, ex_o 12 [ex_i x0, ex_i x1, ex_r x2, ex_i x3, ex_i x4, ex_i x5, ex_i x6, ex_j x7, ex_i x8, ex_i x9, ex_r x10, ex_r x11, ex_r x12, ex_r x13, ex_r x14, ex_r x15, ex_r x16, ex_r x17, ex_r x18, ex_r x19, ex_r x20, ex_r x21, ex_r x22, ex_r x23, ex_r x24, ex_r x25, ex_i x26, ex_i x27, ex_r x28, ex_r x29, ex_r x30, ex_r x31, ex_r x32, ex_r x33, ex_r x34, ex_r x35, ex_r x36, ex_r x37, ex_r x38, ex_r x39, ex_i x40, ex_j x41, ex_r x42, ex_r x43, ex_r x44, ex_r x45, ex_r x46, ex_r x47, ex_r x48, ex_r x49, ex_r x50, ex_r x51, ex_r x52, ex_r x53, ex_i x54, ex_i x55, ex_i x56, ex_i x57, ex_r x58, ex_r x59, ex_r x60, ex_r x61, ex_i x62, ex_r x63, ex_r x64, ex_i x65, ex_j x66]), (x10, ex_a 1 10 ho), (x13, ex_a 1 12 zk), (x17, ex_a 1 12 zf), (x18, ex_a 1 12 ze), (x21, ex_a 1 10 zo), (x48, ex_a 1 21 s)] ∧ zr = some (ex_i (F_X12_nextEater np tu d ho zk zf ze zo s))) := by
  refine X_meth (by decide) (Nat.le_of_ble_eq_true rfl) ?_
  generalize hV : F_X12_nextEater np tu d ho zk zf ze zo s = V0
  have hV := hV.symm
  unfold F_X12_nextEater at hV
  try dsimp only at hV
  refine X_iconst (v := 0) dX12_nextEater_0 (by decide) ?_
  refine X_istore_n (lv' := [(3, ex_i 0), (0, ex_r m), (1, ex_i (nI tu)), (2, ex_i (nI d))]) dX12_nextEater_1 rfl (Nat.le_of_ble_eq_true rfl) rfl ?_
  -- loop at 2
  have hL2 := hV
  try dsimp only at hL2
  refine X_ind (fun (a2 : Nat) => V0 = F_X12_nextEater_L2 np tu d ho zk zf ze zo s (np - a2) a2 ∧ a2 ≤ np) (fun (a2 : Nat) => np - a2) (fun (a2 : Nat) => [(m, ex_o 12 [ex_i x0, ex_i x1, ex_r x2, ex_i x3, ex_i x4, ex_i x5, ex_i x6, ex_j x7, ex_i x8, ex_i x9, ex_r x10, ex_r x11, ex_r x12, ex_r x13, ex_r x14, ex_r x15, ex_r x16, ex_r x17, ex_r x18, ex_r x19, ex_r x20, ex_r x21, ex_r x22, ex_r x23, ex_r x24, ex_r x25, ex_i x26, ex_i x27, ex_r x28, ex_r x29, ex_r x30, ex_r x31, ex_r x32, ex_r x33, ex_r x34, ex_r x35, ex_r x36, ex_r x37, ex_r x38, ex_r x39, ex_i x40, ex_j x41, ex_r x42, ex_r x43, ex_r x44, ex_r x45, ex_r x46, ex_r x47, ex_r x48, ex_r x49, ex_r x50, ex_r x51, ex_r x52, ex_r x53, ex_i x54, ex_i x55, ex_i x56, ex_i x57, ex_r x58, ex_r x59, ex_r x60, ex_r x61, ex_i x62, ex_r x63, ex_r x64, ex_i x65, ex_j x66]), (x10, ex_a 1 10 ho), (x13, ex_a 1 12 zk), (x17, ex_a 1 12 zf), (x18, ex_a 1 12 ze), (x21, ex_a 1 10 zo), (x48, ex_a 1 21 s)]) (fun (a2 : Nat) => [(3, ex_i (nI a2)), (0, ex_r m), (1, ex_i (nI tu)), (2, ex_i (nI d))]) (fun k2 hI2 ih2 => ?_) 0 ⟨hL2, (by omega)⟩
  try dsimp only at hI2 ih2 ⊢
  have ihc2 : ∀ (k2_ : Nat), (V0 = F_X12_nextEater_L2 np tu d ho zk zf ze zo s (np - k2_) k2_ ∧ k2_ ≤ np) → (np - k2_) < (np - k2) → ex_O _ _ _ _ _ _ _ _ _ [(m, ex_o 12 [ex_i x0, ex_i x1, ex_r x2, ex_i x3, ex_i x4, ex_i x5, ex_i x6, ex_j x7, ex_i x8, ex_i x9, ex_r x10, ex_r x11, ex_r x12, ex_r x13, ex_r x14, ex_r x15, ex_r x16, ex_r x17, ex_r x18, ex_r x19, ex_r x20, ex_r x21, ex_r x22, ex_r x23, ex_r x24, ex_r x25, ex_i x26, ex_i x27, ex_r x28, ex_r x29, ex_r x30, ex_r x31, ex_r x32, ex_r x33, ex_r x34, ex_r x35, ex_r x36, ex_r x37, ex_r x38, ex_r x39, ex_i x40, ex_j x41, ex_r x42, ex_r x43, ex_r x44, ex_r x45, ex_r x46, ex_r x47, ex_r x48, ex_r x49, ex_r x50, ex_r x51, ex_r x52, ex_r x53, ex_i x54, ex_i x55, ex_i x56, ex_i x57, ex_r x58, ex_r x59, ex_r x60, ex_r x61, ex_i x62, ex_r x63, ex_r x64, ex_i x65, ex_j x66]), (x10, ex_a 1 10 ho), (x13, ex_a 1 12 zk), (x17, ex_a 1 12 zf), (x18, ex_a 1 12 ze), (x21, ex_a 1 10 zo), (x48, ex_a 1 21 s)] [(3, ex_i (nI k2_)), (0, ex_r m), (1, ex_i (nI tu)), (2, ex_i (nI d))] _ _ := fun k2_ hi_ hm_ => ih2 k2_ hi_ hm_
  have hL2 := hI2.1
  have hb2 := hI2.2
  refine X_iload_n (j := 0) dX12_nextEater_2 rfl rfl ?_
  refine X_aload_n (j := 1) dX12_nextEater_3 rfl rfl ?_
  refine X_get (j := 0) fo_X12_13 dX12_nextEater_4 rfl rfl ?_
  refine X_iconst (v := 0) dX12_nextEater_7 (by decide) ?_
  refine X_iald (j := 1) (v := nI np) dX12_nextEater_8 rfl (vin (by decide)) hho0 ?_
  refine X_icmp_ge (tgt := 52) dX12_nextEater_9 (by decide) (fun c_1 => ?_) (fun c_1 => ?_)
  · have hlt2 : k2 = np := nlex (L := np) (by omega) hb2 c_1
    rw [show np - k2 = 0 by omega] at hL2
    have hL2 := hL2.trans (F_X12_nextEater_L2_z ..)
    refine X_iconst (v := (-1)) dX12_nextEater_52 (by decide) ?_
    try dsimp only at hL2
    exact X_iret ex_nI rfl dX12_nextEater_53 (by (repeat refine ex_kc ?_) <;> rfl) (by subst hL2; exact ⟨rfl, rfl⟩)
  · have hlt2 : k2 < np := nlen (L := np) (by omega) hb2 c_1
    rw [show np - k2 = (np - (k2 + 1)) + 1 by omega] at hL2
    have hL2 := hL2.trans (F_X12_nextEater_L2_s ..)
    refine X_iload_n (j := 2) dX12_nextEater_12 rfl rfl ?_
    refine X_iload_n (j := 0) dX12_nextEater_13 rfl rfl ?_
    have hmd : (tu + k2) % np < np := Nat.mod_lt _ (by omega)
    refine X_iadd (v := nI (tu + k2)) dX12_nextEater_14 (nI_add tu k2) ?_
    refine X_aload_n (j := 1) dX12_nextEater_15 rfl rfl ?_
    refine X_get (j := 0) fo_X12_13 dX12_nextEater_16 rfl rfl ?_
    refine X_iconst (v := 0) dX12_nextEater_19 (by decide) ?_
    refine X_iald (j := 1) (v := nI np) dX12_nextEater_20 rfl (vin (by decide)) hho0 ?_
    refine X_irem (v := nI ((tu + k2) % np)) dX12_nextEater_21 (nI_ne0 (show 0 < np by omega) (by omega)) (nI_rm (a := tu + k2) (b := np) (by omega) (by omega)) ?_
    refine X_istore (lv' := [(4, ex_i (nI ((tu + k2) % np))), (3, ex_i (nI k2)), (0, ex_r m), (1, ex_i (nI tu)), (2, ex_i (nI d))]) dX12_nextEater_22 (Nat.le_of_ble_eq_true rfl) rfl ?_
    refine X_aload_n (j := 2) dX12_nextEater_24 rfl rfl ?_
    refine X_iload (j := 0) dX12_nextEater_25 rfl ?_
    refine X_iload_n (j := 4) dX12_nextEater_27 rfl rfl ?_
    refine X_callV (j0 := 0) (rest := [(x10, ex_a 1 10 ho)]) (stk := []) co_X12_450 rfl ⟨(Nat.le_of_ble_eq_true rfl), (Nat.le_of_ble_eq_true rfl)⟩ (e_X12_canEat l m ((tu + k2) % np) d x0 x1 x2 x3 x4 x5 x6 x7 x8 x9 x10 x11 x12 x13 x14 x15 x16 x17 x18 x19 x20 x21 x22 x23 x24 x25 x26 x27 x28 x29 x30 x31 x32 x33 x34 x35 x36 x37 x38 x39 x40 x41 x42 x43 x44 x45 x46 x47 x48 x49 x50 x51 x52 x53 x54 x55 x56 x57 x58 x59 x60 x61 x62 x63 x64 x65 x66 zk zf ze zo s (by first | assumption | omega) (by first | assumption | omega)) dX12_nextEater_28 [0, 2, 3, 4, 5, 6, 1] (show List.Perm [0, 2, 3, 4, 5, 6, 1] (List.range 7) from by decide) rfl rfl rfl rfl (Nat.le_of_ble_eq_true rfl) (fun zc1 zr hq hk => ?_)
    obtain ⟨rfl, rfl⟩ := hq
    refine X_if_eq (tgt := 46) dX12_nextEater_31 (by decide) (fun c_2 => ?_) (fun c_2 => ?_)
    · have hL2 := hL2.trans (if_pos c_2)
      refine X_iinc (v := nI (k2 + 1)) (j := 1) (lv' := [(3, ex_i (nI (k2 + 1))), (4, ex_i (nI ((tu + k2) % np))), (0, ex_r m), (1, ex_i (nI tu)), (2, ex_i (nI d))]) dX12_nextEater_46 rfl (nI_add k2 1) (Nat.le_of_ble_eq_true rfl) rfl ?_
      refine X_goto (tgt := 2) dX12_nextEater_49 (by decide) ?_
      try dsimp only at hL2
      refine X_re (cs' := [(m, ex_o 12 [ex_i x0, ex_i x1, ex_r x2, ex_i x3, ex_i x4, ex_i x5, ex_i x6, ex_j x7, ex_i x8, ex_i x9, ex_r x10, ex_r x11, ex_r x12, ex_r x13, ex_r x14, ex_r x15, ex_r x16, ex_r x17, ex_r x18, ex_r x19, ex_r x20, ex_r x21, ex_r x22, ex_r x23, ex_r x24, ex_r x25, ex_i x26, ex_i x27, ex_r x28, ex_r x29, ex_r x30, ex_r x31, ex_r x32, ex_r x33, ex_r x34, ex_r x35, ex_r x36, ex_r x37, ex_r x38, ex_r x39, ex_i x40, ex_j x41, ex_r x42, ex_r x43, ex_r x44, ex_r x45, ex_r x46, ex_r x47, ex_r x48, ex_r x49, ex_r x50, ex_r x51, ex_r x52, ex_r x53, ex_i x54, ex_i x55, ex_i x56, ex_i x57, ex_r x58, ex_r x59, ex_r x60, ex_r x61, ex_i x62, ex_r x63, ex_r x64, ex_i x65, ex_j x66]), (x10, ex_a 1 10 ho), (x13, ex_a 1 12 zk), (x17, ex_a 1 12 zf), (x18, ex_a 1 12 ze), (x21, ex_a 1 10 zo), (x48, ex_a 1 21 s)]) [0, 6, 1, 2, 3, 4, 5] (show List.Perm [0, 6, 1, 2, 3, 4, 5] (List.range 7) from by decide) rfl ?_
      refine X_lv (lv' := [(3, ex_i (nI (k2 + 1))), (0, ex_r m), (1, ex_i (nI tu)), (2, ex_i (nI d))]) [0, 2, 3, 4] rfl ?_
      exact ihc2 (k2 + 1) ⟨hL2, (show (k2 + 1) ≤ np by omega)⟩ (show np - (k2 + 1) < np - k2 by omega)
    · have hL2 := hL2.trans (if_neg c_2)
      refine X_aload_n (j := 2) dX12_nextEater_34 rfl rfl ?_
      refine X_iload (j := 0) dX12_nextEater_35 rfl ?_
      refine X_callV (j0 := 0) (rest := [(x13, ex_a 1 12 zk), (x17, ex_a 1 12 zf), (x18, ex_a 1 12 ze), (x21, ex_a 1 10 zo)]) (stk := []) co_X12_428 rfl ⟨(Nat.le_of_ble_eq_true rfl), (Nat.le_of_ble_eq_true rfl)⟩ (e_X12_wouldBeIll l m ((tu + k2) % np) x0 x1 x2 x3 x4 x5 x6 x7 x8 x9 x10 x11 x12 x13 x14 x15 x16 x17 x18 x19 x20 x21 x22 x23 x24 x25 x26 x27 x28 x29 x30 x31 x32 x33 x34 x35 x36 x37 x38 x39 x40 x41 x42 x43 x44 x45 x46 x47 x48 x49 x50 x51 x52 x53 x54 x55 x56 x57 x58 x59 x60 x61 x62 x63 x64 x65 x66 ho s (by first | assumption | omega)) dX12_nextEater_37 [0, 6, 5, 1, 2, 3, 4] (show List.Perm [0, 6, 5, 1, 2, 3, 4] (List.range 7) from by decide) rfl rfl rfl rfl (Nat.le_of_ble_eq_true rfl) (fun zc1 zr hq hk => ?_)
      obtain ⟨rfl, rfl⟩ := hq
      refine X_if_ne (tgt := 46) dX12_nextEater_40 (by decide) (fun c_3 => ?_) (fun c_3 => ?_)
      · have hL2 := hL2.trans (if_neg c_3)
        refine X_iinc (v := nI (k2 + 1)) (j := 1) (lv' := [(3, ex_i (nI (k2 + 1))), (4, ex_i (nI ((tu + k2) % np))), (0, ex_r m), (1, ex_i (nI tu)), (2, ex_i (nI d))]) dX12_nextEater_46 rfl (nI_add k2 1) (Nat.le_of_ble_eq_true rfl) rfl ?_
        refine X_goto (tgt := 2) dX12_nextEater_49 (by decide) ?_
        try dsimp only at hL2
        refine X_re (cs' := [(m, ex_o 12 [ex_i x0, ex_i x1, ex_r x2, ex_i x3, ex_i x4, ex_i x5, ex_i x6, ex_j x7, ex_i x8, ex_i x9, ex_r x10, ex_r x11, ex_r x12, ex_r x13, ex_r x14, ex_r x15, ex_r x16, ex_r x17, ex_r x18, ex_r x19, ex_r x20, ex_r x21, ex_r x22, ex_r x23, ex_r x24, ex_r x25, ex_i x26, ex_i x27, ex_r x28, ex_r x29, ex_r x30, ex_r x31, ex_r x32, ex_r x33, ex_r x34, ex_r x35, ex_r x36, ex_r x37, ex_r x38, ex_r x39, ex_i x40, ex_j x41, ex_r x42, ex_r x43, ex_r x44, ex_r x45, ex_r x46, ex_r x47, ex_r x48, ex_r x49, ex_r x50, ex_r x51, ex_r x52, ex_r x53, ex_i x54, ex_i x55, ex_i x56, ex_i x57, ex_r x58, ex_r x59, ex_r x60, ex_r x61, ex_i x62, ex_r x63, ex_r x64, ex_i x65, ex_j x66]), (x10, ex_a 1 10 ho), (x13, ex_a 1 12 zk), (x17, ex_a 1 12 zf), (x18, ex_a 1 12 ze), (x21, ex_a 1 10 zo), (x48, ex_a 1 21 s)]) [0, 1, 3, 4, 5, 6, 2] (show List.Perm [0, 1, 3, 4, 5, 6, 2] (List.range 7) from by decide) rfl ?_
        refine X_lv (lv' := [(3, ex_i (nI (k2 + 1))), (0, ex_r m), (1, ex_i (nI tu)), (2, ex_i (nI d))]) [0, 2, 3, 4] rfl ?_
        exact ihc2 (k2 + 1) ⟨hL2, (show (k2 + 1) ≤ np by omega)⟩ (show np - (k2 + 1) < np - k2 by omega)
      · have hL2 := hL2.trans (if_pos c_3)
        refine X_iload (j := 0) dX12_nextEater_43 rfl ?_
        try dsimp only at hL2
        refine X_re (cs' := [(m, ex_o 12 [ex_i x0, ex_i x1, ex_r x2, ex_i x3, ex_i x4, ex_i x5, ex_i x6, ex_j x7, ex_i x8, ex_i x9, ex_r x10, ex_r x11, ex_r x12, ex_r x13, ex_r x14, ex_r x15, ex_r x16, ex_r x17, ex_r x18, ex_r x19, ex_r x20, ex_r x21, ex_r x22, ex_r x23, ex_r x24, ex_r x25, ex_i x26, ex_i x27, ex_r x28, ex_r x29, ex_r x30, ex_r x31, ex_r x32, ex_r x33, ex_r x34, ex_r x35, ex_r x36, ex_r x37, ex_r x38, ex_r x39, ex_i x40, ex_j x41, ex_r x42, ex_r x43, ex_r x44, ex_r x45, ex_r x46, ex_r x47, ex_r x48, ex_r x49, ex_r x50, ex_r x51, ex_r x52, ex_r x53, ex_i x54, ex_i x55, ex_i x56, ex_i x57, ex_r x58, ex_r x59, ex_r x60, ex_r x61, ex_i x62, ex_r x63, ex_r x64, ex_i x65, ex_j x66]), (x10, ex_a 1 10 ho), (x13, ex_a 1 12 zk), (x17, ex_a 1 12 zf), (x18, ex_a 1 12 ze), (x21, ex_a 1 10 zo), (x48, ex_a 1 21 s)]) [0, 1, 3, 4, 5, 6, 2] (show List.Perm [0, 1, 3, 4, 5, 6, 2] (List.range 7) from by decide) rfl ?_
        exact X_iret ex_nI rfl dX12_nextEater_45 (by (repeat refine ex_kc ?_) <;> rfl) (by subst hL2; exact ⟨rfl, rfl⟩)

theorem nE_L {tu d np : Nat} {ho zk zf ze zo s : Nat → Int32} (hn : np ≤ 6) : ∀ (n k : Nat), k + n = np → ∀ v, v = F_X12_nextEater_L2 np tu d ho zk zf ze zo s n k → v = -1 ∨ (v = nI v.toNatClampNeg ∧ v.toNatClampNeg < np)
  | 0, _, _, v, h => Or.inl h
  | n + 1, k, hk, v, h => by
    rw [F_X12_nextEater_L2_s] at h
    have hm : (tu + k) % np < np := Nat.mod_lt _ (by omega)
    split at h
    · exact nE_L hn n (k + 1) (by omega) v h
    · split at h
      · refine Or.inr ?_
        rw [h, nI_clamp (by omega)]
        exact ⟨rfl, hm⟩
      · exact nE_L hn n (k + 1) (by omega) v h
theorem nE_of {np tu d : Nat} {ho zk zf ze zo s : Nat → Int32} (hn : np ≤ 6) : F_X12_nextEater np tu d ho zk zf ze zo s = -1 ∨ (F_X12_nextEater np tu d ho zk zf ze zo s = nI (F_X12_nextEater np tu d ho zk zf ze zo s).toNatClampNeg ∧ (F_X12_nextEater np tu d ho zk zf ze zo s).toNatClampNeg < np) := nE_L hn (np - 0) 0 (by omega) _ rfl
theorem nE_p {np tu d : Nat} {ho zk zf ze zo s : Nat → Int32} (hn : np ≤ 6) (h : ¬ F_X12_nextEater np tu d ho zk zf ze zo s < 0) : F_X12_nextEater np tu d ho zk zf ze zo s = nI (F_X12_nextEater np tu d ho zk zf ze zo s).toNatClampNeg ∧ (F_X12_nextEater np tu d ho zk zf ze zo s).toNatClampNeg < np := (nE_of hn).resolve_left fun q => h (by rw [q]; decide)
theorem nE_n {np tu d : Nat} {ho zk zf ze zo s : Nat → Int32} (hn : np ≤ 6) (h : F_X12_nextEater np tu d ho zk zf ze zo s < 0) : F_X12_nextEater np tu d ho zk zf ze zo s + 1 = nI 0 := by
  rcases nE_of (np := np) (tu := tu) (d := d) (ho := ho) (zk := zk) (zf := zf) (ze := ze) (zo := zo) (s := s) hn with q | q
  · rw [q]
    decide
  · rw [q.1] at h
    exact absurd h (nI_pos (by have := q.2; omega))
