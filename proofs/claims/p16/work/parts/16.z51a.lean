def F_X12_isPerson (np : Nat) (p : Int32) : Int32 := (if p < 0 then 0 else (if (nI np) ≤ p then 0 else 1))
set_option maxHeartbeats 4000000 in
set_option maxRecDepth 100000 in
theorem e_X12_isPerson (l : Launch) (np : Nat) (m : Nat) (p : Int32) (x0 : Int32) (x1 : Int32) (x2 : Nat) (x3 : Int32) (x4 : Int32) (x5 : Int32) (x6 : Int32) (x7 : Int64) (x8 : Int32) (x9 : Int32) (x10 : Nat) (x11 : Nat) (x12 : Nat) (x13 : Nat) (x14 : Nat) (x15 : Nat) (x16 : Nat) (x17 : Nat) (x18 : Nat) (x19 : Nat) (x20 : Nat) (x21 : Nat) (x22 : Nat) (x23 : Nat) (x24 : Nat) (x25 : Nat) (x26 : Int32) (x27 : Int32) (x28 : Nat) (x29 : Nat) (x30 : Nat) (x31 : Nat) (x32 : Nat) (x33 : Nat) (x34 : Nat) (x35 : Nat) (x36 : Nat) (x37 : Nat) (x38 : Nat) (x39 : Nat) (x40 : Int32) (x41 : Int64) (x42 : Nat) (x43 : Nat) (x44 : Nat) (x45 : Nat) (x46 : Nat) (x47 : Nat) (x48 : Nat) (x49 : Nat) (x50 : Nat) (x51 : Nat) (x52 : Nat) (x53 : Nat) (x54 : Int32) (x55 : Int32) (x56 : Int32) (x57 : Int32) (x58 : Nat) (x59 : Nat) (x60 : Nat) (x61 : Nat) (x62 : Int32) (x63 : Nat) (x64 : Nat) (x65 : Int32) (x66 : Int64) (ho : Nat → Int32) (hho0 : ho 0 = nI np) : ex_M l yX12_isPerson cX12_isPerson 2 (some .boolean) 0 0 [ex_r m, ex_i p] [(m, ex_o 12 [ex_i x0, ex_i x1, ex_r x2, ex_i x3, ex_i x4, ex_i x5, ex_i x6, ex_j x7, ex_i x8, ex_i x9, ex_r x10, ex_r x11, ex_r x12, ex_r x13, ex_r x14, ex_r x15, ex_r x16, ex_r x17, ex_r x18, ex_r x19, ex_r x20, ex_r x21, ex_r x22, ex_r x23, ex_r x24, ex_r x25, ex_i x26, ex_i x27, ex_r x28, ex_r x29, ex_r x30, ex_r x31, ex_r x32, ex_r x33, ex_r x34, ex_r x35, ex_r x36, ex_r x37, ex_r x38, ex_r x39, ex_i x40, ex_j x41, ex_r x42, ex_r x43, ex_r x44, ex_r x45, ex_r x46, ex_r x47, ex_r x48, ex_r x49, ex_r x50, ex_r x51, ex_r x52, ex_r x53, ex_i x54, ex_i x55, ex_i x56, ex_i x57, ex_r x58, ex_r x59, ex_r x60, ex_r x61, ex_i x62, ex_r x63, ex_r x64, ex_i x65, ex_j x66]), (x10, ex_a 1 10 ho)] (fun zcs zr => zcs = [(m, ex_o 12 [ex_i x0, ex_i x1, ex_r x2, ex_i x3, ex_i x4, ex_i x5, ex_i x6, ex_j x7, ex_i x8, ex_i x9, ex_r x10, ex_r x11, ex_r x12, ex_r x13, ex_r x14, ex_r x15, ex_r x16, ex_r x17, ex_r x18, ex_r x19, ex_r x20, ex_r x21, ex_r x22, ex_r x23, ex_r x24, ex_r x25, ex_i x26, ex_i x27, ex_r x28, ex_r x29, ex_r x30, ex_r x31, ex_r x32, ex_r x33, ex_r x34, ex_r x35, ex_r x36, ex_r x37, ex_r x38, ex_r x39, ex_i x40, ex_j x41, ex_r x42, ex_r x43, ex_r x44, ex_r x45, ex_r x46, ex_r x47, ex_r x48, ex_r x49, ex_r x50, ex_r x51, ex_r x52, ex_r x53, ex_i x54, ex_i x55, ex_i x56, ex_i x57, ex_r x58, ex_r x59, ex_r x60, ex_r x61, ex_i x62, ex_r x63, ex_r x64, ex_i x65, ex_j x66]), (x10, ex_a 1 10 ho)] ∧ zr = some (ex_i (F_X12_isPerson np p))) := by
  refine X_meth (by decide) (Nat.le_of_ble_eq_true rfl) ?_
  generalize hV : F_X12_isPerson np p = V0
  have hV := hV.symm
  unfold F_X12_isPerson at hV
  try dsimp only at hV
  refine X_iload_n (j := 1) dX12_isPerson_0 rfl rfl ?_
  refine X_if_lt (tgt := 18) dX12_isPerson_1 (by decide) (fun c_1 => ?_) (fun c_1 => ?_)
  · have hV := hV.trans (if_pos c_1)
    refine X_iconst (v := 0) dX12_isPerson_18 (by decide) ?_
    try dsimp only at hV
    exact X_iret ex_nZ rfl dX12_isPerson_19 (by (repeat refine ex_kc ?_) <;> rfl) (by subst hV; exact ⟨rfl, rfl⟩)
  · have hV := hV.trans (if_neg c_1)
    refine X_iload_n (j := 1) dX12_isPerson_4 rfl rfl ?_
    refine X_aload_n (j := 0) dX12_isPerson_5 rfl rfl ?_
    refine X_get (j := 0) fo_X12_13 dX12_isPerson_6 rfl rfl ?_
    refine X_iconst (v := 0) dX12_isPerson_9 (by decide) ?_
    refine X_iald (j := 1) (v := nI np) dX12_isPerson_10 rfl (vin (by decide)) hho0 ?_
    refine X_icmp_ge (tgt := 18) dX12_isPerson_11 (by decide) (fun c_2 => ?_) (fun c_2 => ?_)
    · have hV := hV.trans (if_pos c_2)
      refine X_iconst (v := 0) dX12_isPerson_18 (by decide) ?_
      try dsimp only at hV
      exact X_iret ex_nZ rfl dX12_isPerson_19 (by (repeat refine ex_kc ?_) <;> rfl) (by subst hV; exact ⟨rfl, rfl⟩)
    · have hV := hV.trans (if_neg c_2)
      refine X_iconst (v := 1) dX12_isPerson_14 (by decide) ?_
      refine X_goto (tgt := 19) dX12_isPerson_15 (by decide) ?_
      try dsimp only at hV
      exact X_iret ex_nZ rfl dX12_isPerson_19 (by (repeat refine ex_kc ?_) <;> rfl) (by subst hV; exact ⟨rfl, rfl⟩)
theorem F_X12_isPerson_b (np : Nat) (p : Int32) : F_X12_isPerson np p = 0 ∨ F_X12_isPerson np p = 1 := by
  unfold F_X12_isPerson
  repeat' split
  all_goals first | exact Or.inl rfl | exact Or.inr rfl

def F_X12_isDish (nd : Nat) (p : Int32) : Int32 := (if p < 0 then 0 else (if (nI nd) ≤ p then 0 else 1))
set_option maxHeartbeats 4000000 in
set_option maxRecDepth 100000 in
theorem e_X12_isDish (l : Launch) (nd : Nat) (m : Nat) (p : Int32) (x0 : Int32) (x1 : Int32) (x2 : Nat) (x3 : Int32) (x4 : Int32) (x5 : Int32) (x6 : Int32) (x7 : Int64) (x8 : Int32) (x9 : Int32) (x10 : Nat) (x11 : Nat) (x12 : Nat) (x13 : Nat) (x14 : Nat) (x15 : Nat) (x16 : Nat) (x17 : Nat) (x18 : Nat) (x19 : Nat) (x20 : Nat) (x21 : Nat) (x22 : Nat) (x23 : Nat) (x24 : Nat) (x25 : Nat) (x26 : Int32) (x27 : Int32) (x28 : Nat) (x29 : Nat) (x30 : Nat) (x31 : Nat) (x32 : Nat) (x33 : Nat) (x34 : Nat) (x35 : Nat) (x36 : Nat) (x37 : Nat) (x38 : Nat) (x39 : Nat) (x40 : Int32) (x41 : Int64) (x42 : Nat) (x43 : Nat) (x44 : Nat) (x45 : Nat) (x46 : Nat) (x47 : Nat) (x48 : Nat) (x49 : Nat) (x50 : Nat) (x51 : Nat) (x52 : Nat) (x53 : Nat) (x54 : Int32) (x55 : Int32) (x56 : Int32) (x57 : Int32) (x58 : Nat) (x59 : Nat) (x60 : Nat) (x61 : Nat) (x62 : Int32) (x63 : Nat) (x64 : Nat) (x65 : Int32) (x66 : Int64) (ho : Nat → Int32) (hho1 : ho 1 = nI nd) : ex_M l yX12_isDish cX12_isDish 2 (some .boolean) 0 0 [ex_r m, ex_i p] [(m, ex_o 12 [ex_i x0, ex_i x1, ex_r x2, ex_i x3, ex_i x4, ex_i x5, ex_i x6, ex_j x7, ex_i x8, ex_i x9, ex_r x10, ex_r x11, ex_r x12, ex_r x13, ex_r x14, ex_r x15, ex_r x16, ex_r x17, ex_r x18, ex_r x19, ex_r x20, ex_r x21, ex_r x22, ex_r x23, ex_r x24, ex_r x25, ex_i x26, ex_i x27, ex_r x28, ex_r x29, ex_r x30, ex_r x31, ex_r x32, ex_r x33, ex_r x34, ex_r x35, ex_r x36, ex_r x37, ex_r x38, ex_r x39, ex_i x40, ex_j x41, ex_r x42, ex_r x43, ex_r x44, ex_r x45, ex_r x46, ex_r x47, ex_r x48, ex_r x49, ex_r x50, ex_r x51, ex_r x52, ex_r x53, ex_i x54, ex_i x55, ex_i x56, ex_i x57, ex_r x58, ex_r x59, ex_r x60, ex_r x61, ex_i x62, ex_r x63, ex_r x64, ex_i x65, ex_j x66]), (x10, ex_a 1 10 ho)] (fun zcs zr => zcs = [(m, ex_o 12 [ex_i x0, ex_i x1, ex_r x2, ex_i x3, ex_i x4, ex_i x5, ex_i x6, ex_j x7, ex_i x8, ex_i x9, ex_r x10, ex_r x11, ex_r x12, ex_r x13, ex_r x14, ex_r x15, ex_r x16, ex_r x17, ex_r x18, ex_r x19, ex_r x20, ex_r x21, ex_r x22, ex_r x23, ex_r x24, ex_r x25, ex_i x26, ex_i x27, ex_r x28, ex_r x29, ex_r x30, ex_r x31, ex_r x32, ex_r x33, ex_r x34, ex_r x35, ex_r x36, ex_r x37, ex_r x38, ex_r x39, ex_i x40, ex_j x41, ex_r x42, ex_r x43, ex_r x44, ex_r x45, ex_r x46, ex_r x47, ex_r x48, ex_r x49, ex_r x50, ex_r x51, ex_r x52, ex_r x53, ex_i x54, ex_i x55, ex_i x56, ex_i x57, ex_r x58, ex_r x59, ex_r x60, ex_r x61, ex_i x62, ex_r x63, ex_r x64, ex_i x65, ex_j x66]), (x10, ex_a 1 10 ho)] ∧ zr = some (ex_i (F_X12_isDish nd p))) := by
  refine X_meth (by decide) (Nat.le_of_ble_eq_true rfl) ?_
  generalize hV : F_X12_isDish nd p = V0
  have hV := hV.symm
  unfold F_X12_isDish at hV
  try dsimp only at hV
  refine X_iload_n (j := 1) dX12_isDish_0 rfl rfl ?_
  refine X_if_lt (tgt := 18) dX12_isDish_1 (by decide) (fun c_1 => ?_) (fun c_1 => ?_)
  · have hV := hV.trans (if_pos c_1)
    refine X_iconst (v := 0) dX12_isDish_18 (by decide) ?_
    try dsimp only at hV
    exact X_iret ex_nZ rfl dX12_isDish_19 (by (repeat refine ex_kc ?_) <;> rfl) (by subst hV; exact ⟨rfl, rfl⟩)
  · have hV := hV.trans (if_neg c_1)
    refine X_iload_n (j := 1) dX12_isDish_4 rfl rfl ?_
    refine X_aload_n (j := 0) dX12_isDish_5 rfl rfl ?_
    refine X_get (j := 0) fo_X12_13 dX12_isDish_6 rfl rfl ?_
    refine X_iconst (v := 1) dX12_isDish_9 (by decide) ?_
    refine X_iald (j := 1) (v := nI nd) dX12_isDish_10 rfl (vin (by decide)) hho1 ?_
    refine X_icmp_ge (tgt := 18) dX12_isDish_11 (by decide) (fun c_2 => ?_) (fun c_2 => ?_)
    · have hV := hV.trans (if_pos c_2)
      refine X_iconst (v := 0) dX12_isDish_18 (by decide) ?_
      try dsimp only at hV
      exact X_iret ex_nZ rfl dX12_isDish_19 (by (repeat refine ex_kc ?_) <;> rfl) (by subst hV; exact ⟨rfl, rfl⟩)
    · have hV := hV.trans (if_neg c_2)
      refine X_iconst (v := 1) dX12_isDish_14 (by decide) ?_
      refine X_goto (tgt := 19) dX12_isDish_15 (by decide) ?_
      try dsimp only at hV
      exact X_iret ex_nZ rfl dX12_isDish_19 (by (repeat refine ex_kc ?_) <;> rfl) (by subst hV; exact ⟨rfl, rfl⟩)
theorem F_X12_isDish_b (nd : Nat) (p : Int32) : F_X12_isDish nd p = 0 ∨ F_X12_isDish nd p = 1 := by
  unfold F_X12_isDish
  repeat' split
  all_goals first | exact Or.inl rfl | exact Or.inr rfl

theorem rPe_of {p : Int32} {np : Nat} (h : ¬ F_X12_isPerson np p = 0) (hn : np ≤ 6) : p = nI p.toNatClampNeg ∧ p.toNatClampNeg < np := by
  unfold F_X12_isPerson at h
  by_cases c : p < 0
  · rw [if_pos c] at h
    exact absurd rfl h
  · rw [if_neg c] at h
    by_cases c2 : nI np ≤ p
    · rw [if_pos c2] at h
      exact absurd rfl h
    · exact ⟨nI_ofc c, nI_ofl c (by omega) c2⟩
theorem rDi_of {p : Int32} {nd : Nat} (h : ¬ F_X12_isDish nd p = 0) (hn : nd ≤ 5) : p = nI p.toNatClampNeg ∧ p.toNatClampNeg < nd := rPe_of (np := nd) h (by omega)
theorem wi_of {v lo hi : Int32} (h : ¬ F_X12_within_f v lo hi = 0) : ¬ v < lo ∧ ¬ hi < v := by
  unfold F_X12_within_f at h
  by_cases c : v < lo
  · rw [if_pos c] at h
    exact absurd rfl h
  · rw [if_neg c] at h
    by_cases c2 : hi < v
    · rw [if_pos c2] at h
      exact absurd rfl h
    · exact ⟨c, c2⟩

def F_X12_isSick (p : Nat) (zf : Nat → Int32) (ze : Nat → Int32) (s : Nat → Int32) : Int32 := (F_X12_within_f (s 0) (zf p) (ze p))
set_option maxHeartbeats 4000000 in
set_option maxRecDepth 100000 in
theorem e_X12_isSick (l : Launch) (m : Nat) (p : Nat) (x0 : Int32) (x1 : Int32) (x2 : Nat) (x3 : Int32) (x4 : Int32) (x5 : Int32) (x6 : Int32) (x7 : Int64) (x8 : Int32) (x9 : Int32) (x10 : Nat) (x11 : Nat) (x12 : Nat) (x13 : Nat) (x14 : Nat) (x15 : Nat) (x16 : Nat) (x17 : Nat) (x18 : Nat) (x19 : Nat) (x20 : Nat) (x21 : Nat) (x22 : Nat) (x23 : Nat) (x24 : Nat) (x25 : Nat) (x26 : Int32) (x27 : Int32) (x28 : Nat) (x29 : Nat) (x30 : Nat) (x31 : Nat) (x32 : Nat) (x33 : Nat) (x34 : Nat) (x35 : Nat) (x36 : Nat) (x37 : Nat) (x38 : Nat) (x39 : Nat) (x40 : Int32) (x41 : Int64) (x42 : Nat) (x43 : Nat) (x44 : Nat) (x45 : Nat) (x46 : Nat) (x47 : Nat) (x48 : Nat) (x49 : Nat) (x50 : Nat) (x51 : Nat) (x52 : Nat) (x53 : Nat) (x54 : Int32) (x55 : Int32) (x56 : Int32) (x57 : Int32) (x58 : Nat) (x59 : Nat) (x60 : Nat) (x61 : Nat) (x62 : Int32) (x63 : Nat) (x64 : Nat) (x65 : Int32) (x66 : Int64) (zf : Nat → Int32) (ze : Nat → Int32) (s : Nat → Int32) (hp : p < 6) : ex_M l yX12_isSick cX12_isSick 2 (some .boolean) 1 22 [ex_r m, ex_i (nI p)] [(m, ex_o 12 [ex_i x0, ex_i x1, ex_r x2, ex_i x3, ex_i x4, ex_i x5, ex_i x6, ex_j x7, ex_i x8, ex_i x9, ex_r x10, ex_r x11, ex_r x12, ex_r x13, ex_r x14, ex_r x15, ex_r x16, ex_r x17, ex_r x18, ex_r x19, ex_r x20, ex_r x21, ex_r x22, ex_r x23, ex_r x24, ex_r x25, ex_i x26, ex_i x27, ex_r x28, ex_r x29, ex_r x30, ex_r x31, ex_r x32, ex_r x33, ex_r x34, ex_r x35, ex_r x36, ex_r x37, ex_r x38, ex_r x39, ex_i x40, ex_j x41, ex_r x42, ex_r x43, ex_r x44, ex_r x45, ex_r x46, ex_r x47, ex_r x48, ex_r x49, ex_r x50, ex_r x51, ex_r x52, ex_r x53, ex_i x54, ex_i x55, ex_i x56, ex_i x57, ex_r x58, ex_r x59, ex_r x60, ex_r x61, ex_i x62, ex_r x63, ex_r x64, ex_i x65, ex_j x66]), (x17, ex_a 1 12 zf), (x18, ex_a 1 12 ze), (x48, ex_a 1 21 s)] (fun zcs zr => zcs = [(m, ex_o 12 [ex_i x0, ex_i x1, ex_r x2, ex_i x3, ex_i x4, ex_i x5, ex_i x6, ex_j x7, ex_i x8, ex_i x9, ex_r x10, ex_r x11, ex_r x12, ex_r x13, ex_r x14, ex_r x15, ex_r x16, ex_r x17, ex_r x18, ex_r x19, ex_r x20, ex_r x21, ex_r x22, ex_r x23, ex_r x24, ex_r x25, ex_i x26, ex_i x27, ex_r x28, ex_r x29, ex_r x30, ex_r x31, ex_r x32, ex_r x33, ex_r x34, ex_r x35, ex_r x36, ex_r x37, ex_r x38, ex_r x39, ex_i x40, ex_j x41, ex_r x42, ex_r x43, ex_r x44, ex_r x45, ex_r x46, ex_r x47, ex_r x48, ex_r x49, ex_r x50, ex_r x51, ex_r x52, ex_r x53, ex_i x54, ex_i x55, ex_i x56, ex_i x57, ex_r x58, ex_r x59, ex_r x60, ex_r x61, ex_i x62, ex_r x63, ex_r x64, ex_i x65, ex_j x66]), (x17, ex_a 1 12 zf), (x18, ex_a 1 12 ze), (x48, ex_a 1 21 s)] ∧ zr = some (ex_i (F_X12_isSick p zf ze s))) := by
  refine X_meth (by decide) (Nat.le_of_ble_eq_true rfl) ?_
  generalize hV : F_X12_isSick p zf ze s = V0
  have hV := hV.symm
  unfold F_X12_isSick at hV
  try dsimp only at hV
  refine X_aload_n (j := 0) dX12_isSick_0 rfl rfl ?_
  refine X_get (j := 0) fo_X12_117 dX12_isSick_1 rfl rfl ?_
  refine X_iconst (v := 0) dX12_isSick_4 (by decide) ?_
  refine X_iald (j := 3) (v := (s 0)) dX12_isSick_5 rfl (vin (by decide)) rfl ?_
  refine X_aload_n (j := 0) dX12_isSick_6 rfl rfl ?_
  refine X_get (j := 0) fo_X12_35 dX12_isSick_7 rfl rfl ?_
  refine X_iload_n (j := 1) dX12_isSick_10 rfl rfl ?_
  refine X_iald (j := 1) (v := (zf p)) dX12_isSick_11 rfl (vp_in_nI (show p < 12 by omega) (by decide)) (by rw [nI_clamp (by omega)]) ?_
  refine X_aload_n (j := 0) dX12_isSick_12 rfl rfl ?_
  refine X_get (j := 0) fo_X12_38 dX12_isSick_13 rfl rfl ?_
  refine X_iload_n (j := 1) dX12_isSick_16 rfl rfl ?_
  refine X_iald (j := 2) (v := (ze p)) dX12_isSick_17 rfl (vp_in_nI (show p < 12 by omega) (by decide)) (by rw [nI_clamp (by omega)]) ?_
  refine X_callS (rest := [(m, ex_o 12 [ex_i x0, ex_i x1, ex_r x2, ex_i x3, ex_i x4, ex_i x5, ex_i x6, ex_j x7, ex_i x8, ex_i x9, ex_r x10, ex_r x11, ex_r x12, ex_r x13, ex_r x14, ex_r x15, ex_r x16, ex_r x17, ex_r x18, ex_r x19, ex_r x20, ex_r x21, ex_r x22, ex_r x23, ex_r x24, ex_r x25, ex_i x26, ex_i x27, ex_r x28, ex_r x29, ex_r x30, ex_r x31, ex_r x32, ex_r x33, ex_r x34, ex_r x35, ex_r x36, ex_r x37, ex_r x38, ex_r x39, ex_i x40, ex_j x41, ex_r x42, ex_r x43, ex_r x44, ex_r x45, ex_r x46, ex_r x47, ex_r x48, ex_r x49, ex_r x50, ex_r x51, ex_r x52, ex_r x53, ex_i x54, ex_i x55, ex_i x56, ex_i x57, ex_r x58, ex_r x59, ex_r x60, ex_r x61, ex_i x62, ex_r x63, ex_r x64, ex_i x65, ex_j x66]), (x17, ex_a 1 12 zf), (x18, ex_a 1 12 ze), (x48, ex_a 1 21 s)]) (stk := []) co_X12_293 rfl ⟨(Nat.le_of_ble_eq_true rfl), (Nat.le_of_ble_eq_true rfl)⟩ (e_X12_within_f l (s 0) (zf p) (ze p)) dX12_isSick_18 [0, 1, 2, 3] (show List.Perm [0, 1, 2, 3] (List.range 4) from by decide) rfl rfl rfl (Nat.le_of_ble_eq_true rfl) (fun zc1 zr hq hk => ?_)
  obtain ⟨rfl, rfl⟩ := hq
  try dsimp only at hV
  exact X_iret ex_nZ (ex_nb (F_X12_within_f_b ..)) dX12_isSick_21 (by (repeat refine ex_kc ?_) <;> rfl) (by subst hV; exact ⟨rfl, rfl⟩)
theorem F_X12_isSick_b (p : Nat) (zf : Nat → Int32) (ze : Nat → Int32) (s : Nat → Int32) : F_X12_isSick p zf ze s = 0 ∨ F_X12_isSick p zf ze s = 1 := by
  unfold F_X12_isSick
  exact F_X12_within_f_b ..

def F_X12_sitting_L4 (zf : Nat → Int32) (ze : Nat → Int32) (s : Nat → Int32) : Nat → Nat → Int32 → Int32
  | 0, k4, s4_0 => s4_0
  | zn + 1, k4, s4_0 => (if (F_X12_isSick k4 zf ze s) = 0 then F_X12_sitting_L4 zf ze s zn (k4 + 1) (s4_0 ||| (1 <<< ((nI k4) &&& 31))) else F_X12_sitting_L4 zf ze s zn (k4 + 1) (s4_0 ||| 0))
theorem F_X12_sitting_L4_z (zf : Nat → Int32) (ze : Nat → Int32) (s : Nat → Int32) (k4 : Nat) (s4_0 : Int32) : F_X12_sitting_L4 zf ze s 0 k4 s4_0 = s4_0 := rfl
theorem F_X12_sitting_L4_s (zf : Nat → Int32) (ze : Nat → Int32) (s : Nat → Int32) (k4 : Nat) (s4_0 : Int32) (zn : Nat) : F_X12_sitting_L4 zf ze s (zn + 1) k4 s4_0 = (if (F_X12_isSick k4 zf ze s) = 0 then F_X12_sitting_L4 zf ze s zn (k4 + 1) (s4_0 ||| (1 <<< ((nI k4) &&& 31))) else F_X12_sitting_L4 zf ze s zn (k4 + 1) (s4_0 ||| 0)) := rfl
def F_X12_sitting (np : Nat) (zf : Nat → Int32) (ze : Nat → Int32) (s : Nat → Int32) : Int32 := ((fun (v_1 : Int32) => v_1) (F_X12_sitting_L4 zf ze s (np - 0) 0 0))
set_option maxHeartbeats 4000000 in
set_option maxRecDepth 100000 in
theorem e_X12_sitting (l : Launch) (np : Nat) (m : Nat) (x0 : Int32) (x1 : Int32) (x2 : Nat) (x3 : Int32) (x4 : Int32) (x5 : Int32) (x6 : Int32) (x7 : Int64) (x8 : Int32) (x9 : Int32) (x10 : Nat) (x11 : Nat) (x12 : Nat) (x13 : Nat) (x14 : Nat) (x15 : Nat) (x16 : Nat) (x17 : Nat) (x18 : Nat) (x19 : Nat) (x20 : Nat) (x21 : Nat) (x22 : Nat) (x23 : Nat) (x24 : Nat) (x25 : Nat) (x26 : Int32) (x27 : Int32) (x28 : Nat) (x29 : Nat) (x30 : Nat) (x31 : Nat) (x32 : Nat) (x33 : Nat) (x34 : Nat) (x35 : Nat) (x36 : Nat) (x37 : Nat) (x38 : Nat) (x39 : Nat) (x40 : Int32) (x41 : Int64) (x42 : Nat) (x43 : Nat) (x44 : Nat) (x45 : Nat) (x46 : Nat) (x47 : Nat) (x48 : Nat) (x49 : Nat) (x50 : Nat) (x51 : Nat) (x52 : Nat) (x53 : Nat) (x54 : Int32) (x55 : Int32) (x56 : Int32) (x57 : Int32) (x58 : Nat) (x59 : Nat) (x60 : Nat) (x61 : Nat) (x62 : Int32) (x63 : Nat) (x64 : Nat) (x65 : Int32) (x66 : Int64) (ho : Nat → Int32) (zf : Nat → Int32) (ze : Nat → Int32) (s : Nat → Int32) (hho0 : ho 0 = nI np) (hnp : np ≤ 6) : ex_M l yX12_sitting cX12_sitting 3 (some .int) 2 43 [ex_r m] [(m, ex_o 12 [ex_i x0, ex_i x1, ex_r x2, ex_i x3, ex_i x4, ex_i x5, ex_i x6, ex_j x7, ex_i x8, ex_i x9, ex_r x10, ex_r x11, ex_r x12, ex_r x13, ex_r x14, ex_r x15, ex_r x16, ex_r x17, ex_r x18, ex_r x19, ex_r x20, ex_r x21, ex_r x22, ex_r x23, ex_r x24, ex_r x25, ex_i x26, ex_i x27, ex_r x28, ex_r x29, ex_r x30, ex_r x31, ex_r x32, ex_r x33, ex_r x34, ex_r x35, ex_r x36, ex_r x37, ex_r x38, ex_r x39, ex_i x40, ex_j x41, ex_r x42, ex_r x43, ex_r x44, ex_r x45, ex_r x46, ex_r x47, ex_r x48, ex_r x49, ex_r x50, ex_r x51, ex_r x52, ex_r x53, ex_i x54, ex_i x55, ex_i x56, ex_i x57, ex_r x58, ex_r x59, ex_r x60, ex_r x61, ex_i x62, ex_r x63, ex_r x64, ex_i x65, ex_j x66]), (x10, ex_a 1 10 ho), (x17, ex_a 1 12 zf), (x18, ex_a 1 12 ze), (x48, ex_a 1 21 s)] (fun zcs zr => zcs = [(m, ex_o 12 [ex_i x0, ex_i x1, ex_r x2, ex_i x3, ex_i x4, ex_i x5, ex_i x6, ex_j x7, ex_i x8, ex_i x9, ex_r x10, ex_r x11, ex_r x12, ex_r x13, ex_r x14, ex_r x15, ex_r x16, ex_r x17, ex_r x18, ex_r x19, ex_r x20, ex_r x21, ex_r x22, ex_r x23, ex_r x24, ex_r x25, ex_i x26, ex_i x27, ex_r x28, ex_r x29, ex_r x30, ex_r x31, ex_r x32, ex_r x33, ex_r x34, ex_r x35, ex_r x36, ex_r x37, ex_r x38, ex_r x39, ex_i x40, ex_j x41, ex_r x42, ex_r x43, ex_r x44, ex_r x45, ex_r x46, ex_r x47, ex_r x48, ex_r x49, ex_r x50, ex_r x51, ex_r x52, ex_r x53, ex_i x54, ex_i x55, ex_i x56, ex_i x57, ex_r x58, ex_r x59, ex_r x60, ex_r x61, ex_i x62, ex_r x63, ex_r x64, ex_i x65, ex_j x66]), (x10, ex_a 1 10 ho), (x17, ex_a 1 12 zf), (x18, ex_a 1 12 ze), (x48, ex_a 1 21 s)] ∧ zr = some (ex_i (F_X12_sitting np zf ze s))) := by
  refine X_meth (by decide) (Nat.le_of_ble_eq_true rfl) ?_
  generalize hV : F_X12_sitting np zf ze s = V0
  have hV := hV.symm
  unfold F_X12_sitting at hV
  try dsimp only at hV
  refine X_iconst (v := 0) dX12_sitting_0 (by decide) ?_
  refine X_istore_n (lv' := [(1, ex_i 0), (0, ex_r m)]) dX12_sitting_1 rfl (Nat.le_of_ble_eq_true rfl) rfl ?_
  refine X_iconst (v := 0) dX12_sitting_2 (by decide) ?_
  refine X_istore_n (lv' := [(2, ex_i 0), (1, ex_i 0), (0, ex_r m)]) dX12_sitting_3 rfl (Nat.le_of_ble_eq_true rfl) rfl ?_
  -- loop at 4
  try dsimp only at hV
  generalize hq_v_1 : F_X12_sitting_L4 zf ze s (np - 0) 0 0 = v_1 at hV
  try dsimp only at hV
  refine X_cut (P := True) (csE := [(m, ex_o 12 [ex_i x0, ex_i x1, ex_r x2, ex_i x3, ex_i x4, ex_i x5, ex_i x6, ex_j x7, ex_i x8, ex_i x9, ex_r x10, ex_r x11, ex_r x12, ex_r x13, ex_r x14, ex_r x15, ex_r x16, ex_r x17, ex_r x18, ex_r x19, ex_r x20, ex_r x21, ex_r x22, ex_r x23, ex_r x24, ex_r x25, ex_i x26, ex_i x27, ex_r x28, ex_r x29, ex_r x30, ex_r x31, ex_r x32, ex_r x33, ex_r x34, ex_r x35, ex_r x36, ex_r x37, ex_r x38, ex_r x39, ex_i x40, ex_j x41, ex_r x42, ex_r x43, ex_r x44, ex_r x45, ex_r x46, ex_r x47, ex_r x48, ex_r x49, ex_r x50, ex_r x51, ex_r x52, ex_r x53, ex_i x54, ex_i x55, ex_i x56, ex_i x57, ex_r x58, ex_r x59, ex_r x60, ex_r x61, ex_i x62, ex_r x63, ex_r x64, ex_i x65, ex_j x66]), (x10, ex_a 1 10 ho), (x17, ex_a 1 12 zf), (x18, ex_a 1 12 ze), (x48, ex_a 1 21 s)]) (lvE := [(1, ex_i v_1), (0, ex_r m)]) (E := 38) (fun hrest4 => ?_) (fun hPX4 => ?_)
  · have hL4 := hq_v_1.symm
    refine X_ind (fun (a4 : Nat × Int32) => v_1 = F_X12_sitting_L4 zf ze s (np - a4.1) a4.1 a4.2 ∧ a4.1 ≤ np) (fun (a4 : Nat × Int32) => np - a4.1) (fun (a4 : Nat × Int32) => [(m, ex_o 12 [ex_i x0, ex_i x1, ex_r x2, ex_i x3, ex_i x4, ex_i x5, ex_i x6, ex_j x7, ex_i x8, ex_i x9, ex_r x10, ex_r x11, ex_r x12, ex_r x13, ex_r x14, ex_r x15, ex_r x16, ex_r x17, ex_r x18, ex_r x19, ex_r x20, ex_r x21, ex_r x22, ex_r x23, ex_r x24, ex_r x25, ex_i x26, ex_i x27, ex_r x28, ex_r x29, ex_r x30, ex_r x31, ex_r x32, ex_r x33, ex_r x34, ex_r x35, ex_r x36, ex_r x37, ex_r x38, ex_r x39, ex_i x40, ex_j x41, ex_r x42, ex_r x43, ex_r x44, ex_r x45, ex_r x46, ex_r x47, ex_r x48, ex_r x49, ex_r x50, ex_r x51, ex_r x52, ex_r x53, ex_i x54, ex_i x55, ex_i x56, ex_i x57, ex_r x58, ex_r x59, ex_r x60, ex_r x61, ex_i x62, ex_r x63, ex_r x64, ex_i x65, ex_j x66]), (x10, ex_a 1 10 ho), (x17, ex_a 1 12 zf), (x18, ex_a 1 12 ze), (x48, ex_a 1 21 s)]) (fun (a4 : Nat × Int32) => [(2, ex_i (nI a4.1)), (1, ex_i a4.2), (0, ex_r m)]) (fun ⟨k4, s4_0⟩ hI4 ih4 => ?_) (0, 0) ⟨hL4, (by omega)⟩
    try dsimp only at hI4 ih4 ⊢
    have ihc4 : ∀ (k4_ : Nat) (s4_0_ : Int32), (v_1 = F_X12_sitting_L4 zf ze s (np - k4_) k4_ s4_0_ ∧ k4_ ≤ np) → (np - k4_) < (np - k4) → ex_O _ _ _ _ _ _ _ _ _ [(m, ex_o 12 [ex_i x0, ex_i x1, ex_r x2, ex_i x3, ex_i x4, ex_i x5, ex_i x6, ex_j x7, ex_i x8, ex_i x9, ex_r x10, ex_r x11, ex_r x12, ex_r x13, ex_r x14, ex_r x15, ex_r x16, ex_r x17, ex_r x18, ex_r x19, ex_r x20, ex_r x21, ex_r x22, ex_r x23, ex_r x24, ex_r x25, ex_i x26, ex_i x27, ex_r x28, ex_r x29, ex_r x30, ex_r x31, ex_r x32, ex_r x33, ex_r x34, ex_r x35, ex_r x36, ex_r x37, ex_r x38, ex_r x39, ex_i x40, ex_j x41, ex_r x42, ex_r x43, ex_r x44, ex_r x45, ex_r x46, ex_r x47, ex_r x48, ex_r x49, ex_r x50, ex_r x51, ex_r x52, ex_r x53, ex_i x54, ex_i x55, ex_i x56, ex_i x57, ex_r x58, ex_r x59, ex_r x60, ex_r x61, ex_i x62, ex_r x63, ex_r x64, ex_i x65, ex_j x66]), (x10, ex_a 1 10 ho), (x17, ex_a 1 12 zf), (x18, ex_a 1 12 ze), (x48, ex_a 1 21 s)] [(2, ex_i (nI k4_)), (1, ex_i s4_0_), (0, ex_r m)] _ _ := fun k4_ s4_0_ hi_ hm_ => ih4 (k4_, s4_0_) hi_ hm_
    have hL4 := hI4.1
    have hb4 := hI4.2
    refine X_iload_n (j := 0) dX12_sitting_4 rfl rfl ?_
    refine X_aload_n (j := 2) dX12_sitting_5 rfl rfl ?_
    refine X_get (j := 0) fo_X12_13 dX12_sitting_6 rfl rfl ?_
    refine X_iconst (v := 0) dX12_sitting_9 (by decide) ?_
    refine X_iald (j := 1) (v := nI np) dX12_sitting_10 rfl (vin (by decide)) hho0 ?_
    refine X_icmp_ge (tgt := 38) dX12_sitting_11 (by decide) (fun c_2 => ?_) (fun c_2 => ?_)
    · have hlt4 : k4 = np := nlex (L := np) (by omega) hb4 c_2
      rw [show np - k4 = 0 by omega] at hL4
      have hL4 := hL4.trans (F_X12_sitting_L4_z ..)
      try dsimp only at hL4
      refine X_lv (lv' := [(1, ex_i s4_0), (0, ex_r m)]) [1, 2] rfl ?_
      refine X_eq (cs' := [(m, ex_o 12 [ex_i x0, ex_i x1, ex_r x2, ex_i x3, ex_i x4, ex_i x5, ex_i x6, ex_j x7, ex_i x8, ex_i x9, ex_r x10, ex_r x11, ex_r x12, ex_r x13, ex_r x14, ex_r x15, ex_r x16, ex_r x17, ex_r x18, ex_r x19, ex_r x20, ex_r x21, ex_r x22, ex_r x23, ex_r x24, ex_r x25, ex_i x26, ex_i x27, ex_r x28, ex_r x29, ex_r x30, ex_r x31, ex_r x32, ex_r x33, ex_r x34, ex_r x35, ex_r x36, ex_r x37, ex_r x38, ex_r x39, ex_i x40, ex_j x41, ex_r x42, ex_r x43, ex_r x44, ex_r x45, ex_r x46, ex_r x47, ex_r x48, ex_r x49, ex_r x50, ex_r x51, ex_r x52, ex_r x53, ex_i x54, ex_i x55, ex_i x56, ex_i x57, ex_r x58, ex_r x59, ex_r x60, ex_r x61, ex_i x62, ex_r x63, ex_r x64, ex_i x65, ex_j x66]), (x10, ex_a 1 10 ho), (x17, ex_a 1 12 zf), (x18, ex_a 1 12 ze), (x48, ex_a 1 21 s)]) (lv' := [(1, ex_i v_1), (0, ex_r m)]) (by subst hL4; rfl) (by subst hL4; rfl) ?_
      exact hrest4 trivial
    · have hlt4 : k4 < np := nlen (L := np) (by omega) hb4 c_2
      rw [show np - k4 = (np - (k4 + 1)) + 1 by omega] at hL4
      have hL4 := hL4.trans (F_X12_sitting_L4_s ..)
      refine X_iload_n (j := 1) dX12_sitting_14 rfl rfl ?_
      refine X_aload_n (j := 2) dX12_sitting_15 rfl rfl ?_
      refine X_iload_n (j := 0) dX12_sitting_16 rfl rfl ?_
      refine X_callV (j0 := 0) (rest := [(x10, ex_a 1 10 ho)]) (stk := [ex_i s4_0]) co_X12_395 rfl ⟨(Nat.le_of_ble_eq_true rfl), (Nat.le_of_ble_eq_true rfl)⟩ (e_X12_isSick l m k4 x0 x1 x2 x3 x4 x5 x6 x7 x8 x9 x10 x11 x12 x13 x14 x15 x16 x17 x18 x19 x20 x21 x22 x23 x24 x25 x26 x27 x28 x29 x30 x31 x32 x33 x34 x35 x36 x37 x38 x39 x40 x41 x42 x43 x44 x45 x46 x47 x48 x49 x50 x51 x52 x53 x54 x55 x56 x57 x58 x59 x60 x61 x62 x63 x64 x65 x66 zf ze s (by first | assumption | omega)) dX12_sitting_17 [0, 2, 3, 4, 1] (show List.Perm [0, 2, 3, 4, 1] (List.range 5) from by decide) rfl rfl rfl rfl (Nat.le_of_ble_eq_true rfl) (fun zc1 zr hq hk => ?_)
      obtain ⟨rfl, rfl⟩ := hq
      refine X_if_eq (tgt := 27) dX12_sitting_20 (by decide) (fun c_3 => ?_) (fun c_3 => ?_)
      · have hL4 := hL4.trans (if_pos c_3)
        refine X_iconst (v := 1) dX12_sitting_27 (by decide) ?_
        refine X_iload_n (j := 0) dX12_sitting_28 rfl rfl ?_
        refine X_ishl (v := (1 <<< ((nI k4) &&& 31))) dX12_sitting_29 rfl ?_
        refine X_ior (v := (s4_0 ||| (1 <<< ((nI k4) &&& 31)))) dX12_sitting_30 rfl ?_
        refine X_istore_n (lv' := [(1, ex_i (s4_0 ||| (1 <<< ((nI k4) &&& 31)))), (2, ex_i (nI k4)), (0, ex_r m)]) dX12_sitting_31 rfl (Nat.le_of_ble_eq_true rfl) rfl ?_
        refine X_iinc (v := nI (k4 + 1)) (j := 1) (lv' := [(2, ex_i (nI (k4 + 1))), (1, ex_i (s4_0 ||| (1 <<< ((nI k4) &&& 31)))), (0, ex_r m)]) dX12_sitting_32 rfl (nI_add k4 1) (Nat.le_of_ble_eq_true rfl) rfl ?_
        refine X_goto (tgt := 4) dX12_sitting_35 (by decide) ?_
        try dsimp only at hL4
        refine X_re (cs' := [(m, ex_o 12 [ex_i x0, ex_i x1, ex_r x2, ex_i x3, ex_i x4, ex_i x5, ex_i x6, ex_j x7, ex_i x8, ex_i x9, ex_r x10, ex_r x11, ex_r x12, ex_r x13, ex_r x14, ex_r x15, ex_r x16, ex_r x17, ex_r x18, ex_r x19, ex_r x20, ex_r x21, ex_r x22, ex_r x23, ex_r x24, ex_r x25, ex_i x26, ex_i x27, ex_r x28, ex_r x29, ex_r x30, ex_r x31, ex_r x32, ex_r x33, ex_r x34, ex_r x35, ex_r x36, ex_r x37, ex_r x38, ex_r x39, ex_i x40, ex_j x41, ex_r x42, ex_r x43, ex_r x44, ex_r x45, ex_r x46, ex_r x47, ex_r x48, ex_r x49, ex_r x50, ex_r x51, ex_r x52, ex_r x53, ex_i x54, ex_i x55, ex_i x56, ex_i x57, ex_r x58, ex_r x59, ex_r x60, ex_r x61, ex_i x62, ex_r x63, ex_r x64, ex_i x65, ex_j x66]), (x10, ex_a 1 10 ho), (x17, ex_a 1 12 zf), (x18, ex_a 1 12 ze), (x48, ex_a 1 21 s)]) [0, 4, 1, 2, 3] (show List.Perm [0, 4, 1, 2, 3] (List.range 5) from by decide) rfl ?_
        exact ihc4 (k4 + 1) (s4_0 ||| (1 <<< ((nI k4) &&& 31))) ⟨hL4, (show (k4 + 1) ≤ np by omega)⟩ (show np - (k4 + 1) < np - k4 by omega)
      · have hL4 := hL4.trans (if_neg c_3)
        refine X_iconst (v := 0) dX12_sitting_23 (by decide) ?_
        refine X_goto (tgt := 30) dX12_sitting_24 (by decide) ?_
        refine X_ior (v := (s4_0 ||| 0)) dX12_sitting_30 rfl ?_
        refine X_istore_n (lv' := [(1, ex_i (s4_0 ||| 0)), (2, ex_i (nI k4)), (0, ex_r m)]) dX12_sitting_31 rfl (Nat.le_of_ble_eq_true rfl) rfl ?_
        refine X_iinc (v := nI (k4 + 1)) (j := 1) (lv' := [(2, ex_i (nI (k4 + 1))), (1, ex_i (s4_0 ||| 0)), (0, ex_r m)]) dX12_sitting_32 rfl (nI_add k4 1) (Nat.le_of_ble_eq_true rfl) rfl ?_
        refine X_goto (tgt := 4) dX12_sitting_35 (by decide) ?_
        try dsimp only at hL4
        refine X_re (cs' := [(m, ex_o 12 [ex_i x0, ex_i x1, ex_r x2, ex_i x3, ex_i x4, ex_i x5, ex_i x6, ex_j x7, ex_i x8, ex_i x9, ex_r x10, ex_r x11, ex_r x12, ex_r x13, ex_r x14, ex_r x15, ex_r x16, ex_r x17, ex_r x18, ex_r x19, ex_r x20, ex_r x21, ex_r x22, ex_r x23, ex_r x24, ex_r x25, ex_i x26, ex_i x27, ex_r x28, ex_r x29, ex_r x30, ex_r x31, ex_r x32, ex_r x33, ex_r x34, ex_r x35, ex_r x36, ex_r x37, ex_r x38, ex_r x39, ex_i x40, ex_j x41, ex_r x42, ex_r x43, ex_r x44, ex_r x45, ex_r x46, ex_r x47, ex_r x48, ex_r x49, ex_r x50, ex_r x51, ex_r x52, ex_r x53, ex_i x54, ex_i x55, ex_i x56, ex_i x57, ex_r x58, ex_r x59, ex_r x60, ex_r x61, ex_i x62, ex_r x63, ex_r x64, ex_i x65, ex_j x66]), (x10, ex_a 1 10 ho), (x17, ex_a 1 12 zf), (x18, ex_a 1 12 ze), (x48, ex_a 1 21 s)]) [0, 4, 1, 2, 3] (show List.Perm [0, 4, 1, 2, 3] (List.range 5) from by decide) rfl ?_
        exact ihc4 (k4 + 1) (s4_0 ||| 0) ⟨hL4, (show (k4 + 1) ≤ np by omega)⟩ (show np - (k4 + 1) < np - k4 by omega)
  refine X_iload_n (j := 0) dX12_sitting_38 rfl rfl ?_
  try dsimp only at hV
  exact X_iret ex_nI rfl dX12_sitting_39 (by (repeat refine ex_kc ?_) <;> rfl) (by subst hV; exact ⟨rfl, rfl⟩)

def F_X12_costOf (p : Nat) (d : Nat) (zk : Nat → Int32) (zo : Nat → Int32) : Int32 := (if (zk p) = 1 then (2 * (zo d)) else (zo d))
set_option maxHeartbeats 4000000 in
set_option maxRecDepth 100000 in
theorem e_X12_costOf (l : Launch) (m : Nat) (p : Nat) (d : Nat) (x0 : Int32) (x1 : Int32) (x2 : Nat) (x3 : Int32) (x4 : Int32) (x5 : Int32) (x6 : Int32) (x7 : Int64) (x8 : Int32) (x9 : Int32) (x10 : Nat) (x11 : Nat) (x12 : Nat) (x13 : Nat) (x14 : Nat) (x15 : Nat) (x16 : Nat) (x17 : Nat) (x18 : Nat) (x19 : Nat) (x20 : Nat) (x21 : Nat) (x22 : Nat) (x23 : Nat) (x24 : Nat) (x25 : Nat) (x26 : Int32) (x27 : Int32) (x28 : Nat) (x29 : Nat) (x30 : Nat) (x31 : Nat) (x32 : Nat) (x33 : Nat) (x34 : Nat) (x35 : Nat) (x36 : Nat) (x37 : Nat) (x38 : Nat) (x39 : Nat) (x40 : Int32) (x41 : Int64) (x42 : Nat) (x43 : Nat) (x44 : Nat) (x45 : Nat) (x46 : Nat) (x47 : Nat) (x48 : Nat) (x49 : Nat) (x50 : Nat) (x51 : Nat) (x52 : Nat) (x53 : Nat) (x54 : Int32) (x55 : Int32) (x56 : Int32) (x57 : Int32) (x58 : Nat) (x59 : Nat) (x60 : Nat) (x61 : Nat) (x62 : Int32) (x63 : Nat) (x64 : Nat) (x65 : Int32) (x66 : Int64) (zk : Nat → Int32) (zo : Nat → Int32) (hp : p < 6) (hd : d < 5) : ex_M l yX12_costOf cX12_costOf 3 (some .int) 0 0 [ex_r m, ex_i (nI p), ex_i (nI d)] [(m, ex_o 12 [ex_i x0, ex_i x1, ex_r x2, ex_i x3, ex_i x4, ex_i x5, ex_i x6, ex_j x7, ex_i x8, ex_i x9, ex_r x10, ex_r x11, ex_r x12, ex_r x13, ex_r x14, ex_r x15, ex_r x16, ex_r x17, ex_r x18, ex_r x19, ex_r x20, ex_r x21, ex_r x22, ex_r x23, ex_r x24, ex_r x25, ex_i x26, ex_i x27, ex_r x28, ex_r x29, ex_r x30, ex_r x31, ex_r x32, ex_r x33, ex_r x34, ex_r x35, ex_r x36, ex_r x37, ex_r x38, ex_r x39, ex_i x40, ex_j x41, ex_r x42, ex_r x43, ex_r x44, ex_r x45, ex_r x46, ex_r x47, ex_r x48, ex_r x49, ex_r x50, ex_r x51, ex_r x52, ex_r x53, ex_i x54, ex_i x55, ex_i x56, ex_i x57, ex_r x58, ex_r x59, ex_r x60, ex_r x61, ex_i x62, ex_r x63, ex_r x64, ex_i x65, ex_j x66]), (x13, ex_a 1 12 zk), (x21, ex_a 1 10 zo)] (fun zcs zr => zcs = [(m, ex_o 12 [ex_i x0, ex_i x1, ex_r x2, ex_i x3, ex_i x4, ex_i x5, ex_i x6, ex_j x7, ex_i x8, ex_i x9, ex_r x10, ex_r x11, ex_r x12, ex_r x13, ex_r x14, ex_r x15, ex_r x16, ex_r x17, ex_r x18, ex_r x19, ex_r x20, ex_r x21, ex_r x22, ex_r x23, ex_r x24, ex_r x25, ex_i x26, ex_i x27, ex_r x28, ex_r x29, ex_r x30, ex_r x31, ex_r x32, ex_r x33, ex_r x34, ex_r x35, ex_r x36, ex_r x37, ex_r x38, ex_r x39, ex_i x40, ex_j x41, ex_r x42, ex_r x43, ex_r x44, ex_r x45, ex_r x46, ex_r x47, ex_r x48, ex_r x49, ex_r x50, ex_r x51, ex_r x52, ex_r x53, ex_i x54, ex_i x55, ex_i x56, ex_i x57, ex_r x58, ex_r x59, ex_r x60, ex_r x61, ex_i x62, ex_r x63, ex_r x64, ex_i x65, ex_j x66]), (x13, ex_a 1 12 zk), (x21, ex_a 1 10 zo)] ∧ zr = some (ex_i (F_X12_costOf p d zk zo))) := by
  refine X_meth (by decide) (Nat.le_of_ble_eq_true rfl) ?_
  generalize hV : F_X12_costOf p d zk zo = V0
  have hV := hV.symm
  unfold F_X12_costOf at hV
  try dsimp only at hV
  refine X_aload_n (j := 0) dX12_costOf_0 rfl rfl ?_
  refine X_get (j := 0) fo_X12_23 dX12_costOf_1 rfl rfl ?_
  refine X_iload_n (j := 1) dX12_costOf_4 rfl rfl ?_
  refine X_iald (j := 1) (v := (zk p)) dX12_costOf_5 rfl (vp_in_nI (show p < 12 by omega) (by decide)) (by rw [nI_clamp (by omega)]) ?_
  refine X_iconst (v := 1) dX12_costOf_6 (by decide) ?_
  refine X_icmp_ne (tgt := 21) dX12_costOf_7 (by decide) (fun c_1 => ?_) (fun c_1 => ?_)
  · have hV := hV.trans (if_neg c_1)
    refine X_aload_n (j := 0) dX12_costOf_21 rfl rfl ?_
    refine X_get (j := 0) fo_X12_47 dX12_costOf_22 rfl rfl ?_
    refine X_iload_n (j := 2) dX12_costOf_25 rfl rfl ?_
    refine X_iald (j := 2) (v := (zo d)) dX12_costOf_26 rfl (vp_in_nI (show d < 10 by omega) (by decide)) (by rw [nI_clamp (by omega)]) ?_
    try dsimp only at hV
    exact X_iret ex_nI rfl dX12_costOf_27 (by (repeat refine ex_kc ?_) <;> rfl) (by subst hV; exact ⟨rfl, rfl⟩)
  · have hV := hV.trans (if_pos c_1)
    refine X_iconst (v := 2) dX12_costOf_10 (by decide) ?_
    refine X_aload_n (j := 0) dX12_costOf_11 rfl rfl ?_
    refine X_get (j := 0) fo_X12_47 dX12_costOf_12 rfl rfl ?_
    refine X_iload_n (j := 2) dX12_costOf_15 rfl rfl ?_
    refine X_iald (j := 2) (v := (zo d)) dX12_costOf_16 rfl (vp_in_nI (show d < 10 by omega) (by decide)) (by rw [nI_clamp (by omega)]) ?_
    refine X_imul (v := (2 * (zo d))) dX12_costOf_17 rfl ?_
    refine X_goto (tgt := 27) dX12_costOf_18 (by decide) ?_
    try dsimp only at hV
    exact X_iret ex_nI rfl dX12_costOf_27 (by (repeat refine ex_kc ?_) <;> rfl) (by subst hV; exact ⟨rfl, rfl⟩)

def F_X12_canEat (p : Nat) (d : Nat) (zk : Nat → Int32) (zf : Nat → Int32) (ze : Nat → Int32) (zo : Nat → Int32) (s : Nat → Int32) : Int32 := (if (F_X12_isSick p zf ze s) = 0 then (if (s 1) < (F_X12_costOf p d zk zo) then 0 else 1) else 0)
set_option maxHeartbeats 4000000 in
set_option maxRecDepth 100000 in
theorem e_X12_canEat (l : Launch) (m : Nat) (p : Nat) (d : Nat) (x0 : Int32) (x1 : Int32) (x2 : Nat) (x3 : Int32) (x4 : Int32) (x5 : Int32) (x6 : Int32) (x7 : Int64) (x8 : Int32) (x9 : Int32) (x10 : Nat) (x11 : Nat) (x12 : Nat) (x13 : Nat) (x14 : Nat) (x15 : Nat) (x16 : Nat) (x17 : Nat) (x18 : Nat) (x19 : Nat) (x20 : Nat) (x21 : Nat) (x22 : Nat) (x23 : Nat) (x24 : Nat) (x25 : Nat) (x26 : Int32) (x27 : Int32) (x28 : Nat) (x29 : Nat) (x30 : Nat) (x31 : Nat) (x32 : Nat) (x33 : Nat) (x34 : Nat) (x35 : Nat) (x36 : Nat) (x37 : Nat) (x38 : Nat) (x39 : Nat) (x40 : Int32) (x41 : Int64) (x42 : Nat) (x43 : Nat) (x44 : Nat) (x45 : Nat) (x46 : Nat) (x47 : Nat) (x48 : Nat) (x49 : Nat) (x50 : Nat) (x51 : Nat) (x52 : Nat) (x53 : Nat) (x54 : Int32) (x55 : Int32) (x56 : Int32) (x57 : Int32) (x58 : Nat) (x59 : Nat) (x60 : Nat) (x61 : Nat) (x62 : Int32) (x63 : Nat) (x64 : Nat) (x65 : Int32) (x66 : Int64) (zk : Nat → Int32) (zf : Nat → Int32) (ze : Nat → Int32) (zo : Nat → Int32) (s : Nat → Int32) (hp : p < 6) (hd : d < 5) : ex_M l yX12_canEat cX12_canEat 3 (some .boolean) 2 43 [ex_r m, ex_i (nI p), ex_i (nI d)] [(m, ex_o 12 [ex_i x0, ex_i x1, ex_r x2, ex_i x3, ex_i x4, ex_i x5, ex_i x6, ex_j x7, ex_i x8, ex_i x9, ex_r x10, ex_r x11, ex_r x12, ex_r x13, ex_r x14, ex_r x15, ex_r x16, ex_r x17, ex_r x18, ex_r x19, ex_r x20, ex_r x21, ex_r x22, ex_r x23, ex_r x24, ex_r x25, ex_i x26, ex_i x27, ex_r x28, ex_r x29, ex_r x30, ex_r x31, ex_r x32, ex_r x33, ex_r x34, ex_r x35, ex_r x36, ex_r x37, ex_r x38, ex_r x39, ex_i x40, ex_j x41, ex_r x42, ex_r x43, ex_r x44, ex_r x45, ex_r x46, ex_r x47, ex_r x48, ex_r x49, ex_r x50, ex_r x51, ex_r x52, ex_r x53, ex_i x54, ex_i x55, ex_i x56, ex_i x57, ex_r x58, ex_r x59, ex_r x60, ex_r x61, ex_i x62, ex_r x63, ex_r x64, ex_i x65, ex_j x66]), (x13, ex_a 1 12 zk), (x17, ex_a 1 12 zf), (x18, ex_a 1 12 ze), (x21, ex_a 1 10 zo), (x48, ex_a 1 21 s)] (fun zcs zr => zcs = [(m, ex_o 12 [ex_i x0, ex_i x1, ex_r x2, ex_i x3, ex_i x4, ex_i x5, ex_i x6, ex_j x7, ex_i x8, ex_i x9, ex_r x10, ex_r x11, ex_r x12, ex_r x13, ex_r x14, ex_r x15, ex_r x16, ex_r x17, ex_r x18, ex_r x19, ex_r x20, ex_r x21, ex_r x22, ex_r x23, ex_r x24, ex_r x25, ex_i x26, ex_i x27, ex_r x28, ex_r x29, ex_r x30, ex_r x31, ex_r x32, ex_r x33, ex_r x34, ex_r x35, ex_r x36, ex_r x37, ex_r x38, ex_r x39, ex_i x40, ex_j x41, ex_r x42, ex_r x43, ex_r x44, ex_r x45, ex_r x46, ex_r x47, ex_r x48, ex_r x49, ex_r x50, ex_r x51, ex_r x52, ex_r x53, ex_i x54, ex_i x55, ex_i x56, ex_i x57, ex_r x58, ex_r x59, ex_r x60, ex_r x61, ex_i x62, ex_r x63, ex_r x64, ex_i x65, ex_j x66]), (x13, ex_a 1 12 zk), (x17, ex_a 1 12 zf), (x18, ex_a 1 12 ze), (x21, ex_a 1 10 zo), (x48, ex_a 1 21 s)] ∧ zr = some (ex_i (F_X12_canEat p d zk zf ze zo s))) := by
  refine X_meth (by decide) (Nat.le_of_ble_eq_true rfl) ?_
  generalize hV : F_X12_canEat p d zk zf ze zo s = V0
  have hV := hV.symm
  unfold F_X12_canEat at hV
  try dsimp only at hV
  refine X_aload_n (j := 0) dX12_canEat_0 rfl rfl ?_
  refine X_iload_n (j := 1) dX12_canEat_1 rfl rfl ?_
  refine X_callV (j0 := 0) (rest := [(x13, ex_a 1 12 zk), (x21, ex_a 1 10 zo)]) (stk := []) co_X12_395 rfl ⟨(Nat.le_of_ble_eq_true rfl), (Nat.le_of_ble_eq_true rfl)⟩ (e_X12_isSick l m p x0 x1 x2 x3 x4 x5 x6 x7 x8 x9 x10 x11 x12 x13 x14 x15 x16 x17 x18 x19 x20 x21 x22 x23 x24 x25 x26 x27 x28 x29 x30 x31 x32 x33 x34 x35 x36 x37 x38 x39 x40 x41 x42 x43 x44 x45 x46 x47 x48 x49 x50 x51 x52 x53 x54 x55 x56 x57 x58 x59 x60 x61 x62 x63 x64 x65 x66 zf ze s (by first | assumption | omega)) dX12_canEat_2 [0, 2, 3, 5, 1, 4] (show List.Perm [0, 2, 3, 5, 1, 4] (List.range 6) from by decide) rfl rfl rfl rfl (Nat.le_of_ble_eq_true rfl) (fun zc1 zr hq hk => ?_)
  obtain ⟨rfl, rfl⟩ := hq
  refine X_if_ne (tgt := 27) dX12_canEat_5 (by decide) (fun c_1 => ?_) (fun c_1 => ?_)
  · have hV := hV.trans (if_neg c_1)
    refine X_iconst (v := 0) dX12_canEat_27 (by decide) ?_
    try dsimp only at hV
    refine X_re (cs' := [(m, ex_o 12 [ex_i x0, ex_i x1, ex_r x2, ex_i x3, ex_i x4, ex_i x5, ex_i x6, ex_j x7, ex_i x8, ex_i x9, ex_r x10, ex_r x11, ex_r x12, ex_r x13, ex_r x14, ex_r x15, ex_r x16, ex_r x17, ex_r x18, ex_r x19, ex_r x20, ex_r x21, ex_r x22, ex_r x23, ex_r x24, ex_r x25, ex_i x26, ex_i x27, ex_r x28, ex_r x29, ex_r x30, ex_r x31, ex_r x32, ex_r x33, ex_r x34, ex_r x35, ex_r x36, ex_r x37, ex_r x38, ex_r x39, ex_i x40, ex_j x41, ex_r x42, ex_r x43, ex_r x44, ex_r x45, ex_r x46, ex_r x47, ex_r x48, ex_r x49, ex_r x50, ex_r x51, ex_r x52, ex_r x53, ex_i x54, ex_i x55, ex_i x56, ex_i x57, ex_r x58, ex_r x59, ex_r x60, ex_r x61, ex_i x62, ex_r x63, ex_r x64, ex_i x65, ex_j x66]), (x13, ex_a 1 12 zk), (x17, ex_a 1 12 zf), (x18, ex_a 1 12 ze), (x21, ex_a 1 10 zo), (x48, ex_a 1 21 s)]) [0, 4, 1, 2, 5, 3] (show List.Perm [0, 4, 1, 2, 5, 3] (List.range 6) from by decide) rfl ?_
    exact X_iret ex_nZ rfl dX12_canEat_28 (by (repeat refine ex_kc ?_) <;> rfl) (by subst hV; exact ⟨rfl, rfl⟩)
  · have hV := hV.trans (if_pos c_1)
    refine X_aload_n (j := 0) dX12_canEat_8 rfl rfl ?_
    refine X_get (j := 0) fo_X12_117 dX12_canEat_9 rfl rfl ?_
    refine X_iconst (v := 1) dX12_canEat_12 (by decide) ?_
    refine X_iald (j := 3) (v := (s 1)) dX12_canEat_13 rfl (vin (by decide)) rfl ?_
    refine X_aload_n (j := 0) dX12_canEat_14 rfl rfl ?_
    refine X_iload_n (j := 1) dX12_canEat_15 rfl rfl ?_
    refine X_iload_n (j := 2) dX12_canEat_16 rfl rfl ?_
    refine X_callV (j0 := 0) (rest := [(x17, ex_a 1 12 zf), (x18, ex_a 1 12 ze), (x48, ex_a 1 21 s)]) (stk := [ex_i (s 1)]) co_X12_398 rfl ⟨(Nat.le_of_ble_eq_true rfl), (Nat.le_of_ble_eq_true rfl)⟩ (e_X12_costOf l m p d x0 x1 x2 x3 x4 x5 x6 x7 x8 x9 x10 x11 x12 x13 x14 x15 x16 x17 x18 x19 x20 x21 x22 x23 x24 x25 x26 x27 x28 x29 x30 x31 x32 x33 x34 x35 x36 x37 x38 x39 x40 x41 x42 x43 x44 x45 x46 x47 x48 x49 x50 x51 x52 x53 x54 x55 x56 x57 x58 x59 x60 x61 x62 x63 x64 x65 x66 zk zo (by first | assumption | omega) (by first | assumption | omega)) dX12_canEat_17 [0, 4, 5, 1, 2, 3] (show List.Perm [0, 4, 5, 1, 2, 3] (List.range 6) from by decide) rfl rfl rfl rfl (Nat.le_of_ble_eq_true rfl) (fun zc1 zr hq hk => ?_)
    obtain ⟨rfl, rfl⟩ := hq
    refine X_icmp_lt (tgt := 27) dX12_canEat_20 (by decide) (fun c_2 => ?_) (fun c_2 => ?_)
    · have hV := hV.trans (if_pos c_2)
      refine X_iconst (v := 0) dX12_canEat_27 (by decide) ?_
      try dsimp only at hV
      refine X_re (cs' := [(m, ex_o 12 [ex_i x0, ex_i x1, ex_r x2, ex_i x3, ex_i x4, ex_i x5, ex_i x6, ex_j x7, ex_i x8, ex_i x9, ex_r x10, ex_r x11, ex_r x12, ex_r x13, ex_r x14, ex_r x15, ex_r x16, ex_r x17, ex_r x18, ex_r x19, ex_r x20, ex_r x21, ex_r x22, ex_r x23, ex_r x24, ex_r x25, ex_i x26, ex_i x27, ex_r x28, ex_r x29, ex_r x30, ex_r x31, ex_r x32, ex_r x33, ex_r x34, ex_r x35, ex_r x36, ex_r x37, ex_r x38, ex_r x39, ex_i x40, ex_j x41, ex_r x42, ex_r x43, ex_r x44, ex_r x45, ex_r x46, ex_r x47, ex_r x48, ex_r x49, ex_r x50, ex_r x51, ex_r x52, ex_r x53, ex_i x54, ex_i x55, ex_i x56, ex_i x57, ex_r x58, ex_r x59, ex_r x60, ex_r x61, ex_i x62, ex_r x63, ex_r x64, ex_i x65, ex_j x66]), (x13, ex_a 1 12 zk), (x17, ex_a 1 12 zf), (x18, ex_a 1 12 ze), (x21, ex_a 1 10 zo), (x48, ex_a 1 21 s)]) [0, 1, 3, 4, 2, 5] (show List.Perm [0, 1, 3, 4, 2, 5] (List.range 6) from by decide) rfl ?_
      exact X_iret ex_nZ rfl dX12_canEat_28 (by (repeat refine ex_kc ?_) <;> rfl) (by subst hV; exact ⟨rfl, rfl⟩)
    · have hV := hV.trans (if_neg c_2)
      refine X_iconst (v := 1) dX12_canEat_23 (by decide) ?_
      refine X_goto (tgt := 28) dX12_canEat_24 (by decide) ?_
      try dsimp only at hV
      refine X_re (cs' := [(m, ex_o 12 [ex_i x0, ex_i x1, ex_r x2, ex_i x3, ex_i x4, ex_i x5, ex_i x6, ex_j x7, ex_i x8, ex_i x9, ex_r x10, ex_r x11, ex_r x12, ex_r x13, ex_r x14, ex_r x15, ex_r x16, ex_r x17, ex_r x18, ex_r x19, ex_r x20, ex_r x21, ex_r x22, ex_r x23, ex_r x24, ex_r x25, ex_i x26, ex_i x27, ex_r x28, ex_r x29, ex_r x30, ex_r x31, ex_r x32, ex_r x33, ex_r x34, ex_r x35, ex_r x36, ex_r x37, ex_r x38, ex_r x39, ex_i x40, ex_j x41, ex_r x42, ex_r x43, ex_r x44, ex_r x45, ex_r x46, ex_r x47, ex_r x48, ex_r x49, ex_r x50, ex_r x51, ex_r x52, ex_r x53, ex_i x54, ex_i x55, ex_i x56, ex_i x57, ex_r x58, ex_r x59, ex_r x60, ex_r x61, ex_i x62, ex_r x63, ex_r x64, ex_i x65, ex_j x66]), (x13, ex_a 1 12 zk), (x17, ex_a 1 12 zf), (x18, ex_a 1 12 ze), (x21, ex_a 1 10 zo), (x48, ex_a 1 21 s)]) [0, 1, 3, 4, 2, 5] (show List.Perm [0, 1, 3, 4, 2, 5] (List.range 6) from by decide) rfl ?_
      exact X_iret ex_nZ rfl dX12_canEat_28 (by (repeat refine ex_kc ?_) <;> rfl) (by subst hV; exact ⟨rfl, rfl⟩)
theorem F_X12_canEat_b (p : Nat) (d : Nat) (zk : Nat → Int32) (zf : Nat → Int32) (ze : Nat → Int32) (zo : Nat → Int32) (s : Nat → Int32) : F_X12_canEat p d zk zf ze zo s = 0 ∨ F_X12_canEat p d zk zf ze zo s = 1 := by
  unfold F_X12_canEat
  repeat' split
  all_goals first | exact Or.inl rfl | exact Or.inr rfl

def F_X12_wouldBeIll (p : Nat) (ho : Nat → Int32) (s : Nat → Int32) : Int32 := (if (s (9 + p)) < 0 then 0 else (if (ho 4) < ((s 0) - (s (9 + p))) then 0 else 1))
set_option maxHeartbeats 4000000 in
set_option maxRecDepth 100000 in
theorem e_X12_wouldBeIll (l : Launch) (m : Nat) (p : Nat) (x0 : Int32) (x1 : Int32) (x2 : Nat) (x3 : Int32) (x4 : Int32) (x5 : Int32) (x6 : Int32) (x7 : Int64) (x8 : Int32) (x9 : Int32) (x10 : Nat) (x11 : Nat) (x12 : Nat) (x13 : Nat) (x14 : Nat) (x15 : Nat) (x16 : Nat) (x17 : Nat) (x18 : Nat) (x19 : Nat) (x20 : Nat) (x21 : Nat) (x22 : Nat) (x23 : Nat) (x24 : Nat) (x25 : Nat) (x26 : Int32) (x27 : Int32) (x28 : Nat) (x29 : Nat) (x30 : Nat) (x31 : Nat) (x32 : Nat) (x33 : Nat) (x34 : Nat) (x35 : Nat) (x36 : Nat) (x37 : Nat) (x38 : Nat) (x39 : Nat) (x40 : Int32) (x41 : Int64) (x42 : Nat) (x43 : Nat) (x44 : Nat) (x45 : Nat) (x46 : Nat) (x47 : Nat) (x48 : Nat) (x49 : Nat) (x50 : Nat) (x51 : Nat) (x52 : Nat) (x53 : Nat) (x54 : Int32) (x55 : Int32) (x56 : Int32) (x57 : Int32) (x58 : Nat) (x59 : Nat) (x60 : Nat) (x61 : Nat) (x62 : Int32) (x63 : Nat) (x64 : Nat) (x65 : Int32) (x66 : Int64) (ho : Nat → Int32) (s : Nat → Int32) (hp : p < 6) : ex_M l yX12_wouldBeIll cX12_wouldBeIll 2 (some .boolean) 0 0 [ex_r m, ex_i (nI p)] [(m, ex_o 12 [ex_i x0, ex_i x1, ex_r x2, ex_i x3, ex_i x4, ex_i x5, ex_i x6, ex_j x7, ex_i x8, ex_i x9, ex_r x10, ex_r x11, ex_r x12, ex_r x13, ex_r x14, ex_r x15, ex_r x16, ex_r x17, ex_r x18, ex_r x19, ex_r x20, ex_r x21, ex_r x22, ex_r x23, ex_r x24, ex_r x25, ex_i x26, ex_i x27, ex_r x28, ex_r x29, ex_r x30, ex_r x31, ex_r x32, ex_r x33, ex_r x34, ex_r x35, ex_r x36, ex_r x37, ex_r x38, ex_r x39, ex_i x40, ex_j x41, ex_r x42, ex_r x43, ex_r x44, ex_r x45, ex_r x46, ex_r x47, ex_r x48, ex_r x49, ex_r x50, ex_r x51, ex_r x52, ex_r x53, ex_i x54, ex_i x55, ex_i x56, ex_i x57, ex_r x58, ex_r x59, ex_r x60, ex_r x61, ex_i x62, ex_r x63, ex_r x64, ex_i x65, ex_j x66]), (x10, ex_a 1 10 ho), (x48, ex_a 1 21 s)] (fun zcs zr => zcs = [(m, ex_o 12 [ex_i x0, ex_i x1, ex_r x2, ex_i x3, ex_i x4, ex_i x5, ex_i x6, ex_j x7, ex_i x8, ex_i x9, ex_r x10, ex_r x11, ex_r x12, ex_r x13, ex_r x14, ex_r x15, ex_r x16, ex_r x17, ex_r x18, ex_r x19, ex_r x20, ex_r x21, ex_r x22, ex_r x23, ex_r x24, ex_r x25, ex_i x26, ex_i x27, ex_r x28, ex_r x29, ex_r x30, ex_r x31, ex_r x32, ex_r x33, ex_r x34, ex_r x35, ex_r x36, ex_r x37, ex_r x38, ex_r x39, ex_i x40, ex_j x41, ex_r x42, ex_r x43, ex_r x44, ex_r x45, ex_r x46, ex_r x47, ex_r x48, ex_r x49, ex_r x50, ex_r x51, ex_r x52, ex_r x53, ex_i x54, ex_i x55, ex_i x56, ex_i x57, ex_r x58, ex_r x59, ex_r x60, ex_r x61, ex_i x62, ex_r x63, ex_r x64, ex_i x65, ex_j x66]), (x10, ex_a 1 10 ho), (x48, ex_a 1 21 s)] ∧ zr = some (ex_i (F_X12_wouldBeIll p ho s))) := by
  refine X_meth (by decide) (Nat.le_of_ble_eq_true rfl) ?_
  generalize hV : F_X12_wouldBeIll p ho s = V0
  have hV := hV.symm
  unfold F_X12_wouldBeIll at hV
  try dsimp only at hV
  refine X_aload_n (j := 0) dX12_wouldBeIll_0 rfl rfl ?_
  refine X_get (j := 0) fo_X12_117 dX12_wouldBeIll_1 rfl rfl ?_
  refine X_bipush (v := 9) dX12_wouldBeIll_4 (by decide) ?_
  refine X_iload_n (j := 1) dX12_wouldBeIll_6 rfl rfl ?_
  refine X_iadd (v := nI (9 + p)) dX12_wouldBeIll_7 (nI_add 9 p) ?_
  refine X_iald (j := 2) (v := (s (9 + p))) dX12_wouldBeIll_8 rfl (vp_in_nI (show 9 + p < 21 by omega) (by decide)) (by rw [nI_clamp (by omega)]) ?_
  refine X_if_lt (tgt := 41) dX12_wouldBeIll_9 (by decide) (fun c_1 => ?_) (fun c_1 => ?_)
  · have hV := hV.trans (if_pos c_1)
    refine X_iconst (v := 0) dX12_wouldBeIll_41 (by decide) ?_
    try dsimp only at hV
    exact X_iret ex_nZ rfl dX12_wouldBeIll_42 (by (repeat refine ex_kc ?_) <;> rfl) (by subst hV; exact ⟨rfl, rfl⟩)
  · have hV := hV.trans (if_neg c_1)
    refine X_aload_n (j := 0) dX12_wouldBeIll_12 rfl rfl ?_
    refine X_get (j := 0) fo_X12_117 dX12_wouldBeIll_13 rfl rfl ?_
    refine X_iconst (v := 0) dX12_wouldBeIll_16 (by decide) ?_
    refine X_iald (j := 2) (v := (s 0)) dX12_wouldBeIll_17 rfl (vin (by decide)) rfl ?_
    refine X_aload_n (j := 0) dX12_wouldBeIll_18 rfl rfl ?_
    refine X_get (j := 0) fo_X12_117 dX12_wouldBeIll_19 rfl rfl ?_
    refine X_bipush (v := 9) dX12_wouldBeIll_22 (by decide) ?_
    refine X_iload_n (j := 1) dX12_wouldBeIll_24 rfl rfl ?_
    refine X_iadd (v := nI (9 + p)) dX12_wouldBeIll_25 (nI_add 9 p) ?_
    refine X_iald (j := 2) (v := (s (9 + p))) dX12_wouldBeIll_26 rfl (vp_in_nI (show 9 + p < 21 by omega) (by decide)) (by rw [nI_clamp (by omega)]) ?_
    refine X_isub (v := ((s 0) - (s (9 + p)))) dX12_wouldBeIll_27 rfl ?_
    refine X_aload_n (j := 0) dX12_wouldBeIll_28 rfl rfl ?_
    refine X_get (j := 0) fo_X12_13 dX12_wouldBeIll_29 rfl rfl ?_
    refine X_iconst (v := 4) dX12_wouldBeIll_32 (by decide) ?_
    refine X_iald (j := 1) (v := (ho 4)) dX12_wouldBeIll_33 rfl (vin (by decide)) rfl ?_
    refine X_icmp_gt (tgt := 41) dX12_wouldBeIll_34 (by decide) (fun c_2 => ?_) (fun c_2 => ?_)
    · have hV := hV.trans (if_pos c_2)
      refine X_iconst (v := 0) dX12_wouldBeIll_41 (by decide) ?_
      try dsimp only at hV
      exact X_iret ex_nZ rfl dX12_wouldBeIll_42 (by (repeat refine ex_kc ?_) <;> rfl) (by subst hV; exact ⟨rfl, rfl⟩)
    · have hV := hV.trans (if_neg c_2)
      refine X_iconst (v := 1) dX12_wouldBeIll_37 (by decide) ?_
      refine X_goto (tgt := 42) dX12_wouldBeIll_38 (by decide) ?_
      try dsimp only at hV
      exact X_iret ex_nZ rfl dX12_wouldBeIll_42 (by (repeat refine ex_kc ?_) <;> rfl) (by subst hV; exact ⟨rfl, rfl⟩)
theorem F_X12_wouldBeIll_b (p : Nat) (ho : Nat → Int32) (s : Nat → Int32) : F_X12_wouldBeIll p ho s = 0 ∨ F_X12_wouldBeIll p ho s = 1 := by
  unfold F_X12_wouldBeIll
  repeat' split
  all_goals first | exact Or.inl rfl | exact Or.inr rfl
