def F_X12_within_f (v : Int32) (lo : Int32) (hi : Int32) : Int32 := (if v < lo then 0 else (if hi < v then 0 else 1))
set_option maxHeartbeats 4000000 in
set_option maxRecDepth 100000 in
theorem e_X12_within_f (l : Launch) (v : Int32) (lo : Int32) (hi : Int32) : ex_M l yX12_within cX12_within 3 (some .boolean) 0 0 [ex_i v, ex_i lo, ex_i hi] [] (fun zcs zr => zcs = [] ∧ zr = some (ex_i (F_X12_within_f v lo hi))) := by
  refine X_meth (by decide) (Nat.le_of_ble_eq_true rfl) ?_
  generalize hV : F_X12_within_f v lo hi = V0
  have hV := hV.symm
  unfold F_X12_within_f at hV
  try dsimp only at hV
  refine X_iload_n (j := 0) dX12_within_0 rfl rfl ?_
  refine X_iload_n (j := 1) dX12_within_1 rfl rfl ?_
  refine X_icmp_lt (tgt := 14) dX12_within_2 (by decide) (fun c_1 => ?_) (fun c_1 => ?_)
  · have hV := hV.trans (if_pos c_1)
    refine X_iconst (v := 0) dX12_within_14 (by decide) ?_
    try dsimp only at hV
    exact X_iret ex_nZ rfl dX12_within_15 (by (repeat refine ex_kc ?_) <;> rfl) (by subst hV; exact ⟨rfl, rfl⟩)
  · have hV := hV.trans (if_neg c_1)
    refine X_iload_n (j := 0) dX12_within_5 rfl rfl ?_
    refine X_iload_n (j := 2) dX12_within_6 rfl rfl ?_
    refine X_icmp_gt (tgt := 14) dX12_within_7 (by decide) (fun c_2 => ?_) (fun c_2 => ?_)
    · have hV := hV.trans (if_pos c_2)
      refine X_iconst (v := 0) dX12_within_14 (by decide) ?_
      try dsimp only at hV
      exact X_iret ex_nZ rfl dX12_within_15 (by (repeat refine ex_kc ?_) <;> rfl) (by subst hV; exact ⟨rfl, rfl⟩)
    · have hV := hV.trans (if_neg c_2)
      refine X_iconst (v := 1) dX12_within_10 (by decide) ?_
      refine X_goto (tgt := 15) dX12_within_11 (by decide) ?_
      try dsimp only at hV
      exact X_iret ex_nZ rfl dX12_within_15 (by (repeat refine ex_kc ?_) <;> rfl) (by subst hV; exact ⟨rfl, rfl⟩)
theorem F_X12_within_f_b (v : Int32) (lo : Int32) (hi : Int32) : F_X12_within_f v lo hi = 0 ∨ F_X12_within_f v lo hi = 1 := by
  unfold F_X12_within_f
  repeat' split
  all_goals first | exact Or.inl rfl | exact Or.inr rfl

def F_X12_between (v : Int32) (lo : Int32) (hi : Int32) : Int32 := (if lo ≤ v then (if v ≤ hi then v else hi) else lo)
set_option maxHeartbeats 4000000 in
set_option maxRecDepth 100000 in
theorem e_X12_between (l : Launch) (v : Int32) (lo : Int32) (hi : Int32) : ex_M l yX12_between cX12_between 3 (some .int) 0 0 [ex_i v, ex_i lo, ex_i hi] [] (fun zcs zr => zcs = [] ∧ zr = some (ex_i (F_X12_between v lo hi))) := by
  refine X_meth (by decide) (Nat.le_of_ble_eq_true rfl) ?_
  generalize hV : F_X12_between v lo hi = V0
  have hV := hV.symm
  unfold F_X12_between at hV
  try dsimp only at hV
  refine X_iload_n (j := 0) dX12_between_0 rfl rfl ?_
  refine X_iload_n (j := 1) dX12_between_1 rfl rfl ?_
  refine X_icmp_ge (tgt := 9) dX12_between_2 (by decide) (fun c_1 => ?_) (fun c_1 => ?_)
  · have hV := hV.trans (if_pos c_1)
    refine X_iload_n (j := 0) dX12_between_9 rfl rfl ?_
    refine X_iload_n (j := 2) dX12_between_10 rfl rfl ?_
    refine X_icmp_le (tgt := 18) dX12_between_11 (by decide) (fun c_2 => ?_) (fun c_2 => ?_)
    · have hV := hV.trans (if_pos c_2)
      refine X_iload_n (j := 0) dX12_between_18 rfl rfl ?_
      try dsimp only at hV
      exact X_iret ex_nI rfl dX12_between_19 (by (repeat refine ex_kc ?_) <;> rfl) (by subst hV; exact ⟨rfl, rfl⟩)
    · have hV := hV.trans (if_neg c_2)
      refine X_iload_n (j := 2) dX12_between_14 rfl rfl ?_
      refine X_goto (tgt := 19) dX12_between_15 (by decide) ?_
      try dsimp only at hV
      exact X_iret ex_nI rfl dX12_between_19 (by (repeat refine ex_kc ?_) <;> rfl) (by subst hV; exact ⟨rfl, rfl⟩)
  · have hV := hV.trans (if_neg c_1)
    refine X_iload_n (j := 1) dX12_between_5 rfl rfl ?_
    refine X_goto (tgt := 19) dX12_between_6 (by decide) ?_
    try dsimp only at hV
    exact X_iret ex_nI rfl dX12_between_19 (by (repeat refine ex_kc ?_) <;> rfl) (by subst hV; exact ⟨rfl, rfl⟩)

def F_X12_away (v : Int32) (u : Int32) : Int32 := (if u ≤ v then (v - u) else (u - v))
set_option maxHeartbeats 4000000 in
set_option maxRecDepth 100000 in
theorem e_X12_away (l : Launch) (v : Int32) (u : Int32) : ex_M l yX12_away cX12_away 2 (some .int) 0 0 [ex_i v, ex_i u] [] (fun zcs zr => zcs = [] ∧ zr = some (ex_i (F_X12_away v u))) := by
  refine X_meth (by decide) (Nat.le_of_ble_eq_true rfl) ?_
  generalize hV : F_X12_away v u = V0
  have hV := hV.symm
  unfold F_X12_away at hV
  try dsimp only at hV
  refine X_iload_n (j := 0) dX12_away_0 rfl rfl ?_
  refine X_iload_n (j := 1) dX12_away_1 rfl rfl ?_
  refine X_icmp_ge (tgt := 11) dX12_away_2 (by decide) (fun c_1 => ?_) (fun c_1 => ?_)
  · have hV := hV.trans (if_pos c_1)
    refine X_iload_n (j := 0) dX12_away_11 rfl rfl ?_
    refine X_iload_n (j := 1) dX12_away_12 rfl rfl ?_
    refine X_isub (v := (v - u)) dX12_away_13 rfl ?_
    try dsimp only at hV
    exact X_iret ex_nI rfl dX12_away_14 (by (repeat refine ex_kc ?_) <;> rfl) (by subst hV; exact ⟨rfl, rfl⟩)
  · have hV := hV.trans (if_neg c_1)
    refine X_iload_n (j := 1) dX12_away_5 rfl rfl ?_
    refine X_iload_n (j := 0) dX12_away_6 rfl rfl ?_
    refine X_isub (v := (u - v)) dX12_away_7 rfl ?_
    refine X_goto (tgt := 14) dX12_away_8 (by decide) ?_
    try dsimp only at hV
    exact X_iret ex_nI rfl dX12_away_14 (by (repeat refine ex_kc ?_) <;> rfl) (by subst hV; exact ⟨rfl, rfl⟩)

def F_X12_bits_L4 (v : Int32) : Nat → Nat → Int32 → Int32
  | 0, k4, s4_0 => s4_0
  | zn + 1, k4, s4_0 => F_X12_bits_L4 v zn (k4 + 1) (s4_0 + ((v >>> ((nI k4) &&& 31)) &&& 1))
theorem F_X12_bits_L4_z (v : Int32) (k4 : Nat) (s4_0 : Int32) : F_X12_bits_L4 v 0 k4 s4_0 = s4_0 := rfl
theorem F_X12_bits_L4_s (v : Int32) (k4 : Nat) (s4_0 : Int32) (zn : Nat) : F_X12_bits_L4 v (zn + 1) k4 s4_0 = F_X12_bits_L4 v zn (k4 + 1) (s4_0 + ((v >>> ((nI k4) &&& 31)) &&& 1)) := rfl
def F_X12_bits (v : Int32) : Int32 := ((fun (v_1 : Int32) => v_1) (F_X12_bits_L4 v (6 - 0) 0 0))
set_option maxHeartbeats 4000000 in
set_option maxRecDepth 100000 in
theorem e_X12_bits (l : Launch) (v : Int32) : ex_M l yX12_bits cX12_bits 3 (some .int) 0 0 [ex_i v] [] (fun zcs zr => zcs = [] ∧ zr = some (ex_i (F_X12_bits v))) := by
  refine X_meth (by decide) (Nat.le_of_ble_eq_true rfl) ?_
  generalize hV : F_X12_bits v = V0
  have hV := hV.symm
  unfold F_X12_bits at hV
  try dsimp only at hV
  refine X_iconst (v := 0) dX12_bits_0 (by decide) ?_
  refine X_istore_n (lv' := [(1, ex_i 0), (0, ex_i v)]) dX12_bits_1 rfl (Nat.le_of_ble_eq_true rfl) rfl ?_
  refine X_iconst (v := 0) dX12_bits_2 (by decide) ?_
  refine X_istore_n (lv' := [(2, ex_i 0), (1, ex_i 0), (0, ex_i v)]) dX12_bits_3 rfl (Nat.le_of_ble_eq_true rfl) rfl ?_
  -- loop at 4
  try dsimp only at hV
  generalize hq_v_1 : F_X12_bits_L4 v (6 - 0) 0 0 = v_1 at hV
  try dsimp only at hV
  refine X_cut (P := True) (csE := []) (lvE := [(1, ex_i v_1), (0, ex_i v)]) (E := 24) (fun hrest4 => ?_) (fun hPX4 => ?_)
  · have hL4 := hq_v_1.symm
    refine X_ind (fun (a4 : Nat × Int32) => v_1 = F_X12_bits_L4 v (6 - a4.1) a4.1 a4.2 ∧ a4.1 ≤ 6) (fun (a4 : Nat × Int32) => 6 - a4.1) (fun (a4 : Nat × Int32) => []) (fun (a4 : Nat × Int32) => [(2, ex_i (nI a4.1)), (1, ex_i a4.2), (0, ex_i v)]) (fun ⟨k4, s4_0⟩ hI4 ih4 => ?_) (0, 0) ⟨hL4, (by omega)⟩
    try dsimp only at hI4 ih4 ⊢
    have ihc4 : ∀ (k4_ : Nat) (s4_0_ : Int32), (v_1 = F_X12_bits_L4 v (6 - k4_) k4_ s4_0_ ∧ k4_ ≤ 6) → (6 - k4_) < (6 - k4) → ex_O _ _ _ _ _ _ _ _ _ [] [(2, ex_i (nI k4_)), (1, ex_i s4_0_), (0, ex_i v)] _ _ := fun k4_ s4_0_ hi_ hm_ => ih4 (k4_, s4_0_) hi_ hm_
    have hL4 := hI4.1
    have hb4 := hI4.2
    refine X_iload_n (j := 0) dX12_bits_4 rfl rfl ?_
    refine X_bipush (v := 6) dX12_bits_5 (by decide) ?_
    refine X_icmp_ge (tgt := 24) dX12_bits_7 (by decide) (fun c_2 => ?_) (fun c_2 => ?_)
    · have hlt4 : k4 = 6 := nlex (L := 6) (by omega) hb4 c_2
      rw [show 6 - k4 = 0 by omega] at hL4
      have hL4 := hL4.trans (F_X12_bits_L4_z ..)
      try dsimp only at hL4
      refine X_lv (lv' := [(1, ex_i s4_0), (0, ex_i v)]) [1, 2] rfl ?_
      refine X_eq (cs' := []) (lv' := [(1, ex_i v_1), (0, ex_i v)]) (by subst hL4; rfl) (by subst hL4; rfl) ?_
      exact hrest4 trivial
    · have hlt4 : k4 < 6 := nlen (L := 6) (by omega) hb4 c_2
      rw [show 6 - k4 = (6 - (k4 + 1)) + 1 by omega] at hL4
      have hL4 := hL4.trans (F_X12_bits_L4_s ..)
      refine X_iload_n (j := 1) dX12_bits_10 rfl rfl ?_
      refine X_iload_n (j := 2) dX12_bits_11 rfl rfl ?_
      refine X_iload_n (j := 0) dX12_bits_12 rfl rfl ?_
      refine X_ishr (v := (v >>> ((nI k4) &&& 31))) dX12_bits_13 rfl ?_
      refine X_iconst (v := 1) dX12_bits_14 (by decide) ?_
      refine X_iand (v := ((v >>> ((nI k4) &&& 31)) &&& 1)) dX12_bits_15 rfl ?_
      refine X_iadd (v := (s4_0 + ((v >>> ((nI k4) &&& 31)) &&& 1))) dX12_bits_16 rfl ?_
      refine X_istore_n (lv' := [(1, ex_i (s4_0 + ((v >>> ((nI k4) &&& 31)) &&& 1))), (2, ex_i (nI k4)), (0, ex_i v)]) dX12_bits_17 rfl (Nat.le_of_ble_eq_true rfl) rfl ?_
      refine X_iinc (v := nI (k4 + 1)) (j := 1) (lv' := [(2, ex_i (nI (k4 + 1))), (1, ex_i (s4_0 + ((v >>> ((nI k4) &&& 31)) &&& 1))), (0, ex_i v)]) dX12_bits_18 rfl (nI_add k4 1) (Nat.le_of_ble_eq_true rfl) rfl ?_
      refine X_goto (tgt := 4) dX12_bits_21 (by decide) ?_
      try dsimp only at hL4
      exact ihc4 (k4 + 1) (s4_0 + ((v >>> ((nI k4) &&& 31)) &&& 1)) ⟨hL4, (show (k4 + 1) ≤ 6 by omega)⟩ (show 6 - (k4 + 1) < 6 - k4 by omega)
  refine X_iload_n (j := 0) dX12_bits_24 rfl rfl ?_
  try dsimp only at hV
  exact X_iret ex_nI rfl dX12_bits_25 (by (repeat refine ex_kc ?_) <;> rfl) (by subst hV; exact ⟨rfl, rfl⟩)

def F_X12_opens (d : Nat) (kb : Nat → Int32) (ag : Nat → Int32) (su : Nat → Int32) (sb : Nat → Int32) (tb : Nat → Int32) : (Nat → Int32) × (Nat → Int32) × (Nat → Int32) × (Nat → Int32) × (Nat → Int32) := (upd kb d 0, upd ag d 0, upd su d 0, upd sb d 20, upd tb d 0)
set_option maxHeartbeats 4000000 in
set_option maxRecDepth 100000 in
theorem e_X12_opens (l : Launch) (m : Nat) (d : Nat) (x0 : Int32) (x1 : Int32) (x2 : Nat) (x3 : Int32) (x4 : Int32) (x5 : Int32) (x6 : Int32) (x7 : Int64) (x8 : Int32) (x9 : Int32) (x10 : Nat) (x11 : Nat) (x12 : Nat) (x13 : Nat) (x14 : Nat) (x15 : Nat) (x16 : Nat) (x17 : Nat) (x18 : Nat) (x19 : Nat) (x20 : Nat) (x21 : Nat) (x22 : Nat) (x23 : Nat) (x24 : Nat) (x25 : Nat) (x26 : Int32) (x27 : Int32) (x28 : Nat) (x29 : Nat) (x30 : Nat) (x31 : Nat) (x32 : Nat) (x33 : Nat) (x34 : Nat) (x35 : Nat) (x36 : Nat) (x37 : Nat) (x38 : Nat) (x39 : Nat) (x40 : Int32) (x41 : Int64) (x42 : Nat) (x43 : Nat) (x44 : Nat) (x45 : Nat) (x46 : Nat) (x47 : Nat) (x48 : Nat) (x49 : Nat) (x50 : Nat) (x51 : Nat) (x52 : Nat) (x53 : Nat) (x54 : Int32) (x55 : Int32) (x56 : Int32) (x57 : Int32) (x58 : Nat) (x59 : Nat) (x60 : Nat) (x61 : Nat) (x62 : Int32) (x63 : Nat) (x64 : Nat) (x65 : Int32) (x66 : Int64) (kb : Nat → Int32) (ag : Nat → Int32) (su : Nat → Int32) (sb : Nat → Int32) (tb : Nat → Int32) (hd : d < 7) : ex_M l yX12_opens cX12_opens 2 none 0 0 [ex_r m, ex_i (nI d)] [(m, ex_o 12 [ex_i x0, ex_i x1, ex_r x2, ex_i x3, ex_i x4, ex_i x5, ex_i x6, ex_j x7, ex_i x8, ex_i x9, ex_r x10, ex_r x11, ex_r x12, ex_r x13, ex_r x14, ex_r x15, ex_r x16, ex_r x17, ex_r x18, ex_r x19, ex_r x20, ex_r x21, ex_r x22, ex_r x23, ex_r x24, ex_r x25, ex_i x26, ex_i x27, ex_r x28, ex_r x29, ex_r x30, ex_r x31, ex_r x32, ex_r x33, ex_r x34, ex_r x35, ex_r x36, ex_r x37, ex_r x38, ex_r x39, ex_i x40, ex_j x41, ex_r x42, ex_r x43, ex_r x44, ex_r x45, ex_r x46, ex_r x47, ex_r x48, ex_r x49, ex_r x50, ex_r x51, ex_r x52, ex_r x53, ex_i x54, ex_i x55, ex_i x56, ex_i x57, ex_r x58, ex_r x59, ex_r x60, ex_r x61, ex_i x62, ex_r x63, ex_r x64, ex_i x65, ex_j x66]), (x31, ex_a 1 7 kb), (x33, ex_a 1 7 ag), (x34, ex_a 1 7 su), (x35, ex_a 1 7 sb), (x37, ex_a 1 7 tb)] (fun zcs zr => zcs = [(m, ex_o 12 [ex_i x0, ex_i x1, ex_r x2, ex_i x3, ex_i x4, ex_i x5, ex_i x6, ex_j x7, ex_i x8, ex_i x9, ex_r x10, ex_r x11, ex_r x12, ex_r x13, ex_r x14, ex_r x15, ex_r x16, ex_r x17, ex_r x18, ex_r x19, ex_r x20, ex_r x21, ex_r x22, ex_r x23, ex_r x24, ex_r x25, ex_i x26, ex_i x27, ex_r x28, ex_r x29, ex_r x30, ex_r x31, ex_r x32, ex_r x33, ex_r x34, ex_r x35, ex_r x36, ex_r x37, ex_r x38, ex_r x39, ex_i x40, ex_j x41, ex_r x42, ex_r x43, ex_r x44, ex_r x45, ex_r x46, ex_r x47, ex_r x48, ex_r x49, ex_r x50, ex_r x51, ex_r x52, ex_r x53, ex_i x54, ex_i x55, ex_i x56, ex_i x57, ex_r x58, ex_r x59, ex_r x60, ex_r x61, ex_i x62, ex_r x63, ex_r x64, ex_i x65, ex_j x66]), (x31, ex_a 1 7 ((F_X12_opens d kb ag su sb tb).1)), (x33, ex_a 1 7 ((F_X12_opens d kb ag su sb tb).2.1)), (x34, ex_a 1 7 ((F_X12_opens d kb ag su sb tb).2.2.1)), (x35, ex_a 1 7 ((F_X12_opens d kb ag su sb tb).2.2.2.1)), (x37, ex_a 1 7 ((F_X12_opens d kb ag su sb tb).2.2.2.2))] ∧ zr = none) := by
  refine X_meth (by decide) (Nat.le_of_ble_eq_true rfl) ?_
  generalize hV : F_X12_opens d kb ag su sb tb = V0
  have hV := hV.symm
  unfold F_X12_opens at hV
  try dsimp only at hV
  refine X_aload_n (j := 0) dX12_opens_0 rfl rfl ?_
  refine X_get (j := 0) fo_X12_72 dX12_opens_1 rfl rfl ?_
  refine X_iload_n (j := 1) dX12_opens_4 rfl rfl ?_
  refine X_iconst (v := 0) dX12_opens_5 (by decide) ?_
  refine X_iast (j := 1) (g := upd kb d 0) (cs' := [(m, ex_o 12 [ex_i x0, ex_i x1, ex_r x2, ex_i x3, ex_i x4, ex_i x5, ex_i x6, ex_j x7, ex_i x8, ex_i x9, ex_r x10, ex_r x11, ex_r x12, ex_r x13, ex_r x14, ex_r x15, ex_r x16, ex_r x17, ex_r x18, ex_r x19, ex_r x20, ex_r x21, ex_r x22, ex_r x23, ex_r x24, ex_r x25, ex_i x26, ex_i x27, ex_r x28, ex_r x29, ex_r x30, ex_r x31, ex_r x32, ex_r x33, ex_r x34, ex_r x35, ex_r x36, ex_r x37, ex_r x38, ex_r x39, ex_i x40, ex_j x41, ex_r x42, ex_r x43, ex_r x44, ex_r x45, ex_r x46, ex_r x47, ex_r x48, ex_r x49, ex_r x50, ex_r x51, ex_r x52, ex_r x53, ex_i x54, ex_i x55, ex_i x56, ex_i x57, ex_r x58, ex_r x59, ex_r x60, ex_r x61, ex_i x62, ex_r x63, ex_r x64, ex_i x65, ex_j x66]), (x31, ex_a 1 7 (upd kb d 0)), (x33, ex_a 1 7 ag), (x34, ex_a 1 7 su), (x35, ex_a 1 7 sb), (x37, ex_a 1 7 tb)]) dX12_opens_6 rfl (vp_in_nI (show d < 7 by omega) (by decide)) (by rw [nI_clamp (by omega)]) rfl ?_
  refine X_aload_n (j := 0) dX12_opens_7 rfl rfl ?_
  refine X_get (j := 0) fo_X12_78 dX12_opens_8 rfl rfl ?_
  refine X_iload_n (j := 1) dX12_opens_11 rfl rfl ?_
  refine X_iconst (v := 0) dX12_opens_12 (by decide) ?_
  refine X_iast (j := 2) (g := upd ag d 0) (cs' := [(m, ex_o 12 [ex_i x0, ex_i x1, ex_r x2, ex_i x3, ex_i x4, ex_i x5, ex_i x6, ex_j x7, ex_i x8, ex_i x9, ex_r x10, ex_r x11, ex_r x12, ex_r x13, ex_r x14, ex_r x15, ex_r x16, ex_r x17, ex_r x18, ex_r x19, ex_r x20, ex_r x21, ex_r x22, ex_r x23, ex_r x24, ex_r x25, ex_i x26, ex_i x27, ex_r x28, ex_r x29, ex_r x30, ex_r x31, ex_r x32, ex_r x33, ex_r x34, ex_r x35, ex_r x36, ex_r x37, ex_r x38, ex_r x39, ex_i x40, ex_j x41, ex_r x42, ex_r x43, ex_r x44, ex_r x45, ex_r x46, ex_r x47, ex_r x48, ex_r x49, ex_r x50, ex_r x51, ex_r x52, ex_r x53, ex_i x54, ex_i x55, ex_i x56, ex_i x57, ex_r x58, ex_r x59, ex_r x60, ex_r x61, ex_i x62, ex_r x63, ex_r x64, ex_i x65, ex_j x66]), (x31, ex_a 1 7 (upd kb d 0)), (x33, ex_a 1 7 (upd ag d 0)), (x34, ex_a 1 7 su), (x35, ex_a 1 7 sb), (x37, ex_a 1 7 tb)]) dX12_opens_13 rfl (vp_in_nI (show d < 7 by omega) (by decide)) (by rw [nI_clamp (by omega)]) rfl ?_
  refine X_aload_n (j := 0) dX12_opens_14 rfl rfl ?_
  refine X_get (j := 0) fo_X12_81 dX12_opens_15 rfl rfl ?_
  refine X_iload_n (j := 1) dX12_opens_18 rfl rfl ?_
  refine X_iconst (v := 0) dX12_opens_19 (by decide) ?_
  refine X_iast (j := 3) (g := upd su d 0) (cs' := [(m, ex_o 12 [ex_i x0, ex_i x1, ex_r x2, ex_i x3, ex_i x4, ex_i x5, ex_i x6, ex_j x7, ex_i x8, ex_i x9, ex_r x10, ex_r x11, ex_r x12, ex_r x13, ex_r x14, ex_r x15, ex_r x16, ex_r x17, ex_r x18, ex_r x19, ex_r x20, ex_r x21, ex_r x22, ex_r x23, ex_r x24, ex_r x25, ex_i x26, ex_i x27, ex_r x28, ex_r x29, ex_r x30, ex_r x31, ex_r x32, ex_r x33, ex_r x34, ex_r x35, ex_r x36, ex_r x37, ex_r x38, ex_r x39, ex_i x40, ex_j x41, ex_r x42, ex_r x43, ex_r x44, ex_r x45, ex_r x46, ex_r x47, ex_r x48, ex_r x49, ex_r x50, ex_r x51, ex_r x52, ex_r x53, ex_i x54, ex_i x55, ex_i x56, ex_i x57, ex_r x58, ex_r x59, ex_r x60, ex_r x61, ex_i x62, ex_r x63, ex_r x64, ex_i x65, ex_j x66]), (x31, ex_a 1 7 (upd kb d 0)), (x33, ex_a 1 7 (upd ag d 0)), (x34, ex_a 1 7 (upd su d 0)), (x35, ex_a 1 7 sb), (x37, ex_a 1 7 tb)]) dX12_opens_20 rfl (vp_in_nI (show d < 7 by omega) (by decide)) (by rw [nI_clamp (by omega)]) rfl ?_
  refine X_aload_n (j := 0) dX12_opens_21 rfl rfl ?_
  refine X_get (j := 0) fo_X12_84 dX12_opens_22 rfl rfl ?_
  refine X_iload_n (j := 1) dX12_opens_25 rfl rfl ?_
  refine X_bipush (v := 20) dX12_opens_26 (by decide) ?_
  refine X_iast (j := 4) (g := upd sb d 20) (cs' := [(m, ex_o 12 [ex_i x0, ex_i x1, ex_r x2, ex_i x3, ex_i x4, ex_i x5, ex_i x6, ex_j x7, ex_i x8, ex_i x9, ex_r x10, ex_r x11, ex_r x12, ex_r x13, ex_r x14, ex_r x15, ex_r x16, ex_r x17, ex_r x18, ex_r x19, ex_r x20, ex_r x21, ex_r x22, ex_r x23, ex_r x24, ex_r x25, ex_i x26, ex_i x27, ex_r x28, ex_r x29, ex_r x30, ex_r x31, ex_r x32, ex_r x33, ex_r x34, ex_r x35, ex_r x36, ex_r x37, ex_r x38, ex_r x39, ex_i x40, ex_j x41, ex_r x42, ex_r x43, ex_r x44, ex_r x45, ex_r x46, ex_r x47, ex_r x48, ex_r x49, ex_r x50, ex_r x51, ex_r x52, ex_r x53, ex_i x54, ex_i x55, ex_i x56, ex_i x57, ex_r x58, ex_r x59, ex_r x60, ex_r x61, ex_i x62, ex_r x63, ex_r x64, ex_i x65, ex_j x66]), (x31, ex_a 1 7 (upd kb d 0)), (x33, ex_a 1 7 (upd ag d 0)), (x34, ex_a 1 7 (upd su d 0)), (x35, ex_a 1 7 (upd sb d 20)), (x37, ex_a 1 7 tb)]) dX12_opens_28 rfl (vp_in_nI (show d < 7 by omega) (by decide)) (by rw [nI_clamp (by omega)]) rfl ?_
  refine X_aload_n (j := 0) dX12_opens_29 rfl rfl ?_
  refine X_get (j := 0) fo_X12_90 dX12_opens_30 rfl rfl ?_
  refine X_iload_n (j := 1) dX12_opens_33 rfl rfl ?_
  refine X_iconst (v := 0) dX12_opens_34 (by decide) ?_
  refine X_iast (j := 5) (g := upd tb d 0) (cs' := [(m, ex_o 12 [ex_i x0, ex_i x1, ex_r x2, ex_i x3, ex_i x4, ex_i x5, ex_i x6, ex_j x7, ex_i x8, ex_i x9, ex_r x10, ex_r x11, ex_r x12, ex_r x13, ex_r x14, ex_r x15, ex_r x16, ex_r x17, ex_r x18, ex_r x19, ex_r x20, ex_r x21, ex_r x22, ex_r x23, ex_r x24, ex_r x25, ex_i x26, ex_i x27, ex_r x28, ex_r x29, ex_r x30, ex_r x31, ex_r x32, ex_r x33, ex_r x34, ex_r x35, ex_r x36, ex_r x37, ex_r x38, ex_r x39, ex_i x40, ex_j x41, ex_r x42, ex_r x43, ex_r x44, ex_r x45, ex_r x46, ex_r x47, ex_r x48, ex_r x49, ex_r x50, ex_r x51, ex_r x52, ex_r x53, ex_i x54, ex_i x55, ex_i x56, ex_i x57, ex_r x58, ex_r x59, ex_r x60, ex_r x61, ex_i x62, ex_r x63, ex_r x64, ex_i x65, ex_j x66]), (x31, ex_a 1 7 (upd kb d 0)), (x33, ex_a 1 7 (upd ag d 0)), (x34, ex_a 1 7 (upd su d 0)), (x35, ex_a 1 7 (upd sb d 20)), (x37, ex_a 1 7 (upd tb d 0))]) dX12_opens_35 rfl (vp_in_nI (show d < 7 by omega) (by decide)) (by rw [nI_clamp (by omega)]) rfl ?_
  try dsimp only at hV
  exact X_vret dX12_opens_36 (by (repeat refine ex_kc ?_) <;> rfl) (by subst hV; exact ⟨rfl, rfl⟩)

def F_X12_sums (d : Nat) (su : Nat → Int32) (sb : Nat → Int32) (te : Nat → Int32) (tb : Nat → Int32) : (Nat → Int32) × (Nat → Int32) := (if (sb d) = 21 then (upd su d ((su d) - (te d)), upd tb d 0) else (upd su d ((su d) + (te d)), upd tb d 0))
set_option maxHeartbeats 4000000 in
set_option maxRecDepth 100000 in
theorem e_X12_sums (l : Launch) (m : Nat) (d : Nat) (x0 : Int32) (x1 : Int32) (x2 : Nat) (x3 : Int32) (x4 : Int32) (x5 : Int32) (x6 : Int32) (x7 : Int64) (x8 : Int32) (x9 : Int32) (x10 : Nat) (x11 : Nat) (x12 : Nat) (x13 : Nat) (x14 : Nat) (x15 : Nat) (x16 : Nat) (x17 : Nat) (x18 : Nat) (x19 : Nat) (x20 : Nat) (x21 : Nat) (x22 : Nat) (x23 : Nat) (x24 : Nat) (x25 : Nat) (x26 : Int32) (x27 : Int32) (x28 : Nat) (x29 : Nat) (x30 : Nat) (x31 : Nat) (x32 : Nat) (x33 : Nat) (x34 : Nat) (x35 : Nat) (x36 : Nat) (x37 : Nat) (x38 : Nat) (x39 : Nat) (x40 : Int32) (x41 : Int64) (x42 : Nat) (x43 : Nat) (x44 : Nat) (x45 : Nat) (x46 : Nat) (x47 : Nat) (x48 : Nat) (x49 : Nat) (x50 : Nat) (x51 : Nat) (x52 : Nat) (x53 : Nat) (x54 : Int32) (x55 : Int32) (x56 : Int32) (x57 : Int32) (x58 : Nat) (x59 : Nat) (x60 : Nat) (x61 : Nat) (x62 : Int32) (x63 : Nat) (x64 : Nat) (x65 : Int32) (x66 : Int64) (su : Nat → Int32) (sb : Nat → Int32) (te : Nat → Int32) (tb : Nat → Int32) (hd : d < 7) : ex_M l yX12_sums cX12_sums 2 none 0 0 [ex_r m, ex_i (nI d)] [(m, ex_o 12 [ex_i x0, ex_i x1, ex_r x2, ex_i x3, ex_i x4, ex_i x5, ex_i x6, ex_j x7, ex_i x8, ex_i x9, ex_r x10, ex_r x11, ex_r x12, ex_r x13, ex_r x14, ex_r x15, ex_r x16, ex_r x17, ex_r x18, ex_r x19, ex_r x20, ex_r x21, ex_r x22, ex_r x23, ex_r x24, ex_r x25, ex_i x26, ex_i x27, ex_r x28, ex_r x29, ex_r x30, ex_r x31, ex_r x32, ex_r x33, ex_r x34, ex_r x35, ex_r x36, ex_r x37, ex_r x38, ex_r x39, ex_i x40, ex_j x41, ex_r x42, ex_r x43, ex_r x44, ex_r x45, ex_r x46, ex_r x47, ex_r x48, ex_r x49, ex_r x50, ex_r x51, ex_r x52, ex_r x53, ex_i x54, ex_i x55, ex_i x56, ex_i x57, ex_r x58, ex_r x59, ex_r x60, ex_r x61, ex_i x62, ex_r x63, ex_r x64, ex_i x65, ex_j x66]), (x34, ex_a 1 7 su), (x35, ex_a 1 7 sb), (x36, ex_a 1 7 te), (x37, ex_a 1 7 tb)] (fun zcs zr => zcs = [(m, ex_o 12 [ex_i x0, ex_i x1, ex_r x2, ex_i x3, ex_i x4, ex_i x5, ex_i x6, ex_j x7, ex_i x8, ex_i x9, ex_r x10, ex_r x11, ex_r x12, ex_r x13, ex_r x14, ex_r x15, ex_r x16, ex_r x17, ex_r x18, ex_r x19, ex_r x20, ex_r x21, ex_r x22, ex_r x23, ex_r x24, ex_r x25, ex_i x26, ex_i x27, ex_r x28, ex_r x29, ex_r x30, ex_r x31, ex_r x32, ex_r x33, ex_r x34, ex_r x35, ex_r x36, ex_r x37, ex_r x38, ex_r x39, ex_i x40, ex_j x41, ex_r x42, ex_r x43, ex_r x44, ex_r x45, ex_r x46, ex_r x47, ex_r x48, ex_r x49, ex_r x50, ex_r x51, ex_r x52, ex_r x53, ex_i x54, ex_i x55, ex_i x56, ex_i x57, ex_r x58, ex_r x59, ex_r x60, ex_r x61, ex_i x62, ex_r x63, ex_r x64, ex_i x65, ex_j x66]), (x34, ex_a 1 7 ((F_X12_sums d su sb te tb).1)), (x35, ex_a 1 7 sb), (x36, ex_a 1 7 te), (x37, ex_a 1 7 ((F_X12_sums d su sb te tb).2))] ∧ zr = none) := by
  refine X_meth (by decide) (Nat.le_of_ble_eq_true rfl) ?_
  generalize hV : F_X12_sums d su sb te tb = V0
  have hV := hV.symm
  unfold F_X12_sums at hV
  try dsimp only at hV
  refine X_aload_n (j := 0) dX12_sums_0 rfl rfl ?_
  refine X_get (j := 0) fo_X12_81 dX12_sums_1 rfl rfl ?_
  refine X_iload_n (j := 1) dX12_sums_4 rfl rfl ?_
  refine X_aload_n (j := 0) dX12_sums_5 rfl rfl ?_
  refine X_get (j := 0) fo_X12_84 dX12_sums_6 rfl rfl ?_
  refine X_iload_n (j := 1) dX12_sums_9 rfl rfl ?_
  refine X_iald (j := 2) (v := (sb d)) dX12_sums_10 rfl (vp_in_nI (show d < 7 by omega) (by decide)) (by rw [nI_clamp (by omega)]) ?_
  refine X_bipush (v := 21) dX12_sums_11 (by decide) ?_
  refine X_icmp_ne (tgt := 32) dX12_sums_13 (by decide) (fun c_1 => ?_) (fun c_1 => ?_)
  · have hV := hV.trans (if_neg c_1)
    refine X_aload_n (j := 0) dX12_sums_32 rfl rfl ?_
    refine X_get (j := 0) fo_X12_81 dX12_sums_33 rfl rfl ?_
    refine X_iload_n (j := 1) dX12_sums_36 rfl rfl ?_
    refine X_iald (j := 1) (v := (su d)) dX12_sums_37 rfl (vp_in_nI (show d < 7 by omega) (by decide)) (by rw [nI_clamp (by omega)]) ?_
    refine X_aload_n (j := 0) dX12_sums_38 rfl rfl ?_
    refine X_get (j := 0) fo_X12_87 dX12_sums_39 rfl rfl ?_
    refine X_iload_n (j := 1) dX12_sums_42 rfl rfl ?_
    refine X_iald (j := 3) (v := (te d)) dX12_sums_43 rfl (vp_in_nI (show d < 7 by omega) (by decide)) (by rw [nI_clamp (by omega)]) ?_
    refine X_iadd (v := ((su d) + (te d))) dX12_sums_44 rfl ?_
    refine X_iast (j := 1) (g := upd su d ((su d) + (te d))) (cs' := [(m, ex_o 12 [ex_i x0, ex_i x1, ex_r x2, ex_i x3, ex_i x4, ex_i x5, ex_i x6, ex_j x7, ex_i x8, ex_i x9, ex_r x10, ex_r x11, ex_r x12, ex_r x13, ex_r x14, ex_r x15, ex_r x16, ex_r x17, ex_r x18, ex_r x19, ex_r x20, ex_r x21, ex_r x22, ex_r x23, ex_r x24, ex_r x25, ex_i x26, ex_i x27, ex_r x28, ex_r x29, ex_r x30, ex_r x31, ex_r x32, ex_r x33, ex_r x34, ex_r x35, ex_r x36, ex_r x37, ex_r x38, ex_r x39, ex_i x40, ex_j x41, ex_r x42, ex_r x43, ex_r x44, ex_r x45, ex_r x46, ex_r x47, ex_r x48, ex_r x49, ex_r x50, ex_r x51, ex_r x52, ex_r x53, ex_i x54, ex_i x55, ex_i x56, ex_i x57, ex_r x58, ex_r x59, ex_r x60, ex_r x61, ex_i x62, ex_r x63, ex_r x64, ex_i x65, ex_j x66]), (x34, ex_a 1 7 (upd su d ((su d) + (te d)))), (x35, ex_a 1 7 sb), (x36, ex_a 1 7 te), (x37, ex_a 1 7 tb)]) dX12_sums_45 rfl (vp_in_nI (show d < 7 by omega) (by decide)) (by rw [nI_clamp (by omega)]) rfl ?_
    refine X_aload_n (j := 0) dX12_sums_46 rfl rfl ?_
    refine X_get (j := 0) fo_X12_90 dX12_sums_47 rfl rfl ?_
    refine X_iload_n (j := 1) dX12_sums_50 rfl rfl ?_
    refine X_iconst (v := 0) dX12_sums_51 (by decide) ?_
    refine X_iast (j := 4) (g := upd tb d 0) (cs' := [(m, ex_o 12 [ex_i x0, ex_i x1, ex_r x2, ex_i x3, ex_i x4, ex_i x5, ex_i x6, ex_j x7, ex_i x8, ex_i x9, ex_r x10, ex_r x11, ex_r x12, ex_r x13, ex_r x14, ex_r x15, ex_r x16, ex_r x17, ex_r x18, ex_r x19, ex_r x20, ex_r x21, ex_r x22, ex_r x23, ex_r x24, ex_r x25, ex_i x26, ex_i x27, ex_r x28, ex_r x29, ex_r x30, ex_r x31, ex_r x32, ex_r x33, ex_r x34, ex_r x35, ex_r x36, ex_r x37, ex_r x38, ex_r x39, ex_i x40, ex_j x41, ex_r x42, ex_r x43, ex_r x44, ex_r x45, ex_r x46, ex_r x47, ex_r x48, ex_r x49, ex_r x50, ex_r x51, ex_r x52, ex_r x53, ex_i x54, ex_i x55, ex_i x56, ex_i x57, ex_r x58, ex_r x59, ex_r x60, ex_r x61, ex_i x62, ex_r x63, ex_r x64, ex_i x65, ex_j x66]), (x34, ex_a 1 7 (upd su d ((su d) + (te d)))), (x35, ex_a 1 7 sb), (x36, ex_a 1 7 te), (x37, ex_a 1 7 (upd tb d 0))]) dX12_sums_52 rfl (vp_in_nI (show d < 7 by omega) (by decide)) (by rw [nI_clamp (by omega)]) rfl ?_
    try dsimp only at hV
    exact X_vret dX12_sums_53 (by (repeat refine ex_kc ?_) <;> rfl) (by subst hV; exact ⟨rfl, rfl⟩)
  · have hV := hV.trans (if_pos c_1)
    refine X_aload_n (j := 0) dX12_sums_16 rfl rfl ?_
    refine X_get (j := 0) fo_X12_81 dX12_sums_17 rfl rfl ?_
    refine X_iload_n (j := 1) dX12_sums_20 rfl rfl ?_
    refine X_iald (j := 1) (v := (su d)) dX12_sums_21 rfl (vp_in_nI (show d < 7 by omega) (by decide)) (by rw [nI_clamp (by omega)]) ?_
    refine X_aload_n (j := 0) dX12_sums_22 rfl rfl ?_
    refine X_get (j := 0) fo_X12_87 dX12_sums_23 rfl rfl ?_
    refine X_iload_n (j := 1) dX12_sums_26 rfl rfl ?_
    refine X_iald (j := 3) (v := (te d)) dX12_sums_27 rfl (vp_in_nI (show d < 7 by omega) (by decide)) (by rw [nI_clamp (by omega)]) ?_
    refine X_isub (v := ((su d) - (te d))) dX12_sums_28 rfl ?_
    refine X_goto (tgt := 45) dX12_sums_29 (by decide) ?_
    refine X_iast (j := 1) (g := upd su d ((su d) - (te d))) (cs' := [(m, ex_o 12 [ex_i x0, ex_i x1, ex_r x2, ex_i x3, ex_i x4, ex_i x5, ex_i x6, ex_j x7, ex_i x8, ex_i x9, ex_r x10, ex_r x11, ex_r x12, ex_r x13, ex_r x14, ex_r x15, ex_r x16, ex_r x17, ex_r x18, ex_r x19, ex_r x20, ex_r x21, ex_r x22, ex_r x23, ex_r x24, ex_r x25, ex_i x26, ex_i x27, ex_r x28, ex_r x29, ex_r x30, ex_r x31, ex_r x32, ex_r x33, ex_r x34, ex_r x35, ex_r x36, ex_r x37, ex_r x38, ex_r x39, ex_i x40, ex_j x41, ex_r x42, ex_r x43, ex_r x44, ex_r x45, ex_r x46, ex_r x47, ex_r x48, ex_r x49, ex_r x50, ex_r x51, ex_r x52, ex_r x53, ex_i x54, ex_i x55, ex_i x56, ex_i x57, ex_r x58, ex_r x59, ex_r x60, ex_r x61, ex_i x62, ex_r x63, ex_r x64, ex_i x65, ex_j x66]), (x34, ex_a 1 7 (upd su d ((su d) - (te d)))), (x35, ex_a 1 7 sb), (x36, ex_a 1 7 te), (x37, ex_a 1 7 tb)]) dX12_sums_45 rfl (vp_in_nI (show d < 7 by omega) (by decide)) (by rw [nI_clamp (by omega)]) rfl ?_
    refine X_aload_n (j := 0) dX12_sums_46 rfl rfl ?_
    refine X_get (j := 0) fo_X12_90 dX12_sums_47 rfl rfl ?_
    refine X_iload_n (j := 1) dX12_sums_50 rfl rfl ?_
    refine X_iconst (v := 0) dX12_sums_51 (by decide) ?_
    refine X_iast (j := 4) (g := upd tb d 0) (cs' := [(m, ex_o 12 [ex_i x0, ex_i x1, ex_r x2, ex_i x3, ex_i x4, ex_i x5, ex_i x6, ex_j x7, ex_i x8, ex_i x9, ex_r x10, ex_r x11, ex_r x12, ex_r x13, ex_r x14, ex_r x15, ex_r x16, ex_r x17, ex_r x18, ex_r x19, ex_r x20, ex_r x21, ex_r x22, ex_r x23, ex_r x24, ex_r x25, ex_i x26, ex_i x27, ex_r x28, ex_r x29, ex_r x30, ex_r x31, ex_r x32, ex_r x33, ex_r x34, ex_r x35, ex_r x36, ex_r x37, ex_r x38, ex_r x39, ex_i x40, ex_j x41, ex_r x42, ex_r x43, ex_r x44, ex_r x45, ex_r x46, ex_r x47, ex_r x48, ex_r x49, ex_r x50, ex_r x51, ex_r x52, ex_r x53, ex_i x54, ex_i x55, ex_i x56, ex_i x57, ex_r x58, ex_r x59, ex_r x60, ex_r x61, ex_i x62, ex_r x63, ex_r x64, ex_i x65, ex_j x66]), (x34, ex_a 1 7 (upd su d ((su d) - (te d)))), (x35, ex_a 1 7 sb), (x36, ex_a 1 7 te), (x37, ex_a 1 7 (upd tb d 0))]) dX12_sums_52 rfl (vp_in_nI (show d < 7 by omega) (by decide)) (by rw [nI_clamp (by omega)]) rfl ?_
    try dsimp only at hV
    exact X_vret dX12_sums_53 (by (repeat refine ex_kc ?_) <;> rfl) (by subst hV; exact ⟨rfl, rfl⟩)

def F_X12_tests (d : Nat) (kp : Nat → Int32) (kb : Nat → Int32) (ah : Nat → Int32) (ag : Nat → Int32) (su : Nat → Int32) (sb : Nat → Int32) (te : Nat → Int32) (tb : Nat → Int32) : (Nat → Int32) × (Nat → Int32) × (Nat → Int32) × (Nat → Int32) × (Nat → Int32) := ((fun (w_1 : (Nat → Int32) × (Nat → Int32)) => (if (ag d) = 24 then (if (w_1.1 d) ≤ (ah d) then (if (kb d) = 26 then (if (kp d) = 0 then (upd kp d 0, upd ag d 0, upd w_1.1 d 0, upd sb d 20, w_1.2) else (upd kp d 0, upd ag d 0, upd w_1.1 d 0, upd sb d 20, w_1.2)) else (if (kb d) = 27 then (if (kp d) = 0 then (upd kp d 0, upd ag d 0, upd w_1.1 d 0, upd sb d 20, w_1.2) else (upd kp d 1, upd ag d 0, upd w_1.1 d 0, upd sb d 20, w_1.2)) else (upd kp d 0, upd ag d 0, upd w_1.1 d 0, upd sb d 20, w_1.2))) else (if (kb d) = 26 then (if (kp d) = 0 then (upd kp d 0, upd ag d 0, upd w_1.1 d 0, upd sb d 20, w_1.2) else (upd kp d 1, upd ag d 0, upd w_1.1 d 0, upd sb d 20, w_1.2)) else (if (kb d) = 27 then (if (kp d) = 0 then (upd kp d 1, upd ag d 0, upd w_1.1 d 0, upd sb d 20, w_1.2) else (upd kp d 1, upd ag d 0, upd w_1.1 d 0, upd sb d 20, w_1.2)) else (upd kp d 1, upd ag d 0, upd w_1.1 d 0, upd sb d 20, w_1.2)))) else (if (ag d) = 25 then (if (ah d) = (w_1.1 d) then (if (kb d) = 26 then (if (kp d) = 0 then (upd kp d 0, upd ag d 0, upd w_1.1 d 0, upd sb d 20, w_1.2) else (upd kp d 1, upd ag d 0, upd w_1.1 d 0, upd sb d 20, w_1.2)) else (if (kb d) = 27 then (if (kp d) = 0 then (upd kp d 1, upd ag d 0, upd w_1.1 d 0, upd sb d 20, w_1.2) else (upd kp d 1, upd ag d 0, upd w_1.1 d 0, upd sb d 20, w_1.2)) else (upd kp d 1, upd ag d 0, upd w_1.1 d 0, upd sb d 20, w_1.2))) else (if (kb d) = 26 then (if (kp d) = 0 then (upd kp d 0, upd ag d 0, upd w_1.1 d 0, upd sb d 20, w_1.2) else (upd kp d 0, upd ag d 0, upd w_1.1 d 0, upd sb d 20, w_1.2)) else (if (kb d) = 27 then (if (kp d) = 0 then (upd kp d 0, upd ag d 0, upd w_1.1 d 0, upd sb d 20, w_1.2) else (upd kp d 1, upd ag d 0, upd w_1.1 d 0, upd sb d 20, w_1.2)) else (upd kp d 0, upd ag d 0, upd w_1.1 d 0, upd sb d 20, w_1.2)))) else (if (kb d) = 26 then (if (kp d) = 0 then (upd kp d 0, upd ag d 0, upd w_1.1 d 0, upd sb d 20, w_1.2) else (if (w_1.1 d) = 0 then (upd kp d 0, upd ag d 0, upd w_1.1 d 0, upd sb d 20, w_1.2) else (upd kp d 1, upd ag d 0, upd w_1.1 d 0, upd sb d 20, w_1.2))) else (if (kb d) = 27 then (if (kp d) = 0 then (if (w_1.1 d) = 0 then (upd kp d 0, upd ag d 0, upd w_1.1 d 0, upd sb d 20, w_1.2) else (upd kp d 1, upd ag d 0, upd w_1.1 d 0, upd sb d 20, w_1.2)) else (upd kp d 1, upd ag d 0, upd w_1.1 d 0, upd sb d 20, w_1.2)) else (upd kp d (w_1.1 d), upd ag d 0, upd w_1.1 d 0, upd sb d 20, w_1.2)))))) (F_X12_sums d su sb te tb))
set_option maxHeartbeats 4000000 in
set_option maxRecDepth 100000 in
theorem e_X12_tests (l : Launch) (m : Nat) (d : Nat) (x0 : Int32) (x1 : Int32) (x2 : Nat) (x3 : Int32) (x4 : Int32) (x5 : Int32) (x6 : Int32) (x7 : Int64) (x8 : Int32) (x9 : Int32) (x10 : Nat) (x11 : Nat) (x12 : Nat) (x13 : Nat) (x14 : Nat) (x15 : Nat) (x16 : Nat) (x17 : Nat) (x18 : Nat) (x19 : Nat) (x20 : Nat) (x21 : Nat) (x22 : Nat) (x23 : Nat) (x24 : Nat) (x25 : Nat) (x26 : Int32) (x27 : Int32) (x28 : Nat) (x29 : Nat) (x30 : Nat) (x31 : Nat) (x32 : Nat) (x33 : Nat) (x34 : Nat) (x35 : Nat) (x36 : Nat) (x37 : Nat) (x38 : Nat) (x39 : Nat) (x40 : Int32) (x41 : Int64) (x42 : Nat) (x43 : Nat) (x44 : Nat) (x45 : Nat) (x46 : Nat) (x47 : Nat) (x48 : Nat) (x49 : Nat) (x50 : Nat) (x51 : Nat) (x52 : Nat) (x53 : Nat) (x54 : Int32) (x55 : Int32) (x56 : Int32) (x57 : Int32) (x58 : Nat) (x59 : Nat) (x60 : Nat) (x61 : Nat) (x62 : Int32) (x63 : Nat) (x64 : Nat) (x65 : Int32) (x66 : Int64) (kp : Nat → Int32) (kb : Nat → Int32) (ah : Nat → Int32) (ag : Nat → Int32) (su : Nat → Int32) (sb : Nat → Int32) (te : Nat → Int32) (tb : Nat → Int32) (hd : d < 7) : ex_M l yX12_tests cX12_tests 3 none 1 21 [ex_r m, ex_i (nI d)] [(m, ex_o 12 [ex_i x0, ex_i x1, ex_r x2, ex_i x3, ex_i x4, ex_i x5, ex_i x6, ex_j x7, ex_i x8, ex_i x9, ex_r x10, ex_r x11, ex_r x12, ex_r x13, ex_r x14, ex_r x15, ex_r x16, ex_r x17, ex_r x18, ex_r x19, ex_r x20, ex_r x21, ex_r x22, ex_r x23, ex_r x24, ex_r x25, ex_i x26, ex_i x27, ex_r x28, ex_r x29, ex_r x30, ex_r x31, ex_r x32, ex_r x33, ex_r x34, ex_r x35, ex_r x36, ex_r x37, ex_r x38, ex_r x39, ex_i x40, ex_j x41, ex_r x42, ex_r x43, ex_r x44, ex_r x45, ex_r x46, ex_r x47, ex_r x48, ex_r x49, ex_r x50, ex_r x51, ex_r x52, ex_r x53, ex_i x54, ex_i x55, ex_i x56, ex_i x57, ex_r x58, ex_r x59, ex_r x60, ex_r x61, ex_i x62, ex_r x63, ex_r x64, ex_i x65, ex_j x66]), (x30, ex_a 1 7 kp), (x31, ex_a 1 7 kb), (x32, ex_a 1 7 ah), (x33, ex_a 1 7 ag), (x34, ex_a 1 7 su), (x35, ex_a 1 7 sb), (x36, ex_a 1 7 te), (x37, ex_a 1 7 tb)] (fun zcs zr => zcs = [(m, ex_o 12 [ex_i x0, ex_i x1, ex_r x2, ex_i x3, ex_i x4, ex_i x5, ex_i x6, ex_j x7, ex_i x8, ex_i x9, ex_r x10, ex_r x11, ex_r x12, ex_r x13, ex_r x14, ex_r x15, ex_r x16, ex_r x17, ex_r x18, ex_r x19, ex_r x20, ex_r x21, ex_r x22, ex_r x23, ex_r x24, ex_r x25, ex_i x26, ex_i x27, ex_r x28, ex_r x29, ex_r x30, ex_r x31, ex_r x32, ex_r x33, ex_r x34, ex_r x35, ex_r x36, ex_r x37, ex_r x38, ex_r x39, ex_i x40, ex_j x41, ex_r x42, ex_r x43, ex_r x44, ex_r x45, ex_r x46, ex_r x47, ex_r x48, ex_r x49, ex_r x50, ex_r x51, ex_r x52, ex_r x53, ex_i x54, ex_i x55, ex_i x56, ex_i x57, ex_r x58, ex_r x59, ex_r x60, ex_r x61, ex_i x62, ex_r x63, ex_r x64, ex_i x65, ex_j x66]), (x30, ex_a 1 7 ((F_X12_tests d kp kb ah ag su sb te tb).1)), (x31, ex_a 1 7 kb), (x32, ex_a 1 7 ah), (x33, ex_a 1 7 ((F_X12_tests d kp kb ah ag su sb te tb).2.1)), (x34, ex_a 1 7 ((F_X12_tests d kp kb ah ag su sb te tb).2.2.1)), (x35, ex_a 1 7 ((F_X12_tests d kp kb ah ag su sb te tb).2.2.2.1)), (x36, ex_a 1 7 te), (x37, ex_a 1 7 ((F_X12_tests d kp kb ah ag su sb te tb).2.2.2.2))] ∧ zr = none) := by
  refine X_meth (by decide) (Nat.le_of_ble_eq_true rfl) ?_
  generalize hV : F_X12_tests d kp kb ah ag su sb te tb = V0
  have hV := hV.symm
  unfold F_X12_tests at hV
  try dsimp only at hV
  refine X_aload_n (j := 0) dX12_tests_0 rfl rfl ?_
  refine X_iload_n (j := 1) dX12_tests_1 rfl rfl ?_
  refine X_callV (j0 := 0) (rest := [(x30, ex_a 1 7 kp), (x31, ex_a 1 7 kb), (x32, ex_a 1 7 ah), (x33, ex_a 1 7 ag)]) (stk := []) co_X12_236 rfl ⟨(Nat.le_of_ble_eq_true rfl), (Nat.le_of_ble_eq_true rfl)⟩ (e_X12_sums l m d x0 x1 x2 x3 x4 x5 x6 x7 x8 x9 x10 x11 x12 x13 x14 x15 x16 x17 x18 x19 x20 x21 x22 x23 x24 x25 x26 x27 x28 x29 x30 x31 x32 x33 x34 x35 x36 x37 x38 x39 x40 x41 x42 x43 x44 x45 x46 x47 x48 x49 x50 x51 x52 x53 x54 x55 x56 x57 x58 x59 x60 x61 x62 x63 x64 x65 x66 su sb te tb (by first | assumption | omega)) dX12_tests_2 [0, 5, 6, 7, 8, 1, 2, 3, 4] (show List.Perm [0, 5, 6, 7, 8, 1, 2, 3, 4] (List.range 9) from by decide) rfl rfl rfl rfl (Nat.le_of_ble_eq_true rfl) (fun zc1 zr hq hk => ?_)
  obtain ⟨rfl, rfl⟩ := hq
  try dsimp only at hV
  generalize hq_w_1 : F_X12_sums d su sb te tb = w_1 at hV ⊢
  try dsimp only at hV
  refine X_aload_n (j := 0) dX12_tests_5 rfl rfl ?_
  refine X_get (j := 0) fo_X12_81 dX12_tests_6 rfl rfl ?_
  refine X_iload_n (j := 1) dX12_tests_9 rfl rfl ?_
  refine X_iald (j := 1) (v := (w_1.1 d)) dX12_tests_10 rfl (vp_in_nI (show d < 7 by omega) (by decide)) (by rw [nI_clamp (by omega)]) ?_
  refine X_istore_n (lv' := [(2, ex_i (w_1.1 d)), (0, ex_r m), (1, ex_i (nI d))]) dX12_tests_11 rfl (Nat.le_of_ble_eq_true rfl) rfl ?_
  refine X_aload_n (j := 1) dX12_tests_12 rfl rfl ?_
  refine X_get (j := 0) fo_X12_78 dX12_tests_13 rfl rfl ?_
  refine X_iload_n (j := 2) dX12_tests_16 rfl rfl ?_
  refine X_iald (j := 8) (v := (ag d)) dX12_tests_17 rfl (vp_in_nI (show d < 7 by omega) (by decide)) (by rw [nI_clamp (by omega)]) ?_
  refine X_bipush (v := 24) dX12_tests_18 (by decide) ?_
  refine X_icmp_ne (tgt := 44) dX12_tests_20 (by decide) (fun c_2 => ?_) (fun c_2 => ?_)
  · have hV := hV.trans (if_neg c_2)
    refine X_aload_n (j := 1) dX12_tests_44 rfl rfl ?_
    refine X_get (j := 0) fo_X12_78 dX12_tests_45 rfl rfl ?_
    refine X_iload_n (j := 2) dX12_tests_48 rfl rfl ?_
    refine X_iald (j := 8) (v := (ag d)) dX12_tests_49 rfl (vp_in_nI (show d < 7 by omega) (by decide)) (by rw [nI_clamp (by omega)]) ?_
    refine X_bipush (v := 25) dX12_tests_50 (by decide) ?_
    refine X_icmp_ne (tgt := 76) dX12_tests_52 (by decide) (fun c_3 => ?_) (fun c_3 => ?_)
    · have hV := hV.trans (if_neg c_3)
      refine X_aload_n (j := 1) dX12_tests_76 rfl rfl ?_
      refine X_get (j := 0) fo_X12_72 dX12_tests_77 rfl rfl ?_
      refine X_iload_n (j := 2) dX12_tests_80 rfl rfl ?_
      refine X_iald (j := 6) (v := (kb d)) dX12_tests_81 rfl (vp_in_nI (show d < 7 by omega) (by decide)) (by rw [nI_clamp (by omega)]) ?_
      refine X_bipush (v := 26) dX12_tests_82 (by decide) ?_
      refine X_icmp_ne (tgt := 106) dX12_tests_84 (by decide) (fun c_4 => ?_) (fun c_4 => ?_)
      · have hV := hV.trans (if_neg c_4)
        refine X_aload_n (j := 1) dX12_tests_106 rfl rfl ?_
        refine X_get (j := 0) fo_X12_72 dX12_tests_107 rfl rfl ?_
        refine X_iload_n (j := 2) dX12_tests_110 rfl rfl ?_
        refine X_iald (j := 6) (v := (kb d)) dX12_tests_111 rfl (vp_in_nI (show d < 7 by omega) (by decide)) (by rw [nI_clamp (by omega)]) ?_
        refine X_bipush (v := 27) dX12_tests_112 (by decide) ?_
        refine X_icmp_ne (tgt := 136) dX12_tests_114 (by decide) (fun c_5 => ?_) (fun c_5 => ?_)
        · have hV := hV.trans (if_neg c_5)
          refine X_aload_n (j := 1) dX12_tests_136 rfl rfl ?_
          refine X_get (j := 0) fo_X12_69 dX12_tests_137 rfl rfl ?_
          refine X_iload_n (j := 2) dX12_tests_140 rfl rfl ?_
          refine X_iload_n (j := 0) dX12_tests_141 rfl rfl ?_
          refine X_iast (j := 5) (g := upd kp d (w_1.1 d)) (cs' := [(m, ex_o 12 [ex_i x0, ex_i x1, ex_r x2, ex_i x3, ex_i x4, ex_i x5, ex_i x6, ex_j x7, ex_i x8, ex_i x9, ex_r x10, ex_r x11, ex_r x12, ex_r x13, ex_r x14, ex_r x15, ex_r x16, ex_r x17, ex_r x18, ex_r x19, ex_r x20, ex_r x21, ex_r x22, ex_r x23, ex_r x24, ex_r x25, ex_i x26, ex_i x27, ex_r x28, ex_r x29, ex_r x30, ex_r x31, ex_r x32, ex_r x33, ex_r x34, ex_r x35, ex_r x36, ex_r x37, ex_r x38, ex_r x39, ex_i x40, ex_j x41, ex_r x42, ex_r x43, ex_r x44, ex_r x45, ex_r x46, ex_r x47, ex_r x48, ex_r x49, ex_r x50, ex_r x51, ex_r x52, ex_r x53, ex_i x54, ex_i x55, ex_i x56, ex_i x57, ex_r x58, ex_r x59, ex_r x60, ex_r x61, ex_i x62, ex_r x63, ex_r x64, ex_i x65, ex_j x66]), (x34, ex_a 1 7 w_1.1), (x35, ex_a 1 7 sb), (x36, ex_a 1 7 te), (x37, ex_a 1 7 w_1.2), (x30, ex_a 1 7 (upd kp d (w_1.1 d))), (x31, ex_a 1 7 kb), (x32, ex_a 1 7 ah), (x33, ex_a 1 7 ag)]) dX12_tests_142 rfl (vp_in_nI (show d < 7 by omega) (by decide)) (by rw [nI_clamp (by omega)]) rfl ?_
          refine X_aload_n (j := 1) dX12_tests_143 rfl rfl ?_
          refine X_get (j := 0) fo_X12_78 dX12_tests_144 rfl rfl ?_
          refine X_iload_n (j := 2) dX12_tests_147 rfl rfl ?_
          refine X_iconst (v := 0) dX12_tests_148 (by decide) ?_
          refine X_iast (j := 8) (g := upd ag d 0) (cs' := [(m, ex_o 12 [ex_i x0, ex_i x1, ex_r x2, ex_i x3, ex_i x4, ex_i x5, ex_i x6, ex_j x7, ex_i x8, ex_i x9, ex_r x10, ex_r x11, ex_r x12, ex_r x13, ex_r x14, ex_r x15, ex_r x16, ex_r x17, ex_r x18, ex_r x19, ex_r x20, ex_r x21, ex_r x22, ex_r x23, ex_r x24, ex_r x25, ex_i x26, ex_i x27, ex_r x28, ex_r x29, ex_r x30, ex_r x31, ex_r x32, ex_r x33, ex_r x34, ex_r x35, ex_r x36, ex_r x37, ex_r x38, ex_r x39, ex_i x40, ex_j x41, ex_r x42, ex_r x43, ex_r x44, ex_r x45, ex_r x46, ex_r x47, ex_r x48, ex_r x49, ex_r x50, ex_r x51, ex_r x52, ex_r x53, ex_i x54, ex_i x55, ex_i x56, ex_i x57, ex_r x58, ex_r x59, ex_r x60, ex_r x61, ex_i x62, ex_r x63, ex_r x64, ex_i x65, ex_j x66]), (x34, ex_a 1 7 w_1.1), (x35, ex_a 1 7 sb), (x36, ex_a 1 7 te), (x37, ex_a 1 7 w_1.2), (x30, ex_a 1 7 (upd kp d (w_1.1 d))), (x31, ex_a 1 7 kb), (x32, ex_a 1 7 ah), (x33, ex_a 1 7 (upd ag d 0))]) dX12_tests_149 rfl (vp_in_nI (show d < 7 by omega) (by decide)) (by rw [nI_clamp (by omega)]) rfl ?_
          refine X_aload_n (j := 1) dX12_tests_150 rfl rfl ?_
          refine X_get (j := 0) fo_X12_81 dX12_tests_151 rfl rfl ?_
          refine X_iload_n (j := 2) dX12_tests_154 rfl rfl ?_
          refine X_iconst (v := 0) dX12_tests_155 (by decide) ?_
          refine X_iast (j := 1) (g := upd w_1.1 d 0) (cs' := [(m, ex_o 12 [ex_i x0, ex_i x1, ex_r x2, ex_i x3, ex_i x4, ex_i x5, ex_i x6, ex_j x7, ex_i x8, ex_i x9, ex_r x10, ex_r x11, ex_r x12, ex_r x13, ex_r x14, ex_r x15, ex_r x16, ex_r x17, ex_r x18, ex_r x19, ex_r x20, ex_r x21, ex_r x22, ex_r x23, ex_r x24, ex_r x25, ex_i x26, ex_i x27, ex_r x28, ex_r x29, ex_r x30, ex_r x31, ex_r x32, ex_r x33, ex_r x34, ex_r x35, ex_r x36, ex_r x37, ex_r x38, ex_r x39, ex_i x40, ex_j x41, ex_r x42, ex_r x43, ex_r x44, ex_r x45, ex_r x46, ex_r x47, ex_r x48, ex_r x49, ex_r x50, ex_r x51, ex_r x52, ex_r x53, ex_i x54, ex_i x55, ex_i x56, ex_i x57, ex_r x58, ex_r x59, ex_r x60, ex_r x61, ex_i x62, ex_r x63, ex_r x64, ex_i x65, ex_j x66]), (x34, ex_a 1 7 (upd w_1.1 d 0)), (x35, ex_a 1 7 sb), (x36, ex_a 1 7 te), (x37, ex_a 1 7 w_1.2), (x30, ex_a 1 7 (upd kp d (w_1.1 d))), (x31, ex_a 1 7 kb), (x32, ex_a 1 7 ah), (x33, ex_a 1 7 (upd ag d 0))]) dX12_tests_156 rfl (vp_in_nI (show d < 7 by omega) (by decide)) (by rw [nI_clamp (by omega)]) rfl ?_
          refine X_aload_n (j := 1) dX12_tests_157 rfl rfl ?_
          refine X_get (j := 0) fo_X12_84 dX12_tests_158 rfl rfl ?_
          refine X_iload_n (j := 2) dX12_tests_161 rfl rfl ?_
          refine X_bipush (v := 20) dX12_tests_162 (by decide) ?_
          refine X_iast (j := 2) (g := upd sb d 20) (cs' := [(m, ex_o 12 [ex_i x0, ex_i x1, ex_r x2, ex_i x3, ex_i x4, ex_i x5, ex_i x6, ex_j x7, ex_i x8, ex_i x9, ex_r x10, ex_r x11, ex_r x12, ex_r x13, ex_r x14, ex_r x15, ex_r x16, ex_r x17, ex_r x18, ex_r x19, ex_r x20, ex_r x21, ex_r x22, ex_r x23, ex_r x24, ex_r x25, ex_i x26, ex_i x27, ex_r x28, ex_r x29, ex_r x30, ex_r x31, ex_r x32, ex_r x33, ex_r x34, ex_r x35, ex_r x36, ex_r x37, ex_r x38, ex_r x39, ex_i x40, ex_j x41, ex_r x42, ex_r x43, ex_r x44, ex_r x45, ex_r x46, ex_r x47, ex_r x48, ex_r x49, ex_r x50, ex_r x51, ex_r x52, ex_r x53, ex_i x54, ex_i x55, ex_i x56, ex_i x57, ex_r x58, ex_r x59, ex_r x60, ex_r x61, ex_i x62, ex_r x63, ex_r x64, ex_i x65, ex_j x66]), (x34, ex_a 1 7 (upd w_1.1 d 0)), (x35, ex_a 1 7 (upd sb d 20)), (x36, ex_a 1 7 te), (x37, ex_a 1 7 w_1.2), (x30, ex_a 1 7 (upd kp d (w_1.1 d))), (x31, ex_a 1 7 kb), (x32, ex_a 1 7 ah), (x33, ex_a 1 7 (upd ag d 0))]) dX12_tests_164 rfl (vp_in_nI (show d < 7 by omega) (by decide)) (by rw [nI_clamp (by omega)]) rfl ?_
          try dsimp only at hV
          refine X_re (cs' := [(m, ex_o 12 [ex_i x0, ex_i x1, ex_r x2, ex_i x3, ex_i x4, ex_i x5, ex_i x6, ex_j x7, ex_i x8, ex_i x9, ex_r x10, ex_r x11, ex_r x12, ex_r x13, ex_r x14, ex_r x15, ex_r x16, ex_r x17, ex_r x18, ex_r x19, ex_r x20, ex_r x21, ex_r x22, ex_r x23, ex_r x24, ex_r x25, ex_i x26, ex_i x27, ex_r x28, ex_r x29, ex_r x30, ex_r x31, ex_r x32, ex_r x33, ex_r x34, ex_r x35, ex_r x36, ex_r x37, ex_r x38, ex_r x39, ex_i x40, ex_j x41, ex_r x42, ex_r x43, ex_r x44, ex_r x45, ex_r x46, ex_r x47, ex_r x48, ex_r x49, ex_r x50, ex_r x51, ex_r x52, ex_r x53, ex_i x54, ex_i x55, ex_i x56, ex_i x57, ex_r x58, ex_r x59, ex_r x60, ex_r x61, ex_i x62, ex_r x63, ex_r x64, ex_i x65, ex_j x66]), (x30, ex_a 1 7 (upd kp d (w_1.1 d))), (x31, ex_a 1 7 kb), (x32, ex_a 1 7 ah), (x33, ex_a 1 7 (upd ag d 0)), (x34, ex_a 1 7 (upd w_1.1 d 0)), (x35, ex_a 1 7 (upd sb d 20)), (x36, ex_a 1 7 te), (x37, ex_a 1 7 w_1.2)]) [0, 5, 6, 7, 8, 1, 2, 3, 4] (show List.Perm [0, 5, 6, 7, 8, 1, 2, 3, 4] (List.range 9) from by decide) rfl ?_
          exact X_vret dX12_tests_165 (by (repeat refine ex_kc ?_) <;> rfl) (by subst hV; exact ⟨rfl, rfl⟩)
        · have hV := hV.trans (if_pos c_5)
          refine X_aload_n (j := 1) dX12_tests_117 rfl rfl ?_
          refine X_get (j := 0) fo_X12_69 dX12_tests_118 rfl rfl ?_
          refine X_iload_n (j := 2) dX12_tests_121 rfl rfl ?_
          refine X_iald (j := 5) (v := (kp d)) dX12_tests_122 rfl (vp_in_nI (show d < 7 by omega) (by decide)) (by rw [nI_clamp (by omega)]) ?_
          refine X_if_ne (tgt := 130) dX12_tests_123 (by decide) (fun c_6 => ?_) (fun c_6 => ?_)
          · have hV := hV.trans (if_neg c_6)
            refine X_iconst (v := 1) dX12_tests_130 (by decide) ?_
            refine X_goto (tgt := 135) dX12_tests_131 (by decide) ?_
            refine X_istore_n (lv' := [(2, ex_i 1), (0, ex_r m), (1, ex_i (nI d))]) dX12_tests_135 rfl (Nat.le_of_ble_eq_true rfl) rfl ?_
            refine X_aload_n (j := 1) dX12_tests_136 rfl rfl ?_
            refine X_get (j := 0) fo_X12_69 dX12_tests_137 rfl rfl ?_
            refine X_iload_n (j := 2) dX12_tests_140 rfl rfl ?_
            refine X_iload_n (j := 0) dX12_tests_141 rfl rfl ?_
            refine X_iast (j := 5) (g := upd kp d 1) (cs' := [(m, ex_o 12 [ex_i x0, ex_i x1, ex_r x2, ex_i x3, ex_i x4, ex_i x5, ex_i x6, ex_j x7, ex_i x8, ex_i x9, ex_r x10, ex_r x11, ex_r x12, ex_r x13, ex_r x14, ex_r x15, ex_r x16, ex_r x17, ex_r x18, ex_r x19, ex_r x20, ex_r x21, ex_r x22, ex_r x23, ex_r x24, ex_r x25, ex_i x26, ex_i x27, ex_r x28, ex_r x29, ex_r x30, ex_r x31, ex_r x32, ex_r x33, ex_r x34, ex_r x35, ex_r x36, ex_r x37, ex_r x38, ex_r x39, ex_i x40, ex_j x41, ex_r x42, ex_r x43, ex_r x44, ex_r x45, ex_r x46, ex_r x47, ex_r x48, ex_r x49, ex_r x50, ex_r x51, ex_r x52, ex_r x53, ex_i x54, ex_i x55, ex_i x56, ex_i x57, ex_r x58, ex_r x59, ex_r x60, ex_r x61, ex_i x62, ex_r x63, ex_r x64, ex_i x65, ex_j x66]), (x34, ex_a 1 7 w_1.1), (x35, ex_a 1 7 sb), (x36, ex_a 1 7 te), (x37, ex_a 1 7 w_1.2), (x30, ex_a 1 7 (upd kp d 1)), (x31, ex_a 1 7 kb), (x32, ex_a 1 7 ah), (x33, ex_a 1 7 ag)]) dX12_tests_142 rfl (vp_in_nI (show d < 7 by omega) (by decide)) (by rw [nI_clamp (by omega)]) rfl ?_
            refine X_aload_n (j := 1) dX12_tests_143 rfl rfl ?_
            refine X_get (j := 0) fo_X12_78 dX12_tests_144 rfl rfl ?_
            refine X_iload_n (j := 2) dX12_tests_147 rfl rfl ?_
            refine X_iconst (v := 0) dX12_tests_148 (by decide) ?_
            refine X_iast (j := 8) (g := upd ag d 0) (cs' := [(m, ex_o 12 [ex_i x0, ex_i x1, ex_r x2, ex_i x3, ex_i x4, ex_i x5, ex_i x6, ex_j x7, ex_i x8, ex_i x9, ex_r x10, ex_r x11, ex_r x12, ex_r x13, ex_r x14, ex_r x15, ex_r x16, ex_r x17, ex_r x18, ex_r x19, ex_r x20, ex_r x21, ex_r x22, ex_r x23, ex_r x24, ex_r x25, ex_i x26, ex_i x27, ex_r x28, ex_r x29, ex_r x30, ex_r x31, ex_r x32, ex_r x33, ex_r x34, ex_r x35, ex_r x36, ex_r x37, ex_r x38, ex_r x39, ex_i x40, ex_j x41, ex_r x42, ex_r x43, ex_r x44, ex_r x45, ex_r x46, ex_r x47, ex_r x48, ex_r x49, ex_r x50, ex_r x51, ex_r x52, ex_r x53, ex_i x54, ex_i x55, ex_i x56, ex_i x57, ex_r x58, ex_r x59, ex_r x60, ex_r x61, ex_i x62, ex_r x63, ex_r x64, ex_i x65, ex_j x66]), (x34, ex_a 1 7 w_1.1), (x35, ex_a 1 7 sb), (x36, ex_a 1 7 te), (x37, ex_a 1 7 w_1.2), (x30, ex_a 1 7 (upd kp d 1)), (x31, ex_a 1 7 kb), (x32, ex_a 1 7 ah), (x33, ex_a 1 7 (upd ag d 0))]) dX12_tests_149 rfl (vp_in_nI (show d < 7 by omega) (by decide)) (by rw [nI_clamp (by omega)]) rfl ?_
            refine X_aload_n (j := 1) dX12_tests_150 rfl rfl ?_
            refine X_get (j := 0) fo_X12_81 dX12_tests_151 rfl rfl ?_
            refine X_iload_n (j := 2) dX12_tests_154 rfl rfl ?_
            refine X_iconst (v := 0) dX12_tests_155 (by decide) ?_
            refine X_iast (j := 1) (g := upd w_1.1 d 0) (cs' := [(m, ex_o 12 [ex_i x0, ex_i x1, ex_r x2, ex_i x3, ex_i x4, ex_i x5, ex_i x6, ex_j x7, ex_i x8, ex_i x9, ex_r x10, ex_r x11, ex_r x12, ex_r x13, ex_r x14, ex_r x15, ex_r x16, ex_r x17, ex_r x18, ex_r x19, ex_r x20, ex_r x21, ex_r x22, ex_r x23, ex_r x24, ex_r x25, ex_i x26, ex_i x27, ex_r x28, ex_r x29, ex_r x30, ex_r x31, ex_r x32, ex_r x33, ex_r x34, ex_r x35, ex_r x36, ex_r x37, ex_r x38, ex_r x39, ex_i x40, ex_j x41, ex_r x42, ex_r x43, ex_r x44, ex_r x45, ex_r x46, ex_r x47, ex_r x48, ex_r x49, ex_r x50, ex_r x51, ex_r x52, ex_r x53, ex_i x54, ex_i x55, ex_i x56, ex_i x57, ex_r x58, ex_r x59, ex_r x60, ex_r x61, ex_i x62, ex_r x63, ex_r x64, ex_i x65, ex_j x66]), (x34, ex_a 1 7 (upd w_1.1 d 0)), (x35, ex_a 1 7 sb), (x36, ex_a 1 7 te), (x37, ex_a 1 7 w_1.2), (x30, ex_a 1 7 (upd kp d 1)), (x31, ex_a 1 7 kb), (x32, ex_a 1 7 ah), (x33, ex_a 1 7 (upd ag d 0))]) dX12_tests_156 rfl (vp_in_nI (show d < 7 by omega) (by decide)) (by rw [nI_clamp (by omega)]) rfl ?_
            refine X_aload_n (j := 1) dX12_tests_157 rfl rfl ?_
            refine X_get (j := 0) fo_X12_84 dX12_tests_158 rfl rfl ?_
            refine X_iload_n (j := 2) dX12_tests_161 rfl rfl ?_
            refine X_bipush (v := 20) dX12_tests_162 (by decide) ?_
            refine X_iast (j := 2) (g := upd sb d 20) (cs' := [(m, ex_o 12 [ex_i x0, ex_i x1, ex_r x2, ex_i x3, ex_i x4, ex_i x5, ex_i x6, ex_j x7, ex_i x8, ex_i x9, ex_r x10, ex_r x11, ex_r x12, ex_r x13, ex_r x14, ex_r x15, ex_r x16, ex_r x17, ex_r x18, ex_r x19, ex_r x20, ex_r x21, ex_r x22, ex_r x23, ex_r x24, ex_r x25, ex_i x26, ex_i x27, ex_r x28, ex_r x29, ex_r x30, ex_r x31, ex_r x32, ex_r x33, ex_r x34, ex_r x35, ex_r x36, ex_r x37, ex_r x38, ex_r x39, ex_i x40, ex_j x41, ex_r x42, ex_r x43, ex_r x44, ex_r x45, ex_r x46, ex_r x47, ex_r x48, ex_r x49, ex_r x50, ex_r x51, ex_r x52, ex_r x53, ex_i x54, ex_i x55, ex_i x56, ex_i x57, ex_r x58, ex_r x59, ex_r x60, ex_r x61, ex_i x62, ex_r x63, ex_r x64, ex_i x65, ex_j x66]), (x34, ex_a 1 7 (upd w_1.1 d 0)), (x35, ex_a 1 7 (upd sb d 20)), (x36, ex_a 1 7 te), (x37, ex_a 1 7 w_1.2), (x30, ex_a 1 7 (upd kp d 1)), (x31, ex_a 1 7 kb), (x32, ex_a 1 7 ah), (x33, ex_a 1 7 (upd ag d 0))]) dX12_tests_164 rfl (vp_in_nI (show d < 7 by omega) (by decide)) (by rw [nI_clamp (by omega)]) rfl ?_
            try dsimp only at hV
            refine X_re (cs' := [(m, ex_o 12 [ex_i x0, ex_i x1, ex_r x2, ex_i x3, ex_i x4, ex_i x5, ex_i x6, ex_j x7, ex_i x8, ex_i x9, ex_r x10, ex_r x11, ex_r x12, ex_r x13, ex_r x14, ex_r x15, ex_r x16, ex_r x17, ex_r x18, ex_r x19, ex_r x20, ex_r x21, ex_r x22, ex_r x23, ex_r x24, ex_r x25, ex_i x26, ex_i x27, ex_r x28, ex_r x29, ex_r x30, ex_r x31, ex_r x32, ex_r x33, ex_r x34, ex_r x35, ex_r x36, ex_r x37, ex_r x38, ex_r x39, ex_i x40, ex_j x41, ex_r x42, ex_r x43, ex_r x44, ex_r x45, ex_r x46, ex_r x47, ex_r x48, ex_r x49, ex_r x50, ex_r x51, ex_r x52, ex_r x53, ex_i x54, ex_i x55, ex_i x56, ex_i x57, ex_r x58, ex_r x59, ex_r x60, ex_r x61, ex_i x62, ex_r x63, ex_r x64, ex_i x65, ex_j x66]), (x30, ex_a 1 7 (upd kp d 1)), (x31, ex_a 1 7 kb), (x32, ex_a 1 7 ah), (x33, ex_a 1 7 (upd ag d 0)), (x34, ex_a 1 7 (upd w_1.1 d 0)), (x35, ex_a 1 7 (upd sb d 20)), (x36, ex_a 1 7 te), (x37, ex_a 1 7 w_1.2)]) [0, 5, 6, 7, 8, 1, 2, 3, 4] (show List.Perm [0, 5, 6, 7, 8, 1, 2, 3, 4] (List.range 9) from by decide) rfl ?_
            exact X_vret dX12_tests_165 (by (repeat refine ex_kc ?_) <;> rfl) (by subst hV; exact ⟨rfl, rfl⟩)
          · have hV := hV.trans (if_pos c_6)
            refine X_iload_n (j := 0) dX12_tests_126 rfl rfl ?_
            refine X_if_eq (tgt := 134) dX12_tests_127 (by decide) (fun c_7 => ?_) (fun c_7 => ?_)
            · have hV := hV.trans (if_pos c_7)
              refine X_iconst (v := 0) dX12_tests_134 (by decide) ?_
              refine X_istore_n (lv' := [(2, ex_i 0), (0, ex_r m), (1, ex_i (nI d))]) dX12_tests_135 rfl (Nat.le_of_ble_eq_true rfl) rfl ?_
              refine X_aload_n (j := 1) dX12_tests_136 rfl rfl ?_
              refine X_get (j := 0) fo_X12_69 dX12_tests_137 rfl rfl ?_
              refine X_iload_n (j := 2) dX12_tests_140 rfl rfl ?_
              refine X_iload_n (j := 0) dX12_tests_141 rfl rfl ?_
              refine X_iast (j := 5) (g := upd kp d 0) (cs' := [(m, ex_o 12 [ex_i x0, ex_i x1, ex_r x2, ex_i x3, ex_i x4, ex_i x5, ex_i x6, ex_j x7, ex_i x8, ex_i x9, ex_r x10, ex_r x11, ex_r x12, ex_r x13, ex_r x14, ex_r x15, ex_r x16, ex_r x17, ex_r x18, ex_r x19, ex_r x20, ex_r x21, ex_r x22, ex_r x23, ex_r x24, ex_r x25, ex_i x26, ex_i x27, ex_r x28, ex_r x29, ex_r x30, ex_r x31, ex_r x32, ex_r x33, ex_r x34, ex_r x35, ex_r x36, ex_r x37, ex_r x38, ex_r x39, ex_i x40, ex_j x41, ex_r x42, ex_r x43, ex_r x44, ex_r x45, ex_r x46, ex_r x47, ex_r x48, ex_r x49, ex_r x50, ex_r x51, ex_r x52, ex_r x53, ex_i x54, ex_i x55, ex_i x56, ex_i x57, ex_r x58, ex_r x59, ex_r x60, ex_r x61, ex_i x62, ex_r x63, ex_r x64, ex_i x65, ex_j x66]), (x34, ex_a 1 7 w_1.1), (x35, ex_a 1 7 sb), (x36, ex_a 1 7 te), (x37, ex_a 1 7 w_1.2), (x30, ex_a 1 7 (upd kp d 0)), (x31, ex_a 1 7 kb), (x32, ex_a 1 7 ah), (x33, ex_a 1 7 ag)]) dX12_tests_142 rfl (vp_in_nI (show d < 7 by omega) (by decide)) (by rw [nI_clamp (by omega)]) rfl ?_
              refine X_aload_n (j := 1) dX12_tests_143 rfl rfl ?_
              refine X_get (j := 0) fo_X12_78 dX12_tests_144 rfl rfl ?_
              refine X_iload_n (j := 2) dX12_tests_147 rfl rfl ?_
              refine X_iconst (v := 0) dX12_tests_148 (by decide) ?_
              refine X_iast (j := 8) (g := upd ag d 0) (cs' := [(m, ex_o 12 [ex_i x0, ex_i x1, ex_r x2, ex_i x3, ex_i x4, ex_i x5, ex_i x6, ex_j x7, ex_i x8, ex_i x9, ex_r x10, ex_r x11, ex_r x12, ex_r x13, ex_r x14, ex_r x15, ex_r x16, ex_r x17, ex_r x18, ex_r x19, ex_r x20, ex_r x21, ex_r x22, ex_r x23, ex_r x24, ex_r x25, ex_i x26, ex_i x27, ex_r x28, ex_r x29, ex_r x30, ex_r x31, ex_r x32, ex_r x33, ex_r x34, ex_r x35, ex_r x36, ex_r x37, ex_r x38, ex_r x39, ex_i x40, ex_j x41, ex_r x42, ex_r x43, ex_r x44, ex_r x45, ex_r x46, ex_r x47, ex_r x48, ex_r x49, ex_r x50, ex_r x51, ex_r x52, ex_r x53, ex_i x54, ex_i x55, ex_i x56, ex_i x57, ex_r x58, ex_r x59, ex_r x60, ex_r x61, ex_i x62, ex_r x63, ex_r x64, ex_i x65, ex_j x66]), (x34, ex_a 1 7 w_1.1), (x35, ex_a 1 7 sb), (x36, ex_a 1 7 te), (x37, ex_a 1 7 w_1.2), (x30, ex_a 1 7 (upd kp d 0)), (x31, ex_a 1 7 kb), (x32, ex_a 1 7 ah), (x33, ex_a 1 7 (upd ag d 0))]) dX12_tests_149 rfl (vp_in_nI (show d < 7 by omega) (by decide)) (by rw [nI_clamp (by omega)]) rfl ?_
              refine X_aload_n (j := 1) dX12_tests_150 rfl rfl ?_
              refine X_get (j := 0) fo_X12_81 dX12_tests_151 rfl rfl ?_
              refine X_iload_n (j := 2) dX12_tests_154 rfl rfl ?_
              refine X_iconst (v := 0) dX12_tests_155 (by decide) ?_
              refine X_iast (j := 1) (g := upd w_1.1 d 0) (cs' := [(m, ex_o 12 [ex_i x0, ex_i x1, ex_r x2, ex_i x3, ex_i x4, ex_i x5, ex_i x6, ex_j x7, ex_i x8, ex_i x9, ex_r x10, ex_r x11, ex_r x12, ex_r x13, ex_r x14, ex_r x15, ex_r x16, ex_r x17, ex_r x18, ex_r x19, ex_r x20, ex_r x21, ex_r x22, ex_r x23, ex_r x24, ex_r x25, ex_i x26, ex_i x27, ex_r x28, ex_r x29, ex_r x30, ex_r x31, ex_r x32, ex_r x33, ex_r x34, ex_r x35, ex_r x36, ex_r x37, ex_r x38, ex_r x39, ex_i x40, ex_j x41, ex_r x42, ex_r x43, ex_r x44, ex_r x45, ex_r x46, ex_r x47, ex_r x48, ex_r x49, ex_r x50, ex_r x51, ex_r x52, ex_r x53, ex_i x54, ex_i x55, ex_i x56, ex_i x57, ex_r x58, ex_r x59, ex_r x60, ex_r x61, ex_i x62, ex_r x63, ex_r x64, ex_i x65, ex_j x66]), (x34, ex_a 1 7 (upd w_1.1 d 0)), (x35, ex_a 1 7 sb), (x36, ex_a 1 7 te), (x37, ex_a 1 7 w_1.2), (x30, ex_a 1 7 (upd kp d 0)), (x31, ex_a 1 7 kb), (x32, ex_a 1 7 ah), (x33, ex_a 1 7 (upd ag d 0))]) dX12_tests_156 rfl (vp_in_nI (show d < 7 by omega) (by decide)) (by rw [nI_clamp (by omega)]) rfl ?_
              refine X_aload_n (j := 1) dX12_tests_157 rfl rfl ?_
              refine X_get (j := 0) fo_X12_84 dX12_tests_158 rfl rfl ?_
              refine X_iload_n (j := 2) dX12_tests_161 rfl rfl ?_
              refine X_bipush (v := 20) dX12_tests_162 (by decide) ?_
              refine X_iast (j := 2) (g := upd sb d 20) (cs' := [(m, ex_o 12 [ex_i x0, ex_i x1, ex_r x2, ex_i x3, ex_i x4, ex_i x5, ex_i x6, ex_j x7, ex_i x8, ex_i x9, ex_r x10, ex_r x11, ex_r x12, ex_r x13, ex_r x14, ex_r x15, ex_r x16, ex_r x17, ex_r x18, ex_r x19, ex_r x20, ex_r x21, ex_r x22, ex_r x23, ex_r x24, ex_r x25, ex_i x26, ex_i x27, ex_r x28, ex_r x29, ex_r x30, ex_r x31, ex_r x32, ex_r x33, ex_r x34, ex_r x35, ex_r x36, ex_r x37, ex_r x38, ex_r x39, ex_i x40, ex_j x41, ex_r x42, ex_r x43, ex_r x44, ex_r x45, ex_r x46, ex_r x47, ex_r x48, ex_r x49, ex_r x50, ex_r x51, ex_r x52, ex_r x53, ex_i x54, ex_i x55, ex_i x56, ex_i x57, ex_r x58, ex_r x59, ex_r x60, ex_r x61, ex_i x62, ex_r x63, ex_r x64, ex_i x65, ex_j x66]), (x34, ex_a 1 7 (upd w_1.1 d 0)), (x35, ex_a 1 7 (upd sb d 20)), (x36, ex_a 1 7 te), (x37, ex_a 1 7 w_1.2), (x30, ex_a 1 7 (upd kp d 0)), (x31, ex_a 1 7 kb), (x32, ex_a 1 7 ah), (x33, ex_a 1 7 (upd ag d 0))]) dX12_tests_164 rfl (vp_in_nI (show d < 7 by omega) (by decide)) (by rw [nI_clamp (by omega)]) rfl ?_
              try dsimp only at hV
              refine X_re (cs' := [(m, ex_o 12 [ex_i x0, ex_i x1, ex_r x2, ex_i x3, ex_i x4, ex_i x5, ex_i x6, ex_j x7, ex_i x8, ex_i x9, ex_r x10, ex_r x11, ex_r x12, ex_r x13, ex_r x14, ex_r x15, ex_r x16, ex_r x17, ex_r x18, ex_r x19, ex_r x20, ex_r x21, ex_r x22, ex_r x23, ex_r x24, ex_r x25, ex_i x26, ex_i x27, ex_r x28, ex_r x29, ex_r x30, ex_r x31, ex_r x32, ex_r x33, ex_r x34, ex_r x35, ex_r x36, ex_r x37, ex_r x38, ex_r x39, ex_i x40, ex_j x41, ex_r x42, ex_r x43, ex_r x44, ex_r x45, ex_r x46, ex_r x47, ex_r x48, ex_r x49, ex_r x50, ex_r x51, ex_r x52, ex_r x53, ex_i x54, ex_i x55, ex_i x56, ex_i x57, ex_r x58, ex_r x59, ex_r x60, ex_r x61, ex_i x62, ex_r x63, ex_r x64, ex_i x65, ex_j x66]), (x30, ex_a 1 7 (upd kp d 0)), (x31, ex_a 1 7 kb), (x32, ex_a 1 7 ah), (x33, ex_a 1 7 (upd ag d 0)), (x34, ex_a 1 7 (upd w_1.1 d 0)), (x35, ex_a 1 7 (upd sb d 20)), (x36, ex_a 1 7 te), (x37, ex_a 1 7 w_1.2)]) [0, 5, 6, 7, 8, 1, 2, 3, 4] (show List.Perm [0, 5, 6, 7, 8, 1, 2, 3, 4] (List.range 9) from by decide) rfl ?_
              exact X_vret dX12_tests_165 (by (repeat refine ex_kc ?_) <;> rfl) (by subst hV; exact ⟨rfl, rfl⟩)
            · have hV := hV.trans (if_neg c_7)
              refine X_iconst (v := 1) dX12_tests_130 (by decide) ?_
              refine X_goto (tgt := 135) dX12_tests_131 (by decide) ?_
              refine X_istore_n (lv' := [(2, ex_i 1), (0, ex_r m), (1, ex_i (nI d))]) dX12_tests_135 rfl (Nat.le_of_ble_eq_true rfl) rfl ?_
              refine X_aload_n (j := 1) dX12_tests_136 rfl rfl ?_
              refine X_get (j := 0) fo_X12_69 dX12_tests_137 rfl rfl ?_
              refine X_iload_n (j := 2) dX12_tests_140 rfl rfl ?_
              refine X_iload_n (j := 0) dX12_tests_141 rfl rfl ?_
              refine X_iast (j := 5) (g := upd kp d 1) (cs' := [(m, ex_o 12 [ex_i x0, ex_i x1, ex_r x2, ex_i x3, ex_i x4, ex_i x5, ex_i x6, ex_j x7, ex_i x8, ex_i x9, ex_r x10, ex_r x11, ex_r x12, ex_r x13, ex_r x14, ex_r x15, ex_r x16, ex_r x17, ex_r x18, ex_r x19, ex_r x20, ex_r x21, ex_r x22, ex_r x23, ex_r x24, ex_r x25, ex_i x26, ex_i x27, ex_r x28, ex_r x29, ex_r x30, ex_r x31, ex_r x32, ex_r x33, ex_r x34, ex_r x35, ex_r x36, ex_r x37, ex_r x38, ex_r x39, ex_i x40, ex_j x41, ex_r x42, ex_r x43, ex_r x44, ex_r x45, ex_r x46, ex_r x47, ex_r x48, ex_r x49, ex_r x50, ex_r x51, ex_r x52, ex_r x53, ex_i x54, ex_i x55, ex_i x56, ex_i x57, ex_r x58, ex_r x59, ex_r x60, ex_r x61, ex_i x62, ex_r x63, ex_r x64, ex_i x65, ex_j x66]), (x34, ex_a 1 7 w_1.1), (x35, ex_a 1 7 sb), (x36, ex_a 1 7 te), (x37, ex_a 1 7 w_1.2), (x30, ex_a 1 7 (upd kp d 1)), (x31, ex_a 1 7 kb), (x32, ex_a 1 7 ah), (x33, ex_a 1 7 ag)]) dX12_tests_142 rfl (vp_in_nI (show d < 7 by omega) (by decide)) (by rw [nI_clamp (by omega)]) rfl ?_
              refine X_aload_n (j := 1) dX12_tests_143 rfl rfl ?_
              refine X_get (j := 0) fo_X12_78 dX12_tests_144 rfl rfl ?_
              refine X_iload_n (j := 2) dX12_tests_147 rfl rfl ?_
              refine X_iconst (v := 0) dX12_tests_148 (by decide) ?_
              refine X_iast (j := 8) (g := upd ag d 0) (cs' := [(m, ex_o 12 [ex_i x0, ex_i x1, ex_r x2, ex_i x3, ex_i x4, ex_i x5, ex_i x6, ex_j x7, ex_i x8, ex_i x9, ex_r x10, ex_r x11, ex_r x12, ex_r x13, ex_r x14, ex_r x15, ex_r x16, ex_r x17, ex_r x18, ex_r x19, ex_r x20, ex_r x21, ex_r x22, ex_r x23, ex_r x24, ex_r x25, ex_i x26, ex_i x27, ex_r x28, ex_r x29, ex_r x30, ex_r x31, ex_r x32, ex_r x33, ex_r x34, ex_r x35, ex_r x36, ex_r x37, ex_r x38, ex_r x39, ex_i x40, ex_j x41, ex_r x42, ex_r x43, ex_r x44, ex_r x45, ex_r x46, ex_r x47, ex_r x48, ex_r x49, ex_r x50, ex_r x51, ex_r x52, ex_r x53, ex_i x54, ex_i x55, ex_i x56, ex_i x57, ex_r x58, ex_r x59, ex_r x60, ex_r x61, ex_i x62, ex_r x63, ex_r x64, ex_i x65, ex_j x66]), (x34, ex_a 1 7 w_1.1), (x35, ex_a 1 7 sb), (x36, ex_a 1 7 te), (x37, ex_a 1 7 w_1.2), (x30, ex_a 1 7 (upd kp d 1)), (x31, ex_a 1 7 kb), (x32, ex_a 1 7 ah), (x33, ex_a 1 7 (upd ag d 0))]) dX12_tests_149 rfl (vp_in_nI (show d < 7 by omega) (by decide)) (by rw [nI_clamp (by omega)]) rfl ?_
              refine X_aload_n (j := 1) dX12_tests_150 rfl rfl ?_
              refine X_get (j := 0) fo_X12_81 dX12_tests_151 rfl rfl ?_
              refine X_iload_n (j := 2) dX12_tests_154 rfl rfl ?_
              refine X_iconst (v := 0) dX12_tests_155 (by decide) ?_
              refine X_iast (j := 1) (g := upd w_1.1 d 0) (cs' := [(m, ex_o 12 [ex_i x0, ex_i x1, ex_r x2, ex_i x3, ex_i x4, ex_i x5, ex_i x6, ex_j x7, ex_i x8, ex_i x9, ex_r x10, ex_r x11, ex_r x12, ex_r x13, ex_r x14, ex_r x15, ex_r x16, ex_r x17, ex_r x18, ex_r x19, ex_r x20, ex_r x21, ex_r x22, ex_r x23, ex_r x24, ex_r x25, ex_i x26, ex_i x27, ex_r x28, ex_r x29, ex_r x30, ex_r x31, ex_r x32, ex_r x33, ex_r x34, ex_r x35, ex_r x36, ex_r x37, ex_r x38, ex_r x39, ex_i x40, ex_j x41, ex_r x42, ex_r x43, ex_r x44, ex_r x45, ex_r x46, ex_r x47, ex_r x48, ex_r x49, ex_r x50, ex_r x51, ex_r x52, ex_r x53, ex_i x54, ex_i x55, ex_i x56, ex_i x57, ex_r x58, ex_r x59, ex_r x60, ex_r x61, ex_i x62, ex_r x63, ex_r x64, ex_i x65, ex_j x66]), (x34, ex_a 1 7 (upd w_1.1 d 0)), (x35, ex_a 1 7 sb), (x36, ex_a 1 7 te), (x37, ex_a 1 7 w_1.2), (x30, ex_a 1 7 (upd kp d 1)), (x31, ex_a 1 7 kb), (x32, ex_a 1 7 ah), (x33, ex_a 1 7 (upd ag d 0))]) dX12_tests_156 rfl (vp_in_nI (show d < 7 by omega) (by decide)) (by rw [nI_clamp (by omega)]) rfl ?_
              refine X_aload_n (j := 1) dX12_tests_157 rfl rfl ?_
              refine X_get (j := 0) fo_X12_84 dX12_tests_158 rfl rfl ?_
              refine X_iload_n (j := 2) dX12_tests_161 rfl rfl ?_
              refine X_bipush (v := 20) dX12_tests_162 (by decide) ?_
              refine X_iast (j := 2) (g := upd sb d 20) (cs' := [(m, ex_o 12 [ex_i x0, ex_i x1, ex_r x2, ex_i x3, ex_i x4, ex_i x5, ex_i x6, ex_j x7, ex_i x8, ex_i x9, ex_r x10, ex_r x11, ex_r x12, ex_r x13, ex_r x14, ex_r x15, ex_r x16, ex_r x17, ex_r x18, ex_r x19, ex_r x20, ex_r x21, ex_r x22, ex_r x23, ex_r x24, ex_r x25, ex_i x26, ex_i x27, ex_r x28, ex_r x29, ex_r x30, ex_r x31, ex_r x32, ex_r x33, ex_r x34, ex_r x35, ex_r x36, ex_r x37, ex_r x38, ex_r x39, ex_i x40, ex_j x41, ex_r x42, ex_r x43, ex_r x44, ex_r x45, ex_r x46, ex_r x47, ex_r x48, ex_r x49, ex_r x50, ex_r x51, ex_r x52, ex_r x53, ex_i x54, ex_i x55, ex_i x56, ex_i x57, ex_r x58, ex_r x59, ex_r x60, ex_r x61, ex_i x62, ex_r x63, ex_r x64, ex_i x65, ex_j x66]), (x34, ex_a 1 7 (upd w_1.1 d 0)), (x35, ex_a 1 7 (upd sb d 20)), (x36, ex_a 1 7 te), (x37, ex_a 1 7 w_1.2), (x30, ex_a 1 7 (upd kp d 1)), (x31, ex_a 1 7 kb), (x32, ex_a 1 7 ah), (x33, ex_a 1 7 (upd ag d 0))]) dX12_tests_164 rfl (vp_in_nI (show d < 7 by omega) (by decide)) (by rw [nI_clamp (by omega)]) rfl ?_
              try dsimp only at hV
              refine X_re (cs' := [(m, ex_o 12 [ex_i x0, ex_i x1, ex_r x2, ex_i x3, ex_i x4, ex_i x5, ex_i x6, ex_j x7, ex_i x8, ex_i x9, ex_r x10, ex_r x11, ex_r x12, ex_r x13, ex_r x14, ex_r x15, ex_r x16, ex_r x17, ex_r x18, ex_r x19, ex_r x20, ex_r x21, ex_r x22, ex_r x23, ex_r x24, ex_r x25, ex_i x26, ex_i x27, ex_r x28, ex_r x29, ex_r x30, ex_r x31, ex_r x32, ex_r x33, ex_r x34, ex_r x35, ex_r x36, ex_r x37, ex_r x38, ex_r x39, ex_i x40, ex_j x41, ex_r x42, ex_r x43, ex_r x44, ex_r x45, ex_r x46, ex_r x47, ex_r x48, ex_r x49, ex_r x50, ex_r x51, ex_r x52, ex_r x53, ex_i x54, ex_i x55, ex_i x56, ex_i x57, ex_r x58, ex_r x59, ex_r x60, ex_r x61, ex_i x62, ex_r x63, ex_r x64, ex_i x65, ex_j x66]), (x30, ex_a 1 7 (upd kp d 1)), (x31, ex_a 1 7 kb), (x32, ex_a 1 7 ah), (x33, ex_a 1 7 (upd ag d 0)), (x34, ex_a 1 7 (upd w_1.1 d 0)), (x35, ex_a 1 7 (upd sb d 20)), (x36, ex_a 1 7 te), (x37, ex_a 1 7 w_1.2)]) [0, 5, 6, 7, 8, 1, 2, 3, 4] (show List.Perm [0, 5, 6, 7, 8, 1, 2, 3, 4] (List.range 9) from by decide) rfl ?_
              exact X_vret dX12_tests_165 (by (repeat refine ex_kc ?_) <;> rfl) (by subst hV; exact ⟨rfl, rfl⟩)
      · have hV := hV.trans (if_pos c_4)
        refine X_aload_n (j := 1) dX12_tests_87 rfl rfl ?_
        refine X_get (j := 0) fo_X12_69 dX12_tests_88 rfl rfl ?_
        refine X_iload_n (j := 2) dX12_tests_91 rfl rfl ?_
        refine X_iald (j := 5) (v := (kp d)) dX12_tests_92 rfl (vp_in_nI (show d < 7 by omega) (by decide)) (by rw [nI_clamp (by omega)]) ?_
        refine X_if_eq (tgt := 104) dX12_tests_93 (by decide) (fun c_8 => ?_) (fun c_8 => ?_)
        · have hV := hV.trans (if_pos c_8)
          refine X_iconst (v := 0) dX12_tests_104 (by decide) ?_
          refine X_istore_n (lv' := [(2, ex_i 0), (0, ex_r m), (1, ex_i (nI d))]) dX12_tests_105 rfl (Nat.le_of_ble_eq_true rfl) rfl ?_
          refine X_aload_n (j := 1) dX12_tests_106 rfl rfl ?_
          refine X_get (j := 0) fo_X12_72 dX12_tests_107 rfl rfl ?_
          refine X_iload_n (j := 2) dX12_tests_110 rfl rfl ?_
          refine X_iald (j := 6) (v := (kb d)) dX12_tests_111 rfl (vp_in_nI (show d < 7 by omega) (by decide)) (by rw [nI_clamp (by omega)]) ?_
          refine X_bipush (v := 27) dX12_tests_112 (by decide) ?_
          refine X_icmp_ne (tgt := 136) dX12_tests_114 (by decide) (fun _ => ?_) (fun c_ => absurd c_ (by have q0 := c_4; simp only [lt_ti, le_ti, eq_ti, ti_26, ti_27] at q0 ⊢; omega))
          refine X_aload_n (j := 1) dX12_tests_136 rfl rfl ?_
          refine X_get (j := 0) fo_X12_69 dX12_tests_137 rfl rfl ?_
          refine X_iload_n (j := 2) dX12_tests_140 rfl rfl ?_
          refine X_iload_n (j := 0) dX12_tests_141 rfl rfl ?_
          refine X_iast (j := 5) (g := upd kp d 0) (cs' := [(m, ex_o 12 [ex_i x0, ex_i x1, ex_r x2, ex_i x3, ex_i x4, ex_i x5, ex_i x6, ex_j x7, ex_i x8, ex_i x9, ex_r x10, ex_r x11, ex_r x12, ex_r x13, ex_r x14, ex_r x15, ex_r x16, ex_r x17, ex_r x18, ex_r x19, ex_r x20, ex_r x21, ex_r x22, ex_r x23, ex_r x24, ex_r x25, ex_i x26, ex_i x27, ex_r x28, ex_r x29, ex_r x30, ex_r x31, ex_r x32, ex_r x33, ex_r x34, ex_r x35, ex_r x36, ex_r x37, ex_r x38, ex_r x39, ex_i x40, ex_j x41, ex_r x42, ex_r x43, ex_r x44, ex_r x45, ex_r x46, ex_r x47, ex_r x48, ex_r x49, ex_r x50, ex_r x51, ex_r x52, ex_r x53, ex_i x54, ex_i x55, ex_i x56, ex_i x57, ex_r x58, ex_r x59, ex_r x60, ex_r x61, ex_i x62, ex_r x63, ex_r x64, ex_i x65, ex_j x66]), (x34, ex_a 1 7 w_1.1), (x35, ex_a 1 7 sb), (x36, ex_a 1 7 te), (x37, ex_a 1 7 w_1.2), (x30, ex_a 1 7 (upd kp d 0)), (x31, ex_a 1 7 kb), (x32, ex_a 1 7 ah), (x33, ex_a 1 7 ag)]) dX12_tests_142 rfl (vp_in_nI (show d < 7 by omega) (by decide)) (by rw [nI_clamp (by omega)]) rfl ?_
          refine X_aload_n (j := 1) dX12_tests_143 rfl rfl ?_
          refine X_get (j := 0) fo_X12_78 dX12_tests_144 rfl rfl ?_
          refine X_iload_n (j := 2) dX12_tests_147 rfl rfl ?_
          refine X_iconst (v := 0) dX12_tests_148 (by decide) ?_
          refine X_iast (j := 8) (g := upd ag d 0) (cs' := [(m, ex_o 12 [ex_i x0, ex_i x1, ex_r x2, ex_i x3, ex_i x4, ex_i x5, ex_i x6, ex_j x7, ex_i x8, ex_i x9, ex_r x10, ex_r x11, ex_r x12, ex_r x13, ex_r x14, ex_r x15, ex_r x16, ex_r x17, ex_r x18, ex_r x19, ex_r x20, ex_r x21, ex_r x22, ex_r x23, ex_r x24, ex_r x25, ex_i x26, ex_i x27, ex_r x28, ex_r x29, ex_r x30, ex_r x31, ex_r x32, ex_r x33, ex_r x34, ex_r x35, ex_r x36, ex_r x37, ex_r x38, ex_r x39, ex_i x40, ex_j x41, ex_r x42, ex_r x43, ex_r x44, ex_r x45, ex_r x46, ex_r x47, ex_r x48, ex_r x49, ex_r x50, ex_r x51, ex_r x52, ex_r x53, ex_i x54, ex_i x55, ex_i x56, ex_i x57, ex_r x58, ex_r x59, ex_r x60, ex_r x61, ex_i x62, ex_r x63, ex_r x64, ex_i x65, ex_j x66]), (x34, ex_a 1 7 w_1.1), (x35, ex_a 1 7 sb), (x36, ex_a 1 7 te), (x37, ex_a 1 7 w_1.2), (x30, ex_a 1 7 (upd kp d 0)), (x31, ex_a 1 7 kb), (x32, ex_a 1 7 ah), (x33, ex_a 1 7 (upd ag d 0))]) dX12_tests_149 rfl (vp_in_nI (show d < 7 by omega) (by decide)) (by rw [nI_clamp (by omega)]) rfl ?_
          refine X_aload_n (j := 1) dX12_tests_150 rfl rfl ?_
          refine X_get (j := 0) fo_X12_81 dX12_tests_151 rfl rfl ?_
          refine X_iload_n (j := 2) dX12_tests_154 rfl rfl ?_
          refine X_iconst (v := 0) dX12_tests_155 (by decide) ?_
          refine X_iast (j := 1) (g := upd w_1.1 d 0) (cs' := [(m, ex_o 12 [ex_i x0, ex_i x1, ex_r x2, ex_i x3, ex_i x4, ex_i x5, ex_i x6, ex_j x7, ex_i x8, ex_i x9, ex_r x10, ex_r x11, ex_r x12, ex_r x13, ex_r x14, ex_r x15, ex_r x16, ex_r x17, ex_r x18, ex_r x19, ex_r x20, ex_r x21, ex_r x22, ex_r x23, ex_r x24, ex_r x25, ex_i x26, ex_i x27, ex_r x28, ex_r x29, ex_r x30, ex_r x31, ex_r x32, ex_r x33, ex_r x34, ex_r x35, ex_r x36, ex_r x37, ex_r x38, ex_r x39, ex_i x40, ex_j x41, ex_r x42, ex_r x43, ex_r x44, ex_r x45, ex_r x46, ex_r x47, ex_r x48, ex_r x49, ex_r x50, ex_r x51, ex_r x52, ex_r x53, ex_i x54, ex_i x55, ex_i x56, ex_i x57, ex_r x58, ex_r x59, ex_r x60, ex_r x61, ex_i x62, ex_r x63, ex_r x64, ex_i x65, ex_j x66]), (x34, ex_a 1 7 (upd w_1.1 d 0)), (x35, ex_a 1 7 sb), (x36, ex_a 1 7 te), (x37, ex_a 1 7 w_1.2), (x30, ex_a 1 7 (upd kp d 0)), (x31, ex_a 1 7 kb), (x32, ex_a 1 7 ah), (x33, ex_a 1 7 (upd ag d 0))]) dX12_tests_156 rfl (vp_in_nI (show d < 7 by omega) (by decide)) (by rw [nI_clamp (by omega)]) rfl ?_
          refine X_aload_n (j := 1) dX12_tests_157 rfl rfl ?_
          refine X_get (j := 0) fo_X12_84 dX12_tests_158 rfl rfl ?_
          refine X_iload_n (j := 2) dX12_tests_161 rfl rfl ?_
          refine X_bipush (v := 20) dX12_tests_162 (by decide) ?_
          refine X_iast (j := 2) (g := upd sb d 20) (cs' := [(m, ex_o 12 [ex_i x0, ex_i x1, ex_r x2, ex_i x3, ex_i x4, ex_i x5, ex_i x6, ex_j x7, ex_i x8, ex_i x9, ex_r x10, ex_r x11, ex_r x12, ex_r x13, ex_r x14, ex_r x15, ex_r x16, ex_r x17, ex_r x18, ex_r x19, ex_r x20, ex_r x21, ex_r x22, ex_r x23, ex_r x24, ex_r x25, ex_i x26, ex_i x27, ex_r x28, ex_r x29, ex_r x30, ex_r x31, ex_r x32, ex_r x33, ex_r x34, ex_r x35, ex_r x36, ex_r x37, ex_r x38, ex_r x39, ex_i x40, ex_j x41, ex_r x42, ex_r x43, ex_r x44, ex_r x45, ex_r x46, ex_r x47, ex_r x48, ex_r x49, ex_r x50, ex_r x51, ex_r x52, ex_r x53, ex_i x54, ex_i x55, ex_i x56, ex_i x57, ex_r x58, ex_r x59, ex_r x60, ex_r x61, ex_i x62, ex_r x63, ex_r x64, ex_i x65, ex_j x66]), (x34, ex_a 1 7 (upd w_1.1 d 0)), (x35, ex_a 1 7 (upd sb d 20)), (x36, ex_a 1 7 te), (x37, ex_a 1 7 w_1.2), (x30, ex_a 1 7 (upd kp d 0)), (x31, ex_a 1 7 kb), (x32, ex_a 1 7 ah), (x33, ex_a 1 7 (upd ag d 0))]) dX12_tests_164 rfl (vp_in_nI (show d < 7 by omega) (by decide)) (by rw [nI_clamp (by omega)]) rfl ?_
          try dsimp only at hV
          refine X_re (cs' := [(m, ex_o 12 [ex_i x0, ex_i x1, ex_r x2, ex_i x3, ex_i x4, ex_i x5, ex_i x6, ex_j x7, ex_i x8, ex_i x9, ex_r x10, ex_r x11, ex_r x12, ex_r x13, ex_r x14, ex_r x15, ex_r x16, ex_r x17, ex_r x18, ex_r x19, ex_r x20, ex_r x21, ex_r x22, ex_r x23, ex_r x24, ex_r x25, ex_i x26, ex_i x27, ex_r x28, ex_r x29, ex_r x30, ex_r x31, ex_r x32, ex_r x33, ex_r x34, ex_r x35, ex_r x36, ex_r x37, ex_r x38, ex_r x39, ex_i x40, ex_j x41, ex_r x42, ex_r x43, ex_r x44, ex_r x45, ex_r x46, ex_r x47, ex_r x48, ex_r x49, ex_r x50, ex_r x51, ex_r x52, ex_r x53, ex_i x54, ex_i x55, ex_i x56, ex_i x57, ex_r x58, ex_r x59, ex_r x60, ex_r x61, ex_i x62, ex_r x63, ex_r x64, ex_i x65, ex_j x66]), (x30, ex_a 1 7 (upd kp d 0)), (x31, ex_a 1 7 kb), (x32, ex_a 1 7 ah), (x33, ex_a 1 7 (upd ag d 0)), (x34, ex_a 1 7 (upd w_1.1 d 0)), (x35, ex_a 1 7 (upd sb d 20)), (x36, ex_a 1 7 te), (x37, ex_a 1 7 w_1.2)]) [0, 5, 6, 7, 8, 1, 2, 3, 4] (show List.Perm [0, 5, 6, 7, 8, 1, 2, 3, 4] (List.range 9) from by decide) rfl ?_
          exact X_vret dX12_tests_165 (by (repeat refine ex_kc ?_) <;> rfl) (by subst hV; exact ⟨rfl, rfl⟩)
        · have hV := hV.trans (if_neg c_8)
          refine X_iload_n (j := 0) dX12_tests_96 rfl rfl ?_
          refine X_if_eq (tgt := 104) dX12_tests_97 (by decide) (fun c_9 => ?_) (fun c_9 => ?_)
          · have hV := hV.trans (if_pos c_9)
            refine X_iconst (v := 0) dX12_tests_104 (by decide) ?_
            refine X_istore_n (lv' := [(2, ex_i 0), (0, ex_r m), (1, ex_i (nI d))]) dX12_tests_105 rfl (Nat.le_of_ble_eq_true rfl) rfl ?_
            refine X_aload_n (j := 1) dX12_tests_106 rfl rfl ?_
            refine X_get (j := 0) fo_X12_72 dX12_tests_107 rfl rfl ?_
            refine X_iload_n (j := 2) dX12_tests_110 rfl rfl ?_
            refine X_iald (j := 6) (v := (kb d)) dX12_tests_111 rfl (vp_in_nI (show d < 7 by omega) (by decide)) (by rw [nI_clamp (by omega)]) ?_
            refine X_bipush (v := 27) dX12_tests_112 (by decide) ?_
            refine X_icmp_ne (tgt := 136) dX12_tests_114 (by decide) (fun _ => ?_) (fun c_ => absurd c_ (by have q0 := c_4; simp only [lt_ti, le_ti, eq_ti, ti_26, ti_27] at q0 ⊢; omega))
            refine X_aload_n (j := 1) dX12_tests_136 rfl rfl ?_
            refine X_get (j := 0) fo_X12_69 dX12_tests_137 rfl rfl ?_
            refine X_iload_n (j := 2) dX12_tests_140 rfl rfl ?_
            refine X_iload_n (j := 0) dX12_tests_141 rfl rfl ?_
            refine X_iast (j := 5) (g := upd kp d 0) (cs' := [(m, ex_o 12 [ex_i x0, ex_i x1, ex_r x2, ex_i x3, ex_i x4, ex_i x5, ex_i x6, ex_j x7, ex_i x8, ex_i x9, ex_r x10, ex_r x11, ex_r x12, ex_r x13, ex_r x14, ex_r x15, ex_r x16, ex_r x17, ex_r x18, ex_r x19, ex_r x20, ex_r x21, ex_r x22, ex_r x23, ex_r x24, ex_r x25, ex_i x26, ex_i x27, ex_r x28, ex_r x29, ex_r x30, ex_r x31, ex_r x32, ex_r x33, ex_r x34, ex_r x35, ex_r x36, ex_r x37, ex_r x38, ex_r x39, ex_i x40, ex_j x41, ex_r x42, ex_r x43, ex_r x44, ex_r x45, ex_r x46, ex_r x47, ex_r x48, ex_r x49, ex_r x50, ex_r x51, ex_r x52, ex_r x53, ex_i x54, ex_i x55, ex_i x56, ex_i x57, ex_r x58, ex_r x59, ex_r x60, ex_r x61, ex_i x62, ex_r x63, ex_r x64, ex_i x65, ex_j x66]), (x34, ex_a 1 7 w_1.1), (x35, ex_a 1 7 sb), (x36, ex_a 1 7 te), (x37, ex_a 1 7 w_1.2), (x30, ex_a 1 7 (upd kp d 0)), (x31, ex_a 1 7 kb), (x32, ex_a 1 7 ah), (x33, ex_a 1 7 ag)]) dX12_tests_142 rfl (vp_in_nI (show d < 7 by omega) (by decide)) (by rw [nI_clamp (by omega)]) rfl ?_
            refine X_aload_n (j := 1) dX12_tests_143 rfl rfl ?_
            refine X_get (j := 0) fo_X12_78 dX12_tests_144 rfl rfl ?_
            refine X_iload_n (j := 2) dX12_tests_147 rfl rfl ?_
            refine X_iconst (v := 0) dX12_tests_148 (by decide) ?_
            refine X_iast (j := 8) (g := upd ag d 0) (cs' := [(m, ex_o 12 [ex_i x0, ex_i x1, ex_r x2, ex_i x3, ex_i x4, ex_i x5, ex_i x6, ex_j x7, ex_i x8, ex_i x9, ex_r x10, ex_r x11, ex_r x12, ex_r x13, ex_r x14, ex_r x15, ex_r x16, ex_r x17, ex_r x18, ex_r x19, ex_r x20, ex_r x21, ex_r x22, ex_r x23, ex_r x24, ex_r x25, ex_i x26, ex_i x27, ex_r x28, ex_r x29, ex_r x30, ex_r x31, ex_r x32, ex_r x33, ex_r x34, ex_r x35, ex_r x36, ex_r x37, ex_r x38, ex_r x39, ex_i x40, ex_j x41, ex_r x42, ex_r x43, ex_r x44, ex_r x45, ex_r x46, ex_r x47, ex_r x48, ex_r x49, ex_r x50, ex_r x51, ex_r x52, ex_r x53, ex_i x54, ex_i x55, ex_i x56, ex_i x57, ex_r x58, ex_r x59, ex_r x60, ex_r x61, ex_i x62, ex_r x63, ex_r x64, ex_i x65, ex_j x66]), (x34, ex_a 1 7 w_1.1), (x35, ex_a 1 7 sb), (x36, ex_a 1 7 te), (x37, ex_a 1 7 w_1.2), (x30, ex_a 1 7 (upd kp d 0)), (x31, ex_a 1 7 kb), (x32, ex_a 1 7 ah), (x33, ex_a 1 7 (upd ag d 0))]) dX12_tests_149 rfl (vp_in_nI (show d < 7 by omega) (by decide)) (by rw [nI_clamp (by omega)]) rfl ?_
            refine X_aload_n (j := 1) dX12_tests_150 rfl rfl ?_
            refine X_get (j := 0) fo_X12_81 dX12_tests_151 rfl rfl ?_
            refine X_iload_n (j := 2) dX12_tests_154 rfl rfl ?_
            refine X_iconst (v := 0) dX12_tests_155 (by decide) ?_
            refine X_iast (j := 1) (g := upd w_1.1 d 0) (cs' := [(m, ex_o 12 [ex_i x0, ex_i x1, ex_r x2, ex_i x3, ex_i x4, ex_i x5, ex_i x6, ex_j x7, ex_i x8, ex_i x9, ex_r x10, ex_r x11, ex_r x12, ex_r x13, ex_r x14, ex_r x15, ex_r x16, ex_r x17, ex_r x18, ex_r x19, ex_r x20, ex_r x21, ex_r x22, ex_r x23, ex_r x24, ex_r x25, ex_i x26, ex_i x27, ex_r x28, ex_r x29, ex_r x30, ex_r x31, ex_r x32, ex_r x33, ex_r x34, ex_r x35, ex_r x36, ex_r x37, ex_r x38, ex_r x39, ex_i x40, ex_j x41, ex_r x42, ex_r x43, ex_r x44, ex_r x45, ex_r x46, ex_r x47, ex_r x48, ex_r x49, ex_r x50, ex_r x51, ex_r x52, ex_r x53, ex_i x54, ex_i x55, ex_i x56, ex_i x57, ex_r x58, ex_r x59, ex_r x60, ex_r x61, ex_i x62, ex_r x63, ex_r x64, ex_i x65, ex_j x66]), (x34, ex_a 1 7 (upd w_1.1 d 0)), (x35, ex_a 1 7 sb), (x36, ex_a 1 7 te), (x37, ex_a 1 7 w_1.2), (x30, ex_a 1 7 (upd kp d 0)), (x31, ex_a 1 7 kb), (x32, ex_a 1 7 ah), (x33, ex_a 1 7 (upd ag d 0))]) dX12_tests_156 rfl (vp_in_nI (show d < 7 by omega) (by decide)) (by rw [nI_clamp (by omega)]) rfl ?_
            refine X_aload_n (j := 1) dX12_tests_157 rfl rfl ?_
            refine X_get (j := 0) fo_X12_84 dX12_tests_158 rfl rfl ?_
            refine X_iload_n (j := 2) dX12_tests_161 rfl rfl ?_
            refine X_bipush (v := 20) dX12_tests_162 (by decide) ?_
            refine X_iast (j := 2) (g := upd sb d 20) (cs' := [(m, ex_o 12 [ex_i x0, ex_i x1, ex_r x2, ex_i x3, ex_i x4, ex_i x5, ex_i x6, ex_j x7, ex_i x8, ex_i x9, ex_r x10, ex_r x11, ex_r x12, ex_r x13, ex_r x14, ex_r x15, ex_r x16, ex_r x17, ex_r x18, ex_r x19, ex_r x20, ex_r x21, ex_r x22, ex_r x23, ex_r x24, ex_r x25, ex_i x26, ex_i x27, ex_r x28, ex_r x29, ex_r x30, ex_r x31, ex_r x32, ex_r x33, ex_r x34, ex_r x35, ex_r x36, ex_r x37, ex_r x38, ex_r x39, ex_i x40, ex_j x41, ex_r x42, ex_r x43, ex_r x44, ex_r x45, ex_r x46, ex_r x47, ex_r x48, ex_r x49, ex_r x50, ex_r x51, ex_r x52, ex_r x53, ex_i x54, ex_i x55, ex_i x56, ex_i x57, ex_r x58, ex_r x59, ex_r x60, ex_r x61, ex_i x62, ex_r x63, ex_r x64, ex_i x65, ex_j x66]), (x34, ex_a 1 7 (upd w_1.1 d 0)), (x35, ex_a 1 7 (upd sb d 20)), (x36, ex_a 1 7 te), (x37, ex_a 1 7 w_1.2), (x30, ex_a 1 7 (upd kp d 0)), (x31, ex_a 1 7 kb), (x32, ex_a 1 7 ah), (x33, ex_a 1 7 (upd ag d 0))]) dX12_tests_164 rfl (vp_in_nI (show d < 7 by omega) (by decide)) (by rw [nI_clamp (by omega)]) rfl ?_
            try dsimp only at hV
            refine X_re (cs' := [(m, ex_o 12 [ex_i x0, ex_i x1, ex_r x2, ex_i x3, ex_i x4, ex_i x5, ex_i x6, ex_j x7, ex_i x8, ex_i x9, ex_r x10, ex_r x11, ex_r x12, ex_r x13, ex_r x14, ex_r x15, ex_r x16, ex_r x17, ex_r x18, ex_r x19, ex_r x20, ex_r x21, ex_r x22, ex_r x23, ex_r x24, ex_r x25, ex_i x26, ex_i x27, ex_r x28, ex_r x29, ex_r x30, ex_r x31, ex_r x32, ex_r x33, ex_r x34, ex_r x35, ex_r x36, ex_r x37, ex_r x38, ex_r x39, ex_i x40, ex_j x41, ex_r x42, ex_r x43, ex_r x44, ex_r x45, ex_r x46, ex_r x47, ex_r x48, ex_r x49, ex_r x50, ex_r x51, ex_r x52, ex_r x53, ex_i x54, ex_i x55, ex_i x56, ex_i x57, ex_r x58, ex_r x59, ex_r x60, ex_r x61, ex_i x62, ex_r x63, ex_r x64, ex_i x65, ex_j x66]), (x30, ex_a 1 7 (upd kp d 0)), (x31, ex_a 1 7 kb), (x32, ex_a 1 7 ah), (x33, ex_a 1 7 (upd ag d 0)), (x34, ex_a 1 7 (upd w_1.1 d 0)), (x35, ex_a 1 7 (upd sb d 20)), (x36, ex_a 1 7 te), (x37, ex_a 1 7 w_1.2)]) [0, 5, 6, 7, 8, 1, 2, 3, 4] (show List.Perm [0, 5, 6, 7, 8, 1, 2, 3, 4] (List.range 9) from by decide) rfl ?_
            exact X_vret dX12_tests_165 (by (repeat refine ex_kc ?_) <;> rfl) (by subst hV; exact ⟨rfl, rfl⟩)
          · have hV := hV.trans (if_neg c_9)
            refine X_iconst (v := 1) dX12_tests_100 (by decide) ?_
            refine X_goto (tgt := 105) dX12_tests_101 (by decide) ?_
            refine X_istore_n (lv' := [(2, ex_i 1), (0, ex_r m), (1, ex_i (nI d))]) dX12_tests_105 rfl (Nat.le_of_ble_eq_true rfl) rfl ?_
            refine X_aload_n (j := 1) dX12_tests_106 rfl rfl ?_
            refine X_get (j := 0) fo_X12_72 dX12_tests_107 rfl rfl ?_
            refine X_iload_n (j := 2) dX12_tests_110 rfl rfl ?_
            refine X_iald (j := 6) (v := (kb d)) dX12_tests_111 rfl (vp_in_nI (show d < 7 by omega) (by decide)) (by rw [nI_clamp (by omega)]) ?_
            refine X_bipush (v := 27) dX12_tests_112 (by decide) ?_
            refine X_icmp_ne (tgt := 136) dX12_tests_114 (by decide) (fun _ => ?_) (fun c_ => absurd c_ (by have q0 := c_4; simp only [lt_ti, le_ti, eq_ti, ti_26, ti_27] at q0 ⊢; omega))
            refine X_aload_n (j := 1) dX12_tests_136 rfl rfl ?_
            refine X_get (j := 0) fo_X12_69 dX12_tests_137 rfl rfl ?_
            refine X_iload_n (j := 2) dX12_tests_140 rfl rfl ?_
            refine X_iload_n (j := 0) dX12_tests_141 rfl rfl ?_
            refine X_iast (j := 5) (g := upd kp d 1) (cs' := [(m, ex_o 12 [ex_i x0, ex_i x1, ex_r x2, ex_i x3, ex_i x4, ex_i x5, ex_i x6, ex_j x7, ex_i x8, ex_i x9, ex_r x10, ex_r x11, ex_r x12, ex_r x13, ex_r x14, ex_r x15, ex_r x16, ex_r x17, ex_r x18, ex_r x19, ex_r x20, ex_r x21, ex_r x22, ex_r x23, ex_r x24, ex_r x25, ex_i x26, ex_i x27, ex_r x28, ex_r x29, ex_r x30, ex_r x31, ex_r x32, ex_r x33, ex_r x34, ex_r x35, ex_r x36, ex_r x37, ex_r x38, ex_r x39, ex_i x40, ex_j x41, ex_r x42, ex_r x43, ex_r x44, ex_r x45, ex_r x46, ex_r x47, ex_r x48, ex_r x49, ex_r x50, ex_r x51, ex_r x52, ex_r x53, ex_i x54, ex_i x55, ex_i x56, ex_i x57, ex_r x58, ex_r x59, ex_r x60, ex_r x61, ex_i x62, ex_r x63, ex_r x64, ex_i x65, ex_j x66]), (x34, ex_a 1 7 w_1.1), (x35, ex_a 1 7 sb), (x36, ex_a 1 7 te), (x37, ex_a 1 7 w_1.2), (x30, ex_a 1 7 (upd kp d 1)), (x31, ex_a 1 7 kb), (x32, ex_a 1 7 ah), (x33, ex_a 1 7 ag)]) dX12_tests_142 rfl (vp_in_nI (show d < 7 by omega) (by decide)) (by rw [nI_clamp (by omega)]) rfl ?_
            refine X_aload_n (j := 1) dX12_tests_143 rfl rfl ?_
            refine X_get (j := 0) fo_X12_78 dX12_tests_144 rfl rfl ?_
            refine X_iload_n (j := 2) dX12_tests_147 rfl rfl ?_
            refine X_iconst (v := 0) dX12_tests_148 (by decide) ?_
            refine X_iast (j := 8) (g := upd ag d 0) (cs' := [(m, ex_o 12 [ex_i x0, ex_i x1, ex_r x2, ex_i x3, ex_i x4, ex_i x5, ex_i x6, ex_j x7, ex_i x8, ex_i x9, ex_r x10, ex_r x11, ex_r x12, ex_r x13, ex_r x14, ex_r x15, ex_r x16, ex_r x17, ex_r x18, ex_r x19, ex_r x20, ex_r x21, ex_r x22, ex_r x23, ex_r x24, ex_r x25, ex_i x26, ex_i x27, ex_r x28, ex_r x29, ex_r x30, ex_r x31, ex_r x32, ex_r x33, ex_r x34, ex_r x35, ex_r x36, ex_r x37, ex_r x38, ex_r x39, ex_i x40, ex_j x41, ex_r x42, ex_r x43, ex_r x44, ex_r x45, ex_r x46, ex_r x47, ex_r x48, ex_r x49, ex_r x50, ex_r x51, ex_r x52, ex_r x53, ex_i x54, ex_i x55, ex_i x56, ex_i x57, ex_r x58, ex_r x59, ex_r x60, ex_r x61, ex_i x62, ex_r x63, ex_r x64, ex_i x65, ex_j x66]), (x34, ex_a 1 7 w_1.1), (x35, ex_a 1 7 sb), (x36, ex_a 1 7 te), (x37, ex_a 1 7 w_1.2), (x30, ex_a 1 7 (upd kp d 1)), (x31, ex_a 1 7 kb), (x32, ex_a 1 7 ah), (x33, ex_a 1 7 (upd ag d 0))]) dX12_tests_149 rfl (vp_in_nI (show d < 7 by omega) (by decide)) (by rw [nI_clamp (by omega)]) rfl ?_
            refine X_aload_n (j := 1) dX12_tests_150 rfl rfl ?_
            refine X_get (j := 0) fo_X12_81 dX12_tests_151 rfl rfl ?_
            refine X_iload_n (j := 2) dX12_tests_154 rfl rfl ?_
            refine X_iconst (v := 0) dX12_tests_155 (by decide) ?_
            refine X_iast (j := 1) (g := upd w_1.1 d 0) (cs' := [(m, ex_o 12 [ex_i x0, ex_i x1, ex_r x2, ex_i x3, ex_i x4, ex_i x5, ex_i x6, ex_j x7, ex_i x8, ex_i x9, ex_r x10, ex_r x11, ex_r x12, ex_r x13, ex_r x14, ex_r x15, ex_r x16, ex_r x17, ex_r x18, ex_r x19, ex_r x20, ex_r x21, ex_r x22, ex_r x23, ex_r x24, ex_r x25, ex_i x26, ex_i x27, ex_r x28, ex_r x29, ex_r x30, ex_r x31, ex_r x32, ex_r x33, ex_r x34, ex_r x35, ex_r x36, ex_r x37, ex_r x38, ex_r x39, ex_i x40, ex_j x41, ex_r x42, ex_r x43, ex_r x44, ex_r x45, ex_r x46, ex_r x47, ex_r x48, ex_r x49, ex_r x50, ex_r x51, ex_r x52, ex_r x53, ex_i x54, ex_i x55, ex_i x56, ex_i x57, ex_r x58, ex_r x59, ex_r x60, ex_r x61, ex_i x62, ex_r x63, ex_r x64, ex_i x65, ex_j x66]), (x34, ex_a 1 7 (upd w_1.1 d 0)), (x35, ex_a 1 7 sb), (x36, ex_a 1 7 te), (x37, ex_a 1 7 w_1.2), (x30, ex_a 1 7 (upd kp d 1)), (x31, ex_a 1 7 kb), (x32, ex_a 1 7 ah), (x33, ex_a 1 7 (upd ag d 0))]) dX12_tests_156 rfl (vp_in_nI (show d < 7 by omega) (by decide)) (by rw [nI_clamp (by omega)]) rfl ?_
            refine X_aload_n (j := 1) dX12_tests_157 rfl rfl ?_
            refine X_get (j := 0) fo_X12_84 dX12_tests_158 rfl rfl ?_
            refine X_iload_n (j := 2) dX12_tests_161 rfl rfl ?_
            refine X_bipush (v := 20) dX12_tests_162 (by decide) ?_
            refine X_iast (j := 2) (g := upd sb d 20) (cs' := [(m, ex_o 12 [ex_i x0, ex_i x1, ex_r x2, ex_i x3, ex_i x4, ex_i x5, ex_i x6, ex_j x7, ex_i x8, ex_i x9, ex_r x10, ex_r x11, ex_r x12, ex_r x13, ex_r x14, ex_r x15, ex_r x16, ex_r x17, ex_r x18, ex_r x19, ex_r x20, ex_r x21, ex_r x22, ex_r x23, ex_r x24, ex_r x25, ex_i x26, ex_i x27, ex_r x28, ex_r x29, ex_r x30, ex_r x31, ex_r x32, ex_r x33, ex_r x34, ex_r x35, ex_r x36, ex_r x37, ex_r x38, ex_r x39, ex_i x40, ex_j x41, ex_r x42, ex_r x43, ex_r x44, ex_r x45, ex_r x46, ex_r x47, ex_r x48, ex_r x49, ex_r x50, ex_r x51, ex_r x52, ex_r x53, ex_i x54, ex_i x55, ex_i x56, ex_i x57, ex_r x58, ex_r x59, ex_r x60, ex_r x61, ex_i x62, ex_r x63, ex_r x64, ex_i x65, ex_j x66]), (x34, ex_a 1 7 (upd w_1.1 d 0)), (x35, ex_a 1 7 (upd sb d 20)), (x36, ex_a 1 7 te), (x37, ex_a 1 7 w_1.2), (x30, ex_a 1 7 (upd kp d 1)), (x31, ex_a 1 7 kb), (x32, ex_a 1 7 ah), (x33, ex_a 1 7 (upd ag d 0))]) dX12_tests_164 rfl (vp_in_nI (show d < 7 by omega) (by decide)) (by rw [nI_clamp (by omega)]) rfl ?_
            try dsimp only at hV
            refine X_re (cs' := [(m, ex_o 12 [ex_i x0, ex_i x1, ex_r x2, ex_i x3, ex_i x4, ex_i x5, ex_i x6, ex_j x7, ex_i x8, ex_i x9, ex_r x10, ex_r x11, ex_r x12, ex_r x13, ex_r x14, ex_r x15, ex_r x16, ex_r x17, ex_r x18, ex_r x19, ex_r x20, ex_r x21, ex_r x22, ex_r x23, ex_r x24, ex_r x25, ex_i x26, ex_i x27, ex_r x28, ex_r x29, ex_r x30, ex_r x31, ex_r x32, ex_r x33, ex_r x34, ex_r x35, ex_r x36, ex_r x37, ex_r x38, ex_r x39, ex_i x40, ex_j x41, ex_r x42, ex_r x43, ex_r x44, ex_r x45, ex_r x46, ex_r x47, ex_r x48, ex_r x49, ex_r x50, ex_r x51, ex_r x52, ex_r x53, ex_i x54, ex_i x55, ex_i x56, ex_i x57, ex_r x58, ex_r x59, ex_r x60, ex_r x61, ex_i x62, ex_r x63, ex_r x64, ex_i x65, ex_j x66]), (x30, ex_a 1 7 (upd kp d 1)), (x31, ex_a 1 7 kb), (x32, ex_a 1 7 ah), (x33, ex_a 1 7 (upd ag d 0)), (x34, ex_a 1 7 (upd w_1.1 d 0)), (x35, ex_a 1 7 (upd sb d 20)), (x36, ex_a 1 7 te), (x37, ex_a 1 7 w_1.2)]) [0, 5, 6, 7, 8, 1, 2, 3, 4] (show List.Perm [0, 5, 6, 7, 8, 1, 2, 3, 4] (List.range 9) from by decide) rfl ?_
            exact X_vret dX12_tests_165 (by (repeat refine ex_kc ?_) <;> rfl) (by subst hV; exact ⟨rfl, rfl⟩)
    · have hV := hV.trans (if_pos c_3)
      refine X_aload_n (j := 1) dX12_tests_55 rfl rfl ?_
      refine X_get (j := 0) fo_X12_75 dX12_tests_56 rfl rfl ?_
      refine X_iload_n (j := 2) dX12_tests_59 rfl rfl ?_
      refine X_iald (j := 7) (v := (ah d)) dX12_tests_60 rfl (vp_in_nI (show d < 7 by omega) (by decide)) (by rw [nI_clamp (by omega)]) ?_
      refine X_aload_n (j := 1) dX12_tests_61 rfl rfl ?_
      refine X_get (j := 0) fo_X12_81 dX12_tests_62 rfl rfl ?_
      refine X_iload_n (j := 2) dX12_tests_65 rfl rfl ?_
      refine X_iald (j := 1) (v := (w_1.1 d)) dX12_tests_66 rfl (vp_in_nI (show d < 7 by omega) (by decide)) (by rw [nI_clamp (by omega)]) ?_
      refine X_icmp_ne (tgt := 74) dX12_tests_67 (by decide) (fun c_10 => ?_) (fun c_10 => ?_)
      · have hV := hV.trans (if_neg c_10)
        refine X_iconst (v := 0) dX12_tests_74 (by decide) ?_
        refine X_istore_n (lv' := [(2, ex_i 0), (0, ex_r m), (1, ex_i (nI d))]) dX12_tests_75 rfl (Nat.le_of_ble_eq_true rfl) rfl ?_
        refine X_aload_n (j := 1) dX12_tests_76 rfl rfl ?_
        refine X_get (j := 0) fo_X12_72 dX12_tests_77 rfl rfl ?_
        refine X_iload_n (j := 2) dX12_tests_80 rfl rfl ?_
        refine X_iald (j := 6) (v := (kb d)) dX12_tests_81 rfl (vp_in_nI (show d < 7 by omega) (by decide)) (by rw [nI_clamp (by omega)]) ?_
        refine X_bipush (v := 26) dX12_tests_82 (by decide) ?_
        refine X_icmp_ne (tgt := 106) dX12_tests_84 (by decide) (fun c_11 => ?_) (fun c_11 => ?_)
        · have hV := hV.trans (if_neg c_11)
          refine X_aload_n (j := 1) dX12_tests_106 rfl rfl ?_
          refine X_get (j := 0) fo_X12_72 dX12_tests_107 rfl rfl ?_
          refine X_iload_n (j := 2) dX12_tests_110 rfl rfl ?_
          refine X_iald (j := 6) (v := (kb d)) dX12_tests_111 rfl (vp_in_nI (show d < 7 by omega) (by decide)) (by rw [nI_clamp (by omega)]) ?_
          refine X_bipush (v := 27) dX12_tests_112 (by decide) ?_
          refine X_icmp_ne (tgt := 136) dX12_tests_114 (by decide) (fun c_12 => ?_) (fun c_12 => ?_)
          · have hV := hV.trans (if_neg c_12)
            refine X_aload_n (j := 1) dX12_tests_136 rfl rfl ?_
            refine X_get (j := 0) fo_X12_69 dX12_tests_137 rfl rfl ?_
            refine X_iload_n (j := 2) dX12_tests_140 rfl rfl ?_
            refine X_iload_n (j := 0) dX12_tests_141 rfl rfl ?_
            refine X_iast (j := 5) (g := upd kp d 0) (cs' := [(m, ex_o 12 [ex_i x0, ex_i x1, ex_r x2, ex_i x3, ex_i x4, ex_i x5, ex_i x6, ex_j x7, ex_i x8, ex_i x9, ex_r x10, ex_r x11, ex_r x12, ex_r x13, ex_r x14, ex_r x15, ex_r x16, ex_r x17, ex_r x18, ex_r x19, ex_r x20, ex_r x21, ex_r x22, ex_r x23, ex_r x24, ex_r x25, ex_i x26, ex_i x27, ex_r x28, ex_r x29, ex_r x30, ex_r x31, ex_r x32, ex_r x33, ex_r x34, ex_r x35, ex_r x36, ex_r x37, ex_r x38, ex_r x39, ex_i x40, ex_j x41, ex_r x42, ex_r x43, ex_r x44, ex_r x45, ex_r x46, ex_r x47, ex_r x48, ex_r x49, ex_r x50, ex_r x51, ex_r x52, ex_r x53, ex_i x54, ex_i x55, ex_i x56, ex_i x57, ex_r x58, ex_r x59, ex_r x60, ex_r x61, ex_i x62, ex_r x63, ex_r x64, ex_i x65, ex_j x66]), (x34, ex_a 1 7 w_1.1), (x35, ex_a 1 7 sb), (x36, ex_a 1 7 te), (x37, ex_a 1 7 w_1.2), (x30, ex_a 1 7 (upd kp d 0)), (x31, ex_a 1 7 kb), (x32, ex_a 1 7 ah), (x33, ex_a 1 7 ag)]) dX12_tests_142 rfl (vp_in_nI (show d < 7 by omega) (by decide)) (by rw [nI_clamp (by omega)]) rfl ?_
            refine X_aload_n (j := 1) dX12_tests_143 rfl rfl ?_
            refine X_get (j := 0) fo_X12_78 dX12_tests_144 rfl rfl ?_
            refine X_iload_n (j := 2) dX12_tests_147 rfl rfl ?_
            refine X_iconst (v := 0) dX12_tests_148 (by decide) ?_
            refine X_iast (j := 8) (g := upd ag d 0) (cs' := [(m, ex_o 12 [ex_i x0, ex_i x1, ex_r x2, ex_i x3, ex_i x4, ex_i x5, ex_i x6, ex_j x7, ex_i x8, ex_i x9, ex_r x10, ex_r x11, ex_r x12, ex_r x13, ex_r x14, ex_r x15, ex_r x16, ex_r x17, ex_r x18, ex_r x19, ex_r x20, ex_r x21, ex_r x22, ex_r x23, ex_r x24, ex_r x25, ex_i x26, ex_i x27, ex_r x28, ex_r x29, ex_r x30, ex_r x31, ex_r x32, ex_r x33, ex_r x34, ex_r x35, ex_r x36, ex_r x37, ex_r x38, ex_r x39, ex_i x40, ex_j x41, ex_r x42, ex_r x43, ex_r x44, ex_r x45, ex_r x46, ex_r x47, ex_r x48, ex_r x49, ex_r x50, ex_r x51, ex_r x52, ex_r x53, ex_i x54, ex_i x55, ex_i x56, ex_i x57, ex_r x58, ex_r x59, ex_r x60, ex_r x61, ex_i x62, ex_r x63, ex_r x64, ex_i x65, ex_j x66]), (x34, ex_a 1 7 w_1.1), (x35, ex_a 1 7 sb), (x36, ex_a 1 7 te), (x37, ex_a 1 7 w_1.2), (x30, ex_a 1 7 (upd kp d 0)), (x31, ex_a 1 7 kb), (x32, ex_a 1 7 ah), (x33, ex_a 1 7 (upd ag d 0))]) dX12_tests_149 rfl (vp_in_nI (show d < 7 by omega) (by decide)) (by rw [nI_clamp (by omega)]) rfl ?_
            refine X_aload_n (j := 1) dX12_tests_150 rfl rfl ?_
            refine X_get (j := 0) fo_X12_81 dX12_tests_151 rfl rfl ?_
            refine X_iload_n (j := 2) dX12_tests_154 rfl rfl ?_
            refine X_iconst (v := 0) dX12_tests_155 (by decide) ?_
            refine X_iast (j := 1) (g := upd w_1.1 d 0) (cs' := [(m, ex_o 12 [ex_i x0, ex_i x1, ex_r x2, ex_i x3, ex_i x4, ex_i x5, ex_i x6, ex_j x7, ex_i x8, ex_i x9, ex_r x10, ex_r x11, ex_r x12, ex_r x13, ex_r x14, ex_r x15, ex_r x16, ex_r x17, ex_r x18, ex_r x19, ex_r x20, ex_r x21, ex_r x22, ex_r x23, ex_r x24, ex_r x25, ex_i x26, ex_i x27, ex_r x28, ex_r x29, ex_r x30, ex_r x31, ex_r x32, ex_r x33, ex_r x34, ex_r x35, ex_r x36, ex_r x37, ex_r x38, ex_r x39, ex_i x40, ex_j x41, ex_r x42, ex_r x43, ex_r x44, ex_r x45, ex_r x46, ex_r x47, ex_r x48, ex_r x49, ex_r x50, ex_r x51, ex_r x52, ex_r x53, ex_i x54, ex_i x55, ex_i x56, ex_i x57, ex_r x58, ex_r x59, ex_r x60, ex_r x61, ex_i x62, ex_r x63, ex_r x64, ex_i x65, ex_j x66]), (x34, ex_a 1 7 (upd w_1.1 d 0)), (x35, ex_a 1 7 sb), (x36, ex_a 1 7 te), (x37, ex_a 1 7 w_1.2), (x30, ex_a 1 7 (upd kp d 0)), (x31, ex_a 1 7 kb), (x32, ex_a 1 7 ah), (x33, ex_a 1 7 (upd ag d 0))]) dX12_tests_156 rfl (vp_in_nI (show d < 7 by omega) (by decide)) (by rw [nI_clamp (by omega)]) rfl ?_
            refine X_aload_n (j := 1) dX12_tests_157 rfl rfl ?_
            refine X_get (j := 0) fo_X12_84 dX12_tests_158 rfl rfl ?_
            refine X_iload_n (j := 2) dX12_tests_161 rfl rfl ?_
            refine X_bipush (v := 20) dX12_tests_162 (by decide) ?_
            refine X_iast (j := 2) (g := upd sb d 20) (cs' := [(m, ex_o 12 [ex_i x0, ex_i x1, ex_r x2, ex_i x3, ex_i x4, ex_i x5, ex_i x6, ex_j x7, ex_i x8, ex_i x9, ex_r x10, ex_r x11, ex_r x12, ex_r x13, ex_r x14, ex_r x15, ex_r x16, ex_r x17, ex_r x18, ex_r x19, ex_r x20, ex_r x21, ex_r x22, ex_r x23, ex_r x24, ex_r x25, ex_i x26, ex_i x27, ex_r x28, ex_r x29, ex_r x30, ex_r x31, ex_r x32, ex_r x33, ex_r x34, ex_r x35, ex_r x36, ex_r x37, ex_r x38, ex_r x39, ex_i x40, ex_j x41, ex_r x42, ex_r x43, ex_r x44, ex_r x45, ex_r x46, ex_r x47, ex_r x48, ex_r x49, ex_r x50, ex_r x51, ex_r x52, ex_r x53, ex_i x54, ex_i x55, ex_i x56, ex_i x57, ex_r x58, ex_r x59, ex_r x60, ex_r x61, ex_i x62, ex_r x63, ex_r x64, ex_i x65, ex_j x66]), (x34, ex_a 1 7 (upd w_1.1 d 0)), (x35, ex_a 1 7 (upd sb d 20)), (x36, ex_a 1 7 te), (x37, ex_a 1 7 w_1.2), (x30, ex_a 1 7 (upd kp d 0)), (x31, ex_a 1 7 kb), (x32, ex_a 1 7 ah), (x33, ex_a 1 7 (upd ag d 0))]) dX12_tests_164 rfl (vp_in_nI (show d < 7 by omega) (by decide)) (by rw [nI_clamp (by omega)]) rfl ?_
            try dsimp only at hV
            refine X_re (cs' := [(m, ex_o 12 [ex_i x0, ex_i x1, ex_r x2, ex_i x3, ex_i x4, ex_i x5, ex_i x6, ex_j x7, ex_i x8, ex_i x9, ex_r x10, ex_r x11, ex_r x12, ex_r x13, ex_r x14, ex_r x15, ex_r x16, ex_r x17, ex_r x18, ex_r x19, ex_r x20, ex_r x21, ex_r x22, ex_r x23, ex_r x24, ex_r x25, ex_i x26, ex_i x27, ex_r x28, ex_r x29, ex_r x30, ex_r x31, ex_r x32, ex_r x33, ex_r x34, ex_r x35, ex_r x36, ex_r x37, ex_r x38, ex_r x39, ex_i x40, ex_j x41, ex_r x42, ex_r x43, ex_r x44, ex_r x45, ex_r x46, ex_r x47, ex_r x48, ex_r x49, ex_r x50, ex_r x51, ex_r x52, ex_r x53, ex_i x54, ex_i x55, ex_i x56, ex_i x57, ex_r x58, ex_r x59, ex_r x60, ex_r x61, ex_i x62, ex_r x63, ex_r x64, ex_i x65, ex_j x66]), (x30, ex_a 1 7 (upd kp d 0)), (x31, ex_a 1 7 kb), (x32, ex_a 1 7 ah), (x33, ex_a 1 7 (upd ag d 0)), (x34, ex_a 1 7 (upd w_1.1 d 0)), (x35, ex_a 1 7 (upd sb d 20)), (x36, ex_a 1 7 te), (x37, ex_a 1 7 w_1.2)]) [0, 5, 6, 7, 8, 1, 2, 3, 4] (show List.Perm [0, 5, 6, 7, 8, 1, 2, 3, 4] (List.range 9) from by decide) rfl ?_
            exact X_vret dX12_tests_165 (by (repeat refine ex_kc ?_) <;> rfl) (by subst hV; exact ⟨rfl, rfl⟩)
          · have hV := hV.trans (if_pos c_12)
            refine X_aload_n (j := 1) dX12_tests_117 rfl rfl ?_
            refine X_get (j := 0) fo_X12_69 dX12_tests_118 rfl rfl ?_
            refine X_iload_n (j := 2) dX12_tests_121 rfl rfl ?_
            refine X_iald (j := 5) (v := (kp d)) dX12_tests_122 rfl (vp_in_nI (show d < 7 by omega) (by decide)) (by rw [nI_clamp (by omega)]) ?_
            refine X_if_ne (tgt := 130) dX12_tests_123 (by decide) (fun c_13 => ?_) (fun c_13 => ?_)
            · have hV := hV.trans (if_neg c_13)
              refine X_iconst (v := 1) dX12_tests_130 (by decide) ?_
              refine X_goto (tgt := 135) dX12_tests_131 (by decide) ?_
              refine X_istore_n (lv' := [(2, ex_i 1), (0, ex_r m), (1, ex_i (nI d))]) dX12_tests_135 rfl (Nat.le_of_ble_eq_true rfl) rfl ?_
              refine X_aload_n (j := 1) dX12_tests_136 rfl rfl ?_
              refine X_get (j := 0) fo_X12_69 dX12_tests_137 rfl rfl ?_
              refine X_iload_n (j := 2) dX12_tests_140 rfl rfl ?_
              refine X_iload_n (j := 0) dX12_tests_141 rfl rfl ?_
              refine X_iast (j := 5) (g := upd kp d 1) (cs' := [(m, ex_o 12 [ex_i x0, ex_i x1, ex_r x2, ex_i x3, ex_i x4, ex_i x5, ex_i x6, ex_j x7, ex_i x8, ex_i x9, ex_r x10, ex_r x11, ex_r x12, ex_r x13, ex_r x14, ex_r x15, ex_r x16, ex_r x17, ex_r x18, ex_r x19, ex_r x20, ex_r x21, ex_r x22, ex_r x23, ex_r x24, ex_r x25, ex_i x26, ex_i x27, ex_r x28, ex_r x29, ex_r x30, ex_r x31, ex_r x32, ex_r x33, ex_r x34, ex_r x35, ex_r x36, ex_r x37, ex_r x38, ex_r x39, ex_i x40, ex_j x41, ex_r x42, ex_r x43, ex_r x44, ex_r x45, ex_r x46, ex_r x47, ex_r x48, ex_r x49, ex_r x50, ex_r x51, ex_r x52, ex_r x53, ex_i x54, ex_i x55, ex_i x56, ex_i x57, ex_r x58, ex_r x59, ex_r x60, ex_r x61, ex_i x62, ex_r x63, ex_r x64, ex_i x65, ex_j x66]), (x34, ex_a 1 7 w_1.1), (x35, ex_a 1 7 sb), (x36, ex_a 1 7 te), (x37, ex_a 1 7 w_1.2), (x30, ex_a 1 7 (upd kp d 1)), (x31, ex_a 1 7 kb), (x32, ex_a 1 7 ah), (x33, ex_a 1 7 ag)]) dX12_tests_142 rfl (vp_in_nI (show d < 7 by omega) (by decide)) (by rw [nI_clamp (by omega)]) rfl ?_
              refine X_aload_n (j := 1) dX12_tests_143 rfl rfl ?_
              refine X_get (j := 0) fo_X12_78 dX12_tests_144 rfl rfl ?_
              refine X_iload_n (j := 2) dX12_tests_147 rfl rfl ?_
              refine X_iconst (v := 0) dX12_tests_148 (by decide) ?_
              refine X_iast (j := 8) (g := upd ag d 0) (cs' := [(m, ex_o 12 [ex_i x0, ex_i x1, ex_r x2, ex_i x3, ex_i x4, ex_i x5, ex_i x6, ex_j x7, ex_i x8, ex_i x9, ex_r x10, ex_r x11, ex_r x12, ex_r x13, ex_r x14, ex_r x15, ex_r x16, ex_r x17, ex_r x18, ex_r x19, ex_r x20, ex_r x21, ex_r x22, ex_r x23, ex_r x24, ex_r x25, ex_i x26, ex_i x27, ex_r x28, ex_r x29, ex_r x30, ex_r x31, ex_r x32, ex_r x33, ex_r x34, ex_r x35, ex_r x36, ex_r x37, ex_r x38, ex_r x39, ex_i x40, ex_j x41, ex_r x42, ex_r x43, ex_r x44, ex_r x45, ex_r x46, ex_r x47, ex_r x48, ex_r x49, ex_r x50, ex_r x51, ex_r x52, ex_r x53, ex_i x54, ex_i x55, ex_i x56, ex_i x57, ex_r x58, ex_r x59, ex_r x60, ex_r x61, ex_i x62, ex_r x63, ex_r x64, ex_i x65, ex_j x66]), (x34, ex_a 1 7 w_1.1), (x35, ex_a 1 7 sb), (x36, ex_a 1 7 te), (x37, ex_a 1 7 w_1.2), (x30, ex_a 1 7 (upd kp d 1)), (x31, ex_a 1 7 kb), (x32, ex_a 1 7 ah), (x33, ex_a 1 7 (upd ag d 0))]) dX12_tests_149 rfl (vp_in_nI (show d < 7 by omega) (by decide)) (by rw [nI_clamp (by omega)]) rfl ?_
              refine X_aload_n (j := 1) dX12_tests_150 rfl rfl ?_
              refine X_get (j := 0) fo_X12_81 dX12_tests_151 rfl rfl ?_
              refine X_iload_n (j := 2) dX12_tests_154 rfl rfl ?_
              refine X_iconst (v := 0) dX12_tests_155 (by decide) ?_
              refine X_iast (j := 1) (g := upd w_1.1 d 0) (cs' := [(m, ex_o 12 [ex_i x0, ex_i x1, ex_r x2, ex_i x3, ex_i x4, ex_i x5, ex_i x6, ex_j x7, ex_i x8, ex_i x9, ex_r x10, ex_r x11, ex_r x12, ex_r x13, ex_r x14, ex_r x15, ex_r x16, ex_r x17, ex_r x18, ex_r x19, ex_r x20, ex_r x21, ex_r x22, ex_r x23, ex_r x24, ex_r x25, ex_i x26, ex_i x27, ex_r x28, ex_r x29, ex_r x30, ex_r x31, ex_r x32, ex_r x33, ex_r x34, ex_r x35, ex_r x36, ex_r x37, ex_r x38, ex_r x39, ex_i x40, ex_j x41, ex_r x42, ex_r x43, ex_r x44, ex_r x45, ex_r x46, ex_r x47, ex_r x48, ex_r x49, ex_r x50, ex_r x51, ex_r x52, ex_r x53, ex_i x54, ex_i x55, ex_i x56, ex_i x57, ex_r x58, ex_r x59, ex_r x60, ex_r x61, ex_i x62, ex_r x63, ex_r x64, ex_i x65, ex_j x66]), (x34, ex_a 1 7 (upd w_1.1 d 0)), (x35, ex_a 1 7 sb), (x36, ex_a 1 7 te), (x37, ex_a 1 7 w_1.2), (x30, ex_a 1 7 (upd kp d 1)), (x31, ex_a 1 7 kb), (x32, ex_a 1 7 ah), (x33, ex_a 1 7 (upd ag d 0))]) dX12_tests_156 rfl (vp_in_nI (show d < 7 by omega) (by decide)) (by rw [nI_clamp (by omega)]) rfl ?_
              refine X_aload_n (j := 1) dX12_tests_157 rfl rfl ?_
              refine X_get (j := 0) fo_X12_84 dX12_tests_158 rfl rfl ?_
              refine X_iload_n (j := 2) dX12_tests_161 rfl rfl ?_
              refine X_bipush (v := 20) dX12_tests_162 (by decide) ?_
              refine X_iast (j := 2) (g := upd sb d 20) (cs' := [(m, ex_o 12 [ex_i x0, ex_i x1, ex_r x2, ex_i x3, ex_i x4, ex_i x5, ex_i x6, ex_j x7, ex_i x8, ex_i x9, ex_r x10, ex_r x11, ex_r x12, ex_r x13, ex_r x14, ex_r x15, ex_r x16, ex_r x17, ex_r x18, ex_r x19, ex_r x20, ex_r x21, ex_r x22, ex_r x23, ex_r x24, ex_r x25, ex_i x26, ex_i x27, ex_r x28, ex_r x29, ex_r x30, ex_r x31, ex_r x32, ex_r x33, ex_r x34, ex_r x35, ex_r x36, ex_r x37, ex_r x38, ex_r x39, ex_i x40, ex_j x41, ex_r x42, ex_r x43, ex_r x44, ex_r x45, ex_r x46, ex_r x47, ex_r x48, ex_r x49, ex_r x50, ex_r x51, ex_r x52, ex_r x53, ex_i x54, ex_i x55, ex_i x56, ex_i x57, ex_r x58, ex_r x59, ex_r x60, ex_r x61, ex_i x62, ex_r x63, ex_r x64, ex_i x65, ex_j x66]), (x34, ex_a 1 7 (upd w_1.1 d 0)), (x35, ex_a 1 7 (upd sb d 20)), (x36, ex_a 1 7 te), (x37, ex_a 1 7 w_1.2), (x30, ex_a 1 7 (upd kp d 1)), (x31, ex_a 1 7 kb), (x32, ex_a 1 7 ah), (x33, ex_a 1 7 (upd ag d 0))]) dX12_tests_164 rfl (vp_in_nI (show d < 7 by omega) (by decide)) (by rw [nI_clamp (by omega)]) rfl ?_
              try dsimp only at hV
              refine X_re (cs' := [(m, ex_o 12 [ex_i x0, ex_i x1, ex_r x2, ex_i x3, ex_i x4, ex_i x5, ex_i x6, ex_j x7, ex_i x8, ex_i x9, ex_r x10, ex_r x11, ex_r x12, ex_r x13, ex_r x14, ex_r x15, ex_r x16, ex_r x17, ex_r x18, ex_r x19, ex_r x20, ex_r x21, ex_r x22, ex_r x23, ex_r x24, ex_r x25, ex_i x26, ex_i x27, ex_r x28, ex_r x29, ex_r x30, ex_r x31, ex_r x32, ex_r x33, ex_r x34, ex_r x35, ex_r x36, ex_r x37, ex_r x38, ex_r x39, ex_i x40, ex_j x41, ex_r x42, ex_r x43, ex_r x44, ex_r x45, ex_r x46, ex_r x47, ex_r x48, ex_r x49, ex_r x50, ex_r x51, ex_r x52, ex_r x53, ex_i x54, ex_i x55, ex_i x56, ex_i x57, ex_r x58, ex_r x59, ex_r x60, ex_r x61, ex_i x62, ex_r x63, ex_r x64, ex_i x65, ex_j x66]), (x30, ex_a 1 7 (upd kp d 1)), (x31, ex_a 1 7 kb), (x32, ex_a 1 7 ah), (x33, ex_a 1 7 (upd ag d 0)), (x34, ex_a 1 7 (upd w_1.1 d 0)), (x35, ex_a 1 7 (upd sb d 20)), (x36, ex_a 1 7 te), (x37, ex_a 1 7 w_1.2)]) [0, 5, 6, 7, 8, 1, 2, 3, 4] (show List.Perm [0, 5, 6, 7, 8, 1, 2, 3, 4] (List.range 9) from by decide) rfl ?_
              exact X_vret dX12_tests_165 (by (repeat refine ex_kc ?_) <;> rfl) (by subst hV; exact ⟨rfl, rfl⟩)
            · have hV := hV.trans (if_pos c_13)
              refine X_iload_n (j := 0) dX12_tests_126 rfl rfl ?_
              refine X_if_eq (tgt := 134) dX12_tests_127 (by decide) (fun _ => ?_) (fun c_ => absurd rfl c_)
              refine X_iconst (v := 0) dX12_tests_134 (by decide) ?_
              refine X_istore_n (lv' := [(2, ex_i 0), (0, ex_r m), (1, ex_i (nI d))]) dX12_tests_135 rfl (Nat.le_of_ble_eq_true rfl) rfl ?_
              refine X_aload_n (j := 1) dX12_tests_136 rfl rfl ?_
              refine X_get (j := 0) fo_X12_69 dX12_tests_137 rfl rfl ?_
              refine X_iload_n (j := 2) dX12_tests_140 rfl rfl ?_
              refine X_iload_n (j := 0) dX12_tests_141 rfl rfl ?_
              refine X_iast (j := 5) (g := upd kp d 0) (cs' := [(m, ex_o 12 [ex_i x0, ex_i x1, ex_r x2, ex_i x3, ex_i x4, ex_i x5, ex_i x6, ex_j x7, ex_i x8, ex_i x9, ex_r x10, ex_r x11, ex_r x12, ex_r x13, ex_r x14, ex_r x15, ex_r x16, ex_r x17, ex_r x18, ex_r x19, ex_r x20, ex_r x21, ex_r x22, ex_r x23, ex_r x24, ex_r x25, ex_i x26, ex_i x27, ex_r x28, ex_r x29, ex_r x30, ex_r x31, ex_r x32, ex_r x33, ex_r x34, ex_r x35, ex_r x36, ex_r x37, ex_r x38, ex_r x39, ex_i x40, ex_j x41, ex_r x42, ex_r x43, ex_r x44, ex_r x45, ex_r x46, ex_r x47, ex_r x48, ex_r x49, ex_r x50, ex_r x51, ex_r x52, ex_r x53, ex_i x54, ex_i x55, ex_i x56, ex_i x57, ex_r x58, ex_r x59, ex_r x60, ex_r x61, ex_i x62, ex_r x63, ex_r x64, ex_i x65, ex_j x66]), (x34, ex_a 1 7 w_1.1), (x35, ex_a 1 7 sb), (x36, ex_a 1 7 te), (x37, ex_a 1 7 w_1.2), (x30, ex_a 1 7 (upd kp d 0)), (x31, ex_a 1 7 kb), (x32, ex_a 1 7 ah), (x33, ex_a 1 7 ag)]) dX12_tests_142 rfl (vp_in_nI (show d < 7 by omega) (by decide)) (by rw [nI_clamp (by omega)]) rfl ?_
              refine X_aload_n (j := 1) dX12_tests_143 rfl rfl ?_
              refine X_get (j := 0) fo_X12_78 dX12_tests_144 rfl rfl ?_
              refine X_iload_n (j := 2) dX12_tests_147 rfl rfl ?_
              refine X_iconst (v := 0) dX12_tests_148 (by decide) ?_
              refine X_iast (j := 8) (g := upd ag d 0) (cs' := [(m, ex_o 12 [ex_i x0, ex_i x1, ex_r x2, ex_i x3, ex_i x4, ex_i x5, ex_i x6, ex_j x7, ex_i x8, ex_i x9, ex_r x10, ex_r x11, ex_r x12, ex_r x13, ex_r x14, ex_r x15, ex_r x16, ex_r x17, ex_r x18, ex_r x19, ex_r x20, ex_r x21, ex_r x22, ex_r x23, ex_r x24, ex_r x25, ex_i x26, ex_i x27, ex_r x28, ex_r x29, ex_r x30, ex_r x31, ex_r x32, ex_r x33, ex_r x34, ex_r x35, ex_r x36, ex_r x37, ex_r x38, ex_r x39, ex_i x40, ex_j x41, ex_r x42, ex_r x43, ex_r x44, ex_r x45, ex_r x46, ex_r x47, ex_r x48, ex_r x49, ex_r x50, ex_r x51, ex_r x52, ex_r x53, ex_i x54, ex_i x55, ex_i x56, ex_i x57, ex_r x58, ex_r x59, ex_r x60, ex_r x61, ex_i x62, ex_r x63, ex_r x64, ex_i x65, ex_j x66]), (x34, ex_a 1 7 w_1.1), (x35, ex_a 1 7 sb), (x36, ex_a 1 7 te), (x37, ex_a 1 7 w_1.2), (x30, ex_a 1 7 (upd kp d 0)), (x31, ex_a 1 7 kb), (x32, ex_a 1 7 ah), (x33, ex_a 1 7 (upd ag d 0))]) dX12_tests_149 rfl (vp_in_nI (show d < 7 by omega) (by decide)) (by rw [nI_clamp (by omega)]) rfl ?_
              refine X_aload_n (j := 1) dX12_tests_150 rfl rfl ?_
              refine X_get (j := 0) fo_X12_81 dX12_tests_151 rfl rfl ?_
              refine X_iload_n (j := 2) dX12_tests_154 rfl rfl ?_
              refine X_iconst (v := 0) dX12_tests_155 (by decide) ?_
              refine X_iast (j := 1) (g := upd w_1.1 d 0) (cs' := [(m, ex_o 12 [ex_i x0, ex_i x1, ex_r x2, ex_i x3, ex_i x4, ex_i x5, ex_i x6, ex_j x7, ex_i x8, ex_i x9, ex_r x10, ex_r x11, ex_r x12, ex_r x13, ex_r x14, ex_r x15, ex_r x16, ex_r x17, ex_r x18, ex_r x19, ex_r x20, ex_r x21, ex_r x22, ex_r x23, ex_r x24, ex_r x25, ex_i x26, ex_i x27, ex_r x28, ex_r x29, ex_r x30, ex_r x31, ex_r x32, ex_r x33, ex_r x34, ex_r x35, ex_r x36, ex_r x37, ex_r x38, ex_r x39, ex_i x40, ex_j x41, ex_r x42, ex_r x43, ex_r x44, ex_r x45, ex_r x46, ex_r x47, ex_r x48, ex_r x49, ex_r x50, ex_r x51, ex_r x52, ex_r x53, ex_i x54, ex_i x55, ex_i x56, ex_i x57, ex_r x58, ex_r x59, ex_r x60, ex_r x61, ex_i x62, ex_r x63, ex_r x64, ex_i x65, ex_j x66]), (x34, ex_a 1 7 (upd w_1.1 d 0)), (x35, ex_a 1 7 sb), (x36, ex_a 1 7 te), (x37, ex_a 1 7 w_1.2), (x30, ex_a 1 7 (upd kp d 0)), (x31, ex_a 1 7 kb), (x32, ex_a 1 7 ah), (x33, ex_a 1 7 (upd ag d 0))]) dX12_tests_156 rfl (vp_in_nI (show d < 7 by omega) (by decide)) (by rw [nI_clamp (by omega)]) rfl ?_
              refine X_aload_n (j := 1) dX12_tests_157 rfl rfl ?_
              refine X_get (j := 0) fo_X12_84 dX12_tests_158 rfl rfl ?_
              refine X_iload_n (j := 2) dX12_tests_161 rfl rfl ?_
              refine X_bipush (v := 20) dX12_tests_162 (by decide) ?_
              refine X_iast (j := 2) (g := upd sb d 20) (cs' := [(m, ex_o 12 [ex_i x0, ex_i x1, ex_r x2, ex_i x3, ex_i x4, ex_i x5, ex_i x6, ex_j x7, ex_i x8, ex_i x9, ex_r x10, ex_r x11, ex_r x12, ex_r x13, ex_r x14, ex_r x15, ex_r x16, ex_r x17, ex_r x18, ex_r x19, ex_r x20, ex_r x21, ex_r x22, ex_r x23, ex_r x24, ex_r x25, ex_i x26, ex_i x27, ex_r x28, ex_r x29, ex_r x30, ex_r x31, ex_r x32, ex_r x33, ex_r x34, ex_r x35, ex_r x36, ex_r x37, ex_r x38, ex_r x39, ex_i x40, ex_j x41, ex_r x42, ex_r x43, ex_r x44, ex_r x45, ex_r x46, ex_r x47, ex_r x48, ex_r x49, ex_r x50, ex_r x51, ex_r x52, ex_r x53, ex_i x54, ex_i x55, ex_i x56, ex_i x57, ex_r x58, ex_r x59, ex_r x60, ex_r x61, ex_i x62, ex_r x63, ex_r x64, ex_i x65, ex_j x66]), (x34, ex_a 1 7 (upd w_1.1 d 0)), (x35, ex_a 1 7 (upd sb d 20)), (x36, ex_a 1 7 te), (x37, ex_a 1 7 w_1.2), (x30, ex_a 1 7 (upd kp d 0)), (x31, ex_a 1 7 kb), (x32, ex_a 1 7 ah), (x33, ex_a 1 7 (upd ag d 0))]) dX12_tests_164 rfl (vp_in_nI (show d < 7 by omega) (by decide)) (by rw [nI_clamp (by omega)]) rfl ?_
              try dsimp only at hV
              refine X_re (cs' := [(m, ex_o 12 [ex_i x0, ex_i x1, ex_r x2, ex_i x3, ex_i x4, ex_i x5, ex_i x6, ex_j x7, ex_i x8, ex_i x9, ex_r x10, ex_r x11, ex_r x12, ex_r x13, ex_r x14, ex_r x15, ex_r x16, ex_r x17, ex_r x18, ex_r x19, ex_r x20, ex_r x21, ex_r x22, ex_r x23, ex_r x24, ex_r x25, ex_i x26, ex_i x27, ex_r x28, ex_r x29, ex_r x30, ex_r x31, ex_r x32, ex_r x33, ex_r x34, ex_r x35, ex_r x36, ex_r x37, ex_r x38, ex_r x39, ex_i x40, ex_j x41, ex_r x42, ex_r x43, ex_r x44, ex_r x45, ex_r x46, ex_r x47, ex_r x48, ex_r x49, ex_r x50, ex_r x51, ex_r x52, ex_r x53, ex_i x54, ex_i x55, ex_i x56, ex_i x57, ex_r x58, ex_r x59, ex_r x60, ex_r x61, ex_i x62, ex_r x63, ex_r x64, ex_i x65, ex_j x66]), (x30, ex_a 1 7 (upd kp d 0)), (x31, ex_a 1 7 kb), (x32, ex_a 1 7 ah), (x33, ex_a 1 7 (upd ag d 0)), (x34, ex_a 1 7 (upd w_1.1 d 0)), (x35, ex_a 1 7 (upd sb d 20)), (x36, ex_a 1 7 te), (x37, ex_a 1 7 w_1.2)]) [0, 5, 6, 7, 8, 1, 2, 3, 4] (show List.Perm [0, 5, 6, 7, 8, 1, 2, 3, 4] (List.range 9) from by decide) rfl ?_
              exact X_vret dX12_tests_165 (by (repeat refine ex_kc ?_) <;> rfl) (by subst hV; exact ⟨rfl, rfl⟩)
        · have hV := hV.trans (if_pos c_11)
          refine X_aload_n (j := 1) dX12_tests_87 rfl rfl ?_
          refine X_get (j := 0) fo_X12_69 dX12_tests_88 rfl rfl ?_
          refine X_iload_n (j := 2) dX12_tests_91 rfl rfl ?_
          refine X_iald (j := 5) (v := (kp d)) dX12_tests_92 rfl (vp_in_nI (show d < 7 by omega) (by decide)) (by rw [nI_clamp (by omega)]) ?_
          refine X_if_eq (tgt := 104) dX12_tests_93 (by decide) (fun c_14 => ?_) (fun c_14 => ?_)
          · have hV := hV.trans (if_pos c_14)
            refine X_iconst (v := 0) dX12_tests_104 (by decide) ?_
            refine X_istore_n (lv' := [(2, ex_i 0), (0, ex_r m), (1, ex_i (nI d))]) dX12_tests_105 rfl (Nat.le_of_ble_eq_true rfl) rfl ?_
            refine X_aload_n (j := 1) dX12_tests_106 rfl rfl ?_
            refine X_get (j := 0) fo_X12_72 dX12_tests_107 rfl rfl ?_
            refine X_iload_n (j := 2) dX12_tests_110 rfl rfl ?_
            refine X_iald (j := 6) (v := (kb d)) dX12_tests_111 rfl (vp_in_nI (show d < 7 by omega) (by decide)) (by rw [nI_clamp (by omega)]) ?_
            refine X_bipush (v := 27) dX12_tests_112 (by decide) ?_
            refine X_icmp_ne (tgt := 136) dX12_tests_114 (by decide) (fun _ => ?_) (fun c_ => absurd c_ (by have q0 := c_11; simp only [lt_ti, le_ti, eq_ti, ti_26, ti_27] at q0 ⊢; omega))
            refine X_aload_n (j := 1) dX12_tests_136 rfl rfl ?_
            refine X_get (j := 0) fo_X12_69 dX12_tests_137 rfl rfl ?_
            refine X_iload_n (j := 2) dX12_tests_140 rfl rfl ?_
            refine X_iload_n (j := 0) dX12_tests_141 rfl rfl ?_
            refine X_iast (j := 5) (g := upd kp d 0) (cs' := [(m, ex_o 12 [ex_i x0, ex_i x1, ex_r x2, ex_i x3, ex_i x4, ex_i x5, ex_i x6, ex_j x7, ex_i x8, ex_i x9, ex_r x10, ex_r x11, ex_r x12, ex_r x13, ex_r x14, ex_r x15, ex_r x16, ex_r x17, ex_r x18, ex_r x19, ex_r x20, ex_r x21, ex_r x22, ex_r x23, ex_r x24, ex_r x25, ex_i x26, ex_i x27, ex_r x28, ex_r x29, ex_r x30, ex_r x31, ex_r x32, ex_r x33, ex_r x34, ex_r x35, ex_r x36, ex_r x37, ex_r x38, ex_r x39, ex_i x40, ex_j x41, ex_r x42, ex_r x43, ex_r x44, ex_r x45, ex_r x46, ex_r x47, ex_r x48, ex_r x49, ex_r x50, ex_r x51, ex_r x52, ex_r x53, ex_i x54, ex_i x55, ex_i x56, ex_i x57, ex_r x58, ex_r x59, ex_r x60, ex_r x61, ex_i x62, ex_r x63, ex_r x64, ex_i x65, ex_j x66]), (x34, ex_a 1 7 w_1.1), (x35, ex_a 1 7 sb), (x36, ex_a 1 7 te), (x37, ex_a 1 7 w_1.2), (x30, ex_a 1 7 (upd kp d 0)), (x31, ex_a 1 7 kb), (x32, ex_a 1 7 ah), (x33, ex_a 1 7 ag)]) dX12_tests_142 rfl (vp_in_nI (show d < 7 by omega) (by decide)) (by rw [nI_clamp (by omega)]) rfl ?_
            refine X_aload_n (j := 1) dX12_tests_143 rfl rfl ?_
            refine X_get (j := 0) fo_X12_78 dX12_tests_144 rfl rfl ?_
            refine X_iload_n (j := 2) dX12_tests_147 rfl rfl ?_
            refine X_iconst (v := 0) dX12_tests_148 (by decide) ?_
            refine X_iast (j := 8) (g := upd ag d 0) (cs' := [(m, ex_o 12 [ex_i x0, ex_i x1, ex_r x2, ex_i x3, ex_i x4, ex_i x5, ex_i x6, ex_j x7, ex_i x8, ex_i x9, ex_r x10, ex_r x11, ex_r x12, ex_r x13, ex_r x14, ex_r x15, ex_r x16, ex_r x17, ex_r x18, ex_r x19, ex_r x20, ex_r x21, ex_r x22, ex_r x23, ex_r x24, ex_r x25, ex_i x26, ex_i x27, ex_r x28, ex_r x29, ex_r x30, ex_r x31, ex_r x32, ex_r x33, ex_r x34, ex_r x35, ex_r x36, ex_r x37, ex_r x38, ex_r x39, ex_i x40, ex_j x41, ex_r x42, ex_r x43, ex_r x44, ex_r x45, ex_r x46, ex_r x47, ex_r x48, ex_r x49, ex_r x50, ex_r x51, ex_r x52, ex_r x53, ex_i x54, ex_i x55, ex_i x56, ex_i x57, ex_r x58, ex_r x59, ex_r x60, ex_r x61, ex_i x62, ex_r x63, ex_r x64, ex_i x65, ex_j x66]), (x34, ex_a 1 7 w_1.1), (x35, ex_a 1 7 sb), (x36, ex_a 1 7 te), (x37, ex_a 1 7 w_1.2), (x30, ex_a 1 7 (upd kp d 0)), (x31, ex_a 1 7 kb), (x32, ex_a 1 7 ah), (x33, ex_a 1 7 (upd ag d 0))]) dX12_tests_149 rfl (vp_in_nI (show d < 7 by omega) (by decide)) (by rw [nI_clamp (by omega)]) rfl ?_
            refine X_aload_n (j := 1) dX12_tests_150 rfl rfl ?_
            refine X_get (j := 0) fo_X12_81 dX12_tests_151 rfl rfl ?_
            refine X_iload_n (j := 2) dX12_tests_154 rfl rfl ?_
            refine X_iconst (v := 0) dX12_tests_155 (by decide) ?_
            refine X_iast (j := 1) (g := upd w_1.1 d 0) (cs' := [(m, ex_o 12 [ex_i x0, ex_i x1, ex_r x2, ex_i x3, ex_i x4, ex_i x5, ex_i x6, ex_j x7, ex_i x8, ex_i x9, ex_r x10, ex_r x11, ex_r x12, ex_r x13, ex_r x14, ex_r x15, ex_r x16, ex_r x17, ex_r x18, ex_r x19, ex_r x20, ex_r x21, ex_r x22, ex_r x23, ex_r x24, ex_r x25, ex_i x26, ex_i x27, ex_r x28, ex_r x29, ex_r x30, ex_r x31, ex_r x32, ex_r x33, ex_r x34, ex_r x35, ex_r x36, ex_r x37, ex_r x38, ex_r x39, ex_i x40, ex_j x41, ex_r x42, ex_r x43, ex_r x44, ex_r x45, ex_r x46, ex_r x47, ex_r x48, ex_r x49, ex_r x50, ex_r x51, ex_r x52, ex_r x53, ex_i x54, ex_i x55, ex_i x56, ex_i x57, ex_r x58, ex_r x59, ex_r x60, ex_r x61, ex_i x62, ex_r x63, ex_r x64, ex_i x65, ex_j x66]), (x34, ex_a 1 7 (upd w_1.1 d 0)), (x35, ex_a 1 7 sb), (x36, ex_a 1 7 te), (x37, ex_a 1 7 w_1.2), (x30, ex_a 1 7 (upd kp d 0)), (x31, ex_a 1 7 kb), (x32, ex_a 1 7 ah), (x33, ex_a 1 7 (upd ag d 0))]) dX12_tests_156 rfl (vp_in_nI (show d < 7 by omega) (by decide)) (by rw [nI_clamp (by omega)]) rfl ?_
            refine X_aload_n (j := 1) dX12_tests_157 rfl rfl ?_
            refine X_get (j := 0) fo_X12_84 dX12_tests_158 rfl rfl ?_
            refine X_iload_n (j := 2) dX12_tests_161 rfl rfl ?_
            refine X_bipush (v := 20) dX12_tests_162 (by decide) ?_
            refine X_iast (j := 2) (g := upd sb d 20) (cs' := [(m, ex_o 12 [ex_i x0, ex_i x1, ex_r x2, ex_i x3, ex_i x4, ex_i x5, ex_i x6, ex_j x7, ex_i x8, ex_i x9, ex_r x10, ex_r x11, ex_r x12, ex_r x13, ex_r x14, ex_r x15, ex_r x16, ex_r x17, ex_r x18, ex_r x19, ex_r x20, ex_r x21, ex_r x22, ex_r x23, ex_r x24, ex_r x25, ex_i x26, ex_i x27, ex_r x28, ex_r x29, ex_r x30, ex_r x31, ex_r x32, ex_r x33, ex_r x34, ex_r x35, ex_r x36, ex_r x37, ex_r x38, ex_r x39, ex_i x40, ex_j x41, ex_r x42, ex_r x43, ex_r x44, ex_r x45, ex_r x46, ex_r x47, ex_r x48, ex_r x49, ex_r x50, ex_r x51, ex_r x52, ex_r x53, ex_i x54, ex_i x55, ex_i x56, ex_i x57, ex_r x58, ex_r x59, ex_r x60, ex_r x61, ex_i x62, ex_r x63, ex_r x64, ex_i x65, ex_j x66]), (x34, ex_a 1 7 (upd w_1.1 d 0)), (x35, ex_a 1 7 (upd sb d 20)), (x36, ex_a 1 7 te), (x37, ex_a 1 7 w_1.2), (x30, ex_a 1 7 (upd kp d 0)), (x31, ex_a 1 7 kb), (x32, ex_a 1 7 ah), (x33, ex_a 1 7 (upd ag d 0))]) dX12_tests_164 rfl (vp_in_nI (show d < 7 by omega) (by decide)) (by rw [nI_clamp (by omega)]) rfl ?_
            try dsimp only at hV
            refine X_re (cs' := [(m, ex_o 12 [ex_i x0, ex_i x1, ex_r x2, ex_i x3, ex_i x4, ex_i x5, ex_i x6, ex_j x7, ex_i x8, ex_i x9, ex_r x10, ex_r x11, ex_r x12, ex_r x13, ex_r x14, ex_r x15, ex_r x16, ex_r x17, ex_r x18, ex_r x19, ex_r x20, ex_r x21, ex_r x22, ex_r x23, ex_r x24, ex_r x25, ex_i x26, ex_i x27, ex_r x28, ex_r x29, ex_r x30, ex_r x31, ex_r x32, ex_r x33, ex_r x34, ex_r x35, ex_r x36, ex_r x37, ex_r x38, ex_r x39, ex_i x40, ex_j x41, ex_r x42, ex_r x43, ex_r x44, ex_r x45, ex_r x46, ex_r x47, ex_r x48, ex_r x49, ex_r x50, ex_r x51, ex_r x52, ex_r x53, ex_i x54, ex_i x55, ex_i x56, ex_i x57, ex_r x58, ex_r x59, ex_r x60, ex_r x61, ex_i x62, ex_r x63, ex_r x64, ex_i x65, ex_j x66]), (x30, ex_a 1 7 (upd kp d 0)), (x31, ex_a 1 7 kb), (x32, ex_a 1 7 ah), (x33, ex_a 1 7 (upd ag d 0)), (x34, ex_a 1 7 (upd w_1.1 d 0)), (x35, ex_a 1 7 (upd sb d 20)), (x36, ex_a 1 7 te), (x37, ex_a 1 7 w_1.2)]) [0, 5, 6, 7, 8, 1, 2, 3, 4] (show List.Perm [0, 5, 6, 7, 8, 1, 2, 3, 4] (List.range 9) from by decide) rfl ?_
            exact X_vret dX12_tests_165 (by (repeat refine ex_kc ?_) <;> rfl) (by subst hV; exact ⟨rfl, rfl⟩)
          · have hV := hV.trans (if_neg c_14)
            refine X_iload_n (j := 0) dX12_tests_96 rfl rfl ?_
            refine X_if_eq (tgt := 104) dX12_tests_97 (by decide) (fun _ => ?_) (fun c_ => absurd rfl c_)
            refine X_iconst (v := 0) dX12_tests_104 (by decide) ?_
            refine X_istore_n (lv' := [(2, ex_i 0), (0, ex_r m), (1, ex_i (nI d))]) dX12_tests_105 rfl (Nat.le_of_ble_eq_true rfl) rfl ?_
            refine X_aload_n (j := 1) dX12_tests_106 rfl rfl ?_
            refine X_get (j := 0) fo_X12_72 dX12_tests_107 rfl rfl ?_
            refine X_iload_n (j := 2) dX12_tests_110 rfl rfl ?_
            refine X_iald (j := 6) (v := (kb d)) dX12_tests_111 rfl (vp_in_nI (show d < 7 by omega) (by decide)) (by rw [nI_clamp (by omega)]) ?_
            refine X_bipush (v := 27) dX12_tests_112 (by decide) ?_
            refine X_icmp_ne (tgt := 136) dX12_tests_114 (by decide) (fun _ => ?_) (fun c_ => absurd c_ (by have q0 := c_11; simp only [lt_ti, le_ti, eq_ti, ti_26, ti_27] at q0 ⊢; omega))
            refine X_aload_n (j := 1) dX12_tests_136 rfl rfl ?_
            refine X_get (j := 0) fo_X12_69 dX12_tests_137 rfl rfl ?_
            refine X_iload_n (j := 2) dX12_tests_140 rfl rfl ?_
            refine X_iload_n (j := 0) dX12_tests_141 rfl rfl ?_
            refine X_iast (j := 5) (g := upd kp d 0) (cs' := [(m, ex_o 12 [ex_i x0, ex_i x1, ex_r x2, ex_i x3, ex_i x4, ex_i x5, ex_i x6, ex_j x7, ex_i x8, ex_i x9, ex_r x10, ex_r x11, ex_r x12, ex_r x13, ex_r x14, ex_r x15, ex_r x16, ex_r x17, ex_r x18, ex_r x19, ex_r x20, ex_r x21, ex_r x22, ex_r x23, ex_r x24, ex_r x25, ex_i x26, ex_i x27, ex_r x28, ex_r x29, ex_r x30, ex_r x31, ex_r x32, ex_r x33, ex_r x34, ex_r x35, ex_r x36, ex_r x37, ex_r x38, ex_r x39, ex_i x40, ex_j x41, ex_r x42, ex_r x43, ex_r x44, ex_r x45, ex_r x46, ex_r x47, ex_r x48, ex_r x49, ex_r x50, ex_r x51, ex_r x52, ex_r x53, ex_i x54, ex_i x55, ex_i x56, ex_i x57, ex_r x58, ex_r x59, ex_r x60, ex_r x61, ex_i x62, ex_r x63, ex_r x64, ex_i x65, ex_j x66]), (x34, ex_a 1 7 w_1.1), (x35, ex_a 1 7 sb), (x36, ex_a 1 7 te), (x37, ex_a 1 7 w_1.2), (x30, ex_a 1 7 (upd kp d 0)), (x31, ex_a 1 7 kb), (x32, ex_a 1 7 ah), (x33, ex_a 1 7 ag)]) dX12_tests_142 rfl (vp_in_nI (show d < 7 by omega) (by decide)) (by rw [nI_clamp (by omega)]) rfl ?_
            refine X_aload_n (j := 1) dX12_tests_143 rfl rfl ?_
            refine X_get (j := 0) fo_X12_78 dX12_tests_144 rfl rfl ?_
            refine X_iload_n (j := 2) dX12_tests_147 rfl rfl ?_
            refine X_iconst (v := 0) dX12_tests_148 (by decide) ?_
            refine X_iast (j := 8) (g := upd ag d 0) (cs' := [(m, ex_o 12 [ex_i x0, ex_i x1, ex_r x2, ex_i x3, ex_i x4, ex_i x5, ex_i x6, ex_j x7, ex_i x8, ex_i x9, ex_r x10, ex_r x11, ex_r x12, ex_r x13, ex_r x14, ex_r x15, ex_r x16, ex_r x17, ex_r x18, ex_r x19, ex_r x20, ex_r x21, ex_r x22, ex_r x23, ex_r x24, ex_r x25, ex_i x26, ex_i x27, ex_r x28, ex_r x29, ex_r x30, ex_r x31, ex_r x32, ex_r x33, ex_r x34, ex_r x35, ex_r x36, ex_r x37, ex_r x38, ex_r x39, ex_i x40, ex_j x41, ex_r x42, ex_r x43, ex_r x44, ex_r x45, ex_r x46, ex_r x47, ex_r x48, ex_r x49, ex_r x50, ex_r x51, ex_r x52, ex_r x53, ex_i x54, ex_i x55, ex_i x56, ex_i x57, ex_r x58, ex_r x59, ex_r x60, ex_r x61, ex_i x62, ex_r x63, ex_r x64, ex_i x65, ex_j x66]), (x34, ex_a 1 7 w_1.1), (x35, ex_a 1 7 sb), (x36, ex_a 1 7 te), (x37, ex_a 1 7 w_1.2), (x30, ex_a 1 7 (upd kp d 0)), (x31, ex_a 1 7 kb), (x32, ex_a 1 7 ah), (x33, ex_a 1 7 (upd ag d 0))]) dX12_tests_149 rfl (vp_in_nI (show d < 7 by omega) (by decide)) (by rw [nI_clamp (by omega)]) rfl ?_
            refine X_aload_n (j := 1) dX12_tests_150 rfl rfl ?_
            refine X_get (j := 0) fo_X12_81 dX12_tests_151 rfl rfl ?_
            refine X_iload_n (j := 2) dX12_tests_154 rfl rfl ?_
            refine X_iconst (v := 0) dX12_tests_155 (by decide) ?_
            refine X_iast (j := 1) (g := upd w_1.1 d 0) (cs' := [(m, ex_o 12 [ex_i x0, ex_i x1, ex_r x2, ex_i x3, ex_i x4, ex_i x5, ex_i x6, ex_j x7, ex_i x8, ex_i x9, ex_r x10, ex_r x11, ex_r x12, ex_r x13, ex_r x14, ex_r x15, ex_r x16, ex_r x17, ex_r x18, ex_r x19, ex_r x20, ex_r x21, ex_r x22, ex_r x23, ex_r x24, ex_r x25, ex_i x26, ex_i x27, ex_r x28, ex_r x29, ex_r x30, ex_r x31, ex_r x32, ex_r x33, ex_r x34, ex_r x35, ex_r x36, ex_r x37, ex_r x38, ex_r x39, ex_i x40, ex_j x41, ex_r x42, ex_r x43, ex_r x44, ex_r x45, ex_r x46, ex_r x47, ex_r x48, ex_r x49, ex_r x50, ex_r x51, ex_r x52, ex_r x53, ex_i x54, ex_i x55, ex_i x56, ex_i x57, ex_r x58, ex_r x59, ex_r x60, ex_r x61, ex_i x62, ex_r x63, ex_r x64, ex_i x65, ex_j x66]), (x34, ex_a 1 7 (upd w_1.1 d 0)), (x35, ex_a 1 7 sb), (x36, ex_a 1 7 te), (x37, ex_a 1 7 w_1.2), (x30, ex_a 1 7 (upd kp d 0)), (x31, ex_a 1 7 kb), (x32, ex_a 1 7 ah), (x33, ex_a 1 7 (upd ag d 0))]) dX12_tests_156 rfl (vp_in_nI (show d < 7 by omega) (by decide)) (by rw [nI_clamp (by omega)]) rfl ?_
            refine X_aload_n (j := 1) dX12_tests_157 rfl rfl ?_
            refine X_get (j := 0) fo_X12_84 dX12_tests_158 rfl rfl ?_
            refine X_iload_n (j := 2) dX12_tests_161 rfl rfl ?_
            refine X_bipush (v := 20) dX12_tests_162 (by decide) ?_
            refine X_iast (j := 2) (g := upd sb d 20) (cs' := [(m, ex_o 12 [ex_i x0, ex_i x1, ex_r x2, ex_i x3, ex_i x4, ex_i x5, ex_i x6, ex_j x7, ex_i x8, ex_i x9, ex_r x10, ex_r x11, ex_r x12, ex_r x13, ex_r x14, ex_r x15, ex_r x16, ex_r x17, ex_r x18, ex_r x19, ex_r x20, ex_r x21, ex_r x22, ex_r x23, ex_r x24, ex_r x25, ex_i x26, ex_i x27, ex_r x28, ex_r x29, ex_r x30, ex_r x31, ex_r x32, ex_r x33, ex_r x34, ex_r x35, ex_r x36, ex_r x37, ex_r x38, ex_r x39, ex_i x40, ex_j x41, ex_r x42, ex_r x43, ex_r x44, ex_r x45, ex_r x46, ex_r x47, ex_r x48, ex_r x49, ex_r x50, ex_r x51, ex_r x52, ex_r x53, ex_i x54, ex_i x55, ex_i x56, ex_i x57, ex_r x58, ex_r x59, ex_r x60, ex_r x61, ex_i x62, ex_r x63, ex_r x64, ex_i x65, ex_j x66]), (x34, ex_a 1 7 (upd w_1.1 d 0)), (x35, ex_a 1 7 (upd sb d 20)), (x36, ex_a 1 7 te), (x37, ex_a 1 7 w_1.2), (x30, ex_a 1 7 (upd kp d 0)), (x31, ex_a 1 7 kb), (x32, ex_a 1 7 ah), (x33, ex_a 1 7 (upd ag d 0))]) dX12_tests_164 rfl (vp_in_nI (show d < 7 by omega) (by decide)) (by rw [nI_clamp (by omega)]) rfl ?_
            try dsimp only at hV
            refine X_re (cs' := [(m, ex_o 12 [ex_i x0, ex_i x1, ex_r x2, ex_i x3, ex_i x4, ex_i x5, ex_i x6, ex_j x7, ex_i x8, ex_i x9, ex_r x10, ex_r x11, ex_r x12, ex_r x13, ex_r x14, ex_r x15, ex_r x16, ex_r x17, ex_r x18, ex_r x19, ex_r x20, ex_r x21, ex_r x22, ex_r x23, ex_r x24, ex_r x25, ex_i x26, ex_i x27, ex_r x28, ex_r x29, ex_r x30, ex_r x31, ex_r x32, ex_r x33, ex_r x34, ex_r x35, ex_r x36, ex_r x37, ex_r x38, ex_r x39, ex_i x40, ex_j x41, ex_r x42, ex_r x43, ex_r x44, ex_r x45, ex_r x46, ex_r x47, ex_r x48, ex_r x49, ex_r x50, ex_r x51, ex_r x52, ex_r x53, ex_i x54, ex_i x55, ex_i x56, ex_i x57, ex_r x58, ex_r x59, ex_r x60, ex_r x61, ex_i x62, ex_r x63, ex_r x64, ex_i x65, ex_j x66]), (x30, ex_a 1 7 (upd kp d 0)), (x31, ex_a 1 7 kb), (x32, ex_a 1 7 ah), (x33, ex_a 1 7 (upd ag d 0)), (x34, ex_a 1 7 (upd w_1.1 d 0)), (x35, ex_a 1 7 (upd sb d 20)), (x36, ex_a 1 7 te), (x37, ex_a 1 7 w_1.2)]) [0, 5, 6, 7, 8, 1, 2, 3, 4] (show List.Perm [0, 5, 6, 7, 8, 1, 2, 3, 4] (List.range 9) from by decide) rfl ?_
            exact X_vret dX12_tests_165 (by (repeat refine ex_kc ?_) <;> rfl) (by subst hV; exact ⟨rfl, rfl⟩)
      · have hV := hV.trans (if_pos c_10)
        refine X_iconst (v := 1) dX12_tests_70 (by decide) ?_
        refine X_goto (tgt := 75) dX12_tests_71 (by decide) ?_
        refine X_istore_n (lv' := [(2, ex_i 1), (0, ex_r m), (1, ex_i (nI d))]) dX12_tests_75 rfl (Nat.le_of_ble_eq_true rfl) rfl ?_
        refine X_aload_n (j := 1) dX12_tests_76 rfl rfl ?_
        refine X_get (j := 0) fo_X12_72 dX12_tests_77 rfl rfl ?_
        refine X_iload_n (j := 2) dX12_tests_80 rfl rfl ?_
        refine X_iald (j := 6) (v := (kb d)) dX12_tests_81 rfl (vp_in_nI (show d < 7 by omega) (by decide)) (by rw [nI_clamp (by omega)]) ?_
        refine X_bipush (v := 26) dX12_tests_82 (by decide) ?_
        refine X_icmp_ne (tgt := 106) dX12_tests_84 (by decide) (fun c_15 => ?_) (fun c_15 => ?_)
        · have hV := hV.trans (if_neg c_15)
          refine X_aload_n (j := 1) dX12_tests_106 rfl rfl ?_
          refine X_get (j := 0) fo_X12_72 dX12_tests_107 rfl rfl ?_
          refine X_iload_n (j := 2) dX12_tests_110 rfl rfl ?_
          refine X_iald (j := 6) (v := (kb d)) dX12_tests_111 rfl (vp_in_nI (show d < 7 by omega) (by decide)) (by rw [nI_clamp (by omega)]) ?_
          refine X_bipush (v := 27) dX12_tests_112 (by decide) ?_
          refine X_icmp_ne (tgt := 136) dX12_tests_114 (by decide) (fun c_16 => ?_) (fun c_16 => ?_)
          · have hV := hV.trans (if_neg c_16)
            refine X_aload_n (j := 1) dX12_tests_136 rfl rfl ?_
            refine X_get (j := 0) fo_X12_69 dX12_tests_137 rfl rfl ?_
            refine X_iload_n (j := 2) dX12_tests_140 rfl rfl ?_
            refine X_iload_n (j := 0) dX12_tests_141 rfl rfl ?_
            refine X_iast (j := 5) (g := upd kp d 1) (cs' := [(m, ex_o 12 [ex_i x0, ex_i x1, ex_r x2, ex_i x3, ex_i x4, ex_i x5, ex_i x6, ex_j x7, ex_i x8, ex_i x9, ex_r x10, ex_r x11, ex_r x12, ex_r x13, ex_r x14, ex_r x15, ex_r x16, ex_r x17, ex_r x18, ex_r x19, ex_r x20, ex_r x21, ex_r x22, ex_r x23, ex_r x24, ex_r x25, ex_i x26, ex_i x27, ex_r x28, ex_r x29, ex_r x30, ex_r x31, ex_r x32, ex_r x33, ex_r x34, ex_r x35, ex_r x36, ex_r x37, ex_r x38, ex_r x39, ex_i x40, ex_j x41, ex_r x42, ex_r x43, ex_r x44, ex_r x45, ex_r x46, ex_r x47, ex_r x48, ex_r x49, ex_r x50, ex_r x51, ex_r x52, ex_r x53, ex_i x54, ex_i x55, ex_i x56, ex_i x57, ex_r x58, ex_r x59, ex_r x60, ex_r x61, ex_i x62, ex_r x63, ex_r x64, ex_i x65, ex_j x66]), (x34, ex_a 1 7 w_1.1), (x35, ex_a 1 7 sb), (x36, ex_a 1 7 te), (x37, ex_a 1 7 w_1.2), (x30, ex_a 1 7 (upd kp d 1)), (x31, ex_a 1 7 kb), (x32, ex_a 1 7 ah), (x33, ex_a 1 7 ag)]) dX12_tests_142 rfl (vp_in_nI (show d < 7 by omega) (by decide)) (by rw [nI_clamp (by omega)]) rfl ?_
            refine X_aload_n (j := 1) dX12_tests_143 rfl rfl ?_
            refine X_get (j := 0) fo_X12_78 dX12_tests_144 rfl rfl ?_
            refine X_iload_n (j := 2) dX12_tests_147 rfl rfl ?_
            refine X_iconst (v := 0) dX12_tests_148 (by decide) ?_
            refine X_iast (j := 8) (g := upd ag d 0) (cs' := [(m, ex_o 12 [ex_i x0, ex_i x1, ex_r x2, ex_i x3, ex_i x4, ex_i x5, ex_i x6, ex_j x7, ex_i x8, ex_i x9, ex_r x10, ex_r x11, ex_r x12, ex_r x13, ex_r x14, ex_r x15, ex_r x16, ex_r x17, ex_r x18, ex_r x19, ex_r x20, ex_r x21, ex_r x22, ex_r x23, ex_r x24, ex_r x25, ex_i x26, ex_i x27, ex_r x28, ex_r x29, ex_r x30, ex_r x31, ex_r x32, ex_r x33, ex_r x34, ex_r x35, ex_r x36, ex_r x37, ex_r x38, ex_r x39, ex_i x40, ex_j x41, ex_r x42, ex_r x43, ex_r x44, ex_r x45, ex_r x46, ex_r x47, ex_r x48, ex_r x49, ex_r x50, ex_r x51, ex_r x52, ex_r x53, ex_i x54, ex_i x55, ex_i x56, ex_i x57, ex_r x58, ex_r x59, ex_r x60, ex_r x61, ex_i x62, ex_r x63, ex_r x64, ex_i x65, ex_j x66]), (x34, ex_a 1 7 w_1.1), (x35, ex_a 1 7 sb), (x36, ex_a 1 7 te), (x37, ex_a 1 7 w_1.2), (x30, ex_a 1 7 (upd kp d 1)), (x31, ex_a 1 7 kb), (x32, ex_a 1 7 ah), (x33, ex_a 1 7 (upd ag d 0))]) dX12_tests_149 rfl (vp_in_nI (show d < 7 by omega) (by decide)) (by rw [nI_clamp (by omega)]) rfl ?_
            refine X_aload_n (j := 1) dX12_tests_150 rfl rfl ?_
            refine X_get (j := 0) fo_X12_81 dX12_tests_151 rfl rfl ?_
            refine X_iload_n (j := 2) dX12_tests_154 rfl rfl ?_
            refine X_iconst (v := 0) dX12_tests_155 (by decide) ?_
            refine X_iast (j := 1) (g := upd w_1.1 d 0) (cs' := [(m, ex_o 12 [ex_i x0, ex_i x1, ex_r x2, ex_i x3, ex_i x4, ex_i x5, ex_i x6, ex_j x7, ex_i x8, ex_i x9, ex_r x10, ex_r x11, ex_r x12, ex_r x13, ex_r x14, ex_r x15, ex_r x16, ex_r x17, ex_r x18, ex_r x19, ex_r x20, ex_r x21, ex_r x22, ex_r x23, ex_r x24, ex_r x25, ex_i x26, ex_i x27, ex_r x28, ex_r x29, ex_r x30, ex_r x31, ex_r x32, ex_r x33, ex_r x34, ex_r x35, ex_r x36, ex_r x37, ex_r x38, ex_r x39, ex_i x40, ex_j x41, ex_r x42, ex_r x43, ex_r x44, ex_r x45, ex_r x46, ex_r x47, ex_r x48, ex_r x49, ex_r x50, ex_r x51, ex_r x52, ex_r x53, ex_i x54, ex_i x55, ex_i x56, ex_i x57, ex_r x58, ex_r x59, ex_r x60, ex_r x61, ex_i x62, ex_r x63, ex_r x64, ex_i x65, ex_j x66]), (x34, ex_a 1 7 (upd w_1.1 d 0)), (x35, ex_a 1 7 sb), (x36, ex_a 1 7 te), (x37, ex_a 1 7 w_1.2), (x30, ex_a 1 7 (upd kp d 1)), (x31, ex_a 1 7 kb), (x32, ex_a 1 7 ah), (x33, ex_a 1 7 (upd ag d 0))]) dX12_tests_156 rfl (vp_in_nI (show d < 7 by omega) (by decide)) (by rw [nI_clamp (by omega)]) rfl ?_
            refine X_aload_n (j := 1) dX12_tests_157 rfl rfl ?_
            refine X_get (j := 0) fo_X12_84 dX12_tests_158 rfl rfl ?_
            refine X_iload_n (j := 2) dX12_tests_161 rfl rfl ?_
            refine X_bipush (v := 20) dX12_tests_162 (by decide) ?_
            refine X_iast (j := 2) (g := upd sb d 20) (cs' := [(m, ex_o 12 [ex_i x0, ex_i x1, ex_r x2, ex_i x3, ex_i x4, ex_i x5, ex_i x6, ex_j x7, ex_i x8, ex_i x9, ex_r x10, ex_r x11, ex_r x12, ex_r x13, ex_r x14, ex_r x15, ex_r x16, ex_r x17, ex_r x18, ex_r x19, ex_r x20, ex_r x21, ex_r x22, ex_r x23, ex_r x24, ex_r x25, ex_i x26, ex_i x27, ex_r x28, ex_r x29, ex_r x30, ex_r x31, ex_r x32, ex_r x33, ex_r x34, ex_r x35, ex_r x36, ex_r x37, ex_r x38, ex_r x39, ex_i x40, ex_j x41, ex_r x42, ex_r x43, ex_r x44, ex_r x45, ex_r x46, ex_r x47, ex_r x48, ex_r x49, ex_r x50, ex_r x51, ex_r x52, ex_r x53, ex_i x54, ex_i x55, ex_i x56, ex_i x57, ex_r x58, ex_r x59, ex_r x60, ex_r x61, ex_i x62, ex_r x63, ex_r x64, ex_i x65, ex_j x66]), (x34, ex_a 1 7 (upd w_1.1 d 0)), (x35, ex_a 1 7 (upd sb d 20)), (x36, ex_a 1 7 te), (x37, ex_a 1 7 w_1.2), (x30, ex_a 1 7 (upd kp d 1)), (x31, ex_a 1 7 kb), (x32, ex_a 1 7 ah), (x33, ex_a 1 7 (upd ag d 0))]) dX12_tests_164 rfl (vp_in_nI (show d < 7 by omega) (by decide)) (by rw [nI_clamp (by omega)]) rfl ?_
            try dsimp only at hV
            refine X_re (cs' := [(m, ex_o 12 [ex_i x0, ex_i x1, ex_r x2, ex_i x3, ex_i x4, ex_i x5, ex_i x6, ex_j x7, ex_i x8, ex_i x9, ex_r x10, ex_r x11, ex_r x12, ex_r x13, ex_r x14, ex_r x15, ex_r x16, ex_r x17, ex_r x18, ex_r x19, ex_r x20, ex_r x21, ex_r x22, ex_r x23, ex_r x24, ex_r x25, ex_i x26, ex_i x27, ex_r x28, ex_r x29, ex_r x30, ex_r x31, ex_r x32, ex_r x33, ex_r x34, ex_r x35, ex_r x36, ex_r x37, ex_r x38, ex_r x39, ex_i x40, ex_j x41, ex_r x42, ex_r x43, ex_r x44, ex_r x45, ex_r x46, ex_r x47, ex_r x48, ex_r x49, ex_r x50, ex_r x51, ex_r x52, ex_r x53, ex_i x54, ex_i x55, ex_i x56, ex_i x57, ex_r x58, ex_r x59, ex_r x60, ex_r x61, ex_i x62, ex_r x63, ex_r x64, ex_i x65, ex_j x66]), (x30, ex_a 1 7 (upd kp d 1)), (x31, ex_a 1 7 kb), (x32, ex_a 1 7 ah), (x33, ex_a 1 7 (upd ag d 0)), (x34, ex_a 1 7 (upd w_1.1 d 0)), (x35, ex_a 1 7 (upd sb d 20)), (x36, ex_a 1 7 te), (x37, ex_a 1 7 w_1.2)]) [0, 5, 6, 7, 8, 1, 2, 3, 4] (show List.Perm [0, 5, 6, 7, 8, 1, 2, 3, 4] (List.range 9) from by decide) rfl ?_
            exact X_vret dX12_tests_165 (by (repeat refine ex_kc ?_) <;> rfl) (by subst hV; exact ⟨rfl, rfl⟩)
          · have hV := hV.trans (if_pos c_16)
            refine X_aload_n (j := 1) dX12_tests_117 rfl rfl ?_
            refine X_get (j := 0) fo_X12_69 dX12_tests_118 rfl rfl ?_
            refine X_iload_n (j := 2) dX12_tests_121 rfl rfl ?_
            refine X_iald (j := 5) (v := (kp d)) dX12_tests_122 rfl (vp_in_nI (show d < 7 by omega) (by decide)) (by rw [nI_clamp (by omega)]) ?_
            refine X_if_ne (tgt := 130) dX12_tests_123 (by decide) (fun c_17 => ?_) (fun c_17 => ?_)
            · have hV := hV.trans (if_neg c_17)
              refine X_iconst (v := 1) dX12_tests_130 (by decide) ?_
              refine X_goto (tgt := 135) dX12_tests_131 (by decide) ?_
              refine X_istore_n (lv' := [(2, ex_i 1), (0, ex_r m), (1, ex_i (nI d))]) dX12_tests_135 rfl (Nat.le_of_ble_eq_true rfl) rfl ?_
              refine X_aload_n (j := 1) dX12_tests_136 rfl rfl ?_
              refine X_get (j := 0) fo_X12_69 dX12_tests_137 rfl rfl ?_
              refine X_iload_n (j := 2) dX12_tests_140 rfl rfl ?_
              refine X_iload_n (j := 0) dX12_tests_141 rfl rfl ?_
              refine X_iast (j := 5) (g := upd kp d 1) (cs' := [(m, ex_o 12 [ex_i x0, ex_i x1, ex_r x2, ex_i x3, ex_i x4, ex_i x5, ex_i x6, ex_j x7, ex_i x8, ex_i x9, ex_r x10, ex_r x11, ex_r x12, ex_r x13, ex_r x14, ex_r x15, ex_r x16, ex_r x17, ex_r x18, ex_r x19, ex_r x20, ex_r x21, ex_r x22, ex_r x23, ex_r x24, ex_r x25, ex_i x26, ex_i x27, ex_r x28, ex_r x29, ex_r x30, ex_r x31, ex_r x32, ex_r x33, ex_r x34, ex_r x35, ex_r x36, ex_r x37, ex_r x38, ex_r x39, ex_i x40, ex_j x41, ex_r x42, ex_r x43, ex_r x44, ex_r x45, ex_r x46, ex_r x47, ex_r x48, ex_r x49, ex_r x50, ex_r x51, ex_r x52, ex_r x53, ex_i x54, ex_i x55, ex_i x56, ex_i x57, ex_r x58, ex_r x59, ex_r x60, ex_r x61, ex_i x62, ex_r x63, ex_r x64, ex_i x65, ex_j x66]), (x34, ex_a 1 7 w_1.1), (x35, ex_a 1 7 sb), (x36, ex_a 1 7 te), (x37, ex_a 1 7 w_1.2), (x30, ex_a 1 7 (upd kp d 1)), (x31, ex_a 1 7 kb), (x32, ex_a 1 7 ah), (x33, ex_a 1 7 ag)]) dX12_tests_142 rfl (vp_in_nI (show d < 7 by omega) (by decide)) (by rw [nI_clamp (by omega)]) rfl ?_
              refine X_aload_n (j := 1) dX12_tests_143 rfl rfl ?_
              refine X_get (j := 0) fo_X12_78 dX12_tests_144 rfl rfl ?_
              refine X_iload_n (j := 2) dX12_tests_147 rfl rfl ?_
              refine X_iconst (v := 0) dX12_tests_148 (by decide) ?_
              refine X_iast (j := 8) (g := upd ag d 0) (cs' := [(m, ex_o 12 [ex_i x0, ex_i x1, ex_r x2, ex_i x3, ex_i x4, ex_i x5, ex_i x6, ex_j x7, ex_i x8, ex_i x9, ex_r x10, ex_r x11, ex_r x12, ex_r x13, ex_r x14, ex_r x15, ex_r x16, ex_r x17, ex_r x18, ex_r x19, ex_r x20, ex_r x21, ex_r x22, ex_r x23, ex_r x24, ex_r x25, ex_i x26, ex_i x27, ex_r x28, ex_r x29, ex_r x30, ex_r x31, ex_r x32, ex_r x33, ex_r x34, ex_r x35, ex_r x36, ex_r x37, ex_r x38, ex_r x39, ex_i x40, ex_j x41, ex_r x42, ex_r x43, ex_r x44, ex_r x45, ex_r x46, ex_r x47, ex_r x48, ex_r x49, ex_r x50, ex_r x51, ex_r x52, ex_r x53, ex_i x54, ex_i x55, ex_i x56, ex_i x57, ex_r x58, ex_r x59, ex_r x60, ex_r x61, ex_i x62, ex_r x63, ex_r x64, ex_i x65, ex_j x66]), (x34, ex_a 1 7 w_1.1), (x35, ex_a 1 7 sb), (x36, ex_a 1 7 te), (x37, ex_a 1 7 w_1.2), (x30, ex_a 1 7 (upd kp d 1)), (x31, ex_a 1 7 kb), (x32, ex_a 1 7 ah), (x33, ex_a 1 7 (upd ag d 0))]) dX12_tests_149 rfl (vp_in_nI (show d < 7 by omega) (by decide)) (by rw [nI_clamp (by omega)]) rfl ?_
              refine X_aload_n (j := 1) dX12_tests_150 rfl rfl ?_
              refine X_get (j := 0) fo_X12_81 dX12_tests_151 rfl rfl ?_
              refine X_iload_n (j := 2) dX12_tests_154 rfl rfl ?_
              refine X_iconst (v := 0) dX12_tests_155 (by decide) ?_
              refine X_iast (j := 1) (g := upd w_1.1 d 0) (cs' := [(m, ex_o 12 [ex_i x0, ex_i x1, ex_r x2, ex_i x3, ex_i x4, ex_i x5, ex_i x6, ex_j x7, ex_i x8, ex_i x9, ex_r x10, ex_r x11, ex_r x12, ex_r x13, ex_r x14, ex_r x15, ex_r x16, ex_r x17, ex_r x18, ex_r x19, ex_r x20, ex_r x21, ex_r x22, ex_r x23, ex_r x24, ex_r x25, ex_i x26, ex_i x27, ex_r x28, ex_r x29, ex_r x30, ex_r x31, ex_r x32, ex_r x33, ex_r x34, ex_r x35, ex_r x36, ex_r x37, ex_r x38, ex_r x39, ex_i x40, ex_j x41, ex_r x42, ex_r x43, ex_r x44, ex_r x45, ex_r x46, ex_r x47, ex_r x48, ex_r x49, ex_r x50, ex_r x51, ex_r x52, ex_r x53, ex_i x54, ex_i x55, ex_i x56, ex_i x57, ex_r x58, ex_r x59, ex_r x60, ex_r x61, ex_i x62, ex_r x63, ex_r x64, ex_i x65, ex_j x66]), (x34, ex_a 1 7 (upd w_1.1 d 0)), (x35, ex_a 1 7 sb), (x36, ex_a 1 7 te), (x37, ex_a 1 7 w_1.2), (x30, ex_a 1 7 (upd kp d 1)), (x31, ex_a 1 7 kb), (x32, ex_a 1 7 ah), (x33, ex_a 1 7 (upd ag d 0))]) dX12_tests_156 rfl (vp_in_nI (show d < 7 by omega) (by decide)) (by rw [nI_clamp (by omega)]) rfl ?_
              refine X_aload_n (j := 1) dX12_tests_157 rfl rfl ?_
              refine X_get (j := 0) fo_X12_84 dX12_tests_158 rfl rfl ?_
              refine X_iload_n (j := 2) dX12_tests_161 rfl rfl ?_
              refine X_bipush (v := 20) dX12_tests_162 (by decide) ?_
              refine X_iast (j := 2) (g := upd sb d 20) (cs' := [(m, ex_o 12 [ex_i x0, ex_i x1, ex_r x2, ex_i x3, ex_i x4, ex_i x5, ex_i x6, ex_j x7, ex_i x8, ex_i x9, ex_r x10, ex_r x11, ex_r x12, ex_r x13, ex_r x14, ex_r x15, ex_r x16, ex_r x17, ex_r x18, ex_r x19, ex_r x20, ex_r x21, ex_r x22, ex_r x23, ex_r x24, ex_r x25, ex_i x26, ex_i x27, ex_r x28, ex_r x29, ex_r x30, ex_r x31, ex_r x32, ex_r x33, ex_r x34, ex_r x35, ex_r x36, ex_r x37, ex_r x38, ex_r x39, ex_i x40, ex_j x41, ex_r x42, ex_r x43, ex_r x44, ex_r x45, ex_r x46, ex_r x47, ex_r x48, ex_r x49, ex_r x50, ex_r x51, ex_r x52, ex_r x53, ex_i x54, ex_i x55, ex_i x56, ex_i x57, ex_r x58, ex_r x59, ex_r x60, ex_r x61, ex_i x62, ex_r x63, ex_r x64, ex_i x65, ex_j x66]), (x34, ex_a 1 7 (upd w_1.1 d 0)), (x35, ex_a 1 7 (upd sb d 20)), (x36, ex_a 1 7 te), (x37, ex_a 1 7 w_1.2), (x30, ex_a 1 7 (upd kp d 1)), (x31, ex_a 1 7 kb), (x32, ex_a 1 7 ah), (x33, ex_a 1 7 (upd ag d 0))]) dX12_tests_164 rfl (vp_in_nI (show d < 7 by omega) (by decide)) (by rw [nI_clamp (by omega)]) rfl ?_
              try dsimp only at hV
              refine X_re (cs' := [(m, ex_o 12 [ex_i x0, ex_i x1, ex_r x2, ex_i x3, ex_i x4, ex_i x5, ex_i x6, ex_j x7, ex_i x8, ex_i x9, ex_r x10, ex_r x11, ex_r x12, ex_r x13, ex_r x14, ex_r x15, ex_r x16, ex_r x17, ex_r x18, ex_r x19, ex_r x20, ex_r x21, ex_r x22, ex_r x23, ex_r x24, ex_r x25, ex_i x26, ex_i x27, ex_r x28, ex_r x29, ex_r x30, ex_r x31, ex_r x32, ex_r x33, ex_r x34, ex_r x35, ex_r x36, ex_r x37, ex_r x38, ex_r x39, ex_i x40, ex_j x41, ex_r x42, ex_r x43, ex_r x44, ex_r x45, ex_r x46, ex_r x47, ex_r x48, ex_r x49, ex_r x50, ex_r x51, ex_r x52, ex_r x53, ex_i x54, ex_i x55, ex_i x56, ex_i x57, ex_r x58, ex_r x59, ex_r x60, ex_r x61, ex_i x62, ex_r x63, ex_r x64, ex_i x65, ex_j x66]), (x30, ex_a 1 7 (upd kp d 1)), (x31, ex_a 1 7 kb), (x32, ex_a 1 7 ah), (x33, ex_a 1 7 (upd ag d 0)), (x34, ex_a 1 7 (upd w_1.1 d 0)), (x35, ex_a 1 7 (upd sb d 20)), (x36, ex_a 1 7 te), (x37, ex_a 1 7 w_1.2)]) [0, 5, 6, 7, 8, 1, 2, 3, 4] (show List.Perm [0, 5, 6, 7, 8, 1, 2, 3, 4] (List.range 9) from by decide) rfl ?_
              exact X_vret dX12_tests_165 (by (repeat refine ex_kc ?_) <;> rfl) (by subst hV; exact ⟨rfl, rfl⟩)
            · have hV := hV.trans (if_pos c_17)
              refine X_iload_n (j := 0) dX12_tests_126 rfl rfl ?_
              refine X_if_eq (tgt := 134) dX12_tests_127 (by decide) (fun c_ => absurd c_ (by decide)) (fun _ => ?_)
              refine X_iconst (v := 1) dX12_tests_130 (by decide) ?_
              refine X_goto (tgt := 135) dX12_tests_131 (by decide) ?_
              refine X_istore_n (lv' := [(2, ex_i 1), (0, ex_r m), (1, ex_i (nI d))]) dX12_tests_135 rfl (Nat.le_of_ble_eq_true rfl) rfl ?_
              refine X_aload_n (j := 1) dX12_tests_136 rfl rfl ?_
              refine X_get (j := 0) fo_X12_69 dX12_tests_137 rfl rfl ?_
              refine X_iload_n (j := 2) dX12_tests_140 rfl rfl ?_
              refine X_iload_n (j := 0) dX12_tests_141 rfl rfl ?_
              refine X_iast (j := 5) (g := upd kp d 1) (cs' := [(m, ex_o 12 [ex_i x0, ex_i x1, ex_r x2, ex_i x3, ex_i x4, ex_i x5, ex_i x6, ex_j x7, ex_i x8, ex_i x9, ex_r x10, ex_r x11, ex_r x12, ex_r x13, ex_r x14, ex_r x15, ex_r x16, ex_r x17, ex_r x18, ex_r x19, ex_r x20, ex_r x21, ex_r x22, ex_r x23, ex_r x24, ex_r x25, ex_i x26, ex_i x27, ex_r x28, ex_r x29, ex_r x30, ex_r x31, ex_r x32, ex_r x33, ex_r x34, ex_r x35, ex_r x36, ex_r x37, ex_r x38, ex_r x39, ex_i x40, ex_j x41, ex_r x42, ex_r x43, ex_r x44, ex_r x45, ex_r x46, ex_r x47, ex_r x48, ex_r x49, ex_r x50, ex_r x51, ex_r x52, ex_r x53, ex_i x54, ex_i x55, ex_i x56, ex_i x57, ex_r x58, ex_r x59, ex_r x60, ex_r x61, ex_i x62, ex_r x63, ex_r x64, ex_i x65, ex_j x66]), (x34, ex_a 1 7 w_1.1), (x35, ex_a 1 7 sb), (x36, ex_a 1 7 te), (x37, ex_a 1 7 w_1.2), (x30, ex_a 1 7 (upd kp d 1)), (x31, ex_a 1 7 kb), (x32, ex_a 1 7 ah), (x33, ex_a 1 7 ag)]) dX12_tests_142 rfl (vp_in_nI (show d < 7 by omega) (by decide)) (by rw [nI_clamp (by omega)]) rfl ?_
              refine X_aload_n (j := 1) dX12_tests_143 rfl rfl ?_
              refine X_get (j := 0) fo_X12_78 dX12_tests_144 rfl rfl ?_
              refine X_iload_n (j := 2) dX12_tests_147 rfl rfl ?_
              refine X_iconst (v := 0) dX12_tests_148 (by decide) ?_
              refine X_iast (j := 8) (g := upd ag d 0) (cs' := [(m, ex_o 12 [ex_i x0, ex_i x1, ex_r x2, ex_i x3, ex_i x4, ex_i x5, ex_i x6, ex_j x7, ex_i x8, ex_i x9, ex_r x10, ex_r x11, ex_r x12, ex_r x13, ex_r x14, ex_r x15, ex_r x16, ex_r x17, ex_r x18, ex_r x19, ex_r x20, ex_r x21, ex_r x22, ex_r x23, ex_r x24, ex_r x25, ex_i x26, ex_i x27, ex_r x28, ex_r x29, ex_r x30, ex_r x31, ex_r x32, ex_r x33, ex_r x34, ex_r x35, ex_r x36, ex_r x37, ex_r x38, ex_r x39, ex_i x40, ex_j x41, ex_r x42, ex_r x43, ex_r x44, ex_r x45, ex_r x46, ex_r x47, ex_r x48, ex_r x49, ex_r x50, ex_r x51, ex_r x52, ex_r x53, ex_i x54, ex_i x55, ex_i x56, ex_i x57, ex_r x58, ex_r x59, ex_r x60, ex_r x61, ex_i x62, ex_r x63, ex_r x64, ex_i x65, ex_j x66]), (x34, ex_a 1 7 w_1.1), (x35, ex_a 1 7 sb), (x36, ex_a 1 7 te), (x37, ex_a 1 7 w_1.2), (x30, ex_a 1 7 (upd kp d 1)), (x31, ex_a 1 7 kb), (x32, ex_a 1 7 ah), (x33, ex_a 1 7 (upd ag d 0))]) dX12_tests_149 rfl (vp_in_nI (show d < 7 by omega) (by decide)) (by rw [nI_clamp (by omega)]) rfl ?_
              refine X_aload_n (j := 1) dX12_tests_150 rfl rfl ?_
              refine X_get (j := 0) fo_X12_81 dX12_tests_151 rfl rfl ?_
              refine X_iload_n (j := 2) dX12_tests_154 rfl rfl ?_
              refine X_iconst (v := 0) dX12_tests_155 (by decide) ?_
              refine X_iast (j := 1) (g := upd w_1.1 d 0) (cs' := [(m, ex_o 12 [ex_i x0, ex_i x1, ex_r x2, ex_i x3, ex_i x4, ex_i x5, ex_i x6, ex_j x7, ex_i x8, ex_i x9, ex_r x10, ex_r x11, ex_r x12, ex_r x13, ex_r x14, ex_r x15, ex_r x16, ex_r x17, ex_r x18, ex_r x19, ex_r x20, ex_r x21, ex_r x22, ex_r x23, ex_r x24, ex_r x25, ex_i x26, ex_i x27, ex_r x28, ex_r x29, ex_r x30, ex_r x31, ex_r x32, ex_r x33, ex_r x34, ex_r x35, ex_r x36, ex_r x37, ex_r x38, ex_r x39, ex_i x40, ex_j x41, ex_r x42, ex_r x43, ex_r x44, ex_r x45, ex_r x46, ex_r x47, ex_r x48, ex_r x49, ex_r x50, ex_r x51, ex_r x52, ex_r x53, ex_i x54, ex_i x55, ex_i x56, ex_i x57, ex_r x58, ex_r x59, ex_r x60, ex_r x61, ex_i x62, ex_r x63, ex_r x64, ex_i x65, ex_j x66]), (x34, ex_a 1 7 (upd w_1.1 d 0)), (x35, ex_a 1 7 sb), (x36, ex_a 1 7 te), (x37, ex_a 1 7 w_1.2), (x30, ex_a 1 7 (upd kp d 1)), (x31, ex_a 1 7 kb), (x32, ex_a 1 7 ah), (x33, ex_a 1 7 (upd ag d 0))]) dX12_tests_156 rfl (vp_in_nI (show d < 7 by omega) (by decide)) (by rw [nI_clamp (by omega)]) rfl ?_
              refine X_aload_n (j := 1) dX12_tests_157 rfl rfl ?_
              refine X_get (j := 0) fo_X12_84 dX12_tests_158 rfl rfl ?_
              refine X_iload_n (j := 2) dX12_tests_161 rfl rfl ?_
              refine X_bipush (v := 20) dX12_tests_162 (by decide) ?_
              refine X_iast (j := 2) (g := upd sb d 20) (cs' := [(m, ex_o 12 [ex_i x0, ex_i x1, ex_r x2, ex_i x3, ex_i x4, ex_i x5, ex_i x6, ex_j x7, ex_i x8, ex_i x9, ex_r x10, ex_r x11, ex_r x12, ex_r x13, ex_r x14, ex_r x15, ex_r x16, ex_r x17, ex_r x18, ex_r x19, ex_r x20, ex_r x21, ex_r x22, ex_r x23, ex_r x24, ex_r x25, ex_i x26, ex_i x27, ex_r x28, ex_r x29, ex_r x30, ex_r x31, ex_r x32, ex_r x33, ex_r x34, ex_r x35, ex_r x36, ex_r x37, ex_r x38, ex_r x39, ex_i x40, ex_j x41, ex_r x42, ex_r x43, ex_r x44, ex_r x45, ex_r x46, ex_r x47, ex_r x48, ex_r x49, ex_r x50, ex_r x51, ex_r x52, ex_r x53, ex_i x54, ex_i x55, ex_i x56, ex_i x57, ex_r x58, ex_r x59, ex_r x60, ex_r x61, ex_i x62, ex_r x63, ex_r x64, ex_i x65, ex_j x66]), (x34, ex_a 1 7 (upd w_1.1 d 0)), (x35, ex_a 1 7 (upd sb d 20)), (x36, ex_a 1 7 te), (x37, ex_a 1 7 w_1.2), (x30, ex_a 1 7 (upd kp d 1)), (x31, ex_a 1 7 kb), (x32, ex_a 1 7 ah), (x33, ex_a 1 7 (upd ag d 0))]) dX12_tests_164 rfl (vp_in_nI (show d < 7 by omega) (by decide)) (by rw [nI_clamp (by omega)]) rfl ?_
              try dsimp only at hV
              refine X_re (cs' := [(m, ex_o 12 [ex_i x0, ex_i x1, ex_r x2, ex_i x3, ex_i x4, ex_i x5, ex_i x6, ex_j x7, ex_i x8, ex_i x9, ex_r x10, ex_r x11, ex_r x12, ex_r x13, ex_r x14, ex_r x15, ex_r x16, ex_r x17, ex_r x18, ex_r x19, ex_r x20, ex_r x21, ex_r x22, ex_r x23, ex_r x24, ex_r x25, ex_i x26, ex_i x27, ex_r x28, ex_r x29, ex_r x30, ex_r x31, ex_r x32, ex_r x33, ex_r x34, ex_r x35, ex_r x36, ex_r x37, ex_r x38, ex_r x39, ex_i x40, ex_j x41, ex_r x42, ex_r x43, ex_r x44, ex_r x45, ex_r x46, ex_r x47, ex_r x48, ex_r x49, ex_r x50, ex_r x51, ex_r x52, ex_r x53, ex_i x54, ex_i x55, ex_i x56, ex_i x57, ex_r x58, ex_r x59, ex_r x60, ex_r x61, ex_i x62, ex_r x63, ex_r x64, ex_i x65, ex_j x66]), (x30, ex_a 1 7 (upd kp d 1)), (x31, ex_a 1 7 kb), (x32, ex_a 1 7 ah), (x33, ex_a 1 7 (upd ag d 0)), (x34, ex_a 1 7 (upd w_1.1 d 0)), (x35, ex_a 1 7 (upd sb d 20)), (x36, ex_a 1 7 te), (x37, ex_a 1 7 w_1.2)]) [0, 5, 6, 7, 8, 1, 2, 3, 4] (show List.Perm [0, 5, 6, 7, 8, 1, 2, 3, 4] (List.range 9) from by decide) rfl ?_
              exact X_vret dX12_tests_165 (by (repeat refine ex_kc ?_) <;> rfl) (by subst hV; exact ⟨rfl, rfl⟩)
        · have hV := hV.trans (if_pos c_15)
          refine X_aload_n (j := 1) dX12_tests_87 rfl rfl ?_
          refine X_get (j := 0) fo_X12_69 dX12_tests_88 rfl rfl ?_
          refine X_iload_n (j := 2) dX12_tests_91 rfl rfl ?_
          refine X_iald (j := 5) (v := (kp d)) dX12_tests_92 rfl (vp_in_nI (show d < 7 by omega) (by decide)) (by rw [nI_clamp (by omega)]) ?_
          refine X_if_eq (tgt := 104) dX12_tests_93 (by decide) (fun c_18 => ?_) (fun c_18 => ?_)
          · have hV := hV.trans (if_pos c_18)
            refine X_iconst (v := 0) dX12_tests_104 (by decide) ?_
            refine X_istore_n (lv' := [(2, ex_i 0), (0, ex_r m), (1, ex_i (nI d))]) dX12_tests_105 rfl (Nat.le_of_ble_eq_true rfl) rfl ?_
            refine X_aload_n (j := 1) dX12_tests_106 rfl rfl ?_
            refine X_get (j := 0) fo_X12_72 dX12_tests_107 rfl rfl ?_
            refine X_iload_n (j := 2) dX12_tests_110 rfl rfl ?_
            refine X_iald (j := 6) (v := (kb d)) dX12_tests_111 rfl (vp_in_nI (show d < 7 by omega) (by decide)) (by rw [nI_clamp (by omega)]) ?_
            refine X_bipush (v := 27) dX12_tests_112 (by decide) ?_
            refine X_icmp_ne (tgt := 136) dX12_tests_114 (by decide) (fun _ => ?_) (fun c_ => absurd c_ (by have q0 := c_15; simp only [lt_ti, le_ti, eq_ti, ti_26, ti_27] at q0 ⊢; omega))
            refine X_aload_n (j := 1) dX12_tests_136 rfl rfl ?_
            refine X_get (j := 0) fo_X12_69 dX12_tests_137 rfl rfl ?_
            refine X_iload_n (j := 2) dX12_tests_140 rfl rfl ?_
            refine X_iload_n (j := 0) dX12_tests_141 rfl rfl ?_
            refine X_iast (j := 5) (g := upd kp d 0) (cs' := [(m, ex_o 12 [ex_i x0, ex_i x1, ex_r x2, ex_i x3, ex_i x4, ex_i x5, ex_i x6, ex_j x7, ex_i x8, ex_i x9, ex_r x10, ex_r x11, ex_r x12, ex_r x13, ex_r x14, ex_r x15, ex_r x16, ex_r x17, ex_r x18, ex_r x19, ex_r x20, ex_r x21, ex_r x22, ex_r x23, ex_r x24, ex_r x25, ex_i x26, ex_i x27, ex_r x28, ex_r x29, ex_r x30, ex_r x31, ex_r x32, ex_r x33, ex_r x34, ex_r x35, ex_r x36, ex_r x37, ex_r x38, ex_r x39, ex_i x40, ex_j x41, ex_r x42, ex_r x43, ex_r x44, ex_r x45, ex_r x46, ex_r x47, ex_r x48, ex_r x49, ex_r x50, ex_r x51, ex_r x52, ex_r x53, ex_i x54, ex_i x55, ex_i x56, ex_i x57, ex_r x58, ex_r x59, ex_r x60, ex_r x61, ex_i x62, ex_r x63, ex_r x64, ex_i x65, ex_j x66]), (x34, ex_a 1 7 w_1.1), (x35, ex_a 1 7 sb), (x36, ex_a 1 7 te), (x37, ex_a 1 7 w_1.2), (x30, ex_a 1 7 (upd kp d 0)), (x31, ex_a 1 7 kb), (x32, ex_a 1 7 ah), (x33, ex_a 1 7 ag)]) dX12_tests_142 rfl (vp_in_nI (show d < 7 by omega) (by decide)) (by rw [nI_clamp (by omega)]) rfl ?_
            refine X_aload_n (j := 1) dX12_tests_143 rfl rfl ?_
            refine X_get (j := 0) fo_X12_78 dX12_tests_144 rfl rfl ?_
            refine X_iload_n (j := 2) dX12_tests_147 rfl rfl ?_
            refine X_iconst (v := 0) dX12_tests_148 (by decide) ?_
            refine X_iast (j := 8) (g := upd ag d 0) (cs' := [(m, ex_o 12 [ex_i x0, ex_i x1, ex_r x2, ex_i x3, ex_i x4, ex_i x5, ex_i x6, ex_j x7, ex_i x8, ex_i x9, ex_r x10, ex_r x11, ex_r x12, ex_r x13, ex_r x14, ex_r x15, ex_r x16, ex_r x17, ex_r x18, ex_r x19, ex_r x20, ex_r x21, ex_r x22, ex_r x23, ex_r x24, ex_r x25, ex_i x26, ex_i x27, ex_r x28, ex_r x29, ex_r x30, ex_r x31, ex_r x32, ex_r x33, ex_r x34, ex_r x35, ex_r x36, ex_r x37, ex_r x38, ex_r x39, ex_i x40, ex_j x41, ex_r x42, ex_r x43, ex_r x44, ex_r x45, ex_r x46, ex_r x47, ex_r x48, ex_r x49, ex_r x50, ex_r x51, ex_r x52, ex_r x53, ex_i x54, ex_i x55, ex_i x56, ex_i x57, ex_r x58, ex_r x59, ex_r x60, ex_r x61, ex_i x62, ex_r x63, ex_r x64, ex_i x65, ex_j x66]), (x34, ex_a 1 7 w_1.1), (x35, ex_a 1 7 sb), (x36, ex_a 1 7 te), (x37, ex_a 1 7 w_1.2), (x30, ex_a 1 7 (upd kp d 0)), (x31, ex_a 1 7 kb), (x32, ex_a 1 7 ah), (x33, ex_a 1 7 (upd ag d 0))]) dX12_tests_149 rfl (vp_in_nI (show d < 7 by omega) (by decide)) (by rw [nI_clamp (by omega)]) rfl ?_
            refine X_aload_n (j := 1) dX12_tests_150 rfl rfl ?_
            refine X_get (j := 0) fo_X12_81 dX12_tests_151 rfl rfl ?_
            refine X_iload_n (j := 2) dX12_tests_154 rfl rfl ?_
            refine X_iconst (v := 0) dX12_tests_155 (by decide) ?_
            refine X_iast (j := 1) (g := upd w_1.1 d 0) (cs' := [(m, ex_o 12 [ex_i x0, ex_i x1, ex_r x2, ex_i x3, ex_i x4, ex_i x5, ex_i x6, ex_j x7, ex_i x8, ex_i x9, ex_r x10, ex_r x11, ex_r x12, ex_r x13, ex_r x14, ex_r x15, ex_r x16, ex_r x17, ex_r x18, ex_r x19, ex_r x20, ex_r x21, ex_r x22, ex_r x23, ex_r x24, ex_r x25, ex_i x26, ex_i x27, ex_r x28, ex_r x29, ex_r x30, ex_r x31, ex_r x32, ex_r x33, ex_r x34, ex_r x35, ex_r x36, ex_r x37, ex_r x38, ex_r x39, ex_i x40, ex_j x41, ex_r x42, ex_r x43, ex_r x44, ex_r x45, ex_r x46, ex_r x47, ex_r x48, ex_r x49, ex_r x50, ex_r x51, ex_r x52, ex_r x53, ex_i x54, ex_i x55, ex_i x56, ex_i x57, ex_r x58, ex_r x59, ex_r x60, ex_r x61, ex_i x62, ex_r x63, ex_r x64, ex_i x65, ex_j x66]), (x34, ex_a 1 7 (upd w_1.1 d 0)), (x35, ex_a 1 7 sb), (x36, ex_a 1 7 te), (x37, ex_a 1 7 w_1.2), (x30, ex_a 1 7 (upd kp d 0)), (x31, ex_a 1 7 kb), (x32, ex_a 1 7 ah), (x33, ex_a 1 7 (upd ag d 0))]) dX12_tests_156 rfl (vp_in_nI (show d < 7 by omega) (by decide)) (by rw [nI_clamp (by omega)]) rfl ?_
            refine X_aload_n (j := 1) dX12_tests_157 rfl rfl ?_
            refine X_get (j := 0) fo_X12_84 dX12_tests_158 rfl rfl ?_
            refine X_iload_n (j := 2) dX12_tests_161 rfl rfl ?_
            refine X_bipush (v := 20) dX12_tests_162 (by decide) ?_
            refine X_iast (j := 2) (g := upd sb d 20) (cs' := [(m, ex_o 12 [ex_i x0, ex_i x1, ex_r x2, ex_i x3, ex_i x4, ex_i x5, ex_i x6, ex_j x7, ex_i x8, ex_i x9, ex_r x10, ex_r x11, ex_r x12, ex_r x13, ex_r x14, ex_r x15, ex_r x16, ex_r x17, ex_r x18, ex_r x19, ex_r x20, ex_r x21, ex_r x22, ex_r x23, ex_r x24, ex_r x25, ex_i x26, ex_i x27, ex_r x28, ex_r x29, ex_r x30, ex_r x31, ex_r x32, ex_r x33, ex_r x34, ex_r x35, ex_r x36, ex_r x37, ex_r x38, ex_r x39, ex_i x40, ex_j x41, ex_r x42, ex_r x43, ex_r x44, ex_r x45, ex_r x46, ex_r x47, ex_r x48, ex_r x49, ex_r x50, ex_r x51, ex_r x52, ex_r x53, ex_i x54, ex_i x55, ex_i x56, ex_i x57, ex_r x58, ex_r x59, ex_r x60, ex_r x61, ex_i x62, ex_r x63, ex_r x64, ex_i x65, ex_j x66]), (x34, ex_a 1 7 (upd w_1.1 d 0)), (x35, ex_a 1 7 (upd sb d 20)), (x36, ex_a 1 7 te), (x37, ex_a 1 7 w_1.2), (x30, ex_a 1 7 (upd kp d 0)), (x31, ex_a 1 7 kb), (x32, ex_a 1 7 ah), (x33, ex_a 1 7 (upd ag d 0))]) dX12_tests_164 rfl (vp_in_nI (show d < 7 by omega) (by decide)) (by rw [nI_clamp (by omega)]) rfl ?_
            try dsimp only at hV
            refine X_re (cs' := [(m, ex_o 12 [ex_i x0, ex_i x1, ex_r x2, ex_i x3, ex_i x4, ex_i x5, ex_i x6, ex_j x7, ex_i x8, ex_i x9, ex_r x10, ex_r x11, ex_r x12, ex_r x13, ex_r x14, ex_r x15, ex_r x16, ex_r x17, ex_r x18, ex_r x19, ex_r x20, ex_r x21, ex_r x22, ex_r x23, ex_r x24, ex_r x25, ex_i x26, ex_i x27, ex_r x28, ex_r x29, ex_r x30, ex_r x31, ex_r x32, ex_r x33, ex_r x34, ex_r x35, ex_r x36, ex_r x37, ex_r x38, ex_r x39, ex_i x40, ex_j x41, ex_r x42, ex_r x43, ex_r x44, ex_r x45, ex_r x46, ex_r x47, ex_r x48, ex_r x49, ex_r x50, ex_r x51, ex_r x52, ex_r x53, ex_i x54, ex_i x55, ex_i x56, ex_i x57, ex_r x58, ex_r x59, ex_r x60, ex_r x61, ex_i x62, ex_r x63, ex_r x64, ex_i x65, ex_j x66]), (x30, ex_a 1 7 (upd kp d 0)), (x31, ex_a 1 7 kb), (x32, ex_a 1 7 ah), (x33, ex_a 1 7 (upd ag d 0)), (x34, ex_a 1 7 (upd w_1.1 d 0)), (x35, ex_a 1 7 (upd sb d 20)), (x36, ex_a 1 7 te), (x37, ex_a 1 7 w_1.2)]) [0, 5, 6, 7, 8, 1, 2, 3, 4] (show List.Perm [0, 5, 6, 7, 8, 1, 2, 3, 4] (List.range 9) from by decide) rfl ?_
            exact X_vret dX12_tests_165 (by (repeat refine ex_kc ?_) <;> rfl) (by subst hV; exact ⟨rfl, rfl⟩)
          · have hV := hV.trans (if_neg c_18)
            refine X_iload_n (j := 0) dX12_tests_96 rfl rfl ?_
            refine X_if_eq (tgt := 104) dX12_tests_97 (by decide) (fun c_ => absurd c_ (by decide)) (fun _ => ?_)
            refine X_iconst (v := 1) dX12_tests_100 (by decide) ?_
            refine X_goto (tgt := 105) dX12_tests_101 (by decide) ?_
            refine X_istore_n (lv' := [(2, ex_i 1), (0, ex_r m), (1, ex_i (nI d))]) dX12_tests_105 rfl (Nat.le_of_ble_eq_true rfl) rfl ?_
            refine X_aload_n (j := 1) dX12_tests_106 rfl rfl ?_
            refine X_get (j := 0) fo_X12_72 dX12_tests_107 rfl rfl ?_
            refine X_iload_n (j := 2) dX12_tests_110 rfl rfl ?_
            refine X_iald (j := 6) (v := (kb d)) dX12_tests_111 rfl (vp_in_nI (show d < 7 by omega) (by decide)) (by rw [nI_clamp (by omega)]) ?_
            refine X_bipush (v := 27) dX12_tests_112 (by decide) ?_
            refine X_icmp_ne (tgt := 136) dX12_tests_114 (by decide) (fun _ => ?_) (fun c_ => absurd c_ (by have q0 := c_15; simp only [lt_ti, le_ti, eq_ti, ti_26, ti_27] at q0 ⊢; omega))
            refine X_aload_n (j := 1) dX12_tests_136 rfl rfl ?_
            refine X_get (j := 0) fo_X12_69 dX12_tests_137 rfl rfl ?_
            refine X_iload_n (j := 2) dX12_tests_140 rfl rfl ?_
            refine X_iload_n (j := 0) dX12_tests_141 rfl rfl ?_
            refine X_iast (j := 5) (g := upd kp d 1) (cs' := [(m, ex_o 12 [ex_i x0, ex_i x1, ex_r x2, ex_i x3, ex_i x4, ex_i x5, ex_i x6, ex_j x7, ex_i x8, ex_i x9, ex_r x10, ex_r x11, ex_r x12, ex_r x13, ex_r x14, ex_r x15, ex_r x16, ex_r x17, ex_r x18, ex_r x19, ex_r x20, ex_r x21, ex_r x22, ex_r x23, ex_r x24, ex_r x25, ex_i x26, ex_i x27, ex_r x28, ex_r x29, ex_r x30, ex_r x31, ex_r x32, ex_r x33, ex_r x34, ex_r x35, ex_r x36, ex_r x37, ex_r x38, ex_r x39, ex_i x40, ex_j x41, ex_r x42, ex_r x43, ex_r x44, ex_r x45, ex_r x46, ex_r x47, ex_r x48, ex_r x49, ex_r x50, ex_r x51, ex_r x52, ex_r x53, ex_i x54, ex_i x55, ex_i x56, ex_i x57, ex_r x58, ex_r x59, ex_r x60, ex_r x61, ex_i x62, ex_r x63, ex_r x64, ex_i x65, ex_j x66]), (x34, ex_a 1 7 w_1.1), (x35, ex_a 1 7 sb), (x36, ex_a 1 7 te), (x37, ex_a 1 7 w_1.2), (x30, ex_a 1 7 (upd kp d 1)), (x31, ex_a 1 7 kb), (x32, ex_a 1 7 ah), (x33, ex_a 1 7 ag)]) dX12_tests_142 rfl (vp_in_nI (show d < 7 by omega) (by decide)) (by rw [nI_clamp (by omega)]) rfl ?_
            refine X_aload_n (j := 1) dX12_tests_143 rfl rfl ?_
            refine X_get (j := 0) fo_X12_78 dX12_tests_144 rfl rfl ?_
            refine X_iload_n (j := 2) dX12_tests_147 rfl rfl ?_
            refine X_iconst (v := 0) dX12_tests_148 (by decide) ?_
            refine X_iast (j := 8) (g := upd ag d 0) (cs' := [(m, ex_o 12 [ex_i x0, ex_i x1, ex_r x2, ex_i x3, ex_i x4, ex_i x5, ex_i x6, ex_j x7, ex_i x8, ex_i x9, ex_r x10, ex_r x11, ex_r x12, ex_r x13, ex_r x14, ex_r x15, ex_r x16, ex_r x17, ex_r x18, ex_r x19, ex_r x20, ex_r x21, ex_r x22, ex_r x23, ex_r x24, ex_r x25, ex_i x26, ex_i x27, ex_r x28, ex_r x29, ex_r x30, ex_r x31, ex_r x32, ex_r x33, ex_r x34, ex_r x35, ex_r x36, ex_r x37, ex_r x38, ex_r x39, ex_i x40, ex_j x41, ex_r x42, ex_r x43, ex_r x44, ex_r x45, ex_r x46, ex_r x47, ex_r x48, ex_r x49, ex_r x50, ex_r x51, ex_r x52, ex_r x53, ex_i x54, ex_i x55, ex_i x56, ex_i x57, ex_r x58, ex_r x59, ex_r x60, ex_r x61, ex_i x62, ex_r x63, ex_r x64, ex_i x65, ex_j x66]), (x34, ex_a 1 7 w_1.1), (x35, ex_a 1 7 sb), (x36, ex_a 1 7 te), (x37, ex_a 1 7 w_1.2), (x30, ex_a 1 7 (upd kp d 1)), (x31, ex_a 1 7 kb), (x32, ex_a 1 7 ah), (x33, ex_a 1 7 (upd ag d 0))]) dX12_tests_149 rfl (vp_in_nI (show d < 7 by omega) (by decide)) (by rw [nI_clamp (by omega)]) rfl ?_
            refine X_aload_n (j := 1) dX12_tests_150 rfl rfl ?_
            refine X_get (j := 0) fo_X12_81 dX12_tests_151 rfl rfl ?_
            refine X_iload_n (j := 2) dX12_tests_154 rfl rfl ?_
            refine X_iconst (v := 0) dX12_tests_155 (by decide) ?_
            refine X_iast (j := 1) (g := upd w_1.1 d 0) (cs' := [(m, ex_o 12 [ex_i x0, ex_i x1, ex_r x2, ex_i x3, ex_i x4, ex_i x5, ex_i x6, ex_j x7, ex_i x8, ex_i x9, ex_r x10, ex_r x11, ex_r x12, ex_r x13, ex_r x14, ex_r x15, ex_r x16, ex_r x17, ex_r x18, ex_r x19, ex_r x20, ex_r x21, ex_r x22, ex_r x23, ex_r x24, ex_r x25, ex_i x26, ex_i x27, ex_r x28, ex_r x29, ex_r x30, ex_r x31, ex_r x32, ex_r x33, ex_r x34, ex_r x35, ex_r x36, ex_r x37, ex_r x38, ex_r x39, ex_i x40, ex_j x41, ex_r x42, ex_r x43, ex_r x44, ex_r x45, ex_r x46, ex_r x47, ex_r x48, ex_r x49, ex_r x50, ex_r x51, ex_r x52, ex_r x53, ex_i x54, ex_i x55, ex_i x56, ex_i x57, ex_r x58, ex_r x59, ex_r x60, ex_r x61, ex_i x62, ex_r x63, ex_r x64, ex_i x65, ex_j x66]), (x34, ex_a 1 7 (upd w_1.1 d 0)), (x35, ex_a 1 7 sb), (x36, ex_a 1 7 te), (x37, ex_a 1 7 w_1.2), (x30, ex_a 1 7 (upd kp d 1)), (x31, ex_a 1 7 kb), (x32, ex_a 1 7 ah), (x33, ex_a 1 7 (upd ag d 0))]) dX12_tests_156 rfl (vp_in_nI (show d < 7 by omega) (by decide)) (by rw [nI_clamp (by omega)]) rfl ?_
            refine X_aload_n (j := 1) dX12_tests_157 rfl rfl ?_
            refine X_get (j := 0) fo_X12_84 dX12_tests_158 rfl rfl ?_
            refine X_iload_n (j := 2) dX12_tests_161 rfl rfl ?_
            refine X_bipush (v := 20) dX12_tests_162 (by decide) ?_
            refine X_iast (j := 2) (g := upd sb d 20) (cs' := [(m, ex_o 12 [ex_i x0, ex_i x1, ex_r x2, ex_i x3, ex_i x4, ex_i x5, ex_i x6, ex_j x7, ex_i x8, ex_i x9, ex_r x10, ex_r x11, ex_r x12, ex_r x13, ex_r x14, ex_r x15, ex_r x16, ex_r x17, ex_r x18, ex_r x19, ex_r x20, ex_r x21, ex_r x22, ex_r x23, ex_r x24, ex_r x25, ex_i x26, ex_i x27, ex_r x28, ex_r x29, ex_r x30, ex_r x31, ex_r x32, ex_r x33, ex_r x34, ex_r x35, ex_r x36, ex_r x37, ex_r x38, ex_r x39, ex_i x40, ex_j x41, ex_r x42, ex_r x43, ex_r x44, ex_r x45, ex_r x46, ex_r x47, ex_r x48, ex_r x49, ex_r x50, ex_r x51, ex_r x52, ex_r x53, ex_i x54, ex_i x55, ex_i x56, ex_i x57, ex_r x58, ex_r x59, ex_r x60, ex_r x61, ex_i x62, ex_r x63, ex_r x64, ex_i x65, ex_j x66]), (x34, ex_a 1 7 (upd w_1.1 d 0)), (x35, ex_a 1 7 (upd sb d 20)), (x36, ex_a 1 7 te), (x37, ex_a 1 7 w_1.2), (x30, ex_a 1 7 (upd kp d 1)), (x31, ex_a 1 7 kb), (x32, ex_a 1 7 ah), (x33, ex_a 1 7 (upd ag d 0))]) dX12_tests_164 rfl (vp_in_nI (show d < 7 by omega) (by decide)) (by rw [nI_clamp (by omega)]) rfl ?_
            try dsimp only at hV
            refine X_re (cs' := [(m, ex_o 12 [ex_i x0, ex_i x1, ex_r x2, ex_i x3, ex_i x4, ex_i x5, ex_i x6, ex_j x7, ex_i x8, ex_i x9, ex_r x10, ex_r x11, ex_r x12, ex_r x13, ex_r x14, ex_r x15, ex_r x16, ex_r x17, ex_r x18, ex_r x19, ex_r x20, ex_r x21, ex_r x22, ex_r x23, ex_r x24, ex_r x25, ex_i x26, ex_i x27, ex_r x28, ex_r x29, ex_r x30, ex_r x31, ex_r x32, ex_r x33, ex_r x34, ex_r x35, ex_r x36, ex_r x37, ex_r x38, ex_r x39, ex_i x40, ex_j x41, ex_r x42, ex_r x43, ex_r x44, ex_r x45, ex_r x46, ex_r x47, ex_r x48, ex_r x49, ex_r x50, ex_r x51, ex_r x52, ex_r x53, ex_i x54, ex_i x55, ex_i x56, ex_i x57, ex_r x58, ex_r x59, ex_r x60, ex_r x61, ex_i x62, ex_r x63, ex_r x64, ex_i x65, ex_j x66]), (x30, ex_a 1 7 (upd kp d 1)), (x31, ex_a 1 7 kb), (x32, ex_a 1 7 ah), (x33, ex_a 1 7 (upd ag d 0)), (x34, ex_a 1 7 (upd w_1.1 d 0)), (x35, ex_a 1 7 (upd sb d 20)), (x36, ex_a 1 7 te), (x37, ex_a 1 7 w_1.2)]) [0, 5, 6, 7, 8, 1, 2, 3, 4] (show List.Perm [0, 5, 6, 7, 8, 1, 2, 3, 4] (List.range 9) from by decide) rfl ?_
            exact X_vret dX12_tests_165 (by (repeat refine ex_kc ?_) <;> rfl) (by subst hV; exact ⟨rfl, rfl⟩)
  · have hV := hV.trans (if_pos c_2)
    refine X_aload_n (j := 1) dX12_tests_23 rfl rfl ?_
    refine X_get (j := 0) fo_X12_75 dX12_tests_24 rfl rfl ?_
    refine X_iload_n (j := 2) dX12_tests_27 rfl rfl ?_
    refine X_iald (j := 7) (v := (ah d)) dX12_tests_28 rfl (vp_in_nI (show d < 7 by omega) (by decide)) (by rw [nI_clamp (by omega)]) ?_
    refine X_aload_n (j := 1) dX12_tests_29 rfl rfl ?_
    refine X_get (j := 0) fo_X12_81 dX12_tests_30 rfl rfl ?_
    refine X_iload_n (j := 2) dX12_tests_33 rfl rfl ?_
    refine X_iald (j := 1) (v := (w_1.1 d)) dX12_tests_34 rfl (vp_in_nI (show d < 7 by omega) (by decide)) (by rw [nI_clamp (by omega)]) ?_
    refine X_icmp_ge (tgt := 42) dX12_tests_35 (by decide) (fun c_19 => ?_) (fun c_19 => ?_)
    · have hV := hV.trans (if_pos c_19)
      refine X_iconst (v := 0) dX12_tests_42 (by decide) ?_
      refine X_istore_n (lv' := [(2, ex_i 0), (0, ex_r m), (1, ex_i (nI d))]) dX12_tests_43 rfl (Nat.le_of_ble_eq_true rfl) rfl ?_
      refine X_aload_n (j := 1) dX12_tests_44 rfl rfl ?_
      refine X_get (j := 0) fo_X12_78 dX12_tests_45 rfl rfl ?_
      refine X_iload_n (j := 2) dX12_tests_48 rfl rfl ?_
      refine X_iald (j := 8) (v := (ag d)) dX12_tests_49 rfl (vp_in_nI (show d < 7 by omega) (by decide)) (by rw [nI_clamp (by omega)]) ?_
      refine X_bipush (v := 25) dX12_tests_50 (by decide) ?_
      refine X_icmp_ne (tgt := 76) dX12_tests_52 (by decide) (fun _ => ?_) (fun c_ => absurd c_ (by have q0 := c_2; simp only [lt_ti, le_ti, eq_ti, ti_24, ti_25] at q0 ⊢; omega))
      refine X_aload_n (j := 1) dX12_tests_76 rfl rfl ?_
      refine X_get (j := 0) fo_X12_72 dX12_tests_77 rfl rfl ?_
      refine X_iload_n (j := 2) dX12_tests_80 rfl rfl ?_
      refine X_iald (j := 6) (v := (kb d)) dX12_tests_81 rfl (vp_in_nI (show d < 7 by omega) (by decide)) (by rw [nI_clamp (by omega)]) ?_
      refine X_bipush (v := 26) dX12_tests_82 (by decide) ?_
      refine X_icmp_ne (tgt := 106) dX12_tests_84 (by decide) (fun c_20 => ?_) (fun c_20 => ?_)
      · have hV := hV.trans (if_neg c_20)
        refine X_aload_n (j := 1) dX12_tests_106 rfl rfl ?_
        refine X_get (j := 0) fo_X12_72 dX12_tests_107 rfl rfl ?_
        refine X_iload_n (j := 2) dX12_tests_110 rfl rfl ?_
        refine X_iald (j := 6) (v := (kb d)) dX12_tests_111 rfl (vp_in_nI (show d < 7 by omega) (by decide)) (by rw [nI_clamp (by omega)]) ?_
        refine X_bipush (v := 27) dX12_tests_112 (by decide) ?_
        refine X_icmp_ne (tgt := 136) dX12_tests_114 (by decide) (fun c_21 => ?_) (fun c_21 => ?_)
        · have hV := hV.trans (if_neg c_21)
          refine X_aload_n (j := 1) dX12_tests_136 rfl rfl ?_
          refine X_get (j := 0) fo_X12_69 dX12_tests_137 rfl rfl ?_
          refine X_iload_n (j := 2) dX12_tests_140 rfl rfl ?_
          refine X_iload_n (j := 0) dX12_tests_141 rfl rfl ?_
          refine X_iast (j := 5) (g := upd kp d 0) (cs' := [(m, ex_o 12 [ex_i x0, ex_i x1, ex_r x2, ex_i x3, ex_i x4, ex_i x5, ex_i x6, ex_j x7, ex_i x8, ex_i x9, ex_r x10, ex_r x11, ex_r x12, ex_r x13, ex_r x14, ex_r x15, ex_r x16, ex_r x17, ex_r x18, ex_r x19, ex_r x20, ex_r x21, ex_r x22, ex_r x23, ex_r x24, ex_r x25, ex_i x26, ex_i x27, ex_r x28, ex_r x29, ex_r x30, ex_r x31, ex_r x32, ex_r x33, ex_r x34, ex_r x35, ex_r x36, ex_r x37, ex_r x38, ex_r x39, ex_i x40, ex_j x41, ex_r x42, ex_r x43, ex_r x44, ex_r x45, ex_r x46, ex_r x47, ex_r x48, ex_r x49, ex_r x50, ex_r x51, ex_r x52, ex_r x53, ex_i x54, ex_i x55, ex_i x56, ex_i x57, ex_r x58, ex_r x59, ex_r x60, ex_r x61, ex_i x62, ex_r x63, ex_r x64, ex_i x65, ex_j x66]), (x34, ex_a 1 7 w_1.1), (x35, ex_a 1 7 sb), (x36, ex_a 1 7 te), (x37, ex_a 1 7 w_1.2), (x30, ex_a 1 7 (upd kp d 0)), (x31, ex_a 1 7 kb), (x32, ex_a 1 7 ah), (x33, ex_a 1 7 ag)]) dX12_tests_142 rfl (vp_in_nI (show d < 7 by omega) (by decide)) (by rw [nI_clamp (by omega)]) rfl ?_
          refine X_aload_n (j := 1) dX12_tests_143 rfl rfl ?_
          refine X_get (j := 0) fo_X12_78 dX12_tests_144 rfl rfl ?_
          refine X_iload_n (j := 2) dX12_tests_147 rfl rfl ?_
          refine X_iconst (v := 0) dX12_tests_148 (by decide) ?_
          refine X_iast (j := 8) (g := upd ag d 0) (cs' := [(m, ex_o 12 [ex_i x0, ex_i x1, ex_r x2, ex_i x3, ex_i x4, ex_i x5, ex_i x6, ex_j x7, ex_i x8, ex_i x9, ex_r x10, ex_r x11, ex_r x12, ex_r x13, ex_r x14, ex_r x15, ex_r x16, ex_r x17, ex_r x18, ex_r x19, ex_r x20, ex_r x21, ex_r x22, ex_r x23, ex_r x24, ex_r x25, ex_i x26, ex_i x27, ex_r x28, ex_r x29, ex_r x30, ex_r x31, ex_r x32, ex_r x33, ex_r x34, ex_r x35, ex_r x36, ex_r x37, ex_r x38, ex_r x39, ex_i x40, ex_j x41, ex_r x42, ex_r x43, ex_r x44, ex_r x45, ex_r x46, ex_r x47, ex_r x48, ex_r x49, ex_r x50, ex_r x51, ex_r x52, ex_r x53, ex_i x54, ex_i x55, ex_i x56, ex_i x57, ex_r x58, ex_r x59, ex_r x60, ex_r x61, ex_i x62, ex_r x63, ex_r x64, ex_i x65, ex_j x66]), (x34, ex_a 1 7 w_1.1), (x35, ex_a 1 7 sb), (x36, ex_a 1 7 te), (x37, ex_a 1 7 w_1.2), (x30, ex_a 1 7 (upd kp d 0)), (x31, ex_a 1 7 kb), (x32, ex_a 1 7 ah), (x33, ex_a 1 7 (upd ag d 0))]) dX12_tests_149 rfl (vp_in_nI (show d < 7 by omega) (by decide)) (by rw [nI_clamp (by omega)]) rfl ?_
          refine X_aload_n (j := 1) dX12_tests_150 rfl rfl ?_
          refine X_get (j := 0) fo_X12_81 dX12_tests_151 rfl rfl ?_
          refine X_iload_n (j := 2) dX12_tests_154 rfl rfl ?_
          refine X_iconst (v := 0) dX12_tests_155 (by decide) ?_
          refine X_iast (j := 1) (g := upd w_1.1 d 0) (cs' := [(m, ex_o 12 [ex_i x0, ex_i x1, ex_r x2, ex_i x3, ex_i x4, ex_i x5, ex_i x6, ex_j x7, ex_i x8, ex_i x9, ex_r x10, ex_r x11, ex_r x12, ex_r x13, ex_r x14, ex_r x15, ex_r x16, ex_r x17, ex_r x18, ex_r x19, ex_r x20, ex_r x21, ex_r x22, ex_r x23, ex_r x24, ex_r x25, ex_i x26, ex_i x27, ex_r x28, ex_r x29, ex_r x30, ex_r x31, ex_r x32, ex_r x33, ex_r x34, ex_r x35, ex_r x36, ex_r x37, ex_r x38, ex_r x39, ex_i x40, ex_j x41, ex_r x42, ex_r x43, ex_r x44, ex_r x45, ex_r x46, ex_r x47, ex_r x48, ex_r x49, ex_r x50, ex_r x51, ex_r x52, ex_r x53, ex_i x54, ex_i x55, ex_i x56, ex_i x57, ex_r x58, ex_r x59, ex_r x60, ex_r x61, ex_i x62, ex_r x63, ex_r x64, ex_i x65, ex_j x66]), (x34, ex_a 1 7 (upd w_1.1 d 0)), (x35, ex_a 1 7 sb), (x36, ex_a 1 7 te), (x37, ex_a 1 7 w_1.2), (x30, ex_a 1 7 (upd kp d 0)), (x31, ex_a 1 7 kb), (x32, ex_a 1 7 ah), (x33, ex_a 1 7 (upd ag d 0))]) dX12_tests_156 rfl (vp_in_nI (show d < 7 by omega) (by decide)) (by rw [nI_clamp (by omega)]) rfl ?_
          refine X_aload_n (j := 1) dX12_tests_157 rfl rfl ?_
          refine X_get (j := 0) fo_X12_84 dX12_tests_158 rfl rfl ?_
          refine X_iload_n (j := 2) dX12_tests_161 rfl rfl ?_
          refine X_bipush (v := 20) dX12_tests_162 (by decide) ?_
          refine X_iast (j := 2) (g := upd sb d 20) (cs' := [(m, ex_o 12 [ex_i x0, ex_i x1, ex_r x2, ex_i x3, ex_i x4, ex_i x5, ex_i x6, ex_j x7, ex_i x8, ex_i x9, ex_r x10, ex_r x11, ex_r x12, ex_r x13, ex_r x14, ex_r x15, ex_r x16, ex_r x17, ex_r x18, ex_r x19, ex_r x20, ex_r x21, ex_r x22, ex_r x23, ex_r x24, ex_r x25, ex_i x26, ex_i x27, ex_r x28, ex_r x29, ex_r x30, ex_r x31, ex_r x32, ex_r x33, ex_r x34, ex_r x35, ex_r x36, ex_r x37, ex_r x38, ex_r x39, ex_i x40, ex_j x41, ex_r x42, ex_r x43, ex_r x44, ex_r x45, ex_r x46, ex_r x47, ex_r x48, ex_r x49, ex_r x50, ex_r x51, ex_r x52, ex_r x53, ex_i x54, ex_i x55, ex_i x56, ex_i x57, ex_r x58, ex_r x59, ex_r x60, ex_r x61, ex_i x62, ex_r x63, ex_r x64, ex_i x65, ex_j x66]), (x34, ex_a 1 7 (upd w_1.1 d 0)), (x35, ex_a 1 7 (upd sb d 20)), (x36, ex_a 1 7 te), (x37, ex_a 1 7 w_1.2), (x30, ex_a 1 7 (upd kp d 0)), (x31, ex_a 1 7 kb), (x32, ex_a 1 7 ah), (x33, ex_a 1 7 (upd ag d 0))]) dX12_tests_164 rfl (vp_in_nI (show d < 7 by omega) (by decide)) (by rw [nI_clamp (by omega)]) rfl ?_
          try dsimp only at hV
          refine X_re (cs' := [(m, ex_o 12 [ex_i x0, ex_i x1, ex_r x2, ex_i x3, ex_i x4, ex_i x5, ex_i x6, ex_j x7, ex_i x8, ex_i x9, ex_r x10, ex_r x11, ex_r x12, ex_r x13, ex_r x14, ex_r x15, ex_r x16, ex_r x17, ex_r x18, ex_r x19, ex_r x20, ex_r x21, ex_r x22, ex_r x23, ex_r x24, ex_r x25, ex_i x26, ex_i x27, ex_r x28, ex_r x29, ex_r x30, ex_r x31, ex_r x32, ex_r x33, ex_r x34, ex_r x35, ex_r x36, ex_r x37, ex_r x38, ex_r x39, ex_i x40, ex_j x41, ex_r x42, ex_r x43, ex_r x44, ex_r x45, ex_r x46, ex_r x47, ex_r x48, ex_r x49, ex_r x50, ex_r x51, ex_r x52, ex_r x53, ex_i x54, ex_i x55, ex_i x56, ex_i x57, ex_r x58, ex_r x59, ex_r x60, ex_r x61, ex_i x62, ex_r x63, ex_r x64, ex_i x65, ex_j x66]), (x30, ex_a 1 7 (upd kp d 0)), (x31, ex_a 1 7 kb), (x32, ex_a 1 7 ah), (x33, ex_a 1 7 (upd ag d 0)), (x34, ex_a 1 7 (upd w_1.1 d 0)), (x35, ex_a 1 7 (upd sb d 20)), (x36, ex_a 1 7 te), (x37, ex_a 1 7 w_1.2)]) [0, 5, 6, 7, 8, 1, 2, 3, 4] (show List.Perm [0, 5, 6, 7, 8, 1, 2, 3, 4] (List.range 9) from by decide) rfl ?_
          exact X_vret dX12_tests_165 (by (repeat refine ex_kc ?_) <;> rfl) (by subst hV; exact ⟨rfl, rfl⟩)
        · have hV := hV.trans (if_pos c_21)
          refine X_aload_n (j := 1) dX12_tests_117 rfl rfl ?_
          refine X_get (j := 0) fo_X12_69 dX12_tests_118 rfl rfl ?_
          refine X_iload_n (j := 2) dX12_tests_121 rfl rfl ?_
          refine X_iald (j := 5) (v := (kp d)) dX12_tests_122 rfl (vp_in_nI (show d < 7 by omega) (by decide)) (by rw [nI_clamp (by omega)]) ?_
          refine X_if_ne (tgt := 130) dX12_tests_123 (by decide) (fun c_22 => ?_) (fun c_22 => ?_)
          · have hV := hV.trans (if_neg c_22)
            refine X_iconst (v := 1) dX12_tests_130 (by decide) ?_
            refine X_goto (tgt := 135) dX12_tests_131 (by decide) ?_
            refine X_istore_n (lv' := [(2, ex_i 1), (0, ex_r m), (1, ex_i (nI d))]) dX12_tests_135 rfl (Nat.le_of_ble_eq_true rfl) rfl ?_
            refine X_aload_n (j := 1) dX12_tests_136 rfl rfl ?_
            refine X_get (j := 0) fo_X12_69 dX12_tests_137 rfl rfl ?_
            refine X_iload_n (j := 2) dX12_tests_140 rfl rfl ?_
            refine X_iload_n (j := 0) dX12_tests_141 rfl rfl ?_
            refine X_iast (j := 5) (g := upd kp d 1) (cs' := [(m, ex_o 12 [ex_i x0, ex_i x1, ex_r x2, ex_i x3, ex_i x4, ex_i x5, ex_i x6, ex_j x7, ex_i x8, ex_i x9, ex_r x10, ex_r x11, ex_r x12, ex_r x13, ex_r x14, ex_r x15, ex_r x16, ex_r x17, ex_r x18, ex_r x19, ex_r x20, ex_r x21, ex_r x22, ex_r x23, ex_r x24, ex_r x25, ex_i x26, ex_i x27, ex_r x28, ex_r x29, ex_r x30, ex_r x31, ex_r x32, ex_r x33, ex_r x34, ex_r x35, ex_r x36, ex_r x37, ex_r x38, ex_r x39, ex_i x40, ex_j x41, ex_r x42, ex_r x43, ex_r x44, ex_r x45, ex_r x46, ex_r x47, ex_r x48, ex_r x49, ex_r x50, ex_r x51, ex_r x52, ex_r x53, ex_i x54, ex_i x55, ex_i x56, ex_i x57, ex_r x58, ex_r x59, ex_r x60, ex_r x61, ex_i x62, ex_r x63, ex_r x64, ex_i x65, ex_j x66]), (x34, ex_a 1 7 w_1.1), (x35, ex_a 1 7 sb), (x36, ex_a 1 7 te), (x37, ex_a 1 7 w_1.2), (x30, ex_a 1 7 (upd kp d 1)), (x31, ex_a 1 7 kb), (x32, ex_a 1 7 ah), (x33, ex_a 1 7 ag)]) dX12_tests_142 rfl (vp_in_nI (show d < 7 by omega) (by decide)) (by rw [nI_clamp (by omega)]) rfl ?_
            refine X_aload_n (j := 1) dX12_tests_143 rfl rfl ?_
            refine X_get (j := 0) fo_X12_78 dX12_tests_144 rfl rfl ?_
            refine X_iload_n (j := 2) dX12_tests_147 rfl rfl ?_
            refine X_iconst (v := 0) dX12_tests_148 (by decide) ?_
            refine X_iast (j := 8) (g := upd ag d 0) (cs' := [(m, ex_o 12 [ex_i x0, ex_i x1, ex_r x2, ex_i x3, ex_i x4, ex_i x5, ex_i x6, ex_j x7, ex_i x8, ex_i x9, ex_r x10, ex_r x11, ex_r x12, ex_r x13, ex_r x14, ex_r x15, ex_r x16, ex_r x17, ex_r x18, ex_r x19, ex_r x20, ex_r x21, ex_r x22, ex_r x23, ex_r x24, ex_r x25, ex_i x26, ex_i x27, ex_r x28, ex_r x29, ex_r x30, ex_r x31, ex_r x32, ex_r x33, ex_r x34, ex_r x35, ex_r x36, ex_r x37, ex_r x38, ex_r x39, ex_i x40, ex_j x41, ex_r x42, ex_r x43, ex_r x44, ex_r x45, ex_r x46, ex_r x47, ex_r x48, ex_r x49, ex_r x50, ex_r x51, ex_r x52, ex_r x53, ex_i x54, ex_i x55, ex_i x56, ex_i x57, ex_r x58, ex_r x59, ex_r x60, ex_r x61, ex_i x62, ex_r x63, ex_r x64, ex_i x65, ex_j x66]), (x34, ex_a 1 7 w_1.1), (x35, ex_a 1 7 sb), (x36, ex_a 1 7 te), (x37, ex_a 1 7 w_1.2), (x30, ex_a 1 7 (upd kp d 1)), (x31, ex_a 1 7 kb), (x32, ex_a 1 7 ah), (x33, ex_a 1 7 (upd ag d 0))]) dX12_tests_149 rfl (vp_in_nI (show d < 7 by omega) (by decide)) (by rw [nI_clamp (by omega)]) rfl ?_
            refine X_aload_n (j := 1) dX12_tests_150 rfl rfl ?_
            refine X_get (j := 0) fo_X12_81 dX12_tests_151 rfl rfl ?_
            refine X_iload_n (j := 2) dX12_tests_154 rfl rfl ?_
            refine X_iconst (v := 0) dX12_tests_155 (by decide) ?_
            refine X_iast (j := 1) (g := upd w_1.1 d 0) (cs' := [(m, ex_o 12 [ex_i x0, ex_i x1, ex_r x2, ex_i x3, ex_i x4, ex_i x5, ex_i x6, ex_j x7, ex_i x8, ex_i x9, ex_r x10, ex_r x11, ex_r x12, ex_r x13, ex_r x14, ex_r x15, ex_r x16, ex_r x17, ex_r x18, ex_r x19, ex_r x20, ex_r x21, ex_r x22, ex_r x23, ex_r x24, ex_r x25, ex_i x26, ex_i x27, ex_r x28, ex_r x29, ex_r x30, ex_r x31, ex_r x32, ex_r x33, ex_r x34, ex_r x35, ex_r x36, ex_r x37, ex_r x38, ex_r x39, ex_i x40, ex_j x41, ex_r x42, ex_r x43, ex_r x44, ex_r x45, ex_r x46, ex_r x47, ex_r x48, ex_r x49, ex_r x50, ex_r x51, ex_r x52, ex_r x53, ex_i x54, ex_i x55, ex_i x56, ex_i x57, ex_r x58, ex_r x59, ex_r x60, ex_r x61, ex_i x62, ex_r x63, ex_r x64, ex_i x65, ex_j x66]), (x34, ex_a 1 7 (upd w_1.1 d 0)), (x35, ex_a 1 7 sb), (x36, ex_a 1 7 te), (x37, ex_a 1 7 w_1.2), (x30, ex_a 1 7 (upd kp d 1)), (x31, ex_a 1 7 kb), (x32, ex_a 1 7 ah), (x33, ex_a 1 7 (upd ag d 0))]) dX12_tests_156 rfl (vp_in_nI (show d < 7 by omega) (by decide)) (by rw [nI_clamp (by omega)]) rfl ?_
            refine X_aload_n (j := 1) dX12_tests_157 rfl rfl ?_
            refine X_get (j := 0) fo_X12_84 dX12_tests_158 rfl rfl ?_
            refine X_iload_n (j := 2) dX12_tests_161 rfl rfl ?_
            refine X_bipush (v := 20) dX12_tests_162 (by decide) ?_
            refine X_iast (j := 2) (g := upd sb d 20) (cs' := [(m, ex_o 12 [ex_i x0, ex_i x1, ex_r x2, ex_i x3, ex_i x4, ex_i x5, ex_i x6, ex_j x7, ex_i x8, ex_i x9, ex_r x10, ex_r x11, ex_r x12, ex_r x13, ex_r x14, ex_r x15, ex_r x16, ex_r x17, ex_r x18, ex_r x19, ex_r x20, ex_r x21, ex_r x22, ex_r x23, ex_r x24, ex_r x25, ex_i x26, ex_i x27, ex_r x28, ex_r x29, ex_r x30, ex_r x31, ex_r x32, ex_r x33, ex_r x34, ex_r x35, ex_r x36, ex_r x37, ex_r x38, ex_r x39, ex_i x40, ex_j x41, ex_r x42, ex_r x43, ex_r x44, ex_r x45, ex_r x46, ex_r x47, ex_r x48, ex_r x49, ex_r x50, ex_r x51, ex_r x52, ex_r x53, ex_i x54, ex_i x55, ex_i x56, ex_i x57, ex_r x58, ex_r x59, ex_r x60, ex_r x61, ex_i x62, ex_r x63, ex_r x64, ex_i x65, ex_j x66]), (x34, ex_a 1 7 (upd w_1.1 d 0)), (x35, ex_a 1 7 (upd sb d 20)), (x36, ex_a 1 7 te), (x37, ex_a 1 7 w_1.2), (x30, ex_a 1 7 (upd kp d 1)), (x31, ex_a 1 7 kb), (x32, ex_a 1 7 ah), (x33, ex_a 1 7 (upd ag d 0))]) dX12_tests_164 rfl (vp_in_nI (show d < 7 by omega) (by decide)) (by rw [nI_clamp (by omega)]) rfl ?_
            try dsimp only at hV
            refine X_re (cs' := [(m, ex_o 12 [ex_i x0, ex_i x1, ex_r x2, ex_i x3, ex_i x4, ex_i x5, ex_i x6, ex_j x7, ex_i x8, ex_i x9, ex_r x10, ex_r x11, ex_r x12, ex_r x13, ex_r x14, ex_r x15, ex_r x16, ex_r x17, ex_r x18, ex_r x19, ex_r x20, ex_r x21, ex_r x22, ex_r x23, ex_r x24, ex_r x25, ex_i x26, ex_i x27, ex_r x28, ex_r x29, ex_r x30, ex_r x31, ex_r x32, ex_r x33, ex_r x34, ex_r x35, ex_r x36, ex_r x37, ex_r x38, ex_r x39, ex_i x40, ex_j x41, ex_r x42, ex_r x43, ex_r x44, ex_r x45, ex_r x46, ex_r x47, ex_r x48, ex_r x49, ex_r x50, ex_r x51, ex_r x52, ex_r x53, ex_i x54, ex_i x55, ex_i x56, ex_i x57, ex_r x58, ex_r x59, ex_r x60, ex_r x61, ex_i x62, ex_r x63, ex_r x64, ex_i x65, ex_j x66]), (x30, ex_a 1 7 (upd kp d 1)), (x31, ex_a 1 7 kb), (x32, ex_a 1 7 ah), (x33, ex_a 1 7 (upd ag d 0)), (x34, ex_a 1 7 (upd w_1.1 d 0)), (x35, ex_a 1 7 (upd sb d 20)), (x36, ex_a 1 7 te), (x37, ex_a 1 7 w_1.2)]) [0, 5, 6, 7, 8, 1, 2, 3, 4] (show List.Perm [0, 5, 6, 7, 8, 1, 2, 3, 4] (List.range 9) from by decide) rfl ?_
            exact X_vret dX12_tests_165 (by (repeat refine ex_kc ?_) <;> rfl) (by subst hV; exact ⟨rfl, rfl⟩)
          · have hV := hV.trans (if_pos c_22)
            refine X_iload_n (j := 0) dX12_tests_126 rfl rfl ?_
            refine X_if_eq (tgt := 134) dX12_tests_127 (by decide) (fun _ => ?_) (fun c_ => absurd rfl c_)
            refine X_iconst (v := 0) dX12_tests_134 (by decide) ?_
            refine X_istore_n (lv' := [(2, ex_i 0), (0, ex_r m), (1, ex_i (nI d))]) dX12_tests_135 rfl (Nat.le_of_ble_eq_true rfl) rfl ?_
            refine X_aload_n (j := 1) dX12_tests_136 rfl rfl ?_
            refine X_get (j := 0) fo_X12_69 dX12_tests_137 rfl rfl ?_
            refine X_iload_n (j := 2) dX12_tests_140 rfl rfl ?_
            refine X_iload_n (j := 0) dX12_tests_141 rfl rfl ?_
            refine X_iast (j := 5) (g := upd kp d 0) (cs' := [(m, ex_o 12 [ex_i x0, ex_i x1, ex_r x2, ex_i x3, ex_i x4, ex_i x5, ex_i x6, ex_j x7, ex_i x8, ex_i x9, ex_r x10, ex_r x11, ex_r x12, ex_r x13, ex_r x14, ex_r x15, ex_r x16, ex_r x17, ex_r x18, ex_r x19, ex_r x20, ex_r x21, ex_r x22, ex_r x23, ex_r x24, ex_r x25, ex_i x26, ex_i x27, ex_r x28, ex_r x29, ex_r x30, ex_r x31, ex_r x32, ex_r x33, ex_r x34, ex_r x35, ex_r x36, ex_r x37, ex_r x38, ex_r x39, ex_i x40, ex_j x41, ex_r x42, ex_r x43, ex_r x44, ex_r x45, ex_r x46, ex_r x47, ex_r x48, ex_r x49, ex_r x50, ex_r x51, ex_r x52, ex_r x53, ex_i x54, ex_i x55, ex_i x56, ex_i x57, ex_r x58, ex_r x59, ex_r x60, ex_r x61, ex_i x62, ex_r x63, ex_r x64, ex_i x65, ex_j x66]), (x34, ex_a 1 7 w_1.1), (x35, ex_a 1 7 sb), (x36, ex_a 1 7 te), (x37, ex_a 1 7 w_1.2), (x30, ex_a 1 7 (upd kp d 0)), (x31, ex_a 1 7 kb), (x32, ex_a 1 7 ah), (x33, ex_a 1 7 ag)]) dX12_tests_142 rfl (vp_in_nI (show d < 7 by omega) (by decide)) (by rw [nI_clamp (by omega)]) rfl ?_
            refine X_aload_n (j := 1) dX12_tests_143 rfl rfl ?_
            refine X_get (j := 0) fo_X12_78 dX12_tests_144 rfl rfl ?_
            refine X_iload_n (j := 2) dX12_tests_147 rfl rfl ?_
            refine X_iconst (v := 0) dX12_tests_148 (by decide) ?_
            refine X_iast (j := 8) (g := upd ag d 0) (cs' := [(m, ex_o 12 [ex_i x0, ex_i x1, ex_r x2, ex_i x3, ex_i x4, ex_i x5, ex_i x6, ex_j x7, ex_i x8, ex_i x9, ex_r x10, ex_r x11, ex_r x12, ex_r x13, ex_r x14, ex_r x15, ex_r x16, ex_r x17, ex_r x18, ex_r x19, ex_r x20, ex_r x21, ex_r x22, ex_r x23, ex_r x24, ex_r x25, ex_i x26, ex_i x27, ex_r x28, ex_r x29, ex_r x30, ex_r x31, ex_r x32, ex_r x33, ex_r x34, ex_r x35, ex_r x36, ex_r x37, ex_r x38, ex_r x39, ex_i x40, ex_j x41, ex_r x42, ex_r x43, ex_r x44, ex_r x45, ex_r x46, ex_r x47, ex_r x48, ex_r x49, ex_r x50, ex_r x51, ex_r x52, ex_r x53, ex_i x54, ex_i x55, ex_i x56, ex_i x57, ex_r x58, ex_r x59, ex_r x60, ex_r x61, ex_i x62, ex_r x63, ex_r x64, ex_i x65, ex_j x66]), (x34, ex_a 1 7 w_1.1), (x35, ex_a 1 7 sb), (x36, ex_a 1 7 te), (x37, ex_a 1 7 w_1.2), (x30, ex_a 1 7 (upd kp d 0)), (x31, ex_a 1 7 kb), (x32, ex_a 1 7 ah), (x33, ex_a 1 7 (upd ag d 0))]) dX12_tests_149 rfl (vp_in_nI (show d < 7 by omega) (by decide)) (by rw [nI_clamp (by omega)]) rfl ?_
            refine X_aload_n (j := 1) dX12_tests_150 rfl rfl ?_
            refine X_get (j := 0) fo_X12_81 dX12_tests_151 rfl rfl ?_
            refine X_iload_n (j := 2) dX12_tests_154 rfl rfl ?_
            refine X_iconst (v := 0) dX12_tests_155 (by decide) ?_
            refine X_iast (j := 1) (g := upd w_1.1 d 0) (cs' := [(m, ex_o 12 [ex_i x0, ex_i x1, ex_r x2, ex_i x3, ex_i x4, ex_i x5, ex_i x6, ex_j x7, ex_i x8, ex_i x9, ex_r x10, ex_r x11, ex_r x12, ex_r x13, ex_r x14, ex_r x15, ex_r x16, ex_r x17, ex_r x18, ex_r x19, ex_r x20, ex_r x21, ex_r x22, ex_r x23, ex_r x24, ex_r x25, ex_i x26, ex_i x27, ex_r x28, ex_r x29, ex_r x30, ex_r x31, ex_r x32, ex_r x33, ex_r x34, ex_r x35, ex_r x36, ex_r x37, ex_r x38, ex_r x39, ex_i x40, ex_j x41, ex_r x42, ex_r x43, ex_r x44, ex_r x45, ex_r x46, ex_r x47, ex_r x48, ex_r x49, ex_r x50, ex_r x51, ex_r x52, ex_r x53, ex_i x54, ex_i x55, ex_i x56, ex_i x57, ex_r x58, ex_r x59, ex_r x60, ex_r x61, ex_i x62, ex_r x63, ex_r x64, ex_i x65, ex_j x66]), (x34, ex_a 1 7 (upd w_1.1 d 0)), (x35, ex_a 1 7 sb), (x36, ex_a 1 7 te), (x37, ex_a 1 7 w_1.2), (x30, ex_a 1 7 (upd kp d 0)), (x31, ex_a 1 7 kb), (x32, ex_a 1 7 ah), (x33, ex_a 1 7 (upd ag d 0))]) dX12_tests_156 rfl (vp_in_nI (show d < 7 by omega) (by decide)) (by rw [nI_clamp (by omega)]) rfl ?_
            refine X_aload_n (j := 1) dX12_tests_157 rfl rfl ?_
            refine X_get (j := 0) fo_X12_84 dX12_tests_158 rfl rfl ?_
            refine X_iload_n (j := 2) dX12_tests_161 rfl rfl ?_
            refine X_bipush (v := 20) dX12_tests_162 (by decide) ?_
            refine X_iast (j := 2) (g := upd sb d 20) (cs' := [(m, ex_o 12 [ex_i x0, ex_i x1, ex_r x2, ex_i x3, ex_i x4, ex_i x5, ex_i x6, ex_j x7, ex_i x8, ex_i x9, ex_r x10, ex_r x11, ex_r x12, ex_r x13, ex_r x14, ex_r x15, ex_r x16, ex_r x17, ex_r x18, ex_r x19, ex_r x20, ex_r x21, ex_r x22, ex_r x23, ex_r x24, ex_r x25, ex_i x26, ex_i x27, ex_r x28, ex_r x29, ex_r x30, ex_r x31, ex_r x32, ex_r x33, ex_r x34, ex_r x35, ex_r x36, ex_r x37, ex_r x38, ex_r x39, ex_i x40, ex_j x41, ex_r x42, ex_r x43, ex_r x44, ex_r x45, ex_r x46, ex_r x47, ex_r x48, ex_r x49, ex_r x50, ex_r x51, ex_r x52, ex_r x53, ex_i x54, ex_i x55, ex_i x56, ex_i x57, ex_r x58, ex_r x59, ex_r x60, ex_r x61, ex_i x62, ex_r x63, ex_r x64, ex_i x65, ex_j x66]), (x34, ex_a 1 7 (upd w_1.1 d 0)), (x35, ex_a 1 7 (upd sb d 20)), (x36, ex_a 1 7 te), (x37, ex_a 1 7 w_1.2), (x30, ex_a 1 7 (upd kp d 0)), (x31, ex_a 1 7 kb), (x32, ex_a 1 7 ah), (x33, ex_a 1 7 (upd ag d 0))]) dX12_tests_164 rfl (vp_in_nI (show d < 7 by omega) (by decide)) (by rw [nI_clamp (by omega)]) rfl ?_
            try dsimp only at hV
            refine X_re (cs' := [(m, ex_o 12 [ex_i x0, ex_i x1, ex_r x2, ex_i x3, ex_i x4, ex_i x5, ex_i x6, ex_j x7, ex_i x8, ex_i x9, ex_r x10, ex_r x11, ex_r x12, ex_r x13, ex_r x14, ex_r x15, ex_r x16, ex_r x17, ex_r x18, ex_r x19, ex_r x20, ex_r x21, ex_r x22, ex_r x23, ex_r x24, ex_r x25, ex_i x26, ex_i x27, ex_r x28, ex_r x29, ex_r x30, ex_r x31, ex_r x32, ex_r x33, ex_r x34, ex_r x35, ex_r x36, ex_r x37, ex_r x38, ex_r x39, ex_i x40, ex_j x41, ex_r x42, ex_r x43, ex_r x44, ex_r x45, ex_r x46, ex_r x47, ex_r x48, ex_r x49, ex_r x50, ex_r x51, ex_r x52, ex_r x53, ex_i x54, ex_i x55, ex_i x56, ex_i x57, ex_r x58, ex_r x59, ex_r x60, ex_r x61, ex_i x62, ex_r x63, ex_r x64, ex_i x65, ex_j x66]), (x30, ex_a 1 7 (upd kp d 0)), (x31, ex_a 1 7 kb), (x32, ex_a 1 7 ah), (x33, ex_a 1 7 (upd ag d 0)), (x34, ex_a 1 7 (upd w_1.1 d 0)), (x35, ex_a 1 7 (upd sb d 20)), (x36, ex_a 1 7 te), (x37, ex_a 1 7 w_1.2)]) [0, 5, 6, 7, 8, 1, 2, 3, 4] (show List.Perm [0, 5, 6, 7, 8, 1, 2, 3, 4] (List.range 9) from by decide) rfl ?_
            exact X_vret dX12_tests_165 (by (repeat refine ex_kc ?_) <;> rfl) (by subst hV; exact ⟨rfl, rfl⟩)
      · have hV := hV.trans (if_pos c_20)
        refine X_aload_n (j := 1) dX12_tests_87 rfl rfl ?_
        refine X_get (j := 0) fo_X12_69 dX12_tests_88 rfl rfl ?_
        refine X_iload_n (j := 2) dX12_tests_91 rfl rfl ?_
        refine X_iald (j := 5) (v := (kp d)) dX12_tests_92 rfl (vp_in_nI (show d < 7 by omega) (by decide)) (by rw [nI_clamp (by omega)]) ?_
        refine X_if_eq (tgt := 104) dX12_tests_93 (by decide) (fun c_23 => ?_) (fun c_23 => ?_)
        · have hV := hV.trans (if_pos c_23)
          refine X_iconst (v := 0) dX12_tests_104 (by decide) ?_
          refine X_istore_n (lv' := [(2, ex_i 0), (0, ex_r m), (1, ex_i (nI d))]) dX12_tests_105 rfl (Nat.le_of_ble_eq_true rfl) rfl ?_
          refine X_aload_n (j := 1) dX12_tests_106 rfl rfl ?_
          refine X_get (j := 0) fo_X12_72 dX12_tests_107 rfl rfl ?_
          refine X_iload_n (j := 2) dX12_tests_110 rfl rfl ?_
          refine X_iald (j := 6) (v := (kb d)) dX12_tests_111 rfl (vp_in_nI (show d < 7 by omega) (by decide)) (by rw [nI_clamp (by omega)]) ?_
          refine X_bipush (v := 27) dX12_tests_112 (by decide) ?_
          refine X_icmp_ne (tgt := 136) dX12_tests_114 (by decide) (fun _ => ?_) (fun c_ => absurd c_ (by have q0 := c_20; simp only [lt_ti, le_ti, eq_ti, ti_26, ti_27] at q0 ⊢; omega))
          refine X_aload_n (j := 1) dX12_tests_136 rfl rfl ?_
          refine X_get (j := 0) fo_X12_69 dX12_tests_137 rfl rfl ?_
          refine X_iload_n (j := 2) dX12_tests_140 rfl rfl ?_
          refine X_iload_n (j := 0) dX12_tests_141 rfl rfl ?_
          refine X_iast (j := 5) (g := upd kp d 0) (cs' := [(m, ex_o 12 [ex_i x0, ex_i x1, ex_r x2, ex_i x3, ex_i x4, ex_i x5, ex_i x6, ex_j x7, ex_i x8, ex_i x9, ex_r x10, ex_r x11, ex_r x12, ex_r x13, ex_r x14, ex_r x15, ex_r x16, ex_r x17, ex_r x18, ex_r x19, ex_r x20, ex_r x21, ex_r x22, ex_r x23, ex_r x24, ex_r x25, ex_i x26, ex_i x27, ex_r x28, ex_r x29, ex_r x30, ex_r x31, ex_r x32, ex_r x33, ex_r x34, ex_r x35, ex_r x36, ex_r x37, ex_r x38, ex_r x39, ex_i x40, ex_j x41, ex_r x42, ex_r x43, ex_r x44, ex_r x45, ex_r x46, ex_r x47, ex_r x48, ex_r x49, ex_r x50, ex_r x51, ex_r x52, ex_r x53, ex_i x54, ex_i x55, ex_i x56, ex_i x57, ex_r x58, ex_r x59, ex_r x60, ex_r x61, ex_i x62, ex_r x63, ex_r x64, ex_i x65, ex_j x66]), (x34, ex_a 1 7 w_1.1), (x35, ex_a 1 7 sb), (x36, ex_a 1 7 te), (x37, ex_a 1 7 w_1.2), (x30, ex_a 1 7 (upd kp d 0)), (x31, ex_a 1 7 kb), (x32, ex_a 1 7 ah), (x33, ex_a 1 7 ag)]) dX12_tests_142 rfl (vp_in_nI (show d < 7 by omega) (by decide)) (by rw [nI_clamp (by omega)]) rfl ?_
          refine X_aload_n (j := 1) dX12_tests_143 rfl rfl ?_
          refine X_get (j := 0) fo_X12_78 dX12_tests_144 rfl rfl ?_
          refine X_iload_n (j := 2) dX12_tests_147 rfl rfl ?_
          refine X_iconst (v := 0) dX12_tests_148 (by decide) ?_
          refine X_iast (j := 8) (g := upd ag d 0) (cs' := [(m, ex_o 12 [ex_i x0, ex_i x1, ex_r x2, ex_i x3, ex_i x4, ex_i x5, ex_i x6, ex_j x7, ex_i x8, ex_i x9, ex_r x10, ex_r x11, ex_r x12, ex_r x13, ex_r x14, ex_r x15, ex_r x16, ex_r x17, ex_r x18, ex_r x19, ex_r x20, ex_r x21, ex_r x22, ex_r x23, ex_r x24, ex_r x25, ex_i x26, ex_i x27, ex_r x28, ex_r x29, ex_r x30, ex_r x31, ex_r x32, ex_r x33, ex_r x34, ex_r x35, ex_r x36, ex_r x37, ex_r x38, ex_r x39, ex_i x40, ex_j x41, ex_r x42, ex_r x43, ex_r x44, ex_r x45, ex_r x46, ex_r x47, ex_r x48, ex_r x49, ex_r x50, ex_r x51, ex_r x52, ex_r x53, ex_i x54, ex_i x55, ex_i x56, ex_i x57, ex_r x58, ex_r x59, ex_r x60, ex_r x61, ex_i x62, ex_r x63, ex_r x64, ex_i x65, ex_j x66]), (x34, ex_a 1 7 w_1.1), (x35, ex_a 1 7 sb), (x36, ex_a 1 7 te), (x37, ex_a 1 7 w_1.2), (x30, ex_a 1 7 (upd kp d 0)), (x31, ex_a 1 7 kb), (x32, ex_a 1 7 ah), (x33, ex_a 1 7 (upd ag d 0))]) dX12_tests_149 rfl (vp_in_nI (show d < 7 by omega) (by decide)) (by rw [nI_clamp (by omega)]) rfl ?_
          refine X_aload_n (j := 1) dX12_tests_150 rfl rfl ?_
          refine X_get (j := 0) fo_X12_81 dX12_tests_151 rfl rfl ?_
          refine X_iload_n (j := 2) dX12_tests_154 rfl rfl ?_
          refine X_iconst (v := 0) dX12_tests_155 (by decide) ?_
          refine X_iast (j := 1) (g := upd w_1.1 d 0) (cs' := [(m, ex_o 12 [ex_i x0, ex_i x1, ex_r x2, ex_i x3, ex_i x4, ex_i x5, ex_i x6, ex_j x7, ex_i x8, ex_i x9, ex_r x10, ex_r x11, ex_r x12, ex_r x13, ex_r x14, ex_r x15, ex_r x16, ex_r x17, ex_r x18, ex_r x19, ex_r x20, ex_r x21, ex_r x22, ex_r x23, ex_r x24, ex_r x25, ex_i x26, ex_i x27, ex_r x28, ex_r x29, ex_r x30, ex_r x31, ex_r x32, ex_r x33, ex_r x34, ex_r x35, ex_r x36, ex_r x37, ex_r x38, ex_r x39, ex_i x40, ex_j x41, ex_r x42, ex_r x43, ex_r x44, ex_r x45, ex_r x46, ex_r x47, ex_r x48, ex_r x49, ex_r x50, ex_r x51, ex_r x52, ex_r x53, ex_i x54, ex_i x55, ex_i x56, ex_i x57, ex_r x58, ex_r x59, ex_r x60, ex_r x61, ex_i x62, ex_r x63, ex_r x64, ex_i x65, ex_j x66]), (x34, ex_a 1 7 (upd w_1.1 d 0)), (x35, ex_a 1 7 sb), (x36, ex_a 1 7 te), (x37, ex_a 1 7 w_1.2), (x30, ex_a 1 7 (upd kp d 0)), (x31, ex_a 1 7 kb), (x32, ex_a 1 7 ah), (x33, ex_a 1 7 (upd ag d 0))]) dX12_tests_156 rfl (vp_in_nI (show d < 7 by omega) (by decide)) (by rw [nI_clamp (by omega)]) rfl ?_
          refine X_aload_n (j := 1) dX12_tests_157 rfl rfl ?_
          refine X_get (j := 0) fo_X12_84 dX12_tests_158 rfl rfl ?_
          refine X_iload_n (j := 2) dX12_tests_161 rfl rfl ?_
          refine X_bipush (v := 20) dX12_tests_162 (by decide) ?_
          refine X_iast (j := 2) (g := upd sb d 20) (cs' := [(m, ex_o 12 [ex_i x0, ex_i x1, ex_r x2, ex_i x3, ex_i x4, ex_i x5, ex_i x6, ex_j x7, ex_i x8, ex_i x9, ex_r x10, ex_r x11, ex_r x12, ex_r x13, ex_r x14, ex_r x15, ex_r x16, ex_r x17, ex_r x18, ex_r x19, ex_r x20, ex_r x21, ex_r x22, ex_r x23, ex_r x24, ex_r x25, ex_i x26, ex_i x27, ex_r x28, ex_r x29, ex_r x30, ex_r x31, ex_r x32, ex_r x33, ex_r x34, ex_r x35, ex_r x36, ex_r x37, ex_r x38, ex_r x39, ex_i x40, ex_j x41, ex_r x42, ex_r x43, ex_r x44, ex_r x45, ex_r x46, ex_r x47, ex_r x48, ex_r x49, ex_r x50, ex_r x51, ex_r x52, ex_r x53, ex_i x54, ex_i x55, ex_i x56, ex_i x57, ex_r x58, ex_r x59, ex_r x60, ex_r x61, ex_i x62, ex_r x63, ex_r x64, ex_i x65, ex_j x66]), (x34, ex_a 1 7 (upd w_1.1 d 0)), (x35, ex_a 1 7 (upd sb d 20)), (x36, ex_a 1 7 te), (x37, ex_a 1 7 w_1.2), (x30, ex_a 1 7 (upd kp d 0)), (x31, ex_a 1 7 kb), (x32, ex_a 1 7 ah), (x33, ex_a 1 7 (upd ag d 0))]) dX12_tests_164 rfl (vp_in_nI (show d < 7 by omega) (by decide)) (by rw [nI_clamp (by omega)]) rfl ?_
          try dsimp only at hV
          refine X_re (cs' := [(m, ex_o 12 [ex_i x0, ex_i x1, ex_r x2, ex_i x3, ex_i x4, ex_i x5, ex_i x6, ex_j x7, ex_i x8, ex_i x9, ex_r x10, ex_r x11, ex_r x12, ex_r x13, ex_r x14, ex_r x15, ex_r x16, ex_r x17, ex_r x18, ex_r x19, ex_r x20, ex_r x21, ex_r x22, ex_r x23, ex_r x24, ex_r x25, ex_i x26, ex_i x27, ex_r x28, ex_r x29, ex_r x30, ex_r x31, ex_r x32, ex_r x33, ex_r x34, ex_r x35, ex_r x36, ex_r x37, ex_r x38, ex_r x39, ex_i x40, ex_j x41, ex_r x42, ex_r x43, ex_r x44, ex_r x45, ex_r x46, ex_r x47, ex_r x48, ex_r x49, ex_r x50, ex_r x51, ex_r x52, ex_r x53, ex_i x54, ex_i x55, ex_i x56, ex_i x57, ex_r x58, ex_r x59, ex_r x60, ex_r x61, ex_i x62, ex_r x63, ex_r x64, ex_i x65, ex_j x66]), (x30, ex_a 1 7 (upd kp d 0)), (x31, ex_a 1 7 kb), (x32, ex_a 1 7 ah), (x33, ex_a 1 7 (upd ag d 0)), (x34, ex_a 1 7 (upd w_1.1 d 0)), (x35, ex_a 1 7 (upd sb d 20)), (x36, ex_a 1 7 te), (x37, ex_a 1 7 w_1.2)]) [0, 5, 6, 7, 8, 1, 2, 3, 4] (show List.Perm [0, 5, 6, 7, 8, 1, 2, 3, 4] (List.range 9) from by decide) rfl ?_
          exact X_vret dX12_tests_165 (by (repeat refine ex_kc ?_) <;> rfl) (by subst hV; exact ⟨rfl, rfl⟩)
        · have hV := hV.trans (if_neg c_23)
          refine X_iload_n (j := 0) dX12_tests_96 rfl rfl ?_
          refine X_if_eq (tgt := 104) dX12_tests_97 (by decide) (fun _ => ?_) (fun c_ => absurd rfl c_)
          refine X_iconst (v := 0) dX12_tests_104 (by decide) ?_
          refine X_istore_n (lv' := [(2, ex_i 0), (0, ex_r m), (1, ex_i (nI d))]) dX12_tests_105 rfl (Nat.le_of_ble_eq_true rfl) rfl ?_
          refine X_aload_n (j := 1) dX12_tests_106 rfl rfl ?_
          refine X_get (j := 0) fo_X12_72 dX12_tests_107 rfl rfl ?_
          refine X_iload_n (j := 2) dX12_tests_110 rfl rfl ?_
          refine X_iald (j := 6) (v := (kb d)) dX12_tests_111 rfl (vp_in_nI (show d < 7 by omega) (by decide)) (by rw [nI_clamp (by omega)]) ?_
          refine X_bipush (v := 27) dX12_tests_112 (by decide) ?_
          refine X_icmp_ne (tgt := 136) dX12_tests_114 (by decide) (fun _ => ?_) (fun c_ => absurd c_ (by have q0 := c_20; simp only [lt_ti, le_ti, eq_ti, ti_26, ti_27] at q0 ⊢; omega))
          refine X_aload_n (j := 1) dX12_tests_136 rfl rfl ?_
          refine X_get (j := 0) fo_X12_69 dX12_tests_137 rfl rfl ?_
          refine X_iload_n (j := 2) dX12_tests_140 rfl rfl ?_
          refine X_iload_n (j := 0) dX12_tests_141 rfl rfl ?_
          refine X_iast (j := 5) (g := upd kp d 0) (cs' := [(m, ex_o 12 [ex_i x0, ex_i x1, ex_r x2, ex_i x3, ex_i x4, ex_i x5, ex_i x6, ex_j x7, ex_i x8, ex_i x9, ex_r x10, ex_r x11, ex_r x12, ex_r x13, ex_r x14, ex_r x15, ex_r x16, ex_r x17, ex_r x18, ex_r x19, ex_r x20, ex_r x21, ex_r x22, ex_r x23, ex_r x24, ex_r x25, ex_i x26, ex_i x27, ex_r x28, ex_r x29, ex_r x30, ex_r x31, ex_r x32, ex_r x33, ex_r x34, ex_r x35, ex_r x36, ex_r x37, ex_r x38, ex_r x39, ex_i x40, ex_j x41, ex_r x42, ex_r x43, ex_r x44, ex_r x45, ex_r x46, ex_r x47, ex_r x48, ex_r x49, ex_r x50, ex_r x51, ex_r x52, ex_r x53, ex_i x54, ex_i x55, ex_i x56, ex_i x57, ex_r x58, ex_r x59, ex_r x60, ex_r x61, ex_i x62, ex_r x63, ex_r x64, ex_i x65, ex_j x66]), (x34, ex_a 1 7 w_1.1), (x35, ex_a 1 7 sb), (x36, ex_a 1 7 te), (x37, ex_a 1 7 w_1.2), (x30, ex_a 1 7 (upd kp d 0)), (x31, ex_a 1 7 kb), (x32, ex_a 1 7 ah), (x33, ex_a 1 7 ag)]) dX12_tests_142 rfl (vp_in_nI (show d < 7 by omega) (by decide)) (by rw [nI_clamp (by omega)]) rfl ?_
          refine X_aload_n (j := 1) dX12_tests_143 rfl rfl ?_
          refine X_get (j := 0) fo_X12_78 dX12_tests_144 rfl rfl ?_
          refine X_iload_n (j := 2) dX12_tests_147 rfl rfl ?_
          refine X_iconst (v := 0) dX12_tests_148 (by decide) ?_
          refine X_iast (j := 8) (g := upd ag d 0) (cs' := [(m, ex_o 12 [ex_i x0, ex_i x1, ex_r x2, ex_i x3, ex_i x4, ex_i x5, ex_i x6, ex_j x7, ex_i x8, ex_i x9, ex_r x10, ex_r x11, ex_r x12, ex_r x13, ex_r x14, ex_r x15, ex_r x16, ex_r x17, ex_r x18, ex_r x19, ex_r x20, ex_r x21, ex_r x22, ex_r x23, ex_r x24, ex_r x25, ex_i x26, ex_i x27, ex_r x28, ex_r x29, ex_r x30, ex_r x31, ex_r x32, ex_r x33, ex_r x34, ex_r x35, ex_r x36, ex_r x37, ex_r x38, ex_r x39, ex_i x40, ex_j x41, ex_r x42, ex_r x43, ex_r x44, ex_r x45, ex_r x46, ex_r x47, ex_r x48, ex_r x49, ex_r x50, ex_r x51, ex_r x52, ex_r x53, ex_i x54, ex_i x55, ex_i x56, ex_i x57, ex_r x58, ex_r x59, ex_r x60, ex_r x61, ex_i x62, ex_r x63, ex_r x64, ex_i x65, ex_j x66]), (x34, ex_a 1 7 w_1.1), (x35, ex_a 1 7 sb), (x36, ex_a 1 7 te), (x37, ex_a 1 7 w_1.2), (x30, ex_a 1 7 (upd kp d 0)), (x31, ex_a 1 7 kb), (x32, ex_a 1 7 ah), (x33, ex_a 1 7 (upd ag d 0))]) dX12_tests_149 rfl (vp_in_nI (show d < 7 by omega) (by decide)) (by rw [nI_clamp (by omega)]) rfl ?_
          refine X_aload_n (j := 1) dX12_tests_150 rfl rfl ?_
          refine X_get (j := 0) fo_X12_81 dX12_tests_151 rfl rfl ?_
          refine X_iload_n (j := 2) dX12_tests_154 rfl rfl ?_
          refine X_iconst (v := 0) dX12_tests_155 (by decide) ?_
          refine X_iast (j := 1) (g := upd w_1.1 d 0) (cs' := [(m, ex_o 12 [ex_i x0, ex_i x1, ex_r x2, ex_i x3, ex_i x4, ex_i x5, ex_i x6, ex_j x7, ex_i x8, ex_i x9, ex_r x10, ex_r x11, ex_r x12, ex_r x13, ex_r x14, ex_r x15, ex_r x16, ex_r x17, ex_r x18, ex_r x19, ex_r x20, ex_r x21, ex_r x22, ex_r x23, ex_r x24, ex_r x25, ex_i x26, ex_i x27, ex_r x28, ex_r x29, ex_r x30, ex_r x31, ex_r x32, ex_r x33, ex_r x34, ex_r x35, ex_r x36, ex_r x37, ex_r x38, ex_r x39, ex_i x40, ex_j x41, ex_r x42, ex_r x43, ex_r x44, ex_r x45, ex_r x46, ex_r x47, ex_r x48, ex_r x49, ex_r x50, ex_r x51, ex_r x52, ex_r x53, ex_i x54, ex_i x55, ex_i x56, ex_i x57, ex_r x58, ex_r x59, ex_r x60, ex_r x61, ex_i x62, ex_r x63, ex_r x64, ex_i x65, ex_j x66]), (x34, ex_a 1 7 (upd w_1.1 d 0)), (x35, ex_a 1 7 sb), (x36, ex_a 1 7 te), (x37, ex_a 1 7 w_1.2), (x30, ex_a 1 7 (upd kp d 0)), (x31, ex_a 1 7 kb), (x32, ex_a 1 7 ah), (x33, ex_a 1 7 (upd ag d 0))]) dX12_tests_156 rfl (vp_in_nI (show d < 7 by omega) (by decide)) (by rw [nI_clamp (by omega)]) rfl ?_
          refine X_aload_n (j := 1) dX12_tests_157 rfl rfl ?_
          refine X_get (j := 0) fo_X12_84 dX12_tests_158 rfl rfl ?_
          refine X_iload_n (j := 2) dX12_tests_161 rfl rfl ?_
          refine X_bipush (v := 20) dX12_tests_162 (by decide) ?_
          refine X_iast (j := 2) (g := upd sb d 20) (cs' := [(m, ex_o 12 [ex_i x0, ex_i x1, ex_r x2, ex_i x3, ex_i x4, ex_i x5, ex_i x6, ex_j x7, ex_i x8, ex_i x9, ex_r x10, ex_r x11, ex_r x12, ex_r x13, ex_r x14, ex_r x15, ex_r x16, ex_r x17, ex_r x18, ex_r x19, ex_r x20, ex_r x21, ex_r x22, ex_r x23, ex_r x24, ex_r x25, ex_i x26, ex_i x27, ex_r x28, ex_r x29, ex_r x30, ex_r x31, ex_r x32, ex_r x33, ex_r x34, ex_r x35, ex_r x36, ex_r x37, ex_r x38, ex_r x39, ex_i x40, ex_j x41, ex_r x42, ex_r x43, ex_r x44, ex_r x45, ex_r x46, ex_r x47, ex_r x48, ex_r x49, ex_r x50, ex_r x51, ex_r x52, ex_r x53, ex_i x54, ex_i x55, ex_i x56, ex_i x57, ex_r x58, ex_r x59, ex_r x60, ex_r x61, ex_i x62, ex_r x63, ex_r x64, ex_i x65, ex_j x66]), (x34, ex_a 1 7 (upd w_1.1 d 0)), (x35, ex_a 1 7 (upd sb d 20)), (x36, ex_a 1 7 te), (x37, ex_a 1 7 w_1.2), (x30, ex_a 1 7 (upd kp d 0)), (x31, ex_a 1 7 kb), (x32, ex_a 1 7 ah), (x33, ex_a 1 7 (upd ag d 0))]) dX12_tests_164 rfl (vp_in_nI (show d < 7 by omega) (by decide)) (by rw [nI_clamp (by omega)]) rfl ?_
          try dsimp only at hV
          refine X_re (cs' := [(m, ex_o 12 [ex_i x0, ex_i x1, ex_r x2, ex_i x3, ex_i x4, ex_i x5, ex_i x6, ex_j x7, ex_i x8, ex_i x9, ex_r x10, ex_r x11, ex_r x12, ex_r x13, ex_r x14, ex_r x15, ex_r x16, ex_r x17, ex_r x18, ex_r x19, ex_r x20, ex_r x21, ex_r x22, ex_r x23, ex_r x24, ex_r x25, ex_i x26, ex_i x27, ex_r x28, ex_r x29, ex_r x30, ex_r x31, ex_r x32, ex_r x33, ex_r x34, ex_r x35, ex_r x36, ex_r x37, ex_r x38, ex_r x39, ex_i x40, ex_j x41, ex_r x42, ex_r x43, ex_r x44, ex_r x45, ex_r x46, ex_r x47, ex_r x48, ex_r x49, ex_r x50, ex_r x51, ex_r x52, ex_r x53, ex_i x54, ex_i x55, ex_i x56, ex_i x57, ex_r x58, ex_r x59, ex_r x60, ex_r x61, ex_i x62, ex_r x63, ex_r x64, ex_i x65, ex_j x66]), (x30, ex_a 1 7 (upd kp d 0)), (x31, ex_a 1 7 kb), (x32, ex_a 1 7 ah), (x33, ex_a 1 7 (upd ag d 0)), (x34, ex_a 1 7 (upd w_1.1 d 0)), (x35, ex_a 1 7 (upd sb d 20)), (x36, ex_a 1 7 te), (x37, ex_a 1 7 w_1.2)]) [0, 5, 6, 7, 8, 1, 2, 3, 4] (show List.Perm [0, 5, 6, 7, 8, 1, 2, 3, 4] (List.range 9) from by decide) rfl ?_
          exact X_vret dX12_tests_165 (by (repeat refine ex_kc ?_) <;> rfl) (by subst hV; exact ⟨rfl, rfl⟩)
    · have hV := hV.trans (if_neg c_19)
      refine X_iconst (v := 1) dX12_tests_38 (by decide) ?_
      refine X_goto (tgt := 43) dX12_tests_39 (by decide) ?_
      refine X_istore_n (lv' := [(2, ex_i 1), (0, ex_r m), (1, ex_i (nI d))]) dX12_tests_43 rfl (Nat.le_of_ble_eq_true rfl) rfl ?_
      refine X_aload_n (j := 1) dX12_tests_44 rfl rfl ?_
      refine X_get (j := 0) fo_X12_78 dX12_tests_45 rfl rfl ?_
      refine X_iload_n (j := 2) dX12_tests_48 rfl rfl ?_
      refine X_iald (j := 8) (v := (ag d)) dX12_tests_49 rfl (vp_in_nI (show d < 7 by omega) (by decide)) (by rw [nI_clamp (by omega)]) ?_
      refine X_bipush (v := 25) dX12_tests_50 (by decide) ?_
      refine X_icmp_ne (tgt := 76) dX12_tests_52 (by decide) (fun _ => ?_) (fun c_ => absurd c_ (by have q0 := c_2; simp only [lt_ti, le_ti, eq_ti, ti_24, ti_25] at q0 ⊢; omega))
      refine X_aload_n (j := 1) dX12_tests_76 rfl rfl ?_
      refine X_get (j := 0) fo_X12_72 dX12_tests_77 rfl rfl ?_
      refine X_iload_n (j := 2) dX12_tests_80 rfl rfl ?_
      refine X_iald (j := 6) (v := (kb d)) dX12_tests_81 rfl (vp_in_nI (show d < 7 by omega) (by decide)) (by rw [nI_clamp (by omega)]) ?_
      refine X_bipush (v := 26) dX12_tests_82 (by decide) ?_
      refine X_icmp_ne (tgt := 106) dX12_tests_84 (by decide) (fun c_24 => ?_) (fun c_24 => ?_)
      · have hV := hV.trans (if_neg c_24)
        refine X_aload_n (j := 1) dX12_tests_106 rfl rfl ?_
        refine X_get (j := 0) fo_X12_72 dX12_tests_107 rfl rfl ?_
        refine X_iload_n (j := 2) dX12_tests_110 rfl rfl ?_
        refine X_iald (j := 6) (v := (kb d)) dX12_tests_111 rfl (vp_in_nI (show d < 7 by omega) (by decide)) (by rw [nI_clamp (by omega)]) ?_
        refine X_bipush (v := 27) dX12_tests_112 (by decide) ?_
        refine X_icmp_ne (tgt := 136) dX12_tests_114 (by decide) (fun c_25 => ?_) (fun c_25 => ?_)
        · have hV := hV.trans (if_neg c_25)
          refine X_aload_n (j := 1) dX12_tests_136 rfl rfl ?_
          refine X_get (j := 0) fo_X12_69 dX12_tests_137 rfl rfl ?_
          refine X_iload_n (j := 2) dX12_tests_140 rfl rfl ?_
          refine X_iload_n (j := 0) dX12_tests_141 rfl rfl ?_
          refine X_iast (j := 5) (g := upd kp d 1) (cs' := [(m, ex_o 12 [ex_i x0, ex_i x1, ex_r x2, ex_i x3, ex_i x4, ex_i x5, ex_i x6, ex_j x7, ex_i x8, ex_i x9, ex_r x10, ex_r x11, ex_r x12, ex_r x13, ex_r x14, ex_r x15, ex_r x16, ex_r x17, ex_r x18, ex_r x19, ex_r x20, ex_r x21, ex_r x22, ex_r x23, ex_r x24, ex_r x25, ex_i x26, ex_i x27, ex_r x28, ex_r x29, ex_r x30, ex_r x31, ex_r x32, ex_r x33, ex_r x34, ex_r x35, ex_r x36, ex_r x37, ex_r x38, ex_r x39, ex_i x40, ex_j x41, ex_r x42, ex_r x43, ex_r x44, ex_r x45, ex_r x46, ex_r x47, ex_r x48, ex_r x49, ex_r x50, ex_r x51, ex_r x52, ex_r x53, ex_i x54, ex_i x55, ex_i x56, ex_i x57, ex_r x58, ex_r x59, ex_r x60, ex_r x61, ex_i x62, ex_r x63, ex_r x64, ex_i x65, ex_j x66]), (x34, ex_a 1 7 w_1.1), (x35, ex_a 1 7 sb), (x36, ex_a 1 7 te), (x37, ex_a 1 7 w_1.2), (x30, ex_a 1 7 (upd kp d 1)), (x31, ex_a 1 7 kb), (x32, ex_a 1 7 ah), (x33, ex_a 1 7 ag)]) dX12_tests_142 rfl (vp_in_nI (show d < 7 by omega) (by decide)) (by rw [nI_clamp (by omega)]) rfl ?_
          refine X_aload_n (j := 1) dX12_tests_143 rfl rfl ?_
          refine X_get (j := 0) fo_X12_78 dX12_tests_144 rfl rfl ?_
          refine X_iload_n (j := 2) dX12_tests_147 rfl rfl ?_
          refine X_iconst (v := 0) dX12_tests_148 (by decide) ?_
          refine X_iast (j := 8) (g := upd ag d 0) (cs' := [(m, ex_o 12 [ex_i x0, ex_i x1, ex_r x2, ex_i x3, ex_i x4, ex_i x5, ex_i x6, ex_j x7, ex_i x8, ex_i x9, ex_r x10, ex_r x11, ex_r x12, ex_r x13, ex_r x14, ex_r x15, ex_r x16, ex_r x17, ex_r x18, ex_r x19, ex_r x20, ex_r x21, ex_r x22, ex_r x23, ex_r x24, ex_r x25, ex_i x26, ex_i x27, ex_r x28, ex_r x29, ex_r x30, ex_r x31, ex_r x32, ex_r x33, ex_r x34, ex_r x35, ex_r x36, ex_r x37, ex_r x38, ex_r x39, ex_i x40, ex_j x41, ex_r x42, ex_r x43, ex_r x44, ex_r x45, ex_r x46, ex_r x47, ex_r x48, ex_r x49, ex_r x50, ex_r x51, ex_r x52, ex_r x53, ex_i x54, ex_i x55, ex_i x56, ex_i x57, ex_r x58, ex_r x59, ex_r x60, ex_r x61, ex_i x62, ex_r x63, ex_r x64, ex_i x65, ex_j x66]), (x34, ex_a 1 7 w_1.1), (x35, ex_a 1 7 sb), (x36, ex_a 1 7 te), (x37, ex_a 1 7 w_1.2), (x30, ex_a 1 7 (upd kp d 1)), (x31, ex_a 1 7 kb), (x32, ex_a 1 7 ah), (x33, ex_a 1 7 (upd ag d 0))]) dX12_tests_149 rfl (vp_in_nI (show d < 7 by omega) (by decide)) (by rw [nI_clamp (by omega)]) rfl ?_
          refine X_aload_n (j := 1) dX12_tests_150 rfl rfl ?_
          refine X_get (j := 0) fo_X12_81 dX12_tests_151 rfl rfl ?_
          refine X_iload_n (j := 2) dX12_tests_154 rfl rfl ?_
          refine X_iconst (v := 0) dX12_tests_155 (by decide) ?_
          refine X_iast (j := 1) (g := upd w_1.1 d 0) (cs' := [(m, ex_o 12 [ex_i x0, ex_i x1, ex_r x2, ex_i x3, ex_i x4, ex_i x5, ex_i x6, ex_j x7, ex_i x8, ex_i x9, ex_r x10, ex_r x11, ex_r x12, ex_r x13, ex_r x14, ex_r x15, ex_r x16, ex_r x17, ex_r x18, ex_r x19, ex_r x20, ex_r x21, ex_r x22, ex_r x23, ex_r x24, ex_r x25, ex_i x26, ex_i x27, ex_r x28, ex_r x29, ex_r x30, ex_r x31, ex_r x32, ex_r x33, ex_r x34, ex_r x35, ex_r x36, ex_r x37, ex_r x38, ex_r x39, ex_i x40, ex_j x41, ex_r x42, ex_r x43, ex_r x44, ex_r x45, ex_r x46, ex_r x47, ex_r x48, ex_r x49, ex_r x50, ex_r x51, ex_r x52, ex_r x53, ex_i x54, ex_i x55, ex_i x56, ex_i x57, ex_r x58, ex_r x59, ex_r x60, ex_r x61, ex_i x62, ex_r x63, ex_r x64, ex_i x65, ex_j x66]), (x34, ex_a 1 7 (upd w_1.1 d 0)), (x35, ex_a 1 7 sb), (x36, ex_a 1 7 te), (x37, ex_a 1 7 w_1.2), (x30, ex_a 1 7 (upd kp d 1)), (x31, ex_a 1 7 kb), (x32, ex_a 1 7 ah), (x33, ex_a 1 7 (upd ag d 0))]) dX12_tests_156 rfl (vp_in_nI (show d < 7 by omega) (by decide)) (by rw [nI_clamp (by omega)]) rfl ?_
          refine X_aload_n (j := 1) dX12_tests_157 rfl rfl ?_
          refine X_get (j := 0) fo_X12_84 dX12_tests_158 rfl rfl ?_
          refine X_iload_n (j := 2) dX12_tests_161 rfl rfl ?_
          refine X_bipush (v := 20) dX12_tests_162 (by decide) ?_
          refine X_iast (j := 2) (g := upd sb d 20) (cs' := [(m, ex_o 12 [ex_i x0, ex_i x1, ex_r x2, ex_i x3, ex_i x4, ex_i x5, ex_i x6, ex_j x7, ex_i x8, ex_i x9, ex_r x10, ex_r x11, ex_r x12, ex_r x13, ex_r x14, ex_r x15, ex_r x16, ex_r x17, ex_r x18, ex_r x19, ex_r x20, ex_r x21, ex_r x22, ex_r x23, ex_r x24, ex_r x25, ex_i x26, ex_i x27, ex_r x28, ex_r x29, ex_r x30, ex_r x31, ex_r x32, ex_r x33, ex_r x34, ex_r x35, ex_r x36, ex_r x37, ex_r x38, ex_r x39, ex_i x40, ex_j x41, ex_r x42, ex_r x43, ex_r x44, ex_r x45, ex_r x46, ex_r x47, ex_r x48, ex_r x49, ex_r x50, ex_r x51, ex_r x52, ex_r x53, ex_i x54, ex_i x55, ex_i x56, ex_i x57, ex_r x58, ex_r x59, ex_r x60, ex_r x61, ex_i x62, ex_r x63, ex_r x64, ex_i x65, ex_j x66]), (x34, ex_a 1 7 (upd w_1.1 d 0)), (x35, ex_a 1 7 (upd sb d 20)), (x36, ex_a 1 7 te), (x37, ex_a 1 7 w_1.2), (x30, ex_a 1 7 (upd kp d 1)), (x31, ex_a 1 7 kb), (x32, ex_a 1 7 ah), (x33, ex_a 1 7 (upd ag d 0))]) dX12_tests_164 rfl (vp_in_nI (show d < 7 by omega) (by decide)) (by rw [nI_clamp (by omega)]) rfl ?_
          try dsimp only at hV
          refine X_re (cs' := [(m, ex_o 12 [ex_i x0, ex_i x1, ex_r x2, ex_i x3, ex_i x4, ex_i x5, ex_i x6, ex_j x7, ex_i x8, ex_i x9, ex_r x10, ex_r x11, ex_r x12, ex_r x13, ex_r x14, ex_r x15, ex_r x16, ex_r x17, ex_r x18, ex_r x19, ex_r x20, ex_r x21, ex_r x22, ex_r x23, ex_r x24, ex_r x25, ex_i x26, ex_i x27, ex_r x28, ex_r x29, ex_r x30, ex_r x31, ex_r x32, ex_r x33, ex_r x34, ex_r x35, ex_r x36, ex_r x37, ex_r x38, ex_r x39, ex_i x40, ex_j x41, ex_r x42, ex_r x43, ex_r x44, ex_r x45, ex_r x46, ex_r x47, ex_r x48, ex_r x49, ex_r x50, ex_r x51, ex_r x52, ex_r x53, ex_i x54, ex_i x55, ex_i x56, ex_i x57, ex_r x58, ex_r x59, ex_r x60, ex_r x61, ex_i x62, ex_r x63, ex_r x64, ex_i x65, ex_j x66]), (x30, ex_a 1 7 (upd kp d 1)), (x31, ex_a 1 7 kb), (x32, ex_a 1 7 ah), (x33, ex_a 1 7 (upd ag d 0)), (x34, ex_a 1 7 (upd w_1.1 d 0)), (x35, ex_a 1 7 (upd sb d 20)), (x36, ex_a 1 7 te), (x37, ex_a 1 7 w_1.2)]) [0, 5, 6, 7, 8, 1, 2, 3, 4] (show List.Perm [0, 5, 6, 7, 8, 1, 2, 3, 4] (List.range 9) from by decide) rfl ?_
          exact X_vret dX12_tests_165 (by (repeat refine ex_kc ?_) <;> rfl) (by subst hV; exact ⟨rfl, rfl⟩)
        · have hV := hV.trans (if_pos c_25)
          refine X_aload_n (j := 1) dX12_tests_117 rfl rfl ?_
          refine X_get (j := 0) fo_X12_69 dX12_tests_118 rfl rfl ?_
          refine X_iload_n (j := 2) dX12_tests_121 rfl rfl ?_
          refine X_iald (j := 5) (v := (kp d)) dX12_tests_122 rfl (vp_in_nI (show d < 7 by omega) (by decide)) (by rw [nI_clamp (by omega)]) ?_
          refine X_if_ne (tgt := 130) dX12_tests_123 (by decide) (fun c_26 => ?_) (fun c_26 => ?_)
          · have hV := hV.trans (if_neg c_26)
            refine X_iconst (v := 1) dX12_tests_130 (by decide) ?_
            refine X_goto (tgt := 135) dX12_tests_131 (by decide) ?_
            refine X_istore_n (lv' := [(2, ex_i 1), (0, ex_r m), (1, ex_i (nI d))]) dX12_tests_135 rfl (Nat.le_of_ble_eq_true rfl) rfl ?_
            refine X_aload_n (j := 1) dX12_tests_136 rfl rfl ?_
            refine X_get (j := 0) fo_X12_69 dX12_tests_137 rfl rfl ?_
            refine X_iload_n (j := 2) dX12_tests_140 rfl rfl ?_
            refine X_iload_n (j := 0) dX12_tests_141 rfl rfl ?_
            refine X_iast (j := 5) (g := upd kp d 1) (cs' := [(m, ex_o 12 [ex_i x0, ex_i x1, ex_r x2, ex_i x3, ex_i x4, ex_i x5, ex_i x6, ex_j x7, ex_i x8, ex_i x9, ex_r x10, ex_r x11, ex_r x12, ex_r x13, ex_r x14, ex_r x15, ex_r x16, ex_r x17, ex_r x18, ex_r x19, ex_r x20, ex_r x21, ex_r x22, ex_r x23, ex_r x24, ex_r x25, ex_i x26, ex_i x27, ex_r x28, ex_r x29, ex_r x30, ex_r x31, ex_r x32, ex_r x33, ex_r x34, ex_r x35, ex_r x36, ex_r x37, ex_r x38, ex_r x39, ex_i x40, ex_j x41, ex_r x42, ex_r x43, ex_r x44, ex_r x45, ex_r x46, ex_r x47, ex_r x48, ex_r x49, ex_r x50, ex_r x51, ex_r x52, ex_r x53, ex_i x54, ex_i x55, ex_i x56, ex_i x57, ex_r x58, ex_r x59, ex_r x60, ex_r x61, ex_i x62, ex_r x63, ex_r x64, ex_i x65, ex_j x66]), (x34, ex_a 1 7 w_1.1), (x35, ex_a 1 7 sb), (x36, ex_a 1 7 te), (x37, ex_a 1 7 w_1.2), (x30, ex_a 1 7 (upd kp d 1)), (x31, ex_a 1 7 kb), (x32, ex_a 1 7 ah), (x33, ex_a 1 7 ag)]) dX12_tests_142 rfl (vp_in_nI (show d < 7 by omega) (by decide)) (by rw [nI_clamp (by omega)]) rfl ?_
            refine X_aload_n (j := 1) dX12_tests_143 rfl rfl ?_
            refine X_get (j := 0) fo_X12_78 dX12_tests_144 rfl rfl ?_
            refine X_iload_n (j := 2) dX12_tests_147 rfl rfl ?_
            refine X_iconst (v := 0) dX12_tests_148 (by decide) ?_
            refine X_iast (j := 8) (g := upd ag d 0) (cs' := [(m, ex_o 12 [ex_i x0, ex_i x1, ex_r x2, ex_i x3, ex_i x4, ex_i x5, ex_i x6, ex_j x7, ex_i x8, ex_i x9, ex_r x10, ex_r x11, ex_r x12, ex_r x13, ex_r x14, ex_r x15, ex_r x16, ex_r x17, ex_r x18, ex_r x19, ex_r x20, ex_r x21, ex_r x22, ex_r x23, ex_r x24, ex_r x25, ex_i x26, ex_i x27, ex_r x28, ex_r x29, ex_r x30, ex_r x31, ex_r x32, ex_r x33, ex_r x34, ex_r x35, ex_r x36, ex_r x37, ex_r x38, ex_r x39, ex_i x40, ex_j x41, ex_r x42, ex_r x43, ex_r x44, ex_r x45, ex_r x46, ex_r x47, ex_r x48, ex_r x49, ex_r x50, ex_r x51, ex_r x52, ex_r x53, ex_i x54, ex_i x55, ex_i x56, ex_i x57, ex_r x58, ex_r x59, ex_r x60, ex_r x61, ex_i x62, ex_r x63, ex_r x64, ex_i x65, ex_j x66]), (x34, ex_a 1 7 w_1.1), (x35, ex_a 1 7 sb), (x36, ex_a 1 7 te), (x37, ex_a 1 7 w_1.2), (x30, ex_a 1 7 (upd kp d 1)), (x31, ex_a 1 7 kb), (x32, ex_a 1 7 ah), (x33, ex_a 1 7 (upd ag d 0))]) dX12_tests_149 rfl (vp_in_nI (show d < 7 by omega) (by decide)) (by rw [nI_clamp (by omega)]) rfl ?_
            refine X_aload_n (j := 1) dX12_tests_150 rfl rfl ?_
            refine X_get (j := 0) fo_X12_81 dX12_tests_151 rfl rfl ?_
            refine X_iload_n (j := 2) dX12_tests_154 rfl rfl ?_
            refine X_iconst (v := 0) dX12_tests_155 (by decide) ?_
            refine X_iast (j := 1) (g := upd w_1.1 d 0) (cs' := [(m, ex_o 12 [ex_i x0, ex_i x1, ex_r x2, ex_i x3, ex_i x4, ex_i x5, ex_i x6, ex_j x7, ex_i x8, ex_i x9, ex_r x10, ex_r x11, ex_r x12, ex_r x13, ex_r x14, ex_r x15, ex_r x16, ex_r x17, ex_r x18, ex_r x19, ex_r x20, ex_r x21, ex_r x22, ex_r x23, ex_r x24, ex_r x25, ex_i x26, ex_i x27, ex_r x28, ex_r x29, ex_r x30, ex_r x31, ex_r x32, ex_r x33, ex_r x34, ex_r x35, ex_r x36, ex_r x37, ex_r x38, ex_r x39, ex_i x40, ex_j x41, ex_r x42, ex_r x43, ex_r x44, ex_r x45, ex_r x46, ex_r x47, ex_r x48, ex_r x49, ex_r x50, ex_r x51, ex_r x52, ex_r x53, ex_i x54, ex_i x55, ex_i x56, ex_i x57, ex_r x58, ex_r x59, ex_r x60, ex_r x61, ex_i x62, ex_r x63, ex_r x64, ex_i x65, ex_j x66]), (x34, ex_a 1 7 (upd w_1.1 d 0)), (x35, ex_a 1 7 sb), (x36, ex_a 1 7 te), (x37, ex_a 1 7 w_1.2), (x30, ex_a 1 7 (upd kp d 1)), (x31, ex_a 1 7 kb), (x32, ex_a 1 7 ah), (x33, ex_a 1 7 (upd ag d 0))]) dX12_tests_156 rfl (vp_in_nI (show d < 7 by omega) (by decide)) (by rw [nI_clamp (by omega)]) rfl ?_
            refine X_aload_n (j := 1) dX12_tests_157 rfl rfl ?_
            refine X_get (j := 0) fo_X12_84 dX12_tests_158 rfl rfl ?_
            refine X_iload_n (j := 2) dX12_tests_161 rfl rfl ?_
            refine X_bipush (v := 20) dX12_tests_162 (by decide) ?_
            refine X_iast (j := 2) (g := upd sb d 20) (cs' := [(m, ex_o 12 [ex_i x0, ex_i x1, ex_r x2, ex_i x3, ex_i x4, ex_i x5, ex_i x6, ex_j x7, ex_i x8, ex_i x9, ex_r x10, ex_r x11, ex_r x12, ex_r x13, ex_r x14, ex_r x15, ex_r x16, ex_r x17, ex_r x18, ex_r x19, ex_r x20, ex_r x21, ex_r x22, ex_r x23, ex_r x24, ex_r x25, ex_i x26, ex_i x27, ex_r x28, ex_r x29, ex_r x30, ex_r x31, ex_r x32, ex_r x33, ex_r x34, ex_r x35, ex_r x36, ex_r x37, ex_r x38, ex_r x39, ex_i x40, ex_j x41, ex_r x42, ex_r x43, ex_r x44, ex_r x45, ex_r x46, ex_r x47, ex_r x48, ex_r x49, ex_r x50, ex_r x51, ex_r x52, ex_r x53, ex_i x54, ex_i x55, ex_i x56, ex_i x57, ex_r x58, ex_r x59, ex_r x60, ex_r x61, ex_i x62, ex_r x63, ex_r x64, ex_i x65, ex_j x66]), (x34, ex_a 1 7 (upd w_1.1 d 0)), (x35, ex_a 1 7 (upd sb d 20)), (x36, ex_a 1 7 te), (x37, ex_a 1 7 w_1.2), (x30, ex_a 1 7 (upd kp d 1)), (x31, ex_a 1 7 kb), (x32, ex_a 1 7 ah), (x33, ex_a 1 7 (upd ag d 0))]) dX12_tests_164 rfl (vp_in_nI (show d < 7 by omega) (by decide)) (by rw [nI_clamp (by omega)]) rfl ?_
            try dsimp only at hV
            refine X_re (cs' := [(m, ex_o 12 [ex_i x0, ex_i x1, ex_r x2, ex_i x3, ex_i x4, ex_i x5, ex_i x6, ex_j x7, ex_i x8, ex_i x9, ex_r x10, ex_r x11, ex_r x12, ex_r x13, ex_r x14, ex_r x15, ex_r x16, ex_r x17, ex_r x18, ex_r x19, ex_r x20, ex_r x21, ex_r x22, ex_r x23, ex_r x24, ex_r x25, ex_i x26, ex_i x27, ex_r x28, ex_r x29, ex_r x30, ex_r x31, ex_r x32, ex_r x33, ex_r x34, ex_r x35, ex_r x36, ex_r x37, ex_r x38, ex_r x39, ex_i x40, ex_j x41, ex_r x42, ex_r x43, ex_r x44, ex_r x45, ex_r x46, ex_r x47, ex_r x48, ex_r x49, ex_r x50, ex_r x51, ex_r x52, ex_r x53, ex_i x54, ex_i x55, ex_i x56, ex_i x57, ex_r x58, ex_r x59, ex_r x60, ex_r x61, ex_i x62, ex_r x63, ex_r x64, ex_i x65, ex_j x66]), (x30, ex_a 1 7 (upd kp d 1)), (x31, ex_a 1 7 kb), (x32, ex_a 1 7 ah), (x33, ex_a 1 7 (upd ag d 0)), (x34, ex_a 1 7 (upd w_1.1 d 0)), (x35, ex_a 1 7 (upd sb d 20)), (x36, ex_a 1 7 te), (x37, ex_a 1 7 w_1.2)]) [0, 5, 6, 7, 8, 1, 2, 3, 4] (show List.Perm [0, 5, 6, 7, 8, 1, 2, 3, 4] (List.range 9) from by decide) rfl ?_
            exact X_vret dX12_tests_165 (by (repeat refine ex_kc ?_) <;> rfl) (by subst hV; exact ⟨rfl, rfl⟩)
          · have hV := hV.trans (if_pos c_26)
            refine X_iload_n (j := 0) dX12_tests_126 rfl rfl ?_
            refine X_if_eq (tgt := 134) dX12_tests_127 (by decide) (fun c_ => absurd c_ (by decide)) (fun _ => ?_)
            refine X_iconst (v := 1) dX12_tests_130 (by decide) ?_
            refine X_goto (tgt := 135) dX12_tests_131 (by decide) ?_
            refine X_istore_n (lv' := [(2, ex_i 1), (0, ex_r m), (1, ex_i (nI d))]) dX12_tests_135 rfl (Nat.le_of_ble_eq_true rfl) rfl ?_
            refine X_aload_n (j := 1) dX12_tests_136 rfl rfl ?_
            refine X_get (j := 0) fo_X12_69 dX12_tests_137 rfl rfl ?_
            refine X_iload_n (j := 2) dX12_tests_140 rfl rfl ?_
            refine X_iload_n (j := 0) dX12_tests_141 rfl rfl ?_
            refine X_iast (j := 5) (g := upd kp d 1) (cs' := [(m, ex_o 12 [ex_i x0, ex_i x1, ex_r x2, ex_i x3, ex_i x4, ex_i x5, ex_i x6, ex_j x7, ex_i x8, ex_i x9, ex_r x10, ex_r x11, ex_r x12, ex_r x13, ex_r x14, ex_r x15, ex_r x16, ex_r x17, ex_r x18, ex_r x19, ex_r x20, ex_r x21, ex_r x22, ex_r x23, ex_r x24, ex_r x25, ex_i x26, ex_i x27, ex_r x28, ex_r x29, ex_r x30, ex_r x31, ex_r x32, ex_r x33, ex_r x34, ex_r x35, ex_r x36, ex_r x37, ex_r x38, ex_r x39, ex_i x40, ex_j x41, ex_r x42, ex_r x43, ex_r x44, ex_r x45, ex_r x46, ex_r x47, ex_r x48, ex_r x49, ex_r x50, ex_r x51, ex_r x52, ex_r x53, ex_i x54, ex_i x55, ex_i x56, ex_i x57, ex_r x58, ex_r x59, ex_r x60, ex_r x61, ex_i x62, ex_r x63, ex_r x64, ex_i x65, ex_j x66]), (x34, ex_a 1 7 w_1.1), (x35, ex_a 1 7 sb), (x36, ex_a 1 7 te), (x37, ex_a 1 7 w_1.2), (x30, ex_a 1 7 (upd kp d 1)), (x31, ex_a 1 7 kb), (x32, ex_a 1 7 ah), (x33, ex_a 1 7 ag)]) dX12_tests_142 rfl (vp_in_nI (show d < 7 by omega) (by decide)) (by rw [nI_clamp (by omega)]) rfl ?_
            refine X_aload_n (j := 1) dX12_tests_143 rfl rfl ?_
            refine X_get (j := 0) fo_X12_78 dX12_tests_144 rfl rfl ?_
            refine X_iload_n (j := 2) dX12_tests_147 rfl rfl ?_
            refine X_iconst (v := 0) dX12_tests_148 (by decide) ?_
            refine X_iast (j := 8) (g := upd ag d 0) (cs' := [(m, ex_o 12 [ex_i x0, ex_i x1, ex_r x2, ex_i x3, ex_i x4, ex_i x5, ex_i x6, ex_j x7, ex_i x8, ex_i x9, ex_r x10, ex_r x11, ex_r x12, ex_r x13, ex_r x14, ex_r x15, ex_r x16, ex_r x17, ex_r x18, ex_r x19, ex_r x20, ex_r x21, ex_r x22, ex_r x23, ex_r x24, ex_r x25, ex_i x26, ex_i x27, ex_r x28, ex_r x29, ex_r x30, ex_r x31, ex_r x32, ex_r x33, ex_r x34, ex_r x35, ex_r x36, ex_r x37, ex_r x38, ex_r x39, ex_i x40, ex_j x41, ex_r x42, ex_r x43, ex_r x44, ex_r x45, ex_r x46, ex_r x47, ex_r x48, ex_r x49, ex_r x50, ex_r x51, ex_r x52, ex_r x53, ex_i x54, ex_i x55, ex_i x56, ex_i x57, ex_r x58, ex_r x59, ex_r x60, ex_r x61, ex_i x62, ex_r x63, ex_r x64, ex_i x65, ex_j x66]), (x34, ex_a 1 7 w_1.1), (x35, ex_a 1 7 sb), (x36, ex_a 1 7 te), (x37, ex_a 1 7 w_1.2), (x30, ex_a 1 7 (upd kp d 1)), (x31, ex_a 1 7 kb), (x32, ex_a 1 7 ah), (x33, ex_a 1 7 (upd ag d 0))]) dX12_tests_149 rfl (vp_in_nI (show d < 7 by omega) (by decide)) (by rw [nI_clamp (by omega)]) rfl ?_
            refine X_aload_n (j := 1) dX12_tests_150 rfl rfl ?_
            refine X_get (j := 0) fo_X12_81 dX12_tests_151 rfl rfl ?_
            refine X_iload_n (j := 2) dX12_tests_154 rfl rfl ?_
            refine X_iconst (v := 0) dX12_tests_155 (by decide) ?_
            refine X_iast (j := 1) (g := upd w_1.1 d 0) (cs' := [(m, ex_o 12 [ex_i x0, ex_i x1, ex_r x2, ex_i x3, ex_i x4, ex_i x5, ex_i x6, ex_j x7, ex_i x8, ex_i x9, ex_r x10, ex_r x11, ex_r x12, ex_r x13, ex_r x14, ex_r x15, ex_r x16, ex_r x17, ex_r x18, ex_r x19, ex_r x20, ex_r x21, ex_r x22, ex_r x23, ex_r x24, ex_r x25, ex_i x26, ex_i x27, ex_r x28, ex_r x29, ex_r x30, ex_r x31, ex_r x32, ex_r x33, ex_r x34, ex_r x35, ex_r x36, ex_r x37, ex_r x38, ex_r x39, ex_i x40, ex_j x41, ex_r x42, ex_r x43, ex_r x44, ex_r x45, ex_r x46, ex_r x47, ex_r x48, ex_r x49, ex_r x50, ex_r x51, ex_r x52, ex_r x53, ex_i x54, ex_i x55, ex_i x56, ex_i x57, ex_r x58, ex_r x59, ex_r x60, ex_r x61, ex_i x62, ex_r x63, ex_r x64, ex_i x65, ex_j x66]), (x34, ex_a 1 7 (upd w_1.1 d 0)), (x35, ex_a 1 7 sb), (x36, ex_a 1 7 te), (x37, ex_a 1 7 w_1.2), (x30, ex_a 1 7 (upd kp d 1)), (x31, ex_a 1 7 kb), (x32, ex_a 1 7 ah), (x33, ex_a 1 7 (upd ag d 0))]) dX12_tests_156 rfl (vp_in_nI (show d < 7 by omega) (by decide)) (by rw [nI_clamp (by omega)]) rfl ?_
            refine X_aload_n (j := 1) dX12_tests_157 rfl rfl ?_
            refine X_get (j := 0) fo_X12_84 dX12_tests_158 rfl rfl ?_
            refine X_iload_n (j := 2) dX12_tests_161 rfl rfl ?_
            refine X_bipush (v := 20) dX12_tests_162 (by decide) ?_
            refine X_iast (j := 2) (g := upd sb d 20) (cs' := [(m, ex_o 12 [ex_i x0, ex_i x1, ex_r x2, ex_i x3, ex_i x4, ex_i x5, ex_i x6, ex_j x7, ex_i x8, ex_i x9, ex_r x10, ex_r x11, ex_r x12, ex_r x13, ex_r x14, ex_r x15, ex_r x16, ex_r x17, ex_r x18, ex_r x19, ex_r x20, ex_r x21, ex_r x22, ex_r x23, ex_r x24, ex_r x25, ex_i x26, ex_i x27, ex_r x28, ex_r x29, ex_r x30, ex_r x31, ex_r x32, ex_r x33, ex_r x34, ex_r x35, ex_r x36, ex_r x37, ex_r x38, ex_r x39, ex_i x40, ex_j x41, ex_r x42, ex_r x43, ex_r x44, ex_r x45, ex_r x46, ex_r x47, ex_r x48, ex_r x49, ex_r x50, ex_r x51, ex_r x52, ex_r x53, ex_i x54, ex_i x55, ex_i x56, ex_i x57, ex_r x58, ex_r x59, ex_r x60, ex_r x61, ex_i x62, ex_r x63, ex_r x64, ex_i x65, ex_j x66]), (x34, ex_a 1 7 (upd w_1.1 d 0)), (x35, ex_a 1 7 (upd sb d 20)), (x36, ex_a 1 7 te), (x37, ex_a 1 7 w_1.2), (x30, ex_a 1 7 (upd kp d 1)), (x31, ex_a 1 7 kb), (x32, ex_a 1 7 ah), (x33, ex_a 1 7 (upd ag d 0))]) dX12_tests_164 rfl (vp_in_nI (show d < 7 by omega) (by decide)) (by rw [nI_clamp (by omega)]) rfl ?_
            try dsimp only at hV
            refine X_re (cs' := [(m, ex_o 12 [ex_i x0, ex_i x1, ex_r x2, ex_i x3, ex_i x4, ex_i x5, ex_i x6, ex_j x7, ex_i x8, ex_i x9, ex_r x10, ex_r x11, ex_r x12, ex_r x13, ex_r x14, ex_r x15, ex_r x16, ex_r x17, ex_r x18, ex_r x19, ex_r x20, ex_r x21, ex_r x22, ex_r x23, ex_r x24, ex_r x25, ex_i x26, ex_i x27, ex_r x28, ex_r x29, ex_r x30, ex_r x31, ex_r x32, ex_r x33, ex_r x34, ex_r x35, ex_r x36, ex_r x37, ex_r x38, ex_r x39, ex_i x40, ex_j x41, ex_r x42, ex_r x43, ex_r x44, ex_r x45, ex_r x46, ex_r x47, ex_r x48, ex_r x49, ex_r x50, ex_r x51, ex_r x52, ex_r x53, ex_i x54, ex_i x55, ex_i x56, ex_i x57, ex_r x58, ex_r x59, ex_r x60, ex_r x61, ex_i x62, ex_r x63, ex_r x64, ex_i x65, ex_j x66]), (x30, ex_a 1 7 (upd kp d 1)), (x31, ex_a 1 7 kb), (x32, ex_a 1 7 ah), (x33, ex_a 1 7 (upd ag d 0)), (x34, ex_a 1 7 (upd w_1.1 d 0)), (x35, ex_a 1 7 (upd sb d 20)), (x36, ex_a 1 7 te), (x37, ex_a 1 7 w_1.2)]) [0, 5, 6, 7, 8, 1, 2, 3, 4] (show List.Perm [0, 5, 6, 7, 8, 1, 2, 3, 4] (List.range 9) from by decide) rfl ?_
            exact X_vret dX12_tests_165 (by (repeat refine ex_kc ?_) <;> rfl) (by subst hV; exact ⟨rfl, rfl⟩)
      · have hV := hV.trans (if_pos c_24)
        refine X_aload_n (j := 1) dX12_tests_87 rfl rfl ?_
        refine X_get (j := 0) fo_X12_69 dX12_tests_88 rfl rfl ?_
        refine X_iload_n (j := 2) dX12_tests_91 rfl rfl ?_
        refine X_iald (j := 5) (v := (kp d)) dX12_tests_92 rfl (vp_in_nI (show d < 7 by omega) (by decide)) (by rw [nI_clamp (by omega)]) ?_
        refine X_if_eq (tgt := 104) dX12_tests_93 (by decide) (fun c_27 => ?_) (fun c_27 => ?_)
        · have hV := hV.trans (if_pos c_27)
          refine X_iconst (v := 0) dX12_tests_104 (by decide) ?_
          refine X_istore_n (lv' := [(2, ex_i 0), (0, ex_r m), (1, ex_i (nI d))]) dX12_tests_105 rfl (Nat.le_of_ble_eq_true rfl) rfl ?_
          refine X_aload_n (j := 1) dX12_tests_106 rfl rfl ?_
          refine X_get (j := 0) fo_X12_72 dX12_tests_107 rfl rfl ?_
          refine X_iload_n (j := 2) dX12_tests_110 rfl rfl ?_
          refine X_iald (j := 6) (v := (kb d)) dX12_tests_111 rfl (vp_in_nI (show d < 7 by omega) (by decide)) (by rw [nI_clamp (by omega)]) ?_
          refine X_bipush (v := 27) dX12_tests_112 (by decide) ?_
          refine X_icmp_ne (tgt := 136) dX12_tests_114 (by decide) (fun _ => ?_) (fun c_ => absurd c_ (by have q0 := c_24; simp only [lt_ti, le_ti, eq_ti, ti_26, ti_27] at q0 ⊢; omega))
          refine X_aload_n (j := 1) dX12_tests_136 rfl rfl ?_
          refine X_get (j := 0) fo_X12_69 dX12_tests_137 rfl rfl ?_
          refine X_iload_n (j := 2) dX12_tests_140 rfl rfl ?_
          refine X_iload_n (j := 0) dX12_tests_141 rfl rfl ?_
          refine X_iast (j := 5) (g := upd kp d 0) (cs' := [(m, ex_o 12 [ex_i x0, ex_i x1, ex_r x2, ex_i x3, ex_i x4, ex_i x5, ex_i x6, ex_j x7, ex_i x8, ex_i x9, ex_r x10, ex_r x11, ex_r x12, ex_r x13, ex_r x14, ex_r x15, ex_r x16, ex_r x17, ex_r x18, ex_r x19, ex_r x20, ex_r x21, ex_r x22, ex_r x23, ex_r x24, ex_r x25, ex_i x26, ex_i x27, ex_r x28, ex_r x29, ex_r x30, ex_r x31, ex_r x32, ex_r x33, ex_r x34, ex_r x35, ex_r x36, ex_r x37, ex_r x38, ex_r x39, ex_i x40, ex_j x41, ex_r x42, ex_r x43, ex_r x44, ex_r x45, ex_r x46, ex_r x47, ex_r x48, ex_r x49, ex_r x50, ex_r x51, ex_r x52, ex_r x53, ex_i x54, ex_i x55, ex_i x56, ex_i x57, ex_r x58, ex_r x59, ex_r x60, ex_r x61, ex_i x62, ex_r x63, ex_r x64, ex_i x65, ex_j x66]), (x34, ex_a 1 7 w_1.1), (x35, ex_a 1 7 sb), (x36, ex_a 1 7 te), (x37, ex_a 1 7 w_1.2), (x30, ex_a 1 7 (upd kp d 0)), (x31, ex_a 1 7 kb), (x32, ex_a 1 7 ah), (x33, ex_a 1 7 ag)]) dX12_tests_142 rfl (vp_in_nI (show d < 7 by omega) (by decide)) (by rw [nI_clamp (by omega)]) rfl ?_
          refine X_aload_n (j := 1) dX12_tests_143 rfl rfl ?_
          refine X_get (j := 0) fo_X12_78 dX12_tests_144 rfl rfl ?_
          refine X_iload_n (j := 2) dX12_tests_147 rfl rfl ?_
          refine X_iconst (v := 0) dX12_tests_148 (by decide) ?_
          refine X_iast (j := 8) (g := upd ag d 0) (cs' := [(m, ex_o 12 [ex_i x0, ex_i x1, ex_r x2, ex_i x3, ex_i x4, ex_i x5, ex_i x6, ex_j x7, ex_i x8, ex_i x9, ex_r x10, ex_r x11, ex_r x12, ex_r x13, ex_r x14, ex_r x15, ex_r x16, ex_r x17, ex_r x18, ex_r x19, ex_r x20, ex_r x21, ex_r x22, ex_r x23, ex_r x24, ex_r x25, ex_i x26, ex_i x27, ex_r x28, ex_r x29, ex_r x30, ex_r x31, ex_r x32, ex_r x33, ex_r x34, ex_r x35, ex_r x36, ex_r x37, ex_r x38, ex_r x39, ex_i x40, ex_j x41, ex_r x42, ex_r x43, ex_r x44, ex_r x45, ex_r x46, ex_r x47, ex_r x48, ex_r x49, ex_r x50, ex_r x51, ex_r x52, ex_r x53, ex_i x54, ex_i x55, ex_i x56, ex_i x57, ex_r x58, ex_r x59, ex_r x60, ex_r x61, ex_i x62, ex_r x63, ex_r x64, ex_i x65, ex_j x66]), (x34, ex_a 1 7 w_1.1), (x35, ex_a 1 7 sb), (x36, ex_a 1 7 te), (x37, ex_a 1 7 w_1.2), (x30, ex_a 1 7 (upd kp d 0)), (x31, ex_a 1 7 kb), (x32, ex_a 1 7 ah), (x33, ex_a 1 7 (upd ag d 0))]) dX12_tests_149 rfl (vp_in_nI (show d < 7 by omega) (by decide)) (by rw [nI_clamp (by omega)]) rfl ?_
          refine X_aload_n (j := 1) dX12_tests_150 rfl rfl ?_
          refine X_get (j := 0) fo_X12_81 dX12_tests_151 rfl rfl ?_
          refine X_iload_n (j := 2) dX12_tests_154 rfl rfl ?_
          refine X_iconst (v := 0) dX12_tests_155 (by decide) ?_
          refine X_iast (j := 1) (g := upd w_1.1 d 0) (cs' := [(m, ex_o 12 [ex_i x0, ex_i x1, ex_r x2, ex_i x3, ex_i x4, ex_i x5, ex_i x6, ex_j x7, ex_i x8, ex_i x9, ex_r x10, ex_r x11, ex_r x12, ex_r x13, ex_r x14, ex_r x15, ex_r x16, ex_r x17, ex_r x18, ex_r x19, ex_r x20, ex_r x21, ex_r x22, ex_r x23, ex_r x24, ex_r x25, ex_i x26, ex_i x27, ex_r x28, ex_r x29, ex_r x30, ex_r x31, ex_r x32, ex_r x33, ex_r x34, ex_r x35, ex_r x36, ex_r x37, ex_r x38, ex_r x39, ex_i x40, ex_j x41, ex_r x42, ex_r x43, ex_r x44, ex_r x45, ex_r x46, ex_r x47, ex_r x48, ex_r x49, ex_r x50, ex_r x51, ex_r x52, ex_r x53, ex_i x54, ex_i x55, ex_i x56, ex_i x57, ex_r x58, ex_r x59, ex_r x60, ex_r x61, ex_i x62, ex_r x63, ex_r x64, ex_i x65, ex_j x66]), (x34, ex_a 1 7 (upd w_1.1 d 0)), (x35, ex_a 1 7 sb), (x36, ex_a 1 7 te), (x37, ex_a 1 7 w_1.2), (x30, ex_a 1 7 (upd kp d 0)), (x31, ex_a 1 7 kb), (x32, ex_a 1 7 ah), (x33, ex_a 1 7 (upd ag d 0))]) dX12_tests_156 rfl (vp_in_nI (show d < 7 by omega) (by decide)) (by rw [nI_clamp (by omega)]) rfl ?_
          refine X_aload_n (j := 1) dX12_tests_157 rfl rfl ?_
          refine X_get (j := 0) fo_X12_84 dX12_tests_158 rfl rfl ?_
          refine X_iload_n (j := 2) dX12_tests_161 rfl rfl ?_
          refine X_bipush (v := 20) dX12_tests_162 (by decide) ?_
          refine X_iast (j := 2) (g := upd sb d 20) (cs' := [(m, ex_o 12 [ex_i x0, ex_i x1, ex_r x2, ex_i x3, ex_i x4, ex_i x5, ex_i x6, ex_j x7, ex_i x8, ex_i x9, ex_r x10, ex_r x11, ex_r x12, ex_r x13, ex_r x14, ex_r x15, ex_r x16, ex_r x17, ex_r x18, ex_r x19, ex_r x20, ex_r x21, ex_r x22, ex_r x23, ex_r x24, ex_r x25, ex_i x26, ex_i x27, ex_r x28, ex_r x29, ex_r x30, ex_r x31, ex_r x32, ex_r x33, ex_r x34, ex_r x35, ex_r x36, ex_r x37, ex_r x38, ex_r x39, ex_i x40, ex_j x41, ex_r x42, ex_r x43, ex_r x44, ex_r x45, ex_r x46, ex_r x47, ex_r x48, ex_r x49, ex_r x50, ex_r x51, ex_r x52, ex_r x53, ex_i x54, ex_i x55, ex_i x56, ex_i x57, ex_r x58, ex_r x59, ex_r x60, ex_r x61, ex_i x62, ex_r x63, ex_r x64, ex_i x65, ex_j x66]), (x34, ex_a 1 7 (upd w_1.1 d 0)), (x35, ex_a 1 7 (upd sb d 20)), (x36, ex_a 1 7 te), (x37, ex_a 1 7 w_1.2), (x30, ex_a 1 7 (upd kp d 0)), (x31, ex_a 1 7 kb), (x32, ex_a 1 7 ah), (x33, ex_a 1 7 (upd ag d 0))]) dX12_tests_164 rfl (vp_in_nI (show d < 7 by omega) (by decide)) (by rw [nI_clamp (by omega)]) rfl ?_
          try dsimp only at hV
          refine X_re (cs' := [(m, ex_o 12 [ex_i x0, ex_i x1, ex_r x2, ex_i x3, ex_i x4, ex_i x5, ex_i x6, ex_j x7, ex_i x8, ex_i x9, ex_r x10, ex_r x11, ex_r x12, ex_r x13, ex_r x14, ex_r x15, ex_r x16, ex_r x17, ex_r x18, ex_r x19, ex_r x20, ex_r x21, ex_r x22, ex_r x23, ex_r x24, ex_r x25, ex_i x26, ex_i x27, ex_r x28, ex_r x29, ex_r x30, ex_r x31, ex_r x32, ex_r x33, ex_r x34, ex_r x35, ex_r x36, ex_r x37, ex_r x38, ex_r x39, ex_i x40, ex_j x41, ex_r x42, ex_r x43, ex_r x44, ex_r x45, ex_r x46, ex_r x47, ex_r x48, ex_r x49, ex_r x50, ex_r x51, ex_r x52, ex_r x53, ex_i x54, ex_i x55, ex_i x56, ex_i x57, ex_r x58, ex_r x59, ex_r x60, ex_r x61, ex_i x62, ex_r x63, ex_r x64, ex_i x65, ex_j x66]), (x30, ex_a 1 7 (upd kp d 0)), (x31, ex_a 1 7 kb), (x32, ex_a 1 7 ah), (x33, ex_a 1 7 (upd ag d 0)), (x34, ex_a 1 7 (upd w_1.1 d 0)), (x35, ex_a 1 7 (upd sb d 20)), (x36, ex_a 1 7 te), (x37, ex_a 1 7 w_1.2)]) [0, 5, 6, 7, 8, 1, 2, 3, 4] (show List.Perm [0, 5, 6, 7, 8, 1, 2, 3, 4] (List.range 9) from by decide) rfl ?_
          exact X_vret dX12_tests_165 (by (repeat refine ex_kc ?_) <;> rfl) (by subst hV; exact ⟨rfl, rfl⟩)
        · have hV := hV.trans (if_neg c_27)
          refine X_iload_n (j := 0) dX12_tests_96 rfl rfl ?_
          refine X_if_eq (tgt := 104) dX12_tests_97 (by decide) (fun c_ => absurd c_ (by decide)) (fun _ => ?_)
          refine X_iconst (v := 1) dX12_tests_100 (by decide) ?_
          refine X_goto (tgt := 105) dX12_tests_101 (by decide) ?_
          refine X_istore_n (lv' := [(2, ex_i 1), (0, ex_r m), (1, ex_i (nI d))]) dX12_tests_105 rfl (Nat.le_of_ble_eq_true rfl) rfl ?_
          refine X_aload_n (j := 1) dX12_tests_106 rfl rfl ?_
          refine X_get (j := 0) fo_X12_72 dX12_tests_107 rfl rfl ?_
          refine X_iload_n (j := 2) dX12_tests_110 rfl rfl ?_
          refine X_iald (j := 6) (v := (kb d)) dX12_tests_111 rfl (vp_in_nI (show d < 7 by omega) (by decide)) (by rw [nI_clamp (by omega)]) ?_
          refine X_bipush (v := 27) dX12_tests_112 (by decide) ?_
          refine X_icmp_ne (tgt := 136) dX12_tests_114 (by decide) (fun _ => ?_) (fun c_ => absurd c_ (by have q0 := c_24; simp only [lt_ti, le_ti, eq_ti, ti_26, ti_27] at q0 ⊢; omega))
          refine X_aload_n (j := 1) dX12_tests_136 rfl rfl ?_
          refine X_get (j := 0) fo_X12_69 dX12_tests_137 rfl rfl ?_
          refine X_iload_n (j := 2) dX12_tests_140 rfl rfl ?_
          refine X_iload_n (j := 0) dX12_tests_141 rfl rfl ?_
          refine X_iast (j := 5) (g := upd kp d 1) (cs' := [(m, ex_o 12 [ex_i x0, ex_i x1, ex_r x2, ex_i x3, ex_i x4, ex_i x5, ex_i x6, ex_j x7, ex_i x8, ex_i x9, ex_r x10, ex_r x11, ex_r x12, ex_r x13, ex_r x14, ex_r x15, ex_r x16, ex_r x17, ex_r x18, ex_r x19, ex_r x20, ex_r x21, ex_r x22, ex_r x23, ex_r x24, ex_r x25, ex_i x26, ex_i x27, ex_r x28, ex_r x29, ex_r x30, ex_r x31, ex_r x32, ex_r x33, ex_r x34, ex_r x35, ex_r x36, ex_r x37, ex_r x38, ex_r x39, ex_i x40, ex_j x41, ex_r x42, ex_r x43, ex_r x44, ex_r x45, ex_r x46, ex_r x47, ex_r x48, ex_r x49, ex_r x50, ex_r x51, ex_r x52, ex_r x53, ex_i x54, ex_i x55, ex_i x56, ex_i x57, ex_r x58, ex_r x59, ex_r x60, ex_r x61, ex_i x62, ex_r x63, ex_r x64, ex_i x65, ex_j x66]), (x34, ex_a 1 7 w_1.1), (x35, ex_a 1 7 sb), (x36, ex_a 1 7 te), (x37, ex_a 1 7 w_1.2), (x30, ex_a 1 7 (upd kp d 1)), (x31, ex_a 1 7 kb), (x32, ex_a 1 7 ah), (x33, ex_a 1 7 ag)]) dX12_tests_142 rfl (vp_in_nI (show d < 7 by omega) (by decide)) (by rw [nI_clamp (by omega)]) rfl ?_
          refine X_aload_n (j := 1) dX12_tests_143 rfl rfl ?_
          refine X_get (j := 0) fo_X12_78 dX12_tests_144 rfl rfl ?_
          refine X_iload_n (j := 2) dX12_tests_147 rfl rfl ?_
          refine X_iconst (v := 0) dX12_tests_148 (by decide) ?_
          refine X_iast (j := 8) (g := upd ag d 0) (cs' := [(m, ex_o 12 [ex_i x0, ex_i x1, ex_r x2, ex_i x3, ex_i x4, ex_i x5, ex_i x6, ex_j x7, ex_i x8, ex_i x9, ex_r x10, ex_r x11, ex_r x12, ex_r x13, ex_r x14, ex_r x15, ex_r x16, ex_r x17, ex_r x18, ex_r x19, ex_r x20, ex_r x21, ex_r x22, ex_r x23, ex_r x24, ex_r x25, ex_i x26, ex_i x27, ex_r x28, ex_r x29, ex_r x30, ex_r x31, ex_r x32, ex_r x33, ex_r x34, ex_r x35, ex_r x36, ex_r x37, ex_r x38, ex_r x39, ex_i x40, ex_j x41, ex_r x42, ex_r x43, ex_r x44, ex_r x45, ex_r x46, ex_r x47, ex_r x48, ex_r x49, ex_r x50, ex_r x51, ex_r x52, ex_r x53, ex_i x54, ex_i x55, ex_i x56, ex_i x57, ex_r x58, ex_r x59, ex_r x60, ex_r x61, ex_i x62, ex_r x63, ex_r x64, ex_i x65, ex_j x66]), (x34, ex_a 1 7 w_1.1), (x35, ex_a 1 7 sb), (x36, ex_a 1 7 te), (x37, ex_a 1 7 w_1.2), (x30, ex_a 1 7 (upd kp d 1)), (x31, ex_a 1 7 kb), (x32, ex_a 1 7 ah), (x33, ex_a 1 7 (upd ag d 0))]) dX12_tests_149 rfl (vp_in_nI (show d < 7 by omega) (by decide)) (by rw [nI_clamp (by omega)]) rfl ?_
          refine X_aload_n (j := 1) dX12_tests_150 rfl rfl ?_
          refine X_get (j := 0) fo_X12_81 dX12_tests_151 rfl rfl ?_
          refine X_iload_n (j := 2) dX12_tests_154 rfl rfl ?_
          refine X_iconst (v := 0) dX12_tests_155 (by decide) ?_
          refine X_iast (j := 1) (g := upd w_1.1 d 0) (cs' := [(m, ex_o 12 [ex_i x0, ex_i x1, ex_r x2, ex_i x3, ex_i x4, ex_i x5, ex_i x6, ex_j x7, ex_i x8, ex_i x9, ex_r x10, ex_r x11, ex_r x12, ex_r x13, ex_r x14, ex_r x15, ex_r x16, ex_r x17, ex_r x18, ex_r x19, ex_r x20, ex_r x21, ex_r x22, ex_r x23, ex_r x24, ex_r x25, ex_i x26, ex_i x27, ex_r x28, ex_r x29, ex_r x30, ex_r x31, ex_r x32, ex_r x33, ex_r x34, ex_r x35, ex_r x36, ex_r x37, ex_r x38, ex_r x39, ex_i x40, ex_j x41, ex_r x42, ex_r x43, ex_r x44, ex_r x45, ex_r x46, ex_r x47, ex_r x48, ex_r x49, ex_r x50, ex_r x51, ex_r x52, ex_r x53, ex_i x54, ex_i x55, ex_i x56, ex_i x57, ex_r x58, ex_r x59, ex_r x60, ex_r x61, ex_i x62, ex_r x63, ex_r x64, ex_i x65, ex_j x66]), (x34, ex_a 1 7 (upd w_1.1 d 0)), (x35, ex_a 1 7 sb), (x36, ex_a 1 7 te), (x37, ex_a 1 7 w_1.2), (x30, ex_a 1 7 (upd kp d 1)), (x31, ex_a 1 7 kb), (x32, ex_a 1 7 ah), (x33, ex_a 1 7 (upd ag d 0))]) dX12_tests_156 rfl (vp_in_nI (show d < 7 by omega) (by decide)) (by rw [nI_clamp (by omega)]) rfl ?_
          refine X_aload_n (j := 1) dX12_tests_157 rfl rfl ?_
          refine X_get (j := 0) fo_X12_84 dX12_tests_158 rfl rfl ?_
          refine X_iload_n (j := 2) dX12_tests_161 rfl rfl ?_
          refine X_bipush (v := 20) dX12_tests_162 (by decide) ?_
          refine X_iast (j := 2) (g := upd sb d 20) (cs' := [(m, ex_o 12 [ex_i x0, ex_i x1, ex_r x2, ex_i x3, ex_i x4, ex_i x5, ex_i x6, ex_j x7, ex_i x8, ex_i x9, ex_r x10, ex_r x11, ex_r x12, ex_r x13, ex_r x14, ex_r x15, ex_r x16, ex_r x17, ex_r x18, ex_r x19, ex_r x20, ex_r x21, ex_r x22, ex_r x23, ex_r x24, ex_r x25, ex_i x26, ex_i x27, ex_r x28, ex_r x29, ex_r x30, ex_r x31, ex_r x32, ex_r x33, ex_r x34, ex_r x35, ex_r x36, ex_r x37, ex_r x38, ex_r x39, ex_i x40, ex_j x41, ex_r x42, ex_r x43, ex_r x44, ex_r x45, ex_r x46, ex_r x47, ex_r x48, ex_r x49, ex_r x50, ex_r x51, ex_r x52, ex_r x53, ex_i x54, ex_i x55, ex_i x56, ex_i x57, ex_r x58, ex_r x59, ex_r x60, ex_r x61, ex_i x62, ex_r x63, ex_r x64, ex_i x65, ex_j x66]), (x34, ex_a 1 7 (upd w_1.1 d 0)), (x35, ex_a 1 7 (upd sb d 20)), (x36, ex_a 1 7 te), (x37, ex_a 1 7 w_1.2), (x30, ex_a 1 7 (upd kp d 1)), (x31, ex_a 1 7 kb), (x32, ex_a 1 7 ah), (x33, ex_a 1 7 (upd ag d 0))]) dX12_tests_164 rfl (vp_in_nI (show d < 7 by omega) (by decide)) (by rw [nI_clamp (by omega)]) rfl ?_
          try dsimp only at hV
          refine X_re (cs' := [(m, ex_o 12 [ex_i x0, ex_i x1, ex_r x2, ex_i x3, ex_i x4, ex_i x5, ex_i x6, ex_j x7, ex_i x8, ex_i x9, ex_r x10, ex_r x11, ex_r x12, ex_r x13, ex_r x14, ex_r x15, ex_r x16, ex_r x17, ex_r x18, ex_r x19, ex_r x20, ex_r x21, ex_r x22, ex_r x23, ex_r x24, ex_r x25, ex_i x26, ex_i x27, ex_r x28, ex_r x29, ex_r x30, ex_r x31, ex_r x32, ex_r x33, ex_r x34, ex_r x35, ex_r x36, ex_r x37, ex_r x38, ex_r x39, ex_i x40, ex_j x41, ex_r x42, ex_r x43, ex_r x44, ex_r x45, ex_r x46, ex_r x47, ex_r x48, ex_r x49, ex_r x50, ex_r x51, ex_r x52, ex_r x53, ex_i x54, ex_i x55, ex_i x56, ex_i x57, ex_r x58, ex_r x59, ex_r x60, ex_r x61, ex_i x62, ex_r x63, ex_r x64, ex_i x65, ex_j x66]), (x30, ex_a 1 7 (upd kp d 1)), (x31, ex_a 1 7 kb), (x32, ex_a 1 7 ah), (x33, ex_a 1 7 (upd ag d 0)), (x34, ex_a 1 7 (upd w_1.1 d 0)), (x35, ex_a 1 7 (upd sb d 20)), (x36, ex_a 1 7 te), (x37, ex_a 1 7 w_1.2)]) [0, 5, 6, 7, 8, 1, 2, 3, 4] (show List.Perm [0, 5, 6, 7, 8, 1, 2, 3, 4] (List.range 9) from by decide) rfl ?_
          exact X_vret dX12_tests_165 (by (repeat refine ex_kc ?_) <;> rfl) (by subst hV; exact ⟨rfl, rfl⟩)
