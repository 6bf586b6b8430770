def F_X12_moves_L2 (b : Nat) : Nat → Nat → (Nat → Int32) → (Nat → Int32)
  | 0, k2, s2_0 => s2_0
  | zn + 1, k2, s2_0 => F_X12_moves_L2 b zn (k2 + 1) (upd s2_0 k2 (s2_0 (b + k2)))
theorem F_X12_moves_L2_z (b : Nat) (k2 : Nat) (s2_0 : Nat → Int32) : F_X12_moves_L2 b 0 k2 s2_0 = s2_0 := rfl
theorem F_X12_moves_L2_s (b : Nat) (k2 : Nat) (s2_0 : Nat → Int32) (zn : Nat) : F_X12_moves_L2 b (zn + 1) k2 s2_0 = F_X12_moves_L2 b zn (k2 + 1) (upd s2_0 k2 (s2_0 (b + k2))) := rfl
def F_X12_moves (b : Nat) (fz : Nat → Int32) : (Nat → Int32) := ((fun (v_1 : (Nat → Int32)) => v_1) (F_X12_moves_L2 b (b - 0) 0 fz))
set_option maxHeartbeats 4000000 in
set_option maxRecDepth 100000 in
theorem e_X12_moves (l : Launch) (ar : Nat) (b : Nat) (n2 : Nat) (fz : Nat → Int32) (hb : b + b ≤ n2) (hn2 : n2 ≤ 2000) : ex_M l yX12_moves cX12_moves 3 none 0 0 [ex_r ar, ex_i (nI b)] [(ar, ex_a 1 n2 fz)] (fun zcs zr => zcs = [(ar, ex_a 1 n2 (F_X12_moves b fz))] ∧ zr = none) := by
  refine X_meth (by decide) (Nat.le_of_ble_eq_true rfl) ?_
  generalize hV : F_X12_moves b fz = V0
  have hV := hV.symm
  unfold F_X12_moves at hV
  try dsimp only at hV
  refine X_iconst (v := 0) dX12_moves_0 (by decide) ?_
  refine X_istore_n (lv' := [(2, ex_i 0), (0, ex_r ar), (1, ex_i (nI b))]) dX12_moves_1 rfl (Nat.le_of_ble_eq_true rfl) rfl ?_
  -- loop at 2
  try dsimp only at hV
  generalize hq_v_1 : F_X12_moves_L2 b (b - 0) 0 fz = v_1 at hV
  try dsimp only at hV
  refine X_cut (P := True) (csE := [(ar, ex_a 1 n2 v_1)]) (lvE := [(0, ex_r ar), (1, ex_i (nI b))]) (E := 21) (fun hrest2 => ?_) (fun hPX2 => ?_)
  · have hL2 := hq_v_1.symm
    refine X_ind (fun (a2 : Nat × (Nat → Int32)) => v_1 = F_X12_moves_L2 b (b - a2.1) a2.1 a2.2 ∧ a2.1 ≤ b) (fun (a2 : Nat × (Nat → Int32)) => b - a2.1) (fun (a2 : Nat × (Nat → Int32)) => [(ar, ex_a 1 n2 a2.2)]) (fun (a2 : Nat × (Nat → Int32)) => [(2, ex_i (nI a2.1)), (0, ex_r ar), (1, ex_i (nI b))]) (fun ⟨k2, s2_0⟩ hI2 ih2 => ?_) (0, fz) ⟨hL2, (by omega)⟩
    try dsimp only at hI2 ih2 ⊢
    have ihc2 : ∀ (k2_ : Nat) (s2_0_ : Nat → Int32), (v_1 = F_X12_moves_L2 b (b - k2_) k2_ s2_0_ ∧ k2_ ≤ b) → (b - k2_) < (b - k2) → ex_O _ _ _ _ _ _ _ _ _ [(ar, ex_a 1 n2 s2_0_)] [(2, ex_i (nI k2_)), (0, ex_r ar), (1, ex_i (nI b))] _ _ := fun k2_ s2_0_ hi_ hm_ => ih2 (k2_, s2_0_) hi_ hm_
    have hL2 := hI2.1
    have hb2 := hI2.2
    refine X_iload_n (j := 0) dX12_moves_2 rfl rfl ?_
    refine X_iload_n (j := 2) dX12_moves_3 rfl rfl ?_
    refine X_icmp_ge (tgt := 21) dX12_moves_4 (by decide) (fun c_2 => ?_) (fun c_2 => ?_)
    · have hlt2 : k2 = b := nlex (L := b) (by omega) hb2 c_2
      rw [show b - k2 = 0 by omega] at hL2
      have hL2 := hL2.trans (F_X12_moves_L2_z ..)
      try dsimp only at hL2
      refine X_lv (lv' := [(0, ex_r ar), (1, ex_i (nI b))]) [1, 2] rfl ?_
      refine X_eq (cs' := [(ar, ex_a 1 n2 v_1)]) (lv' := [(0, ex_r ar), (1, ex_i (nI b))]) (by subst hL2; rfl) (by subst hL2; rfl) ?_
      exact hrest2 trivial
    · have hlt2 : k2 < b := nlen (L := b) (by omega) hb2 c_2
      rw [show b - k2 = (b - (k2 + 1)) + 1 by omega] at hL2
      have hL2 := hL2.trans (F_X12_moves_L2_s ..)
      refine X_aload_n (j := 1) dX12_moves_7 rfl rfl ?_
      refine X_iload_n (j := 0) dX12_moves_8 rfl rfl ?_
      refine X_aload_n (j := 1) dX12_moves_9 rfl rfl ?_
      refine X_iload_n (j := 2) dX12_moves_10 rfl rfl ?_
      refine X_iload_n (j := 0) dX12_moves_11 rfl rfl ?_
      refine X_iadd (v := nI (b + k2)) dX12_moves_12 (nI_add b k2) ?_
      refine X_iald (j := 0) (v := (s2_0 (b + k2))) dX12_moves_13 rfl (vp_in_nI (show b + k2 < n2 by omega) (by omega)) (by rw [nI_clamp (by omega)]) ?_
      refine X_iast (j := 0) (g := upd s2_0 k2 (s2_0 (b + k2))) (cs' := [(ar, ex_a 1 n2 (upd s2_0 k2 (s2_0 (b + k2))))]) dX12_moves_14 rfl (vp_in_nI (show k2 < n2 by omega) (by omega)) (by rw [nI_clamp (by omega)]) rfl ?_
      refine X_iinc (v := nI (k2 + 1)) (j := 0) (lv' := [(2, ex_i (nI (k2 + 1))), (0, ex_r ar), (1, ex_i (nI b))]) dX12_moves_15 rfl (nI_add k2 1) (Nat.le_of_ble_eq_true rfl) rfl ?_
      refine X_goto (tgt := 2) dX12_moves_18 (by decide) ?_
      try dsimp only at hL2
      exact ihc2 (k2 + 1) (upd s2_0 k2 (s2_0 (b + k2))) ⟨hL2, (show (k2 + 1) ≤ b by omega)⟩ (show b - (k2 + 1) < b - k2 by omega)
  try dsimp only at hV
  exact X_vret dX12_moves_21 (by (repeat refine ex_kc ?_) <;> rfl) (by subst hV; exact ⟨rfl, rfl⟩)

def F_X12_movesNames_L2 (b : Nat) : Nat → Nat → (Nat → Int64) → (Nat → Int64)
  | 0, k2, s2_0 => s2_0
  | zn + 1, k2, s2_0 => F_X12_movesNames_L2 b zn (k2 + 1) (vp_updL s2_0 k2 (s2_0 (b + k2)))
theorem F_X12_movesNames_L2_z (b : Nat) (k2 : Nat) (s2_0 : Nat → Int64) : F_X12_movesNames_L2 b 0 k2 s2_0 = s2_0 := rfl
theorem F_X12_movesNames_L2_s (b : Nat) (k2 : Nat) (s2_0 : Nat → Int64) (zn : Nat) : F_X12_movesNames_L2 b (zn + 1) k2 s2_0 = F_X12_movesNames_L2 b zn (k2 + 1) (vp_updL s2_0 k2 (s2_0 (b + k2))) := rfl
def F_X12_movesNames (b : Nat) (fz : Nat → Int64) : (Nat → Int64) := ((fun (v_1 : (Nat → Int64)) => v_1) (F_X12_movesNames_L2 b (b - 0) 0 fz))
set_option maxHeartbeats 4000000 in
set_option maxRecDepth 100000 in
theorem e_X12_movesNames (l : Launch) (ar : Nat) (b : Nat) (n2 : Nat) (fz : Nat → Int64) (hb : b + b ≤ n2) (hn2 : n2 ≤ 2000) : ex_M l yX12_movesNames cX12_movesNames 3 none 0 0 [ex_r ar, ex_i (nI b)] [(ar, ex_b n2 fz)] (fun zcs zr => zcs = [(ar, ex_b n2 (F_X12_movesNames b fz))] ∧ zr = none) := by
  refine X_meth (by decide) (Nat.le_of_ble_eq_true rfl) ?_
  generalize hV : F_X12_movesNames b fz = V0
  have hV := hV.symm
  unfold F_X12_movesNames at hV
  try dsimp only at hV
  refine X_iconst (v := 0) dX12_movesNames_0 (by decide) ?_
  refine X_istore_n (lv' := [(2, ex_i 0), (0, ex_r ar), (1, ex_i (nI b))]) dX12_movesNames_1 rfl (Nat.le_of_ble_eq_true rfl) rfl ?_
  -- loop at 2
  try dsimp only at hV
  generalize hq_v_1 : F_X12_movesNames_L2 b (b - 0) 0 fz = v_1 at hV
  try dsimp only at hV
  refine X_cut (P := True) (csE := [(ar, ex_b n2 v_1)]) (lvE := [(0, ex_r ar), (1, ex_i (nI b))]) (E := 21) (fun hrest2 => ?_) (fun hPX2 => ?_)
  · have hL2 := hq_v_1.symm
    refine X_ind (fun (a2 : Nat × (Nat → Int64)) => v_1 = F_X12_movesNames_L2 b (b - a2.1) a2.1 a2.2 ∧ a2.1 ≤ b) (fun (a2 : Nat × (Nat → Int64)) => b - a2.1) (fun (a2 : Nat × (Nat → Int64)) => [(ar, ex_b n2 a2.2)]) (fun (a2 : Nat × (Nat → Int64)) => [(2, ex_i (nI a2.1)), (0, ex_r ar), (1, ex_i (nI b))]) (fun ⟨k2, s2_0⟩ hI2 ih2 => ?_) (0, fz) ⟨hL2, (by omega)⟩
    try dsimp only at hI2 ih2 ⊢
    have ihc2 : ∀ (k2_ : Nat) (s2_0_ : Nat → Int64), (v_1 = F_X12_movesNames_L2 b (b - k2_) k2_ s2_0_ ∧ k2_ ≤ b) → (b - k2_) < (b - k2) → ex_O _ _ _ _ _ _ _ _ _ [(ar, ex_b n2 s2_0_)] [(2, ex_i (nI k2_)), (0, ex_r ar), (1, ex_i (nI b))] _ _ := fun k2_ s2_0_ hi_ hm_ => ih2 (k2_, s2_0_) hi_ hm_
    have hL2 := hI2.1
    have hb2 := hI2.2
    refine X_iload_n (j := 0) dX12_movesNames_2 rfl rfl ?_
    refine X_iload_n (j := 2) dX12_movesNames_3 rfl rfl ?_
    refine X_icmp_ge (tgt := 21) dX12_movesNames_4 (by decide) (fun c_2 => ?_) (fun c_2 => ?_)
    · have hlt2 : k2 = b := nlex (L := b) (by omega) hb2 c_2
      rw [show b - k2 = 0 by omega] at hL2
      have hL2 := hL2.trans (F_X12_movesNames_L2_z ..)
      try dsimp only at hL2
      refine X_lv (lv' := [(0, ex_r ar), (1, ex_i (nI b))]) [1, 2] rfl ?_
      refine X_eq (cs' := [(ar, ex_b n2 v_1)]) (lv' := [(0, ex_r ar), (1, ex_i (nI b))]) (by subst hL2; rfl) (by subst hL2; rfl) ?_
      exact hrest2 trivial
    · have hlt2 : k2 < b := nlen (L := b) (by omega) hb2 c_2
      rw [show b - k2 = (b - (k2 + 1)) + 1 by omega] at hL2
      have hL2 := hL2.trans (F_X12_movesNames_L2_s ..)
      refine X_aload_n (j := 1) dX12_movesNames_7 rfl rfl ?_
      refine X_iload_n (j := 0) dX12_movesNames_8 rfl rfl ?_
      refine X_aload_n (j := 1) dX12_movesNames_9 rfl rfl ?_
      refine X_iload_n (j := 2) dX12_movesNames_10 rfl rfl ?_
      refine X_iload_n (j := 0) dX12_movesNames_11 rfl rfl ?_
      refine X_iadd (v := nI (b + k2)) dX12_movesNames_12 (nI_add b k2) ?_
      refine X_lald (j := 0) (v := (s2_0 (b + k2))) dX12_movesNames_13 rfl (vp_in_nI (show b + k2 < n2 by omega) (by omega)) (by rw [nI_clamp (by omega)]) ?_
      refine X_last (j := 0) (g := vp_updL s2_0 k2 (s2_0 (b + k2))) (cs' := [(ar, ex_b n2 (vp_updL s2_0 k2 (s2_0 (b + k2))))]) dX12_movesNames_14 rfl (vp_in_nI (show k2 < n2 by omega) (by omega)) (by rw [nI_clamp (by omega)]) rfl ?_
      refine X_iinc (v := nI (k2 + 1)) (j := 0) (lv' := [(2, ex_i (nI (k2 + 1))), (0, ex_r ar), (1, ex_i (nI b))]) dX12_movesNames_15 rfl (nI_add k2 1) (Nat.le_of_ble_eq_true rfl) rfl ?_
      refine X_goto (tgt := 2) dX12_movesNames_18 (by decide) ?_
      try dsimp only at hL2
      exact ihc2 (k2 + 1) (vp_updL s2_0 k2 (s2_0 (b + k2))) ⟨hL2, (show (k2 + 1) ≤ b by omega)⟩ (show b - (k2 + 1) < b - k2 by omega)
  try dsimp only at hV
  exact X_vret dX12_movesNames_21 (by (repeat refine ex_kc ?_) <;> rfl) (by subst hV; exact ⟨rfl, rfl⟩)

def F_X12_lays (ho : Nat → Int32) (zp : Nat → Int64) (zq : Nat → Int64) (zk : Nat → Int32) (zh : Nat → Int32) (zt : Nat → Int32) (zv : Nat → Int32) (zf : Nat → Int32) (ze : Nat → Int32) (zb : Nat → Int32) (za : Nat → Int32) (zo : Nat → Int32) (zu : Nat → Int32) (lf : Nat → Int32) (lt : Nat → Int32) (cd : Nat → Int32) : (Nat → Int32) × (Nat → Int64) × (Nat → Int64) × (Nat → Int32) × (Nat → Int32) × (Nat → Int32) × (Nat → Int32) × (Nat → Int32) × (Nat → Int32) × (Nat → Int32) × (Nat → Int32) × (Nat → Int32) × (Nat → Int32) × (Nat → Int32) × (Nat → Int32) × (Nat → Int32) := ((fun (w_1 : (Nat → Int32)) => ((fun (w_2 : (Nat → Int64)) => ((fun (w_3 : (Nat → Int64)) => ((fun (w_4 : (Nat → Int32)) => ((fun (w_5 : (Nat → Int32)) => ((fun (w_6 : (Nat → Int32)) => ((fun (w_7 : (Nat → Int32)) => ((fun (w_8 : (Nat → Int32)) => ((fun (w_9 : (Nat → Int32)) => ((fun (w_10 : (Nat → Int32)) => ((fun (w_11 : (Nat → Int32)) => ((fun (w_12 : (Nat → Int32)) => ((fun (w_13 : (Nat → Int32)) => ((fun (w_14 : (Nat → Int32)) => (w_1, w_2, w_3, w_4, w_5, w_6, w_7, w_8, w_9, w_10, w_11, w_12, w_13, upd lf 0 ((lf 1) - 1000), upd lt 0 ((lt 1) - 1000), w_14)) (F_X12_moves 1000 cd))) (F_X12_moves 6 zu))) (F_X12_moves 5 zo))) (F_X12_moves 5 za))) (F_X12_moves 5 zb))) (F_X12_moves 6 ze))) (F_X12_moves 6 zf))) (F_X12_moves 6 zv))) (F_X12_moves 6 zt))) (F_X12_moves 6 zh))) (F_X12_moves 6 zk))) (F_X12_movesNames 5 zq))) (F_X12_movesNames 6 zp))) (F_X12_moves 5 ho))
set_option maxHeartbeats 4000000 in
set_option maxRecDepth 100000 in
theorem e_X12_lays (l : Launch) (m : Nat) (x0 : Int32) (x1 : Int32) (x2 : Nat) (x3 : Int32) (x4 : Int32) (x5 : Int32) (x6 : Int32) (x7 : Int64) (x8 : Int32) (x9 : Int32) (x10 : Nat) (x11 : Nat) (x12 : Nat) (x13 : Nat) (x14 : Nat) (x15 : Nat) (x16 : Nat) (x17 : Nat) (x18 : Nat) (x19 : Nat) (x20 : Nat) (x21 : Nat) (x22 : Nat) (x23 : Nat) (x24 : Nat) (x25 : Nat) (x26 : Int32) (x27 : Int32) (x28 : Nat) (x29 : Nat) (x30 : Nat) (x31 : Nat) (x32 : Nat) (x33 : Nat) (x34 : Nat) (x35 : Nat) (x36 : Nat) (x37 : Nat) (x38 : Nat) (x39 : Nat) (x40 : Int32) (x41 : Int64) (x42 : Nat) (x43 : Nat) (x44 : Nat) (x45 : Nat) (x46 : Nat) (x47 : Nat) (x48 : Nat) (x49 : Nat) (x50 : Nat) (x51 : Nat) (x52 : Nat) (x53 : Nat) (x54 : Int32) (x55 : Int32) (x56 : Int32) (x57 : Int32) (x58 : Nat) (x59 : Nat) (x60 : Nat) (x61 : Nat) (x62 : Int32) (x63 : Nat) (x64 : Nat) (x65 : Int32) (x66 : Int64) (ho : Nat → Int32) (zp : Nat → Int64) (zq : Nat → Int64) (zk : Nat → Int32) (zh : Nat → Int32) (zt : Nat → Int32) (zv : Nat → Int32) (zf : Nat → Int32) (ze : Nat → Int32) (zb : Nat → Int32) (za : Nat → Int32) (zo : Nat → Int32) (zu : Nat → Int32) (lf : Nat → Int32) (lt : Nat → Int32) (cd : Nat → Int32) : ex_M l yX12_lays cX12_lays 1 none 1 22 [ex_r m] [(m, ex_o 12 [ex_i x0, ex_i x1, ex_r x2, ex_i x3, ex_i x4, ex_i x5, ex_i x6, ex_j x7, ex_i x8, ex_i x9, ex_r x10, ex_r x11, ex_r x12, ex_r x13, ex_r x14, ex_r x15, ex_r x16, ex_r x17, ex_r x18, ex_r x19, ex_r x20, ex_r x21, ex_r x22, ex_r x23, ex_r x24, ex_r x25, ex_i x26, ex_i x27, ex_r x28, ex_r x29, ex_r x30, ex_r x31, ex_r x32, ex_r x33, ex_r x34, ex_r x35, ex_r x36, ex_r x37, ex_r x38, ex_r x39, ex_i x40, ex_j x41, ex_r x42, ex_r x43, ex_r x44, ex_r x45, ex_r x46, ex_r x47, ex_r x48, ex_r x49, ex_r x50, ex_r x51, ex_r x52, ex_r x53, ex_i x54, ex_i x55, ex_i x56, ex_i x57, ex_r x58, ex_r x59, ex_r x60, ex_r x61, ex_i x62, ex_r x63, ex_r x64, ex_i x65, ex_j x66]), (x10, ex_a 1 10 ho), (x11, ex_b 12 zp), (x12, ex_b 10 zq), (x13, ex_a 1 12 zk), (x14, ex_a 1 12 zh), (x15, ex_a 1 12 zt), (x16, ex_a 1 12 zv), (x17, ex_a 1 12 zf), (x18, ex_a 1 12 ze), (x19, ex_a 1 10 zb), (x20, ex_a 1 10 za), (x21, ex_a 1 10 zo), (x22, ex_a 1 12 zu), (x23, ex_a 1 2 lf), (x24, ex_a 1 2 lt), (x25, ex_a 1 2000 cd)] (fun zcs zr => zcs = [(m, ex_o 12 [ex_i x0, ex_i x1, ex_r x2, ex_i x3, ex_i x4, ex_i x5, ex_i x6, ex_j x7, ex_i x8, ex_i x9, ex_r x10, ex_r x11, ex_r x12, ex_r x13, ex_r x14, ex_r x15, ex_r x16, ex_r x17, ex_r x18, ex_r x19, ex_r x20, ex_r x21, ex_r x22, ex_r x23, ex_r x24, ex_r x25, ex_i x26, ex_i x27, ex_r x28, ex_r x29, ex_r x30, ex_r x31, ex_r x32, ex_r x33, ex_r x34, ex_r x35, ex_r x36, ex_r x37, ex_r x38, ex_r x39, ex_i x40, ex_j x41, ex_r x42, ex_r x43, ex_r x44, ex_r x45, ex_r x46, ex_r x47, ex_r x48, ex_r x49, ex_r x50, ex_r x51, ex_r x52, ex_r x53, ex_i x54, ex_i x55, ex_i x56, ex_i x57, ex_r x58, ex_r x59, ex_r x60, ex_r x61, ex_i x62, ex_r x63, ex_r x64, ex_i x65, ex_j x66]), (x10, ex_a 1 10 ((F_X12_lays ho zp zq zk zh zt zv zf ze zb za zo zu lf lt cd).1)), (x11, ex_b 12 ((F_X12_lays ho zp zq zk zh zt zv zf ze zb za zo zu lf lt cd).2.1)), (x12, ex_b 10 ((F_X12_lays ho zp zq zk zh zt zv zf ze zb za zo zu lf lt cd).2.2.1)), (x13, ex_a 1 12 ((F_X12_lays ho zp zq zk zh zt zv zf ze zb za zo zu lf lt cd).2.2.2.1)), (x14, ex_a 1 12 ((F_X12_lays ho zp zq zk zh zt zv zf ze zb za zo zu lf lt cd).2.2.2.2.1)), (x15, ex_a 1 12 ((F_X12_lays ho zp zq zk zh zt zv zf ze zb za zo zu lf lt cd).2.2.2.2.2.1)), (x16, ex_a 1 12 ((F_X12_lays ho zp zq zk zh zt zv zf ze zb za zo zu lf lt cd).2.2.2.2.2.2.1)), (x17, ex_a 1 12 ((F_X12_lays ho zp zq zk zh zt zv zf ze zb za zo zu lf lt cd).2.2.2.2.2.2.2.1)), (x18, ex_a 1 12 ((F_X12_lays ho zp zq zk zh zt zv zf ze zb za zo zu lf lt cd).2.2.2.2.2.2.2.2.1)), (x19, ex_a 1 10 ((F_X12_lays ho zp zq zk zh zt zv zf ze zb za zo zu lf lt cd).2.2.2.2.2.2.2.2.2.1)), (x20, ex_a 1 10 ((F_X12_lays ho zp zq zk zh zt zv zf ze zb za zo zu lf lt cd).2.2.2.2.2.2.2.2.2.2.1)), (x21, ex_a 1 10 ((F_X12_lays ho zp zq zk zh zt zv zf ze zb za zo zu lf lt cd).2.2.2.2.2.2.2.2.2.2.2.1)), (x22, ex_a 1 12 ((F_X12_lays ho zp zq zk zh zt zv zf ze zb za zo zu lf lt cd).2.2.2.2.2.2.2.2.2.2.2.2.1)), (x23, ex_a 1 2 ((F_X12_lays ho zp zq zk zh zt zv zf ze zb za zo zu lf lt cd).2.2.2.2.2.2.2.2.2.2.2.2.2.1)), (x24, ex_a 1 2 ((F_X12_lays ho zp zq zk zh zt zv zf ze zb za zo zu lf lt cd).2.2.2.2.2.2.2.2.2.2.2.2.2.2.1)), (x25, ex_a 1 2000 ((F_X12_lays ho zp zq zk zh zt zv zf ze zb za zo zu lf lt cd).2.2.2.2.2.2.2.2.2.2.2.2.2.2.2))] ∧ zr = none) := by
  refine X_meth (by decide) (Nat.le_of_ble_eq_true rfl) ?_
  generalize hV : F_X12_lays ho zp zq zk zh zt zv zf ze zb za zo zu lf lt cd = V0
  have hV := hV.symm
  unfold F_X12_lays at hV
  try dsimp only at hV
  refine X_aload_n (j := 0) dX12_lays_0 rfl rfl ?_
  refine X_get (j := 0) fo_X12_13 dX12_lays_1 rfl rfl ?_
  refine X_iconst (v := 5) dX12_lays_4 (by decide) ?_
  refine X_callS (rest := [(m, ex_o 12 [ex_i x0, ex_i x1, ex_r x2, ex_i x3, ex_i x4, ex_i x5, ex_i x6, ex_j x7, ex_i x8, ex_i x9, ex_r x10, ex_r x11, ex_r x12, ex_r x13, ex_r x14, ex_r x15, ex_r x16, ex_r x17, ex_r x18, ex_r x19, ex_r x20, ex_r x21, ex_r x22, ex_r x23, ex_r x24, ex_r x25, ex_i x26, ex_i x27, ex_r x28, ex_r x29, ex_r x30, ex_r x31, ex_r x32, ex_r x33, ex_r x34, ex_r x35, ex_r x36, ex_r x37, ex_r x38, ex_r x39, ex_i x40, ex_j x41, ex_r x42, ex_r x43, ex_r x44, ex_r x45, ex_r x46, ex_r x47, ex_r x48, ex_r x49, ex_r x50, ex_r x51, ex_r x52, ex_r x53, ex_i x54, ex_i x55, ex_i x56, ex_i x57, ex_r x58, ex_r x59, ex_r x60, ex_r x61, ex_i x62, ex_r x63, ex_r x64, ex_i x65, ex_j x66]), (x11, ex_b 12 zp), (x12, ex_b 10 zq), (x13, ex_a 1 12 zk), (x14, ex_a 1 12 zh), (x15, ex_a 1 12 zt), (x16, ex_a 1 12 zv), (x17, ex_a 1 12 zf), (x18, ex_a 1 12 ze), (x19, ex_a 1 10 zb), (x20, ex_a 1 10 za), (x21, ex_a 1 10 zo), (x22, ex_a 1 12 zu), (x23, ex_a 1 2 lf), (x24, ex_a 1 2 lt), (x25, ex_a 1 2000 cd)]) (stk := []) co_X12_362 rfl ⟨(Nat.le_of_ble_eq_true rfl), (Nat.le_of_ble_eq_true rfl)⟩ (e_X12_moves l x10 5 10 ho (by first | assumption | omega) (by first | assumption | omega)) dX12_lays_5 [1, 0, 2, 3, 4, 5, 6, 7, 8, 9, 10, 11, 12, 13, 14, 15, 16] (show List.Perm [1, 0, 2, 3, 4, 5, 6, 7, 8, 9, 10, 11, 12, 13, 14, 15, 16] (List.range 17) from by decide) rfl rfl rfl (Nat.le_of_ble_eq_true rfl) (fun zc1 zr hq hk => ?_)
  obtain ⟨rfl, rfl⟩ := hq
  try dsimp only at hV
  generalize hq_w_1 : F_X12_moves 5 ho = w_1 at hV ⊢
  try dsimp only at hV
  refine X_aload_n (j := 0) dX12_lays_8 rfl rfl ?_
  refine X_get (j := 1) fo_X12_16 dX12_lays_9 rfl rfl ?_
  refine X_bipush (v := 6) dX12_lays_12 (by decide) ?_
  refine X_callS (rest := [(x10, ex_a 1 10 w_1), (m, ex_o 12 [ex_i x0, ex_i x1, ex_r x2, ex_i x3, ex_i x4, ex_i x5, ex_i x6, ex_j x7, ex_i x8, ex_i x9, ex_r x10, ex_r x11, ex_r x12, ex_r x13, ex_r x14, ex_r x15, ex_r x16, ex_r x17, ex_r x18, ex_r x19, ex_r x20, ex_r x21, ex_r x22, ex_r x23, ex_r x24, ex_r x25, ex_i x26, ex_i x27, ex_r x28, ex_r x29, ex_r x30, ex_r x31, ex_r x32, ex_r x33, ex_r x34, ex_r x35, ex_r x36, ex_r x37, ex_r x38, ex_r x39, ex_i x40, ex_j x41, ex_r x42, ex_r x43, ex_r x44, ex_r x45, ex_r x46, ex_r x47, ex_r x48, ex_r x49, ex_r x50, ex_r x51, ex_r x52, ex_r x53, ex_i x54, ex_i x55, ex_i x56, ex_i x57, ex_r x58, ex_r x59, ex_r x60, ex_r x61, ex_i x62, ex_r x63, ex_r x64, ex_i x65, ex_j x66]), (x12, ex_b 10 zq), (x13, ex_a 1 12 zk), (x14, ex_a 1 12 zh), (x15, ex_a 1 12 zt), (x16, ex_a 1 12 zv), (x17, ex_a 1 12 zf), (x18, ex_a 1 12 ze), (x19, ex_a 1 10 zb), (x20, ex_a 1 10 za), (x21, ex_a 1 10 zo), (x22, ex_a 1 12 zu), (x23, ex_a 1 2 lf), (x24, ex_a 1 2 lt), (x25, ex_a 1 2000 cd)]) (stk := []) co_X12_366 rfl ⟨(Nat.le_of_ble_eq_true rfl), (Nat.le_of_ble_eq_true rfl)⟩ (e_X12_movesNames l x11 6 12 zp (by first | assumption | omega) (by first | assumption | omega)) dX12_lays_14 [2, 0, 1, 3, 4, 5, 6, 7, 8, 9, 10, 11, 12, 13, 14, 15, 16] (show List.Perm [2, 0, 1, 3, 4, 5, 6, 7, 8, 9, 10, 11, 12, 13, 14, 15, 16] (List.range 17) from by decide) rfl rfl rfl (Nat.le_of_ble_eq_true rfl) (fun zc1 zr hq hk => ?_)
  obtain ⟨rfl, rfl⟩ := hq
  try dsimp only at hV
  generalize hq_w_2 : F_X12_movesNames 6 zp = w_2 at hV ⊢
  try dsimp only at hV
  refine X_aload_n (j := 0) dX12_lays_17 rfl rfl ?_
  refine X_get (j := 2) fo_X12_20 dX12_lays_18 rfl rfl ?_
  refine X_iconst (v := 5) dX12_lays_21 (by decide) ?_
  refine X_callS (rest := [(x11, ex_b 12 w_2), (x10, ex_a 1 10 w_1), (m, ex_o 12 [ex_i x0, ex_i x1, ex_r x2, ex_i x3, ex_i x4, ex_i x5, ex_i x6, ex_j x7, ex_i x8, ex_i x9, ex_r x10, ex_r x11, ex_r x12, ex_r x13, ex_r x14, ex_r x15, ex_r x16, ex_r x17, ex_r x18, ex_r x19, ex_r x20, ex_r x21, ex_r x22, ex_r x23, ex_r x24, ex_r x25, ex_i x26, ex_i x27, ex_r x28, ex_r x29, ex_r x30, ex_r x31, ex_r x32, ex_r x33, ex_r x34, ex_r x35, ex_r x36, ex_r x37, ex_r x38, ex_r x39, ex_i x40, ex_j x41, ex_r x42, ex_r x43, ex_r x44, ex_r x45, ex_r x46, ex_r x47, ex_r x48, ex_r x49, ex_r x50, ex_r x51, ex_r x52, ex_r x53, ex_i x54, ex_i x55, ex_i x56, ex_i x57, ex_r x58, ex_r x59, ex_r x60, ex_r x61, ex_i x62, ex_r x63, ex_r x64, ex_i x65, ex_j x66]), (x13, ex_a 1 12 zk), (x14, ex_a 1 12 zh), (x15, ex_a 1 12 zt), (x16, ex_a 1 12 zv), (x17, ex_a 1 12 zf), (x18, ex_a 1 12 ze), (x19, ex_a 1 10 zb), (x20, ex_a 1 10 za), (x21, ex_a 1 10 zo), (x22, ex_a 1 12 zu), (x23, ex_a 1 2 lf), (x24, ex_a 1 2 lt), (x25, ex_a 1 2000 cd)]) (stk := []) co_X12_366 rfl ⟨(Nat.le_of_ble_eq_true rfl), (Nat.le_of_ble_eq_true rfl)⟩ (e_X12_movesNames l x12 5 10 zq (by first | assumption | omega) (by first | assumption | omega)) dX12_lays_22 [3, 0, 1, 2, 4, 5, 6, 7, 8, 9, 10, 11, 12, 13, 14, 15, 16] (show List.Perm [3, 0, 1, 2, 4, 5, 6, 7, 8, 9, 10, 11, 12, 13, 14, 15, 16] (List.range 17) from by decide) rfl rfl rfl (Nat.le_of_ble_eq_true rfl) (fun zc1 zr hq hk => ?_)
  obtain ⟨rfl, rfl⟩ := hq
  try dsimp only at hV
  generalize hq_w_3 : F_X12_movesNames 5 zq = w_3 at hV ⊢
  try dsimp only at hV
  refine X_aload_n (j := 0) dX12_lays_25 rfl rfl ?_
  refine X_get (j := 3) fo_X12_23 dX12_lays_26 rfl rfl ?_
  refine X_bipush (v := 6) dX12_lays_29 (by decide) ?_
  refine X_callS (rest := [(x12, ex_b 10 w_3), (x11, ex_b 12 w_2), (x10, ex_a 1 10 w_1), (m, ex_o 12 [ex_i x0, ex_i x1, ex_r x2, ex_i x3, ex_i x4, ex_i x5, ex_i x6, ex_j x7, ex_i x8, ex_i x9, ex_r x10, ex_r x11, ex_r x12, ex_r x13, ex_r x14, ex_r x15, ex_r x16, ex_r x17, ex_r x18, ex_r x19, ex_r x20, ex_r x21, ex_r x22, ex_r x23, ex_r x24, ex_r x25, ex_i x26, ex_i x27, ex_r x28, ex_r x29, ex_r x30, ex_r x31, ex_r x32, ex_r x33, ex_r x34, ex_r x35, ex_r x36, ex_r x37, ex_r x38, ex_r x39, ex_i x40, ex_j x41, ex_r x42, ex_r x43, ex_r x44, ex_r x45, ex_r x46, ex_r x47, ex_r x48, ex_r x49, ex_r x50, ex_r x51, ex_r x52, ex_r x53, ex_i x54, ex_i x55, ex_i x56, ex_i x57, ex_r x58, ex_r x59, ex_r x60, ex_r x61, ex_i x62, ex_r x63, ex_r x64, ex_i x65, ex_j x66]), (x14, ex_a 1 12 zh), (x15, ex_a 1 12 zt), (x16, ex_a 1 12 zv), (x17, ex_a 1 12 zf), (x18, ex_a 1 12 ze), (x19, ex_a 1 10 zb), (x20, ex_a 1 10 za), (x21, ex_a 1 10 zo), (x22, ex_a 1 12 zu), (x23, ex_a 1 2 lf), (x24, ex_a 1 2 lt), (x25, ex_a 1 2000 cd)]) (stk := []) co_X12_362 rfl ⟨(Nat.le_of_ble_eq_true rfl), (Nat.le_of_ble_eq_true rfl)⟩ (e_X12_moves l x13 6 12 zk (by first | assumption | omega) (by first | assumption | omega)) dX12_lays_31 [4, 0, 1, 2, 3, 5, 6, 7, 8, 9, 10, 11, 12, 13, 14, 15, 16] (show List.Perm [4, 0, 1, 2, 3, 5, 6, 7, 8, 9, 10, 11, 12, 13, 14, 15, 16] (List.range 17) from by decide) rfl rfl rfl (Nat.le_of_ble_eq_true rfl) (fun zc1 zr hq hk => ?_)
  obtain ⟨rfl, rfl⟩ := hq
  try dsimp only at hV
  generalize hq_w_4 : F_X12_moves 6 zk = w_4 at hV ⊢
  try dsimp only at hV
  refine X_aload_n (j := 0) dX12_lays_34 rfl rfl ?_
  refine X_get (j := 4) fo_X12_26 dX12_lays_35 rfl rfl ?_
  refine X_bipush (v := 6) dX12_lays_38 (by decide) ?_
  refine X_callS (rest := [(x13, ex_a 1 12 w_4), (x12, ex_b 10 w_3), (x11, ex_b 12 w_2), (x10, ex_a 1 10 w_1), (m, ex_o 12 [ex_i x0, ex_i x1, ex_r x2, ex_i x3, ex_i x4, ex_i x5, ex_i x6, ex_j x7, ex_i x8, ex_i x9, ex_r x10, ex_r x11, ex_r x12, ex_r x13, ex_r x14, ex_r x15, ex_r x16, ex_r x17, ex_r x18, ex_r x19, ex_r x20, ex_r x21, ex_r x22, ex_r x23, ex_r x24, ex_r x25, ex_i x26, ex_i x27, ex_r x28, ex_r x29, ex_r x30, ex_r x31, ex_r x32, ex_r x33, ex_r x34, ex_r x35, ex_r x36, ex_r x37, ex_r x38, ex_r x39, ex_i x40, ex_j x41, ex_r x42, ex_r x43, ex_r x44, ex_r x45, ex_r x46, ex_r x47, ex_r x48, ex_r x49, ex_r x50, ex_r x51, ex_r x52, ex_r x53, ex_i x54, ex_i x55, ex_i x56, ex_i x57, ex_r x58, ex_r x59, ex_r x60, ex_r x61, ex_i x62, ex_r x63, ex_r x64, ex_i x65, ex_j x66]), (x15, ex_a 1 12 zt), (x16, ex_a 1 12 zv), (x17, ex_a 1 12 zf), (x18, ex_a 1 12 ze), (x19, ex_a 1 10 zb), (x20, ex_a 1 10 za), (x21, ex_a 1 10 zo), (x22, ex_a 1 12 zu), (x23, ex_a 1 2 lf), (x24, ex_a 1 2 lt), (x25, ex_a 1 2000 cd)]) (stk := []) co_X12_362 rfl ⟨(Nat.le_of_ble_eq_true rfl), (Nat.le_of_ble_eq_true rfl)⟩ (e_X12_moves l x14 6 12 zh (by first | assumption | omega) (by first | assumption | omega)) dX12_lays_40 [5, 0, 1, 2, 3, 4, 6, 7, 8, 9, 10, 11, 12, 13, 14, 15, 16] (show List.Perm [5, 0, 1, 2, 3, 4, 6, 7, 8, 9, 10, 11, 12, 13, 14, 15, 16] (List.range 17) from by decide) rfl rfl rfl (Nat.le_of_ble_eq_true rfl) (fun zc1 zr hq hk => ?_)
  obtain ⟨rfl, rfl⟩ := hq
  try dsimp only at hV
  generalize hq_w_5 : F_X12_moves 6 zh = w_5 at hV ⊢
  try dsimp only at hV
  refine X_aload_n (j := 0) dX12_lays_43 rfl rfl ?_
  refine X_get (j := 5) fo_X12_29 dX12_lays_44 rfl rfl ?_
  refine X_bipush (v := 6) dX12_lays_47 (by decide) ?_
  refine X_callS (rest := [(x14, ex_a 1 12 w_5), (x13, ex_a 1 12 w_4), (x12, ex_b 10 w_3), (x11, ex_b 12 w_2), (x10, ex_a 1 10 w_1), (m, ex_o 12 [ex_i x0, ex_i x1, ex_r x2, ex_i x3, ex_i x4, ex_i x5, ex_i x6, ex_j x7, ex_i x8, ex_i x9, ex_r x10, ex_r x11, ex_r x12, ex_r x13, ex_r x14, ex_r x15, ex_r x16, ex_r x17, ex_r x18, ex_r x19, ex_r x20, ex_r x21, ex_r x22, ex_r x23, ex_r x24, ex_r x25, ex_i x26, ex_i x27, ex_r x28, ex_r x29, ex_r x30, ex_r x31, ex_r x32, ex_r x33, ex_r x34, ex_r x35, ex_r x36, ex_r x37, ex_r x38, ex_r x39, ex_i x40, ex_j x41, ex_r x42, ex_r x43, ex_r x44, ex_r x45, ex_r x46, ex_r x47, ex_r x48, ex_r x49, ex_r x50, ex_r x51, ex_r x52, ex_r x53, ex_i x54, ex_i x55, ex_i x56, ex_i x57, ex_r x58, ex_r x59, ex_r x60, ex_r x61, ex_i x62, ex_r x63, ex_r x64, ex_i x65, ex_j x66]), (x16, ex_a 1 12 zv), (x17, ex_a 1 12 zf), (x18, ex_a 1 12 ze), (x19, ex_a 1 10 zb), (x20, ex_a 1 10 za), (x21, ex_a 1 10 zo), (x22, ex_a 1 12 zu), (x23, ex_a 1 2 lf), (x24, ex_a 1 2 lt), (x25, ex_a 1 2000 cd)]) (stk := []) co_X12_362 rfl ⟨(Nat.le_of_ble_eq_true rfl), (Nat.le_of_ble_eq_true rfl)⟩ (e_X12_moves l x15 6 12 zt (by first | assumption | omega) (by first | assumption | omega)) dX12_lays_49 [6, 0, 1, 2, 3, 4, 5, 7, 8, 9, 10, 11, 12, 13, 14, 15, 16] (show List.Perm [6, 0, 1, 2, 3, 4, 5, 7, 8, 9, 10, 11, 12, 13, 14, 15, 16] (List.range 17) from by decide) rfl rfl rfl (Nat.le_of_ble_eq_true rfl) (fun zc1 zr hq hk => ?_)
  obtain ⟨rfl, rfl⟩ := hq
  try dsimp only at hV
  generalize hq_w_6 : F_X12_moves 6 zt = w_6 at hV ⊢
  try dsimp only at hV
  refine X_aload_n (j := 0) dX12_lays_52 rfl rfl ?_
  refine X_get (j := 6) fo_X12_32 dX12_lays_53 rfl rfl ?_
  refine X_bipush (v := 6) dX12_lays_56 (by decide) ?_
  refine X_callS (rest := [(x15, ex_a 1 12 w_6), (x14, ex_a 1 12 w_5), (x13, ex_a 1 12 w_4), (x12, ex_b 10 w_3), (x11, ex_b 12 w_2), (x10, ex_a 1 10 w_1), (m, ex_o 12 [ex_i x0, ex_i x1, ex_r x2, ex_i x3, ex_i x4, ex_i x5, ex_i x6, ex_j x7, ex_i x8, ex_i x9, ex_r x10, ex_r x11, ex_r x12, ex_r x13, ex_r x14, ex_r x15, ex_r x16, ex_r x17, ex_r x18, ex_r x19, ex_r x20, ex_r x21, ex_r x22, ex_r x23, ex_r x24, ex_r x25, ex_i x26, ex_i x27, ex_r x28, ex_r x29, ex_r x30, ex_r x31, ex_r x32, ex_r x33, ex_r x34, ex_r x35, ex_r x36, ex_r x37, ex_r x38, ex_r x39, ex_i x40, ex_j x41, ex_r x42, ex_r x43, ex_r x44, ex_r x45, ex_r x46, ex_r x47, ex_r x48, ex_r x49, ex_r x50, ex_r x51, ex_r x52, ex_r x53, ex_i x54, ex_i x55, ex_i x56, ex_i x57, ex_r x58, ex_r x59, ex_r x60, ex_r x61, ex_i x62, ex_r x63, ex_r x64, ex_i x65, ex_j x66]), (x17, ex_a 1 12 zf), (x18, ex_a 1 12 ze), (x19, ex_a 1 10 zb), (x20, ex_a 1 10 za), (x21, ex_a 1 10 zo), (x22, ex_a 1 12 zu), (x23, ex_a 1 2 lf), (x24, ex_a 1 2 lt), (x25, ex_a 1 2000 cd)]) (stk := []) co_X12_362 rfl ⟨(Nat.le_of_ble_eq_true rfl), (Nat.le_of_ble_eq_true rfl)⟩ (e_X12_moves l x16 6 12 zv (by first | assumption | omega) (by first | assumption | omega)) dX12_lays_58 [7, 0, 1, 2, 3, 4, 5, 6, 8, 9, 10, 11, 12, 13, 14, 15, 16] (show List.Perm [7, 0, 1, 2, 3, 4, 5, 6, 8, 9, 10, 11, 12, 13, 14, 15, 16] (List.range 17) from by decide) rfl rfl rfl (Nat.le_of_ble_eq_true rfl) (fun zc1 zr hq hk => ?_)
  obtain ⟨rfl, rfl⟩ := hq
  try dsimp only at hV
  generalize hq_w_7 : F_X12_moves 6 zv = w_7 at hV ⊢
  try dsimp only at hV
  refine X_aload_n (j := 0) dX12_lays_61 rfl rfl ?_
  refine X_get (j := 7) fo_X12_35 dX12_lays_62 rfl rfl ?_
  refine X_bipush (v := 6) dX12_lays_65 (by decide) ?_
  refine X_callS (rest := [(x16, ex_a 1 12 w_7), (x15, ex_a 1 12 w_6), (x14, ex_a 1 12 w_5), (x13, ex_a 1 12 w_4), (x12, ex_b 10 w_3), (x11, ex_b 12 w_2), (x10, ex_a 1 10 w_1), (m, ex_o 12 [ex_i x0, ex_i x1, ex_r x2, ex_i x3, ex_i x4, ex_i x5, ex_i x6, ex_j x7, ex_i x8, ex_i x9, ex_r x10, ex_r x11, ex_r x12, ex_r x13, ex_r x14, ex_r x15, ex_r x16, ex_r x17, ex_r x18, ex_r x19, ex_r x20, ex_r x21, ex_r x22, ex_r x23, ex_r x24, ex_r x25, ex_i x26, ex_i x27, ex_r x28, ex_r x29, ex_r x30, ex_r x31, ex_r x32, ex_r x33, ex_r x34, ex_r x35, ex_r x36, ex_r x37, ex_r x38, ex_r x39, ex_i x40, ex_j x41, ex_r x42, ex_r x43, ex_r x44, ex_r x45, ex_r x46, ex_r x47, ex_r x48, ex_r x49, ex_r x50, ex_r x51, ex_r x52, ex_r x53, ex_i x54, ex_i x55, ex_i x56, ex_i x57, ex_r x58, ex_r x59, ex_r x60, ex_r x61, ex_i x62, ex_r x63, ex_r x64, ex_i x65, ex_j x66]), (x18, ex_a 1 12 ze), (x19, ex_a 1 10 zb), (x20, ex_a 1 10 za), (x21, ex_a 1 10 zo), (x22, ex_a 1 12 zu), (x23, ex_a 1 2 lf), (x24, ex_a 1 2 lt), (x25, ex_a 1 2000 cd)]) (stk := []) co_X12_362 rfl ⟨(Nat.le_of_ble_eq_true rfl), (Nat.le_of_ble_eq_true rfl)⟩ (e_X12_moves l x17 6 12 zf (by first | assumption | omega) (by first | assumption | omega)) dX12_lays_67 [8, 0, 1, 2, 3, 4, 5, 6, 7, 9, 10, 11, 12, 13, 14, 15, 16] (show List.Perm [8, 0, 1, 2, 3, 4, 5, 6, 7, 9, 10, 11, 12, 13, 14, 15, 16] (List.range 17) from by decide) rfl rfl rfl (Nat.le_of_ble_eq_true rfl) (fun zc1 zr hq hk => ?_)
  obtain ⟨rfl, rfl⟩ := hq
  try dsimp only at hV
  generalize hq_w_8 : F_X12_moves 6 zf = w_8 at hV ⊢
  try dsimp only at hV
  refine X_aload_n (j := 0) dX12_lays_70 rfl rfl ?_
  refine X_get (j := 8) fo_X12_38 dX12_lays_71 rfl rfl ?_
  refine X_bipush (v := 6) dX12_lays_74 (by decide) ?_
  refine X_callS (rest := [(x17, ex_a 1 12 w_8), (x16, ex_a 1 12 w_7), (x15, ex_a 1 12 w_6), (x14, ex_a 1 12 w_5), (x13, ex_a 1 12 w_4), (x12, ex_b 10 w_3), (x11, ex_b 12 w_2), (x10, ex_a 1 10 w_1), (m, ex_o 12 [ex_i x0, ex_i x1, ex_r x2, ex_i x3, ex_i x4, ex_i x5, ex_i x6, ex_j x7, ex_i x8, ex_i x9, ex_r x10, ex_r x11, ex_r x12, ex_r x13, ex_r x14, ex_r x15, ex_r x16, ex_r x17, ex_r x18, ex_r x19, ex_r x20, ex_r x21, ex_r x22, ex_r x23, ex_r x24, ex_r x25, ex_i x26, ex_i x27, ex_r x28, ex_r x29, ex_r x30, ex_r x31, ex_r x32, ex_r x33, ex_r x34, ex_r x35, ex_r x36, ex_r x37, ex_r x38, ex_r x39, ex_i x40, ex_j x41, ex_r x42, ex_r x43, ex_r x44, ex_r x45, ex_r x46, ex_r x47, ex_r x48, ex_r x49, ex_r x50, ex_r x51, ex_r x52, ex_r x53, ex_i x54, ex_i x55, ex_i x56, ex_i x57, ex_r x58, ex_r x59, ex_r x60, ex_r x61, ex_i x62, ex_r x63, ex_r x64, ex_i x65, ex_j x66]), (x19, ex_a 1 10 zb), (x20, ex_a 1 10 za), (x21, ex_a 1 10 zo), (x22, ex_a 1 12 zu), (x23, ex_a 1 2 lf), (x24, ex_a 1 2 lt), (x25, ex_a 1 2000 cd)]) (stk := []) co_X12_362 rfl ⟨(Nat.le_of_ble_eq_true rfl), (Nat.le_of_ble_eq_true rfl)⟩ (e_X12_moves l x18 6 12 ze (by first | assumption | omega) (by first | assumption | omega)) dX12_lays_76 [9, 0, 1, 2, 3, 4, 5, 6, 7, 8, 10, 11, 12, 13, 14, 15, 16] (show List.Perm [9, 0, 1, 2, 3, 4, 5, 6, 7, 8, 10, 11, 12, 13, 14, 15, 16] (List.range 17) from by decide) rfl rfl rfl (Nat.le_of_ble_eq_true rfl) (fun zc1 zr hq hk => ?_)
  obtain ⟨rfl, rfl⟩ := hq
  try dsimp only at hV
  generalize hq_w_9 : F_X12_moves 6 ze = w_9 at hV ⊢
  try dsimp only at hV
  refine X_aload_n (j := 0) dX12_lays_79 rfl rfl ?_
  refine X_get (j := 9) fo_X12_41 dX12_lays_80 rfl rfl ?_
  refine X_iconst (v := 5) dX12_lays_83 (by decide) ?_
  refine X_callS (rest := [(x18, ex_a 1 12 w_9), (x17, ex_a 1 12 w_8), (x16, ex_a 1 12 w_7), (x15, ex_a 1 12 w_6), (x14, ex_a 1 12 w_5), (x13, ex_a 1 12 w_4), (x12, ex_b 10 w_3), (x11, ex_b 12 w_2), (x10, ex_a 1 10 w_1), (m, ex_o 12 [ex_i x0, ex_i x1, ex_r x2, ex_i x3, ex_i x4, ex_i x5, ex_i x6, ex_j x7, ex_i x8, ex_i x9, ex_r x10, ex_r x11, ex_r x12, ex_r x13, ex_r x14, ex_r x15, ex_r x16, ex_r x17, ex_r x18, ex_r x19, ex_r x20, ex_r x21, ex_r x22, ex_r x23, ex_r x24, ex_r x25, ex_i x26, ex_i x27, ex_r x28, ex_r x29, ex_r x30, ex_r x31, ex_r x32, ex_r x33, ex_r x34, ex_r x35, ex_r x36, ex_r x37, ex_r x38, ex_r x39, ex_i x40, ex_j x41, ex_r x42, ex_r x43, ex_r x44, ex_r x45, ex_r x46, ex_r x47, ex_r x48, ex_r x49, ex_r x50, ex_r x51, ex_r x52, ex_r x53, ex_i x54, ex_i x55, ex_i x56, ex_i x57, ex_r x58, ex_r x59, ex_r x60, ex_r x61, ex_i x62, ex_r x63, ex_r x64, ex_i x65, ex_j x66]), (x20, ex_a 1 10 za), (x21, ex_a 1 10 zo), (x22, ex_a 1 12 zu), (x23, ex_a 1 2 lf), (x24, ex_a 1 2 lt), (x25, ex_a 1 2000 cd)]) (stk := []) co_X12_362 rfl ⟨(Nat.le_of_ble_eq_true rfl), (Nat.le_of_ble_eq_true rfl)⟩ (e_X12_moves l x19 5 10 zb (by first | assumption | omega) (by first | assumption | omega)) dX12_lays_84 [10, 0, 1, 2, 3, 4, 5, 6, 7, 8, 9, 11, 12, 13, 14, 15, 16] (show List.Perm [10, 0, 1, 2, 3, 4, 5, 6, 7, 8, 9, 11, 12, 13, 14, 15, 16] (List.range 17) from by decide) rfl rfl rfl (Nat.le_of_ble_eq_true rfl) (fun zc1 zr hq hk => ?_)
  obtain ⟨rfl, rfl⟩ := hq
  try dsimp only at hV
  generalize hq_w_10 : F_X12_moves 5 zb = w_10 at hV ⊢
  try dsimp only at hV
  refine X_aload_n (j := 0) dX12_lays_87 rfl rfl ?_
  refine X_get (j := 10) fo_X12_44 dX12_lays_88 rfl rfl ?_
  refine X_iconst (v := 5) dX12_lays_91 (by decide) ?_
  refine X_callS (rest := [(x19, ex_a 1 10 w_10), (x18, ex_a 1 12 w_9), (x17, ex_a 1 12 w_8), (x16, ex_a 1 12 w_7), (x15, ex_a 1 12 w_6), (x14, ex_a 1 12 w_5), (x13, ex_a 1 12 w_4), (x12, ex_b 10 w_3), (x11, ex_b 12 w_2), (x10, ex_a 1 10 w_1), (m, ex_o 12 [ex_i x0, ex_i x1, ex_r x2, ex_i x3, ex_i x4, ex_i x5, ex_i x6, ex_j x7, ex_i x8, ex_i x9, ex_r x10, ex_r x11, ex_r x12, ex_r x13, ex_r x14, ex_r x15, ex_r x16, ex_r x17, ex_r x18, ex_r x19, ex_r x20, ex_r x21, ex_r x22, ex_r x23, ex_r x24, ex_r x25, ex_i x26, ex_i x27, ex_r x28, ex_r x29, ex_r x30, ex_r x31, ex_r x32, ex_r x33, ex_r x34, ex_r x35, ex_r x36, ex_r x37, ex_r x38, ex_r x39, ex_i x40, ex_j x41, ex_r x42, ex_r x43, ex_r x44, ex_r x45, ex_r x46, ex_r x47, ex_r x48, ex_r x49, ex_r x50, ex_r x51, ex_r x52, ex_r x53, ex_i x54, ex_i x55, ex_i x56, ex_i x57, ex_r x58, ex_r x59, ex_r x60, ex_r x61, ex_i x62, ex_r x63, ex_r x64, ex_i x65, ex_j x66]), (x21, ex_a 1 10 zo), (x22, ex_a 1 12 zu), (x23, ex_a 1 2 lf), (x24, ex_a 1 2 lt), (x25, ex_a 1 2000 cd)]) (stk := []) co_X12_362 rfl ⟨(Nat.le_of_ble_eq_true rfl), (Nat.le_of_ble_eq_true rfl)⟩ (e_X12_moves l x20 5 10 za (by first | assumption | omega) (by first | assumption | omega)) dX12_lays_92 [11, 0, 1, 2, 3, 4, 5, 6, 7, 8, 9, 10, 12, 13, 14, 15, 16] (show List.Perm [11, 0, 1, 2, 3, 4, 5, 6, 7, 8, 9, 10, 12, 13, 14, 15, 16] (List.range 17) from by decide) rfl rfl rfl (Nat.le_of_ble_eq_true rfl) (fun zc1 zr hq hk => ?_)
  obtain ⟨rfl, rfl⟩ := hq
  try dsimp only at hV
  generalize hq_w_11 : F_X12_moves 5 za = w_11 at hV ⊢
  try dsimp only at hV
  refine X_aload_n (j := 0) dX12_lays_95 rfl rfl ?_
  refine X_get (j := 11) fo_X12_47 dX12_lays_96 rfl rfl ?_
  refine X_iconst (v := 5) dX12_lays_99 (by decide) ?_
  refine X_callS (rest := [(x20, ex_a 1 10 w_11), (x19, ex_a 1 10 w_10), (x18, ex_a 1 12 w_9), (x17, ex_a 1 12 w_8), (x16, ex_a 1 12 w_7), (x15, ex_a 1 12 w_6), (x14, ex_a 1 12 w_5), (x13, ex_a 1 12 w_4), (x12, ex_b 10 w_3), (x11, ex_b 12 w_2), (x10, ex_a 1 10 w_1), (m, ex_o 12 [ex_i x0, ex_i x1, ex_r x2, ex_i x3, ex_i x4, ex_i x5, ex_i x6, ex_j x7, ex_i x8, ex_i x9, ex_r x10, ex_r x11, ex_r x12, ex_r x13, ex_r x14, ex_r x15, ex_r x16, ex_r x17, ex_r x18, ex_r x19, ex_r x20, ex_r x21, ex_r x22, ex_r x23, ex_r x24, ex_r x25, ex_i x26, ex_i x27, ex_r x28, ex_r x29, ex_r x30, ex_r x31, ex_r x32, ex_r x33, ex_r x34, ex_r x35, ex_r x36, ex_r x37, ex_r x38, ex_r x39, ex_i x40, ex_j x41, ex_r x42, ex_r x43, ex_r x44, ex_r x45, ex_r x46, ex_r x47, ex_r x48, ex_r x49, ex_r x50, ex_r x51, ex_r x52, ex_r x53, ex_i x54, ex_i x55, ex_i x56, ex_i x57, ex_r x58, ex_r x59, ex_r x60, ex_r x61, ex_i x62, ex_r x63, ex_r x64, ex_i x65, ex_j x66]), (x22, ex_a 1 12 zu), (x23, ex_a 1 2 lf), (x24, ex_a 1 2 lt), (x25, ex_a 1 2000 cd)]) (stk := []) co_X12_362 rfl ⟨(Nat.le_of_ble_eq_true rfl), (Nat.le_of_ble_eq_true rfl)⟩ (e_X12_moves l x21 5 10 zo (by first | assumption | omega) (by first | assumption | omega)) dX12_lays_100 [12, 0, 1, 2, 3, 4, 5, 6, 7, 8, 9, 10, 11, 13, 14, 15, 16] (show List.Perm [12, 0, 1, 2, 3, 4, 5, 6, 7, 8, 9, 10, 11, 13, 14, 15, 16] (List.range 17) from by decide) rfl rfl rfl (Nat.le_of_ble_eq_true rfl) (fun zc1 zr hq hk => ?_)
  obtain ⟨rfl, rfl⟩ := hq
  try dsimp only at hV
  generalize hq_w_12 : F_X12_moves 5 zo = w_12 at hV ⊢
  try dsimp only at hV
  refine X_aload_n (j := 0) dX12_lays_103 rfl rfl ?_
  refine X_get (j := 12) fo_X12_50 dX12_lays_104 rfl rfl ?_
  refine X_bipush (v := 6) dX12_lays_107 (by decide) ?_
  refine X_callS (rest := [(x21, ex_a 1 10 w_12), (x20, ex_a 1 10 w_11), (x19, ex_a 1 10 w_10), (x18, ex_a 1 12 w_9), (x17, ex_a 1 12 w_8), (x16, ex_a 1 12 w_7), (x15, ex_a 1 12 w_6), (x14, ex_a 1 12 w_5), (x13, ex_a 1 12 w_4), (x12, ex_b 10 w_3), (x11, ex_b 12 w_2), (x10, ex_a 1 10 w_1), (m, ex_o 12 [ex_i x0, ex_i x1, ex_r x2, ex_i x3, ex_i x4, ex_i x5, ex_i x6, ex_j x7, ex_i x8, ex_i x9, ex_r x10, ex_r x11, ex_r x12, ex_r x13, ex_r x14, ex_r x15, ex_r x16, ex_r x17, ex_r x18, ex_r x19, ex_r x20, ex_r x21, ex_r x22, ex_r x23, ex_r x24, ex_r x25, ex_i x26, ex_i x27, ex_r x28, ex_r x29, ex_r x30, ex_r x31, ex_r x32, ex_r x33, ex_r x34, ex_r x35, ex_r x36, ex_r x37, ex_r x38, ex_r x39, ex_i x40, ex_j x41, ex_r x42, ex_r x43, ex_r x44, ex_r x45, ex_r x46, ex_r x47, ex_r x48, ex_r x49, ex_r x50, ex_r x51, ex_r x52, ex_r x53, ex_i x54, ex_i x55, ex_i x56, ex_i x57, ex_r x58, ex_r x59, ex_r x60, ex_r x61, ex_i x62, ex_r x63, ex_r x64, ex_i x65, ex_j x66]), (x23, ex_a 1 2 lf), (x24, ex_a 1 2 lt), (x25, ex_a 1 2000 cd)]) (stk := []) co_X12_362 rfl ⟨(Nat.le_of_ble_eq_true rfl), (Nat.le_of_ble_eq_true rfl)⟩ (e_X12_moves l x22 6 12 zu (by first | assumption | omega) (by first | assumption | omega)) dX12_lays_109 [13, 0, 1, 2, 3, 4, 5, 6, 7, 8, 9, 10, 11, 12, 14, 15, 16] (show List.Perm [13, 0, 1, 2, 3, 4, 5, 6, 7, 8, 9, 10, 11, 12, 14, 15, 16] (List.range 17) from by decide) rfl rfl rfl (Nat.le_of_ble_eq_true rfl) (fun zc1 zr hq hk => ?_)
  obtain ⟨rfl, rfl⟩ := hq
  try dsimp only at hV
  generalize hq_w_13 : F_X12_moves 6 zu = w_13 at hV ⊢
  try dsimp only at hV
  refine X_aload_n (j := 0) dX12_lays_112 rfl rfl ?_
  refine X_get (j := 13) fo_X12_59 dX12_lays_113 rfl rfl ?_
  refine X_sipush (v := 1000) dX12_lays_116 (by decide) ?_
  refine X_callS (rest := [(x22, ex_a 1 12 w_13), (x21, ex_a 1 10 w_12), (x20, ex_a 1 10 w_11), (x19, ex_a 1 10 w_10), (x18, ex_a 1 12 w_9), (x17, ex_a 1 12 w_8), (x16, ex_a 1 12 w_7), (x15, ex_a 1 12 w_6), (x14, ex_a 1 12 w_5), (x13, ex_a 1 12 w_4), (x12, ex_b 10 w_3), (x11, ex_b 12 w_2), (x10, ex_a 1 10 w_1), (m, ex_o 12 [ex_i x0, ex_i x1, ex_r x2, ex_i x3, ex_i x4, ex_i x5, ex_i x6, ex_j x7, ex_i x8, ex_i x9, ex_r x10, ex_r x11, ex_r x12, ex_r x13, ex_r x14, ex_r x15, ex_r x16, ex_r x17, ex_r x18, ex_r x19, ex_r x20, ex_r x21, ex_r x22, ex_r x23, ex_r x24, ex_r x25, ex_i x26, ex_i x27, ex_r x28, ex_r x29, ex_r x30, ex_r x31, ex_r x32, ex_r x33, ex_r x34, ex_r x35, ex_r x36, ex_r x37, ex_r x38, ex_r x39, ex_i x40, ex_j x41, ex_r x42, ex_r x43, ex_r x44, ex_r x45, ex_r x46, ex_r x47, ex_r x48, ex_r x49, ex_r x50, ex_r x51, ex_r x52, ex_r x53, ex_i x54, ex_i x55, ex_i x56, ex_i x57, ex_r x58, ex_r x59, ex_r x60, ex_r x61, ex_i x62, ex_r x63, ex_r x64, ex_i x65, ex_j x66]), (x23, ex_a 1 2 lf), (x24, ex_a 1 2 lt)]) (stk := []) co_X12_362 rfl ⟨(Nat.le_of_ble_eq_true rfl), (Nat.le_of_ble_eq_true rfl)⟩ (e_X12_moves l x25 1000 2000 cd (by first | assumption | omega) (by first | assumption | omega)) dX12_lays_119 [16, 0, 1, 2, 3, 4, 5, 6, 7, 8, 9, 10, 11, 12, 13, 14, 15] (show List.Perm [16, 0, 1, 2, 3, 4, 5, 6, 7, 8, 9, 10, 11, 12, 13, 14, 15] (List.range 17) from by decide) rfl rfl rfl (Nat.le_of_ble_eq_true rfl) (fun zc1 zr hq hk => ?_)
  obtain ⟨rfl, rfl⟩ := hq
  try dsimp only at hV
  generalize hq_w_14 : F_X12_moves 1000 cd = w_14 at hV ⊢
  try dsimp only at hV
  refine X_aload_n (j := 0) dX12_lays_122 rfl rfl ?_
  refine X_get (j := 14) fo_X12_53 dX12_lays_123 rfl rfl ?_
  refine X_iconst (v := 0) dX12_lays_126 (by decide) ?_
  refine X_aload_n (j := 0) dX12_lays_127 rfl rfl ?_
  refine X_get (j := 14) fo_X12_53 dX12_lays_128 rfl rfl ?_
  refine X_iconst (v := 1) dX12_lays_131 (by decide) ?_
  refine X_iald (j := 15) (v := (lf 1)) dX12_lays_132 rfl (vin (by decide)) rfl ?_
  refine X_sipush (v := 1000) dX12_lays_133 (by decide) ?_
  refine X_isub (v := ((lf 1) - 1000)) dX12_lays_136 rfl ?_
  refine X_iast (j := 15) (g := upd lf 0 ((lf 1) - 1000)) (cs' := [(x25, ex_a 1 2000 w_14), (x22, ex_a 1 12 w_13), (x21, ex_a 1 10 w_12), (x20, ex_a 1 10 w_11), (x19, ex_a 1 10 w_10), (x18, ex_a 1 12 w_9), (x17, ex_a 1 12 w_8), (x16, ex_a 1 12 w_7), (x15, ex_a 1 12 w_6), (x14, ex_a 1 12 w_5), (x13, ex_a 1 12 w_4), (x12, ex_b 10 w_3), (x11, ex_b 12 w_2), (x10, ex_a 1 10 w_1), (m, ex_o 12 [ex_i x0, ex_i x1, ex_r x2, ex_i x3, ex_i x4, ex_i x5, ex_i x6, ex_j x7, ex_i x8, ex_i x9, ex_r x10, ex_r x11, ex_r x12, ex_r x13, ex_r x14, ex_r x15, ex_r x16, ex_r x17, ex_r x18, ex_r x19, ex_r x20, ex_r x21, ex_r x22, ex_r x23, ex_r x24, ex_r x25, ex_i x26, ex_i x27, ex_r x28, ex_r x29, ex_r x30, ex_r x31, ex_r x32, ex_r x33, ex_r x34, ex_r x35, ex_r x36, ex_r x37, ex_r x38, ex_r x39, ex_i x40, ex_j x41, ex_r x42, ex_r x43, ex_r x44, ex_r x45, ex_r x46, ex_r x47, ex_r x48, ex_r x49, ex_r x50, ex_r x51, ex_r x52, ex_r x53, ex_i x54, ex_i x55, ex_i x56, ex_i x57, ex_r x58, ex_r x59, ex_r x60, ex_r x61, ex_i x62, ex_r x63, ex_r x64, ex_i x65, ex_j x66]), (x23, ex_a 1 2 (upd lf 0 ((lf 1) - 1000))), (x24, ex_a 1 2 lt)]) dX12_lays_137 rfl (vin (by decide)) rfl rfl ?_
  refine X_aload_n (j := 0) dX12_lays_138 rfl rfl ?_
  refine X_get (j := 14) fo_X12_56 dX12_lays_139 rfl rfl ?_
  refine X_iconst (v := 0) dX12_lays_142 (by decide) ?_
  refine X_aload_n (j := 0) dX12_lays_143 rfl rfl ?_
  refine X_get (j := 14) fo_X12_56 dX12_lays_144 rfl rfl ?_
  refine X_iconst (v := 1) dX12_lays_147 (by decide) ?_
  refine X_iald (j := 16) (v := (lt 1)) dX12_lays_148 rfl (vin (by decide)) rfl ?_
  refine X_sipush (v := 1000) dX12_lays_149 (by decide) ?_
  refine X_isub (v := ((lt 1) - 1000)) dX12_lays_152 rfl ?_
  refine X_iast (j := 16) (g := upd lt 0 ((lt 1) - 1000)) (cs' := [(x25, ex_a 1 2000 w_14), (x22, ex_a 1 12 w_13), (x21, ex_a 1 10 w_12), (x20, ex_a 1 10 w_11), (x19, ex_a 1 10 w_10), (x18, ex_a 1 12 w_9), (x17, ex_a 1 12 w_8), (x16, ex_a 1 12 w_7), (x15, ex_a 1 12 w_6), (x14, ex_a 1 12 w_5), (x13, ex_a 1 12 w_4), (x12, ex_b 10 w_3), (x11, ex_b 12 w_2), (x10, ex_a 1 10 w_1), (m, ex_o 12 [ex_i x0, ex_i x1, ex_r x2, ex_i x3, ex_i x4, ex_i x5, ex_i x6, ex_j x7, ex_i x8, ex_i x9, ex_r x10, ex_r x11, ex_r x12, ex_r x13, ex_r x14, ex_r x15, ex_r x16, ex_r x17, ex_r x18, ex_r x19, ex_r x20, ex_r x21, ex_r x22, ex_r x23, ex_r x24, ex_r x25, ex_i x26, ex_i x27, ex_r x28, ex_r x29, ex_r x30, ex_r x31, ex_r x32, ex_r x33, ex_r x34, ex_r x35, ex_r x36, ex_r x37, ex_r x38, ex_r x39, ex_i x40, ex_j x41, ex_r x42, ex_r x43, ex_r x44, ex_r x45, ex_r x46, ex_r x47, ex_r x48, ex_r x49, ex_r x50, ex_r x51, ex_r x52, ex_r x53, ex_i x54, ex_i x55, ex_i x56, ex_i x57, ex_r x58, ex_r x59, ex_r x60, ex_r x61, ex_i x62, ex_r x63, ex_r x64, ex_i x65, ex_j x66]), (x23, ex_a 1 2 (upd lf 0 ((lf 1) - 1000))), (x24, ex_a 1 2 (upd lt 0 ((lt 1) - 1000)))]) dX12_lays_153 rfl (vin (by decide)) rfl rfl ?_
  try dsimp only at hV
  refine X_re (cs' := [(m, ex_o 12 [ex_i x0, ex_i x1, ex_r x2, ex_i x3, ex_i x4, ex_i x5, ex_i x6, ex_j x7, ex_i x8, ex_i x9, ex_r x10, ex_r x11, ex_r x12, ex_r x13, ex_r x14, ex_r x15, ex_r x16, ex_r x17, ex_r x18, ex_r x19, ex_r x20, ex_r x21, ex_r x22, ex_r x23, ex_r x24, ex_r x25, ex_i x26, ex_i x27, ex_r x28, ex_r x29, ex_r x30, ex_r x31, ex_r x32, ex_r x33, ex_r x34, ex_r x35, ex_r x36, ex_r x37, ex_r x38, ex_r x39, ex_i x40, ex_j x41, ex_r x42, ex_r x43, ex_r x44, ex_r x45, ex_r x46, ex_r x47, ex_r x48, ex_r x49, ex_r x50, ex_r x51, ex_r x52, ex_r x53, ex_i x54, ex_i x55, ex_i x56, ex_i x57, ex_r x58, ex_r x59, ex_r x60, ex_r x61, ex_i x62, ex_r x63, ex_r x64, ex_i x65, ex_j x66]), (x10, ex_a 1 10 w_1), (x11, ex_b 12 w_2), (x12, ex_b 10 w_3), (x13, ex_a 1 12 w_4), (x14, ex_a 1 12 w_5), (x15, ex_a 1 12 w_6), (x16, ex_a 1 12 w_7), (x17, ex_a 1 12 w_8), (x18, ex_a 1 12 w_9), (x19, ex_a 1 10 w_10), (x20, ex_a 1 10 w_11), (x21, ex_a 1 10 w_12), (x22, ex_a 1 12 w_13), (x23, ex_a 1 2 (upd lf 0 ((lf 1) - 1000))), (x24, ex_a 1 2 (upd lt 0 ((lt 1) - 1000))), (x25, ex_a 1 2000 w_14)]) [14, 13, 12, 11, 10, 9, 8, 7, 6, 5, 4, 3, 2, 1, 15, 16, 0] (show List.Perm [14, 13, 12, 11, 10, 9, 8, 7, 6, 5, 4, 3, 2, 1, 15, 16, 0] (List.range 17) from by decide) rfl ?_
  exact X_vret dX12_lays_154 (by (repeat refine ex_kc ?_) <;> rfl) (by subst hV; exact ⟨rfl, rfl⟩)

def F_X12_forgets_L2 : Nat → Nat → (Nat → Int32) → (Nat → Int32)
  | 0, k2, s2_0 => s2_0
  | zn + 1, k2, s2_0 => F_X12_forgets_L2 zn (k2 + 1) (upd s2_0 k2 (-1))
theorem F_X12_forgets_L2_z (k2 : Nat) (s2_0 : Nat → Int32) : F_X12_forgets_L2 0 k2 s2_0 = s2_0 := rfl
theorem F_X12_forgets_L2_s (k2 : Nat) (s2_0 : Nat → Int32) (zn : Nat) : F_X12_forgets_L2 (zn + 1) k2 s2_0 = F_X12_forgets_L2 zn (k2 + 1) (upd s2_0 k2 (-1)) := rfl
def F_X12_forgets (to : Nat → Int32) : (Nat → Int32) := ((fun (v_1 : (Nat → Int32)) => v_1) (F_X12_forgets_L2 (6 - 0) 0 to))
set_option maxHeartbeats 4000000 in
set_option maxRecDepth 100000 in
theorem e_X12_forgets (l : Launch) (m : Nat) (x0 : Int32) (x1 : Int32) (x2 : Nat) (x3 : Int32) (x4 : Int32) (x5 : Int32) (x6 : Int32) (x7 : Int64) (x8 : Int32) (x9 : Int32) (x10 : Nat) (x11 : Nat) (x12 : Nat) (x13 : Nat) (x14 : Nat) (x15 : Nat) (x16 : Nat) (x17 : Nat) (x18 : Nat) (x19 : Nat) (x20 : Nat) (x21 : Nat) (x22 : Nat) (x23 : Nat) (x24 : Nat) (x25 : Nat) (x26 : Int32) (x27 : Int32) (x28 : Nat) (x29 : Nat) (x30 : Nat) (x31 : Nat) (x32 : Nat) (x33 : Nat) (x34 : Nat) (x35 : Nat) (x36 : Nat) (x37 : Nat) (x38 : Nat) (x39 : Nat) (x40 : Int32) (x41 : Int64) (x42 : Nat) (x43 : Nat) (x44 : Nat) (x45 : Nat) (x46 : Nat) (x47 : Nat) (x48 : Nat) (x49 : Nat) (x50 : Nat) (x51 : Nat) (x52 : Nat) (x53 : Nat) (x54 : Int32) (x55 : Int32) (x56 : Int32) (x57 : Int32) (x58 : Nat) (x59 : Nat) (x60 : Nat) (x61 : Nat) (x62 : Int32) (x63 : Nat) (x64 : Nat) (x65 : Int32) (x66 : Int64) (to : Nat → Int32) : ex_M l yX12_forgets cX12_forgets 2 none 0 0 [ex_r m] [(m, ex_o 12 [ex_i x0, ex_i x1, ex_r x2, ex_i x3, ex_i x4, ex_i x5, ex_i x6, ex_j x7, ex_i x8, ex_i x9, ex_r x10, ex_r x11, ex_r x12, ex_r x13, ex_r x14, ex_r x15, ex_r x16, ex_r x17, ex_r x18, ex_r x19, ex_r x20, ex_r x21, ex_r x22, ex_r x23, ex_r x24, ex_r x25, ex_i x26, ex_i x27, ex_r x28, ex_r x29, ex_r x30, ex_r x31, ex_r x32, ex_r x33, ex_r x34, ex_r x35, ex_r x36, ex_r x37, ex_r x38, ex_r x39, ex_i x40, ex_j x41, ex_r x42, ex_r x43, ex_r x44, ex_r x45, ex_r x46, ex_r x47, ex_r x48, ex_r x49, ex_r x50, ex_r x51, ex_r x52, ex_r x53, ex_i x54, ex_i x55, ex_i x56, ex_i x57, ex_r x58, ex_r x59, ex_r x60, ex_r x61, ex_i x62, ex_r x63, ex_r x64, ex_i x65, ex_j x66]), (x47, ex_a 1 30 to)] (fun zcs zr => zcs = [(m, ex_o 12 [ex_i x0, ex_i x1, ex_r x2, ex_i x3, ex_i x4, ex_i x5, ex_i x6, ex_j x7, ex_i x8, ex_i x9, ex_r x10, ex_r x11, ex_r x12, ex_r x13, ex_r x14, ex_r x15, ex_r x16, ex_r x17, ex_r x18, ex_r x19, ex_r x20, ex_r x21, ex_r x22, ex_r x23, ex_r x24, ex_r x25, ex_i x26, ex_i x27, ex_r x28, ex_r x29, ex_r x30, ex_r x31, ex_r x32, ex_r x33, ex_r x34, ex_r x35, ex_r x36, ex_r x37, ex_r x38, ex_r x39, ex_i x40, ex_j x41, ex_r x42, ex_r x43, ex_r x44, ex_r x45, ex_r x46, ex_r x47, ex_r x48, ex_r x49, ex_r x50, ex_r x51, ex_r x52, ex_r x53, ex_i x54, ex_i x55, ex_i x56, ex_i x57, ex_r x58, ex_r x59, ex_r x60, ex_r x61, ex_i x62, ex_r x63, ex_r x64, ex_i x65, ex_j x66]), (x47, ex_a 1 30 (F_X12_forgets to))] ∧ zr = none) := by
  refine X_meth (by decide) (Nat.le_of_ble_eq_true rfl) ?_
  generalize hV : F_X12_forgets to = V0
  have hV := hV.symm
  unfold F_X12_forgets at hV
  try dsimp only at hV
  refine X_iconst (v := 0) dX12_forgets_0 (by decide) ?_
  refine X_istore_n (lv' := [(1, ex_i 0), (0, ex_r m)]) dX12_forgets_1 rfl (Nat.le_of_ble_eq_true rfl) rfl ?_
  -- loop at 2
  try dsimp only at hV
  generalize hq_v_1 : F_X12_forgets_L2 (6 - 0) 0 to = v_1 at hV
  try dsimp only at hV
  refine X_cut (P := True) (csE := [(m, ex_o 12 [ex_i x0, ex_i x1, ex_r x2, ex_i x3, ex_i x4, ex_i x5, ex_i x6, ex_j x7, ex_i x8, ex_i x9, ex_r x10, ex_r x11, ex_r x12, ex_r x13, ex_r x14, ex_r x15, ex_r x16, ex_r x17, ex_r x18, ex_r x19, ex_r x20, ex_r x21, ex_r x22, ex_r x23, ex_r x24, ex_r x25, ex_i x26, ex_i x27, ex_r x28, ex_r x29, ex_r x30, ex_r x31, ex_r x32, ex_r x33, ex_r x34, ex_r x35, ex_r x36, ex_r x37, ex_r x38, ex_r x39, ex_i x40, ex_j x41, ex_r x42, ex_r x43, ex_r x44, ex_r x45, ex_r x46, ex_r x47, ex_r x48, ex_r x49, ex_r x50, ex_r x51, ex_r x52, ex_r x53, ex_i x54, ex_i x55, ex_i x56, ex_i x57, ex_r x58, ex_r x59, ex_r x60, ex_r x61, ex_i x62, ex_r x63, ex_r x64, ex_i x65, ex_j x66]), (x47, ex_a 1 30 v_1)]) (lvE := [(0, ex_r m)]) (E := 21) (fun hrest2 => ?_) (fun hPX2 => ?_)
  · have hL2 := hq_v_1.symm
    refine X_ind (fun (a2 : Nat × (Nat → Int32)) => v_1 = F_X12_forgets_L2 (6 - a2.1) a2.1 a2.2 ∧ a2.1 ≤ 6) (fun (a2 : Nat × (Nat → Int32)) => 6 - a2.1) (fun (a2 : Nat × (Nat → Int32)) => [(m, ex_o 12 [ex_i x0, ex_i x1, ex_r x2, ex_i x3, ex_i x4, ex_i x5, ex_i x6, ex_j x7, ex_i x8, ex_i x9, ex_r x10, ex_r x11, ex_r x12, ex_r x13, ex_r x14, ex_r x15, ex_r x16, ex_r x17, ex_r x18, ex_r x19, ex_r x20, ex_r x21, ex_r x22, ex_r x23, ex_r x24, ex_r x25, ex_i x26, ex_i x27, ex_r x28, ex_r x29, ex_r x30, ex_r x31, ex_r x32, ex_r x33, ex_r x34, ex_r x35, ex_r x36, ex_r x37, ex_r x38, ex_r x39, ex_i x40, ex_j x41, ex_r x42, ex_r x43, ex_r x44, ex_r x45, ex_r x46, ex_r x47, ex_r x48, ex_r x49, ex_r x50, ex_r x51, ex_r x52, ex_r x53, ex_i x54, ex_i x55, ex_i x56, ex_i x57, ex_r x58, ex_r x59, ex_r x60, ex_r x61, ex_i x62, ex_r x63, ex_r x64, ex_i x65, ex_j x66]), (x47, ex_a 1 30 a2.2)]) (fun (a2 : Nat × (Nat → Int32)) => [(1, ex_i (nI a2.1)), (0, ex_r m)]) (fun ⟨k2, s2_0⟩ hI2 ih2 => ?_) (0, to) ⟨hL2, (by omega)⟩
    try dsimp only at hI2 ih2 ⊢
    have ihc2 : ∀ (k2_ : Nat) (s2_0_ : Nat → Int32), (v_1 = F_X12_forgets_L2 (6 - k2_) k2_ s2_0_ ∧ k2_ ≤ 6) → (6 - k2_) < (6 - k2) → ex_O _ _ _ _ _ _ _ _ _ [(m, ex_o 12 [ex_i x0, ex_i x1, ex_r x2, ex_i x3, ex_i x4, ex_i x5, ex_i x6, ex_j x7, ex_i x8, ex_i x9, ex_r x10, ex_r x11, ex_r x12, ex_r x13, ex_r x14, ex_r x15, ex_r x16, ex_r x17, ex_r x18, ex_r x19, ex_r x20, ex_r x21, ex_r x22, ex_r x23, ex_r x24, ex_r x25, ex_i x26, ex_i x27, ex_r x28, ex_r x29, ex_r x30, ex_r x31, ex_r x32, ex_r x33, ex_r x34, ex_r x35, ex_r x36, ex_r x37, ex_r x38, ex_r x39, ex_i x40, ex_j x41, ex_r x42, ex_r x43, ex_r x44, ex_r x45, ex_r x46, ex_r x47, ex_r x48, ex_r x49, ex_r x50, ex_r x51, ex_r x52, ex_r x53, ex_i x54, ex_i x55, ex_i x56, ex_i x57, ex_r x58, ex_r x59, ex_r x60, ex_r x61, ex_i x62, ex_r x63, ex_r x64, ex_i x65, ex_j x66]), (x47, ex_a 1 30 s2_0_)] [(1, ex_i (nI k2_)), (0, ex_r m)] _ _ := fun k2_ s2_0_ hi_ hm_ => ih2 (k2_, s2_0_) hi_ hm_
    have hL2 := hI2.1
    have hb2 := hI2.2
    refine X_iload_n (j := 0) dX12_forgets_2 rfl rfl ?_
    refine X_bipush (v := 6) dX12_forgets_3 (by decide) ?_
    refine X_icmp_ge (tgt := 21) dX12_forgets_5 (by decide) (fun c_2 => ?_) (fun c_2 => ?_)
    · have hlt2 : k2 = 6 := nlex (L := 6) (by omega) hb2 c_2
      rw [show 6 - k2 = 0 by omega] at hL2
      have hL2 := hL2.trans (F_X12_forgets_L2_z ..)
      try dsimp only at hL2
      refine X_lv (lv' := [(0, ex_r m)]) [1] rfl ?_
      refine X_eq (cs' := [(m, ex_o 12 [ex_i x0, ex_i x1, ex_r x2, ex_i x3, ex_i x4, ex_i x5, ex_i x6, ex_j x7, ex_i x8, ex_i x9, ex_r x10, ex_r x11, ex_r x12, ex_r x13, ex_r x14, ex_r x15, ex_r x16, ex_r x17, ex_r x18, ex_r x19, ex_r x20, ex_r x21, ex_r x22, ex_r x23, ex_r x24, ex_r x25, ex_i x26, ex_i x27, ex_r x28, ex_r x29, ex_r x30, ex_r x31, ex_r x32, ex_r x33, ex_r x34, ex_r x35, ex_r x36, ex_r x37, ex_r x38, ex_r x39, ex_i x40, ex_j x41, ex_r x42, ex_r x43, ex_r x44, ex_r x45, ex_r x46, ex_r x47, ex_r x48, ex_r x49, ex_r x50, ex_r x51, ex_r x52, ex_r x53, ex_i x54, ex_i x55, ex_i x56, ex_i x57, ex_r x58, ex_r x59, ex_r x60, ex_r x61, ex_i x62, ex_r x63, ex_r x64, ex_i x65, ex_j x66]), (x47, ex_a 1 30 v_1)]) (lv' := [(0, ex_r m)]) (by subst hL2; rfl) (by subst hL2; rfl) ?_
      exact hrest2 trivial
    · have hlt2 : k2 < 6 := nlen (L := 6) (by omega) hb2 c_2
      rw [show 6 - k2 = (6 - (k2 + 1)) + 1 by omega] at hL2
      have hL2 := hL2.trans (F_X12_forgets_L2_s ..)
      refine X_aload_n (j := 1) dX12_forgets_8 rfl rfl ?_
      refine X_get (j := 0) fo_X12_114 dX12_forgets_9 rfl rfl ?_
      refine X_iload_n (j := 0) dX12_forgets_12 rfl rfl ?_
      refine X_iconst (v := (-1)) dX12_forgets_13 (by decide) ?_
      refine X_iast (j := 1) (g := upd s2_0 k2 (-1)) (cs' := [(m, ex_o 12 [ex_i x0, ex_i x1, ex_r x2, ex_i x3, ex_i x4, ex_i x5, ex_i x6, ex_j x7, ex_i x8, ex_i x9, ex_r x10, ex_r x11, ex_r x12, ex_r x13, ex_r x14, ex_r x15, ex_r x16, ex_r x17, ex_r x18, ex_r x19, ex_r x20, ex_r x21, ex_r x22, ex_r x23, ex_r x24, ex_r x25, ex_i x26, ex_i x27, ex_r x28, ex_r x29, ex_r x30, ex_r x31, ex_r x32, ex_r x33, ex_r x34, ex_r x35, ex_r x36, ex_r x37, ex_r x38, ex_r x39, ex_i x40, ex_j x41, ex_r x42, ex_r x43, ex_r x44, ex_r x45, ex_r x46, ex_r x47, ex_r x48, ex_r x49, ex_r x50, ex_r x51, ex_r x52, ex_r x53, ex_i x54, ex_i x55, ex_i x56, ex_i x57, ex_r x58, ex_r x59, ex_r x60, ex_r x61, ex_i x62, ex_r x63, ex_r x64, ex_i x65, ex_j x66]), (x47, ex_a 1 30 (upd s2_0 k2 (-1)))]) dX12_forgets_14 rfl (vp_in_nI (show k2 < 30 by omega) (by decide)) (by rw [nI_clamp (by omega)]) rfl ?_
      refine X_iinc (v := nI (k2 + 1)) (j := 0) (lv' := [(1, ex_i (nI (k2 + 1))), (0, ex_r m)]) dX12_forgets_15 rfl (nI_add k2 1) (Nat.le_of_ble_eq_true rfl) rfl ?_
      refine X_goto (tgt := 2) dX12_forgets_18 (by decide) ?_
      try dsimp only at hL2
      exact ihc2 (k2 + 1) (upd s2_0 k2 (-1)) ⟨hL2, (show (k2 + 1) ≤ 6 by omega)⟩ (show 6 - (k2 + 1) < 6 - k2 by omega)
  try dsimp only at hV
  exact X_vret dX12_forgets_21 (by (repeat refine ex_kc ?_) <;> rfl) (by subst hV; exact ⟨rfl, rfl⟩)
