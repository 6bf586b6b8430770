theorem rS_lt {np : Nat} {zf ze s : Nat → Int32} : ∀ (n k : Nat) (a : Nat), k + n ≤ 6 → a < 2 ^ k → ∃ b, b < 2 ^ (k + n) ∧ F_X12_sitting_L4 zf ze s n k (nI a) = nI b
  | 0, k, a, _, h => ⟨a, h, rfl⟩
  | n + 1, k, a, hk, h => by
    rw [F_X12_sitting_L4_s]
    have hA := (by decide +kernel : ∀ k, k < 6 → ∀ a, a < 2 ^ k → nI a ||| (1 <<< (nI k &&& 31)) = nI (a + 2 ^ k) ∧ nI a ||| 0 = nI a) k (by omega) a h
    have h2 : 2 ^ (k + 1) = 2 ^ k + 2 ^ k := by rw [Nat.pow_succ]; omega
    split
    · rw [hA.1]
      obtain ⟨b, h3, h4⟩ := rS_lt (np := np) (zf := zf) (ze := ze) (s := s) n (k + 1) (a + 2 ^ k) (by omega) (by omega)
      exact ⟨b, by rw [show k + (n + 1) = k + 1 + n by omega]; exact h3, h4⟩
    · rw [hA.2]
      obtain ⟨b, h3, h4⟩ := rS_lt (np := np) (zf := zf) (ze := ze) (s := s) n (k + 1) a (by omega) (by omega)
      exact ⟨b, by rw [show k + (n + 1) = k + 1 + n by omega]; exact h3, h4⟩
theorem sit_lt {np : Nat} {zf ze s : Nat → Int32} (h : np ≤ 6) : (F_X12_sitting np zf ze s).toNatClampNeg < 2 ^ np := by
  obtain ⟨b, h1, h2⟩ := rS_lt (np := np) (zf := zf) (ze := ze) (s := s) (np - 0) 0 0 (by omega) (by decide)
  have hp := pow6 h
  rw [show 0 + (np - 0) = np by omega] at h1
  show (F_X12_sitting_L4 zf ze s (np - 0) 0 (nI 0)).toNatClampNeg < _
  rw [h2, nI_clamp (by omega)]
  exact h1

def F_X12_couples_L28 : Nat → Nat → (Nat → Int32) → (Nat → Int32)
  | 0, k28, s28_0 => s28_0
  | zn + 1, k28, s28_0 => F_X12_couples_L28 zn (k28 + 1) (upd s28_0 k28 (-1))
theorem F_X12_couples_L28_z (k28 : Nat) (s28_0 : Nat → Int32) : F_X12_couples_L28 0 k28 s28_0 = s28_0 := rfl
theorem F_X12_couples_L28_s (k28 : Nat) (s28_0 : Nat → Int32) (zn : Nat) : F_X12_couples_L28 (zn + 1) k28 s28_0 = F_X12_couples_L28 zn (k28 + 1) (upd s28_0 k28 (-1)) := rfl
def F_X12_couples_L28_2 : Nat → Nat → (Nat → Int32) → (Nat → Int32)
  | 0, k28, s28_0 => s28_0
  | zn + 1, k28, s28_0 => F_X12_couples_L28_2 zn (k28 + 1) (upd s28_0 k28 (-1))
theorem F_X12_couples_L28_2_z (k28 : Nat) (s28_0 : Nat → Int32) : F_X12_couples_L28_2 0 k28 s28_0 = s28_0 := rfl
theorem F_X12_couples_L28_2_s (k28 : Nat) (s28_0 : Nat → Int32) (zn : Nat) : F_X12_couples_L28_2 (zn + 1) k28 s28_0 = F_X12_couples_L28_2 zn (k28 + 1) (upd s28_0 k28 (-1)) := rfl
def F_X12_couples (np : Nat) (px : Int32) (x65 : Int32) (zt : Nat → Int32) (zf : Nat → Int32) (ze : Nat → Int32) (s : Nat → Int32) (po : Nat → Int32) (bp : Nat → Int32) : Int32 × Int32 × (Nat → Int32) × (Nat → Int32) × Int32 := (if px = (-1) then ((fun (v_2 : (Nat → Int32)) => (if ((F_X12_bits (nI (F_X12_sitting np zf ze s).toNatClampNeg)) - (F_X12_bits (nI (F_X12_sitting np zf ze s).toNatClampNeg)) / 2 * 2) = 1 then ((fun (w_6 : Int32 × (Nat → Int32) × (Nat → Int32)) => (0, w_6.1, w_6.2.1, w_6.2.2, w_6.1)) (F_X12_pairs_6 np ((F_X12_sitting np zf ze s).toNatClampNeg) 1 0 (-1) zt v_2 bp)) else ((fun (w_5 : Int32 × (Nat → Int32) × (Nat → Int32)) => (0, w_5.1, w_5.2.1, w_5.2.2, w_5.1)) (F_X12_pairs_6 np ((F_X12_sitting np zf ze s).toNatClampNeg) 0 0 (-1) zt v_2 bp)))) (F_X12_couples_L28 (6 - 0) 0 po)) else (if (F_X12_isPerson np px) = 0 then (0, x65, po, bp, (-2)) else ((fun (v_8 : (Nat → Int32)) => (if ((F_X12_bits (nI (F_X12_sitting np zf ze s).toNatClampNeg)) - (F_X12_bits (nI (F_X12_sitting np zf ze s).toNatClampNeg)) / 2 * 2) = 1 then ((fun (w_13 : Int32 × (Nat → Int32) × (Nat → Int32)) => (if (((nI (F_X12_sitting np zf ze s).toNatClampNeg) >>> (px &&& 31)) &&& 1) = 1 then (0, w_13.1, w_13.2.1, w_13.2.2, w_13.2.2 px.toNatClampNeg) else (0, w_13.1, w_13.2.1, w_13.2.2, (-1)))) (F_X12_pairs_6 np ((F_X12_sitting np zf ze s).toNatClampNeg) 1 0 (-1) zt v_8 bp)) else ((fun (w_11 : Int32 × (Nat → Int32) × (Nat → Int32)) => (if (((nI (F_X12_sitting np zf ze s).toNatClampNeg) >>> (px &&& 31)) &&& 1) = 1 then (0, w_11.1, w_11.2.1, w_11.2.2, w_11.2.2 px.toNatClampNeg) else (0, w_11.1, w_11.2.1, w_11.2.2, (-1)))) (F_X12_pairs_6 np ((F_X12_sitting np zf ze s).toNatClampNeg) 0 0 (-1) zt v_8 bp)))) (F_X12_couples_L28_2 (6 - 0) 0 po))))
set_option maxHeartbeats 4000000 in
set_option maxRecDepth 100000 in
theorem e_X12_couples (l : Launch) (np : Nat) (m : Nat) (px : Int32) (x0 : Int32) (x1 : Int32) (x2 : Nat) (x3 : Int32) (x4 : Int32) (x5 : Int32) (x6 : Int32) (x7 : Int64) (x8 : Int32) (x9 : Int32) (x10 : Nat) (x11 : Nat) (x12 : Nat) (x13 : Nat) (x14 : Nat) (x15 : Nat) (x16 : Nat) (x17 : Nat) (x18 : Nat) (x19 : Nat) (x20 : Nat) (x21 : Nat) (x22 : Nat) (x23 : Nat) (x24 : Nat) (x25 : Nat) (x26 : Int32) (x27 : Int32) (x28 : Nat) (x29 : Nat) (x30 : Nat) (x31 : Nat) (x32 : Nat) (x33 : Nat) (x34 : Nat) (x35 : Nat) (x36 : Nat) (x37 : Nat) (x38 : Nat) (x39 : Nat) (x40 : Int32) (x41 : Int64) (x42 : Nat) (x43 : Nat) (x44 : Nat) (x45 : Nat) (x46 : Nat) (x47 : Nat) (x48 : Nat) (x49 : Nat) (x50 : Nat) (x51 : Nat) (x52 : Nat) (x53 : Nat) (x54 : Int32) (x55 : Int32) (x56 : Int32) (x57 : Int32) (x58 : Nat) (x59 : Nat) (x60 : Nat) (x61 : Nat) (x62 : Int32) (x63 : Nat) (x64 : Nat) (x65 : Int32) (x66 : Int64) (ho : Nat → Int32) (zt : Nat → Int32) (zf : Nat → Int32) (ze : Nat → Int32) (s : Nat → Int32) (po : Nat → Int32) (bp : Nat → Int32) (hho0 : ho 0 = nI np) (hnp : np ≤ 6) : ex_M l yX12_couples cX12_couples 4 (some .int) 7 175 [ex_r m, ex_i px] [(m, ex_o 12 [ex_i x0, ex_i x1, ex_r x2, ex_i x3, ex_i x4, ex_i x5, ex_i x6, ex_j x7, ex_i x8, ex_i x9, ex_r x10, ex_r x11, ex_r x12, ex_r x13, ex_r x14, ex_r x15, ex_r x16, ex_r x17, ex_r x18, ex_r x19, ex_r x20, ex_r x21, ex_r x22, ex_r x23, ex_r x24, ex_r x25, ex_i x26, ex_i x27, ex_r x28, ex_r x29, ex_r x30, ex_r x31, ex_r x32, ex_r x33, ex_r x34, ex_r x35, ex_r x36, ex_r x37, ex_r x38, ex_r x39, ex_i x40, ex_j x41, ex_r x42, ex_r x43, ex_r x44, ex_r x45, ex_r x46, ex_r x47, ex_r x48, ex_r x49, ex_r x50, ex_r x51, ex_r x52, ex_r x53, ex_i x54, ex_i x55, ex_i x56, ex_i x57, ex_r x58, ex_r x59, ex_r x60, ex_r x61, ex_i x62, ex_r x63, ex_r x64, ex_i x65, ex_j x66]), (x10, ex_a 1 10 ho), (x15, ex_a 1 12 zt), (x17, ex_a 1 12 zf), (x18, ex_a 1 12 ze), (x48, ex_a 1 21 s), (x63, ex_a 1 6 po), (x64, ex_a 1 6 bp)] (fun zcs zr => zcs = [(m, ex_o 12 [ex_i ((F_X12_couples np px x65 zt zf ze s po bp).1), ex_i x1, ex_r x2, ex_i x3, ex_i x4, ex_i x5, ex_i x6, ex_j x7, ex_i x8, ex_i x9, ex_r x10, ex_r x11, ex_r x12, ex_r x13, ex_r x14, ex_r x15, ex_r x16, ex_r x17, ex_r x18, ex_r x19, ex_r x20, ex_r x21, ex_r x22, ex_r x23, ex_r x24, ex_r x25, ex_i x26, ex_i x27, ex_r x28, ex_r x29, ex_r x30, ex_r x31, ex_r x32, ex_r x33, ex_r x34, ex_r x35, ex_r x36, ex_r x37, ex_r x38, ex_r x39, ex_i x40, ex_j x41, ex_r x42, ex_r x43, ex_r x44, ex_r x45, ex_r x46, ex_r x47, ex_r x48, ex_r x49, ex_r x50, ex_r x51, ex_r x52, ex_r x53, ex_i x54, ex_i x55, ex_i x56, ex_i x57, ex_r x58, ex_r x59, ex_r x60, ex_r x61, ex_i x62, ex_r x63, ex_r x64, ex_i ((F_X12_couples np px x65 zt zf ze s po bp).2.1), ex_j x66]), (x10, ex_a 1 10 ho), (x15, ex_a 1 12 zt), (x17, ex_a 1 12 zf), (x18, ex_a 1 12 ze), (x48, ex_a 1 21 s), (x63, ex_a 1 6 ((F_X12_couples np px x65 zt zf ze s po bp).2.2.1)), (x64, ex_a 1 6 ((F_X12_couples np px x65 zt zf ze s po bp).2.2.2.1))] ∧ zr = some (ex_i (F_X12_couples np px x65 zt zf ze s po bp).2.2.2.2)) := by
  refine X_meth (by decide) (Nat.le_of_ble_eq_true rfl) ?_
  generalize hV : F_X12_couples np px x65 zt zf ze s po bp = V0
  have hV := hV.symm
  unfold F_X12_couples at hV
  try dsimp only at hV
  refine X_aload_n (j := 0) dX12_couples_0 rfl rfl ?_
  refine X_iconst (v := 0) dX12_couples_1 (by decide) ?_
  refine X_put (j := 0) (cs' := [(m, ex_o 12 [ex_i 0, ex_i x1, ex_r x2, ex_i x3, ex_i x4, ex_i x5, ex_i x6, ex_j x7, ex_i x8, ex_i x9, ex_r x10, ex_r x11, ex_r x12, ex_r x13, ex_r x14, ex_r x15, ex_r x16, ex_r x17, ex_r x18, ex_r x19, ex_r x20, ex_r x21, ex_r x22, ex_r x23, ex_r x24, ex_r x25, ex_i x26, ex_i x27, ex_r x28, ex_r x29, ex_r x30, ex_r x31, ex_r x32, ex_r x33, ex_r x34, ex_r x35, ex_r x36, ex_r x37, ex_r x38, ex_r x39, ex_i x40, ex_j x41, ex_r x42, ex_r x43, ex_r x44, ex_r x45, ex_r x46, ex_r x47, ex_r x48, ex_r x49, ex_r x50, ex_r x51, ex_r x52, ex_r x53, ex_i x54, ex_i x55, ex_i x56, ex_i x57, ex_r x58, ex_r x59, ex_r x60, ex_r x61, ex_i x62, ex_r x63, ex_r x64, ex_i x65, ex_j x66]), (x10, ex_a 1 10 ho), (x15, ex_a 1 12 zt), (x17, ex_a 1 12 zf), (x18, ex_a 1 12 ze), (x48, ex_a 1 21 s), (x63, ex_a 1 6 po), (x64, ex_a 1 6 bp)]) fo_X12_156 (by decide) dX12_couples_2 rfl (Nat.le_of_ble_eq_true rfl) trivial rfl ?_
  refine X_iload_n (j := 1) dX12_couples_5 rfl rfl ?_
  refine X_iconst (v := (-1)) dX12_couples_6 (by decide) ?_
  refine X_icmp_eq (tgt := 21) dX12_couples_7 (by decide) (fun c_1 => ?_) (fun c_1 => ?_)
  · have hV := hV.trans (if_pos c_1)
    refine X_aload_n (j := 0) dX12_couples_21 rfl rfl ?_
    refine X_callV (j0 := 0) (rest := [(x15, ex_a 1 12 zt), (x63, ex_a 1 6 po), (x64, ex_a 1 6 bp)]) (stk := []) co_X12_431 rfl ⟨(Nat.le_of_ble_eq_true rfl), (Nat.le_of_ble_eq_true rfl)⟩ (e_X12_sitting l np m 0 x1 x2 x3 x4 x5 x6 x7 x8 x9 x10 x11 x12 x13 x14 x15 x16 x17 x18 x19 x20 x21 x22 x23 x24 x25 x26 x27 x28 x29 x30 x31 x32 x33 x34 x35 x36 x37 x38 x39 x40 x41 x42 x43 x44 x45 x46 x47 x48 x49 x50 x51 x52 x53 x54 x55 x56 x57 x58 x59 x60 x61 x62 x63 x64 x65 x66 ho zf ze s (by first | assumption | omega) (by first | assumption | omega)) dX12_couples_22 [0, 1, 3, 4, 5, 2, 6, 7] (show List.Perm [0, 1, 3, 4, 5, 2, 6, 7] (List.range 8) from by decide) rfl rfl rfl rfl (Nat.le_of_ble_eq_true rfl) (fun zc1 zr hq hk => ?_)
    obtain ⟨rfl, rfl⟩ := hq
    refine X_istore_n (lv' := [(2, ex_i (F_X12_sitting np zf ze s)), (0, ex_r m), (1, ex_i px)]) dX12_couples_25 rfl (Nat.le_of_ble_eq_true rfl) rfl ?_
    have hws := nI_ofv (sit_in (np := np) (zf := zf) (ze := ze) (s := s) hnp) (by decide)
    have hx2 := hws.1
    have hl2 := sit_lt (zf := zf) (ze := ze) (s := s) hnp
    refine X_eq (cs' := [(m, ex_o 12 [ex_i 0, ex_i x1, ex_r x2, ex_i x3, ex_i x4, ex_i x5, ex_i x6, ex_j x7, ex_i x8, ex_i x9, ex_r x10, ex_r x11, ex_r x12, ex_r x13, ex_r x14, ex_r x15, ex_r x16, ex_r x17, ex_r x18, ex_r x19, ex_r x20, ex_r x21, ex_r x22, ex_r x23, ex_r x24, ex_r x25, ex_i x26, ex_i x27, ex_r x28, ex_r x29, ex_r x30, ex_r x31, ex_r x32, ex_r x33, ex_r x34, ex_r x35, ex_r x36, ex_r x37, ex_r x38, ex_r x39, ex_i x40, ex_j x41, ex_r x42, ex_r x43, ex_r x44, ex_r x45, ex_r x46, ex_r x47, ex_r x48, ex_r x49, ex_r x50, ex_r x51, ex_r x52, ex_r x53, ex_i x54, ex_i x55, ex_i x56, ex_i x57, ex_r x58, ex_r x59, ex_r x60, ex_r x61, ex_i x62, ex_r x63, ex_r x64, ex_i x65, ex_j x66]), (x10, ex_a 1 10 ho), (x17, ex_a 1 12 zf), (x18, ex_a 1 12 ze), (x48, ex_a 1 21 s), (x15, ex_a 1 12 zt), (x63, ex_a 1 6 po), (x64, ex_a 1 6 bp)]) (lv' := [(2, ex_i (nI (F_X12_sitting np zf ze s).toNatClampNeg)), (0, ex_r m), (1, ex_i px)]) rfl (by rw [← hx2] <;> rfl) ?_
    refine X_iconst (v := 0) dX12_couples_26 (by decide) ?_
    refine X_istore_n (lv' := [(3, ex_i 0), (2, ex_i (nI (F_X12_sitting np zf ze s).toNatClampNeg)), (0, ex_r m), (1, ex_i px)]) dX12_couples_27 rfl (Nat.le_of_ble_eq_true rfl) rfl ?_
    -- loop at 28
    try dsimp only at hV
    generalize hq_v_2 : F_X12_couples_L28 (6 - 0) 0 po = v_2 at hV
    try dsimp only at hV
    refine X_cut (P := True) (csE := [(m, ex_o 12 [ex_i 0, ex_i x1, ex_r x2, ex_i x3, ex_i x4, ex_i x5, ex_i x6, ex_j x7, ex_i x8, ex_i x9, ex_r x10, ex_r x11, ex_r x12, ex_r x13, ex_r x14, ex_r x15, ex_r x16, ex_r x17, ex_r x18, ex_r x19, ex_r x20, ex_r x21, ex_r x22, ex_r x23, ex_r x24, ex_r x25, ex_i x26, ex_i x27, ex_r x28, ex_r x29, ex_r x30, ex_r x31, ex_r x32, ex_r x33, ex_r x34, ex_r x35, ex_r x36, ex_r x37, ex_r x38, ex_r x39, ex_i x40, ex_j x41, ex_r x42, ex_r x43, ex_r x44, ex_r x45, ex_r x46, ex_r x47, ex_r x48, ex_r x49, ex_r x50, ex_r x51, ex_r x52, ex_r x53, ex_i x54, ex_i x55, ex_i x56, ex_i x57, ex_r x58, ex_r x59, ex_r x60, ex_r x61, ex_i x62, ex_r x63, ex_r x64, ex_i x65, ex_j x66]), (x10, ex_a 1 10 ho), (x17, ex_a 1 12 zf), (x18, ex_a 1 12 ze), (x48, ex_a 1 21 s), (x15, ex_a 1 12 zt), (x63, ex_a 1 6 v_2), (x64, ex_a 1 6 bp)]) (lvE := [(2, ex_i (nI (F_X12_sitting np zf ze s).toNatClampNeg)), (0, ex_r m), (1, ex_i px)]) (E := 47) (fun hrest28 => ?_) (fun hPX28 => ?_)
    · have hL28 := hq_v_2.symm
      refine X_ind (fun (a28 : Nat × (Nat → Int32)) => v_2 = F_X12_couples_L28 (6 - a28.1) a28.1 a28.2 ∧ a28.1 ≤ 6) (fun (a28 : Nat × (Nat → Int32)) => 6 - a28.1) (fun (a28 : Nat × (Nat → Int32)) => [(m, ex_o 12 [ex_i 0, ex_i x1, ex_r x2, ex_i x3, ex_i x4, ex_i x5, ex_i x6, ex_j x7, ex_i x8, ex_i x9, ex_r x10, ex_r x11, ex_r x12, ex_r x13, ex_r x14, ex_r x15, ex_r x16, ex_r x17, ex_r x18, ex_r x19, ex_r x20, ex_r x21, ex_r x22, ex_r x23, ex_r x24, ex_r x25, ex_i x26, ex_i x27, ex_r x28, ex_r x29, ex_r x30, ex_r x31, ex_r x32, ex_r x33, ex_r x34, ex_r x35, ex_r x36, ex_r x37, ex_r x38, ex_r x39, ex_i x40, ex_j x41, ex_r x42, ex_r x43, ex_r x44, ex_r x45, ex_r x46, ex_r x47, ex_r x48, ex_r x49, ex_r x50, ex_r x51, ex_r x52, ex_r x53, ex_i x54, ex_i x55, ex_i x56, ex_i x57, ex_r x58, ex_r x59, ex_r x60, ex_r x61, ex_i x62, ex_r x63, ex_r x64, ex_i x65, ex_j x66]), (x10, ex_a 1 10 ho), (x17, ex_a 1 12 zf), (x18, ex_a 1 12 ze), (x48, ex_a 1 21 s), (x15, ex_a 1 12 zt), (x63, ex_a 1 6 a28.2), (x64, ex_a 1 6 bp)]) (fun (a28 : Nat × (Nat → Int32)) => [(3, ex_i (nI a28.1)), (2, ex_i (nI (F_X12_sitting np zf ze s).toNatClampNeg)), (0, ex_r m), (1, ex_i px)]) (fun ⟨k28, s28_0⟩ hI28 ih28 => ?_) (0, po) ⟨hL28, (by omega)⟩
      try dsimp only at hI28 ih28 ⊢
      have ihc28 : ∀ (k28_ : Nat) (s28_0_ : Nat → Int32), (v_2 = F_X12_couples_L28 (6 - k28_) k28_ s28_0_ ∧ k28_ ≤ 6) → (6 - k28_) < (6 - k28) → ex_O _ _ _ _ _ _ _ _ _ [(m, ex_o 12 [ex_i 0, ex_i x1, ex_r x2, ex_i x3, ex_i x4, ex_i x5, ex_i x6, ex_j x7, ex_i x8, ex_i x9, ex_r x10, ex_r x11, ex_r x12, ex_r x13, ex_r x14, ex_r x15, ex_r x16, ex_r x17, ex_r x18, ex_r x19, ex_r x20, ex_r x21, ex_r x22, ex_r x23, ex_r x24, ex_r x25, ex_i x26, ex_i x27, ex_r x28, ex_r x29, ex_r x30, ex_r x31, ex_r x32, ex_r x33, ex_r x34, ex_r x35, ex_r x36, ex_r x37, ex_r x38, ex_r x39, ex_i x40, ex_j x41, ex_r x42, ex_r x43, ex_r x44, ex_r x45, ex_r x46, ex_r x47, ex_r x48, ex_r x49, ex_r x50, ex_r x51, ex_r x52, ex_r x53, ex_i x54, ex_i x55, ex_i x56, ex_i x57, ex_r x58, ex_r x59, ex_r x60, ex_r x61, ex_i x62, ex_r x63, ex_r x64, ex_i x65, ex_j x66]), (x10, ex_a 1 10 ho), (x17, ex_a 1 12 zf), (x18, ex_a 1 12 ze), (x48, ex_a 1 21 s), (x15, ex_a 1 12 zt), (x63, ex_a 1 6 s28_0_), (x64, ex_a 1 6 bp)] [(3, ex_i (nI k28_)), (2, ex_i (nI (F_X12_sitting np zf ze s).toNatClampNeg)), (0, ex_r m), (1, ex_i px)] _ _ := fun k28_ s28_0_ hi_ hm_ => ih28 (k28_, s28_0_) hi_ hm_
      have hL28 := hI28.1
      have hb28 := hI28.2
      refine X_iload_n (j := 0) dX12_couples_28 rfl rfl ?_
      refine X_bipush (v := 6) dX12_couples_29 (by decide) ?_
      refine X_icmp_ge (tgt := 47) dX12_couples_31 (by decide) (fun c_3 => ?_) (fun c_3 => ?_)
      · have hlt28 : k28 = 6 := nlex (L := 6) (by omega) hb28 c_3
        rw [show 6 - k28 = 0 by omega] at hL28
        have hL28 := hL28.trans (F_X12_couples_L28_z ..)
        try dsimp only at hL28
        refine X_lv (lv' := [(2, ex_i (nI (F_X12_sitting np zf ze s).toNatClampNeg)), (0, ex_r m), (1, ex_i px)]) [1, 2, 3] rfl ?_
        refine X_eq (cs' := [(m, ex_o 12 [ex_i 0, ex_i x1, ex_r x2, ex_i x3, ex_i x4, ex_i x5, ex_i x6, ex_j x7, ex_i x8, ex_i x9, ex_r x10, ex_r x11, ex_r x12, ex_r x13, ex_r x14, ex_r x15, ex_r x16, ex_r x17, ex_r x18, ex_r x19, ex_r x20, ex_r x21, ex_r x22, ex_r x23, ex_r x24, ex_r x25, ex_i x26, ex_i x27, ex_r x28, ex_r x29, ex_r x30, ex_r x31, ex_r x32, ex_r x33, ex_r x34, ex_r x35, ex_r x36, ex_r x37, ex_r x38, ex_r x39, ex_i x40, ex_j x41, ex_r x42, ex_r x43, ex_r x44, ex_r x45, ex_r x46, ex_r x47, ex_r x48, ex_r x49, ex_r x50, ex_r x51, ex_r x52, ex_r x53, ex_i x54, ex_i x55, ex_i x56, ex_i x57, ex_r x58, ex_r x59, ex_r x60, ex_r x61, ex_i x62, ex_r x63, ex_r x64, ex_i x65, ex_j x66]), (x10, ex_a 1 10 ho), (x17, ex_a 1 12 zf), (x18, ex_a 1 12 ze), (x48, ex_a 1 21 s), (x15, ex_a 1 12 zt), (x63, ex_a 1 6 v_2), (x64, ex_a 1 6 bp)]) (lv' := [(2, ex_i (nI (F_X12_sitting np zf ze s).toNatClampNeg)), (0, ex_r m), (1, ex_i px)]) (by subst hL28; rfl) (by subst hL28; rfl) ?_
        exact hrest28 trivial
      · have hlt28 : k28 < 6 := nlen (L := 6) (by omega) hb28 c_3
        rw [show 6 - k28 = (6 - (k28 + 1)) + 1 by omega] at hL28
        have hL28 := hL28.trans (F_X12_couples_L28_s ..)
        refine X_aload_n (j := 2) dX12_couples_34 rfl rfl ?_
        refine X_get (j := 0) fo_X12_147 dX12_couples_35 rfl rfl ?_
        refine X_iload_n (j := 0) dX12_couples_38 rfl rfl ?_
        refine X_iconst (v := (-1)) dX12_couples_39 (by decide) ?_
        refine X_iast (j := 6) (g := upd s28_0 k28 (-1)) (cs' := [(m, ex_o 12 [ex_i 0, ex_i x1, ex_r x2, ex_i x3, ex_i x4, ex_i x5, ex_i x6, ex_j x7, ex_i x8, ex_i x9, ex_r x10, ex_r x11, ex_r x12, ex_r x13, ex_r x14, ex_r x15, ex_r x16, ex_r x17, ex_r x18, ex_r x19, ex_r x20, ex_r x21, ex_r x22, ex_r x23, ex_r x24, ex_r x25, ex_i x26, ex_i x27, ex_r x28, ex_r x29, ex_r x30, ex_r x31, ex_r x32, ex_r x33, ex_r x34, ex_r x35, ex_r x36, ex_r x37, ex_r x38, ex_r x39, ex_i x40, ex_j x41, ex_r x42, ex_r x43, ex_r x44, ex_r x45, ex_r x46, ex_r x47, ex_r x48, ex_r x49, ex_r x50, ex_r x51, ex_r x52, ex_r x53, ex_i x54, ex_i x55, ex_i x56, ex_i x57, ex_r x58, ex_r x59, ex_r x60, ex_r x61, ex_i x62, ex_r x63, ex_r x64, ex_i x65, ex_j x66]), (x10, ex_a 1 10 ho), (x17, ex_a 1 12 zf), (x18, ex_a 1 12 ze), (x48, ex_a 1 21 s), (x15, ex_a 1 12 zt), (x63, ex_a 1 6 (upd s28_0 k28 (-1))), (x64, ex_a 1 6 bp)]) dX12_couples_40 rfl (vp_in_nI (show k28 < 6 by omega) (by decide)) (by rw [nI_clamp (by omega)]) rfl ?_
        refine X_iinc (v := nI (k28 + 1)) (j := 0) (lv' := [(3, ex_i (nI (k28 + 1))), (2, ex_i (nI (F_X12_sitting np zf ze s).toNatClampNeg)), (0, ex_r m), (1, ex_i px)]) dX12_couples_41 rfl (nI_add k28 1) (Nat.le_of_ble_eq_true rfl) rfl ?_
        refine X_goto (tgt := 28) dX12_couples_44 (by decide) ?_
        try dsimp only at hL28
        exact ihc28 (k28 + 1) (upd s28_0 k28 (-1)) ⟨hL28, (show (k28 + 1) ≤ 6 by omega)⟩ (show 6 - (k28 + 1) < 6 - k28 by omega)
    refine X_aload_n (j := 1) dX12_couples_47 rfl rfl ?_
    refine X_iconst (v := (-1)) dX12_couples_48 (by decide) ?_
    refine X_put (j := 0) (cs' := [(m, ex_o 12 [ex_i 0, ex_i x1, ex_r x2, ex_i x3, ex_i x4, ex_i x5, ex_i x6, ex_j x7, ex_i x8, ex_i x9, ex_r x10, ex_r x11, ex_r x12, ex_r x13, ex_r x14, ex_r x15, ex_r x16, ex_r x17, ex_r x18, ex_r x19, ex_r x20, ex_r x21, ex_r x22, ex_r x23, ex_r x24, ex_r x25, ex_i x26, ex_i x27, ex_r x28, ex_r x29, ex_r x30, ex_r x31, ex_r x32, ex_r x33, ex_r x34, ex_r x35, ex_r x36, ex_r x37, ex_r x38, ex_r x39, ex_i x40, ex_j x41, ex_r x42, ex_r x43, ex_r x44, ex_r x45, ex_r x46, ex_r x47, ex_r x48, ex_r x49, ex_r x50, ex_r x51, ex_r x52, ex_r x53, ex_i x54, ex_i x55, ex_i x56, ex_i x57, ex_r x58, ex_r x59, ex_r x60, ex_r x61, ex_i x62, ex_r x63, ex_r x64, ex_i (-1), ex_j x66]), (x10, ex_a 1 10 ho), (x17, ex_a 1 12 zf), (x18, ex_a 1 12 ze), (x48, ex_a 1 21 s), (x15, ex_a 1 12 zt), (x63, ex_a 1 6 v_2), (x64, ex_a 1 6 bp)]) fo_X12_509 (by decide) dX12_couples_49 rfl (Nat.le_of_ble_eq_true rfl) trivial rfl ?_
    refine X_aload_n (j := 1) dX12_couples_52 rfl rfl ?_
    refine X_iload_n (j := 0) dX12_couples_53 rfl rfl ?_
    refine X_iload_n (j := 0) dX12_couples_54 rfl rfl ?_
    refine X_callS (rest := [(m, ex_o 12 [ex_i 0, ex_i x1, ex_r x2, ex_i x3, ex_i x4, ex_i x5, ex_i x6, ex_j x7, ex_i x8, ex_i x9, ex_r x10, ex_r x11, ex_r x12, ex_r x13, ex_r x14, ex_r x15, ex_r x16, ex_r x17, ex_r x18, ex_r x19, ex_r x20, ex_r x21, ex_r x22, ex_r x23, ex_r x24, ex_r x25, ex_i x26, ex_i x27, ex_r x28, ex_r x29, ex_r x30, ex_r x31, ex_r x32, ex_r x33, ex_r x34, ex_r x35, ex_r x36, ex_r x37, ex_r x38, ex_r x39, ex_i x40, ex_j x41, ex_r x42, ex_r x43, ex_r x44, ex_r x45, ex_r x46, ex_r x47, ex_r x48, ex_r x49, ex_r x50, ex_r x51, ex_r x52, ex_r x53, ex_i x54, ex_i x55, ex_i x56, ex_i x57, ex_r x58, ex_r x59, ex_r x60, ex_r x61, ex_i x62, ex_r x63, ex_r x64, ex_i (-1), ex_j x66]), (x10, ex_a 1 10 ho), (x17, ex_a 1 12 zf), (x18, ex_a 1 12 ze), (x48, ex_a 1 21 s), (x15, ex_a 1 12 zt), (x63, ex_a 1 6 v_2), (x64, ex_a 1 6 bp)]) (stk := [ex_i (nI (F_X12_sitting np zf ze s).toNatClampNeg), ex_r m]) co_X12_503 rfl ⟨(Nat.le_of_ble_eq_true rfl), (Nat.le_of_ble_eq_true rfl)⟩ (e_X12_bits l (nI (F_X12_sitting np zf ze s).toNatClampNeg)) dX12_couples_55 [0, 1, 2, 3, 4, 5, 6, 7] (show List.Perm [0, 1, 2, 3, 4, 5, 6, 7] (List.range 8) from by decide) rfl rfl rfl (Nat.le_of_ble_eq_true rfl) (fun zc1 zr hq hk => ?_)
    obtain ⟨rfl, rfl⟩ := hq
    refine X_iconst (v := 2) dX12_couples_58 (by decide) ?_
    refine X_irem (v := ((F_X12_bits (nI (F_X12_sitting np zf ze s).toNatClampNeg)) - (F_X12_bits (nI (F_X12_sitting np zf ze s).toNatClampNeg)) / 2 * 2)) dX12_couples_59 (by decide) rfl ?_
    refine X_iconst (v := 1) dX12_couples_60 (by decide) ?_
    refine X_icmp_ne (tgt := 68) dX12_couples_61 (by decide) (fun c_4 => ?_) (fun c_4 => ?_)
    · have hV := hV.trans (if_neg c_4)
      refine X_iconst (v := 0) dX12_couples_68 (by decide) ?_
      refine X_iconst (v := 0) dX12_couples_69 (by decide) ?_
      refine X_callV (j0 := 0) (rest := [(x17, ex_a 1 12 zf), (x18, ex_a 1 12 ze), (x48, ex_a 1 21 s)]) (stk := []) co_X12_512 rfl ⟨(Nat.le_of_ble_eq_true rfl), (Nat.le_of_ble_eq_true rfl)⟩ (e_X12_pairs_6 l np m ((F_X12_sitting np zf ze s).toNatClampNeg) 0 0 0 x1 x2 x3 x4 x5 x6 x7 x8 x9 x10 x11 x12 x13 x14 x15 x16 x17 x18 x19 x20 x21 x22 x23 x24 x25 x26 x27 x28 x29 x30 x31 x32 x33 x34 x35 x36 x37 x38 x39 x40 x41 x42 x43 x44 x45 x46 x47 x48 x49 x50 x51 x52 x53 x54 x55 x56 x57 x58 x59 x60 x61 x62 x63 x64 (-1) x66 ho zt v_2 bp (by first | assumption | omega) (by first | assumption | omega) hws.2 hl2 (bits_le hws.2)) dX12_couples_70 [0, 1, 5, 6, 7, 2, 3, 4] (show List.Perm [0, 1, 5, 6, 7, 2, 3, 4] (List.range 8) from by decide) rfl rfl rfl rfl (Nat.le_of_ble_eq_true rfl) (fun zc1 zr hq hk => ?_)
      obtain ⟨rfl, rfl⟩ := hq
      try dsimp only at hV
      generalize hq_w_5 : F_X12_pairs_6 np ((F_X12_sitting np zf ze s).toNatClampNeg) 0 0 (-1) zt v_2 bp = w_5 at hV ⊢
      try dsimp only at hV
      refine X_iload_n (j := 2) dX12_couples_73 rfl rfl ?_
      refine X_iconst (v := (-1)) dX12_couples_74 (by decide) ?_
      refine X_icmp_ne (tgt := 85) dX12_couples_75 (by decide) (fun c_ => absurd c_1 c_) (fun _ => ?_)
      refine X_aload_n (j := 1) dX12_couples_78 rfl rfl ?_
      refine X_get (j := 0) fo_X12_509 dX12_couples_79 rfl rfl ?_
      refine X_goto (tgt := 104) dX12_couples_82 (by decide) ?_
      try dsimp only at hV
      refine X_re (cs' := [(m, ex_o 12 [ex_i 0, ex_i x1, ex_r x2, ex_i x3, ex_i x4, ex_i x5, ex_i x6, ex_j x7, ex_i x8, ex_i x9, ex_r x10, ex_r x11, ex_r x12, ex_r x13, ex_r x14, ex_r x15, ex_r x16, ex_r x17, ex_r x18, ex_r x19, ex_r x20, ex_r x21, ex_r x22, ex_r x23, ex_r x24, ex_r x25, ex_i x26, ex_i x27, ex_r x28, ex_r x29, ex_r x30, ex_r x31, ex_r x32, ex_r x33, ex_r x34, ex_r x35, ex_r x36, ex_r x37, ex_r x38, ex_r x39, ex_i x40, ex_j x41, ex_r x42, ex_r x43, ex_r x44, ex_r x45, ex_r x46, ex_r x47, ex_r x48, ex_r x49, ex_r x50, ex_r x51, ex_r x52, ex_r x53, ex_i x54, ex_i x55, ex_i x56, ex_i x57, ex_r x58, ex_r x59, ex_r x60, ex_r x61, ex_i x62, ex_r x63, ex_r x64, ex_i w_5.1, ex_j x66]), (x10, ex_a 1 10 ho), (x15, ex_a 1 12 zt), (x17, ex_a 1 12 zf), (x18, ex_a 1 12 ze), (x48, ex_a 1 21 s), (x63, ex_a 1 6 w_5.2.1), (x64, ex_a 1 6 w_5.2.2)]) [0, 1, 2, 5, 6, 7, 3, 4] (show List.Perm [0, 1, 2, 5, 6, 7, 3, 4] (List.range 8) from by decide) rfl ?_
      exact X_iret ex_nI rfl dX12_couples_104 (by (repeat refine ex_kc ?_) <;> rfl) (by subst hV; exact ⟨rfl, rfl⟩)
    · have hV := hV.trans (if_pos c_4)
      refine X_iconst (v := 1) dX12_couples_64 (by decide) ?_
      refine X_goto (tgt := 69) dX12_couples_65 (by decide) ?_
      refine X_iconst (v := 0) dX12_couples_69 (by decide) ?_
      refine X_callV (j0 := 0) (rest := [(x17, ex_a 1 12 zf), (x18, ex_a 1 12 ze), (x48, ex_a 1 21 s)]) (stk := []) co_X12_512 rfl ⟨(Nat.le_of_ble_eq_true rfl), (Nat.le_of_ble_eq_true rfl)⟩ (e_X12_pairs_6 l np m ((F_X12_sitting np zf ze s).toNatClampNeg) 1 0 0 x1 x2 x3 x4 x5 x6 x7 x8 x9 x10 x11 x12 x13 x14 x15 x16 x17 x18 x19 x20 x21 x22 x23 x24 x25 x26 x27 x28 x29 x30 x31 x32 x33 x34 x35 x36 x37 x38 x39 x40 x41 x42 x43 x44 x45 x46 x47 x48 x49 x50 x51 x52 x53 x54 x55 x56 x57 x58 x59 x60 x61 x62 x63 x64 (-1) x66 ho zt v_2 bp (by first | assumption | omega) (by first | assumption | omega) hws.2 hl2 (bits_le hws.2)) dX12_couples_70 [0, 1, 5, 6, 7, 2, 3, 4] (show List.Perm [0, 1, 5, 6, 7, 2, 3, 4] (List.range 8) from by decide) rfl rfl rfl rfl (Nat.le_of_ble_eq_true rfl) (fun zc1 zr hq hk => ?_)
      obtain ⟨rfl, rfl⟩ := hq
      try dsimp only at hV
      generalize hq_w_6 : F_X12_pairs_6 np ((F_X12_sitting np zf ze s).toNatClampNeg) 1 0 (-1) zt v_2 bp = w_6 at hV ⊢
      try dsimp only at hV
      refine X_iload_n (j := 2) dX12_couples_73 rfl rfl ?_
      refine X_iconst (v := (-1)) dX12_couples_74 (by decide) ?_
      refine X_icmp_ne (tgt := 85) dX12_couples_75 (by decide) (fun c_ => absurd c_1 c_) (fun _ => ?_)
      refine X_aload_n (j := 1) dX12_couples_78 rfl rfl ?_
      refine X_get (j := 0) fo_X12_509 dX12_couples_79 rfl rfl ?_
      refine X_goto (tgt := 104) dX12_couples_82 (by decide) ?_
      try dsimp only at hV
      refine X_re (cs' := [(m, ex_o 12 [ex_i 0, ex_i x1, ex_r x2, ex_i x3, ex_i x4, ex_i x5, ex_i x6, ex_j x7, ex_i x8, ex_i x9, ex_r x10, ex_r x11, ex_r x12, ex_r x13, ex_r x14, ex_r x15, ex_r x16, ex_r x17, ex_r x18, ex_r x19, ex_r x20, ex_r x21, ex_r x22, ex_r x23, ex_r x24, ex_r x25, ex_i x26, ex_i x27, ex_r x28, ex_r x29, ex_r x30, ex_r x31, ex_r x32, ex_r x33, ex_r x34, ex_r x35, ex_r x36, ex_r x37, ex_r x38, ex_r x39, ex_i x40, ex_j x41, ex_r x42, ex_r x43, ex_r x44, ex_r x45, ex_r x46, ex_r x47, ex_r x48, ex_r x49, ex_r x50, ex_r x51, ex_r x52, ex_r x53, ex_i x54, ex_i x55, ex_i x56, ex_i x57, ex_r x58, ex_r x59, ex_r x60, ex_r x61, ex_i x62, ex_r x63, ex_r x64, ex_i w_6.1, ex_j x66]), (x10, ex_a 1 10 ho), (x15, ex_a 1 12 zt), (x17, ex_a 1 12 zf), (x18, ex_a 1 12 ze), (x48, ex_a 1 21 s), (x63, ex_a 1 6 w_6.2.1), (x64, ex_a 1 6 w_6.2.2)]) [0, 1, 2, 5, 6, 7, 3, 4] (show List.Perm [0, 1, 2, 5, 6, 7, 3, 4] (List.range 8) from by decide) rfl ?_
      exact X_iret ex_nI rfl dX12_couples_104 (by (repeat refine ex_kc ?_) <;> rfl) (by subst hV; exact ⟨rfl, rfl⟩)
  · have hV := hV.trans (if_neg c_1)
    refine X_aload_n (j := 0) dX12_couples_10 rfl rfl ?_
    refine X_iload_n (j := 1) dX12_couples_11 rfl rfl ?_
    refine X_callV (j0 := 0) (rest := [(x15, ex_a 1 12 zt), (x17, ex_a 1 12 zf), (x18, ex_a 1 12 ze), (x48, ex_a 1 21 s), (x63, ex_a 1 6 po), (x64, ex_a 1 6 bp)]) (stk := []) co_X12_444 rfl ⟨(Nat.le_of_ble_eq_true rfl), (Nat.le_of_ble_eq_true rfl)⟩ (e_X12_isPerson l np m px 0 x1 x2 x3 x4 x5 x6 x7 x8 x9 x10 x11 x12 x13 x14 x15 x16 x17 x18 x19 x20 x21 x22 x23 x24 x25 x26 x27 x28 x29 x30 x31 x32 x33 x34 x35 x36 x37 x38 x39 x40 x41 x42 x43 x44 x45 x46 x47 x48 x49 x50 x51 x52 x53 x54 x55 x56 x57 x58 x59 x60 x61 x62 x63 x64 x65 x66 ho (by first | assumption | omega)) dX12_couples_12 [0, 1, 2, 3, 4, 5, 6, 7] (show List.Perm [0, 1, 2, 3, 4, 5, 6, 7] (List.range 8) from by decide) rfl rfl rfl rfl (Nat.le_of_ble_eq_true rfl) (fun zc1 zr hq hk => ?_)
    obtain ⟨rfl, rfl⟩ := hq
    refine X_if_ne (tgt := 21) dX12_couples_15 (by decide) (fun c_7 => ?_) (fun c_7 => ?_)
    · have hV := hV.trans (if_neg c_7)
      refine X_aload_n (j := 0) dX12_couples_21 rfl rfl ?_
      refine X_callV (j0 := 0) (rest := [(x15, ex_a 1 12 zt), (x63, ex_a 1 6 po), (x64, ex_a 1 6 bp)]) (stk := []) co_X12_431 rfl ⟨(Nat.le_of_ble_eq_true rfl), (Nat.le_of_ble_eq_true rfl)⟩ (e_X12_sitting l np m 0 x1 x2 x3 x4 x5 x6 x7 x8 x9 x10 x11 x12 x13 x14 x15 x16 x17 x18 x19 x20 x21 x22 x23 x24 x25 x26 x27 x28 x29 x30 x31 x32 x33 x34 x35 x36 x37 x38 x39 x40 x41 x42 x43 x44 x45 x46 x47 x48 x49 x50 x51 x52 x53 x54 x55 x56 x57 x58 x59 x60 x61 x62 x63 x64 x65 x66 ho zf ze s (by first | assumption | omega) (by first | assumption | omega)) dX12_couples_22 [0, 1, 3, 4, 5, 2, 6, 7] (show List.Perm [0, 1, 3, 4, 5, 2, 6, 7] (List.range 8) from by decide) rfl rfl rfl rfl (Nat.le_of_ble_eq_true rfl) (fun zc1 zr hq hk => ?_)
      obtain ⟨rfl, rfl⟩ := hq
      refine X_istore_n (lv' := [(2, ex_i (F_X12_sitting np zf ze s)), (0, ex_r m), (1, ex_i px)]) dX12_couples_25 rfl (Nat.le_of_ble_eq_true rfl) rfl ?_
      have hws := nI_ofv (sit_in (np := np) (zf := zf) (ze := ze) (s := s) hnp) (by decide)
      have hx2 := hws.1
      have hl2 := sit_lt (zf := zf) (ze := ze) (s := s) hnp
      refine X_eq (cs' := [(m, ex_o 12 [ex_i 0, ex_i x1, ex_r x2, ex_i x3, ex_i x4, ex_i x5, ex_i x6, ex_j x7, ex_i x8, ex_i x9, ex_r x10, ex_r x11, ex_r x12, ex_r x13, ex_r x14, ex_r x15, ex_r x16, ex_r x17, ex_r x18, ex_r x19, ex_r x20, ex_r x21, ex_r x22, ex_r x23, ex_r x24, ex_r x25, ex_i x26, ex_i x27, ex_r x28, ex_r x29, ex_r x30, ex_r x31, ex_r x32, ex_r x33, ex_r x34, ex_r x35, ex_r x36, ex_r x37, ex_r x38, ex_r x39, ex_i x40, ex_j x41, ex_r x42, ex_r x43, ex_r x44, ex_r x45, ex_r x46, ex_r x47, ex_r x48, ex_r x49, ex_r x50, ex_r x51, ex_r x52, ex_r x53, ex_i x54, ex_i x55, ex_i x56, ex_i x57, ex_r x58, ex_r x59, ex_r x60, ex_r x61, ex_i x62, ex_r x63, ex_r x64, ex_i x65, ex_j x66]), (x10, ex_a 1 10 ho), (x17, ex_a 1 12 zf), (x18, ex_a 1 12 ze), (x48, ex_a 1 21 s), (x15, ex_a 1 12 zt), (x63, ex_a 1 6 po), (x64, ex_a 1 6 bp)]) (lv' := [(2, ex_i (nI (F_X12_sitting np zf ze s).toNatClampNeg)), (0, ex_r m), (1, ex_i px)]) rfl (by rw [← hx2] <;> rfl) ?_
      refine X_iconst (v := 0) dX12_couples_26 (by decide) ?_
      refine X_istore_n (lv' := [(3, ex_i 0), (2, ex_i (nI (F_X12_sitting np zf ze s).toNatClampNeg)), (0, ex_r m), (1, ex_i px)]) dX12_couples_27 rfl (Nat.le_of_ble_eq_true rfl) rfl ?_
      -- loop at 28
      try dsimp only at hV
      generalize hq_v_8 : F_X12_couples_L28_2 (6 - 0) 0 po = v_8 at hV
      try dsimp only at hV
      refine X_cut (P := True) (csE := [(m, ex_o 12 [ex_i 0, ex_i x1, ex_r x2, ex_i x3, ex_i x4, ex_i x5, ex_i x6, ex_j x7, ex_i x8, ex_i x9, ex_r x10, ex_r x11, ex_r x12, ex_r x13, ex_r x14, ex_r x15, ex_r x16, ex_r x17, ex_r x18, ex_r x19, ex_r x20, ex_r x21, ex_r x22, ex_r x23, ex_r x24, ex_r x25, ex_i x26, ex_i x27, ex_r x28, ex_r x29, ex_r x30, ex_r x31, ex_r x32, ex_r x33, ex_r x34, ex_r x35, ex_r x36, ex_r x37, ex_r x38, ex_r x39, ex_i x40, ex_j x41, ex_r x42, ex_r x43, ex_r x44, ex_r x45, ex_r x46, ex_r x47, ex_r x48, ex_r x49, ex_r x50, ex_r x51, ex_r x52, ex_r x53, ex_i x54, ex_i x55, ex_i x56, ex_i x57, ex_r x58, ex_r x59, ex_r x60, ex_r x61, ex_i x62, ex_r x63, ex_r x64, ex_i x65, ex_j x66]), (x10, ex_a 1 10 ho), (x17, ex_a 1 12 zf), (x18, ex_a 1 12 ze), (x48, ex_a 1 21 s), (x15, ex_a 1 12 zt), (x63, ex_a 1 6 v_8), (x64, ex_a 1 6 bp)]) (lvE := [(2, ex_i (nI (F_X12_sitting np zf ze s).toNatClampNeg)), (0, ex_r m), (1, ex_i px)]) (E := 47) (fun hrest28 => ?_) (fun hPX28 => ?_)
      · have hL28 := hq_v_8.symm
        refine X_ind (fun (a28 : Nat × (Nat → Int32)) => v_8 = F_X12_couples_L28_2 (6 - a28.1) a28.1 a28.2 ∧ a28.1 ≤ 6) (fun (a28 : Nat × (Nat → Int32)) => 6 - a28.1) (fun (a28 : Nat × (Nat → Int32)) => [(m, ex_o 12 [ex_i 0, ex_i x1, ex_r x2, ex_i x3, ex_i x4, ex_i x5, ex_i x6, ex_j x7, ex_i x8, ex_i x9, ex_r x10, ex_r x11, ex_r x12, ex_r x13, ex_r x14, ex_r x15, ex_r x16, ex_r x17, ex_r x18, ex_r x19, ex_r x20, ex_r x21, ex_r x22, ex_r x23, ex_r x24, ex_r x25, ex_i x26, ex_i x27, ex_r x28, ex_r x29, ex_r x30, ex_r x31, ex_r x32, ex_r x33, ex_r x34, ex_r x35, ex_r x36, ex_r x37, ex_r x38, ex_r x39, ex_i x40, ex_j x41, ex_r x42, ex_r x43, ex_r x44, ex_r x45, ex_r x46, ex_r x47, ex_r x48, ex_r x49, ex_r x50, ex_r x51, ex_r x52, ex_r x53, ex_i x54, ex_i x55, ex_i x56, ex_i x57, ex_r x58, ex_r x59, ex_r x60, ex_r x61, ex_i x62, ex_r x63, ex_r x64, ex_i x65, ex_j x66]), (x10, ex_a 1 10 ho), (x17, ex_a 1 12 zf), (x18, ex_a 1 12 ze), (x48, ex_a 1 21 s), (x15, ex_a 1 12 zt), (x63, ex_a 1 6 a28.2), (x64, ex_a 1 6 bp)]) (fun (a28 : Nat × (Nat → Int32)) => [(3, ex_i (nI a28.1)), (2, ex_i (nI (F_X12_sitting np zf ze s).toNatClampNeg)), (0, ex_r m), (1, ex_i px)]) (fun ⟨k28, s28_0⟩ hI28 ih28 => ?_) (0, po) ⟨hL28, (by omega)⟩
        try dsimp only at hI28 ih28 ⊢
        have ihc28 : ∀ (k28_ : Nat) (s28_0_ : Nat → Int32), (v_8 = F_X12_couples_L28_2 (6 - k28_) k28_ s28_0_ ∧ k28_ ≤ 6) → (6 - k28_) < (6 - k28) → ex_O _ _ _ _ _ _ _ _ _ [(m, ex_o 12 [ex_i 0, ex_i x1, ex_r x2, ex_i x3, ex_i x4, ex_i x5, ex_i x6, ex_j x7, ex_i x8, ex_i x9, ex_r x10, ex_r x11, ex_r x12, ex_r x13, ex_r x14, ex_r x15, ex_r x16, ex_r x17, ex_r x18, ex_r x19, ex_r x20, ex_r x21, ex_r x22, ex_r x23, ex_r x24, ex_r x25, ex_i x26, ex_i x27, ex_r x28, ex_r x29, ex_r x30, ex_r x31, ex_r x32, ex_r x33, ex_r x34, ex_r x35, ex_r x36, ex_r x37, ex_r x38, ex_r x39, ex_i x40, ex_j x41, ex_r x42, ex_r x43, ex_r x44, ex_r x45, ex_r x46, ex_r x47, ex_r x48, ex_r x49, ex_r x50, ex_r x51, ex_r x52, ex_r x53, ex_i x54, ex_i x55, ex_i x56, ex_i x57, ex_r x58, ex_r x59, ex_r x60, ex_r x61, ex_i x62, ex_r x63, ex_r x64, ex_i x65, ex_j x66]), (x10, ex_a 1 10 ho), (x17, ex_a 1 12 zf), (x18, ex_a 1 12 ze), (x48, ex_a 1 21 s), (x15, ex_a 1 12 zt), (x63, ex_a 1 6 s28_0_), (x64, ex_a 1 6 bp)] [(3, ex_i (nI k28_)), (2, ex_i (nI (F_X12_sitting np zf ze s).toNatClampNeg)), (0, ex_r m), (1, ex_i px)] _ _ := fun k28_ s28_0_ hi_ hm_ => ih28 (k28_, s28_0_) hi_ hm_
        have hL28 := hI28.1
        have hb28 := hI28.2
        refine X_iload_n (j := 0) dX12_couples_28 rfl rfl ?_
        refine X_bipush (v := 6) dX12_couples_29 (by decide) ?_
        refine X_icmp_ge (tgt := 47) dX12_couples_31 (by decide) (fun c_9 => ?_) (fun c_9 => ?_)
        · have hlt28 : k28 = 6 := nlex (L := 6) (by omega) hb28 c_9
          rw [show 6 - k28 = 0 by omega] at hL28
          have hL28 := hL28.trans (F_X12_couples_L28_2_z ..)
          try dsimp only at hL28
          refine X_lv (lv' := [(2, ex_i (nI (F_X12_sitting np zf ze s).toNatClampNeg)), (0, ex_r m), (1, ex_i px)]) [1, 2, 3] rfl ?_
          refine X_eq (cs' := [(m, ex_o 12 [ex_i 0, ex_i x1, ex_r x2, ex_i x3, ex_i x4, ex_i x5, ex_i x6, ex_j x7, ex_i x8, ex_i x9, ex_r x10, ex_r x11, ex_r x12, ex_r x13, ex_r x14, ex_r x15, ex_r x16, ex_r x17, ex_r x18, ex_r x19, ex_r x20, ex_r x21, ex_r x22, ex_r x23, ex_r x24, ex_r x25, ex_i x26, ex_i x27, ex_r x28, ex_r x29, ex_r x30, ex_r x31, ex_r x32, ex_r x33, ex_r x34, ex_r x35, ex_r x36, ex_r x37, ex_r x38, ex_r x39, ex_i x40, ex_j x41, ex_r x42, ex_r x43, ex_r x44, ex_r x45, ex_r x46, ex_r x47, ex_r x48, ex_r x49, ex_r x50, ex_r x51, ex_r x52, ex_r x53, ex_i x54, ex_i x55, ex_i x56, ex_i x57, ex_r x58, ex_r x59, ex_r x60, ex_r x61, ex_i x62, ex_r x63, ex_r x64, ex_i x65, ex_j x66]), (x10, ex_a 1 10 ho), (x17, ex_a 1 12 zf), (x18, ex_a 1 12 ze), (x48, ex_a 1 21 s), (x15, ex_a 1 12 zt), (x63, ex_a 1 6 v_8), (x64, ex_a 1 6 bp)]) (lv' := [(2, ex_i (nI (F_X12_sitting np zf ze s).toNatClampNeg)), (0, ex_r m), (1, ex_i px)]) (by subst hL28; rfl) (by subst hL28; rfl) ?_
          exact hrest28 trivial
        · have hlt28 : k28 < 6 := nlen (L := 6) (by omega) hb28 c_9
          rw [show 6 - k28 = (6 - (k28 + 1)) + 1 by omega] at hL28
          have hL28 := hL28.trans (F_X12_couples_L28_2_s ..)
          refine X_aload_n (j := 2) dX12_couples_34 rfl rfl ?_
          refine X_get (j := 0) fo_X12_147 dX12_couples_35 rfl rfl ?_
          refine X_iload_n (j := 0) dX12_couples_38 rfl rfl ?_
          refine X_iconst (v := (-1)) dX12_couples_39 (by decide) ?_
          refine X_iast (j := 6) (g := upd s28_0 k28 (-1)) (cs' := [(m, ex_o 12 [ex_i 0, ex_i x1, ex_r x2, ex_i x3, ex_i x4, ex_i x5, ex_i x6, ex_j x7, ex_i x8, ex_i x9, ex_r x10, ex_r x11, ex_r x12, ex_r x13, ex_r x14, ex_r x15, ex_r x16, ex_r x17, ex_r x18, ex_r x19, ex_r x20, ex_r x21, ex_r x22, ex_r x23, ex_r x24, ex_r x25, ex_i x26, ex_i x27, ex_r x28, ex_r x29, ex_r x30, ex_r x31, ex_r x32, ex_r x33, ex_r x34, ex_r x35, ex_r x36, ex_r x37, ex_r x38, ex_r x39, ex_i x40, ex_j x41, ex_r x42, ex_r x43, ex_r x44, ex_r x45, ex_r x46, ex_r x47, ex_r x48, ex_r x49, ex_r x50, ex_r x51, ex_r x52, ex_r x53, ex_i x54, ex_i x55, ex_i x56, ex_i x57, ex_r x58, ex_r x59, ex_r x60, ex_r x61, ex_i x62, ex_r x63, ex_r x64, ex_i x65, ex_j x66]), (x10, ex_a 1 10 ho), (x17, ex_a 1 12 zf), (x18, ex_a 1 12 ze), (x48, ex_a 1 21 s), (x15, ex_a 1 12 zt), (x63, ex_a 1 6 (upd s28_0 k28 (-1))), (x64, ex_a 1 6 bp)]) dX12_couples_40 rfl (vp_in_nI (show k28 < 6 by omega) (by decide)) (by rw [nI_clamp (by omega)]) rfl ?_
          refine X_iinc (v := nI (k28 + 1)) (j := 0) (lv' := [(3, ex_i (nI (k28 + 1))), (2, ex_i (nI (F_X12_sitting np zf ze s).toNatClampNeg)), (0, ex_r m), (1, ex_i px)]) dX12_couples_41 rfl (nI_add k28 1) (Nat.le_of_ble_eq_true rfl) rfl ?_
          refine X_goto (tgt := 28) dX12_couples_44 (by decide) ?_
          try dsimp only at hL28
          exact ihc28 (k28 + 1) (upd s28_0 k28 (-1)) ⟨hL28, (show (k28 + 1) ≤ 6 by omega)⟩ (show 6 - (k28 + 1) < 6 - k28 by omega)
      refine X_aload_n (j := 1) dX12_couples_47 rfl rfl ?_
      refine X_iconst (v := (-1)) dX12_couples_48 (by decide) ?_
      refine X_put (j := 0) (cs' := [(m, ex_o 12 [ex_i 0, ex_i x1, ex_r x2, ex_i x3, ex_i x4, ex_i x5, ex_i x6, ex_j x7, ex_i x8, ex_i x9, ex_r x10, ex_r x11, ex_r x12, ex_r x13, ex_r x14, ex_r x15, ex_r x16, ex_r x17, ex_r x18, ex_r x19, ex_r x20, ex_r x21, ex_r x22, ex_r x23, ex_r x24, ex_r x25, ex_i x26, ex_i x27, ex_r x28, ex_r x29, ex_r x30, ex_r x31, ex_r x32, ex_r x33, ex_r x34, ex_r x35, ex_r x36, ex_r x37, ex_r x38, ex_r x39, ex_i x40, ex_j x41, ex_r x42, ex_r x43, ex_r x44, ex_r x45, ex_r x46, ex_r x47, ex_r x48, ex_r x49, ex_r x50, ex_r x51, ex_r x52, ex_r x53, ex_i x54, ex_i x55, ex_i x56, ex_i x57, ex_r x58, ex_r x59, ex_r x60, ex_r x61, ex_i x62, ex_r x63, ex_r x64, ex_i (-1), ex_j x66]), (x10, ex_a 1 10 ho), (x17, ex_a 1 12 zf), (x18, ex_a 1 12 ze), (x48, ex_a 1 21 s), (x15, ex_a 1 12 zt), (x63, ex_a 1 6 v_8), (x64, ex_a 1 6 bp)]) fo_X12_509 (by decide) dX12_couples_49 rfl (Nat.le_of_ble_eq_true rfl) trivial rfl ?_
      refine X_aload_n (j := 1) dX12_couples_52 rfl rfl ?_
      refine X_iload_n (j := 0) dX12_couples_53 rfl rfl ?_
      refine X_iload_n (j := 0) dX12_couples_54 rfl rfl ?_
      refine X_callS (rest := [(m, ex_o 12 [ex_i 0, ex_i x1, ex_r x2, ex_i x3, ex_i x4, ex_i x5, ex_i x6, ex_j x7, ex_i x8, ex_i x9, ex_r x10, ex_r x11, ex_r x12, ex_r x13, ex_r x14, ex_r x15, ex_r x16, ex_r x17, ex_r x18, ex_r x19, ex_r x20, ex_r x21, ex_r x22, ex_r x23, ex_r x24, ex_r x25, ex_i x26, ex_i x27, ex_r x28, ex_r x29, ex_r x30, ex_r x31, ex_r x32, ex_r x33, ex_r x34, ex_r x35, ex_r x36, ex_r x37, ex_r x38, ex_r x39, ex_i x40, ex_j x41, ex_r x42, ex_r x43, ex_r x44, ex_r x45, ex_r x46, ex_r x47, ex_r x48, ex_r x49, ex_r x50, ex_r x51, ex_r x52, ex_r x53, ex_i x54, ex_i x55, ex_i x56, ex_i x57, ex_r x58, ex_r x59, ex_r x60, ex_r x61, ex_i x62, ex_r x63, ex_r x64, ex_i (-1), ex_j x66]), (x10, ex_a 1 10 ho), (x17, ex_a 1 12 zf), (x18, ex_a 1 12 ze), (x48, ex_a 1 21 s), (x15, ex_a 1 12 zt), (x63, ex_a 1 6 v_8), (x64, ex_a 1 6 bp)]) (stk := [ex_i (nI (F_X12_sitting np zf ze s).toNatClampNeg), ex_r m]) co_X12_503 rfl ⟨(Nat.le_of_ble_eq_true rfl), (Nat.le_of_ble_eq_true rfl)⟩ (e_X12_bits l (nI (F_X12_sitting np zf ze s).toNatClampNeg)) dX12_couples_55 [0, 1, 2, 3, 4, 5, 6, 7] (show List.Perm [0, 1, 2, 3, 4, 5, 6, 7] (List.range 8) from by decide) rfl rfl rfl (Nat.le_of_ble_eq_true rfl) (fun zc1 zr hq hk => ?_)
      obtain ⟨rfl, rfl⟩ := hq
      refine X_iconst (v := 2) dX12_couples_58 (by decide) ?_
      refine X_irem (v := ((F_X12_bits (nI (F_X12_sitting np zf ze s).toNatClampNeg)) - (F_X12_bits (nI (F_X12_sitting np zf ze s).toNatClampNeg)) / 2 * 2)) dX12_couples_59 (by decide) rfl ?_
      refine X_iconst (v := 1) dX12_couples_60 (by decide) ?_
      refine X_icmp_ne (tgt := 68) dX12_couples_61 (by decide) (fun c_10 => ?_) (fun c_10 => ?_)
      · have hV := hV.trans (if_neg c_10)
        refine X_iconst (v := 0) dX12_couples_68 (by decide) ?_
        refine X_iconst (v := 0) dX12_couples_69 (by decide) ?_
        refine X_callV (j0 := 0) (rest := [(x17, ex_a 1 12 zf), (x18, ex_a 1 12 ze), (x48, ex_a 1 21 s)]) (stk := []) co_X12_512 rfl ⟨(Nat.le_of_ble_eq_true rfl), (Nat.le_of_ble_eq_true rfl)⟩ (e_X12_pairs_6 l np m ((F_X12_sitting np zf ze s).toNatClampNeg) 0 0 0 x1 x2 x3 x4 x5 x6 x7 x8 x9 x10 x11 x12 x13 x14 x15 x16 x17 x18 x19 x20 x21 x22 x23 x24 x25 x26 x27 x28 x29 x30 x31 x32 x33 x34 x35 x36 x37 x38 x39 x40 x41 x42 x43 x44 x45 x46 x47 x48 x49 x50 x51 x52 x53 x54 x55 x56 x57 x58 x59 x60 x61 x62 x63 x64 (-1) x66 ho zt v_8 bp (by first | assumption | omega) (by first | assumption | omega) hws.2 hl2 (bits_le hws.2)) dX12_couples_70 [0, 1, 5, 6, 7, 2, 3, 4] (show List.Perm [0, 1, 5, 6, 7, 2, 3, 4] (List.range 8) from by decide) rfl rfl rfl rfl (Nat.le_of_ble_eq_true rfl) (fun zc1 zr hq hk => ?_)
        obtain ⟨rfl, rfl⟩ := hq
        try dsimp only at hV
        generalize hq_w_11 : F_X12_pairs_6 np ((F_X12_sitting np zf ze s).toNatClampNeg) 0 0 (-1) zt v_8 bp = w_11 at hV ⊢
        try dsimp only at hV
        refine X_iload_n (j := 2) dX12_couples_73 rfl rfl ?_
        refine X_iconst (v := (-1)) dX12_couples_74 (by decide) ?_
        refine X_icmp_ne (tgt := 85) dX12_couples_75 (by decide) (fun _ => ?_) (fun c_ => absurd c_ c_1)
        refine X_iload_n (j := 0) dX12_couples_85 rfl rfl ?_
        refine X_iload_n (j := 2) dX12_couples_86 rfl rfl ?_
        refine X_ishr (v := ((nI (F_X12_sitting np zf ze s).toNatClampNeg) >>> (px &&& 31))) dX12_couples_87 rfl ?_
        refine X_iconst (v := 1) dX12_couples_88 (by decide) ?_
        refine X_iand (v := (((nI (F_X12_sitting np zf ze s).toNatClampNeg) >>> (px &&& 31)) &&& 1)) dX12_couples_89 rfl ?_
        refine X_iconst (v := 1) dX12_couples_90 (by decide) ?_
        refine X_icmp_ne (tgt := 103) dX12_couples_91 (by decide) (fun c_12 => ?_) (fun c_12 => ?_)
        · have hV := hV.trans (if_neg c_12)
          refine X_iconst (v := (-1)) dX12_couples_103 (by decide) ?_
          try dsimp only at hV
          refine X_re (cs' := [(m, ex_o 12 [ex_i 0, ex_i x1, ex_r x2, ex_i x3, ex_i x4, ex_i x5, ex_i x6, ex_j x7, ex_i x8, ex_i x9, ex_r x10, ex_r x11, ex_r x12, ex_r x13, ex_r x14, ex_r x15, ex_r x16, ex_r x17, ex_r x18, ex_r x19, ex_r x20, ex_r x21, ex_r x22, ex_r x23, ex_r x24, ex_r x25, ex_i x26, ex_i x27, ex_r x28, ex_r x29, ex_r x30, ex_r x31, ex_r x32, ex_r x33, ex_r x34, ex_r x35, ex_r x36, ex_r x37, ex_r x38, ex_r x39, ex_i x40, ex_j x41, ex_r x42, ex_r x43, ex_r x44, ex_r x45, ex_r x46, ex_r x47, ex_r x48, ex_r x49, ex_r x50, ex_r x51, ex_r x52, ex_r x53, ex_i x54, ex_i x55, ex_i x56, ex_i x57, ex_r x58, ex_r x59, ex_r x60, ex_r x61, ex_i x62, ex_r x63, ex_r x64, ex_i w_11.1, ex_j x66]), (x10, ex_a 1 10 ho), (x15, ex_a 1 12 zt), (x17, ex_a 1 12 zf), (x18, ex_a 1 12 ze), (x48, ex_a 1 21 s), (x63, ex_a 1 6 w_11.2.1), (x64, ex_a 1 6 w_11.2.2)]) [0, 1, 2, 5, 6, 7, 3, 4] (show List.Perm [0, 1, 2, 5, 6, 7, 3, 4] (List.range 8) from by decide) rfl ?_
          exact X_iret ex_nI rfl dX12_couples_104 (by (repeat refine ex_kc ?_) <;> rfl) (by subst hV; exact ⟨rfl, rfl⟩)
        · have hV := hV.trans (if_pos c_12)
          have hz1 := rPe_of c_7 hnp
          have hx1 := hz1.1
          have hl1 := hz1.2
          refine X_eq (cs' := [(m, ex_o 12 [ex_i 0, ex_i x1, ex_r x2, ex_i x3, ex_i x4, ex_i x5, ex_i x6, ex_j x7, ex_i x8, ex_i x9, ex_r x10, ex_r x11, ex_r x12, ex_r x13, ex_r x14, ex_r x15, ex_r x16, ex_r x17, ex_r x18, ex_r x19, ex_r x20, ex_r x21, ex_r x22, ex_r x23, ex_r x24, ex_r x25, ex_i x26, ex_i x27, ex_r x28, ex_r x29, ex_r x30, ex_r x31, ex_r x32, ex_r x33, ex_r x34, ex_r x35, ex_r x36, ex_r x37, ex_r x38, ex_r x39, ex_i x40, ex_j x41, ex_r x42, ex_r x43, ex_r x44, ex_r x45, ex_r x46, ex_r x47, ex_r x48, ex_r x49, ex_r x50, ex_r x51, ex_r x52, ex_r x53, ex_i x54, ex_i x55, ex_i x56, ex_i x57, ex_r x58, ex_r x59, ex_r x60, ex_r x61, ex_i x62, ex_r x63, ex_r x64, ex_i w_11.1, ex_j x66]), (x10, ex_a 1 10 ho), (x15, ex_a 1 12 zt), (x63, ex_a 1 6 w_11.2.1), (x64, ex_a 1 6 w_11.2.2), (x17, ex_a 1 12 zf), (x18, ex_a 1 12 ze), (x48, ex_a 1 21 s)]) (lv' := [(2, ex_i (nI (F_X12_sitting np zf ze s).toNatClampNeg)), (0, ex_r m), (1, ex_i (nI px.toNatClampNeg))]) rfl (by rw [← hx1] <;> rfl) ?_
          refine X_aload_n (j := 1) dX12_couples_94 rfl rfl ?_
          refine X_get (j := 0) fo_X12_150 dX12_couples_95 rfl rfl ?_
          refine X_iload_n (j := 2) dX12_couples_98 rfl rfl ?_
          refine X_iald (j := 4) (v := (w_11.2.2 px.toNatClampNeg)) dX12_couples_99 rfl (vp_in_nI (show px.toNatClampNeg < 6 by omega) (by decide)) (by rw [nI_clamp (by omega)]) ?_
          refine X_goto (tgt := 104) dX12_couples_100 (by decide) ?_
          try dsimp only at hV
          refine X_re (cs' := [(m, ex_o 12 [ex_i 0, ex_i x1, ex_r x2, ex_i x3, ex_i x4, ex_i x5, ex_i x6, ex_j x7, ex_i x8, ex_i x9, ex_r x10, ex_r x11, ex_r x12, ex_r x13, ex_r x14, ex_r x15, ex_r x16, ex_r x17, ex_r x18, ex_r x19, ex_r x20, ex_r x21, ex_r x22, ex_r x23, ex_r x24, ex_r x25, ex_i x26, ex_i x27, ex_r x28, ex_r x29, ex_r x30, ex_r x31, ex_r x32, ex_r x33, ex_r x34, ex_r x35, ex_r x36, ex_r x37, ex_r x38, ex_r x39, ex_i x40, ex_j x41, ex_r x42, ex_r x43, ex_r x44, ex_r x45, ex_r x46, ex_r x47, ex_r x48, ex_r x49, ex_r x50, ex_r x51, ex_r x52, ex_r x53, ex_i x54, ex_i x55, ex_i x56, ex_i x57, ex_r x58, ex_r x59, ex_r x60, ex_r x61, ex_i x62, ex_r x63, ex_r x64, ex_i w_11.1, ex_j x66]), (x10, ex_a 1 10 ho), (x15, ex_a 1 12 zt), (x17, ex_a 1 12 zf), (x18, ex_a 1 12 ze), (x48, ex_a 1 21 s), (x63, ex_a 1 6 w_11.2.1), (x64, ex_a 1 6 w_11.2.2)]) [0, 1, 2, 5, 6, 7, 3, 4] (show List.Perm [0, 1, 2, 5, 6, 7, 3, 4] (List.range 8) from by decide) rfl ?_
          exact X_iret ex_nI rfl dX12_couples_104 (by (repeat refine ex_kc ?_) <;> rfl) (by subst hV; exact ⟨rfl, rfl⟩)
      · have hV := hV.trans (if_pos c_10)
        refine X_iconst (v := 1) dX12_couples_64 (by decide) ?_
        refine X_goto (tgt := 69) dX12_couples_65 (by decide) ?_
        refine X_iconst (v := 0) dX12_couples_69 (by decide) ?_
        refine X_callV (j0 := 0) (rest := [(x17, ex_a 1 12 zf), (x18, ex_a 1 12 ze), (x48, ex_a 1 21 s)]) (stk := []) co_X12_512 rfl ⟨(Nat.le_of_ble_eq_true rfl), (Nat.le_of_ble_eq_true rfl)⟩ (e_X12_pairs_6 l np m ((F_X12_sitting np zf ze s).toNatClampNeg) 1 0 0 x1 x2 x3 x4 x5 x6 x7 x8 x9 x10 x11 x12 x13 x14 x15 x16 x17 x18 x19 x20 x21 x22 x23 x24 x25 x26 x27 x28 x29 x30 x31 x32 x33 x34 x35 x36 x37 x38 x39 x40 x41 x42 x43 x44 x45 x46 x47 x48 x49 x50 x51 x52 x53 x54 x55 x56 x57 x58 x59 x60 x61 x62 x63 x64 (-1) x66 ho zt v_8 bp (by first | assumption | omega) (by first | assumption | omega) hws.2 hl2 (bits_le hws.2)) dX12_couples_70 [0, 1, 5, 6, 7, 2, 3, 4] (show List.Perm [0, 1, 5, 6, 7, 2, 3, 4] (List.range 8) from by decide) rfl rfl rfl rfl (Nat.le_of_ble_eq_true rfl) (fun zc1 zr hq hk => ?_)
        obtain ⟨rfl, rfl⟩ := hq
        try dsimp only at hV
        generalize hq_w_13 : F_X12_pairs_6 np ((F_X12_sitting np zf ze s).toNatClampNeg) 1 0 (-1) zt v_8 bp = w_13 at hV ⊢
        try dsimp only at hV
        refine X_iload_n (j := 2) dX12_couples_73 rfl rfl ?_
        refine X_iconst (v := (-1)) dX12_couples_74 (by decide) ?_
        refine X_icmp_ne (tgt := 85) dX12_couples_75 (by decide) (fun _ => ?_) (fun c_ => absurd c_ c_1)
        refine X_iload_n (j := 0) dX12_couples_85 rfl rfl ?_
        refine X_iload_n (j := 2) dX12_couples_86 rfl rfl ?_
        refine X_ishr (v := ((nI (F_X12_sitting np zf ze s).toNatClampNeg) >>> (px &&& 31))) dX12_couples_87 rfl ?_
        refine X_iconst (v := 1) dX12_couples_88 (by decide) ?_
        refine X_iand (v := (((nI (F_X12_sitting np zf ze s).toNatClampNeg) >>> (px &&& 31)) &&& 1)) dX12_couples_89 rfl ?_
        refine X_iconst (v := 1) dX12_couples_90 (by decide) ?_
        refine X_icmp_ne (tgt := 103) dX12_couples_91 (by decide) (fun c_14 => ?_) (fun c_14 => ?_)
        · have hV := hV.trans (if_neg c_14)
          refine X_iconst (v := (-1)) dX12_couples_103 (by decide) ?_
          try dsimp only at hV
          refine X_re (cs' := [(m, ex_o 12 [ex_i 0, ex_i x1, ex_r x2, ex_i x3, ex_i x4, ex_i x5, ex_i x6, ex_j x7, ex_i x8, ex_i x9, ex_r x10, ex_r x11, ex_r x12, ex_r x13, ex_r x14, ex_r x15, ex_r x16, ex_r x17, ex_r x18, ex_r x19, ex_r x20, ex_r x21, ex_r x22, ex_r x23, ex_r x24, ex_r x25, ex_i x26, ex_i x27, ex_r x28, ex_r x29, ex_r x30, ex_r x31, ex_r x32, ex_r x33, ex_r x34, ex_r x35, ex_r x36, ex_r x37, ex_r x38, ex_r x39, ex_i x40, ex_j x41, ex_r x42, ex_r x43, ex_r x44, ex_r x45, ex_r x46, ex_r x47, ex_r x48, ex_r x49, ex_r x50, ex_r x51, ex_r x52, ex_r x53, ex_i x54, ex_i x55, ex_i x56, ex_i x57, ex_r x58, ex_r x59, ex_r x60, ex_r x61, ex_i x62, ex_r x63, ex_r x64, ex_i w_13.1, ex_j x66]), (x10, ex_a 1 10 ho), (x15, ex_a 1 12 zt), (x17, ex_a 1 12 zf), (x18, ex_a 1 12 ze), (x48, ex_a 1 21 s), (x63, ex_a 1 6 w_13.2.1), (x64, ex_a 1 6 w_13.2.2)]) [0, 1, 2, 5, 6, 7, 3, 4] (show List.Perm [0, 1, 2, 5, 6, 7, 3, 4] (List.range 8) from by decide) rfl ?_
          exact X_iret ex_nI rfl dX12_couples_104 (by (repeat refine ex_kc ?_) <;> rfl) (by subst hV; exact ⟨rfl, rfl⟩)
        · have hV := hV.trans (if_pos c_14)
          have hz1 := rPe_of c_7 hnp
          have hx1 := hz1.1
          have hl1 := hz1.2
          refine X_eq (cs' := [(m, ex_o 12 [ex_i 0, ex_i x1, ex_r x2, ex_i x3, ex_i x4, ex_i x5, ex_i x6, ex_j x7, ex_i x8, ex_i x9, ex_r x10, ex_r x11, ex_r x12, ex_r x13, ex_r x14, ex_r x15, ex_r x16, ex_r x17, ex_r x18, ex_r x19, ex_r x20, ex_r x21, ex_r x22, ex_r x23, ex_r x24, ex_r x25, ex_i x26, ex_i x27, ex_r x28, ex_r x29, ex_r x30, ex_r x31, ex_r x32, ex_r x33, ex_r x34, ex_r x35, ex_r x36, ex_r x37, ex_r x38, ex_r x39, ex_i x40, ex_j x41, ex_r x42, ex_r x43, ex_r x44, ex_r x45, ex_r x46, ex_r x47, ex_r x48, ex_r x49, ex_r x50, ex_r x51, ex_r x52, ex_r x53, ex_i x54, ex_i x55, ex_i x56, ex_i x57, ex_r x58, ex_r x59, ex_r x60, ex_r x61, ex_i x62, ex_r x63, ex_r x64, ex_i w_13.1, ex_j x66]), (x10, ex_a 1 10 ho), (x15, ex_a 1 12 zt), (x63, ex_a 1 6 w_13.2.1), (x64, ex_a 1 6 w_13.2.2), (x17, ex_a 1 12 zf), (x18, ex_a 1 12 ze), (x48, ex_a 1 21 s)]) (lv' := [(2, ex_i (nI (F_X12_sitting np zf ze s).toNatClampNeg)), (0, ex_r m), (1, ex_i (nI px.toNatClampNeg))]) rfl (by rw [← hx1] <;> rfl) ?_
          refine X_aload_n (j := 1) dX12_couples_94 rfl rfl ?_
          refine X_get (j := 0) fo_X12_150 dX12_couples_95 rfl rfl ?_
          refine X_iload_n (j := 2) dX12_couples_98 rfl rfl ?_
          refine X_iald (j := 4) (v := (w_13.2.2 px.toNatClampNeg)) dX12_couples_99 rfl (vp_in_nI (show px.toNatClampNeg < 6 by omega) (by decide)) (by rw [nI_clamp (by omega)]) ?_
          refine X_goto (tgt := 104) dX12_couples_100 (by decide) ?_
          try dsimp only at hV
          refine X_re (cs' := [(m, ex_o 12 [ex_i 0, ex_i x1, ex_r x2, ex_i x3, ex_i x4, ex_i x5, ex_i x6, ex_j x7, ex_i x8, ex_i x9, ex_r x10, ex_r x11, ex_r x12, ex_r x13, ex_r x14, ex_r x15, ex_r x16, ex_r x17, ex_r x18, ex_r x19, ex_r x20, ex_r x21, ex_r x22, ex_r x23, ex_r x24, ex_r x25, ex_i x26, ex_i x27, ex_r x28, ex_r x29, ex_r x30, ex_r x31, ex_r x32, ex_r x33, ex_r x34, ex_r x35, ex_r x36, ex_r x37, ex_r x38, ex_r x39, ex_i x40, ex_j x41, ex_r x42, ex_r x43, ex_r x44, ex_r x45, ex_r x46, ex_r x47, ex_r x48, ex_r x49, ex_r x50, ex_r x51, ex_r x52, ex_r x53, ex_i x54, ex_i x55, ex_i x56, ex_i x57, ex_r x58, ex_r x59, ex_r x60, ex_r x61, ex_i x62, ex_r x63, ex_r x64, ex_i w_13.1, ex_j x66]), (x10, ex_a 1 10 ho), (x15, ex_a 1 12 zt), (x17, ex_a 1 12 zf), (x18, ex_a 1 12 ze), (x48, ex_a 1 21 s), (x63, ex_a 1 6 w_13.2.1), (x64, ex_a 1 6 w_13.2.2)]) [0, 1, 2, 5, 6, 7, 3, 4] (show List.Perm [0, 1, 2, 5, 6, 7, 3, 4] (List.range 8) from by decide) rfl ?_
          exact X_iret ex_nI rfl dX12_couples_104 (by (repeat refine ex_kc ?_) <;> rfl) (by subst hV; exact ⟨rfl, rfl⟩)
    · have hV := hV.trans (if_pos c_7)
      refine X_bipush (v := (-2)) dX12_couples_18 (by decide) ?_
      try dsimp only at hV
      exact X_iret ex_nI rfl dX12_couples_20 (by (repeat refine ex_kc ?_) <;> rfl) (by subst hV; exact ⟨rfl, rfl⟩)
