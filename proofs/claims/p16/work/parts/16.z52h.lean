theorem tzA : ∀ l, l < 64 → ¬ l = 0 → ¬ ((nI l >>> (nI (tz6 l) &&& 31)) &&& 1) = 0 ∧ ∀ p, p < 6 → p < tz6 l → ((nI l >>> (nI p &&& 31)) &&& 1) = 0 := by decide +kernel
theorem tz_at {l p : Nat} (hl : l < 64) (h0 : ¬ l = 0) (hp : p ≤ tz6 l) (c : ¬ ((nI l >>> (nI p &&& 31)) &&& 1) = 0) : p = tz6 l := by
  have ht := tz_lt hl h0
  rcases Nat.lt_or_ge p (tz6 l) with q | q
  · exact absurd ((tzA l hl h0).2 p (by omega) q) c
  · omega
theorem tz_go {l p : Nat} (hl : l < 64) (h0 : ¬ l = 0) (hp : p ≤ tz6 l) (c : ((nI l >>> (nI p &&& 31)) &&& 1) = 0) : p + 1 ≤ tz6 l := by
  rcases Nat.lt_or_ge p (tz6 l) with q | q
  · exact q
  · have e : p = tz6 l := by omega
    rw [e] at c
    exact absurd c (tzA l hl h0).1
theorem tz_npA : ∀ n, n < 7 → ∀ l, l < 64 → ¬ l = 0 → l < 2 ^ n → tz6 l < n := by decide +kernel
theorem tz_np {l n : Nat} (hl : l < 64) (h0 : ¬ l = 0) (hn : n ≤ 6) (h : l < 2 ^ n) : tz6 l < n := tz_npA n (by omega) l hl h0 h
theorem bitO : ∀ l, l < 64 → ¬ l = 0 → ∀ q, q < 6 → tz6 l < q → ¬ ((nI l >>> (nI q &&& 31)) &&& 1) = 0 → ((nI (l - 2 ^ tz6 l) >>> (nI q &&& 31)) &&& 1) = 1 := by decide +kernel

def F_X12_pairs_0_L28 (po : Nat → Int32) : Nat → Nat → (Nat → Int32) → (Nat → Int32)
  | 0, k28, s28_0 => s28_0
  | zn + 1, k28, s28_0 => F_X12_pairs_0_L28 po zn (k28 + 1) (upd s28_0 k28 (po k28))
theorem F_X12_pairs_0_L28_z (po : Nat → Int32) (k28 : Nat) (s28_0 : Nat → Int32) : F_X12_pairs_0_L28 po 0 k28 s28_0 = s28_0 := rfl
theorem F_X12_pairs_0_L28_s (po : Nat → Int32) (k28 : Nat) (s28_0 : Nat → Int32) (zn : Nat) : F_X12_pairs_0_L28 po (zn + 1) k28 s28_0 = F_X12_pairs_0_L28 po zn (k28 + 1) (upd s28_0 k28 (po k28)) := rfl
def F_X12_pairs_0_L28_2 (po : Nat → Int32) : Nat → Nat → (Nat → Int32) → (Nat → Int32)
  | 0, k28, s28_0 => s28_0
  | zn + 1, k28, s28_0 => F_X12_pairs_0_L28_2 po zn (k28 + 1) (upd s28_0 k28 (po k28))
theorem F_X12_pairs_0_L28_2_z (po : Nat → Int32) (k28 : Nat) (s28_0 : Nat → Int32) : F_X12_pairs_0_L28_2 po 0 k28 s28_0 = s28_0 := rfl
theorem F_X12_pairs_0_L28_2_s (po : Nat → Int32) (k28 : Nat) (s28_0 : Nat → Int32) (zn : Nat) : F_X12_pairs_0_L28_2 po (zn + 1) k28 s28_0 = F_X12_pairs_0_L28_2 po zn (k28 + 1) (upd s28_0 k28 (po k28)) := rfl
def F_X12_pairs_0 (ap : Int32) (x65 : Int32) (po : Nat → Int32) (bp : Nat → Int32) : Int32 × (Nat → Int32) := (if x65 < 0 then ((fun (v_2 : (Nat → Int32)) => (ap, v_2)) (F_X12_pairs_0_L28 po (6 - 0) 0 bp)) else (if ap < x65 then ((fun (v_5 : (Nat → Int32)) => (ap, v_5)) (F_X12_pairs_0_L28_2 po (6 - 0) 0 bp)) else (x65, bp)))
set_option maxHeartbeats 4000000 in
set_option maxRecDepth 100000 in
theorem e_X12_pairs_0 (l : Launch) (np : Nat) (m : Nat) (lf : Nat) (al : Int32) (ap : Int32) (x0 : Int32) (x1 : Int32) (x2 : Nat) (x3 : Int32) (x4 : Int32) (x5 : Int32) (x6 : Int32) (x7 : Int64) (x8 : Int32) (x9 : Int32) (x10 : Nat) (x11 : Nat) (x12 : Nat) (x13 : Nat) (x14 : Nat) (x15 : Nat) (x16 : Nat) (x17 : Nat) (x18 : Nat) (x19 : Nat) (x20 : Nat) (x21 : Nat) (x22 : Nat) (x23 : Nat) (x24 : Nat) (x25 : Nat) (x26 : Int32) (x27 : Int32) (x28 : Nat) (x29 : Nat) (x30 : Nat) (x31 : Nat) (x32 : Nat) (x33 : Nat) (x34 : Nat) (x35 : Nat) (x36 : Nat) (x37 : Nat) (x38 : Nat) (x39 : Nat) (x40 : Int32) (x41 : Int64) (x42 : Nat) (x43 : Nat) (x44 : Nat) (x45 : Nat) (x46 : Nat) (x47 : Nat) (x48 : Nat) (x49 : Nat) (x50 : Nat) (x51 : Nat) (x52 : Nat) (x53 : Nat) (x54 : Int32) (x55 : Int32) (x56 : Int32) (x57 : Int32) (x58 : Nat) (x59 : Nat) (x60 : Nat) (x61 : Nat) (x62 : Int32) (x63 : Nat) (x64 : Nat) (x65 : Int32) (x66 : Int64) (ho : Nat → Int32) (zt : Nat → Int32) (po : Nat → Int32) (bp : Nat → Int32) (hho0 : ho 0 = nI np) (hnp : np ≤ 6) (hlf : lf < 64) (hln : lf < 2 ^ np) (hb : bits6 lf ≤ 0) : ex_M l yX12_pairs cX12_pairs 6 none 0 0 [ex_r m, ex_i (nI lf), ex_i al, ex_i ap] [(m, ex_o 12 [ex_i x0, ex_i x1, ex_r x2, ex_i x3, ex_i x4, ex_i x5, ex_i x6, ex_j x7, ex_i x8, ex_i x9, ex_r x10, ex_r x11, ex_r x12, ex_r x13, ex_r x14, ex_r x15, ex_r x16, ex_r x17, ex_r x18, ex_r x19, ex_r x20, ex_r x21, ex_r x22, ex_r x23, ex_r x24, ex_r x25, ex_i x26, ex_i x27, ex_r x28, ex_r x29, ex_r x30, ex_r x31, ex_r x32, ex_r x33, ex_r x34, ex_r x35, ex_r x36, ex_r x37, ex_r x38, ex_r x39, ex_i x40, ex_j x41, ex_r x42, ex_r x43, ex_r x44, ex_r x45, ex_r x46, ex_r x47, ex_r x48, ex_r x49, ex_r x50, ex_r x51, ex_r x52, ex_r x53, ex_i x54, ex_i x55, ex_i x56, ex_i x57, ex_r x58, ex_r x59, ex_r x60, ex_r x61, ex_i x62, ex_r x63, ex_r x64, ex_i x65, ex_j x66]), (x10, ex_a 1 10 ho), (x15, ex_a 1 12 zt), (x63, ex_a 1 6 po), (x64, ex_a 1 6 bp)] (fun zcs zr => zcs = [(m, ex_o 12 [ex_i x0, ex_i x1, ex_r x2, ex_i x3, ex_i x4, ex_i x5, ex_i x6, ex_j x7, ex_i x8, ex_i x9, ex_r x10, ex_r x11, ex_r x12, ex_r x13, ex_r x14, ex_r x15, ex_r x16, ex_r x17, ex_r x18, ex_r x19, ex_r x20, ex_r x21, ex_r x22, ex_r x23, ex_r x24, ex_r x25, ex_i x26, ex_i x27, ex_r x28, ex_r x29, ex_r x30, ex_r x31, ex_r x32, ex_r x33, ex_r x34, ex_r x35, ex_r x36, ex_r x37, ex_r x38, ex_r x39, ex_i x40, ex_j x41, ex_r x42, ex_r x43, ex_r x44, ex_r x45, ex_r x46, ex_r x47, ex_r x48, ex_r x49, ex_r x50, ex_r x51, ex_r x52, ex_r x53, ex_i x54, ex_i x55, ex_i x56, ex_i x57, ex_r x58, ex_r x59, ex_r x60, ex_r x61, ex_i x62, ex_r x63, ex_r x64, ex_i ((F_X12_pairs_0 ap x65 po bp).1), ex_j x66]), (x10, ex_a 1 10 ho), (x15, ex_a 1 12 zt), (x63, ex_a 1 6 po), (x64, ex_a 1 6 ((F_X12_pairs_0 ap x65 po bp).2))] ∧ zr = none) := by
  refine X_meth (by decide) (Nat.le_of_ble_eq_true rfl) ?_
  generalize hV : F_X12_pairs_0 ap x65 po bp = V0
  have hV := hV.symm
  unfold F_X12_pairs_0 at hV
  try dsimp only at hV
  refine X_iload_n (j := 1) dX12_pairs_0 rfl rfl ?_
  refine X_if_ne (tgt := 56) dX12_pairs_1 (by decide) (fun c_ => absurd (bits0 hlf hb) c_) (fun _ => ?_)
  refine X_aload_n (j := 0) dX12_pairs_4 rfl rfl ?_
  refine X_get (j := 0) fo_X12_509 dX12_pairs_5 rfl rfl ?_
  refine X_if_lt (tgt := 20) dX12_pairs_8 (by decide) (fun c_1 => ?_) (fun c_1 => ?_)
  · have hV := hV.trans (if_pos c_1)
    refine X_aload_n (j := 0) dX12_pairs_20 rfl rfl ?_
    refine X_iload_n (j := 3) dX12_pairs_21 rfl rfl ?_
    refine X_put (j := 0) (cs' := [(m, ex_o 12 [ex_i x0, ex_i x1, ex_r x2, ex_i x3, ex_i x4, ex_i x5, ex_i x6, ex_j x7, ex_i x8, ex_i x9, ex_r x10, ex_r x11, ex_r x12, ex_r x13, ex_r x14, ex_r x15, ex_r x16, ex_r x17, ex_r x18, ex_r x19, ex_r x20, ex_r x21, ex_r x22, ex_r x23, ex_r x24, ex_r x25, ex_i x26, ex_i x27, ex_r x28, ex_r x29, ex_r x30, ex_r x31, ex_r x32, ex_r x33, ex_r x34, ex_r x35, ex_r x36, ex_r x37, ex_r x38, ex_r x39, ex_i x40, ex_j x41, ex_r x42, ex_r x43, ex_r x44, ex_r x45, ex_r x46, ex_r x47, ex_r x48, ex_r x49, ex_r x50, ex_r x51, ex_r x52, ex_r x53, ex_i x54, ex_i x55, ex_i x56, ex_i x57, ex_r x58, ex_r x59, ex_r x60, ex_r x61, ex_i x62, ex_r x63, ex_r x64, ex_i ap, ex_j x66]), (x10, ex_a 1 10 ho), (x15, ex_a 1 12 zt), (x63, ex_a 1 6 po), (x64, ex_a 1 6 bp)]) fo_X12_509 (by decide) dX12_pairs_22 rfl (Nat.le_of_ble_eq_true rfl) trivial rfl ?_
    refine X_iconst (v := 0) dX12_pairs_25 (by decide) ?_
    refine X_istore (lv' := [(4, ex_i 0), (0, ex_r m), (1, ex_i (nI lf)), (2, ex_i al), (3, ex_i ap)]) dX12_pairs_26 (Nat.le_of_ble_eq_true rfl) rfl ?_
    -- loop at 28
    try dsimp only at hV
    generalize hq_v_2 : F_X12_pairs_0_L28 po (6 - 0) 0 bp = v_2 at hV
    try dsimp only at hV
    refine X_cut (P := True) (csE := [(m, ex_o 12 [ex_i x0, ex_i x1, ex_r x2, ex_i x3, ex_i x4, ex_i x5, ex_i x6, ex_j x7, ex_i x8, ex_i x9, ex_r x10, ex_r x11, ex_r x12, ex_r x13, ex_r x14, ex_r x15, ex_r x16, ex_r x17, ex_r x18, ex_r x19, ex_r x20, ex_r x21, ex_r x22, ex_r x23, ex_r x24, ex_r x25, ex_i x26, ex_i x27, ex_r x28, ex_r x29, ex_r x30, ex_r x31, ex_r x32, ex_r x33, ex_r x34, ex_r x35, ex_r x36, ex_r x37, ex_r x38, ex_r x39, ex_i x40, ex_j x41, ex_r x42, ex_r x43, ex_r x44, ex_r x45, ex_r x46, ex_r x47, ex_r x48, ex_r x49, ex_r x50, ex_r x51, ex_r x52, ex_r x53, ex_i x54, ex_i x55, ex_i x56, ex_i x57, ex_r x58, ex_r x59, ex_r x60, ex_r x61, ex_i x62, ex_r x63, ex_r x64, ex_i ap, ex_j x66]), (x10, ex_a 1 10 ho), (x15, ex_a 1 12 zt), (x63, ex_a 1 6 po), (x64, ex_a 1 6 v_2)]) (lvE := [(0, ex_r m), (1, ex_i (nI lf)), (2, ex_i al), (3, ex_i ap)]) (E := 55) (fun hrest28 => ?_) (fun hPX28 => ?_)
    · have hL28 := hq_v_2.symm
      refine X_ind (fun (a28 : Nat × (Nat → Int32)) => v_2 = F_X12_pairs_0_L28 po (6 - a28.1) a28.1 a28.2 ∧ a28.1 ≤ 6) (fun (a28 : Nat × (Nat → Int32)) => 6 - a28.1) (fun (a28 : Nat × (Nat → Int32)) => [(m, ex_o 12 [ex_i x0, ex_i x1, ex_r x2, ex_i x3, ex_i x4, ex_i x5, ex_i x6, ex_j x7, ex_i x8, ex_i x9, ex_r x10, ex_r x11, ex_r x12, ex_r x13, ex_r x14, ex_r x15, ex_r x16, ex_r x17, ex_r x18, ex_r x19, ex_r x20, ex_r x21, ex_r x22, ex_r x23, ex_r x24, ex_r x25, ex_i x26, ex_i x27, ex_r x28, ex_r x29, ex_r x30, ex_r x31, ex_r x32, ex_r x33, ex_r x34, ex_r x35, ex_r x36, ex_r x37, ex_r x38, ex_r x39, ex_i x40, ex_j x41, ex_r x42, ex_r x43, ex_r x44, ex_r x45, ex_r x46, ex_r x47, ex_r x48, ex_r x49, ex_r x50, ex_r x51, ex_r x52, ex_r x53, ex_i x54, ex_i x55, ex_i x56, ex_i x57, ex_r x58, ex_r x59, ex_r x60, ex_r x61, ex_i x62, ex_r x63, ex_r x64, ex_i ap, ex_j x66]), (x10, ex_a 1 10 ho), (x15, ex_a 1 12 zt), (x63, ex_a 1 6 po), (x64, ex_a 1 6 a28.2)]) (fun (a28 : Nat × (Nat → Int32)) => [(4, ex_i (nI a28.1)), (0, ex_r m), (1, ex_i (nI lf)), (2, ex_i al), (3, ex_i ap)]) (fun ⟨k28, s28_0⟩ hI28 ih28 => ?_) (0, bp) ⟨hL28, (by omega)⟩
      try dsimp only at hI28 ih28 ⊢
      have ihc28 : ∀ (k28_ : Nat) (s28_0_ : Nat → Int32), (v_2 = F_X12_pairs_0_L28 po (6 - k28_) k28_ s28_0_ ∧ k28_ ≤ 6) → (6 - k28_) < (6 - k28) → ex_O _ _ _ _ _ _ _ _ _ [(m, ex_o 12 [ex_i x0, ex_i x1, ex_r x2, ex_i x3, ex_i x4, ex_i x5, ex_i x6, ex_j x7, ex_i x8, ex_i x9, ex_r x10, ex_r x11, ex_r x12, ex_r x13, ex_r x14, ex_r x15, ex_r x16, ex_r x17, ex_r x18, ex_r x19, ex_r x20, ex_r x21, ex_r x22, ex_r x23, ex_r x24, ex_r x25, ex_i x26, ex_i x27, ex_r x28, ex_r x29, ex_r x30, ex_r x31, ex_r x32, ex_r x33, ex_r x34, ex_r x35, ex_r x36, ex_r x37, ex_r x38, ex_r x39, ex_i x40, ex_j x41, ex_r x42, ex_r x43, ex_r x44, ex_r x45, ex_r x46, ex_r x47, ex_r x48, ex_r x49, ex_r x50, ex_r x51, ex_r x52, ex_r x53, ex_i x54, ex_i x55, ex_i x56, ex_i x57, ex_r x58, ex_r x59, ex_r x60, ex_r x61, ex_i x62, ex_r x63, ex_r x64, ex_i ap, ex_j x66]), (x10, ex_a 1 10 ho), (x15, ex_a 1 12 zt), (x63, ex_a 1 6 po), (x64, ex_a 1 6 s28_0_)] [(4, ex_i (nI k28_)), (0, ex_r m), (1, ex_i (nI lf)), (2, ex_i al), (3, ex_i ap)] _ _ := fun k28_ s28_0_ hi_ hm_ => ih28 (k28_, s28_0_) hi_ hm_
      have hL28 := hI28.1
      have hb28 := hI28.2
      refine X_iload (j := 0) dX12_pairs_28 rfl ?_
      refine X_bipush (v := 6) dX12_pairs_30 (by decide) ?_
      refine X_icmp_ge (tgt := 55) dX12_pairs_32 (by decide) (fun c_3 => ?_) (fun c_3 => ?_)
      · have hlt28 : k28 = 6 := nlex (L := 6) (by omega) hb28 c_3
        rw [show 6 - k28 = 0 by omega] at hL28
        have hL28 := hL28.trans (F_X12_pairs_0_L28_z ..)
        try dsimp only at hL28
        refine X_lv (lv' := [(0, ex_r m), (1, ex_i (nI lf)), (2, ex_i al), (3, ex_i ap)]) [1, 2, 3, 4] rfl ?_
        refine X_eq (cs' := [(m, ex_o 12 [ex_i x0, ex_i x1, ex_r x2, ex_i x3, ex_i x4, ex_i x5, ex_i x6, ex_j x7, ex_i x8, ex_i x9, ex_r x10, ex_r x11, ex_r x12, ex_r x13, ex_r x14, ex_r x15, ex_r x16, ex_r x17, ex_r x18, ex_r x19, ex_r x20, ex_r x21, ex_r x22, ex_r x23, ex_r x24, ex_r x25, ex_i x26, ex_i x27, ex_r x28, ex_r x29, ex_r x30, ex_r x31, ex_r x32, ex_r x33, ex_r x34, ex_r x35, ex_r x36, ex_r x37, ex_r x38, ex_r x39, ex_i x40, ex_j x41, ex_r x42, ex_r x43, ex_r x44, ex_r x45, ex_r x46, ex_r x47, ex_r x48, ex_r x49, ex_r x50, ex_r x51, ex_r x52, ex_r x53, ex_i x54, ex_i x55, ex_i x56, ex_i x57, ex_r x58, ex_r x59, ex_r x60, ex_r x61, ex_i x62, ex_r x63, ex_r x64, ex_i ap, ex_j x66]), (x10, ex_a 1 10 ho), (x15, ex_a 1 12 zt), (x63, ex_a 1 6 po), (x64, ex_a 1 6 v_2)]) (lv' := [(0, ex_r m), (1, ex_i (nI lf)), (2, ex_i al), (3, ex_i ap)]) (by subst hL28; rfl) (by subst hL28; rfl) ?_
        exact hrest28 trivial
      · have hlt28 : k28 < 6 := nlen (L := 6) (by omega) hb28 c_3
        rw [show 6 - k28 = (6 - (k28 + 1)) + 1 by omega] at hL28
        have hL28 := hL28.trans (F_X12_pairs_0_L28_s ..)
        refine X_aload_n (j := 1) dX12_pairs_35 rfl rfl ?_
        refine X_get (j := 0) fo_X12_150 dX12_pairs_36 rfl rfl ?_
        refine X_iload (j := 0) dX12_pairs_39 rfl ?_
        refine X_aload_n (j := 1) dX12_pairs_41 rfl rfl ?_
        refine X_get (j := 0) fo_X12_147 dX12_pairs_42 rfl rfl ?_
        refine X_iload (j := 0) dX12_pairs_45 rfl ?_
        refine X_iald (j := 3) (v := (po k28)) dX12_pairs_47 rfl (vp_in_nI (show k28 < 6 by omega) (by decide)) (by rw [nI_clamp (by omega)]) ?_
        refine X_iast (j := 4) (g := upd s28_0 k28 (po k28)) (cs' := [(m, ex_o 12 [ex_i x0, ex_i x1, ex_r x2, ex_i x3, ex_i x4, ex_i x5, ex_i x6, ex_j x7, ex_i x8, ex_i x9, ex_r x10, ex_r x11, ex_r x12, ex_r x13, ex_r x14, ex_r x15, ex_r x16, ex_r x17, ex_r x18, ex_r x19, ex_r x20, ex_r x21, ex_r x22, ex_r x23, ex_r x24, ex_r x25, ex_i x26, ex_i x27, ex_r x28, ex_r x29, ex_r x30, ex_r x31, ex_r x32, ex_r x33, ex_r x34, ex_r x35, ex_r x36, ex_r x37, ex_r x38, ex_r x39, ex_i x40, ex_j x41, ex_r x42, ex_r x43, ex_r x44, ex_r x45, ex_r x46, ex_r x47, ex_r x48, ex_r x49, ex_r x50, ex_r x51, ex_r x52, ex_r x53, ex_i x54, ex_i x55, ex_i x56, ex_i x57, ex_r x58, ex_r x59, ex_r x60, ex_r x61, ex_i x62, ex_r x63, ex_r x64, ex_i ap, ex_j x66]), (x10, ex_a 1 10 ho), (x15, ex_a 1 12 zt), (x63, ex_a 1 6 po), (x64, ex_a 1 6 (upd s28_0 k28 (po k28)))]) dX12_pairs_48 rfl (vp_in_nI (show k28 < 6 by omega) (by decide)) (by rw [nI_clamp (by omega)]) rfl ?_
        refine X_iinc (v := nI (k28 + 1)) (j := 0) (lv' := [(4, ex_i (nI (k28 + 1))), (0, ex_r m), (1, ex_i (nI lf)), (2, ex_i al), (3, ex_i ap)]) dX12_pairs_49 rfl (nI_add k28 1) (Nat.le_of_ble_eq_true rfl) rfl ?_
        refine X_goto (tgt := 28) dX12_pairs_52 (by decide) ?_
        try dsimp only at hL28
        exact ihc28 (k28 + 1) (upd s28_0 k28 (po k28)) ⟨hL28, (show (k28 + 1) ≤ 6 by omega)⟩ (show 6 - (k28 + 1) < 6 - k28 by omega)
    try dsimp only at hV
    exact X_vret dX12_pairs_55 (by (repeat refine ex_kc ?_) <;> rfl) (by subst hV; exact ⟨rfl, rfl⟩)
  · have hV := hV.trans (if_neg c_1)
    refine X_iload_n (j := 3) dX12_pairs_11 rfl rfl ?_
    refine X_aload_n (j := 0) dX12_pairs_12 rfl rfl ?_
    refine X_get (j := 0) fo_X12_509 dX12_pairs_13 rfl rfl ?_
    refine X_icmp_lt (tgt := 20) dX12_pairs_16 (by decide) (fun c_4 => ?_) (fun c_4 => ?_)
    · have hV := hV.trans (if_pos c_4)
      refine X_aload_n (j := 0) dX12_pairs_20 rfl rfl ?_
      refine X_iload_n (j := 3) dX12_pairs_21 rfl rfl ?_
      refine X_put (j := 0) (cs' := [(m, ex_o 12 [ex_i x0, ex_i x1, ex_r x2, ex_i x3, ex_i x4, ex_i x5, ex_i x6, ex_j x7, ex_i x8, ex_i x9, ex_r x10, ex_r x11, ex_r x12, ex_r x13, ex_r x14, ex_r x15, ex_r x16, ex_r x17, ex_r x18, ex_r x19, ex_r x20, ex_r x21, ex_r x22, ex_r x23, ex_r x24, ex_r x25, ex_i x26, ex_i x27, ex_r x28, ex_r x29, ex_r x30, ex_r x31, ex_r x32, ex_r x33, ex_r x34, ex_r x35, ex_r x36, ex_r x37, ex_r x38, ex_r x39, ex_i x40, ex_j x41, ex_r x42, ex_r x43, ex_r x44, ex_r x45, ex_r x46, ex_r x47, ex_r x48, ex_r x49, ex_r x50, ex_r x51, ex_r x52, ex_r x53, ex_i x54, ex_i x55, ex_i x56, ex_i x57, ex_r x58, ex_r x59, ex_r x60, ex_r x61, ex_i x62, ex_r x63, ex_r x64, ex_i ap, ex_j x66]), (x10, ex_a 1 10 ho), (x15, ex_a 1 12 zt), (x63, ex_a 1 6 po), (x64, ex_a 1 6 bp)]) fo_X12_509 (by decide) dX12_pairs_22 rfl (Nat.le_of_ble_eq_true rfl) trivial rfl ?_
      refine X_iconst (v := 0) dX12_pairs_25 (by decide) ?_
      refine X_istore (lv' := [(4, ex_i 0), (0, ex_r m), (1, ex_i (nI lf)), (2, ex_i al), (3, ex_i ap)]) dX12_pairs_26 (Nat.le_of_ble_eq_true rfl) rfl ?_
      -- loop at 28
      try dsimp only at hV
      generalize hq_v_5 : F_X12_pairs_0_L28_2 po (6 - 0) 0 bp = v_5 at hV
      try dsimp only at hV
      refine X_cut (P := True) (csE := [(m, ex_o 12 [ex_i x0, ex_i x1, ex_r x2, ex_i x3, ex_i x4, ex_i x5, ex_i x6, ex_j x7, ex_i x8, ex_i x9, ex_r x10, ex_r x11, ex_r x12, ex_r x13, ex_r x14, ex_r x15, ex_r x16, ex_r x17, ex_r x18, ex_r x19, ex_r x20, ex_r x21, ex_r x22, ex_r x23, ex_r x24, ex_r x25, ex_i x26, ex_i x27, ex_r x28, ex_r x29, ex_r x30, ex_r x31, ex_r x32, ex_r x33, ex_r x34, ex_r x35, ex_r x36, ex_r x37, ex_r x38, ex_r x39, ex_i x40, ex_j x41, ex_r x42, ex_r x43, ex_r x44, ex_r x45, ex_r x46, ex_r x47, ex_r x48, ex_r x49, ex_r x50, ex_r x51, ex_r x52, ex_r x53, ex_i x54, ex_i x55, ex_i x56, ex_i x57, ex_r x58, ex_r x59, ex_r x60, ex_r x61, ex_i x62, ex_r x63, ex_r x64, ex_i ap, ex_j x66]), (x10, ex_a 1 10 ho), (x15, ex_a 1 12 zt), (x63, ex_a 1 6 po), (x64, ex_a 1 6 v_5)]) (lvE := [(0, ex_r m), (1, ex_i (nI lf)), (2, ex_i al), (3, ex_i ap)]) (E := 55) (fun hrest28 => ?_) (fun hPX28 => ?_)
      · have hL28 := hq_v_5.symm
        refine X_ind (fun (a28 : Nat × (Nat → Int32)) => v_5 = F_X12_pairs_0_L28_2 po (6 - a28.1) a28.1 a28.2 ∧ a28.1 ≤ 6) (fun (a28 : Nat × (Nat → Int32)) => 6 - a28.1) (fun (a28 : Nat × (Nat → Int32)) => [(m, ex_o 12 [ex_i x0, ex_i x1, ex_r x2, ex_i x3, ex_i x4, ex_i x5, ex_i x6, ex_j x7, ex_i x8, ex_i x9, ex_r x10, ex_r x11, ex_r x12, ex_r x13, ex_r x14, ex_r x15, ex_r x16, ex_r x17, ex_r x18, ex_r x19, ex_r x20, ex_r x21, ex_r x22, ex_r x23, ex_r x24, ex_r x25, ex_i x26, ex_i x27, ex_r x28, ex_r x29, ex_r x30, ex_r x31, ex_r x32, ex_r x33, ex_r x34, ex_r x35, ex_r x36, ex_r x37, ex_r x38, ex_r x39, ex_i x40, ex_j x41, ex_r x42, ex_r x43, ex_r x44, ex_r x45, ex_r x46, ex_r x47, ex_r x48, ex_r x49, ex_r x50, ex_r x51, ex_r x52, ex_r x53, ex_i x54, ex_i x55, ex_i x56, ex_i x57, ex_r x58, ex_r x59, ex_r x60, ex_r x61, ex_i x62, ex_r x63, ex_r x64, ex_i ap, ex_j x66]), (x10, ex_a 1 10 ho), (x15, ex_a 1 12 zt), (x63, ex_a 1 6 po), (x64, ex_a 1 6 a28.2)]) (fun (a28 : Nat × (Nat → Int32)) => [(4, ex_i (nI a28.1)), (0, ex_r m), (1, ex_i (nI lf)), (2, ex_i al), (3, ex_i ap)]) (fun ⟨k28, s28_0⟩ hI28 ih28 => ?_) (0, bp) ⟨hL28, (by omega)⟩
        try dsimp only at hI28 ih28 ⊢
        have ihc28 : ∀ (k28_ : Nat) (s28_0_ : Nat → Int32), (v_5 = F_X12_pairs_0_L28_2 po (6 - k28_) k28_ s28_0_ ∧ k28_ ≤ 6) → (6 - k28_) < (6 - k28) → ex_O _ _ _ _ _ _ _ _ _ [(m, ex_o 12 [ex_i x0, ex_i x1, ex_r x2, ex_i x3, ex_i x4, ex_i x5, ex_i x6, ex_j x7, ex_i x8, ex_i x9, ex_r x10, ex_r x11, ex_r x12, ex_r x13, ex_r x14, ex_r x15, ex_r x16, ex_r x17, ex_r x18, ex_r x19, ex_r x20, ex_r x21, ex_r x22, ex_r x23, ex_r x24, ex_r x25, ex_i x26, ex_i x27, ex_r x28, ex_r x29, ex_r x30, ex_r x31, ex_r x32, ex_r x33, ex_r x34, ex_r x35, ex_r x36, ex_r x37, ex_r x38, ex_r x39, ex_i x40, ex_j x41, ex_r x42, ex_r x43, ex_r x44, ex_r x45, ex_r x46, ex_r x47, ex_r x48, ex_r x49, ex_r x50, ex_r x51, ex_r x52, ex_r x53, ex_i x54, ex_i x55, ex_i x56, ex_i x57, ex_r x58, ex_r x59, ex_r x60, ex_r x61, ex_i x62, ex_r x63, ex_r x64, ex_i ap, ex_j x66]), (x10, ex_a 1 10 ho), (x15, ex_a 1 12 zt), (x63, ex_a 1 6 po), (x64, ex_a 1 6 s28_0_)] [(4, ex_i (nI k28_)), (0, ex_r m), (1, ex_i (nI lf)), (2, ex_i al), (3, ex_i ap)] _ _ := fun k28_ s28_0_ hi_ hm_ => ih28 (k28_, s28_0_) hi_ hm_
        have hL28 := hI28.1
        have hb28 := hI28.2
        refine X_iload (j := 0) dX12_pairs_28 rfl ?_
        refine X_bipush (v := 6) dX12_pairs_30 (by decide) ?_
        refine X_icmp_ge (tgt := 55) dX12_pairs_32 (by decide) (fun c_6 => ?_) (fun c_6 => ?_)
        · have hlt28 : k28 = 6 := nlex (L := 6) (by omega) hb28 c_6
          rw [show 6 - k28 = 0 by omega] at hL28
          have hL28 := hL28.trans (F_X12_pairs_0_L28_2_z ..)
          try dsimp only at hL28
          refine X_lv (lv' := [(0, ex_r m), (1, ex_i (nI lf)), (2, ex_i al), (3, ex_i ap)]) [1, 2, 3, 4] rfl ?_
          refine X_eq (cs' := [(m, ex_o 12 [ex_i x0, ex_i x1, ex_r x2, ex_i x3, ex_i x4, ex_i x5, ex_i x6, ex_j x7, ex_i x8, ex_i x9, ex_r x10, ex_r x11, ex_r x12, ex_r x13, ex_r x14, ex_r x15, ex_r x16, ex_r x17, ex_r x18, ex_r x19, ex_r x20, ex_r x21, ex_r x22, ex_r x23, ex_r x24, ex_r x25, ex_i x26, ex_i x27, ex_r x28, ex_r x29, ex_r x30, ex_r x31, ex_r x32, ex_r x33, ex_r x34, ex_r x35, ex_r x36, ex_r x37, ex_r x38, ex_r x39, ex_i x40, ex_j x41, ex_r x42, ex_r x43, ex_r x44, ex_r x45, ex_r x46, ex_r x47, ex_r x48, ex_r x49, ex_r x50, ex_r x51, ex_r x52, ex_r x53, ex_i x54, ex_i x55, ex_i x56, ex_i x57, ex_r x58, ex_r x59, ex_r x60, ex_r x61, ex_i x62, ex_r x63, ex_r x64, ex_i ap, ex_j x66]), (x10, ex_a 1 10 ho), (x15, ex_a 1 12 zt), (x63, ex_a 1 6 po), (x64, ex_a 1 6 v_5)]) (lv' := [(0, ex_r m), (1, ex_i (nI lf)), (2, ex_i al), (3, ex_i ap)]) (by subst hL28; rfl) (by subst hL28; rfl) ?_
          exact hrest28 trivial
        · have hlt28 : k28 < 6 := nlen (L := 6) (by omega) hb28 c_6
          rw [show 6 - k28 = (6 - (k28 + 1)) + 1 by omega] at hL28
          have hL28 := hL28.trans (F_X12_pairs_0_L28_2_s ..)
          refine X_aload_n (j := 1) dX12_pairs_35 rfl rfl ?_
          refine X_get (j := 0) fo_X12_150 dX12_pairs_36 rfl rfl ?_
          refine X_iload (j := 0) dX12_pairs_39 rfl ?_
          refine X_aload_n (j := 1) dX12_pairs_41 rfl rfl ?_
          refine X_get (j := 0) fo_X12_147 dX12_pairs_42 rfl rfl ?_
          refine X_iload (j := 0) dX12_pairs_45 rfl ?_
          refine X_iald (j := 3) (v := (po k28)) dX12_pairs_47 rfl (vp_in_nI (show k28 < 6 by omega) (by decide)) (by rw [nI_clamp (by omega)]) ?_
          refine X_iast (j := 4) (g := upd s28_0 k28 (po k28)) (cs' := [(m, ex_o 12 [ex_i x0, ex_i x1, ex_r x2, ex_i x3, ex_i x4, ex_i x5, ex_i x6, ex_j x7, ex_i x8, ex_i x9, ex_r x10, ex_r x11, ex_r x12, ex_r x13, ex_r x14, ex_r x15, ex_r x16, ex_r x17, ex_r x18, ex_r x19, ex_r x20, ex_r x21, ex_r x22, ex_r x23, ex_r x24, ex_r x25, ex_i x26, ex_i x27, ex_r x28, ex_r x29, ex_r x30, ex_r x31, ex_r x32, ex_r x33, ex_r x34, ex_r x35, ex_r x36, ex_r x37, ex_r x38, ex_r x39, ex_i x40, ex_j x41, ex_r x42, ex_r x43, ex_r x44, ex_r x45, ex_r x46, ex_r x47, ex_r x48, ex_r x49, ex_r x50, ex_r x51, ex_r x52, ex_r x53, ex_i x54, ex_i x55, ex_i x56, ex_i x57, ex_r x58, ex_r x59, ex_r x60, ex_r x61, ex_i x62, ex_r x63, ex_r x64, ex_i ap, ex_j x66]), (x10, ex_a 1 10 ho), (x15, ex_a 1 12 zt), (x63, ex_a 1 6 po), (x64, ex_a 1 6 (upd s28_0 k28 (po k28)))]) dX12_pairs_48 rfl (vp_in_nI (show k28 < 6 by omega) (by decide)) (by rw [nI_clamp (by omega)]) rfl ?_
          refine X_iinc (v := nI (k28 + 1)) (j := 0) (lv' := [(4, ex_i (nI (k28 + 1))), (0, ex_r m), (1, ex_i (nI lf)), (2, ex_i al), (3, ex_i ap)]) dX12_pairs_49 rfl (nI_add k28 1) (Nat.le_of_ble_eq_true rfl) rfl ?_
          refine X_goto (tgt := 28) dX12_pairs_52 (by decide) ?_
          try dsimp only at hL28
          exact ihc28 (k28 + 1) (upd s28_0 k28 (po k28)) ⟨hL28, (show (k28 + 1) ≤ 6 by omega)⟩ (show 6 - (k28 + 1) < 6 - k28 by omega)
      try dsimp only at hV
      exact X_vret dX12_pairs_55 (by (repeat refine ex_kc ?_) <;> rfl) (by subst hV; exact ⟨rfl, rfl⟩)
    · have hV := hV.trans (if_neg c_4)
      try dsimp only at hV
      exact X_vret dX12_pairs_19 (by (repeat refine ex_kc ?_) <;> rfl) (by subst hV; exact ⟨rfl, rfl⟩)

def F_X12_pairs_1_L59 (lf : Nat) : Nat → Nat → Nat
  | 0, p59 => p59
  | zn + 1, p59 => (if (((nI lf) >>> ((nI p59) &&& 31)) &&& 1) = 0 then F_X12_pairs_1_L59 lf zn (p59 + 1) else p59)
theorem F_X12_pairs_1_L59_z (lf : Nat) (p59 : Nat) : F_X12_pairs_1_L59 lf 0 p59 = p59 := rfl
theorem F_X12_pairs_1_L59_s (lf : Nat) (p59 : Nat) (zn : Nat) : F_X12_pairs_1_L59 lf (zn + 1) p59 = (if (((nI lf) >>> ((nI p59) &&& 31)) &&& 1) = 0 then F_X12_pairs_1_L59 lf zn (p59 + 1) else p59) := rfl
def F_X12_pairs_1_L80 (lf : Nat) (ap : Int32) (zt : Nat → Int32) : Nat → Nat → Int32 → (Nat → Int32) → (Nat → Int32) → Int32 × (Nat → Int32) × (Nat → Int32)
  | 0, k80, s80_0, s80_1, s80_2 => (s80_0, s80_1, s80_2)
  | zn + 1, k80, s80_0, s80_1, s80_2 => (if (((nI lf) >>> ((nI k80) &&& 31)) &&& 1) = 0 then F_X12_pairs_1_L80 lf ap zt zn (k80 + 1) s80_0 s80_1 s80_2 else ((fun (w_7 : Int32 × (Nat → Int32)) => F_X12_pairs_1_L80 lf ap zt zn (k80 + 1) w_7.1 (upd (upd s80_1 (tz6 lf) (nI k80)) k80 (nI (tz6 lf))) w_7.2) (F_X12_pairs_0 (ap + (F_X12_away (zt (tz6 lf)) (zt k80))) s80_0 (upd (upd s80_1 (tz6 lf) (nI k80)) k80 (nI (tz6 lf))) s80_2)))
theorem F_X12_pairs_1_L80_z (lf : Nat) (ap : Int32) (zt : Nat → Int32) (k80 : Nat) (s80_0 : Int32) (s80_1 : Nat → Int32) (s80_2 : Nat → Int32) : F_X12_pairs_1_L80 lf ap zt 0 k80 s80_0 s80_1 s80_2 = (s80_0, s80_1, s80_2) := rfl
theorem F_X12_pairs_1_L80_s (lf : Nat) (ap : Int32) (zt : Nat → Int32) (k80 : Nat) (s80_0 : Int32) (s80_1 : Nat → Int32) (s80_2 : Nat → Int32) (zn : Nat) : F_X12_pairs_1_L80 lf ap zt (zn + 1) k80 s80_0 s80_1 s80_2 = (if (((nI lf) >>> ((nI k80) &&& 31)) &&& 1) = 0 then F_X12_pairs_1_L80 lf ap zt zn (k80 + 1) s80_0 s80_1 s80_2 else ((fun (w_7 : Int32 × (Nat → Int32)) => F_X12_pairs_1_L80 lf ap zt zn (k80 + 1) w_7.1 (upd (upd s80_1 (tz6 lf) (nI k80)) k80 (nI (tz6 lf))) w_7.2) (F_X12_pairs_0 (ap + (F_X12_away (zt (tz6 lf)) (zt k80))) s80_0 (upd (upd s80_1 (tz6 lf) (nI k80)) k80 (nI (tz6 lf))) s80_2))) := rfl
def F_X12_pairs_1_L28 (po : Nat → Int32) : Nat → Nat → (Nat → Int32) → (Nat → Int32)
  | 0, k28, s28_0 => s28_0
  | zn + 1, k28, s28_0 => F_X12_pairs_1_L28 po zn (k28 + 1) (upd s28_0 k28 (po k28))
theorem F_X12_pairs_1_L28_z (po : Nat → Int32) (k28 : Nat) (s28_0 : Nat → Int32) : F_X12_pairs_1_L28 po 0 k28 s28_0 = s28_0 := rfl
theorem F_X12_pairs_1_L28_s (po : Nat → Int32) (k28 : Nat) (s28_0 : Nat → Int32) (zn : Nat) : F_X12_pairs_1_L28 po (zn + 1) k28 s28_0 = F_X12_pairs_1_L28 po zn (k28 + 1) (upd s28_0 k28 (po k28)) := rfl
def F_X12_pairs_1_L28_2 (po : Nat → Int32) : Nat → Nat → (Nat → Int32) → (Nat → Int32)
  | 0, k28, s28_0 => s28_0
  | zn + 1, k28, s28_0 => F_X12_pairs_1_L28_2 po zn (k28 + 1) (upd s28_0 k28 (po k28))
theorem F_X12_pairs_1_L28_2_z (po : Nat → Int32) (k28 : Nat) (s28_0 : Nat → Int32) : F_X12_pairs_1_L28_2 po 0 k28 s28_0 = s28_0 := rfl
theorem F_X12_pairs_1_L28_2_s (po : Nat → Int32) (k28 : Nat) (s28_0 : Nat → Int32) (zn : Nat) : F_X12_pairs_1_L28_2 po (zn + 1) k28 s28_0 = F_X12_pairs_1_L28_2 po zn (k28 + 1) (upd s28_0 k28 (po k28)) := rfl
def F_X12_pairs_1 (np : Nat) (lf : Nat) (al : Int32) (ap : Int32) (x65 : Int32) (zt : Nat → Int32) (po : Nat → Int32) (bp : Nat → Int32) : Int32 × (Nat → Int32) × (Nat → Int32) := (if (nI lf) = 0 then (if x65 < 0 then ((fun (v_11 : (Nat → Int32)) => (ap, po, v_11)) (F_X12_pairs_1_L28 po (6 - 0) 0 bp)) else (if ap < x65 then ((fun (v_14 : (Nat → Int32)) => (ap, po, v_14)) (F_X12_pairs_1_L28_2 po (6 - 0) 0 bp)) else (x65, po, bp))) else ((fun (v_2 : Nat) => ((fun (v_4 : Int32 × (Nat → Int32) × (Nat → Int32)) => (if al = 0 then (v_4.1, upd v_4.2.1 (tz6 lf) (-1), v_4.2.2) else ((fun (w_9 : Int32 × (Nat → Int32)) => (w_9.1, upd v_4.2.1 (tz6 lf) (-1), w_9.2)) (F_X12_pairs_0 ap v_4.1 (upd v_4.2.1 (tz6 lf) (-1)) v_4.2.2)))) (F_X12_pairs_1_L80 lf ap zt (np - ((tz6 lf) + 1)) ((tz6 lf) + 1) x65 po bp))) (F_X12_pairs_1_L59 lf 7 0)))
set_option maxHeartbeats 4000000 in
set_option maxRecDepth 100000 in
theorem e_X12_pairs_1 (l : Launch) (np : Nat) (m : Nat) (lf : Nat) (al : Int32) (ap : Int32) (x0 : Int32) (x1 : Int32) (x2 : Nat) (x3 : Int32) (x4 : Int32) (x5 : Int32) (x6 : Int32) (x7 : Int64) (x8 : Int32) (x9 : Int32) (x10 : Nat) (x11 : Nat) (x12 : Nat) (x13 : Nat) (x14 : Nat) (x15 : Nat) (x16 : Nat) (x17 : Nat) (x18 : Nat) (x19 : Nat) (x20 : Nat) (x21 : Nat) (x22 : Nat) (x23 : Nat) (x24 : Nat) (x25 : Nat) (x26 : Int32) (x27 : Int32) (x28 : Nat) (x29 : Nat) (x30 : Nat) (x31 : Nat) (x32 : Nat) (x33 : Nat) (x34 : Nat) (x35 : Nat) (x36 : Nat) (x37 : Nat) (x38 : Nat) (x39 : Nat) (x40 : Int32) (x41 : Int64) (x42 : Nat) (x43 : Nat) (x44 : Nat) (x45 : Nat) (x46 : Nat) (x47 : Nat) (x48 : Nat) (x49 : Nat) (x50 : Nat) (x51 : Nat) (x52 : Nat) (x53 : Nat) (x54 : Int32) (x55 : Int32) (x56 : Int32) (x57 : Int32) (x58 : Nat) (x59 : Nat) (x60 : Nat) (x61 : Nat) (x62 : Int32) (x63 : Nat) (x64 : Nat) (x65 : Int32) (x66 : Int64) (ho : Nat → Int32) (zt : Nat → Int32) (po : Nat → Int32) (bp : Nat → Int32) (hho0 : ho 0 = nI np) (hnp : np ≤ 6) (hlf : lf < 64) (hln : lf < 2 ^ np) (hb : bits6 lf ≤ 1) : ex_M l yX12_pairs cX12_pairs 6 none 1 25 [ex_r m, ex_i (nI lf), ex_i al, ex_i ap] [(m, ex_o 12 [ex_i x0, ex_i x1, ex_r x2, ex_i x3, ex_i x4, ex_i x5, ex_i x6, ex_j x7, ex_i x8, ex_i x9, ex_r x10, ex_r x11, ex_r x12, ex_r x13, ex_r x14, ex_r x15, ex_r x16, ex_r x17, ex_r x18, ex_r x19, ex_r x20, ex_r x21, ex_r x22, ex_r x23, ex_r x24, ex_r x25, ex_i x26, ex_i x27, ex_r x28, ex_r x29, ex_r x30, ex_r x31, ex_r x32, ex_r x33, ex_r x34, ex_r x35, ex_r x36, ex_r x37, ex_r x38, ex_r x39, ex_i x40, ex_j x41, ex_r x42, ex_r x43, ex_r x44, ex_r x45, ex_r x46, ex_r x47, ex_r x48, ex_r x49, ex_r x50, ex_r x51, ex_r x52, ex_r x53, ex_i x54, ex_i x55, ex_i x56, ex_i x57, ex_r x58, ex_r x59, ex_r x60, ex_r x61, ex_i x62, ex_r x63, ex_r x64, ex_i x65, ex_j x66]), (x10, ex_a 1 10 ho), (x15, ex_a 1 12 zt), (x63, ex_a 1 6 po), (x64, ex_a 1 6 bp)] (fun zcs zr => zcs = [(m, ex_o 12 [ex_i x0, ex_i x1, ex_r x2, ex_i x3, ex_i x4, ex_i x5, ex_i x6, ex_j x7, ex_i x8, ex_i x9, ex_r x10, ex_r x11, ex_r x12, ex_r x13, ex_r x14, ex_r x15, ex_r x16, ex_r x17, ex_r x18, ex_r x19, ex_r x20, ex_r x21, ex_r x22, ex_r x23, ex_r x24, ex_r x25, ex_i x26, ex_i x27, ex_r x28, ex_r x29, ex_r x30, ex_r x31, ex_r x32, ex_r x33, ex_r x34, ex_r x35, ex_r x36, ex_r x37, ex_r x38, ex_r x39, ex_i x40, ex_j x41, ex_r x42, ex_r x43, ex_r x44, ex_r x45, ex_r x46, ex_r x47, ex_r x48, ex_r x49, ex_r x50, ex_r x51, ex_r x52, ex_r x53, ex_i x54, ex_i x55, ex_i x56, ex_i x57, ex_r x58, ex_r x59, ex_r x60, ex_r x61, ex_i x62, ex_r x63, ex_r x64, ex_i ((F_X12_pairs_1 np lf al ap x65 zt po bp).1), ex_j x66]), (x10, ex_a 1 10 ho), (x15, ex_a 1 12 zt), (x63, ex_a 1 6 ((F_X12_pairs_1 np lf al ap x65 zt po bp).2.1)), (x64, ex_a 1 6 ((F_X12_pairs_1 np lf al ap x65 zt po bp).2.2))] ∧ zr = none) := by
  refine X_meth (by decide) (Nat.le_of_ble_eq_true rfl) ?_
  generalize hV : F_X12_pairs_1 np lf al ap x65 zt po bp = V0
  have hV := hV.symm
  unfold F_X12_pairs_1 at hV
  try dsimp only at hV
  refine X_iload_n (j := 1) dX12_pairs_0 rfl rfl ?_
  refine X_if_ne (tgt := 56) dX12_pairs_1 (by decide) (fun c_1 => ?_) (fun c_1 => ?_)
  · have hV := hV.trans (if_neg c_1)
    have hl0 : ¬ lf = 0 := fun q => c_1 (by rw [q]; rfl)
    have htz : tz6 lf < 6 := tz_lt hlf hl0
    have hO : lf - 2 ^ tz6 lf < 64 := Nat.lt_of_le_of_lt (Nat.sub_le _ _) hlf
    have htn : tz6 lf < np := tz_np hlf hl0 hnp hln
    refine X_iconst (v := 0) dX12_pairs_56 (by decide) ?_
    refine X_istore (lv' := [(4, ex_i 0), (0, ex_r m), (1, ex_i (nI lf)), (2, ex_i al), (3, ex_i ap)]) dX12_pairs_57 (Nat.le_of_ble_eq_true rfl) rfl ?_
    -- loop at 59
    try dsimp only at hV
    generalize hq_v_2 : F_X12_pairs_1_L59 lf 7 0 = v_2 at hV
    try dsimp only at hV
    refine X_cut (P := (v_2 = tz6 lf)) (csE := [(m, ex_o 12 [ex_i x0, ex_i x1, ex_r x2, ex_i x3, ex_i x4, ex_i x5, ex_i x6, ex_j x7, ex_i x8, ex_i x9, ex_r x10, ex_r x11, ex_r x12, ex_r x13, ex_r x14, ex_r x15, ex_r x16, ex_r x17, ex_r x18, ex_r x19, ex_r x20, ex_r x21, ex_r x22, ex_r x23, ex_r x24, ex_r x25, ex_i x26, ex_i x27, ex_r x28, ex_r x29, ex_r x30, ex_r x31, ex_r x32, ex_r x33, ex_r x34, ex_r x35, ex_r x36, ex_r x37, ex_r x38, ex_r x39, ex_i x40, ex_j x41, ex_r x42, ex_r x43, ex_r x44, ex_r x45, ex_r x46, ex_r x47, ex_r x48, ex_r x49, ex_r x50, ex_r x51, ex_r x52, ex_r x53, ex_i x54, ex_i x55, ex_i x56, ex_i x57, ex_r x58, ex_r x59, ex_r x60, ex_r x61, ex_i x62, ex_r x63, ex_r x64, ex_i x65, ex_j x66]), (x10, ex_a 1 10 ho), (x15, ex_a 1 12 zt), (x63, ex_a 1 6 po), (x64, ex_a 1 6 bp)]) (lvE := [(4, ex_i (nI v_2)), (0, ex_r m), (1, ex_i (nI lf)), (2, ex_i al), (3, ex_i ap)]) (E := 74) (fun hrest59 => ?_) (fun hPX59 => ?_)
    · have hL59 := hq_v_2.symm
      refine X_ind (fun (a59 : Nat × Nat) => v_2 = F_X12_pairs_1_L59 lf a59.1 a59.2 ∧ (a59.2 ≤ tz6 lf ∧ 7 ≤ a59.1 + a59.2)) (fun (a59 : Nat × Nat) => a59.1) (fun (a59 : Nat × Nat) => [(m, ex_o 12 [ex_i x0, ex_i x1, ex_r x2, ex_i x3, ex_i x4, ex_i x5, ex_i x6, ex_j x7, ex_i x8, ex_i x9, ex_r x10, ex_r x11, ex_r x12, ex_r x13, ex_r x14, ex_r x15, ex_r x16, ex_r x17, ex_r x18, ex_r x19, ex_r x20, ex_r x21, ex_r x22, ex_r x23, ex_r x24, ex_r x25, ex_i x26, ex_i x27, ex_r x28, ex_r x29, ex_r x30, ex_r x31, ex_r x32, ex_r x33, ex_r x34, ex_r x35, ex_r x36, ex_r x37, ex_r x38, ex_r x39, ex_i x40, ex_j x41, ex_r x42, ex_r x43, ex_r x44, ex_r x45, ex_r x46, ex_r x47, ex_r x48, ex_r x49, ex_r x50, ex_r x51, ex_r x52, ex_r x53, ex_i x54, ex_i x55, ex_i x56, ex_i x57, ex_r x58, ex_r x59, ex_r x60, ex_r x61, ex_i x62, ex_r x63, ex_r x64, ex_i x65, ex_j x66]), (x10, ex_a 1 10 ho), (x15, ex_a 1 12 zt), (x63, ex_a 1 6 po), (x64, ex_a 1 6 bp)]) (fun (a59 : Nat × Nat) => [(4, ex_i (nI a59.2)), (0, ex_r m), (1, ex_i (nI lf)), (2, ex_i al), (3, ex_i ap)]) (fun ⟨zf59, p59⟩ hI59 ih59 => ?_) (7, 0) ⟨hL59, ⟨Nat.zero_le _, Nat.le_refl _⟩⟩
      try dsimp only at hI59 ih59 ⊢
      have ihc59 : ∀ (zf59_ : Nat) (p59_ : Nat), (v_2 = F_X12_pairs_1_L59 lf zf59_ p59_ ∧ (p59_ ≤ tz6 lf ∧ 7 ≤ zf59_ + p59_)) → zf59_ < zf59 → ex_O _ _ _ _ _ _ _ _ _ [(m, ex_o 12 [ex_i x0, ex_i x1, ex_r x2, ex_i x3, ex_i x4, ex_i x5, ex_i x6, ex_j x7, ex_i x8, ex_i x9, ex_r x10, ex_r x11, ex_r x12, ex_r x13, ex_r x14, ex_r x15, ex_r x16, ex_r x17, ex_r x18, ex_r x19, ex_r x20, ex_r x21, ex_r x22, ex_r x23, ex_r x24, ex_r x25, ex_i x26, ex_i x27, ex_r x28, ex_r x29, ex_r x30, ex_r x31, ex_r x32, ex_r x33, ex_r x34, ex_r x35, ex_r x36, ex_r x37, ex_r x38, ex_r x39, ex_i x40, ex_j x41, ex_r x42, ex_r x43, ex_r x44, ex_r x45, ex_r x46, ex_r x47, ex_r x48, ex_r x49, ex_r x50, ex_r x51, ex_r x52, ex_r x53, ex_i x54, ex_i x55, ex_i x56, ex_i x57, ex_r x58, ex_r x59, ex_r x60, ex_r x61, ex_i x62, ex_r x63, ex_r x64, ex_i x65, ex_j x66]), (x10, ex_a 1 10 ho), (x15, ex_a 1 12 zt), (x63, ex_a 1 6 po), (x64, ex_a 1 6 bp)] [(4, ex_i (nI p59_)), (0, ex_r m), (1, ex_i (nI lf)), (2, ex_i al), (3, ex_i ap)] _ _ := fun zf59_ p59_ hi_ hm_ => ih59 (zf59_, p59_) hi_ hm_
      have hL59 := hI59.1
      have hp59 := hI59.2
      obtain ⟨zn, rfl⟩ : ∃ zn, zf59 = zn + 1 := ex_ow (by have hz := hp59.1; have hy := hp59.2; omega)
      have hL59 := hL59.trans (F_X12_pairs_1_L59_s ..)
      refine X_iload_n (j := 2) dX12_pairs_59 rfl rfl ?_
      refine X_iload (j := 0) dX12_pairs_60 rfl ?_
      refine X_ishr (v := ((nI lf) >>> ((nI p59) &&& 31))) dX12_pairs_62 rfl ?_
      refine X_iconst (v := 1) dX12_pairs_63 (by decide) ?_
      refine X_iand (v := (((nI lf) >>> ((nI p59) &&& 31)) &&& 1)) dX12_pairs_64 rfl ?_
      refine X_if_ne (tgt := 74) dX12_pairs_65 (by decide) (fun c_3 => ?_) (fun c_3 => ?_)
      · have hL59 := hL59.trans (if_neg c_3)
        try dsimp only at hL59
        refine X_eq (cs' := [(m, ex_o 12 [ex_i x0, ex_i x1, ex_r x2, ex_i x3, ex_i x4, ex_i x5, ex_i x6, ex_j x7, ex_i x8, ex_i x9, ex_r x10, ex_r x11, ex_r x12, ex_r x13, ex_r x14, ex_r x15, ex_r x16, ex_r x17, ex_r x18, ex_r x19, ex_r x20, ex_r x21, ex_r x22, ex_r x23, ex_r x24, ex_r x25, ex_i x26, ex_i x27, ex_r x28, ex_r x29, ex_r x30, ex_r x31, ex_r x32, ex_r x33, ex_r x34, ex_r x35, ex_r x36, ex_r x37, ex_r x38, ex_r x39, ex_i x40, ex_j x41, ex_r x42, ex_r x43, ex_r x44, ex_r x45, ex_r x46, ex_r x47, ex_r x48, ex_r x49, ex_r x50, ex_r x51, ex_r x52, ex_r x53, ex_i x54, ex_i x55, ex_i x56, ex_i x57, ex_r x58, ex_r x59, ex_r x60, ex_r x61, ex_i x62, ex_r x63, ex_r x64, ex_i x65, ex_j x66]), (x10, ex_a 1 10 ho), (x15, ex_a 1 12 zt), (x63, ex_a 1 6 po), (x64, ex_a 1 6 bp)]) (lv' := [(4, ex_i (nI v_2)), (0, ex_r m), (1, ex_i (nI lf)), (2, ex_i al), (3, ex_i ap)]) (by subst hL59; rfl) (by subst hL59; rfl) ?_
        exact hrest59 (by subst hL59; exact tz_at hlf hl0 hp59.1 c_3)
      · have hL59 := hL59.trans (if_pos c_3)
        refine X_iinc (v := nI (p59 + 1)) (j := 0) (lv' := [(4, ex_i (nI (p59 + 1))), (0, ex_r m), (1, ex_i (nI lf)), (2, ex_i al), (3, ex_i ap)]) dX12_pairs_68 rfl (nI_add p59 1) (Nat.le_of_ble_eq_true rfl) rfl ?_
        refine X_goto (tgt := 59) dX12_pairs_71 (by decide) ?_
        try dsimp only at hL59
        exact ihc59 zn (p59 + 1) ⟨hL59, ⟨tz_go hlf hl0 hp59.1 c_3, by have hz := hp59.2; omega⟩⟩ (Nat.lt_succ_self _)
    have hp59_x := hPX59
    refine X_eq (cs' := [(m, ex_o 12 [ex_i x0, ex_i x1, ex_r x2, ex_i x3, ex_i x4, ex_i x5, ex_i x6, ex_j x7, ex_i x8, ex_i x9, ex_r x10, ex_r x11, ex_r x12, ex_r x13, ex_r x14, ex_r x15, ex_r x16, ex_r x17, ex_r x18, ex_r x19, ex_r x20, ex_r x21, ex_r x22, ex_r x23, ex_r x24, ex_r x25, ex_i x26, ex_i x27, ex_r x28, ex_r x29, ex_r x30, ex_r x31, ex_r x32, ex_r x33, ex_r x34, ex_r x35, ex_r x36, ex_r x37, ex_r x38, ex_r x39, ex_i x40, ex_j x41, ex_r x42, ex_r x43, ex_r x44, ex_r x45, ex_r x46, ex_r x47, ex_r x48, ex_r x49, ex_r x50, ex_r x51, ex_r x52, ex_r x53, ex_i x54, ex_i x55, ex_i x56, ex_i x57, ex_r x58, ex_r x59, ex_r x60, ex_r x61, ex_i x62, ex_r x63, ex_r x64, ex_i x65, ex_j x66]), (x10, ex_a 1 10 ho), (x15, ex_a 1 12 zt), (x63, ex_a 1 6 po), (x64, ex_a 1 6 bp)]) (lv' := [(4, ex_i (nI (tz6 lf))), (0, ex_r m), (1, ex_i (nI lf)), (2, ex_i al), (3, ex_i ap)]) rfl (by rw [hp59_x] <;> rfl) ?_
    refine X_iload (j := 0) dX12_pairs_74 rfl ?_
    refine X_iconst (v := 1) dX12_pairs_76 (by decide) ?_
    refine X_iadd (v := nI ((tz6 lf) + 1)) dX12_pairs_77 (nI_add (tz6 lf) 1) ?_
    refine X_istore (lv' := [(5, ex_i (nI ((tz6 lf) + 1))), (4, ex_i (nI (tz6 lf))), (0, ex_r m), (1, ex_i (nI lf)), (2, ex_i al), (3, ex_i ap)]) dX12_pairs_78 (Nat.le_of_ble_eq_true rfl) rfl ?_
    -- loop at 80
    try dsimp only at hV
    generalize hq_v_4 : F_X12_pairs_1_L80 lf ap zt (np - ((tz6 lf) + 1)) ((tz6 lf) + 1) x65 po bp = v_4 at hV
    try dsimp only at hV
    refine X_cut (P := True) (csE := [(m, ex_o 12 [ex_i x0, ex_i x1, ex_r x2, ex_i x3, ex_i x4, ex_i x5, ex_i x6, ex_j x7, ex_i x8, ex_i x9, ex_r x10, ex_r x11, ex_r x12, ex_r x13, ex_r x14, ex_r x15, ex_r x16, ex_r x17, ex_r x18, ex_r x19, ex_r x20, ex_r x21, ex_r x22, ex_r x23, ex_r x24, ex_r x25, ex_i x26, ex_i x27, ex_r x28, ex_r x29, ex_r x30, ex_r x31, ex_r x32, ex_r x33, ex_r x34, ex_r x35, ex_r x36, ex_r x37, ex_r x38, ex_r x39, ex_i x40, ex_j x41, ex_r x42, ex_r x43, ex_r x44, ex_r x45, ex_r x46, ex_r x47, ex_r x48, ex_r x49, ex_r x50, ex_r x51, ex_r x52, ex_r x53, ex_i x54, ex_i x55, ex_i x56, ex_i x57, ex_r x58, ex_r x59, ex_r x60, ex_r x61, ex_i x62, ex_r x63, ex_r x64, ex_i v_4.1, ex_j x66]), (x10, ex_a 1 10 ho), (x15, ex_a 1 12 zt), (x63, ex_a 1 6 v_4.2.1), (x64, ex_a 1 6 v_4.2.2)]) (lvE := [(4, ex_i (nI (tz6 lf))), (0, ex_r m), (1, ex_i (nI lf)), (2, ex_i al), (3, ex_i ap)]) (E := 166) (fun hrest80 => ?_) (fun hPX80 => ?_)
    · have hL80 := hq_v_4.symm
      refine X_ind (fun (a80 : Nat × Int32 × (Nat → Int32) × (Nat → Int32)) => v_4 = F_X12_pairs_1_L80 lf ap zt (np - a80.1) a80.1 a80.2.1 a80.2.2.1 a80.2.2.2 ∧ a80.1 ≤ np ∧ tz6 lf < a80.1) (fun (a80 : Nat × Int32 × (Nat → Int32) × (Nat → Int32)) => np - a80.1) (fun (a80 : Nat × Int32 × (Nat → Int32) × (Nat → Int32)) => [(m, ex_o 12 [ex_i x0, ex_i x1, ex_r x2, ex_i x3, ex_i x4, ex_i x5, ex_i x6, ex_j x7, ex_i x8, ex_i x9, ex_r x10, ex_r x11, ex_r x12, ex_r x13, ex_r x14, ex_r x15, ex_r x16, ex_r x17, ex_r x18, ex_r x19, ex_r x20, ex_r x21, ex_r x22, ex_r x23, ex_r x24, ex_r x25, ex_i x26, ex_i x27, ex_r x28, ex_r x29, ex_r x30, ex_r x31, ex_r x32, ex_r x33, ex_r x34, ex_r x35, ex_r x36, ex_r x37, ex_r x38, ex_r x39, ex_i x40, ex_j x41, ex_r x42, ex_r x43, ex_r x44, ex_r x45, ex_r x46, ex_r x47, ex_r x48, ex_r x49, ex_r x50, ex_r x51, ex_r x52, ex_r x53, ex_i x54, ex_i x55, ex_i x56, ex_i x57, ex_r x58, ex_r x59, ex_r x60, ex_r x61, ex_i x62, ex_r x63, ex_r x64, ex_i a80.2.1, ex_j x66]), (x10, ex_a 1 10 ho), (x15, ex_a 1 12 zt), (x63, ex_a 1 6 a80.2.2.1), (x64, ex_a 1 6 a80.2.2.2)]) (fun (a80 : Nat × Int32 × (Nat → Int32) × (Nat → Int32)) => [(5, ex_i (nI a80.1)), (4, ex_i (nI (tz6 lf))), (0, ex_r m), (1, ex_i (nI lf)), (2, ex_i al), (3, ex_i ap)]) (fun ⟨k80, s80_0, s80_1, s80_2⟩ hI80 ih80 => ?_) ((tz6 lf) + 1, x65, po, bp) ⟨hL80, (by omega), (Nat.lt_succ_self _)⟩
      try dsimp only at hI80 ih80 ⊢
      have ihc80 : ∀ (k80_ : Nat) (s80_0_ : Int32) (s80_1_ : Nat → Int32) (s80_2_ : Nat → Int32), (v_4 = F_X12_pairs_1_L80 lf ap zt (np - k80_) k80_ s80_0_ s80_1_ s80_2_ ∧ k80_ ≤ np ∧ tz6 lf < k80_) → (np - k80_) < (np - k80) → ex_O _ _ _ _ _ _ _ _ _ [(m, ex_o 12 [ex_i x0, ex_i x1, ex_r x2, ex_i x3, ex_i x4, ex_i x5, ex_i x6, ex_j x7, ex_i x8, ex_i x9, ex_r x10, ex_r x11, ex_r x12, ex_r x13, ex_r x14, ex_r x15, ex_r x16, ex_r x17, ex_r x18, ex_r x19, ex_r x20, ex_r x21, ex_r x22, ex_r x23, ex_r x24, ex_r x25, ex_i x26, ex_i x27, ex_r x28, ex_r x29, ex_r x30, ex_r x31, ex_r x32, ex_r x33, ex_r x34, ex_r x35, ex_r x36, ex_r x37, ex_r x38, ex_r x39, ex_i x40, ex_j x41, ex_r x42, ex_r x43, ex_r x44, ex_r x45, ex_r x46, ex_r x47, ex_r x48, ex_r x49, ex_r x50, ex_r x51, ex_r x52, ex_r x53, ex_i x54, ex_i x55, ex_i x56, ex_i x57, ex_r x58, ex_r x59, ex_r x60, ex_r x61, ex_i x62, ex_r x63, ex_r x64, ex_i s80_0_, ex_j x66]), (x10, ex_a 1 10 ho), (x15, ex_a 1 12 zt), (x63, ex_a 1 6 s80_1_), (x64, ex_a 1 6 s80_2_)] [(5, ex_i (nI k80_)), (4, ex_i (nI (tz6 lf))), (0, ex_r m), (1, ex_i (nI lf)), (2, ex_i al), (3, ex_i ap)] _ _ := fun k80_ s80_0_ s80_1_ s80_2_ hi_ hm_ => ih80 (k80_, s80_0_, s80_1_, s80_2_) hi_ hm_
      have hL80 := hI80.1
      have hb80 := hI80.2.1
      have hk80 := hI80.2.2
      refine X_iload (j := 0) dX12_pairs_80 rfl ?_
      refine X_aload_n (j := 2) dX12_pairs_82 rfl rfl ?_
      refine X_get (j := 0) fo_X12_13 dX12_pairs_83 rfl rfl ?_
      refine X_iconst (v := 0) dX12_pairs_86 (by decide) ?_
      refine X_iald (j := 1) (v := nI np) dX12_pairs_87 rfl (vin (by decide)) hho0 ?_
      refine X_icmp_ge (tgt := 166) dX12_pairs_88 (by decide) (fun c_5 => ?_) (fun c_5 => ?_)
      · have hlt80 : k80 = np := nlex (L := np) (by omega) hb80 c_5
        rw [show np - k80 = 0 by omega] at hL80
        have hL80 := hL80.trans (F_X12_pairs_1_L80_z ..)
        try dsimp only at hL80
        refine X_lv (lv' := [(4, ex_i (nI (tz6 lf))), (0, ex_r m), (1, ex_i (nI lf)), (2, ex_i al), (3, ex_i ap)]) [1, 2, 3, 4, 5] rfl ?_
        refine X_eq (cs' := [(m, ex_o 12 [ex_i x0, ex_i x1, ex_r x2, ex_i x3, ex_i x4, ex_i x5, ex_i x6, ex_j x7, ex_i x8, ex_i x9, ex_r x10, ex_r x11, ex_r x12, ex_r x13, ex_r x14, ex_r x15, ex_r x16, ex_r x17, ex_r x18, ex_r x19, ex_r x20, ex_r x21, ex_r x22, ex_r x23, ex_r x24, ex_r x25, ex_i x26, ex_i x27, ex_r x28, ex_r x29, ex_r x30, ex_r x31, ex_r x32, ex_r x33, ex_r x34, ex_r x35, ex_r x36, ex_r x37, ex_r x38, ex_r x39, ex_i x40, ex_j x41, ex_r x42, ex_r x43, ex_r x44, ex_r x45, ex_r x46, ex_r x47, ex_r x48, ex_r x49, ex_r x50, ex_r x51, ex_r x52, ex_r x53, ex_i x54, ex_i x55, ex_i x56, ex_i x57, ex_r x58, ex_r x59, ex_r x60, ex_r x61, ex_i x62, ex_r x63, ex_r x64, ex_i v_4.1, ex_j x66]), (x10, ex_a 1 10 ho), (x15, ex_a 1 12 zt), (x63, ex_a 1 6 v_4.2.1), (x64, ex_a 1 6 v_4.2.2)]) (lv' := [(4, ex_i (nI (tz6 lf))), (0, ex_r m), (1, ex_i (nI lf)), (2, ex_i al), (3, ex_i ap)]) (by subst hL80; rfl) (by subst hL80; rfl) ?_
        exact hrest80 trivial
      · have hlt80 : k80 < np := nlen (L := np) (by omega) hb80 c_5
        rw [show np - k80 = (np - (k80 + 1)) + 1 by omega] at hL80
        have hL80 := hL80.trans (F_X12_pairs_1_L80_s ..)
        refine X_iload_n (j := 3) dX12_pairs_91 rfl rfl ?_
        refine X_iload (j := 0) dX12_pairs_92 rfl ?_
        refine X_ishr (v := ((nI lf) >>> ((nI k80) &&& 31))) dX12_pairs_94 rfl ?_
        refine X_iconst (v := 1) dX12_pairs_95 (by decide) ?_
        refine X_iand (v := (((nI lf) >>> ((nI k80) &&& 31)) &&& 1)) dX12_pairs_96 rfl ?_
        refine X_if_ne (tgt := 103) dX12_pairs_97 (by decide) (fun c_6 => ?_) (fun c_6 => ?_)
        · have hL80 := hL80.trans (if_neg c_6)
          refine X_aload_n (j := 2) dX12_pairs_103 rfl rfl ?_
          refine X_get (j := 0) fo_X12_147 dX12_pairs_104 rfl rfl ?_
          refine X_iload (j := 1) dX12_pairs_107 rfl ?_
          refine X_iload (j := 0) dX12_pairs_109 rfl ?_
          refine X_iast (j := 3) (g := upd s80_1 (tz6 lf) (nI k80)) (cs' := [(m, ex_o 12 [ex_i x0, ex_i x1, ex_r x2, ex_i x3, ex_i x4, ex_i x5, ex_i x6, ex_j x7, ex_i x8, ex_i x9, ex_r x10, ex_r x11, ex_r x12, ex_r x13, ex_r x14, ex_r x15, ex_r x16, ex_r x17, ex_r x18, ex_r x19, ex_r x20, ex_r x21, ex_r x22, ex_r x23, ex_r x24, ex_r x25, ex_i x26, ex_i x27, ex_r x28, ex_r x29, ex_r x30, ex_r x31, ex_r x32, ex_r x33, ex_r x34, ex_r x35, ex_r x36, ex_r x37, ex_r x38, ex_r x39, ex_i x40, ex_j x41, ex_r x42, ex_r x43, ex_r x44, ex_r x45, ex_r x46, ex_r x47, ex_r x48, ex_r x49, ex_r x50, ex_r x51, ex_r x52, ex_r x53, ex_i x54, ex_i x55, ex_i x56, ex_i x57, ex_r x58, ex_r x59, ex_r x60, ex_r x61, ex_i x62, ex_r x63, ex_r x64, ex_i s80_0, ex_j x66]), (x10, ex_a 1 10 ho), (x15, ex_a 1 12 zt), (x63, ex_a 1 6 (upd s80_1 (tz6 lf) (nI k80))), (x64, ex_a 1 6 s80_2)]) dX12_pairs_111 rfl (vp_in_nI (show tz6 lf < 6 by omega) (by decide)) (by rw [nI_clamp (by omega)]) rfl ?_
          refine X_aload_n (j := 2) dX12_pairs_112 rfl rfl ?_
          refine X_get (j := 0) fo_X12_147 dX12_pairs_113 rfl rfl ?_
          refine X_iload (j := 0) dX12_pairs_116 rfl ?_
          refine X_iload (j := 1) dX12_pairs_118 rfl ?_
          refine X_iast (j := 3) (g := upd (upd s80_1 (tz6 lf) (nI k80)) k80 (nI (tz6 lf))) (cs' := [(m, ex_o 12 [ex_i x0, ex_i x1, ex_r x2, ex_i x3, ex_i x4, ex_i x5, ex_i x6, ex_j x7, ex_i x8, ex_i x9, ex_r x10, ex_r x11, ex_r x12, ex_r x13, ex_r x14, ex_r x15, ex_r x16, ex_r x17, ex_r x18, ex_r x19, ex_r x20, ex_r x21, ex_r x22, ex_r x23, ex_r x24, ex_r x25, ex_i x26, ex_i x27, ex_r x28, ex_r x29, ex_r x30, ex_r x31, ex_r x32, ex_r x33, ex_r x34, ex_r x35, ex_r x36, ex_r x37, ex_r x38, ex_r x39, ex_i x40, ex_j x41, ex_r x42, ex_r x43, ex_r x44, ex_r x45, ex_r x46, ex_r x47, ex_r x48, ex_r x49, ex_r x50, ex_r x51, ex_r x52, ex_r x53, ex_i x54, ex_i x55, ex_i x56, ex_i x57, ex_r x58, ex_r x59, ex_r x60, ex_r x61, ex_i x62, ex_r x63, ex_r x64, ex_i s80_0, ex_j x66]), (x10, ex_a 1 10 ho), (x15, ex_a 1 12 zt), (x63, ex_a 1 6 (upd (upd s80_1 (tz6 lf) (nI k80)) k80 (nI (tz6 lf)))), (x64, ex_a 1 6 s80_2)]) dX12_pairs_120 rfl (vp_in_nI (show k80 < 6 by omega) (by decide)) (by rw [nI_clamp (by omega)]) rfl ?_
          refine X_aload_n (j := 2) dX12_pairs_121 rfl rfl ?_
          refine X_iload_n (j := 3) dX12_pairs_122 rfl rfl ?_
          refine X_iconst (v := 1) dX12_pairs_123 (by decide) ?_
          refine X_iload (j := 1) dX12_pairs_124 rfl ?_
          refine X_ishl (v := (1 <<< ((nI (tz6 lf)) &&& 31))) dX12_pairs_126 rfl ?_
          refine X_iconst (v := (-1)) dX12_pairs_127 (by decide) ?_
          refine X_ixor (v := ((1 <<< ((nI (tz6 lf)) &&& 31)) ^^^ (-1))) dX12_pairs_128 rfl ?_
          refine X_iand (v := nI (lf - 2 ^ tz6 lf)) dX12_pairs_129 (an_tz hlf hl0) ?_
          refine X_iconst (v := 1) dX12_pairs_130 (by decide) ?_
          refine X_iload (j := 0) dX12_pairs_131 rfl ?_
          refine X_ishl (v := (1 <<< ((nI k80) &&& 31))) dX12_pairs_133 rfl ?_
          refine X_iconst (v := (-1)) dX12_pairs_134 (by decide) ?_
          refine X_ixor (v := ((1 <<< ((nI k80) &&& 31)) ^^^ (-1))) dX12_pairs_135 rfl ?_
          refine X_iand (v := nI ((lf - 2 ^ tz6 lf) - 2 ^ k80)) dX12_pairs_136 (an_bit hO (by omega) (bitO lf hlf hl0 k80 (by omega) hk80 c_6)) ?_
          refine X_iload_n (j := 4) dX12_pairs_137 rfl rfl ?_
          refine X_iload_n (j := 5) dX12_pairs_138 rfl rfl ?_
          refine X_aload_n (j := 2) dX12_pairs_139 rfl rfl ?_
          refine X_get (j := 0) fo_X12_29 dX12_pairs_140 rfl rfl ?_
          refine X_iload (j := 1) dX12_pairs_143 rfl ?_
          refine X_iald (j := 2) (v := (zt (tz6 lf))) dX12_pairs_145 rfl (vp_in_nI (show tz6 lf < 12 by omega) (by decide)) (by rw [nI_clamp (by omega)]) ?_
          refine X_aload_n (j := 2) dX12_pairs_146 rfl rfl ?_
          refine X_get (j := 0) fo_X12_29 dX12_pairs_147 rfl rfl ?_
          refine X_iload (j := 0) dX12_pairs_150 rfl ?_
          refine X_iald (j := 2) (v := (zt k80)) dX12_pairs_152 rfl (vp_in_nI (show k80 < 12 by omega) (by decide)) (by rw [nI_clamp (by omega)]) ?_
          refine X_callS (rest := [(m, ex_o 12 [ex_i x0, ex_i x1, ex_r x2, ex_i x3, ex_i x4, ex_i x5, ex_i x6, ex_j x7, ex_i x8, ex_i x9, ex_r x10, ex_r x11, ex_r x12, ex_r x13, ex_r x14, ex_r x15, ex_r x16, ex_r x17, ex_r x18, ex_r x19, ex_r x20, ex_r x21, ex_r x22, ex_r x23, ex_r x24, ex_r x25, ex_i x26, ex_i x27, ex_r x28, ex_r x29, ex_r x30, ex_r x31, ex_r x32, ex_r x33, ex_r x34, ex_r x35, ex_r x36, ex_r x37, ex_r x38, ex_r x39, ex_i x40, ex_j x41, ex_r x42, ex_r x43, ex_r x44, ex_r x45, ex_r x46, ex_r x47, ex_r x48, ex_r x49, ex_r x50, ex_r x51, ex_r x52, ex_r x53, ex_i x54, ex_i x55, ex_i x56, ex_i x57, ex_r x58, ex_r x59, ex_r x60, ex_r x61, ex_i x62, ex_r x63, ex_r x64, ex_i s80_0, ex_j x66]), (x10, ex_a 1 10 ho), (x15, ex_a 1 12 zt), (x63, ex_a 1 6 (upd (upd s80_1 (tz6 lf) (nI k80)) k80 (nI (tz6 lf)))), (x64, ex_a 1 6 s80_2)]) (stk := [ex_i ap, ex_i al, ex_i (nI ((lf - 2 ^ tz6 lf) - 2 ^ k80)), ex_r m]) co_X12_402 rfl ⟨(Nat.le_of_ble_eq_true rfl), (Nat.le_of_ble_eq_true rfl)⟩ (e_X12_away l (zt (tz6 lf)) (zt k80)) dX12_pairs_153 [0, 1, 2, 3, 4] (show List.Perm [0, 1, 2, 3, 4] (List.range 5) from by decide) rfl rfl rfl (Nat.le_of_ble_eq_true rfl) (fun zc1 zr hq hk => ?_)
          obtain ⟨rfl, rfl⟩ := hq
          refine X_iadd (v := (ap + (F_X12_away (zt (tz6 lf)) (zt k80)))) dX12_pairs_156 rfl ?_
          refine X_callV (j0 := 0) (rest := []) (stk := []) co_X12_512 rfl ⟨(Nat.le_of_ble_eq_true rfl), (Nat.le_of_ble_eq_true rfl)⟩ (e_X12_pairs_0 l np m ((lf - 2 ^ tz6 lf) - 2 ^ k80) al (ap + (F_X12_away (zt (tz6 lf)) (zt k80))) x0 x1 x2 x3 x4 x5 x6 x7 x8 x9 x10 x11 x12 x13 x14 x15 x16 x17 x18 x19 x20 x21 x22 x23 x24 x25 x26 x27 x28 x29 x30 x31 x32 x33 x34 x35 x36 x37 x38 x39 x40 x41 x42 x43 x44 x45 x46 x47 x48 x49 x50 x51 x52 x53 x54 x55 x56 x57 x58 x59 x60 x61 x62 x63 x64 s80_0 x66 ho zt (upd (upd s80_1 (tz6 lf) (nI k80)) k80 (nI (tz6 lf))) s80_2 (by first | assumption | omega) (by first | assumption | omega) (Nat.lt_of_le_of_lt (Nat.sub_le _ _) hO) (Nat.lt_of_le_of_lt (Nat.le_trans (Nat.sub_le _ _) (Nat.sub_le _ _)) hln) (bi_bit hO (by omega) (bitO lf hlf hl0 k80 (by omega) hk80 c_6) (bi_tz hlf hl0 hb))) dX12_pairs_157 [0, 1, 2, 3, 4] (show List.Perm [0, 1, 2, 3, 4] (List.range 5) from by decide) rfl rfl rfl rfl (Nat.le_of_ble_eq_true rfl) (fun zc1 zr hq hk => ?_)
          obtain ⟨rfl, rfl⟩ := hq
          try dsimp only at hL80
          generalize hq_w_7 : F_X12_pairs_0 (ap + (F_X12_away (zt (tz6 lf)) (zt k80))) s80_0 (upd (upd s80_1 (tz6 lf) (nI k80)) k80 (nI (tz6 lf))) s80_2 = w_7 at hL80 ⊢
          try dsimp only at hL80
          refine X_iinc (v := nI (k80 + 1)) (j := 0) (lv' := [(5, ex_i (nI (k80 + 1))), (4, ex_i (nI (tz6 lf))), (0, ex_r m), (1, ex_i (nI lf)), (2, ex_i al), (3, ex_i ap)]) dX12_pairs_160 rfl (nI_add k80 1) (Nat.le_of_ble_eq_true rfl) rfl ?_
          refine X_goto (tgt := 80) dX12_pairs_163 (by decide) ?_
          try dsimp only at hL80
          exact ihc80 (k80 + 1) w_7.1 (upd (upd s80_1 (tz6 lf) (nI k80)) k80 (nI (tz6 lf))) w_7.2 ⟨hL80, (show (k80 + 1) ≤ np by omega), (show tz6 lf < (k80 + 1) by omega)⟩ (show np - (k80 + 1) < np - k80 by omega)
        · have hL80 := hL80.trans (if_pos c_6)
          refine X_goto (tgt := 160) dX12_pairs_100 (by decide) ?_
          refine X_iinc (v := nI (k80 + 1)) (j := 0) (lv' := [(5, ex_i (nI (k80 + 1))), (4, ex_i (nI (tz6 lf))), (0, ex_r m), (1, ex_i (nI lf)), (2, ex_i al), (3, ex_i ap)]) dX12_pairs_160 rfl (nI_add k80 1) (Nat.le_of_ble_eq_true rfl) rfl ?_
          refine X_goto (tgt := 80) dX12_pairs_163 (by decide) ?_
          try dsimp only at hL80
          exact ihc80 (k80 + 1) s80_0 s80_1 s80_2 ⟨hL80, (show (k80 + 1) ≤ np by omega), (show tz6 lf < (k80 + 1) by omega)⟩ (show np - (k80 + 1) < np - k80 by omega)
    refine X_aload_n (j := 1) dX12_pairs_166 rfl rfl ?_
    refine X_get (j := 0) fo_X12_147 dX12_pairs_167 rfl rfl ?_
    refine X_iload (j := 0) dX12_pairs_170 rfl ?_
    refine X_iconst (v := (-1)) dX12_pairs_172 (by decide) ?_
    refine X_iast (j := 3) (g := upd v_4.2.1 (tz6 lf) (-1)) (cs' := [(m, ex_o 12 [ex_i x0, ex_i x1, ex_r x2, ex_i x3, ex_i x4, ex_i x5, ex_i x6, ex_j x7, ex_i x8, ex_i x9, ex_r x10, ex_r x11, ex_r x12, ex_r x13, ex_r x14, ex_r x15, ex_r x16, ex_r x17, ex_r x18, ex_r x19, ex_r x20, ex_r x21, ex_r x22, ex_r x23, ex_r x24, ex_r x25, ex_i x26, ex_i x27, ex_r x28, ex_r x29, ex_r x30, ex_r x31, ex_r x32, ex_r x33, ex_r x34, ex_r x35, ex_r x36, ex_r x37, ex_r x38, ex_r x39, ex_i x40, ex_j x41, ex_r x42, ex_r x43, ex_r x44, ex_r x45, ex_r x46, ex_r x47, ex_r x48, ex_r x49, ex_r x50, ex_r x51, ex_r x52, ex_r x53, ex_i x54, ex_i x55, ex_i x56, ex_i x57, ex_r x58, ex_r x59, ex_r x60, ex_r x61, ex_i x62, ex_r x63, ex_r x64, ex_i v_4.1, ex_j x66]), (x10, ex_a 1 10 ho), (x15, ex_a 1 12 zt), (x63, ex_a 1 6 (upd v_4.2.1 (tz6 lf) (-1))), (x64, ex_a 1 6 v_4.2.2)]) dX12_pairs_173 rfl (vp_in_nI (show tz6 lf < 6 by omega) (by decide)) (by rw [nI_clamp (by omega)]) rfl ?_
    refine X_iload_n (j := 3) dX12_pairs_174 rfl rfl ?_
    refine X_if_eq (tgt := 192) dX12_pairs_175 (by decide) (fun c_8 => ?_) (fun c_8 => ?_)
    · have hV := hV.trans (if_pos c_8)
      try dsimp only at hV
      exact X_vret dX12_pairs_192 (by (repeat refine ex_kc ?_) <;> rfl) (by subst hV; exact ⟨rfl, rfl⟩)
    · have hV := hV.trans (if_neg c_8)
      refine X_aload_n (j := 1) dX12_pairs_178 rfl rfl ?_
      refine X_iload_n (j := 2) dX12_pairs_179 rfl rfl ?_
      refine X_iconst (v := 1) dX12_pairs_180 (by decide) ?_
      refine X_iload (j := 0) dX12_pairs_181 rfl ?_
      refine X_ishl (v := (1 <<< ((nI (tz6 lf)) &&& 31))) dX12_pairs_183 rfl ?_
      refine X_iconst (v := (-1)) dX12_pairs_184 (by decide) ?_
      refine X_ixor (v := ((1 <<< ((nI (tz6 lf)) &&& 31)) ^^^ (-1))) dX12_pairs_185 rfl ?_
      refine X_iand (v := nI (lf - 2 ^ tz6 lf)) dX12_pairs_186 (an_tz hlf hl0) ?_
      refine X_iconst (v := 0) dX12_pairs_187 (by decide) ?_
      refine X_iload_n (j := 4) dX12_pairs_188 rfl rfl ?_
      refine X_callV (j0 := 0) (rest := []) (stk := []) co_X12_512 rfl ⟨(Nat.le_of_ble_eq_true rfl), (Nat.le_of_ble_eq_true rfl)⟩ (e_X12_pairs_0 l np m (lf - 2 ^ tz6 lf) 0 ap x0 x1 x2 x3 x4 x5 x6 x7 x8 x9 x10 x11 x12 x13 x14 x15 x16 x17 x18 x19 x20 x21 x22 x23 x24 x25 x26 x27 x28 x29 x30 x31 x32 x33 x34 x35 x36 x37 x38 x39 x40 x41 x42 x43 x44 x45 x46 x47 x48 x49 x50 x51 x52 x53 x54 x55 x56 x57 x58 x59 x60 x61 x62 x63 x64 v_4.1 x66 ho zt (upd v_4.2.1 (tz6 lf) (-1)) v_4.2.2 (by first | assumption | omega) (by first | assumption | omega) hO (Nat.lt_of_le_of_lt (Nat.sub_le _ _) hln) (bi_tz hlf hl0 hb)) dX12_pairs_189 [0, 1, 2, 3, 4] (show List.Perm [0, 1, 2, 3, 4] (List.range 5) from by decide) rfl rfl rfl rfl (Nat.le_of_ble_eq_true rfl) (fun zc1 zr hq hk => ?_)
      obtain ⟨rfl, rfl⟩ := hq
      try dsimp only at hV
      generalize hq_w_9 : F_X12_pairs_0 ap v_4.1 (upd v_4.2.1 (tz6 lf) (-1)) v_4.2.2 = w_9 at hV ⊢
      try dsimp only at hV
      try dsimp only at hV
      exact X_vret dX12_pairs_192 (by (repeat refine ex_kc ?_) <;> rfl) (by subst hV; exact ⟨rfl, rfl⟩)
  · have hV := hV.trans (if_pos c_1)
    refine X_aload_n (j := 0) dX12_pairs_4 rfl rfl ?_
    refine X_get (j := 0) fo_X12_509 dX12_pairs_5 rfl rfl ?_
    refine X_if_lt (tgt := 20) dX12_pairs_8 (by decide) (fun c_10 => ?_) (fun c_10 => ?_)
    · have hV := hV.trans (if_pos c_10)
      refine X_aload_n (j := 0) dX12_pairs_20 rfl rfl ?_
      refine X_iload_n (j := 3) dX12_pairs_21 rfl rfl ?_
      refine X_put (j := 0) (cs' := [(m, ex_o 12 [ex_i x0, ex_i x1, ex_r x2, ex_i x3, ex_i x4, ex_i x5, ex_i x6, ex_j x7, ex_i x8, ex_i x9, ex_r x10, ex_r x11, ex_r x12, ex_r x13, ex_r x14, ex_r x15, ex_r x16, ex_r x17, ex_r x18, ex_r x19, ex_r x20, ex_r x21, ex_r x22, ex_r x23, ex_r x24, ex_r x25, ex_i x26, ex_i x27, ex_r x28, ex_r x29, ex_r x30, ex_r x31, ex_r x32, ex_r x33, ex_r x34, ex_r x35, ex_r x36, ex_r x37, ex_r x38, ex_r x39, ex_i x40, ex_j x41, ex_r x42, ex_r x43, ex_r x44, ex_r x45, ex_r x46, ex_r x47, ex_r x48, ex_r x49, ex_r x50, ex_r x51, ex_r x52, ex_r x53, ex_i x54, ex_i x55, ex_i x56, ex_i x57, ex_r x58, ex_r x59, ex_r x60, ex_r x61, ex_i x62, ex_r x63, ex_r x64, ex_i ap, ex_j x66]), (x10, ex_a 1 10 ho), (x15, ex_a 1 12 zt), (x63, ex_a 1 6 po), (x64, ex_a 1 6 bp)]) fo_X12_509 (by decide) dX12_pairs_22 rfl (Nat.le_of_ble_eq_true rfl) trivial rfl ?_
      refine X_iconst (v := 0) dX12_pairs_25 (by decide) ?_
      refine X_istore (lv' := [(4, ex_i 0), (0, ex_r m), (1, ex_i (nI lf)), (2, ex_i al), (3, ex_i ap)]) dX12_pairs_26 (Nat.le_of_ble_eq_true rfl) rfl ?_
      -- loop at 28
      try dsimp only at hV
      generalize hq_v_11 : F_X12_pairs_1_L28 po (6 - 0) 0 bp = v_11 at hV
      try dsimp only at hV
      refine X_cut (P := True) (csE := [(m, ex_o 12 [ex_i x0, ex_i x1, ex_r x2, ex_i x3, ex_i x4, ex_i x5, ex_i x6, ex_j x7, ex_i x8, ex_i x9, ex_r x10, ex_r x11, ex_r x12, ex_r x13, ex_r x14, ex_r x15, ex_r x16, ex_r x17, ex_r x18, ex_r x19, ex_r x20, ex_r x21, ex_r x22, ex_r x23, ex_r x24, ex_r x25, ex_i x26, ex_i x27, ex_r x28, ex_r x29, ex_r x30, ex_r x31, ex_r x32, ex_r x33, ex_r x34, ex_r x35, ex_r x36, ex_r x37, ex_r x38, ex_r x39, ex_i x40, ex_j x41, ex_r x42, ex_r x43, ex_r x44, ex_r x45, ex_r x46, ex_r x47, ex_r x48, ex_r x49, ex_r x50, ex_r x51, ex_r x52, ex_r x53, ex_i x54, ex_i x55, ex_i x56, ex_i x57, ex_r x58, ex_r x59, ex_r x60, ex_r x61, ex_i x62, ex_r x63, ex_r x64, ex_i ap, ex_j x66]), (x10, ex_a 1 10 ho), (x15, ex_a 1 12 zt), (x63, ex_a 1 6 po), (x64, ex_a 1 6 v_11)]) (lvE := [(0, ex_r m), (1, ex_i (nI lf)), (2, ex_i al), (3, ex_i ap)]) (E := 55) (fun hrest28 => ?_) (fun hPX28 => ?_)
      · have hL28 := hq_v_11.symm
        refine X_ind (fun (a28 : Nat × (Nat → Int32)) => v_11 = F_X12_pairs_1_L28 po (6 - a28.1) a28.1 a28.2 ∧ a28.1 ≤ 6) (fun (a28 : Nat × (Nat → Int32)) => 6 - a28.1) (fun (a28 : Nat × (Nat → Int32)) => [(m, ex_o 12 [ex_i x0, ex_i x1, ex_r x2, ex_i x3, ex_i x4, ex_i x5, ex_i x6, ex_j x7, ex_i x8, ex_i x9, ex_r x10, ex_r x11, ex_r x12, ex_r x13, ex_r x14, ex_r x15, ex_r x16, ex_r x17, ex_r x18, ex_r x19, ex_r x20, ex_r x21, ex_r x22, ex_r x23, ex_r x24, ex_r x25, ex_i x26, ex_i x27, ex_r x28, ex_r x29, ex_r x30, ex_r x31, ex_r x32, ex_r x33, ex_r x34, ex_r x35, ex_r x36, ex_r x37, ex_r x38, ex_r x39, ex_i x40, ex_j x41, ex_r x42, ex_r x43, ex_r x44, ex_r x45, ex_r x46, ex_r x47, ex_r x48, ex_r x49, ex_r x50, ex_r x51, ex_r x52, ex_r x53, ex_i x54, ex_i x55, ex_i x56, ex_i x57, ex_r x58, ex_r x59, ex_r x60, ex_r x61, ex_i x62, ex_r x63, ex_r x64, ex_i ap, ex_j x66]), (x10, ex_a 1 10 ho), (x15, ex_a 1 12 zt), (x63, ex_a 1 6 po), (x64, ex_a 1 6 a28.2)]) (fun (a28 : Nat × (Nat → Int32)) => [(4, ex_i (nI a28.1)), (0, ex_r m), (1, ex_i (nI lf)), (2, ex_i al), (3, ex_i ap)]) (fun ⟨k28, s28_0⟩ hI28 ih28 => ?_) (0, bp) ⟨hL28, (by omega)⟩
        try dsimp only at hI28 ih28 ⊢
        have ihc28 : ∀ (k28_ : Nat) (s28_0_ : Nat → Int32), (v_11 = F_X12_pairs_1_L28 po (6 - k28_) k28_ s28_0_ ∧ k28_ ≤ 6) → (6 - k28_) < (6 - k28) → ex_O _ _ _ _ _ _ _ _ _ [(m, ex_o 12 [ex_i x0, ex_i x1, ex_r x2, ex_i x3, ex_i x4, ex_i x5, ex_i x6, ex_j x7, ex_i x8, ex_i x9, ex_r x10, ex_r x11, ex_r x12, ex_r x13, ex_r x14, ex_r x15, ex_r x16, ex_r x17, ex_r x18, ex_r x19, ex_r x20, ex_r x21, ex_r x22, ex_r x23, ex_r x24, ex_r x25, ex_i x26, ex_i x27, ex_r x28, ex_r x29, ex_r x30, ex_r x31, ex_r x32, ex_r x33, ex_r x34, ex_r x35, ex_r x36, ex_r x37, ex_r x38, ex_r x39, ex_i x40, ex_j x41, ex_r x42, ex_r x43, ex_r x44, ex_r x45, ex_r x46, ex_r x47, ex_r x48, ex_r x49, ex_r x50, ex_r x51, ex_r x52, ex_r x53, ex_i x54, ex_i x55, ex_i x56, ex_i x57, ex_r x58, ex_r x59, ex_r x60, ex_r x61, ex_i x62, ex_r x63, ex_r x64, ex_i ap, ex_j x66]), (x10, ex_a 1 10 ho), (x15, ex_a 1 12 zt), (x63, ex_a 1 6 po), (x64, ex_a 1 6 s28_0_)] [(4, ex_i (nI k28_)), (0, ex_r m), (1, ex_i (nI lf)), (2, ex_i al), (3, ex_i ap)] _ _ := fun k28_ s28_0_ hi_ hm_ => ih28 (k28_, s28_0_) hi_ hm_
        have hL28 := hI28.1
        have hb28 := hI28.2
        refine X_iload (j := 0) dX12_pairs_28 rfl ?_
        refine X_bipush (v := 6) dX12_pairs_30 (by decide) ?_
        refine X_icmp_ge (tgt := 55) dX12_pairs_32 (by decide) (fun c_12 => ?_) (fun c_12 => ?_)
        · have hlt28 : k28 = 6 := nlex (L := 6) (by omega) hb28 c_12
          rw [show 6 - k28 = 0 by omega] at hL28
          have hL28 := hL28.trans (F_X12_pairs_1_L28_z ..)
          try dsimp only at hL28
          refine X_lv (lv' := [(0, ex_r m), (1, ex_i (nI lf)), (2, ex_i al), (3, ex_i ap)]) [1, 2, 3, 4] rfl ?_
          refine X_eq (cs' := [(m, ex_o 12 [ex_i x0, ex_i x1, ex_r x2, ex_i x3, ex_i x4, ex_i x5, ex_i x6, ex_j x7, ex_i x8, ex_i x9, ex_r x10, ex_r x11, ex_r x12, ex_r x13, ex_r x14, ex_r x15, ex_r x16, ex_r x17, ex_r x18, ex_r x19, ex_r x20, ex_r x21, ex_r x22, ex_r x23, ex_r x24, ex_r x25, ex_i x26, ex_i x27, ex_r x28, ex_r x29, ex_r x30, ex_r x31, ex_r x32, ex_r x33, ex_r x34, ex_r x35, ex_r x36, ex_r x37, ex_r x38, ex_r x39, ex_i x40, ex_j x41, ex_r x42, ex_r x43, ex_r x44, ex_r x45, ex_r x46, ex_r x47, ex_r x48, ex_r x49, ex_r x50, ex_r x51, ex_r x52, ex_r x53, ex_i x54, ex_i x55, ex_i x56, ex_i x57, ex_r x58, ex_r x59, ex_r x60, ex_r x61, ex_i x62, ex_r x63, ex_r x64, ex_i ap, ex_j x66]), (x10, ex_a 1 10 ho), (x15, ex_a 1 12 zt), (x63, ex_a 1 6 po), (x64, ex_a 1 6 v_11)]) (lv' := [(0, ex_r m), (1, ex_i (nI lf)), (2, ex_i al), (3, ex_i ap)]) (by subst hL28; rfl) (by subst hL28; rfl) ?_
          exact hrest28 trivial
        · have hlt28 : k28 < 6 := nlen (L := 6) (by omega) hb28 c_12
          rw [show 6 - k28 = (6 - (k28 + 1)) + 1 by omega] at hL28
          have hL28 := hL28.trans (F_X12_pairs_1_L28_s ..)
          refine X_aload_n (j := 1) dX12_pairs_35 rfl rfl ?_
          refine X_get (j := 0) fo_X12_150 dX12_pairs_36 rfl rfl ?_
          refine X_iload (j := 0) dX12_pairs_39 rfl ?_
          refine X_aload_n (j := 1) dX12_pairs_41 rfl rfl ?_
          refine X_get (j := 0) fo_X12_147 dX12_pairs_42 rfl rfl ?_
          refine X_iload (j := 0) dX12_pairs_45 rfl ?_
          refine X_iald (j := 3) (v := (po k28)) dX12_pairs_47 rfl (vp_in_nI (show k28 < 6 by omega) (by decide)) (by rw [nI_clamp (by omega)]) ?_
          refine X_iast (j := 4) (g := upd s28_0 k28 (po k28)) (cs' := [(m, ex_o 12 [ex_i x0, ex_i x1, ex_r x2, ex_i x3, ex_i x4, ex_i x5, ex_i x6, ex_j x7, ex_i x8, ex_i x9, ex_r x10, ex_r x11, ex_r x12, ex_r x13, ex_r x14, ex_r x15, ex_r x16, ex_r x17, ex_r x18, ex_r x19, ex_r x20, ex_r x21, ex_r x22, ex_r x23, ex_r x24, ex_r x25, ex_i x26, ex_i x27, ex_r x28, ex_r x29, ex_r x30, ex_r x31, ex_r x32, ex_r x33, ex_r x34, ex_r x35, ex_r x36, ex_r x37, ex_r x38, ex_r x39, ex_i x40, ex_j x41, ex_r x42, ex_r x43, ex_r x44, ex_r x45, ex_r x46, ex_r x47, ex_r x48, ex_r x49, ex_r x50, ex_r x51, ex_r x52, ex_r x53, ex_i x54, ex_i x55, ex_i x56, ex_i x57, ex_r x58, ex_r x59, ex_r x60, ex_r x61, ex_i x62, ex_r x63, ex_r x64, ex_i ap, ex_j x66]), (x10, ex_a 1 10 ho), (x15, ex_a 1 12 zt), (x63, ex_a 1 6 po), (x64, ex_a 1 6 (upd s28_0 k28 (po k28)))]) dX12_pairs_48 rfl (vp_in_nI (show k28 < 6 by omega) (by decide)) (by rw [nI_clamp (by omega)]) rfl ?_
          refine X_iinc (v := nI (k28 + 1)) (j := 0) (lv' := [(4, ex_i (nI (k28 + 1))), (0, ex_r m), (1, ex_i (nI lf)), (2, ex_i al), (3, ex_i ap)]) dX12_pairs_49 rfl (nI_add k28 1) (Nat.le_of_ble_eq_true rfl) rfl ?_
          refine X_goto (tgt := 28) dX12_pairs_52 (by decide) ?_
          try dsimp only at hL28
          exact ihc28 (k28 + 1) (upd s28_0 k28 (po k28)) ⟨hL28, (show (k28 + 1) ≤ 6 by omega)⟩ (show 6 - (k28 + 1) < 6 - k28 by omega)
      try dsimp only at hV
      exact X_vret dX12_pairs_55 (by (repeat refine ex_kc ?_) <;> rfl) (by subst hV; exact ⟨rfl, rfl⟩)
    · have hV := hV.trans (if_neg c_10)
      refine X_iload_n (j := 3) dX12_pairs_11 rfl rfl ?_
      refine X_aload_n (j := 0) dX12_pairs_12 rfl rfl ?_
      refine X_get (j := 0) fo_X12_509 dX12_pairs_13 rfl rfl ?_
      refine X_icmp_lt (tgt := 20) dX12_pairs_16 (by decide) (fun c_13 => ?_) (fun c_13 => ?_)
      · have hV := hV.trans (if_pos c_13)
        refine X_aload_n (j := 0) dX12_pairs_20 rfl rfl ?_
        refine X_iload_n (j := 3) dX12_pairs_21 rfl rfl ?_
        refine X_put (j := 0) (cs' := [(m, ex_o 12 [ex_i x0, ex_i x1, ex_r x2, ex_i x3, ex_i x4, ex_i x5, ex_i x6, ex_j x7, ex_i x8, ex_i x9, ex_r x10, ex_r x11, ex_r x12, ex_r x13, ex_r x14, ex_r x15, ex_r x16, ex_r x17, ex_r x18, ex_r x19, ex_r x20, ex_r x21, ex_r x22, ex_r x23, ex_r x24, ex_r x25, ex_i x26, ex_i x27, ex_r x28, ex_r x29, ex_r x30, ex_r x31, ex_r x32, ex_r x33, ex_r x34, ex_r x35, ex_r x36, ex_r x37, ex_r x38, ex_r x39, ex_i x40, ex_j x41, ex_r x42, ex_r x43, ex_r x44, ex_r x45, ex_r x46, ex_r x47, ex_r x48, ex_r x49, ex_r x50, ex_r x51, ex_r x52, ex_r x53, ex_i x54, ex_i x55, ex_i x56, ex_i x57, ex_r x58, ex_r x59, ex_r x60, ex_r x61, ex_i x62, ex_r x63, ex_r x64, ex_i ap, ex_j x66]), (x10, ex_a 1 10 ho), (x15, ex_a 1 12 zt), (x63, ex_a 1 6 po), (x64, ex_a 1 6 bp)]) fo_X12_509 (by decide) dX12_pairs_22 rfl (Nat.le_of_ble_eq_true rfl) trivial rfl ?_
        refine X_iconst (v := 0) dX12_pairs_25 (by decide) ?_
        refine X_istore (lv' := [(4, ex_i 0), (0, ex_r m), (1, ex_i (nI lf)), (2, ex_i al), (3, ex_i ap)]) dX12_pairs_26 (Nat.le_of_ble_eq_true rfl) rfl ?_
        -- loop at 28
        try dsimp only at hV
        generalize hq_v_14 : F_X12_pairs_1_L28_2 po (6 - 0) 0 bp = v_14 at hV
        try dsimp only at hV
        refine X_cut (P := True) (csE := [(m, ex_o 12 [ex_i x0, ex_i x1, ex_r x2, ex_i x3, ex_i x4, ex_i x5, ex_i x6, ex_j x7, ex_i x8, ex_i x9, ex_r x10, ex_r x11, ex_r x12, ex_r x13, ex_r x14, ex_r x15, ex_r x16, ex_r x17, ex_r x18, ex_r x19, ex_r x20, ex_r x21, ex_r x22, ex_r x23, ex_r x24, ex_r x25, ex_i x26, ex_i x27, ex_r x28, ex_r x29, ex_r x30, ex_r x31, ex_r x32, ex_r x33, ex_r x34, ex_r x35, ex_r x36, ex_r x37, ex_r x38, ex_r x39, ex_i x40, ex_j x41, ex_r x42, ex_r x43, ex_r x44, ex_r x45, ex_r x46, ex_r x47, ex_r x48, ex_r x49, ex_r x50, ex_r x51, ex_r x52, ex_r x53, ex_i x54, ex_i x55, ex_i x56, ex_i x57, ex_r x58, ex_r x59, ex_r x60, ex_r x61, ex_i x62, ex_r x63, ex_r x64, ex_i ap, ex_j x66]), (x10, ex_a 1 10 ho), (x15, ex_a 1 12 zt), (x63, ex_a 1 6 po), (x64, ex_a 1 6 v_14)]) (lvE := [(0, ex_r m), (1, ex_i (nI lf)), (2, ex_i al), (3, ex_i ap)]) (E := 55) (fun hrest28 => ?_) (fun hPX28 => ?_)
        · have hL28 := hq_v_14.symm
          refine X_ind (fun (a28 : Nat × (Nat → Int32)) => v_14 = F_X12_pairs_1_L28_2 po (6 - a28.1) a28.1 a28.2 ∧ a28.1 ≤ 6) (fun (a28 : Nat × (Nat → Int32)) => 6 - a28.1) (fun (a28 : Nat × (Nat → Int32)) => [(m, ex_o 12 [ex_i x0, ex_i x1, ex_r x2, ex_i x3, ex_i x4, ex_i x5, ex_i x6, ex_j x7, ex_i x8, ex_i x9, ex_r x10, ex_r x11, ex_r x12, ex_r x13, ex_r x14, ex_r x15, ex_r x16, ex_r x17, ex_r x18, ex_r x19, ex_r x20, ex_r x21, ex_r x22, ex_r x23, ex_r x24, ex_r x25, ex_i x26, ex_i x27, ex_r x28, ex_r x29, ex_r x30, ex_r x31, ex_r x32, ex_r x33, ex_r x34, ex_r x35, ex_r x36, ex_r x37, ex_r x38, ex_r x39, ex_i x40, ex_j x41, ex_r x42, ex_r x43, ex_r x44, ex_r x45, ex_r x46, ex_r x47, ex_r x48, ex_r x49, ex_r x50, ex_r x51, ex_r x52, ex_r x53, ex_i x54, ex_i x55, ex_i x56, ex_i x57, ex_r x58, ex_r x59, ex_r x60, ex_r x61, ex_i x62, ex_r x63, ex_r x64, ex_i ap, ex_j x66]), (x10, ex_a 1 10 ho), (x15, ex_a 1 12 zt), (x63, ex_a 1 6 po), (x64, ex_a 1 6 a28.2)]) (fun (a28 : Nat × (Nat → Int32)) => [(4, ex_i (nI a28.1)), (0, ex_r m), (1, ex_i (nI lf)), (2, ex_i al), (3, ex_i ap)]) (fun ⟨k28, s28_0⟩ hI28 ih28 => ?_) (0, bp) ⟨hL28, (by omega)⟩
          try dsimp only at hI28 ih28 ⊢
          have ihc28 : ∀ (k28_ : Nat) (s28_0_ : Nat → Int32), (v_14 = F_X12_pairs_1_L28_2 po (6 - k28_) k28_ s28_0_ ∧ k28_ ≤ 6) → (6 - k28_) < (6 - k28) → ex_O _ _ _ _ _ _ _ _ _ [(m, ex_o 12 [ex_i x0, ex_i x1, ex_r x2, ex_i x3, ex_i x4, ex_i x5, ex_i x6, ex_j x7, ex_i x8, ex_i x9, ex_r x10, ex_r x11, ex_r x12, ex_r x13, ex_r x14, ex_r x15, ex_r x16, ex_r x17, ex_r x18, ex_r x19, ex_r x20, ex_r x21, ex_r x22, ex_r x23, ex_r x24, ex_r x25, ex_i x26, ex_i x27, ex_r x28, ex_r x29, ex_r x30, ex_r x31, ex_r x32, ex_r x33, ex_r x34, ex_r x35, ex_r x36, ex_r x37, ex_r x38, ex_r x39, ex_i x40, ex_j x41, ex_r x42, ex_r x43, ex_r x44, ex_r x45, ex_r x46, ex_r x47, ex_r x48, ex_r x49, ex_r x50, ex_r x51, ex_r x52, ex_r x53, ex_i x54, ex_i x55, ex_i x56, ex_i x57, ex_r x58, ex_r x59, ex_r x60, ex_r x61, ex_i x62, ex_r x63, ex_r x64, ex_i ap, ex_j x66]), (x10, ex_a 1 10 ho), (x15, ex_a 1 12 zt), (x63, ex_a 1 6 po), (x64, ex_a 1 6 s28_0_)] [(4, ex_i (nI k28_)), (0, ex_r m), (1, ex_i (nI lf)), (2, ex_i al), (3, ex_i ap)] _ _ := fun k28_ s28_0_ hi_ hm_ => ih28 (k28_, s28_0_) hi_ hm_
          have hL28 := hI28.1
          have hb28 := hI28.2
          refine X_iload (j := 0) dX12_pairs_28 rfl ?_
          refine X_bipush (v := 6) dX12_pairs_30 (by decide) ?_
          refine X_icmp_ge (tgt := 55) dX12_pairs_32 (by decide) (fun c_15 => ?_) (fun c_15 => ?_)
          · have hlt28 : k28 = 6 := nlex (L := 6) (by omega) hb28 c_15
            rw [show 6 - k28 = 0 by omega] at hL28
            have hL28 := hL28.trans (F_X12_pairs_1_L28_2_z ..)
            try dsimp only at hL28
            refine X_lv (lv' := [(0, ex_r m), (1, ex_i (nI lf)), (2, ex_i al), (3, ex_i ap)]) [1, 2, 3, 4] rfl ?_
            refine X_eq (cs' := [(m, ex_o 12 [ex_i x0, ex_i x1, ex_r x2, ex_i x3, ex_i x4, ex_i x5, ex_i x6, ex_j x7, ex_i x8, ex_i x9, ex_r x10, ex_r x11, ex_r x12, ex_r x13, ex_r x14, ex_r x15, ex_r x16, ex_r x17, ex_r x18, ex_r x19, ex_r x20, ex_r x21, ex_r x22, ex_r x23, ex_r x24, ex_r x25, ex_i x26, ex_i x27, ex_r x28, ex_r x29, ex_r x30, ex_r x31, ex_r x32, ex_r x33, ex_r x34, ex_r x35, ex_r x36, ex_r x37, ex_r x38, ex_r x39, ex_i x40, ex_j x41, ex_r x42, ex_r x43, ex_r x44, ex_r x45, ex_r x46, ex_r x47, ex_r x48, ex_r x49, ex_r x50, ex_r x51, ex_r x52, ex_r x53, ex_i x54, ex_i x55, ex_i x56, ex_i x57, ex_r x58, ex_r x59, ex_r x60, ex_r x61, ex_i x62, ex_r x63, ex_r x64, ex_i ap, ex_j x66]), (x10, ex_a 1 10 ho), (x15, ex_a 1 12 zt), (x63, ex_a 1 6 po), (x64, ex_a 1 6 v_14)]) (lv' := [(0, ex_r m), (1, ex_i (nI lf)), (2, ex_i al), (3, ex_i ap)]) (by subst hL28; rfl) (by subst hL28; rfl) ?_
            exact hrest28 trivial
          · have hlt28 : k28 < 6 := nlen (L := 6) (by omega) hb28 c_15
            rw [show 6 - k28 = (6 - (k28 + 1)) + 1 by omega] at hL28
            have hL28 := hL28.trans (F_X12_pairs_1_L28_2_s ..)
            refine X_aload_n (j := 1) dX12_pairs_35 rfl rfl ?_
            refine X_get (j := 0) fo_X12_150 dX12_pairs_36 rfl rfl ?_
            refine X_iload (j := 0) dX12_pairs_39 rfl ?_
            refine X_aload_n (j := 1) dX12_pairs_41 rfl rfl ?_
            refine X_get (j := 0) fo_X12_147 dX12_pairs_42 rfl rfl ?_
            refine X_iload (j := 0) dX12_pairs_45 rfl ?_
            refine X_iald (j := 3) (v := (po k28)) dX12_pairs_47 rfl (vp_in_nI (show k28 < 6 by omega) (by decide)) (by rw [nI_clamp (by omega)]) ?_
            refine X_iast (j := 4) (g := upd s28_0 k28 (po k28)) (cs' := [(m, ex_o 12 [ex_i x0, ex_i x1, ex_r x2, ex_i x3, ex_i x4, ex_i x5, ex_i x6, ex_j x7, ex_i x8, ex_i x9, ex_r x10, ex_r x11, ex_r x12, ex_r x13, ex_r x14, ex_r x15, ex_r x16, ex_r x17, ex_r x18, ex_r x19, ex_r x20, ex_r x21, ex_r x22, ex_r x23, ex_r x24, ex_r x25, ex_i x26, ex_i x27, ex_r x28, ex_r x29, ex_r x30, ex_r x31, ex_r x32, ex_r x33, ex_r x34, ex_r x35, ex_r x36, ex_r x37, ex_r x38, ex_r x39, ex_i x40, ex_j x41, ex_r x42, ex_r x43, ex_r x44, ex_r x45, ex_r x46, ex_r x47, ex_r x48, ex_r x49, ex_r x50, ex_r x51, ex_r x52, ex_r x53, ex_i x54, ex_i x55, ex_i x56, ex_i x57, ex_r x58, ex_r x59, ex_r x60, ex_r x61, ex_i x62, ex_r x63, ex_r x64, ex_i ap, ex_j x66]), (x10, ex_a 1 10 ho), (x15, ex_a 1 12 zt), (x63, ex_a 1 6 po), (x64, ex_a 1 6 (upd s28_0 k28 (po k28)))]) dX12_pairs_48 rfl (vp_in_nI (show k28 < 6 by omega) (by decide)) (by rw [nI_clamp (by omega)]) rfl ?_
            refine X_iinc (v := nI (k28 + 1)) (j := 0) (lv' := [(4, ex_i (nI (k28 + 1))), (0, ex_r m), (1, ex_i (nI lf)), (2, ex_i al), (3, ex_i ap)]) dX12_pairs_49 rfl (nI_add k28 1) (Nat.le_of_ble_eq_true rfl) rfl ?_
            refine X_goto (tgt := 28) dX12_pairs_52 (by decide) ?_
            try dsimp only at hL28
            exact ihc28 (k28 + 1) (upd s28_0 k28 (po k28)) ⟨hL28, (show (k28 + 1) ≤ 6 by omega)⟩ (show 6 - (k28 + 1) < 6 - k28 by omega)
        try dsimp only at hV
        exact X_vret dX12_pairs_55 (by (repeat refine ex_kc ?_) <;> rfl) (by subst hV; exact ⟨rfl, rfl⟩)
      · have hV := hV.trans (if_neg c_13)
        try dsimp only at hV
        exact X_vret dX12_pairs_19 (by (repeat refine ex_kc ?_) <;> rfl) (by subst hV; exact ⟨rfl, rfl⟩)

def F_X12_pairs_2_L59 (lf : Nat) : Nat → Nat → Nat
  | 0, p59 => p59
  | zn + 1, p59 => (if (((nI lf) >>> ((nI p59) &&& 31)) &&& 1) = 0 then F_X12_pairs_2_L59 lf zn (p59 + 1) else p59)
theorem F_X12_pairs_2_L59_z (lf : Nat) (p59 : Nat) : F_X12_pairs_2_L59 lf 0 p59 = p59 := rfl
theorem F_X12_pairs_2_L59_s (lf : Nat) (p59 : Nat) (zn : Nat) : F_X12_pairs_2_L59 lf (zn + 1) p59 = (if (((nI lf) >>> ((nI p59) &&& 31)) &&& 1) = 0 then F_X12_pairs_2_L59 lf zn (p59 + 1) else p59) := rfl
def F_X12_pairs_2_L80 (np : Nat) (lf : Nat) (al : Int32) (ap : Int32) (zt : Nat → Int32) : Nat → Nat → Int32 → (Nat → Int32) → (Nat → Int32) → Int32 × (Nat → Int32) × (Nat → Int32)
  | 0, k80, s80_0, s80_1, s80_2 => (s80_0, s80_1, s80_2)
  | zn + 1, k80, s80_0, s80_1, s80_2 => (if (((nI lf) >>> ((nI k80) &&& 31)) &&& 1) = 0 then F_X12_pairs_2_L80 np lf al ap zt zn (k80 + 1) s80_0 s80_1 s80_2 else ((fun (w_7 : Int32 × (Nat → Int32) × (Nat → Int32)) => F_X12_pairs_2_L80 np lf al ap zt zn (k80 + 1) w_7.1 w_7.2.1 w_7.2.2) (F_X12_pairs_1 np ((lf - 2 ^ tz6 lf) - 2 ^ k80) al (ap + (F_X12_away (zt (tz6 lf)) (zt k80))) s80_0 zt (upd (upd s80_1 (tz6 lf) (nI k80)) k80 (nI (tz6 lf))) s80_2)))
theorem F_X12_pairs_2_L80_z (np : Nat) (lf : Nat) (al : Int32) (ap : Int32) (zt : Nat → Int32) (k80 : Nat) (s80_0 : Int32) (s80_1 : Nat → Int32) (s80_2 : Nat → Int32) : F_X12_pairs_2_L80 np lf al ap zt 0 k80 s80_0 s80_1 s80_2 = (s80_0, s80_1, s80_2) := rfl
theorem F_X12_pairs_2_L80_s (np : Nat) (lf : Nat) (al : Int32) (ap : Int32) (zt : Nat → Int32) (k80 : Nat) (s80_0 : Int32) (s80_1 : Nat → Int32) (s80_2 : Nat → Int32) (zn : Nat) : F_X12_pairs_2_L80 np lf al ap zt (zn + 1) k80 s80_0 s80_1 s80_2 = (if (((nI lf) >>> ((nI k80) &&& 31)) &&& 1) = 0 then F_X12_pairs_2_L80 np lf al ap zt zn (k80 + 1) s80_0 s80_1 s80_2 else ((fun (w_7 : Int32 × (Nat → Int32) × (Nat → Int32)) => F_X12_pairs_2_L80 np lf al ap zt zn (k80 + 1) w_7.1 w_7.2.1 w_7.2.2) (F_X12_pairs_1 np ((lf - 2 ^ tz6 lf) - 2 ^ k80) al (ap + (F_X12_away (zt (tz6 lf)) (zt k80))) s80_0 zt (upd (upd s80_1 (tz6 lf) (nI k80)) k80 (nI (tz6 lf))) s80_2))) := rfl
def F_X12_pairs_2_L28 (po : Nat → Int32) : Nat → Nat → (Nat → Int32) → (Nat → Int32)
  | 0, k28, s28_0 => s28_0
  | zn + 1, k28, s28_0 => F_X12_pairs_2_L28 po zn (k28 + 1) (upd s28_0 k28 (po k28))
theorem F_X12_pairs_2_L28_z (po : Nat → Int32) (k28 : Nat) (s28_0 : Nat → Int32) : F_X12_pairs_2_L28 po 0 k28 s28_0 = s28_0 := rfl
theorem F_X12_pairs_2_L28_s (po : Nat → Int32) (k28 : Nat) (s28_0 : Nat → Int32) (zn : Nat) : F_X12_pairs_2_L28 po (zn + 1) k28 s28_0 = F_X12_pairs_2_L28 po zn (k28 + 1) (upd s28_0 k28 (po k28)) := rfl
def F_X12_pairs_2_L28_2 (po : Nat → Int32) : Nat → Nat → (Nat → Int32) → (Nat → Int32)
  | 0, k28, s28_0 => s28_0
  | zn + 1, k28, s28_0 => F_X12_pairs_2_L28_2 po zn (k28 + 1) (upd s28_0 k28 (po k28))
theorem F_X12_pairs_2_L28_2_z (po : Nat → Int32) (k28 : Nat) (s28_0 : Nat → Int32) : F_X12_pairs_2_L28_2 po 0 k28 s28_0 = s28_0 := rfl
theorem F_X12_pairs_2_L28_2_s (po : Nat → Int32) (k28 : Nat) (s28_0 : Nat → Int32) (zn : Nat) : F_X12_pairs_2_L28_2 po (zn + 1) k28 s28_0 = F_X12_pairs_2_L28_2 po zn (k28 + 1) (upd s28_0 k28 (po k28)) := rfl
def F_X12_pairs_2 (np : Nat) (lf : Nat) (al : Int32) (ap : Int32) (x65 : Int32) (zt : Nat → Int32) (po : Nat → Int32) (bp : Nat → Int32) : Int32 × (Nat → Int32) × (Nat → Int32) := (if (nI lf) = 0 then (if x65 < 0 then ((fun (v_11 : (Nat → Int32)) => (ap, po, v_11)) (F_X12_pairs_2_L28 po (6 - 0) 0 bp)) else (if ap < x65 then ((fun (v_14 : (Nat → Int32)) => (ap, po, v_14)) (F_X12_pairs_2_L28_2 po (6 - 0) 0 bp)) else (x65, po, bp))) else ((fun (v_2 : Nat) => ((fun (v_4 : Int32 × (Nat → Int32) × (Nat → Int32)) => (if al = 0 then (v_4.1, upd v_4.2.1 (tz6 lf) (-1), v_4.2.2) else ((fun (w_9 : Int32 × (Nat → Int32) × (Nat → Int32)) => (w_9.1, w_9.2.1, w_9.2.2)) (F_X12_pairs_1 np (lf - 2 ^ tz6 lf) 0 ap v_4.1 zt (upd v_4.2.1 (tz6 lf) (-1)) v_4.2.2)))) (F_X12_pairs_2_L80 np lf al ap zt (np - ((tz6 lf) + 1)) ((tz6 lf) + 1) x65 po bp))) (F_X12_pairs_2_L59 lf 7 0)))
set_option maxHeartbeats 4000000 in
set_option maxRecDepth 100000 in
theorem e_X12_pairs_2 (l : Launch) (np : Nat) (m : Nat) (lf : Nat) (al : Int32) (ap : Int32) (x0 : Int32) (x1 : Int32) (x2 : Nat) (x3 : Int32) (x4 : Int32) (x5 : Int32) (x6 : Int32) (x7 : Int64) (x8 : Int32) (x9 : Int32) (x10 : Nat) (x11 : Nat) (x12 : Nat) (x13 : Nat) (x14 : Nat) (x15 : Nat) (x16 : Nat) (x17 : Nat) (x18 : Nat) (x19 : Nat) (x20 : Nat) (x21 : Nat) (x22 : Nat) (x23 : Nat) (x24 : Nat) (x25 : Nat) (x26 : Int32) (x27 : Int32) (x28 : Nat) (x29 : Nat) (x30 : Nat) (x31 : Nat) (x32 : Nat) (x33 : Nat) (x34 : Nat) (x35 : Nat) (x36 : Nat) (x37 : Nat) (x38 : Nat) (x39 : Nat) (x40 : Int32) (x41 : Int64) (x42 : Nat) (x43 : Nat) (x44 : Nat) (x45 : Nat) (x46 : Nat) (x47 : Nat) (x48 : Nat) (x49 : Nat) (x50 : Nat) (x51 : Nat) (x52 : Nat) (x53 : Nat) (x54 : Int32) (x55 : Int32) (x56 : Int32) (x57 : Int32) (x58 : Nat) (x59 : Nat) (x60 : Nat) (x61 : Nat) (x62 : Int32) (x63 : Nat) (x64 : Nat) (x65 : Int32) (x66 : Int64) (ho : Nat → Int32) (zt : Nat → Int32) (po : Nat → Int32) (bp : Nat → Int32) (hho0 : ho 0 = nI np) (hnp : np ≤ 6) (hlf : lf < 64) (hln : lf < 2 ^ np) (hb : bits6 lf ≤ 2) : ex_M l yX12_pairs cX12_pairs 6 none 2 50 [ex_r m, ex_i (nI lf), ex_i al, ex_i ap] [(m, ex_o 12 [ex_i x0, ex_i x1, ex_r x2, ex_i x3, ex_i x4, ex_i x5, ex_i x6, ex_j x7, ex_i x8, ex_i x9, ex_r x10, ex_r x11, ex_r x12, ex_r x13, ex_r x14, ex_r x15, ex_r x16, ex_r x17, ex_r x18, ex_r x19, ex_r x20, ex_r x21, ex_r x22, ex_r x23, ex_r x24, ex_r x25, ex_i x26, ex_i x27, ex_r x28, ex_r x29, ex_r x30, ex_r x31, ex_r x32, ex_r x33, ex_r x34, ex_r x35, ex_r x36, ex_r x37, ex_r x38, ex_r x39, ex_i x40, ex_j x41, ex_r x42, ex_r x43, ex_r x44, ex_r x45, ex_r x46, ex_r x47, ex_r x48, ex_r x49, ex_r x50, ex_r x51, ex_r x52, ex_r x53, ex_i x54, ex_i x55, ex_i x56, ex_i x57, ex_r x58, ex_r x59, ex_r x60, ex_r x61, ex_i x62, ex_r x63, ex_r x64, ex_i x65, ex_j x66]), (x10, ex_a 1 10 ho), (x15, ex_a 1 12 zt), (x63, ex_a 1 6 po), (x64, ex_a 1 6 bp)] (fun zcs zr => zcs = [(m, ex_o 12 [ex_i x0, ex_i x1, ex_r x2, ex_i x3, ex_i x4, ex_i x5, ex_i x6, ex_j x7, ex_i x8, ex_i x9, ex_r x10, ex_r x11, ex_r x12, ex_r x13, ex_r x14, ex_r x15, ex_r x16, ex_r x17, ex_r x18, ex_r x19, ex_r x20, ex_r x21, ex_r x22, ex_r x23, ex_r x24, ex_r x25, ex_i x26, ex_i x27, ex_r x28, ex_r x29, ex_r x30, ex_r x31, ex_r x32, ex_r x33, ex_r x34, ex_r x35, ex_r x36, ex_r x37, ex_r x38, ex_r x39, ex_i x40, ex_j x41, ex_r x42, ex_r x43, ex_r x44, ex_r x45, ex_r x46, ex_r x47, ex_r x48, ex_r x49, ex_r x50, ex_r x51, ex_r x52, ex_r x53, ex_i x54, ex_i x55, ex_i x56, ex_i x57, ex_r x58, ex_r x59, ex_r x60, ex_r x61, ex_i x62, ex_r x63, ex_r x64, ex_i ((F_X12_pairs_2 np lf al ap x65 zt po bp).1), ex_j x66]), (x10, ex_a 1 10 ho), (x15, ex_a 1 12 zt), (x63, ex_a 1 6 ((F_X12_pairs_2 np lf al ap x65 zt po bp).2.1)), (x64, ex_a 1 6 ((F_X12_pairs_2 np lf al ap x65 zt po bp).2.2))] ∧ zr = none) := by
  refine X_meth (by decide) (Nat.le_of_ble_eq_true rfl) ?_
  generalize hV : F_X12_pairs_2 np lf al ap x65 zt po bp = V0
  have hV := hV.symm
  unfold F_X12_pairs_2 at hV
  try dsimp only at hV
  refine X_iload_n (j := 1) dX12_pairs_0 rfl rfl ?_
  refine X_if_ne (tgt := 56) dX12_pairs_1 (by decide) (fun c_1 => ?_) (fun c_1 => ?_)
  · have hV := hV.trans (if_neg c_1)
    have hl0 : ¬ lf = 0 := fun q => c_1 (by rw [q]; rfl)
    have htz : tz6 lf < 6 := tz_lt hlf hl0
    have hO : lf - 2 ^ tz6 lf < 64 := Nat.lt_of_le_of_lt (Nat.sub_le _ _) hlf
    have htn : tz6 lf < np := tz_np hlf hl0 hnp hln
    refine X_iconst (v := 0) dX12_pairs_56 (by decide) ?_
    refine X_istore (lv' := [(4, ex_i 0), (0, ex_r m), (1, ex_i (nI lf)), (2, ex_i al), (3, ex_i ap)]) dX12_pairs_57 (Nat.le_of_ble_eq_true rfl) rfl ?_
    -- loop at 59
    try dsimp only at hV
    generalize hq_v_2 : F_X12_pairs_2_L59 lf 7 0 = v_2 at hV
    try dsimp only at hV
    refine X_cut (P := (v_2 = tz6 lf)) (csE := [(m, ex_o 12 [ex_i x0, ex_i x1, ex_r x2, ex_i x3, ex_i x4, ex_i x5, ex_i x6, ex_j x7, ex_i x8, ex_i x9, ex_r x10, ex_r x11, ex_r x12, ex_r x13, ex_r x14, ex_r x15, ex_r x16, ex_r x17, ex_r x18, ex_r x19, ex_r x20, ex_r x21, ex_r x22, ex_r x23, ex_r x24, ex_r x25, ex_i x26, ex_i x27, ex_r x28, ex_r x29, ex_r x30, ex_r x31, ex_r x32, ex_r x33, ex_r x34, ex_r x35, ex_r x36, ex_r x37, ex_r x38, ex_r x39, ex_i x40, ex_j x41, ex_r x42, ex_r x43, ex_r x44, ex_r x45, ex_r x46, ex_r x47, ex_r x48, ex_r x49, ex_r x50, ex_r x51, ex_r x52, ex_r x53, ex_i x54, ex_i x55, ex_i x56, ex_i x57, ex_r x58, ex_r x59, ex_r x60, ex_r x61, ex_i x62, ex_r x63, ex_r x64, ex_i x65, ex_j x66]), (x10, ex_a 1 10 ho), (x15, ex_a 1 12 zt), (x63, ex_a 1 6 po), (x64, ex_a 1 6 bp)]) (lvE := [(4, ex_i (nI v_2)), (0, ex_r m), (1, ex_i (nI lf)), (2, ex_i al), (3, ex_i ap)]) (E := 74) (fun hrest59 => ?_) (fun hPX59 => ?_)
    · have hL59 := hq_v_2.symm
      refine X_ind (fun (a59 : Nat × Nat) => v_2 = F_X12_pairs_2_L59 lf a59.1 a59.2 ∧ (a59.2 ≤ tz6 lf ∧ 7 ≤ a59.1 + a59.2)) (fun (a59 : Nat × Nat) => a59.1) (fun (a59 : Nat × Nat) => [(m, ex_o 12 [ex_i x0, ex_i x1, ex_r x2, ex_i x3, ex_i x4, ex_i x5, ex_i x6, ex_j x7, ex_i x8, ex_i x9, ex_r x10, ex_r x11, ex_r x12, ex_r x13, ex_r x14, ex_r x15, ex_r x16, ex_r x17, ex_r x18, ex_r x19, ex_r x20, ex_r x21, ex_r x22, ex_r x23, ex_r x24, ex_r x25, ex_i x26, ex_i x27, ex_r x28, ex_r x29, ex_r x30, ex_r x31, ex_r x32, ex_r x33, ex_r x34, ex_r x35, ex_r x36, ex_r x37, ex_r x38, ex_r x39, ex_i x40, ex_j x41, ex_r x42, ex_r x43, ex_r x44, ex_r x45, ex_r x46, ex_r x47, ex_r x48, ex_r x49, ex_r x50, ex_r x51, ex_r x52, ex_r x53, ex_i x54, ex_i x55, ex_i x56, ex_i x57, ex_r x58, ex_r x59, ex_r x60, ex_r x61, ex_i x62, ex_r x63, ex_r x64, ex_i x65, ex_j x66]), (x10, ex_a 1 10 ho), (x15, ex_a 1 12 zt), (x63, ex_a 1 6 po), (x64, ex_a 1 6 bp)]) (fun (a59 : Nat × Nat) => [(4, ex_i (nI a59.2)), (0, ex_r m), (1, ex_i (nI lf)), (2, ex_i al), (3, ex_i ap)]) (fun ⟨zf59, p59⟩ hI59 ih59 => ?_) (7, 0) ⟨hL59, ⟨Nat.zero_le _, Nat.le_refl _⟩⟩
      try dsimp only at hI59 ih59 ⊢
      have ihc59 : ∀ (zf59_ : Nat) (p59_ : Nat), (v_2 = F_X12_pairs_2_L59 lf zf59_ p59_ ∧ (p59_ ≤ tz6 lf ∧ 7 ≤ zf59_ + p59_)) → zf59_ < zf59 → ex_O _ _ _ _ _ _ _ _ _ [(m, ex_o 12 [ex_i x0, ex_i x1, ex_r x2, ex_i x3, ex_i x4, ex_i x5, ex_i x6, ex_j x7, ex_i x8, ex_i x9, ex_r x10, ex_r x11, ex_r x12, ex_r x13, ex_r x14, ex_r x15, ex_r x16, ex_r x17, ex_r x18, ex_r x19, ex_r x20, ex_r x21, ex_r x22, ex_r x23, ex_r x24, ex_r x25, ex_i x26, ex_i x27, ex_r x28, ex_r x29, ex_r x30, ex_r x31, ex_r x32, ex_r x33, ex_r x34, ex_r x35, ex_r x36, ex_r x37, ex_r x38, ex_r x39, ex_i x40, ex_j x41, ex_r x42, ex_r x43, ex_r x44, ex_r x45, ex_r x46, ex_r x47, ex_r x48, ex_r x49, ex_r x50, ex_r x51, ex_r x52, ex_r x53, ex_i x54, ex_i x55, ex_i x56, ex_i x57, ex_r x58, ex_r x59, ex_r x60, ex_r x61, ex_i x62, ex_r x63, ex_r x64, ex_i x65, ex_j x66]), (x10, ex_a 1 10 ho), (x15, ex_a 1 12 zt), (x63, ex_a 1 6 po), (x64, ex_a 1 6 bp)] [(4, ex_i (nI p59_)), (0, ex_r m), (1, ex_i (nI lf)), (2, ex_i al), (3, ex_i ap)] _ _ := fun zf59_ p59_ hi_ hm_ => ih59 (zf59_, p59_) hi_ hm_
      have hL59 := hI59.1
      have hp59 := hI59.2
      obtain ⟨zn, rfl⟩ : ∃ zn, zf59 = zn + 1 := ex_ow (by have hz := hp59.1; have hy := hp59.2; omega)
      have hL59 := hL59.trans (F_X12_pairs_2_L59_s ..)
      refine X_iload_n (j := 2) dX12_pairs_59 rfl rfl ?_
      refine X_iload (j := 0) dX12_pairs_60 rfl ?_
      refine X_ishr (v := ((nI lf) >>> ((nI p59) &&& 31))) dX12_pairs_62 rfl ?_
      refine X_iconst (v := 1) dX12_pairs_63 (by decide) ?_
      refine X_iand (v := (((nI lf) >>> ((nI p59) &&& 31)) &&& 1)) dX12_pairs_64 rfl ?_
      refine X_if_ne (tgt := 74) dX12_pairs_65 (by decide) (fun c_3 => ?_) (fun c_3 => ?_)
      · have hL59 := hL59.trans (if_neg c_3)
        try dsimp only at hL59
        refine X_eq (cs' := [(m, ex_o 12 [ex_i x0, ex_i x1, ex_r x2, ex_i x3, ex_i x4, ex_i x5, ex_i x6, ex_j x7, ex_i x8, ex_i x9, ex_r x10, ex_r x11, ex_r x12, ex_r x13, ex_r x14, ex_r x15, ex_r x16, ex_r x17, ex_r x18, ex_r x19, ex_r x20, ex_r x21, ex_r x22, ex_r x23, ex_r x24, ex_r x25, ex_i x26, ex_i x27, ex_r x28, ex_r x29, ex_r x30, ex_r x31, ex_r x32, ex_r x33, ex_r x34, ex_r x35, ex_r x36, ex_r x37, ex_r x38, ex_r x39, ex_i x40, ex_j x41, ex_r x42, ex_r x43, ex_r x44, ex_r x45, ex_r x46, ex_r x47, ex_r x48, ex_r x49, ex_r x50, ex_r x51, ex_r x52, ex_r x53, ex_i x54, ex_i x55, ex_i x56, ex_i x57, ex_r x58, ex_r x59, ex_r x60, ex_r x61, ex_i x62, ex_r x63, ex_r x64, ex_i x65, ex_j x66]), (x10, ex_a 1 10 ho), (x15, ex_a 1 12 zt), (x63, ex_a 1 6 po), (x64, ex_a 1 6 bp)]) (lv' := [(4, ex_i (nI v_2)), (0, ex_r m), (1, ex_i (nI lf)), (2, ex_i al), (3, ex_i ap)]) (by subst hL59; rfl) (by subst hL59; rfl) ?_
        exact hrest59 (by subst hL59; exact tz_at hlf hl0 hp59.1 c_3)
      · have hL59 := hL59.trans (if_pos c_3)
        refine X_iinc (v := nI (p59 + 1)) (j := 0) (lv' := [(4, ex_i (nI (p59 + 1))), (0, ex_r m), (1, ex_i (nI lf)), (2, ex_i al), (3, ex_i ap)]) dX12_pairs_68 rfl (nI_add p59 1) (Nat.le_of_ble_eq_true rfl) rfl ?_
        refine X_goto (tgt := 59) dX12_pairs_71 (by decide) ?_
        try dsimp only at hL59
        exact ihc59 zn (p59 + 1) ⟨hL59, ⟨tz_go hlf hl0 hp59.1 c_3, by have hz := hp59.2; omega⟩⟩ (Nat.lt_succ_self _)
    have hp59_x := hPX59
    refine X_eq (cs' := [(m, ex_o 12 [ex_i x0, ex_i x1, ex_r x2, ex_i x3, ex_i x4, ex_i x5, ex_i x6, ex_j x7, ex_i x8, ex_i x9, ex_r x10, ex_r x11, ex_r x12, ex_r x13, ex_r x14, ex_r x15, ex_r x16, ex_r x17, ex_r x18, ex_r x19, ex_r x20, ex_r x21, ex_r x22, ex_r x23, ex_r x24, ex_r x25, ex_i x26, ex_i x27, ex_r x28, ex_r x29, ex_r x30, ex_r x31, ex_r x32, ex_r x33, ex_r x34, ex_r x35, ex_r x36, ex_r x37, ex_r x38, ex_r x39, ex_i x40, ex_j x41, ex_r x42, ex_r x43, ex_r x44, ex_r x45, ex_r x46, ex_r x47, ex_r x48, ex_r x49, ex_r x50, ex_r x51, ex_r x52, ex_r x53, ex_i x54, ex_i x55, ex_i x56, ex_i x57, ex_r x58, ex_r x59, ex_r x60, ex_r x61, ex_i x62, ex_r x63, ex_r x64, ex_i x65, ex_j x66]), (x10, ex_a 1 10 ho), (x15, ex_a 1 12 zt), (x63, ex_a 1 6 po), (x64, ex_a 1 6 bp)]) (lv' := [(4, ex_i (nI (tz6 lf))), (0, ex_r m), (1, ex_i (nI lf)), (2, ex_i al), (3, ex_i ap)]) rfl (by rw [hp59_x] <;> rfl) ?_
    refine X_iload (j := 0) dX12_pairs_74 rfl ?_
    refine X_iconst (v := 1) dX12_pairs_76 (by decide) ?_
    refine X_iadd (v := nI ((tz6 lf) + 1)) dX12_pairs_77 (nI_add (tz6 lf) 1) ?_
    refine X_istore (lv' := [(5, ex_i (nI ((tz6 lf) + 1))), (4, ex_i (nI (tz6 lf))), (0, ex_r m), (1, ex_i (nI lf)), (2, ex_i al), (3, ex_i ap)]) dX12_pairs_78 (Nat.le_of_ble_eq_true rfl) rfl ?_
    -- loop at 80
    try dsimp only at hV
    generalize hq_v_4 : F_X12_pairs_2_L80 np lf al ap zt (np - ((tz6 lf) + 1)) ((tz6 lf) + 1) x65 po bp = v_4 at hV
    try dsimp only at hV
    refine X_cut (P := True) (csE := [(m, ex_o 12 [ex_i x0, ex_i x1, ex_r x2, ex_i x3, ex_i x4, ex_i x5, ex_i x6, ex_j x7, ex_i x8, ex_i x9, ex_r x10, ex_r x11, ex_r x12, ex_r x13, ex_r x14, ex_r x15, ex_r x16, ex_r x17, ex_r x18, ex_r x19, ex_r x20, ex_r x21, ex_r x22, ex_r x23, ex_r x24, ex_r x25, ex_i x26, ex_i x27, ex_r x28, ex_r x29, ex_r x30, ex_r x31, ex_r x32, ex_r x33, ex_r x34, ex_r x35, ex_r x36, ex_r x37, ex_r x38, ex_r x39, ex_i x40, ex_j x41, ex_r x42, ex_r x43, ex_r x44, ex_r x45, ex_r x46, ex_r x47, ex_r x48, ex_r x49, ex_r x50, ex_r x51, ex_r x52, ex_r x53, ex_i x54, ex_i x55, ex_i x56, ex_i x57, ex_r x58, ex_r x59, ex_r x60, ex_r x61, ex_i x62, ex_r x63, ex_r x64, ex_i v_4.1, ex_j x66]), (x10, ex_a 1 10 ho), (x15, ex_a 1 12 zt), (x63, ex_a 1 6 v_4.2.1), (x64, ex_a 1 6 v_4.2.2)]) (lvE := [(4, ex_i (nI (tz6 lf))), (0, ex_r m), (1, ex_i (nI lf)), (2, ex_i al), (3, ex_i ap)]) (E := 166) (fun hrest80 => ?_) (fun hPX80 => ?_)
    · have hL80 := hq_v_4.symm
      refine X_ind (fun (a80 : Nat × Int32 × (Nat → Int32) × (Nat → Int32)) => v_4 = F_X12_pairs_2_L80 np lf al ap zt (np - a80.1) a80.1 a80.2.1 a80.2.2.1 a80.2.2.2 ∧ a80.1 ≤ np ∧ tz6 lf < a80.1) (fun (a80 : Nat × Int32 × (Nat → Int32) × (Nat → Int32)) => np - a80.1) (fun (a80 : Nat × Int32 × (Nat → Int32) × (Nat → Int32)) => [(m, ex_o 12 [ex_i x0, ex_i x1, ex_r x2, ex_i x3, ex_i x4, ex_i x5, ex_i x6, ex_j x7, ex_i x8, ex_i x9, ex_r x10, ex_r x11, ex_r x12, ex_r x13, ex_r x14, ex_r x15, ex_r x16, ex_r x17, ex_r x18, ex_r x19, ex_r x20, ex_r x21, ex_r x22, ex_r x23, ex_r x24, ex_r x25, ex_i x26, ex_i x27, ex_r x28, ex_r x29, ex_r x30, ex_r x31, ex_r x32, ex_r x33, ex_r x34, ex_r x35, ex_r x36, ex_r x37, ex_r x38, ex_r x39, ex_i x40, ex_j x41, ex_r x42, ex_r x43, ex_r x44, ex_r x45, ex_r x46, ex_r x47, ex_r x48, ex_r x49, ex_r x50, ex_r x51, ex_r x52, ex_r x53, ex_i x54, ex_i x55, ex_i x56, ex_i x57, ex_r x58, ex_r x59, ex_r x60, ex_r x61, ex_i x62, ex_r x63, ex_r x64, ex_i a80.2.1, ex_j x66]), (x10, ex_a 1 10 ho), (x15, ex_a 1 12 zt), (x63, ex_a 1 6 a80.2.2.1), (x64, ex_a 1 6 a80.2.2.2)]) (fun (a80 : Nat × Int32 × (Nat → Int32) × (Nat → Int32)) => [(5, ex_i (nI a80.1)), (4, ex_i (nI (tz6 lf))), (0, ex_r m), (1, ex_i (nI lf)), (2, ex_i al), (3, ex_i ap)]) (fun ⟨k80, s80_0, s80_1, s80_2⟩ hI80 ih80 => ?_) ((tz6 lf) + 1, x65, po, bp) ⟨hL80, (by omega), (Nat.lt_succ_self _)⟩
      try dsimp only at hI80 ih80 ⊢
      have ihc80 : ∀ (k80_ : Nat) (s80_0_ : Int32) (s80_1_ : Nat → Int32) (s80_2_ : Nat → Int32), (v_4 = F_X12_pairs_2_L80 np lf al ap zt (np - k80_) k80_ s80_0_ s80_1_ s80_2_ ∧ k80_ ≤ np ∧ tz6 lf < k80_) → (np - k80_) < (np - k80) → ex_O _ _ _ _ _ _ _ _ _ [(m, ex_o 12 [ex_i x0, ex_i x1, ex_r x2, ex_i x3, ex_i x4, ex_i x5, ex_i x6, ex_j x7, ex_i x8, ex_i x9, ex_r x10, ex_r x11, ex_r x12, ex_r x13, ex_r x14, ex_r x15, ex_r x16, ex_r x17, ex_r x18, ex_r x19, ex_r x20, ex_r x21, ex_r x22, ex_r x23, ex_r x24, ex_r x25, ex_i x26, ex_i x27, ex_r x28, ex_r x29, ex_r x30, ex_r x31, ex_r x32, ex_r x33, ex_r x34, ex_r x35, ex_r x36, ex_r x37, ex_r x38, ex_r x39, ex_i x40, ex_j x41, ex_r x42, ex_r x43, ex_r x44, ex_r x45, ex_r x46, ex_r x47, ex_r x48, ex_r x49, ex_r x50, ex_r x51, ex_r x52, ex_r x53, ex_i x54, ex_i x55, ex_i x56, ex_i x57, ex_r x58, ex_r x59, ex_r x60, ex_r x61, ex_i x62, ex_r x63, ex_r x64, ex_i s80_0_, ex_j x66]), (x10, ex_a 1 10 ho), (x15, ex_a 1 12 zt), (x63, ex_a 1 6 s80_1_), (x64, ex_a 1 6 s80_2_)] [(5, ex_i (nI k80_)), (4, ex_i (nI (tz6 lf))), (0, ex_r m), (1, ex_i (nI lf)), (2, ex_i al), (3, ex_i ap)] _ _ := fun k80_ s80_0_ s80_1_ s80_2_ hi_ hm_ => ih80 (k80_, s80_0_, s80_1_, s80_2_) hi_ hm_
      have hL80 := hI80.1
      have hb80 := hI80.2.1
      have hk80 := hI80.2.2
      refine X_iload (j := 0) dX12_pairs_80 rfl ?_
      refine X_aload_n (j := 2) dX12_pairs_82 rfl rfl ?_
      refine X_get (j := 0) fo_X12_13 dX12_pairs_83 rfl rfl ?_
      refine X_iconst (v := 0) dX12_pairs_86 (by decide) ?_
      refine X_iald (j := 1) (v := nI np) dX12_pairs_87 rfl (vin (by decide)) hho0 ?_
      refine X_icmp_ge (tgt := 166) dX12_pairs_88 (by decide) (fun c_5 => ?_) (fun c_5 => ?_)
      · have hlt80 : k80 = np := nlex (L := np) (by omega) hb80 c_5
        rw [show np - k80 = 0 by omega] at hL80
        have hL80 := hL80.trans (F_X12_pairs_2_L80_z ..)
        try dsimp only at hL80
        refine X_lv (lv' := [(4, ex_i (nI (tz6 lf))), (0, ex_r m), (1, ex_i (nI lf)), (2, ex_i al), (3, ex_i ap)]) [1, 2, 3, 4, 5] rfl ?_
        refine X_eq (cs' := [(m, ex_o 12 [ex_i x0, ex_i x1, ex_r x2, ex_i x3, ex_i x4, ex_i x5, ex_i x6, ex_j x7, ex_i x8, ex_i x9, ex_r x10, ex_r x11, ex_r x12, ex_r x13, ex_r x14, ex_r x15, ex_r x16, ex_r x17, ex_r x18, ex_r x19, ex_r x20, ex_r x21, ex_r x22, ex_r x23, ex_r x24, ex_r x25, ex_i x26, ex_i x27, ex_r x28, ex_r x29, ex_r x30, ex_r x31, ex_r x32, ex_r x33, ex_r x34, ex_r x35, ex_r x36, ex_r x37, ex_r x38, ex_r x39, ex_i x40, ex_j x41, ex_r x42, ex_r x43, ex_r x44, ex_r x45, ex_r x46, ex_r x47, ex_r x48, ex_r x49, ex_r x50, ex_r x51, ex_r x52, ex_r x53, ex_i x54, ex_i x55, ex_i x56, ex_i x57, ex_r x58, ex_r x59, ex_r x60, ex_r x61, ex_i x62, ex_r x63, ex_r x64, ex_i v_4.1, ex_j x66]), (x10, ex_a 1 10 ho), (x15, ex_a 1 12 zt), (x63, ex_a 1 6 v_4.2.1), (x64, ex_a 1 6 v_4.2.2)]) (lv' := [(4, ex_i (nI (tz6 lf))), (0, ex_r m), (1, ex_i (nI lf)), (2, ex_i al), (3, ex_i ap)]) (by subst hL80; rfl) (by subst hL80; rfl) ?_
        exact hrest80 trivial
      · have hlt80 : k80 < np := nlen (L := np) (by omega) hb80 c_5
        rw [show np - k80 = (np - (k80 + 1)) + 1 by omega] at hL80
        have hL80 := hL80.trans (F_X12_pairs_2_L80_s ..)
        refine X_iload_n (j := 3) dX12_pairs_91 rfl rfl ?_
        refine X_iload (j := 0) dX12_pairs_92 rfl ?_
        refine X_ishr (v := ((nI lf) >>> ((nI k80) &&& 31))) dX12_pairs_94 rfl ?_
        refine X_iconst (v := 1) dX12_pairs_95 (by decide) ?_
        refine X_iand (v := (((nI lf) >>> ((nI k80) &&& 31)) &&& 1)) dX12_pairs_96 rfl ?_
        refine X_if_ne (tgt := 103) dX12_pairs_97 (by decide) (fun c_6 => ?_) (fun c_6 => ?_)
        · have hL80 := hL80.trans (if_neg c_6)
          refine X_aload_n (j := 2) dX12_pairs_103 rfl rfl ?_
          refine X_get (j := 0) fo_X12_147 dX12_pairs_104 rfl rfl ?_
          refine X_iload (j := 1) dX12_pairs_107 rfl ?_
          refine X_iload (j := 0) dX12_pairs_109 rfl ?_
          refine X_iast (j := 3) (g := upd s80_1 (tz6 lf) (nI k80)) (cs' := [(m, ex_o 12 [ex_i x0, ex_i x1, ex_r x2, ex_i x3, ex_i x4, ex_i x5, ex_i x6, ex_j x7, ex_i x8, ex_i x9, ex_r x10, ex_r x11, ex_r x12, ex_r x13, ex_r x14, ex_r x15, ex_r x16, ex_r x17, ex_r x18, ex_r x19, ex_r x20, ex_r x21, ex_r x22, ex_r x23, ex_r x24, ex_r x25, ex_i x26, ex_i x27, ex_r x28, ex_r x29, ex_r x30, ex_r x31, ex_r x32, ex_r x33, ex_r x34, ex_r x35, ex_r x36, ex_r x37, ex_r x38, ex_r x39, ex_i x40, ex_j x41, ex_r x42, ex_r x43, ex_r x44, ex_r x45, ex_r x46, ex_r x47, ex_r x48, ex_r x49, ex_r x50, ex_r x51, ex_r x52, ex_r x53, ex_i x54, ex_i x55, ex_i x56, ex_i x57, ex_r x58, ex_r x59, ex_r x60, ex_r x61, ex_i x62, ex_r x63, ex_r x64, ex_i s80_0, ex_j x66]), (x10, ex_a 1 10 ho), (x15, ex_a 1 12 zt), (x63, ex_a 1 6 (upd s80_1 (tz6 lf) (nI k80))), (x64, ex_a 1 6 s80_2)]) dX12_pairs_111 rfl (vp_in_nI (show tz6 lf < 6 by omega) (by decide)) (by rw [nI_clamp (by omega)]) rfl ?_
          refine X_aload_n (j := 2) dX12_pairs_112 rfl rfl ?_
          refine X_get (j := 0) fo_X12_147 dX12_pairs_113 rfl rfl ?_
          refine X_iload (j := 0) dX12_pairs_116 rfl ?_
          refine X_iload (j := 1) dX12_pairs_118 rfl ?_
          refine X_iast (j := 3) (g := upd (upd s80_1 (tz6 lf) (nI k80)) k80 (nI (tz6 lf))) (cs' := [(m, ex_o 12 [ex_i x0, ex_i x1, ex_r x2, ex_i x3, ex_i x4, ex_i x5, ex_i x6, ex_j x7, ex_i x8, ex_i x9, ex_r x10, ex_r x11, ex_r x12, ex_r x13, ex_r x14, ex_r x15, ex_r x16, ex_r x17, ex_r x18, ex_r x19, ex_r x20, ex_r x21, ex_r x22, ex_r x23, ex_r x24, ex_r x25, ex_i x26, ex_i x27, ex_r x28, ex_r x29, ex_r x30, ex_r x31, ex_r x32, ex_r x33, ex_r x34, ex_r x35, ex_r x36, ex_r x37, ex_r x38, ex_r x39, ex_i x40, ex_j x41, ex_r x42, ex_r x43, ex_r x44, ex_r x45, ex_r x46, ex_r x47, ex_r x48, ex_r x49, ex_r x50, ex_r x51, ex_r x52, ex_r x53, ex_i x54, ex_i x55, ex_i x56, ex_i x57, ex_r x58, ex_r x59, ex_r x60, ex_r x61, ex_i x62, ex_r x63, ex_r x64, ex_i s80_0, ex_j x66]), (x10, ex_a 1 10 ho), (x15, ex_a 1 12 zt), (x63, ex_a 1 6 (upd (upd s80_1 (tz6 lf) (nI k80)) k80 (nI (tz6 lf)))), (x64, ex_a 1 6 s80_2)]) dX12_pairs_120 rfl (vp_in_nI (show k80 < 6 by omega) (by decide)) (by rw [nI_clamp (by omega)]) rfl ?_
          refine X_aload_n (j := 2) dX12_pairs_121 rfl rfl ?_
          refine X_iload_n (j := 3) dX12_pairs_122 rfl rfl ?_
          refine X_iconst (v := 1) dX12_pairs_123 (by decide) ?_
          refine X_iload (j := 1) dX12_pairs_124 rfl ?_
          refine X_ishl (v := (1 <<< ((nI (tz6 lf)) &&& 31))) dX12_pairs_126 rfl ?_
          refine X_iconst (v := (-1)) dX12_pairs_127 (by decide) ?_
          refine X_ixor (v := ((1 <<< ((nI (tz6 lf)) &&& 31)) ^^^ (-1))) dX12_pairs_128 rfl ?_
          refine X_iand (v := nI (lf - 2 ^ tz6 lf)) dX12_pairs_129 (an_tz hlf hl0) ?_
          refine X_iconst (v := 1) dX12_pairs_130 (by decide) ?_
          refine X_iload (j := 0) dX12_pairs_131 rfl ?_
          refine X_ishl (v := (1 <<< ((nI k80) &&& 31))) dX12_pairs_133 rfl ?_
          refine X_iconst (v := (-1)) dX12_pairs_134 (by decide) ?_
          refine X_ixor (v := ((1 <<< ((nI k80) &&& 31)) ^^^ (-1))) dX12_pairs_135 rfl ?_
          refine X_iand (v := nI ((lf - 2 ^ tz6 lf) - 2 ^ k80)) dX12_pairs_136 (an_bit hO (by omega) (bitO lf hlf hl0 k80 (by omega) hk80 c_6)) ?_
          refine X_iload_n (j := 4) dX12_pairs_137 rfl rfl ?_
          refine X_iload_n (j := 5) dX12_pairs_138 rfl rfl ?_
          refine X_aload_n (j := 2) dX12_pairs_139 rfl rfl ?_
          refine X_get (j := 0) fo_X12_29 dX12_pairs_140 rfl rfl ?_
          refine X_iload (j := 1) dX12_pairs_143 rfl ?_
          refine X_iald (j := 2) (v := (zt (tz6 lf))) dX12_pairs_145 rfl (vp_in_nI (show tz6 lf < 12 by omega) (by decide)) (by rw [nI_clamp (by omega)]) ?_
          refine X_aload_n (j := 2) dX12_pairs_146 rfl rfl ?_
          refine X_get (j := 0) fo_X12_29 dX12_pairs_147 rfl rfl ?_
          refine X_iload (j := 0) dX12_pairs_150 rfl ?_
          refine X_iald (j := 2) (v := (zt k80)) dX12_pairs_152 rfl (vp_in_nI (show k80 < 12 by omega) (by decide)) (by rw [nI_clamp (by omega)]) ?_
          refine X_callS (rest := [(m, ex_o 12 [ex_i x0, ex_i x1, ex_r x2, ex_i x3, ex_i x4, ex_i x5, ex_i x6, ex_j x7, ex_i x8, ex_i x9, ex_r x10, ex_r x11, ex_r x12, ex_r x13, ex_r x14, ex_r x15, ex_r x16, ex_r x17, ex_r x18, ex_r x19, ex_r x20, ex_r x21, ex_r x22, ex_r x23, ex_r x24, ex_r x25, ex_i x26, ex_i x27, ex_r x28, ex_r x29, ex_r x30, ex_r x31, ex_r x32, ex_r x33, ex_r x34, ex_r x35, ex_r x36, ex_r x37, ex_r x38, ex_r x39, ex_i x40, ex_j x41, ex_r x42, ex_r x43, ex_r x44, ex_r x45, ex_r x46, ex_r x47, ex_r x48, ex_r x49, ex_r x50, ex_r x51, ex_r x52, ex_r x53, ex_i x54, ex_i x55, ex_i x56, ex_i x57, ex_r x58, ex_r x59, ex_r x60, ex_r x61, ex_i x62, ex_r x63, ex_r x64, ex_i s80_0, ex_j x66]), (x10, ex_a 1 10 ho), (x15, ex_a 1 12 zt), (x63, ex_a 1 6 (upd (upd s80_1 (tz6 lf) (nI k80)) k80 (nI (tz6 lf)))), (x64, ex_a 1 6 s80_2)]) (stk := [ex_i ap, ex_i al, ex_i (nI ((lf - 2 ^ tz6 lf) - 2 ^ k80)), ex_r m]) co_X12_402 rfl ⟨(Nat.le_of_ble_eq_true rfl), (Nat.le_of_ble_eq_true rfl)⟩ (e_X12_away l (zt (tz6 lf)) (zt k80)) dX12_pairs_153 [0, 1, 2, 3, 4] (show List.Perm [0, 1, 2, 3, 4] (List.range 5) from by decide) rfl rfl rfl (Nat.le_of_ble_eq_true rfl) (fun zc1 zr hq hk => ?_)
          obtain ⟨rfl, rfl⟩ := hq
          refine X_iadd (v := (ap + (F_X12_away (zt (tz6 lf)) (zt k80)))) dX12_pairs_156 rfl ?_
          refine X_callV (j0 := 0) (rest := []) (stk := []) co_X12_512 rfl ⟨(Nat.le_of_ble_eq_true rfl), (Nat.le_of_ble_eq_true rfl)⟩ (e_X12_pairs_1 l np m ((lf - 2 ^ tz6 lf) - 2 ^ k80) al (ap + (F_X12_away (zt (tz6 lf)) (zt k80))) x0 x1 x2 x3 x4 x5 x6 x7 x8 x9 x10 x11 x12 x13 x14 x15 x16 x17 x18 x19 x20 x21 x22 x23 x24 x25 x26 x27 x28 x29 x30 x31 x32 x33 x34 x35 x36 x37 x38 x39 x40 x41 x42 x43 x44 x45 x46 x47 x48 x49 x50 x51 x52 x53 x54 x55 x56 x57 x58 x59 x60 x61 x62 x63 x64 s80_0 x66 ho zt (upd (upd s80_1 (tz6 lf) (nI k80)) k80 (nI (tz6 lf))) s80_2 (by first | assumption | omega) (by first | assumption | omega) (Nat.lt_of_le_of_lt (Nat.sub_le _ _) hO) (Nat.lt_of_le_of_lt (Nat.le_trans (Nat.sub_le _ _) (Nat.sub_le _ _)) hln) (bi_bit hO (by omega) (bitO lf hlf hl0 k80 (by omega) hk80 c_6) (bi_tz hlf hl0 hb))) dX12_pairs_157 [0, 1, 2, 3, 4] (show List.Perm [0, 1, 2, 3, 4] (List.range 5) from by decide) rfl rfl rfl rfl (Nat.le_of_ble_eq_true rfl) (fun zc1 zr hq hk => ?_)
          obtain ⟨rfl, rfl⟩ := hq
          try dsimp only at hL80
          generalize hq_w_7 : F_X12_pairs_1 np ((lf - 2 ^ tz6 lf) - 2 ^ k80) al (ap + (F_X12_away (zt (tz6 lf)) (zt k80))) s80_0 zt (upd (upd s80_1 (tz6 lf) (nI k80)) k80 (nI (tz6 lf))) s80_2 = w_7 at hL80 ⊢
          try dsimp only at hL80
          refine X_iinc (v := nI (k80 + 1)) (j := 0) (lv' := [(5, ex_i (nI (k80 + 1))), (4, ex_i (nI (tz6 lf))), (0, ex_r m), (1, ex_i (nI lf)), (2, ex_i al), (3, ex_i ap)]) dX12_pairs_160 rfl (nI_add k80 1) (Nat.le_of_ble_eq_true rfl) rfl ?_
          refine X_goto (tgt := 80) dX12_pairs_163 (by decide) ?_
          try dsimp only at hL80
          exact ihc80 (k80 + 1) w_7.1 w_7.2.1 w_7.2.2 ⟨hL80, (show (k80 + 1) ≤ np by omega), (show tz6 lf < (k80 + 1) by omega)⟩ (show np - (k80 + 1) < np - k80 by omega)
        · have hL80 := hL80.trans (if_pos c_6)
          refine X_goto (tgt := 160) dX12_pairs_100 (by decide) ?_
          refine X_iinc (v := nI (k80 + 1)) (j := 0) (lv' := [(5, ex_i (nI (k80 + 1))), (4, ex_i (nI (tz6 lf))), (0, ex_r m), (1, ex_i (nI lf)), (2, ex_i al), (3, ex_i ap)]) dX12_pairs_160 rfl (nI_add k80 1) (Nat.le_of_ble_eq_true rfl) rfl ?_
          refine X_goto (tgt := 80) dX12_pairs_163 (by decide) ?_
          try dsimp only at hL80
          exact ihc80 (k80 + 1) s80_0 s80_1 s80_2 ⟨hL80, (show (k80 + 1) ≤ np by omega), (show tz6 lf < (k80 + 1) by omega)⟩ (show np - (k80 + 1) < np - k80 by omega)
    refine X_aload_n (j := 1) dX12_pairs_166 rfl rfl ?_
    refine X_get (j := 0) fo_X12_147 dX12_pairs_167 rfl rfl ?_
    refine X_iload (j := 0) dX12_pairs_170 rfl ?_
    refine X_iconst (v := (-1)) dX12_pairs_172 (by decide) ?_
    refine X_iast (j := 3) (g := upd v_4.2.1 (tz6 lf) (-1)) (cs' := [(m, ex_o 12 [ex_i x0, ex_i x1, ex_r x2, ex_i x3, ex_i x4, ex_i x5, ex_i x6, ex_j x7, ex_i x8, ex_i x9, ex_r x10, ex_r x11, ex_r x12, ex_r x13, ex_r x14, ex_r x15, ex_r x16, ex_r x17, ex_r x18, ex_r x19, ex_r x20, ex_r x21, ex_r x22, ex_r x23, ex_r x24, ex_r x25, ex_i x26, ex_i x27, ex_r x28, ex_r x29, ex_r x30, ex_r x31, ex_r x32, ex_r x33, ex_r x34, ex_r x35, ex_r x36, ex_r x37, ex_r x38, ex_r x39, ex_i x40, ex_j x41, ex_r x42, ex_r x43, ex_r x44, ex_r x45, ex_r x46, ex_r x47, ex_r x48, ex_r x49, ex_r x50, ex_r x51, ex_r x52, ex_r x53, ex_i x54, ex_i x55, ex_i x56, ex_i x57, ex_r x58, ex_r x59, ex_r x60, ex_r x61, ex_i x62, ex_r x63, ex_r x64, ex_i v_4.1, ex_j x66]), (x10, ex_a 1 10 ho), (x15, ex_a 1 12 zt), (x63, ex_a 1 6 (upd v_4.2.1 (tz6 lf) (-1))), (x64, ex_a 1 6 v_4.2.2)]) dX12_pairs_173 rfl (vp_in_nI (show tz6 lf < 6 by omega) (by decide)) (by rw [nI_clamp (by omega)]) rfl ?_
    refine X_iload_n (j := 3) dX12_pairs_174 rfl rfl ?_
    refine X_if_eq (tgt := 192) dX12_pairs_175 (by decide) (fun c_8 => ?_) (fun c_8 => ?_)
    · have hV := hV.trans (if_pos c_8)
      try dsimp only at hV
      exact X_vret dX12_pairs_192 (by (repeat refine ex_kc ?_) <;> rfl) (by subst hV; exact ⟨rfl, rfl⟩)
    · have hV := hV.trans (if_neg c_8)
      refine X_aload_n (j := 1) dX12_pairs_178 rfl rfl ?_
      refine X_iload_n (j := 2) dX12_pairs_179 rfl rfl ?_
      refine X_iconst (v := 1) dX12_pairs_180 (by decide) ?_
      refine X_iload (j := 0) dX12_pairs_181 rfl ?_
      refine X_ishl (v := (1 <<< ((nI (tz6 lf)) &&& 31))) dX12_pairs_183 rfl ?_
      refine X_iconst (v := (-1)) dX12_pairs_184 (by decide) ?_
      refine X_ixor (v := ((1 <<< ((nI (tz6 lf)) &&& 31)) ^^^ (-1))) dX12_pairs_185 rfl ?_
      refine X_iand (v := nI (lf - 2 ^ tz6 lf)) dX12_pairs_186 (an_tz hlf hl0) ?_
      refine X_iconst (v := 0) dX12_pairs_187 (by decide) ?_
      refine X_iload_n (j := 4) dX12_pairs_188 rfl rfl ?_
      refine X_callV (j0 := 0) (rest := []) (stk := []) co_X12_512 rfl ⟨(Nat.le_of_ble_eq_true rfl), (Nat.le_of_ble_eq_true rfl)⟩ (e_X12_pairs_1 l np m (lf - 2 ^ tz6 lf) 0 ap x0 x1 x2 x3 x4 x5 x6 x7 x8 x9 x10 x11 x12 x13 x14 x15 x16 x17 x18 x19 x20 x21 x22 x23 x24 x25 x26 x27 x28 x29 x30 x31 x32 x33 x34 x35 x36 x37 x38 x39 x40 x41 x42 x43 x44 x45 x46 x47 x48 x49 x50 x51 x52 x53 x54 x55 x56 x57 x58 x59 x60 x61 x62 x63 x64 v_4.1 x66 ho zt (upd v_4.2.1 (tz6 lf) (-1)) v_4.2.2 (by first | assumption | omega) (by first | assumption | omega) hO (Nat.lt_of_le_of_lt (Nat.sub_le _ _) hln) (bi_tz hlf hl0 hb)) dX12_pairs_189 [0, 1, 2, 3, 4] (show List.Perm [0, 1, 2, 3, 4] (List.range 5) from by decide) rfl rfl rfl rfl (Nat.le_of_ble_eq_true rfl) (fun zc1 zr hq hk => ?_)
      obtain ⟨rfl, rfl⟩ := hq
      try dsimp only at hV
      generalize hq_w_9 : F_X12_pairs_1 np (lf - 2 ^ tz6 lf) 0 ap v_4.1 zt (upd v_4.2.1 (tz6 lf) (-1)) v_4.2.2 = w_9 at hV ⊢
      try dsimp only at hV
      try dsimp only at hV
      exact X_vret dX12_pairs_192 (by (repeat refine ex_kc ?_) <;> rfl) (by subst hV; exact ⟨rfl, rfl⟩)
  · have hV := hV.trans (if_pos c_1)
    refine X_aload_n (j := 0) dX12_pairs_4 rfl rfl ?_
    refine X_get (j := 0) fo_X12_509 dX12_pairs_5 rfl rfl ?_
    refine X_if_lt (tgt := 20) dX12_pairs_8 (by decide) (fun c_10 => ?_) (fun c_10 => ?_)
    · have hV := hV.trans (if_pos c_10)
      refine X_aload_n (j := 0) dX12_pairs_20 rfl rfl ?_
      refine X_iload_n (j := 3) dX12_pairs_21 rfl rfl ?_
      refine X_put (j := 0) (cs' := [(m, ex_o 12 [ex_i x0, ex_i x1, ex_r x2, ex_i x3, ex_i x4, ex_i x5, ex_i x6, ex_j x7, ex_i x8, ex_i x9, ex_r x10, ex_r x11, ex_r x12, ex_r x13, ex_r x14, ex_r x15, ex_r x16, ex_r x17, ex_r x18, ex_r x19, ex_r x20, ex_r x21, ex_r x22, ex_r x23, ex_r x24, ex_r x25, ex_i x26, ex_i x27, ex_r x28, ex_r x29, ex_r x30, ex_r x31, ex_r x32, ex_r x33, ex_r x34, ex_r x35, ex_r x36, ex_r x37, ex_r x38, ex_r x39, ex_i x40, ex_j x41, ex_r x42, ex_r x43, ex_r x44, ex_r x45, ex_r x46, ex_r x47, ex_r x48, ex_r x49, ex_r x50, ex_r x51, ex_r x52, ex_r x53, ex_i x54, ex_i x55, ex_i x56, ex_i x57, ex_r x58, ex_r x59, ex_r x60, ex_r x61, ex_i x62, ex_r x63, ex_r x64, ex_i ap, ex_j x66]), (x10, ex_a 1 10 ho), (x15, ex_a 1 12 zt), (x63, ex_a 1 6 po), (x64, ex_a 1 6 bp)]) fo_X12_509 (by decide) dX12_pairs_22 rfl (Nat.le_of_ble_eq_true rfl) trivial rfl ?_
      refine X_iconst (v := 0) dX12_pairs_25 (by decide) ?_
      refine X_istore (lv' := [(4, ex_i 0), (0, ex_r m), (1, ex_i (nI lf)), (2, ex_i al), (3, ex_i ap)]) dX12_pairs_26 (Nat.le_of_ble_eq_true rfl) rfl ?_
      -- loop at 28
      try dsimp only at hV
      generalize hq_v_11 : F_X12_pairs_2_L28 po (6 - 0) 0 bp = v_11 at hV
      try dsimp only at hV
      refine X_cut (P := True) (csE := [(m, ex_o 12 [ex_i x0, ex_i x1, ex_r x2, ex_i x3, ex_i x4, ex_i x5, ex_i x6, ex_j x7, ex_i x8, ex_i x9, ex_r x10, ex_r x11, ex_r x12, ex_r x13, ex_r x14, ex_r x15, ex_r x16, ex_r x17, ex_r x18, ex_r x19, ex_r x20, ex_r x21, ex_r x22, ex_r x23, ex_r x24, ex_r x25, ex_i x26, ex_i x27, ex_r x28, ex_r x29, ex_r x30, ex_r x31, ex_r x32, ex_r x33, ex_r x34, ex_r x35, ex_r x36, ex_r x37, ex_r x38, ex_r x39, ex_i x40, ex_j x41, ex_r x42, ex_r x43, ex_r x44, ex_r x45, ex_r x46, ex_r x47, ex_r x48, ex_r x49, ex_r x50, ex_r x51, ex_r x52, ex_r x53, ex_i x54, ex_i x55, ex_i x56, ex_i x57, ex_r x58, ex_r x59, ex_r x60, ex_r x61, ex_i x62, ex_r x63, ex_r x64, ex_i ap, ex_j x66]), (x10, ex_a 1 10 ho), (x15, ex_a 1 12 zt), (x63, ex_a 1 6 po), (x64, ex_a 1 6 v_11)]) (lvE := [(0, ex_r m), (1, ex_i (nI lf)), (2, ex_i al), (3, ex_i ap)]) (E := 55) (fun hrest28 => ?_) (fun hPX28 => ?_)
      · have hL28 := hq_v_11.symm
        refine X_ind (fun (a28 : Nat × (Nat → Int32)) => v_11 = F_X12_pairs_2_L28 po (6 - a28.1) a28.1 a28.2 ∧ a28.1 ≤ 6) (fun (a28 : Nat × (Nat → Int32)) => 6 - a28.1) (fun (a28 : Nat × (Nat → Int32)) => [(m, ex_o 12 [ex_i x0, ex_i x1, ex_r x2, ex_i x3, ex_i x4, ex_i x5, ex_i x6, ex_j x7, ex_i x8, ex_i x9, ex_r x10, ex_r x11, ex_r x12, ex_r x13, ex_r x14, ex_r x15, ex_r x16, ex_r x17, ex_r x18, ex_r x19, ex_r x20, ex_r x21, ex_r x22, ex_r x23, ex_r x24, ex_r x25, ex_i x26, ex_i x27, ex_r x28, ex_r x29, ex_r x30, ex_r x31, ex_r x32, ex_r x33, ex_r x34, ex_r x35, ex_r x36, ex_r x37, ex_r x38, ex_r x39, ex_i x40, ex_j x41, ex_r x42, ex_r x43, ex_r x44, ex_r x45, ex_r x46, ex_r x47, ex_r x48, ex_r x49, ex_r x50, ex_r x51, ex_r x52, ex_r x53, ex_i x54, ex_i x55, ex_i x56, ex_i x57, ex_r x58, ex_r x59, ex_r x60, ex_r x61, ex_i x62, ex_r x63, ex_r x64, ex_i ap, ex_j x66]), (x10, ex_a 1 10 ho), (x15, ex_a 1 12 zt), (x63, ex_a 1 6 po), (x64, ex_a 1 6 a28.2)]) (fun (a28 : Nat × (Nat → Int32)) => [(4, ex_i (nI a28.1)), (0, ex_r m), (1, ex_i (nI lf)), (2, ex_i al), (3, ex_i ap)]) (fun ⟨k28, s28_0⟩ hI28 ih28 => ?_) (0, bp) ⟨hL28, (by omega)⟩
        try dsimp only at hI28 ih28 ⊢
        have ihc28 : ∀ (k28_ : Nat) (s28_0_ : Nat → Int32), (v_11 = F_X12_pairs_2_L28 po (6 - k28_) k28_ s28_0_ ∧ k28_ ≤ 6) → (6 - k28_) < (6 - k28) → ex_O _ _ _ _ _ _ _ _ _ [(m, ex_o 12 [ex_i x0, ex_i x1, ex_r x2, ex_i x3, ex_i x4, ex_i x5, ex_i x6, ex_j x7, ex_i x8, ex_i x9, ex_r x10, ex_r x11, ex_r x12, ex_r x13, ex_r x14, ex_r x15, ex_r x16, ex_r x17, ex_r x18, ex_r x19, ex_r x20, ex_r x21, ex_r x22, ex_r x23, ex_r x24, ex_r x25, ex_i x26, ex_i x27, ex_r x28, ex_r x29, ex_r x30, ex_r x31, ex_r x32, ex_r x33, ex_r x34, ex_r x35, ex_r x36, ex_r x37, ex_r x38, ex_r x39, ex_i x40, ex_j x41, ex_r x42, ex_r x43, ex_r x44, ex_r x45, ex_r x46, ex_r x47, ex_r x48, ex_r x49, ex_r x50, ex_r x51, ex_r x52, ex_r x53, ex_i x54, ex_i x55, ex_i x56, ex_i x57, ex_r x58, ex_r x59, ex_r x60, ex_r x61, ex_i x62, ex_r x63, ex_r x64, ex_i ap, ex_j x66]), (x10, ex_a 1 10 ho), (x15, ex_a 1 12 zt), (x63, ex_a 1 6 po), (x64, ex_a 1 6 s28_0_)] [(4, ex_i (nI k28_)), (0, ex_r m), (1, ex_i (nI lf)), (2, ex_i al), (3, ex_i ap)] _ _ := fun k28_ s28_0_ hi_ hm_ => ih28 (k28_, s28_0_) hi_ hm_
        have hL28 := hI28.1
        have hb28 := hI28.2
        refine X_iload (j := 0) dX12_pairs_28 rfl ?_
        refine X_bipush (v := 6) dX12_pairs_30 (by decide) ?_
        refine X_icmp_ge (tgt := 55) dX12_pairs_32 (by decide) (fun c_12 => ?_) (fun c_12 => ?_)
        · have hlt28 : k28 = 6 := nlex (L := 6) (by omega) hb28 c_12
          rw [show 6 - k28 = 0 by omega] at hL28
          have hL28 := hL28.trans (F_X12_pairs_2_L28_z ..)
          try dsimp only at hL28
          refine X_lv (lv' := [(0, ex_r m), (1, ex_i (nI lf)), (2, ex_i al), (3, ex_i ap)]) [1, 2, 3, 4] rfl ?_
          refine X_eq (cs' := [(m, ex_o 12 [ex_i x0, ex_i x1, ex_r x2, ex_i x3, ex_i x4, ex_i x5, ex_i x6, ex_j x7, ex_i x8, ex_i x9, ex_r x10, ex_r x11, ex_r x12, ex_r x13, ex_r x14, ex_r x15, ex_r x16, ex_r x17, ex_r x18, ex_r x19, ex_r x20, ex_r x21, ex_r x22, ex_r x23, ex_r x24, ex_r x25, ex_i x26, ex_i x27, ex_r x28, ex_r x29, ex_r x30, ex_r x31, ex_r x32, ex_r x33, ex_r x34, ex_r x35, ex_r x36, ex_r x37, ex_r x38, ex_r x39, ex_i x40, ex_j x41, ex_r x42, ex_r x43, ex_r x44, ex_r x45, ex_r x46, ex_r x47, ex_r x48, ex_r x49, ex_r x50, ex_r x51, ex_r x52, ex_r x53, ex_i x54, ex_i x55, ex_i x56, ex_i x57, ex_r x58, ex_r x59, ex_r x60, ex_r x61, ex_i x62, ex_r x63, ex_r x64, ex_i ap, ex_j x66]), (x10, ex_a 1 10 ho), (x15, ex_a 1 12 zt), (x63, ex_a 1 6 po), (x64, ex_a 1 6 v_11)]) (lv' := [(0, ex_r m), (1, ex_i (nI lf)), (2, ex_i al), (3, ex_i ap)]) (by subst hL28; rfl) (by subst hL28; rfl) ?_
          exact hrest28 trivial
        · have hlt28 : k28 < 6 := nlen (L := 6) (by omega) hb28 c_12
          rw [show 6 - k28 = (6 - (k28 + 1)) + 1 by omega] at hL28
          have hL28 := hL28.trans (F_X12_pairs_2_L28_s ..)
          refine X_aload_n (j := 1) dX12_pairs_35 rfl rfl ?_
          refine X_get (j := 0) fo_X12_150 dX12_pairs_36 rfl rfl ?_
          refine X_iload (j := 0) dX12_pairs_39 rfl ?_
          refine X_aload_n (j := 1) dX12_pairs_41 rfl rfl ?_
          refine X_get (j := 0) fo_X12_147 dX12_pairs_42 rfl rfl ?_
          refine X_iload (j := 0) dX12_pairs_45 rfl ?_
          refine X_iald (j := 3) (v := (po k28)) dX12_pairs_47 rfl (vp_in_nI (show k28 < 6 by omega) (by decide)) (by rw [nI_clamp (by omega)]) ?_
          refine X_iast (j := 4) (g := upd s28_0 k28 (po k28)) (cs' := [(m, ex_o 12 [ex_i x0, ex_i x1, ex_r x2, ex_i x3, ex_i x4, ex_i x5, ex_i x6, ex_j x7, ex_i x8, ex_i x9, ex_r x10, ex_r x11, ex_r x12, ex_r x13, ex_r x14, ex_r x15, ex_r x16, ex_r x17, ex_r x18, ex_r x19, ex_r x20, ex_r x21, ex_r x22, ex_r x23, ex_r x24, ex_r x25, ex_i x26, ex_i x27, ex_r x28, ex_r x29, ex_r x30, ex_r x31, ex_r x32, ex_r x33, ex_r x34, ex_r x35, ex_r x36, ex_r x37, ex_r x38, ex_r x39, ex_i x40, ex_j x41, ex_r x42, ex_r x43, ex_r x44, ex_r x45, ex_r x46, ex_r x47, ex_r x48, ex_r x49, ex_r x50, ex_r x51, ex_r x52, ex_r x53, ex_i x54, ex_i x55, ex_i x56, ex_i x57, ex_r x58, ex_r x59, ex_r x60, ex_r x61, ex_i x62, ex_r x63, ex_r x64, ex_i ap, ex_j x66]), (x10, ex_a 1 10 ho), (x15, ex_a 1 12 zt), (x63, ex_a 1 6 po), (x64, ex_a 1 6 (upd s28_0 k28 (po k28)))]) dX12_pairs_48 rfl (vp_in_nI (show k28 < 6 by omega) (by decide)) (by rw [nI_clamp (by omega)]) rfl ?_
          refine X_iinc (v := nI (k28 + 1)) (j := 0) (lv' := [(4, ex_i (nI (k28 + 1))), (0, ex_r m), (1, ex_i (nI lf)), (2, ex_i al), (3, ex_i ap)]) dX12_pairs_49 rfl (nI_add k28 1) (Nat.le_of_ble_eq_true rfl) rfl ?_
          refine X_goto (tgt := 28) dX12_pairs_52 (by decide) ?_
          try dsimp only at hL28
          exact ihc28 (k28 + 1) (upd s28_0 k28 (po k28)) ⟨hL28, (show (k28 + 1) ≤ 6 by omega)⟩ (show 6 - (k28 + 1) < 6 - k28 by omega)
      try dsimp only at hV
      exact X_vret dX12_pairs_55 (by (repeat refine ex_kc ?_) <;> rfl) (by subst hV; exact ⟨rfl, rfl⟩)
    · have hV := hV.trans (if_neg c_10)
      refine X_iload_n (j := 3) dX12_pairs_11 rfl rfl ?_
      refine X_aload_n (j := 0) dX12_pairs_12 rfl rfl ?_
      refine X_get (j := 0) fo_X12_509 dX12_pairs_13 rfl rfl ?_
      refine X_icmp_lt (tgt := 20) dX12_pairs_16 (by decide) (fun c_13 => ?_) (fun c_13 => ?_)
      · have hV := hV.trans (if_pos c_13)
        refine X_aload_n (j := 0) dX12_pairs_20 rfl rfl ?_
        refine X_iload_n (j := 3) dX12_pairs_21 rfl rfl ?_
        refine X_put (j := 0) (cs' := [(m, ex_o 12 [ex_i x0, ex_i x1, ex_r x2, ex_i x3, ex_i x4, ex_i x5, ex_i x6, ex_j x7, ex_i x8, ex_i x9, ex_r x10, ex_r x11, ex_r x12, ex_r x13, ex_r x14, ex_r x15, ex_r x16, ex_r x17, ex_r x18, ex_r x19, ex_r x20, ex_r x21, ex_r x22, ex_r x23, ex_r x24, ex_r x25, ex_i x26, ex_i x27, ex_r x28, ex_r x29, ex_r x30, ex_r x31, ex_r x32, ex_r x33, ex_r x34, ex_r x35, ex_r x36, ex_r x37, ex_r x38, ex_r x39, ex_i x40, ex_j x41, ex_r x42, ex_r x43, ex_r x44, ex_r x45, ex_r x46, ex_r x47, ex_r x48, ex_r x49, ex_r x50, ex_r x51, ex_r x52, ex_r x53, ex_i x54, ex_i x55, ex_i x56, ex_i x57, ex_r x58, ex_r x59, ex_r x60, ex_r x61, ex_i x62, ex_r x63, ex_r x64, ex_i ap, ex_j x66]), (x10, ex_a 1 10 ho), (x15, ex_a 1 12 zt), (x63, ex_a 1 6 po), (x64, ex_a 1 6 bp)]) fo_X12_509 (by decide) dX12_pairs_22 rfl (Nat.le_of_ble_eq_true rfl) trivial rfl ?_
        refine X_iconst (v := 0) dX12_pairs_25 (by decide) ?_
        refine X_istore (lv' := [(4, ex_i 0), (0, ex_r m), (1, ex_i (nI lf)), (2, ex_i al), (3, ex_i ap)]) dX12_pairs_26 (Nat.le_of_ble_eq_true rfl) rfl ?_
        -- loop at 28
        try dsimp only at hV
        generalize hq_v_14 : F_X12_pairs_2_L28_2 po (6 - 0) 0 bp = v_14 at hV
        try dsimp only at hV
        refine X_cut (P := True) (csE := [(m, ex_o 12 [ex_i x0, ex_i x1, ex_r x2, ex_i x3, ex_i x4, ex_i x5, ex_i x6, ex_j x7, ex_i x8, ex_i x9, ex_r x10, ex_r x11, ex_r x12, ex_r x13, ex_r x14, ex_r x15, ex_r x16, ex_r x17, ex_r x18, ex_r x19, ex_r x20, ex_r x21, ex_r x22, ex_r x23, ex_r x24, ex_r x25, ex_i x26, ex_i x27, ex_r x28, ex_r x29, ex_r x30, ex_r x31, ex_r x32, ex_r x33, ex_r x34, ex_r x35, ex_r x36, ex_r x37, ex_r x38, ex_r x39, ex_i x40, ex_j x41, ex_r x42, ex_r x43, ex_r x44, ex_r x45, ex_r x46, ex_r x47, ex_r x48, ex_r x49, ex_r x50, ex_r x51, ex_r x52, ex_r x53, ex_i x54, ex_i x55, ex_i x56, ex_i x57, ex_r x58, ex_r x59, ex_r x60, ex_r x61, ex_i x62, ex_r x63, ex_r x64, ex_i ap, ex_j x66]), (x10, ex_a 1 10 ho), (x15, ex_a 1 12 zt), (x63, ex_a 1 6 po), (x64, ex_a 1 6 v_14)]) (lvE := [(0, ex_r m), (1, ex_i (nI lf)), (2, ex_i al), (3, ex_i ap)]) (E := 55) (fun hrest28 => ?_) (fun hPX28 => ?_)
        · have hL28 := hq_v_14.symm
          refine X_ind (fun (a28 : Nat × (Nat → Int32)) => v_14 = F_X12_pairs_2_L28_2 po (6 - a28.1) a28.1 a28.2 ∧ a28.1 ≤ 6) (fun (a28 : Nat × (Nat → Int32)) => 6 - a28.1) (fun (a28 : Nat × (Nat → Int32)) => [(m, ex_o 12 [ex_i x0, ex_i x1, ex_r x2, ex_i x3, ex_i x4, ex_i x5, ex_i x6, ex_j x7, ex_i x8, ex_i x9, ex_r x10, ex_r x11, ex_r x12, ex_r x13, ex_r x14, ex_r x15, ex_r x16, ex_r x17, ex_r x18, ex_r x19, ex_r x20, ex_r x21, ex_r x22, ex_r x23, ex_r x24, ex_r x25, ex_i x26, ex_i x27, ex_r x28, ex_r x29, ex_r x30, ex_r x31, ex_r x32, ex_r x33, ex_r x34, ex_r x35, ex_r x36, ex_r x37, ex_r x38, ex_r x39, ex_i x40, ex_j x41, ex_r x42, ex_r x43, ex_r x44, ex_r x45, ex_r x46, ex_r x47, ex_r x48, ex_r x49, ex_r x50, ex_r x51, ex_r x52, ex_r x53, ex_i x54, ex_i x55, ex_i x56, ex_i x57, ex_r x58, ex_r x59, ex_r x60, ex_r x61, ex_i x62, ex_r x63, ex_r x64, ex_i ap, ex_j x66]), (x10, ex_a 1 10 ho), (x15, ex_a 1 12 zt), (x63, ex_a 1 6 po), (x64, ex_a 1 6 a28.2)]) (fun (a28 : Nat × (Nat → Int32)) => [(4, ex_i (nI a28.1)), (0, ex_r m), (1, ex_i (nI lf)), (2, ex_i al), (3, ex_i ap)]) (fun ⟨k28, s28_0⟩ hI28 ih28 => ?_) (0, bp) ⟨hL28, (by omega)⟩
          try dsimp only at hI28 ih28 ⊢
          have ihc28 : ∀ (k28_ : Nat) (s28_0_ : Nat → Int32), (v_14 = F_X12_pairs_2_L28_2 po (6 - k28_) k28_ s28_0_ ∧ k28_ ≤ 6) → (6 - k28_) < (6 - k28) → ex_O _ _ _ _ _ _ _ _ _ [(m, ex_o 12 [ex_i x0, ex_i x1, ex_r x2, ex_i x3, ex_i x4, ex_i x5, ex_i x6, ex_j x7, ex_i x8, ex_i x9, ex_r x10, ex_r x11, ex_r x12, ex_r x13, ex_r x14, ex_r x15, ex_r x16, ex_r x17, ex_r x18, ex_r x19, ex_r x20, ex_r x21, ex_r x22, ex_r x23, ex_r x24, ex_r x25, ex_i x26, ex_i x27, ex_r x28, ex_r x29, ex_r x30, ex_r x31, ex_r x32, ex_r x33, ex_r x34, ex_r x35, ex_r x36, ex_r x37, ex_r x38, ex_r x39, ex_i x40, ex_j x41, ex_r x42, ex_r x43, ex_r x44, ex_r x45, ex_r x46, ex_r x47, ex_r x48, ex_r x49, ex_r x50, ex_r x51, ex_r x52, ex_r x53, ex_i x54, ex_i x55, ex_i x56, ex_i x57, ex_r x58, ex_r x59, ex_r x60, ex_r x61, ex_i x62, ex_r x63, ex_r x64, ex_i ap, ex_j x66]), (x10, ex_a 1 10 ho), (x15, ex_a 1 12 zt), (x63, ex_a 1 6 po), (x64, ex_a 1 6 s28_0_)] [(4, ex_i (nI k28_)), (0, ex_r m), (1, ex_i (nI lf)), (2, ex_i al), (3, ex_i ap)] _ _ := fun k28_ s28_0_ hi_ hm_ => ih28 (k28_, s28_0_) hi_ hm_
          have hL28 := hI28.1
          have hb28 := hI28.2
          refine X_iload (j := 0) dX12_pairs_28 rfl ?_
          refine X_bipush (v := 6) dX12_pairs_30 (by decide) ?_
          refine X_icmp_ge (tgt := 55) dX12_pairs_32 (by decide) (fun c_15 => ?_) (fun c_15 => ?_)
          · have hlt28 : k28 = 6 := nlex (L := 6) (by omega) hb28 c_15
            rw [show 6 - k28 = 0 by omega] at hL28
            have hL28 := hL28.trans (F_X12_pairs_2_L28_2_z ..)
            try dsimp only at hL28
            refine X_lv (lv' := [(0, ex_r m), (1, ex_i (nI lf)), (2, ex_i al), (3, ex_i ap)]) [1, 2, 3, 4] rfl ?_
            refine X_eq (cs' := [(m, ex_o 12 [ex_i x0, ex_i x1, ex_r x2, ex_i x3, ex_i x4, ex_i x5, ex_i x6, ex_j x7, ex_i x8, ex_i x9, ex_r x10, ex_r x11, ex_r x12, ex_r x13, ex_r x14, ex_r x15, ex_r x16, ex_r x17, ex_r x18, ex_r x19, ex_r x20, ex_r x21, ex_r x22, ex_r x23, ex_r x24, ex_r x25, ex_i x26, ex_i x27, ex_r x28, ex_r x29, ex_r x30, ex_r x31, ex_r x32, ex_r x33, ex_r x34, ex_r x35, ex_r x36, ex_r x37, ex_r x38, ex_r x39, ex_i x40, ex_j x41, ex_r x42, ex_r x43, ex_r x44, ex_r x45, ex_r x46, ex_r x47, ex_r x48, ex_r x49, ex_r x50, ex_r x51, ex_r x52, ex_r x53, ex_i x54, ex_i x55, ex_i x56, ex_i x57, ex_r x58, ex_r x59, ex_r x60, ex_r x61, ex_i x62, ex_r x63, ex_r x64, ex_i ap, ex_j x66]), (x10, ex_a 1 10 ho), (x15, ex_a 1 12 zt), (x63, ex_a 1 6 po), (x64, ex_a 1 6 v_14)]) (lv' := [(0, ex_r m), (1, ex_i (nI lf)), (2, ex_i al), (3, ex_i ap)]) (by subst hL28; rfl) (by subst hL28; rfl) ?_
            exact hrest28 trivial
          · have hlt28 : k28 < 6 := nlen (L := 6) (by omega) hb28 c_15
            rw [show 6 - k28 = (6 - (k28 + 1)) + 1 by omega] at hL28
            have hL28 := hL28.trans (F_X12_pairs_2_L28_2_s ..)
            refine X_aload_n (j := 1) dX12_pairs_35 rfl rfl ?_
            refine X_get (j := 0) fo_X12_150 dX12_pairs_36 rfl rfl ?_
            refine X_iload (j := 0) dX12_pairs_39 rfl ?_
            refine X_aload_n (j := 1) dX12_pairs_41 rfl rfl ?_
            refine X_get (j := 0) fo_X12_147 dX12_pairs_42 rfl rfl ?_
            refine X_iload (j := 0) dX12_pairs_45 rfl ?_
            refine X_iald (j := 3) (v := (po k28)) dX12_pairs_47 rfl (vp_in_nI (show k28 < 6 by omega) (by decide)) (by rw [nI_clamp (by omega)]) ?_
            refine X_iast (j := 4) (g := upd s28_0 k28 (po k28)) (cs' := [(m, ex_o 12 [ex_i x0, ex_i x1, ex_r x2, ex_i x3, ex_i x4, ex_i x5, ex_i x6, ex_j x7, ex_i x8, ex_i x9, ex_r x10, ex_r x11, ex_r x12, ex_r x13, ex_r x14, ex_r x15, ex_r x16, ex_r x17, ex_r x18, ex_r x19, ex_r x20, ex_r x21, ex_r x22, ex_r x23, ex_r x24, ex_r x25, ex_i x26, ex_i x27, ex_r x28, ex_r x29, ex_r x30, ex_r x31, ex_r x32, ex_r x33, ex_r x34, ex_r x35, ex_r x36, ex_r x37, ex_r x38, ex_r x39, ex_i x40, ex_j x41, ex_r x42, ex_r x43, ex_r x44, ex_r x45, ex_r x46, ex_r x47, ex_r x48, ex_r x49, ex_r x50, ex_r x51, ex_r x52, ex_r x53, ex_i x54, ex_i x55, ex_i x56, ex_i x57, ex_r x58, ex_r x59, ex_r x60, ex_r x61, ex_i x62, ex_r x63, ex_r x64, ex_i ap, ex_j x66]), (x10, ex_a 1 10 ho), (x15, ex_a 1 12 zt), (x63, ex_a 1 6 po), (x64, ex_a 1 6 (upd s28_0 k28 (po k28)))]) dX12_pairs_48 rfl (vp_in_nI (show k28 < 6 by omega) (by decide)) (by rw [nI_clamp (by omega)]) rfl ?_
            refine X_iinc (v := nI (k28 + 1)) (j := 0) (lv' := [(4, ex_i (nI (k28 + 1))), (0, ex_r m), (1, ex_i (nI lf)), (2, ex_i al), (3, ex_i ap)]) dX12_pairs_49 rfl (nI_add k28 1) (Nat.le_of_ble_eq_true rfl) rfl ?_
            refine X_goto (tgt := 28) dX12_pairs_52 (by decide) ?_
            try dsimp only at hL28
            exact ihc28 (k28 + 1) (upd s28_0 k28 (po k28)) ⟨hL28, (show (k28 + 1) ≤ 6 by omega)⟩ (show 6 - (k28 + 1) < 6 - k28 by omega)
        try dsimp only at hV
        exact X_vret dX12_pairs_55 (by (repeat refine ex_kc ?_) <;> rfl) (by subst hV; exact ⟨rfl, rfl⟩)
      · have hV := hV.trans (if_neg c_13)
        try dsimp only at hV
        exact X_vret dX12_pairs_19 (by (repeat refine ex_kc ?_) <;> rfl) (by subst hV; exact ⟨rfl, rfl⟩)

def F_X12_pairs_3_L59 (lf : Nat) : Nat → Nat → Nat
  | 0, p59 => p59
  | zn + 1, p59 => (if (((nI lf) >>> ((nI p59) &&& 31)) &&& 1) = 0 then F_X12_pairs_3_L59 lf zn (p59 + 1) else p59)
theorem F_X12_pairs_3_L59_z (lf : Nat) (p59 : Nat) : F_X12_pairs_3_L59 lf 0 p59 = p59 := rfl
theorem F_X12_pairs_3_L59_s (lf : Nat) (p59 : Nat) (zn : Nat) : F_X12_pairs_3_L59 lf (zn + 1) p59 = (if (((nI lf) >>> ((nI p59) &&& 31)) &&& 1) = 0 then F_X12_pairs_3_L59 lf zn (p59 + 1) else p59) := rfl
def F_X12_pairs_3_L80 (np : Nat) (lf : Nat) (al : Int32) (ap : Int32) (zt : Nat → Int32) : Nat → Nat → Int32 → (Nat → Int32) → (Nat → Int32) → Int32 × (Nat → Int32) × (Nat → Int32)
  | 0, k80, s80_0, s80_1, s80_2 => (s80_0, s80_1, s80_2)
  | zn + 1, k80, s80_0, s80_1, s80_2 => (if (((nI lf) >>> ((nI k80) &&& 31)) &&& 1) = 0 then F_X12_pairs_3_L80 np lf al ap zt zn (k80 + 1) s80_0 s80_1 s80_2 else ((fun (w_7 : Int32 × (Nat → Int32) × (Nat → Int32)) => F_X12_pairs_3_L80 np lf al ap zt zn (k80 + 1) w_7.1 w_7.2.1 w_7.2.2) (F_X12_pairs_2 np ((lf - 2 ^ tz6 lf) - 2 ^ k80) al (ap + (F_X12_away (zt (tz6 lf)) (zt k80))) s80_0 zt (upd (upd s80_1 (tz6 lf) (nI k80)) k80 (nI (tz6 lf))) s80_2)))
theorem F_X12_pairs_3_L80_z (np : Nat) (lf : Nat) (al : Int32) (ap : Int32) (zt : Nat → Int32) (k80 : Nat) (s80_0 : Int32) (s80_1 : Nat → Int32) (s80_2 : Nat → Int32) : F_X12_pairs_3_L80 np lf al ap zt 0 k80 s80_0 s80_1 s80_2 = (s80_0, s80_1, s80_2) := rfl
theorem F_X12_pairs_3_L80_s (np : Nat) (lf : Nat) (al : Int32) (ap : Int32) (zt : Nat → Int32) (k80 : Nat) (s80_0 : Int32) (s80_1 : Nat → Int32) (s80_2 : Nat → Int32) (zn : Nat) : F_X12_pairs_3_L80 np lf al ap zt (zn + 1) k80 s80_0 s80_1 s80_2 = (if (((nI lf) >>> ((nI k80) &&& 31)) &&& 1) = 0 then F_X12_pairs_3_L80 np lf al ap zt zn (k80 + 1) s80_0 s80_1 s80_2 else ((fun (w_7 : Int32 × (Nat → Int32) × (Nat → Int32)) => F_X12_pairs_3_L80 np lf al ap zt zn (k80 + 1) w_7.1 w_7.2.1 w_7.2.2) (F_X12_pairs_2 np ((lf - 2 ^ tz6 lf) - 2 ^ k80) al (ap + (F_X12_away (zt (tz6 lf)) (zt k80))) s80_0 zt (upd (upd s80_1 (tz6 lf) (nI k80)) k80 (nI (tz6 lf))) s80_2))) := rfl
def F_X12_pairs_3_L28 (po : Nat → Int32) : Nat → Nat → (Nat → Int32) → (Nat → Int32)
  | 0, k28, s28_0 => s28_0
  | zn + 1, k28, s28_0 => F_X12_pairs_3_L28 po zn (k28 + 1) (upd s28_0 k28 (po k28))
theorem F_X12_pairs_3_L28_z (po : Nat → Int32) (k28 : Nat) (s28_0 : Nat → Int32) : F_X12_pairs_3_L28 po 0 k28 s28_0 = s28_0 := rfl
theorem F_X12_pairs_3_L28_s (po : Nat → Int32) (k28 : Nat) (s28_0 : Nat → Int32) (zn : Nat) : F_X12_pairs_3_L28 po (zn + 1) k28 s28_0 = F_X12_pairs_3_L28 po zn (k28 + 1) (upd s28_0 k28 (po k28)) := rfl
def F_X12_pairs_3_L28_2 (po : Nat → Int32) : Nat → Nat → (Nat → Int32) → (Nat → Int32)
  | 0, k28, s28_0 => s28_0
  | zn + 1, k28, s28_0 => F_X12_pairs_3_L28_2 po zn (k28 + 1) (upd s28_0 k28 (po k28))
theorem F_X12_pairs_3_L28_2_z (po : Nat → Int32) (k28 : Nat) (s28_0 : Nat → Int32) : F_X12_pairs_3_L28_2 po 0 k28 s28_0 = s28_0 := rfl
theorem F_X12_pairs_3_L28_2_s (po : Nat → Int32) (k28 : Nat) (s28_0 : Nat → Int32) (zn : Nat) : F_X12_pairs_3_L28_2 po (zn + 1) k28 s28_0 = F_X12_pairs_3_L28_2 po zn (k28 + 1) (upd s28_0 k28 (po k28)) := rfl
def F_X12_pairs_3 (np : Nat) (lf : Nat) (al : Int32) (ap : Int32) (x65 : Int32) (zt : Nat → Int32) (po : Nat → Int32) (bp : Nat → Int32) : Int32 × (Nat → Int32) × (Nat → Int32) := (if (nI lf) = 0 then (if x65 < 0 then ((fun (v_11 : (Nat → Int32)) => (ap, po, v_11)) (F_X12_pairs_3_L28 po (6 - 0) 0 bp)) else (if ap < x65 then ((fun (v_14 : (Nat → Int32)) => (ap, po, v_14)) (F_X12_pairs_3_L28_2 po (6 - 0) 0 bp)) else (x65, po, bp))) else ((fun (v_2 : Nat) => ((fun (v_4 : Int32 × (Nat → Int32) × (Nat → Int32)) => (if al = 0 then (v_4.1, upd v_4.2.1 (tz6 lf) (-1), v_4.2.2) else ((fun (w_9 : Int32 × (Nat → Int32) × (Nat → Int32)) => (w_9.1, w_9.2.1, w_9.2.2)) (F_X12_pairs_2 np (lf - 2 ^ tz6 lf) 0 ap v_4.1 zt (upd v_4.2.1 (tz6 lf) (-1)) v_4.2.2)))) (F_X12_pairs_3_L80 np lf al ap zt (np - ((tz6 lf) + 1)) ((tz6 lf) + 1) x65 po bp))) (F_X12_pairs_3_L59 lf 7 0)))
set_option maxHeartbeats 4000000 in
set_option maxRecDepth 100000 in
theorem e_X12_pairs_3 (l : Launch) (np : Nat) (m : Nat) (lf : Nat) (al : Int32) (ap : Int32) (x0 : Int32) (x1 : Int32) (x2 : Nat) (x3 : Int32) (x4 : Int32) (x5 : Int32) (x6 : Int32) (x7 : Int64) (x8 : Int32) (x9 : Int32) (x10 : Nat) (x11 : Nat) (x12 : Nat) (x13 : Nat) (x14 : Nat) (x15 : Nat) (x16 : Nat) (x17 : Nat) (x18 : Nat) (x19 : Nat) (x20 : Nat) (x21 : Nat) (x22 : Nat) (x23 : Nat) (x24 : Nat) (x25 : Nat) (x26 : Int32) (x27 : Int32) (x28 : Nat) (x29 : Nat) (x30 : Nat) (x31 : Nat) (x32 : Nat) (x33 : Nat) (x34 : Nat) (x35 : Nat) (x36 : Nat) (x37 : Nat) (x38 : Nat) (x39 : Nat) (x40 : Int32) (x41 : Int64) (x42 : Nat) (x43 : Nat) (x44 : Nat) (x45 : Nat) (x46 : Nat) (x47 : Nat) (x48 : Nat) (x49 : Nat) (x50 : Nat) (x51 : Nat) (x52 : Nat) (x53 : Nat) (x54 : Int32) (x55 : Int32) (x56 : Int32) (x57 : Int32) (x58 : Nat) (x59 : Nat) (x60 : Nat) (x61 : Nat) (x62 : Int32) (x63 : Nat) (x64 : Nat) (x65 : Int32) (x66 : Int64) (ho : Nat → Int32) (zt : Nat → Int32) (po : Nat → Int32) (bp : Nat → Int32) (hho0 : ho 0 = nI np) (hnp : np ≤ 6) (hlf : lf < 64) (hln : lf < 2 ^ np) (hb : bits6 lf ≤ 3) : ex_M l yX12_pairs cX12_pairs 6 none 3 75 [ex_r m, ex_i (nI lf), ex_i al, ex_i ap] [(m, ex_o 12 [ex_i x0, ex_i x1, ex_r x2, ex_i x3, ex_i x4, ex_i x5, ex_i x6, ex_j x7, ex_i x8, ex_i x9, ex_r x10, ex_r x11, ex_r x12, ex_r x13, ex_r x14, ex_r x15, ex_r x16, ex_r x17, ex_r x18, ex_r x19, ex_r x20, ex_r x21, ex_r x22, ex_r x23, ex_r x24, ex_r x25, ex_i x26, ex_i x27, ex_r x28, ex_r x29, ex_r x30, ex_r x31, ex_r x32, ex_r x33, ex_r x34, ex_r x35, ex_r x36, ex_r x37, ex_r x38, ex_r x39, ex_i x40, ex_j x41, ex_r x42, ex_r x43, ex_r x44, ex_r x45, ex_r x46, ex_r x47, ex_r x48, ex_r x49, ex_r x50, ex_r x51, ex_r x52, ex_r x53, ex_i x54, ex_i x55, ex_i x56, ex_i x57, ex_r x58, ex_r x59, ex_r x60, ex_r x61, ex_i x62, ex_r x63, ex_r x64, ex_i x65, ex_j x66]), (x10, ex_a 1 10 ho), (x15, ex_a 1 12 zt), (x63, ex_a 1 6 po), (x64, ex_a 1 6 bp)] (fun zcs zr => zcs = [(m, ex_o 12 [ex_i x0, ex_i x1, ex_r x2, ex_i x3, ex_i x4, ex_i x5, ex_i x6, ex_j x7, ex_i x8, ex_i x9, ex_r x10, ex_r x11, ex_r x12, ex_r x13, ex_r x14, ex_r x15, ex_r x16, ex_r x17, ex_r x18, ex_r x19, ex_r x20, ex_r x21, ex_r x22, ex_r x23, ex_r x24, ex_r x25, ex_i x26, ex_i x27, ex_r x28, ex_r x29, ex_r x30, ex_r x31, ex_r x32, ex_r x33, ex_r x34, ex_r x35, ex_r x36, ex_r x37, ex_r x38, ex_r x39, ex_i x40, ex_j x41, ex_r x42, ex_r x43, ex_r x44, ex_r x45, ex_r x46, ex_r x47, ex_r x48, ex_r x49, ex_r x50, ex_r x51, ex_r x52, ex_r x53, ex_i x54, ex_i x55, ex_i x56, ex_i x57, ex_r x58, ex_r x59, ex_r x60, ex_r x61, ex_i x62, ex_r x63, ex_r x64, ex_i ((F_X12_pairs_3 np lf al ap x65 zt po bp).1), ex_j x66]), (x10, ex_a 1 10 ho), (x15, ex_a 1 12 zt), (x63, ex_a 1 6 ((F_X12_pairs_3 np lf al ap x65 zt po bp).2.1)), (x64, ex_a 1 6 ((F_X12_pairs_3 np lf al ap x65 zt po bp).2.2))] ∧ zr = none) := by
  refine X_meth (by decide) (Nat.le_of_ble_eq_true rfl) ?_
  generalize hV : F_X12_pairs_3 np lf al ap x65 zt po bp = V0
  have hV := hV.symm
  unfold F_X12_pairs_3 at hV
  try dsimp only at hV
  refine X_iload_n (j := 1) dX12_pairs_0 rfl rfl ?_
  refine X_if_ne (tgt := 56) dX12_pairs_1 (by decide) (fun c_1 => ?_) (fun c_1 => ?_)
  · have hV := hV.trans (if_neg c_1)
    have hl0 : ¬ lf = 0 := fun q => c_1 (by rw [q]; rfl)
    have htz : tz6 lf < 6 := tz_lt hlf hl0
    have hO : lf - 2 ^ tz6 lf < 64 := Nat.lt_of_le_of_lt (Nat.sub_le _ _) hlf
    have htn : tz6 lf < np := tz_np hlf hl0 hnp hln
    refine X_iconst (v := 0) dX12_pairs_56 (by decide) ?_
    refine X_istore (lv' := [(4, ex_i 0), (0, ex_r m), (1, ex_i (nI lf)), (2, ex_i al), (3, ex_i ap)]) dX12_pairs_57 (Nat.le_of_ble_eq_true rfl) rfl ?_
    -- loop at 59
    try dsimp only at hV
    generalize hq_v_2 : F_X12_pairs_3_L59 lf 7 0 = v_2 at hV
    try dsimp only at hV
    refine X_cut (P := (v_2 = tz6 lf)) (csE := [(m, ex_o 12 [ex_i x0, ex_i x1, ex_r x2, ex_i x3, ex_i x4, ex_i x5, ex_i x6, ex_j x7, ex_i x8, ex_i x9, ex_r x10, ex_r x11, ex_r x12, ex_r x13, ex_r x14, ex_r x15, ex_r x16, ex_r x17, ex_r x18, ex_r x19, ex_r x20, ex_r x21, ex_r x22, ex_r x23, ex_r x24, ex_r x25, ex_i x26, ex_i x27, ex_r x28, ex_r x29, ex_r x30, ex_r x31, ex_r x32, ex_r x33, ex_r x34, ex_r x35, ex_r x36, ex_r x37, ex_r x38, ex_r x39, ex_i x40, ex_j x41, ex_r x42, ex_r x43, ex_r x44, ex_r x45, ex_r x46, ex_r x47, ex_r x48, ex_r x49, ex_r x50, ex_r x51, ex_r x52, ex_r x53, ex_i x54, ex_i x55, ex_i x56, ex_i x57, ex_r x58, ex_r x59, ex_r x60, ex_r x61, ex_i x62, ex_r x63, ex_r x64, ex_i x65, ex_j x66]), (x10, ex_a 1 10 ho), (x15, ex_a 1 12 zt), (x63, ex_a 1 6 po), (x64, ex_a 1 6 bp)]) (lvE := [(4, ex_i (nI v_2)), (0, ex_r m), (1, ex_i (nI lf)), (2, ex_i al), (3, ex_i ap)]) (E := 74) (fun hrest59 => ?_) (fun hPX59 => ?_)
    · have hL59 := hq_v_2.symm
      refine X_ind (fun (a59 : Nat × Nat) => v_2 = F_X12_pairs_3_L59 lf a59.1 a59.2 ∧ (a59.2 ≤ tz6 lf ∧ 7 ≤ a59.1 + a59.2)) (fun (a59 : Nat × Nat) => a59.1) (fun (a59 : Nat × Nat) => [(m, ex_o 12 [ex_i x0, ex_i x1, ex_r x2, ex_i x3, ex_i x4, ex_i x5, ex_i x6, ex_j x7, ex_i x8, ex_i x9, ex_r x10, ex_r x11, ex_r x12, ex_r x13, ex_r x14, ex_r x15, ex_r x16, ex_r x17, ex_r x18, ex_r x19, ex_r x20, ex_r x21, ex_r x22, ex_r x23, ex_r x24, ex_r x25, ex_i x26, ex_i x27, ex_r x28, ex_r x29, ex_r x30, ex_r x31, ex_r x32, ex_r x33, ex_r x34, ex_r x35, ex_r x36, ex_r x37, ex_r x38, ex_r x39, ex_i x40, ex_j x41, ex_r x42, ex_r x43, ex_r x44, ex_r x45, ex_r x46, ex_r x47, ex_r x48, ex_r x49, ex_r x50, ex_r x51, ex_r x52, ex_r x53, ex_i x54, ex_i x55, ex_i x56, ex_i x57, ex_r x58, ex_r x59, ex_r x60, ex_r x61, ex_i x62, ex_r x63, ex_r x64, ex_i x65, ex_j x66]), (x10, ex_a 1 10 ho), (x15, ex_a 1 12 zt), (x63, ex_a 1 6 po), (x64, ex_a 1 6 bp)]) (fun (a59 : Nat × Nat) => [(4, ex_i (nI a59.2)), (0, ex_r m), (1, ex_i (nI lf)), (2, ex_i al), (3, ex_i ap)]) (fun ⟨zf59, p59⟩ hI59 ih59 => ?_) (7, 0) ⟨hL59, ⟨Nat.zero_le _, Nat.le_refl _⟩⟩
      try dsimp only at hI59 ih59 ⊢
      have ihc59 : ∀ (zf59_ : Nat) (p59_ : Nat), (v_2 = F_X12_pairs_3_L59 lf zf59_ p59_ ∧ (p59_ ≤ tz6 lf ∧ 7 ≤ zf59_ + p59_)) → zf59_ < zf59 → ex_O _ _ _ _ _ _ _ _ _ [(m, ex_o 12 [ex_i x0, ex_i x1, ex_r x2, ex_i x3, ex_i x4, ex_i x5, ex_i x6, ex_j x7, ex_i x8, ex_i x9, ex_r x10, ex_r x11, ex_r x12, ex_r x13, ex_r x14, ex_r x15, ex_r x16, ex_r x17, ex_r x18, ex_r x19, ex_r x20, ex_r x21, ex_r x22, ex_r x23, ex_r x24, ex_r x25, ex_i x26, ex_i x27, ex_r x28, ex_r x29, ex_r x30, ex_r x31, ex_r x32, ex_r x33, ex_r x34, ex_r x35, ex_r x36, ex_r x37, ex_r x38, ex_r x39, ex_i x40, ex_j x41, ex_r x42, ex_r x43, ex_r x44, ex_r x45, ex_r x46, ex_r x47, ex_r x48, ex_r x49, ex_r x50, ex_r x51, ex_r x52, ex_r x53, ex_i x54, ex_i x55, ex_i x56, ex_i x57, ex_r x58, ex_r x59, ex_r x60, ex_r x61, ex_i x62, ex_r x63, ex_r x64, ex_i x65, ex_j x66]), (x10, ex_a 1 10 ho), (x15, ex_a 1 12 zt), (x63, ex_a 1 6 po), (x64, ex_a 1 6 bp)] [(4, ex_i (nI p59_)), (0, ex_r m), (1, ex_i (nI lf)), (2, ex_i al), (3, ex_i ap)] _ _ := fun zf59_ p59_ hi_ hm_ => ih59 (zf59_, p59_) hi_ hm_
      have hL59 := hI59.1
      have hp59 := hI59.2
      obtain ⟨zn, rfl⟩ : ∃ zn, zf59 = zn + 1 := ex_ow (by have hz := hp59.1; have hy := hp59.2; omega)
      have hL59 := hL59.trans (F_X12_pairs_3_L59_s ..)
      refine X_iload_n (j := 2) dX12_pairs_59 rfl rfl ?_
      refine X_iload (j := 0) dX12_pairs_60 rfl ?_
      refine X_ishr (v := ((nI lf) >>> ((nI p59) &&& 31))) dX12_pairs_62 rfl ?_
      refine X_iconst (v := 1) dX12_pairs_63 (by decide) ?_
      refine X_iand (v := (((nI lf) >>> ((nI p59) &&& 31)) &&& 1)) dX12_pairs_64 rfl ?_
      refine X_if_ne (tgt := 74) dX12_pairs_65 (by decide) (fun c_3 => ?_) (fun c_3 => ?_)
      · have hL59 := hL59.trans (if_neg c_3)
        try dsimp only at hL59
        refine X_eq (cs' := [(m, ex_o 12 [ex_i x0, ex_i x1, ex_r x2, ex_i x3, ex_i x4, ex_i x5, ex_i x6, ex_j x7, ex_i x8, ex_i x9, ex_r x10, ex_r x11, ex_r x12, ex_r x13, ex_r x14, ex_r x15, ex_r x16, ex_r x17, ex_r x18, ex_r x19, ex_r x20, ex_r x21, ex_r x22, ex_r x23, ex_r x24, ex_r x25, ex_i x26, ex_i x27, ex_r x28, ex_r x29, ex_r x30, ex_r x31, ex_r x32, ex_r x33, ex_r x34, ex_r x35, ex_r x36, ex_r x37, ex_r x38, ex_r x39, ex_i x40, ex_j x41, ex_r x42, ex_r x43, ex_r x44, ex_r x45, ex_r x46, ex_r x47, ex_r x48, ex_r x49, ex_r x50, ex_r x51, ex_r x52, ex_r x53, ex_i x54, ex_i x55, ex_i x56, ex_i x57, ex_r x58, ex_r x59, ex_r x60, ex_r x61, ex_i x62, ex_r x63, ex_r x64, ex_i x65, ex_j x66]), (x10, ex_a 1 10 ho), (x15, ex_a 1 12 zt), (x63, ex_a 1 6 po), (x64, ex_a 1 6 bp)]) (lv' := [(4, ex_i (nI v_2)), (0, ex_r m), (1, ex_i (nI lf)), (2, ex_i al), (3, ex_i ap)]) (by subst hL59; rfl) (by subst hL59; rfl) ?_
        exact hrest59 (by subst hL59; exact tz_at hlf hl0 hp59.1 c_3)
      · have hL59 := hL59.trans (if_pos c_3)
        refine X_iinc (v := nI (p59 + 1)) (j := 0) (lv' := [(4, ex_i (nI (p59 + 1))), (0, ex_r m), (1, ex_i (nI lf)), (2, ex_i al), (3, ex_i ap)]) dX12_pairs_68 rfl (nI_add p59 1) (Nat.le_of_ble_eq_true rfl) rfl ?_
        refine X_goto (tgt := 59) dX12_pairs_71 (by decide) ?_
        try dsimp only at hL59
        exact ihc59 zn (p59 + 1) ⟨hL59, ⟨tz_go hlf hl0 hp59.1 c_3, by have hz := hp59.2; omega⟩⟩ (Nat.lt_succ_self _)
    have hp59_x := hPX59
    refine X_eq (cs' := [(m, ex_o 12 [ex_i x0, ex_i x1, ex_r x2, ex_i x3, ex_i x4, ex_i x5, ex_i x6, ex_j x7, ex_i x8, ex_i x9, ex_r x10, ex_r x11, ex_r x12, ex_r x13, ex_r x14, ex_r x15, ex_r x16, ex_r x17, ex_r x18, ex_r x19, ex_r x20, ex_r x21, ex_r x22, ex_r x23, ex_r x24, ex_r x25, ex_i x26, ex_i x27, ex_r x28, ex_r x29, ex_r x30, ex_r x31, ex_r x32, ex_r x33, ex_r x34, ex_r x35, ex_r x36, ex_r x37, ex_r x38, ex_r x39, ex_i x40, ex_j x41, ex_r x42, ex_r x43, ex_r x44, ex_r x45, ex_r x46, ex_r x47, ex_r x48, ex_r x49, ex_r x50, ex_r x51, ex_r x52, ex_r x53, ex_i x54, ex_i x55, ex_i x56, ex_i x57, ex_r x58, ex_r x59, ex_r x60, ex_r x61, ex_i x62, ex_r x63, ex_r x64, ex_i x65, ex_j x66]), (x10, ex_a 1 10 ho), (x15, ex_a 1 12 zt), (x63, ex_a 1 6 po), (x64, ex_a 1 6 bp)]) (lv' := [(4, ex_i (nI (tz6 lf))), (0, ex_r m), (1, ex_i (nI lf)), (2, ex_i al), (3, ex_i ap)]) rfl (by rw [hp59_x] <;> rfl) ?_
    refine X_iload (j := 0) dX12_pairs_74 rfl ?_
    refine X_iconst (v := 1) dX12_pairs_76 (by decide) ?_
    refine X_iadd (v := nI ((tz6 lf) + 1)) dX12_pairs_77 (nI_add (tz6 lf) 1) ?_
    refine X_istore (lv' := [(5, ex_i (nI ((tz6 lf) + 1))), (4, ex_i (nI (tz6 lf))), (0, ex_r m), (1, ex_i (nI lf)), (2, ex_i al), (3, ex_i ap)]) dX12_pairs_78 (Nat.le_of_ble_eq_true rfl) rfl ?_
    -- loop at 80
    try dsimp only at hV
    generalize hq_v_4 : F_X12_pairs_3_L80 np lf al ap zt (np - ((tz6 lf) + 1)) ((tz6 lf) + 1) x65 po bp = v_4 at hV
    try dsimp only at hV
    refine X_cut (P := True) (csE := [(m, ex_o 12 [ex_i x0, ex_i x1, ex_r x2, ex_i x3, ex_i x4, ex_i x5, ex_i x6, ex_j x7, ex_i x8, ex_i x9, ex_r x10, ex_r x11, ex_r x12, ex_r x13, ex_r x14, ex_r x15, ex_r x16, ex_r x17, ex_r x18, ex_r x19, ex_r x20, ex_r x21, ex_r x22, ex_r x23, ex_r x24, ex_r x25, ex_i x26, ex_i x27, ex_r x28, ex_r x29, ex_r x30, ex_r x31, ex_r x32, ex_r x33, ex_r x34, ex_r x35, ex_r x36, ex_r x37, ex_r x38, ex_r x39, ex_i x40, ex_j x41, ex_r x42, ex_r x43, ex_r x44, ex_r x45, ex_r x46, ex_r x47, ex_r x48, ex_r x49, ex_r x50, ex_r x51, ex_r x52, ex_r x53, ex_i x54, ex_i x55, ex_i x56, ex_i x57, ex_r x58, ex_r x59, ex_r x60, ex_r x61, ex_i x62, ex_r x63, ex_r x64, ex_i v_4.1, ex_j x66]), (x10, ex_a 1 10 ho), (x15, ex_a 1 12 zt), (x63, ex_a 1 6 v_4.2.1), (x64, ex_a 1 6 v_4.2.2)]) (lvE := [(4, ex_i (nI (tz6 lf))), (0, ex_r m), (1, ex_i (nI lf)), (2, ex_i al), (3, ex_i ap)]) (E := 166) (fun hrest80 => ?_) (fun hPX80 => ?_)
    · have hL80 := hq_v_4.symm
      refine X_ind (fun (a80 : Nat × Int32 × (Nat → Int32) × (Nat → Int32)) => v_4 = F_X12_pairs_3_L80 np lf al ap zt (np - a80.1) a80.1 a80.2.1 a80.2.2.1 a80.2.2.2 ∧ a80.1 ≤ np ∧ tz6 lf < a80.1) (fun (a80 : Nat × Int32 × (Nat → Int32) × (Nat → Int32)) => np - a80.1) (fun (a80 : Nat × Int32 × (Nat → Int32) × (Nat → Int32)) => [(m, ex_o 12 [ex_i x0, ex_i x1, ex_r x2, ex_i x3, ex_i x4, ex_i x5, ex_i x6, ex_j x7, ex_i x8, ex_i x9, ex_r x10, ex_r x11, ex_r x12, ex_r x13, ex_r x14, ex_r x15, ex_r x16, ex_r x17, ex_r x18, ex_r x19, ex_r x20, ex_r x21, ex_r x22, ex_r x23, ex_r x24, ex_r x25, ex_i x26, ex_i x27, ex_r x28, ex_r x29, ex_r x30, ex_r x31, ex_r x32, ex_r x33, ex_r x34, ex_r x35, ex_r x36, ex_r x37, ex_r x38, ex_r x39, ex_i x40, ex_j x41, ex_r x42, ex_r x43, ex_r x44, ex_r x45, ex_r x46, ex_r x47, ex_r x48, ex_r x49, ex_r x50, ex_r x51, ex_r x52, ex_r x53, ex_i x54, ex_i x55, ex_i x56, ex_i x57, ex_r x58, ex_r x59, ex_r x60, ex_r x61, ex_i x62, ex_r x63, ex_r x64, ex_i a80.2.1, ex_j x66]), (x10, ex_a 1 10 ho), (x15, ex_a 1 12 zt), (x63, ex_a 1 6 a80.2.2.1), (x64, ex_a 1 6 a80.2.2.2)]) (fun (a80 : Nat × Int32 × (Nat → Int32) × (Nat → Int32)) => [(5, ex_i (nI a80.1)), (4, ex_i (nI (tz6 lf))), (0, ex_r m), (1, ex_i (nI lf)), (2, ex_i al), (3, ex_i ap)]) (fun ⟨k80, s80_0, s80_1, s80_2⟩ hI80 ih80 => ?_) ((tz6 lf) + 1, x65, po, bp) ⟨hL80, (by omega), (Nat.lt_succ_self _)⟩
      try dsimp only at hI80 ih80 ⊢
      have ihc80 : ∀ (k80_ : Nat) (s80_0_ : Int32) (s80_1_ : Nat → Int32) (s80_2_ : Nat → Int32), (v_4 = F_X12_pairs_3_L80 np lf al ap zt (np - k80_) k80_ s80_0_ s80_1_ s80_2_ ∧ k80_ ≤ np ∧ tz6 lf < k80_) → (np - k80_) < (np - k80) → ex_O _ _ _ _ _ _ _ _ _ [(m, ex_o 12 [ex_i x0, ex_i x1, ex_r x2, ex_i x3, ex_i x4, ex_i x5, ex_i x6, ex_j x7, ex_i x8, ex_i x9, ex_r x10, ex_r x11, ex_r x12, ex_r x13, ex_r x14, ex_r x15, ex_r x16, ex_r x17, ex_r x18, ex_r x19, ex_r x20, ex_r x21, ex_r x22, ex_r x23, ex_r x24, ex_r x25, ex_i x26, ex_i x27, ex_r x28, ex_r x29, ex_r x30, ex_r x31, ex_r x32, ex_r x33, ex_r x34, ex_r x35, ex_r x36, ex_r x37, ex_r x38, ex_r x39, ex_i x40, ex_j x41, ex_r x42, ex_r x43, ex_r x44, ex_r x45, ex_r x46, ex_r x47, ex_r x48, ex_r x49, ex_r x50, ex_r x51, ex_r x52, ex_r x53, ex_i x54, ex_i x55, ex_i x56, ex_i x57, ex_r x58, ex_r x59, ex_r x60, ex_r x61, ex_i x62, ex_r x63, ex_r x64, ex_i s80_0_, ex_j x66]), (x10, ex_a 1 10 ho), (x15, ex_a 1 12 zt), (x63, ex_a 1 6 s80_1_), (x64, ex_a 1 6 s80_2_)] [(5, ex_i (nI k80_)), (4, ex_i (nI (tz6 lf))), (0, ex_r m), (1, ex_i (nI lf)), (2, ex_i al), (3, ex_i ap)] _ _ := fun k80_ s80_0_ s80_1_ s80_2_ hi_ hm_ => ih80 (k80_, s80_0_, s80_1_, s80_2_) hi_ hm_
      have hL80 := hI80.1
      have hb80 := hI80.2.1
      have hk80 := hI80.2.2
      refine X_iload (j := 0) dX12_pairs_80 rfl ?_
      refine X_aload_n (j := 2) dX12_pairs_82 rfl rfl ?_
      refine X_get (j := 0) fo_X12_13 dX12_pairs_83 rfl rfl ?_
      refine X_iconst (v := 0) dX12_pairs_86 (by decide) ?_
      refine X_iald (j := 1) (v := nI np) dX12_pairs_87 rfl (vin (by decide)) hho0 ?_
      refine X_icmp_ge (tgt := 166) dX12_pairs_88 (by decide) (fun c_5 => ?_) (fun c_5 => ?_)
      · have hlt80 : k80 = np := nlex (L := np) (by omega) hb80 c_5
        rw [show np - k80 = 0 by omega] at hL80
        have hL80 := hL80.trans (F_X12_pairs_3_L80_z ..)
        try dsimp only at hL80
        refine X_lv (lv' := [(4, ex_i (nI (tz6 lf))), (0, ex_r m), (1, ex_i (nI lf)), (2, ex_i al), (3, ex_i ap)]) [1, 2, 3, 4, 5] rfl ?_
        refine X_eq (cs' := [(m, ex_o 12 [ex_i x0, ex_i x1, ex_r x2, ex_i x3, ex_i x4, ex_i x5, ex_i x6, ex_j x7, ex_i x8, ex_i x9, ex_r x10, ex_r x11, ex_r x12, ex_r x13, ex_r x14, ex_r x15, ex_r x16, ex_r x17, ex_r x18, ex_r x19, ex_r x20, ex_r x21, ex_r x22, ex_r x23, ex_r x24, ex_r x25, ex_i x26, ex_i x27, ex_r x28, ex_r x29, ex_r x30, ex_r x31, ex_r x32, ex_r x33, ex_r x34, ex_r x35, ex_r x36, ex_r x37, ex_r x38, ex_r x39, ex_i x40, ex_j x41, ex_r x42, ex_r x43, ex_r x44, ex_r x45, ex_r x46, ex_r x47, ex_r x48, ex_r x49, ex_r x50, ex_r x51, ex_r x52, ex_r x53, ex_i x54, ex_i x55, ex_i x56, ex_i x57, ex_r x58, ex_r x59, ex_r x60, ex_r x61, ex_i x62, ex_r x63, ex_r x64, ex_i v_4.1, ex_j x66]), (x10, ex_a 1 10 ho), (x15, ex_a 1 12 zt), (x63, ex_a 1 6 v_4.2.1), (x64, ex_a 1 6 v_4.2.2)]) (lv' := [(4, ex_i (nI (tz6 lf))), (0, ex_r m), (1, ex_i (nI lf)), (2, ex_i al), (3, ex_i ap)]) (by subst hL80; rfl) (by subst hL80; rfl) ?_
        exact hrest80 trivial
      · have hlt80 : k80 < np := nlen (L := np) (by omega) hb80 c_5
        rw [show np - k80 = (np - (k80 + 1)) + 1 by omega] at hL80
        have hL80 := hL80.trans (F_X12_pairs_3_L80_s ..)
        refine X_iload_n (j := 3) dX12_pairs_91 rfl rfl ?_
        refine X_iload (j := 0) dX12_pairs_92 rfl ?_
        refine X_ishr (v := ((nI lf) >>> ((nI k80) &&& 31))) dX12_pairs_94 rfl ?_
        refine X_iconst (v := 1) dX12_pairs_95 (by decide) ?_
        refine X_iand (v := (((nI lf) >>> ((nI k80) &&& 31)) &&& 1)) dX12_pairs_96 rfl ?_
        refine X_if_ne (tgt := 103) dX12_pairs_97 (by decide) (fun c_6 => ?_) (fun c_6 => ?_)
        · have hL80 := hL80.trans (if_neg c_6)
          refine X_aload_n (j := 2) dX12_pairs_103 rfl rfl ?_
          refine X_get (j := 0) fo_X12_147 dX12_pairs_104 rfl rfl ?_
          refine X_iload (j := 1) dX12_pairs_107 rfl ?_
          refine X_iload (j := 0) dX12_pairs_109 rfl ?_
          refine X_iast (j := 3) (g := upd s80_1 (tz6 lf) (nI k80)) (cs' := [(m, ex_o 12 [ex_i x0, ex_i x1, ex_r x2, ex_i x3, ex_i x4, ex_i x5, ex_i x6, ex_j x7, ex_i x8, ex_i x9, ex_r x10, ex_r x11, ex_r x12, ex_r x13, ex_r x14, ex_r x15, ex_r x16, ex_r x17, ex_r x18, ex_r x19, ex_r x20, ex_r x21, ex_r x22, ex_r x23, ex_r x24, ex_r x25, ex_i x26, ex_i x27, ex_r x28, ex_r x29, ex_r x30, ex_r x31, ex_r x32, ex_r x33, ex_r x34, ex_r x35, ex_r x36, ex_r x37, ex_r x38, ex_r x39, ex_i x40, ex_j x41, ex_r x42, ex_r x43, ex_r x44, ex_r x45, ex_r x46, ex_r x47, ex_r x48, ex_r x49, ex_r x50, ex_r x51, ex_r x52, ex_r x53, ex_i x54, ex_i x55, ex_i x56, ex_i x57, ex_r x58, ex_r x59, ex_r x60, ex_r x61, ex_i x62, ex_r x63, ex_r x64, ex_i s80_0, ex_j x66]), (x10, ex_a 1 10 ho), (x15, ex_a 1 12 zt), (x63, ex_a 1 6 (upd s80_1 (tz6 lf) (nI k80))), (x64, ex_a 1 6 s80_2)]) dX12_pairs_111 rfl (vp_in_nI (show tz6 lf < 6 by omega) (by decide)) (by rw [nI_clamp (by omega)]) rfl ?_
          refine X_aload_n (j := 2) dX12_pairs_112 rfl rfl ?_
          refine X_get (j := 0) fo_X12_147 dX12_pairs_113 rfl rfl ?_
          refine X_iload (j := 0) dX12_pairs_116 rfl ?_
          refine X_iload (j := 1) dX12_pairs_118 rfl ?_
          refine X_iast (j := 3) (g := upd (upd s80_1 (tz6 lf) (nI k80)) k80 (nI (tz6 lf))) (cs' := [(m, ex_o 12 [ex_i x0, ex_i x1, ex_r x2, ex_i x3, ex_i x4, ex_i x5, ex_i x6, ex_j x7, ex_i x8, ex_i x9, ex_r x10, ex_r x11, ex_r x12, ex_r x13, ex_r x14, ex_r x15, ex_r x16, ex_r x17, ex_r x18, ex_r x19, ex_r x20, ex_r x21, ex_r x22, ex_r x23, ex_r x24, ex_r x25, ex_i x26, ex_i x27, ex_r x28, ex_r x29, ex_r x30, ex_r x31, ex_r x32, ex_r x33, ex_r x34, ex_r x35, ex_r x36, ex_r x37, ex_r x38, ex_r x39, ex_i x40, ex_j x41, ex_r x42, ex_r x43, ex_r x44, ex_r x45, ex_r x46, ex_r x47, ex_r x48, ex_r x49, ex_r x50, ex_r x51, ex_r x52, ex_r x53, ex_i x54, ex_i x55, ex_i x56, ex_i x57, ex_r x58, ex_r x59, ex_r x60, ex_r x61, ex_i x62, ex_r x63, ex_r x64, ex_i s80_0, ex_j x66]), (x10, ex_a 1 10 ho), (x15, ex_a 1 12 zt), (x63, ex_a 1 6 (upd (upd s80_1 (tz6 lf) (nI k80)) k80 (nI (tz6 lf)))), (x64, ex_a 1 6 s80_2)]) dX12_pairs_120 rfl (vp_in_nI (show k80 < 6 by omega) (by decide)) (by rw [nI_clamp (by omega)]) rfl ?_
          refine X_aload_n (j := 2) dX12_pairs_121 rfl rfl ?_
          refine X_iload_n (j := 3) dX12_pairs_122 rfl rfl ?_
          refine X_iconst (v := 1) dX12_pairs_123 (by decide) ?_
          refine X_iload (j := 1) dX12_pairs_124 rfl ?_
          refine X_ishl (v := (1 <<< ((nI (tz6 lf)) &&& 31))) dX12_pairs_126 rfl ?_
          refine X_iconst (v := (-1)) dX12_pairs_127 (by decide) ?_
          refine X_ixor (v := ((1 <<< ((nI (tz6 lf)) &&& 31)) ^^^ (-1))) dX12_pairs_128 rfl ?_
          refine X_iand (v := nI (lf - 2 ^ tz6 lf)) dX12_pairs_129 (an_tz hlf hl0) ?_
          refine X_iconst (v := 1) dX12_pairs_130 (by decide) ?_
          refine X_iload (j := 0) dX12_pairs_131 rfl ?_
          refine X_ishl (v := (1 <<< ((nI k80) &&& 31))) dX12_pairs_133 rfl ?_
          refine X_iconst (v := (-1)) dX12_pairs_134 (by decide) ?_
          refine X_ixor (v := ((1 <<< ((nI k80) &&& 31)) ^^^ (-1))) dX12_pairs_135 rfl ?_
          refine X_iand (v := nI ((lf - 2 ^ tz6 lf) - 2 ^ k80)) dX12_pairs_136 (an_bit hO (by omega) (bitO lf hlf hl0 k80 (by omega) hk80 c_6)) ?_
          refine X_iload_n (j := 4) dX12_pairs_137 rfl rfl ?_
          refine X_iload_n (j := 5) dX12_pairs_138 rfl rfl ?_
          refine X_aload_n (j := 2) dX12_pairs_139 rfl rfl ?_
          refine X_get (j := 0) fo_X12_29 dX12_pairs_140 rfl rfl ?_
          refine X_iload (j := 1) dX12_pairs_143 rfl ?_
          refine X_iald (j := 2) (v := (zt (tz6 lf))) dX12_pairs_145 rfl (vp_in_nI (show tz6 lf < 12 by omega) (by decide)) (by rw [nI_clamp (by omega)]) ?_
          refine X_aload_n (j := 2) dX12_pairs_146 rfl rfl ?_
          refine X_get (j := 0) fo_X12_29 dX12_pairs_147 rfl rfl ?_
          refine X_iload (j := 0) dX12_pairs_150 rfl ?_
          refine X_iald (j := 2) (v := (zt k80)) dX12_pairs_152 rfl (vp_in_nI (show k80 < 12 by omega) (by decide)) (by rw [nI_clamp (by omega)]) ?_
          refine X_callS (rest := [(m, ex_o 12 [ex_i x0, ex_i x1, ex_r x2, ex_i x3, ex_i x4, ex_i x5, ex_i x6, ex_j x7, ex_i x8, ex_i x9, ex_r x10, ex_r x11, ex_r x12, ex_r x13, ex_r x14, ex_r x15, ex_r x16, ex_r x17, ex_r x18, ex_r x19, ex_r x20, ex_r x21, ex_r x22, ex_r x23, ex_r x24, ex_r x25, ex_i x26, ex_i x27, ex_r x28, ex_r x29, ex_r x30, ex_r x31, ex_r x32, ex_r x33, ex_r x34, ex_r x35, ex_r x36, ex_r x37, ex_r x38, ex_r x39, ex_i x40, ex_j x41, ex_r x42, ex_r x43, ex_r x44, ex_r x45, ex_r x46, ex_r x47, ex_r x48, ex_r x49, ex_r x50, ex_r x51, ex_r x52, ex_r x53, ex_i x54, ex_i x55, ex_i x56, ex_i x57, ex_r x58, ex_r x59, ex_r x60, ex_r x61, ex_i x62, ex_r x63, ex_r x64, ex_i s80_0, ex_j x66]), (x10, ex_a 1 10 ho), (x15, ex_a 1 12 zt), (x63, ex_a 1 6 (upd (upd s80_1 (tz6 lf) (nI k80)) k80 (nI (tz6 lf)))), (x64, ex_a 1 6 s80_2)]) (stk := [ex_i ap, ex_i al, ex_i (nI ((lf - 2 ^ tz6 lf) - 2 ^ k80)), ex_r m]) co_X12_402 rfl ⟨(Nat.le_of_ble_eq_true rfl), (Nat.le_of_ble_eq_true rfl)⟩ (e_X12_away l (zt (tz6 lf)) (zt k80)) dX12_pairs_153 [0, 1, 2, 3, 4] (show List.Perm [0, 1, 2, 3, 4] (List.range 5) from by decide) rfl rfl rfl (Nat.le_of_ble_eq_true rfl) (fun zc1 zr hq hk => ?_)
          obtain ⟨rfl, rfl⟩ := hq
          refine X_iadd (v := (ap + (F_X12_away (zt (tz6 lf)) (zt k80)))) dX12_pairs_156 rfl ?_
          refine X_callV (j0 := 0) (rest := []) (stk := []) co_X12_512 rfl ⟨(Nat.le_of_ble_eq_true rfl), (Nat.le_of_ble_eq_true rfl)⟩ (e_X12_pairs_2 l np m ((lf - 2 ^ tz6 lf) - 2 ^ k80) al (ap + (F_X12_away (zt (tz6 lf)) (zt k80))) x0 x1 x2 x3 x4 x5 x6 x7 x8 x9 x10 x11 x12 x13 x14 x15 x16 x17 x18 x19 x20 x21 x22 x23 x24 x25 x26 x27 x28 x29 x30 x31 x32 x33 x34 x35 x36 x37 x38 x39 x40 x41 x42 x43 x44 x45 x46 x47 x48 x49 x50 x51 x52 x53 x54 x55 x56 x57 x58 x59 x60 x61 x62 x63 x64 s80_0 x66 ho zt (upd (upd s80_1 (tz6 lf) (nI k80)) k80 (nI (tz6 lf))) s80_2 (by first | assumption | omega) (by first | assumption | omega) (Nat.lt_of_le_of_lt (Nat.sub_le _ _) hO) (Nat.lt_of_le_of_lt (Nat.le_trans (Nat.sub_le _ _) (Nat.sub_le _ _)) hln) (bi_bit hO (by omega) (bitO lf hlf hl0 k80 (by omega) hk80 c_6) (bi_tz hlf hl0 hb))) dX12_pairs_157 [0, 1, 2, 3, 4] (show List.Perm [0, 1, 2, 3, 4] (List.range 5) from by decide) rfl rfl rfl rfl (Nat.le_of_ble_eq_true rfl) (fun zc1 zr hq hk => ?_)
          obtain ⟨rfl, rfl⟩ := hq
          try dsimp only at hL80
          generalize hq_w_7 : F_X12_pairs_2 np ((lf - 2 ^ tz6 lf) - 2 ^ k80) al (ap + (F_X12_away (zt (tz6 lf)) (zt k80))) s80_0 zt (upd (upd s80_1 (tz6 lf) (nI k80)) k80 (nI (tz6 lf))) s80_2 = w_7 at hL80 ⊢
          try dsimp only at hL80
          refine X_iinc (v := nI (k80 + 1)) (j := 0) (lv' := [(5, ex_i (nI (k80 + 1))), (4, ex_i (nI (tz6 lf))), (0, ex_r m), (1, ex_i (nI lf)), (2, ex_i al), (3, ex_i ap)]) dX12_pairs_160 rfl (nI_add k80 1) (Nat.le_of_ble_eq_true rfl) rfl ?_
          refine X_goto (tgt := 80) dX12_pairs_163 (by decide) ?_
          try dsimp only at hL80
          exact ihc80 (k80 + 1) w_7.1 w_7.2.1 w_7.2.2 ⟨hL80, (show (k80 + 1) ≤ np by omega), (show tz6 lf < (k80 + 1) by omega)⟩ (show np - (k80 + 1) < np - k80 by omega)
        · have hL80 := hL80.trans (if_pos c_6)
          refine X_goto (tgt := 160) dX12_pairs_100 (by decide) ?_
          refine X_iinc (v := nI (k80 + 1)) (j := 0) (lv' := [(5, ex_i (nI (k80 + 1))), (4, ex_i (nI (tz6 lf))), (0, ex_r m), (1, ex_i (nI lf)), (2, ex_i al), (3, ex_i ap)]) dX12_pairs_160 rfl (nI_add k80 1) (Nat.le_of_ble_eq_true rfl) rfl ?_
          refine X_goto (tgt := 80) dX12_pairs_163 (by decide) ?_
          try dsimp only at hL80
          exact ihc80 (k80 + 1) s80_0 s80_1 s80_2 ⟨hL80, (show (k80 + 1) ≤ np by omega), (show tz6 lf < (k80 + 1) by omega)⟩ (show np - (k80 + 1) < np - k80 by omega)
    refine X_aload_n (j := 1) dX12_pairs_166 rfl rfl ?_
    refine X_get (j := 0) fo_X12_147 dX12_pairs_167 rfl rfl ?_
    refine X_iload (j := 0) dX12_pairs_170 rfl ?_
    refine X_iconst (v := (-1)) dX12_pairs_172 (by decide) ?_
    refine X_iast (j := 3) (g := upd v_4.2.1 (tz6 lf) (-1)) (cs' := [(m, ex_o 12 [ex_i x0, ex_i x1, ex_r x2, ex_i x3, ex_i x4, ex_i x5, ex_i x6, ex_j x7, ex_i x8, ex_i x9, ex_r x10, ex_r x11, ex_r x12, ex_r x13, ex_r x14, ex_r x15, ex_r x16, ex_r x17, ex_r x18, ex_r x19, ex_r x20, ex_r x21, ex_r x22, ex_r x23, ex_r x24, ex_r x25, ex_i x26, ex_i x27, ex_r x28, ex_r x29, ex_r x30, ex_r x31, ex_r x32, ex_r x33, ex_r x34, ex_r x35, ex_r x36, ex_r x37, ex_r x38, ex_r x39, ex_i x40, ex_j x41, ex_r x42, ex_r x43, ex_r x44, ex_r x45, ex_r x46, ex_r x47, ex_r x48, ex_r x49, ex_r x50, ex_r x51, ex_r x52, ex_r x53, ex_i x54, ex_i x55, ex_i x56, ex_i x57, ex_r x58, ex_r x59, ex_r x60, ex_r x61, ex_i x62, ex_r x63, ex_r x64, ex_i v_4.1, ex_j x66]), (x10, ex_a 1 10 ho), (x15, ex_a 1 12 zt), (x63, ex_a 1 6 (upd v_4.2.1 (tz6 lf) (-1))), (x64, ex_a 1 6 v_4.2.2)]) dX12_pairs_173 rfl (vp_in_nI (show tz6 lf < 6 by omega) (by decide)) (by rw [nI_clamp (by omega)]) rfl ?_
    refine X_iload_n (j := 3) dX12_pairs_174 rfl rfl ?_
    refine X_if_eq (tgt := 192) dX12_pairs_175 (by decide) (fun c_8 => ?_) (fun c_8 => ?_)
    · have hV := hV.trans (if_pos c_8)
      try dsimp only at hV
      exact X_vret dX12_pairs_192 (by (repeat refine ex_kc ?_) <;> rfl) (by subst hV; exact ⟨rfl, rfl⟩)
    · have hV := hV.trans (if_neg c_8)
      refine X_aload_n (j := 1) dX12_pairs_178 rfl rfl ?_
      refine X_iload_n (j := 2) dX12_pairs_179 rfl rfl ?_
      refine X_iconst (v := 1) dX12_pairs_180 (by decide) ?_
      refine X_iload (j := 0) dX12_pairs_181 rfl ?_
      refine X_ishl (v := (1 <<< ((nI (tz6 lf)) &&& 31))) dX12_pairs_183 rfl ?_
      refine X_iconst (v := (-1)) dX12_pairs_184 (by decide) ?_
      refine X_ixor (v := ((1 <<< ((nI (tz6 lf)) &&& 31)) ^^^ (-1))) dX12_pairs_185 rfl ?_
      refine X_iand (v := nI (lf - 2 ^ tz6 lf)) dX12_pairs_186 (an_tz hlf hl0) ?_
      refine X_iconst (v := 0) dX12_pairs_187 (by decide) ?_
      refine X_iload_n (j := 4) dX12_pairs_188 rfl rfl ?_
      refine X_callV (j0 := 0) (rest := []) (stk := []) co_X12_512 rfl ⟨(Nat.le_of_ble_eq_true rfl), (Nat.le_of_ble_eq_true rfl)⟩ (e_X12_pairs_2 l np m (lf - 2 ^ tz6 lf) 0 ap x0 x1 x2 x3 x4 x5 x6 x7 x8 x9 x10 x11 x12 x13 x14 x15 x16 x17 x18 x19 x20 x21 x22 x23 x24 x25 x26 x27 x28 x29 x30 x31 x32 x33 x34 x35 x36 x37 x38 x39 x40 x41 x42 x43 x44 x45 x46 x47 x48 x49 x50 x51 x52 x53 x54 x55 x56 x57 x58 x59 x60 x61 x62 x63 x64 v_4.1 x66 ho zt (upd v_4.2.1 (tz6 lf) (-1)) v_4.2.2 (by first | assumption | omega) (by first | assumption | omega) hO (Nat.lt_of_le_of_lt (Nat.sub_le _ _) hln) (bi_tz hlf hl0 hb)) dX12_pairs_189 [0, 1, 2, 3, 4] (show List.Perm [0, 1, 2, 3, 4] (List.range 5) from by decide) rfl rfl rfl rfl (Nat.le_of_ble_eq_true rfl) (fun zc1 zr hq hk => ?_)
      obtain ⟨rfl, rfl⟩ := hq
      try dsimp only at hV
      generalize hq_w_9 : F_X12_pairs_2 np (lf - 2 ^ tz6 lf) 0 ap v_4.1 zt (upd v_4.2.1 (tz6 lf) (-1)) v_4.2.2 = w_9 at hV ⊢
      try dsimp only at hV
      try dsimp only at hV
      exact X_vret dX12_pairs_192 (by (repeat refine ex_kc ?_) <;> rfl) (by subst hV; exact ⟨rfl, rfl⟩)
  · have hV := hV.trans (if_pos c_1)
    refine X_aload_n (j := 0) dX12_pairs_4 rfl rfl ?_
    refine X_get (j := 0) fo_X12_509 dX12_pairs_5 rfl rfl ?_
    refine X_if_lt (tgt := 20) dX12_pairs_8 (by decide) (fun c_10 => ?_) (fun c_10 => ?_)
    · have hV := hV.trans (if_pos c_10)
      refine X_aload_n (j := 0) dX12_pairs_20 rfl rfl ?_
      refine X_iload_n (j := 3) dX12_pairs_21 rfl rfl ?_
      refine X_put (j := 0) (cs' := [(m, ex_o 12 [ex_i x0, ex_i x1, ex_r x2, ex_i x3, ex_i x4, ex_i x5, ex_i x6, ex_j x7, ex_i x8, ex_i x9, ex_r x10, ex_r x11, ex_r x12, ex_r x13, ex_r x14, ex_r x15, ex_r x16, ex_r x17, ex_r x18, ex_r x19, ex_r x20, ex_r x21, ex_r x22, ex_r x23, ex_r x24, ex_r x25, ex_i x26, ex_i x27, ex_r x28, ex_r x29, ex_r x30, ex_r x31, ex_r x32, ex_r x33, ex_r x34, ex_r x35, ex_r x36, ex_r x37, ex_r x38, ex_r x39, ex_i x40, ex_j x41, ex_r x42, ex_r x43, ex_r x44, ex_r x45, ex_r x46, ex_r x47, ex_r x48, ex_r x49, ex_r x50, ex_r x51, ex_r x52, ex_r x53, ex_i x54, ex_i x55, ex_i x56, ex_i x57, ex_r x58, ex_r x59, ex_r x60, ex_r x61, ex_i x62, ex_r x63, ex_r x64, ex_i ap, ex_j x66]), (x10, ex_a 1 10 ho), (x15, ex_a 1 12 zt), (x63, ex_a 1 6 po), (x64, ex_a 1 6 bp)]) fo_X12_509 (by decide) dX12_pairs_22 rfl (Nat.le_of_ble_eq_true rfl) trivial rfl ?_
      refine X_iconst (v := 0) dX12_pairs_25 (by decide) ?_
      refine X_istore (lv' := [(4, ex_i 0), (0, ex_r m), (1, ex_i (nI lf)), (2, ex_i al), (3, ex_i ap)]) dX12_pairs_26 (Nat.le_of_ble_eq_true rfl) rfl ?_
      -- loop at 28
      try dsimp only at hV
      generalize hq_v_11 : F_X12_pairs_3_L28 po (6 - 0) 0 bp = v_11 at hV
      try dsimp only at hV
      refine X_cut (P := True) (csE := [(m, ex_o 12 [ex_i x0, ex_i x1, ex_r x2, ex_i x3, ex_i x4, ex_i x5, ex_i x6, ex_j x7, ex_i x8, ex_i x9, ex_r x10, ex_r x11, ex_r x12, ex_r x13, ex_r x14, ex_r x15, ex_r x16, ex_r x17, ex_r x18, ex_r x19, ex_r x20, ex_r x21, ex_r x22, ex_r x23, ex_r x24, ex_r x25, ex_i x26, ex_i x27, ex_r x28, ex_r x29, ex_r x30, ex_r x31, ex_r x32, ex_r x33, ex_r x34, ex_r x35, ex_r x36, ex_r x37, ex_r x38, ex_r x39, ex_i x40, ex_j x41, ex_r x42, ex_r x43, ex_r x44, ex_r x45, ex_r x46, ex_r x47, ex_r x48, ex_r x49, ex_r x50, ex_r x51, ex_r x52, ex_r x53, ex_i x54, ex_i x55, ex_i x56, ex_i x57, ex_r x58, ex_r x59, ex_r x60, ex_r x61, ex_i x62, ex_r x63, ex_r x64, ex_i ap, ex_j x66]), (x10, ex_a 1 10 ho), (x15, ex_a 1 12 zt), (x63, ex_a 1 6 po), (x64, ex_a 1 6 v_11)]) (lvE := [(0, ex_r m), (1, ex_i (nI lf)), (2, ex_i al), (3, ex_i ap)]) (E := 55) (fun hrest28 => ?_) (fun hPX28 => ?_)
      · have hL28 := hq_v_11.symm
        refine X_ind (fun (a28 : Nat × (Nat → Int32)) => v_11 = F_X12_pairs_3_L28 po (6 - a28.1) a28.1 a28.2 ∧ a28.1 ≤ 6) (fun (a28 : Nat × (Nat → Int32)) => 6 - a28.1) (fun (a28 : Nat × (Nat → Int32)) => [(m, ex_o 12 [ex_i x0, ex_i x1, ex_r x2, ex_i x3, ex_i x4, ex_i x5, ex_i x6, ex_j x7, ex_i x8, ex_i x9, ex_r x10, ex_r x11, ex_r x12, ex_r x13, ex_r x14, ex_r x15, ex_r x16, ex_r x17, ex_r x18, ex_r x19, ex_r x20, ex_r x21, ex_r x22, ex_r x23, ex_r x24, ex_r x25, ex_i x26, ex_i x27, ex_r x28, ex_r x29, ex_r x30, ex_r x31, ex_r x32, ex_r x33, ex_r x34, ex_r x35, ex_r x36, ex_r x37, ex_r x38, ex_r x39, ex_i x40, ex_j x41, ex_r x42, ex_r x43, ex_r x44, ex_r x45, ex_r x46, ex_r x47, ex_r x48, ex_r x49, ex_r x50, ex_r x51, ex_r x52, ex_r x53, ex_i x54, ex_i x55, ex_i x56, ex_i x57, ex_r x58, ex_r x59, ex_r x60, ex_r x61, ex_i x62, ex_r x63, ex_r x64, ex_i ap, ex_j x66]), (x10, ex_a 1 10 ho), (x15, ex_a 1 12 zt), (x63, ex_a 1 6 po), (x64, ex_a 1 6 a28.2)]) (fun (a28 : Nat × (Nat → Int32)) => [(4, ex_i (nI a28.1)), (0, ex_r m), (1, ex_i (nI lf)), (2, ex_i al), (3, ex_i ap)]) (fun ⟨k28, s28_0⟩ hI28 ih28 => ?_) (0, bp) ⟨hL28, (by omega)⟩
        try dsimp only at hI28 ih28 ⊢
        have ihc28 : ∀ (k28_ : Nat) (s28_0_ : Nat → Int32), (v_11 = F_X12_pairs_3_L28 po (6 - k28_) k28_ s28_0_ ∧ k28_ ≤ 6) → (6 - k28_) < (6 - k28) → ex_O _ _ _ _ _ _ _ _ _ [(m, ex_o 12 [ex_i x0, ex_i x1, ex_r x2, ex_i x3, ex_i x4, ex_i x5, ex_i x6, ex_j x7, ex_i x8, ex_i x9, ex_r x10, ex_r x11, ex_r x12, ex_r x13, ex_r x14, ex_r x15, ex_r x16, ex_r x17, ex_r x18, ex_r x19, ex_r x20, ex_r x21, ex_r x22, ex_r x23, ex_r x24, ex_r x25, ex_i x26, ex_i x27, ex_r x28, ex_r x29, ex_r x30, ex_r x31, ex_r x32, ex_r x33, ex_r x34, ex_r x35, ex_r x36, ex_r x37, ex_r x38, ex_r x39, ex_i x40, ex_j x41, ex_r x42, ex_r x43, ex_r x44, ex_r x45, ex_r x46, ex_r x47, ex_r x48, ex_r x49, ex_r x50, ex_r x51, ex_r x52, ex_r x53, ex_i x54, ex_i x55, ex_i x56, ex_i x57, ex_r x58, ex_r x59, ex_r x60, ex_r x61, ex_i x62, ex_r x63, ex_r x64, ex_i ap, ex_j x66]), (x10, ex_a 1 10 ho), (x15, ex_a 1 12 zt), (x63, ex_a 1 6 po), (x64, ex_a 1 6 s28_0_)] [(4, ex_i (nI k28_)), (0, ex_r m), (1, ex_i (nI lf)), (2, ex_i al), (3, ex_i ap)] _ _ := fun k28_ s28_0_ hi_ hm_ => ih28 (k28_, s28_0_) hi_ hm_
        have hL28 := hI28.1
        have hb28 := hI28.2
        refine X_iload (j := 0) dX12_pairs_28 rfl ?_
        refine X_bipush (v := 6) dX12_pairs_30 (by decide) ?_
        refine X_icmp_ge (tgt := 55) dX12_pairs_32 (by decide) (fun c_12 => ?_) (fun c_12 => ?_)
        · have hlt28 : k28 = 6 := nlex (L := 6) (by omega) hb28 c_12
          rw [show 6 - k28 = 0 by omega] at hL28
          have hL28 := hL28.trans (F_X12_pairs_3_L28_z ..)
          try dsimp only at hL28
          refine X_lv (lv' := [(0, ex_r m), (1, ex_i (nI lf)), (2, ex_i al), (3, ex_i ap)]) [1, 2, 3, 4] rfl ?_
          refine X_eq (cs' := [(m, ex_o 12 [ex_i x0, ex_i x1, ex_r x2, ex_i x3, ex_i x4, ex_i x5, ex_i x6, ex_j x7, ex_i x8, ex_i x9, ex_r x10, ex_r x11, ex_r x12, ex_r x13, ex_r x14, ex_r x15, ex_r x16, ex_r x17, ex_r x18, ex_r x19, ex_r x20, ex_r x21, ex_r x22, ex_r x23, ex_r x24, ex_r x25, ex_i x26, ex_i x27, ex_r x28, ex_r x29, ex_r x30, ex_r x31, ex_r x32, ex_r x33, ex_r x34, ex_r x35, ex_r x36, ex_r x37, ex_r x38, ex_r x39, ex_i x40, ex_j x41, ex_r x42, ex_r x43, ex_r x44, ex_r x45, ex_r x46, ex_r x47, ex_r x48, ex_r x49, ex_r x50, ex_r x51, ex_r x52, ex_r x53, ex_i x54, ex_i x55, ex_i x56, ex_i x57, ex_r x58, ex_r x59, ex_r x60, ex_r x61, ex_i x62, ex_r x63, ex_r x64, ex_i ap, ex_j x66]), (x10, ex_a 1 10 ho), (x15, ex_a 1 12 zt), (x63, ex_a 1 6 po), (x64, ex_a 1 6 v_11)]) (lv' := [(0, ex_r m), (1, ex_i (nI lf)), (2, ex_i al), (3, ex_i ap)]) (by subst hL28; rfl) (by subst hL28; rfl) ?_
          exact hrest28 trivial
        · have hlt28 : k28 < 6 := nlen (L := 6) (by omega) hb28 c_12
          rw [show 6 - k28 = (6 - (k28 + 1)) + 1 by omega] at hL28
          have hL28 := hL28.trans (F_X12_pairs_3_L28_s ..)
          refine X_aload_n (j := 1) dX12_pairs_35 rfl rfl ?_
          refine X_get (j := 0) fo_X12_150 dX12_pairs_36 rfl rfl ?_
          refine X_iload (j := 0) dX12_pairs_39 rfl ?_
          refine X_aload_n (j := 1) dX12_pairs_41 rfl rfl ?_
          refine X_get (j := 0) fo_X12_147 dX12_pairs_42 rfl rfl ?_
          refine X_iload (j := 0) dX12_pairs_45 rfl ?_
          refine X_iald (j := 3) (v := (po k28)) dX12_pairs_47 rfl (vp_in_nI (show k28 < 6 by omega) (by decide)) (by rw [nI_clamp (by omega)]) ?_
          refine X_iast (j := 4) (g := upd s28_0 k28 (po k28)) (cs' := [(m, ex_o 12 [ex_i x0, ex_i x1, ex_r x2, ex_i x3, ex_i x4, ex_i x5, ex_i x6, ex_j x7, ex_i x8, ex_i x9, ex_r x10, ex_r x11, ex_r x12, ex_r x13, ex_r x14, ex_r x15, ex_r x16, ex_r x17, ex_r x18, ex_r x19, ex_r x20, ex_r x21, ex_r x22, ex_r x23, ex_r x24, ex_r x25, ex_i x26, ex_i x27, ex_r x28, ex_r x29, ex_r x30, ex_r x31, ex_r x32, ex_r x33, ex_r x34, ex_r x35, ex_r x36, ex_r x37, ex_r x38, ex_r x39, ex_i x40, ex_j x41, ex_r x42, ex_r x43, ex_r x44, ex_r x45, ex_r x46, ex_r x47, ex_r x48, ex_r x49, ex_r x50, ex_r x51, ex_r x52, ex_r x53, ex_i x54, ex_i x55, ex_i x56, ex_i x57, ex_r x58, ex_r x59, ex_r x60, ex_r x61, ex_i x62, ex_r x63, ex_r x64, ex_i ap, ex_j x66]), (x10, ex_a 1 10 ho), (x15, ex_a 1 12 zt), (x63, ex_a 1 6 po), (x64, ex_a 1 6 (upd s28_0 k28 (po k28)))]) dX12_pairs_48 rfl (vp_in_nI (show k28 < 6 by omega) (by decide)) (by rw [nI_clamp (by omega)]) rfl ?_
          refine X_iinc (v := nI (k28 + 1)) (j := 0) (lv' := [(4, ex_i (nI (k28 + 1))), (0, ex_r m), (1, ex_i (nI lf)), (2, ex_i al), (3, ex_i ap)]) dX12_pairs_49 rfl (nI_add k28 1) (Nat.le_of_ble_eq_true rfl) rfl ?_
          refine X_goto (tgt := 28) dX12_pairs_52 (by decide) ?_
          try dsimp only at hL28
          exact ihc28 (k28 + 1) (upd s28_0 k28 (po k28)) ⟨hL28, (show (k28 + 1) ≤ 6 by omega)⟩ (show 6 - (k28 + 1) < 6 - k28 by omega)
      try dsimp only at hV
      exact X_vret dX12_pairs_55 (by (repeat refine ex_kc ?_) <;> rfl) (by subst hV; exact ⟨rfl, rfl⟩)
    · have hV := hV.trans (if_neg c_10)
      refine X_iload_n (j := 3) dX12_pairs_11 rfl rfl ?_
      refine X_aload_n (j := 0) dX12_pairs_12 rfl rfl ?_
      refine X_get (j := 0) fo_X12_509 dX12_pairs_13 rfl rfl ?_
      refine X_icmp_lt (tgt := 20) dX12_pairs_16 (by decide) (fun c_13 => ?_) (fun c_13 => ?_)
      · have hV := hV.trans (if_pos c_13)
        refine X_aload_n (j := 0) dX12_pairs_20 rfl rfl ?_
        refine X_iload_n (j := 3) dX12_pairs_21 rfl rfl ?_
        refine X_put (j := 0) (cs' := [(m, ex_o 12 [ex_i x0, ex_i x1, ex_r x2, ex_i x3, ex_i x4, ex_i x5, ex_i x6, ex_j x7, ex_i x8, ex_i x9, ex_r x10, ex_r x11, ex_r x12, ex_r x13, ex_r x14, ex_r x15, ex_r x16, ex_r x17, ex_r x18, ex_r x19, ex_r x20, ex_r x21, ex_r x22, ex_r x23, ex_r x24, ex_r x25, ex_i x26, ex_i x27, ex_r x28, ex_r x29, ex_r x30, ex_r x31, ex_r x32, ex_r x33, ex_r x34, ex_r x35, ex_r x36, ex_r x37, ex_r x38, ex_r x39, ex_i x40, ex_j x41, ex_r x42, ex_r x43, ex_r x44, ex_r x45, ex_r x46, ex_r x47, ex_r x48, ex_r x49, ex_r x50, ex_r x51, ex_r x52, ex_r x53, ex_i x54, ex_i x55, ex_i x56, ex_i x57, ex_r x58, ex_r x59, ex_r x60, ex_r x61, ex_i x62, ex_r x63, ex_r x64, ex_i ap, ex_j x66]), (x10, ex_a 1 10 ho), (x15, ex_a 1 12 zt), (x63, ex_a 1 6 po), (x64, ex_a 1 6 bp)]) fo_X12_509 (by decide) dX12_pairs_22 rfl (Nat.le_of_ble_eq_true rfl) trivial rfl ?_
        refine X_iconst (v := 0) dX12_pairs_25 (by decide) ?_
        refine X_istore (lv' := [(4, ex_i 0), (0, ex_r m), (1, ex_i (nI lf)), (2, ex_i al), (3, ex_i ap)]) dX12_pairs_26 (Nat.le_of_ble_eq_true rfl) rfl ?_
        -- loop at 28
        try dsimp only at hV
        generalize hq_v_14 : F_X12_pairs_3_L28_2 po (6 - 0) 0 bp = v_14 at hV
        try dsimp only at hV
        refine X_cut (P := True) (csE := [(m, ex_o 12 [ex_i x0, ex_i x1, ex_r x2, ex_i x3, ex_i x4, ex_i x5, ex_i x6, ex_j x7, ex_i x8, ex_i x9, ex_r x10, ex_r x11, ex_r x12, ex_r x13, ex_r x14, ex_r x15, ex_r x16, ex_r x17, ex_r x18, ex_r x19, ex_r x20, ex_r x21, ex_r x22, ex_r x23, ex_r x24, ex_r x25, ex_i x26, ex_i x27, ex_r x28, ex_r x29, ex_r x30, ex_r x31, ex_r x32, ex_r x33, ex_r x34, ex_r x35, ex_r x36, ex_r x37, ex_r x38, ex_r x39, ex_i x40, ex_j x41, ex_r x42, ex_r x43, ex_r x44, ex_r x45, ex_r x46, ex_r x47, ex_r x48, ex_r x49, ex_r x50, ex_r x51, ex_r x52, ex_r x53, ex_i x54, ex_i x55, ex_i x56, ex_i x57, ex_r x58, ex_r x59, ex_r x60, ex_r x61, ex_i x62, ex_r x63, ex_r x64, ex_i ap, ex_j x66]), (x10, ex_a 1 10 ho), (x15, ex_a 1 12 zt), (x63, ex_a 1 6 po), (x64, ex_a 1 6 v_14)]) (lvE := [(0, ex_r m), (1, ex_i (nI lf)), (2, ex_i al), (3, ex_i ap)]) (E := 55) (fun hrest28 => ?_) (fun hPX28 => ?_)
        · have hL28 := hq_v_14.symm
          refine X_ind (fun (a28 : Nat × (Nat → Int32)) => v_14 = F_X12_pairs_3_L28_2 po (6 - a28.1) a28.1 a28.2 ∧ a28.1 ≤ 6) (fun (a28 : Nat × (Nat → Int32)) => 6 - a28.1) (fun (a28 : Nat × (Nat → Int32)) => [(m, ex_o 12 [ex_i x0, ex_i x1, ex_r x2, ex_i x3, ex_i x4, ex_i x5, ex_i x6, ex_j x7, ex_i x8, ex_i x9, ex_r x10, ex_r x11, ex_r x12, ex_r x13, ex_r x14, ex_r x15, ex_r x16, ex_r x17, ex_r x18, ex_r x19, ex_r x20, ex_r x21, ex_r x22, ex_r x23, ex_r x24, ex_r x25, ex_i x26, ex_i x27, ex_r x28, ex_r x29, ex_r x30, ex_r x31, ex_r x32, ex_r x33, ex_r x34, ex_r x35, ex_r x36, ex_r x37, ex_r x38, ex_r x39, ex_i x40, ex_j x41, ex_r x42, ex_r x43, ex_r x44, ex_r x45, ex_r x46, ex_r x47, ex_r x48, ex_r x49, ex_r x50, ex_r x51, ex_r x52, ex_r x53, ex_i x54, ex_i x55, ex_i x56, ex_i x57, ex_r x58, ex_r x59, ex_r x60, ex_r x61, ex_i x62, ex_r x63, ex_r x64, ex_i ap, ex_j x66]), (x10, ex_a 1 10 ho), (x15, ex_a 1 12 zt), (x63, ex_a 1 6 po), (x64, ex_a 1 6 a28.2)]) (fun (a28 : Nat × (Nat → Int32)) => [(4, ex_i (nI a28.1)), (0, ex_r m), (1, ex_i (nI lf)), (2, ex_i al), (3, ex_i ap)]) (fun ⟨k28, s28_0⟩ hI28 ih28 => ?_) (0, bp) ⟨hL28, (by omega)⟩
          try dsimp only at hI28 ih28 ⊢
          have ihc28 : ∀ (k28_ : Nat) (s28_0_ : Nat → Int32), (v_14 = F_X12_pairs_3_L28_2 po (6 - k28_) k28_ s28_0_ ∧ k28_ ≤ 6) → (6 - k28_) < (6 - k28) → ex_O _ _ _ _ _ _ _ _ _ [(m, ex_o 12 [ex_i x0, ex_i x1, ex_r x2, ex_i x3, ex_i x4, ex_i x5, ex_i x6, ex_j x7, ex_i x8, ex_i x9, ex_r x10, ex_r x11, ex_r x12, ex_r x13, ex_r x14, ex_r x15, ex_r x16, ex_r x17, ex_r x18, ex_r x19, ex_r x20, ex_r x21, ex_r x22, ex_r x23, ex_r x24, ex_r x25, ex_i x26, ex_i x27, ex_r x28, ex_r x29, ex_r x30, ex_r x31, ex_r x32, ex_r x33, ex_r x34, ex_r x35, ex_r x36, ex_r x37, ex_r x38, ex_r x39, ex_i x40, ex_j x41, ex_r x42, ex_r x43, ex_r x44, ex_r x45, ex_r x46, ex_r x47, ex_r x48, ex_r x49, ex_r x50, ex_r x51, ex_r x52, ex_r x53, ex_i x54, ex_i x55, ex_i x56, ex_i x57, ex_r x58, ex_r x59, ex_r x60, ex_r x61, ex_i x62, ex_r x63, ex_r x64, ex_i ap, ex_j x66]), (x10, ex_a 1 10 ho), (x15, ex_a 1 12 zt), (x63, ex_a 1 6 po), (x64, ex_a 1 6 s28_0_)] [(4, ex_i (nI k28_)), (0, ex_r m), (1, ex_i (nI lf)), (2, ex_i al), (3, ex_i ap)] _ _ := fun k28_ s28_0_ hi_ hm_ => ih28 (k28_, s28_0_) hi_ hm_
          have hL28 := hI28.1
          have hb28 := hI28.2
          refine X_iload (j := 0) dX12_pairs_28 rfl ?_
          refine X_bipush (v := 6) dX12_pairs_30 (by decide) ?_
          refine X_icmp_ge (tgt := 55) dX12_pairs_32 (by decide) (fun c_15 => ?_) (fun c_15 => ?_)
          · have hlt28 : k28 = 6 := nlex (L := 6) (by omega) hb28 c_15
            rw [show 6 - k28 = 0 by omega] at hL28
            have hL28 := hL28.trans (F_X12_pairs_3_L28_2_z ..)
            try dsimp only at hL28
            refine X_lv (lv' := [(0, ex_r m), (1, ex_i (nI lf)), (2, ex_i al), (3, ex_i ap)]) [1, 2, 3, 4] rfl ?_
            refine X_eq (cs' := [(m, ex_o 12 [ex_i x0, ex_i x1, ex_r x2, ex_i x3, ex_i x4, ex_i x5, ex_i x6, ex_j x7, ex_i x8, ex_i x9, ex_r x10, ex_r x11, ex_r x12, ex_r x13, ex_r x14, ex_r x15, ex_r x16, ex_r x17, ex_r x18, ex_r x19, ex_r x20, ex_r x21, ex_r x22, ex_r x23, ex_r x24, ex_r x25, ex_i x26, ex_i x27, ex_r x28, ex_r x29, ex_r x30, ex_r x31, ex_r x32, ex_r x33, ex_r x34, ex_r x35, ex_r x36, ex_r x37, ex_r x38, ex_r x39, ex_i x40, ex_j x41, ex_r x42, ex_r x43, ex_r x44, ex_r x45, ex_r x46, ex_r x47, ex_r x48, ex_r x49, ex_r x50, ex_r x51, ex_r x52, ex_r x53, ex_i x54, ex_i x55, ex_i x56, ex_i x57, ex_r x58, ex_r x59, ex_r x60, ex_r x61, ex_i x62, ex_r x63, ex_r x64, ex_i ap, ex_j x66]), (x10, ex_a 1 10 ho), (x15, ex_a 1 12 zt), (x63, ex_a 1 6 po), (x64, ex_a 1 6 v_14)]) (lv' := [(0, ex_r m), (1, ex_i (nI lf)), (2, ex_i al), (3, ex_i ap)]) (by subst hL28; rfl) (by subst hL28; rfl) ?_
            exact hrest28 trivial
          · have hlt28 : k28 < 6 := nlen (L := 6) (by omega) hb28 c_15
            rw [show 6 - k28 = (6 - (k28 + 1)) + 1 by omega] at hL28
            have hL28 := hL28.trans (F_X12_pairs_3_L28_2_s ..)
            refine X_aload_n (j := 1) dX12_pairs_35 rfl rfl ?_
            refine X_get (j := 0) fo_X12_150 dX12_pairs_36 rfl rfl ?_
            refine X_iload (j := 0) dX12_pairs_39 rfl ?_
            refine X_aload_n (j := 1) dX12_pairs_41 rfl rfl ?_
            refine X_get (j := 0) fo_X12_147 dX12_pairs_42 rfl rfl ?_
            refine X_iload (j := 0) dX12_pairs_45 rfl ?_
            refine X_iald (j := 3) (v := (po k28)) dX12_pairs_47 rfl (vp_in_nI (show k28 < 6 by omega) (by decide)) (by rw [nI_clamp (by omega)]) ?_
            refine X_iast (j := 4) (g := upd s28_0 k28 (po k28)) (cs' := [(m, ex_o 12 [ex_i x0, ex_i x1, ex_r x2, ex_i x3, ex_i x4, ex_i x5, ex_i x6, ex_j x7, ex_i x8, ex_i x9, ex_r x10, ex_r x11, ex_r x12, ex_r x13, ex_r x14, ex_r x15, ex_r x16, ex_r x17, ex_r x18, ex_r x19, ex_r x20, ex_r x21, ex_r x22, ex_r x23, ex_r x24, ex_r x25, ex_i x26, ex_i x27, ex_r x28, ex_r x29, ex_r x30, ex_r x31, ex_r x32, ex_r x33, ex_r x34, ex_r x35, ex_r x36, ex_r x37, ex_r x38, ex_r x39, ex_i x40, ex_j x41, ex_r x42, ex_r x43, ex_r x44, ex_r x45, ex_r x46, ex_r x47, ex_r x48, ex_r x49, ex_r x50, ex_r x51, ex_r x52, ex_r x53, ex_i x54, ex_i x55, ex_i x56, ex_i x57, ex_r x58, ex_r x59, ex_r x60, ex_r x61, ex_i x62, ex_r x63, ex_r x64, ex_i ap, ex_j x66]), (x10, ex_a 1 10 ho), (x15, ex_a 1 12 zt), (x63, ex_a 1 6 po), (x64, ex_a 1 6 (upd s28_0 k28 (po k28)))]) dX12_pairs_48 rfl (vp_in_nI (show k28 < 6 by omega) (by decide)) (by rw [nI_clamp (by omega)]) rfl ?_
            refine X_iinc (v := nI (k28 + 1)) (j := 0) (lv' := [(4, ex_i (nI (k28 + 1))), (0, ex_r m), (1, ex_i (nI lf)), (2, ex_i al), (3, ex_i ap)]) dX12_pairs_49 rfl (nI_add k28 1) (Nat.le_of_ble_eq_true rfl) rfl ?_
            refine X_goto (tgt := 28) dX12_pairs_52 (by decide) ?_
            try dsimp only at hL28
            exact ihc28 (k28 + 1) (upd s28_0 k28 (po k28)) ⟨hL28, (show (k28 + 1) ≤ 6 by omega)⟩ (show 6 - (k28 + 1) < 6 - k28 by omega)
        try dsimp only at hV
        exact X_vret dX12_pairs_55 (by (repeat refine ex_kc ?_) <;> rfl) (by subst hV; exact ⟨rfl, rfl⟩)
      · have hV := hV.trans (if_neg c_13)
        try dsimp only at hV
        exact X_vret dX12_pairs_19 (by (repeat refine ex_kc ?_) <;> rfl) (by subst hV; exact ⟨rfl, rfl⟩)

def F_X12_pairs_4_L59 (lf : Nat) : Nat → Nat → Nat
  | 0, p59 => p59
  | zn + 1, p59 => (if (((nI lf) >>> ((nI p59) &&& 31)) &&& 1) = 0 then F_X12_pairs_4_L59 lf zn (p59 + 1) else p59)
theorem F_X12_pairs_4_L59_z (lf : Nat) (p59 : Nat) : F_X12_pairs_4_L59 lf 0 p59 = p59 := rfl
theorem F_X12_pairs_4_L59_s (lf : Nat) (p59 : Nat) (zn : Nat) : F_X12_pairs_4_L59 lf (zn + 1) p59 = (if (((nI lf) >>> ((nI p59) &&& 31)) &&& 1) = 0 then F_X12_pairs_4_L59 lf zn (p59 + 1) else p59) := rfl
def F_X12_pairs_4_L80 (np : Nat) (lf : Nat) (al : Int32) (ap : Int32) (zt : Nat → Int32) : Nat → Nat → Int32 → (Nat → Int32) → (Nat → Int32) → Int32 × (Nat → Int32) × (Nat → Int32)
  | 0, k80, s80_0, s80_1, s80_2 => (s80_0, s80_1, s80_2)
  | zn + 1, k80, s80_0, s80_1, s80_2 => (if (((nI lf) >>> ((nI k80) &&& 31)) &&& 1) = 0 then F_X12_pairs_4_L80 np lf al ap zt zn (k80 + 1) s80_0 s80_1 s80_2 else ((fun (w_7 : Int32 × (Nat → Int32) × (Nat → Int32)) => F_X12_pairs_4_L80 np lf al ap zt zn (k80 + 1) w_7.1 w_7.2.1 w_7.2.2) (F_X12_pairs_3 np ((lf - 2 ^ tz6 lf) - 2 ^ k80) al (ap + (F_X12_away (zt (tz6 lf)) (zt k80))) s80_0 zt (upd (upd s80_1 (tz6 lf) (nI k80)) k80 (nI (tz6 lf))) s80_2)))
theorem F_X12_pairs_4_L80_z (np : Nat) (lf : Nat) (al : Int32) (ap : Int32) (zt : Nat → Int32) (k80 : Nat) (s80_0 : Int32) (s80_1 : Nat → Int32) (s80_2 : Nat → Int32) : F_X12_pairs_4_L80 np lf al ap zt 0 k80 s80_0 s80_1 s80_2 = (s80_0, s80_1, s80_2) := rfl
theorem F_X12_pairs_4_L80_s (np : Nat) (lf : Nat) (al : Int32) (ap : Int32) (zt : Nat → Int32) (k80 : Nat) (s80_0 : Int32) (s80_1 : Nat → Int32) (s80_2 : Nat → Int32) (zn : Nat) : F_X12_pairs_4_L80 np lf al ap zt (zn + 1) k80 s80_0 s80_1 s80_2 = (if (((nI lf) >>> ((nI k80) &&& 31)) &&& 1) = 0 then F_X12_pairs_4_L80 np lf al ap zt zn (k80 + 1) s80_0 s80_1 s80_2 else ((fun (w_7 : Int32 × (Nat → Int32) × (Nat → Int32)) => F_X12_pairs_4_L80 np lf al ap zt zn (k80 + 1) w_7.1 w_7.2.1 w_7.2.2) (F_X12_pairs_3 np ((lf - 2 ^ tz6 lf) - 2 ^ k80) al (ap + (F_X12_away (zt (tz6 lf)) (zt k80))) s80_0 zt (upd (upd s80_1 (tz6 lf) (nI k80)) k80 (nI (tz6 lf))) s80_2))) := rfl
def F_X12_pairs_4_L28 (po : Nat → Int32) : Nat → Nat → (Nat → Int32) → (Nat → Int32)
  | 0, k28, s28_0 => s28_0
  | zn + 1, k28, s28_0 => F_X12_pairs_4_L28 po zn (k28 + 1) (upd s28_0 k28 (po k28))
theorem F_X12_pairs_4_L28_z (po : Nat → Int32) (k28 : Nat) (s28_0 : Nat → Int32) : F_X12_pairs_4_L28 po 0 k28 s28_0 = s28_0 := rfl
theorem F_X12_pairs_4_L28_s (po : Nat → Int32) (k28 : Nat) (s28_0 : Nat → Int32) (zn : Nat) : F_X12_pairs_4_L28 po (zn + 1) k28 s28_0 = F_X12_pairs_4_L28 po zn (k28 + 1) (upd s28_0 k28 (po k28)) := rfl
def F_X12_pairs_4_L28_2 (po : Nat → Int32) : Nat → Nat → (Nat → Int32) → (Nat → Int32)
  | 0, k28, s28_0 => s28_0
  | zn + 1, k28, s28_0 => F_X12_pairs_4_L28_2 po zn (k28 + 1) (upd s28_0 k28 (po k28))
theorem F_X12_pairs_4_L28_2_z (po : Nat → Int32) (k28 : Nat) (s28_0 : Nat → Int32) : F_X12_pairs_4_L28_2 po 0 k28 s28_0 = s28_0 := rfl
theorem F_X12_pairs_4_L28_2_s (po : Nat → Int32) (k28 : Nat) (s28_0 : Nat → Int32) (zn : Nat) : F_X12_pairs_4_L28_2 po (zn + 1) k28 s28_0 = F_X12_pairs_4_L28_2 po zn (k28 + 1) (upd s28_0 k28 (po k28)) := rfl
def F_X12_pairs_4 (np : Nat) (lf : Nat) (al : Int32) (ap : Int32) (x65 : Int32) (zt : Nat → Int32) (po : Nat → Int32) (bp : Nat → Int32) : Int32 × (Nat → Int32) × (Nat → Int32) := (if (nI lf) = 0 then (if x65 < 0 then ((fun (v_11 : (Nat → Int32)) => (ap, po, v_11)) (F_X12_pairs_4_L28 po (6 - 0) 0 bp)) else (if ap < x65 then ((fun (v_14 : (Nat → Int32)) => (ap, po, v_14)) (F_X12_pairs_4_L28_2 po (6 - 0) 0 bp)) else (x65, po, bp))) else ((fun (v_2 : Nat) => ((fun (v_4 : Int32 × (Nat → Int32) × (Nat → Int32)) => (if al = 0 then (v_4.1, upd v_4.2.1 (tz6 lf) (-1), v_4.2.2) else ((fun (w_9 : Int32 × (Nat → Int32) × (Nat → Int32)) => (w_9.1, w_9.2.1, w_9.2.2)) (F_X12_pairs_3 np (lf - 2 ^ tz6 lf) 0 ap v_4.1 zt (upd v_4.2.1 (tz6 lf) (-1)) v_4.2.2)))) (F_X12_pairs_4_L80 np lf al ap zt (np - ((tz6 lf) + 1)) ((tz6 lf) + 1) x65 po bp))) (F_X12_pairs_4_L59 lf 7 0)))
set_option maxHeartbeats 4000000 in
set_option maxRecDepth 100000 in
theorem e_X12_pairs_4 (l : Launch) (np : Nat) (m : Nat) (lf : Nat) (al : Int32) (ap : Int32) (x0 : Int32) (x1 : Int32) (x2 : Nat) (x3 : Int32) (x4 : Int32) (x5 : Int32) (x6 : Int32) (x7 : Int64) (x8 : Int32) (x9 : Int32) (x10 : Nat) (x11 : Nat) (x12 : Nat) (x13 : Nat) (x14 : Nat) (x15 : Nat) (x16 : Nat) (x17 : Nat) (x18 : Nat) (x19 : Nat) (x20 : Nat) (x21 : Nat) (x22 : Nat) (x23 : Nat) (x24 : Nat) (x25 : Nat) (x26 : Int32) (x27 : Int32) (x28 : Nat) (x29 : Nat) (x30 : Nat) (x31 : Nat) (x32 : Nat) (x33 : Nat) (x34 : Nat) (x35 : Nat) (x36 : Nat) (x37 : Nat) (x38 : Nat) (x39 : Nat) (x40 : Int32) (x41 : Int64) (x42 : Nat) (x43 : Nat) (x44 : Nat) (x45 : Nat) (x46 : Nat) (x47 : Nat) (x48 : Nat) (x49 : Nat) (x50 : Nat) (x51 : Nat) (x52 : Nat) (x53 : Nat) (x54 : Int32) (x55 : Int32) (x56 : Int32) (x57 : Int32) (x58 : Nat) (x59 : Nat) (x60 : Nat) (x61 : Nat) (x62 : Int32) (x63 : Nat) (x64 : Nat) (x65 : Int32) (x66 : Int64) (ho : Nat → Int32) (zt : Nat → Int32) (po : Nat → Int32) (bp : Nat → Int32) (hho0 : ho 0 = nI np) (hnp : np ≤ 6) (hlf : lf < 64) (hln : lf < 2 ^ np) (hb : bits6 lf ≤ 4) : ex_M l yX12_pairs cX12_pairs 6 none 4 100 [ex_r m, ex_i (nI lf), ex_i al, ex_i ap] [(m, ex_o 12 [ex_i x0, ex_i x1, ex_r x2, ex_i x3, ex_i x4, ex_i x5, ex_i x6, ex_j x7, ex_i x8, ex_i x9, ex_r x10, ex_r x11, ex_r x12, ex_r x13, ex_r x14, ex_r x15, ex_r x16, ex_r x17, ex_r x18, ex_r x19, ex_r x20, ex_r x21, ex_r x22, ex_r x23, ex_r x24, ex_r x25, ex_i x26, ex_i x27, ex_r x28, ex_r x29, ex_r x30, ex_r x31, ex_r x32, ex_r x33, ex_r x34, ex_r x35, ex_r x36, ex_r x37, ex_r x38, ex_r x39, ex_i x40, ex_j x41, ex_r x42, ex_r x43, ex_r x44, ex_r x45, ex_r x46, ex_r x47, ex_r x48, ex_r x49, ex_r x50, ex_r x51, ex_r x52, ex_r x53, ex_i x54, ex_i x55, ex_i x56, ex_i x57, ex_r x58, ex_r x59, ex_r x60, ex_r x61, ex_i x62, ex_r x63, ex_r x64, ex_i x65, ex_j x66]), (x10, ex_a 1 10 ho), (x15, ex_a 1 12 zt), (x63, ex_a 1 6 po), (x64, ex_a 1 6 bp)] (fun zcs zr => zcs = [(m, ex_o 12 [ex_i x0, ex_i x1, ex_r x2, ex_i x3, ex_i x4, ex_i x5, ex_i x6, ex_j x7, ex_i x8, ex_i x9, ex_r x10, ex_r x11, ex_r x12, ex_r x13, ex_r x14, ex_r x15, ex_r x16, ex_r x17, ex_r x18, ex_r x19, ex_r x20, ex_r x21, ex_r x22, ex_r x23, ex_r x24, ex_r x25, ex_i x26, ex_i x27, ex_r x28, ex_r x29, ex_r x30, ex_r x31, ex_r x32, ex_r x33, ex_r x34, ex_r x35, ex_r x36, ex_r x37, ex_r x38, ex_r x39, ex_i x40, ex_j x41, ex_r x42, ex_r x43, ex_r x44, ex_r x45, ex_r x46, ex_r x47, ex_r x48, ex_r x49, ex_r x50, ex_r x51, ex_r x52, ex_r x53, ex_i x54, ex_i x55, ex_i x56, ex_i x57, ex_r x58, ex_r x59, ex_r x60, ex_r x61, ex_i x62, ex_r x63, ex_r x64, ex_i ((F_X12_pairs_4 np lf al ap x65 zt po bp).1), ex_j x66]), (x10, ex_a 1 10 ho), (x15, ex_a 1 12 zt), (x63, ex_a 1 6 ((F_X12_pairs_4 np lf al ap x65 zt po bp).2.1)), (x64, ex_a 1 6 ((F_X12_pairs_4 np lf al ap x65 zt po bp).2.2))] ∧ zr = none) := by
  refine X_meth (by decide) (Nat.le_of_ble_eq_true rfl) ?_
  generalize hV : F_X12_pairs_4 np lf al ap x65 zt po bp = V0
  have hV := hV.symm
  unfold F_X12_pairs_4 at hV
  try dsimp only at hV
  refine X_iload_n (j := 1) dX12_pairs_0 rfl rfl ?_
  refine X_if_ne (tgt := 56) dX12_pairs_1 (by decide) (fun c_1 => ?_) (fun c_1 => ?_)
  · have hV := hV.trans (if_neg c_1)
    have hl0 : ¬ lf = 0 := fun q => c_1 (by rw [q]; rfl)
    have htz : tz6 lf < 6 := tz_lt hlf hl0
    have hO : lf - 2 ^ tz6 lf < 64 := Nat.lt_of_le_of_lt (Nat.sub_le _ _) hlf
    have htn : tz6 lf < np := tz_np hlf hl0 hnp hln
    refine X_iconst (v := 0) dX12_pairs_56 (by decide) ?_
    refine X_istore (lv' := [(4, ex_i 0), (0, ex_r m), (1, ex_i (nI lf)), (2, ex_i al), (3, ex_i ap)]) dX12_pairs_57 (Nat.le_of_ble_eq_true rfl) rfl ?_
    -- loop at 59
    try dsimp only at hV
    generalize hq_v_2 : F_X12_pairs_4_L59 lf 7 0 = v_2 at hV
    try dsimp only at hV
    refine X_cut (P := (v_2 = tz6 lf)) (csE := [(m, ex_o 12 [ex_i x0, ex_i x1, ex_r x2, ex_i x3, ex_i x4, ex_i x5, ex_i x6, ex_j x7, ex_i x8, ex_i x9, ex_r x10, ex_r x11, ex_r x12, ex_r x13, ex_r x14, ex_r x15, ex_r x16, ex_r x17, ex_r x18, ex_r x19, ex_r x20, ex_r x21, ex_r x22, ex_r x23, ex_r x24, ex_r x25, ex_i x26, ex_i x27, ex_r x28, ex_r x29, ex_r x30, ex_r x31, ex_r x32, ex_r x33, ex_r x34, ex_r x35, ex_r x36, ex_r x37, ex_r x38, ex_r x39, ex_i x40, ex_j x41, ex_r x42, ex_r x43, ex_r x44, ex_r x45, ex_r x46, ex_r x47, ex_r x48, ex_r x49, ex_r x50, ex_r x51, ex_r x52, ex_r x53, ex_i x54, ex_i x55, ex_i x56, ex_i x57, ex_r x58, ex_r x59, ex_r x60, ex_r x61, ex_i x62, ex_r x63, ex_r x64, ex_i x65, ex_j x66]), (x10, ex_a 1 10 ho), (x15, ex_a 1 12 zt), (x63, ex_a 1 6 po), (x64, ex_a 1 6 bp)]) (lvE := [(4, ex_i (nI v_2)), (0, ex_r m), (1, ex_i (nI lf)), (2, ex_i al), (3, ex_i ap)]) (E := 74) (fun hrest59 => ?_) (fun hPX59 => ?_)
    · have hL59 := hq_v_2.symm
      refine X_ind (fun (a59 : Nat × Nat) => v_2 = F_X12_pairs_4_L59 lf a59.1 a59.2 ∧ (a59.2 ≤ tz6 lf ∧ 7 ≤ a59.1 + a59.2)) (fun (a59 : Nat × Nat) => a59.1) (fun (a59 : Nat × Nat) => [(m, ex_o 12 [ex_i x0, ex_i x1, ex_r x2, ex_i x3, ex_i x4, ex_i x5, ex_i x6, ex_j x7, ex_i x8, ex_i x9, ex_r x10, ex_r x11, ex_r x12, ex_r x13, ex_r x14, ex_r x15, ex_r x16, ex_r x17, ex_r x18, ex_r x19, ex_r x20, ex_r x21, ex_r x22, ex_r x23, ex_r x24, ex_r x25, ex_i x26, ex_i x27, ex_r x28, ex_r x29, ex_r x30, ex_r x31, ex_r x32, ex_r x33, ex_r x34, ex_r x35, ex_r x36, ex_r x37, ex_r x38, ex_r x39, ex_i x40, ex_j x41, ex_r x42, ex_r x43, ex_r x44, ex_r x45, ex_r x46, ex_r x47, ex_r x48, ex_r x49, ex_r x50, ex_r x51, ex_r x52, ex_r x53, ex_i x54, ex_i x55, ex_i x56, ex_i x57, ex_r x58, ex_r x59, ex_r x60, ex_r x61, ex_i x62, ex_r x63, ex_r x64, ex_i x65, ex_j x66]), (x10, ex_a 1 10 ho), (x15, ex_a 1 12 zt), (x63, ex_a 1 6 po), (x64, ex_a 1 6 bp)]) (fun (a59 : Nat × Nat) => [(4, ex_i (nI a59.2)), (0, ex_r m), (1, ex_i (nI lf)), (2, ex_i al), (3, ex_i ap)]) (fun ⟨zf59, p59⟩ hI59 ih59 => ?_) (7, 0) ⟨hL59, ⟨Nat.zero_le _, Nat.le_refl _⟩⟩
      try dsimp only at hI59 ih59 ⊢
      have ihc59 : ∀ (zf59_ : Nat) (p59_ : Nat), (v_2 = F_X12_pairs_4_L59 lf zf59_ p59_ ∧ (p59_ ≤ tz6 lf ∧ 7 ≤ zf59_ + p59_)) → zf59_ < zf59 → ex_O _ _ _ _ _ _ _ _ _ [(m, ex_o 12 [ex_i x0, ex_i x1, ex_r x2, ex_i x3, ex_i x4, ex_i x5, ex_i x6, ex_j x7, ex_i x8, ex_i x9, ex_r x10, ex_r x11, ex_r x12, ex_r x13, ex_r x14, ex_r x15, ex_r x16, ex_r x17, ex_r x18, ex_r x19, ex_r x20, ex_r x21, ex_r x22, ex_r x23, ex_r x24, ex_r x25, ex_i x26, ex_i x27, ex_r x28, ex_r x29, ex_r x30, ex_r x31, ex_r x32, ex_r x33, ex_r x34, ex_r x35, ex_r x36, ex_r x37, ex_r x38, ex_r x39, ex_i x40, ex_j x41, ex_r x42, ex_r x43, ex_r x44, ex_r x45, ex_r x46, ex_r x47, ex_r x48, ex_r x49, ex_r x50, ex_r x51, ex_r x52, ex_r x53, ex_i x54, ex_i x55, ex_i x56, ex_i x57, ex_r x58, ex_r x59, ex_r x60, ex_r x61, ex_i x62, ex_r x63, ex_r x64, ex_i x65, ex_j x66]), (x10, ex_a 1 10 ho), (x15, ex_a 1 12 zt), (x63, ex_a 1 6 po), (x64, ex_a 1 6 bp)] [(4, ex_i (nI p59_)), (0, ex_r m), (1, ex_i (nI lf)), (2, ex_i al), (3, ex_i ap)] _ _ := fun zf59_ p59_ hi_ hm_ => ih59 (zf59_, p59_) hi_ hm_
      have hL59 := hI59.1
      have hp59 := hI59.2
      obtain ⟨zn, rfl⟩ : ∃ zn, zf59 = zn + 1 := ex_ow (by have hz := hp59.1; have hy := hp59.2; omega)
      have hL59 := hL59.trans (F_X12_pairs_4_L59_s ..)
      refine X_iload_n (j := 2) dX12_pairs_59 rfl rfl ?_
      refine X_iload (j := 0) dX12_pairs_60 rfl ?_
      refine X_ishr (v := ((nI lf) >>> ((nI p59) &&& 31))) dX12_pairs_62 rfl ?_
      refine X_iconst (v := 1) dX12_pairs_63 (by decide) ?_
      refine X_iand (v := (((nI lf) >>> ((nI p59) &&& 31)) &&& 1)) dX12_pairs_64 rfl ?_
      refine X_if_ne (tgt := 74) dX12_pairs_65 (by decide) (fun c_3 => ?_) (fun c_3 => ?_)
      · have hL59 := hL59.trans (if_neg c_3)
        try dsimp only at hL59
        refine X_eq (cs' := [(m, ex_o 12 [ex_i x0, ex_i x1, ex_r x2, ex_i x3, ex_i x4, ex_i x5, ex_i x6, ex_j x7, ex_i x8, ex_i x9, ex_r x10, ex_r x11, ex_r x12, ex_r x13, ex_r x14, ex_r x15, ex_r x16, ex_r x17, ex_r x18, ex_r x19, ex_r x20, ex_r x21, ex_r x22, ex_r x23, ex_r x24, ex_r x25, ex_i x26, ex_i x27, ex_r x28, ex_r x29, ex_r x30, ex_r x31, ex_r x32, ex_r x33, ex_r x34, ex_r x35, ex_r x36, ex_r x37, ex_r x38, ex_r x39, ex_i x40, ex_j x41, ex_r x42, ex_r x43, ex_r x44, ex_r x45, ex_r x46, ex_r x47, ex_r x48, ex_r x49, ex_r x50, ex_r x51, ex_r x52, ex_r x53, ex_i x54, ex_i x55, ex_i x56, ex_i x57, ex_r x58, ex_r x59, ex_r x60, ex_r x61, ex_i x62, ex_r x63, ex_r x64, ex_i x65, ex_j x66]), (x10, ex_a 1 10 ho), (x15, ex_a 1 12 zt), (x63, ex_a 1 6 po), (x64, ex_a 1 6 bp)]) (lv' := [(4, ex_i (nI v_2)), (0, ex_r m), (1, ex_i (nI lf)), (2, ex_i al), (3, ex_i ap)]) (by subst hL59; rfl) (by subst hL59; rfl) ?_
        exact hrest59 (by subst hL59; exact tz_at hlf hl0 hp59.1 c_3)
      · have hL59 := hL59.trans (if_pos c_3)
        refine X_iinc (v := nI (p59 + 1)) (j := 0) (lv' := [(4, ex_i (nI (p59 + 1))), (0, ex_r m), (1, ex_i (nI lf)), (2, ex_i al), (3, ex_i ap)]) dX12_pairs_68 rfl (nI_add p59 1) (Nat.le_of_ble_eq_true rfl) rfl ?_
        refine X_goto (tgt := 59) dX12_pairs_71 (by decide) ?_
        try dsimp only at hL59
        exact ihc59 zn (p59 + 1) ⟨hL59, ⟨tz_go hlf hl0 hp59.1 c_3, by have hz := hp59.2; omega⟩⟩ (Nat.lt_succ_self _)
    have hp59_x := hPX59
    refine X_eq (cs' := [(m, ex_o 12 [ex_i x0, ex_i x1, ex_r x2, ex_i x3, ex_i x4, ex_i x5, ex_i x6, ex_j x7, ex_i x8, ex_i x9, ex_r x10, ex_r x11, ex_r x12, ex_r x13, ex_r x14, ex_r x15, ex_r x16, ex_r x17, ex_r x18, ex_r x19, ex_r x20, ex_r x21, ex_r x22, ex_r x23, ex_r x24, ex_r x25, ex_i x26, ex_i x27, ex_r x28, ex_r x29, ex_r x30, ex_r x31, ex_r x32, ex_r x33, ex_r x34, ex_r x35, ex_r x36, ex_r x37, ex_r x38, ex_r x39, ex_i x40, ex_j x41, ex_r x42, ex_r x43, ex_r x44, ex_r x45, ex_r x46, ex_r x47, ex_r x48, ex_r x49, ex_r x50, ex_r x51, ex_r x52, ex_r x53, ex_i x54, ex_i x55, ex_i x56, ex_i x57, ex_r x58, ex_r x59, ex_r x60, ex_r x61, ex_i x62, ex_r x63, ex_r x64, ex_i x65, ex_j x66]), (x10, ex_a 1 10 ho), (x15, ex_a 1 12 zt), (x63, ex_a 1 6 po), (x64, ex_a 1 6 bp)]) (lv' := [(4, ex_i (nI (tz6 lf))), (0, ex_r m), (1, ex_i (nI lf)), (2, ex_i al), (3, ex_i ap)]) rfl (by rw [hp59_x] <;> rfl) ?_
    refine X_iload (j := 0) dX12_pairs_74 rfl ?_
    refine X_iconst (v := 1) dX12_pairs_76 (by decide) ?_
    refine X_iadd (v := nI ((tz6 lf) + 1)) dX12_pairs_77 (nI_add (tz6 lf) 1) ?_
    refine X_istore (lv' := [(5, ex_i (nI ((tz6 lf) + 1))), (4, ex_i (nI (tz6 lf))), (0, ex_r m), (1, ex_i (nI lf)), (2, ex_i al), (3, ex_i ap)]) dX12_pairs_78 (Nat.le_of_ble_eq_true rfl) rfl ?_
    -- loop at 80
    try dsimp only at hV
    generalize hq_v_4 : F_X12_pairs_4_L80 np lf al ap zt (np - ((tz6 lf) + 1)) ((tz6 lf) + 1) x65 po bp = v_4 at hV
    try dsimp only at hV
    refine X_cut (P := True) (csE := [(m, ex_o 12 [ex_i x0, ex_i x1, ex_r x2, ex_i x3, ex_i x4, ex_i x5, ex_i x6, ex_j x7, ex_i x8, ex_i x9, ex_r x10, ex_r x11, ex_r x12, ex_r x13, ex_r x14, ex_r x15, ex_r x16, ex_r x17, ex_r x18, ex_r x19, ex_r x20, ex_r x21, ex_r x22, ex_r x23, ex_r x24, ex_r x25, ex_i x26, ex_i x27, ex_r x28, ex_r x29, ex_r x30, ex_r x31, ex_r x32, ex_r x33, ex_r x34, ex_r x35, ex_r x36, ex_r x37, ex_r x38, ex_r x39, ex_i x40, ex_j x41, ex_r x42, ex_r x43, ex_r x44, ex_r x45, ex_r x46, ex_r x47, ex_r x48, ex_r x49, ex_r x50, ex_r x51, ex_r x52, ex_r x53, ex_i x54, ex_i x55, ex_i x56, ex_i x57, ex_r x58, ex_r x59, ex_r x60, ex_r x61, ex_i x62, ex_r x63, ex_r x64, ex_i v_4.1, ex_j x66]), (x10, ex_a 1 10 ho), (x15, ex_a 1 12 zt), (x63, ex_a 1 6 v_4.2.1), (x64, ex_a 1 6 v_4.2.2)]) (lvE := [(4, ex_i (nI (tz6 lf))), (0, ex_r m), (1, ex_i (nI lf)), (2, ex_i al), (3, ex_i ap)]) (E := 166) (fun hrest80 => ?_) (fun hPX80 => ?_)
    · have hL80 := hq_v_4.symm
      refine X_ind (fun (a80 : Nat × Int32 × (Nat → Int32) × (Nat → Int32)) => v_4 = F_X12_pairs_4_L80 np lf al ap zt (np - a80.1) a80.1 a80.2.1 a80.2.2.1 a80.2.2.2 ∧ a80.1 ≤ np ∧ tz6 lf < a80.1) (fun (a80 : Nat × Int32 × (Nat → Int32) × (Nat → Int32)) => np - a80.1) (fun (a80 : Nat × Int32 × (Nat → Int32) × (Nat → Int32)) => [(m, ex_o 12 [ex_i x0, ex_i x1, ex_r x2, ex_i x3, ex_i x4, ex_i x5, ex_i x6, ex_j x7, ex_i x8, ex_i x9, ex_r x10, ex_r x11, ex_r x12, ex_r x13, ex_r x14, ex_r x15, ex_r x16, ex_r x17, ex_r x18, ex_r x19, ex_r x20, ex_r x21, ex_r x22, ex_r x23, ex_r x24, ex_r x25, ex_i x26, ex_i x27, ex_r x28, ex_r x29, ex_r x30, ex_r x31, ex_r x32, ex_r x33, ex_r x34, ex_r x35, ex_r x36, ex_r x37, ex_r x38, ex_r x39, ex_i x40, ex_j x41, ex_r x42, ex_r x43, ex_r x44, ex_r x45, ex_r x46, ex_r x47, ex_r x48, ex_r x49, ex_r x50, ex_r x51, ex_r x52, ex_r x53, ex_i x54, ex_i x55, ex_i x56, ex_i x57, ex_r x58, ex_r x59, ex_r x60, ex_r x61, ex_i x62, ex_r x63, ex_r x64, ex_i a80.2.1, ex_j x66]), (x10, ex_a 1 10 ho), (x15, ex_a 1 12 zt), (x63, ex_a 1 6 a80.2.2.1), (x64, ex_a 1 6 a80.2.2.2)]) (fun (a80 : Nat × Int32 × (Nat → Int32) × (Nat → Int32)) => [(5, ex_i (nI a80.1)), (4, ex_i (nI (tz6 lf))), (0, ex_r m), (1, ex_i (nI lf)), (2, ex_i al), (3, ex_i ap)]) (fun ⟨k80, s80_0, s80_1, s80_2⟩ hI80 ih80 => ?_) ((tz6 lf) + 1, x65, po, bp) ⟨hL80, (by omega), (Nat.lt_succ_self _)⟩
      try dsimp only at hI80 ih80 ⊢
      have ihc80 : ∀ (k80_ : Nat) (s80_0_ : Int32) (s80_1_ : Nat → Int32) (s80_2_ : Nat → Int32), (v_4 = F_X12_pairs_4_L80 np lf al ap zt (np - k80_) k80_ s80_0_ s80_1_ s80_2_ ∧ k80_ ≤ np ∧ tz6 lf < k80_) → (np - k80_) < (np - k80) → ex_O _ _ _ _ _ _ _ _ _ [(m, ex_o 12 [ex_i x0, ex_i x1, ex_r x2, ex_i x3, ex_i x4, ex_i x5, ex_i x6, ex_j x7, ex_i x8, ex_i x9, ex_r x10, ex_r x11, ex_r x12, ex_r x13, ex_r x14, ex_r x15, ex_r x16, ex_r x17, ex_r x18, ex_r x19, ex_r x20, ex_r x21, ex_r x22, ex_r x23, ex_r x24, ex_r x25, ex_i x26, ex_i x27, ex_r x28, ex_r x29, ex_r x30, ex_r x31, ex_r x32, ex_r x33, ex_r x34, ex_r x35, ex_r x36, ex_r x37, ex_r x38, ex_r x39, ex_i x40, ex_j x41, ex_r x42, ex_r x43, ex_r x44, ex_r x45, ex_r x46, ex_r x47, ex_r x48, ex_r x49, ex_r x50, ex_r x51, ex_r x52, ex_r x53, ex_i x54, ex_i x55, ex_i x56, ex_i x57, ex_r x58, ex_r x59, ex_r x60, ex_r x61, ex_i x62, ex_r x63, ex_r x64, ex_i s80_0_, ex_j x66]), (x10, ex_a 1 10 ho), (x15, ex_a 1 12 zt), (x63, ex_a 1 6 s80_1_), (x64, ex_a 1 6 s80_2_)] [(5, ex_i (nI k80_)), (4, ex_i (nI (tz6 lf))), (0, ex_r m), (1, ex_i (nI lf)), (2, ex_i al), (3, ex_i ap)] _ _ := fun k80_ s80_0_ s80_1_ s80_2_ hi_ hm_ => ih80 (k80_, s80_0_, s80_1_, s80_2_) hi_ hm_
      have hL80 := hI80.1
      have hb80 := hI80.2.1
      have hk80 := hI80.2.2
      refine X_iload (j := 0) dX12_pairs_80 rfl ?_
      refine X_aload_n (j := 2) dX12_pairs_82 rfl rfl ?_
      refine X_get (j := 0) fo_X12_13 dX12_pairs_83 rfl rfl ?_
      refine X_iconst (v := 0) dX12_pairs_86 (by decide) ?_
      refine X_iald (j := 1) (v := nI np) dX12_pairs_87 rfl (vin (by decide)) hho0 ?_
      refine X_icmp_ge (tgt := 166) dX12_pairs_88 (by decide) (fun c_5 => ?_) (fun c_5 => ?_)
      · have hlt80 : k80 = np := nlex (L := np) (by omega) hb80 c_5
        rw [show np - k80 = 0 by omega] at hL80
        have hL80 := hL80.trans (F_X12_pairs_4_L80_z ..)
        try dsimp only at hL80
        refine X_lv (lv' := [(4, ex_i (nI (tz6 lf))), (0, ex_r m), (1, ex_i (nI lf)), (2, ex_i al), (3, ex_i ap)]) [1, 2, 3, 4, 5] rfl ?_
        refine X_eq (cs' := [(m, ex_o 12 [ex_i x0, ex_i x1, ex_r x2, ex_i x3, ex_i x4, ex_i x5, ex_i x6, ex_j x7, ex_i x8, ex_i x9, ex_r x10, ex_r x11, ex_r x12, ex_r x13, ex_r x14, ex_r x15, ex_r x16, ex_r x17, ex_r x18, ex_r x19, ex_r x20, ex_r x21, ex_r x22, ex_r x23, ex_r x24, ex_r x25, ex_i x26, ex_i x27, ex_r x28, ex_r x29, ex_r x30, ex_r x31, ex_r x32, ex_r x33, ex_r x34, ex_r x35, ex_r x36, ex_r x37, ex_r x38, ex_r x39, ex_i x40, ex_j x41, ex_r x42, ex_r x43, ex_r x44, ex_r x45, ex_r x46, ex_r x47, ex_r x48, ex_r x49, ex_r x50, ex_r x51, ex_r x52, ex_r x53, ex_i x54, ex_i x55, ex_i x56, ex_i x57, ex_r x58, ex_r x59, ex_r x60, ex_r x61, ex_i x62, ex_r x63, ex_r x64, ex_i v_4.1, ex_j x66]), (x10, ex_a 1 10 ho), (x15, ex_a 1 12 zt), (x63, ex_a 1 6 v_4.2.1), (x64, ex_a 1 6 v_4.2.2)]) (lv' := [(4, ex_i (nI (tz6 lf))), (0, ex_r m), (1, ex_i (nI lf)), (2, ex_i al), (3, ex_i ap)]) (by subst hL80; rfl) (by subst hL80; rfl) ?_
        exact hrest80 trivial
      · have hlt80 : k80 < np := nlen (L := np) (by omega) hb80 c_5
        rw [show np - k80 = (np - (k80 + 1)) + 1 by omega] at hL80
        have hL80 := hL80.trans (F_X12_pairs_4_L80_s ..)
        refine X_iload_n (j := 3) dX12_pairs_91 rfl rfl ?_
        refine X_iload (j := 0) dX12_pairs_92 rfl ?_
        refine X_ishr (v := ((nI lf) >>> ((nI k80) &&& 31))) dX12_pairs_94 rfl ?_
        refine X_iconst (v := 1) dX12_pairs_95 (by decide) ?_
        refine X_iand (v := (((nI lf) >>> ((nI k80) &&& 31)) &&& 1)) dX12_pairs_96 rfl ?_
        refine X_if_ne (tgt := 103) dX12_pairs_97 (by decide) (fun c_6 => ?_) (fun c_6 => ?_)
        · have hL80 := hL80.trans (if_neg c_6)
          refine X_aload_n (j := 2) dX12_pairs_103 rfl rfl ?_
          refine X_get (j := 0) fo_X12_147 dX12_pairs_104 rfl rfl ?_
          refine X_iload (j := 1) dX12_pairs_107 rfl ?_
          refine X_iload (j := 0) dX12_pairs_109 rfl ?_
          refine X_iast (j := 3) (g := upd s80_1 (tz6 lf) (nI k80)) (cs' := [(m, ex_o 12 [ex_i x0, ex_i x1, ex_r x2, ex_i x3, ex_i x4, ex_i x5, ex_i x6, ex_j x7, ex_i x8, ex_i x9, ex_r x10, ex_r x11, ex_r x12, ex_r x13, ex_r x14, ex_r x15, ex_r x16, ex_r x17, ex_r x18, ex_r x19, ex_r x20, ex_r x21, ex_r x22, ex_r x23, ex_r x24, ex_r x25, ex_i x26, ex_i x27, ex_r x28, ex_r x29, ex_r x30, ex_r x31, ex_r x32, ex_r x33, ex_r x34, ex_r x35, ex_r x36, ex_r x37, ex_r x38, ex_r x39, ex_i x40, ex_j x41, ex_r x42, ex_r x43, ex_r x44, ex_r x45, ex_r x46, ex_r x47, ex_r x48, ex_r x49, ex_r x50, ex_r x51, ex_r x52, ex_r x53, ex_i x54, ex_i x55, ex_i x56, ex_i x57, ex_r x58, ex_r x59, ex_r x60, ex_r x61, ex_i x62, ex_r x63, ex_r x64, ex_i s80_0, ex_j x66]), (x10, ex_a 1 10 ho), (x15, ex_a 1 12 zt), (x63, ex_a 1 6 (upd s80_1 (tz6 lf) (nI k80))), (x64, ex_a 1 6 s80_2)]) dX12_pairs_111 rfl (vp_in_nI (show tz6 lf < 6 by omega) (by decide)) (by rw [nI_clamp (by omega)]) rfl ?_
          refine X_aload_n (j := 2) dX12_pairs_112 rfl rfl ?_
          refine X_get (j := 0) fo_X12_147 dX12_pairs_113 rfl rfl ?_
          refine X_iload (j := 0) dX12_pairs_116 rfl ?_
          refine X_iload (j := 1) dX12_pairs_118 rfl ?_
          refine X_iast (j := 3) (g := upd (upd s80_1 (tz6 lf) (nI k80)) k80 (nI (tz6 lf))) (cs' := [(m, ex_o 12 [ex_i x0, ex_i x1, ex_r x2, ex_i x3, ex_i x4, ex_i x5, ex_i x6, ex_j x7, ex_i x8, ex_i x9, ex_r x10, ex_r x11, ex_r x12, ex_r x13, ex_r x14, ex_r x15, ex_r x16, ex_r x17, ex_r x18, ex_r x19, ex_r x20, ex_r x21, ex_r x22, ex_r x23, ex_r x24, ex_r x25, ex_i x26, ex_i x27, ex_r x28, ex_r x29, ex_r x30, ex_r x31, ex_r x32, ex_r x33, ex_r x34, ex_r x35, ex_r x36, ex_r x37, ex_r x38, ex_r x39, ex_i x40, ex_j x41, ex_r x42, ex_r x43, ex_r x44, ex_r x45, ex_r x46, ex_r x47, ex_r x48, ex_r x49, ex_r x50, ex_r x51, ex_r x52, ex_r x53, ex_i x54, ex_i x55, ex_i x56, ex_i x57, ex_r x58, ex_r x59, ex_r x60, ex_r x61, ex_i x62, ex_r x63, ex_r x64, ex_i s80_0, ex_j x66]), (x10, ex_a 1 10 ho), (x15, ex_a 1 12 zt), (x63, ex_a 1 6 (upd (upd s80_1 (tz6 lf) (nI k80)) k80 (nI (tz6 lf)))), (x64, ex_a 1 6 s80_2)]) dX12_pairs_120 rfl (vp_in_nI (show k80 < 6 by omega) (by decide)) (by rw [nI_clamp (by omega)]) rfl ?_
          refine X_aload_n (j := 2) dX12_pairs_121 rfl rfl ?_
          refine X_iload_n (j := 3) dX12_pairs_122 rfl rfl ?_
          refine X_iconst (v := 1) dX12_pairs_123 (by decide) ?_
          refine X_iload (j := 1) dX12_pairs_124 rfl ?_
          refine X_ishl (v := (1 <<< ((nI (tz6 lf)) &&& 31))) dX12_pairs_126 rfl ?_
          refine X_iconst (v := (-1)) dX12_pairs_127 (by decide) ?_
          refine X_ixor (v := ((1 <<< ((nI (tz6 lf)) &&& 31)) ^^^ (-1))) dX12_pairs_128 rfl ?_
          refine X_iand (v := nI (lf - 2 ^ tz6 lf)) dX12_pairs_129 (an_tz hlf hl0) ?_
          refine X_iconst (v := 1) dX12_pairs_130 (by decide) ?_
          refine X_iload (j := 0) dX12_pairs_131 rfl ?_
          refine X_ishl (v := (1 <<< ((nI k80) &&& 31))) dX12_pairs_133 rfl ?_
          refine X_iconst (v := (-1)) dX12_pairs_134 (by decide) ?_
          refine X_ixor (v := ((1 <<< ((nI k80) &&& 31)) ^^^ (-1))) dX12_pairs_135 rfl ?_
          refine X_iand (v := nI ((lf - 2 ^ tz6 lf) - 2 ^ k80)) dX12_pairs_136 (an_bit hO (by omega) (bitO lf hlf hl0 k80 (by omega) hk80 c_6)) ?_
          refine X_iload_n (j := 4) dX12_pairs_137 rfl rfl ?_
          refine X_iload_n (j := 5) dX12_pairs_138 rfl rfl ?_
          refine X_aload_n (j := 2) dX12_pairs_139 rfl rfl ?_
          refine X_get (j := 0) fo_X12_29 dX12_pairs_140 rfl rfl ?_
          refine X_iload (j := 1) dX12_pairs_143 rfl ?_
          refine X_iald (j := 2) (v := (zt (tz6 lf))) dX12_pairs_145 rfl (vp_in_nI (show tz6 lf < 12 by omega) (by decide)) (by rw [nI_clamp (by omega)]) ?_
          refine X_aload_n (j := 2) dX12_pairs_146 rfl rfl ?_
          refine X_get (j := 0) fo_X12_29 dX12_pairs_147 rfl rfl ?_
          refine X_iload (j := 0) dX12_pairs_150 rfl ?_
          refine X_iald (j := 2) (v := (zt k80)) dX12_pairs_152 rfl (vp_in_nI (show k80 < 12 by omega) (by decide)) (by rw [nI_clamp (by omega)]) ?_
          refine X_callS (rest := [(m, ex_o 12 [ex_i x0, ex_i x1, ex_r x2, ex_i x3, ex_i x4, ex_i x5, ex_i x6, ex_j x7, ex_i x8, ex_i x9, ex_r x10, ex_r x11, ex_r x12, ex_r x13, ex_r x14, ex_r x15, ex_r x16, ex_r x17, ex_r x18, ex_r x19, ex_r x20, ex_r x21, ex_r x22, ex_r x23, ex_r x24, ex_r x25, ex_i x26, ex_i x27, ex_r x28, ex_r x29, ex_r x30, ex_r x31, ex_r x32, ex_r x33, ex_r x34, ex_r x35, ex_r x36, ex_r x37, ex_r x38, ex_r x39, ex_i x40, ex_j x41, ex_r x42, ex_r x43, ex_r x44, ex_r x45, ex_r x46, ex_r x47, ex_r x48, ex_r x49, ex_r x50, ex_r x51, ex_r x52, ex_r x53, ex_i x54, ex_i x55, ex_i x56, ex_i x57, ex_r x58, ex_r x59, ex_r x60, ex_r x61, ex_i x62, ex_r x63, ex_r x64, ex_i s80_0, ex_j x66]), (x10, ex_a 1 10 ho), (x15, ex_a 1 12 zt), (x63, ex_a 1 6 (upd (upd s80_1 (tz6 lf) (nI k80)) k80 (nI (tz6 lf)))), (x64, ex_a 1 6 s80_2)]) (stk := [ex_i ap, ex_i al, ex_i (nI ((lf - 2 ^ tz6 lf) - 2 ^ k80)), ex_r m]) co_X12_402 rfl ⟨(Nat.le_of_ble_eq_true rfl), (Nat.le_of_ble_eq_true rfl)⟩ (e_X12_away l (zt (tz6 lf)) (zt k80)) dX12_pairs_153 [0, 1, 2, 3, 4] (show List.Perm [0, 1, 2, 3, 4] (List.range 5) from by decide) rfl rfl rfl (Nat.le_of_ble_eq_true rfl) (fun zc1 zr hq hk => ?_)
          obtain ⟨rfl, rfl⟩ := hq
          refine X_iadd (v := (ap + (F_X12_away (zt (tz6 lf)) (zt k80)))) dX12_pairs_156 rfl ?_
          refine X_callV (j0 := 0) (rest := []) (stk := []) co_X12_512 rfl ⟨(Nat.le_of_ble_eq_true rfl), (Nat.le_of_ble_eq_true rfl)⟩ (e_X12_pairs_3 l np m ((lf - 2 ^ tz6 lf) - 2 ^ k80) al (ap + (F_X12_away (zt (tz6 lf)) (zt k80))) x0 x1 x2 x3 x4 x5 x6 x7 x8 x9 x10 x11 x12 x13 x14 x15 x16 x17 x18 x19 x20 x21 x22 x23 x24 x25 x26 x27 x28 x29 x30 x31 x32 x33 x34 x35 x36 x37 x38 x39 x40 x41 x42 x43 x44 x45 x46 x47 x48 x49 x50 x51 x52 x53 x54 x55 x56 x57 x58 x59 x60 x61 x62 x63 x64 s80_0 x66 ho zt (upd (upd s80_1 (tz6 lf) (nI k80)) k80 (nI (tz6 lf))) s80_2 (by first | assumption | omega) (by first | assumption | omega) (Nat.lt_of_le_of_lt (Nat.sub_le _ _) hO) (Nat.lt_of_le_of_lt (Nat.le_trans (Nat.sub_le _ _) (Nat.sub_le _ _)) hln) (bi_bit hO (by omega) (bitO lf hlf hl0 k80 (by omega) hk80 c_6) (bi_tz hlf hl0 hb))) dX12_pairs_157 [0, 1, 2, 3, 4] (show List.Perm [0, 1, 2, 3, 4] (List.range 5) from by decide) rfl rfl rfl rfl (Nat.le_of_ble_eq_true rfl) (fun zc1 zr hq hk => ?_)
          obtain ⟨rfl, rfl⟩ := hq
          try dsimp only at hL80
          generalize hq_w_7 : F_X12_pairs_3 np ((lf - 2 ^ tz6 lf) - 2 ^ k80) al (ap + (F_X12_away (zt (tz6 lf)) (zt k80))) s80_0 zt (upd (upd s80_1 (tz6 lf) (nI k80)) k80 (nI (tz6 lf))) s80_2 = w_7 at hL80 ⊢
          try dsimp only at hL80
          refine X_iinc (v := nI (k80 + 1)) (j := 0) (lv' := [(5, ex_i (nI (k80 + 1))), (4, ex_i (nI (tz6 lf))), (0, ex_r m), (1, ex_i (nI lf)), (2, ex_i al), (3, ex_i ap)]) dX12_pairs_160 rfl (nI_add k80 1) (Nat.le_of_ble_eq_true rfl) rfl ?_
          refine X_goto (tgt := 80) dX12_pairs_163 (by decide) ?_
          try dsimp only at hL80
          exact ihc80 (k80 + 1) w_7.1 w_7.2.1 w_7.2.2 ⟨hL80, (show (k80 + 1) ≤ np by omega), (show tz6 lf < (k80 + 1) by omega)⟩ (show np - (k80 + 1) < np - k80 by omega)
        · have hL80 := hL80.trans (if_pos c_6)
          refine X_goto (tgt := 160) dX12_pairs_100 (by decide) ?_
          refine X_iinc (v := nI (k80 + 1)) (j := 0) (lv' := [(5, ex_i (nI (k80 + 1))), (4, ex_i (nI (tz6 lf))), (0, ex_r m), (1, ex_i (nI lf)), (2, ex_i al), (3, ex_i ap)]) dX12_pairs_160 rfl (nI_add k80 1) (Nat.le_of_ble_eq_true rfl) rfl ?_
          refine X_goto (tgt := 80) dX12_pairs_163 (by decide) ?_
          try dsimp only at hL80
          exact ihc80 (k80 + 1) s80_0 s80_1 s80_2 ⟨hL80, (show (k80 + 1) ≤ np by omega), (show tz6 lf < (k80 + 1) by omega)⟩ (show np - (k80 + 1) < np - k80 by omega)
    refine X_aload_n (j := 1) dX12_pairs_166 rfl rfl ?_
    refine X_get (j := 0) fo_X12_147 dX12_pairs_167 rfl rfl ?_
    refine X_iload (j := 0) dX12_pairs_170 rfl ?_
    refine X_iconst (v := (-1)) dX12_pairs_172 (by decide) ?_
    refine X_iast (j := 3) (g := upd v_4.2.1 (tz6 lf) (-1)) (cs' := [(m, ex_o 12 [ex_i x0, ex_i x1, ex_r x2, ex_i x3, ex_i x4, ex_i x5, ex_i x6, ex_j x7, ex_i x8, ex_i x9, ex_r x10, ex_r x11, ex_r x12, ex_r x13, ex_r x14, ex_r x15, ex_r x16, ex_r x17, ex_r x18, ex_r x19, ex_r x20, ex_r x21, ex_r x22, ex_r x23, ex_r x24, ex_r x25, ex_i x26, ex_i x27, ex_r x28, ex_r x29, ex_r x30, ex_r x31, ex_r x32, ex_r x33, ex_r x34, ex_r x35, ex_r x36, ex_r x37, ex_r x38, ex_r x39, ex_i x40, ex_j x41, ex_r x42, ex_r x43, ex_r x44, ex_r x45, ex_r x46, ex_r x47, ex_r x48, ex_r x49, ex_r x50, ex_r x51, ex_r x52, ex_r x53, ex_i x54, ex_i x55, ex_i x56, ex_i x57, ex_r x58, ex_r x59, ex_r x60, ex_r x61, ex_i x62, ex_r x63, ex_r x64, ex_i v_4.1, ex_j x66]), (x10, ex_a 1 10 ho), (x15, ex_a 1 12 zt), (x63, ex_a 1 6 (upd v_4.2.1 (tz6 lf) (-1))), (x64, ex_a 1 6 v_4.2.2)]) dX12_pairs_173 rfl (vp_in_nI (show tz6 lf < 6 by omega) (by decide)) (by rw [nI_clamp (by omega)]) rfl ?_
    refine X_iload_n (j := 3) dX12_pairs_174 rfl rfl ?_
    refine X_if_eq (tgt := 192) dX12_pairs_175 (by decide) (fun c_8 => ?_) (fun c_8 => ?_)
    · have hV := hV.trans (if_pos c_8)
      try dsimp only at hV
      exact X_vret dX12_pairs_192 (by (repeat refine ex_kc ?_) <;> rfl) (by subst hV; exact ⟨rfl, rfl⟩)
    · have hV := hV.trans (if_neg c_8)
      refine X_aload_n (j := 1) dX12_pairs_178 rfl rfl ?_
      refine X_iload_n (j := 2) dX12_pairs_179 rfl rfl ?_
      refine X_iconst (v := 1) dX12_pairs_180 (by decide) ?_
      refine X_iload (j := 0) dX12_pairs_181 rfl ?_
      refine X_ishl (v := (1 <<< ((nI (tz6 lf)) &&& 31))) dX12_pairs_183 rfl ?_
      refine X_iconst (v := (-1)) dX12_pairs_184 (by decide) ?_
      refine X_ixor (v := ((1 <<< ((nI (tz6 lf)) &&& 31)) ^^^ (-1))) dX12_pairs_185 rfl ?_
      refine X_iand (v := nI (lf - 2 ^ tz6 lf)) dX12_pairs_186 (an_tz hlf hl0) ?_
      refine X_iconst (v := 0) dX12_pairs_187 (by decide) ?_
      refine X_iload_n (j := 4) dX12_pairs_188 rfl rfl ?_
      refine X_callV (j0 := 0) (rest := []) (stk := []) co_X12_512 rfl ⟨(Nat.le_of_ble_eq_true rfl), (Nat.le_of_ble_eq_true rfl)⟩ (e_X12_pairs_3 l np m (lf - 2 ^ tz6 lf) 0 ap x0 x1 x2 x3 x4 x5 x6 x7 x8 x9 x10 x11 x12 x13 x14 x15 x16 x17 x18 x19 x20 x21 x22 x23 x24 x25 x26 x27 x28 x29 x30 x31 x32 x33 x34 x35 x36 x37 x38 x39 x40 x41 x42 x43 x44 x45 x46 x47 x48 x49 x50 x51 x52 x53 x54 x55 x56 x57 x58 x59 x60 x61 x62 x63 x64 v_4.1 x66 ho zt (upd v_4.2.1 (tz6 lf) (-1)) v_4.2.2 (by first | assumption | omega) (by first | assumption | omega) hO (Nat.lt_of_le_of_lt (Nat.sub_le _ _) hln) (bi_tz hlf hl0 hb)) dX12_pairs_189 [0, 1, 2, 3, 4] (show List.Perm [0, 1, 2, 3, 4] (List.range 5) from by decide) rfl rfl rfl rfl (Nat.le_of_ble_eq_true rfl) (fun zc1 zr hq hk => ?_)
      obtain ⟨rfl, rfl⟩ := hq
      try dsimp only at hV
      generalize hq_w_9 : F_X12_pairs_3 np (lf - 2 ^ tz6 lf) 0 ap v_4.1 zt (upd v_4.2.1 (tz6 lf) (-1)) v_4.2.2 = w_9 at hV ⊢
      try dsimp only at hV
      try dsimp only at hV
      exact X_vret dX12_pairs_192 (by (repeat refine ex_kc ?_) <;> rfl) (by subst hV; exact ⟨rfl, rfl⟩)
  · have hV := hV.trans (if_pos c_1)
    refine X_aload_n (j := 0) dX12_pairs_4 rfl rfl ?_
    refine X_get (j := 0) fo_X12_509 dX12_pairs_5 rfl rfl ?_
    refine X_if_lt (tgt := 20) dX12_pairs_8 (by decide) (fun c_10 => ?_) (fun c_10 => ?_)
    · have hV := hV.trans (if_pos c_10)
      refine X_aload_n (j := 0) dX12_pairs_20 rfl rfl ?_
      refine X_iload_n (j := 3) dX12_pairs_21 rfl rfl ?_
      refine X_put (j := 0) (cs' := [(m, ex_o 12 [ex_i x0, ex_i x1, ex_r x2, ex_i x3, ex_i x4, ex_i x5, ex_i x6, ex_j x7, ex_i x8, ex_i x9, ex_r x10, ex_r x11, ex_r x12, ex_r x13, ex_r x14, ex_r x15, ex_r x16, ex_r x17, ex_r x18, ex_r x19, ex_r x20, ex_r x21, ex_r x22, ex_r x23, ex_r x24, ex_r x25, ex_i x26, ex_i x27, ex_r x28, ex_r x29, ex_r x30, ex_r x31, ex_r x32, ex_r x33, ex_r x34, ex_r x35, ex_r x36, ex_r x37, ex_r x38, ex_r x39, ex_i x40, ex_j x41, ex_r x42, ex_r x43, ex_r x44, ex_r x45, ex_r x46, ex_r x47, ex_r x48, ex_r x49, ex_r x50, ex_r x51, ex_r x52, ex_r x53, ex_i x54, ex_i x55, ex_i x56, ex_i x57, ex_r x58, ex_r x59, ex_r x60, ex_r x61, ex_i x62, ex_r x63, ex_r x64, ex_i ap, ex_j x66]), (x10, ex_a 1 10 ho), (x15, ex_a 1 12 zt), (x63, ex_a 1 6 po), (x64, ex_a 1 6 bp)]) fo_X12_509 (by decide) dX12_pairs_22 rfl (Nat.le_of_ble_eq_true rfl) trivial rfl ?_
      refine X_iconst (v := 0) dX12_pairs_25 (by decide) ?_
      refine X_istore (lv' := [(4, ex_i 0), (0, ex_r m), (1, ex_i (nI lf)), (2, ex_i al), (3, ex_i ap)]) dX12_pairs_26 (Nat.le_of_ble_eq_true rfl) rfl ?_
      -- loop at 28
      try dsimp only at hV
      generalize hq_v_11 : F_X12_pairs_4_L28 po (6 - 0) 0 bp = v_11 at hV
      try dsimp only at hV
      refine X_cut (P := True) (csE := [(m, ex_o 12 [ex_i x0, ex_i x1, ex_r x2, ex_i x3, ex_i x4, ex_i x5, ex_i x6, ex_j x7, ex_i x8, ex_i x9, ex_r x10, ex_r x11, ex_r x12, ex_r x13, ex_r x14, ex_r x15, ex_r x16, ex_r x17, ex_r x18, ex_r x19, ex_r x20, ex_r x21, ex_r x22, ex_r x23, ex_r x24, ex_r x25, ex_i x26, ex_i x27, ex_r x28, ex_r x29, ex_r x30, ex_r x31, ex_r x32, ex_r x33, ex_r x34, ex_r x35, ex_r x36, ex_r x37, ex_r x38, ex_r x39, ex_i x40, ex_j x41, ex_r x42, ex_r x43, ex_r x44, ex_r x45, ex_r x46, ex_r x47, ex_r x48, ex_r x49, ex_r x50, ex_r x51, ex_r x52, ex_r x53, ex_i x54, ex_i x55, ex_i x56, ex_i x57, ex_r x58, ex_r x59, ex_r x60, ex_r x61, ex_i x62, ex_r x63, ex_r x64, ex_i ap, ex_j x66]), (x10, ex_a 1 10 ho), (x15, ex_a 1 12 zt), (x63, ex_a 1 6 po), (x64, ex_a 1 6 v_11)]) (lvE := [(0, ex_r m), (1, ex_i (nI lf)), (2, ex_i al), (3, ex_i ap)]) (E := 55) (fun hrest28 => ?_) (fun hPX28 => ?_)
      · have hL28 := hq_v_11.symm
        refine X_ind (fun (a28 : Nat × (Nat → Int32)) => v_11 = F_X12_pairs_4_L28 po (6 - a28.1) a28.1 a28.2 ∧ a28.1 ≤ 6) (fun (a28 : Nat × (Nat → Int32)) => 6 - a28.1) (fun (a28 : Nat × (Nat → Int32)) => [(m, ex_o 12 [ex_i x0, ex_i x1, ex_r x2, ex_i x3, ex_i x4, ex_i x5, ex_i x6, ex_j x7, ex_i x8, ex_i x9, ex_r x10, ex_r x11, ex_r x12, ex_r x13, ex_r x14, ex_r x15, ex_r x16, ex_r x17, ex_r x18, ex_r x19, ex_r x20, ex_r x21, ex_r x22, ex_r x23, ex_r x24, ex_r x25, ex_i x26, ex_i x27, ex_r x28, ex_r x29, ex_r x30, ex_r x31, ex_r x32, ex_r x33, ex_r x34, ex_r x35, ex_r x36, ex_r x37, ex_r x38, ex_r x39, ex_i x40, ex_j x41, ex_r x42, ex_r x43, ex_r x44, ex_r x45, ex_r x46, ex_r x47, ex_r x48, ex_r x49, ex_r x50, ex_r x51, ex_r x52, ex_r x53, ex_i x54, ex_i x55, ex_i x56, ex_i x57, ex_r x58, ex_r x59, ex_r x60, ex_r x61, ex_i x62, ex_r x63, ex_r x64, ex_i ap, ex_j x66]), (x10, ex_a 1 10 ho), (x15, ex_a 1 12 zt), (x63, ex_a 1 6 po), (x64, ex_a 1 6 a28.2)]) (fun (a28 : Nat × (Nat → Int32)) => [(4, ex_i (nI a28.1)), (0, ex_r m), (1, ex_i (nI lf)), (2, ex_i al), (3, ex_i ap)]) (fun ⟨k28, s28_0⟩ hI28 ih28 => ?_) (0, bp) ⟨hL28, (by omega)⟩
        try dsimp only at hI28 ih28 ⊢
        have ihc28 : ∀ (k28_ : Nat) (s28_0_ : Nat → Int32), (v_11 = F_X12_pairs_4_L28 po (6 - k28_) k28_ s28_0_ ∧ k28_ ≤ 6) → (6 - k28_) < (6 - k28) → ex_O _ _ _ _ _ _ _ _ _ [(m, ex_o 12 [ex_i x0, ex_i x1, ex_r x2, ex_i x3, ex_i x4, ex_i x5, ex_i x6, ex_j x7, ex_i x8, ex_i x9, ex_r x10, ex_r x11, ex_r x12, ex_r x13, ex_r x14, ex_r x15, ex_r x16, ex_r x17, ex_r x18, ex_r x19, ex_r x20, ex_r x21, ex_r x22, ex_r x23, ex_r x24, ex_r x25, ex_i x26, ex_i x27, ex_r x28, ex_r x29, ex_r x30, ex_r x31, ex_r x32, ex_r x33, ex_r x34, ex_r x35, ex_r x36, ex_r x37, ex_r x38, ex_r x39, ex_i x40, ex_j x41, ex_r x42, ex_r x43, ex_r x44, ex_r x45, ex_r x46, ex_r x47, ex_r x48, ex_r x49, ex_r x50, ex_r x51, ex_r x52, ex_r x53, ex_i x54, ex_i x55, ex_i x56, ex_i x57, ex_r x58, ex_r x59, ex_r x60, ex_r x61, ex_i x62, ex_r x63, ex_r x64, ex_i ap, ex_j x66]), (x10, ex_a 1 10 ho), (x15, ex_a 1 12 zt), (x63, ex_a 1 6 po), (x64, ex_a 1 6 s28_0_)] [(4, ex_i (nI k28_)), (0, ex_r m), (1, ex_i (nI lf)), (2, ex_i al), (3, ex_i ap)] _ _ := fun k28_ s28_0_ hi_ hm_ => ih28 (k28_, s28_0_) hi_ hm_
        have hL28 := hI28.1
        have hb28 := hI28.2
        refine X_iload (j := 0) dX12_pairs_28 rfl ?_
        refine X_bipush (v := 6) dX12_pairs_30 (by decide) ?_
        refine X_icmp_ge (tgt := 55) dX12_pairs_32 (by decide) (fun c_12 => ?_) (fun c_12 => ?_)
        · have hlt28 : k28 = 6 := nlex (L := 6) (by omega) hb28 c_12
          rw [show 6 - k28 = 0 by omega] at hL28
          have hL28 := hL28.trans (F_X12_pairs_4_L28_z ..)
          try dsimp only at hL28
          refine X_lv (lv' := [(0, ex_r m), (1, ex_i (nI lf)), (2, ex_i al), (3, ex_i ap)]) [1, 2, 3, 4] rfl ?_
          refine X_eq (cs' := [(m, ex_o 12 [ex_i x0, ex_i x1, ex_r x2, ex_i x3, ex_i x4, ex_i x5, ex_i x6, ex_j x7, ex_i x8, ex_i x9, ex_r x10, ex_r x11, ex_r x12, ex_r x13, ex_r x14, ex_r x15, ex_r x16, ex_r x17, ex_r x18, ex_r x19, ex_r x20, ex_r x21, ex_r x22, ex_r x23, ex_r x24, ex_r x25, ex_i x26, ex_i x27, ex_r x28, ex_r x29, ex_r x30, ex_r x31, ex_r x32, ex_r x33, ex_r x34, ex_r x35, ex_r x36, ex_r x37, ex_r x38, ex_r x39, ex_i x40, ex_j x41, ex_r x42, ex_r x43, ex_r x44, ex_r x45, ex_r x46, ex_r x47, ex_r x48, ex_r x49, ex_r x50, ex_r x51, ex_r x52, ex_r x53, ex_i x54, ex_i x55, ex_i x56, ex_i x57, ex_r x58, ex_r x59, ex_r x60, ex_r x61, ex_i x62, ex_r x63, ex_r x64, ex_i ap, ex_j x66]), (x10, ex_a 1 10 ho), (x15, ex_a 1 12 zt), (x63, ex_a 1 6 po), (x64, ex_a 1 6 v_11)]) (lv' := [(0, ex_r m), (1, ex_i (nI lf)), (2, ex_i al), (3, ex_i ap)]) (by subst hL28; rfl) (by subst hL28; rfl) ?_
          exact hrest28 trivial
        · have hlt28 : k28 < 6 := nlen (L := 6) (by omega) hb28 c_12
          rw [show 6 - k28 = (6 - (k28 + 1)) + 1 by omega] at hL28
          have hL28 := hL28.trans (F_X12_pairs_4_L28_s ..)
          refine X_aload_n (j := 1) dX12_pairs_35 rfl rfl ?_
          refine X_get (j := 0) fo_X12_150 dX12_pairs_36 rfl rfl ?_
          refine X_iload (j := 0) dX12_pairs_39 rfl ?_
          refine X_aload_n (j := 1) dX12_pairs_41 rfl rfl ?_
          refine X_get (j := 0) fo_X12_147 dX12_pairs_42 rfl rfl ?_
          refine X_iload (j := 0) dX12_pairs_45 rfl ?_
          refine X_iald (j := 3) (v := (po k28)) dX12_pairs_47 rfl (vp_in_nI (show k28 < 6 by omega) (by decide)) (by rw [nI_clamp (by omega)]) ?_
          refine X_iast (j := 4) (g := upd s28_0 k28 (po k28)) (cs' := [(m, ex_o 12 [ex_i x0, ex_i x1, ex_r x2, ex_i x3, ex_i x4, ex_i x5, ex_i x6, ex_j x7, ex_i x8, ex_i x9, ex_r x10, ex_r x11, ex_r x12, ex_r x13, ex_r x14, ex_r x15, ex_r x16, ex_r x17, ex_r x18, ex_r x19, ex_r x20, ex_r x21, ex_r x22, ex_r x23, ex_r x24, ex_r x25, ex_i x26, ex_i x27, ex_r x28, ex_r x29, ex_r x30, ex_r x31, ex_r x32, ex_r x33, ex_r x34, ex_r x35, ex_r x36, ex_r x37, ex_r x38, ex_r x39, ex_i x40, ex_j x41, ex_r x42, ex_r x43, ex_r x44, ex_r x45, ex_r x46, ex_r x47, ex_r x48, ex_r x49, ex_r x50, ex_r x51, ex_r x52, ex_r x53, ex_i x54, ex_i x55, ex_i x56, ex_i x57, ex_r x58, ex_r x59, ex_r x60, ex_r x61, ex_i x62, ex_r x63, ex_r x64, ex_i ap, ex_j x66]), (x10, ex_a 1 10 ho), (x15, ex_a 1 12 zt), (x63, ex_a 1 6 po), (x64, ex_a 1 6 (upd s28_0 k28 (po k28)))]) dX12_pairs_48 rfl (vp_in_nI (show k28 < 6 by omega) (by decide)) (by rw [nI_clamp (by omega)]) rfl ?_
          refine X_iinc (v := nI (k28 + 1)) (j := 0) (lv' := [(4, ex_i (nI (k28 + 1))), (0, ex_r m), (1, ex_i (nI lf)), (2, ex_i al), (3, ex_i ap)]) dX12_pairs_49 rfl (nI_add k28 1) (Nat.le_of_ble_eq_true rfl) rfl ?_
          refine X_goto (tgt := 28) dX12_pairs_52 (by decide) ?_
          try dsimp only at hL28
          exact ihc28 (k28 + 1) (upd s28_0 k28 (po k28)) ⟨hL28, (show (k28 + 1) ≤ 6 by omega)⟩ (show 6 - (k28 + 1) < 6 - k28 by omega)
      try dsimp only at hV
      exact X_vret dX12_pairs_55 (by (repeat refine ex_kc ?_) <;> rfl) (by subst hV; exact ⟨rfl, rfl⟩)
    · have hV := hV.trans (if_neg c_10)
      refine X_iload_n (j := 3) dX12_pairs_11 rfl rfl ?_
      refine X_aload_n (j := 0) dX12_pairs_12 rfl rfl ?_
      refine X_get (j := 0) fo_X12_509 dX12_pairs_13 rfl rfl ?_
      refine X_icmp_lt (tgt := 20) dX12_pairs_16 (by decide) (fun c_13 => ?_) (fun c_13 => ?_)
      · have hV := hV.trans (if_pos c_13)
        refine X_aload_n (j := 0) dX12_pairs_20 rfl rfl ?_
        refine X_iload_n (j := 3) dX12_pairs_21 rfl rfl ?_
        refine X_put (j := 0) (cs' := [(m, ex_o 12 [ex_i x0, ex_i x1, ex_r x2, ex_i x3, ex_i x4, ex_i x5, ex_i x6, ex_j x7, ex_i x8, ex_i x9, ex_r x10, ex_r x11, ex_r x12, ex_r x13, ex_r x14, ex_r x15, ex_r x16, ex_r x17, ex_r x18, ex_r x19, ex_r x20, ex_r x21, ex_r x22, ex_r x23, ex_r x24, ex_r x25, ex_i x26, ex_i x27, ex_r x28, ex_r x29, ex_r x30, ex_r x31, ex_r x32, ex_r x33, ex_r x34, ex_r x35, ex_r x36, ex_r x37, ex_r x38, ex_r x39, ex_i x40, ex_j x41, ex_r x42, ex_r x43, ex_r x44, ex_r x45, ex_r x46, ex_r x47, ex_r x48, ex_r x49, ex_r x50, ex_r x51, ex_r x52, ex_r x53, ex_i x54, ex_i x55, ex_i x56, ex_i x57, ex_r x58, ex_r x59, ex_r x60, ex_r x61, ex_i x62, ex_r x63, ex_r x64, ex_i ap, ex_j x66]), (x10, ex_a 1 10 ho), (x15, ex_a 1 12 zt), (x63, ex_a 1 6 po), (x64, ex_a 1 6 bp)]) fo_X12_509 (by decide) dX12_pairs_22 rfl (Nat.le_of_ble_eq_true rfl) trivial rfl ?_
        refine X_iconst (v := 0) dX12_pairs_25 (by decide) ?_
        refine X_istore (lv' := [(4, ex_i 0), (0, ex_r m), (1, ex_i (nI lf)), (2, ex_i al), (3, ex_i ap)]) dX12_pairs_26 (Nat.le_of_ble_eq_true rfl) rfl ?_
        -- loop at 28
        try dsimp only at hV
        generalize hq_v_14 : F_X12_pairs_4_L28_2 po (6 - 0) 0 bp = v_14 at hV
        try dsimp only at hV
        refine X_cut (P := True) (csE := [(m, ex_o 12 [ex_i x0, ex_i x1, ex_r x2, ex_i x3, ex_i x4, ex_i x5, ex_i x6, ex_j x7, ex_i x8, ex_i x9, ex_r x10, ex_r x11, ex_r x12, ex_r x13, ex_r x14, ex_r x15, ex_r x16, ex_r x17, ex_r x18, ex_r x19, ex_r x20, ex_r x21, ex_r x22, ex_r x23, ex_r x24, ex_r x25, ex_i x26, ex_i x27, ex_r x28, ex_r x29, ex_r x30, ex_r x31, ex_r x32, ex_r x33, ex_r x34, ex_r x35, ex_r x36, ex_r x37, ex_r x38, ex_r x39, ex_i x40, ex_j x41, ex_r x42, ex_r x43, ex_r x44, ex_r x45, ex_r x46, ex_r x47, ex_r x48, ex_r x49, ex_r x50, ex_r x51, ex_r x52, ex_r x53, ex_i x54, ex_i x55, ex_i x56, ex_i x57, ex_r x58, ex_r x59, ex_r x60, ex_r x61, ex_i x62, ex_r x63, ex_r x64, ex_i ap, ex_j x66]), (x10, ex_a 1 10 ho), (x15, ex_a 1 12 zt), (x63, ex_a 1 6 po), (x64, ex_a 1 6 v_14)]) (lvE := [(0, ex_r m), (1, ex_i (nI lf)), (2, ex_i al), (3, ex_i ap)]) (E := 55) (fun hrest28 => ?_) (fun hPX28 => ?_)
        · have hL28 := hq_v_14.symm
          refine X_ind (fun (a28 : Nat × (Nat → Int32)) => v_14 = F_X12_pairs_4_L28_2 po (6 - a28.1) a28.1 a28.2 ∧ a28.1 ≤ 6) (fun (a28 : Nat × (Nat → Int32)) => 6 - a28.1) (fun (a28 : Nat × (Nat → Int32)) => [(m, ex_o 12 [ex_i x0, ex_i x1, ex_r x2, ex_i x3, ex_i x4, ex_i x5, ex_i x6, ex_j x7, ex_i x8, ex_i x9, ex_r x10, ex_r x11, ex_r x12, ex_r x13, ex_r x14, ex_r x15, ex_r x16, ex_r x17, ex_r x18, ex_r x19, ex_r x20, ex_r x21, ex_r x22, ex_r x23, ex_r x24, ex_r x25, ex_i x26, ex_i x27, ex_r x28, ex_r x29, ex_r x30, ex_r x31, ex_r x32, ex_r x33, ex_r x34, ex_r x35, ex_r x36, ex_r x37, ex_r x38, ex_r x39, ex_i x40, ex_j x41, ex_r x42, ex_r x43, ex_r x44, ex_r x45, ex_r x46, ex_r x47, ex_r x48, ex_r x49, ex_r x50, ex_r x51, ex_r x52, ex_r x53, ex_i x54, ex_i x55, ex_i x56, ex_i x57, ex_r x58, ex_r x59, ex_r x60, ex_r x61, ex_i x62, ex_r x63, ex_r x64, ex_i ap, ex_j x66]), (x10, ex_a 1 10 ho), (x15, ex_a 1 12 zt), (x63, ex_a 1 6 po), (x64, ex_a 1 6 a28.2)]) (fun (a28 : Nat × (Nat → Int32)) => [(4, ex_i (nI a28.1)), (0, ex_r m), (1, ex_i (nI lf)), (2, ex_i al), (3, ex_i ap)]) (fun ⟨k28, s28_0⟩ hI28 ih28 => ?_) (0, bp) ⟨hL28, (by omega)⟩
          try dsimp only at hI28 ih28 ⊢
          have ihc28 : ∀ (k28_ : Nat) (s28_0_ : Nat → Int32), (v_14 = F_X12_pairs_4_L28_2 po (6 - k28_) k28_ s28_0_ ∧ k28_ ≤ 6) → (6 - k28_) < (6 - k28) → ex_O _ _ _ _ _ _ _ _ _ [(m, ex_o 12 [ex_i x0, ex_i x1, ex_r x2, ex_i x3, ex_i x4, ex_i x5, ex_i x6, ex_j x7, ex_i x8, ex_i x9, ex_r x10, ex_r x11, ex_r x12, ex_r x13, ex_r x14, ex_r x15, ex_r x16, ex_r x17, ex_r x18, ex_r x19, ex_r x20, ex_r x21, ex_r x22, ex_r x23, ex_r x24, ex_r x25, ex_i x26, ex_i x27, ex_r x28, ex_r x29, ex_r x30, ex_r x31, ex_r x32, ex_r x33, ex_r x34, ex_r x35, ex_r x36, ex_r x37, ex_r x38, ex_r x39, ex_i x40, ex_j x41, ex_r x42, ex_r x43, ex_r x44, ex_r x45, ex_r x46, ex_r x47, ex_r x48, ex_r x49, ex_r x50, ex_r x51, ex_r x52, ex_r x53, ex_i x54, ex_i x55, ex_i x56, ex_i x57, ex_r x58, ex_r x59, ex_r x60, ex_r x61, ex_i x62, ex_r x63, ex_r x64, ex_i ap, ex_j x66]), (x10, ex_a 1 10 ho), (x15, ex_a 1 12 zt), (x63, ex_a 1 6 po), (x64, ex_a 1 6 s28_0_)] [(4, ex_i (nI k28_)), (0, ex_r m), (1, ex_i (nI lf)), (2, ex_i al), (3, ex_i ap)] _ _ := fun k28_ s28_0_ hi_ hm_ => ih28 (k28_, s28_0_) hi_ hm_
          have hL28 := hI28.1
          have hb28 := hI28.2
          refine X_iload (j := 0) dX12_pairs_28 rfl ?_
          refine X_bipush (v := 6) dX12_pairs_30 (by decide) ?_
          refine X_icmp_ge (tgt := 55) dX12_pairs_32 (by decide) (fun c_15 => ?_) (fun c_15 => ?_)
          · have hlt28 : k28 = 6 := nlex (L := 6) (by omega) hb28 c_15
            rw [show 6 - k28 = 0 by omega] at hL28
            have hL28 := hL28.trans (F_X12_pairs_4_L28_2_z ..)
            try dsimp only at hL28
            refine X_lv (lv' := [(0, ex_r m), (1, ex_i (nI lf)), (2, ex_i al), (3, ex_i ap)]) [1, 2, 3, 4] rfl ?_
            refine X_eq (cs' := [(m, ex_o 12 [ex_i x0, ex_i x1, ex_r x2, ex_i x3, ex_i x4, ex_i x5, ex_i x6, ex_j x7, ex_i x8, ex_i x9, ex_r x10, ex_r x11, ex_r x12, ex_r x13, ex_r x14, ex_r x15, ex_r x16, ex_r x17, ex_r x18, ex_r x19, ex_r x20, ex_r x21, ex_r x22, ex_r x23, ex_r x24, ex_r x25, ex_i x26, ex_i x27, ex_r x28, ex_r x29, ex_r x30, ex_r x31, ex_r x32, ex_r x33, ex_r x34, ex_r x35, ex_r x36, ex_r x37, ex_r x38, ex_r x39, ex_i x40, ex_j x41, ex_r x42, ex_r x43, ex_r x44, ex_r x45, ex_r x46, ex_r x47, ex_r x48, ex_r x49, ex_r x50, ex_r x51, ex_r x52, ex_r x53, ex_i x54, ex_i x55, ex_i x56, ex_i x57, ex_r x58, ex_r x59, ex_r x60, ex_r x61, ex_i x62, ex_r x63, ex_r x64, ex_i ap, ex_j x66]), (x10, ex_a 1 10 ho), (x15, ex_a 1 12 zt), (x63, ex_a 1 6 po), (x64, ex_a 1 6 v_14)]) (lv' := [(0, ex_r m), (1, ex_i (nI lf)), (2, ex_i al), (3, ex_i ap)]) (by subst hL28; rfl) (by subst hL28; rfl) ?_
            exact hrest28 trivial
          · have hlt28 : k28 < 6 := nlen (L := 6) (by omega) hb28 c_15
            rw [show 6 - k28 = (6 - (k28 + 1)) + 1 by omega] at hL28
            have hL28 := hL28.trans (F_X12_pairs_4_L28_2_s ..)
            refine X_aload_n (j := 1) dX12_pairs_35 rfl rfl ?_
            refine X_get (j := 0) fo_X12_150 dX12_pairs_36 rfl rfl ?_
            refine X_iload (j := 0) dX12_pairs_39 rfl ?_
            refine X_aload_n (j := 1) dX12_pairs_41 rfl rfl ?_
            refine X_get (j := 0) fo_X12_147 dX12_pairs_42 rfl rfl ?_
            refine X_iload (j := 0) dX12_pairs_45 rfl ?_
            refine X_iald (j := 3) (v := (po k28)) dX12_pairs_47 rfl (vp_in_nI (show k28 < 6 by omega) (by decide)) (by rw [nI_clamp (by omega)]) ?_
            refine X_iast (j := 4) (g := upd s28_0 k28 (po k28)) (cs' := [(m, ex_o 12 [ex_i x0, ex_i x1, ex_r x2, ex_i x3, ex_i x4, ex_i x5, ex_i x6, ex_j x7, ex_i x8, ex_i x9, ex_r x10, ex_r x11, ex_r x12, ex_r x13, ex_r x14, ex_r x15, ex_r x16, ex_r x17, ex_r x18, ex_r x19, ex_r x20, ex_r x21, ex_r x22, ex_r x23, ex_r x24, ex_r x25, ex_i x26, ex_i x27, ex_r x28, ex_r x29, ex_r x30, ex_r x31, ex_r x32, ex_r x33, ex_r x34, ex_r x35, ex_r x36, ex_r x37, ex_r x38, ex_r x39, ex_i x40, ex_j x41, ex_r x42, ex_r x43, ex_r x44, ex_r x45, ex_r x46, ex_r x47, ex_r x48, ex_r x49, ex_r x50, ex_r x51, ex_r x52, ex_r x53, ex_i x54, ex_i x55, ex_i x56, ex_i x57, ex_r x58, ex_r x59, ex_r x60, ex_r x61, ex_i x62, ex_r x63, ex_r x64, ex_i ap, ex_j x66]), (x10, ex_a 1 10 ho), (x15, ex_a 1 12 zt), (x63, ex_a 1 6 po), (x64, ex_a 1 6 (upd s28_0 k28 (po k28)))]) dX12_pairs_48 rfl (vp_in_nI (show k28 < 6 by omega) (by decide)) (by rw [nI_clamp (by omega)]) rfl ?_
            refine X_iinc (v := nI (k28 + 1)) (j := 0) (lv' := [(4, ex_i (nI (k28 + 1))), (0, ex_r m), (1, ex_i (nI lf)), (2, ex_i al), (3, ex_i ap)]) dX12_pairs_49 rfl (nI_add k28 1) (Nat.le_of_ble_eq_true rfl) rfl ?_
            refine X_goto (tgt := 28) dX12_pairs_52 (by decide) ?_
            try dsimp only at hL28
            exact ihc28 (k28 + 1) (upd s28_0 k28 (po k28)) ⟨hL28, (show (k28 + 1) ≤ 6 by omega)⟩ (show 6 - (k28 + 1) < 6 - k28 by omega)
        try dsimp only at hV
        exact X_vret dX12_pairs_55 (by (repeat refine ex_kc ?_) <;> rfl) (by subst hV; exact ⟨rfl, rfl⟩)
      · have hV := hV.trans (if_neg c_13)
        try dsimp only at hV
        exact X_vret dX12_pairs_19 (by (repeat refine ex_kc ?_) <;> rfl) (by subst hV; exact ⟨rfl, rfl⟩)

def F_X12_pairs_5_L59 (lf : Nat) : Nat → Nat → Nat
  | 0, p59 => p59
  | zn + 1, p59 => (if (((nI lf) >>> ((nI p59) &&& 31)) &&& 1) = 0 then F_X12_pairs_5_L59 lf zn (p59 + 1) else p59)
theorem F_X12_pairs_5_L59_z (lf : Nat) (p59 : Nat) : F_X12_pairs_5_L59 lf 0 p59 = p59 := rfl
theorem F_X12_pairs_5_L59_s (lf : Nat) (p59 : Nat) (zn : Nat) : F_X12_pairs_5_L59 lf (zn + 1) p59 = (if (((nI lf) >>> ((nI p59) &&& 31)) &&& 1) = 0 then F_X12_pairs_5_L59 lf zn (p59 + 1) else p59) := rfl
def F_X12_pairs_5_L80 (np : Nat) (lf : Nat) (al : Int32) (ap : Int32) (zt : Nat → Int32) : Nat → Nat → Int32 → (Nat → Int32) → (Nat → Int32) → Int32 × (Nat → Int32) × (Nat → Int32)
  | 0, k80, s80_0, s80_1, s80_2 => (s80_0, s80_1, s80_2)
  | zn + 1, k80, s80_0, s80_1, s80_2 => (if (((nI lf) >>> ((nI k80) &&& 31)) &&& 1) = 0 then F_X12_pairs_5_L80 np lf al ap zt zn (k80 + 1) s80_0 s80_1 s80_2 else ((fun (w_7 : Int32 × (Nat → Int32) × (Nat → Int32)) => F_X12_pairs_5_L80 np lf al ap zt zn (k80 + 1) w_7.1 w_7.2.1 w_7.2.2) (F_X12_pairs_4 np ((lf - 2 ^ tz6 lf) - 2 ^ k80) al (ap + (F_X12_away (zt (tz6 lf)) (zt k80))) s80_0 zt (upd (upd s80_1 (tz6 lf) (nI k80)) k80 (nI (tz6 lf))) s80_2)))
theorem F_X12_pairs_5_L80_z (np : Nat) (lf : Nat) (al : Int32) (ap : Int32) (zt : Nat → Int32) (k80 : Nat) (s80_0 : Int32) (s80_1 : Nat → Int32) (s80_2 : Nat → Int32) : F_X12_pairs_5_L80 np lf al ap zt 0 k80 s80_0 s80_1 s80_2 = (s80_0, s80_1, s80_2) := rfl
theorem F_X12_pairs_5_L80_s (np : Nat) (lf : Nat) (al : Int32) (ap : Int32) (zt : Nat → Int32) (k80 : Nat) (s80_0 : Int32) (s80_1 : Nat → Int32) (s80_2 : Nat → Int32) (zn : Nat) : F_X12_pairs_5_L80 np lf al ap zt (zn + 1) k80 s80_0 s80_1 s80_2 = (if (((nI lf) >>> ((nI k80) &&& 31)) &&& 1) = 0 then F_X12_pairs_5_L80 np lf al ap zt zn (k80 + 1) s80_0 s80_1 s80_2 else ((fun (w_7 : Int32 × (Nat → Int32) × (Nat → Int32)) => F_X12_pairs_5_L80 np lf al ap zt zn (k80 + 1) w_7.1 w_7.2.1 w_7.2.2) (F_X12_pairs_4 np ((lf - 2 ^ tz6 lf) - 2 ^ k80) al (ap + (F_X12_away (zt (tz6 lf)) (zt k80))) s80_0 zt (upd (upd s80_1 (tz6 lf) (nI k80)) k80 (nI (tz6 lf))) s80_2))) := rfl
def F_X12_pairs_5_L28 (po : Nat → Int32) : Nat → Nat → (Nat → Int32) → (Nat → Int32)
  | 0, k28, s28_0 => s28_0
  | zn + 1, k28, s28_0 => F_X12_pairs_5_L28 po zn (k28 + 1) (upd s28_0 k28 (po k28))
theorem F_X12_pairs_5_L28_z (po : Nat → Int32) (k28 : Nat) (s28_0 : Nat → Int32) : F_X12_pairs_5_L28 po 0 k28 s28_0 = s28_0 := rfl
theorem F_X12_pairs_5_L28_s (po : Nat → Int32) (k28 : Nat) (s28_0 : Nat → Int32) (zn : Nat) : F_X12_pairs_5_L28 po (zn + 1) k28 s28_0 = F_X12_pairs_5_L28 po zn (k28 + 1) (upd s28_0 k28 (po k28)) := rfl
def F_X12_pairs_5_L28_2 (po : Nat → Int32) : Nat → Nat → (Nat → Int32) → (Nat → Int32)
  | 0, k28, s28_0 => s28_0
  | zn + 1, k28, s28_0 => F_X12_pairs_5_L28_2 po zn (k28 + 1) (upd s28_0 k28 (po k28))
theorem F_X12_pairs_5_L28_2_z (po : Nat → Int32) (k28 : Nat) (s28_0 : Nat → Int32) : F_X12_pairs_5_L28_2 po 0 k28 s28_0 = s28_0 := rfl
theorem F_X12_pairs_5_L28_2_s (po : Nat → Int32) (k28 : Nat) (s28_0 : Nat → Int32) (zn : Nat) : F_X12_pairs_5_L28_2 po (zn + 1) k28 s28_0 = F_X12_pairs_5_L28_2 po zn (k28 + 1) (upd s28_0 k28 (po k28)) := rfl
def F_X12_pairs_5 (np : Nat) (lf : Nat) (al : Int32) (ap : Int32) (x65 : Int32) (zt : Nat → Int32) (po : Nat → Int32) (bp : Nat → Int32) : Int32 × (Nat → Int32) × (Nat → Int32) := (if (nI lf) = 0 then (if x65 < 0 then ((fun (v_11 : (Nat → Int32)) => (ap, po, v_11)) (F_X12_pairs_5_L28 po (6 - 0) 0 bp)) else (if ap < x65 then ((fun (v_14 : (Nat → Int32)) => (ap, po, v_14)) (F_X12_pairs_5_L28_2 po (6 - 0) 0 bp)) else (x65, po, bp))) else ((fun (v_2 : Nat) => ((fun (v_4 : Int32 × (Nat → Int32) × (Nat → Int32)) => (if al = 0 then (v_4.1, upd v_4.2.1 (tz6 lf) (-1), v_4.2.2) else ((fun (w_9 : Int32 × (Nat → Int32) × (Nat → Int32)) => (w_9.1, w_9.2.1, w_9.2.2)) (F_X12_pairs_4 np (lf - 2 ^ tz6 lf) 0 ap v_4.1 zt (upd v_4.2.1 (tz6 lf) (-1)) v_4.2.2)))) (F_X12_pairs_5_L80 np lf al ap zt (np - ((tz6 lf) + 1)) ((tz6 lf) + 1) x65 po bp))) (F_X12_pairs_5_L59 lf 7 0)))
set_option maxHeartbeats 4000000 in
set_option maxRecDepth 100000 in
theorem e_X12_pairs_5 (l : Launch) (np : Nat) (m : Nat) (lf : Nat) (al : Int32) (ap : Int32) (x0 : Int32) (x1 : Int32) (x2 : Nat) (x3 : Int32) (x4 : Int32) (x5 : Int32) (x6 : Int32) (x7 : Int64) (x8 : Int32) (x9 : Int32) (x10 : Nat) (x11 : Nat) (x12 : Nat) (x13 : Nat) (x14 : Nat) (x15 : Nat) (x16 : Nat) (x17 : Nat) (x18 : Nat) (x19 : Nat) (x20 : Nat) (x21 : Nat) (x22 : Nat) (x23 : Nat) (x24 : Nat) (x25 : Nat) (x26 : Int32) (x27 : Int32) (x28 : Nat) (x29 : Nat) (x30 : Nat) (x31 : Nat) (x32 : Nat) (x33 : Nat) (x34 : Nat) (x35 : Nat) (x36 : Nat) (x37 : Nat) (x38 : Nat) (x39 : Nat) (x40 : Int32) (x41 : Int64) (x42 : Nat) (x43 : Nat) (x44 : Nat) (x45 : Nat) (x46 : Nat) (x47 : Nat) (x48 : Nat) (x49 : Nat) (x50 : Nat) (x51 : Nat) (x52 : Nat) (x53 : Nat) (x54 : Int32) (x55 : Int32) (x56 : Int32) (x57 : Int32) (x58 : Nat) (x59 : Nat) (x60 : Nat) (x61 : Nat) (x62 : Int32) (x63 : Nat) (x64 : Nat) (x65 : Int32) (x66 : Int64) (ho : Nat → Int32) (zt : Nat → Int32) (po : Nat → Int32) (bp : Nat → Int32) (hho0 : ho 0 = nI np) (hnp : np ≤ 6) (hlf : lf < 64) (hln : lf < 2 ^ np) (hb : bits6 lf ≤ 5) : ex_M l yX12_pairs cX12_pairs 6 none 5 125 [ex_r m, ex_i (nI lf), ex_i al, ex_i ap] [(m, ex_o 12 [ex_i x0, ex_i x1, ex_r x2, ex_i x3, ex_i x4, ex_i x5, ex_i x6, ex_j x7, ex_i x8, ex_i x9, ex_r x10, ex_r x11, ex_r x12, ex_r x13, ex_r x14, ex_r x15, ex_r x16, ex_r x17, ex_r x18, ex_r x19, ex_r x20, ex_r x21, ex_r x22, ex_r x23, ex_r x24, ex_r x25, ex_i x26, ex_i x27, ex_r x28, ex_r x29, ex_r x30, ex_r x31, ex_r x32, ex_r x33, ex_r x34, ex_r x35, ex_r x36, ex_r x37, ex_r x38, ex_r x39, ex_i x40, ex_j x41, ex_r x42, ex_r x43, ex_r x44, ex_r x45, ex_r x46, ex_r x47, ex_r x48, ex_r x49, ex_r x50, ex_r x51, ex_r x52, ex_r x53, ex_i x54, ex_i x55, ex_i x56, ex_i x57, ex_r x58, ex_r x59, ex_r x60, ex_r x61, ex_i x62, ex_r x63, ex_r x64, ex_i x65, ex_j x66]), (x10, ex_a 1 10 ho), (x15, ex_a 1 12 zt), (x63, ex_a 1 6 po), (x64, ex_a 1 6 bp)] (fun zcs zr => zcs = [(m, ex_o 12 [ex_i x0, ex_i x1, ex_r x2, ex_i x3, ex_i x4, ex_i x5, ex_i x6, ex_j x7, ex_i x8, ex_i x9, ex_r x10, ex_r x11, ex_r x12, ex_r x13, ex_r x14, ex_r x15, ex_r x16, ex_r x17, ex_r x18, ex_r x19, ex_r x20, ex_r x21, ex_r x22, ex_r x23, ex_r x24, ex_r x25, ex_i x26, ex_i x27, ex_r x28, ex_r x29, ex_r x30, ex_r x31, ex_r x32, ex_r x33, ex_r x34, ex_r x35, ex_r x36, ex_r x37, ex_r x38, ex_r x39, ex_i x40, ex_j x41, ex_r x42, ex_r x43, ex_r x44, ex_r x45, ex_r x46, ex_r x47, ex_r x48, ex_r x49, ex_r x50, ex_r x51, ex_r x52, ex_r x53, ex_i x54, ex_i x55, ex_i x56, ex_i x57, ex_r x58, ex_r x59, ex_r x60, ex_r x61, ex_i x62, ex_r x63, ex_r x64, ex_i ((F_X12_pairs_5 np lf al ap x65 zt po bp).1), ex_j x66]), (x10, ex_a 1 10 ho), (x15, ex_a 1 12 zt), (x63, ex_a 1 6 ((F_X12_pairs_5 np lf al ap x65 zt po bp).2.1)), (x64, ex_a 1 6 ((F_X12_pairs_5 np lf al ap x65 zt po bp).2.2))] ∧ zr = none) := by
  refine X_meth (by decide) (Nat.le_of_ble_eq_true rfl) ?_
  generalize hV : F_X12_pairs_5 np lf al ap x65 zt po bp = V0
  have hV := hV.symm
  unfold F_X12_pairs_5 at hV
  try dsimp only at hV
  refine X_iload_n (j := 1) dX12_pairs_0 rfl rfl ?_
  refine X_if_ne (tgt := 56) dX12_pairs_1 (by decide) (fun c_1 => ?_) (fun c_1 => ?_)
  · have hV := hV.trans (if_neg c_1)
    have hl0 : ¬ lf = 0 := fun q => c_1 (by rw [q]; rfl)
    have htz : tz6 lf < 6 := tz_lt hlf hl0
    have hO : lf - 2 ^ tz6 lf < 64 := Nat.lt_of_le_of_lt (Nat.sub_le _ _) hlf
    have htn : tz6 lf < np := tz_np hlf hl0 hnp hln
    refine X_iconst (v := 0) dX12_pairs_56 (by decide) ?_
    refine X_istore (lv' := [(4, ex_i 0), (0, ex_r m), (1, ex_i (nI lf)), (2, ex_i al), (3, ex_i ap)]) dX12_pairs_57 (Nat.le_of_ble_eq_true rfl) rfl ?_
    -- loop at 59
    try dsimp only at hV
    generalize hq_v_2 : F_X12_pairs_5_L59 lf 7 0 = v_2 at hV
    try dsimp only at hV
    refine X_cut (P := (v_2 = tz6 lf)) (csE := [(m, ex_o 12 [ex_i x0, ex_i x1, ex_r x2, ex_i x3, ex_i x4, ex_i x5, ex_i x6, ex_j x7, ex_i x8, ex_i x9, ex_r x10, ex_r x11, ex_r x12, ex_r x13, ex_r x14, ex_r x15, ex_r x16, ex_r x17, ex_r x18, ex_r x19, ex_r x20, ex_r x21, ex_r x22, ex_r x23, ex_r x24, ex_r x25, ex_i x26, ex_i x27, ex_r x28, ex_r x29, ex_r x30, ex_r x31, ex_r x32, ex_r x33, ex_r x34, ex_r x35, ex_r x36, ex_r x37, ex_r x38, ex_r x39, ex_i x40, ex_j x41, ex_r x42, ex_r x43, ex_r x44, ex_r x45, ex_r x46, ex_r x47, ex_r x48, ex_r x49, ex_r x50, ex_r x51, ex_r x52, ex_r x53, ex_i x54, ex_i x55, ex_i x56, ex_i x57, ex_r x58, ex_r x59, ex_r x60, ex_r x61, ex_i x62, ex_r x63, ex_r x64, ex_i x65, ex_j x66]), (x10, ex_a 1 10 ho), (x15, ex_a 1 12 zt), (x63, ex_a 1 6 po), (x64, ex_a 1 6 bp)]) (lvE := [(4, ex_i (nI v_2)), (0, ex_r m), (1, ex_i (nI lf)), (2, ex_i al), (3, ex_i ap)]) (E := 74) (fun hrest59 => ?_) (fun hPX59 => ?_)
    · have hL59 := hq_v_2.symm
      refine X_ind (fun (a59 : Nat × Nat) => v_2 = F_X12_pairs_5_L59 lf a59.1 a59.2 ∧ (a59.2 ≤ tz6 lf ∧ 7 ≤ a59.1 + a59.2)) (fun (a59 : Nat × Nat) => a59.1) (fun (a59 : Nat × Nat) => [(m, ex_o 12 [ex_i x0, ex_i x1, ex_r x2, ex_i x3, ex_i x4, ex_i x5, ex_i x6, ex_j x7, ex_i x8, ex_i x9, ex_r x10, ex_r x11, ex_r x12, ex_r x13, ex_r x14, ex_r x15, ex_r x16, ex_r x17, ex_r x18, ex_r x19, ex_r x20, ex_r x21, ex_r x22, ex_r x23, ex_r x24, ex_r x25, ex_i x26, ex_i x27, ex_r x28, ex_r x29, ex_r x30, ex_r x31, ex_r x32, ex_r x33, ex_r x34, ex_r x35, ex_r x36, ex_r x37, ex_r x38, ex_r x39, ex_i x40, ex_j x41, ex_r x42, ex_r x43, ex_r x44, ex_r x45, ex_r x46, ex_r x47, ex_r x48, ex_r x49, ex_r x50, ex_r x51, ex_r x52, ex_r x53, ex_i x54, ex_i x55, ex_i x56, ex_i x57, ex_r x58, ex_r x59, ex_r x60, ex_r x61, ex_i x62, ex_r x63, ex_r x64, ex_i x65, ex_j x66]), (x10, ex_a 1 10 ho), (x15, ex_a 1 12 zt), (x63, ex_a 1 6 po), (x64, ex_a 1 6 bp)]) (fun (a59 : Nat × Nat) => [(4, ex_i (nI a59.2)), (0, ex_r m), (1, ex_i (nI lf)), (2, ex_i al), (3, ex_i ap)]) (fun ⟨zf59, p59⟩ hI59 ih59 => ?_) (7, 0) ⟨hL59, ⟨Nat.zero_le _, Nat.le_refl _⟩⟩
      try dsimp only at hI59 ih59 ⊢
      have ihc59 : ∀ (zf59_ : Nat) (p59_ : Nat), (v_2 = F_X12_pairs_5_L59 lf zf59_ p59_ ∧ (p59_ ≤ tz6 lf ∧ 7 ≤ zf59_ + p59_)) → zf59_ < zf59 → ex_O _ _ _ _ _ _ _ _ _ [(m, ex_o 12 [ex_i x0, ex_i x1, ex_r x2, ex_i x3, ex_i x4, ex_i x5, ex_i x6, ex_j x7, ex_i x8, ex_i x9, ex_r x10, ex_r x11, ex_r x12, ex_r x13, ex_r x14, ex_r x15, ex_r x16, ex_r x17, ex_r x18, ex_r x19, ex_r x20, ex_r x21, ex_r x22, ex_r x23, ex_r x24, ex_r x25, ex_i x26, ex_i x27, ex_r x28, ex_r x29, ex_r x30, ex_r x31, ex_r x32, ex_r x33, ex_r x34, ex_r x35, ex_r x36, ex_r x37, ex_r x38, ex_r x39, ex_i x40, ex_j x41, ex_r x42, ex_r x43, ex_r x44, ex_r x45, ex_r x46, ex_r x47, ex_r x48, ex_r x49, ex_r x50, ex_r x51, ex_r x52, ex_r x53, ex_i x54, ex_i x55, ex_i x56, ex_i x57, ex_r x58, ex_r x59, ex_r x60, ex_r x61, ex_i x62, ex_r x63, ex_r x64, ex_i x65, ex_j x66]), (x10, ex_a 1 10 ho), (x15, ex_a 1 12 zt), (x63, ex_a 1 6 po), (x64, ex_a 1 6 bp)] [(4, ex_i (nI p59_)), (0, ex_r m), (1, ex_i (nI lf)), (2, ex_i al), (3, ex_i ap)] _ _ := fun zf59_ p59_ hi_ hm_ => ih59 (zf59_, p59_) hi_ hm_
      have hL59 := hI59.1
      have hp59 := hI59.2
      obtain ⟨zn, rfl⟩ : ∃ zn, zf59 = zn + 1 := ex_ow (by have hz := hp59.1; have hy := hp59.2; omega)
      have hL59 := hL59.trans (F_X12_pairs_5_L59_s ..)
      refine X_iload_n (j := 2) dX12_pairs_59 rfl rfl ?_
      refine X_iload (j := 0) dX12_pairs_60 rfl ?_
      refine X_ishr (v := ((nI lf) >>> ((nI p59) &&& 31))) dX12_pairs_62 rfl ?_
      refine X_iconst (v := 1) dX12_pairs_63 (by decide) ?_
      refine X_iand (v := (((nI lf) >>> ((nI p59) &&& 31)) &&& 1)) dX12_pairs_64 rfl ?_
      refine X_if_ne (tgt := 74) dX12_pairs_65 (by decide) (fun c_3 => ?_) (fun c_3 => ?_)
      · have hL59 := hL59.trans (if_neg c_3)
        try dsimp only at hL59
        refine X_eq (cs' := [(m, ex_o 12 [ex_i x0, ex_i x1, ex_r x2, ex_i x3, ex_i x4, ex_i x5, ex_i x6, ex_j x7, ex_i x8, ex_i x9, ex_r x10, ex_r x11, ex_r x12, ex_r x13, ex_r x14, ex_r x15, ex_r x16, ex_r x17, ex_r x18, ex_r x19, ex_r x20, ex_r x21, ex_r x22, ex_r x23, ex_r x24, ex_r x25, ex_i x26, ex_i x27, ex_r x28, ex_r x29, ex_r x30, ex_r x31, ex_r x32, ex_r x33, ex_r x34, ex_r x35, ex_r x36, ex_r x37, ex_r x38, ex_r x39, ex_i x40, ex_j x41, ex_r x42, ex_r x43, ex_r x44, ex_r x45, ex_r x46, ex_r x47, ex_r x48, ex_r x49, ex_r x50, ex_r x51, ex_r x52, ex_r x53, ex_i x54, ex_i x55, ex_i x56, ex_i x57, ex_r x58, ex_r x59, ex_r x60, ex_r x61, ex_i x62, ex_r x63, ex_r x64, ex_i x65, ex_j x66]), (x10, ex_a 1 10 ho), (x15, ex_a 1 12 zt), (x63, ex_a 1 6 po), (x64, ex_a 1 6 bp)]) (lv' := [(4, ex_i (nI v_2)), (0, ex_r m), (1, ex_i (nI lf)), (2, ex_i al), (3, ex_i ap)]) (by subst hL59; rfl) (by subst hL59; rfl) ?_
        exact hrest59 (by subst hL59; exact tz_at hlf hl0 hp59.1 c_3)
      · have hL59 := hL59.trans (if_pos c_3)
        refine X_iinc (v := nI (p59 + 1)) (j := 0) (lv' := [(4, ex_i (nI (p59 + 1))), (0, ex_r m), (1, ex_i (nI lf)), (2, ex_i al), (3, ex_i ap)]) dX12_pairs_68 rfl (nI_add p59 1) (Nat.le_of_ble_eq_true rfl) rfl ?_
        refine X_goto (tgt := 59) dX12_pairs_71 (by decide) ?_
        try dsimp only at hL59
        exact ihc59 zn (p59 + 1) ⟨hL59, ⟨tz_go hlf hl0 hp59.1 c_3, by have hz := hp59.2; omega⟩⟩ (Nat.lt_succ_self _)
    have hp59_x := hPX59
    refine X_eq (cs' := [(m, ex_o 12 [ex_i x0, ex_i x1, ex_r x2, ex_i x3, ex_i x4, ex_i x5, ex_i x6, ex_j x7, ex_i x8, ex_i x9, ex_r x10, ex_r x11, ex_r x12, ex_r x13, ex_r x14, ex_r x15, ex_r x16, ex_r x17, ex_r x18, ex_r x19, ex_r x20, ex_r x21, ex_r x22, ex_r x23, ex_r x24, ex_r x25, ex_i x26, ex_i x27, ex_r x28, ex_r x29, ex_r x30, ex_r x31, ex_r x32, ex_r x33, ex_r x34, ex_r x35, ex_r x36, ex_r x37, ex_r x38, ex_r x39, ex_i x40, ex_j x41, ex_r x42, ex_r x43, ex_r x44, ex_r x45, ex_r x46, ex_r x47, ex_r x48, ex_r x49, ex_r x50, ex_r x51, ex_r x52, ex_r x53, ex_i x54, ex_i x55, ex_i x56, ex_i x57, ex_r x58, ex_r x59, ex_r x60, ex_r x61, ex_i x62, ex_r x63, ex_r x64, ex_i x65, ex_j x66]), (x10, ex_a 1 10 ho), (x15, ex_a 1 12 zt), (x63, ex_a 1 6 po), (x64, ex_a 1 6 bp)]) (lv' := [(4, ex_i (nI (tz6 lf))), (0, ex_r m), (1, ex_i (nI lf)), (2, ex_i al), (3, ex_i ap)]) rfl (by rw [hp59_x] <;> rfl) ?_
    refine X_iload (j := 0) dX12_pairs_74 rfl ?_
    refine X_iconst (v := 1) dX12_pairs_76 (by decide) ?_
    refine X_iadd (v := nI ((tz6 lf) + 1)) dX12_pairs_77 (nI_add (tz6 lf) 1) ?_
    refine X_istore (lv' := [(5, ex_i (nI ((tz6 lf) + 1))), (4, ex_i (nI (tz6 lf))), (0, ex_r m), (1, ex_i (nI lf)), (2, ex_i al), (3, ex_i ap)]) dX12_pairs_78 (Nat.le_of_ble_eq_true rfl) rfl ?_
    -- loop at 80
    try dsimp only at hV
    generalize hq_v_4 : F_X12_pairs_5_L80 np lf al ap zt (np - ((tz6 lf) + 1)) ((tz6 lf) + 1) x65 po bp = v_4 at hV
    try dsimp only at hV
    refine X_cut (P := True) (csE := [(m, ex_o 12 [ex_i x0, ex_i x1, ex_r x2, ex_i x3, ex_i x4, ex_i x5, ex_i x6, ex_j x7, ex_i x8, ex_i x9, ex_r x10, ex_r x11, ex_r x12, ex_r x13, ex_r x14, ex_r x15, ex_r x16, ex_r x17, ex_r x18, ex_r x19, ex_r x20, ex_r x21, ex_r x22, ex_r x23, ex_r x24, ex_r x25, ex_i x26, ex_i x27, ex_r x28, ex_r x29, ex_r x30, ex_r x31, ex_r x32, ex_r x33, ex_r x34, ex_r x35, ex_r x36, ex_r x37, ex_r x38, ex_r x39, ex_i x40, ex_j x41, ex_r x42, ex_r x43, ex_r x44, ex_r x45, ex_r x46, ex_r x47, ex_r x48, ex_r x49, ex_r x50, ex_r x51, ex_r x52, ex_r x53, ex_i x54, ex_i x55, ex_i x56, ex_i x57, ex_r x58, ex_r x59, ex_r x60, ex_r x61, ex_i x62, ex_r x63, ex_r x64, ex_i v_4.1, ex_j x66]), (x10, ex_a 1 10 ho), (x15, ex_a 1 12 zt), (x63, ex_a 1 6 v_4.2.1), (x64, ex_a 1 6 v_4.2.2)]) (lvE := [(4, ex_i (nI (tz6 lf))), (0, ex_r m), (1, ex_i (nI lf)), (2, ex_i al), (3, ex_i ap)]) (E := 166) (fun hrest80 => ?_) (fun hPX80 => ?_)
    · have hL80 := hq_v_4.symm
      refine X_ind (fun (a80 : Nat × Int32 × (Nat → Int32) × (Nat → Int32)) => v_4 = F_X12_pairs_5_L80 np lf al ap zt (np - a80.1) a80.1 a80.2.1 a80.2.2.1 a80.2.2.2 ∧ a80.1 ≤ np ∧ tz6 lf < a80.1) (fun (a80 : Nat × Int32 × (Nat → Int32) × (Nat → Int32)) => np - a80.1) (fun (a80 : Nat × Int32 × (Nat → Int32) × (Nat → Int32)) => [(m, ex_o 12 [ex_i x0, ex_i x1, ex_r x2, ex_i x3, ex_i x4, ex_i x5, ex_i x6, ex_j x7, ex_i x8, ex_i x9, ex_r x10, ex_r x11, ex_r x12, ex_r x13, ex_r x14, ex_r x15, ex_r x16, ex_r x17, ex_r x18, ex_r x19, ex_r x20, ex_r x21, ex_r x22, ex_r x23, ex_r x24, ex_r x25, ex_i x26, ex_i x27, ex_r x28, ex_r x29, ex_r x30, ex_r x31, ex_r x32, ex_r x33, ex_r x34, ex_r x35, ex_r x36, ex_r x37, ex_r x38, ex_r x39, ex_i x40, ex_j x41, ex_r x42, ex_r x43, ex_r x44, ex_r x45, ex_r x46, ex_r x47, ex_r x48, ex_r x49, ex_r x50, ex_r x51, ex_r x52, ex_r x53, ex_i x54, ex_i x55, ex_i x56, ex_i x57, ex_r x58, ex_r x59, ex_r x60, ex_r x61, ex_i x62, ex_r x63, ex_r x64, ex_i a80.2.1, ex_j x66]), (x10, ex_a 1 10 ho), (x15, ex_a 1 12 zt), (x63, ex_a 1 6 a80.2.2.1), (x64, ex_a 1 6 a80.2.2.2)]) (fun (a80 : Nat × Int32 × (Nat → Int32) × (Nat → Int32)) => [(5, ex_i (nI a80.1)), (4, ex_i (nI (tz6 lf))), (0, ex_r m), (1, ex_i (nI lf)), (2, ex_i al), (3, ex_i ap)]) (fun ⟨k80, s80_0, s80_1, s80_2⟩ hI80 ih80 => ?_) ((tz6 lf) + 1, x65, po, bp) ⟨hL80, (by omega), (Nat.lt_succ_self _)⟩
      try dsimp only at hI80 ih80 ⊢
      have ihc80 : ∀ (k80_ : Nat) (s80_0_ : Int32) (s80_1_ : Nat → Int32) (s80_2_ : Nat → Int32), (v_4 = F_X12_pairs_5_L80 np lf al ap zt (np - k80_) k80_ s80_0_ s80_1_ s80_2_ ∧ k80_ ≤ np ∧ tz6 lf < k80_) → (np - k80_) < (np - k80) → ex_O _ _ _ _ _ _ _ _ _ [(m, ex_o 12 [ex_i x0, ex_i x1, ex_r x2, ex_i x3, ex_i x4, ex_i x5, ex_i x6, ex_j x7, ex_i x8, ex_i x9, ex_r x10, ex_r x11, ex_r x12, ex_r x13, ex_r x14, ex_r x15, ex_r x16, ex_r x17, ex_r x18, ex_r x19, ex_r x20, ex_r x21, ex_r x22, ex_r x23, ex_r x24, ex_r x25, ex_i x26, ex_i x27, ex_r x28, ex_r x29, ex_r x30, ex_r x31, ex_r x32, ex_r x33, ex_r x34, ex_r x35, ex_r x36, ex_r x37, ex_r x38, ex_r x39, ex_i x40, ex_j x41, ex_r x42, ex_r x43, ex_r x44, ex_r x45, ex_r x46, ex_r x47, ex_r x48, ex_r x49, ex_r x50, ex_r x51, ex_r x52, ex_r x53, ex_i x54, ex_i x55, ex_i x56, ex_i x57, ex_r x58, ex_r x59, ex_r x60, ex_r x61, ex_i x62, ex_r x63, ex_r x64, ex_i s80_0_, ex_j x66]), (x10, ex_a 1 10 ho), (x15, ex_a 1 12 zt), (x63, ex_a 1 6 s80_1_), (x64, ex_a 1 6 s80_2_)] [(5, ex_i (nI k80_)), (4, ex_i (nI (tz6 lf))), (0, ex_r m), (1, ex_i (nI lf)), (2, ex_i al), (3, ex_i ap)] _ _ := fun k80_ s80_0_ s80_1_ s80_2_ hi_ hm_ => ih80 (k80_, s80_0_, s80_1_, s80_2_) hi_ hm_
      have hL80 := hI80.1
      have hb80 := hI80.2.1
      have hk80 := hI80.2.2
      refine X_iload (j := 0) dX12_pairs_80 rfl ?_
      refine X_aload_n (j := 2) dX12_pairs_82 rfl rfl ?_
      refine X_get (j := 0) fo_X12_13 dX12_pairs_83 rfl rfl ?_
      refine X_iconst (v := 0) dX12_pairs_86 (by decide) ?_
      refine X_iald (j := 1) (v := nI np) dX12_pairs_87 rfl (vin (by decide)) hho0 ?_
      refine X_icmp_ge (tgt := 166) dX12_pairs_88 (by decide) (fun c_5 => ?_) (fun c_5 => ?_)
      · have hlt80 : k80 = np := nlex (L := np) (by omega) hb80 c_5
        rw [show np - k80 = 0 by omega] at hL80
        have hL80 := hL80.trans (F_X12_pairs_5_L80_z ..)
        try dsimp only at hL80
        refine X_lv (lv' := [(4, ex_i (nI (tz6 lf))), (0, ex_r m), (1, ex_i (nI lf)), (2, ex_i al), (3, ex_i ap)]) [1, 2, 3, 4, 5] rfl ?_
        refine X_eq (cs' := [(m, ex_o 12 [ex_i x0, ex_i x1, ex_r x2, ex_i x3, ex_i x4, ex_i x5, ex_i x6, ex_j x7, ex_i x8, ex_i x9, ex_r x10, ex_r x11, ex_r x12, ex_r x13, ex_r x14, ex_r x15, ex_r x16, ex_r x17, ex_r x18, ex_r x19, ex_r x20, ex_r x21, ex_r x22, ex_r x23, ex_r x24, ex_r x25, ex_i x26, ex_i x27, ex_r x28, ex_r x29, ex_r x30, ex_r x31, ex_r x32, ex_r x33, ex_r x34, ex_r x35, ex_r x36, ex_r x37, ex_r x38, ex_r x39, ex_i x40, ex_j x41, ex_r x42, ex_r x43, ex_r x44, ex_r x45, ex_r x46, ex_r x47, ex_r x48, ex_r x49, ex_r x50, ex_r x51, ex_r x52, ex_r x53, ex_i x54, ex_i x55, ex_i x56, ex_i x57, ex_r x58, ex_r x59, ex_r x60, ex_r x61, ex_i x62, ex_r x63, ex_r x64, ex_i v_4.1, ex_j x66]), (x10, ex_a 1 10 ho), (x15, ex_a 1 12 zt), (x63, ex_a 1 6 v_4.2.1), (x64, ex_a 1 6 v_4.2.2)]) (lv' := [(4, ex_i (nI (tz6 lf))), (0, ex_r m), (1, ex_i (nI lf)), (2, ex_i al), (3, ex_i ap)]) (by subst hL80; rfl) (by subst hL80; rfl) ?_
        exact hrest80 trivial
      · have hlt80 : k80 < np := nlen (L := np) (by omega) hb80 c_5
        rw [show np - k80 = (np - (k80 + 1)) + 1 by omega] at hL80
        have hL80 := hL80.trans (F_X12_pairs_5_L80_s ..)
        refine X_iload_n (j := 3) dX12_pairs_91 rfl rfl ?_
        refine X_iload (j := 0) dX12_pairs_92 rfl ?_
        refine X_ishr (v := ((nI lf) >>> ((nI k80) &&& 31))) dX12_pairs_94 rfl ?_
        refine X_iconst (v := 1) dX12_pairs_95 (by decide) ?_
        refine X_iand (v := (((nI lf) >>> ((nI k80) &&& 31)) &&& 1)) dX12_pairs_96 rfl ?_
        refine X_if_ne (tgt := 103) dX12_pairs_97 (by decide) (fun c_6 => ?_) (fun c_6 => ?_)
        · have hL80 := hL80.trans (if_neg c_6)
          refine X_aload_n (j := 2) dX12_pairs_103 rfl rfl ?_
          refine X_get (j := 0) fo_X12_147 dX12_pairs_104 rfl rfl ?_
          refine X_iload (j := 1) dX12_pairs_107 rfl ?_
          refine X_iload (j := 0) dX12_pairs_109 rfl ?_
          refine X_iast (j := 3) (g := upd s80_1 (tz6 lf) (nI k80)) (cs' := [(m, ex_o 12 [ex_i x0, ex_i x1, ex_r x2, ex_i x3, ex_i x4, ex_i x5, ex_i x6, ex_j x7, ex_i x8, ex_i x9, ex_r x10, ex_r x11, ex_r x12, ex_r x13, ex_r x14, ex_r x15, ex_r x16, ex_r x17, ex_r x18, ex_r x19, ex_r x20, ex_r x21, ex_r x22, ex_r x23, ex_r x24, ex_r x25, ex_i x26, ex_i x27, ex_r x28, ex_r x29, ex_r x30, ex_r x31, ex_r x32, ex_r x33, ex_r x34, ex_r x35, ex_r x36, ex_r x37, ex_r x38, ex_r x39, ex_i x40, ex_j x41, ex_r x42, ex_r x43, ex_r x44, ex_r x45, ex_r x46, ex_r x47, ex_r x48, ex_r x49, ex_r x50, ex_r x51, ex_r x52, ex_r x53, ex_i x54, ex_i x55, ex_i x56, ex_i x57, ex_r x58, ex_r x59, ex_r x60, ex_r x61, ex_i x62, ex_r x63, ex_r x64, ex_i s80_0, ex_j x66]), (x10, ex_a 1 10 ho), (x15, ex_a 1 12 zt), (x63, ex_a 1 6 (upd s80_1 (tz6 lf) (nI k80))), (x64, ex_a 1 6 s80_2)]) dX12_pairs_111 rfl (vp_in_nI (show tz6 lf < 6 by omega) (by decide)) (by rw [nI_clamp (by omega)]) rfl ?_
          refine X_aload_n (j := 2) dX12_pairs_112 rfl rfl ?_
          refine X_get (j := 0) fo_X12_147 dX12_pairs_113 rfl rfl ?_
          refine X_iload (j := 0) dX12_pairs_116 rfl ?_
          refine X_iload (j := 1) dX12_pairs_118 rfl ?_
          refine X_iast (j := 3) (g := upd (upd s80_1 (tz6 lf) (nI k80)) k80 (nI (tz6 lf))) (cs' := [(m, ex_o 12 [ex_i x0, ex_i x1, ex_r x2, ex_i x3, ex_i x4, ex_i x5, ex_i x6, ex_j x7, ex_i x8, ex_i x9, ex_r x10, ex_r x11, ex_r x12, ex_r x13, ex_r x14, ex_r x15, ex_r x16, ex_r x17, ex_r x18, ex_r x19, ex_r x20, ex_r x21, ex_r x22, ex_r x23, ex_r x24, ex_r x25, ex_i x26, ex_i x27, ex_r x28, ex_r x29, ex_r x30, ex_r x31, ex_r x32, ex_r x33, ex_r x34, ex_r x35, ex_r x36, ex_r x37, ex_r x38, ex_r x39, ex_i x40, ex_j x41, ex_r x42, ex_r x43, ex_r x44, ex_r x45, ex_r x46, ex_r x47, ex_r x48, ex_r x49, ex_r x50, ex_r x51, ex_r x52, ex_r x53, ex_i x54, ex_i x55, ex_i x56, ex_i x57, ex_r x58, ex_r x59, ex_r x60, ex_r x61, ex_i x62, ex_r x63, ex_r x64, ex_i s80_0, ex_j x66]), (x10, ex_a 1 10 ho), (x15, ex_a 1 12 zt), (x63, ex_a 1 6 (upd (upd s80_1 (tz6 lf) (nI k80)) k80 (nI (tz6 lf)))), (x64, ex_a 1 6 s80_2)]) dX12_pairs_120 rfl (vp_in_nI (show k80 < 6 by omega) (by decide)) (by rw [nI_clamp (by omega)]) rfl ?_
          refine X_aload_n (j := 2) dX12_pairs_121 rfl rfl ?_
          refine X_iload_n (j := 3) dX12_pairs_122 rfl rfl ?_
          refine X_iconst (v := 1) dX12_pairs_123 (by decide) ?_
          refine X_iload (j := 1) dX12_pairs_124 rfl ?_
          refine X_ishl (v := (1 <<< ((nI (tz6 lf)) &&& 31))) dX12_pairs_126 rfl ?_
          refine X_iconst (v := (-1)) dX12_pairs_127 (by decide) ?_
          refine X_ixor (v := ((1 <<< ((nI (tz6 lf)) &&& 31)) ^^^ (-1))) dX12_pairs_128 rfl ?_
          refine X_iand (v := nI (lf - 2 ^ tz6 lf)) dX12_pairs_129 (an_tz hlf hl0) ?_
          refine X_iconst (v := 1) dX12_pairs_130 (by decide) ?_
          refine X_iload (j := 0) dX12_pairs_131 rfl ?_
          refine X_ishl (v := (1 <<< ((nI k80) &&& 31))) dX12_pairs_133 rfl ?_
          refine X_iconst (v := (-1)) dX12_pairs_134 (by decide) ?_
          refine X_ixor (v := ((1 <<< ((nI k80) &&& 31)) ^^^ (-1))) dX12_pairs_135 rfl ?_
          refine X_iand (v := nI ((lf - 2 ^ tz6 lf) - 2 ^ k80)) dX12_pairs_136 (an_bit hO (by omega) (bitO lf hlf hl0 k80 (by omega) hk80 c_6)) ?_
          refine X_iload_n (j := 4) dX12_pairs_137 rfl rfl ?_
          refine X_iload_n (j := 5) dX12_pairs_138 rfl rfl ?_
          refine X_aload_n (j := 2) dX12_pairs_139 rfl rfl ?_
          refine X_get (j := 0) fo_X12_29 dX12_pairs_140 rfl rfl ?_
          refine X_iload (j := 1) dX12_pairs_143 rfl ?_
          refine X_iald (j := 2) (v := (zt (tz6 lf))) dX12_pairs_145 rfl (vp_in_nI (show tz6 lf < 12 by omega) (by decide)) (by rw [nI_clamp (by omega)]) ?_
          refine X_aload_n (j := 2) dX12_pairs_146 rfl rfl ?_
          refine X_get (j := 0) fo_X12_29 dX12_pairs_147 rfl rfl ?_
          refine X_iload (j := 0) dX12_pairs_150 rfl ?_
          refine X_iald (j := 2) (v := (zt k80)) dX12_pairs_152 rfl (vp_in_nI (show k80 < 12 by omega) (by decide)) (by rw [nI_clamp (by omega)]) ?_
          refine X_callS (rest := [(m, ex_o 12 [ex_i x0, ex_i x1, ex_r x2, ex_i x3, ex_i x4, ex_i x5, ex_i x6, ex_j x7, ex_i x8, ex_i x9, ex_r x10, ex_r x11, ex_r x12, ex_r x13, ex_r x14, ex_r x15, ex_r x16, ex_r x17, ex_r x18, ex_r x19, ex_r x20, ex_r x21, ex_r x22, ex_r x23, ex_r x24, ex_r x25, ex_i x26, ex_i x27, ex_r x28, ex_r x29, ex_r x30, ex_r x31, ex_r x32, ex_r x33, ex_r x34, ex_r x35, ex_r x36, ex_r x37, ex_r x38, ex_r x39, ex_i x40, ex_j x41, ex_r x42, ex_r x43, ex_r x44, ex_r x45, ex_r x46, ex_r x47, ex_r x48, ex_r x49, ex_r x50, ex_r x51, ex_r x52, ex_r x53, ex_i x54, ex_i x55, ex_i x56, ex_i x57, ex_r x58, ex_r x59, ex_r x60, ex_r x61, ex_i x62, ex_r x63, ex_r x64, ex_i s80_0, ex_j x66]), (x10, ex_a 1 10 ho), (x15, ex_a 1 12 zt), (x63, ex_a 1 6 (upd (upd s80_1 (tz6 lf) (nI k80)) k80 (nI (tz6 lf)))), (x64, ex_a 1 6 s80_2)]) (stk := [ex_i ap, ex_i al, ex_i (nI ((lf - 2 ^ tz6 lf) - 2 ^ k80)), ex_r m]) co_X12_402 rfl ⟨(Nat.le_of_ble_eq_true rfl), (Nat.le_of_ble_eq_true rfl)⟩ (e_X12_away l (zt (tz6 lf)) (zt k80)) dX12_pairs_153 [0, 1, 2, 3, 4] (show List.Perm [0, 1, 2, 3, 4] (List.range 5) from by decide) rfl rfl rfl (Nat.le_of_ble_eq_true rfl) (fun zc1 zr hq hk => ?_)
          obtain ⟨rfl, rfl⟩ := hq
          refine X_iadd (v := (ap + (F_X12_away (zt (tz6 lf)) (zt k80)))) dX12_pairs_156 rfl ?_
          refine X_callV (j0 := 0) (rest := []) (stk := []) co_X12_512 rfl ⟨(Nat.le_of_ble_eq_true rfl), (Nat.le_of_ble_eq_true rfl)⟩ (e_X12_pairs_4 l np m ((lf - 2 ^ tz6 lf) - 2 ^ k80) al (ap + (F_X12_away (zt (tz6 lf)) (zt k80))) x0 x1 x2 x3 x4 x5 x6 x7 x8 x9 x10 x11 x12 x13 x14 x15 x16 x17 x18 x19 x20 x21 x22 x23 x24 x25 x26 x27 x28 x29 x30 x31 x32 x33 x34 x35 x36 x37 x38 x39 x40 x41 x42 x43 x44 x45 x46 x47 x48 x49 x50 x51 x52 x53 x54 x55 x56 x57 x58 x59 x60 x61 x62 x63 x64 s80_0 x66 ho zt (upd (upd s80_1 (tz6 lf) (nI k80)) k80 (nI (tz6 lf))) s80_2 (by first | assumption | omega) (by first | assumption | omega) (Nat.lt_of_le_of_lt (Nat.sub_le _ _) hO) (Nat.lt_of_le_of_lt (Nat.le_trans (Nat.sub_le _ _) (Nat.sub_le _ _)) hln) (bi_bit hO (by omega) (bitO lf hlf hl0 k80 (by omega) hk80 c_6) (bi_tz hlf hl0 hb))) dX12_pairs_157 [0, 1, 2, 3, 4] (show List.Perm [0, 1, 2, 3, 4] (List.range 5) from by decide) rfl rfl rfl rfl (Nat.le_of_ble_eq_true rfl) (fun zc1 zr hq hk => ?_)
          obtain ⟨rfl, rfl⟩ := hq
          try dsimp only at hL80
          generalize hq_w_7 : F_X12_pairs_4 np ((lf - 2 ^ tz6 lf) - 2 ^ k80) al (ap + (F_X12_away (zt (tz6 lf)) (zt k80))) s80_0 zt (upd (upd s80_1 (tz6 lf) (nI k80)) k80 (nI (tz6 lf))) s80_2 = w_7 at hL80 ⊢
          try dsimp only at hL80
          refine X_iinc (v := nI (k80 + 1)) (j := 0) (lv' := [(5, ex_i (nI (k80 + 1))), (4, ex_i (nI (tz6 lf))), (0, ex_r m), (1, ex_i (nI lf)), (2, ex_i al), (3, ex_i ap)]) dX12_pairs_160 rfl (nI_add k80 1) (Nat.le_of_ble_eq_true rfl) rfl ?_
          refine X_goto (tgt := 80) dX12_pairs_163 (by decide) ?_
          try dsimp only at hL80
          exact ihc80 (k80 + 1) w_7.1 w_7.2.1 w_7.2.2 ⟨hL80, (show (k80 + 1) ≤ np by omega), (show tz6 lf < (k80 + 1) by omega)⟩ (show np - (k80 + 1) < np - k80 by omega)
        · have hL80 := hL80.trans (if_pos c_6)
          refine X_goto (tgt := 160) dX12_pairs_100 (by decide) ?_
          refine X_iinc (v := nI (k80 + 1)) (j := 0) (lv' := [(5, ex_i (nI (k80 + 1))), (4, ex_i (nI (tz6 lf))), (0, ex_r m), (1, ex_i (nI lf)), (2, ex_i al), (3, ex_i ap)]) dX12_pairs_160 rfl (nI_add k80 1) (Nat.le_of_ble_eq_true rfl) rfl ?_
          refine X_goto (tgt := 80) dX12_pairs_163 (by decide) ?_
          try dsimp only at hL80
          exact ihc80 (k80 + 1) s80_0 s80_1 s80_2 ⟨hL80, (show (k80 + 1) ≤ np by omega), (show tz6 lf < (k80 + 1) by omega)⟩ (show np - (k80 + 1) < np - k80 by omega)
    refine X_aload_n (j := 1) dX12_pairs_166 rfl rfl ?_
    refine X_get (j := 0) fo_X12_147 dX12_pairs_167 rfl rfl ?_
    refine X_iload (j := 0) dX12_pairs_170 rfl ?_
    refine X_iconst (v := (-1)) dX12_pairs_172 (by decide) ?_
    refine X_iast (j := 3) (g := upd v_4.2.1 (tz6 lf) (-1)) (cs' := [(m, ex_o 12 [ex_i x0, ex_i x1, ex_r x2, ex_i x3, ex_i x4, ex_i x5, ex_i x6, ex_j x7, ex_i x8, ex_i x9, ex_r x10, ex_r x11, ex_r x12, ex_r x13, ex_r x14, ex_r x15, ex_r x16, ex_r x17, ex_r x18, ex_r x19, ex_r x20, ex_r x21, ex_r x22, ex_r x23, ex_r x24, ex_r x25, ex_i x26, ex_i x27, ex_r x28, ex_r x29, ex_r x30, ex_r x31, ex_r x32, ex_r x33, ex_r x34, ex_r x35, ex_r x36, ex_r x37, ex_r x38, ex_r x39, ex_i x40, ex_j x41, ex_r x42, ex_r x43, ex_r x44, ex_r x45, ex_r x46, ex_r x47, ex_r x48, ex_r x49, ex_r x50, ex_r x51, ex_r x52, ex_r x53, ex_i x54, ex_i x55, ex_i x56, ex_i x57, ex_r x58, ex_r x59, ex_r x60, ex_r x61, ex_i x62, ex_r x63, ex_r x64, ex_i v_4.1, ex_j x66]), (x10, ex_a 1 10 ho), (x15, ex_a 1 12 zt), (x63, ex_a 1 6 (upd v_4.2.1 (tz6 lf) (-1))), (x64, ex_a 1 6 v_4.2.2)]) dX12_pairs_173 rfl (vp_in_nI (show tz6 lf < 6 by omega) (by decide)) (by rw [nI_clamp (by omega)]) rfl ?_
    refine X_iload_n (j := 3) dX12_pairs_174 rfl rfl ?_
    refine X_if_eq (tgt := 192) dX12_pairs_175 (by decide) (fun c_8 => ?_) (fun c_8 => ?_)
    · have hV := hV.trans (if_pos c_8)
      try dsimp only at hV
      exact X_vret dX12_pairs_192 (by (repeat refine ex_kc ?_) <;> rfl) (by subst hV; exact ⟨rfl, rfl⟩)
    · have hV := hV.trans (if_neg c_8)
      refine X_aload_n (j := 1) dX12_pairs_178 rfl rfl ?_
      refine X_iload_n (j := 2) dX12_pairs_179 rfl rfl ?_
      refine X_iconst (v := 1) dX12_pairs_180 (by decide) ?_
      refine X_iload (j := 0) dX12_pairs_181 rfl ?_
      refine X_ishl (v := (1 <<< ((nI (tz6 lf)) &&& 31))) dX12_pairs_183 rfl ?_
      refine X_iconst (v := (-1)) dX12_pairs_184 (by decide) ?_
      refine X_ixor (v := ((1 <<< ((nI (tz6 lf)) &&& 31)) ^^^ (-1))) dX12_pairs_185 rfl ?_
      refine X_iand (v := nI (lf - 2 ^ tz6 lf)) dX12_pairs_186 (an_tz hlf hl0) ?_
      refine X_iconst (v := 0) dX12_pairs_187 (by decide) ?_
      refine X_iload_n (j := 4) dX12_pairs_188 rfl rfl ?_
      refine X_callV (j0 := 0) (rest := []) (stk := []) co_X12_512 rfl ⟨(Nat.le_of_ble_eq_true rfl), (Nat.le_of_ble_eq_true rfl)⟩ (e_X12_pairs_4 l np m (lf - 2 ^ tz6 lf) 0 ap x0 x1 x2 x3 x4 x5 x6 x7 x8 x9 x10 x11 x12 x13 x14 x15 x16 x17 x18 x19 x20 x21 x22 x23 x24 x25 x26 x27 x28 x29 x30 x31 x32 x33 x34 x35 x36 x37 x38 x39 x40 x41 x42 x43 x44 x45 x46 x47 x48 x49 x50 x51 x52 x53 x54 x55 x56 x57 x58 x59 x60 x61 x62 x63 x64 v_4.1 x66 ho zt (upd v_4.2.1 (tz6 lf) (-1)) v_4.2.2 (by first | assumption | omega) (by first | assumption | omega) hO (Nat.lt_of_le_of_lt (Nat.sub_le _ _) hln) (bi_tz hlf hl0 hb)) dX12_pairs_189 [0, 1, 2, 3, 4] (show List.Perm [0, 1, 2, 3, 4] (List.range 5) from by decide) rfl rfl rfl rfl (Nat.le_of_ble_eq_true rfl) (fun zc1 zr hq hk => ?_)
      obtain ⟨rfl, rfl⟩ := hq
      try dsimp only at hV
      generalize hq_w_9 : F_X12_pairs_4 np (lf - 2 ^ tz6 lf) 0 ap v_4.1 zt (upd v_4.2.1 (tz6 lf) (-1)) v_4.2.2 = w_9 at hV ⊢
      try dsimp only at hV
      try dsimp only at hV
      exact X_vret dX12_pairs_192 (by (repeat refine ex_kc ?_) <;> rfl) (by subst hV; exact ⟨rfl, rfl⟩)
  · have hV := hV.trans (if_pos c_1)
    refine X_aload_n (j := 0) dX12_pairs_4 rfl rfl ?_
    refine X_get (j := 0) fo_X12_509 dX12_pairs_5 rfl rfl ?_
    refine X_if_lt (tgt := 20) dX12_pairs_8 (by decide) (fun c_10 => ?_) (fun c_10 => ?_)
    · have hV := hV.trans (if_pos c_10)
      refine X_aload_n (j := 0) dX12_pairs_20 rfl rfl ?_
      refine X_iload_n (j := 3) dX12_pairs_21 rfl rfl ?_
      refine X_put (j := 0) (cs' := [(m, ex_o 12 [ex_i x0, ex_i x1, ex_r x2, ex_i x3, ex_i x4, ex_i x5, ex_i x6, ex_j x7, ex_i x8, ex_i x9, ex_r x10, ex_r x11, ex_r x12, ex_r x13, ex_r x14, ex_r x15, ex_r x16, ex_r x17, ex_r x18, ex_r x19, ex_r x20, ex_r x21, ex_r x22, ex_r x23, ex_r x24, ex_r x25, ex_i x26, ex_i x27, ex_r x28, ex_r x29, ex_r x30, ex_r x31, ex_r x32, ex_r x33, ex_r x34, ex_r x35, ex_r x36, ex_r x37, ex_r x38, ex_r x39, ex_i x40, ex_j x41, ex_r x42, ex_r x43, ex_r x44, ex_r x45, ex_r x46, ex_r x47, ex_r x48, ex_r x49, ex_r x50, ex_r x51, ex_r x52, ex_r x53, ex_i x54, ex_i x55, ex_i x56, ex_i x57, ex_r x58, ex_r x59, ex_r x60, ex_r x61, ex_i x62, ex_r x63, ex_r x64, ex_i ap, ex_j x66]), (x10, ex_a 1 10 ho), (x15, ex_a 1 12 zt), (x63, ex_a 1 6 po), (x64, ex_a 1 6 bp)]) fo_X12_509 (by decide) dX12_pairs_22 rfl (Nat.le_of_ble_eq_true rfl) trivial rfl ?_
      refine X_iconst (v := 0) dX12_pairs_25 (by decide) ?_
      refine X_istore (lv' := [(4, ex_i 0), (0, ex_r m), (1, ex_i (nI lf)), (2, ex_i al), (3, ex_i ap)]) dX12_pairs_26 (Nat.le_of_ble_eq_true rfl) rfl ?_
      -- loop at 28
      try dsimp only at hV
      generalize hq_v_11 : F_X12_pairs_5_L28 po (6 - 0) 0 bp = v_11 at hV
      try dsimp only at hV
      refine X_cut (P := True) (csE := [(m, ex_o 12 [ex_i x0, ex_i x1, ex_r x2, ex_i x3, ex_i x4, ex_i x5, ex_i x6, ex_j x7, ex_i x8, ex_i x9, ex_r x10, ex_r x11, ex_r x12, ex_r x13, ex_r x14, ex_r x15, ex_r x16, ex_r x17, ex_r x18, ex_r x19, ex_r x20, ex_r x21, ex_r x22, ex_r x23, ex_r x24, ex_r x25, ex_i x26, ex_i x27, ex_r x28, ex_r x29, ex_r x30, ex_r x31, ex_r x32, ex_r x33, ex_r x34, ex_r x35, ex_r x36, ex_r x37, ex_r x38, ex_r x39, ex_i x40, ex_j x41, ex_r x42, ex_r x43, ex_r x44, ex_r x45, ex_r x46, ex_r x47, ex_r x48, ex_r x49, ex_r x50, ex_r x51, ex_r x52, ex_r x53, ex_i x54, ex_i x55, ex_i x56, ex_i x57, ex_r x58, ex_r x59, ex_r x60, ex_r x61, ex_i x62, ex_r x63, ex_r x64, ex_i ap, ex_j x66]), (x10, ex_a 1 10 ho), (x15, ex_a 1 12 zt), (x63, ex_a 1 6 po), (x64, ex_a 1 6 v_11)]) (lvE := [(0, ex_r m), (1, ex_i (nI lf)), (2, ex_i al), (3, ex_i ap)]) (E := 55) (fun hrest28 => ?_) (fun hPX28 => ?_)
      · have hL28 := hq_v_11.symm
        refine X_ind (fun (a28 : Nat × (Nat → Int32)) => v_11 = F_X12_pairs_5_L28 po (6 - a28.1) a28.1 a28.2 ∧ a28.1 ≤ 6) (fun (a28 : Nat × (Nat → Int32)) => 6 - a28.1) (fun (a28 : Nat × (Nat → Int32)) => [(m, ex_o 12 [ex_i x0, ex_i x1, ex_r x2, ex_i x3, ex_i x4, ex_i x5, ex_i x6, ex_j x7, ex_i x8, ex_i x9, ex_r x10, ex_r x11, ex_r x12, ex_r x13, ex_r x14, ex_r x15, ex_r x16, ex_r x17, ex_r x18, ex_r x19, ex_r x20, ex_r x21, ex_r x22, ex_r x23, ex_r x24, ex_r x25, ex_i x26, ex_i x27, ex_r x28, ex_r x29, ex_r x30, ex_r x31, ex_r x32, ex_r x33, ex_r x34, ex_r x35, ex_r x36, ex_r x37, ex_r x38, ex_r x39, ex_i x40, ex_j x41, ex_r x42, ex_r x43, ex_r x44, ex_r x45, ex_r x46, ex_r x47, ex_r x48, ex_r x49, ex_r x50, ex_r x51, ex_r x52, ex_r x53, ex_i x54, ex_i x55, ex_i x56, ex_i x57, ex_r x58, ex_r x59, ex_r x60, ex_r x61, ex_i x62, ex_r x63, ex_r x64, ex_i ap, ex_j x66]), (x10, ex_a 1 10 ho), (x15, ex_a 1 12 zt), (x63, ex_a 1 6 po), (x64, ex_a 1 6 a28.2)]) (fun (a28 : Nat × (Nat → Int32)) => [(4, ex_i (nI a28.1)), (0, ex_r m), (1, ex_i (nI lf)), (2, ex_i al), (3, ex_i ap)]) (fun ⟨k28, s28_0⟩ hI28 ih28 => ?_) (0, bp) ⟨hL28, (by omega)⟩
        try dsimp only at hI28 ih28 ⊢
        have ihc28 : ∀ (k28_ : Nat) (s28_0_ : Nat → Int32), (v_11 = F_X12_pairs_5_L28 po (6 - k28_) k28_ s28_0_ ∧ k28_ ≤ 6) → (6 - k28_) < (6 - k28) → ex_O _ _ _ _ _ _ _ _ _ [(m, ex_o 12 [ex_i x0, ex_i x1, ex_r x2, ex_i x3, ex_i x4, ex_i x5, ex_i x6, ex_j x7, ex_i x8, ex_i x9, ex_r x10, ex_r x11, ex_r x12, ex_r x13, ex_r x14, ex_r x15, ex_r x16, ex_r x17, ex_r x18, ex_r x19, ex_r x20, ex_r x21, ex_r x22, ex_r x23, ex_r x24, ex_r x25, ex_i x26, ex_i x27, ex_r x28, ex_r x29, ex_r x30, ex_r x31, ex_r x32, ex_r x33, ex_r x34, ex_r x35, ex_r x36, ex_r x37, ex_r x38, ex_r x39, ex_i x40, ex_j x41, ex_r x42, ex_r x43, ex_r x44, ex_r x45, ex_r x46, ex_r x47, ex_r x48, ex_r x49, ex_r x50, ex_r x51, ex_r x52, ex_r x53, ex_i x54, ex_i x55, ex_i x56, ex_i x57, ex_r x58, ex_r x59, ex_r x60, ex_r x61, ex_i x62, ex_r x63, ex_r x64, ex_i ap, ex_j x66]), (x10, ex_a 1 10 ho), (x15, ex_a 1 12 zt), (x63, ex_a 1 6 po), (x64, ex_a 1 6 s28_0_)] [(4, ex_i (nI k28_)), (0, ex_r m), (1, ex_i (nI lf)), (2, ex_i al), (3, ex_i ap)] _ _ := fun k28_ s28_0_ hi_ hm_ => ih28 (k28_, s28_0_) hi_ hm_
        have hL28 := hI28.1
        have hb28 := hI28.2
        refine X_iload (j := 0) dX12_pairs_28 rfl ?_
        refine X_bipush (v := 6) dX12_pairs_30 (by decide) ?_
        refine X_icmp_ge (tgt := 55) dX12_pairs_32 (by decide) (fun c_12 => ?_) (fun c_12 => ?_)
        · have hlt28 : k28 = 6 := nlex (L := 6) (by omega) hb28 c_12
          rw [show 6 - k28 = 0 by omega] at hL28
          have hL28 := hL28.trans (F_X12_pairs_5_L28_z ..)
          try dsimp only at hL28
          refine X_lv (lv' := [(0, ex_r m), (1, ex_i (nI lf)), (2, ex_i al), (3, ex_i ap)]) [1, 2, 3, 4] rfl ?_
          refine X_eq (cs' := [(m, ex_o 12 [ex_i x0, ex_i x1, ex_r x2, ex_i x3, ex_i x4, ex_i x5, ex_i x6, ex_j x7, ex_i x8, ex_i x9, ex_r x10, ex_r x11, ex_r x12, ex_r x13, ex_r x14, ex_r x15, ex_r x16, ex_r x17, ex_r x18, ex_r x19, ex_r x20, ex_r x21, ex_r x22, ex_r x23, ex_r x24, ex_r x25, ex_i x26, ex_i x27, ex_r x28, ex_r x29, ex_r x30, ex_r x31, ex_r x32, ex_r x33, ex_r x34, ex_r x35, ex_r x36, ex_r x37, ex_r x38, ex_r x39, ex_i x40, ex_j x41, ex_r x42, ex_r x43, ex_r x44, ex_r x45, ex_r x46, ex_r x47, ex_r x48, ex_r x49, ex_r x50, ex_r x51, ex_r x52, ex_r x53, ex_i x54, ex_i x55, ex_i x56, ex_i x57, ex_r x58, ex_r x59, ex_r x60, ex_r x61, ex_i x62, ex_r x63, ex_r x64, ex_i ap, ex_j x66]), (x10, ex_a 1 10 ho), (x15, ex_a 1 12 zt), (x63, ex_a 1 6 po), (x64, ex_a 1 6 v_11)]) (lv' := [(0, ex_r m), (1, ex_i (nI lf)), (2, ex_i al), (3, ex_i ap)]) (by subst hL28; rfl) (by subst hL28; rfl) ?_
          exact hrest28 trivial
        · have hlt28 : k28 < 6 := nlen (L := 6) (by omega) hb28 c_12
          rw [show 6 - k28 = (6 - (k28 + 1)) + 1 by omega] at hL28
          have hL28 := hL28.trans (F_X12_pairs_5_L28_s ..)
          refine X_aload_n (j := 1) dX12_pairs_35 rfl rfl ?_
          refine X_get (j := 0) fo_X12_150 dX12_pairs_36 rfl rfl ?_
          refine X_iload (j := 0) dX12_pairs_39 rfl ?_
          refine X_aload_n (j := 1) dX12_pairs_41 rfl rfl ?_
          refine X_get (j := 0) fo_X12_147 dX12_pairs_42 rfl rfl ?_
          refine X_iload (j := 0) dX12_pairs_45 rfl ?_
          refine X_iald (j := 3) (v := (po k28)) dX12_pairs_47 rfl (vp_in_nI (show k28 < 6 by omega) (by decide)) (by rw [nI_clamp (by omega)]) ?_
          refine X_iast (j := 4) (g := upd s28_0 k28 (po k28)) (cs' := [(m, ex_o 12 [ex_i x0, ex_i x1, ex_r x2, ex_i x3, ex_i x4, ex_i x5, ex_i x6, ex_j x7, ex_i x8, ex_i x9, ex_r x10, ex_r x11, ex_r x12, ex_r x13, ex_r x14, ex_r x15, ex_r x16, ex_r x17, ex_r x18, ex_r x19, ex_r x20, ex_r x21, ex_r x22, ex_r x23, ex_r x24, ex_r x25, ex_i x26, ex_i x27, ex_r x28, ex_r x29, ex_r x30, ex_r x31, ex_r x32, ex_r x33, ex_r x34, ex_r x35, ex_r x36, ex_r x37, ex_r x38, ex_r x39, ex_i x40, ex_j x41, ex_r x42, ex_r x43, ex_r x44, ex_r x45, ex_r x46, ex_r x47, ex_r x48, ex_r x49, ex_r x50, ex_r x51, ex_r x52, ex_r x53, ex_i x54, ex_i x55, ex_i x56, ex_i x57, ex_r x58, ex_r x59, ex_r x60, ex_r x61, ex_i x62, ex_r x63, ex_r x64, ex_i ap, ex_j x66]), (x10, ex_a 1 10 ho), (x15, ex_a 1 12 zt), (x63, ex_a 1 6 po), (x64, ex_a 1 6 (upd s28_0 k28 (po k28)))]) dX12_pairs_48 rfl (vp_in_nI (show k28 < 6 by omega) (by decide)) (by rw [nI_clamp (by omega)]) rfl ?_
          refine X_iinc (v := nI (k28 + 1)) (j := 0) (lv' := [(4, ex_i (nI (k28 + 1))), (0, ex_r m), (1, ex_i (nI lf)), (2, ex_i al), (3, ex_i ap)]) dX12_pairs_49 rfl (nI_add k28 1) (Nat.le_of_ble_eq_true rfl) rfl ?_
          refine X_goto (tgt := 28) dX12_pairs_52 (by decide) ?_
          try dsimp only at hL28
          exact ihc28 (k28 + 1) (upd s28_0 k28 (po k28)) ⟨hL28, (show (k28 + 1) ≤ 6 by omega)⟩ (show 6 - (k28 + 1) < 6 - k28 by omega)
      try dsimp only at hV
      exact X_vret dX12_pairs_55 (by (repeat refine ex_kc ?_) <;> rfl) (by subst hV; exact ⟨rfl, rfl⟩)
    · have hV := hV.trans (if_neg c_10)
      refine X_iload_n (j := 3) dX12_pairs_11 rfl rfl ?_
      refine X_aload_n (j := 0) dX12_pairs_12 rfl rfl ?_
      refine X_get (j := 0) fo_X12_509 dX12_pairs_13 rfl rfl ?_
      refine X_icmp_lt (tgt := 20) dX12_pairs_16 (by decide) (fun c_13 => ?_) (fun c_13 => ?_)
      · have hV := hV.trans (if_pos c_13)
        refine X_aload_n (j := 0) dX12_pairs_20 rfl rfl ?_
        refine X_iload_n (j := 3) dX12_pairs_21 rfl rfl ?_
        refine X_put (j := 0) (cs' := [(m, ex_o 12 [ex_i x0, ex_i x1, ex_r x2, ex_i x3, ex_i x4, ex_i x5, ex_i x6, ex_j x7, ex_i x8, ex_i x9, ex_r x10, ex_r x11, ex_r x12, ex_r x13, ex_r x14, ex_r x15, ex_r x16, ex_r x17, ex_r x18, ex_r x19, ex_r x20, ex_r x21, ex_r x22, ex_r x23, ex_r x24, ex_r x25, ex_i x26, ex_i x27, ex_r x28, ex_r x29, ex_r x30, ex_r x31, ex_r x32, ex_r x33, ex_r x34, ex_r x35, ex_r x36, ex_r x37, ex_r x38, ex_r x39, ex_i x40, ex_j x41, ex_r x42, ex_r x43, ex_r x44, ex_r x45, ex_r x46, ex_r x47, ex_r x48, ex_r x49, ex_r x50, ex_r x51, ex_r x52, ex_r x53, ex_i x54, ex_i x55, ex_i x56, ex_i x57, ex_r x58, ex_r x59, ex_r x60, ex_r x61, ex_i x62, ex_r x63, ex_r x64, ex_i ap, ex_j x66]), (x10, ex_a 1 10 ho), (x15, ex_a 1 12 zt), (x63, ex_a 1 6 po), (x64, ex_a 1 6 bp)]) fo_X12_509 (by decide) dX12_pairs_22 rfl (Nat.le_of_ble_eq_true rfl) trivial rfl ?_
        refine X_iconst (v := 0) dX12_pairs_25 (by decide) ?_
        refine X_istore (lv' := [(4, ex_i 0), (0, ex_r m), (1, ex_i (nI lf)), (2, ex_i al), (3, ex_i ap)]) dX12_pairs_26 (Nat.le_of_ble_eq_true rfl) rfl ?_
        -- loop at 28
        try dsimp only at hV
        generalize hq_v_14 : F_X12_pairs_5_L28_2 po (6 - 0) 0 bp = v_14 at hV
        try dsimp only at hV
        refine X_cut (P := True) (csE := [(m, ex_o 12 [ex_i x0, ex_i x1, ex_r x2, ex_i x3, ex_i x4, ex_i x5, ex_i x6, ex_j x7, ex_i x8, ex_i x9, ex_r x10, ex_r x11, ex_r x12, ex_r x13, ex_r x14, ex_r x15, ex_r x16, ex_r x17, ex_r x18, ex_r x19, ex_r x20, ex_r x21, ex_r x22, ex_r x23, ex_r x24, ex_r x25, ex_i x26, ex_i x27, ex_r x28, ex_r x29, ex_r x30, ex_r x31, ex_r x32, ex_r x33, ex_r x34, ex_r x35, ex_r x36, ex_r x37, ex_r x38, ex_r x39, ex_i x40, ex_j x41, ex_r x42, ex_r x43, ex_r x44, ex_r x45, ex_r x46, ex_r x47, ex_r x48, ex_r x49, ex_r x50, ex_r x51, ex_r x52, ex_r x53, ex_i x54, ex_i x55, ex_i x56, ex_i x57, ex_r x58, ex_r x59, ex_r x60, ex_r x61, ex_i x62, ex_r x63, ex_r x64, ex_i ap, ex_j x66]), (x10, ex_a 1 10 ho), (x15, ex_a 1 12 zt), (x63, ex_a 1 6 po), (x64, ex_a 1 6 v_14)]) (lvE := [(0, ex_r m), (1, ex_i (nI lf)), (2, ex_i al), (3, ex_i ap)]) (E := 55) (fun hrest28 => ?_) (fun hPX28 => ?_)
        · have hL28 := hq_v_14.symm
          refine X_ind (fun (a28 : Nat × (Nat → Int32)) => v_14 = F_X12_pairs_5_L28_2 po (6 - a28.1) a28.1 a28.2 ∧ a28.1 ≤ 6) (fun (a28 : Nat × (Nat → Int32)) => 6 - a28.1) (fun (a28 : Nat × (Nat → Int32)) => [(m, ex_o 12 [ex_i x0, ex_i x1, ex_r x2, ex_i x3, ex_i x4, ex_i x5, ex_i x6, ex_j x7, ex_i x8, ex_i x9, ex_r x10, ex_r x11, ex_r x12, ex_r x13, ex_r x14, ex_r x15, ex_r x16, ex_r x17, ex_r x18, ex_r x19, ex_r x20, ex_r x21, ex_r x22, ex_r x23, ex_r x24, ex_r x25, ex_i x26, ex_i x27, ex_r x28, ex_r x29, ex_r x30, ex_r x31, ex_r x32, ex_r x33, ex_r x34, ex_r x35, ex_r x36, ex_r x37, ex_r x38, ex_r x39, ex_i x40, ex_j x41, ex_r x42, ex_r x43, ex_r x44, ex_r x45, ex_r x46, ex_r x47, ex_r x48, ex_r x49, ex_r x50, ex_r x51, ex_r x52, ex_r x53, ex_i x54, ex_i x55, ex_i x56, ex_i x57, ex_r x58, ex_r x59, ex_r x60, ex_r x61, ex_i x62, ex_r x63, ex_r x64, ex_i ap, ex_j x66]), (x10, ex_a 1 10 ho), (x15, ex_a 1 12 zt), (x63, ex_a 1 6 po), (x64, ex_a 1 6 a28.2)]) (fun (a28 : Nat × (Nat → Int32)) => [(4, ex_i (nI a28.1)), (0, ex_r m), (1, ex_i (nI lf)), (2, ex_i al), (3, ex_i ap)]) (fun ⟨k28, s28_0⟩ hI28 ih28 => ?_) (0, bp) ⟨hL28, (by omega)⟩
          try dsimp only at hI28 ih28 ⊢
          have ihc28 : ∀ (k28_ : Nat) (s28_0_ : Nat → Int32), (v_14 = F_X12_pairs_5_L28_2 po (6 - k28_) k28_ s28_0_ ∧ k28_ ≤ 6) → (6 - k28_) < (6 - k28) → ex_O _ _ _ _ _ _ _ _ _ [(m, ex_o 12 [ex_i x0, ex_i x1, ex_r x2, ex_i x3, ex_i x4, ex_i x5, ex_i x6, ex_j x7, ex_i x8, ex_i x9, ex_r x10, ex_r x11, ex_r x12, ex_r x13, ex_r x14, ex_r x15, ex_r x16, ex_r x17, ex_r x18, ex_r x19, ex_r x20, ex_r x21, ex_r x22, ex_r x23, ex_r x24, ex_r x25, ex_i x26, ex_i x27, ex_r x28, ex_r x29, ex_r x30, ex_r x31, ex_r x32, ex_r x33, ex_r x34, ex_r x35, ex_r x36, ex_r x37, ex_r x38, ex_r x39, ex_i x40, ex_j x41, ex_r x42, ex_r x43, ex_r x44, ex_r x45, ex_r x46, ex_r x47, ex_r x48, ex_r x49, ex_r x50, ex_r x51, ex_r x52, ex_r x53, ex_i x54, ex_i x55, ex_i x56, ex_i x57, ex_r x58, ex_r x59, ex_r x60, ex_r x61, ex_i x62, ex_r x63, ex_r x64, ex_i ap, ex_j x66]), (x10, ex_a 1 10 ho), (x15, ex_a 1 12 zt), (x63, ex_a 1 6 po), (x64, ex_a 1 6 s28_0_)] [(4, ex_i (nI k28_)), (0, ex_r m), (1, ex_i (nI lf)), (2, ex_i al), (3, ex_i ap)] _ _ := fun k28_ s28_0_ hi_ hm_ => ih28 (k28_, s28_0_) hi_ hm_
          have hL28 := hI28.1
          have hb28 := hI28.2
          refine X_iload (j := 0) dX12_pairs_28 rfl ?_
          refine X_bipush (v := 6) dX12_pairs_30 (by decide) ?_
          refine X_icmp_ge (tgt := 55) dX12_pairs_32 (by decide) (fun c_15 => ?_) (fun c_15 => ?_)
          · have hlt28 : k28 = 6 := nlex (L := 6) (by omega) hb28 c_15
            rw [show 6 - k28 = 0 by omega] at hL28
            have hL28 := hL28.trans (F_X12_pairs_5_L28_2_z ..)
            try dsimp only at hL28
            refine X_lv (lv' := [(0, ex_r m), (1, ex_i (nI lf)), (2, ex_i al), (3, ex_i ap)]) [1, 2, 3, 4] rfl ?_
            refine X_eq (cs' := [(m, ex_o 12 [ex_i x0, ex_i x1, ex_r x2, ex_i x3, ex_i x4, ex_i x5, ex_i x6, ex_j x7, ex_i x8, ex_i x9, ex_r x10, ex_r x11, ex_r x12, ex_r x13, ex_r x14, ex_r x15, ex_r x16, ex_r x17, ex_r x18, ex_r x19, ex_r x20, ex_r x21, ex_r x22, ex_r x23, ex_r x24, ex_r x25, ex_i x26, ex_i x27, ex_r x28, ex_r x29, ex_r x30, ex_r x31, ex_r x32, ex_r x33, ex_r x34, ex_r x35, ex_r x36, ex_r x37, ex_r x38, ex_r x39, ex_i x40, ex_j x41, ex_r x42, ex_r x43, ex_r x44, ex_r x45, ex_r x46, ex_r x47, ex_r x48, ex_r x49, ex_r x50, ex_r x51, ex_r x52, ex_r x53, ex_i x54, ex_i x55, ex_i x56, ex_i x57, ex_r x58, ex_r x59, ex_r x60, ex_r x61, ex_i x62, ex_r x63, ex_r x64, ex_i ap, ex_j x66]), (x10, ex_a 1 10 ho), (x15, ex_a 1 12 zt), (x63, ex_a 1 6 po), (x64, ex_a 1 6 v_14)]) (lv' := [(0, ex_r m), (1, ex_i (nI lf)), (2, ex_i al), (3, ex_i ap)]) (by subst hL28; rfl) (by subst hL28; rfl) ?_
            exact hrest28 trivial
          · have hlt28 : k28 < 6 := nlen (L := 6) (by omega) hb28 c_15
            rw [show 6 - k28 = (6 - (k28 + 1)) + 1 by omega] at hL28
            have hL28 := hL28.trans (F_X12_pairs_5_L28_2_s ..)
            refine X_aload_n (j := 1) dX12_pairs_35 rfl rfl ?_
            refine X_get (j := 0) fo_X12_150 dX12_pairs_36 rfl rfl ?_
            refine X_iload (j := 0) dX12_pairs_39 rfl ?_
            refine X_aload_n (j := 1) dX12_pairs_41 rfl rfl ?_
            refine X_get (j := 0) fo_X12_147 dX12_pairs_42 rfl rfl ?_
            refine X_iload (j := 0) dX12_pairs_45 rfl ?_
            refine X_iald (j := 3) (v := (po k28)) dX12_pairs_47 rfl (vp_in_nI (show k28 < 6 by omega) (by decide)) (by rw [nI_clamp (by omega)]) ?_
            refine X_iast (j := 4) (g := upd s28_0 k28 (po k28)) (cs' := [(m, ex_o 12 [ex_i x0, ex_i x1, ex_r x2, ex_i x3, ex_i x4, ex_i x5, ex_i x6, ex_j x7, ex_i x8, ex_i x9, ex_r x10, ex_r x11, ex_r x12, ex_r x13, ex_r x14, ex_r x15, ex_r x16, ex_r x17, ex_r x18, ex_r x19, ex_r x20, ex_r x21, ex_r x22, ex_r x23, ex_r x24, ex_r x25, ex_i x26, ex_i x27, ex_r x28, ex_r x29, ex_r x30, ex_r x31, ex_r x32, ex_r x33, ex_r x34, ex_r x35, ex_r x36, ex_r x37, ex_r x38, ex_r x39, ex_i x40, ex_j x41, ex_r x42, ex_r x43, ex_r x44, ex_r x45, ex_r x46, ex_r x47, ex_r x48, ex_r x49, ex_r x50, ex_r x51, ex_r x52, ex_r x53, ex_i x54, ex_i x55, ex_i x56, ex_i x57, ex_r x58, ex_r x59, ex_r x60, ex_r x61, ex_i x62, ex_r x63, ex_r x64, ex_i ap, ex_j x66]), (x10, ex_a 1 10 ho), (x15, ex_a 1 12 zt), (x63, ex_a 1 6 po), (x64, ex_a 1 6 (upd s28_0 k28 (po k28)))]) dX12_pairs_48 rfl (vp_in_nI (show k28 < 6 by omega) (by decide)) (by rw [nI_clamp (by omega)]) rfl ?_
            refine X_iinc (v := nI (k28 + 1)) (j := 0) (lv' := [(4, ex_i (nI (k28 + 1))), (0, ex_r m), (1, ex_i (nI lf)), (2, ex_i al), (3, ex_i ap)]) dX12_pairs_49 rfl (nI_add k28 1) (Nat.le_of_ble_eq_true rfl) rfl ?_
            refine X_goto (tgt := 28) dX12_pairs_52 (by decide) ?_
            try dsimp only at hL28
            exact ihc28 (k28 + 1) (upd s28_0 k28 (po k28)) ⟨hL28, (show (k28 + 1) ≤ 6 by omega)⟩ (show 6 - (k28 + 1) < 6 - k28 by omega)
        try dsimp only at hV
        exact X_vret dX12_pairs_55 (by (repeat refine ex_kc ?_) <;> rfl) (by subst hV; exact ⟨rfl, rfl⟩)
      · have hV := hV.trans (if_neg c_13)
        try dsimp only at hV
        exact X_vret dX12_pairs_19 (by (repeat refine ex_kc ?_) <;> rfl) (by subst hV; exact ⟨rfl, rfl⟩)

def F_X12_pairs_6_L59 (lf : Nat) : Nat → Nat → Nat
  | 0, p59 => p59
  | zn + 1, p59 => (if (((nI lf) >>> ((nI p59) &&& 31)) &&& 1) = 0 then F_X12_pairs_6_L59 lf zn (p59 + 1) else p59)
theorem F_X12_pairs_6_L59_z (lf : Nat) (p59 : Nat) : F_X12_pairs_6_L59 lf 0 p59 = p59 := rfl
theorem F_X12_pairs_6_L59_s (lf : Nat) (p59 : Nat) (zn : Nat) : F_X12_pairs_6_L59 lf (zn + 1) p59 = (if (((nI lf) >>> ((nI p59) &&& 31)) &&& 1) = 0 then F_X12_pairs_6_L59 lf zn (p59 + 1) else p59) := rfl
def F_X12_pairs_6_L80 (np : Nat) (lf : Nat) (al : Int32) (ap : Int32) (zt : Nat → Int32) : Nat → Nat → Int32 → (Nat → Int32) → (Nat → Int32) → Int32 × (Nat → Int32) × (Nat → Int32)
  | 0, k80, s80_0, s80_1, s80_2 => (s80_0, s80_1, s80_2)
  | zn + 1, k80, s80_0, s80_1, s80_2 => (if (((nI lf) >>> ((nI k80) &&& 31)) &&& 1) = 0 then F_X12_pairs_6_L80 np lf al ap zt zn (k80 + 1) s80_0 s80_1 s80_2 else ((fun (w_7 : Int32 × (Nat → Int32) × (Nat → Int32)) => F_X12_pairs_6_L80 np lf al ap zt zn (k80 + 1) w_7.1 w_7.2.1 w_7.2.2) (F_X12_pairs_5 np ((lf - 2 ^ tz6 lf) - 2 ^ k80) al (ap + (F_X12_away (zt (tz6 lf)) (zt k80))) s80_0 zt (upd (upd s80_1 (tz6 lf) (nI k80)) k80 (nI (tz6 lf))) s80_2)))
theorem F_X12_pairs_6_L80_z (np : Nat) (lf : Nat) (al : Int32) (ap : Int32) (zt : Nat → Int32) (k80 : Nat) (s80_0 : Int32) (s80_1 : Nat → Int32) (s80_2 : Nat → Int32) : F_X12_pairs_6_L80 np lf al ap zt 0 k80 s80_0 s80_1 s80_2 = (s80_0, s80_1, s80_2) := rfl
theorem F_X12_pairs_6_L80_s (np : Nat) (lf : Nat) (al : Int32) (ap : Int32) (zt : Nat → Int32) (k80 : Nat) (s80_0 : Int32) (s80_1 : Nat → Int32) (s80_2 : Nat → Int32) (zn : Nat) : F_X12_pairs_6_L80 np lf al ap zt (zn + 1) k80 s80_0 s80_1 s80_2 = (if (((nI lf) >>> ((nI k80) &&& 31)) &&& 1) = 0 then F_X12_pairs_6_L80 np lf al ap zt zn (k80 + 1) s80_0 s80_1 s80_2 else ((fun (w_7 : Int32 × (Nat → Int32) × (Nat → Int32)) => F_X12_pairs_6_L80 np lf al ap zt zn (k80 + 1) w_7.1 w_7.2.1 w_7.2.2) (F_X12_pairs_5 np ((lf - 2 ^ tz6 lf) - 2 ^ k80) al (ap + (F_X12_away (zt (tz6 lf)) (zt k80))) s80_0 zt (upd (upd s80_1 (tz6 lf) (nI k80)) k80 (nI (tz6 lf))) s80_2))) := rfl
def F_X12_pairs_6_L28 (po : Nat → Int32) : Nat → Nat → (Nat → Int32) → (Nat → Int32)
  | 0, k28, s28_0 => s28_0
  | zn + 1, k28, s28_0 => F_X12_pairs_6_L28 po zn (k28 + 1) (upd s28_0 k28 (po k28))
theorem F_X12_pairs_6_L28_z (po : Nat → Int32) (k28 : Nat) (s28_0 : Nat → Int32) : F_X12_pairs_6_L28 po 0 k28 s28_0 = s28_0 := rfl
theorem F_X12_pairs_6_L28_s (po : Nat → Int32) (k28 : Nat) (s28_0 : Nat → Int32) (zn : Nat) : F_X12_pairs_6_L28 po (zn + 1) k28 s28_0 = F_X12_pairs_6_L28 po zn (k28 + 1) (upd s28_0 k28 (po k28)) := rfl
def F_X12_pairs_6_L28_2 (po : Nat → Int32) : Nat → Nat → (Nat → Int32) → (Nat → Int32)
  | 0, k28, s28_0 => s28_0
  | zn + 1, k28, s28_0 => F_X12_pairs_6_L28_2 po zn (k28 + 1) (upd s28_0 k28 (po k28))
theorem F_X12_pairs_6_L28_2_z (po : Nat → Int32) (k28 : Nat) (s28_0 : Nat → Int32) : F_X12_pairs_6_L28_2 po 0 k28 s28_0 = s28_0 := rfl
theorem F_X12_pairs_6_L28_2_s (po : Nat → Int32) (k28 : Nat) (s28_0 : Nat → Int32) (zn : Nat) : F_X12_pairs_6_L28_2 po (zn + 1) k28 s28_0 = F_X12_pairs_6_L28_2 po zn (k28 + 1) (upd s28_0 k28 (po k28)) := rfl
def F_X12_pairs_6 (np : Nat) (lf : Nat) (al : Int32) (ap : Int32) (x65 : Int32) (zt : Nat → Int32) (po : Nat → Int32) (bp : Nat → Int32) : Int32 × (Nat → Int32) × (Nat → Int32) := (if (nI lf) = 0 then (if x65 < 0 then ((fun (v_11 : (Nat → Int32)) => (ap, po, v_11)) (F_X12_pairs_6_L28 po (6 - 0) 0 bp)) else (if ap < x65 then ((fun (v_14 : (Nat → Int32)) => (ap, po, v_14)) (F_X12_pairs_6_L28_2 po (6 - 0) 0 bp)) else (x65, po, bp))) else ((fun (v_2 : Nat) => ((fun (v_4 : Int32 × (Nat → Int32) × (Nat → Int32)) => (if al = 0 then (v_4.1, upd v_4.2.1 (tz6 lf) (-1), v_4.2.2) else ((fun (w_9 : Int32 × (Nat → Int32) × (Nat → Int32)) => (w_9.1, w_9.2.1, w_9.2.2)) (F_X12_pairs_5 np (lf - 2 ^ tz6 lf) 0 ap v_4.1 zt (upd v_4.2.1 (tz6 lf) (-1)) v_4.2.2)))) (F_X12_pairs_6_L80 np lf al ap zt (np - ((tz6 lf) + 1)) ((tz6 lf) + 1) x65 po bp))) (F_X12_pairs_6_L59 lf 7 0)))
set_option maxHeartbeats 4000000 in
set_option maxRecDepth 100000 in
theorem e_X12_pairs_6 (l : Launch) (np : Nat) (m : Nat) (lf : Nat) (al : Int32) (ap : Int32) (x0 : Int32) (x1 : Int32) (x2 : Nat) (x3 : Int32) (x4 : Int32) (x5 : Int32) (x6 : Int32) (x7 : Int64) (x8 : Int32) (x9 : Int32) (x10 : Nat) (x11 : Nat) (x12 : Nat) (x13 : Nat) (x14 : Nat) (x15 : Nat) (x16 : Nat) (x17 : Nat) (x18 : Nat) (x19 : Nat) (x20 : Nat) (x21 : Nat) (x22 : Nat) (x23 : Nat) (x24 : Nat) (x25 : Nat) (x26 : Int32) (x27 : Int32) (x28 : Nat) (x29 : Nat) (x30 : Nat) (x31 : Nat) (x32 : Nat) (x33 : Nat) (x34 : Nat) (x35 : Nat) (x36 : Nat) (x37 : Nat) (x38 : Nat) (x39 : Nat) (x40 : Int32) (x41 : Int64) (x42 : Nat) (x43 : Nat) (x44 : Nat) (x45 : Nat) (x46 : Nat) (x47 : Nat) (x48 : Nat) (x49 : Nat) (x50 : Nat) (x51 : Nat) (x52 : Nat) (x53 : Nat) (x54 : Int32) (x55 : Int32) (x56 : Int32) (x57 : Int32) (x58 : Nat) (x59 : Nat) (x60 : Nat) (x61 : Nat) (x62 : Int32) (x63 : Nat) (x64 : Nat) (x65 : Int32) (x66 : Int64) (ho : Nat → Int32) (zt : Nat → Int32) (po : Nat → Int32) (bp : Nat → Int32) (hho0 : ho 0 = nI np) (hnp : np ≤ 6) (hlf : lf < 64) (hln : lf < 2 ^ np) (hb : bits6 lf ≤ 6) : ex_M l yX12_pairs cX12_pairs 6 none 6 150 [ex_r m, ex_i (nI lf), ex_i al, ex_i ap] [(m, ex_o 12 [ex_i x0, ex_i x1, ex_r x2, ex_i x3, ex_i x4, ex_i x5, ex_i x6, ex_j x7, ex_i x8, ex_i x9, ex_r x10, ex_r x11, ex_r x12, ex_r x13, ex_r x14, ex_r x15, ex_r x16, ex_r x17, ex_r x18, ex_r x19, ex_r x20, ex_r x21, ex_r x22, ex_r x23, ex_r x24, ex_r x25, ex_i x26, ex_i x27, ex_r x28, ex_r x29, ex_r x30, ex_r x31, ex_r x32, ex_r x33, ex_r x34, ex_r x35, ex_r x36, ex_r x37, ex_r x38, ex_r x39, ex_i x40, ex_j x41, ex_r x42, ex_r x43, ex_r x44, ex_r x45, ex_r x46, ex_r x47, ex_r x48, ex_r x49, ex_r x50, ex_r x51, ex_r x52, ex_r x53, ex_i x54, ex_i x55, ex_i x56, ex_i x57, ex_r x58, ex_r x59, ex_r x60, ex_r x61, ex_i x62, ex_r x63, ex_r x64, ex_i x65, ex_j x66]), (x10, ex_a 1 10 ho), (x15, ex_a 1 12 zt), (x63, ex_a 1 6 po), (x64, ex_a 1 6 bp)] (fun zcs zr => zcs = [(m, ex_o 12 [ex_i x0, ex_i x1, ex_r x2, ex_i x3, ex_i x4, ex_i x5, ex_i x6, ex_j x7, ex_i x8, ex_i x9, ex_r x10, ex_r x11, ex_r x12, ex_r x13, ex_r x14, ex_r x15, ex_r x16, ex_r x17, ex_r x18, ex_r x19, ex_r x20, ex_r x21, ex_r x22, ex_r x23, ex_r x24, ex_r x25, ex_i x26, ex_i x27, ex_r x28, ex_r x29, ex_r x30, ex_r x31, ex_r x32, ex_r x33, ex_r x34, ex_r x35, ex_r x36, ex_r x37, ex_r x38, ex_r x39, ex_i x40, ex_j x41, ex_r x42, ex_r x43, ex_r x44, ex_r x45, ex_r x46, ex_r x47, ex_r x48, ex_r x49, ex_r x50, ex_r x51, ex_r x52, ex_r x53, ex_i x54, ex_i x55, ex_i x56, ex_i x57, ex_r x58, ex_r x59, ex_r x60, ex_r x61, ex_i x62, ex_r x63, ex_r x64, ex_i ((F_X12_pairs_6 np lf al ap x65 zt po bp).1), ex_j x66]), (x10, ex_a 1 10 ho), (x15, ex_a 1 12 zt), (x63, ex_a 1 6 ((F_X12_pairs_6 np lf al ap x65 zt po bp).2.1)), (x64, ex_a 1 6 ((F_X12_pairs_6 np lf al ap x65 zt po bp).2.2))] ∧ zr = none) := by
  refine X_meth (by decide) (Nat.le_of_ble_eq_true rfl) ?_
  generalize hV : F_X12_pairs_6 np lf al ap x65 zt po bp = V0
  have hV := hV.symm
  unfold F_X12_pairs_6 at hV
  try dsimp only at hV
  refine X_iload_n (j := 1) dX12_pairs_0 rfl rfl ?_
  refine X_if_ne (tgt := 56) dX12_pairs_1 (by decide) (fun c_1 => ?_) (fun c_1 => ?_)
  · have hV := hV.trans (if_neg c_1)
    have hl0 : ¬ lf = 0 := fun q => c_1 (by rw [q]; rfl)
    have htz : tz6 lf < 6 := tz_lt hlf hl0
    have hO : lf - 2 ^ tz6 lf < 64 := Nat.lt_of_le_of_lt (Nat.sub_le _ _) hlf
    have htn : tz6 lf < np := tz_np hlf hl0 hnp hln
    refine X_iconst (v := 0) dX12_pairs_56 (by decide) ?_
    refine X_istore (lv' := [(4, ex_i 0), (0, ex_r m), (1, ex_i (nI lf)), (2, ex_i al), (3, ex_i ap)]) dX12_pairs_57 (Nat.le_of_ble_eq_true rfl) rfl ?_
    -- loop at 59
    try dsimp only at hV
    generalize hq_v_2 : F_X12_pairs_6_L59 lf 7 0 = v_2 at hV
    try dsimp only at hV
    refine X_cut (P := (v_2 = tz6 lf)) (csE := [(m, ex_o 12 [ex_i x0, ex_i x1, ex_r x2, ex_i x3, ex_i x4, ex_i x5, ex_i x6, ex_j x7, ex_i x8, ex_i x9, ex_r x10, ex_r x11, ex_r x12, ex_r x13, ex_r x14, ex_r x15, ex_r x16, ex_r x17, ex_r x18, ex_r x19, ex_r x20, ex_r x21, ex_r x22, ex_r x23, ex_r x24, ex_r x25, ex_i x26, ex_i x27, ex_r x28, ex_r x29, ex_r x30, ex_r x31, ex_r x32, ex_r x33, ex_r x34, ex_r x35, ex_r x36, ex_r x37, ex_r x38, ex_r x39, ex_i x40, ex_j x41, ex_r x42, ex_r x43, ex_r x44, ex_r x45, ex_r x46, ex_r x47, ex_r x48, ex_r x49, ex_r x50, ex_r x51, ex_r x52, ex_r x53, ex_i x54, ex_i x55, ex_i x56, ex_i x57, ex_r x58, ex_r x59, ex_r x60, ex_r x61, ex_i x62, ex_r x63, ex_r x64, ex_i x65, ex_j x66]), (x10, ex_a 1 10 ho), (x15, ex_a 1 12 zt), (x63, ex_a 1 6 po), (x64, ex_a 1 6 bp)]) (lvE := [(4, ex_i (nI v_2)), (0, ex_r m), (1, ex_i (nI lf)), (2, ex_i al), (3, ex_i ap)]) (E := 74) (fun hrest59 => ?_) (fun hPX59 => ?_)
    · have hL59 := hq_v_2.symm
      refine X_ind (fun (a59 : Nat × Nat) => v_2 = F_X12_pairs_6_L59 lf a59.1 a59.2 ∧ (a59.2 ≤ tz6 lf ∧ 7 ≤ a59.1 + a59.2)) (fun (a59 : Nat × Nat) => a59.1) (fun (a59 : Nat × Nat) => [(m, ex_o 12 [ex_i x0, ex_i x1, ex_r x2, ex_i x3, ex_i x4, ex_i x5, ex_i x6, ex_j x7, ex_i x8, ex_i x9, ex_r x10, ex_r x11, ex_r x12, ex_r x13, ex_r x14, ex_r x15, ex_r x16, ex_r x17, ex_r x18, ex_r x19, ex_r x20, ex_r x21, ex_r x22, ex_r x23, ex_r x24, ex_r x25, ex_i x26, ex_i x27, ex_r x28, ex_r x29, ex_r x30, ex_r x31, ex_r x32, ex_r x33, ex_r x34, ex_r x35, ex_r x36, ex_r x37, ex_r x38, ex_r x39, ex_i x40, ex_j x41, ex_r x42, ex_r x43, ex_r x44, ex_r x45, ex_r x46, ex_r x47, ex_r x48, ex_r x49, ex_r x50, ex_r x51, ex_r x52, ex_r x53, ex_i x54, ex_i x55, ex_i x56, ex_i x57, ex_r x58, ex_r x59, ex_r x60, ex_r x61, ex_i x62, ex_r x63, ex_r x64, ex_i x65, ex_j x66]), (x10, ex_a 1 10 ho), (x15, ex_a 1 12 zt), (x63, ex_a 1 6 po), (x64, ex_a 1 6 bp)]) (fun (a59 : Nat × Nat) => [(4, ex_i (nI a59.2)), (0, ex_r m), (1, ex_i (nI lf)), (2, ex_i al), (3, ex_i ap)]) (fun ⟨zf59, p59⟩ hI59 ih59 => ?_) (7, 0) ⟨hL59, ⟨Nat.zero_le _, Nat.le_refl _⟩⟩
      try dsimp only at hI59 ih59 ⊢
      have ihc59 : ∀ (zf59_ : Nat) (p59_ : Nat), (v_2 = F_X12_pairs_6_L59 lf zf59_ p59_ ∧ (p59_ ≤ tz6 lf ∧ 7 ≤ zf59_ + p59_)) → zf59_ < zf59 → ex_O _ _ _ _ _ _ _ _ _ [(m, ex_o 12 [ex_i x0, ex_i x1, ex_r x2, ex_i x3, ex_i x4, ex_i x5, ex_i x6, ex_j x7, ex_i x8, ex_i x9, ex_r x10, ex_r x11, ex_r x12, ex_r x13, ex_r x14, ex_r x15, ex_r x16, ex_r x17, ex_r x18, ex_r x19, ex_r x20, ex_r x21, ex_r x22, ex_r x23, ex_r x24, ex_r x25, ex_i x26, ex_i x27, ex_r x28, ex_r x29, ex_r x30, ex_r x31, ex_r x32, ex_r x33, ex_r x34, ex_r x35, ex_r x36, ex_r x37, ex_r x38, ex_r x39, ex_i x40, ex_j x41, ex_r x42, ex_r x43, ex_r x44, ex_r x45, ex_r x46, ex_r x47, ex_r x48, ex_r x49, ex_r x50, ex_r x51, ex_r x52, ex_r x53, ex_i x54, ex_i x55, ex_i x56, ex_i x57, ex_r x58, ex_r x59, ex_r x60, ex_r x61, ex_i x62, ex_r x63, ex_r x64, ex_i x65, ex_j x66]), (x10, ex_a 1 10 ho), (x15, ex_a 1 12 zt), (x63, ex_a 1 6 po), (x64, ex_a 1 6 bp)] [(4, ex_i (nI p59_)), (0, ex_r m), (1, ex_i (nI lf)), (2, ex_i al), (3, ex_i ap)] _ _ := fun zf59_ p59_ hi_ hm_ => ih59 (zf59_, p59_) hi_ hm_
      have hL59 := hI59.1
      have hp59 := hI59.2
      obtain ⟨zn, rfl⟩ : ∃ zn, zf59 = zn + 1 := ex_ow (by have hz := hp59.1; have hy := hp59.2; omega)
      have hL59 := hL59.trans (F_X12_pairs_6_L59_s ..)
      refine X_iload_n (j := 2) dX12_pairs_59 rfl rfl ?_
      refine X_iload (j := 0) dX12_pairs_60 rfl ?_
      refine X_ishr (v := ((nI lf) >>> ((nI p59) &&& 31))) dX12_pairs_62 rfl ?_
      refine X_iconst (v := 1) dX12_pairs_63 (by decide) ?_
      refine X_iand (v := (((nI lf) >>> ((nI p59) &&& 31)) &&& 1)) dX12_pairs_64 rfl ?_
      refine X_if_ne (tgt := 74) dX12_pairs_65 (by decide) (fun c_3 => ?_) (fun c_3 => ?_)
      · have hL59 := hL59.trans (if_neg c_3)
        try dsimp only at hL59
        refine X_eq (cs' := [(m, ex_o 12 [ex_i x0, ex_i x1, ex_r x2, ex_i x3, ex_i x4, ex_i x5, ex_i x6, ex_j x7, ex_i x8, ex_i x9, ex_r x10, ex_r x11, ex_r x12, ex_r x13, ex_r x14, ex_r x15, ex_r x16, ex_r x17, ex_r x18, ex_r x19, ex_r x20, ex_r x21, ex_r x22, ex_r x23, ex_r x24, ex_r x25, ex_i x26, ex_i x27, ex_r x28, ex_r x29, ex_r x30, ex_r x31, ex_r x32, ex_r x33, ex_r x34, ex_r x35, ex_r x36, ex_r x37, ex_r x38, ex_r x39, ex_i x40, ex_j x41, ex_r x42, ex_r x43, ex_r x44, ex_r x45, ex_r x46, ex_r x47, ex_r x48, ex_r x49, ex_r x50, ex_r x51, ex_r x52, ex_r x53, ex_i x54, ex_i x55, ex_i x56, ex_i x57, ex_r x58, ex_r x59, ex_r x60, ex_r x61, ex_i x62, ex_r x63, ex_r x64, ex_i x65, ex_j x66]), (x10, ex_a 1 10 ho), (x15, ex_a 1 12 zt), (x63, ex_a 1 6 po), (x64, ex_a 1 6 bp)]) (lv' := [(4, ex_i (nI v_2)), (0, ex_r m), (1, ex_i (nI lf)), (2, ex_i al), (3, ex_i ap)]) (by subst hL59; rfl) (by subst hL59; rfl) ?_
        exact hrest59 (by subst hL59; exact tz_at hlf hl0 hp59.1 c_3)
      · have hL59 := hL59.trans (if_pos c_3)
        refine X_iinc (v := nI (p59 + 1)) (j := 0) (lv' := [(4, ex_i (nI (p59 + 1))), (0, ex_r m), (1, ex_i (nI lf)), (2, ex_i al), (3, ex_i ap)]) dX12_pairs_68 rfl (nI_add p59 1) (Nat.le_of_ble_eq_true rfl) rfl ?_
        refine X_goto (tgt := 59) dX12_pairs_71 (by decide) ?_
        try dsimp only at hL59
        exact ihc59 zn (p59 + 1) ⟨hL59, ⟨tz_go hlf hl0 hp59.1 c_3, by have hz := hp59.2; omega⟩⟩ (Nat.lt_succ_self _)
    have hp59_x := hPX59
    refine X_eq (cs' := [(m, ex_o 12 [ex_i x0, ex_i x1, ex_r x2, ex_i x3, ex_i x4, ex_i x5, ex_i x6, ex_j x7, ex_i x8, ex_i x9, ex_r x10, ex_r x11, ex_r x12, ex_r x13, ex_r x14, ex_r x15, ex_r x16, ex_r x17, ex_r x18, ex_r x19, ex_r x20, ex_r x21, ex_r x22, ex_r x23, ex_r x24, ex_r x25, ex_i x26, ex_i x27, ex_r x28, ex_r x29, ex_r x30, ex_r x31, ex_r x32, ex_r x33, ex_r x34, ex_r x35, ex_r x36, ex_r x37, ex_r x38, ex_r x39, ex_i x40, ex_j x41, ex_r x42, ex_r x43, ex_r x44, ex_r x45, ex_r x46, ex_r x47, ex_r x48, ex_r x49, ex_r x50, ex_r x51, ex_r x52, ex_r x53, ex_i x54, ex_i x55, ex_i x56, ex_i x57, ex_r x58, ex_r x59, ex_r x60, ex_r x61, ex_i x62, ex_r x63, ex_r x64, ex_i x65, ex_j x66]), (x10, ex_a 1 10 ho), (x15, ex_a 1 12 zt), (x63, ex_a 1 6 po), (x64, ex_a 1 6 bp)]) (lv' := [(4, ex_i (nI (tz6 lf))), (0, ex_r m), (1, ex_i (nI lf)), (2, ex_i al), (3, ex_i ap)]) rfl (by rw [hp59_x] <;> rfl) ?_
    refine X_iload (j := 0) dX12_pairs_74 rfl ?_
    refine X_iconst (v := 1) dX12_pairs_76 (by decide) ?_
    refine X_iadd (v := nI ((tz6 lf) + 1)) dX12_pairs_77 (nI_add (tz6 lf) 1) ?_
    refine X_istore (lv' := [(5, ex_i (nI ((tz6 lf) + 1))), (4, ex_i (nI (tz6 lf))), (0, ex_r m), (1, ex_i (nI lf)), (2, ex_i al), (3, ex_i ap)]) dX12_pairs_78 (Nat.le_of_ble_eq_true rfl) rfl ?_
    -- loop at 80
    try dsimp only at hV
    generalize hq_v_4 : F_X12_pairs_6_L80 np lf al ap zt (np - ((tz6 lf) + 1)) ((tz6 lf) + 1) x65 po bp = v_4 at hV
    try dsimp only at hV
    refine X_cut (P := True) (csE := [(m, ex_o 12 [ex_i x0, ex_i x1, ex_r x2, ex_i x3, ex_i x4, ex_i x5, ex_i x6, ex_j x7, ex_i x8, ex_i x9, ex_r x10, ex_r x11, ex_r x12, ex_r x13, ex_r x14, ex_r x15, ex_r x16, ex_r x17, ex_r x18, ex_r x19, ex_r x20, ex_r x21, ex_r x22, ex_r x23, ex_r x24, ex_r x25, ex_i x26, ex_i x27, ex_r x28, ex_r x29, ex_r x30, ex_r x31, ex_r x32, ex_r x33, ex_r x34, ex_r x35, ex_r x36, ex_r x37, ex_r x38, ex_r x39, ex_i x40, ex_j x41, ex_r x42, ex_r x43, ex_r x44, ex_r x45, ex_r x46, ex_r x47, ex_r x48, ex_r x49, ex_r x50, ex_r x51, ex_r x52, ex_r x53, ex_i x54, ex_i x55, ex_i x56, ex_i x57, ex_r x58, ex_r x59, ex_r x60, ex_r x61, ex_i x62, ex_r x63, ex_r x64, ex_i v_4.1, ex_j x66]), (x10, ex_a 1 10 ho), (x15, ex_a 1 12 zt), (x63, ex_a 1 6 v_4.2.1), (x64, ex_a 1 6 v_4.2.2)]) (lvE := [(4, ex_i (nI (tz6 lf))), (0, ex_r m), (1, ex_i (nI lf)), (2, ex_i al), (3, ex_i ap)]) (E := 166) (fun hrest80 => ?_) (fun hPX80 => ?_)
    · have hL80 := hq_v_4.symm
      refine X_ind (fun (a80 : Nat × Int32 × (Nat → Int32) × (Nat → Int32)) => v_4 = F_X12_pairs_6_L80 np lf al ap zt (np - a80.1) a80.1 a80.2.1 a80.2.2.1 a80.2.2.2 ∧ a80.1 ≤ np ∧ tz6 lf < a80.1) (fun (a80 : Nat × Int32 × (Nat → Int32) × (Nat → Int32)) => np - a80.1) (fun (a80 : Nat × Int32 × (Nat → Int32) × (Nat → Int32)) => [(m, ex_o 12 [ex_i x0, ex_i x1, ex_r x2, ex_i x3, ex_i x4, ex_i x5, ex_i x6, ex_j x7, ex_i x8, ex_i x9, ex_r x10, ex_r x11, ex_r x12, ex_r x13, ex_r x14, ex_r x15, ex_r x16, ex_r x17, ex_r x18, ex_r x19, ex_r x20, ex_r x21, ex_r x22, ex_r x23, ex_r x24, ex_r x25, ex_i x26, ex_i x27, ex_r x28, ex_r x29, ex_r x30, ex_r x31, ex_r x32, ex_r x33, ex_r x34, ex_r x35, ex_r x36, ex_r x37, ex_r x38, ex_r x39, ex_i x40, ex_j x41, ex_r x42, ex_r x43, ex_r x44, ex_r x45, ex_r x46, ex_r x47, ex_r x48, ex_r x49, ex_r x50, ex_r x51, ex_r x52, ex_r x53, ex_i x54, ex_i x55, ex_i x56, ex_i x57, ex_r x58, ex_r x59, ex_r x60, ex_r x61, ex_i x62, ex_r x63, ex_r x64, ex_i a80.2.1, ex_j x66]), (x10, ex_a 1 10 ho), (x15, ex_a 1 12 zt), (x63, ex_a 1 6 a80.2.2.1), (x64, ex_a 1 6 a80.2.2.2)]) (fun (a80 : Nat × Int32 × (Nat → Int32) × (Nat → Int32)) => [(5, ex_i (nI a80.1)), (4, ex_i (nI (tz6 lf))), (0, ex_r m), (1, ex_i (nI lf)), (2, ex_i al), (3, ex_i ap)]) (fun ⟨k80, s80_0, s80_1, s80_2⟩ hI80 ih80 => ?_) ((tz6 lf) + 1, x65, po, bp) ⟨hL80, (by omega), (Nat.lt_succ_self _)⟩
      try dsimp only at hI80 ih80 ⊢
      have ihc80 : ∀ (k80_ : Nat) (s80_0_ : Int32) (s80_1_ : Nat → Int32) (s80_2_ : Nat → Int32), (v_4 = F_X12_pairs_6_L80 np lf al ap zt (np - k80_) k80_ s80_0_ s80_1_ s80_2_ ∧ k80_ ≤ np ∧ tz6 lf < k80_) → (np - k80_) < (np - k80) → ex_O _ _ _ _ _ _ _ _ _ [(m, ex_o 12 [ex_i x0, ex_i x1, ex_r x2, ex_i x3, ex_i x4, ex_i x5, ex_i x6, ex_j x7, ex_i x8, ex_i x9, ex_r x10, ex_r x11, ex_r x12, ex_r x13, ex_r x14, ex_r x15, ex_r x16, ex_r x17, ex_r x18, ex_r x19, ex_r x20, ex_r x21, ex_r x22, ex_r x23, ex_r x24, ex_r x25, ex_i x26, ex_i x27, ex_r x28, ex_r x29, ex_r x30, ex_r x31, ex_r x32, ex_r x33, ex_r x34, ex_r x35, ex_r x36, ex_r x37, ex_r x38, ex_r x39, ex_i x40, ex_j x41, ex_r x42, ex_r x43, ex_r x44, ex_r x45, ex_r x46, ex_r x47, ex_r x48, ex_r x49, ex_r x50, ex_r x51, ex_r x52, ex_r x53, ex_i x54, ex_i x55, ex_i x56, ex_i x57, ex_r x58, ex_r x59, ex_r x60, ex_r x61, ex_i x62, ex_r x63, ex_r x64, ex_i s80_0_, ex_j x66]), (x10, ex_a 1 10 ho), (x15, ex_a 1 12 zt), (x63, ex_a 1 6 s80_1_), (x64, ex_a 1 6 s80_2_)] [(5, ex_i (nI k80_)), (4, ex_i (nI (tz6 lf))), (0, ex_r m), (1, ex_i (nI lf)), (2, ex_i al), (3, ex_i ap)] _ _ := fun k80_ s80_0_ s80_1_ s80_2_ hi_ hm_ => ih80 (k80_, s80_0_, s80_1_, s80_2_) hi_ hm_
      have hL80 := hI80.1
      have hb80 := hI80.2.1
      have hk80 := hI80.2.2
      refine X_iload (j := 0) dX12_pairs_80 rfl ?_
      refine X_aload_n (j := 2) dX12_pairs_82 rfl rfl ?_
      refine X_get (j := 0) fo_X12_13 dX12_pairs_83 rfl rfl ?_
      refine X_iconst (v := 0) dX12_pairs_86 (by decide) ?_
      refine X_iald (j := 1) (v := nI np) dX12_pairs_87 rfl (vin (by decide)) hho0 ?_
      refine X_icmp_ge (tgt := 166) dX12_pairs_88 (by decide) (fun c_5 => ?_) (fun c_5 => ?_)
      · have hlt80 : k80 = np := nlex (L := np) (by omega) hb80 c_5
        rw [show np - k80 = 0 by omega] at hL80
        have hL80 := hL80.trans (F_X12_pairs_6_L80_z ..)
        try dsimp only at hL80
        refine X_lv (lv' := [(4, ex_i (nI (tz6 lf))), (0, ex_r m), (1, ex_i (nI lf)), (2, ex_i al), (3, ex_i ap)]) [1, 2, 3, 4, 5] rfl ?_
        refine X_eq (cs' := [(m, ex_o 12 [ex_i x0, ex_i x1, ex_r x2, ex_i x3, ex_i x4, ex_i x5, ex_i x6, ex_j x7, ex_i x8, ex_i x9, ex_r x10, ex_r x11, ex_r x12, ex_r x13, ex_r x14, ex_r x15, ex_r x16, ex_r x17, ex_r x18, ex_r x19, ex_r x20, ex_r x21, ex_r x22, ex_r x23, ex_r x24, ex_r x25, ex_i x26, ex_i x27, ex_r x28, ex_r x29, ex_r x30, ex_r x31, ex_r x32, ex_r x33, ex_r x34, ex_r x35, ex_r x36, ex_r x37, ex_r x38, ex_r x39, ex_i x40, ex_j x41, ex_r x42, ex_r x43, ex_r x44, ex_r x45, ex_r x46, ex_r x47, ex_r x48, ex_r x49, ex_r x50, ex_r x51, ex_r x52, ex_r x53, ex_i x54, ex_i x55, ex_i x56, ex_i x57, ex_r x58, ex_r x59, ex_r x60, ex_r x61, ex_i x62, ex_r x63, ex_r x64, ex_i v_4.1, ex_j x66]), (x10, ex_a 1 10 ho), (x15, ex_a 1 12 zt), (x63, ex_a 1 6 v_4.2.1), (x64, ex_a 1 6 v_4.2.2)]) (lv' := [(4, ex_i (nI (tz6 lf))), (0, ex_r m), (1, ex_i (nI lf)), (2, ex_i al), (3, ex_i ap)]) (by subst hL80; rfl) (by subst hL80; rfl) ?_
        exact hrest80 trivial
      · have hlt80 : k80 < np := nlen (L := np) (by omega) hb80 c_5
        rw [show np - k80 = (np - (k80 + 1)) + 1 by omega] at hL80
        have hL80 := hL80.trans (F_X12_pairs_6_L80_s ..)
        refine X_iload_n (j := 3) dX12_pairs_91 rfl rfl ?_
        refine X_iload (j := 0) dX12_pairs_92 rfl ?_
        refine X_ishr (v := ((nI lf) >>> ((nI k80) &&& 31))) dX12_pairs_94 rfl ?_
        refine X_iconst (v := 1) dX12_pairs_95 (by decide) ?_
        refine X_iand (v := (((nI lf) >>> ((nI k80) &&& 31)) &&& 1)) dX12_pairs_96 rfl ?_
        refine X_if_ne (tgt := 103) dX12_pairs_97 (by decide) (fun c_6 => ?_) (fun c_6 => ?_)
        · have hL80 := hL80.trans (if_neg c_6)
          refine X_aload_n (j := 2) dX12_pairs_103 rfl rfl ?_
          refine X_get (j := 0) fo_X12_147 dX12_pairs_104 rfl rfl ?_
          refine X_iload (j := 1) dX12_pairs_107 rfl ?_
          refine X_iload (j := 0) dX12_pairs_109 rfl ?_
          refine X_iast (j := 3) (g := upd s80_1 (tz6 lf) (nI k80)) (cs' := [(m, ex_o 12 [ex_i x0, ex_i x1, ex_r x2, ex_i x3, ex_i x4, ex_i x5, ex_i x6, ex_j x7, ex_i x8, ex_i x9, ex_r x10, ex_r x11, ex_r x12, ex_r x13, ex_r x14, ex_r x15, ex_r x16, ex_r x17, ex_r x18, ex_r x19, ex_r x20, ex_r x21, ex_r x22, ex_r x23, ex_r x24, ex_r x25, ex_i x26, ex_i x27, ex_r x28, ex_r x29, ex_r x30, ex_r x31, ex_r x32, ex_r x33, ex_r x34, ex_r x35, ex_r x36, ex_r x37, ex_r x38, ex_r x39, ex_i x40, ex_j x41, ex_r x42, ex_r x43, ex_r x44, ex_r x45, ex_r x46, ex_r x47, ex_r x48, ex_r x49, ex_r x50, ex_r x51, ex_r x52, ex_r x53, ex_i x54, ex_i x55, ex_i x56, ex_i x57, ex_r x58, ex_r x59, ex_r x60, ex_r x61, ex_i x62, ex_r x63, ex_r x64, ex_i s80_0, ex_j x66]), (x10, ex_a 1 10 ho), (x15, ex_a 1 12 zt), (x63, ex_a 1 6 (upd s80_1 (tz6 lf) (nI k80))), (x64, ex_a 1 6 s80_2)]) dX12_pairs_111 rfl (vp_in_nI (show tz6 lf < 6 by omega) (by decide)) (by rw [nI_clamp (by omega)]) rfl ?_
          refine X_aload_n (j := 2) dX12_pairs_112 rfl rfl ?_
          refine X_get (j := 0) fo_X12_147 dX12_pairs_113 rfl rfl ?_
          refine X_iload (j := 0) dX12_pairs_116 rfl ?_
          refine X_iload (j := 1) dX12_pairs_118 rfl ?_
          refine X_iast (j := 3) (g := upd (upd s80_1 (tz6 lf) (nI k80)) k80 (nI (tz6 lf))) (cs' := [(m, ex_o 12 [ex_i x0, ex_i x1, ex_r x2, ex_i x3, ex_i x4, ex_i x5, ex_i x6, ex_j x7, ex_i x8, ex_i x9, ex_r x10, ex_r x11, ex_r x12, ex_r x13, ex_r x14, ex_r x15, ex_r x16, ex_r x17, ex_r x18, ex_r x19, ex_r x20, ex_r x21, ex_r x22, ex_r x23, ex_r x24, ex_r x25, ex_i x26, ex_i x27, ex_r x28, ex_r x29, ex_r x30, ex_r x31, ex_r x32, ex_r x33, ex_r x34, ex_r x35, ex_r x36, ex_r x37, ex_r x38, ex_r x39, ex_i x40, ex_j x41, ex_r x42, ex_r x43, ex_r x44, ex_r x45, ex_r x46, ex_r x47, ex_r x48, ex_r x49, ex_r x50, ex_r x51, ex_r x52, ex_r x53, ex_i x54, ex_i x55, ex_i x56, ex_i x57, ex_r x58, ex_r x59, ex_r x60, ex_r x61, ex_i x62, ex_r x63, ex_r x64, ex_i s80_0, ex_j x66]), (x10, ex_a 1 10 ho), (x15, ex_a 1 12 zt), (x63, ex_a 1 6 (upd (upd s80_1 (tz6 lf) (nI k80)) k80 (nI (tz6 lf)))), (x64, ex_a 1 6 s80_2)]) dX12_pairs_120 rfl (vp_in_nI (show k80 < 6 by omega) (by decide)) (by rw [nI_clamp (by omega)]) rfl ?_
          refine X_aload_n (j := 2) dX12_pairs_121 rfl rfl ?_
          refine X_iload_n (j := 3) dX12_pairs_122 rfl rfl ?_
          refine X_iconst (v := 1) dX12_pairs_123 (by decide) ?_
          refine X_iload (j := 1) dX12_pairs_124 rfl ?_
          refine X_ishl (v := (1 <<< ((nI (tz6 lf)) &&& 31))) dX12_pairs_126 rfl ?_
          refine X_iconst (v := (-1)) dX12_pairs_127 (by decide) ?_
          refine X_ixor (v := ((1 <<< ((nI (tz6 lf)) &&& 31)) ^^^ (-1))) dX12_pairs_128 rfl ?_
          refine X_iand (v := nI (lf - 2 ^ tz6 lf)) dX12_pairs_129 (an_tz hlf hl0) ?_
          refine X_iconst (v := 1) dX12_pairs_130 (by decide) ?_
          refine X_iload (j := 0) dX12_pairs_131 rfl ?_
          refine X_ishl (v := (1 <<< ((nI k80) &&& 31))) dX12_pairs_133 rfl ?_
          refine X_iconst (v := (-1)) dX12_pairs_134 (by decide) ?_
          refine X_ixor (v := ((1 <<< ((nI k80) &&& 31)) ^^^ (-1))) dX12_pairs_135 rfl ?_
          refine X_iand (v := nI ((lf - 2 ^ tz6 lf) - 2 ^ k80)) dX12_pairs_136 (an_bit hO (by omega) (bitO lf hlf hl0 k80 (by omega) hk80 c_6)) ?_
          refine X_iload_n (j := 4) dX12_pairs_137 rfl rfl ?_
          refine X_iload_n (j := 5) dX12_pairs_138 rfl rfl ?_
          refine X_aload_n (j := 2) dX12_pairs_139 rfl rfl ?_
          refine X_get (j := 0) fo_X12_29 dX12_pairs_140 rfl rfl ?_
          refine X_iload (j := 1) dX12_pairs_143 rfl ?_
          refine X_iald (j := 2) (v := (zt (tz6 lf))) dX12_pairs_145 rfl (vp_in_nI (show tz6 lf < 12 by omega) (by decide)) (by rw [nI_clamp (by omega)]) ?_
          refine X_aload_n (j := 2) dX12_pairs_146 rfl rfl ?_
          refine X_get (j := 0) fo_X12_29 dX12_pairs_147 rfl rfl ?_
          refine X_iload (j := 0) dX12_pairs_150 rfl ?_
          refine X_iald (j := 2) (v := (zt k80)) dX12_pairs_152 rfl (vp_in_nI (show k80 < 12 by omega) (by decide)) (by rw [nI_clamp (by omega)]) ?_
          refine X_callS (rest := [(m, ex_o 12 [ex_i x0, ex_i x1, ex_r x2, ex_i x3, ex_i x4, ex_i x5, ex_i x6, ex_j x7, ex_i x8, ex_i x9, ex_r x10, ex_r x11, ex_r x12, ex_r x13, ex_r x14, ex_r x15, ex_r x16, ex_r x17, ex_r x18, ex_r x19, ex_r x20, ex_r x21, ex_r x22, ex_r x23, ex_r x24, ex_r x25, ex_i x26, ex_i x27, ex_r x28, ex_r x29, ex_r x30, ex_r x31, ex_r x32, ex_r x33, ex_r x34, ex_r x35, ex_r x36, ex_r x37, ex_r x38, ex_r x39, ex_i x40, ex_j x41, ex_r x42, ex_r x43, ex_r x44, ex_r x45, ex_r x46, ex_r x47, ex_r x48, ex_r x49, ex_r x50, ex_r x51, ex_r x52, ex_r x53, ex_i x54, ex_i x55, ex_i x56, ex_i x57, ex_r x58, ex_r x59, ex_r x60, ex_r x61, ex_i x62, ex_r x63, ex_r x64, ex_i s80_0, ex_j x66]), (x10, ex_a 1 10 ho), (x15, ex_a 1 12 zt), (x63, ex_a 1 6 (upd (upd s80_1 (tz6 lf) (nI k80)) k80 (nI (tz6 lf)))), (x64, ex_a 1 6 s80_2)]) (stk := [ex_i ap, ex_i al, ex_i (nI ((lf - 2 ^ tz6 lf) - 2 ^ k80)), ex_r m]) co_X12_402 rfl ⟨(Nat.le_of_ble_eq_true rfl), (Nat.le_of_ble_eq_true rfl)⟩ (e_X12_away l (zt (tz6 lf)) (zt k80)) dX12_pairs_153 [0, 1, 2, 3, 4] (show List.Perm [0, 1, 2, 3, 4] (List.range 5) from by decide) rfl rfl rfl (Nat.le_of_ble_eq_true rfl) (fun zc1 zr hq hk => ?_)
          obtain ⟨rfl, rfl⟩ := hq
          refine X_iadd (v := (ap + (F_X12_away (zt (tz6 lf)) (zt k80)))) dX12_pairs_156 rfl ?_
          refine X_callV (j0 := 0) (rest := []) (stk := []) co_X12_512 rfl ⟨(Nat.le_of_ble_eq_true rfl), (Nat.le_of_ble_eq_true rfl)⟩ (e_X12_pairs_5 l np m ((lf - 2 ^ tz6 lf) - 2 ^ k80) al (ap + (F_X12_away (zt (tz6 lf)) (zt k80))) x0 x1 x2 x3 x4 x5 x6 x7 x8 x9 x10 x11 x12 x13 x14 x15 x16 x17 x18 x19 x20 x21 x22 x23 x24 x25 x26 x27 x28 x29 x30 x31 x32 x33 x34 x35 x36 x37 x38 x39 x40 x41 x42 x43 x44 x45 x46 x47 x48 x49 x50 x51 x52 x53 x54 x55 x56 x57 x58 x59 x60 x61 x62 x63 x64 s80_0 x66 ho zt (upd (upd s80_1 (tz6 lf) (nI k80)) k80 (nI (tz6 lf))) s80_2 (by first | assumption | omega) (by first | assumption | omega) (Nat.lt_of_le_of_lt (Nat.sub_le _ _) hO) (Nat.lt_of_le_of_lt (Nat.le_trans (Nat.sub_le _ _) (Nat.sub_le _ _)) hln) (bi_bit hO (by omega) (bitO lf hlf hl0 k80 (by omega) hk80 c_6) (bi_tz hlf hl0 hb))) dX12_pairs_157 [0, 1, 2, 3, 4] (show List.Perm [0, 1, 2, 3, 4] (List.range 5) from by decide) rfl rfl rfl rfl (Nat.le_of_ble_eq_true rfl) (fun zc1 zr hq hk => ?_)
          obtain ⟨rfl, rfl⟩ := hq
          try dsimp only at hL80
          generalize hq_w_7 : F_X12_pairs_5 np ((lf - 2 ^ tz6 lf) - 2 ^ k80) al (ap + (F_X12_away (zt (tz6 lf)) (zt k80))) s80_0 zt (upd (upd s80_1 (tz6 lf) (nI k80)) k80 (nI (tz6 lf))) s80_2 = w_7 at hL80 ⊢
          try dsimp only at hL80
          refine X_iinc (v := nI (k80 + 1)) (j := 0) (lv' := [(5, ex_i (nI (k80 + 1))), (4, ex_i (nI (tz6 lf))), (0, ex_r m), (1, ex_i (nI lf)), (2, ex_i al), (3, ex_i ap)]) dX12_pairs_160 rfl (nI_add k80 1) (Nat.le_of_ble_eq_true rfl) rfl ?_
          refine X_goto (tgt := 80) dX12_pairs_163 (by decide) ?_
          try dsimp only at hL80
          exact ihc80 (k80 + 1) w_7.1 w_7.2.1 w_7.2.2 ⟨hL80, (show (k80 + 1) ≤ np by omega), (show tz6 lf < (k80 + 1) by omega)⟩ (show np - (k80 + 1) < np - k80 by omega)
        · have hL80 := hL80.trans (if_pos c_6)
          refine X_goto (tgt := 160) dX12_pairs_100 (by decide) ?_
          refine X_iinc (v := nI (k80 + 1)) (j := 0) (lv' := [(5, ex_i (nI (k80 + 1))), (4, ex_i (nI (tz6 lf))), (0, ex_r m), (1, ex_i (nI lf)), (2, ex_i al), (3, ex_i ap)]) dX12_pairs_160 rfl (nI_add k80 1) (Nat.le_of_ble_eq_true rfl) rfl ?_
          refine X_goto (tgt := 80) dX12_pairs_163 (by decide) ?_
          try dsimp only at hL80
          exact ihc80 (k80 + 1) s80_0 s80_1 s80_2 ⟨hL80, (show (k80 + 1) ≤ np by omega), (show tz6 lf < (k80 + 1) by omega)⟩ (show np - (k80 + 1) < np - k80 by omega)
    refine X_aload_n (j := 1) dX12_pairs_166 rfl rfl ?_
    refine X_get (j := 0) fo_X12_147 dX12_pairs_167 rfl rfl ?_
    refine X_iload (j := 0) dX12_pairs_170 rfl ?_
    refine X_iconst (v := (-1)) dX12_pairs_172 (by decide) ?_
    refine X_iast (j := 3) (g := upd v_4.2.1 (tz6 lf) (-1)) (cs' := [(m, ex_o 12 [ex_i x0, ex_i x1, ex_r x2, ex_i x3, ex_i x4, ex_i x5, ex_i x6, ex_j x7, ex_i x8, ex_i x9, ex_r x10, ex_r x11, ex_r x12, ex_r x13, ex_r x14, ex_r x15, ex_r x16, ex_r x17, ex_r x18, ex_r x19, ex_r x20, ex_r x21, ex_r x22, ex_r x23, ex_r x24, ex_r x25, ex_i x26, ex_i x27, ex_r x28, ex_r x29, ex_r x30, ex_r x31, ex_r x32, ex_r x33, ex_r x34, ex_r x35, ex_r x36, ex_r x37, ex_r x38, ex_r x39, ex_i x40, ex_j x41, ex_r x42, ex_r x43, ex_r x44, ex_r x45, ex_r x46, ex_r x47, ex_r x48, ex_r x49, ex_r x50, ex_r x51, ex_r x52, ex_r x53, ex_i x54, ex_i x55, ex_i x56, ex_i x57, ex_r x58, ex_r x59, ex_r x60, ex_r x61, ex_i x62, ex_r x63, ex_r x64, ex_i v_4.1, ex_j x66]), (x10, ex_a 1 10 ho), (x15, ex_a 1 12 zt), (x63, ex_a 1 6 (upd v_4.2.1 (tz6 lf) (-1))), (x64, ex_a 1 6 v_4.2.2)]) dX12_pairs_173 rfl (vp_in_nI (show tz6 lf < 6 by omega) (by decide)) (by rw [nI_clamp (by omega)]) rfl ?_
    refine X_iload_n (j := 3) dX12_pairs_174 rfl rfl ?_
    refine X_if_eq (tgt := 192) dX12_pairs_175 (by decide) (fun c_8 => ?_) (fun c_8 => ?_)
    · have hV := hV.trans (if_pos c_8)
      try dsimp only at hV
      exact X_vret dX12_pairs_192 (by (repeat refine ex_kc ?_) <;> rfl) (by subst hV; exact ⟨rfl, rfl⟩)
    · have hV := hV.trans (if_neg c_8)
      refine X_aload_n (j := 1) dX12_pairs_178 rfl rfl ?_
      refine X_iload_n (j := 2) dX12_pairs_179 rfl rfl ?_
      refine X_iconst (v := 1) dX12_pairs_180 (by decide) ?_
      refine X_iload (j := 0) dX12_pairs_181 rfl ?_
      refine X_ishl (v := (1 <<< ((nI (tz6 lf)) &&& 31))) dX12_pairs_183 rfl ?_
      refine X_iconst (v := (-1)) dX12_pairs_184 (by decide) ?_
      refine X_ixor (v := ((1 <<< ((nI (tz6 lf)) &&& 31)) ^^^ (-1))) dX12_pairs_185 rfl ?_
      refine X_iand (v := nI (lf - 2 ^ tz6 lf)) dX12_pairs_186 (an_tz hlf hl0) ?_
      refine X_iconst (v := 0) dX12_pairs_187 (by decide) ?_
      refine X_iload_n (j := 4) dX12_pairs_188 rfl rfl ?_
      refine X_callV (j0 := 0) (rest := []) (stk := []) co_X12_512 rfl ⟨(Nat.le_of_ble_eq_true rfl), (Nat.le_of_ble_eq_true rfl)⟩ (e_X12_pairs_5 l np m (lf - 2 ^ tz6 lf) 0 ap x0 x1 x2 x3 x4 x5 x6 x7 x8 x9 x10 x11 x12 x13 x14 x15 x16 x17 x18 x19 x20 x21 x22 x23 x24 x25 x26 x27 x28 x29 x30 x31 x32 x33 x34 x35 x36 x37 x38 x39 x40 x41 x42 x43 x44 x45 x46 x47 x48 x49 x50 x51 x52 x53 x54 x55 x56 x57 x58 x59 x60 x61 x62 x63 x64 v_4.1 x66 ho zt (upd v_4.2.1 (tz6 lf) (-1)) v_4.2.2 (by first | assumption | omega) (by first | assumption | omega) hO (Nat.lt_of_le_of_lt (Nat.sub_le _ _) hln) (bi_tz hlf hl0 hb)) dX12_pairs_189 [0, 1, 2, 3, 4] (show List.Perm [0, 1, 2, 3, 4] (List.range 5) from by decide) rfl rfl rfl rfl (Nat.le_of_ble_eq_true rfl) (fun zc1 zr hq hk => ?_)
      obtain ⟨rfl, rfl⟩ := hq
      try dsimp only at hV
      generalize hq_w_9 : F_X12_pairs_5 np (lf - 2 ^ tz6 lf) 0 ap v_4.1 zt (upd v_4.2.1 (tz6 lf) (-1)) v_4.2.2 = w_9 at hV ⊢
      try dsimp only at hV
      try dsimp only at hV
      exact X_vret dX12_pairs_192 (by (repeat refine ex_kc ?_) <;> rfl) (by subst hV; exact ⟨rfl, rfl⟩)
  · have hV := hV.trans (if_pos c_1)
    refine X_aload_n (j := 0) dX12_pairs_4 rfl rfl ?_
    refine X_get (j := 0) fo_X12_509 dX12_pairs_5 rfl rfl ?_
    refine X_if_lt (tgt := 20) dX12_pairs_8 (by decide) (fun c_10 => ?_) (fun c_10 => ?_)
    · have hV := hV.trans (if_pos c_10)
      refine X_aload_n (j := 0) dX12_pairs_20 rfl rfl ?_
      refine X_iload_n (j := 3) dX12_pairs_21 rfl rfl ?_
      refine X_put (j := 0) (cs' := [(m, ex_o 12 [ex_i x0, ex_i x1, ex_r x2, ex_i x3, ex_i x4, ex_i x5, ex_i x6, ex_j x7, ex_i x8, ex_i x9, ex_r x10, ex_r x11, ex_r x12, ex_r x13, ex_r x14, ex_r x15, ex_r x16, ex_r x17, ex_r x18, ex_r x19, ex_r x20, ex_r x21, ex_r x22, ex_r x23, ex_r x24, ex_r x25, ex_i x26, ex_i x27, ex_r x28, ex_r x29, ex_r x30, ex_r x31, ex_r x32, ex_r x33, ex_r x34, ex_r x35, ex_r x36, ex_r x37, ex_r x38, ex_r x39, ex_i x40, ex_j x41, ex_r x42, ex_r x43, ex_r x44, ex_r x45, ex_r x46, ex_r x47, ex_r x48, ex_r x49, ex_r x50, ex_r x51, ex_r x52, ex_r x53, ex_i x54, ex_i x55, ex_i x56, ex_i x57, ex_r x58, ex_r x59, ex_r x60, ex_r x61, ex_i x62, ex_r x63, ex_r x64, ex_i ap, ex_j x66]), (x10, ex_a 1 10 ho), (x15, ex_a 1 12 zt), (x63, ex_a 1 6 po), (x64, ex_a 1 6 bp)]) fo_X12_509 (by decide) dX12_pairs_22 rfl (Nat.le_of_ble_eq_true rfl) trivial rfl ?_
      refine X_iconst (v := 0) dX12_pairs_25 (by decide) ?_
      refine X_istore (lv' := [(4, ex_i 0), (0, ex_r m), (1, ex_i (nI lf)), (2, ex_i al), (3, ex_i ap)]) dX12_pairs_26 (Nat.le_of_ble_eq_true rfl) rfl ?_
      -- loop at 28
      try dsimp only at hV
      generalize hq_v_11 : F_X12_pairs_6_L28 po (6 - 0) 0 bp = v_11 at hV
      try dsimp only at hV
      refine X_cut (P := True) (csE := [(m, ex_o 12 [ex_i x0, ex_i x1, ex_r x2, ex_i x3, ex_i x4, ex_i x5, ex_i x6, ex_j x7, ex_i x8, ex_i x9, ex_r x10, ex_r x11, ex_r x12, ex_r x13, ex_r x14, ex_r x15, ex_r x16, ex_r x17, ex_r x18, ex_r x19, ex_r x20, ex_r x21, ex_r x22, ex_r x23, ex_r x24, ex_r x25, ex_i x26, ex_i x27, ex_r x28, ex_r x29, ex_r x30, ex_r x31, ex_r x32, ex_r x33, ex_r x34, ex_r x35, ex_r x36, ex_r x37, ex_r x38, ex_r x39, ex_i x40, ex_j x41, ex_r x42, ex_r x43, ex_r x44, ex_r x45, ex_r x46, ex_r x47, ex_r x48, ex_r x49, ex_r x50, ex_r x51, ex_r x52, ex_r x53, ex_i x54, ex_i x55, ex_i x56, ex_i x57, ex_r x58, ex_r x59, ex_r x60, ex_r x61, ex_i x62, ex_r x63, ex_r x64, ex_i ap, ex_j x66]), (x10, ex_a 1 10 ho), (x15, ex_a 1 12 zt), (x63, ex_a 1 6 po), (x64, ex_a 1 6 v_11)]) (lvE := [(0, ex_r m), (1, ex_i (nI lf)), (2, ex_i al), (3, ex_i ap)]) (E := 55) (fun hrest28 => ?_) (fun hPX28 => ?_)
      · have hL28 := hq_v_11.symm
        refine X_ind (fun (a28 : Nat × (Nat → Int32)) => v_11 = F_X12_pairs_6_L28 po (6 - a28.1) a28.1 a28.2 ∧ a28.1 ≤ 6) (fun (a28 : Nat × (Nat → Int32)) => 6 - a28.1) (fun (a28 : Nat × (Nat → Int32)) => [(m, ex_o 12 [ex_i x0, ex_i x1, ex_r x2, ex_i x3, ex_i x4, ex_i x5, ex_i x6, ex_j x7, ex_i x8, ex_i x9, ex_r x10, ex_r x11, ex_r x12, ex_r x13, ex_r x14, ex_r x15, ex_r x16, ex_r x17, ex_r x18, ex_r x19, ex_r x20, ex_r x21, ex_r x22, ex_r x23, ex_r x24, ex_r x25, ex_i x26, ex_i x27, ex_r x28, ex_r x29, ex_r x30, ex_r x31, ex_r x32, ex_r x33, ex_r x34, ex_r x35, ex_r x36, ex_r x37, ex_r x38, ex_r x39, ex_i x40, ex_j x41, ex_r x42, ex_r x43, ex_r x44, ex_r x45, ex_r x46, ex_r x47, ex_r x48, ex_r x49, ex_r x50, ex_r x51, ex_r x52, ex_r x53, ex_i x54, ex_i x55, ex_i x56, ex_i x57, ex_r x58, ex_r x59, ex_r x60, ex_r x61, ex_i x62, ex_r x63, ex_r x64, ex_i ap, ex_j x66]), (x10, ex_a 1 10 ho), (x15, ex_a 1 12 zt), (x63, ex_a 1 6 po), (x64, ex_a 1 6 a28.2)]) (fun (a28 : Nat × (Nat → Int32)) => [(4, ex_i (nI a28.1)), (0, ex_r m), (1, ex_i (nI lf)), (2, ex_i al), (3, ex_i ap)]) (fun ⟨k28, s28_0⟩ hI28 ih28 => ?_) (0, bp) ⟨hL28, (by omega)⟩
        try dsimp only at hI28 ih28 ⊢
        have ihc28 : ∀ (k28_ : Nat) (s28_0_ : Nat → Int32), (v_11 = F_X12_pairs_6_L28 po (6 - k28_) k28_ s28_0_ ∧ k28_ ≤ 6) → (6 - k28_) < (6 - k28) → ex_O _ _ _ _ _ _ _ _ _ [(m, ex_o 12 [ex_i x0, ex_i x1, ex_r x2, ex_i x3, ex_i x4, ex_i x5, ex_i x6, ex_j x7, ex_i x8, ex_i x9, ex_r x10, ex_r x11, ex_r x12, ex_r x13, ex_r x14, ex_r x15, ex_r x16, ex_r x17, ex_r x18, ex_r x19, ex_r x20, ex_r x21, ex_r x22, ex_r x23, ex_r x24, ex_r x25, ex_i x26, ex_i x27, ex_r x28, ex_r x29, ex_r x30, ex_r x31, ex_r x32, ex_r x33, ex_r x34, ex_r x35, ex_r x36, ex_r x37, ex_r x38, ex_r x39, ex_i x40, ex_j x41, ex_r x42, ex_r x43, ex_r x44, ex_r x45, ex_r x46, ex_r x47, ex_r x48, ex_r x49, ex_r x50, ex_r x51, ex_r x52, ex_r x53, ex_i x54, ex_i x55, ex_i x56, ex_i x57, ex_r x58, ex_r x59, ex_r x60, ex_r x61, ex_i x62, ex_r x63, ex_r x64, ex_i ap, ex_j x66]), (x10, ex_a 1 10 ho), (x15, ex_a 1 12 zt), (x63, ex_a 1 6 po), (x64, ex_a 1 6 s28_0_)] [(4, ex_i (nI k28_)), (0, ex_r m), (1, ex_i (nI lf)), (2, ex_i al), (3, ex_i ap)] _ _ := fun k28_ s28_0_ hi_ hm_ => ih28 (k28_, s28_0_) hi_ hm_
        have hL28 := hI28.1
        have hb28 := hI28.2
        refine X_iload (j := 0) dX12_pairs_28 rfl ?_
        refine X_bipush (v := 6) dX12_pairs_30 (by decide) ?_
        refine X_icmp_ge (tgt := 55) dX12_pairs_32 (by decide) (fun c_12 => ?_) (fun c_12 => ?_)
        · have hlt28 : k28 = 6 := nlex (L := 6) (by omega) hb28 c_12
          rw [show 6 - k28 = 0 by omega] at hL28
          have hL28 := hL28.trans (F_X12_pairs_6_L28_z ..)
          try dsimp only at hL28
          refine X_lv (lv' := [(0, ex_r m), (1, ex_i (nI lf)), (2, ex_i al), (3, ex_i ap)]) [1, 2, 3, 4] rfl ?_
          refine X_eq (cs' := [(m, ex_o 12 [ex_i x0, ex_i x1, ex_r x2, ex_i x3, ex_i x4, ex_i x5, ex_i x6, ex_j x7, ex_i x8, ex_i x9, ex_r x10, ex_r x11, ex_r x12, ex_r x13, ex_r x14, ex_r x15, ex_r x16, ex_r x17, ex_r x18, ex_r x19, ex_r x20, ex_r x21, ex_r x22, ex_r x23, ex_r x24, ex_r x25, ex_i x26, ex_i x27, ex_r x28, ex_r x29, ex_r x30, ex_r x31, ex_r x32, ex_r x33, ex_r x34, ex_r x35, ex_r x36, ex_r x37, ex_r x38, ex_r x39, ex_i x40, ex_j x41, ex_r x42, ex_r x43, ex_r x44, ex_r x45, ex_r x46, ex_r x47, ex_r x48, ex_r x49, ex_r x50, ex_r x51, ex_r x52, ex_r x53, ex_i x54, ex_i x55, ex_i x56, ex_i x57, ex_r x58, ex_r x59, ex_r x60, ex_r x61, ex_i x62, ex_r x63, ex_r x64, ex_i ap, ex_j x66]), (x10, ex_a 1 10 ho), (x15, ex_a 1 12 zt), (x63, ex_a 1 6 po), (x64, ex_a 1 6 v_11)]) (lv' := [(0, ex_r m), (1, ex_i (nI lf)), (2, ex_i al), (3, ex_i ap)]) (by subst hL28; rfl) (by subst hL28; rfl) ?_
          exact hrest28 trivial
        · have hlt28 : k28 < 6 := nlen (L := 6) (by omega) hb28 c_12
          rw [show 6 - k28 = (6 - (k28 + 1)) + 1 by omega] at hL28
          have hL28 := hL28.trans (F_X12_pairs_6_L28_s ..)
          refine X_aload_n (j := 1) dX12_pairs_35 rfl rfl ?_
          refine X_get (j := 0) fo_X12_150 dX12_pairs_36 rfl rfl ?_
          refine X_iload (j := 0) dX12_pairs_39 rfl ?_
          refine X_aload_n (j := 1) dX12_pairs_41 rfl rfl ?_
          refine X_get (j := 0) fo_X12_147 dX12_pairs_42 rfl rfl ?_
          refine X_iload (j := 0) dX12_pairs_45 rfl ?_
          refine X_iald (j := 3) (v := (po k28)) dX12_pairs_47 rfl (vp_in_nI (show k28 < 6 by omega) (by decide)) (by rw [nI_clamp (by omega)]) ?_
          refine X_iast (j := 4) (g := upd s28_0 k28 (po k28)) (cs' := [(m, ex_o 12 [ex_i x0, ex_i x1, ex_r x2, ex_i x3, ex_i x4, ex_i x5, ex_i x6, ex_j x7, ex_i x8, ex_i x9, ex_r x10, ex_r x11, ex_r x12, ex_r x13, ex_r x14, ex_r x15, ex_r x16, ex_r x17, ex_r x18, ex_r x19, ex_r x20, ex_r x21, ex_r x22, ex_r x23, ex_r x24, ex_r x25, ex_i x26, ex_i x27, ex_r x28, ex_r x29, ex_r x30, ex_r x31, ex_r x32, ex_r x33, ex_r x34, ex_r x35, ex_r x36, ex_r x37, ex_r x38, ex_r x39, ex_i x40, ex_j x41, ex_r x42, ex_r x43, ex_r x44, ex_r x45, ex_r x46, ex_r x47, ex_r x48, ex_r x49, ex_r x50, ex_r x51, ex_r x52, ex_r x53, ex_i x54, ex_i x55, ex_i x56, ex_i x57, ex_r x58, ex_r x59, ex_r x60, ex_r x61, ex_i x62, ex_r x63, ex_r x64, ex_i ap, ex_j x66]), (x10, ex_a 1 10 ho), (x15, ex_a 1 12 zt), (x63, ex_a 1 6 po), (x64, ex_a 1 6 (upd s28_0 k28 (po k28)))]) dX12_pairs_48 rfl (vp_in_nI (show k28 < 6 by omega) (by decide)) (by rw [nI_clamp (by omega)]) rfl ?_
          refine X_iinc (v := nI (k28 + 1)) (j := 0) (lv' := [(4, ex_i (nI (k28 + 1))), (0, ex_r m), (1, ex_i (nI lf)), (2, ex_i al), (3, ex_i ap)]) dX12_pairs_49 rfl (nI_add k28 1) (Nat.le_of_ble_eq_true rfl) rfl ?_
          refine X_goto (tgt := 28) dX12_pairs_52 (by decide) ?_
          try dsimp only at hL28
          exact ihc28 (k28 + 1) (upd s28_0 k28 (po k28)) ⟨hL28, (show (k28 + 1) ≤ 6 by omega)⟩ (show 6 - (k28 + 1) < 6 - k28 by omega)
      try dsimp only at hV
      exact X_vret dX12_pairs_55 (by (repeat refine ex_kc ?_) <;> rfl) (by subst hV; exact ⟨rfl, rfl⟩)
    · have hV := hV.trans (if_neg c_10)
      refine X_iload_n (j := 3) dX12_pairs_11 rfl rfl ?_
      refine X_aload_n (j := 0) dX12_pairs_12 rfl rfl ?_
      refine X_get (j := 0) fo_X12_509 dX12_pairs_13 rfl rfl ?_
      refine X_icmp_lt (tgt := 20) dX12_pairs_16 (by decide) (fun c_13 => ?_) (fun c_13 => ?_)
      · have hV := hV.trans (if_pos c_13)
        refine X_aload_n (j := 0) dX12_pairs_20 rfl rfl ?_
        refine X_iload_n (j := 3) dX12_pairs_21 rfl rfl ?_
        refine X_put (j := 0) (cs' := [(m, ex_o 12 [ex_i x0, ex_i x1, ex_r x2, ex_i x3, ex_i x4, ex_i x5, ex_i x6, ex_j x7, ex_i x8, ex_i x9, ex_r x10, ex_r x11, ex_r x12, ex_r x13, ex_r x14, ex_r x15, ex_r x16, ex_r x17, ex_r x18, ex_r x19, ex_r x20, ex_r x21, ex_r x22, ex_r x23, ex_r x24, ex_r x25, ex_i x26, ex_i x27, ex_r x28, ex_r x29, ex_r x30, ex_r x31, ex_r x32, ex_r x33, ex_r x34, ex_r x35, ex_r x36, ex_r x37, ex_r x38, ex_r x39, ex_i x40, ex_j x41, ex_r x42, ex_r x43, ex_r x44, ex_r x45, ex_r x46, ex_r x47, ex_r x48, ex_r x49, ex_r x50, ex_r x51, ex_r x52, ex_r x53, ex_i x54, ex_i x55, ex_i x56, ex_i x57, ex_r x58, ex_r x59, ex_r x60, ex_r x61, ex_i x62, ex_r x63, ex_r x64, ex_i ap, ex_j x66]), (x10, ex_a 1 10 ho), (x15, ex_a 1 12 zt), (x63, ex_a 1 6 po), (x64, ex_a 1 6 bp)]) fo_X12_509 (by decide) dX12_pairs_22 rfl (Nat.le_of_ble_eq_true rfl) trivial rfl ?_
        refine X_iconst (v := 0) dX12_pairs_25 (by decide) ?_
        refine X_istore (lv' := [(4, ex_i 0), (0, ex_r m), (1, ex_i (nI lf)), (2, ex_i al), (3, ex_i ap)]) dX12_pairs_26 (Nat.le_of_ble_eq_true rfl) rfl ?_
        -- loop at 28
        try dsimp only at hV
        generalize hq_v_14 : F_X12_pairs_6_L28_2 po (6 - 0) 0 bp = v_14 at hV
        try dsimp only at hV
        refine X_cut (P := True) (csE := [(m, ex_o 12 [ex_i x0, ex_i x1, ex_r x2, ex_i x3, ex_i x4, ex_i x5, ex_i x6, ex_j x7, ex_i x8, ex_i x9, ex_r x10, ex_r x11, ex_r x12, ex_r x13, ex_r x14, ex_r x15, ex_r x16, ex_r x17, ex_r x18, ex_r x19, ex_r x20, ex_r x21, ex_r x22, ex_r x23, ex_r x24, ex_r x25, ex_i x26, ex_i x27, ex_r x28, ex_r x29, ex_r x30, ex_r x31, ex_r x32, ex_r x33, ex_r x34, ex_r x35, ex_r x36, ex_r x37, ex_r x38, ex_r x39, ex_i x40, ex_j x41, ex_r x42, ex_r x43, ex_r x44, ex_r x45, ex_r x46, ex_r x47, ex_r x48, ex_r x49, ex_r x50, ex_r x51, ex_r x52, ex_r x53, ex_i x54, ex_i x55, ex_i x56, ex_i x57, ex_r x58, ex_r x59, ex_r x60, ex_r x61, ex_i x62, ex_r x63, ex_r x64, ex_i ap, ex_j x66]), (x10, ex_a 1 10 ho), (x15, ex_a 1 12 zt), (x63, ex_a 1 6 po), (x64, ex_a 1 6 v_14)]) (lvE := [(0, ex_r m), (1, ex_i (nI lf)), (2, ex_i al), (3, ex_i ap)]) (E := 55) (fun hrest28 => ?_) (fun hPX28 => ?_)
        · have hL28 := hq_v_14.symm
          refine X_ind (fun (a28 : Nat × (Nat → Int32)) => v_14 = F_X12_pairs_6_L28_2 po (6 - a28.1) a28.1 a28.2 ∧ a28.1 ≤ 6) (fun (a28 : Nat × (Nat → Int32)) => 6 - a28.1) (fun (a28 : Nat × (Nat → Int32)) => [(m, ex_o 12 [ex_i x0, ex_i x1, ex_r x2, ex_i x3, ex_i x4, ex_i x5, ex_i x6, ex_j x7, ex_i x8, ex_i x9, ex_r x10, ex_r x11, ex_r x12, ex_r x13, ex_r x14, ex_r x15, ex_r x16, ex_r x17, ex_r x18, ex_r x19, ex_r x20, ex_r x21, ex_r x22, ex_r x23, ex_r x24, ex_r x25, ex_i x26, ex_i x27, ex_r x28, ex_r x29, ex_r x30, ex_r x31, ex_r x32, ex_r x33, ex_r x34, ex_r x35, ex_r x36, ex_r x37, ex_r x38, ex_r x39, ex_i x40, ex_j x41, ex_r x42, ex_r x43, ex_r x44, ex_r x45, ex_r x46, ex_r x47, ex_r x48, ex_r x49, ex_r x50, ex_r x51, ex_r x52, ex_r x53, ex_i x54, ex_i x55, ex_i x56, ex_i x57, ex_r x58, ex_r x59, ex_r x60, ex_r x61, ex_i x62, ex_r x63, ex_r x64, ex_i ap, ex_j x66]), (x10, ex_a 1 10 ho), (x15, ex_a 1 12 zt), (x63, ex_a 1 6 po), (x64, ex_a 1 6 a28.2)]) (fun (a28 : Nat × (Nat → Int32)) => [(4, ex_i (nI a28.1)), (0, ex_r m), (1, ex_i (nI lf)), (2, ex_i al), (3, ex_i ap)]) (fun ⟨k28, s28_0⟩ hI28 ih28 => ?_) (0, bp) ⟨hL28, (by omega)⟩
          try dsimp only at hI28 ih28 ⊢
          have ihc28 : ∀ (k28_ : Nat) (s28_0_ : Nat → Int32), (v_14 = F_X12_pairs_6_L28_2 po (6 - k28_) k28_ s28_0_ ∧ k28_ ≤ 6) → (6 - k28_) < (6 - k28) → ex_O _ _ _ _ _ _ _ _ _ [(m, ex_o 12 [ex_i x0, ex_i x1, ex_r x2, ex_i x3, ex_i x4, ex_i x5, ex_i x6, ex_j x7, ex_i x8, ex_i x9, ex_r x10, ex_r x11, ex_r x12, ex_r x13, ex_r x14, ex_r x15, ex_r x16, ex_r x17, ex_r x18, ex_r x19, ex_r x20, ex_r x21, ex_r x22, ex_r x23, ex_r x24, ex_r x25, ex_i x26, ex_i x27, ex_r x28, ex_r x29, ex_r x30, ex_r x31, ex_r x32, ex_r x33, ex_r x34, ex_r x35, ex_r x36, ex_r x37, ex_r x38, ex_r x39, ex_i x40, ex_j x41, ex_r x42, ex_r x43, ex_r x44, ex_r x45, ex_r x46, ex_r x47, ex_r x48, ex_r x49, ex_r x50, ex_r x51, ex_r x52, ex_r x53, ex_i x54, ex_i x55, ex_i x56, ex_i x57, ex_r x58, ex_r x59, ex_r x60, ex_r x61, ex_i x62, ex_r x63, ex_r x64, ex_i ap, ex_j x66]), (x10, ex_a 1 10 ho), (x15, ex_a 1 12 zt), (x63, ex_a 1 6 po), (x64, ex_a 1 6 s28_0_)] [(4, ex_i (nI k28_)), (0, ex_r m), (1, ex_i (nI lf)), (2, ex_i al), (3, ex_i ap)] _ _ := fun k28_ s28_0_ hi_ hm_ => ih28 (k28_, s28_0_) hi_ hm_
          have hL28 := hI28.1
          have hb28 := hI28.2
          refine X_iload (j := 0) dX12_pairs_28 rfl ?_
          refine X_bipush (v := 6) dX12_pairs_30 (by decide) ?_
          refine X_icmp_ge (tgt := 55) dX12_pairs_32 (by decide) (fun c_15 => ?_) (fun c_15 => ?_)
          · have hlt28 : k28 = 6 := nlex (L := 6) (by omega) hb28 c_15
            rw [show 6 - k28 = 0 by omega] at hL28
            have hL28 := hL28.trans (F_X12_pairs_6_L28_2_z ..)
            try dsimp only at hL28
            refine X_lv (lv' := [(0, ex_r m), (1, ex_i (nI lf)), (2, ex_i al), (3, ex_i ap)]) [1, 2, 3, 4] rfl ?_
            refine X_eq (cs' := [(m, ex_o 12 [ex_i x0, ex_i x1, ex_r x2, ex_i x3, ex_i x4, ex_i x5, ex_i x6, ex_j x7, ex_i x8, ex_i x9, ex_r x10, ex_r x11, ex_r x12, ex_r x13, ex_r x14, ex_r x15, ex_r x16, ex_r x17, ex_r x18, ex_r x19, ex_r x20, ex_r x21, ex_r x22, ex_r x23, ex_r x24, ex_r x25, ex_i x26, ex_i x27, ex_r x28, ex_r x29, ex_r x30, ex_r x31, ex_r x32, ex_r x33, ex_r x34, ex_r x35, ex_r x36, ex_r x37, ex_r x38, ex_r x39, ex_i x40, ex_j x41, ex_r x42, ex_r x43, ex_r x44, ex_r x45, ex_r x46, ex_r x47, ex_r x48, ex_r x49, ex_r x50, ex_r x51, ex_r x52, ex_r x53, ex_i x54, ex_i x55, ex_i x56, ex_i x57, ex_r x58, ex_r x59, ex_r x60, ex_r x61, ex_i x62, ex_r x63, ex_r x64, ex_i ap, ex_j x66]), (x10, ex_a 1 10 ho), (x15, ex_a 1 12 zt), (x63, ex_a 1 6 po), (x64, ex_a 1 6 v_14)]) (lv' := [(0, ex_r m), (1, ex_i (nI lf)), (2, ex_i al), (3, ex_i ap)]) (by subst hL28; rfl) (by subst hL28; rfl) ?_
            exact hrest28 trivial
          · have hlt28 : k28 < 6 := nlen (L := 6) (by omega) hb28 c_15
            rw [show 6 - k28 = (6 - (k28 + 1)) + 1 by omega] at hL28
            have hL28 := hL28.trans (F_X12_pairs_6_L28_2_s ..)
            refine X_aload_n (j := 1) dX12_pairs_35 rfl rfl ?_
            refine X_get (j := 0) fo_X12_150 dX12_pairs_36 rfl rfl ?_
            refine X_iload (j := 0) dX12_pairs_39 rfl ?_
            refine X_aload_n (j := 1) dX12_pairs_41 rfl rfl ?_
            refine X_get (j := 0) fo_X12_147 dX12_pairs_42 rfl rfl ?_
            refine X_iload (j := 0) dX12_pairs_45 rfl ?_
            refine X_iald (j := 3) (v := (po k28)) dX12_pairs_47 rfl (vp_in_nI (show k28 < 6 by omega) (by decide)) (by rw [nI_clamp (by omega)]) ?_
            refine X_iast (j := 4) (g := upd s28_0 k28 (po k28)) (cs' := [(m, ex_o 12 [ex_i x0, ex_i x1, ex_r x2, ex_i x3, ex_i x4, ex_i x5, ex_i x6, ex_j x7, ex_i x8, ex_i x9, ex_r x10, ex_r x11, ex_r x12, ex_r x13, ex_r x14, ex_r x15, ex_r x16, ex_r x17, ex_r x18, ex_r x19, ex_r x20, ex_r x21, ex_r x22, ex_r x23, ex_r x24, ex_r x25, ex_i x26, ex_i x27, ex_r x28, ex_r x29, ex_r x30, ex_r x31, ex_r x32, ex_r x33, ex_r x34, ex_r x35, ex_r x36, ex_r x37, ex_r x38, ex_r x39, ex_i x40, ex_j x41, ex_r x42, ex_r x43, ex_r x44, ex_r x45, ex_r x46, ex_r x47, ex_r x48, ex_r x49, ex_r x50, ex_r x51, ex_r x52, ex_r x53, ex_i x54, ex_i x55, ex_i x56, ex_i x57, ex_r x58, ex_r x59, ex_r x60, ex_r x61, ex_i x62, ex_r x63, ex_r x64, ex_i ap, ex_j x66]), (x10, ex_a 1 10 ho), (x15, ex_a 1 12 zt), (x63, ex_a 1 6 po), (x64, ex_a 1 6 (upd s28_0 k28 (po k28)))]) dX12_pairs_48 rfl (vp_in_nI (show k28 < 6 by omega) (by decide)) (by rw [nI_clamp (by omega)]) rfl ?_
            refine X_iinc (v := nI (k28 + 1)) (j := 0) (lv' := [(4, ex_i (nI (k28 + 1))), (0, ex_r m), (1, ex_i (nI lf)), (2, ex_i al), (3, ex_i ap)]) dX12_pairs_49 rfl (nI_add k28 1) (Nat.le_of_ble_eq_true rfl) rfl ?_
            refine X_goto (tgt := 28) dX12_pairs_52 (by decide) ?_
            try dsimp only at hL28
            exact ihc28 (k28 + 1) (upd s28_0 k28 (po k28)) ⟨hL28, (show (k28 + 1) ≤ 6 by omega)⟩ (show 6 - (k28 + 1) < 6 - k28 by omega)
        try dsimp only at hV
        exact X_vret dX12_pairs_55 (by (repeat refine ex_kc ?_) <;> rfl) (by subst hV; exact ⟨rfl, rfl⟩)
      · have hV := hV.trans (if_neg c_13)
        try dsimp only at hV
        exact X_vret dX12_pairs_19 (by (repeat refine ex_kc ?_) <;> rfl) (by subst hV; exact ⟨rfl, rfl⟩)
