set_option maxHeartbeats 4000000 in
set_option maxRecDepth 100000 in
theorem e_X12_feed (l : Launch) (L : Nat) (a1 : Int64) (a2 : Int64) (a3 : Int64) (m : Nat) (x0 : Int32) (x2 : Nat) (x3 : Int32) (x4 : Int32) (x5 : Int32) (x6 : Int32) (x7 : Int64) (x8 : Int32) (x9 : Int32) (x10 : Nat) (x11 : Nat) (x12 : Nat) (x13 : Nat) (x14 : Nat) (x15 : Nat) (x16 : Nat) (x17 : Nat) (x18 : Nat) (x19 : Nat) (x20 : Nat) (x21 : Nat) (x22 : Nat) (x23 : Nat) (x24 : Nat) (x25 : Nat) (x26 : Int32) (x27 : Int32) (x28 : Nat) (x29 : Nat) (x30 : Nat) (x31 : Nat) (x32 : Nat) (x33 : Nat) (x34 : Nat) (x35 : Nat) (x36 : Nat) (x37 : Nat) (x38 : Nat) (x39 : Nat) (x40 : Int32) (x41 : Int64) (x42 : Nat) (x43 : Nat) (x44 : Nat) (x45 : Nat) (x46 : Nat) (x47 : Nat) (x48 : Nat) (x49 : Nat) (x50 : Nat) (x51 : Nat) (x52 : Nat) (x53 : Nat) (x54 : Int32) (x55 : Int32) (x56 : Int32) (x57 : Int32) (x58 : Nat) (x59 : Nat) (x60 : Nat) (x61 : Nat) (x62 : Int32) (x63 : Nat) (x64 : Nat) (x65 : Int32) (x66 : Int64) (f : Nat → Int32) (hL : L ≤ 1000) : ex_M l yX12_feed cX12_feed 11 (some .int) 0 0 [ex_r m, ex_j a1, ex_j a2, ex_j a3] [(m, ex_o 12 [ex_i x0, ex_i (nI L), ex_r x2, ex_i x3, ex_i x4, ex_i x5, ex_i x6, ex_j x7, ex_i x8, ex_i x9, ex_r x10, ex_r x11, ex_r x12, ex_r x13, ex_r x14, ex_r x15, ex_r x16, ex_r x17, ex_r x18, ex_r x19, ex_r x20, ex_r x21, ex_r x22, ex_r x23, ex_r x24, ex_r x25, ex_i x26, ex_i x27, ex_r x28, ex_r x29, ex_r x30, ex_r x31, ex_r x32, ex_r x33, ex_r x34, ex_r x35, ex_r x36, ex_r x37, ex_r x38, ex_r x39, ex_i x40, ex_j x41, ex_r x42, ex_r x43, ex_r x44, ex_r x45, ex_r x46, ex_r x47, ex_r x48, ex_r x49, ex_r x50, ex_r x51, ex_r x52, ex_r x53, ex_i x54, ex_i x55, ex_i x56, ex_i x57, ex_r x58, ex_r x59, ex_r x60, ex_r x61, ex_i x62, ex_r x63, ex_r x64, ex_i x65, ex_j x66]), (x2, ex_a 1 1000 f)] (fun cs r => (cs = [(m, ex_o 12 [ex_i 0, ex_i (nI (cb (cb (cb L a1 8) a2 8) a3 8)), ex_r x2, ex_i x3, ex_i x4, ex_i x5, ex_i x6, ex_j x7, ex_i x8, ex_i x9, ex_r x10, ex_r x11, ex_r x12, ex_r x13, ex_r x14, ex_r x15, ex_r x16, ex_r x17, ex_r x18, ex_r x19, ex_r x20, ex_r x21, ex_r x22, ex_r x23, ex_r x24, ex_r x25, ex_i x26, ex_i x27, ex_r x28, ex_r x29, ex_r x30, ex_r x31, ex_r x32, ex_r x33, ex_r x34, ex_r x35, ex_r x36, ex_r x37, ex_r x38, ex_r x39, ex_i x40, ex_j x41, ex_r x42, ex_r x43, ex_r x44, ex_r x45, ex_r x46, ex_r x47, ex_r x48, ex_r x49, ex_r x50, ex_r x51, ex_r x52, ex_r x53, ex_i x54, ex_i x55, ex_i x56, ex_i x57, ex_r x58, ex_r x59, ex_r x60, ex_r x61, ex_i x62, ex_r x63, ex_r x64, ex_i x65, ex_j x66]), (x2, ex_a 1 1000 (fb (fb (fb f L a1 8) (cb L a1 8) a2 8) (cb (cb L a1 8) a2 8) a3 8))] ∧ r = some (ex_i (nI (cb (cb (cb L a1 8) a2 8) a3 8))))) := by
  refine X_meth (by decide) (Nat.le_of_ble_eq_true rfl) ?_
  refine X_aload_n (j := 0) dX12_feed_0 rfl rfl ?_
  refine X_iconst (v := 0) dX12_feed_1 (by decide) ?_
  refine X_put (j := 0) (cs' := [(m, ex_o 12 [ex_i 0, ex_i (nI L), ex_r x2, ex_i x3, ex_i x4, ex_i x5, ex_i x6, ex_j x7, ex_i x8, ex_i x9, ex_r x10, ex_r x11, ex_r x12, ex_r x13, ex_r x14, ex_r x15, ex_r x16, ex_r x17, ex_r x18, ex_r x19, ex_r x20, ex_r x21, ex_r x22, ex_r x23, ex_r x24, ex_r x25, ex_i x26, ex_i x27, ex_r x28, ex_r x29, ex_r x30, ex_r x31, ex_r x32, ex_r x33, ex_r x34, ex_r x35, ex_r x36, ex_r x37, ex_r x38, ex_r x39, ex_i x40, ex_j x41, ex_r x42, ex_r x43, ex_r x44, ex_r x45, ex_r x46, ex_r x47, ex_r x48, ex_r x49, ex_r x50, ex_r x51, ex_r x52, ex_r x53, ex_i x54, ex_i x55, ex_i x56, ex_i x57, ex_r x58, ex_r x59, ex_r x60, ex_r x61, ex_i x62, ex_r x63, ex_r x64, ex_i x65, ex_j x66]), (x2, ex_a 1 1000 f)]) fo_X12_156 (by decide) dX12_feed_2 rfl (Nat.le_of_ble_eq_true rfl) trivial rfl ?_
  refine X_iconst (v := 0) dX12_feed_5 (by decide) ?_
  refine X_istore (lv' := [(7, ex_i 0), (0, ex_r m), (1, ex_j a1), (3, ex_j a2), (5, ex_j a3)]) dX12_feed_6 (Nat.le_of_ble_eq_true rfl) rfl ?_
  refine X_lv (lv' := [(0, ex_r m), (1, ex_j a1), (3, ex_j a2), (5, ex_j a3), (7, ex_i 0)]) [1, 2, 3, 4, 0] rfl ?_
  refine X_ind (fun (k : Nat) => k ≤ 24) (fun (k : Nat) => 24 - k) (fun (k : Nat) => [(m, ex_o 12 [ex_i 0, ex_i (nI (cm L a1 a2 a3 k)), ex_r x2, ex_i x3, ex_i x4, ex_i x5, ex_i x6, ex_j x7, ex_i x8, ex_i x9, ex_r x10, ex_r x11, ex_r x12, ex_r x13, ex_r x14, ex_r x15, ex_r x16, ex_r x17, ex_r x18, ex_r x19, ex_r x20, ex_r x21, ex_r x22, ex_r x23, ex_r x24, ex_r x25, ex_i x26, ex_i x27, ex_r x28, ex_r x29, ex_r x30, ex_r x31, ex_r x32, ex_r x33, ex_r x34, ex_r x35, ex_r x36, ex_r x37, ex_r x38, ex_r x39, ex_i x40, ex_j x41, ex_r x42, ex_r x43, ex_r x44, ex_r x45, ex_r x46, ex_r x47, ex_r x48, ex_r x49, ex_r x50, ex_r x51, ex_r x52, ex_r x53, ex_i x54, ex_i x55, ex_i x56, ex_i x57, ex_r x58, ex_r x59, ex_r x60, ex_r x61, ex_i x62, ex_r x63, ex_r x64, ex_i x65, ex_j x66]), (x2, ex_a 1 1000 (fbw f L a1 a2 a3 k))]) (fun (k : Nat) => [(0, ex_r m), (1, ex_j a1), (3, ex_j a2), (5, ex_j a3), (7, ex_i (nI k))]) (fun k hI ih => ?_) 0 (by decide)
  try dsimp only at hI ih ⊢
  refine X_iload (j := 4) dX12_feed_8 rfl ?_
  refine X_bipush (v := 24) dX12_feed_10 (by decide) ?_
  refine X_icmp_ge (tgt := 120) dX12_feed_12 (by decide) (fun c_1 => ?_) (fun c_1 => ?_)
  · have hk9 : k = 24 := Nat.le_antisymm hI (Nat.le_of_not_lt fun q => absurd c_1 (nI_ge (b := 24) q (by decide)))
    rw [hk9, fbw_fb, cm_cb]
    refine X_aload_n (j := 0) dX12_feed_120 rfl rfl ?_
    refine X_get (j := 0) fo_X12_162 dX12_feed_121 rfl rfl ?_
    exact X_iret ex_nI rfl dX12_feed_124 rfl (⟨rfl, rfl⟩)
  · have hk24 : k < 24 := Nat.lt_of_not_le fun q => c_1 (nI_le (a := 24) q (by omega))
    refine X_iload (j := 4) dX12_feed_15 rfl ?_
    refine X_bipush (v := 8) dX12_feed_17 (by decide) ?_
    refine X_icmp_ge (tgt := 26) dX12_feed_19 (by decide) (fun c_2 => ?_) (fun c_2 => ?_)
    · refine X_iload (j := 4) dX12_feed_26 rfl ?_
      refine X_bipush (v := 16) dX12_feed_28 (by decide) ?_
      refine X_icmp_ge (tgt := 37) dX12_feed_30 (by decide) (fun c_3 => ?_) (fun c_3 => ?_)
      · refine X_lload (j := 3) dX12_feed_37 rfl ?_
        refine X_lstore (lv' := [(8, ex_j a3), (0, ex_r m), (1, ex_j a1), (3, ex_j a2), (5, ex_j a3), (7, ex_i (nI k))]) dX12_feed_39 (Nat.le_of_ble_eq_true rfl) rfl ?_
        have epk : pck a1 a2 a3 k = a3 := (if_neg (fun q => absurd c_2 (nI_ge (b := 8) q (by decide)))).trans (if_neg (fun q => absurd c_3 (nI_ge (b := 16) q (by decide))))
        refine X_lload (j := 0) dX12_feed_41 rfl ?_
        refine X_bipush (v := 56) dX12_feed_43 (by decide) ?_
        refine X_bipush (v := 8) dX12_feed_45 (by decide) ?_
        refine X_iload (j := 5) dX12_feed_47 rfl ?_
        refine X_bipush (v := 7) dX12_feed_49 (by decide) ?_
        refine X_iand (v := ((nI k) &&& 7)) dX12_feed_51 rfl ?_
        refine X_imul (v := (8 * ((nI k) &&& 7))) dX12_feed_52 rfl ?_
        refine X_isub (v := (56 - (8 * ((nI k) &&& 7)))) dX12_feed_53 rfl ?_
        refine X_lushr (v := (a3.toUInt64 >>> ((56 - (8 * ((nI k) &&& 7))).toInt64.toUInt64 &&& Int64.toUInt64 63)).toInt64) dX12_feed_54 rfl ?_
        refine X_ldc2_w (v := 255) k_1525 dX12_feed_55 ?_
        refine X_land (v := (((a3.toUInt64 >>> ((56 - (8 * ((nI k) &&& 7))).toInt64.toUInt64 &&& Int64.toUInt64 63)).toInt64) &&& 255)) dX12_feed_58 rfl ?_
        refine X_l2i (v := (byt (pck a1 a2 a3 k) (k % 8))) dX12_feed_59 (by rw [epk, pk_andN (by omega) 3 rfl, show (8 : Int32) = nI 8 from rfl, pk_mul, e56 (Nat.mod_lt k (by decide))]; rfl) ?_
        refine X_istore (lv' := [(10, ex_i (byt (pck a1 a2 a3 k) (k % 8))), (8, ex_j a3), (0, ex_r m), (1, ex_j a1), (3, ex_j a2), (5, ex_j a3), (7, ex_i (nI k))]) dX12_feed_60 (Nat.le_of_ble_eq_true rfl) rfl ?_
        refine X_aload_n (j := 2) dX12_feed_62 rfl rfl ?_
        refine X_get (j := 0) fo_X12_162 dX12_feed_63 rfl rfl ?_
        refine X_sipush (v := 1000) dX12_feed_66 (by decide) ?_
        refine X_icmp_ge (tgt := 114) dX12_feed_69 (by decide) (fun c_4 => ?_) (fun c_4 => ?_)
        · refine X_iinc (v := nI (k + 1)) (j := 6) (lv' := [(7, ex_i (nI (k + 1))), (10, ex_i (byt (pck a1 a2 a3 k) (k % 8))), (8, ex_j a3), (0, ex_r m), (1, ex_j a1), (3, ex_j a2), (5, ex_j a3)]) dX12_feed_114 rfl (nI_1 k) (Nat.le_of_ble_eq_true rfl) rfl ?_
          refine X_goto (tgt := 8) dX12_feed_117 (by decide) ?_
          have ec : nI (cm L a1 a2 a3 k) = nI (cm L a1 a2 a3 (k + 1)) := congrArg nI (show _ = stp _ _ from (stp_full (nI_ge1000 (cm_le a1 a2 a3 hL k) c_4)).symm)
          have ef : fbw f L a1 a2 a3 k = fbw f L a1 a2 a3 (k + 1) := (show _ = wst _ _ _ from wst_full (nI_ge1000 (cm_le a1 a2 a3 hL k) c_4))
          rw [ef, ec]
          refine X_lv (lv' := [(0, ex_r m), (1, ex_j a1), (3, ex_j a2), (5, ex_j a3), (7, ex_i (nI (k + 1)))]) [3, 4, 5, 6, 0] rfl ?_
          exact ih (k + 1) hk24 (by omega)
        · have hlt : cm L a1 a2 a3 k < 1000 := nI_lt1000 (cm_le a1 a2 a3 hL k) c_4
          refine X_iload (j := 0) dX12_feed_72 rfl ?_
          refine X_bipush (v := 10) dX12_feed_74 (by decide) ?_
          refine X_icmp_eq (tgt := 93) dX12_feed_76 (by decide) (fun c_5 => ?_) (fun c_5 => ?_)
          · refine X_aload_n (j := 2) dX12_feed_93 rfl rfl ?_
            refine X_get (j := 0) fo_X12_7 dX12_feed_94 rfl rfl ?_
            refine X_aload_n (j := 2) dX12_feed_97 rfl rfl ?_
            refine X_get (j := 0) fo_X12_162 dX12_feed_98 rfl rfl ?_
            refine X_iload (j := 0) dX12_feed_101 rfl ?_
            refine X_iast (j := 1) (g := upd (fbw f L a1 a2 a3 k) (cm L a1 a2 a3 k) (byt (pck a1 a2 a3 k) (k % 8))) (cs' := [(m, ex_o 12 [ex_i 0, ex_i (nI (cm L a1 a2 a3 k)), ex_r x2, ex_i x3, ex_i x4, ex_i x5, ex_i x6, ex_j x7, ex_i x8, ex_i x9, ex_r x10, ex_r x11, ex_r x12, ex_r x13, ex_r x14, ex_r x15, ex_r x16, ex_r x17, ex_r x18, ex_r x19, ex_r x20, ex_r x21, ex_r x22, ex_r x23, ex_r x24, ex_r x25, ex_i x26, ex_i x27, ex_r x28, ex_r x29, ex_r x30, ex_r x31, ex_r x32, ex_r x33, ex_r x34, ex_r x35, ex_r x36, ex_r x37, ex_r x38, ex_r x39, ex_i x40, ex_j x41, ex_r x42, ex_r x43, ex_r x44, ex_r x45, ex_r x46, ex_r x47, ex_r x48, ex_r x49, ex_r x50, ex_r x51, ex_r x52, ex_r x53, ex_i x54, ex_i x55, ex_i x56, ex_i x57, ex_r x58, ex_r x59, ex_r x60, ex_r x61, ex_i x62, ex_r x63, ex_r x64, ex_i x65, ex_j x66]), (x2, ex_a 1 1000 (upd (fbw f L a1 a2 a3 k) (cm L a1 a2 a3 k) (byt (pck a1 a2 a3 k) (k % 8))))]) dX12_feed_103 rfl (vp_in_nI hlt (by decide)) (by rw [nI_clamp (by omega)]) rfl ?_
            refine X_aload_n (j := 2) dX12_feed_104 rfl rfl ?_
            refine X_dup dX12_feed_105 rfl ?_
            refine X_get (j := 0) fo_X12_162 dX12_feed_106 rfl rfl ?_
            refine X_iconst (v := 1) dX12_feed_109 (by decide) ?_
            refine X_iadd (v := nI (cm L a1 a2 a3 k + 1)) dX12_feed_110 (nI_1 _) ?_
            refine X_put (j := 0) (cs' := [(m, ex_o 12 [ex_i 0, ex_i (nI (cm L a1 a2 a3 k + 1)), ex_r x2, ex_i x3, ex_i x4, ex_i x5, ex_i x6, ex_j x7, ex_i x8, ex_i x9, ex_r x10, ex_r x11, ex_r x12, ex_r x13, ex_r x14, ex_r x15, ex_r x16, ex_r x17, ex_r x18, ex_r x19, ex_r x20, ex_r x21, ex_r x22, ex_r x23, ex_r x24, ex_r x25, ex_i x26, ex_i x27, ex_r x28, ex_r x29, ex_r x30, ex_r x31, ex_r x32, ex_r x33, ex_r x34, ex_r x35, ex_r x36, ex_r x37, ex_r x38, ex_r x39, ex_i x40, ex_j x41, ex_r x42, ex_r x43, ex_r x44, ex_r x45, ex_r x46, ex_r x47, ex_r x48, ex_r x49, ex_r x50, ex_r x51, ex_r x52, ex_r x53, ex_i x54, ex_i x55, ex_i x56, ex_i x57, ex_r x58, ex_r x59, ex_r x60, ex_r x61, ex_i x62, ex_r x63, ex_r x64, ex_i x65, ex_j x66]), (x2, ex_a 1 1000 (upd (fbw f L a1 a2 a3 k) (cm L a1 a2 a3 k) (byt (pck a1 a2 a3 k) (k % 8))))]) fo_X12_162 (by decide) dX12_feed_111 rfl (Nat.le_of_ble_eq_true rfl) trivial rfl ?_
            refine X_iinc (v := nI (k + 1)) (j := 6) (lv' := [(7, ex_i (nI (k + 1))), (10, ex_i (byt (pck a1 a2 a3 k) (k % 8))), (8, ex_j a3), (0, ex_r m), (1, ex_j a1), (3, ex_j a2), (5, ex_j a3)]) dX12_feed_114 rfl (nI_1 k) (Nat.le_of_ble_eq_true rfl) rfl ?_
            refine X_goto (tgt := 8) dX12_feed_117 (by decide) ?_
            have ec : nI (cm L a1 a2 a3 k + 1) = nI (cm L a1 a2 a3 (k + 1)) := congrArg nI (show _ = stp _ _ from (stp_yes (Or.inl c_5) hlt).symm)
            have ef : upd (fbw f L a1 a2 a3 k) (cm L a1 a2 a3 k) (byt (pck a1 a2 a3 k) (k % 8)) = fbw f L a1 a2 a3 (k + 1) := (show _ = wst _ _ _ from wst_yes (Or.inl c_5) hlt rfl rfl)
            rw [ef, ec]
            refine X_lv (lv' := [(0, ex_r m), (1, ex_j a1), (3, ex_j a2), (5, ex_j a3), (7, ex_i (nI (k + 1)))]) [3, 4, 5, 6, 0] rfl ?_
            exact ih (k + 1) hk24 (by omega)
          · refine X_iload (j := 0) dX12_feed_79 rfl ?_
            refine X_bipush (v := 32) dX12_feed_81 (by decide) ?_
            refine X_icmp_lt (tgt := 114) dX12_feed_83 (by decide) (fun c_6 => ?_) (fun c_6 => ?_)
            · refine X_iinc (v := nI (k + 1)) (j := 6) (lv' := [(7, ex_i (nI (k + 1))), (10, ex_i (byt (pck a1 a2 a3 k) (k % 8))), (8, ex_j a3), (0, ex_r m), (1, ex_j a1), (3, ex_j a2), (5, ex_j a3)]) dX12_feed_114 rfl (nI_1 k) (Nat.le_of_ble_eq_true rfl) rfl ?_
              refine X_goto (tgt := 8) dX12_feed_117 (by decide) ?_
              have ec : nI (cm L a1 a2 a3 k) = nI (cm L a1 a2 a3 (k + 1)) := congrArg nI (show _ = stp _ _ from (stp_no (fun q => q.elim c_5 (fun q => Int32.not_lt.mpr q.1 c_6))).symm)
              have ef : fbw f L a1 a2 a3 k = fbw f L a1 a2 a3 (k + 1) := (show _ = wst _ _ _ from wst_no (fun q => q.elim c_5 (fun q => Int32.not_lt.mpr q.1 c_6)))
              rw [ef, ec]
              refine X_lv (lv' := [(0, ex_r m), (1, ex_j a1), (3, ex_j a2), (5, ex_j a3), (7, ex_i (nI (k + 1)))]) [3, 4, 5, 6, 0] rfl ?_
              exact ih (k + 1) hk24 (by omega)
            · refine X_iload (j := 0) dX12_feed_86 rfl ?_
              refine X_bipush (v := 126) dX12_feed_88 (by decide) ?_
              refine X_icmp_gt (tgt := 114) dX12_feed_90 (by decide) (fun c_7 => ?_) (fun c_7 => ?_)
              · refine X_iinc (v := nI (k + 1)) (j := 6) (lv' := [(7, ex_i (nI (k + 1))), (10, ex_i (byt (pck a1 a2 a3 k) (k % 8))), (8, ex_j a3), (0, ex_r m), (1, ex_j a1), (3, ex_j a2), (5, ex_j a3)]) dX12_feed_114 rfl (nI_1 k) (Nat.le_of_ble_eq_true rfl) rfl ?_
                refine X_goto (tgt := 8) dX12_feed_117 (by decide) ?_
                have ec : nI (cm L a1 a2 a3 k) = nI (cm L a1 a2 a3 (k + 1)) := congrArg nI (show _ = stp _ _ from (stp_no (fun q => q.elim c_5 (fun q => Int32.not_lt.mpr q.2 c_7))).symm)
                have ef : fbw f L a1 a2 a3 k = fbw f L a1 a2 a3 (k + 1) := (show _ = wst _ _ _ from wst_no (fun q => q.elim c_5 (fun q => Int32.not_lt.mpr q.2 c_7)))
                rw [ef, ec]
                refine X_lv (lv' := [(0, ex_r m), (1, ex_j a1), (3, ex_j a2), (5, ex_j a3), (7, ex_i (nI (k + 1)))]) [3, 4, 5, 6, 0] rfl ?_
                exact ih (k + 1) hk24 (by omega)
              · refine X_aload_n (j := 2) dX12_feed_93 rfl rfl ?_
                refine X_get (j := 0) fo_X12_7 dX12_feed_94 rfl rfl ?_
                refine X_aload_n (j := 2) dX12_feed_97 rfl rfl ?_
                refine X_get (j := 0) fo_X12_162 dX12_feed_98 rfl rfl ?_
                refine X_iload (j := 0) dX12_feed_101 rfl ?_
                refine X_iast (j := 1) (g := upd (fbw f L a1 a2 a3 k) (cm L a1 a2 a3 k) (byt (pck a1 a2 a3 k) (k % 8))) (cs' := [(m, ex_o 12 [ex_i 0, ex_i (nI (cm L a1 a2 a3 k)), ex_r x2, ex_i x3, ex_i x4, ex_i x5, ex_i x6, ex_j x7, ex_i x8, ex_i x9, ex_r x10, ex_r x11, ex_r x12, ex_r x13, ex_r x14, ex_r x15, ex_r x16, ex_r x17, ex_r x18, ex_r x19, ex_r x20, ex_r x21, ex_r x22, ex_r x23, ex_r x24, ex_r x25, ex_i x26, ex_i x27, ex_r x28, ex_r x29, ex_r x30, ex_r x31, ex_r x32, ex_r x33, ex_r x34, ex_r x35, ex_r x36, ex_r x37, ex_r x38, ex_r x39, ex_i x40, ex_j x41, ex_r x42, ex_r x43, ex_r x44, ex_r x45, ex_r x46, ex_r x47, ex_r x48, ex_r x49, ex_r x50, ex_r x51, ex_r x52, ex_r x53, ex_i x54, ex_i x55, ex_i x56, ex_i x57, ex_r x58, ex_r x59, ex_r x60, ex_r x61, ex_i x62, ex_r x63, ex_r x64, ex_i x65, ex_j x66]), (x2, ex_a 1 1000 (upd (fbw f L a1 a2 a3 k) (cm L a1 a2 a3 k) (byt (pck a1 a2 a3 k) (k % 8))))]) dX12_feed_103 rfl (vp_in_nI hlt (by decide)) (by rw [nI_clamp (by omega)]) rfl ?_
                refine X_aload_n (j := 2) dX12_feed_104 rfl rfl ?_
                refine X_dup dX12_feed_105 rfl ?_
                refine X_get (j := 0) fo_X12_162 dX12_feed_106 rfl rfl ?_
                refine X_iconst (v := 1) dX12_feed_109 (by decide) ?_
                refine X_iadd (v := nI (cm L a1 a2 a3 k + 1)) dX12_feed_110 (nI_1 _) ?_
                refine X_put (j := 0) (cs' := [(m, ex_o 12 [ex_i 0, ex_i (nI (cm L a1 a2 a3 k + 1)), ex_r x2, ex_i x3, ex_i x4, ex_i x5, ex_i x6, ex_j x7, ex_i x8, ex_i x9, ex_r x10, ex_r x11, ex_r x12, ex_r x13, ex_r x14, ex_r x15, ex_r x16, ex_r x17, ex_r x18, ex_r x19, ex_r x20, ex_r x21, ex_r x22, ex_r x23, ex_r x24, ex_r x25, ex_i x26, ex_i x27, ex_r x28, ex_r x29, ex_r x30, ex_r x31, ex_r x32, ex_r x33, ex_r x34, ex_r x35, ex_r x36, ex_r x37, ex_r x38, ex_r x39, ex_i x40, ex_j x41, ex_r x42, ex_r x43, ex_r x44, ex_r x45, ex_r x46, ex_r x47, ex_r x48, ex_r x49, ex_r x50, ex_r x51, ex_r x52, ex_r x53, ex_i x54, ex_i x55, ex_i x56, ex_i x57, ex_r x58, ex_r x59, ex_r x60, ex_r x61, ex_i x62, ex_r x63, ex_r x64, ex_i x65, ex_j x66]), (x2, ex_a 1 1000 (upd (fbw f L a1 a2 a3 k) (cm L a1 a2 a3 k) (byt (pck a1 a2 a3 k) (k % 8))))]) fo_X12_162 (by decide) dX12_feed_111 rfl (Nat.le_of_ble_eq_true rfl) trivial rfl ?_
                refine X_iinc (v := nI (k + 1)) (j := 6) (lv' := [(7, ex_i (nI (k + 1))), (10, ex_i (byt (pck a1 a2 a3 k) (k % 8))), (8, ex_j a3), (0, ex_r m), (1, ex_j a1), (3, ex_j a2), (5, ex_j a3)]) dX12_feed_114 rfl (nI_1 k) (Nat.le_of_ble_eq_true rfl) rfl ?_
                refine X_goto (tgt := 8) dX12_feed_117 (by decide) ?_
                have ec : nI (cm L a1 a2 a3 k + 1) = nI (cm L a1 a2 a3 (k + 1)) := congrArg nI (show _ = stp _ _ from (stp_yes (Or.inr ⟨Int32.not_lt.mp c_6, Int32.not_lt.mp c_7⟩) hlt).symm)
                have ef : upd (fbw f L a1 a2 a3 k) (cm L a1 a2 a3 k) (byt (pck a1 a2 a3 k) (k % 8)) = fbw f L a1 a2 a3 (k + 1) := (show _ = wst _ _ _ from wst_yes (Or.inr ⟨Int32.not_lt.mp c_6, Int32.not_lt.mp c_7⟩) hlt rfl rfl)
                rw [ef, ec]
                refine X_lv (lv' := [(0, ex_r m), (1, ex_j a1), (3, ex_j a2), (5, ex_j a3), (7, ex_i (nI (k + 1)))]) [3, 4, 5, 6, 0] rfl ?_
                exact ih (k + 1) hk24 (by omega)
      · refine X_lload_n (j := 2) dX12_feed_33 rfl rfl ?_
        refine X_goto (tgt := 39) dX12_feed_34 (by decide) ?_
        refine X_lstore (lv' := [(8, ex_j a2), (0, ex_r m), (1, ex_j a1), (3, ex_j a2), (5, ex_j a3), (7, ex_i (nI k))]) dX12_feed_39 (Nat.le_of_ble_eq_true rfl) rfl ?_
        have epk : pck a1 a2 a3 k = a2 := (if_neg (fun q => absurd c_2 (nI_ge (b := 8) q (by decide)))).trans (if_pos (Nat.lt_of_not_le fun q => c_3 (nI_le (a := 16) q (by omega))))
        refine X_lload (j := 0) dX12_feed_41 rfl ?_
        refine X_bipush (v := 56) dX12_feed_43 (by decide) ?_
        refine X_bipush (v := 8) dX12_feed_45 (by decide) ?_
        refine X_iload (j := 5) dX12_feed_47 rfl ?_
        refine X_bipush (v := 7) dX12_feed_49 (by decide) ?_
        refine X_iand (v := ((nI k) &&& 7)) dX12_feed_51 rfl ?_
        refine X_imul (v := (8 * ((nI k) &&& 7))) dX12_feed_52 rfl ?_
        refine X_isub (v := (56 - (8 * ((nI k) &&& 7)))) dX12_feed_53 rfl ?_
        refine X_lushr (v := (a2.toUInt64 >>> ((56 - (8 * ((nI k) &&& 7))).toInt64.toUInt64 &&& Int64.toUInt64 63)).toInt64) dX12_feed_54 rfl ?_
        refine X_ldc2_w (v := 255) k_1525 dX12_feed_55 ?_
        refine X_land (v := (((a2.toUInt64 >>> ((56 - (8 * ((nI k) &&& 7))).toInt64.toUInt64 &&& Int64.toUInt64 63)).toInt64) &&& 255)) dX12_feed_58 rfl ?_
        refine X_l2i (v := (byt (pck a1 a2 a3 k) (k % 8))) dX12_feed_59 (by rw [epk, pk_andN (by omega) 3 rfl, show (8 : Int32) = nI 8 from rfl, pk_mul, e56 (Nat.mod_lt k (by decide))]; rfl) ?_
        refine X_istore (lv' := [(10, ex_i (byt (pck a1 a2 a3 k) (k % 8))), (8, ex_j a2), (0, ex_r m), (1, ex_j a1), (3, ex_j a2), (5, ex_j a3), (7, ex_i (nI k))]) dX12_feed_60 (Nat.le_of_ble_eq_true rfl) rfl ?_
        refine X_aload_n (j := 2) dX12_feed_62 rfl rfl ?_
        refine X_get (j := 0) fo_X12_162 dX12_feed_63 rfl rfl ?_
        refine X_sipush (v := 1000) dX12_feed_66 (by decide) ?_
        refine X_icmp_ge (tgt := 114) dX12_feed_69 (by decide) (fun c_8 => ?_) (fun c_8 => ?_)
        · refine X_iinc (v := nI (k + 1)) (j := 6) (lv' := [(7, ex_i (nI (k + 1))), (10, ex_i (byt (pck a1 a2 a3 k) (k % 8))), (8, ex_j a2), (0, ex_r m), (1, ex_j a1), (3, ex_j a2), (5, ex_j a3)]) dX12_feed_114 rfl (nI_1 k) (Nat.le_of_ble_eq_true rfl) rfl ?_
          refine X_goto (tgt := 8) dX12_feed_117 (by decide) ?_
          have ec : nI (cm L a1 a2 a3 k) = nI (cm L a1 a2 a3 (k + 1)) := congrArg nI (show _ = stp _ _ from (stp_full (nI_ge1000 (cm_le a1 a2 a3 hL k) c_8)).symm)
          have ef : fbw f L a1 a2 a3 k = fbw f L a1 a2 a3 (k + 1) := (show _ = wst _ _ _ from wst_full (nI_ge1000 (cm_le a1 a2 a3 hL k) c_8))
          rw [ef, ec]
          refine X_lv (lv' := [(0, ex_r m), (1, ex_j a1), (3, ex_j a2), (5, ex_j a3), (7, ex_i (nI (k + 1)))]) [3, 4, 5, 6, 0] rfl ?_
          exact ih (k + 1) hk24 (by omega)
        · have hlt : cm L a1 a2 a3 k < 1000 := nI_lt1000 (cm_le a1 a2 a3 hL k) c_8
          refine X_iload (j := 0) dX12_feed_72 rfl ?_
          refine X_bipush (v := 10) dX12_feed_74 (by decide) ?_
          refine X_icmp_eq (tgt := 93) dX12_feed_76 (by decide) (fun c_9 => ?_) (fun c_9 => ?_)
          · refine X_aload_n (j := 2) dX12_feed_93 rfl rfl ?_
            refine X_get (j := 0) fo_X12_7 dX12_feed_94 rfl rfl ?_
            refine X_aload_n (j := 2) dX12_feed_97 rfl rfl ?_
            refine X_get (j := 0) fo_X12_162 dX12_feed_98 rfl rfl ?_
            refine X_iload (j := 0) dX12_feed_101 rfl ?_
            refine X_iast (j := 1) (g := upd (fbw f L a1 a2 a3 k) (cm L a1 a2 a3 k) (byt (pck a1 a2 a3 k) (k % 8))) (cs' := [(m, ex_o 12 [ex_i 0, ex_i (nI (cm L a1 a2 a3 k)), ex_r x2, ex_i x3, ex_i x4, ex_i x5, ex_i x6, ex_j x7, ex_i x8, ex_i x9, ex_r x10, ex_r x11, ex_r x12, ex_r x13, ex_r x14, ex_r x15, ex_r x16, ex_r x17, ex_r x18, ex_r x19, ex_r x20, ex_r x21, ex_r x22, ex_r x23, ex_r x24, ex_r x25, ex_i x26, ex_i x27, ex_r x28, ex_r x29, ex_r x30, ex_r x31, ex_r x32, ex_r x33, ex_r x34, ex_r x35, ex_r x36, ex_r x37, ex_r x38, ex_r x39, ex_i x40, ex_j x41, ex_r x42, ex_r x43, ex_r x44, ex_r x45, ex_r x46, ex_r x47, ex_r x48, ex_r x49, ex_r x50, ex_r x51, ex_r x52, ex_r x53, ex_i x54, ex_i x55, ex_i x56, ex_i x57, ex_r x58, ex_r x59, ex_r x60, ex_r x61, ex_i x62, ex_r x63, ex_r x64, ex_i x65, ex_j x66]), (x2, ex_a 1 1000 (upd (fbw f L a1 a2 a3 k) (cm L a1 a2 a3 k) (byt (pck a1 a2 a3 k) (k % 8))))]) dX12_feed_103 rfl (vp_in_nI hlt (by decide)) (by rw [nI_clamp (by omega)]) rfl ?_
            refine X_aload_n (j := 2) dX12_feed_104 rfl rfl ?_
            refine X_dup dX12_feed_105 rfl ?_
            refine X_get (j := 0) fo_X12_162 dX12_feed_106 rfl rfl ?_
            refine X_iconst (v := 1) dX12_feed_109 (by decide) ?_
            refine X_iadd (v := nI (cm L a1 a2 a3 k + 1)) dX12_feed_110 (nI_1 _) ?_
            refine X_put (j := 0) (cs' := [(m, ex_o 12 [ex_i 0, ex_i (nI (cm L a1 a2 a3 k + 1)), ex_r x2, ex_i x3, ex_i x4, ex_i x5, ex_i x6, ex_j x7, ex_i x8, ex_i x9, ex_r x10, ex_r x11, ex_r x12, ex_r x13, ex_r x14, ex_r x15, ex_r x16, ex_r x17, ex_r x18, ex_r x19, ex_r x20, ex_r x21, ex_r x22, ex_r x23, ex_r x24, ex_r x25, ex_i x26, ex_i x27, ex_r x28, ex_r x29, ex_r x30, ex_r x31, ex_r x32, ex_r x33, ex_r x34, ex_r x35, ex_r x36, ex_r x37, ex_r x38, ex_r x39, ex_i x40, ex_j x41, ex_r x42, ex_r x43, ex_r x44, ex_r x45, ex_r x46, ex_r x47, ex_r x48, ex_r x49, ex_r x50, ex_r x51, ex_r x52, ex_r x53, ex_i x54, ex_i x55, ex_i x56, ex_i x57, ex_r x58, ex_r x59, ex_r x60, ex_r x61, ex_i x62, ex_r x63, ex_r x64, ex_i x65, ex_j x66]), (x2, ex_a 1 1000 (upd (fbw f L a1 a2 a3 k) (cm L a1 a2 a3 k) (byt (pck a1 a2 a3 k) (k % 8))))]) fo_X12_162 (by decide) dX12_feed_111 rfl (Nat.le_of_ble_eq_true rfl) trivial rfl ?_
            refine X_iinc (v := nI (k + 1)) (j := 6) (lv' := [(7, ex_i (nI (k + 1))), (10, ex_i (byt (pck a1 a2 a3 k) (k % 8))), (8, ex_j a2), (0, ex_r m), (1, ex_j a1), (3, ex_j a2), (5, ex_j a3)]) dX12_feed_114 rfl (nI_1 k) (Nat.le_of_ble_eq_true rfl) rfl ?_
            refine X_goto (tgt := 8) dX12_feed_117 (by decide) ?_
            have ec : nI (cm L a1 a2 a3 k + 1) = nI (cm L a1 a2 a3 (k + 1)) := congrArg nI (show _ = stp _ _ from (stp_yes (Or.inl c_9) hlt).symm)
            have ef : upd (fbw f L a1 a2 a3 k) (cm L a1 a2 a3 k) (byt (pck a1 a2 a3 k) (k % 8)) = fbw f L a1 a2 a3 (k + 1) := (show _ = wst _ _ _ from wst_yes (Or.inl c_9) hlt rfl rfl)
            rw [ef, ec]
            refine X_lv (lv' := [(0, ex_r m), (1, ex_j a1), (3, ex_j a2), (5, ex_j a3), (7, ex_i (nI (k + 1)))]) [3, 4, 5, 6, 0] rfl ?_
            exact ih (k + 1) hk24 (by omega)
          · refine X_iload (j := 0) dX12_feed_79 rfl ?_
            refine X_bipush (v := 32) dX12_feed_81 (by decide) ?_
            refine X_icmp_lt (tgt := 114) dX12_feed_83 (by decide) (fun c_10 => ?_) (fun c_10 => ?_)
            · refine X_iinc (v := nI (k + 1)) (j := 6) (lv' := [(7, ex_i (nI (k + 1))), (10, ex_i (byt (pck a1 a2 a3 k) (k % 8))), (8, ex_j a2), (0, ex_r m), (1, ex_j a1), (3, ex_j a2), (5, ex_j a3)]) dX12_feed_114 rfl (nI_1 k) (Nat.le_of_ble_eq_true rfl) rfl ?_
              refine X_goto (tgt := 8) dX12_feed_117 (by decide) ?_
              have ec : nI (cm L a1 a2 a3 k) = nI (cm L a1 a2 a3 (k + 1)) := congrArg nI (show _ = stp _ _ from (stp_no (fun q => q.elim c_9 (fun q => Int32.not_lt.mpr q.1 c_10))).symm)
              have ef : fbw f L a1 a2 a3 k = fbw f L a1 a2 a3 (k + 1) := (show _ = wst _ _ _ from wst_no (fun q => q.elim c_9 (fun q => Int32.not_lt.mpr q.1 c_10)))
              rw [ef, ec]
              refine X_lv (lv' := [(0, ex_r m), (1, ex_j a1), (3, ex_j a2), (5, ex_j a3), (7, ex_i (nI (k + 1)))]) [3, 4, 5, 6, 0] rfl ?_
              exact ih (k + 1) hk24 (by omega)
            · refine X_iload (j := 0) dX12_feed_86 rfl ?_
              refine X_bipush (v := 126) dX12_feed_88 (by decide) ?_
              refine X_icmp_gt (tgt := 114) dX12_feed_90 (by decide) (fun c_11 => ?_) (fun c_11 => ?_)
              · refine X_iinc (v := nI (k + 1)) (j := 6) (lv' := [(7, ex_i (nI (k + 1))), (10, ex_i (byt (pck a1 a2 a3 k) (k % 8))), (8, ex_j a2), (0, ex_r m), (1, ex_j a1), (3, ex_j a2), (5, ex_j a3)]) dX12_feed_114 rfl (nI_1 k) (Nat.le_of_ble_eq_true rfl) rfl ?_
                refine X_goto (tgt := 8) dX12_feed_117 (by decide) ?_
                have ec : nI (cm L a1 a2 a3 k) = nI (cm L a1 a2 a3 (k + 1)) := congrArg nI (show _ = stp _ _ from (stp_no (fun q => q.elim c_9 (fun q => Int32.not_lt.mpr q.2 c_11))).symm)
                have ef : fbw f L a1 a2 a3 k = fbw f L a1 a2 a3 (k + 1) := (show _ = wst _ _ _ from wst_no (fun q => q.elim c_9 (fun q => Int32.not_lt.mpr q.2 c_11)))
                rw [ef, ec]
                refine X_lv (lv' := [(0, ex_r m), (1, ex_j a1), (3, ex_j a2), (5, ex_j a3), (7, ex_i (nI (k + 1)))]) [3, 4, 5, 6, 0] rfl ?_
                exact ih (k + 1) hk24 (by omega)
              · refine X_aload_n (j := 2) dX12_feed_93 rfl rfl ?_
                refine X_get (j := 0) fo_X12_7 dX12_feed_94 rfl rfl ?_
                refine X_aload_n (j := 2) dX12_feed_97 rfl rfl ?_
                refine X_get (j := 0) fo_X12_162 dX12_feed_98 rfl rfl ?_
                refine X_iload (j := 0) dX12_feed_101 rfl ?_
                refine X_iast (j := 1) (g := upd (fbw f L a1 a2 a3 k) (cm L a1 a2 a3 k) (byt (pck a1 a2 a3 k) (k % 8))) (cs' := [(m, ex_o 12 [ex_i 0, ex_i (nI (cm L a1 a2 a3 k)), ex_r x2, ex_i x3, ex_i x4, ex_i x5, ex_i x6, ex_j x7, ex_i x8, ex_i x9, ex_r x10, ex_r x11, ex_r x12, ex_r x13, ex_r x14, ex_r x15, ex_r x16, ex_r x17, ex_r x18, ex_r x19, ex_r x20, ex_r x21, ex_r x22, ex_r x23, ex_r x24, ex_r x25, ex_i x26, ex_i x27, ex_r x28, ex_r x29, ex_r x30, ex_r x31, ex_r x32, ex_r x33, ex_r x34, ex_r x35, ex_r x36, ex_r x37, ex_r x38, ex_r x39, ex_i x40, ex_j x41, ex_r x42, ex_r x43, ex_r x44, ex_r x45, ex_r x46, ex_r x47, ex_r x48, ex_r x49, ex_r x50, ex_r x51, ex_r x52, ex_r x53, ex_i x54, ex_i x55, ex_i x56, ex_i x57, ex_r x58, ex_r x59, ex_r x60, ex_r x61, ex_i x62, ex_r x63, ex_r x64, ex_i x65, ex_j x66]), (x2, ex_a 1 1000 (upd (fbw f L a1 a2 a3 k) (cm L a1 a2 a3 k) (byt (pck a1 a2 a3 k) (k % 8))))]) dX12_feed_103 rfl (vp_in_nI hlt (by decide)) (by rw [nI_clamp (by omega)]) rfl ?_
                refine X_aload_n (j := 2) dX12_feed_104 rfl rfl ?_
                refine X_dup dX12_feed_105 rfl ?_
                refine X_get (j := 0) fo_X12_162 dX12_feed_106 rfl rfl ?_
                refine X_iconst (v := 1) dX12_feed_109 (by decide) ?_
                refine X_iadd (v := nI (cm L a1 a2 a3 k + 1)) dX12_feed_110 (nI_1 _) ?_
                refine X_put (j := 0) (cs' := [(m, ex_o 12 [ex_i 0, ex_i (nI (cm L a1 a2 a3 k + 1)), ex_r x2, ex_i x3, ex_i x4, ex_i x5, ex_i x6, ex_j x7, ex_i x8, ex_i x9, ex_r x10, ex_r x11, ex_r x12, ex_r x13, ex_r x14, ex_r x15, ex_r x16, ex_r x17, ex_r x18, ex_r x19, ex_r x20, ex_r x21, ex_r x22, ex_r x23, ex_r x24, ex_r x25, ex_i x26, ex_i x27, ex_r x28, ex_r x29, ex_r x30, ex_r x31, ex_r x32, ex_r x33, ex_r x34, ex_r x35, ex_r x36, ex_r x37, ex_r x38, ex_r x39, ex_i x40, ex_j x41, ex_r x42, ex_r x43, ex_r x44, ex_r x45, ex_r x46, ex_r x47, ex_r x48, ex_r x49, ex_r x50, ex_r x51, ex_r x52, ex_r x53, ex_i x54, ex_i x55, ex_i x56, ex_i x57, ex_r x58, ex_r x59, ex_r x60, ex_r x61, ex_i x62, ex_r x63, ex_r x64, ex_i x65, ex_j x66]), (x2, ex_a 1 1000 (upd (fbw f L a1 a2 a3 k) (cm L a1 a2 a3 k) (byt (pck a1 a2 a3 k) (k % 8))))]) fo_X12_162 (by decide) dX12_feed_111 rfl (Nat.le_of_ble_eq_true rfl) trivial rfl ?_
                refine X_iinc (v := nI (k + 1)) (j := 6) (lv' := [(7, ex_i (nI (k + 1))), (10, ex_i (byt (pck a1 a2 a3 k) (k % 8))), (8, ex_j a2), (0, ex_r m), (1, ex_j a1), (3, ex_j a2), (5, ex_j a3)]) dX12_feed_114 rfl (nI_1 k) (Nat.le_of_ble_eq_true rfl) rfl ?_
                refine X_goto (tgt := 8) dX12_feed_117 (by decide) ?_
                have ec : nI (cm L a1 a2 a3 k + 1) = nI (cm L a1 a2 a3 (k + 1)) := congrArg nI (show _ = stp _ _ from (stp_yes (Or.inr ⟨Int32.not_lt.mp c_10, Int32.not_lt.mp c_11⟩) hlt).symm)
                have ef : upd (fbw f L a1 a2 a3 k) (cm L a1 a2 a3 k) (byt (pck a1 a2 a3 k) (k % 8)) = fbw f L a1 a2 a3 (k + 1) := (show _ = wst _ _ _ from wst_yes (Or.inr ⟨Int32.not_lt.mp c_10, Int32.not_lt.mp c_11⟩) hlt rfl rfl)
                rw [ef, ec]
                refine X_lv (lv' := [(0, ex_r m), (1, ex_j a1), (3, ex_j a2), (5, ex_j a3), (7, ex_i (nI (k + 1)))]) [3, 4, 5, 6, 0] rfl ?_
                exact ih (k + 1) hk24 (by omega)
    · refine X_lload_n (j := 1) dX12_feed_22 rfl rfl ?_
      refine X_goto (tgt := 39) dX12_feed_23 (by decide) ?_
      refine X_lstore (lv' := [(8, ex_j a1), (0, ex_r m), (1, ex_j a1), (3, ex_j a2), (5, ex_j a3), (7, ex_i (nI k))]) dX12_feed_39 (Nat.le_of_ble_eq_true rfl) rfl ?_
      have epk : pck a1 a2 a3 k = a1 := if_pos (Nat.lt_of_not_le fun q => c_2 (nI_le (a := 8) q (by omega)))
      refine X_lload (j := 0) dX12_feed_41 rfl ?_
      refine X_bipush (v := 56) dX12_feed_43 (by decide) ?_
      refine X_bipush (v := 8) dX12_feed_45 (by decide) ?_
      refine X_iload (j := 5) dX12_feed_47 rfl ?_
      refine X_bipush (v := 7) dX12_feed_49 (by decide) ?_
      refine X_iand (v := ((nI k) &&& 7)) dX12_feed_51 rfl ?_
      refine X_imul (v := (8 * ((nI k) &&& 7))) dX12_feed_52 rfl ?_
      refine X_isub (v := (56 - (8 * ((nI k) &&& 7)))) dX12_feed_53 rfl ?_
      refine X_lushr (v := (a1.toUInt64 >>> ((56 - (8 * ((nI k) &&& 7))).toInt64.toUInt64 &&& Int64.toUInt64 63)).toInt64) dX12_feed_54 rfl ?_
      refine X_ldc2_w (v := 255) k_1525 dX12_feed_55 ?_
      refine X_land (v := (((a1.toUInt64 >>> ((56 - (8 * ((nI k) &&& 7))).toInt64.toUInt64 &&& Int64.toUInt64 63)).toInt64) &&& 255)) dX12_feed_58 rfl ?_
      refine X_l2i (v := (byt (pck a1 a2 a3 k) (k % 8))) dX12_feed_59 (by rw [epk, pk_andN (by omega) 3 rfl, show (8 : Int32) = nI 8 from rfl, pk_mul, e56 (Nat.mod_lt k (by decide))]; rfl) ?_
      refine X_istore (lv' := [(10, ex_i (byt (pck a1 a2 a3 k) (k % 8))), (8, ex_j a1), (0, ex_r m), (1, ex_j a1), (3, ex_j a2), (5, ex_j a3), (7, ex_i (nI k))]) dX12_feed_60 (Nat.le_of_ble_eq_true rfl) rfl ?_
      refine X_aload_n (j := 2) dX12_feed_62 rfl rfl ?_
      refine X_get (j := 0) fo_X12_162 dX12_feed_63 rfl rfl ?_
      refine X_sipush (v := 1000) dX12_feed_66 (by decide) ?_
      refine X_icmp_ge (tgt := 114) dX12_feed_69 (by decide) (fun c_12 => ?_) (fun c_12 => ?_)
      · refine X_iinc (v := nI (k + 1)) (j := 6) (lv' := [(7, ex_i (nI (k + 1))), (10, ex_i (byt (pck a1 a2 a3 k) (k % 8))), (8, ex_j a1), (0, ex_r m), (1, ex_j a1), (3, ex_j a2), (5, ex_j a3)]) dX12_feed_114 rfl (nI_1 k) (Nat.le_of_ble_eq_true rfl) rfl ?_
        refine X_goto (tgt := 8) dX12_feed_117 (by decide) ?_
        have ec : nI (cm L a1 a2 a3 k) = nI (cm L a1 a2 a3 (k + 1)) := congrArg nI (show _ = stp _ _ from (stp_full (nI_ge1000 (cm_le a1 a2 a3 hL k) c_12)).symm)
        have ef : fbw f L a1 a2 a3 k = fbw f L a1 a2 a3 (k + 1) := (show _ = wst _ _ _ from wst_full (nI_ge1000 (cm_le a1 a2 a3 hL k) c_12))
        rw [ef, ec]
        refine X_lv (lv' := [(0, ex_r m), (1, ex_j a1), (3, ex_j a2), (5, ex_j a3), (7, ex_i (nI (k + 1)))]) [3, 4, 5, 6, 0] rfl ?_
        exact ih (k + 1) hk24 (by omega)
      · have hlt : cm L a1 a2 a3 k < 1000 := nI_lt1000 (cm_le a1 a2 a3 hL k) c_12
        refine X_iload (j := 0) dX12_feed_72 rfl ?_
        refine X_bipush (v := 10) dX12_feed_74 (by decide) ?_
        refine X_icmp_eq (tgt := 93) dX12_feed_76 (by decide) (fun c_13 => ?_) (fun c_13 => ?_)
        · refine X_aload_n (j := 2) dX12_feed_93 rfl rfl ?_
          refine X_get (j := 0) fo_X12_7 dX12_feed_94 rfl rfl ?_
          refine X_aload_n (j := 2) dX12_feed_97 rfl rfl ?_
          refine X_get (j := 0) fo_X12_162 dX12_feed_98 rfl rfl ?_
          refine X_iload (j := 0) dX12_feed_101 rfl ?_
          refine X_iast (j := 1) (g := upd (fbw f L a1 a2 a3 k) (cm L a1 a2 a3 k) (byt (pck a1 a2 a3 k) (k % 8))) (cs' := [(m, ex_o 12 [ex_i 0, ex_i (nI (cm L a1 a2 a3 k)), ex_r x2, ex_i x3, ex_i x4, ex_i x5, ex_i x6, ex_j x7, ex_i x8, ex_i x9, ex_r x10, ex_r x11, ex_r x12, ex_r x13, ex_r x14, ex_r x15, ex_r x16, ex_r x17, ex_r x18, ex_r x19, ex_r x20, ex_r x21, ex_r x22, ex_r x23, ex_r x24, ex_r x25, ex_i x26, ex_i x27, ex_r x28, ex_r x29, ex_r x30, ex_r x31, ex_r x32, ex_r x33, ex_r x34, ex_r x35, ex_r x36, ex_r x37, ex_r x38, ex_r x39, ex_i x40, ex_j x41, ex_r x42, ex_r x43, ex_r x44, ex_r x45, ex_r x46, ex_r x47, ex_r x48, ex_r x49, ex_r x50, ex_r x51, ex_r x52, ex_r x53, ex_i x54, ex_i x55, ex_i x56, ex_i x57, ex_r x58, ex_r x59, ex_r x60, ex_r x61, ex_i x62, ex_r x63, ex_r x64, ex_i x65, ex_j x66]), (x2, ex_a 1 1000 (upd (fbw f L a1 a2 a3 k) (cm L a1 a2 a3 k) (byt (pck a1 a2 a3 k) (k % 8))))]) dX12_feed_103 rfl (vp_in_nI hlt (by decide)) (by rw [nI_clamp (by omega)]) rfl ?_
          refine X_aload_n (j := 2) dX12_feed_104 rfl rfl ?_
          refine X_dup dX12_feed_105 rfl ?_
          refine X_get (j := 0) fo_X12_162 dX12_feed_106 rfl rfl ?_
          refine X_iconst (v := 1) dX12_feed_109 (by decide) ?_
          refine X_iadd (v := nI (cm L a1 a2 a3 k + 1)) dX12_feed_110 (nI_1 _) ?_
          refine X_put (j := 0) (cs' := [(m, ex_o 12 [ex_i 0, ex_i (nI (cm L a1 a2 a3 k + 1)), ex_r x2, ex_i x3, ex_i x4, ex_i x5, ex_i x6, ex_j x7, ex_i x8, ex_i x9, ex_r x10, ex_r x11, ex_r x12, ex_r x13, ex_r x14, ex_r x15, ex_r x16, ex_r x17, ex_r x18, ex_r x19, ex_r x20, ex_r x21, ex_r x22, ex_r x23, ex_r x24, ex_r x25, ex_i x26, ex_i x27, ex_r x28, ex_r x29, ex_r x30, ex_r x31, ex_r x32, ex_r x33, ex_r x34, ex_r x35, ex_r x36, ex_r x37, ex_r x38, ex_r x39, ex_i x40, ex_j x41, ex_r x42, ex_r x43, ex_r x44, ex_r x45, ex_r x46, ex_r x47, ex_r x48, ex_r x49, ex_r x50, ex_r x51, ex_r x52, ex_r x53, ex_i x54, ex_i x55, ex_i x56, ex_i x57, ex_r x58, ex_r x59, ex_r x60, ex_r x61, ex_i x62, ex_r x63, ex_r x64, ex_i x65, ex_j x66]), (x2, ex_a 1 1000 (upd (fbw f L a1 a2 a3 k) (cm L a1 a2 a3 k) (byt (pck a1 a2 a3 k) (k % 8))))]) fo_X12_162 (by decide) dX12_feed_111 rfl (Nat.le_of_ble_eq_true rfl) trivial rfl ?_
          refine X_iinc (v := nI (k + 1)) (j := 6) (lv' := [(7, ex_i (nI (k + 1))), (10, ex_i (byt (pck a1 a2 a3 k) (k % 8))), (8, ex_j a1), (0, ex_r m), (1, ex_j a1), (3, ex_j a2), (5, ex_j a3)]) dX12_feed_114 rfl (nI_1 k) (Nat.le_of_ble_eq_true rfl) rfl ?_
          refine X_goto (tgt := 8) dX12_feed_117 (by decide) ?_
          have ec : nI (cm L a1 a2 a3 k + 1) = nI (cm L a1 a2 a3 (k + 1)) := congrArg nI (show _ = stp _ _ from (stp_yes (Or.inl c_13) hlt).symm)
          have ef : upd (fbw f L a1 a2 a3 k) (cm L a1 a2 a3 k) (byt (pck a1 a2 a3 k) (k % 8)) = fbw f L a1 a2 a3 (k + 1) := (show _ = wst _ _ _ from wst_yes (Or.inl c_13) hlt rfl rfl)
          rw [ef, ec]
          refine X_lv (lv' := [(0, ex_r m), (1, ex_j a1), (3, ex_j a2), (5, ex_j a3), (7, ex_i (nI (k + 1)))]) [3, 4, 5, 6, 0] rfl ?_
          exact ih (k + 1) hk24 (by omega)
        · refine X_iload (j := 0) dX12_feed_79 rfl ?_
          refine X_bipush (v := 32) dX12_feed_81 (by decide) ?_
          refine X_icmp_lt (tgt := 114) dX12_feed_83 (by decide) (fun c_14 => ?_) (fun c_14 => ?_)
          · refine X_iinc (v := nI (k + 1)) (j := 6) (lv' := [(7, ex_i (nI (k + 1))), (10, ex_i (byt (pck a1 a2 a3 k) (k % 8))), (8, ex_j a1), (0, ex_r m), (1, ex_j a1), (3, ex_j a2), (5, ex_j a3)]) dX12_feed_114 rfl (nI_1 k) (Nat.le_of_ble_eq_true rfl) rfl ?_
            refine X_goto (tgt := 8) dX12_feed_117 (by decide) ?_
            have ec : nI (cm L a1 a2 a3 k) = nI (cm L a1 a2 a3 (k + 1)) := congrArg nI (show _ = stp _ _ from (stp_no (fun q => q.elim c_13 (fun q => Int32.not_lt.mpr q.1 c_14))).symm)
            have ef : fbw f L a1 a2 a3 k = fbw f L a1 a2 a3 (k + 1) := (show _ = wst _ _ _ from wst_no (fun q => q.elim c_13 (fun q => Int32.not_lt.mpr q.1 c_14)))
            rw [ef, ec]
            refine X_lv (lv' := [(0, ex_r m), (1, ex_j a1), (3, ex_j a2), (5, ex_j a3), (7, ex_i (nI (k + 1)))]) [3, 4, 5, 6, 0] rfl ?_
            exact ih (k + 1) hk24 (by omega)
          · refine X_iload (j := 0) dX12_feed_86 rfl ?_
            refine X_bipush (v := 126) dX12_feed_88 (by decide) ?_
            refine X_icmp_gt (tgt := 114) dX12_feed_90 (by decide) (fun c_15 => ?_) (fun c_15 => ?_)
            · refine X_iinc (v := nI (k + 1)) (j := 6) (lv' := [(7, ex_i (nI (k + 1))), (10, ex_i (byt (pck a1 a2 a3 k) (k % 8))), (8, ex_j a1), (0, ex_r m), (1, ex_j a1), (3, ex_j a2), (5, ex_j a3)]) dX12_feed_114 rfl (nI_1 k) (Nat.le_of_ble_eq_true rfl) rfl ?_
              refine X_goto (tgt := 8) dX12_feed_117 (by decide) ?_
              have ec : nI (cm L a1 a2 a3 k) = nI (cm L a1 a2 a3 (k + 1)) := congrArg nI (show _ = stp _ _ from (stp_no (fun q => q.elim c_13 (fun q => Int32.not_lt.mpr q.2 c_15))).symm)
              have ef : fbw f L a1 a2 a3 k = fbw f L a1 a2 a3 (k + 1) := (show _ = wst _ _ _ from wst_no (fun q => q.elim c_13 (fun q => Int32.not_lt.mpr q.2 c_15)))
              rw [ef, ec]
              refine X_lv (lv' := [(0, ex_r m), (1, ex_j a1), (3, ex_j a2), (5, ex_j a3), (7, ex_i (nI (k + 1)))]) [3, 4, 5, 6, 0] rfl ?_
              exact ih (k + 1) hk24 (by omega)
            · refine X_aload_n (j := 2) dX12_feed_93 rfl rfl ?_
              refine X_get (j := 0) fo_X12_7 dX12_feed_94 rfl rfl ?_
              refine X_aload_n (j := 2) dX12_feed_97 rfl rfl ?_
              refine X_get (j := 0) fo_X12_162 dX12_feed_98 rfl rfl ?_
              refine X_iload (j := 0) dX12_feed_101 rfl ?_
              refine X_iast (j := 1) (g := upd (fbw f L a1 a2 a3 k) (cm L a1 a2 a3 k) (byt (pck a1 a2 a3 k) (k % 8))) (cs' := [(m, ex_o 12 [ex_i 0, ex_i (nI (cm L a1 a2 a3 k)), ex_r x2, ex_i x3, ex_i x4, ex_i x5, ex_i x6, ex_j x7, ex_i x8, ex_i x9, ex_r x10, ex_r x11, ex_r x12, ex_r x13, ex_r x14, ex_r x15, ex_r x16, ex_r x17, ex_r x18, ex_r x19, ex_r x20, ex_r x21, ex_r x22, ex_r x23, ex_r x24, ex_r x25, ex_i x26, ex_i x27, ex_r x28, ex_r x29, ex_r x30, ex_r x31, ex_r x32, ex_r x33, ex_r x34, ex_r x35, ex_r x36, ex_r x37, ex_r x38, ex_r x39, ex_i x40, ex_j x41, ex_r x42, ex_r x43, ex_r x44, ex_r x45, ex_r x46, ex_r x47, ex_r x48, ex_r x49, ex_r x50, ex_r x51, ex_r x52, ex_r x53, ex_i x54, ex_i x55, ex_i x56, ex_i x57, ex_r x58, ex_r x59, ex_r x60, ex_r x61, ex_i x62, ex_r x63, ex_r x64, ex_i x65, ex_j x66]), (x2, ex_a 1 1000 (upd (fbw f L a1 a2 a3 k) (cm L a1 a2 a3 k) (byt (pck a1 a2 a3 k) (k % 8))))]) dX12_feed_103 rfl (vp_in_nI hlt (by decide)) (by rw [nI_clamp (by omega)]) rfl ?_
              refine X_aload_n (j := 2) dX12_feed_104 rfl rfl ?_
              refine X_dup dX12_feed_105 rfl ?_
              refine X_get (j := 0) fo_X12_162 dX12_feed_106 rfl rfl ?_
              refine X_iconst (v := 1) dX12_feed_109 (by decide) ?_
              refine X_iadd (v := nI (cm L a1 a2 a3 k + 1)) dX12_feed_110 (nI_1 _) ?_
              refine X_put (j := 0) (cs' := [(m, ex_o 12 [ex_i 0, ex_i (nI (cm L a1 a2 a3 k + 1)), ex_r x2, ex_i x3, ex_i x4, ex_i x5, ex_i x6, ex_j x7, ex_i x8, ex_i x9, ex_r x10, ex_r x11, ex_r x12, ex_r x13, ex_r x14, ex_r x15, ex_r x16, ex_r x17, ex_r x18, ex_r x19, ex_r x20, ex_r x21, ex_r x22, ex_r x23, ex_r x24, ex_r x25, ex_i x26, ex_i x27, ex_r x28, ex_r x29, ex_r x30, ex_r x31, ex_r x32, ex_r x33, ex_r x34, ex_r x35, ex_r x36, ex_r x37, ex_r x38, ex_r x39, ex_i x40, ex_j x41, ex_r x42, ex_r x43, ex_r x44, ex_r x45, ex_r x46, ex_r x47, ex_r x48, ex_r x49, ex_r x50, ex_r x51, ex_r x52, ex_r x53, ex_i x54, ex_i x55, ex_i x56, ex_i x57, ex_r x58, ex_r x59, ex_r x60, ex_r x61, ex_i x62, ex_r x63, ex_r x64, ex_i x65, ex_j x66]), (x2, ex_a 1 1000 (upd (fbw f L a1 a2 a3 k) (cm L a1 a2 a3 k) (byt (pck a1 a2 a3 k) (k % 8))))]) fo_X12_162 (by decide) dX12_feed_111 rfl (Nat.le_of_ble_eq_true rfl) trivial rfl ?_
              refine X_iinc (v := nI (k + 1)) (j := 6) (lv' := [(7, ex_i (nI (k + 1))), (10, ex_i (byt (pck a1 a2 a3 k) (k % 8))), (8, ex_j a1), (0, ex_r m), (1, ex_j a1), (3, ex_j a2), (5, ex_j a3)]) dX12_feed_114 rfl (nI_1 k) (Nat.le_of_ble_eq_true rfl) rfl ?_
              refine X_goto (tgt := 8) dX12_feed_117 (by decide) ?_
              have ec : nI (cm L a1 a2 a3 k + 1) = nI (cm L a1 a2 a3 (k + 1)) := congrArg nI (show _ = stp _ _ from (stp_yes (Or.inr ⟨Int32.not_lt.mp c_14, Int32.not_lt.mp c_15⟩) hlt).symm)
              have ef : upd (fbw f L a1 a2 a3 k) (cm L a1 a2 a3 k) (byt (pck a1 a2 a3 k) (k % 8)) = fbw f L a1 a2 a3 (k + 1) := (show _ = wst _ _ _ from wst_yes (Or.inr ⟨Int32.not_lt.mp c_14, Int32.not_lt.mp c_15⟩) hlt rfl rfl)
              rw [ef, ec]
              refine X_lv (lv' := [(0, ex_r m), (1, ex_j a1), (3, ex_j a2), (5, ex_j a3), (7, ex_i (nI (k + 1)))]) [3, 4, 5, 6, 0] rfl ?_
              exact ih (k + 1) hk24 (by omega)
