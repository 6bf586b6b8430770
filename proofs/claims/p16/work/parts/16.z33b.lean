set_option maxHeartbeats 4000000 in
set_option maxRecDepth 100000 in
theorem e_X12_within (l : Launch) (v : Int32) (lo : Int32) (hi : Int32) : ex_M l yX12_within cX12_within 3 (some .boolean) 0 0 [ex_i v, ex_i lo, ex_i hi] [] (fun cs r => ((lo ≤ v ∧ v ≤ hi) ∧ cs = [] ∧ r = some (ex_i 1)) ∨ ((¬ (lo ≤ v ∧ v ≤ hi)) ∧ cs = [] ∧ r = some (ex_i 0))) := by
  refine X_meth (by decide) (Nat.le_of_ble_eq_true rfl) ?_
  refine X_iload_n (j := 0) dX12_within_0 rfl rfl ?_
  refine X_iload_n (j := 1) dX12_within_1 rfl rfl ?_
  refine X_icmp_lt (tgt := 14) dX12_within_2 (by decide) (fun c_1 => ?_) (fun c_1 => ?_)
  · refine X_iconst (v := 0) dX12_within_14 (by decide) ?_
    exact X_iret ex_nZ rfl dX12_within_15 rfl (Or.inr ⟨(fun q => Int32.not_lt.mpr q.1 c_1), rfl, rfl⟩)
  · refine X_iload_n (j := 0) dX12_within_5 rfl rfl ?_
    refine X_iload_n (j := 2) dX12_within_6 rfl rfl ?_
    refine X_icmp_gt (tgt := 14) dX12_within_7 (by decide) (fun c_2 => ?_) (fun c_2 => ?_)
    · refine X_iconst (v := 0) dX12_within_14 (by decide) ?_
      exact X_iret ex_nZ rfl dX12_within_15 rfl (Or.inr ⟨(fun q => Int32.not_lt.mpr q.2 c_2), rfl, rfl⟩)
    · refine X_iconst (v := 1) dX12_within_10 (by decide) ?_
      refine X_goto (tgt := 15) dX12_within_11 (by decide) ?_
      exact X_iret ex_nZ rfl dX12_within_15 rfl (Or.inl ⟨⟨Int32.not_lt.mp c_1, Int32.not_lt.mp c_2⟩, rfl, rfl⟩)

set_option maxHeartbeats 4000000 in
set_option maxRecDepth 100000 in
theorem e_X12_isKept (l : Launch) (m : Nat) (x0 : Int32) (x1 : Int32) (x2 : Nat) (x9 : Int32) (x10 : Nat) (x11 : Nat) (x12 : Nat) (x13 : Nat) (x14 : Nat) (x15 : Nat) (x16 : Nat) (x17 : Nat) (x18 : Nat) (x19 : Nat) (x20 : Nat) (x21 : Nat) (x22 : Nat) (x23 : Nat) (x24 : Nat) (x25 : Nat) (x26 : Int32) (x27 : Int32) (x28 : Nat) (x29 : Nat) (x30 : Nat) (x31 : Nat) (x32 : Nat) (x33 : Nat) (x34 : Nat) (x35 : Nat) (x36 : Nat) (x37 : Nat) (x38 : Nat) (x39 : Nat) (x40 : Int32) (x41 : Int64) (F : List MV) (wd1 : Int64) (td1 : Int32) (f : Nat → Int32) (L : Nat) (n : Nat) (hL : L ≤ 1000) (hn : n ≤ L) (j1 : tK f L n = 1 → wd1 = rW f L n) (j2 : tK f L n = 2 → td1 = tV f L n) : ex_M l yX12_isKept cX12_isKept 1 (some .boolean) 0 0 [ex_r m] [(m, ex_o 12 (ex_i x0 :: ex_i x1 :: ex_r x2 :: ex_i (nI L) :: ex_i (nI (tN f L n)) :: ex_i (nI (tP f L n)) :: ex_i (tK f L n) :: ex_j wd1 :: ex_i td1 :: ex_i x9 :: ex_r x10 :: ex_r x11 :: ex_r x12 :: ex_r x13 :: ex_r x14 :: ex_r x15 :: ex_r x16 :: ex_r x17 :: ex_r x18 :: ex_r x19 :: ex_r x20 :: ex_r x21 :: ex_r x22 :: ex_r x23 :: ex_r x24 :: ex_r x25 :: ex_i x26 :: ex_i x27 :: ex_r x28 :: ex_r x29 :: ex_r x30 :: ex_r x31 :: ex_r x32 :: ex_r x33 :: ex_r x34 :: ex_r x35 :: ex_r x36 :: ex_r x37 :: ex_r x38 :: ex_r x39 :: ex_i x40 :: ex_j x41 :: F))] (fun cs r => ((¬ (tK f L n = 1 ∧ nmR rz.2.2.2 (tW f L n) = true)) ∧ cs = [(m, ex_o 12 (ex_i x0 :: ex_i x1 :: ex_r x2 :: ex_i (nI L) :: ex_i (nI (tN f L n)) :: ex_i (nI (tP f L n)) :: ex_i (tK f L n) :: ex_j wd1 :: ex_i td1 :: ex_i x9 :: ex_r x10 :: ex_r x11 :: ex_r x12 :: ex_r x13 :: ex_r x14 :: ex_r x15 :: ex_r x16 :: ex_r x17 :: ex_r x18 :: ex_r x19 :: ex_r x20 :: ex_r x21 :: ex_r x22 :: ex_r x23 :: ex_r x24 :: ex_r x25 :: ex_i x26 :: ex_i x27 :: ex_r x28 :: ex_r x29 :: ex_r x30 :: ex_r x31 :: ex_r x32 :: ex_r x33 :: ex_r x34 :: ex_r x35 :: ex_r x36 :: ex_r x37 :: ex_r x38 :: ex_r x39 :: ex_i x40 :: ex_j x41 :: F))] ∧ r = some (ex_i 1)) ∨ ((tK f L n = 1 ∧ nmR rz.2.2.2 (tW f L n) = true) ∧ cs = [(m, ex_o 12 (ex_i x0 :: ex_i x1 :: ex_r x2 :: ex_i (nI L) :: ex_i (nI (tN f L n)) :: ex_i (nI (tP f L n)) :: ex_i (tK f L n) :: ex_j wd1 :: ex_i td1 :: ex_i x9 :: ex_r x10 :: ex_r x11 :: ex_r x12 :: ex_r x13 :: ex_r x14 :: ex_r x15 :: ex_r x16 :: ex_r x17 :: ex_r x18 :: ex_r x19 :: ex_r x20 :: ex_r x21 :: ex_r x22 :: ex_r x23 :: ex_r x24 :: ex_r x25 :: ex_i x26 :: ex_i x27 :: ex_r x28 :: ex_r x29 :: ex_r x30 :: ex_r x31 :: ex_r x32 :: ex_r x33 :: ex_r x34 :: ex_r x35 :: ex_r x36 :: ex_r x37 :: ex_r x38 :: ex_r x39 :: ex_i x40 :: ex_j x41 :: F))] ∧ r = some (ex_i 0))) := by
  refine X_meth (by decide) (Nat.le_of_ble_eq_true rfl) ?_
  refine X_aload_n (j := 0) dX12_isKept_0 rfl rfl ?_
  refine X_get (j := 0) fo_X12_181 dX12_isKept_1 rfl rfl ?_
  refine X_iconst (v := 1) dX12_isKept_4 (by decide) ?_
  refine X_icmp_eq (tgt := 10) dX12_isKept_5 (by decide) (fun c_1 => ?_) (fun c_1 => ?_)
  · refine X_aload_n (j := 0) dX12_isKept_10 rfl rfl ?_
    refine X_get (j := 0) fo_X12_174 dX12_isKept_11 rfl rfl ?_
    refine X_ldc2_w (v := 232608281) k_1548 dX12_isKept_14 ?_
    refine X_lcmp (v := (lg_cmp wd1 232608281)) dX12_isKept_17 rfl ?_
    refine X_if_eq (tgt := 307) dX12_isKept_18 (by decide) (fun c_2 => ?_) (fun c_2 => ?_)
    · refine X_iconst (v := 1) dX12_isKept_307 (by decide) ?_
      refine X_goto (tgt := 312) dX12_isKept_308 (by decide) ?_
      exact X_iret ex_nZ rfl dX12_isKept_312 rfl (Or.inl ⟨(fun q => (nm_iff q.1).mp q.2 (by rw [← j1 q.1, ex_lc2 c_2]; decide)), rfl, rfl⟩)
    · refine X_aload_n (j := 0) dX12_isKept_21 rfl rfl ?_
      refine X_get (j := 0) fo_X12_174 dX12_isKept_22 rfl rfl ?_
      refine X_ldc2_w (v := 126232693) k_1569 dX12_isKept_25 ?_
      refine X_lcmp (v := (lg_cmp wd1 126232693)) dX12_isKept_28 rfl ?_
      refine X_if_eq (tgt := 307) dX12_isKept_29 (by decide) (fun c_3 => ?_) (fun c_3 => ?_)
      · refine X_iconst (v := 1) dX12_isKept_307 (by decide) ?_
        refine X_goto (tgt := 312) dX12_isKept_308 (by decide) ?_
        exact X_iret ex_nZ rfl dX12_isKept_312 rfl (Or.inl ⟨(fun q => (nm_iff q.1).mp q.2 (by rw [← j1 q.1, ex_lc2 c_3]; decide)), rfl, rfl⟩)
      · refine X_aload_n (j := 0) dX12_isKept_32 rfl rfl ?_
        refine X_get (j := 0) fo_X12_174 dX12_isKept_33 rfl rfl ?_
        refine X_ldc2_w (v := 10662899) k_1570 dX12_isKept_36 ?_
        refine X_lcmp (v := (lg_cmp wd1 10662899)) dX12_isKept_39 rfl ?_
        refine X_if_eq (tgt := 307) dX12_isKept_40 (by decide) (fun c_4 => ?_) (fun c_4 => ?_)
        · refine X_iconst (v := 1) dX12_isKept_307 (by decide) ?_
          refine X_goto (tgt := 312) dX12_isKept_308 (by decide) ?_
          exact X_iret ex_nZ rfl dX12_isKept_312 rfl (Or.inl ⟨(fun q => (nm_iff q.1).mp q.2 (by rw [← j1 q.1, ex_lc2 c_4]; decide)), rfl, rfl⟩)
        · refine X_aload_n (j := 0) dX12_isKept_43 rfl rfl ?_
          refine X_get (j := 0) fo_X12_174 dX12_isKept_44 rfl rfl ?_
          refine X_ldc2_w (v := 12001681) k_1571 dX12_isKept_47 ?_
          refine X_lcmp (v := (lg_cmp wd1 12001681)) dX12_isKept_50 rfl ?_
          refine X_if_eq (tgt := 307) dX12_isKept_51 (by decide) (fun c_5 => ?_) (fun c_5 => ?_)
          · refine X_iconst (v := 1) dX12_isKept_307 (by decide) ?_
            refine X_goto (tgt := 312) dX12_isKept_308 (by decide) ?_
            exact X_iret ex_nZ rfl dX12_isKept_312 rfl (Or.inl ⟨(fun q => (nm_iff q.1).mp q.2 (by rw [← j1 q.1, ex_lc2 c_5]; decide)), rfl, rfl⟩)
          · refine X_aload_n (j := 0) dX12_isKept_54 rfl rfl ?_
            refine X_get (j := 0) fo_X12_174 dX12_isKept_55 rfl rfl ?_
            refine X_ldc2_w (v := 85814) k_1572 dX12_isKept_58 ?_
            refine X_lcmp (v := (lg_cmp wd1 85814)) dX12_isKept_61 rfl ?_
            refine X_if_eq (tgt := 307) dX12_isKept_62 (by decide) (fun c_6 => ?_) (fun c_6 => ?_)
            · refine X_iconst (v := 1) dX12_isKept_307 (by decide) ?_
              refine X_goto (tgt := 312) dX12_isKept_308 (by decide) ?_
              exact X_iret ex_nZ rfl dX12_isKept_312 rfl (Or.inl ⟨(fun q => (nm_iff q.1).mp q.2 (by rw [← j1 q.1, ex_lc2 c_6]; decide)), rfl, rfl⟩)
            · refine X_aload_n (j := 0) dX12_isKept_65 rfl rfl ?_
              refine X_get (j := 0) fo_X12_174 dX12_isKept_66 rfl rfl ?_
              refine X_ldc2_w (v := 1254763) k_1573 dX12_isKept_69 ?_
              refine X_lcmp (v := (lg_cmp wd1 1254763)) dX12_isKept_72 rfl ?_
              refine X_if_eq (tgt := 307) dX12_isKept_73 (by decide) (fun c_7 => ?_) (fun c_7 => ?_)
              · refine X_iconst (v := 1) dX12_isKept_307 (by decide) ?_
                refine X_goto (tgt := 312) dX12_isKept_308 (by decide) ?_
                exact X_iret ex_nZ rfl dX12_isKept_312 rfl (Or.inl ⟨(fun q => (nm_iff q.1).mp q.2 (by rw [← j1 q.1, ex_lc2 c_7]; decide)), rfl, rfl⟩)
              · refine X_aload_n (j := 0) dX12_isKept_76 rfl rfl ?_
                refine X_get (j := 0) fo_X12_174 dX12_isKept_77 rfl rfl ?_
                refine X_ldc2_w (v := 375050) k_1574 dX12_isKept_80 ?_
                refine X_lcmp (v := (lg_cmp wd1 375050)) dX12_isKept_83 rfl ?_
                refine X_if_eq (tgt := 307) dX12_isKept_84 (by decide) (fun c_8 => ?_) (fun c_8 => ?_)
                · refine X_iconst (v := 1) dX12_isKept_307 (by decide) ?_
                  refine X_goto (tgt := 312) dX12_isKept_308 (by decide) ?_
                  exact X_iret ex_nZ rfl dX12_isKept_312 rfl (Or.inl ⟨(fun q => (nm_iff q.1).mp q.2 (by rw [← j1 q.1, ex_lc2 c_8]; decide)), rfl, rfl⟩)
                · refine X_aload_n (j := 0) dX12_isKept_87 rfl rfl ?_
                  refine X_get (j := 0) fo_X12_174 dX12_isKept_88 rfl rfl ?_
                  refine X_ldc2_w (v := 70517) k_1575 dX12_isKept_91 ?_
                  refine X_lcmp (v := (lg_cmp wd1 70517)) dX12_isKept_94 rfl ?_
                  refine X_if_eq (tgt := 307) dX12_isKept_95 (by decide) (fun c_9 => ?_) (fun c_9 => ?_)
                  · refine X_iconst (v := 1) dX12_isKept_307 (by decide) ?_
                    refine X_goto (tgt := 312) dX12_isKept_308 (by decide) ?_
                    exact X_iret ex_nZ rfl dX12_isKept_312 rfl (Or.inl ⟨(fun q => (nm_iff q.1).mp q.2 (by rw [← j1 q.1, ex_lc2 c_9]; decide)), rfl, rfl⟩)
                  · refine X_aload_n (j := 0) dX12_isKept_98 rfl rfl ?_
                    refine X_get (j := 0) fo_X12_174 dX12_isKept_99 rfl rfl ?_
                    refine X_ldc2_w (v := 2770) k_1576 dX12_isKept_102 ?_
                    refine X_lcmp (v := (lg_cmp wd1 2770)) dX12_isKept_105 rfl ?_
                    refine X_if_eq (tgt := 307) dX12_isKept_106 (by decide) (fun c_10 => ?_) (fun c_10 => ?_)
                    · refine X_iconst (v := 1) dX12_isKept_307 (by decide) ?_
                      refine X_goto (tgt := 312) dX12_isKept_308 (by decide) ?_
                      exact X_iret ex_nZ rfl dX12_isKept_312 rfl (Or.inl ⟨(fun q => (nm_iff q.1).mp q.2 (by rw [← j1 q.1, ex_lc2 c_10]; decide)), rfl, rfl⟩)
                    · refine X_aload_n (j := 0) dX12_isKept_109 rfl rfl ?_
                      refine X_get (j := 0) fo_X12_174 dX12_isKept_110 rfl rfl ?_
                      refine X_ldc2_w (v := 380630) k_1577 dX12_isKept_113 ?_
                      refine X_lcmp (v := (lg_cmp wd1 380630)) dX12_isKept_116 rfl ?_
                      refine X_if_eq (tgt := 307) dX12_isKept_117 (by decide) (fun c_11 => ?_) (fun c_11 => ?_)
                      · refine X_iconst (v := 1) dX12_isKept_307 (by decide) ?_
                        refine X_goto (tgt := 312) dX12_isKept_308 (by decide) ?_
                        exact X_iret ex_nZ rfl dX12_isKept_312 rfl (Or.inl ⟨(fun q => (nm_iff q.1).mp q.2 (by rw [← j1 q.1, ex_lc2 c_11]; decide)), rfl, rfl⟩)
                      · refine X_aload_n (j := 0) dX12_isKept_120 rfl rfl ?_
                        refine X_get (j := 0) fo_X12_174 dX12_isKept_121 rfl rfl ?_
                        refine X_ldc2_w (v := 131638) k_1578 dX12_isKept_124 ?_
                        refine X_lcmp (v := (lg_cmp wd1 131638)) dX12_isKept_127 rfl ?_
                        refine X_if_eq (tgt := 307) dX12_isKept_128 (by decide) (fun c_12 => ?_) (fun c_12 => ?_)
                        · refine X_iconst (v := 1) dX12_isKept_307 (by decide) ?_
                          refine X_goto (tgt := 312) dX12_isKept_308 (by decide) ?_
                          exact X_iret ex_nZ rfl dX12_isKept_312 rfl (Or.inl ⟨(fun q => (nm_iff q.1).mp q.2 (by rw [← j1 q.1, ex_lc2 c_12]; decide)), rfl, rfl⟩)
                        · refine X_aload_n (j := 0) dX12_isKept_131 rfl rfl ?_
                          refine X_get (j := 0) fo_X12_174 dX12_isKept_132 rfl rfl ?_
                          refine X_ldc2_w (v := 555) k_1579 dX12_isKept_135 ?_
                          refine X_lcmp (v := (lg_cmp wd1 555)) dX12_isKept_138 rfl ?_
                          refine X_if_eq (tgt := 307) dX12_isKept_139 (by decide) (fun c_13 => ?_) (fun c_13 => ?_)
                          · refine X_iconst (v := 1) dX12_isKept_307 (by decide) ?_
                            refine X_goto (tgt := 312) dX12_isKept_308 (by decide) ?_
                            exact X_iret ex_nZ rfl dX12_isKept_312 rfl (Or.inl ⟨(fun q => (nm_iff q.1).mp q.2 (by rw [← j1 q.1, ex_lc2 c_13]; decide)), rfl, rfl⟩)
                          · refine X_aload_n (j := 0) dX12_isKept_142 rfl rfl ?_
                            refine X_get (j := 0) fo_X12_174 dX12_isKept_143 rfl rfl ?_
                            refine X_ldc2_w (v := 10502465) k_1580 dX12_isKept_146 ?_
                            refine X_lcmp (v := (lg_cmp wd1 10502465)) dX12_isKept_149 rfl ?_
                            refine X_if_eq (tgt := 307) dX12_isKept_150 (by decide) (fun c_14 => ?_) (fun c_14 => ?_)
                            · refine X_iconst (v := 1) dX12_isKept_307 (by decide) ?_
                              refine X_goto (tgt := 312) dX12_isKept_308 (by decide) ?_
                              exact X_iret ex_nZ rfl dX12_isKept_312 rfl (Or.inl ⟨(fun q => (nm_iff q.1).mp q.2 (by rw [← j1 q.1, ex_lc2 c_14]; decide)), rfl, rfl⟩)
                            · refine X_aload_n (j := 0) dX12_isKept_153 rfl rfl ?_
                              refine X_get (j := 0) fo_X12_174 dX12_isKept_154 rfl rfl ?_
                              refine X_ldc2_w (v := 358472) k_1581 dX12_isKept_157 ?_
                              refine X_lcmp (v := (lg_cmp wd1 358472)) dX12_isKept_160 rfl ?_
                              refine X_if_eq (tgt := 307) dX12_isKept_161 (by decide) (fun c_15 => ?_) (fun c_15 => ?_)
                              · refine X_iconst (v := 1) dX12_isKept_307 (by decide) ?_
                                refine X_goto (tgt := 312) dX12_isKept_308 (by decide) ?_
                                exact X_iret ex_nZ rfl dX12_isKept_312 rfl (Or.inl ⟨(fun q => (nm_iff q.1).mp q.2 (by rw [← j1 q.1, ex_lc2 c_15]; decide)), rfl, rfl⟩)
                              · refine X_aload_n (j := 0) dX12_isKept_164 rfl rfl ?_
                                refine X_get (j := 0) fo_X12_174 dX12_isKept_165 rfl rfl ?_
                                refine X_ldc2_w (v := 10256063) k_1582 dX12_isKept_168 ?_
                                refine X_lcmp (v := (lg_cmp wd1 10256063)) dX12_isKept_171 rfl ?_
                                refine X_if_eq (tgt := 307) dX12_isKept_172 (by decide) (fun c_16 => ?_) (fun c_16 => ?_)
                                · refine X_iconst (v := 1) dX12_isKept_307 (by decide) ?_
                                  refine X_goto (tgt := 312) dX12_isKept_308 (by decide) ?_
                                  exact X_iret ex_nZ rfl dX12_isKept_312 rfl (Or.inl ⟨(fun q => (nm_iff q.1).mp q.2 (by rw [← j1 q.1, ex_lc2 c_16]; decide)), rfl, rfl⟩)
                                · refine X_aload_n (j := 0) dX12_isKept_175 rfl rfl ?_
                                  refine X_get (j := 0) fo_X12_174 dX12_isKept_176 rfl rfl ?_
                                  refine X_ldc2_w (v := 3692) k_1583 dX12_isKept_179 ?_
                                  refine X_lcmp (v := (lg_cmp wd1 3692)) dX12_isKept_182 rfl ?_
                                  refine X_if_eq (tgt := 307) dX12_isKept_183 (by decide) (fun c_17 => ?_) (fun c_17 => ?_)
                                  · refine X_iconst (v := 1) dX12_isKept_307 (by decide) ?_
                                    refine X_goto (tgt := 312) dX12_isKept_308 (by decide) ?_
                                    exact X_iret ex_nZ rfl dX12_isKept_312 rfl (Or.inl ⟨(fun q => (nm_iff q.1).mp q.2 (by rw [← j1 q.1, ex_lc2 c_17]; decide)), rfl, rfl⟩)
                                  · refine X_aload_n (j := 0) dX12_isKept_186 rfl rfl ?_
                                    refine X_get (j := 0) fo_X12_174 dX12_isKept_187 rfl rfl ?_
                                    refine X_ldc2_w (v := 15777049) k_1584 dX12_isKept_190 ?_
                                    refine X_lcmp (v := (lg_cmp wd1 15777049)) dX12_isKept_193 rfl ?_
                                    refine X_if_eq (tgt := 307) dX12_isKept_194 (by decide) (fun c_18 => ?_) (fun c_18 => ?_)
                                    · refine X_iconst (v := 1) dX12_isKept_307 (by decide) ?_
                                      refine X_goto (tgt := 312) dX12_isKept_308 (by decide) ?_
                                      exact X_iret ex_nZ rfl dX12_isKept_312 rfl (Or.inl ⟨(fun q => (nm_iff q.1).mp q.2 (by rw [← j1 q.1, ex_lc2 c_18]; decide)), rfl, rfl⟩)
                                    · refine X_aload_n (j := 0) dX12_isKept_197 rfl rfl ?_
                                      refine X_get (j := 0) fo_X12_174 dX12_isKept_198 rfl rfl ?_
                                      refine X_ldc2_w (v := 286880) k_1585 dX12_isKept_201 ?_
                                      refine X_lcmp (v := (lg_cmp wd1 286880)) dX12_isKept_204 rfl ?_
                                      refine X_if_eq (tgt := 307) dX12_isKept_205 (by decide) (fun c_19 => ?_) (fun c_19 => ?_)
                                      · refine X_iconst (v := 1) dX12_isKept_307 (by decide) ?_
                                        refine X_goto (tgt := 312) dX12_isKept_308 (by decide) ?_
                                        exact X_iret ex_nZ rfl dX12_isKept_312 rfl (Or.inl ⟨(fun q => (nm_iff q.1).mp q.2 (by rw [← j1 q.1, ex_lc2 c_19]; decide)), rfl, rfl⟩)
                                      · refine X_aload_n (j := 0) dX12_isKept_208 rfl rfl ?_
                                        refine X_get (j := 0) fo_X12_174 dX12_isKept_209 rfl rfl ?_
                                        refine X_ldc2_w (v := 383153) k_1586 dX12_isKept_212 ?_
                                        refine X_lcmp (v := (lg_cmp wd1 383153)) dX12_isKept_215 rfl ?_
                                        refine X_if_eq (tgt := 307) dX12_isKept_216 (by decide) (fun c_20 => ?_) (fun c_20 => ?_)
                                        · refine X_iconst (v := 1) dX12_isKept_307 (by decide) ?_
                                          refine X_goto (tgt := 312) dX12_isKept_308 (by decide) ?_
                                          exact X_iret ex_nZ rfl dX12_isKept_312 rfl (Or.inl ⟨(fun q => (nm_iff q.1).mp q.2 (by rw [← j1 q.1, ex_lc2 c_20]; decide)), rfl, rfl⟩)
                                        · refine X_aload_n (j := 0) dX12_isKept_219 rfl rfl ?_
                                          refine X_get (j := 0) fo_X12_174 dX12_isKept_220 rfl rfl ?_
                                          refine X_ldc2_w (v := 119360) k_1587 dX12_isKept_223 ?_
                                          refine X_lcmp (v := (lg_cmp wd1 119360)) dX12_isKept_226 rfl ?_
                                          refine X_if_eq (tgt := 307) dX12_isKept_227 (by decide) (fun c_21 => ?_) (fun c_21 => ?_)
                                          · refine X_iconst (v := 1) dX12_isKept_307 (by decide) ?_
                                            refine X_goto (tgt := 312) dX12_isKept_308 (by decide) ?_
                                            exact X_iret ex_nZ rfl dX12_isKept_312 rfl (Or.inl ⟨(fun q => (nm_iff q.1).mp q.2 (by rw [← j1 q.1, ex_lc2 c_21]; decide)), rfl, rfl⟩)
                                          · refine X_aload_n (j := 0) dX12_isKept_230 rfl rfl ?_
                                            refine X_get (j := 0) fo_X12_174 dX12_isKept_231 rfl rfl ?_
                                            refine X_ldc2_w (v := 8740238) k_1588 dX12_isKept_234 ?_
                                            refine X_lcmp (v := (lg_cmp wd1 8740238)) dX12_isKept_237 rfl ?_
                                            refine X_if_eq (tgt := 307) dX12_isKept_238 (by decide) (fun c_22 => ?_) (fun c_22 => ?_)
                                            · refine X_iconst (v := 1) dX12_isKept_307 (by decide) ?_
                                              refine X_goto (tgt := 312) dX12_isKept_308 (by decide) ?_
                                              exact X_iret ex_nZ rfl dX12_isKept_312 rfl (Or.inl ⟨(fun q => (nm_iff q.1).mp q.2 (by rw [← j1 q.1, ex_lc2 c_22]; decide)), rfl, rfl⟩)
                                            · refine X_aload_n (j := 0) dX12_isKept_241 rfl rfl ?_
                                              refine X_get (j := 0) fo_X12_174 dX12_isKept_242 rfl rfl ?_
                                              refine X_ldc2_w (v := 110110480) k_1589 dX12_isKept_245 ?_
                                              refine X_lcmp (v := (lg_cmp wd1 110110480)) dX12_isKept_248 rfl ?_
                                              refine X_if_eq (tgt := 307) dX12_isKept_249 (by decide) (fun c_23 => ?_) (fun c_23 => ?_)
                                              · refine X_iconst (v := 1) dX12_isKept_307 (by decide) ?_
                                                refine X_goto (tgt := 312) dX12_isKept_308 (by decide) ?_
                                                exact X_iret ex_nZ rfl dX12_isKept_312 rfl (Or.inl ⟨(fun q => (nm_iff q.1).mp q.2 (by rw [← j1 q.1, ex_lc2 c_23]; decide)), rfl, rfl⟩)
                                              · refine X_aload_n (j := 0) dX12_isKept_252 rfl rfl ?_
                                                refine X_get (j := 0) fo_X12_174 dX12_isKept_253 rfl rfl ?_
                                                refine X_ldc2_w (v := 6688714) k_1590 dX12_isKept_256 ?_
                                                refine X_lcmp (v := (lg_cmp wd1 6688714)) dX12_isKept_259 rfl ?_
                                                refine X_if_eq (tgt := 307) dX12_isKept_260 (by decide) (fun c_24 => ?_) (fun c_24 => ?_)
                                                · refine X_iconst (v := 1) dX12_isKept_307 (by decide) ?_
                                                  refine X_goto (tgt := 312) dX12_isKept_308 (by decide) ?_
                                                  exact X_iret ex_nZ rfl dX12_isKept_312 rfl (Or.inl ⟨(fun q => (nm_iff q.1).mp q.2 (by rw [← j1 q.1, ex_lc2 c_24]; decide)), rfl, rfl⟩)
                                                · refine X_aload_n (j := 0) dX12_isKept_263 rfl rfl ?_
                                                  refine X_get (j := 0) fo_X12_174 dX12_isKept_264 rfl rfl ?_
                                                  refine X_ldc2_w (v := 11263) k_1591 dX12_isKept_267 ?_
                                                  refine X_lcmp (v := (lg_cmp wd1 11263)) dX12_isKept_270 rfl ?_
                                                  refine X_if_eq (tgt := 307) dX12_isKept_271 (by decide) (fun c_25 => ?_) (fun c_25 => ?_)
                                                  · refine X_iconst (v := 1) dX12_isKept_307 (by decide) ?_
                                                    refine X_goto (tgt := 312) dX12_isKept_308 (by decide) ?_
                                                    exact X_iret ex_nZ rfl dX12_isKept_312 rfl (Or.inl ⟨(fun q => (nm_iff q.1).mp q.2 (by rw [← j1 q.1, ex_lc2 c_25]; decide)), rfl, rfl⟩)
                                                  · refine X_aload_n (j := 0) dX12_isKept_274 rfl rfl ?_
                                                    refine X_get (j := 0) fo_X12_174 dX12_isKept_275 rfl rfl ?_
                                                    refine X_ldc2_w (v := 10631) k_1592 dX12_isKept_278 ?_
                                                    refine X_lcmp (v := (lg_cmp wd1 10631)) dX12_isKept_281 rfl ?_
                                                    refine X_if_eq (tgt := 307) dX12_isKept_282 (by decide) (fun c_26 => ?_) (fun c_26 => ?_)
                                                    · refine X_iconst (v := 1) dX12_isKept_307 (by decide) ?_
                                                      refine X_goto (tgt := 312) dX12_isKept_308 (by decide) ?_
                                                      exact X_iret ex_nZ rfl dX12_isKept_312 rfl (Or.inl ⟨(fun q => (nm_iff q.1).mp q.2 (by rw [← j1 q.1, ex_lc2 c_26]; decide)), rfl, rfl⟩)
                                                    · refine X_aload_n (j := 0) dX12_isKept_285 rfl rfl ?_
                                                      refine X_get (j := 0) fo_X12_174 dX12_isKept_286 rfl rfl ?_
                                                      refine X_ldc2_w (v := 1111) k_1593 dX12_isKept_289 ?_
                                                      refine X_lcmp (v := (lg_cmp wd1 1111)) dX12_isKept_292 rfl ?_
                                                      refine X_if_eq (tgt := 307) dX12_isKept_293 (by decide) (fun c_27 => ?_) (fun c_27 => ?_)
                                                      · refine X_iconst (v := 1) dX12_isKept_307 (by decide) ?_
                                                        refine X_goto (tgt := 312) dX12_isKept_308 (by decide) ?_
                                                        exact X_iret ex_nZ rfl dX12_isKept_312 rfl (Or.inl ⟨(fun q => (nm_iff q.1).mp q.2 (by rw [← j1 q.1, ex_lc2 c_27]; decide)), rfl, rfl⟩)
                                                      · refine X_aload_n (j := 0) dX12_isKept_296 rfl rfl ?_
                                                        refine X_get (j := 0) fo_X12_174 dX12_isKept_297 rfl rfl ?_
                                                        refine X_ldc2_w (v := 423) k_1594 dX12_isKept_300 ?_
                                                        refine X_lcmp (v := (lg_cmp wd1 423)) dX12_isKept_303 rfl ?_
                                                        refine X_if_ne (tgt := 311) dX12_isKept_304 (by decide) (fun c_28 => ?_) (fun c_28 => ?_)
                                                        · refine X_iconst (v := 0) dX12_isKept_311 (by decide) ?_
                                                          have hall : ∀ c ∈ r27, ¬ wd1 = c := by
                                                            intro c hc
                                                            simp only [r27, List.mem_cons, List.not_mem_nil, or_false] at hc
                                                            rcases hc with rfl | rfl | rfl | rfl | rfl | rfl | rfl | rfl | rfl | rfl | rfl | rfl | rfl | rfl | rfl | rfl | rfl | rfl | rfl | rfl | rfl | rfl | rfl | rfl | rfl | rfl | rfl
                                                            · exact fun e => c_2 (by rw [e]; exact ex_lc1 _)
                                                            · exact fun e => c_3 (by rw [e]; exact ex_lc1 _)
                                                            · exact fun e => c_4 (by rw [e]; exact ex_lc1 _)
                                                            · exact fun e => c_5 (by rw [e]; exact ex_lc1 _)
                                                            · exact fun e => c_6 (by rw [e]; exact ex_lc1 _)
                                                            · exact fun e => c_7 (by rw [e]; exact ex_lc1 _)
                                                            · exact fun e => c_8 (by rw [e]; exact ex_lc1 _)
                                                            · exact fun e => c_9 (by rw [e]; exact ex_lc1 _)
                                                            · exact fun e => c_10 (by rw [e]; exact ex_lc1 _)
                                                            · exact fun e => c_11 (by rw [e]; exact ex_lc1 _)
                                                            · exact fun e => c_12 (by rw [e]; exact ex_lc1 _)
                                                            · exact fun e => c_13 (by rw [e]; exact ex_lc1 _)
                                                            · exact fun e => c_14 (by rw [e]; exact ex_lc1 _)
                                                            · exact fun e => c_15 (by rw [e]; exact ex_lc1 _)
                                                            · exact fun e => c_16 (by rw [e]; exact ex_lc1 _)
                                                            · exact fun e => c_17 (by rw [e]; exact ex_lc1 _)
                                                            · exact fun e => c_18 (by rw [e]; exact ex_lc1 _)
                                                            · exact fun e => c_19 (by rw [e]; exact ex_lc1 _)
                                                            · exact fun e => c_20 (by rw [e]; exact ex_lc1 _)
                                                            · exact fun e => c_21 (by rw [e]; exact ex_lc1 _)
                                                            · exact fun e => c_22 (by rw [e]; exact ex_lc1 _)
                                                            · exact fun e => c_23 (by rw [e]; exact ex_lc1 _)
                                                            · exact fun e => c_24 (by rw [e]; exact ex_lc1 _)
                                                            · exact fun e => c_25 (by rw [e]; exact ex_lc1 _)
                                                            · exact fun e => c_26 (by rw [e]; exact ex_lc1 _)
                                                            · exact fun e => c_27 (by rw [e]; exact ex_lc1 _)
                                                            · exact fun e => c_28 (by rw [e]; exact ex_lc1 _)
                                                          exact X_iret ex_nZ rfl dX12_isKept_312 rfl (Or.inr ⟨⟨c_1, (nm_iff c_1).mpr (by rw [← j1 c_1]; exact fun e => hall _ e rfl)⟩, rfl, rfl⟩)
                                                        · refine X_iconst (v := 1) dX12_isKept_307 (by decide) ?_
                                                          refine X_goto (tgt := 312) dX12_isKept_308 (by decide) ?_
                                                          exact X_iret ex_nZ rfl dX12_isKept_312 rfl (Or.inl ⟨(fun q => (nm_iff q.1).mp q.2 (by rw [← j1 q.1, ex_lc2 c_28]; decide)), rfl, rfl⟩)
  · refine X_iconst (v := 1) dX12_isKept_8 (by decide) ?_
    exact X_iret ex_nZ rfl dX12_isKept_9 rfl (Or.inl ⟨(fun q => c_1 q.1), rfl, rfl⟩)

set_option maxHeartbeats 4000000 in
set_option maxRecDepth 100000 in
theorem e_X12_needsNumber (l : Launch) (m : Nat) (x0 : Int32) (x1 : Int32) (x2 : Nat) (x9 : Int32) (x10 : Nat) (x11 : Nat) (x12 : Nat) (x13 : Nat) (x14 : Nat) (x15 : Nat) (x16 : Nat) (x17 : Nat) (x18 : Nat) (x19 : Nat) (x20 : Nat) (x21 : Nat) (x22 : Nat) (x23 : Nat) (x24 : Nat) (x25 : Nat) (x26 : Int32) (x27 : Int32) (x28 : Nat) (x29 : Nat) (x30 : Nat) (x31 : Nat) (x32 : Nat) (x33 : Nat) (x34 : Nat) (x35 : Nat) (x36 : Nat) (x37 : Nat) (x38 : Nat) (x39 : Nat) (x40 : Int32) (x41 : Int64) (F : List MV) (wd1 : Int64) (td1 : Int32) (f : Nat → Int32) (L : Nat) (n : Nat) (lo : Int32) (hi : Int32) (hL : L ≤ 1000) (hn : n ≤ L) (j1 : tK f L n = 1 → wd1 = rW f L n) (j2 : tK f L n = 2 → td1 = tV f L n) : ex_M l yX12_needsNumber cX12_needsNumber 3 (some .boolean) 2 42 [ex_r m, ex_i lo, ex_i hi] [(m, ex_o 12 (ex_i x0 :: ex_i x1 :: ex_r x2 :: ex_i (nI L) :: ex_i (nI (tN f L n)) :: ex_i (nI (tP f L n)) :: ex_i (tK f L n) :: ex_j wd1 :: ex_i td1 :: ex_i x9 :: ex_r x10 :: ex_r x11 :: ex_r x12 :: ex_r x13 :: ex_r x14 :: ex_r x15 :: ex_r x16 :: ex_r x17 :: ex_r x18 :: ex_r x19 :: ex_r x20 :: ex_r x21 :: ex_r x22 :: ex_r x23 :: ex_r x24 :: ex_r x25 :: ex_i x26 :: ex_i x27 :: ex_r x28 :: ex_r x29 :: ex_r x30 :: ex_r x31 :: ex_r x32 :: ex_r x33 :: ex_r x34 :: ex_r x35 :: ex_r x36 :: ex_r x37 :: ex_r x38 :: ex_r x39 :: ex_i x40 :: ex_j x41 :: F)), (x2, ex_a 1 1000 f)] (fun cs r => (∃ (wd2 : Int64), ∃ (td2 : Int32), ∃ (n2 : Nat), ∃ (gv2 : Int32), sNum f L lo hi n = .inr (n2, gv2) ∧ (tK f L n2 = 1 → wd2 = rW f L n2) ∧ (tK f L n2 = 2 → td2 = tV f L n2) ∧ n2 ≤ L ∧ cs = [(m, ex_o 12 (ex_i x0 :: ex_i x1 :: ex_r x2 :: ex_i (nI L) :: ex_i (nI (tN f L n2)) :: ex_i (nI (tP f L n2)) :: ex_i (tK f L n2) :: ex_j wd2 :: ex_i td2 :: ex_i x9 :: ex_r x10 :: ex_r x11 :: ex_r x12 :: ex_r x13 :: ex_r x14 :: ex_r x15 :: ex_r x16 :: ex_r x17 :: ex_r x18 :: ex_r x19 :: ex_r x20 :: ex_r x21 :: ex_r x22 :: ex_r x23 :: ex_r x24 :: ex_r x25 :: ex_i x26 :: ex_i x27 :: ex_r x28 :: ex_r x29 :: ex_r x30 :: ex_r x31 :: ex_r x32 :: ex_r x33 :: ex_r x34 :: ex_r x35 :: ex_r x36 :: ex_r x37 :: ex_r x38 :: ex_r x39 :: ex_i gv2 :: ex_j x41 :: F)), (x2, ex_a 1 1000 f)] ∧ r = some (ex_i 1)) ∨ (∃ (pl2 : Int32), ∃ (bg2 : Int32), ∃ (tk2 : Int32), ∃ (td2 : Int32), ∃ (fa2 : Int32), ∃ (gv2 : Int32), ∃ (wd2 : Int64), ∃ (fr2 : Int64), sNum f L lo hi n = .inl fa2 ∧ cs = [(m, ex_o 12 (ex_i x0 :: ex_i x1 :: ex_r x2 :: ex_i (nI L) :: ex_i pl2 :: ex_i bg2 :: ex_i tk2 :: ex_j wd2 :: ex_i td2 :: ex_i fa2 :: ex_r x10 :: ex_r x11 :: ex_r x12 :: ex_r x13 :: ex_r x14 :: ex_r x15 :: ex_r x16 :: ex_r x17 :: ex_r x18 :: ex_r x19 :: ex_r x20 :: ex_r x21 :: ex_r x22 :: ex_r x23 :: ex_r x24 :: ex_r x25 :: ex_i x26 :: ex_i x27 :: ex_r x28 :: ex_r x29 :: ex_r x30 :: ex_r x31 :: ex_r x32 :: ex_r x33 :: ex_r x34 :: ex_r x35 :: ex_r x36 :: ex_r x37 :: ex_r x38 :: ex_r x39 :: ex_i gv2 :: ex_j fr2 :: F)), (x2, ex_a 1 1000 f)] ∧ r = some (ex_i 0))) := by
  refine X_meth (by decide) (Nat.le_of_ble_eq_true rfl) ?_
  refine X_aload_n (j := 0) dX12_needsNumber_0 rfl rfl ?_
  refine X_get (j := 0) fo_X12_181 dX12_needsNumber_1 rfl rfl ?_
  refine X_iconst (v := 2) dX12_needsNumber_4 (by decide) ?_
  refine X_icmp_eq (tgt := 14) dX12_needsNumber_5 (by decide) (fun c_1 => ?_) (fun c_1 => ?_)
  · refine X_aload_n (j := 0) dX12_needsNumber_14 rfl rfl ?_
    refine X_get (j := 0) fo_X12_178 dX12_needsNumber_15 rfl rfl ?_
    refine X_iload_n (j := 1) dX12_needsNumber_18 rfl rfl ?_
    refine X_iload_n (j := 2) dX12_needsNumber_19 rfl rfl ?_
    refine X_callS (rest := [(m, ex_o 12 (ex_i x0 :: ex_i x1 :: ex_r x2 :: ex_i (nI L) :: ex_i (nI (tN f L n)) :: ex_i (nI (tP f L n)) :: ex_i (tK f L n) :: ex_j wd1 :: ex_i td1 :: ex_i x9 :: ex_r x10 :: ex_r x11 :: ex_r x12 :: ex_r x13 :: ex_r x14 :: ex_r x15 :: ex_r x16 :: ex_r x17 :: ex_r x18 :: ex_r x19 :: ex_r x20 :: ex_r x21 :: ex_r x22 :: ex_r x23 :: ex_r x24 :: ex_r x25 :: ex_i x26 :: ex_i x27 :: ex_r x28 :: ex_r x29 :: ex_r x30 :: ex_r x31 :: ex_r x32 :: ex_r x33 :: ex_r x34 :: ex_r x35 :: ex_r x36 :: ex_r x37 :: ex_r x38 :: ex_r x39 :: ex_i x40 :: ex_j x41 :: F)), (x2, ex_a 1 1000 f)]) (stk := []) co_X12_293 rfl ⟨(Nat.le_of_ble_eq_true rfl), (Nat.le_of_ble_eq_true rfl)⟩ (e_X12_within l td1 lo hi) dX12_needsNumber_20 [0, 1] (show List.Perm [0, 1] (List.range 2) from by decide) rfl rfl rfl (Nat.le_of_ble_eq_true rfl) (fun cs1 r hq hk => ?_)
    rcases hq with ⟨hp_2, rfl, rfl⟩ | ⟨hp_3, rfl, rfl⟩
    · refine X_if_ne (tgt := 32) dX12_needsNumber_23 (by decide) (fun _ => ?_) (fun c_ => absurd c_ (by decide))
      refine X_aload_n (j := 0) dX12_needsNumber_32 rfl rfl ?_
      refine X_aload_n (j := 0) dX12_needsNumber_33 rfl rfl ?_
      refine X_get (j := 0) fo_X12_178 dX12_needsNumber_34 rfl rfl ?_
      refine X_put (j := 0) (cs' := [(m, ex_o 12 (ex_i x0 :: ex_i x1 :: ex_r x2 :: ex_i (nI L) :: ex_i (nI (tN f L n)) :: ex_i (nI (tP f L n)) :: ex_i (tK f L n) :: ex_j wd1 :: ex_i td1 :: ex_i x9 :: ex_r x10 :: ex_r x11 :: ex_r x12 :: ex_r x13 :: ex_r x14 :: ex_r x15 :: ex_r x16 :: ex_r x17 :: ex_r x18 :: ex_r x19 :: ex_r x20 :: ex_r x21 :: ex_r x22 :: ex_r x23 :: ex_r x24 :: ex_r x25 :: ex_i x26 :: ex_i x27 :: ex_r x28 :: ex_r x29 :: ex_r x30 :: ex_r x31 :: ex_r x32 :: ex_r x33 :: ex_r x34 :: ex_r x35 :: ex_r x36 :: ex_r x37 :: ex_r x38 :: ex_r x39 :: ex_i td1 :: ex_j x41 :: F)), (x2, ex_a 1 1000 f)]) fo_X12_297 (by decide) dX12_needsNumber_37 rfl (lt_tl (n := 42) (by decide)) trivial rfl ?_
      refine X_aload_n (j := 0) dX12_needsNumber_40 rfl rfl ?_
      refine X_callV (j0 := 0) (rest := []) (stk := []) co_X12_229 rfl ⟨(Nat.le_of_ble_eq_true rfl), (Nat.le_of_ble_eq_true rfl)⟩ (e_X12_nextToken l m x0 x1 x2 (nI (tP f L n)) (tK f L n) wd1 td1 x9 (ex_r x10 :: ex_r x11 :: ex_r x12 :: ex_r x13 :: ex_r x14 :: ex_r x15 :: ex_r x16 :: ex_r x17 :: ex_r x18 :: ex_r x19 :: ex_r x20 :: ex_r x21 :: ex_r x22 :: ex_r x23 :: ex_r x24 :: ex_r x25 :: ex_i x26 :: ex_i x27 :: ex_r x28 :: ex_r x29 :: ex_r x30 :: ex_r x31 :: ex_r x32 :: ex_r x33 :: ex_r x34 :: ex_r x35 :: ex_r x36 :: ex_r x37 :: ex_r x38 :: ex_r x39 :: ex_i td1 :: ex_j x41 :: F) f L (tN f L n) hL (tN_le hn)) dX12_needsNumber_41 [0, 1] (show List.Perm [0, 1] (List.range 2) from by decide) rfl rfl rfl rfl (Nat.le_of_ble_eq_true rfl) (fun cs1 r hq hk => ?_)
      rcases hq with ⟨wd1_4, td1_5, hp_6, hp_7, rfl, rfl⟩
      refine X_iconst (v := 1) dX12_needsNumber_44 (by decide) ?_
      exact X_iret ex_nZ rfl dX12_needsNumber_45 rfl (Or.inl ⟨wd1_4, td1_5, (tN f L n), td1, (by unfold sNum; rw [if_pos c_1, ← j2 c_1, if_pos hp_2]), hp_6, hp_7, (tN_le hn), rfl, rfl⟩)
    · refine X_if_ne (tgt := 32) dX12_needsNumber_23 (by decide) (fun c_ => absurd rfl c_) (fun _ => ?_)
      refine X_aload_n (j := 0) dX12_needsNumber_26 rfl rfl ?_
      refine X_iconst (v := 4) dX12_needsNumber_27 (by decide) ?_
      refine X_callV (j0 := 0) (rest := [(x2, ex_a 1 1000 f)]) (stk := []) co_X12_222 rfl ⟨(Nat.le_of_ble_eq_true rfl), (Nat.le_of_ble_eq_true rfl)⟩ (e_X12_fails l m x0 x1 x2 (nI L) (nI (tN f L n)) (nI (tP f L n)) (tK f L n) wd1 td1 x9 (ex_r x10 :: ex_r x11 :: ex_r x12 :: ex_r x13 :: ex_r x14 :: ex_r x15 :: ex_r x16 :: ex_r x17 :: ex_r x18 :: ex_r x19 :: ex_r x20 :: ex_r x21 :: ex_r x22 :: ex_r x23 :: ex_r x24 :: ex_r x25 :: ex_i x26 :: ex_i x27 :: ex_r x28 :: ex_r x29 :: ex_r x30 :: ex_r x31 :: ex_r x32 :: ex_r x33 :: ex_r x34 :: ex_r x35 :: ex_r x36 :: ex_r x37 :: ex_r x38 :: ex_r x39 :: ex_i x40 :: ex_j x41 :: F) 4) dX12_needsNumber_28 [0, 1] (show List.Perm [0, 1] (List.range 2) from by decide) rfl rfl rfl rfl (Nat.le_of_ble_eq_true rfl) (fun cs1 r hq hk => ?_)
      rcases hq with ⟨rfl, rfl⟩
      exact X_iret ex_nZ rfl dX12_needsNumber_31 rfl (Or.inr ⟨(nI (tN f L n)), (nI (tP f L n)), (tK f L n), td1, (4 + 16 * (nI (tP f L n))), x40, wd1, x41, (by unfold sNum; rw [if_pos c_1, ← j2 c_1, if_neg hp_3]; rfl), rfl, rfl⟩)
  · refine X_aload_n (j := 0) dX12_needsNumber_8 rfl rfl ?_
    refine X_iconst (v := 1) dX12_needsNumber_9 (by decide) ?_
    refine X_callV (j0 := 0) (rest := [(x2, ex_a 1 1000 f)]) (stk := []) co_X12_222 rfl ⟨(Nat.le_of_ble_eq_true rfl), (Nat.le_of_ble_eq_true rfl)⟩ (e_X12_fails l m x0 x1 x2 (nI L) (nI (tN f L n)) (nI (tP f L n)) (tK f L n) wd1 td1 x9 (ex_r x10 :: ex_r x11 :: ex_r x12 :: ex_r x13 :: ex_r x14 :: ex_r x15 :: ex_r x16 :: ex_r x17 :: ex_r x18 :: ex_r x19 :: ex_r x20 :: ex_r x21 :: ex_r x22 :: ex_r x23 :: ex_r x24 :: ex_r x25 :: ex_i x26 :: ex_i x27 :: ex_r x28 :: ex_r x29 :: ex_r x30 :: ex_r x31 :: ex_r x32 :: ex_r x33 :: ex_r x34 :: ex_r x35 :: ex_r x36 :: ex_r x37 :: ex_r x38 :: ex_r x39 :: ex_i x40 :: ex_j x41 :: F) 1) dX12_needsNumber_10 [0, 1] (show List.Perm [0, 1] (List.range 2) from by decide) rfl rfl rfl rfl (Nat.le_of_ble_eq_true rfl) (fun cs1 r hq hk => ?_)
    rcases hq with ⟨rfl, rfl⟩
    exact X_iret ex_nZ rfl dX12_needsNumber_13 rfl (Or.inr ⟨(nI (tN f L n)), (nI (tP f L n)), (tK f L n), td1, (1 + 16 * (nI (tP f L n))), x40, wd1, x41, (by unfold sNum; rw [if_neg c_1]; rfl), rfl, rfl⟩)

set_option maxHeartbeats 4000000 in
set_option maxRecDepth 100000 in
theorem e_X12_needsWord (l : Launch) (m : Nat) (x0 : Int32) (x1 : Int32) (x2 : Nat) (x9 : Int32) (x10 : Nat) (x11 : Nat) (x12 : Nat) (x13 : Nat) (x14 : Nat) (x15 : Nat) (x16 : Nat) (x17 : Nat) (x18 : Nat) (x19 : Nat) (x20 : Nat) (x21 : Nat) (x22 : Nat) (x23 : Nat) (x24 : Nat) (x25 : Nat) (x26 : Int32) (x27 : Int32) (x28 : Nat) (x29 : Nat) (x30 : Nat) (x31 : Nat) (x32 : Nat) (x33 : Nat) (x34 : Nat) (x35 : Nat) (x36 : Nat) (x37 : Nat) (x38 : Nat) (x39 : Nat) (x40 : Int32) (x41 : Int64) (F : List MV) (wd1 : Int64) (td1 : Int32) (f : Nat → Int32) (L : Nat) (n : Nat) (wq : Int64) (c3 : Int64) (hL : L ≤ 1000) (hn : n ≤ L) (j1 : tK f L n = 1 → wd1 = rW f L n) (j2 : tK f L n = 2 → td1 = tV f L n) (h3 : cvt c3 = wq) (h4 : bkt wq = c3) : ex_M l yX12_needsWord cX12_needsWord 3 (some .boolean) 2 42 [ex_r m, ex_j wq] [(m, ex_o 12 (ex_i x0 :: ex_i x1 :: ex_r x2 :: ex_i (nI L) :: ex_i (nI (tN f L n)) :: ex_i (nI (tP f L n)) :: ex_i (tK f L n) :: ex_j wd1 :: ex_i td1 :: ex_i x9 :: ex_r x10 :: ex_r x11 :: ex_r x12 :: ex_r x13 :: ex_r x14 :: ex_r x15 :: ex_r x16 :: ex_r x17 :: ex_r x18 :: ex_r x19 :: ex_r x20 :: ex_r x21 :: ex_r x22 :: ex_r x23 :: ex_r x24 :: ex_r x25 :: ex_i x26 :: ex_i x27 :: ex_r x28 :: ex_r x29 :: ex_r x30 :: ex_r x31 :: ex_r x32 :: ex_r x33 :: ex_r x34 :: ex_r x35 :: ex_r x36 :: ex_r x37 :: ex_r x38 :: ex_r x39 :: ex_i x40 :: ex_j x41 :: F)), (x2, ex_a 1 1000 f)] (fun cs r => (∃ (wd2 : Int64), ∃ (td2 : Int32), ∃ (n2 : Nat), sWord f L c3 n = .inr n2 ∧ (tK f L n2 = 1 → wd2 = rW f L n2) ∧ (tK f L n2 = 2 → td2 = tV f L n2) ∧ n2 ≤ L ∧ cs = [(m, ex_o 12 (ex_i x0 :: ex_i x1 :: ex_r x2 :: ex_i (nI L) :: ex_i (nI (tN f L n2)) :: ex_i (nI (tP f L n2)) :: ex_i (tK f L n2) :: ex_j wd2 :: ex_i td2 :: ex_i x9 :: ex_r x10 :: ex_r x11 :: ex_r x12 :: ex_r x13 :: ex_r x14 :: ex_r x15 :: ex_r x16 :: ex_r x17 :: ex_r x18 :: ex_r x19 :: ex_r x20 :: ex_r x21 :: ex_r x22 :: ex_r x23 :: ex_r x24 :: ex_r x25 :: ex_i x26 :: ex_i x27 :: ex_r x28 :: ex_r x29 :: ex_r x30 :: ex_r x31 :: ex_r x32 :: ex_r x33 :: ex_r x34 :: ex_r x35 :: ex_r x36 :: ex_r x37 :: ex_r x38 :: ex_r x39 :: ex_i x40 :: ex_j x41 :: F)), (x2, ex_a 1 1000 f)] ∧ r = some (ex_i 1)) ∨ (∃ (pl2 : Int32), ∃ (bg2 : Int32), ∃ (tk2 : Int32), ∃ (td2 : Int32), ∃ (fa2 : Int32), ∃ (gv2 : Int32), ∃ (wd2 : Int64), ∃ (fr2 : Int64), sWord f L c3 n = .inl fa2 ∧ cs = [(m, ex_o 12 (ex_i x0 :: ex_i x1 :: ex_r x2 :: ex_i (nI L) :: ex_i pl2 :: ex_i bg2 :: ex_i tk2 :: ex_j wd2 :: ex_i td2 :: ex_i fa2 :: ex_r x10 :: ex_r x11 :: ex_r x12 :: ex_r x13 :: ex_r x14 :: ex_r x15 :: ex_r x16 :: ex_r x17 :: ex_r x18 :: ex_r x19 :: ex_r x20 :: ex_r x21 :: ex_r x22 :: ex_r x23 :: ex_r x24 :: ex_r x25 :: ex_i x26 :: ex_i x27 :: ex_r x28 :: ex_r x29 :: ex_r x30 :: ex_r x31 :: ex_r x32 :: ex_r x33 :: ex_r x34 :: ex_r x35 :: ex_r x36 :: ex_r x37 :: ex_r x38 :: ex_r x39 :: ex_i gv2 :: ex_j fr2 :: F)), (x2, ex_a 1 1000 f)] ∧ r = some (ex_i 0))) := by
  refine X_meth (by decide) (Nat.le_of_ble_eq_true rfl) ?_
  refine X_aload_n (j := 0) dX12_needsWord_0 rfl rfl ?_
  refine X_lload_n (j := 1) dX12_needsWord_1 rfl rfl ?_
  refine X_callV (j0 := 0) (rest := [(x2, ex_a 1 1000 f)]) (stk := []) co_X12_214 rfl ⟨(Nat.le_of_ble_eq_true rfl), (Nat.le_of_ble_eq_true rfl)⟩ (e_X12_isWord l m x0 x1 x2 (nI L) (nI (tN f L n)) (nI (tP f L n)) (tK f L n) wd1 td1 x9 (ex_r x10 :: ex_r x11 :: ex_r x12 :: ex_r x13 :: ex_r x14 :: ex_r x15 :: ex_r x16 :: ex_r x17 :: ex_r x18 :: ex_r x19 :: ex_r x20 :: ex_r x21 :: ex_r x22 :: ex_r x23 :: ex_r x24 :: ex_r x25 :: ex_i x26 :: ex_i x27 :: ex_r x28 :: ex_r x29 :: ex_r x30 :: ex_r x31 :: ex_r x32 :: ex_r x33 :: ex_r x34 :: ex_r x35 :: ex_r x36 :: ex_r x37 :: ex_r x38 :: ex_r x39 :: ex_i x40 :: ex_j x41 :: F) wq) dX12_needsWord_2 [0, 1] (show List.Perm [0, 1] (List.range 2) from by decide) rfl rfl rfl rfl (Nat.le_of_ble_eq_true rfl) (fun cs1 r hq hk => ?_)
  rcases hq with ⟨hp_1, rfl, rfl⟩ | ⟨hp_2, rfl, rfl⟩
  · refine X_if_ne (tgt := 14) dX12_needsWord_5 (by decide) (fun _ => ?_) (fun c_ => absurd c_ (by decide))
    refine X_aload_n (j := 0) dX12_needsWord_14 rfl rfl ?_
    refine X_callV (j0 := 0) (rest := []) (stk := []) co_X12_229 rfl ⟨(Nat.le_of_ble_eq_true rfl), (Nat.le_of_ble_eq_true rfl)⟩ (e_X12_nextToken l m x0 x1 x2 (nI (tP f L n)) (tK f L n) wd1 td1 x9 (ex_r x10 :: ex_r x11 :: ex_r x12 :: ex_r x13 :: ex_r x14 :: ex_r x15 :: ex_r x16 :: ex_r x17 :: ex_r x18 :: ex_r x19 :: ex_r x20 :: ex_r x21 :: ex_r x22 :: ex_r x23 :: ex_r x24 :: ex_r x25 :: ex_i x26 :: ex_i x27 :: ex_r x28 :: ex_r x29 :: ex_r x30 :: ex_r x31 :: ex_r x32 :: ex_r x33 :: ex_r x34 :: ex_r x35 :: ex_r x36 :: ex_r x37 :: ex_r x38 :: ex_r x39 :: ex_i x40 :: ex_j x41 :: F) f L (tN f L n) hL (tN_le hn)) dX12_needsWord_15 [0, 1] (show List.Perm [0, 1] (List.range 2) from by decide) rfl rfl rfl rfl (Nat.le_of_ble_eq_true rfl) (fun cs1 r hq hk => ?_)
    rcases hq with ⟨wd1_3, td1_4, hp_5, hp_6, rfl, rfl⟩
    refine X_iconst (v := 1) dX12_needsWord_18 (by decide) ?_
    exact X_iret ex_nZ rfl dX12_needsWord_19 rfl (Or.inl ⟨wd1_3, td1_4, (tN f L n), (by unfold sWord; rw [if_pos ⟨hp_1.1, (rW_iff hp_1.1 h3 h4).mp (by rw [← j1 hp_1.1]; exact hp_1.2)⟩]), hp_5, hp_6, (tN_le hn), rfl, rfl⟩)
  · refine X_if_ne (tgt := 14) dX12_needsWord_5 (by decide) (fun c_ => absurd rfl c_) (fun _ => ?_)
    refine X_aload_n (j := 0) dX12_needsWord_8 rfl rfl ?_
    refine X_iconst (v := 1) dX12_needsWord_9 (by decide) ?_
    refine X_callV (j0 := 0) (rest := [(x2, ex_a 1 1000 f)]) (stk := []) co_X12_222 rfl ⟨(Nat.le_of_ble_eq_true rfl), (Nat.le_of_ble_eq_true rfl)⟩ (e_X12_fails l m x0 x1 x2 (nI L) (nI (tN f L n)) (nI (tP f L n)) (tK f L n) wd1 td1 x9 (ex_r x10 :: ex_r x11 :: ex_r x12 :: ex_r x13 :: ex_r x14 :: ex_r x15 :: ex_r x16 :: ex_r x17 :: ex_r x18 :: ex_r x19 :: ex_r x20 :: ex_r x21 :: ex_r x22 :: ex_r x23 :: ex_r x24 :: ex_r x25 :: ex_i x26 :: ex_i x27 :: ex_r x28 :: ex_r x29 :: ex_r x30 :: ex_r x31 :: ex_r x32 :: ex_r x33 :: ex_r x34 :: ex_r x35 :: ex_r x36 :: ex_r x37 :: ex_r x38 :: ex_r x39 :: ex_i x40 :: ex_j x41 :: F) 1) dX12_needsWord_10 [0, 1] (show List.Perm [0, 1] (List.range 2) from by decide) rfl rfl rfl rfl (Nat.le_of_ble_eq_true rfl) (fun cs1 r hq hk => ?_)
    rcases hq with ⟨rfl, rfl⟩
    exact X_iret ex_nZ rfl dX12_needsWord_13 rfl (Or.inr ⟨(nI (tN f L n)), (nI (tP f L n)), (tK f L n), td1, (1 + 16 * (nI (tP f L n))), x40, wd1, x41, (by unfold sWord; rw [if_neg (fun q => hp_2 ⟨q.1, by rw [j1 q.1]; exact (rW_iff q.1 h3 h4).mpr q.2⟩)]; rfl), rfl, rfl⟩)

set_option maxHeartbeats 4000000 in
set_option maxRecDepth 100000 in
theorem e_X12_needsBoth (l : Launch) (m : Nat) (x0 : Int32) (x1 : Int32) (x2 : Nat) (x9 : Int32) (x10 : Nat) (x11 : Nat) (x12 : Nat) (x13 : Nat) (x14 : Nat) (x15 : Nat) (x16 : Nat) (x17 : Nat) (x18 : Nat) (x19 : Nat) (x20 : Nat) (x21 : Nat) (x22 : Nat) (x23 : Nat) (x24 : Nat) (x25 : Nat) (x26 : Int32) (x27 : Int32) (x28 : Nat) (x29 : Nat) (x30 : Nat) (x31 : Nat) (x32 : Nat) (x33 : Nat) (x34 : Nat) (x35 : Nat) (x36 : Nat) (x37 : Nat) (x38 : Nat) (x39 : Nat) (x40 : Int32) (x41 : Int64) (F : List MV) (wd1 : Int64) (td1 : Int32) (f : Nat → Int32) (L : Nat) (n : Nat) (wq : Int64) (c3 : Int64) (lo : Int32) (hi : Int32) (hL : L ≤ 1000) (hn : n ≤ L) (j1 : tK f L n = 1 → wd1 = rW f L n) (j2 : tK f L n = 2 → td1 = tV f L n) (h3 : cvt c3 = wq) (h4 : bkt wq = c3) : ex_M l yX12_needsBoth cX12_needsBoth 5 (some .boolean) 3 64 [ex_r m, ex_j wq, ex_i lo, ex_i hi] [(m, ex_o 12 (ex_i x0 :: ex_i x1 :: ex_r x2 :: ex_i (nI L) :: ex_i (nI (tN f L n)) :: ex_i (nI (tP f L n)) :: ex_i (tK f L n) :: ex_j wd1 :: ex_i td1 :: ex_i x9 :: ex_r x10 :: ex_r x11 :: ex_r x12 :: ex_r x13 :: ex_r x14 :: ex_r x15 :: ex_r x16 :: ex_r x17 :: ex_r x18 :: ex_r x19 :: ex_r x20 :: ex_r x21 :: ex_r x22 :: ex_r x23 :: ex_r x24 :: ex_r x25 :: ex_i x26 :: ex_i x27 :: ex_r x28 :: ex_r x29 :: ex_r x30 :: ex_r x31 :: ex_r x32 :: ex_r x33 :: ex_r x34 :: ex_r x35 :: ex_r x36 :: ex_r x37 :: ex_r x38 :: ex_r x39 :: ex_i x40 :: ex_j x41 :: F)), (x2, ex_a 1 1000 f)] (fun cs r => (∃ (wd2 : Int64), ∃ (td2 : Int32), ∃ (n2 : Nat), ∃ (gv2 : Int32), sB2 f L c3 lo hi n = .inr (n2, gv2) ∧ (tK f L n2 = 1 → wd2 = rW f L n2) ∧ (tK f L n2 = 2 → td2 = tV f L n2) ∧ n2 ≤ L ∧ cs = [(m, ex_o 12 (ex_i x0 :: ex_i x1 :: ex_r x2 :: ex_i (nI L) :: ex_i (nI (tN f L n2)) :: ex_i (nI (tP f L n2)) :: ex_i (tK f L n2) :: ex_j wd2 :: ex_i td2 :: ex_i x9 :: ex_r x10 :: ex_r x11 :: ex_r x12 :: ex_r x13 :: ex_r x14 :: ex_r x15 :: ex_r x16 :: ex_r x17 :: ex_r x18 :: ex_r x19 :: ex_r x20 :: ex_r x21 :: ex_r x22 :: ex_r x23 :: ex_r x24 :: ex_r x25 :: ex_i x26 :: ex_i x27 :: ex_r x28 :: ex_r x29 :: ex_r x30 :: ex_r x31 :: ex_r x32 :: ex_r x33 :: ex_r x34 :: ex_r x35 :: ex_r x36 :: ex_r x37 :: ex_r x38 :: ex_r x39 :: ex_i gv2 :: ex_j x41 :: F)), (x2, ex_a 1 1000 f)] ∧ r = some (ex_i 1)) ∨ (∃ (pl2 : Int32), ∃ (bg2 : Int32), ∃ (tk2 : Int32), ∃ (td2 : Int32), ∃ (fa2 : Int32), ∃ (gv2 : Int32), ∃ (wd2 : Int64), ∃ (fr2 : Int64), sB2 f L c3 lo hi n = .inl fa2 ∧ cs = [(m, ex_o 12 (ex_i x0 :: ex_i x1 :: ex_r x2 :: ex_i (nI L) :: ex_i pl2 :: ex_i bg2 :: ex_i tk2 :: ex_j wd2 :: ex_i td2 :: ex_i fa2 :: ex_r x10 :: ex_r x11 :: ex_r x12 :: ex_r x13 :: ex_r x14 :: ex_r x15 :: ex_r x16 :: ex_r x17 :: ex_r x18 :: ex_r x19 :: ex_r x20 :: ex_r x21 :: ex_r x22 :: ex_r x23 :: ex_r x24 :: ex_r x25 :: ex_i x26 :: ex_i x27 :: ex_r x28 :: ex_r x29 :: ex_r x30 :: ex_r x31 :: ex_r x32 :: ex_r x33 :: ex_r x34 :: ex_r x35 :: ex_r x36 :: ex_r x37 :: ex_r x38 :: ex_r x39 :: ex_i gv2 :: ex_j fr2 :: F)), (x2, ex_a 1 1000 f)] ∧ r = some (ex_i 0))) := by
  refine X_meth (by decide) (Nat.le_of_ble_eq_true rfl) ?_
  refine X_aload_n (j := 0) dX12_needsBoth_0 rfl rfl ?_
  refine X_lload_n (j := 1) dX12_needsBoth_1 rfl rfl ?_
  refine X_callV (j0 := 0) (rest := []) (stk := []) co_X12_300 rfl ⟨(Nat.le_of_ble_eq_true rfl), (Nat.le_of_ble_eq_true rfl)⟩ (e_X12_needsWord l m x0 x1 x2 x9 x10 x11 x12 x13 x14 x15 x16 x17 x18 x19 x20 x21 x22 x23 x24 x25 x26 x27 x28 x29 x30 x31 x32 x33 x34 x35 x36 x37 x38 x39 x40 x41 F wd1 td1 f L n wq c3 hL hn j1 j2 h3 h4) dX12_needsBoth_2 [0, 1] (show List.Perm [0, 1] (List.range 2) from by decide) rfl rfl rfl rfl (Nat.le_of_ble_eq_true rfl) (fun cs1 r hq hk => ?_)
  rcases hq with ⟨wd2_1, td2_2, n2_3, hp_4, hp_5, hp_6, hp_7, rfl, rfl⟩ | ⟨pl2_8, bg2_9, tk2_10, td2_11, fa2_12, gv2_13, wd2_14, fr2_15, hp_16, rfl, rfl⟩
  · refine X_if_eq (tgt := 22) dX12_needsBoth_5 (by decide) (fun c_ => absurd c_ (by decide)) (fun _ => ?_)
    refine X_aload_n (j := 0) dX12_needsBoth_8 rfl rfl ?_
    refine X_iload_n (j := 2) dX12_needsBoth_9 rfl rfl ?_
    refine X_iload (j := 3) dX12_needsBoth_10 rfl ?_
    refine X_callV (j0 := 0) (rest := []) (stk := []) co_X12_303 rfl ⟨(Nat.le_of_ble_eq_true rfl), (Nat.le_of_ble_eq_true rfl)⟩ (e_X12_needsNumber l m x0 x1 x2 x9 x10 x11 x12 x13 x14 x15 x16 x17 x18 x19 x20 x21 x22 x23 x24 x25 x26 x27 x28 x29 x30 x31 x32 x33 x34 x35 x36 x37 x38 x39 x40 x41 F wd2_1 td2_2 f L n2_3 lo hi hL hp_7 hp_5 hp_6) dX12_needsBoth_12 [0, 1] (show List.Perm [0, 1] (List.range 2) from by decide) rfl rfl rfl rfl (Nat.le_of_ble_eq_true rfl) (fun cs1 r hq hk => ?_)
    rcases hq with ⟨wd2_17, td2_18, n2_19, gv2_20, hp_21, hp_22, hp_23, hp_24, rfl, rfl⟩ | ⟨pl2_25, bg2_26, tk2_27, td2_28, fa2_29, gv2_30, wd2_31, fr2_32, hp_33, rfl, rfl⟩
    · refine X_if_eq (tgt := 22) dX12_needsBoth_15 (by decide) (fun c_ => absurd c_ (by decide)) (fun _ => ?_)
      refine X_iconst (v := 1) dX12_needsBoth_18 (by decide) ?_
      refine X_goto (tgt := 23) dX12_needsBoth_19 (by decide) ?_
      exact X_iret ex_nZ rfl dX12_needsBoth_23 rfl (Or.inl ⟨wd2_17, td2_18, n2_19, gv2_20, (by unfold sB2; rw [hp_4]; exact hp_21), hp_22, hp_23, hp_24, rfl, rfl⟩)
    · refine X_if_eq (tgt := 22) dX12_needsBoth_15 (by decide) (fun _ => ?_) (fun c_ => absurd rfl c_)
      refine X_iconst (v := 0) dX12_needsBoth_22 (by decide) ?_
      exact X_iret ex_nZ rfl dX12_needsBoth_23 rfl (Or.inr ⟨pl2_25, bg2_26, tk2_27, td2_28, fa2_29, gv2_30, wd2_31, fr2_32, (by unfold sB2; rw [hp_4]; exact hp_33), rfl, rfl⟩)
  · refine X_if_eq (tgt := 22) dX12_needsBoth_5 (by decide) (fun _ => ?_) (fun c_ => absurd rfl c_)
    refine X_iconst (v := 0) dX12_needsBoth_22 (by decide) ?_
    exact X_iret ex_nZ rfl dX12_needsBoth_23 rfl (Or.inr ⟨pl2_8, bg2_9, tk2_10, td2_11, fa2_12, gv2_13, wd2_14, fr2_15, (by unfold sB2; rw [hp_16]), rfl, rfl⟩)

set_option maxHeartbeats 4000000 in
set_option maxRecDepth 100000 in
theorem e_X12_closes (l : Launch) (m : Nat) (x0 : Int32) (x1 : Int32) (x2 : Nat) (x9 : Int32) (x10 : Nat) (x11 : Nat) (x12 : Nat) (x13 : Nat) (x14 : Nat) (x15 : Nat) (x16 : Nat) (x17 : Nat) (x18 : Nat) (x19 : Nat) (x20 : Nat) (x21 : Nat) (x22 : Nat) (x23 : Nat) (x24 : Nat) (x25 : Nat) (x26 : Int32) (x27 : Int32) (x28 : Nat) (x29 : Nat) (x30 : Nat) (x31 : Nat) (x32 : Nat) (x33 : Nat) (x34 : Nat) (x35 : Nat) (x36 : Nat) (x37 : Nat) (x38 : Nat) (x39 : Nat) (x40 : Int32) (x41 : Int64) (F : List MV) (wd1 : Int64) (td1 : Int32) (f : Nat → Int32) (L : Nat) (n : Nat) (hL : L ≤ 1000) (hn : n ≤ L) (j1 : tK f L n = 1 → wd1 = rW f L n) (j2 : tK f L n = 2 → td1 = tV f L n) : ex_M l yX12_closes cX12_closes 1 (some .boolean) 2 42 [ex_r m] [(m, ex_o 12 (ex_i x0 :: ex_i x1 :: ex_r x2 :: ex_i (nI L) :: ex_i (nI (tN f L n)) :: ex_i (nI (tP f L n)) :: ex_i (tK f L n) :: ex_j wd1 :: ex_i td1 :: ex_i x9 :: ex_r x10 :: ex_r x11 :: ex_r x12 :: ex_r x13 :: ex_r x14 :: ex_r x15 :: ex_r x16 :: ex_r x17 :: ex_r x18 :: ex_r x19 :: ex_r x20 :: ex_r x21 :: ex_r x22 :: ex_r x23 :: ex_r x24 :: ex_r x25 :: ex_i x26 :: ex_i x27 :: ex_r x28 :: ex_r x29 :: ex_r x30 :: ex_r x31 :: ex_r x32 :: ex_r x33 :: ex_r x34 :: ex_r x35 :: ex_r x36 :: ex_r x37 :: ex_r x38 :: ex_r x39 :: ex_i x40 :: ex_j x41 :: F)), (x2, ex_a 1 1000 f)] (fun cs r => (∃ (wd2 : Int64), ∃ (td2 : Int32), ∃ (n2 : Nat), sEnd f L n = .inr n2 ∧ (tK f L n2 = 1 → wd2 = rW f L n2) ∧ (tK f L n2 = 2 → td2 = tV f L n2) ∧ n2 ≤ L ∧ cs = [(m, ex_o 12 (ex_i x0 :: ex_i x1 :: ex_r x2 :: ex_i (nI L) :: ex_i (nI (tN f L n2)) :: ex_i (nI (tP f L n2)) :: ex_i (tK f L n2) :: ex_j wd2 :: ex_i td2 :: ex_i x9 :: ex_r x10 :: ex_r x11 :: ex_r x12 :: ex_r x13 :: ex_r x14 :: ex_r x15 :: ex_r x16 :: ex_r x17 :: ex_r x18 :: ex_r x19 :: ex_r x20 :: ex_r x21 :: ex_r x22 :: ex_r x23 :: ex_r x24 :: ex_r x25 :: ex_i x26 :: ex_i x27 :: ex_r x28 :: ex_r x29 :: ex_r x30 :: ex_r x31 :: ex_r x32 :: ex_r x33 :: ex_r x34 :: ex_r x35 :: ex_r x36 :: ex_r x37 :: ex_r x38 :: ex_r x39 :: ex_i x40 :: ex_j x41 :: F)), (x2, ex_a 1 1000 f)] ∧ r = some (ex_i 1)) ∨ (∃ (pl2 : Int32), ∃ (bg2 : Int32), ∃ (tk2 : Int32), ∃ (td2 : Int32), ∃ (fa2 : Int32), ∃ (gv2 : Int32), ∃ (wd2 : Int64), ∃ (fr2 : Int64), sEnd f L n = .inl fa2 ∧ cs = [(m, ex_o 12 (ex_i x0 :: ex_i x1 :: ex_r x2 :: ex_i (nI L) :: ex_i pl2 :: ex_i bg2 :: ex_i tk2 :: ex_j wd2 :: ex_i td2 :: ex_i fa2 :: ex_r x10 :: ex_r x11 :: ex_r x12 :: ex_r x13 :: ex_r x14 :: ex_r x15 :: ex_r x16 :: ex_r x17 :: ex_r x18 :: ex_r x19 :: ex_r x20 :: ex_r x21 :: ex_r x22 :: ex_r x23 :: ex_r x24 :: ex_r x25 :: ex_i x26 :: ex_i x27 :: ex_r x28 :: ex_r x29 :: ex_r x30 :: ex_r x31 :: ex_r x32 :: ex_r x33 :: ex_r x34 :: ex_r x35 :: ex_r x36 :: ex_r x37 :: ex_r x38 :: ex_r x39 :: ex_i gv2 :: ex_j fr2 :: F)), (x2, ex_a 1 1000 f)] ∧ r = some (ex_i 0))) := by
  refine X_meth (by decide) (Nat.le_of_ble_eq_true rfl) ?_
  refine X_aload_n (j := 0) dX12_closes_0 rfl rfl ?_
  refine X_bipush (v := 59) dX12_closes_1 (by decide) ?_
  refine X_callV (j0 := 0) (rest := []) (stk := []) co_X12_218 rfl ⟨(Nat.le_of_ble_eq_true rfl), (Nat.le_of_ble_eq_true rfl)⟩ (e_X12_isSign l m x0 x1 x2 (nI (tN f L n)) (tK f L n) wd1 td1 x9 (ex_r x10 :: ex_r x11 :: ex_r x12 :: ex_r x13 :: ex_r x14 :: ex_r x15 :: ex_r x16 :: ex_r x17 :: ex_r x18 :: ex_r x19 :: ex_r x20 :: ex_r x21 :: ex_r x22 :: ex_r x23 :: ex_r x24 :: ex_r x25 :: ex_i x26 :: ex_i x27 :: ex_r x28 :: ex_r x29 :: ex_r x30 :: ex_r x31 :: ex_r x32 :: ex_r x33 :: ex_r x34 :: ex_r x35 :: ex_r x36 :: ex_r x37 :: ex_r x38 :: ex_r x39 :: ex_i x40 :: ex_j x41 :: F) f L (tP f L n) 59 (fun q => Nat.lt_of_lt_of_le (tK3_lt q) hL)) dX12_closes_3 [0, 1] (show List.Perm [0, 1] (List.range 2) from by decide) rfl rfl rfl rfl (Nat.le_of_ble_eq_true rfl) (fun cs1 r hq hk => ?_)
  rcases hq with ⟨hp_1, rfl, rfl⟩ | ⟨hp_2, rfl, rfl⟩
  · refine X_if_ne (tgt := 15) dX12_closes_6 (by decide) (fun _ => ?_) (fun c_ => absurd c_ (by decide))
    refine X_aload_n (j := 0) dX12_closes_15 rfl rfl ?_
    refine X_callV (j0 := 0) (rest := []) (stk := []) co_X12_229 rfl ⟨(Nat.le_of_ble_eq_true rfl), (Nat.le_of_ble_eq_true rfl)⟩ (e_X12_nextToken l m x0 x1 x2 (nI (tP f L n)) (tK f L n) wd1 td1 x9 (ex_r x10 :: ex_r x11 :: ex_r x12 :: ex_r x13 :: ex_r x14 :: ex_r x15 :: ex_r x16 :: ex_r x17 :: ex_r x18 :: ex_r x19 :: ex_r x20 :: ex_r x21 :: ex_r x22 :: ex_r x23 :: ex_r x24 :: ex_r x25 :: ex_i x26 :: ex_i x27 :: ex_r x28 :: ex_r x29 :: ex_r x30 :: ex_r x31 :: ex_r x32 :: ex_r x33 :: ex_r x34 :: ex_r x35 :: ex_r x36 :: ex_r x37 :: ex_r x38 :: ex_r x39 :: ex_i x40 :: ex_j x41 :: F) f L (tN f L n) hL (tN_le hn)) dX12_closes_16 [0, 1] (show List.Perm [0, 1] (List.range 2) from by decide) rfl rfl rfl rfl (Nat.le_of_ble_eq_true rfl) (fun cs1 r hq hk => ?_)
    rcases hq with ⟨wd1_3, td1_4, hp_5, hp_6, rfl, rfl⟩
    refine X_iconst (v := 1) dX12_closes_19 (by decide) ?_
    exact X_iret ex_nZ rfl dX12_closes_20 rfl (Or.inl ⟨wd1_3, td1_4, (tN f L n), (by unfold sEnd; rw [if_pos hp_1]), hp_5, hp_6, (tN_le hn), rfl, rfl⟩)
  · refine X_if_ne (tgt := 15) dX12_closes_6 (by decide) (fun c_ => absurd rfl c_) (fun _ => ?_)
    refine X_aload_n (j := 0) dX12_closes_9 rfl rfl ?_
    refine X_iconst (v := 1) dX12_closes_10 (by decide) ?_
    refine X_callV (j0 := 0) (rest := [(x2, ex_a 1 1000 f)]) (stk := []) co_X12_222 rfl ⟨(Nat.le_of_ble_eq_true rfl), (Nat.le_of_ble_eq_true rfl)⟩ (e_X12_fails l m x0 x1 x2 (nI L) (nI (tN f L n)) (nI (tP f L n)) (tK f L n) wd1 td1 x9 (ex_r x10 :: ex_r x11 :: ex_r x12 :: ex_r x13 :: ex_r x14 :: ex_r x15 :: ex_r x16 :: ex_r x17 :: ex_r x18 :: ex_r x19 :: ex_r x20 :: ex_r x21 :: ex_r x22 :: ex_r x23 :: ex_r x24 :: ex_r x25 :: ex_i x26 :: ex_i x27 :: ex_r x28 :: ex_r x29 :: ex_r x30 :: ex_r x31 :: ex_r x32 :: ex_r x33 :: ex_r x34 :: ex_r x35 :: ex_r x36 :: ex_r x37 :: ex_r x38 :: ex_r x39 :: ex_i x40 :: ex_j x41 :: F) 1) dX12_closes_11 [0, 1] (show List.Perm [0, 1] (List.range 2) from by decide) rfl rfl rfl rfl (Nat.le_of_ble_eq_true rfl) (fun cs1 r hq hk => ?_)
    rcases hq with ⟨rfl, rfl⟩
    exact X_iret ex_nZ rfl dX12_closes_14 rfl (Or.inr ⟨(nI (tN f L n)), (nI (tP f L n)), (tK f L n), td1, (1 + 16 * (nI (tP f L n))), x40, wd1, x41, (by unfold sEnd; rw [if_neg hp_2]; rfl), rfl, rfl⟩)

set_option maxHeartbeats 4000000 in
set_option maxRecDepth 100000 in
theorem e_X12_personNamed (l : Launch) (m : Nat) (x0 : Int32) (x1 : Int32) (x2 : Nat) (x3 : Int32) (x4 : Int32) (x5 : Int32) (x6 : Int32) (x7 : Int64) (x8 : Int32) (x9 : Int32) (x10 : Nat) (x11 : Nat) (x12 : Nat) (x13 : Nat) (x14 : Nat) (x15 : Nat) (x16 : Nat) (x17 : Nat) (x18 : Nat) (x19 : Nat) (x20 : Nat) (x21 : Nat) (x22 : Nat) (x23 : Nat) (x24 : Nat) (x25 : Nat) (x26 : Int32) (x27 : Int32) (x28 : Nat) (x29 : Nat) (x30 : Nat) (x31 : Nat) (x32 : Nat) (x33 : Nat) (x34 : Nat) (x35 : Nat) (x36 : Nat) (x37 : Nat) (x38 : Nat) (x39 : Nat) (x40 : Int32) (x41 : Int64) (F : List MV) (ho : Nat → Int32) (rp : Nat → Int64) (np : Nat) (hh : ho 5 = nI np) (hc : np ≤ 6) : ex_M l yX12_personNamed cX12_personNamed 3 (some .int) 0 0 [ex_r m, ex_i 1] [(m, ex_o 12 (ex_i x0 :: ex_i x1 :: ex_r x2 :: ex_i x3 :: ex_i x4 :: ex_i x5 :: ex_i x6 :: ex_j x7 :: ex_i x8 :: ex_i x9 :: ex_r x10 :: ex_r x11 :: ex_r x12 :: ex_r x13 :: ex_r x14 :: ex_r x15 :: ex_r x16 :: ex_r x17 :: ex_r x18 :: ex_r x19 :: ex_r x20 :: ex_r x21 :: ex_r x22 :: ex_r x23 :: ex_r x24 :: ex_r x25 :: ex_i x26 :: ex_i x27 :: ex_r x28 :: ex_r x29 :: ex_r x30 :: ex_r x31 :: ex_r x32 :: ex_r x33 :: ex_r x34 :: ex_r x35 :: ex_r x36 :: ex_r x37 :: ex_r x38 :: ex_r x39 :: ex_i x40 :: ex_j x41 :: F)), (x10, ex_a 1 10 ho), (x11, ex_b 12 rp)] (fun cs r => (cs = [(m, ex_o 12 (ex_i x0 :: ex_i x1 :: ex_r x2 :: ex_i x3 :: ex_i x4 :: ex_i x5 :: ex_i x6 :: ex_j x7 :: ex_i x8 :: ex_i x9 :: ex_r x10 :: ex_r x11 :: ex_r x12 :: ex_r x13 :: ex_r x14 :: ex_r x15 :: ex_r x16 :: ex_r x17 :: ex_r x18 :: ex_r x19 :: ex_r x20 :: ex_r x21 :: ex_r x22 :: ex_r x23 :: ex_r x24 :: ex_r x25 :: ex_i x26 :: ex_i x27 :: ex_r x28 :: ex_r x29 :: ex_r x30 :: ex_r x31 :: ex_r x32 :: ex_r x33 :: ex_r x34 :: ex_r x35 :: ex_r x36 :: ex_r x37 :: ex_r x38 :: ex_r x39 :: ex_i x40 :: ex_j x41 :: F)), (x10, ex_a 1 10 ho), (x11, ex_b 12 rp)] ∧ r = some (ex_i (pnF (fun q => rp (6 + q)) np x7)))) := by
  refine X_meth (by decide) (Nat.le_of_ble_eq_true rfl) ?_
  refine X_iconst (v := 0) dX12_personNamed_0 (by decide) ?_
  refine X_istore_n (lv' := [(2, ex_i 0), (0, ex_r m), (1, ex_i 1)]) dX12_personNamed_1 rfl (Nat.le_of_ble_eq_true rfl) rfl ?_
  refine X_lv (lv' := [(0, ex_r m), (1, ex_i 1), (2, ex_i 0)]) [1, 2, 0] rfl ?_
  refine X_ind (fun (i : Nat) => i ≤ np ∧ pnF (fun q => rp (6 + q)) np x7 = pnG (fun q => rp (6 + q)) x7 i (np - i)) (fun (i : Nat) => np - i) (fun (i : Nat) => [(m, ex_o 12 (ex_i x0 :: ex_i x1 :: ex_r x2 :: ex_i x3 :: ex_i x4 :: ex_i x5 :: ex_i x6 :: ex_j x7 :: ex_i x8 :: ex_i x9 :: ex_r x10 :: ex_r x11 :: ex_r x12 :: ex_r x13 :: ex_r x14 :: ex_r x15 :: ex_r x16 :: ex_r x17 :: ex_r x18 :: ex_r x19 :: ex_r x20 :: ex_r x21 :: ex_r x22 :: ex_r x23 :: ex_r x24 :: ex_r x25 :: ex_i x26 :: ex_i x27 :: ex_r x28 :: ex_r x29 :: ex_r x30 :: ex_r x31 :: ex_r x32 :: ex_r x33 :: ex_r x34 :: ex_r x35 :: ex_r x36 :: ex_r x37 :: ex_r x38 :: ex_r x39 :: ex_i x40 :: ex_j x41 :: F)), (x10, ex_a 1 10 ho), (x11, ex_b 12 rp)]) (fun (i : Nat) => [(0, ex_r m), (1, ex_i 1), (2, ex_i (nI i))]) (fun i hI ih => ?_) 0 (⟨Nat.zero_le _, rfl⟩)
  try dsimp only at hI ih ⊢
  refine X_iload_n (j := 2) dX12_personNamed_2 rfl rfl ?_
  refine X_aload_n (j := 0) dX12_personNamed_3 rfl rfl ?_
  refine X_get (j := 0) fo_X12_13 dX12_personNamed_4 rfl rfl ?_
  refine X_iconst (v := 5) dX12_personNamed_7 (by decide) ?_
  refine X_iload_n (j := 1) dX12_personNamed_8 rfl rfl ?_
  refine X_imul (v := 5) dX12_personNamed_9 (by decide) ?_
  refine X_iconst (v := 0) dX12_personNamed_10 (by decide) ?_
  refine X_iadd (v := 5) dX12_personNamed_11 (by decide) ?_
  refine X_iald (j := 1) (v := nI np) dX12_personNamed_12 rfl (vin (by decide)) hh ?_
  refine X_icmp_ge (tgt := 43) dX12_personNamed_13 (by decide) (fun c_1 => ?_) (fun c_1 => ?_)
  · refine X_iconst (v := (-1)) dX12_personNamed_43 (by decide) ?_
    exact X_iret ex_nI rfl dX12_personNamed_44 rfl (⟨rfl, (by rw [hI.2, nlex (by omega) hI.1 c_1, Nat.sub_self]; rfl)⟩)
  · have hlt : i < np := nlen (by omega) hI.1 c_1
    have hs : np - i = (np - (i + 1)) + 1 := by omega
    refine X_aload_n (j := 0) dX12_personNamed_16 rfl rfl ?_
    refine X_get (j := 0) fo_X12_16 dX12_personNamed_17 rfl rfl ?_
    refine X_bipush (v := 6) dX12_personNamed_20 (by decide) ?_
    refine X_iload_n (j := 1) dX12_personNamed_22 rfl rfl ?_
    refine X_imul (v := 6) dX12_personNamed_23 (by decide) ?_
    refine X_iload_n (j := 2) dX12_personNamed_24 rfl rfl ?_
    refine X_iadd (v := nI (6 + i)) dX12_personNamed_25 (nI_add 6 i) ?_
    refine X_lald (j := 2) (v := (rp (6 + i))) dX12_personNamed_26 rfl (vp_in_nI (show 6 + i < 12 by omega) (by decide)) (by rw [nI_clamp (by omega)]) ?_
    refine X_aload_n (j := 0) dX12_personNamed_27 rfl rfl ?_
    refine X_get (j := 0) fo_X12_174 dX12_personNamed_28 rfl rfl ?_
    refine X_lcmp (v := (lg_cmp (rp (6 + i)) x7)) dX12_personNamed_31 rfl ?_
    refine X_if_ne (tgt := 37) dX12_personNamed_32 (by decide) (fun c_2 => ?_) (fun c_2 => ?_)
    · refine X_iinc (v := nI (i + 1)) (j := 2) (lv' := [(2, ex_i (nI (i + 1))), (0, ex_r m), (1, ex_i 1)]) dX12_personNamed_37 rfl (nI_1 i) (Nat.le_of_ble_eq_true rfl) rfl ?_
      refine X_goto (tgt := 2) dX12_personNamed_40 (by decide) ?_
      refine X_lv (lv' := [(0, ex_r m), (1, ex_i 1), (2, ex_i (nI (i + 1)))]) [1, 2, 0] rfl ?_
      exact ih (i + 1) (⟨hlt, by rw [hI.2, hs, pnG_n (fun q => c_2 (by rw [show rp (6 + i) = x7 from q]; exact ex_lc1 _))]⟩) (by omega)
    · refine X_iload_n (j := 2) dX12_personNamed_35 rfl rfl ?_
      exact X_iret ex_nI rfl dX12_personNamed_36 rfl (⟨rfl, (by rw [hI.2, hs, pnG_y (F := (fun q => rp (6 + q))) (ex_lc2 c_2)])⟩)

set_option maxHeartbeats 4000000 in
set_option maxRecDepth 100000 in
theorem e_X12_dishNamed (l : Launch) (m : Nat) (x0 : Int32) (x1 : Int32) (x2 : Nat) (x3 : Int32) (x4 : Int32) (x5 : Int32) (x6 : Int32) (x7 : Int64) (x8 : Int32) (x9 : Int32) (x10 : Nat) (x11 : Nat) (x12 : Nat) (x13 : Nat) (x14 : Nat) (x15 : Nat) (x16 : Nat) (x17 : Nat) (x18 : Nat) (x19 : Nat) (x20 : Nat) (x21 : Nat) (x22 : Nat) (x23 : Nat) (x24 : Nat) (x25 : Nat) (x26 : Int32) (x27 : Int32) (x28 : Nat) (x29 : Nat) (x30 : Nat) (x31 : Nat) (x32 : Nat) (x33 : Nat) (x34 : Nat) (x35 : Nat) (x36 : Nat) (x37 : Nat) (x38 : Nat) (x39 : Nat) (x40 : Int32) (x41 : Int64) (F : List MV) (ho : Nat → Int32) (rq : Nat → Int64) (nd : Nat) (hh : ho 6 = nI nd) (hc : nd ≤ 5) : ex_M l yX12_dishNamed cX12_dishNamed 3 (some .int) 0 0 [ex_r m, ex_i 1] [(m, ex_o 12 (ex_i x0 :: ex_i x1 :: ex_r x2 :: ex_i x3 :: ex_i x4 :: ex_i x5 :: ex_i x6 :: ex_j x7 :: ex_i x8 :: ex_i x9 :: ex_r x10 :: ex_r x11 :: ex_r x12 :: ex_r x13 :: ex_r x14 :: ex_r x15 :: ex_r x16 :: ex_r x17 :: ex_r x18 :: ex_r x19 :: ex_r x20 :: ex_r x21 :: ex_r x22 :: ex_r x23 :: ex_r x24 :: ex_r x25 :: ex_i x26 :: ex_i x27 :: ex_r x28 :: ex_r x29 :: ex_r x30 :: ex_r x31 :: ex_r x32 :: ex_r x33 :: ex_r x34 :: ex_r x35 :: ex_r x36 :: ex_r x37 :: ex_r x38 :: ex_r x39 :: ex_i x40 :: ex_j x41 :: F)), (x10, ex_a 1 10 ho), (x12, ex_b 10 rq)] (fun cs r => (cs = [(m, ex_o 12 (ex_i x0 :: ex_i x1 :: ex_r x2 :: ex_i x3 :: ex_i x4 :: ex_i x5 :: ex_i x6 :: ex_j x7 :: ex_i x8 :: ex_i x9 :: ex_r x10 :: ex_r x11 :: ex_r x12 :: ex_r x13 :: ex_r x14 :: ex_r x15 :: ex_r x16 :: ex_r x17 :: ex_r x18 :: ex_r x19 :: ex_r x20 :: ex_r x21 :: ex_r x22 :: ex_r x23 :: ex_r x24 :: ex_r x25 :: ex_i x26 :: ex_i x27 :: ex_r x28 :: ex_r x29 :: ex_r x30 :: ex_r x31 :: ex_r x32 :: ex_r x33 :: ex_r x34 :: ex_r x35 :: ex_r x36 :: ex_r x37 :: ex_r x38 :: ex_r x39 :: ex_i x40 :: ex_j x41 :: F)), (x10, ex_a 1 10 ho), (x12, ex_b 10 rq)] ∧ r = some (ex_i (pnF (fun q => rq (5 + q)) nd x7)))) := by
  refine X_meth (by decide) (Nat.le_of_ble_eq_true rfl) ?_
  refine X_iconst (v := 0) dX12_dishNamed_0 (by decide) ?_
  refine X_istore_n (lv' := [(2, ex_i 0), (0, ex_r m), (1, ex_i 1)]) dX12_dishNamed_1 rfl (Nat.le_of_ble_eq_true rfl) rfl ?_
  refine X_lv (lv' := [(0, ex_r m), (1, ex_i 1), (2, ex_i 0)]) [1, 2, 0] rfl ?_
  refine X_ind (fun (i : Nat) => i ≤ nd ∧ pnF (fun q => rq (5 + q)) nd x7 = pnG (fun q => rq (5 + q)) x7 i (nd - i)) (fun (i : Nat) => nd - i) (fun (i : Nat) => [(m, ex_o 12 (ex_i x0 :: ex_i x1 :: ex_r x2 :: ex_i x3 :: ex_i x4 :: ex_i x5 :: ex_i x6 :: ex_j x7 :: ex_i x8 :: ex_i x9 :: ex_r x10 :: ex_r x11 :: ex_r x12 :: ex_r x13 :: ex_r x14 :: ex_r x15 :: ex_r x16 :: ex_r x17 :: ex_r x18 :: ex_r x19 :: ex_r x20 :: ex_r x21 :: ex_r x22 :: ex_r x23 :: ex_r x24 :: ex_r x25 :: ex_i x26 :: ex_i x27 :: ex_r x28 :: ex_r x29 :: ex_r x30 :: ex_r x31 :: ex_r x32 :: ex_r x33 :: ex_r x34 :: ex_r x35 :: ex_r x36 :: ex_r x37 :: ex_r x38 :: ex_r x39 :: ex_i x40 :: ex_j x41 :: F)), (x10, ex_a 1 10 ho), (x12, ex_b 10 rq)]) (fun (i : Nat) => [(0, ex_r m), (1, ex_i 1), (2, ex_i (nI i))]) (fun i hI ih => ?_) 0 (⟨Nat.zero_le _, rfl⟩)
  try dsimp only at hI ih ⊢
  refine X_iload_n (j := 2) dX12_dishNamed_2 rfl rfl ?_
  refine X_aload_n (j := 0) dX12_dishNamed_3 rfl rfl ?_
  refine X_get (j := 0) fo_X12_13 dX12_dishNamed_4 rfl rfl ?_
  refine X_iconst (v := 5) dX12_dishNamed_7 (by decide) ?_
  refine X_iload_n (j := 1) dX12_dishNamed_8 rfl rfl ?_
  refine X_imul (v := 5) dX12_dishNamed_9 (by decide) ?_
  refine X_iconst (v := 1) dX12_dishNamed_10 (by decide) ?_
  refine X_iadd (v := 6) dX12_dishNamed_11 (by decide) ?_
  refine X_iald (j := 1) (v := nI nd) dX12_dishNamed_12 rfl (vin (by decide)) hh ?_
  refine X_icmp_ge (tgt := 42) dX12_dishNamed_13 (by decide) (fun c_1 => ?_) (fun c_1 => ?_)
  · refine X_iconst (v := (-1)) dX12_dishNamed_42 (by decide) ?_
    exact X_iret ex_nI rfl dX12_dishNamed_43 rfl (⟨rfl, (by rw [hI.2, nlex (by omega) hI.1 c_1, Nat.sub_self]; rfl)⟩)
  · have hlt : i < nd := nlen (by omega) hI.1 c_1
    have hs : nd - i = (nd - (i + 1)) + 1 := by omega
    refine X_aload_n (j := 0) dX12_dishNamed_16 rfl rfl ?_
    refine X_get (j := 0) fo_X12_20 dX12_dishNamed_17 rfl rfl ?_
    refine X_iconst (v := 5) dX12_dishNamed_20 (by decide) ?_
    refine X_iload_n (j := 1) dX12_dishNamed_21 rfl rfl ?_
    refine X_imul (v := 5) dX12_dishNamed_22 (by decide) ?_
    refine X_iload_n (j := 2) dX12_dishNamed_23 rfl rfl ?_
    refine X_iadd (v := nI (5 + i)) dX12_dishNamed_24 (nI_add 5 i) ?_
    refine X_lald (j := 2) (v := (rq (5 + i))) dX12_dishNamed_25 rfl (vp_in_nI (show 5 + i < 10 by omega) (by decide)) (by rw [nI_clamp (by omega)]) ?_
    refine X_aload_n (j := 0) dX12_dishNamed_26 rfl rfl ?_
    refine X_get (j := 0) fo_X12_174 dX12_dishNamed_27 rfl rfl ?_
    refine X_lcmp (v := (lg_cmp (rq (5 + i)) x7)) dX12_dishNamed_30 rfl ?_
    refine X_if_ne (tgt := 36) dX12_dishNamed_31 (by decide) (fun c_2 => ?_) (fun c_2 => ?_)
    · refine X_iinc (v := nI (i + 1)) (j := 2) (lv' := [(2, ex_i (nI (i + 1))), (0, ex_r m), (1, ex_i 1)]) dX12_dishNamed_36 rfl (nI_1 i) (Nat.le_of_ble_eq_true rfl) rfl ?_
      refine X_goto (tgt := 2) dX12_dishNamed_39 (by decide) ?_
      refine X_lv (lv' := [(0, ex_r m), (1, ex_i 1), (2, ex_i (nI (i + 1)))]) [1, 2, 0] rfl ?_
      exact ih (i + 1) (⟨hlt, by rw [hI.2, hs, pnG_n (fun q => c_2 (by rw [show rq (5 + i) = x7 from q]; exact ex_lc1 _))]⟩) (by omega)
    · refine X_iload_n (j := 2) dX12_dishNamed_34 rfl rfl ?_
      exact X_iret ex_nI rfl dX12_dishNamed_35 rfl (⟨rfl, (by rw [hI.2, hs, pnG_y (F := (fun q => rq (5 + q))) (ex_lc2 c_2)])⟩)
