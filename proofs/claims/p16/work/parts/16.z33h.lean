set_option maxHeartbeats 4000000 in
set_option maxRecDepth 100000 in
theorem e_X12_puts (l : Launch) (m : Nat) (x0 : Int32) (x1 : Int32) (x2 : Nat) (x3 : Int32) (x4 : Int32) (x5 : Int32) (x6 : Int32) (x7 : Int64) (x8 : Int32) (x9 : Int32) (x10 : Nat) (x11 : Nat) (x12 : Nat) (x13 : Nat) (x14 : Nat) (x15 : Nat) (x16 : Nat) (x17 : Nat) (x18 : Nat) (x19 : Nat) (x20 : Nat) (x21 : Nat) (x22 : Nat) (x23 : Nat) (x24 : Nat) (x25 : Nat) (x27 : Int32) (x28 : Nat) (x29 : Nat) (x30 : Nat) (x31 : Nat) (x32 : Nat) (x33 : Nat) (x34 : Nat) (x35 : Nat) (x36 : Nat) (x37 : Nat) (x38 : Nat) (x39 : Nat) (x40 : Int32) (x41 : Int64) (F : List MV) (cd : Nat → Int32) (ci : Nat) (cq : Int32) (hci : ci < 1000) : ex_M l yX12_puts cX12_puts 2 none 0 0 [ex_r m, ex_i cq] [(m, ex_o 12 (ex_i x0 :: ex_i x1 :: ex_r x2 :: ex_i x3 :: ex_i x4 :: ex_i x5 :: ex_i x6 :: ex_j x7 :: ex_i x8 :: ex_i x9 :: ex_r x10 :: ex_r x11 :: ex_r x12 :: ex_r x13 :: ex_r x14 :: ex_r x15 :: ex_r x16 :: ex_r x17 :: ex_r x18 :: ex_r x19 :: ex_r x20 :: ex_r x21 :: ex_r x22 :: ex_r x23 :: ex_r x24 :: ex_r x25 :: ex_i (nI (1000 + ci)) :: ex_i x27 :: ex_r x28 :: ex_r x29 :: ex_r x30 :: ex_r x31 :: ex_r x32 :: ex_r x33 :: ex_r x34 :: ex_r x35 :: ex_r x36 :: ex_r x37 :: ex_r x38 :: ex_r x39 :: ex_i x40 :: ex_j x41 :: F)), (x25, ex_a 1 2000 cd)] (fun cs r => (cs = [(m, ex_o 12 (ex_i x0 :: ex_i x1 :: ex_r x2 :: ex_i x3 :: ex_i x4 :: ex_i x5 :: ex_i x6 :: ex_j x7 :: ex_i x8 :: ex_i x9 :: ex_r x10 :: ex_r x11 :: ex_r x12 :: ex_r x13 :: ex_r x14 :: ex_r x15 :: ex_r x16 :: ex_r x17 :: ex_r x18 :: ex_r x19 :: ex_r x20 :: ex_r x21 :: ex_r x22 :: ex_r x23 :: ex_r x24 :: ex_r x25 :: ex_i (nI (1000 + (ci + 1))) :: ex_i x27 :: ex_r x28 :: ex_r x29 :: ex_r x30 :: ex_r x31 :: ex_r x32 :: ex_r x33 :: ex_r x34 :: ex_r x35 :: ex_r x36 :: ex_r x37 :: ex_r x38 :: ex_r x39 :: ex_i x40 :: ex_j x41 :: F)), (x25, ex_a 1 2000 (upd cd (1000 + ci) cq))] ∧ r = none)) := by
  refine X_meth (by decide) (Nat.le_of_ble_eq_true rfl) ?_
  refine X_aload_n (j := 0) dX12_puts_0 rfl rfl ?_
  refine X_get (j := 0) fo_X12_59 dX12_puts_1 rfl rfl ?_
  refine X_aload_n (j := 0) dX12_puts_4 rfl rfl ?_
  refine X_get (j := 0) fo_X12_195 dX12_puts_5 rfl rfl ?_
  refine X_iload_n (j := 1) dX12_puts_8 rfl rfl ?_
  refine X_iast (j := 1) (g := upd cd (1000 + ci) cq) (cs' := [(m, ex_o 12 (ex_i x0 :: ex_i x1 :: ex_r x2 :: ex_i x3 :: ex_i x4 :: ex_i x5 :: ex_i x6 :: ex_j x7 :: ex_i x8 :: ex_i x9 :: ex_r x10 :: ex_r x11 :: ex_r x12 :: ex_r x13 :: ex_r x14 :: ex_r x15 :: ex_r x16 :: ex_r x17 :: ex_r x18 :: ex_r x19 :: ex_r x20 :: ex_r x21 :: ex_r x22 :: ex_r x23 :: ex_r x24 :: ex_r x25 :: ex_i (nI (1000 + ci)) :: ex_i x27 :: ex_r x28 :: ex_r x29 :: ex_r x30 :: ex_r x31 :: ex_r x32 :: ex_r x33 :: ex_r x34 :: ex_r x35 :: ex_r x36 :: ex_r x37 :: ex_r x38 :: ex_r x39 :: ex_i x40 :: ex_j x41 :: F)), (x25, ex_a 1 2000 (upd cd (1000 + ci) cq))]) dX12_puts_9 rfl (vp_in_nI (show 1000 + ci < 2000 by omega) (by decide)) (by rw [nI_clamp (by omega)]) rfl ?_
  refine X_aload_n (j := 0) dX12_puts_10 rfl rfl ?_
  refine X_dup dX12_puts_11 rfl ?_
  refine X_get (j := 0) fo_X12_195 dX12_puts_12 rfl rfl ?_
  refine X_iconst (v := 1) dX12_puts_15 (by decide) ?_
  refine X_iadd (v := nI (1000 + (ci + 1))) dX12_puts_16 (nI_1 (1000 + ci)) ?_
  refine X_put (j := 0) (cs' := [(m, ex_o 12 (ex_i x0 :: ex_i x1 :: ex_r x2 :: ex_i x3 :: ex_i x4 :: ex_i x5 :: ex_i x6 :: ex_j x7 :: ex_i x8 :: ex_i x9 :: ex_r x10 :: ex_r x11 :: ex_r x12 :: ex_r x13 :: ex_r x14 :: ex_r x15 :: ex_r x16 :: ex_r x17 :: ex_r x18 :: ex_r x19 :: ex_r x20 :: ex_r x21 :: ex_r x22 :: ex_r x23 :: ex_r x24 :: ex_r x25 :: ex_i (nI (1000 + (ci + 1))) :: ex_i x27 :: ex_r x28 :: ex_r x29 :: ex_r x30 :: ex_r x31 :: ex_r x32 :: ex_r x33 :: ex_r x34 :: ex_r x35 :: ex_r x36 :: ex_r x37 :: ex_r x38 :: ex_r x39 :: ex_i x40 :: ex_j x41 :: F)), (x25, ex_a 1 2000 (upd cd (1000 + ci) cq))]) fo_X12_195 (by decide) dX12_puts_17 rfl (lt_tl (n := 42) (by decide)) trivial rfl ?_
  exact X_vret dX12_puts_20 rfl (⟨rfl, rfl⟩)

set_option maxHeartbeats 4000000 in
set_option maxRecDepth 100000 in
theorem e_X12_fact (l : Launch) (m : Nat) (x0 : Int32) (x1 : Int32) (x2 : Nat) (x9 : Int32) (x10 : Nat) (x11 : Nat) (x12 : Nat) (x13 : Nat) (x14 : Nat) (x15 : Nat) (x16 : Nat) (x17 : Nat) (x18 : Nat) (x19 : Nat) (x20 : Nat) (x21 : Nat) (x22 : Nat) (x23 : Nat) (x24 : Nat) (x25 : Nat) (x26 : Int32) (x27 : Int32) (x28 : Nat) (x29 : Nat) (x30 : Nat) (x31 : Nat) (x32 : Nat) (x33 : Nat) (x34 : Nat) (x35 : Nat) (x36 : Nat) (x37 : Nat) (x38 : Nat) (x39 : Nat) (x40 : Int32) (x41 : Int64) (F : List MV) (wd1 : Int64) (td1 : Int32) (f : Nat → Int32) (L : Nat) (n : Nat) (hL : L ≤ 1000) (hn : n ≤ L) (j1 : tK f L n = 1 → wd1 = rW f L n) (j2 : tK f L n = 2 → td1 = tV f L n) : ex_M l yX12_fact cX12_fact 1 (some .int) 0 0 [ex_r m] [(m, ex_o 12 (ex_i x0 :: ex_i x1 :: ex_r x2 :: ex_i (nI L) :: ex_i (nI (tN f L n)) :: ex_i (nI (tP f L n)) :: ex_i (tK f L n) :: ex_j wd1 :: ex_i td1 :: ex_i x9 :: ex_r x10 :: ex_r x11 :: ex_r x12 :: ex_r x13 :: ex_r x14 :: ex_r x15 :: ex_r x16 :: ex_r x17 :: ex_r x18 :: ex_r x19 :: ex_r x20 :: ex_r x21 :: ex_r x22 :: ex_r x23 :: ex_r x24 :: ex_r x25 :: ex_i x26 :: ex_i x27 :: ex_r x28 :: ex_r x29 :: ex_r x30 :: ex_r x31 :: ex_r x32 :: ex_r x33 :: ex_r x34 :: ex_r x35 :: ex_r x36 :: ex_r x37 :: ex_r x38 :: ex_r x39 :: ex_i x40 :: ex_j x41 :: F))] (fun cs r => (∃ (fv : Int32), 0 < fv ∧ es_F f L n ∧ fv ≤ 5 ∧ cs = [(m, ex_o 12 (ex_i x0 :: ex_i x1 :: ex_r x2 :: ex_i (nI L) :: ex_i (nI (tN f L n)) :: ex_i (nI (tP f L n)) :: ex_i (tK f L n) :: ex_j wd1 :: ex_i td1 :: ex_i x9 :: ex_r x10 :: ex_r x11 :: ex_r x12 :: ex_r x13 :: ex_r x14 :: ex_r x15 :: ex_r x16 :: ex_r x17 :: ex_r x18 :: ex_r x19 :: ex_r x20 :: ex_r x21 :: ex_r x22 :: ex_r x23 :: ex_r x24 :: ex_r x25 :: ex_i x26 :: ex_i x27 :: ex_r x28 :: ex_r x29 :: ex_r x30 :: ex_r x31 :: ex_r x32 :: ex_r x33 :: ex_r x34 :: ex_r x35 :: ex_r x36 :: ex_r x37 :: ex_r x38 :: ex_r x39 :: ex_i x40 :: ex_j x41 :: F))] ∧ r = some (ex_i fv)) ∨ (¬ es_F f L n ∧ cs = [(m, ex_o 12 (ex_i x0 :: ex_i x1 :: ex_r x2 :: ex_i (nI L) :: ex_i (nI (tN f L n)) :: ex_i (nI (tP f L n)) :: ex_i (tK f L n) :: ex_j wd1 :: ex_i td1 :: ex_i x9 :: ex_r x10 :: ex_r x11 :: ex_r x12 :: ex_r x13 :: ex_r x14 :: ex_r x15 :: ex_r x16 :: ex_r x17 :: ex_r x18 :: ex_r x19 :: ex_r x20 :: ex_r x21 :: ex_r x22 :: ex_r x23 :: ex_r x24 :: ex_r x25 :: ex_i x26 :: ex_i x27 :: ex_r x28 :: ex_r x29 :: ex_r x30 :: ex_r x31 :: ex_r x32 :: ex_r x33 :: ex_r x34 :: ex_r x35 :: ex_r x36 :: ex_r x37 :: ex_r x38 :: ex_r x39 :: ex_i x40 :: ex_j x41 :: F))] ∧ r = some (ex_i 0))) := by
  refine X_meth (by decide) (Nat.le_of_ble_eq_true rfl) ?_
  refine X_aload_n (j := 0) dX12_fact_0 rfl rfl ?_
  refine X_get (j := 0) fo_X12_181 dX12_fact_1 rfl rfl ?_
  refine X_iconst (v := 1) dX12_fact_4 (by decide) ?_
  refine X_icmp_eq (tgt := 10) dX12_fact_5 (by decide) (fun c_1 => ?_) (fun c_1 => ?_)
  · refine X_aload_n (j := 0) dX12_fact_10 rfl rfl ?_
    refine X_get (j := 0) fo_X12_174 dX12_fact_11 rfl rfl ?_
    refine X_ldc2_w (v := 142108017258) k_1662 dX12_fact_14 ?_
    refine X_lcmp (v := (lg_cmp wd1 142108017258)) dX12_fact_17 rfl ?_
    refine X_if_ne (tgt := 23) dX12_fact_18 (by decide) (fun c_2 => ?_) (fun c_2 => ?_)
    · refine X_aload_n (j := 0) dX12_fact_23 rfl rfl ?_
      refine X_get (j := 0) fo_X12_174 dX12_fact_24 rfl rfl ?_
      refine X_ldc2_w (v := 11103) k_1663 dX12_fact_27 ?_
      refine X_lcmp (v := (lg_cmp wd1 11103)) dX12_fact_30 rfl ?_
      refine X_if_ne (tgt := 38) dX12_fact_31 (by decide) (fun c_3 => ?_) (fun c_3 => ?_)
      · refine X_aload_n (j := 0) dX12_fact_38 rfl rfl ?_
        refine X_get (j := 0) fo_X12_174 dX12_fact_39 rfl rfl ?_
        refine X_ldc2_w (v := 10197082) k_1664 dX12_fact_42 ?_
        refine X_lcmp (v := (lg_cmp wd1 10197082)) dX12_fact_45 rfl ?_
        refine X_if_ne (tgt := 53) dX12_fact_46 (by decide) (fun c_4 => ?_) (fun c_4 => ?_)
        · refine X_aload_n (j := 0) dX12_fact_53 rfl rfl ?_
          refine X_get (j := 0) fo_X12_174 dX12_fact_54 rfl rfl ?_
          refine X_ldc2_w (v := 279318886) k_1665 dX12_fact_57 ?_
          refine X_lcmp (v := (lg_cmp wd1 279318886)) dX12_fact_60 rfl ?_
          refine X_if_ne (tgt := 68) dX12_fact_61 (by decide) (fun c_5 => ?_) (fun c_5 => ?_)
          · refine X_aload_n (j := 0) dX12_fact_68 rfl rfl ?_
            refine X_get (j := 0) fo_X12_174 dX12_fact_69 rfl rfl ?_
            refine X_ldc2_w (v := 11570) k_1666 dX12_fact_72 ?_
            refine X_lcmp (v := (lg_cmp wd1 11570)) dX12_fact_75 rfl ?_
            refine X_if_ne (tgt := 83) dX12_fact_76 (by decide) (fun c_6 => ?_) (fun c_6 => ?_)
            · refine X_iconst (v := 0) dX12_fact_83 (by decide) ?_
              have hnF : ¬ es_F f L n := by
                rintro ⟨e1, e2⟩
                rcases e2 with e | e | e | e | e
                · exact c_2 (by rw [j1 e1, (rW_iff (c2 := 142108017258) e1 (by decide +kernel) (by decide +kernel)).mpr e]; exact ex_lc1 _)
                · exact c_3 (by rw [j1 e1, (rW_iff (c2 := 11103) e1 (by decide +kernel) (by decide +kernel)).mpr e]; exact ex_lc1 _)
                · exact c_4 (by rw [j1 e1, (rW_iff (c2 := 10197082) e1 (by decide +kernel) (by decide +kernel)).mpr e]; exact ex_lc1 _)
                · exact c_5 (by rw [j1 e1, (rW_iff (c2 := 279318886) e1 (by decide +kernel) (by decide +kernel)).mpr e]; exact ex_lc1 _)
                · exact c_6 (by rw [j1 e1, (rW_iff (c2 := 11570) e1 (by decide +kernel) (by decide +kernel)).mpr e]; exact ex_lc1 _)
              exact X_iret ex_nI rfl dX12_fact_84 rfl (Or.inr ⟨hnF, rfl, rfl⟩)
            · refine X_iconst (v := 5) dX12_fact_79 (by decide) ?_
              refine X_goto (tgt := 84) dX12_fact_80 (by decide) ?_
              exact X_iret ex_nI rfl dX12_fact_84 rfl (Or.inl ⟨5, (by decide), ⟨c_1, (Or.inr (Or.inr (Or.inr (Or.inr ((rW_iff (c2 := 11570) c_1 (by decide +kernel) (by decide +kernel)).mp (by rw [← j1 c_1]; exact ex_lc2 c_6))))))⟩, (by decide), rfl, rfl⟩)
          · refine X_iconst (v := 4) dX12_fact_64 (by decide) ?_
            refine X_goto (tgt := 84) dX12_fact_65 (by decide) ?_
            exact X_iret ex_nI rfl dX12_fact_84 rfl (Or.inl ⟨4, (by decide), ⟨c_1, (Or.inr (Or.inr (Or.inr (Or.inl ((rW_iff (c2 := 279318886) c_1 (by decide +kernel) (by decide +kernel)).mp (by rw [← j1 c_1]; exact ex_lc2 c_5))))))⟩, (by decide), rfl, rfl⟩)
        · refine X_iconst (v := 3) dX12_fact_49 (by decide) ?_
          refine X_goto (tgt := 84) dX12_fact_50 (by decide) ?_
          exact X_iret ex_nI rfl dX12_fact_84 rfl (Or.inl ⟨3, (by decide), ⟨c_1, (Or.inr (Or.inr (Or.inl ((rW_iff (c2 := 10197082) c_1 (by decide +kernel) (by decide +kernel)).mp (by rw [← j1 c_1]; exact ex_lc2 c_4)))))⟩, (by decide), rfl, rfl⟩)
      · refine X_iconst (v := 2) dX12_fact_34 (by decide) ?_
        refine X_goto (tgt := 84) dX12_fact_35 (by decide) ?_
        exact X_iret ex_nI rfl dX12_fact_84 rfl (Or.inl ⟨2, (by decide), ⟨c_1, (Or.inr (Or.inl ((rW_iff (c2 := 11103) c_1 (by decide +kernel) (by decide +kernel)).mp (by rw [← j1 c_1]; exact ex_lc2 c_3))))⟩, (by decide), rfl, rfl⟩)
    · refine X_iconst (v := 1) dX12_fact_21 (by decide) ?_
      exact X_iret ex_nI rfl dX12_fact_22 rfl (Or.inl ⟨1, (by decide), ⟨c_1, (Or.inl ((rW_iff (c2 := 142108017258) c_1 (by decide +kernel) (by decide +kernel)).mp (by rw [← j1 c_1]; exact ex_lc2 c_2)))⟩, (by decide), rfl, rfl⟩)
  · refine X_iconst (v := 0) dX12_fact_8 (by decide) ?_
    exact X_iret ex_nI rfl dX12_fact_9 rfl (Or.inr ⟨(fun q => c_1 q.1), rfl, rfl⟩)
