section EXF
variable {l : Launch} {y : MethodName} {cc : ByteArray} {nL : Nat} {ret : Option FieldType} {fr lc : Nat} {ks : List Nat} {Q : EW → Option MV → Prop} {cs : EW} {lv : List (Nat × MV)} {stk : List MV} {pc : Nat}
theorem X_lushr {a v : Int64} {b : Int32} (hd : decode cc pc = .ok (.lushr, 1)) (hv : (a.toUInt64 >>> (b.toInt64.toUInt64 &&& Int64.toUInt64 63)).toInt64 = v) (h : ex_O l y cc nL ret fr lc ks Q cs lv (ex_j v :: stk) (pc + 1)) : ex_O l y cc nL ret fr lc ks Q cs lv (ex_i b :: ex_j a :: stk) pc := fun p e s m args below meth c R D cy ad A T hX H locs ls hP hD hS hl => lv_lushr hX.1.1 hX.1.2.1 hd hv (h p e s m args below meth c R D cy ad A T hX H locs ls hP hD hS hl)
end EXF

set_option maxHeartbeats 4000000 in
set_option maxRecDepth 100000 in
theorem e_X9_addBytes (l : Launch) (t : Nat) (g : Nat) (L : Nat) (fa : Int32) (ki : Int32) (nu : Int32) (sg : Int32) (wo : Int64) (ne : Int32) (pl : Int32) (f : Nat → Int32) (a1 : Int64) (hL : L ≤ 1000) : ex_M l yX9_addBytes cX9_addBytes 6 none 0 0 [ex_r t, ex_j a1] [(t, ex_o 9 [ex_r g, ex_i (nI L), ex_i fa, ex_i ki, ex_i nu, ex_i sg, ex_j wo, ex_i ne, ex_i pl]), (g, ex_a 0 1000 f)] (fun cs r => (cs = [(t, ex_o 9 [ex_r g, ex_i (nI (cb L a1 8)), ex_i fa, ex_i ki, ex_i nu, ex_i sg, ex_j wo, ex_i ne, ex_i pl]), (g, ex_a 0 1000 (fb f L a1 8))] ∧ r = none)) := by
  refine X_meth (by decide) (Nat.le_of_ble_eq_true rfl) ?_
  refine X_bipush (v := 56) dX9_addBytes_0 (by decide) ?_
  refine X_istore_n (lv' := [(3, ex_i 56), (0, ex_r t), (1, ex_j a1)]) dX9_addBytes_2 rfl (Nat.le_of_ble_eq_true rfl) rfl ?_
  refine X_lv (lv' := [(0, ex_r t), (1, ex_j a1), (3, ex_i 56)]) [1, 2, 0] rfl ?_
  refine X_ind (fun (k : Nat) => k ≤ 8) (fun (k : Nat) => 8 - k) (fun (k : Nat) => [(t, ex_o 9 [ex_r g, ex_i (nI (cb L a1 k)), ex_i fa, ex_i ki, ex_i nu, ex_i sg, ex_j wo, ex_i ne, ex_i pl]), (g, ex_a 0 1000 (fb f L a1 k))]) (fun (k : Nat) => [(0, ex_r t), (1, ex_j a1), (3, ex_i (56 - nI (8 * k)))]) (fun k hI ih => ?_) 0 (by decide)
  try dsimp only at hI ih ⊢
  refine X_iload_n (j := 2) dX9_addBytes_3 rfl rfl ?_
  refine X_if_lt (tgt := 88) dX9_addBytes_4 (by decide) (fun c_1 => ?_) (fun c_1 => ?_)
  · have hk9 : k = 8 := Nat.le_antisymm hI (Nat.le_of_not_lt fun q => absurd c_1 (by rw [e56 q]; exact nI_pos (by omega)))
    rw [hk9]
    exact X_vret dX9_addBytes_88 rfl (⟨rfl, rfl⟩)
  · have hk8 : k < 8 := Nat.lt_of_not_le fun q => c_1 (by rw [show k = 8 from Nat.le_antisymm hI q]; decide)
    refine X_lload_n (j := 1) dX9_addBytes_7 rfl rfl ?_
    refine X_iload_n (j := 2) dX9_addBytes_8 rfl rfl ?_
    refine X_lushr (v := (a1.toUInt64 >>> ((56 - nI (8 * k)).toInt64.toUInt64 &&& Int64.toUInt64 63)).toInt64) dX9_addBytes_9 rfl ?_
    refine X_ldc2_w (v := 255) k_480 dX9_addBytes_10 ?_
    refine X_land (v := (((a1.toUInt64 >>> ((56 - nI (8 * k)).toInt64.toUInt64 &&& Int64.toUInt64 63)).toInt64) &&& 255)) dX9_addBytes_13 rfl ?_
    refine X_l2i (v := (byt a1 k)) dX9_addBytes_14 (by rw [e56 hk8]; rfl) ?_
    refine X_istore (lv' := [(4, ex_i (byt a1 k)), (0, ex_r t), (1, ex_j a1), (3, ex_i (56 - nI (8 * k)))]) dX9_addBytes_15 (Nat.le_of_ble_eq_true rfl) rfl ?_
    refine X_iload (j := 0) dX9_addBytes_17 rfl ?_
    refine X_bipush (v := 10) dX9_addBytes_19 (by decide) ?_
    refine X_icmp_eq (tgt := 38) dX9_addBytes_21 (by decide) (fun c_2 => ?_) (fun c_2 => ?_)
    · refine X_iconst (v := 1) dX9_addBytes_38 (by decide) ?_
      refine X_goto (tgt := 43) dX9_addBytes_39 (by decide) ?_
      refine X_istore (lv' := [(5, ex_i 1), (4, ex_i (byt a1 k)), (0, ex_r t), (1, ex_j a1), (3, ex_i (56 - nI (8 * k)))]) dX9_addBytes_43 (Nat.le_of_ble_eq_true rfl) rfl ?_
      refine X_iload (j := 0) dX9_addBytes_45 rfl ?_
      refine X_if_eq (tgt := 82) dX9_addBytes_47 (by decide) (fun c_ => absurd c_ (by decide)) (fun _ => ?_)
      refine X_aload_n (j := 2) dX9_addBytes_50 rfl rfl ?_
      refine X_get (j := 0) fo_X9_15 dX9_addBytes_51 rfl rfl ?_
      refine X_sipush (v := 1000) dX9_addBytes_54 (by decide) ?_
      refine X_icmp_ge (tgt := 82) dX9_addBytes_57 (by decide) (fun c_3 => ?_) (fun c_3 => ?_)
      · refine X_iinc (v := (56 - nI (8 * (k + 1)))) (j := 4) (lv' := [(3, ex_i (56 - nI (8 * (k + 1)))), (5, ex_i 1), (4, ex_i (byt a1 k)), (0, ex_r t), (1, ex_j a1)]) dX9_addBytes_82 rfl (by rcases (show k = 0 ∨ k = 1 ∨ k = 2 ∨ k = 3 ∨ k = 4 ∨ k = 5 ∨ k = 6 ∨ k = 7 by omega) with h | h | h | h | h | h | h | h <;> subst h <;> decide) (Nat.le_of_ble_eq_true rfl) rfl ?_
        refine X_goto (tgt := 3) dX9_addBytes_85 (by decide) ?_
        have ec : nI (cb L a1 k) = nI (cb L a1 (k + 1)) := congrArg nI (show _ = stp _ _ from (stp_full (nI_ge1000 (cb_le a1 hL k) c_3)).symm)
        have ef : fb f L a1 k = fb f L a1 (k + 1) := (show _ = wst _ _ _ from wst_full (nI_ge1000 (cb_le a1 hL k) c_3))
        rw [ef, ec]
        refine X_lv (lv' := [(0, ex_r t), (1, ex_j a1), (3, ex_i (56 - nI (8 * (k + 1))))]) [3, 4, 0] rfl ?_
        exact ih (k + 1) hk8 (by omega)
      · have hlt : cb L a1 k < 1000 := nI_lt1000 (cb_le a1 hL k) c_3
        refine X_aload_n (j := 2) dX9_addBytes_60 rfl rfl ?_
        refine X_get (j := 0) fo_X9_9 dX9_addBytes_61 rfl rfl ?_
        refine X_aload_n (j := 2) dX9_addBytes_64 rfl rfl ?_
        refine X_get (j := 0) fo_X9_15 dX9_addBytes_65 rfl rfl ?_
        refine X_iload (j := 1) dX9_addBytes_68 rfl ?_
        refine X_i2b (v := (byt a1 k).toInt8.toInt32) dX9_addBytes_70 rfl ?_
        refine X_bast (j := 1) (g := upd (fb f L a1 k) (cb L a1 k) (byt a1 k)) (cs' := [(t, ex_o 9 [ex_r g, ex_i (nI (cb L a1 k)), ex_i fa, ex_i ki, ex_i nu, ex_i sg, ex_j wo, ex_i ne, ex_i pl]), (g, ex_a 0 1000 (upd (fb f L a1 k) (cb L a1 k) (byt a1 k)))]) dX9_addBytes_71 rfl (vp_in_nI hlt (by decide)) (by rw [nI_clamp (by omega), nar_gd (Or.inl c_2)]) rfl ?_
        refine X_aload_n (j := 2) dX9_addBytes_72 rfl rfl ?_
        refine X_dup dX9_addBytes_73 rfl ?_
        refine X_get (j := 0) fo_X9_15 dX9_addBytes_74 rfl rfl ?_
        refine X_iconst (v := 1) dX9_addBytes_77 (by decide) ?_
        refine X_iadd (v := nI (cb L a1 k + 1)) dX9_addBytes_78 (nI_1 _) ?_
        refine X_put (j := 0) (cs' := [(t, ex_o 9 [ex_r g, ex_i (nI (cb L a1 k + 1)), ex_i fa, ex_i ki, ex_i nu, ex_i sg, ex_j wo, ex_i ne, ex_i pl]), (g, ex_a 0 1000 (upd (fb f L a1 k) (cb L a1 k) (byt a1 k)))]) fo_X9_15 (by decide) dX9_addBytes_79 rfl (Nat.le_of_ble_eq_true rfl) trivial rfl ?_
        refine X_iinc (v := (56 - nI (8 * (k + 1)))) (j := 4) (lv' := [(3, ex_i (56 - nI (8 * (k + 1)))), (5, ex_i 1), (4, ex_i (byt a1 k)), (0, ex_r t), (1, ex_j a1)]) dX9_addBytes_82 rfl (by rcases (show k = 0 ∨ k = 1 ∨ k = 2 ∨ k = 3 ∨ k = 4 ∨ k = 5 ∨ k = 6 ∨ k = 7 by omega) with h | h | h | h | h | h | h | h <;> subst h <;> decide) (Nat.le_of_ble_eq_true rfl) rfl ?_
        refine X_goto (tgt := 3) dX9_addBytes_85 (by decide) ?_
        have ec : nI (cb L a1 k + 1) = nI (cb L a1 (k + 1)) := congrArg nI (show _ = stp _ _ from (stp_yes (Or.inl c_2) hlt).symm)
        have ef : upd (fb f L a1 k) (cb L a1 k) (byt a1 k) = fb f L a1 (k + 1) := (show _ = wst _ _ _ from wst_yes (Or.inl c_2) hlt rfl rfl)
        rw [ef, ec]
        refine X_lv (lv' := [(0, ex_r t), (1, ex_j a1), (3, ex_i (56 - nI (8 * (k + 1))))]) [3, 4, 0] rfl ?_
        exact ih (k + 1) hk8 (by omega)
    · refine X_iload (j := 0) dX9_addBytes_24 rfl ?_
      refine X_bipush (v := 32) dX9_addBytes_26 (by decide) ?_
      refine X_icmp_lt (tgt := 42) dX9_addBytes_28 (by decide) (fun c_4 => ?_) (fun c_4 => ?_)
      · refine X_iconst (v := 0) dX9_addBytes_42 (by decide) ?_
        refine X_istore (lv' := [(5, ex_i 0), (4, ex_i (byt a1 k)), (0, ex_r t), (1, ex_j a1), (3, ex_i (56 - nI (8 * k)))]) dX9_addBytes_43 (Nat.le_of_ble_eq_true rfl) rfl ?_
        refine X_iload (j := 0) dX9_addBytes_45 rfl ?_
        refine X_if_eq (tgt := 82) dX9_addBytes_47 (by decide) (fun _ => ?_) (fun c_ => absurd rfl c_)
        refine X_iinc (v := (56 - nI (8 * (k + 1)))) (j := 4) (lv' := [(3, ex_i (56 - nI (8 * (k + 1)))), (5, ex_i 0), (4, ex_i (byt a1 k)), (0, ex_r t), (1, ex_j a1)]) dX9_addBytes_82 rfl (by rcases (show k = 0 ∨ k = 1 ∨ k = 2 ∨ k = 3 ∨ k = 4 ∨ k = 5 ∨ k = 6 ∨ k = 7 by omega) with h | h | h | h | h | h | h | h <;> subst h <;> decide) (Nat.le_of_ble_eq_true rfl) rfl ?_
        refine X_goto (tgt := 3) dX9_addBytes_85 (by decide) ?_
        have ec : nI (cb L a1 k) = nI (cb L a1 (k + 1)) := congrArg nI (show _ = stp _ _ from (stp_no (fun q => q.elim c_2 (fun q => Int32.not_lt.mpr q.1 c_4))).symm)
        have ef : fb f L a1 k = fb f L a1 (k + 1) := (show _ = wst _ _ _ from wst_no (fun q => q.elim c_2 (fun q => Int32.not_lt.mpr q.1 c_4)))
        rw [ef, ec]
        refine X_lv (lv' := [(0, ex_r t), (1, ex_j a1), (3, ex_i (56 - nI (8 * (k + 1))))]) [3, 4, 0] rfl ?_
        exact ih (k + 1) hk8 (by omega)
      · refine X_iload (j := 0) dX9_addBytes_31 rfl ?_
        refine X_bipush (v := 126) dX9_addBytes_33 (by decide) ?_
        refine X_icmp_gt (tgt := 42) dX9_addBytes_35 (by decide) (fun c_5 => ?_) (fun c_5 => ?_)
        · refine X_iconst (v := 0) dX9_addBytes_42 (by decide) ?_
          refine X_istore (lv' := [(5, ex_i 0), (4, ex_i (byt a1 k)), (0, ex_r t), (1, ex_j a1), (3, ex_i (56 - nI (8 * k)))]) dX9_addBytes_43 (Nat.le_of_ble_eq_true rfl) rfl ?_
          refine X_iload (j := 0) dX9_addBytes_45 rfl ?_
          refine X_if_eq (tgt := 82) dX9_addBytes_47 (by decide) (fun _ => ?_) (fun c_ => absurd rfl c_)
          refine X_iinc (v := (56 - nI (8 * (k + 1)))) (j := 4) (lv' := [(3, ex_i (56 - nI (8 * (k + 1)))), (5, ex_i 0), (4, ex_i (byt a1 k)), (0, ex_r t), (1, ex_j a1)]) dX9_addBytes_82 rfl (by rcases (show k = 0 ∨ k = 1 ∨ k = 2 ∨ k = 3 ∨ k = 4 ∨ k = 5 ∨ k = 6 ∨ k = 7 by omega) with h | h | h | h | h | h | h | h <;> subst h <;> decide) (Nat.le_of_ble_eq_true rfl) rfl ?_
          refine X_goto (tgt := 3) dX9_addBytes_85 (by decide) ?_
          have ec : nI (cb L a1 k) = nI (cb L a1 (k + 1)) := congrArg nI (show _ = stp _ _ from (stp_no (fun q => q.elim c_2 (fun q => Int32.not_lt.mpr q.2 c_5))).symm)
          have ef : fb f L a1 k = fb f L a1 (k + 1) := (show _ = wst _ _ _ from wst_no (fun q => q.elim c_2 (fun q => Int32.not_lt.mpr q.2 c_5)))
          rw [ef, ec]
          refine X_lv (lv' := [(0, ex_r t), (1, ex_j a1), (3, ex_i (56 - nI (8 * (k + 1))))]) [3, 4, 0] rfl ?_
          exact ih (k + 1) hk8 (by omega)
        · refine X_iconst (v := 1) dX9_addBytes_38 (by decide) ?_
          refine X_goto (tgt := 43) dX9_addBytes_39 (by decide) ?_
          refine X_istore (lv' := [(5, ex_i 1), (4, ex_i (byt a1 k)), (0, ex_r t), (1, ex_j a1), (3, ex_i (56 - nI (8 * k)))]) dX9_addBytes_43 (Nat.le_of_ble_eq_true rfl) rfl ?_
          refine X_iload (j := 0) dX9_addBytes_45 rfl ?_
          refine X_if_eq (tgt := 82) dX9_addBytes_47 (by decide) (fun c_ => absurd c_ (by decide)) (fun _ => ?_)
          refine X_aload_n (j := 2) dX9_addBytes_50 rfl rfl ?_
          refine X_get (j := 0) fo_X9_15 dX9_addBytes_51 rfl rfl ?_
          refine X_sipush (v := 1000) dX9_addBytes_54 (by decide) ?_
          refine X_icmp_ge (tgt := 82) dX9_addBytes_57 (by decide) (fun c_6 => ?_) (fun c_6 => ?_)
          · refine X_iinc (v := (56 - nI (8 * (k + 1)))) (j := 4) (lv' := [(3, ex_i (56 - nI (8 * (k + 1)))), (5, ex_i 1), (4, ex_i (byt a1 k)), (0, ex_r t), (1, ex_j a1)]) dX9_addBytes_82 rfl (by rcases (show k = 0 ∨ k = 1 ∨ k = 2 ∨ k = 3 ∨ k = 4 ∨ k = 5 ∨ k = 6 ∨ k = 7 by omega) with h | h | h | h | h | h | h | h <;> subst h <;> decide) (Nat.le_of_ble_eq_true rfl) rfl ?_
            refine X_goto (tgt := 3) dX9_addBytes_85 (by decide) ?_
            have ec : nI (cb L a1 k) = nI (cb L a1 (k + 1)) := congrArg nI (show _ = stp _ _ from (stp_full (nI_ge1000 (cb_le a1 hL k) c_6)).symm)
            have ef : fb f L a1 k = fb f L a1 (k + 1) := (show _ = wst _ _ _ from wst_full (nI_ge1000 (cb_le a1 hL k) c_6))
            rw [ef, ec]
            refine X_lv (lv' := [(0, ex_r t), (1, ex_j a1), (3, ex_i (56 - nI (8 * (k + 1))))]) [3, 4, 0] rfl ?_
            exact ih (k + 1) hk8 (by omega)
          · have hlt : cb L a1 k < 1000 := nI_lt1000 (cb_le a1 hL k) c_6
            refine X_aload_n (j := 2) dX9_addBytes_60 rfl rfl ?_
            refine X_get (j := 0) fo_X9_9 dX9_addBytes_61 rfl rfl ?_
            refine X_aload_n (j := 2) dX9_addBytes_64 rfl rfl ?_
            refine X_get (j := 0) fo_X9_15 dX9_addBytes_65 rfl rfl ?_
            refine X_iload (j := 1) dX9_addBytes_68 rfl ?_
            refine X_i2b (v := (byt a1 k).toInt8.toInt32) dX9_addBytes_70 rfl ?_
            refine X_bast (j := 1) (g := upd (fb f L a1 k) (cb L a1 k) (byt a1 k)) (cs' := [(t, ex_o 9 [ex_r g, ex_i (nI (cb L a1 k)), ex_i fa, ex_i ki, ex_i nu, ex_i sg, ex_j wo, ex_i ne, ex_i pl]), (g, ex_a 0 1000 (upd (fb f L a1 k) (cb L a1 k) (byt a1 k)))]) dX9_addBytes_71 rfl (vp_in_nI hlt (by decide)) (by rw [nI_clamp (by omega), nar_gd (Or.inr ⟨Int32.not_lt.mp c_4, Int32.not_lt.mp c_5⟩)]) rfl ?_
            refine X_aload_n (j := 2) dX9_addBytes_72 rfl rfl ?_
            refine X_dup dX9_addBytes_73 rfl ?_
            refine X_get (j := 0) fo_X9_15 dX9_addBytes_74 rfl rfl ?_
            refine X_iconst (v := 1) dX9_addBytes_77 (by decide) ?_
            refine X_iadd (v := nI (cb L a1 k + 1)) dX9_addBytes_78 (nI_1 _) ?_
            refine X_put (j := 0) (cs' := [(t, ex_o 9 [ex_r g, ex_i (nI (cb L a1 k + 1)), ex_i fa, ex_i ki, ex_i nu, ex_i sg, ex_j wo, ex_i ne, ex_i pl]), (g, ex_a 0 1000 (upd (fb f L a1 k) (cb L a1 k) (byt a1 k)))]) fo_X9_15 (by decide) dX9_addBytes_79 rfl (Nat.le_of_ble_eq_true rfl) trivial rfl ?_
            refine X_iinc (v := (56 - nI (8 * (k + 1)))) (j := 4) (lv' := [(3, ex_i (56 - nI (8 * (k + 1)))), (5, ex_i 1), (4, ex_i (byt a1 k)), (0, ex_r t), (1, ex_j a1)]) dX9_addBytes_82 rfl (by rcases (show k = 0 ∨ k = 1 ∨ k = 2 ∨ k = 3 ∨ k = 4 ∨ k = 5 ∨ k = 6 ∨ k = 7 by omega) with h | h | h | h | h | h | h | h <;> subst h <;> decide) (Nat.le_of_ble_eq_true rfl) rfl ?_
            refine X_goto (tgt := 3) dX9_addBytes_85 (by decide) ?_
            have ec : nI (cb L a1 k + 1) = nI (cb L a1 (k + 1)) := congrArg nI (show _ = stp _ _ from (stp_yes (Or.inr ⟨Int32.not_lt.mp c_4, Int32.not_lt.mp c_5⟩) hlt).symm)
            have ef : upd (fb f L a1 k) (cb L a1 k) (byt a1 k) = fb f L a1 (k + 1) := (show _ = wst _ _ _ from wst_yes (Or.inr ⟨Int32.not_lt.mp c_4, Int32.not_lt.mp c_5⟩) hlt rfl rfl)
            rw [ef, ec]
            refine X_lv (lv' := [(0, ex_r t), (1, ex_j a1), (3, ex_i (56 - nI (8 * (k + 1))))]) [3, 4, 0] rfl ?_
            exact ih (k + 1) hk8 (by omega)
