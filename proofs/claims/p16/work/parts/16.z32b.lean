set_option maxHeartbeats 4000000 in
set_option maxRecDepth 100000 in
theorem e_J0_coder_7d493 (l : Launch) (k0 : Nat) (z : Lit) (hz : lits[k0]? = some z) : ex_M l yJ0_coder_7d493 cJ0_coder_7d493 1 (some .byte) 0 0 [ex_r (10000 + k0)] [] (fun cs r => (cs = [] ∧ r = some (ex_i 0))) := by
  refine X_meth (by decide) (Nat.le_of_ble_eq_true rfl) ?_
  refine X_gets0 k_544 dJ0_coder_7d493_0 ?_
  refine X_if_eq (tgt := 13) dJ0_coder_7d493_3 (by decide) (fun c_ => absurd c_ (by decide)) (fun _ => ?_)
  refine X_aload_n (j := 0) dJ0_coder_7d493_6 rfl rfl ?_
  refine X_gfc rfl hz k_1962 dJ0_coder_7d493_7 ?_
  refine X_goto (tgt := 14) dJ0_coder_7d493_10 (by decide) ?_
  exact X_iret ex_nB rfl dJ0_coder_7d493_14 rfl (⟨rfl, rfl⟩)

set_option maxHeartbeats 4000000 in
set_option maxRecDepth 100000 in
theorem e_J0_isLatin1_aae02 (l : Launch) (k0 : Nat) (z : Lit) (hz : lits[k0]? = some z) : ex_M l yJ0_isLatin1_aae02 cJ0_isLatin1_aae02 1 (some .boolean) 0 0 [ex_r (10000 + k0)] [] (fun cs r => (cs = [] ∧ r = some (ex_i 1))) := by
  refine X_meth (by decide) (Nat.le_of_ble_eq_true rfl) ?_
  refine X_gets0 k_544 dJ0_isLatin1_aae02_0 ?_
  refine X_if_eq (tgt := 17) dJ0_isLatin1_aae02_3 (by decide) (fun c_ => absurd c_ (by decide)) (fun _ => ?_)
  refine X_aload_n (j := 0) dJ0_isLatin1_aae02_6 rfl rfl ?_
  refine X_gfc rfl hz k_1962 dJ0_isLatin1_aae02_7 ?_
  refine X_if_ne (tgt := 17) dJ0_isLatin1_aae02_10 (by decide) (fun c_ => absurd rfl c_) (fun _ => ?_)
  refine X_iconst (v := 1) dJ0_isLatin1_aae02_13 (by decide) ?_
  refine X_goto (tgt := 18) dJ0_isLatin1_aae02_14 (by decide) ?_
  exact X_iret ex_nZ rfl dJ0_isLatin1_aae02_18 rfl (⟨rfl, rfl⟩)

set_option maxHeartbeats 4000000 in
set_option maxRecDepth 100000 in
theorem e_J0_length_8abf5 (l : Launch) (k0 : Nat) (z : Lit) (hz : lits[k0]? = some z) : ex_M l yJ0_length_8abf5 cJ0_length_8abf5 1 (some .int) 1 20 [ex_r (10000 + k0)] [] (fun cs r => (cs = [] ∧ r = some (ex_i (nI z.2.2.2.length)))) := by
  refine X_meth (by decide) (Nat.le_of_ble_eq_true rfl) ?_
  refine X_aload_n (j := 0) dJ0_length_8abf5_0 rfl rfl ?_
  refine X_gfv (key' := (20000 + k0)) rfl rfl hz k_1963 dJ0_length_8abf5_1 ?_
  refine X_als (v := nI z.2.2.2.length) rfl hz rfl dJ0_length_8abf5_4 ?_
  refine X_aload_n (j := 0) dJ0_length_8abf5_5 rfl rfl ?_
  refine X_callT (k0 := k0) (rest := []) (stk := [ex_i (nI z.2.2.2.length)]) co_J0_335 rfl ⟨(Nat.le_of_ble_eq_true rfl), (Nat.le_of_ble_eq_true rfl)⟩ (e_J0_coder_7d493 l k0 z hz) dJ0_length_8abf5_6 [] (show List.Perm [] (List.range 0) from by decide) rfl rfl hz rfl rfl (Nat.le_of_ble_eq_true rfl) (fun cs1 r hq hk => ?_)
  rcases hq with ⟨rfl, rfl⟩
  refine X_ishr (v := (nI z.2.2.2.length)) dJ0_length_8abf5_9 (shr0 _) ?_
  exact X_iret ex_nI rfl dJ0_length_8abf5_10 rfl (⟨rfl, rfl⟩)

set_option maxHeartbeats 4000000 in
set_option maxRecDepth 100000 in
theorem e_J3_checkIndex_8e157 (l : Launch) (i : Nat) (n : Nat) (fv : Value) (hi : i < n) (hn : n < 1000) (hfv : fv.category = 1) : ex_M l yJ3_checkIndex_8e157 cJ3_checkIndex_8e157 3 (some .int) 0 0 [ex_i (nI i), ex_i (nI n), ex_u fv] [] (fun cs r => (cs = [] ∧ r = some (ex_i (nI i)))) := by
  refine X_meth (by decide) (by show 1 + (1 + ((if (fv.category == 2) = true then 2 else 1) + 0)) ≤ 3; rw [hfv]; decide) ?_
  refine X_iload_n (j := 0) dJ3_checkIndex_8e157_0 rfl rfl ?_
  refine X_if_lt (tgt := 9) dJ3_checkIndex_8e157_1 (by decide) (fun c_ => absurd c_ (nI_pos (by omega))) (fun _ => ?_)
  refine X_iload_n (j := 0) dJ3_checkIndex_8e157_4 rfl rfl ?_
  refine X_iload_n (j := 1) dJ3_checkIndex_8e157_5 rfl rfl ?_
  refine X_icmp_lt (tgt := 16) dJ3_checkIndex_8e157_6 (by decide) (fun _ => ?_) (fun c_ => absurd (nI_lt hi (by omega)) c_)
  refine X_iload_n (j := 0) dJ3_checkIndex_8e157_16 rfl rfl ?_
  exact X_iret ex_nI rfl dJ3_checkIndex_8e157_17 rfl (⟨rfl, rfl⟩)

set_option maxHeartbeats 4000000 in
set_option maxRecDepth 100000 in
theorem e_J0_checkIndex_df160 (l : Launch) (i : Nat) (n : Nat) (hi : i < n) (hn : n < 1000) : ex_M l yJ0_checkIndex_df160 cJ0_checkIndex_df160 2 none 1 22 [ex_i (nI i), ex_i (nI n)] [] (fun cs r => (cs = [] ∧ r = none)) := by
  refine X_meth (by decide) (Nat.le_of_ble_eq_true rfl) ?_
  refine X_iload_n (j := 0) dJ0_checkIndex_df160_0 rfl rfl ?_
  refine X_iload_n (j := 1) dJ0_checkIndex_df160_1 rfl rfl ?_
  refine X_gets1 k_587 dJ0_checkIndex_df160_2 (fun fv_1 hfv_1 => ?_)
  refine X_callS (rest := []) (stk := []) co_J0_1059 rfl ⟨(Nat.le_of_ble_eq_true rfl), (Nat.le_of_ble_eq_true rfl)⟩ (e_J3_checkIndex_8e157 l i n fv_1 hi hn hfv_1) dJ0_checkIndex_df160_5 [] (show List.Perm [] (List.range 0) from by decide) rfl rfl rfl (Nat.le_of_ble_eq_true rfl) (fun cs1 r hq hk => ?_)
  rcases hq with ⟨rfl, rfl⟩
  refine X_pop dJ0_checkIndex_df160_8 rfl ?_
  exact X_vret dJ0_checkIndex_df160_9 rfl (⟨rfl, rfl⟩)

set_option maxHeartbeats 4000000 in
set_option maxRecDepth 100000 in
theorem e_J1_charAt_3b067 (l : Launch) (k0 : Nat) (z : Lit) (i : Nat) (hz : lits[k0]? = some z) (hi : i < z.2.2.2.length) : ex_M l yJ1_charAt_3b067 cJ1_charAt_3b067 2 (some .char) 2 43 [ex_r (20000 + k0), ex_i (nI i)] [] (fun cs r => (cs = [] ∧ r = some (ex_i (z.2.2.2.getD i 0)))) := by
  refine X_meth (by decide) (Nat.le_of_ble_eq_true rfl) ?_
  refine X_iload_n (j := 1) dJ1_charAt_3b067_0 rfl rfl ?_
  refine X_aload_n (j := 0) dJ1_charAt_3b067_1 rfl rfl ?_
  refine X_als (v := nI z.2.2.2.length) rfl hz rfl dJ1_charAt_3b067_2 ?_
  refine X_callS (rest := []) (stk := []) co_J1_9 rfl ⟨(Nat.le_of_ble_eq_true rfl), (Nat.le_of_ble_eq_true rfl)⟩ (e_J0_checkIndex_df160 l i z.2.2.2.length hi (lit_n hz)) dJ1_charAt_3b067_3 [] (show List.Perm [] (List.range 0) from by decide) rfl rfl rfl (Nat.le_of_ble_eq_true rfl) (fun cs1 r hq hk => ?_)
  rcases hq with ⟨rfl, rfl⟩
  refine X_aload_n (j := 0) dJ1_charAt_3b067_6 rfl rfl ?_
  refine X_iload_n (j := 1) dJ1_charAt_3b067_7 rfl rfl ?_
  refine X_bs (v := (z.2.2.2.getD i 0)) rfl hz (vp_in_nI hi (by have := lit_n hz; omega)) (by rw [nI_clamp (by have := lit_n hz; omega)]) dJ1_charAt_3b067_8 ?_
  refine X_sipush (v := 255) dJ1_charAt_3b067_9 (by decide) ?_
  refine X_iand (v := (z.2.2.2.getD i 0)) dJ1_charAt_3b067_12 (and255 (lit_b hz i hi).1 (lit_b hz i hi).2) ?_
  refine X_i2c (v := (z.2.2.2.getD i 0)) dJ1_charAt_3b067_13 (i2c_id (lit_b hz i hi).1 (by have := (lit_b hz i hi).2; omega)) ?_
  exact X_iret ex_nC (ex_nar (lit_b hz i hi).1 (lit_b hz i hi).2) dJ1_charAt_3b067_14 rfl (⟨rfl, rfl⟩)

set_option maxHeartbeats 4000000 in
set_option maxRecDepth 100000 in
theorem e_J0_charAt_5068e (l : Launch) (k0 : Nat) (z : Lit) (i : Nat) (hz : lits[k0]? = some z) (hi : i < z.2.2.2.length) : ex_M l yJ0_charAt_5068e cJ0_charAt_5068e 2 (some .char) 3 64 [ex_r (10000 + k0), ex_i (nI i)] [] (fun cs r => (cs = [] ∧ r = some (ex_i (z.2.2.2.getD i 0)))) := by
  refine X_meth (by decide) (Nat.le_of_ble_eq_true rfl) ?_
  refine X_aload_n (j := 0) dJ0_charAt_5068e_0 rfl rfl ?_
  refine X_callT (k0 := k0) (rest := []) (stk := []) co_J0_492 rfl ⟨(Nat.le_of_ble_eq_true rfl), (Nat.le_of_ble_eq_true rfl)⟩ (e_J0_isLatin1_aae02 l k0 z hz) dJ0_charAt_5068e_1 [] (show List.Perm [] (List.range 0) from by decide) rfl rfl hz rfl rfl (Nat.le_of_ble_eq_true rfl) (fun cs1 r hq hk => ?_)
  rcases hq with ⟨rfl, rfl⟩
  refine X_if_eq (tgt := 16) dJ0_charAt_5068e_4 (by decide) (fun c_ => absurd c_ (by decide)) (fun _ => ?_)
  refine X_aload_n (j := 0) dJ0_charAt_5068e_7 rfl rfl ?_
  refine X_gfv (key' := (20000 + k0)) rfl rfl hz k_1963 dJ0_charAt_5068e_8 ?_
  refine X_iload_n (j := 1) dJ0_charAt_5068e_11 rfl rfl ?_
  refine X_callS (rest := []) (stk := []) co_J0_495 rfl ⟨(Nat.le_of_ble_eq_true rfl), (Nat.le_of_ble_eq_true rfl)⟩ (e_J1_charAt_3b067 l k0 z i hz hi) dJ0_charAt_5068e_12 [] (show List.Perm [] (List.range 0) from by decide) rfl rfl rfl (Nat.le_of_ble_eq_true rfl) (fun cs1 r hq hk => ?_)
  rcases hq with ⟨rfl, rfl⟩
  exact X_iret ex_nC (ex_nar (lit_b hz i hi).1 (lit_b hz i hi).2) dJ0_charAt_5068e_15 rfl (⟨rfl, rfl⟩)

set_option maxHeartbeats 4000000 in
set_option maxRecDepth 100000 in
theorem e_J1_canEncode_9a6ad (l : Launch) (v : Int32) (h1 : 0 ≤ v.toInt) (h2 : v.toInt ≤ 127) : ex_M l yJ1_canEncode_9a6ad cJ1_canEncode_9a6ad 1 (some .boolean) 0 0 [ex_i v] [] (fun cs r => (cs = [] ∧ r = some (ex_i 1))) := by
  refine X_meth (by decide) (Nat.le_of_ble_eq_true rfl) ?_
  refine X_iload_n (j := 0) dJ1_canEncode_9a6ad_0 rfl rfl ?_
  refine X_if_lt (tgt := 15) dJ1_canEncode_9a6ad_1 (by decide) (fun c_ => absurd c_ (by rw [Int32.lt_iff_toInt_lt]; exact Int.not_lt.mpr h1)) (fun _ => ?_)
  refine X_iload_n (j := 0) dJ1_canEncode_9a6ad_4 rfl rfl ?_
  refine X_sipush (v := 255) dJ1_canEncode_9a6ad_5 (by decide) ?_
  refine X_icmp_gt (tgt := 15) dJ1_canEncode_9a6ad_8 (by decide) (fun c_ => absurd c_ (by rw [Int32.lt_iff_toInt_lt]; have : (255 : Int32).toInt = 255 := rfl; omega)) (fun _ => ?_)
  refine X_iconst (v := 1) dJ1_canEncode_9a6ad_11 (by decide) ?_
  refine X_goto (tgt := 16) dJ1_canEncode_9a6ad_12 (by decide) ?_
  exact X_iret ex_nZ rfl dJ1_canEncode_9a6ad_16 rfl (⟨rfl, rfl⟩)

set_option maxHeartbeats 4000000 in
set_option maxRecDepth 100000 in
theorem e_J1_indexOfChar_4cfef (l : Launch) (k0 : Nat) (z : Lit) (v : Int32) (hz : lits[k0]? = some z) (h1 : 0 ≤ v.toInt) (h2 : v.toInt ≤ 127) : ex_M l yJ1_indexOfChar_4cfef cJ1_indexOfChar_4cfef 6 (some .int) 0 0 [ex_r (20000 + k0), ex_i v, ex_i 0, ex_i (nI z.2.2.2.length)] [] (fun cs r => (cs = [] ∧ r = some (ex_i (ioG z.2.2.2 v z.2.2.2.length 0)))) := by
  refine X_meth (by decide) (Nat.le_of_ble_eq_true rfl) ?_
  refine X_iload_n (j := 1) dJ1_indexOfChar_4cfef_0 rfl rfl ?_
  refine X_i2b (v := v) dJ1_indexOfChar_4cfef_1 (i2b_id h1 h2) ?_
  refine X_istore (lv' := [(4, ex_i v), (0, ex_r (20000 + k0)), (1, ex_i v), (2, ex_i 0), (3, ex_i (nI z.2.2.2.length))]) dJ1_indexOfChar_4cfef_2 (Nat.le_of_ble_eq_true rfl) rfl ?_
  refine X_iload_n (j := 3) dJ1_indexOfChar_4cfef_4 rfl rfl ?_
  refine X_istore (lv' := [(5, ex_i 0), (4, ex_i v), (0, ex_r (20000 + k0)), (1, ex_i v), (2, ex_i 0), (3, ex_i (nI z.2.2.2.length))]) dJ1_indexOfChar_4cfef_5 (Nat.le_of_ble_eq_true rfl) rfl ?_
  refine X_lv (lv' := [(0, ex_r (20000 + k0)), (3, ex_i (nI z.2.2.2.length)), (4, ex_i v), (5, ex_i 0)]) [2, 5, 1, 0] rfl ?_
  refine X_ind (fun (i : Nat) => i ≤ z.2.2.2.length ∧ ioG z.2.2.2 v z.2.2.2.length 0 = ioG z.2.2.2 v (z.2.2.2.length - i) i) (fun (i : Nat) => z.2.2.2.length - i) (fun (i : Nat) => []) (fun (i : Nat) => [(0, ex_r (20000 + k0)), (3, ex_i (nI z.2.2.2.length)), (4, ex_i v), (5, ex_i (nI i))]) (fun i hI ih => ?_) 0 (⟨Nat.zero_le _, rfl⟩)
  try dsimp only at hI ih ⊢
  refine X_iload (j := 3) dJ1_indexOfChar_4cfef_7 rfl ?_
  refine X_iload_n (j := 1) dJ1_indexOfChar_4cfef_9 rfl rfl ?_
  refine X_icmp_ge (tgt := 31) dJ1_indexOfChar_4cfef_10 (by decide) (fun c_1 => ?_) (fun c_1 => ?_)
  · refine X_iconst (v := (-1)) dJ1_indexOfChar_4cfef_31 (by decide) ?_
    exact X_iret ex_nI rfl dJ1_indexOfChar_4cfef_32 rfl (⟨rfl, (by rw [hI.2, nlex (Nat.le_of_lt (lit_n hz)) hI.1 c_1, Nat.sub_self]; rfl)⟩)
  · have hlt : i < z.2.2.2.length := nlen (Nat.le_of_lt (lit_n hz)) hI.1 c_1
    have hs : z.2.2.2.length - i = (z.2.2.2.length - (i + 1)) + 1 := by omega
    refine X_aload_n (j := 0) dJ1_indexOfChar_4cfef_13 rfl rfl ?_
    refine X_iload (j := 3) dJ1_indexOfChar_4cfef_14 rfl ?_
    refine X_bs (v := (z.2.2.2.getD i 0)) rfl hz (vp_in_nI hlt (by have := lit_n hz; omega)) (by rw [nI_clamp (by have := lit_n hz; omega)]) dJ1_indexOfChar_4cfef_16 ?_
    refine X_iload (j := 2) dJ1_indexOfChar_4cfef_17 rfl ?_
    refine X_icmp_ne (tgt := 25) dJ1_indexOfChar_4cfef_19 (by decide) (fun c_2 => ?_) (fun c_2 => ?_)
    · refine X_iinc (v := nI (i + 1)) (j := 3) (lv' := [(5, ex_i (nI (i + 1))), (0, ex_r (20000 + k0)), (3, ex_i (nI z.2.2.2.length)), (4, ex_i v)]) dJ1_indexOfChar_4cfef_25 rfl (nI_1 i) (Nat.le_of_ble_eq_true rfl) rfl ?_
      refine X_goto (tgt := 7) dJ1_indexOfChar_4cfef_28 (by decide) ?_
      refine X_lv (lv' := [(0, ex_r (20000 + k0)), (3, ex_i (nI z.2.2.2.length)), (4, ex_i v), (5, ex_i (nI (i + 1)))]) [1, 2, 3, 0] rfl ?_
      exact ih (i + 1) (⟨hlt, by rw [hI.2, hs, ioG_n c_2]⟩) (by omega)
    · refine X_iload (j := 3) dJ1_indexOfChar_4cfef_22 rfl ?_
      exact X_iret ex_nI rfl dJ1_indexOfChar_4cfef_24 rfl (⟨rfl, (by rw [hI.2, hs, ioG_y c_2])⟩)

set_option maxHeartbeats 4000000 in
set_option maxRecDepth 100000 in
theorem e_J1_indexOf_4cfef (l : Launch) (k0 : Nat) (z : Lit) (v : Int32) (hz : lits[k0]? = some z) (h1 : 0 ≤ v.toInt) (h2 : v.toInt ≤ 127) (h0 : 0 < z.2.2.2.length) : ex_M l yJ1_indexOf_4cfef cJ1_indexOf_4cfef 4 (some .int) 1 40 [ex_r (20000 + k0), ex_i v, ex_i 0, ex_i (nI z.2.2.2.length)] [] (fun cs r => (cs = [] ∧ r = some (ex_i (ioG z.2.2.2 v z.2.2.2.length 0)))) := by
  refine X_meth (by decide) (Nat.le_of_ble_eq_true rfl) ?_
  refine X_iload_n (j := 1) dJ1_indexOf_4cfef_0 rfl rfl ?_
  refine X_callS (rest := []) (stk := []) co_J1_88 rfl ⟨(Nat.le_of_ble_eq_true rfl), (Nat.le_of_ble_eq_true rfl)⟩ (e_J1_canEncode_9a6ad l v h1 h2) dJ1_indexOf_4cfef_1 [] (show List.Perm [] (List.range 0) from by decide) rfl rfl rfl (Nat.le_of_ble_eq_true rfl) (fun cs1 r hq hk => ?_)
  rcases hq with ⟨rfl, rfl⟩
  refine X_if_ne (tgt := 9) dJ1_indexOf_4cfef_4 (by decide) (fun _ => ?_) (fun c_ => absurd c_ (by decide))
  refine X_iload_n (j := 2) dJ1_indexOf_4cfef_9 rfl rfl ?_
  refine X_iconst (v := 0) dJ1_indexOf_4cfef_10 (by decide) ?_
  refine X_mmax (v := 0) k_560 k_561 k_17 k_562 ⟨(Nat.le_of_ble_eq_true rfl), (Nat.le_of_ble_eq_true rfl)⟩ (Nat.le_of_ble_eq_true rfl) dJ1_indexOf_4cfef_11 (by decide) ?_
  refine X_istore_n (lv' := [(2, ex_i 0), (0, ex_r (20000 + k0)), (1, ex_i v), (3, ex_i (nI z.2.2.2.length))]) dJ1_indexOf_4cfef_14 rfl (Nat.le_of_ble_eq_true rfl) rfl ?_
  refine X_iload_n (j := 3) dJ1_indexOf_4cfef_15 rfl rfl ?_
  refine X_aload_n (j := 1) dJ1_indexOf_4cfef_16 rfl rfl ?_
  refine X_als (v := nI z.2.2.2.length) rfl hz rfl dJ1_indexOf_4cfef_17 ?_
  refine X_mmin (v := (nI z.2.2.2.length)) k_563 k_564 k_17 k_565 ⟨(Nat.le_of_ble_eq_true rfl), (Nat.le_of_ble_eq_true rfl)⟩ (Nat.le_of_ble_eq_true rfl) dJ1_indexOf_4cfef_18 (by rw [if_neg (fun q => by rw [Int32.lt_iff_toInt_lt] at q; omega)]) ?_
  refine X_istore_n (lv' := [(3, ex_i (nI z.2.2.2.length)), (2, ex_i 0), (0, ex_r (20000 + k0)), (1, ex_i v)]) dJ1_indexOf_4cfef_21 rfl (Nat.le_of_ble_eq_true rfl) rfl ?_
  refine X_iload_n (j := 1) dJ1_indexOf_4cfef_22 rfl rfl ?_
  refine X_iload_n (j := 0) dJ1_indexOf_4cfef_23 rfl rfl ?_
  refine X_icmp_lt (tgt := 29) dJ1_indexOf_4cfef_24 (by decide) (fun _ => ?_) (fun c_ => absurd (nI_lt (a := 0) h0 (by have := lit_n hz; omega)) c_)
  refine X_aload_n (j := 2) dJ1_indexOf_4cfef_29 rfl rfl ?_
  refine X_iload_n (j := 3) dJ1_indexOf_4cfef_30 rfl rfl ?_
  refine X_iload_n (j := 1) dJ1_indexOf_4cfef_31 rfl rfl ?_
  refine X_iload_n (j := 0) dJ1_indexOf_4cfef_32 rfl rfl ?_
  refine X_callS (rest := []) (stk := []) co_J1_95 rfl ⟨(Nat.le_of_ble_eq_true rfl), (Nat.le_of_ble_eq_true rfl)⟩ (e_J1_indexOfChar_4cfef l k0 z v hz h1 h2) dJ1_indexOf_4cfef_33 [] (show List.Perm [] (List.range 0) from by decide) rfl rfl rfl (Nat.le_of_ble_eq_true rfl) (fun cs1 r hq hk => ?_)
  rcases hq with ⟨rfl, rfl⟩
  exact X_iret ex_nI rfl dJ1_indexOf_4cfef_36 rfl (⟨rfl, rfl⟩)

set_option maxHeartbeats 4000000 in
set_option maxRecDepth 100000 in
theorem e_J0_indexOf_7cf53 (l : Launch) (k0 : Nat) (z : Lit) (v : Int32) (hz : lits[k0]? = some z) (h1 : 0 ≤ v.toInt) (h2 : v.toInt ≤ 127) (h0 : 0 < z.2.2.2.length) : ex_M l yJ0_indexOf_7cf53 cJ0_indexOf_7cf53 3 (some .int) 2 63 [ex_r (10000 + k0), ex_i v, ex_i 0] [] (fun cs r => (cs = [] ∧ r = some (ex_i (ioG z.2.2.2 v z.2.2.2.length 0)))) := by
  refine X_meth (by decide) (Nat.le_of_ble_eq_true rfl) ?_
  refine X_aload_n (j := 0) dJ0_indexOf_7cf53_0 rfl rfl ?_
  refine X_callT (k0 := k0) (rest := []) (stk := []) co_J0_492 rfl ⟨(Nat.le_of_ble_eq_true rfl), (Nat.le_of_ble_eq_true rfl)⟩ (e_J0_isLatin1_aae02 l k0 z hz) dJ0_indexOf_7cf53_1 [] (show List.Perm [] (List.range 0) from by decide) rfl rfl hz rfl rfl (Nat.le_of_ble_eq_true rfl) (fun cs1 r hq hk => ?_)
  rcases hq with ⟨rfl, rfl⟩
  refine X_if_eq (tgt := 23) dJ0_indexOf_7cf53_4 (by decide) (fun c_ => absurd c_ (by decide)) (fun _ => ?_)
  refine X_aload_n (j := 0) dJ0_indexOf_7cf53_7 rfl rfl ?_
  refine X_gfv (key' := (20000 + k0)) rfl rfl hz k_1963 dJ0_indexOf_7cf53_8 ?_
  refine X_iload_n (j := 1) dJ0_indexOf_7cf53_11 rfl rfl ?_
  refine X_iload_n (j := 2) dJ0_indexOf_7cf53_12 rfl rfl ?_
  refine X_aload_n (j := 0) dJ0_indexOf_7cf53_13 rfl rfl ?_
  refine X_callT (k0 := k0) (rest := []) (stk := [ex_i 0, ex_i v, ex_r (20000 + k0)]) co_J0_505 rfl ⟨(Nat.le_of_ble_eq_true rfl), (Nat.le_of_ble_eq_true rfl)⟩ (e_J0_length_8abf5 l k0 z hz) dJ0_indexOf_7cf53_14 [] (show List.Perm [] (List.range 0) from by decide) rfl rfl hz rfl rfl (Nat.le_of_ble_eq_true rfl) (fun cs1 r hq hk => ?_)
  rcases hq with ⟨rfl, rfl⟩
  refine X_callS (rest := []) (stk := []) co_J0_637 rfl ⟨(Nat.le_of_ble_eq_true rfl), (Nat.le_of_ble_eq_true rfl)⟩ (e_J1_indexOf_4cfef l k0 z v hz h1 h2 h0) dJ0_indexOf_7cf53_17 [] (show List.Perm [] (List.range 0) from by decide) rfl rfl rfl (Nat.le_of_ble_eq_true rfl) (fun cs1 r hq hk => ?_)
  rcases hq with ⟨rfl, rfl⟩
  refine X_goto (tgt := 36) dJ0_indexOf_7cf53_20 (by decide) ?_
  exact X_iret ex_nI rfl dJ0_indexOf_7cf53_36 rfl (⟨rfl, rfl⟩)

set_option maxHeartbeats 4000000 in
set_option maxRecDepth 100000 in
theorem e_J0_indexOf_0f7a4 (l : Launch) (k0 : Nat) (z : Lit) (v : Int32) (hz : lits[k0]? = some z) (h1 : 0 ≤ v.toInt) (h2 : v.toInt ≤ 127) (h0 : 0 < z.2.2.2.length) : ex_M l yJ0_indexOf_0f7a4 cJ0_indexOf_0f7a4 2 (some .int) 3 85 [ex_r (10000 + k0), ex_i v] [] (fun cs r => (cs = [] ∧ r = some (ex_i (ioG z.2.2.2 v z.2.2.2.length 0)))) := by
  refine X_meth (by decide) (Nat.le_of_ble_eq_true rfl) ?_
  refine X_aload_n (j := 0) dJ0_indexOf_0f7a4_0 rfl rfl ?_
  refine X_iload_n (j := 1) dJ0_indexOf_0f7a4_1 rfl rfl ?_
  refine X_iconst (v := 0) dJ0_indexOf_0f7a4_2 (by decide) ?_
  refine X_callT (k0 := k0) (rest := []) (stk := []) co_J0_633 rfl ⟨(Nat.le_of_ble_eq_true rfl), (Nat.le_of_ble_eq_true rfl)⟩ (e_J0_indexOf_7cf53 l k0 z v hz h1 h2 h0) dJ0_indexOf_0f7a4_3 [] (show List.Perm [] (List.range 0) from by decide) rfl rfl hz rfl rfl (Nat.le_of_ble_eq_true rfl) (fun cs1 r hq hk => ?_)
  rcases hq with ⟨rfl, rfl⟩
  exact X_iret ex_nI rfl dJ0_indexOf_0f7a4_6 rfl (⟨rfl, rfl⟩)
