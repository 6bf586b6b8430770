set_option maxHeartbeats 4000000 in
set_option maxRecDepth 100000 in
theorem law_rests (l : Launch) {p : Program} {e : Env} {s : State} {m : MethodId} {below : List Frame} {meth : Method} {c : Code} {b : Nat} {xs : Nat → Int32} (hlt : l.stackTraces = false) (C0 : lw_At p s m meth c b 7 xs) {D : va_G} {cy : Nat → ClassId} (hG : gk D cy s) {A : Nat → Prop} (hAd : A = fun q => s.heap.size ≤ q) (hZ : zx A s) (h_1 q_1 q_3 q_4 q_25 q_46 q_50 q_54 q_58 q_62 q_63 q_64 q_67 q_85 q_90 q_93 h_2 q_700_1 q_700_2 q_700_3 q_700_4 q_700_5 q_700_6 q_700_7 q_700_8 q_700_9 q_700_10 q_700_11 q_700_12 q_700_13 q_700_14 q_700_15 q_700_16 q_700_17 q_700_18 q_700_19 q_700_20 q_700_21 q_700_22 q_700_23 q_700_24 q_700_25 q_700_26 q_700_27 q_700_28 q_700_29 q_700_30 q_700_31 q_700_32 q_700_33 q_700_34 q_700_35 q_700_36 q_700_37 q_700_38 q_700_39 q_700_40 q_700_41 q_700_42 q_700_43 q_700_44 q_700_45 q_700_46 q_700_47 q_800 : Nat) {H : Heap} {locs : List Loc} (hP : va_P D vwCl [(h_1, .inr (11, [.ref q_1, .ref q_3, .ref q_4, .ref q_25, .ref q_46, .ref q_50, .ref q_54, .ref q_58, .ref q_62, .int 0, .int 0, .ref q_63, .ref q_64, .ref q_67, .ref q_85, .ref q_90, .ref q_93])), (q_93, .inl (cy 1, 25, .inl (fun _ => 0))), (h_2, .inr (12, [.int 0, .int 0, .ref q_700_1, .int 0, .int 0, .int 0, .int 0, .long 0, .int 0, .int 0, .ref q_700_2, .ref q_700_3, .ref q_700_4, .ref q_700_5, .ref q_700_6, .ref q_700_7, .ref q_700_8, .ref q_700_9, .ref q_700_10, .ref q_700_11, .ref q_700_12, .ref q_700_13, .ref q_700_14, .ref q_700_15, .ref q_700_16, .ref q_700_17, .int 0, .int 0, .ref q_700_18, .ref q_700_19, .ref q_700_20, .ref q_700_21, .ref q_700_22, .ref q_700_23, .ref q_700_24, .ref q_700_25, .ref q_700_26, .ref q_700_27, .ref q_700_28, .ref q_700_29, .int 0, .long 0, .ref q_700_30, .ref q_700_31, .ref q_700_32, .ref q_700_33, .ref q_700_34, .ref q_700_35, .ref q_700_36, .ref q_700_37, .ref q_700_38, .ref q_700_39, .ref q_700_40, .ref q_700_41, .int 0, .int 0, .int 0, .int 0, .ref q_700_42, .ref q_700_43, .ref q_700_44, .ref q_700_45, .int 0, .ref q_700_46, .ref q_700_47, .int 0, .long 0])), (q_800, .inl (cy 2, 1, .inr (.inl (fun _ => 0))))] H) (hD : va_D A [(h_1, .inr (11, [.ref q_1, .ref q_3, .ref q_4, .ref q_25, .ref q_46, .ref q_50, .ref q_54, .ref q_58, .ref q_62, .int 0, .int 0, .ref q_63, .ref q_64, .ref q_67, .ref q_85, .ref q_90, .ref q_93])), (q_93, .inl (cy 1, 25, .inl (fun _ => 0))), (h_2, .inr (12, [.int 0, .int 0, .ref q_700_1, .int 0, .int 0, .int 0, .int 0, .long 0, .int 0, .int 0, .ref q_700_2, .ref q_700_3, .ref q_700_4, .ref q_700_5, .ref q_700_6, .ref q_700_7, .ref q_700_8, .ref q_700_9, .ref q_700_10, .ref q_700_11, .ref q_700_12, .ref q_700_13, .ref q_700_14, .ref q_700_15, .ref q_700_16, .ref q_700_17, .int 0, .int 0, .ref q_700_18, .ref q_700_19, .ref q_700_20, .ref q_700_21, .ref q_700_22, .ref q_700_23, .ref q_700_24, .ref q_700_25, .ref q_700_26, .ref q_700_27, .ref q_700_28, .ref q_700_29, .int 0, .long 0, .ref q_700_30, .ref q_700_31, .ref q_700_32, .ref q_700_33, .ref q_700_34, .ref q_700_35, .ref q_700_36, .ref q_700_37, .ref q_700_38, .ref q_700_39, .ref q_700_40, .ref q_700_41, .int 0, .int 0, .int 0, .int 0, .ref q_700_42, .ref q_700_43, .ref q_700_44, .ref q_700_45, .int 0, .ref q_700_46, .ref q_700_47, .int 0, .long 0])), (q_800, .inl (cy 2, 1, .inr (.inl (fun _ => 0))))]) (hS : va_S A s.heap H locs) {ls : Array Slot} (hl : lv_has ls 7 [(4, .int 0), (3, .ref q_800), (2, .ref h_2), (1, .ref h_1), (0, .ref b)]) : W p l e room_1 s m #[Value.ref b] below meth c H locs 247 10830 (lw_Z below #[Value.ref b] s) (F0 m 885 ls []) := by
  obtain ⟨hx, hb, hr, hml, hown, hts0, hX, hbl, hlocks, hgv⟩ := C0
  have hts : ∀ w ∈ bigG, w.before #[Value.ref b] s = true := fun w h => hts0 w (bigG_in h)
  have hg := hts
  have hown : s.vm.findClass RL = some m.cls := hown
  have hA : ∀ q : Nat, s.heap.size ≤ q → A q := fun q h => by rw [hAd]; exact h
  have hbA : ¬ A b := by rw [hAd]; exact Nat.not_le.mpr hbl
  by_cases g_1 : xs 1 < 0
  · refine lv_aload_n hx hb dL_law_885 rfl (lv_at hl 3 rfl) ?_
    refine lv_aload_n hx hb dL_law_886 rfl (lv_at hl 4 rfl) ?_
    refine lv_iload hx hb dL_law_887 (lv_at hl 0 rfl) ?_
    refine lv_iconst (v := 1) hx hb dL_law_889 (by decide) ?_
    refine m_iadd (v := 1) hx hb dL_law_890 (by decide) ?_
    refine va_sld hx hb hX hbl hbA hS (vin (by decide)) dL_law_891 ?_
    refine m_as (v := xs 1) rfl ?_
    refine lv_aload_n hx hb dL_law_892 rfl (lv_at hl 4 rfl) ?_
    refine lv_iload hx hb dL_law_893 (lv_at hl 0 rfl) ?_
    refine lv_iconst (v := 2) hx hb dL_law_895 (by decide) ?_
    refine m_iadd (v := 2) hx hb dL_law_896 (by decide) ?_
    refine va_sld hx hb hX hbl hbA hS (vin (by decide)) dL_law_897 ?_
    refine m_as (v := xs 2) rfl ?_
    refine lv_aload_n hx hb dL_law_898 rfl (lv_at hl 4 rfl) ?_
    refine lv_iload hx hb dL_law_899 (lv_at hl 0 rfl) ?_
    refine lv_iconst (v := 3) hx hb dL_law_901 (by decide) ?_
    refine m_iadd (v := 3) hx hb dL_law_902 (by decide) ?_
    refine va_sld hx hb hX hbl hbA hS (vin (by decide)) dL_law_903 ?_
    refine m_as (v := xs 3) rfl ?_
    refine lv_aload_n hx hb dL_law_904 rfl (lv_at hl 1 rfl) ?_
    refine x_i (wr := [(h_2, .inr (12, [.int 0, .int 0, .ref q_700_1, .int 0, .int 0, .int 0, .int 0, .long 0, .int 0, .int 0, .ref q_700_2, .ref q_700_3, .ref q_700_4, .ref q_700_5, .ref q_700_6, .ref q_700_7, .ref q_700_8, .ref q_700_9, .ref q_700_10, .ref q_700_11, .ref q_700_12, .ref q_700_13, .ref q_700_14, .ref q_700_15, .ref q_700_16, .ref q_700_17, .int 0, .int 0, .ref q_700_18, .ref q_700_19, .ref q_700_20, .ref q_700_21, .ref q_700_22, .ref q_700_23, .ref q_700_24, .ref q_700_25, .ref q_700_26, .ref q_700_27, .ref q_700_28, .ref q_700_29, .int 0, .long 0, .ref q_700_30, .ref q_700_31, .ref q_700_32, .ref q_700_33, .ref q_700_34, .ref q_700_35, .ref q_700_36, .ref q_700_37, .ref q_700_38, .ref q_700_39, .ref q_700_40, .ref q_700_41, .int 0, .int 0, .int 0, .int 0, .ref q_700_42, .ref q_700_43, .ref q_700_44, .ref q_700_45, .int 0, .ref q_700_46, .ref q_700_47, .int 0, .long 0])), (q_800, .inl (cy 2, 1, .inr (.inl (fun _ => 0))))]) hP hD hS hA [0, 1] [2, 3] rfl rfl (by decide) (by decide) (vx_runSW (hh := [(0, 12, 15, 13)]) (As := [.ref h_1, .int (xs 1), .int (xs 2), .int (xs 3), .ref q_800]) (rest := []) ⟨hx, hb, hml, hown, hts⟩ (c_L_rests_th l hlt D cy h_1 q_1 q_3 q_4 q_25 q_46 q_50 q_54 q_58 q_62 q_63 q_64 q_67 q_85 q_90 q_93 q_800 (fun _ => 0) (xs 1) (xs 2) (xs 3) H.size (Or.inl g_1)) (vx_cwSW 5 hts gLrests rfl rfl rfl (by decide +kernel) ⟨(Nat.le_of_ble_eq_true rfl), (Nat.le_of_ble_eq_true rfl)⟩) (prexS hG hP hD hS hA hZ [0, 1] rfl (by decide)) rfl rfl hl.1 rfl (lv_room (Nat.le_of_ble_eq_true rfl)) dL_law_905 ⟨(Nat.le_of_ble_eq_true rfl), (Nat.le_of_ble_eq_true rfl)⟩) (fun r_2 H locs hB hj hS => ?_)
    obtain ⟨hres, hP1, hD1⟩ := hB
    subst hres
    obtain ⟨hP, hD⟩ := hj _ hP1 hD1
    have hP : va_P D vwCl [(h_2, .inr (12, [.int 0, .int 0, .ref q_700_1, .int 0, .int 0, .int 0, .int 0, .long 0, .int 0, .int 0, .ref q_700_2, .ref q_700_3, .ref q_700_4, .ref q_700_5, .ref q_700_6, .ref q_700_7, .ref q_700_8, .ref q_700_9, .ref q_700_10, .ref q_700_11, .ref q_700_12, .ref q_700_13, .ref q_700_14, .ref q_700_15, .ref q_700_16, .ref q_700_17, .int 0, .int 0, .ref q_700_18, .ref q_700_19, .ref q_700_20, .ref q_700_21, .ref q_700_22, .ref q_700_23, .ref q_700_24, .ref q_700_25, .ref q_700_26, .ref q_700_27, .ref q_700_28, .ref q_700_29, .int 0, .long 0, .ref q_700_30, .ref q_700_31, .ref q_700_32, .ref q_700_33, .ref q_700_34, .ref q_700_35, .ref q_700_36, .ref q_700_37, .ref q_700_38, .ref q_700_39, .ref q_700_40, .ref q_700_41, .int 0, .int 0, .int 0, .int 0, .ref q_700_42, .ref q_700_43, .ref q_700_44, .ref q_700_45, .int 0, .ref q_700_46, .ref q_700_47, .int 0, .long 0])), (q_800, .inl (cy 2, 1, .inr (.inl (fun _ => 0))))] H := hP
    have hD : va_D A [(h_2, .inr (12, [.int 0, .int 0, .ref q_700_1, .int 0, .int 0, .int 0, .int 0, .long 0, .int 0, .int 0, .ref q_700_2, .ref q_700_3, .ref q_700_4, .ref q_700_5, .ref q_700_6, .ref q_700_7, .ref q_700_8, .ref q_700_9, .ref q_700_10, .ref q_700_11, .ref q_700_12, .ref q_700_13, .ref q_700_14, .ref q_700_15, .ref q_700_16, .ref q_700_17, .int 0, .int 0, .ref q_700_18, .ref q_700_19, .ref q_700_20, .ref q_700_21, .ref q_700_22, .ref q_700_23, .ref q_700_24, .ref q_700_25, .ref q_700_26, .ref q_700_27, .ref q_700_28, .ref q_700_29, .int 0, .long 0, .ref q_700_30, .ref q_700_31, .ref q_700_32, .ref q_700_33, .ref q_700_34, .ref q_700_35, .ref q_700_36, .ref q_700_37, .ref q_700_38, .ref q_700_39, .ref q_700_40, .ref q_700_41, .int 0, .int 0, .int 0, .int 0, .ref q_700_42, .ref q_700_43, .ref q_700_44, .ref q_700_45, .int 0, .ref q_700_46, .ref q_700_47, .int 0, .long 0])), (q_800, .inl (cy 2, 1, .inr (.inl (fun _ => 0))))] := hD
    refine W.widen (k := 248) (n := 10836) (Nat.le_of_ble_eq_true rfl) (Nat.le_of_ble_eq_true rfl) ?_
    refine lv_istore (lv' := [(5, .int 1), (4, .int 0), (3, .ref q_800), (2, .ref h_2), (1, .ref h_1), (0, .ref b)]) hx hb dL_law_908 hl (by decide) rfl (fun ls hl => ?_)
    refine lv_aload_n hx hb dL_law_910 rfl (lv_at hl 3 rfl) ?_
    refine lv_aload_n hx hb dL_law_911 rfl (lv_at hl 5 rfl) ?_
    refine lv_iload hx hb dL_law_912 (lv_at hl 1 rfl) ?_
    refine lv_iconst (v := 1) hx hb dL_law_914 (by decide) ?_
    refine m_iadd (v := 1) hx hb dL_law_915 (by decide) ?_
    refine va_sld hx hb hX hbl hbA hS (vin (by decide)) dL_law_916 ?_
    refine m_as (v := xs 1) rfl ?_
    refine lv_aload_n hx hb dL_law_917 rfl (lv_at hl 5 rfl) ?_
    refine lv_iload hx hb dL_law_918 (lv_at hl 1 rfl) ?_
    refine lv_iconst (v := 2) hx hb dL_law_920 (by decide) ?_
    refine m_iadd (v := 2) hx hb dL_law_921 (by decide) ?_
    refine va_sld hx hb hX hbl hbA hS (vin (by decide)) dL_law_922 ?_
    refine m_as (v := xs 2) rfl ?_
    refine lv_aload_n hx hb dL_law_923 rfl (lv_at hl 5 rfl) ?_
    refine lv_iload hx hb dL_law_924 (lv_at hl 1 rfl) ?_
    refine lv_iconst (v := 3) hx hb dL_law_926 (by decide) ?_
    refine m_iadd (v := 3) hx hb dL_law_927 (by decide) ?_
    refine va_sld hx hb hX hbl hbA hS (vin (by decide)) dL_law_928 ?_
    refine m_as (v := xs 3) rfl ?_
    refine x_i (wr := [(q_800, .inl (cy 2, 1, .inr (.inl (fun _ => 0))))]) hP hD hS hA [0] [1] rfl rfl (by decide) (by decide) (va_runV (As := [.int (xs 1), .int (xs 2), .int (xs 3)]) (rest := []) ⟨hx, hb, hml, hown, hts⟩ (c_X12_rests_1 l D cy h_2 q_700_1 q_700_2 q_700_3 q_700_4 q_700_5 q_700_6 q_700_7 q_700_8 q_700_9 q_700_10 q_700_11 q_700_12 q_700_13 q_700_14 q_700_15 q_700_16 q_700_17 q_700_18 q_700_19 q_700_20 q_700_21 q_700_22 q_700_23 q_700_24 q_700_25 q_700_26 q_700_27 q_700_28 q_700_29 q_700_30 q_700_31 q_700_32 q_700_33 q_700_34 q_700_35 q_700_36 q_700_37 q_700_38 q_700_39 q_700_40 q_700_41 q_700_42 q_700_43 q_700_44 q_700_45 q_700_46 q_700_47 (xs 1) (xs 2) (xs 3) H.size g_1) (cwV 3 hts (gV0 km_L_110 ki_X12_rests kz_X12_rests kn_X12 kc_X12_rests) rfl rfl rfl (by decide +kernel) ⟨(Nat.le_of_ble_eq_true rfl), (Nat.le_of_ble_eq_true rfl)⟩) (preV hG hP hD [0] rfl (by decide) 12 0 rfl rfl) rfl rfl hl.1 rfl (lv_room (Nat.le_of_ble_eq_true rfl)) dL_law_929 ⟨(Nat.le_of_ble_eq_true rfl), (Nat.le_of_ble_eq_true rfl)⟩) (fun r_3 H locs hB hj hS => ?_)
    obtain ⟨hres, hP1, hD1⟩ := hB
    subst hres
    obtain ⟨hP, hD⟩ := hj _ hP1 hD1
    have hP : va_P D vwCl [(q_800, .inl (cy 2, 1, .inr (.inl (fun _ => 0)))), (h_2, .inr (12, [.int 1, .int 0, .ref q_700_1, .int 0, .int 0, .int 0, .int 0, .long 0, .int 0, .int 0, .ref q_700_2, .ref q_700_3, .ref q_700_4, .ref q_700_5, .ref q_700_6, .ref q_700_7, .ref q_700_8, .ref q_700_9, .ref q_700_10, .ref q_700_11, .ref q_700_12, .ref q_700_13, .ref q_700_14, .ref q_700_15, .ref q_700_16, .ref q_700_17, .int 0, .int 0, .ref q_700_18, .ref q_700_19, .ref q_700_20, .ref q_700_21, .ref q_700_22, .ref q_700_23, .ref q_700_24, .ref q_700_25, .ref q_700_26, .ref q_700_27, .ref q_700_28, .ref q_700_29, .int 0, .long 0, .ref q_700_30, .ref q_700_31, .ref q_700_32, .ref q_700_33, .ref q_700_34, .ref q_700_35, .ref q_700_36, .ref q_700_37, .ref q_700_38, .ref q_700_39, .ref q_700_40, .ref q_700_41, .int 0, .int 0, .int 0, .int 0, .ref q_700_42, .ref q_700_43, .ref q_700_44, .ref q_700_45, .int 0, .ref q_700_46, .ref q_700_47, .int 0, .long 0]))] H := hP
    have hD : va_D A [(q_800, .inl (cy 2, 1, .inr (.inl (fun _ => 0)))), (h_2, .inr (12, [.int 1, .int 0, .ref q_700_1, .int 0, .int 0, .int 0, .int 0, .long 0, .int 0, .int 0, .ref q_700_2, .ref q_700_3, .ref q_700_4, .ref q_700_5, .ref q_700_6, .ref q_700_7, .ref q_700_8, .ref q_700_9, .ref q_700_10, .ref q_700_11, .ref q_700_12, .ref q_700_13, .ref q_700_14, .ref q_700_15, .ref q_700_16, .ref q_700_17, .int 0, .int 0, .ref q_700_18, .ref q_700_19, .ref q_700_20, .ref q_700_21, .ref q_700_22, .ref q_700_23, .ref q_700_24, .ref q_700_25, .ref q_700_26, .ref q_700_27, .ref q_700_28, .ref q_700_29, .int 0, .long 0, .ref q_700_30, .ref q_700_31, .ref q_700_32, .ref q_700_33, .ref q_700_34, .ref q_700_35, .ref q_700_36, .ref q_700_37, .ref q_700_38, .ref q_700_39, .ref q_700_40, .ref q_700_41, .int 0, .int 0, .int 0, .int 0, .ref q_700_42, .ref q_700_43, .ref q_700_44, .ref q_700_45, .int 0, .ref q_700_46, .ref q_700_47, .int 0, .long 0]))] := hD
    refine lv_istore (lv' := [(6, .int 0), (5, .int 1), (4, .int 0), (3, .ref q_800), (2, .ref h_2), (1, .ref h_1), (0, .ref b)]) hx hb dL_law_932 hl (by decide) rfl (fun ls hl => ?_)
    refine lv_aload_n hx hb dL_law_934 rfl (lv_at hl 4 rfl) ?_
    refine x_i (wr := [(q_800, .inl (cy 2, 1, .inr (.inl (fun _ => 0))))]) hP hD hS hA [1] [0] rfl rfl (by decide) (by decide) (va_runV (As := []) (rest := []) ⟨hx, hb, hml, hown, hts⟩ (c_X12_thrown_1 l D cy h_2 q_700_1 q_700_2 q_700_3 q_700_4 q_700_5 q_700_6 q_700_7 q_700_8 q_700_9 q_700_10 q_700_11 q_700_12 q_700_13 q_700_14 q_700_15 q_700_16 q_700_17 q_700_18 q_700_19 q_700_20 q_700_21 q_700_22 q_700_23 q_700_24 q_700_25 q_700_26 q_700_27 q_700_28 q_700_29 q_700_30 q_700_31 q_700_32 q_700_33 q_700_34 q_700_35 q_700_36 q_700_37 q_700_38 q_700_39 q_700_40 q_700_41 q_700_42 q_700_43 q_700_44 q_700_45 q_700_46 q_700_47 H.size) (cwV 0 hts (gV0 km_L_111 ki_X12_thrown kz_X12_thrown kn_X12 kc_X12_thrown) rfl rfl rfl (by decide +kernel) ⟨(Nat.le_of_ble_eq_true rfl), (Nat.le_of_ble_eq_true rfl)⟩) (preV hG hP hD [1] rfl (by decide) 12 1 rfl rfl) rfl rfl hl.1 rfl (lv_room (Nat.le_of_ble_eq_true rfl)) dL_law_935 ⟨(Nat.le_of_ble_eq_true rfl), (Nat.le_of_ble_eq_true rfl)⟩) (fun r_4 H locs hB hj hS => ?_)
    obtain ⟨hres, hP1, hD1⟩ := hB
    subst hres
    obtain ⟨hP, hD⟩ := hj _ hP1 hD1
    have hP : va_P D vwCl [(q_800, .inl (cy 2, 1, .inr (.inl (fun _ => 0)))), (h_2, .inr (12, [.int 1, .int 0, .ref q_700_1, .int 0, .int 0, .int 0, .int 0, .long 0, .int 0, .int 0, .ref q_700_2, .ref q_700_3, .ref q_700_4, .ref q_700_5, .ref q_700_6, .ref q_700_7, .ref q_700_8, .ref q_700_9, .ref q_700_10, .ref q_700_11, .ref q_700_12, .ref q_700_13, .ref q_700_14, .ref q_700_15, .ref q_700_16, .ref q_700_17, .int 0, .int 0, .ref q_700_18, .ref q_700_19, .ref q_700_20, .ref q_700_21, .ref q_700_22, .ref q_700_23, .ref q_700_24, .ref q_700_25, .ref q_700_26, .ref q_700_27, .ref q_700_28, .ref q_700_29, .int 0, .long 0, .ref q_700_30, .ref q_700_31, .ref q_700_32, .ref q_700_33, .ref q_700_34, .ref q_700_35, .ref q_700_36, .ref q_700_37, .ref q_700_38, .ref q_700_39, .ref q_700_40, .ref q_700_41, .int 0, .int 0, .int 0, .int 0, .ref q_700_42, .ref q_700_43, .ref q_700_44, .ref q_700_45, .int 0, .ref q_700_46, .ref q_700_47, .int 0, .long 0]))] H := hP
    have hD : va_D A [(q_800, .inl (cy 2, 1, .inr (.inl (fun _ => 0)))), (h_2, .inr (12, [.int 1, .int 0, .ref q_700_1, .int 0, .int 0, .int 0, .int 0, .long 0, .int 0, .int 0, .ref q_700_2, .ref q_700_3, .ref q_700_4, .ref q_700_5, .ref q_700_6, .ref q_700_7, .ref q_700_8, .ref q_700_9, .ref q_700_10, .ref q_700_11, .ref q_700_12, .ref q_700_13, .ref q_700_14, .ref q_700_15, .ref q_700_16, .ref q_700_17, .int 0, .int 0, .ref q_700_18, .ref q_700_19, .ref q_700_20, .ref q_700_21, .ref q_700_22, .ref q_700_23, .ref q_700_24, .ref q_700_25, .ref q_700_26, .ref q_700_27, .ref q_700_28, .ref q_700_29, .int 0, .long 0, .ref q_700_30, .ref q_700_31, .ref q_700_32, .ref q_700_33, .ref q_700_34, .ref q_700_35, .ref q_700_36, .ref q_700_37, .ref q_700_38, .ref q_700_39, .ref q_700_40, .ref q_700_41, .int 0, .int 0, .int 0, .int 0, .ref q_700_42, .ref q_700_43, .ref q_700_44, .ref q_700_45, .int 0, .ref q_700_46, .ref q_700_47, .int 0, .long 0]))] := hD
    refine lv_iload hx hb dL_law_938 (lv_at hl 1 rfl) ?_
    refine lv_icmp_eq (tgt := 945) hx hb dL_law_940 (by decide) (fun _ => ?_) (fun c_ => absurd rfl c_)
    refine lv_iload hx hb dL_law_945 (lv_at hl 1 rfl) ?_
    refine lv_if_ne (tgt := 962) hx hb dL_law_947 (by decide) (fun _ => ?_) (fun c_ => absurd c_ (by decide))
    refine lv_goto (tgt := 1092) hx hb dL_law_962 (by decide) ?_
    refine lv_iinc (v := 7) (lv' := [(4, .int 7), (6, .int 0), (5, .int 1), (3, .ref q_800), (2, .ref h_2), (1, .ref h_1), (0, .ref b)]) hx hb dL_law_1092 hl (k := 2) rfl (by decide) (by decide) rfl (fun ls hl => ?_)
    refine lv_goto (tgt := 23) hx hb dL_law_1095 (by decide) ?_
    refine lv_iload hx hb dL_law_23 (lv_at hl 0 rfl) ?_
    refine lv_aload_n hx hb dL_law_25 rfl (lv_at hl 6 rfl) ?_
    refine va_slen hx hb hX hbl hbA hS dL_law_26 ?_
    refine m_as (v := 7) rfl ?_
    refine lv_bipush (v := 7) hx hb dL_law_27 (by decide) ?_
    refine m_isub (v := 0) hx hb dL_law_29 (by decide) ?_
    refine lv_icmp_gt (tgt := 1098) hx hb dL_law_30 (by decide) (fun _ => ?_) (fun c_ => absurd (by decide) c_)
    refine lv_iconst (v := 1) hx hb dL_law_1098 (by decide) ?_
    exact lw_end hx hb hr hlocks hAd hS (Nat.le_of_ble_eq_true rfl) (Nat.le_of_ble_eq_true rfl) dL_law_1099
  · by_cases g_5 : 20 < xs 1
    · refine lv_aload_n hx hb dL_law_885 rfl (lv_at hl 3 rfl) ?_
      refine lv_aload_n hx hb dL_law_886 rfl (lv_at hl 4 rfl) ?_
      refine lv_iload hx hb dL_law_887 (lv_at hl 0 rfl) ?_
      refine lv_iconst (v := 1) hx hb dL_law_889 (by decide) ?_
      refine m_iadd (v := 1) hx hb dL_law_890 (by decide) ?_
      refine va_sld hx hb hX hbl hbA hS (vin (by decide)) dL_law_891 ?_
      refine m_as (v := xs 1) rfl ?_
      refine lv_aload_n hx hb dL_law_892 rfl (lv_at hl 4 rfl) ?_
      refine lv_iload hx hb dL_law_893 (lv_at hl 0 rfl) ?_
      refine lv_iconst (v := 2) hx hb dL_law_895 (by decide) ?_
      refine m_iadd (v := 2) hx hb dL_law_896 (by decide) ?_
      refine va_sld hx hb hX hbl hbA hS (vin (by decide)) dL_law_897 ?_
      refine m_as (v := xs 2) rfl ?_
      refine lv_aload_n hx hb dL_law_898 rfl (lv_at hl 4 rfl) ?_
      refine lv_iload hx hb dL_law_899 (lv_at hl 0 rfl) ?_
      refine lv_iconst (v := 3) hx hb dL_law_901 (by decide) ?_
      refine m_iadd (v := 3) hx hb dL_law_902 (by decide) ?_
      refine va_sld hx hb hX hbl hbA hS (vin (by decide)) dL_law_903 ?_
      refine m_as (v := xs 3) rfl ?_
      refine lv_aload_n hx hb dL_law_904 rfl (lv_at hl 1 rfl) ?_
      refine x_i (wr := [(h_2, .inr (12, [.int 0, .int 0, .ref q_700_1, .int 0, .int 0, .int 0, .int 0, .long 0, .int 0, .int 0, .ref q_700_2, .ref q_700_3, .ref q_700_4, .ref q_700_5, .ref q_700_6, .ref q_700_7, .ref q_700_8, .ref q_700_9, .ref q_700_10, .ref q_700_11, .ref q_700_12, .ref q_700_13, .ref q_700_14, .ref q_700_15, .ref q_700_16, .ref q_700_17, .int 0, .int 0, .ref q_700_18, .ref q_700_19, .ref q_700_20, .ref q_700_21, .ref q_700_22, .ref q_700_23, .ref q_700_24, .ref q_700_25, .ref q_700_26, .ref q_700_27, .ref q_700_28, .ref q_700_29, .int 0, .long 0, .ref q_700_30, .ref q_700_31, .ref q_700_32, .ref q_700_33, .ref q_700_34, .ref q_700_35, .ref q_700_36, .ref q_700_37, .ref q_700_38, .ref q_700_39, .ref q_700_40, .ref q_700_41, .int 0, .int 0, .int 0, .int 0, .ref q_700_42, .ref q_700_43, .ref q_700_44, .ref q_700_45, .int 0, .ref q_700_46, .ref q_700_47, .int 0, .long 0])), (q_800, .inl (cy 2, 1, .inr (.inl (fun _ => 0))))]) hP hD hS hA [0, 1] [2, 3] rfl rfl (by decide) (by decide) (vx_runSW (hh := [(0, 12, 15, 13)]) (As := [.ref h_1, .int (xs 1), .int (xs 2), .int (xs 3), .ref q_800]) (rest := []) ⟨hx, hb, hml, hown, hts⟩ (c_L_rests_th l hlt D cy h_1 q_1 q_3 q_4 q_25 q_46 q_50 q_54 q_58 q_62 q_63 q_64 q_67 q_85 q_90 q_93 q_800 (fun _ => 0) (xs 1) (xs 2) (xs 3) H.size (Or.inr (Or.inl g_5))) (vx_cwSW 5 hts gLrests rfl rfl rfl (by decide +kernel) ⟨(Nat.le_of_ble_eq_true rfl), (Nat.le_of_ble_eq_true rfl)⟩) (prexS hG hP hD hS hA hZ [0, 1] rfl (by decide)) rfl rfl hl.1 rfl (lv_room (Nat.le_of_ble_eq_true rfl)) dL_law_905 ⟨(Nat.le_of_ble_eq_true rfl), (Nat.le_of_ble_eq_true rfl)⟩) (fun r_6 H locs hB hj hS => ?_)
      obtain ⟨hres, hP1, hD1⟩ := hB
      subst hres
      obtain ⟨hP, hD⟩ := hj _ hP1 hD1
      have hP : va_P D vwCl [(h_2, .inr (12, [.int 0, .int 0, .ref q_700_1, .int 0, .int 0, .int 0, .int 0, .long 0, .int 0, .int 0, .ref q_700_2, .ref q_700_3, .ref q_700_4, .ref q_700_5, .ref q_700_6, .ref q_700_7, .ref q_700_8, .ref q_700_9, .ref q_700_10, .ref q_700_11, .ref q_700_12, .ref q_700_13, .ref q_700_14, .ref q_700_15, .ref q_700_16, .ref q_700_17, .int 0, .int 0, .ref q_700_18, .ref q_700_19, .ref q_700_20, .ref q_700_21, .ref q_700_22, .ref q_700_23, .ref q_700_24, .ref q_700_25, .ref q_700_26, .ref q_700_27, .ref q_700_28, .ref q_700_29, .int 0, .long 0, .ref q_700_30, .ref q_700_31, .ref q_700_32, .ref q_700_33, .ref q_700_34, .ref q_700_35, .ref q_700_36, .ref q_700_37, .ref q_700_38, .ref q_700_39, .ref q_700_40, .ref q_700_41, .int 0, .int 0, .int 0, .int 0, .ref q_700_42, .ref q_700_43, .ref q_700_44, .ref q_700_45, .int 0, .ref q_700_46, .ref q_700_47, .int 0, .long 0])), (q_800, .inl (cy 2, 1, .inr (.inl (fun _ => 0))))] H := hP
      have hD : va_D A [(h_2, .inr (12, [.int 0, .int 0, .ref q_700_1, .int 0, .int 0, .int 0, .int 0, .long 0, .int 0, .int 0, .ref q_700_2, .ref q_700_3, .ref q_700_4, .ref q_700_5, .ref q_700_6, .ref q_700_7, .ref q_700_8, .ref q_700_9, .ref q_700_10, .ref q_700_11, .ref q_700_12, .ref q_700_13, .ref q_700_14, .ref q_700_15, .ref q_700_16, .ref q_700_17, .int 0, .int 0, .ref q_700_18, .ref q_700_19, .ref q_700_20, .ref q_700_21, .ref q_700_22, .ref q_700_23, .ref q_700_24, .ref q_700_25, .ref q_700_26, .ref q_700_27, .ref q_700_28, .ref q_700_29, .int 0, .long 0, .ref q_700_30, .ref q_700_31, .ref q_700_32, .ref q_700_33, .ref q_700_34, .ref q_700_35, .ref q_700_36, .ref q_700_37, .ref q_700_38, .ref q_700_39, .ref q_700_40, .ref q_700_41, .int 0, .int 0, .int 0, .int 0, .ref q_700_42, .ref q_700_43, .ref q_700_44, .ref q_700_45, .int 0, .ref q_700_46, .ref q_700_47, .int 0, .long 0])), (q_800, .inl (cy 2, 1, .inr (.inl (fun _ => 0))))] := hD
      refine W.widen (k := 248) (n := 10836) (Nat.le_of_ble_eq_true rfl) (Nat.le_of_ble_eq_true rfl) ?_
      refine lv_istore (lv' := [(5, .int 1), (4, .int 0), (3, .ref q_800), (2, .ref h_2), (1, .ref h_1), (0, .ref b)]) hx hb dL_law_908 hl (by decide) rfl (fun ls hl => ?_)
      refine lv_aload_n hx hb dL_law_910 rfl (lv_at hl 3 rfl) ?_
      refine lv_aload_n hx hb dL_law_911 rfl (lv_at hl 5 rfl) ?_
      refine lv_iload hx hb dL_law_912 (lv_at hl 1 rfl) ?_
      refine lv_iconst (v := 1) hx hb dL_law_914 (by decide) ?_
      refine m_iadd (v := 1) hx hb dL_law_915 (by decide) ?_
      refine va_sld hx hb hX hbl hbA hS (vin (by decide)) dL_law_916 ?_
      refine m_as (v := xs 1) rfl ?_
      refine lv_aload_n hx hb dL_law_917 rfl (lv_at hl 5 rfl) ?_
      refine lv_iload hx hb dL_law_918 (lv_at hl 1 rfl) ?_
      refine lv_iconst (v := 2) hx hb dL_law_920 (by decide) ?_
      refine m_iadd (v := 2) hx hb dL_law_921 (by decide) ?_
      refine va_sld hx hb hX hbl hbA hS (vin (by decide)) dL_law_922 ?_
      refine m_as (v := xs 2) rfl ?_
      refine lv_aload_n hx hb dL_law_923 rfl (lv_at hl 5 rfl) ?_
      refine lv_iload hx hb dL_law_924 (lv_at hl 1 rfl) ?_
      refine lv_iconst (v := 3) hx hb dL_law_926 (by decide) ?_
      refine m_iadd (v := 3) hx hb dL_law_927 (by decide) ?_
      refine va_sld hx hb hX hbl hbA hS (vin (by decide)) dL_law_928 ?_
      refine m_as (v := xs 3) rfl ?_
      refine x_i (wr := [(q_800, .inl (cy 2, 1, .inr (.inl (fun _ => 0))))]) hP hD hS hA [0] [1] rfl rfl (by decide) (by decide) (va_runV (As := [.int (xs 1), .int (xs 2), .int (xs 3)]) (rest := []) ⟨hx, hb, hml, hown, hts⟩ (c_X12_rests_2 l D cy h_2 q_700_1 q_700_2 q_700_3 q_700_4 q_700_5 q_700_6 q_700_7 q_700_8 q_700_9 q_700_10 q_700_11 q_700_12 q_700_13 q_700_14 q_700_15 q_700_16 q_700_17 q_700_18 q_700_19 q_700_20 q_700_21 q_700_22 q_700_23 q_700_24 q_700_25 q_700_26 q_700_27 q_700_28 q_700_29 q_700_30 q_700_31 q_700_32 q_700_33 q_700_34 q_700_35 q_700_36 q_700_37 q_700_38 q_700_39 q_700_40 q_700_41 q_700_42 q_700_43 q_700_44 q_700_45 q_700_46 q_700_47 (xs 1) (xs 2) (xs 3) H.size g_1 g_5) (cwV 3 hts (gV0 km_L_110 ki_X12_rests kz_X12_rests kn_X12 kc_X12_rests) rfl rfl rfl (by decide +kernel) ⟨(Nat.le_of_ble_eq_true rfl), (Nat.le_of_ble_eq_true rfl)⟩) (preV hG hP hD [0] rfl (by decide) 12 0 rfl rfl) rfl rfl hl.1 rfl (lv_room (Nat.le_of_ble_eq_true rfl)) dL_law_929 ⟨(Nat.le_of_ble_eq_true rfl), (Nat.le_of_ble_eq_true rfl)⟩) (fun r_7 H locs hB hj hS => ?_)
      obtain ⟨hres, hP1, hD1⟩ := hB
      subst hres
      obtain ⟨hP, hD⟩ := hj _ hP1 hD1
      have hP : va_P D vwCl [(q_800, .inl (cy 2, 1, .inr (.inl (fun _ => 0)))), (h_2, .inr (12, [.int 1, .int 0, .ref q_700_1, .int 0, .int 0, .int 0, .int 0, .long 0, .int 0, .int 0, .ref q_700_2, .ref q_700_3, .ref q_700_4, .ref q_700_5, .ref q_700_6, .ref q_700_7, .ref q_700_8, .ref q_700_9, .ref q_700_10, .ref q_700_11, .ref q_700_12, .ref q_700_13, .ref q_700_14, .ref q_700_15, .ref q_700_16, .ref q_700_17, .int 0, .int 0, .ref q_700_18, .ref q_700_19, .ref q_700_20, .ref q_700_21, .ref q_700_22, .ref q_700_23, .ref q_700_24, .ref q_700_25, .ref q_700_26, .ref q_700_27, .ref q_700_28, .ref q_700_29, .int 0, .long 0, .ref q_700_30, .ref q_700_31, .ref q_700_32, .ref q_700_33, .ref q_700_34, .ref q_700_35, .ref q_700_36, .ref q_700_37, .ref q_700_38, .ref q_700_39, .ref q_700_40, .ref q_700_41, .int 0, .int 0, .int 0, .int 0, .ref q_700_42, .ref q_700_43, .ref q_700_44, .ref q_700_45, .int 0, .ref q_700_46, .ref q_700_47, .int 0, .long 0]))] H := hP
      have hD : va_D A [(q_800, .inl (cy 2, 1, .inr (.inl (fun _ => 0)))), (h_2, .inr (12, [.int 1, .int 0, .ref q_700_1, .int 0, .int 0, .int 0, .int 0, .long 0, .int 0, .int 0, .ref q_700_2, .ref q_700_3, .ref q_700_4, .ref q_700_5, .ref q_700_6, .ref q_700_7, .ref q_700_8, .ref q_700_9, .ref q_700_10, .ref q_700_11, .ref q_700_12, .ref q_700_13, .ref q_700_14, .ref q_700_15, .ref q_700_16, .ref q_700_17, .int 0, .int 0, .ref q_700_18, .ref q_700_19, .ref q_700_20, .ref q_700_21, .ref q_700_22, .ref q_700_23, .ref q_700_24, .ref q_700_25, .ref q_700_26, .ref q_700_27, .ref q_700_28, .ref q_700_29, .int 0, .long 0, .ref q_700_30, .ref q_700_31, .ref q_700_32, .ref q_700_33, .ref q_700_34, .ref q_700_35, .ref q_700_36, .ref q_700_37, .ref q_700_38, .ref q_700_39, .ref q_700_40, .ref q_700_41, .int 0, .int 0, .int 0, .int 0, .ref q_700_42, .ref q_700_43, .ref q_700_44, .ref q_700_45, .int 0, .ref q_700_46, .ref q_700_47, .int 0, .long 0]))] := hD
      refine lv_istore (lv' := [(6, .int 0), (5, .int 1), (4, .int 0), (3, .ref q_800), (2, .ref h_2), (1, .ref h_1), (0, .ref b)]) hx hb dL_law_932 hl (by decide) rfl (fun ls hl => ?_)
      refine lv_aload_n hx hb dL_law_934 rfl (lv_at hl 4 rfl) ?_
      refine x_i (wr := [(q_800, .inl (cy 2, 1, .inr (.inl (fun _ => 0))))]) hP hD hS hA [1] [0] rfl rfl (by decide) (by decide) (va_runV (As := []) (rest := []) ⟨hx, hb, hml, hown, hts⟩ (c_X12_thrown_1 l D cy h_2 q_700_1 q_700_2 q_700_3 q_700_4 q_700_5 q_700_6 q_700_7 q_700_8 q_700_9 q_700_10 q_700_11 q_700_12 q_700_13 q_700_14 q_700_15 q_700_16 q_700_17 q_700_18 q_700_19 q_700_20 q_700_21 q_700_22 q_700_23 q_700_24 q_700_25 q_700_26 q_700_27 q_700_28 q_700_29 q_700_30 q_700_31 q_700_32 q_700_33 q_700_34 q_700_35 q_700_36 q_700_37 q_700_38 q_700_39 q_700_40 q_700_41 q_700_42 q_700_43 q_700_44 q_700_45 q_700_46 q_700_47 H.size) (cwV 0 hts (gV0 km_L_111 ki_X12_thrown kz_X12_thrown kn_X12 kc_X12_thrown) rfl rfl rfl (by decide +kernel) ⟨(Nat.le_of_ble_eq_true rfl), (Nat.le_of_ble_eq_true rfl)⟩) (preV hG hP hD [1] rfl (by decide) 12 1 rfl rfl) rfl rfl hl.1 rfl (lv_room (Nat.le_of_ble_eq_true rfl)) dL_law_935 ⟨(Nat.le_of_ble_eq_true rfl), (Nat.le_of_ble_eq_true rfl)⟩) (fun r_8 H locs hB hj hS => ?_)
      obtain ⟨hres, hP1, hD1⟩ := hB
      subst hres
      obtain ⟨hP, hD⟩ := hj _ hP1 hD1
      have hP : va_P D vwCl [(q_800, .inl (cy 2, 1, .inr (.inl (fun _ => 0)))), (h_2, .inr (12, [.int 1, .int 0, .ref q_700_1, .int 0, .int 0, .int 0, .int 0, .long 0, .int 0, .int 0, .ref q_700_2, .ref q_700_3, .ref q_700_4, .ref q_700_5, .ref q_700_6, .ref q_700_7, .ref q_700_8, .ref q_700_9, .ref q_700_10, .ref q_700_11, .ref q_700_12, .ref q_700_13, .ref q_700_14, .ref q_700_15, .ref q_700_16, .ref q_700_17, .int 0, .int 0, .ref q_700_18, .ref q_700_19, .ref q_700_20, .ref q_700_21, .ref q_700_22, .ref q_700_23, .ref q_700_24, .ref q_700_25, .ref q_700_26, .ref q_700_27, .ref q_700_28, .ref q_700_29, .int 0, .long 0, .ref q_700_30, .ref q_700_31, .ref q_700_32, .ref q_700_33, .ref q_700_34, .ref q_700_35, .ref q_700_36, .ref q_700_37, .ref q_700_38, .ref q_700_39, .ref q_700_40, .ref q_700_41, .int 0, .int 0, .int 0, .int 0, .ref q_700_42, .ref q_700_43, .ref q_700_44, .ref q_700_45, .int 0, .ref q_700_46, .ref q_700_47, .int 0, .long 0]))] H := hP
      have hD : va_D A [(q_800, .inl (cy 2, 1, .inr (.inl (fun _ => 0)))), (h_2, .inr (12, [.int 1, .int 0, .ref q_700_1, .int 0, .int 0, .int 0, .int 0, .long 0, .int 0, .int 0, .ref q_700_2, .ref q_700_3, .ref q_700_4, .ref q_700_5, .ref q_700_6, .ref q_700_7, .ref q_700_8, .ref q_700_9, .ref q_700_10, .ref q_700_11, .ref q_700_12, .ref q_700_13, .ref q_700_14, .ref q_700_15, .ref q_700_16, .ref q_700_17, .int 0, .int 0, .ref q_700_18, .ref q_700_19, .ref q_700_20, .ref q_700_21, .ref q_700_22, .ref q_700_23, .ref q_700_24, .ref q_700_25, .ref q_700_26, .ref q_700_27, .ref q_700_28, .ref q_700_29, .int 0, .long 0, .ref q_700_30, .ref q_700_31, .ref q_700_32, .ref q_700_33, .ref q_700_34, .ref q_700_35, .ref q_700_36, .ref q_700_37, .ref q_700_38, .ref q_700_39, .ref q_700_40, .ref q_700_41, .int 0, .int 0, .int 0, .int 0, .ref q_700_42, .ref q_700_43, .ref q_700_44, .ref q_700_45, .int 0, .ref q_700_46, .ref q_700_47, .int 0, .long 0]))] := hD
      refine lv_iload hx hb dL_law_938 (lv_at hl 1 rfl) ?_
      refine lv_icmp_eq (tgt := 945) hx hb dL_law_940 (by decide) (fun _ => ?_) (fun c_ => absurd rfl c_)
      refine lv_iload hx hb dL_law_945 (lv_at hl 1 rfl) ?_
      refine lv_if_ne (tgt := 962) hx hb dL_law_947 (by decide) (fun _ => ?_) (fun c_ => absurd c_ (by decide))
      refine lv_goto (tgt := 1092) hx hb dL_law_962 (by decide) ?_
      refine lv_iinc (v := 7) (lv' := [(4, .int 7), (6, .int 0), (5, .int 1), (3, .ref q_800), (2, .ref h_2), (1, .ref h_1), (0, .ref b)]) hx hb dL_law_1092 hl (k := 2) rfl (by decide) (by decide) rfl (fun ls hl => ?_)
      refine lv_goto (tgt := 23) hx hb dL_law_1095 (by decide) ?_
      refine lv_iload hx hb dL_law_23 (lv_at hl 0 rfl) ?_
      refine lv_aload_n hx hb dL_law_25 rfl (lv_at hl 6 rfl) ?_
      refine va_slen hx hb hX hbl hbA hS dL_law_26 ?_
      refine m_as (v := 7) rfl ?_
      refine lv_bipush (v := 7) hx hb dL_law_27 (by decide) ?_
      refine m_isub (v := 0) hx hb dL_law_29 (by decide) ?_
      refine lv_icmp_gt (tgt := 1098) hx hb dL_law_30 (by decide) (fun _ => ?_) (fun c_ => absurd (by decide) c_)
      refine lv_iconst (v := 1) hx hb dL_law_1098 (by decide) ?_
      exact lw_end hx hb hr hlocks hAd hS (Nat.le_of_ble_eq_true rfl) (Nat.le_of_ble_eq_true rfl) dL_law_1099
    · by_cases g_9 : xs 2 < 0
      · refine lv_aload_n hx hb dL_law_885 rfl (lv_at hl 3 rfl) ?_
        refine lv_aload_n hx hb dL_law_886 rfl (lv_at hl 4 rfl) ?_
        refine lv_iload hx hb dL_law_887 (lv_at hl 0 rfl) ?_
        refine lv_iconst (v := 1) hx hb dL_law_889 (by decide) ?_
        refine m_iadd (v := 1) hx hb dL_law_890 (by decide) ?_
        refine va_sld hx hb hX hbl hbA hS (vin (by decide)) dL_law_891 ?_
        refine m_as (v := xs 1) rfl ?_
        refine lv_aload_n hx hb dL_law_892 rfl (lv_at hl 4 rfl) ?_
        refine lv_iload hx hb dL_law_893 (lv_at hl 0 rfl) ?_
        refine lv_iconst (v := 2) hx hb dL_law_895 (by decide) ?_
        refine m_iadd (v := 2) hx hb dL_law_896 (by decide) ?_
        refine va_sld hx hb hX hbl hbA hS (vin (by decide)) dL_law_897 ?_
        refine m_as (v := xs 2) rfl ?_
        refine lv_aload_n hx hb dL_law_898 rfl (lv_at hl 4 rfl) ?_
        refine lv_iload hx hb dL_law_899 (lv_at hl 0 rfl) ?_
        refine lv_iconst (v := 3) hx hb dL_law_901 (by decide) ?_
        refine m_iadd (v := 3) hx hb dL_law_902 (by decide) ?_
        refine va_sld hx hb hX hbl hbA hS (vin (by decide)) dL_law_903 ?_
        refine m_as (v := xs 3) rfl ?_
        refine lv_aload_n hx hb dL_law_904 rfl (lv_at hl 1 rfl) ?_
        refine x_i (wr := [(h_2, .inr (12, [.int 0, .int 0, .ref q_700_1, .int 0, .int 0, .int 0, .int 0, .long 0, .int 0, .int 0, .ref q_700_2, .ref q_700_3, .ref q_700_4, .ref q_700_5, .ref q_700_6, .ref q_700_7, .ref q_700_8, .ref q_700_9, .ref q_700_10, .ref q_700_11, .ref q_700_12, .ref q_700_13, .ref q_700_14, .ref q_700_15, .ref q_700_16, .ref q_700_17, .int 0, .int 0, .ref q_700_18, .ref q_700_19, .ref q_700_20, .ref q_700_21, .ref q_700_22, .ref q_700_23, .ref q_700_24, .ref q_700_25, .ref q_700_26, .ref q_700_27, .ref q_700_28, .ref q_700_29, .int 0, .long 0, .ref q_700_30, .ref q_700_31, .ref q_700_32, .ref q_700_33, .ref q_700_34, .ref q_700_35, .ref q_700_36, .ref q_700_37, .ref q_700_38, .ref q_700_39, .ref q_700_40, .ref q_700_41, .int 0, .int 0, .int 0, .int 0, .ref q_700_42, .ref q_700_43, .ref q_700_44, .ref q_700_45, .int 0, .ref q_700_46, .ref q_700_47, .int 0, .long 0])), (q_800, .inl (cy 2, 1, .inr (.inl (fun _ => 0))))]) hP hD hS hA [0, 1] [2, 3] rfl rfl (by decide) (by decide) (vx_runSW (hh := [(0, 12, 15, 13)]) (As := [.ref h_1, .int (xs 1), .int (xs 2), .int (xs 3), .ref q_800]) (rest := []) ⟨hx, hb, hml, hown, hts⟩ (c_L_rests_th l hlt D cy h_1 q_1 q_3 q_4 q_25 q_46 q_50 q_54 q_58 q_62 q_63 q_64 q_67 q_85 q_90 q_93 q_800 (fun _ => 0) (xs 1) (xs 2) (xs 3) H.size (Or.inr (Or.inr (Or.inl g_9)))) (vx_cwSW 5 hts gLrests rfl rfl rfl (by decide +kernel) ⟨(Nat.le_of_ble_eq_true rfl), (Nat.le_of_ble_eq_true rfl)⟩) (prexS hG hP hD hS hA hZ [0, 1] rfl (by decide)) rfl rfl hl.1 rfl (lv_room (Nat.le_of_ble_eq_true rfl)) dL_law_905 ⟨(Nat.le_of_ble_eq_true rfl), (Nat.le_of_ble_eq_true rfl)⟩) (fun r_10 H locs hB hj hS => ?_)
        obtain ⟨hres, hP1, hD1⟩ := hB
        subst hres
        obtain ⟨hP, hD⟩ := hj _ hP1 hD1
        have hP : va_P D vwCl [(h_2, .inr (12, [.int 0, .int 0, .ref q_700_1, .int 0, .int 0, .int 0, .int 0, .long 0, .int 0, .int 0, .ref q_700_2, .ref q_700_3, .ref q_700_4, .ref q_700_5, .ref q_700_6, .ref q_700_7, .ref q_700_8, .ref q_700_9, .ref q_700_10, .ref q_700_11, .ref q_700_12, .ref q_700_13, .ref q_700_14, .ref q_700_15, .ref q_700_16, .ref q_700_17, .int 0, .int 0, .ref q_700_18, .ref q_700_19, .ref q_700_20, .ref q_700_21, .ref q_700_22, .ref q_700_23, .ref q_700_24, .ref q_700_25, .ref q_700_26, .ref q_700_27, .ref q_700_28, .ref q_700_29, .int 0, .long 0, .ref q_700_30, .ref q_700_31, .ref q_700_32, .ref q_700_33, .ref q_700_34, .ref q_700_35, .ref q_700_36, .ref q_700_37, .ref q_700_38, .ref q_700_39, .ref q_700_40, .ref q_700_41, .int 0, .int 0, .int 0, .int 0, .ref q_700_42, .ref q_700_43, .ref q_700_44, .ref q_700_45, .int 0, .ref q_700_46, .ref q_700_47, .int 0, .long 0])), (q_800, .inl (cy 2, 1, .inr (.inl (fun _ => 0))))] H := hP
        have hD : va_D A [(h_2, .inr (12, [.int 0, .int 0, .ref q_700_1, .int 0, .int 0, .int 0, .int 0, .long 0, .int 0, .int 0, .ref q_700_2, .ref q_700_3, .ref q_700_4, .ref q_700_5, .ref q_700_6, .ref q_700_7, .ref q_700_8, .ref q_700_9, .ref q_700_10, .ref q_700_11, .ref q_700_12, .ref q_700_13, .ref q_700_14, .ref q_700_15, .ref q_700_16, .ref q_700_17, .int 0, .int 0, .ref q_700_18, .ref q_700_19, .ref q_700_20, .ref q_700_21, .ref q_700_22, .ref q_700_23, .ref q_700_24, .ref q_700_25, .ref q_700_26, .ref q_700_27, .ref q_700_28, .ref q_700_29, .int 0, .long 0, .ref q_700_30, .ref q_700_31, .ref q_700_32, .ref q_700_33, .ref q_700_34, .ref q_700_35, .ref q_700_36, .ref q_700_37, .ref q_700_38, .ref q_700_39, .ref q_700_40, .ref q_700_41, .int 0, .int 0, .int 0, .int 0, .ref q_700_42, .ref q_700_43, .ref q_700_44, .ref q_700_45, .int 0, .ref q_700_46, .ref q_700_47, .int 0, .long 0])), (q_800, .inl (cy 2, 1, .inr (.inl (fun _ => 0))))] := hD
        refine W.widen (k := 248) (n := 10836) (Nat.le_of_ble_eq_true rfl) (Nat.le_of_ble_eq_true rfl) ?_
        refine lv_istore (lv' := [(5, .int 1), (4, .int 0), (3, .ref q_800), (2, .ref h_2), (1, .ref h_1), (0, .ref b)]) hx hb dL_law_908 hl (by decide) rfl (fun ls hl => ?_)
        refine lv_aload_n hx hb dL_law_910 rfl (lv_at hl 3 rfl) ?_
        refine lv_aload_n hx hb dL_law_911 rfl (lv_at hl 5 rfl) ?_
        refine lv_iload hx hb dL_law_912 (lv_at hl 1 rfl) ?_
        refine lv_iconst (v := 1) hx hb dL_law_914 (by decide) ?_
        refine m_iadd (v := 1) hx hb dL_law_915 (by decide) ?_
        refine va_sld hx hb hX hbl hbA hS (vin (by decide)) dL_law_916 ?_
        refine m_as (v := xs 1) rfl ?_
        refine lv_aload_n hx hb dL_law_917 rfl (lv_at hl 5 rfl) ?_
        refine lv_iload hx hb dL_law_918 (lv_at hl 1 rfl) ?_
        refine lv_iconst (v := 2) hx hb dL_law_920 (by decide) ?_
        refine m_iadd (v := 2) hx hb dL_law_921 (by decide) ?_
        refine va_sld hx hb hX hbl hbA hS (vin (by decide)) dL_law_922 ?_
        refine m_as (v := xs 2) rfl ?_
        refine lv_aload_n hx hb dL_law_923 rfl (lv_at hl 5 rfl) ?_
        refine lv_iload hx hb dL_law_924 (lv_at hl 1 rfl) ?_
        refine lv_iconst (v := 3) hx hb dL_law_926 (by decide) ?_
        refine m_iadd (v := 3) hx hb dL_law_927 (by decide) ?_
        refine va_sld hx hb hX hbl hbA hS (vin (by decide)) dL_law_928 ?_
        refine m_as (v := xs 3) rfl ?_
        refine x_i (wr := [(q_800, .inl (cy 2, 1, .inr (.inl (fun _ => 0))))]) hP hD hS hA [0] [1] rfl rfl (by decide) (by decide) (va_runV (As := [.int (xs 1), .int (xs 2), .int (xs 3)]) (rest := []) ⟨hx, hb, hml, hown, hts⟩ (c_X12_rests_3 l D cy h_2 q_700_1 q_700_2 q_700_3 q_700_4 q_700_5 q_700_6 q_700_7 q_700_8 q_700_9 q_700_10 q_700_11 q_700_12 q_700_13 q_700_14 q_700_15 q_700_16 q_700_17 q_700_18 q_700_19 q_700_20 q_700_21 q_700_22 q_700_23 q_700_24 q_700_25 q_700_26 q_700_27 q_700_28 q_700_29 q_700_30 q_700_31 q_700_32 q_700_33 q_700_34 q_700_35 q_700_36 q_700_37 q_700_38 q_700_39 q_700_40 q_700_41 q_700_42 q_700_43 q_700_44 q_700_45 q_700_46 q_700_47 (xs 1) (xs 2) (xs 3) H.size g_1 g_5 g_9) (cwV 3 hts (gV0 km_L_110 ki_X12_rests kz_X12_rests kn_X12 kc_X12_rests) rfl rfl rfl (by decide +kernel) ⟨(Nat.le_of_ble_eq_true rfl), (Nat.le_of_ble_eq_true rfl)⟩) (preV hG hP hD [0] rfl (by decide) 12 0 rfl rfl) rfl rfl hl.1 rfl (lv_room (Nat.le_of_ble_eq_true rfl)) dL_law_929 ⟨(Nat.le_of_ble_eq_true rfl), (Nat.le_of_ble_eq_true rfl)⟩) (fun r_11 H locs hB hj hS => ?_)
        obtain ⟨hres, hP1, hD1⟩ := hB
        subst hres
        obtain ⟨hP, hD⟩ := hj _ hP1 hD1
        have hP : va_P D vwCl [(q_800, .inl (cy 2, 1, .inr (.inl (fun _ => 0)))), (h_2, .inr (12, [.int 1, .int 0, .ref q_700_1, .int 0, .int 0, .int 0, .int 0, .long 0, .int 0, .int 0, .ref q_700_2, .ref q_700_3, .ref q_700_4, .ref q_700_5, .ref q_700_6, .ref q_700_7, .ref q_700_8, .ref q_700_9, .ref q_700_10, .ref q_700_11, .ref q_700_12, .ref q_700_13, .ref q_700_14, .ref q_700_15, .ref q_700_16, .ref q_700_17, .int 0, .int 0, .ref q_700_18, .ref q_700_19, .ref q_700_20, .ref q_700_21, .ref q_700_22, .ref q_700_23, .ref q_700_24, .ref q_700_25, .ref q_700_26, .ref q_700_27, .ref q_700_28, .ref q_700_29, .int 0, .long 0, .ref q_700_30, .ref q_700_31, .ref q_700_32, .ref q_700_33, .ref q_700_34, .ref q_700_35, .ref q_700_36, .ref q_700_37, .ref q_700_38, .ref q_700_39, .ref q_700_40, .ref q_700_41, .int 0, .int 0, .int 0, .int 0, .ref q_700_42, .ref q_700_43, .ref q_700_44, .ref q_700_45, .int 0, .ref q_700_46, .ref q_700_47, .int 0, .long 0]))] H := hP
        have hD : va_D A [(q_800, .inl (cy 2, 1, .inr (.inl (fun _ => 0)))), (h_2, .inr (12, [.int 1, .int 0, .ref q_700_1, .int 0, .int 0, .int 0, .int 0, .long 0, .int 0, .int 0, .ref q_700_2, .ref q_700_3, .ref q_700_4, .ref q_700_5, .ref q_700_6, .ref q_700_7, .ref q_700_8, .ref q_700_9, .ref q_700_10, .ref q_700_11, .ref q_700_12, .ref q_700_13, .ref q_700_14, .ref q_700_15, .ref q_700_16, .ref q_700_17, .int 0, .int 0, .ref q_700_18, .ref q_700_19, .ref q_700_20, .ref q_700_21, .ref q_700_22, .ref q_700_23, .ref q_700_24, .ref q_700_25, .ref q_700_26, .ref q_700_27, .ref q_700_28, .ref q_700_29, .int 0, .long 0, .ref q_700_30, .ref q_700_31, .ref q_700_32, .ref q_700_33, .ref q_700_34, .ref q_700_35, .ref q_700_36, .ref q_700_37, .ref q_700_38, .ref q_700_39, .ref q_700_40, .ref q_700_41, .int 0, .int 0, .int 0, .int 0, .ref q_700_42, .ref q_700_43, .ref q_700_44, .ref q_700_45, .int 0, .ref q_700_46, .ref q_700_47, .int 0, .long 0]))] := hD
        refine lv_istore (lv' := [(6, .int 0), (5, .int 1), (4, .int 0), (3, .ref q_800), (2, .ref h_2), (1, .ref h_1), (0, .ref b)]) hx hb dL_law_932 hl (by decide) rfl (fun ls hl => ?_)
        refine lv_aload_n hx hb dL_law_934 rfl (lv_at hl 4 rfl) ?_
        refine x_i (wr := [(q_800, .inl (cy 2, 1, .inr (.inl (fun _ => 0))))]) hP hD hS hA [1] [0] rfl rfl (by decide) (by decide) (va_runV (As := []) (rest := []) ⟨hx, hb, hml, hown, hts⟩ (c_X12_thrown_1 l D cy h_2 q_700_1 q_700_2 q_700_3 q_700_4 q_700_5 q_700_6 q_700_7 q_700_8 q_700_9 q_700_10 q_700_11 q_700_12 q_700_13 q_700_14 q_700_15 q_700_16 q_700_17 q_700_18 q_700_19 q_700_20 q_700_21 q_700_22 q_700_23 q_700_24 q_700_25 q_700_26 q_700_27 q_700_28 q_700_29 q_700_30 q_700_31 q_700_32 q_700_33 q_700_34 q_700_35 q_700_36 q_700_37 q_700_38 q_700_39 q_700_40 q_700_41 q_700_42 q_700_43 q_700_44 q_700_45 q_700_46 q_700_47 H.size) (cwV 0 hts (gV0 km_L_111 ki_X12_thrown kz_X12_thrown kn_X12 kc_X12_thrown) rfl rfl rfl (by decide +kernel) ⟨(Nat.le_of_ble_eq_true rfl), (Nat.le_of_ble_eq_true rfl)⟩) (preV hG hP hD [1] rfl (by decide) 12 1 rfl rfl) rfl rfl hl.1 rfl (lv_room (Nat.le_of_ble_eq_true rfl)) dL_law_935 ⟨(Nat.le_of_ble_eq_true rfl), (Nat.le_of_ble_eq_true rfl)⟩) (fun r_12 H locs hB hj hS => ?_)
        obtain ⟨hres, hP1, hD1⟩ := hB
        subst hres
        obtain ⟨hP, hD⟩ := hj _ hP1 hD1
        have hP : va_P D vwCl [(q_800, .inl (cy 2, 1, .inr (.inl (fun _ => 0)))), (h_2, .inr (12, [.int 1, .int 0, .ref q_700_1, .int 0, .int 0, .int 0, .int 0, .long 0, .int 0, .int 0, .ref q_700_2, .ref q_700_3, .ref q_700_4, .ref q_700_5, .ref q_700_6, .ref q_700_7, .ref q_700_8, .ref q_700_9, .ref q_700_10, .ref q_700_11, .ref q_700_12, .ref q_700_13, .ref q_700_14, .ref q_700_15, .ref q_700_16, .ref q_700_17, .int 0, .int 0, .ref q_700_18, .ref q_700_19, .ref q_700_20, .ref q_700_21, .ref q_700_22, .ref q_700_23, .ref q_700_24, .ref q_700_25, .ref q_700_26, .ref q_700_27, .ref q_700_28, .ref q_700_29, .int 0, .long 0, .ref q_700_30, .ref q_700_31, .ref q_700_32, .ref q_700_33, .ref q_700_34, .ref q_700_35, .ref q_700_36, .ref q_700_37, .ref q_700_38, .ref q_700_39, .ref q_700_40, .ref q_700_41, .int 0, .int 0, .int 0, .int 0, .ref q_700_42, .ref q_700_43, .ref q_700_44, .ref q_700_45, .int 0, .ref q_700_46, .ref q_700_47, .int 0, .long 0]))] H := hP
        have hD : va_D A [(q_800, .inl (cy 2, 1, .inr (.inl (fun _ => 0)))), (h_2, .inr (12, [.int 1, .int 0, .ref q_700_1, .int 0, .int 0, .int 0, .int 0, .long 0, .int 0, .int 0, .ref q_700_2, .ref q_700_3, .ref q_700_4, .ref q_700_5, .ref q_700_6, .ref q_700_7, .ref q_700_8, .ref q_700_9, .ref q_700_10, .ref q_700_11, .ref q_700_12, .ref q_700_13, .ref q_700_14, .ref q_700_15, .ref q_700_16, .ref q_700_17, .int 0, .int 0, .ref q_700_18, .ref q_700_19, .ref q_700_20, .ref q_700_21, .ref q_700_22, .ref q_700_23, .ref q_700_24, .ref q_700_25, .ref q_700_26, .ref q_700_27, .ref q_700_28, .ref q_700_29, .int 0, .long 0, .ref q_700_30, .ref q_700_31, .ref q_700_32, .ref q_700_33, .ref q_700_34, .ref q_700_35, .ref q_700_36, .ref q_700_37, .ref q_700_38, .ref q_700_39, .ref q_700_40, .ref q_700_41, .int 0, .int 0, .int 0, .int 0, .ref q_700_42, .ref q_700_43, .ref q_700_44, .ref q_700_45, .int 0, .ref q_700_46, .ref q_700_47, .int 0, .long 0]))] := hD
        refine lv_iload hx hb dL_law_938 (lv_at hl 1 rfl) ?_
        refine lv_icmp_eq (tgt := 945) hx hb dL_law_940 (by decide) (fun _ => ?_) (fun c_ => absurd rfl c_)
        refine lv_iload hx hb dL_law_945 (lv_at hl 1 rfl) ?_
        refine lv_if_ne (tgt := 962) hx hb dL_law_947 (by decide) (fun _ => ?_) (fun c_ => absurd c_ (by decide))
        refine lv_goto (tgt := 1092) hx hb dL_law_962 (by decide) ?_
        refine lv_iinc (v := 7) (lv' := [(4, .int 7), (6, .int 0), (5, .int 1), (3, .ref q_800), (2, .ref h_2), (1, .ref h_1), (0, .ref b)]) hx hb dL_law_1092 hl (k := 2) rfl (by decide) (by decide) rfl (fun ls hl => ?_)
        refine lv_goto (tgt := 23) hx hb dL_law_1095 (by decide) ?_
        refine lv_iload hx hb dL_law_23 (lv_at hl 0 rfl) ?_
        refine lv_aload_n hx hb dL_law_25 rfl (lv_at hl 6 rfl) ?_
        refine va_slen hx hb hX hbl hbA hS dL_law_26 ?_
        refine m_as (v := 7) rfl ?_
        refine lv_bipush (v := 7) hx hb dL_law_27 (by decide) ?_
        refine m_isub (v := 0) hx hb dL_law_29 (by decide) ?_
        refine lv_icmp_gt (tgt := 1098) hx hb dL_law_30 (by decide) (fun _ => ?_) (fun c_ => absurd (by decide) c_)
        refine lv_iconst (v := 1) hx hb dL_law_1098 (by decide) ?_
        exact lw_end hx hb hr hlocks hAd hS (Nat.le_of_ble_eq_true rfl) (Nat.le_of_ble_eq_true rfl) dL_law_1099
      · by_cases g_13 : 9 < xs 2
        · refine lv_aload_n hx hb dL_law_885 rfl (lv_at hl 3 rfl) ?_
          refine lv_aload_n hx hb dL_law_886 rfl (lv_at hl 4 rfl) ?_
          refine lv_iload hx hb dL_law_887 (lv_at hl 0 rfl) ?_
          refine lv_iconst (v := 1) hx hb dL_law_889 (by decide) ?_
          refine m_iadd (v := 1) hx hb dL_law_890 (by decide) ?_
          refine va_sld hx hb hX hbl hbA hS (vin (by decide)) dL_law_891 ?_
          refine m_as (v := xs 1) rfl ?_
          refine lv_aload_n hx hb dL_law_892 rfl (lv_at hl 4 rfl) ?_
          refine lv_iload hx hb dL_law_893 (lv_at hl 0 rfl) ?_
          refine lv_iconst (v := 2) hx hb dL_law_895 (by decide) ?_
          refine m_iadd (v := 2) hx hb dL_law_896 (by decide) ?_
          refine va_sld hx hb hX hbl hbA hS (vin (by decide)) dL_law_897 ?_
          refine m_as (v := xs 2) rfl ?_
          refine lv_aload_n hx hb dL_law_898 rfl (lv_at hl 4 rfl) ?_
          refine lv_iload hx hb dL_law_899 (lv_at hl 0 rfl) ?_
          refine lv_iconst (v := 3) hx hb dL_law_901 (by decide) ?_
          refine m_iadd (v := 3) hx hb dL_law_902 (by decide) ?_
          refine va_sld hx hb hX hbl hbA hS (vin (by decide)) dL_law_903 ?_
          refine m_as (v := xs 3) rfl ?_
          refine lv_aload_n hx hb dL_law_904 rfl (lv_at hl 1 rfl) ?_
          refine x_i (wr := [(h_2, .inr (12, [.int 0, .int 0, .ref q_700_1, .int 0, .int 0, .int 0, .int 0, .long 0, .int 0, .int 0, .ref q_700_2, .ref q_700_3, .ref q_700_4, .ref q_700_5, .ref q_700_6, .ref q_700_7, .ref q_700_8, .ref q_700_9, .ref q_700_10, .ref q_700_11, .ref q_700_12, .ref q_700_13, .ref q_700_14, .ref q_700_15, .ref q_700_16, .ref q_700_17, .int 0, .int 0, .ref q_700_18, .ref q_700_19, .ref q_700_20, .ref q_700_21, .ref q_700_22, .ref q_700_23, .ref q_700_24, .ref q_700_25, .ref q_700_26, .ref q_700_27, .ref q_700_28, .ref q_700_29, .int 0, .long 0, .ref q_700_30, .ref q_700_31, .ref q_700_32, .ref q_700_33, .ref q_700_34, .ref q_700_35, .ref q_700_36, .ref q_700_37, .ref q_700_38, .ref q_700_39, .ref q_700_40, .ref q_700_41, .int 0, .int 0, .int 0, .int 0, .ref q_700_42, .ref q_700_43, .ref q_700_44, .ref q_700_45, .int 0, .ref q_700_46, .ref q_700_47, .int 0, .long 0])), (q_800, .inl (cy 2, 1, .inr (.inl (fun _ => 0))))]) hP hD hS hA [0, 1] [2, 3] rfl rfl (by decide) (by decide) (vx_runSW (hh := [(0, 12, 15, 13)]) (As := [.ref h_1, .int (xs 1), .int (xs 2), .int (xs 3), .ref q_800]) (rest := []) ⟨hx, hb, hml, hown, hts⟩ (c_L_rests_th l hlt D cy h_1 q_1 q_3 q_4 q_25 q_46 q_50 q_54 q_58 q_62 q_63 q_64 q_67 q_85 q_90 q_93 q_800 (fun _ => 0) (xs 1) (xs 2) (xs 3) H.size (Or.inr (Or.inr (Or.inr (Or.inl g_13))))) (vx_cwSW 5 hts gLrests rfl rfl rfl (by decide +kernel) ⟨(Nat.le_of_ble_eq_true rfl), (Nat.le_of_ble_eq_true rfl)⟩) (prexS hG hP hD hS hA hZ [0, 1] rfl (by decide)) rfl rfl hl.1 rfl (lv_room (Nat.le_of_ble_eq_true rfl)) dL_law_905 ⟨(Nat.le_of_ble_eq_true rfl), (Nat.le_of_ble_eq_true rfl)⟩) (fun r_14 H locs hB hj hS => ?_)
          obtain ⟨hres, hP1, hD1⟩ := hB
          subst hres
          obtain ⟨hP, hD⟩ := hj _ hP1 hD1
          have hP : va_P D vwCl [(h_2, .inr (12, [.int 0, .int 0, .ref q_700_1, .int 0, .int 0, .int 0, .int 0, .long 0, .int 0, .int 0, .ref q_700_2, .ref q_700_3, .ref q_700_4, .ref q_700_5, .ref q_700_6, .ref q_700_7, .ref q_700_8, .ref q_700_9, .ref q_700_10, .ref q_700_11, .ref q_700_12, .ref q_700_13, .ref q_700_14, .ref q_700_15, .ref q_700_16, .ref q_700_17, .int 0, .int 0, .ref q_700_18, .ref q_700_19, .ref q_700_20, .ref q_700_21, .ref q_700_22, .ref q_700_23, .ref q_700_24, .ref q_700_25, .ref q_700_26, .ref q_700_27, .ref q_700_28, .ref q_700_29, .int 0, .long 0, .ref q_700_30, .ref q_700_31, .ref q_700_32, .ref q_700_33, .ref q_700_34, .ref q_700_35, .ref q_700_36, .ref q_700_37, .ref q_700_38, .ref q_700_39, .ref q_700_40, .ref q_700_41, .int 0, .int 0, .int 0, .int 0, .ref q_700_42, .ref q_700_43, .ref q_700_44, .ref q_700_45, .int 0, .ref q_700_46, .ref q_700_47, .int 0, .long 0])), (q_800, .inl (cy 2, 1, .inr (.inl (fun _ => 0))))] H := hP
          have hD : va_D A [(h_2, .inr (12, [.int 0, .int 0, .ref q_700_1, .int 0, .int 0, .int 0, .int 0, .long 0, .int 0, .int 0, .ref q_700_2, .ref q_700_3, .ref q_700_4, .ref q_700_5, .ref q_700_6, .ref q_700_7, .ref q_700_8, .ref q_700_9, .ref q_700_10, .ref q_700_11, .ref q_700_12, .ref q_700_13, .ref q_700_14, .ref q_700_15, .ref q_700_16, .ref q_700_17, .int 0, .int 0, .ref q_700_18, .ref q_700_19, .ref q_700_20, .ref q_700_21, .ref q_700_22, .ref q_700_23, .ref q_700_24, .ref q_700_25, .ref q_700_26, .ref q_700_27, .ref q_700_28, .ref q_700_29, .int 0, .long 0, .ref q_700_30, .ref q_700_31, .ref q_700_32, .ref q_700_33, .ref q_700_34, .ref q_700_35, .ref q_700_36, .ref q_700_37, .ref q_700_38, .ref q_700_39, .ref q_700_40, .ref q_700_41, .int 0, .int 0, .int 0, .int 0, .ref q_700_42, .ref q_700_43, .ref q_700_44, .ref q_700_45, .int 0, .ref q_700_46, .ref q_700_47, .int 0, .long 0])), (q_800, .inl (cy 2, 1, .inr (.inl (fun _ => 0))))] := hD
          refine W.widen (k := 248) (n := 10836) (Nat.le_of_ble_eq_true rfl) (Nat.le_of_ble_eq_true rfl) ?_
          refine lv_istore (lv' := [(5, .int 1), (4, .int 0), (3, .ref q_800), (2, .ref h_2), (1, .ref h_1), (0, .ref b)]) hx hb dL_law_908 hl (by decide) rfl (fun ls hl => ?_)
          refine lv_aload_n hx hb dL_law_910 rfl (lv_at hl 3 rfl) ?_
          refine lv_aload_n hx hb dL_law_911 rfl (lv_at hl 5 rfl) ?_
          refine lv_iload hx hb dL_law_912 (lv_at hl 1 rfl) ?_
          refine lv_iconst (v := 1) hx hb dL_law_914 (by decide) ?_
          refine m_iadd (v := 1) hx hb dL_law_915 (by decide) ?_
          refine va_sld hx hb hX hbl hbA hS (vin (by decide)) dL_law_916 ?_
          refine m_as (v := xs 1) rfl ?_
          refine lv_aload_n hx hb dL_law_917 rfl (lv_at hl 5 rfl) ?_
          refine lv_iload hx hb dL_law_918 (lv_at hl 1 rfl) ?_
          refine lv_iconst (v := 2) hx hb dL_law_920 (by decide) ?_
          refine m_iadd (v := 2) hx hb dL_law_921 (by decide) ?_
          refine va_sld hx hb hX hbl hbA hS (vin (by decide)) dL_law_922 ?_
          refine m_as (v := xs 2) rfl ?_
          refine lv_aload_n hx hb dL_law_923 rfl (lv_at hl 5 rfl) ?_
          refine lv_iload hx hb dL_law_924 (lv_at hl 1 rfl) ?_
          refine lv_iconst (v := 3) hx hb dL_law_926 (by decide) ?_
          refine m_iadd (v := 3) hx hb dL_law_927 (by decide) ?_
          refine va_sld hx hb hX hbl hbA hS (vin (by decide)) dL_law_928 ?_
          refine m_as (v := xs 3) rfl ?_
          refine x_i (wr := [(q_800, .inl (cy 2, 1, .inr (.inl (fun _ => 0))))]) hP hD hS hA [0] [1] rfl rfl (by decide) (by decide) (va_runV (As := [.int (xs 1), .int (xs 2), .int (xs 3)]) (rest := []) ⟨hx, hb, hml, hown, hts⟩ (c_X12_rests_4 l D cy h_2 q_700_1 q_700_2 q_700_3 q_700_4 q_700_5 q_700_6 q_700_7 q_700_8 q_700_9 q_700_10 q_700_11 q_700_12 q_700_13 q_700_14 q_700_15 q_700_16 q_700_17 q_700_18 q_700_19 q_700_20 q_700_21 q_700_22 q_700_23 q_700_24 q_700_25 q_700_26 q_700_27 q_700_28 q_700_29 q_700_30 q_700_31 q_700_32 q_700_33 q_700_34 q_700_35 q_700_36 q_700_37 q_700_38 q_700_39 q_700_40 q_700_41 q_700_42 q_700_43 q_700_44 q_700_45 q_700_46 q_700_47 (xs 1) (xs 2) (xs 3) H.size g_1 g_5 g_9 g_13) (cwV 3 hts (gV0 km_L_110 ki_X12_rests kz_X12_rests kn_X12 kc_X12_rests) rfl rfl rfl (by decide +kernel) ⟨(Nat.le_of_ble_eq_true rfl), (Nat.le_of_ble_eq_true rfl)⟩) (preV hG hP hD [0] rfl (by decide) 12 0 rfl rfl) rfl rfl hl.1 rfl (lv_room (Nat.le_of_ble_eq_true rfl)) dL_law_929 ⟨(Nat.le_of_ble_eq_true rfl), (Nat.le_of_ble_eq_true rfl)⟩) (fun r_15 H locs hB hj hS => ?_)
          obtain ⟨hres, hP1, hD1⟩ := hB
          subst hres
          obtain ⟨hP, hD⟩ := hj _ hP1 hD1
          have hP : va_P D vwCl [(q_800, .inl (cy 2, 1, .inr (.inl (fun _ => 0)))), (h_2, .inr (12, [.int 1, .int 0, .ref q_700_1, .int 0, .int 0, .int 0, .int 0, .long 0, .int 0, .int 0, .ref q_700_2, .ref q_700_3, .ref q_700_4, .ref q_700_5, .ref q_700_6, .ref q_700_7, .ref q_700_8, .ref q_700_9, .ref q_700_10, .ref q_700_11, .ref q_700_12, .ref q_700_13, .ref q_700_14, .ref q_700_15, .ref q_700_16, .ref q_700_17, .int 0, .int 0, .ref q_700_18, .ref q_700_19, .ref q_700_20, .ref q_700_21, .ref q_700_22, .ref q_700_23, .ref q_700_24, .ref q_700_25, .ref q_700_26, .ref q_700_27, .ref q_700_28, .ref q_700_29, .int 0, .long 0, .ref q_700_30, .ref q_700_31, .ref q_700_32, .ref q_700_33, .ref q_700_34, .ref q_700_35, .ref q_700_36, .ref q_700_37, .ref q_700_38, .ref q_700_39, .ref q_700_40, .ref q_700_41, .int 0, .int 0, .int 0, .int 0, .ref q_700_42, .ref q_700_43, .ref q_700_44, .ref q_700_45, .int 0, .ref q_700_46, .ref q_700_47, .int 0, .long 0]))] H := hP
          have hD : va_D A [(q_800, .inl (cy 2, 1, .inr (.inl (fun _ => 0)))), (h_2, .inr (12, [.int 1, .int 0, .ref q_700_1, .int 0, .int 0, .int 0, .int 0, .long 0, .int 0, .int 0, .ref q_700_2, .ref q_700_3, .ref q_700_4, .ref q_700_5, .ref q_700_6, .ref q_700_7, .ref q_700_8, .ref q_700_9, .ref q_700_10, .ref q_700_11, .ref q_700_12, .ref q_700_13, .ref q_700_14, .ref q_700_15, .ref q_700_16, .ref q_700_17, .int 0, .int 0, .ref q_700_18, .ref q_700_19, .ref q_700_20, .ref q_700_21, .ref q_700_22, .ref q_700_23, .ref q_700_24, .ref q_700_25, .ref q_700_26, .ref q_700_27, .ref q_700_28, .ref q_700_29, .int 0, .long 0, .ref q_700_30, .ref q_700_31, .ref q_700_32, .ref q_700_33, .ref q_700_34, .ref q_700_35, .ref q_700_36, .ref q_700_37, .ref q_700_38, .ref q_700_39, .ref q_700_40, .ref q_700_41, .int 0, .int 0, .int 0, .int 0, .ref q_700_42, .ref q_700_43, .ref q_700_44, .ref q_700_45, .int 0, .ref q_700_46, .ref q_700_47, .int 0, .long 0]))] := hD
          refine lv_istore (lv' := [(6, .int 0), (5, .int 1), (4, .int 0), (3, .ref q_800), (2, .ref h_2), (1, .ref h_1), (0, .ref b)]) hx hb dL_law_932 hl (by decide) rfl (fun ls hl => ?_)
          refine lv_aload_n hx hb dL_law_934 rfl (lv_at hl 4 rfl) ?_
          refine x_i (wr := [(q_800, .inl (cy 2, 1, .inr (.inl (fun _ => 0))))]) hP hD hS hA [1] [0] rfl rfl (by decide) (by decide) (va_runV (As := []) (rest := []) ⟨hx, hb, hml, hown, hts⟩ (c_X12_thrown_1 l D cy h_2 q_700_1 q_700_2 q_700_3 q_700_4 q_700_5 q_700_6 q_700_7 q_700_8 q_700_9 q_700_10 q_700_11 q_700_12 q_700_13 q_700_14 q_700_15 q_700_16 q_700_17 q_700_18 q_700_19 q_700_20 q_700_21 q_700_22 q_700_23 q_700_24 q_700_25 q_700_26 q_700_27 q_700_28 q_700_29 q_700_30 q_700_31 q_700_32 q_700_33 q_700_34 q_700_35 q_700_36 q_700_37 q_700_38 q_700_39 q_700_40 q_700_41 q_700_42 q_700_43 q_700_44 q_700_45 q_700_46 q_700_47 H.size) (cwV 0 hts (gV0 km_L_111 ki_X12_thrown kz_X12_thrown kn_X12 kc_X12_thrown) rfl rfl rfl (by decide +kernel) ⟨(Nat.le_of_ble_eq_true rfl), (Nat.le_of_ble_eq_true rfl)⟩) (preV hG hP hD [1] rfl (by decide) 12 1 rfl rfl) rfl rfl hl.1 rfl (lv_room (Nat.le_of_ble_eq_true rfl)) dL_law_935 ⟨(Nat.le_of_ble_eq_true rfl), (Nat.le_of_ble_eq_true rfl)⟩) (fun r_16 H locs hB hj hS => ?_)
          obtain ⟨hres, hP1, hD1⟩ := hB
          subst hres
          obtain ⟨hP, hD⟩ := hj _ hP1 hD1
          have hP : va_P D vwCl [(q_800, .inl (cy 2, 1, .inr (.inl (fun _ => 0)))), (h_2, .inr (12, [.int 1, .int 0, .ref q_700_1, .int 0, .int 0, .int 0, .int 0, .long 0, .int 0, .int 0, .ref q_700_2, .ref q_700_3, .ref q_700_4, .ref q_700_5, .ref q_700_6, .ref q_700_7, .ref q_700_8, .ref q_700_9, .ref q_700_10, .ref q_700_11, .ref q_700_12, .ref q_700_13, .ref q_700_14, .ref q_700_15, .ref q_700_16, .ref q_700_17, .int 0, .int 0, .ref q_700_18, .ref q_700_19, .ref q_700_20, .ref q_700_21, .ref q_700_22, .ref q_700_23, .ref q_700_24, .ref q_700_25, .ref q_700_26, .ref q_700_27, .ref q_700_28, .ref q_700_29, .int 0, .long 0, .ref q_700_30, .ref q_700_31, .ref q_700_32, .ref q_700_33, .ref q_700_34, .ref q_700_35, .ref q_700_36, .ref q_700_37, .ref q_700_38, .ref q_700_39, .ref q_700_40, .ref q_700_41, .int 0, .int 0, .int 0, .int 0, .ref q_700_42, .ref q_700_43, .ref q_700_44, .ref q_700_45, .int 0, .ref q_700_46, .ref q_700_47, .int 0, .long 0]))] H := hP
          have hD : va_D A [(q_800, .inl (cy 2, 1, .inr (.inl (fun _ => 0)))), (h_2, .inr (12, [.int 1, .int 0, .ref q_700_1, .int 0, .int 0, .int 0, .int 0, .long 0, .int 0, .int 0, .ref q_700_2, .ref q_700_3, .ref q_700_4, .ref q_700_5, .ref q_700_6, .ref q_700_7, .ref q_700_8, .ref q_700_9, .ref q_700_10, .ref q_700_11, .ref q_700_12, .ref q_700_13, .ref q_700_14, .ref q_700_15, .ref q_700_16, .ref q_700_17, .int 0, .int 0, .ref q_700_18, .ref q_700_19, .ref q_700_20, .ref q_700_21, .ref q_700_22, .ref q_700_23, .ref q_700_24, .ref q_700_25, .ref q_700_26, .ref q_700_27, .ref q_700_28, .ref q_700_29, .int 0, .long 0, .ref q_700_30, .ref q_700_31, .ref q_700_32, .ref q_700_33, .ref q_700_34, .ref q_700_35, .ref q_700_36, .ref q_700_37, .ref q_700_38, .ref q_700_39, .ref q_700_40, .ref q_700_41, .int 0, .int 0, .int 0, .int 0, .ref q_700_42, .ref q_700_43, .ref q_700_44, .ref q_700_45, .int 0, .ref q_700_46, .ref q_700_47, .int 0, .long 0]))] := hD
          refine lv_iload hx hb dL_law_938 (lv_at hl 1 rfl) ?_
          refine lv_icmp_eq (tgt := 945) hx hb dL_law_940 (by decide) (fun _ => ?_) (fun c_ => absurd rfl c_)
          refine lv_iload hx hb dL_law_945 (lv_at hl 1 rfl) ?_
          refine lv_if_ne (tgt := 962) hx hb dL_law_947 (by decide) (fun _ => ?_) (fun c_ => absurd c_ (by decide))
          refine lv_goto (tgt := 1092) hx hb dL_law_962 (by decide) ?_
          refine lv_iinc (v := 7) (lv' := [(4, .int 7), (6, .int 0), (5, .int 1), (3, .ref q_800), (2, .ref h_2), (1, .ref h_1), (0, .ref b)]) hx hb dL_law_1092 hl (k := 2) rfl (by decide) (by decide) rfl (fun ls hl => ?_)
          refine lv_goto (tgt := 23) hx hb dL_law_1095 (by decide) ?_
          refine lv_iload hx hb dL_law_23 (lv_at hl 0 rfl) ?_
          refine lv_aload_n hx hb dL_law_25 rfl (lv_at hl 6 rfl) ?_
          refine va_slen hx hb hX hbl hbA hS dL_law_26 ?_
          refine m_as (v := 7) rfl ?_
          refine lv_bipush (v := 7) hx hb dL_law_27 (by decide) ?_
          refine m_isub (v := 0) hx hb dL_law_29 (by decide) ?_
          refine lv_icmp_gt (tgt := 1098) hx hb dL_law_30 (by decide) (fun _ => ?_) (fun c_ => absurd (by decide) c_)
          refine lv_iconst (v := 1) hx hb dL_law_1098 (by decide) ?_
          exact lw_end hx hb hr hlocks hAd hS (Nat.le_of_ble_eq_true rfl) (Nat.le_of_ble_eq_true rfl) dL_law_1099
        · by_cases g_17 : xs 3 = (-1)
          · refine lv_aload_n hx hb dL_law_885 rfl (lv_at hl 3 rfl) ?_
            refine lv_aload_n hx hb dL_law_886 rfl (lv_at hl 4 rfl) ?_
            refine lv_iload hx hb dL_law_887 (lv_at hl 0 rfl) ?_
            refine lv_iconst (v := 1) hx hb dL_law_889 (by decide) ?_
            refine m_iadd (v := 1) hx hb dL_law_890 (by decide) ?_
            refine va_sld hx hb hX hbl hbA hS (vin (by decide)) dL_law_891 ?_
            refine m_as (v := xs 1) rfl ?_
            refine lv_aload_n hx hb dL_law_892 rfl (lv_at hl 4 rfl) ?_
            refine lv_iload hx hb dL_law_893 (lv_at hl 0 rfl) ?_
            refine lv_iconst (v := 2) hx hb dL_law_895 (by decide) ?_
            refine m_iadd (v := 2) hx hb dL_law_896 (by decide) ?_
            refine va_sld hx hb hX hbl hbA hS (vin (by decide)) dL_law_897 ?_
            refine m_as (v := xs 2) rfl ?_
            refine lv_aload_n hx hb dL_law_898 rfl (lv_at hl 4 rfl) ?_
            refine lv_iload hx hb dL_law_899 (lv_at hl 0 rfl) ?_
            refine lv_iconst (v := 3) hx hb dL_law_901 (by decide) ?_
            refine m_iadd (v := 3) hx hb dL_law_902 (by decide) ?_
            refine va_sld hx hb hX hbl hbA hS (vin (by decide)) dL_law_903 ?_
            refine m_as (v := xs 3) rfl ?_
            refine m_as (v := (-1)) g_17 ?_
            refine lv_aload_n hx hb dL_law_904 rfl (lv_at hl 1 rfl) ?_
            refine x_i (wr := [(h_2, .inr (12, [.int 0, .int 0, .ref q_700_1, .int 0, .int 0, .int 0, .int 0, .long 0, .int 0, .int 0, .ref q_700_2, .ref q_700_3, .ref q_700_4, .ref q_700_5, .ref q_700_6, .ref q_700_7, .ref q_700_8, .ref q_700_9, .ref q_700_10, .ref q_700_11, .ref q_700_12, .ref q_700_13, .ref q_700_14, .ref q_700_15, .ref q_700_16, .ref q_700_17, .int 0, .int 0, .ref q_700_18, .ref q_700_19, .ref q_700_20, .ref q_700_21, .ref q_700_22, .ref q_700_23, .ref q_700_24, .ref q_700_25, .ref q_700_26, .ref q_700_27, .ref q_700_28, .ref q_700_29, .int 0, .long 0, .ref q_700_30, .ref q_700_31, .ref q_700_32, .ref q_700_33, .ref q_700_34, .ref q_700_35, .ref q_700_36, .ref q_700_37, .ref q_700_38, .ref q_700_39, .ref q_700_40, .ref q_700_41, .int 0, .int 0, .int 0, .int 0, .ref q_700_42, .ref q_700_43, .ref q_700_44, .ref q_700_45, .int 0, .ref q_700_46, .ref q_700_47, .int 0, .long 0]))]) hP hD hS hA [0, 1, 3] [2] rfl rfl (by decide) (by decide) (vx_runSW (hh := [(0, 12, 15, 13)]) (As := [.ref h_1, .int (xs 1), .int (xs 2), .int (-1), .ref q_800]) (rest := []) ⟨hx, hb, hml, hown, hts⟩ (c_L_rests_ok l D cy h_1 q_1 q_3 q_4 q_25 q_46 q_50 q_54 q_58 q_62 q_63 q_64 q_67 q_85 q_90 q_93 q_800 (fun _ => 0) (fun _ => 0) (xs 1) (xs 2) (-1) H.size g_1 g_5 g_9 g_13 (Or.inl rfl)) (vx_cwSW 5 hts gLrests rfl rfl rfl (by decide +kernel) ⟨(Nat.le_of_ble_eq_true rfl), (Nat.le_of_ble_eq_true rfl)⟩) (preS hG hP hD [0, 1, 3] rfl (by decide)) rfl rfl hl.1 rfl (lv_room (Nat.le_of_ble_eq_true rfl)) dL_law_905 ⟨(Nat.le_of_ble_eq_true rfl), (Nat.le_of_ble_eq_true rfl)⟩) (fun r_18 H locs hB hj hS => ?_)
            obtain ⟨v_19, hres, hp_20, hP1, hD1⟩ := hB
            subst hres
            obtain ⟨hP, hD⟩ := hj _ hP1 hD1
            have hP : va_P D vwCl [(h_2, .inr (12, [.int 0, .int 0, .ref q_700_1, .int 0, .int 0, .int 0, .int 0, .long 0, .int 0, .int 0, .ref q_700_2, .ref q_700_3, .ref q_700_4, .ref q_700_5, .ref q_700_6, .ref q_700_7, .ref q_700_8, .ref q_700_9, .ref q_700_10, .ref q_700_11, .ref q_700_12, .ref q_700_13, .ref q_700_14, .ref q_700_15, .ref q_700_16, .ref q_700_17, .int 0, .int 0, .ref q_700_18, .ref q_700_19, .ref q_700_20, .ref q_700_21, .ref q_700_22, .ref q_700_23, .ref q_700_24, .ref q_700_25, .ref q_700_26, .ref q_700_27, .ref q_700_28, .ref q_700_29, .int 0, .long 0, .ref q_700_30, .ref q_700_31, .ref q_700_32, .ref q_700_33, .ref q_700_34, .ref q_700_35, .ref q_700_36, .ref q_700_37, .ref q_700_38, .ref q_700_39, .ref q_700_40, .ref q_700_41, .int 0, .int 0, .int 0, .int 0, .ref q_700_42, .ref q_700_43, .ref q_700_44, .ref q_700_45, .int 0, .ref q_700_46, .ref q_700_47, .int 0, .long 0])), (q_800, .inl (cy 2, 1, .inr (.inl (vp_updL (fun _ => 0) 0 v_19.toInt64))))] H := hP
            have hD : va_D A [(h_2, .inr (12, [.int 0, .int 0, .ref q_700_1, .int 0, .int 0, .int 0, .int 0, .long 0, .int 0, .int 0, .ref q_700_2, .ref q_700_3, .ref q_700_4, .ref q_700_5, .ref q_700_6, .ref q_700_7, .ref q_700_8, .ref q_700_9, .ref q_700_10, .ref q_700_11, .ref q_700_12, .ref q_700_13, .ref q_700_14, .ref q_700_15, .ref q_700_16, .ref q_700_17, .int 0, .int 0, .ref q_700_18, .ref q_700_19, .ref q_700_20, .ref q_700_21, .ref q_700_22, .ref q_700_23, .ref q_700_24, .ref q_700_25, .ref q_700_26, .ref q_700_27, .ref q_700_28, .ref q_700_29, .int 0, .long 0, .ref q_700_30, .ref q_700_31, .ref q_700_32, .ref q_700_33, .ref q_700_34, .ref q_700_35, .ref q_700_36, .ref q_700_37, .ref q_700_38, .ref q_700_39, .ref q_700_40, .ref q_700_41, .int 0, .int 0, .int 0, .int 0, .ref q_700_42, .ref q_700_43, .ref q_700_44, .ref q_700_45, .int 0, .ref q_700_46, .ref q_700_47, .int 0, .long 0])), (q_800, .inl (cy 2, 1, .inr (.inl (vp_updL (fun _ => 0) 0 v_19.toInt64))))] := hD
            refine lv_istore (lv' := [(5, .int 0), (4, .int 0), (3, .ref q_800), (2, .ref h_2), (1, .ref h_1), (0, .ref b)]) hx hb dL_law_908 hl (by decide) rfl (fun ls hl => ?_)
            refine lv_aload_n hx hb dL_law_910 rfl (lv_at hl 3 rfl) ?_
            refine lv_aload_n hx hb dL_law_911 rfl (lv_at hl 5 rfl) ?_
            refine lv_iload hx hb dL_law_912 (lv_at hl 1 rfl) ?_
            refine lv_iconst (v := 1) hx hb dL_law_914 (by decide) ?_
            refine m_iadd (v := 1) hx hb dL_law_915 (by decide) ?_
            refine va_sld hx hb hX hbl hbA hS (vin (by decide)) dL_law_916 ?_
            refine m_as (v := xs 1) rfl ?_
            refine lv_aload_n hx hb dL_law_917 rfl (lv_at hl 5 rfl) ?_
            refine lv_iload hx hb dL_law_918 (lv_at hl 1 rfl) ?_
            refine lv_iconst (v := 2) hx hb dL_law_920 (by decide) ?_
            refine m_iadd (v := 2) hx hb dL_law_921 (by decide) ?_
            refine va_sld hx hb hX hbl hbA hS (vin (by decide)) dL_law_922 ?_
            refine m_as (v := xs 2) rfl ?_
            refine lv_aload_n hx hb dL_law_923 rfl (lv_at hl 5 rfl) ?_
            refine lv_iload hx hb dL_law_924 (lv_at hl 1 rfl) ?_
            refine lv_iconst (v := 3) hx hb dL_law_926 (by decide) ?_
            refine m_iadd (v := 3) hx hb dL_law_927 (by decide) ?_
            refine va_sld hx hb hX hbl hbA hS (vin (by decide)) dL_law_928 ?_
            refine m_as (v := xs 3) rfl ?_
            refine m_as (v := (-1)) g_17 ?_
            refine x_i (wr := [(q_800, .inl (cy 2, 1, .inr (.inl (vp_updL (fun _ => 0) 0 v_19.toInt64))))]) hP hD hS hA [0] [1] rfl rfl (by decide) (by decide) (va_runV (As := [.int (xs 1), .int (xs 2), .int (-1)]) (rest := []) ⟨hx, hb, hml, hown, hts⟩ (c_X12_rests l D cy h_2 q_700_1 q_700_2 q_700_3 q_700_4 q_700_5 q_700_6 q_700_7 q_700_8 q_700_9 q_700_10 q_700_11 q_700_12 q_700_13 q_700_14 q_700_15 q_700_16 q_700_17 q_700_18 q_700_19 q_700_20 q_700_21 q_700_22 q_700_23 q_700_24 q_700_25 q_700_26 q_700_27 q_700_28 q_700_29 q_700_30 q_700_31 q_700_32 q_700_33 q_700_34 q_700_35 q_700_36 q_700_37 q_700_38 q_700_39 q_700_40 q_700_41 q_700_42 q_700_43 q_700_44 q_700_45 q_700_46 q_700_47 (xs 1) (xs 2) (-1) H.size g_1 g_5 g_9 g_13 (by decide)) (cwV 3 hts (gV0 km_L_110 ki_X12_rests kz_X12_rests kn_X12 kc_X12_rests) rfl rfl rfl (by decide +kernel) ⟨(Nat.le_of_ble_eq_true rfl), (Nat.le_of_ble_eq_true rfl)⟩) (preV hG hP hD [0] rfl (by decide) 12 0 rfl rfl) rfl rfl hl.1 rfl (lv_room (Nat.le_of_ble_eq_true rfl)) dL_law_929 ⟨(Nat.le_of_ble_eq_true rfl), (Nat.le_of_ble_eq_true rfl)⟩) (fun r_21 H locs hB hj hS => ?_)
            obtain ⟨th_22, hp_23, hP1, hD1⟩ := hB
            obtain ⟨hP, hD⟩ := hj _ hP1 hD1
            have hP : va_P D vwCl [(q_800, .inl (cy 2, 1, .inr (.inl (vp_updL (fun _ => 0) 0 v_19.toInt64)))), (h_2, .inr (12, [.int th_22, .int 0, .ref q_700_1, .int 0, .int 0, .int 0, .int 0, .long 0, .int 0, .int 0, .ref q_700_2, .ref q_700_3, .ref q_700_4, .ref q_700_5, .ref q_700_6, .ref q_700_7, .ref q_700_8, .ref q_700_9, .ref q_700_10, .ref q_700_11, .ref q_700_12, .ref q_700_13, .ref q_700_14, .ref q_700_15, .ref q_700_16, .ref q_700_17, .int 0, .int 0, .ref q_700_18, .ref q_700_19, .ref q_700_20, .ref q_700_21, .ref q_700_22, .ref q_700_23, .ref q_700_24, .ref q_700_25, .ref q_700_26, .ref q_700_27, .ref q_700_28, .ref q_700_29, .int 0, .long 0, .ref q_700_30, .ref q_700_31, .ref q_700_32, .ref q_700_33, .ref q_700_34, .ref q_700_35, .ref q_700_36, .ref q_700_37, .ref q_700_38, .ref q_700_39, .ref q_700_40, .ref q_700_41, .int 0, .int 0, .int 0, .int 0, .ref q_700_42, .ref q_700_43, .ref q_700_44, .ref q_700_45, .int 0, .ref q_700_46, .ref q_700_47, .int 0, .long 0]))] H := hP
            have hD : va_D A [(q_800, .inl (cy 2, 1, .inr (.inl (vp_updL (fun _ => 0) 0 v_19.toInt64)))), (h_2, .inr (12, [.int th_22, .int 0, .ref q_700_1, .int 0, .int 0, .int 0, .int 0, .long 0, .int 0, .int 0, .ref q_700_2, .ref q_700_3, .ref q_700_4, .ref q_700_5, .ref q_700_6, .ref q_700_7, .ref q_700_8, .ref q_700_9, .ref q_700_10, .ref q_700_11, .ref q_700_12, .ref q_700_13, .ref q_700_14, .ref q_700_15, .ref q_700_16, .ref q_700_17, .int 0, .int 0, .ref q_700_18, .ref q_700_19, .ref q_700_20, .ref q_700_21, .ref q_700_22, .ref q_700_23, .ref q_700_24, .ref q_700_25, .ref q_700_26, .ref q_700_27, .ref q_700_28, .ref q_700_29, .int 0, .long 0, .ref q_700_30, .ref q_700_31, .ref q_700_32, .ref q_700_33, .ref q_700_34, .ref q_700_35, .ref q_700_36, .ref q_700_37, .ref q_700_38, .ref q_700_39, .ref q_700_40, .ref q_700_41, .int 0, .int 0, .int 0, .int 0, .ref q_700_42, .ref q_700_43, .ref q_700_44, .ref q_700_45, .int 0, .ref q_700_46, .ref q_700_47, .int 0, .long 0]))] := hD
            obtain ⟨eth, er⟩ := rs_ok hp_23 hp_20
            subst eth
            subst er
            have hP : va_P D vwCl [(q_800, .inl (cy 2, 1, .inr (.inl (vp_updL (fun _ => 0) 0 v_19.toInt64)))), (h_2, .inr (12, [.int 0, .int 0, .ref q_700_1, .int 0, .int 0, .int 0, .int 0, .long 0, .int 0, .int 0, .ref q_700_2, .ref q_700_3, .ref q_700_4, .ref q_700_5, .ref q_700_6, .ref q_700_7, .ref q_700_8, .ref q_700_9, .ref q_700_10, .ref q_700_11, .ref q_700_12, .ref q_700_13, .ref q_700_14, .ref q_700_15, .ref q_700_16, .ref q_700_17, .int 0, .int 0, .ref q_700_18, .ref q_700_19, .ref q_700_20, .ref q_700_21, .ref q_700_22, .ref q_700_23, .ref q_700_24, .ref q_700_25, .ref q_700_26, .ref q_700_27, .ref q_700_28, .ref q_700_29, .int 0, .long 0, .ref q_700_30, .ref q_700_31, .ref q_700_32, .ref q_700_33, .ref q_700_34, .ref q_700_35, .ref q_700_36, .ref q_700_37, .ref q_700_38, .ref q_700_39, .ref q_700_40, .ref q_700_41, .int 0, .int 0, .int 0, .int 0, .ref q_700_42, .ref q_700_43, .ref q_700_44, .ref q_700_45, .int 0, .ref q_700_46, .ref q_700_47, .int 0, .long 0]))] H := hP
            have hD : va_D A [(q_800, .inl (cy 2, 1, .inr (.inl (vp_updL (fun _ => 0) 0 v_19.toInt64)))), (h_2, .inr (12, [.int 0, .int 0, .ref q_700_1, .int 0, .int 0, .int 0, .int 0, .long 0, .int 0, .int 0, .ref q_700_2, .ref q_700_3, .ref q_700_4, .ref q_700_5, .ref q_700_6, .ref q_700_7, .ref q_700_8, .ref q_700_9, .ref q_700_10, .ref q_700_11, .ref q_700_12, .ref q_700_13, .ref q_700_14, .ref q_700_15, .ref q_700_16, .ref q_700_17, .int 0, .int 0, .ref q_700_18, .ref q_700_19, .ref q_700_20, .ref q_700_21, .ref q_700_22, .ref q_700_23, .ref q_700_24, .ref q_700_25, .ref q_700_26, .ref q_700_27, .ref q_700_28, .ref q_700_29, .int 0, .long 0, .ref q_700_30, .ref q_700_31, .ref q_700_32, .ref q_700_33, .ref q_700_34, .ref q_700_35, .ref q_700_36, .ref q_700_37, .ref q_700_38, .ref q_700_39, .ref q_700_40, .ref q_700_41, .int 0, .int 0, .int 0, .int 0, .ref q_700_42, .ref q_700_43, .ref q_700_44, .ref q_700_45, .int 0, .ref q_700_46, .ref q_700_47, .int 0, .long 0]))] := hD
            refine lv_istore (lv' := [(6, .int v_19), (5, .int 0), (4, .int 0), (3, .ref q_800), (2, .ref h_2), (1, .ref h_1), (0, .ref b)]) hx hb dL_law_932 hl (by decide) rfl (fun ls hl => ?_)
            refine lv_aload_n hx hb dL_law_934 rfl (lv_at hl 4 rfl) ?_
            refine x_i (wr := [(q_800, .inl (cy 2, 1, .inr (.inl (vp_updL (fun _ => 0) 0 v_19.toInt64))))]) hP hD hS hA [1] [0] rfl rfl (by decide) (by decide) (va_runV (As := []) (rest := []) ⟨hx, hb, hml, hown, hts⟩ (c_X12_thrown_2 l D cy h_2 q_700_1 q_700_2 q_700_3 q_700_4 q_700_5 q_700_6 q_700_7 q_700_8 q_700_9 q_700_10 q_700_11 q_700_12 q_700_13 q_700_14 q_700_15 q_700_16 q_700_17 q_700_18 q_700_19 q_700_20 q_700_21 q_700_22 q_700_23 q_700_24 q_700_25 q_700_26 q_700_27 q_700_28 q_700_29 q_700_30 q_700_31 q_700_32 q_700_33 q_700_34 q_700_35 q_700_36 q_700_37 q_700_38 q_700_39 q_700_40 q_700_41 q_700_42 q_700_43 q_700_44 q_700_45 q_700_46 q_700_47 H.size) (cwV 0 hts (gV0 km_L_111 ki_X12_thrown kz_X12_thrown kn_X12 kc_X12_thrown) rfl rfl rfl (by decide +kernel) ⟨(Nat.le_of_ble_eq_true rfl), (Nat.le_of_ble_eq_true rfl)⟩) (preV hG hP hD [1] rfl (by decide) 12 1 rfl rfl) rfl rfl hl.1 rfl (lv_room (Nat.le_of_ble_eq_true rfl)) dL_law_935 ⟨(Nat.le_of_ble_eq_true rfl), (Nat.le_of_ble_eq_true rfl)⟩) (fun r_24 H locs hB hj hS => ?_)
            obtain ⟨hres, hP1, hD1⟩ := hB
            subst hres
            obtain ⟨hP, hD⟩ := hj _ hP1 hD1
            have hP : va_P D vwCl [(q_800, .inl (cy 2, 1, .inr (.inl (vp_updL (fun _ => 0) 0 v_19.toInt64)))), (h_2, .inr (12, [.int 0, .int 0, .ref q_700_1, .int 0, .int 0, .int 0, .int 0, .long 0, .int 0, .int 0, .ref q_700_2, .ref q_700_3, .ref q_700_4, .ref q_700_5, .ref q_700_6, .ref q_700_7, .ref q_700_8, .ref q_700_9, .ref q_700_10, .ref q_700_11, .ref q_700_12, .ref q_700_13, .ref q_700_14, .ref q_700_15, .ref q_700_16, .ref q_700_17, .int 0, .int 0, .ref q_700_18, .ref q_700_19, .ref q_700_20, .ref q_700_21, .ref q_700_22, .ref q_700_23, .ref q_700_24, .ref q_700_25, .ref q_700_26, .ref q_700_27, .ref q_700_28, .ref q_700_29, .int 0, .long 0, .ref q_700_30, .ref q_700_31, .ref q_700_32, .ref q_700_33, .ref q_700_34, .ref q_700_35, .ref q_700_36, .ref q_700_37, .ref q_700_38, .ref q_700_39, .ref q_700_40, .ref q_700_41, .int 0, .int 0, .int 0, .int 0, .ref q_700_42, .ref q_700_43, .ref q_700_44, .ref q_700_45, .int 0, .ref q_700_46, .ref q_700_47, .int 0, .long 0]))] H := hP
            have hD : va_D A [(q_800, .inl (cy 2, 1, .inr (.inl (vp_updL (fun _ => 0) 0 v_19.toInt64)))), (h_2, .inr (12, [.int 0, .int 0, .ref q_700_1, .int 0, .int 0, .int 0, .int 0, .long 0, .int 0, .int 0, .ref q_700_2, .ref q_700_3, .ref q_700_4, .ref q_700_5, .ref q_700_6, .ref q_700_7, .ref q_700_8, .ref q_700_9, .ref q_700_10, .ref q_700_11, .ref q_700_12, .ref q_700_13, .ref q_700_14, .ref q_700_15, .ref q_700_16, .ref q_700_17, .int 0, .int 0, .ref q_700_18, .ref q_700_19, .ref q_700_20, .ref q_700_21, .ref q_700_22, .ref q_700_23, .ref q_700_24, .ref q_700_25, .ref q_700_26, .ref q_700_27, .ref q_700_28, .ref q_700_29, .int 0, .long 0, .ref q_700_30, .ref q_700_31, .ref q_700_32, .ref q_700_33, .ref q_700_34, .ref q_700_35, .ref q_700_36, .ref q_700_37, .ref q_700_38, .ref q_700_39, .ref q_700_40, .ref q_700_41, .int 0, .int 0, .int 0, .int 0, .ref q_700_42, .ref q_700_43, .ref q_700_44, .ref q_700_45, .int 0, .ref q_700_46, .ref q_700_47, .int 0, .long 0]))] := hD
            refine lv_iload hx hb dL_law_938 (lv_at hl 1 rfl) ?_
            refine lv_icmp_eq (tgt := 945) hx hb dL_law_940 (by decide) (fun _ => ?_) (fun c_ => absurd rfl c_)
            refine lv_iload hx hb dL_law_945 (lv_at hl 1 rfl) ?_
            refine lv_if_ne (tgt := 962) hx hb dL_law_947 (by decide) (fun c_ => absurd rfl c_) (fun _ => ?_)
            refine lv_aload_n hx hb dL_law_950 rfl (lv_at hl 3 rfl) ?_
            refine lv_iconst (v := 0) hx hb dL_law_951 (by decide) ?_
            refine m_lald (v := v_19.toInt64) hx hb hG hP 0 rfl (vin (by decide)) dL_law_952 rfl ?_
            refine lv_iload hx hb dL_law_953 (lv_at hl 0 rfl) ?_
            refine lv_i2l (v := v_19.toInt64) hx hb dL_law_955 rfl ?_
            refine m_lcmp (v := 0) hx hb dL_law_956 (cmp_self _) ?_
            refine lv_if_eq (tgt := 962) hx hb dL_law_957 (by decide) (fun _ => ?_) (fun c_ => absurd rfl c_)
            refine lv_goto (tgt := 1092) hx hb dL_law_962 (by decide) ?_
            refine lv_iinc (v := 7) (lv' := [(4, .int 7), (6, .int v_19), (5, .int 0), (3, .ref q_800), (2, .ref h_2), (1, .ref h_1), (0, .ref b)]) hx hb dL_law_1092 hl (k := 2) rfl (by decide) (by decide) rfl (fun ls hl => ?_)
            refine lv_goto (tgt := 23) hx hb dL_law_1095 (by decide) ?_
            refine lv_iload hx hb dL_law_23 (lv_at hl 0 rfl) ?_
            refine lv_aload_n hx hb dL_law_25 rfl (lv_at hl 6 rfl) ?_
            refine va_slen hx hb hX hbl hbA hS dL_law_26 ?_
            refine m_as (v := 7) rfl ?_
            refine lv_bipush (v := 7) hx hb dL_law_27 (by decide) ?_
            refine m_isub (v := 0) hx hb dL_law_29 (by decide) ?_
            refine lv_icmp_gt (tgt := 1098) hx hb dL_law_30 (by decide) (fun _ => ?_) (fun c_ => absurd (by decide) c_)
            refine lv_iconst (v := 1) hx hb dL_law_1098 (by decide) ?_
            exact lw_end hx hb hr hlocks hAd hS (Nat.le_of_ble_eq_true rfl) (Nat.le_of_ble_eq_true rfl) dL_law_1099
          · by_cases g_25 : ∃ t, t < (outr (xs 1) (xs 2) 5).length ∧ xs 3 = nI t
            · refine lv_aload_n hx hb dL_law_885 rfl (lv_at hl 3 rfl) ?_
              refine lv_aload_n hx hb dL_law_886 rfl (lv_at hl 4 rfl) ?_
              refine lv_iload hx hb dL_law_887 (lv_at hl 0 rfl) ?_
              refine lv_iconst (v := 1) hx hb dL_law_889 (by decide) ?_
              refine m_iadd (v := 1) hx hb dL_law_890 (by decide) ?_
              refine va_sld hx hb hX hbl hbA hS (vin (by decide)) dL_law_891 ?_
              refine m_as (v := xs 1) rfl ?_
              refine lv_aload_n hx hb dL_law_892 rfl (lv_at hl 4 rfl) ?_
              refine lv_iload hx hb dL_law_893 (lv_at hl 0 rfl) ?_
              refine lv_iconst (v := 2) hx hb dL_law_895 (by decide) ?_
              refine m_iadd (v := 2) hx hb dL_law_896 (by decide) ?_
              refine va_sld hx hb hX hbl hbA hS (vin (by decide)) dL_law_897 ?_
              refine m_as (v := xs 2) rfl ?_
              refine lv_aload_n hx hb dL_law_898 rfl (lv_at hl 4 rfl) ?_
              refine lv_iload hx hb dL_law_899 (lv_at hl 0 rfl) ?_
              refine lv_iconst (v := 3) hx hb dL_law_901 (by decide) ?_
              refine m_iadd (v := 3) hx hb dL_law_902 (by decide) ?_
              refine va_sld hx hb hX hbl hbA hS (vin (by decide)) dL_law_903 ?_
              refine m_as (v := xs 3) rfl ?_
              refine lv_aload_n hx hb dL_law_904 rfl (lv_at hl 1 rfl) ?_
              refine x_i (wr := [(h_2, .inr (12, [.int 0, .int 0, .ref q_700_1, .int 0, .int 0, .int 0, .int 0, .long 0, .int 0, .int 0, .ref q_700_2, .ref q_700_3, .ref q_700_4, .ref q_700_5, .ref q_700_6, .ref q_700_7, .ref q_700_8, .ref q_700_9, .ref q_700_10, .ref q_700_11, .ref q_700_12, .ref q_700_13, .ref q_700_14, .ref q_700_15, .ref q_700_16, .ref q_700_17, .int 0, .int 0, .ref q_700_18, .ref q_700_19, .ref q_700_20, .ref q_700_21, .ref q_700_22, .ref q_700_23, .ref q_700_24, .ref q_700_25, .ref q_700_26, .ref q_700_27, .ref q_700_28, .ref q_700_29, .int 0, .long 0, .ref q_700_30, .ref q_700_31, .ref q_700_32, .ref q_700_33, .ref q_700_34, .ref q_700_35, .ref q_700_36, .ref q_700_37, .ref q_700_38, .ref q_700_39, .ref q_700_40, .ref q_700_41, .int 0, .int 0, .int 0, .int 0, .ref q_700_42, .ref q_700_43, .ref q_700_44, .ref q_700_45, .int 0, .ref q_700_46, .ref q_700_47, .int 0, .long 0]))]) hP hD hS hA [0, 1, 3] [2] rfl rfl (by decide) (by decide) (vx_runSW (hh := [(0, 12, 15, 13)]) (As := [.ref h_1, .int (xs 1), .int (xs 2), .int (xs 3), .ref q_800]) (rest := []) ⟨hx, hb, hml, hown, hts⟩ (c_L_rests_ok l D cy h_1 q_1 q_3 q_4 q_25 q_46 q_50 q_54 q_58 q_62 q_63 q_64 q_67 q_85 q_90 q_93 q_800 (fun _ => 0) (fun _ => 0) (xs 1) (xs 2) (xs 3) H.size g_1 g_5 g_9 g_13 (Or.inr g_25)) (vx_cwSW 5 hts gLrests rfl rfl rfl (by decide +kernel) ⟨(Nat.le_of_ble_eq_true rfl), (Nat.le_of_ble_eq_true rfl)⟩) (preS hG hP hD [0, 1, 3] rfl (by decide)) rfl rfl hl.1 rfl (lv_room (Nat.le_of_ble_eq_true rfl)) dL_law_905 ⟨(Nat.le_of_ble_eq_true rfl), (Nat.le_of_ble_eq_true rfl)⟩) (fun r_26 H locs hB hj hS => ?_)
              obtain ⟨v_27, hres, hp_28, hP1, hD1⟩ := hB
              subst hres
              obtain ⟨hP, hD⟩ := hj _ hP1 hD1
              have hP : va_P D vwCl [(h_2, .inr (12, [.int 0, .int 0, .ref q_700_1, .int 0, .int 0, .int 0, .int 0, .long 0, .int 0, .int 0, .ref q_700_2, .ref q_700_3, .ref q_700_4, .ref q_700_5, .ref q_700_6, .ref q_700_7, .ref q_700_8, .ref q_700_9, .ref q_700_10, .ref q_700_11, .ref q_700_12, .ref q_700_13, .ref q_700_14, .ref q_700_15, .ref q_700_16, .ref q_700_17, .int 0, .int 0, .ref q_700_18, .ref q_700_19, .ref q_700_20, .ref q_700_21, .ref q_700_22, .ref q_700_23, .ref q_700_24, .ref q_700_25, .ref q_700_26, .ref q_700_27, .ref q_700_28, .ref q_700_29, .int 0, .long 0, .ref q_700_30, .ref q_700_31, .ref q_700_32, .ref q_700_33, .ref q_700_34, .ref q_700_35, .ref q_700_36, .ref q_700_37, .ref q_700_38, .ref q_700_39, .ref q_700_40, .ref q_700_41, .int 0, .int 0, .int 0, .int 0, .ref q_700_42, .ref q_700_43, .ref q_700_44, .ref q_700_45, .int 0, .ref q_700_46, .ref q_700_47, .int 0, .long 0])), (q_800, .inl (cy 2, 1, .inr (.inl (vp_updL (fun _ => 0) 0 v_27.toInt64))))] H := hP
              have hD : va_D A [(h_2, .inr (12, [.int 0, .int 0, .ref q_700_1, .int 0, .int 0, .int 0, .int 0, .long 0, .int 0, .int 0, .ref q_700_2, .ref q_700_3, .ref q_700_4, .ref q_700_5, .ref q_700_6, .ref q_700_7, .ref q_700_8, .ref q_700_9, .ref q_700_10, .ref q_700_11, .ref q_700_12, .ref q_700_13, .ref q_700_14, .ref q_700_15, .ref q_700_16, .ref q_700_17, .int 0, .int 0, .ref q_700_18, .ref q_700_19, .ref q_700_20, .ref q_700_21, .ref q_700_22, .ref q_700_23, .ref q_700_24, .ref q_700_25, .ref q_700_26, .ref q_700_27, .ref q_700_28, .ref q_700_29, .int 0, .long 0, .ref q_700_30, .ref q_700_31, .ref q_700_32, .ref q_700_33, .ref q_700_34, .ref q_700_35, .ref q_700_36, .ref q_700_37, .ref q_700_38, .ref q_700_39, .ref q_700_40, .ref q_700_41, .int 0, .int 0, .int 0, .int 0, .ref q_700_42, .ref q_700_43, .ref q_700_44, .ref q_700_45, .int 0, .ref q_700_46, .ref q_700_47, .int 0, .long 0])), (q_800, .inl (cy 2, 1, .inr (.inl (vp_updL (fun _ => 0) 0 v_27.toInt64))))] := hD
              refine lv_istore (lv' := [(5, .int 0), (4, .int 0), (3, .ref q_800), (2, .ref h_2), (1, .ref h_1), (0, .ref b)]) hx hb dL_law_908 hl (by decide) rfl (fun ls hl => ?_)
              refine lv_aload_n hx hb dL_law_910 rfl (lv_at hl 3 rfl) ?_
              refine lv_aload_n hx hb dL_law_911 rfl (lv_at hl 5 rfl) ?_
              refine lv_iload hx hb dL_law_912 (lv_at hl 1 rfl) ?_
              refine lv_iconst (v := 1) hx hb dL_law_914 (by decide) ?_
              refine m_iadd (v := 1) hx hb dL_law_915 (by decide) ?_
              refine va_sld hx hb hX hbl hbA hS (vin (by decide)) dL_law_916 ?_
              refine m_as (v := xs 1) rfl ?_
              refine lv_aload_n hx hb dL_law_917 rfl (lv_at hl 5 rfl) ?_
              refine lv_iload hx hb dL_law_918 (lv_at hl 1 rfl) ?_
              refine lv_iconst (v := 2) hx hb dL_law_920 (by decide) ?_
              refine m_iadd (v := 2) hx hb dL_law_921 (by decide) ?_
              refine va_sld hx hb hX hbl hbA hS (vin (by decide)) dL_law_922 ?_
              refine m_as (v := xs 2) rfl ?_
              refine lv_aload_n hx hb dL_law_923 rfl (lv_at hl 5 rfl) ?_
              refine lv_iload hx hb dL_law_924 (lv_at hl 1 rfl) ?_
              refine lv_iconst (v := 3) hx hb dL_law_926 (by decide) ?_
              refine m_iadd (v := 3) hx hb dL_law_927 (by decide) ?_
              refine va_sld hx hb hX hbl hbA hS (vin (by decide)) dL_law_928 ?_
              refine m_as (v := xs 3) rfl ?_
              refine x_i (wr := [(q_800, .inl (cy 2, 1, .inr (.inl (vp_updL (fun _ => 0) 0 v_27.toInt64))))]) hP hD hS hA [0] [1] rfl rfl (by decide) (by decide) (va_runV (As := [.int (xs 1), .int (xs 2), .int (xs 3)]) (rest := []) ⟨hx, hb, hml, hown, hts⟩ (c_X12_rests l D cy h_2 q_700_1 q_700_2 q_700_3 q_700_4 q_700_5 q_700_6 q_700_7 q_700_8 q_700_9 q_700_10 q_700_11 q_700_12 q_700_13 q_700_14 q_700_15 q_700_16 q_700_17 q_700_18 q_700_19 q_700_20 q_700_21 q_700_22 q_700_23 q_700_24 q_700_25 q_700_26 q_700_27 q_700_28 q_700_29 q_700_30 q_700_31 q_700_32 q_700_33 q_700_34 q_700_35 q_700_36 q_700_37 q_700_38 q_700_39 q_700_40 q_700_41 q_700_42 q_700_43 q_700_44 q_700_45 q_700_46 q_700_47 (xs 1) (xs 2) (xs 3) H.size g_1 g_5 g_9 g_13 (okt_ge g_25)) (cwV 3 hts (gV0 km_L_110 ki_X12_rests kz_X12_rests kn_X12 kc_X12_rests) rfl rfl rfl (by decide +kernel) ⟨(Nat.le_of_ble_eq_true rfl), (Nat.le_of_ble_eq_true rfl)⟩) (preV hG hP hD [0] rfl (by decide) 12 0 rfl rfl) rfl rfl hl.1 rfl (lv_room (Nat.le_of_ble_eq_true rfl)) dL_law_929 ⟨(Nat.le_of_ble_eq_true rfl), (Nat.le_of_ble_eq_true rfl)⟩) (fun r_29 H locs hB hj hS => ?_)
              obtain ⟨th_30, hp_31, hP1, hD1⟩ := hB
              obtain ⟨hP, hD⟩ := hj _ hP1 hD1
              have hP : va_P D vwCl [(q_800, .inl (cy 2, 1, .inr (.inl (vp_updL (fun _ => 0) 0 v_27.toInt64)))), (h_2, .inr (12, [.int th_30, .int 0, .ref q_700_1, .int 0, .int 0, .int 0, .int 0, .long 0, .int 0, .int 0, .ref q_700_2, .ref q_700_3, .ref q_700_4, .ref q_700_5, .ref q_700_6, .ref q_700_7, .ref q_700_8, .ref q_700_9, .ref q_700_10, .ref q_700_11, .ref q_700_12, .ref q_700_13, .ref q_700_14, .ref q_700_15, .ref q_700_16, .ref q_700_17, .int 0, .int 0, .ref q_700_18, .ref q_700_19, .ref q_700_20, .ref q_700_21, .ref q_700_22, .ref q_700_23, .ref q_700_24, .ref q_700_25, .ref q_700_26, .ref q_700_27, .ref q_700_28, .ref q_700_29, .int 0, .long 0, .ref q_700_30, .ref q_700_31, .ref q_700_32, .ref q_700_33, .ref q_700_34, .ref q_700_35, .ref q_700_36, .ref q_700_37, .ref q_700_38, .ref q_700_39, .ref q_700_40, .ref q_700_41, .int 0, .int 0, .int 0, .int 0, .ref q_700_42, .ref q_700_43, .ref q_700_44, .ref q_700_45, .int 0, .ref q_700_46, .ref q_700_47, .int 0, .long 0]))] H := hP
              have hD : va_D A [(q_800, .inl (cy 2, 1, .inr (.inl (vp_updL (fun _ => 0) 0 v_27.toInt64)))), (h_2, .inr (12, [.int th_30, .int 0, .ref q_700_1, .int 0, .int 0, .int 0, .int 0, .long 0, .int 0, .int 0, .ref q_700_2, .ref q_700_3, .ref q_700_4, .ref q_700_5, .ref q_700_6, .ref q_700_7, .ref q_700_8, .ref q_700_9, .ref q_700_10, .ref q_700_11, .ref q_700_12, .ref q_700_13, .ref q_700_14, .ref q_700_15, .ref q_700_16, .ref q_700_17, .int 0, .int 0, .ref q_700_18, .ref q_700_19, .ref q_700_20, .ref q_700_21, .ref q_700_22, .ref q_700_23, .ref q_700_24, .ref q_700_25, .ref q_700_26, .ref q_700_27, .ref q_700_28, .ref q_700_29, .int 0, .long 0, .ref q_700_30, .ref q_700_31, .ref q_700_32, .ref q_700_33, .ref q_700_34, .ref q_700_35, .ref q_700_36, .ref q_700_37, .ref q_700_38, .ref q_700_39, .ref q_700_40, .ref q_700_41, .int 0, .int 0, .int 0, .int 0, .ref q_700_42, .ref q_700_43, .ref q_700_44, .ref q_700_45, .int 0, .ref q_700_46, .ref q_700_47, .int 0, .long 0]))] := hD
              obtain ⟨eth, er⟩ := rs_ok hp_31 hp_28
              subst eth
              subst er
              have hP : va_P D vwCl [(q_800, .inl (cy 2, 1, .inr (.inl (vp_updL (fun _ => 0) 0 v_27.toInt64)))), (h_2, .inr (12, [.int 0, .int 0, .ref q_700_1, .int 0, .int 0, .int 0, .int 0, .long 0, .int 0, .int 0, .ref q_700_2, .ref q_700_3, .ref q_700_4, .ref q_700_5, .ref q_700_6, .ref q_700_7, .ref q_700_8, .ref q_700_9, .ref q_700_10, .ref q_700_11, .ref q_700_12, .ref q_700_13, .ref q_700_14, .ref q_700_15, .ref q_700_16, .ref q_700_17, .int 0, .int 0, .ref q_700_18, .ref q_700_19, .ref q_700_20, .ref q_700_21, .ref q_700_22, .ref q_700_23, .ref q_700_24, .ref q_700_25, .ref q_700_26, .ref q_700_27, .ref q_700_28, .ref q_700_29, .int 0, .long 0, .ref q_700_30, .ref q_700_31, .ref q_700_32, .ref q_700_33, .ref q_700_34, .ref q_700_35, .ref q_700_36, .ref q_700_37, .ref q_700_38, .ref q_700_39, .ref q_700_40, .ref q_700_41, .int 0, .int 0, .int 0, .int 0, .ref q_700_42, .ref q_700_43, .ref q_700_44, .ref q_700_45, .int 0, .ref q_700_46, .ref q_700_47, .int 0, .long 0]))] H := hP
              have hD : va_D A [(q_800, .inl (cy 2, 1, .inr (.inl (vp_updL (fun _ => 0) 0 v_27.toInt64)))), (h_2, .inr (12, [.int 0, .int 0, .ref q_700_1, .int 0, .int 0, .int 0, .int 0, .long 0, .int 0, .int 0, .ref q_700_2, .ref q_700_3, .ref q_700_4, .ref q_700_5, .ref q_700_6, .ref q_700_7, .ref q_700_8, .ref q_700_9, .ref q_700_10, .ref q_700_11, .ref q_700_12, .ref q_700_13, .ref q_700_14, .ref q_700_15, .ref q_700_16, .ref q_700_17, .int 0, .int 0, .ref q_700_18, .ref q_700_19, .ref q_700_20, .ref q_700_21, .ref q_700_22, .ref q_700_23, .ref q_700_24, .ref q_700_25, .ref q_700_26, .ref q_700_27, .ref q_700_28, .ref q_700_29, .int 0, .long 0, .ref q_700_30, .ref q_700_31, .ref q_700_32, .ref q_700_33, .ref q_700_34, .ref q_700_35, .ref q_700_36, .ref q_700_37, .ref q_700_38, .ref q_700_39, .ref q_700_40, .ref q_700_41, .int 0, .int 0, .int 0, .int 0, .ref q_700_42, .ref q_700_43, .ref q_700_44, .ref q_700_45, .int 0, .ref q_700_46, .ref q_700_47, .int 0, .long 0]))] := hD
              refine lv_istore (lv' := [(6, .int v_27), (5, .int 0), (4, .int 0), (3, .ref q_800), (2, .ref h_2), (1, .ref h_1), (0, .ref b)]) hx hb dL_law_932 hl (by decide) rfl (fun ls hl => ?_)
              refine lv_aload_n hx hb dL_law_934 rfl (lv_at hl 4 rfl) ?_
              refine x_i (wr := [(q_800, .inl (cy 2, 1, .inr (.inl (vp_updL (fun _ => 0) 0 v_27.toInt64))))]) hP hD hS hA [1] [0] rfl rfl (by decide) (by decide) (va_runV (As := []) (rest := []) ⟨hx, hb, hml, hown, hts⟩ (c_X12_thrown_2 l D cy h_2 q_700_1 q_700_2 q_700_3 q_700_4 q_700_5 q_700_6 q_700_7 q_700_8 q_700_9 q_700_10 q_700_11 q_700_12 q_700_13 q_700_14 q_700_15 q_700_16 q_700_17 q_700_18 q_700_19 q_700_20 q_700_21 q_700_22 q_700_23 q_700_24 q_700_25 q_700_26 q_700_27 q_700_28 q_700_29 q_700_30 q_700_31 q_700_32 q_700_33 q_700_34 q_700_35 q_700_36 q_700_37 q_700_38 q_700_39 q_700_40 q_700_41 q_700_42 q_700_43 q_700_44 q_700_45 q_700_46 q_700_47 H.size) (cwV 0 hts (gV0 km_L_111 ki_X12_thrown kz_X12_thrown kn_X12 kc_X12_thrown) rfl rfl rfl (by decide +kernel) ⟨(Nat.le_of_ble_eq_true rfl), (Nat.le_of_ble_eq_true rfl)⟩) (preV hG hP hD [1] rfl (by decide) 12 1 rfl rfl) rfl rfl hl.1 rfl (lv_room (Nat.le_of_ble_eq_true rfl)) dL_law_935 ⟨(Nat.le_of_ble_eq_true rfl), (Nat.le_of_ble_eq_true rfl)⟩) (fun r_32 H locs hB hj hS => ?_)
              obtain ⟨hres, hP1, hD1⟩ := hB
              subst hres
              obtain ⟨hP, hD⟩ := hj _ hP1 hD1
              have hP : va_P D vwCl [(q_800, .inl (cy 2, 1, .inr (.inl (vp_updL (fun _ => 0) 0 v_27.toInt64)))), (h_2, .inr (12, [.int 0, .int 0, .ref q_700_1, .int 0, .int 0, .int 0, .int 0, .long 0, .int 0, .int 0, .ref q_700_2, .ref q_700_3, .ref q_700_4, .ref q_700_5, .ref q_700_6, .ref q_700_7, .ref q_700_8, .ref q_700_9, .ref q_700_10, .ref q_700_11, .ref q_700_12, .ref q_700_13, .ref q_700_14, .ref q_700_15, .ref q_700_16, .ref q_700_17, .int 0, .int 0, .ref q_700_18, .ref q_700_19, .ref q_700_20, .ref q_700_21, .ref q_700_22, .ref q_700_23, .ref q_700_24, .ref q_700_25, .ref q_700_26, .ref q_700_27, .ref q_700_28, .ref q_700_29, .int 0, .long 0, .ref q_700_30, .ref q_700_31, .ref q_700_32, .ref q_700_33, .ref q_700_34, .ref q_700_35, .ref q_700_36, .ref q_700_37, .ref q_700_38, .ref q_700_39, .ref q_700_40, .ref q_700_41, .int 0, .int 0, .int 0, .int 0, .ref q_700_42, .ref q_700_43, .ref q_700_44, .ref q_700_45, .int 0, .ref q_700_46, .ref q_700_47, .int 0, .long 0]))] H := hP
              have hD : va_D A [(q_800, .inl (cy 2, 1, .inr (.inl (vp_updL (fun _ => 0) 0 v_27.toInt64)))), (h_2, .inr (12, [.int 0, .int 0, .ref q_700_1, .int 0, .int 0, .int 0, .int 0, .long 0, .int 0, .int 0, .ref q_700_2, .ref q_700_3, .ref q_700_4, .ref q_700_5, .ref q_700_6, .ref q_700_7, .ref q_700_8, .ref q_700_9, .ref q_700_10, .ref q_700_11, .ref q_700_12, .ref q_700_13, .ref q_700_14, .ref q_700_15, .ref q_700_16, .ref q_700_17, .int 0, .int 0, .ref q_700_18, .ref q_700_19, .ref q_700_20, .ref q_700_21, .ref q_700_22, .ref q_700_23, .ref q_700_24, .ref q_700_25, .ref q_700_26, .ref q_700_27, .ref q_700_28, .ref q_700_29, .int 0, .long 0, .ref q_700_30, .ref q_700_31, .ref q_700_32, .ref q_700_33, .ref q_700_34, .ref q_700_35, .ref q_700_36, .ref q_700_37, .ref q_700_38, .ref q_700_39, .ref q_700_40, .ref q_700_41, .int 0, .int 0, .int 0, .int 0, .ref q_700_42, .ref q_700_43, .ref q_700_44, .ref q_700_45, .int 0, .ref q_700_46, .ref q_700_47, .int 0, .long 0]))] := hD
              refine lv_iload hx hb dL_law_938 (lv_at hl 1 rfl) ?_
              refine lv_icmp_eq (tgt := 945) hx hb dL_law_940 (by decide) (fun _ => ?_) (fun c_ => absurd rfl c_)
              refine lv_iload hx hb dL_law_945 (lv_at hl 1 rfl) ?_
              refine lv_if_ne (tgt := 962) hx hb dL_law_947 (by decide) (fun c_ => absurd rfl c_) (fun _ => ?_)
              refine lv_aload_n hx hb dL_law_950 rfl (lv_at hl 3 rfl) ?_
              refine lv_iconst (v := 0) hx hb dL_law_951 (by decide) ?_
              refine m_lald (v := v_27.toInt64) hx hb hG hP 0 rfl (vin (by decide)) dL_law_952 rfl ?_
              refine lv_iload hx hb dL_law_953 (lv_at hl 0 rfl) ?_
              refine lv_i2l (v := v_27.toInt64) hx hb dL_law_955 rfl ?_
              refine m_lcmp (v := 0) hx hb dL_law_956 (cmp_self _) ?_
              refine lv_if_eq (tgt := 962) hx hb dL_law_957 (by decide) (fun _ => ?_) (fun c_ => absurd rfl c_)
              refine lv_goto (tgt := 1092) hx hb dL_law_962 (by decide) ?_
              refine lv_iinc (v := 7) (lv' := [(4, .int 7), (6, .int v_27), (5, .int 0), (3, .ref q_800), (2, .ref h_2), (1, .ref h_1), (0, .ref b)]) hx hb dL_law_1092 hl (k := 2) rfl (by decide) (by decide) rfl (fun ls hl => ?_)
              refine lv_goto (tgt := 23) hx hb dL_law_1095 (by decide) ?_
              refine lv_iload hx hb dL_law_23 (lv_at hl 0 rfl) ?_
              refine lv_aload_n hx hb dL_law_25 rfl (lv_at hl 6 rfl) ?_
              refine va_slen hx hb hX hbl hbA hS dL_law_26 ?_
              refine m_as (v := 7) rfl ?_
              refine lv_bipush (v := 7) hx hb dL_law_27 (by decide) ?_
              refine m_isub (v := 0) hx hb dL_law_29 (by decide) ?_
              refine lv_icmp_gt (tgt := 1098) hx hb dL_law_30 (by decide) (fun _ => ?_) (fun c_ => absurd (by decide) c_)
              refine lv_iconst (v := 1) hx hb dL_law_1098 (by decide) ?_
              exact lw_end hx hb hr hlocks hAd hS (Nat.le_of_ble_eq_true rfl) (Nat.le_of_ble_eq_true rfl) dL_law_1099
            · by_cases g_33 : xs 3 < (-1)
              · refine lv_aload_n hx hb dL_law_885 rfl (lv_at hl 3 rfl) ?_
                refine lv_aload_n hx hb dL_law_886 rfl (lv_at hl 4 rfl) ?_
                refine lv_iload hx hb dL_law_887 (lv_at hl 0 rfl) ?_
                refine lv_iconst (v := 1) hx hb dL_law_889 (by decide) ?_
                refine m_iadd (v := 1) hx hb dL_law_890 (by decide) ?_
                refine va_sld hx hb hX hbl hbA hS (vin (by decide)) dL_law_891 ?_
                refine m_as (v := xs 1) rfl ?_
                refine lv_aload_n hx hb dL_law_892 rfl (lv_at hl 4 rfl) ?_
                refine lv_iload hx hb dL_law_893 (lv_at hl 0 rfl) ?_
                refine lv_iconst (v := 2) hx hb dL_law_895 (by decide) ?_
                refine m_iadd (v := 2) hx hb dL_law_896 (by decide) ?_
                refine va_sld hx hb hX hbl hbA hS (vin (by decide)) dL_law_897 ?_
                refine m_as (v := xs 2) rfl ?_
                refine lv_aload_n hx hb dL_law_898 rfl (lv_at hl 4 rfl) ?_
                refine lv_iload hx hb dL_law_899 (lv_at hl 0 rfl) ?_
                refine lv_iconst (v := 3) hx hb dL_law_901 (by decide) ?_
                refine m_iadd (v := 3) hx hb dL_law_902 (by decide) ?_
                refine va_sld hx hb hX hbl hbA hS (vin (by decide)) dL_law_903 ?_
                refine m_as (v := xs 3) rfl ?_
                refine lv_aload_n hx hb dL_law_904 rfl (lv_at hl 1 rfl) ?_
                refine x_i (wr := [(h_2, .inr (12, [.int 0, .int 0, .ref q_700_1, .int 0, .int 0, .int 0, .int 0, .long 0, .int 0, .int 0, .ref q_700_2, .ref q_700_3, .ref q_700_4, .ref q_700_5, .ref q_700_6, .ref q_700_7, .ref q_700_8, .ref q_700_9, .ref q_700_10, .ref q_700_11, .ref q_700_12, .ref q_700_13, .ref q_700_14, .ref q_700_15, .ref q_700_16, .ref q_700_17, .int 0, .int 0, .ref q_700_18, .ref q_700_19, .ref q_700_20, .ref q_700_21, .ref q_700_22, .ref q_700_23, .ref q_700_24, .ref q_700_25, .ref q_700_26, .ref q_700_27, .ref q_700_28, .ref q_700_29, .int 0, .long 0, .ref q_700_30, .ref q_700_31, .ref q_700_32, .ref q_700_33, .ref q_700_34, .ref q_700_35, .ref q_700_36, .ref q_700_37, .ref q_700_38, .ref q_700_39, .ref q_700_40, .ref q_700_41, .int 0, .int 0, .int 0, .int 0, .ref q_700_42, .ref q_700_43, .ref q_700_44, .ref q_700_45, .int 0, .ref q_700_46, .ref q_700_47, .int 0, .long 0])), (q_800, .inl (cy 2, 1, .inr (.inl (fun _ => 0))))]) hP hD hS hA [0, 1] [2, 3] rfl rfl (by decide) (by decide) (vx_runSW (hh := [(0, 12, 15, 13)]) (As := [.ref h_1, .int (xs 1), .int (xs 2), .int (xs 3), .ref q_800]) (rest := []) ⟨hx, hb, hml, hown, hts⟩ (c_L_rests_th l hlt D cy h_1 q_1 q_3 q_4 q_25 q_46 q_50 q_54 q_58 q_62 q_63 q_64 q_67 q_85 q_90 q_93 q_800 (fun _ => 0) (xs 1) (xs 2) (xs 3) H.size (Or.inr (Or.inr (Or.inr (Or.inr ⟨g_17, no_ex g_25⟩))))) (vx_cwSW 5 hts gLrests rfl rfl rfl (by decide +kernel) ⟨(Nat.le_of_ble_eq_true rfl), (Nat.le_of_ble_eq_true rfl)⟩) (prexS hG hP hD hS hA hZ [0, 1] rfl (by decide)) rfl rfl hl.1 rfl (lv_room (Nat.le_of_ble_eq_true rfl)) dL_law_905 ⟨(Nat.le_of_ble_eq_true rfl), (Nat.le_of_ble_eq_true rfl)⟩) (fun r_34 H locs hB hj hS => ?_)
                obtain ⟨hres, hP1, hD1⟩ := hB
                subst hres
                obtain ⟨hP, hD⟩ := hj _ hP1 hD1
                have hP : va_P D vwCl [(h_2, .inr (12, [.int 0, .int 0, .ref q_700_1, .int 0, .int 0, .int 0, .int 0, .long 0, .int 0, .int 0, .ref q_700_2, .ref q_700_3, .ref q_700_4, .ref q_700_5, .ref q_700_6, .ref q_700_7, .ref q_700_8, .ref q_700_9, .ref q_700_10, .ref q_700_11, .ref q_700_12, .ref q_700_13, .ref q_700_14, .ref q_700_15, .ref q_700_16, .ref q_700_17, .int 0, .int 0, .ref q_700_18, .ref q_700_19, .ref q_700_20, .ref q_700_21, .ref q_700_22, .ref q_700_23, .ref q_700_24, .ref q_700_25, .ref q_700_26, .ref q_700_27, .ref q_700_28, .ref q_700_29, .int 0, .long 0, .ref q_700_30, .ref q_700_31, .ref q_700_32, .ref q_700_33, .ref q_700_34, .ref q_700_35, .ref q_700_36, .ref q_700_37, .ref q_700_38, .ref q_700_39, .ref q_700_40, .ref q_700_41, .int 0, .int 0, .int 0, .int 0, .ref q_700_42, .ref q_700_43, .ref q_700_44, .ref q_700_45, .int 0, .ref q_700_46, .ref q_700_47, .int 0, .long 0])), (q_800, .inl (cy 2, 1, .inr (.inl (fun _ => 0))))] H := hP
                have hD : va_D A [(h_2, .inr (12, [.int 0, .int 0, .ref q_700_1, .int 0, .int 0, .int 0, .int 0, .long 0, .int 0, .int 0, .ref q_700_2, .ref q_700_3, .ref q_700_4, .ref q_700_5, .ref q_700_6, .ref q_700_7, .ref q_700_8, .ref q_700_9, .ref q_700_10, .ref q_700_11, .ref q_700_12, .ref q_700_13, .ref q_700_14, .ref q_700_15, .ref q_700_16, .ref q_700_17, .int 0, .int 0, .ref q_700_18, .ref q_700_19, .ref q_700_20, .ref q_700_21, .ref q_700_22, .ref q_700_23, .ref q_700_24, .ref q_700_25, .ref q_700_26, .ref q_700_27, .ref q_700_28, .ref q_700_29, .int 0, .long 0, .ref q_700_30, .ref q_700_31, .ref q_700_32, .ref q_700_33, .ref q_700_34, .ref q_700_35, .ref q_700_36, .ref q_700_37, .ref q_700_38, .ref q_700_39, .ref q_700_40, .ref q_700_41, .int 0, .int 0, .int 0, .int 0, .ref q_700_42, .ref q_700_43, .ref q_700_44, .ref q_700_45, .int 0, .ref q_700_46, .ref q_700_47, .int 0, .long 0])), (q_800, .inl (cy 2, 1, .inr (.inl (fun _ => 0))))] := hD
                refine W.widen (k := 248) (n := 10836) (Nat.le_of_ble_eq_true rfl) (Nat.le_of_ble_eq_true rfl) ?_
                refine lv_istore (lv' := [(5, .int 1), (4, .int 0), (3, .ref q_800), (2, .ref h_2), (1, .ref h_1), (0, .ref b)]) hx hb dL_law_908 hl (by decide) rfl (fun ls hl => ?_)
                refine lv_aload_n hx hb dL_law_910 rfl (lv_at hl 3 rfl) ?_
                refine lv_aload_n hx hb dL_law_911 rfl (lv_at hl 5 rfl) ?_
                refine lv_iload hx hb dL_law_912 (lv_at hl 1 rfl) ?_
                refine lv_iconst (v := 1) hx hb dL_law_914 (by decide) ?_
                refine m_iadd (v := 1) hx hb dL_law_915 (by decide) ?_
                refine va_sld hx hb hX hbl hbA hS (vin (by decide)) dL_law_916 ?_
                refine m_as (v := xs 1) rfl ?_
                refine lv_aload_n hx hb dL_law_917 rfl (lv_at hl 5 rfl) ?_
                refine lv_iload hx hb dL_law_918 (lv_at hl 1 rfl) ?_
                refine lv_iconst (v := 2) hx hb dL_law_920 (by decide) ?_
                refine m_iadd (v := 2) hx hb dL_law_921 (by decide) ?_
                refine va_sld hx hb hX hbl hbA hS (vin (by decide)) dL_law_922 ?_
                refine m_as (v := xs 2) rfl ?_
                refine lv_aload_n hx hb dL_law_923 rfl (lv_at hl 5 rfl) ?_
                refine lv_iload hx hb dL_law_924 (lv_at hl 1 rfl) ?_
                refine lv_iconst (v := 3) hx hb dL_law_926 (by decide) ?_
                refine m_iadd (v := 3) hx hb dL_law_927 (by decide) ?_
                refine va_sld hx hb hX hbl hbA hS (vin (by decide)) dL_law_928 ?_
                refine m_as (v := xs 3) rfl ?_
                refine x_i (wr := [(q_800, .inl (cy 2, 1, .inr (.inl (fun _ => 0))))]) hP hD hS hA [0] [1] rfl rfl (by decide) (by decide) (va_runV (As := [.int (xs 1), .int (xs 2), .int (xs 3)]) (rest := []) ⟨hx, hb, hml, hown, hts⟩ (c_X12_rests_5 l D cy h_2 q_700_1 q_700_2 q_700_3 q_700_4 q_700_5 q_700_6 q_700_7 q_700_8 q_700_9 q_700_10 q_700_11 q_700_12 q_700_13 q_700_14 q_700_15 q_700_16 q_700_17 q_700_18 q_700_19 q_700_20 q_700_21 q_700_22 q_700_23 q_700_24 q_700_25 q_700_26 q_700_27 q_700_28 q_700_29 q_700_30 q_700_31 q_700_32 q_700_33 q_700_34 q_700_35 q_700_36 q_700_37 q_700_38 q_700_39 q_700_40 q_700_41 q_700_42 q_700_43 q_700_44 q_700_45 q_700_46 q_700_47 (xs 1) (xs 2) (xs 3) H.size g_1 g_5 g_9 g_13 g_17 g_33) (cwV 3 hts (gV0 km_L_110 ki_X12_rests kz_X12_rests kn_X12 kc_X12_rests) rfl rfl rfl (by decide +kernel) ⟨(Nat.le_of_ble_eq_true rfl), (Nat.le_of_ble_eq_true rfl)⟩) (preV hG hP hD [0] rfl (by decide) 12 0 rfl rfl) rfl rfl hl.1 rfl (lv_room (Nat.le_of_ble_eq_true rfl)) dL_law_929 ⟨(Nat.le_of_ble_eq_true rfl), (Nat.le_of_ble_eq_true rfl)⟩) (fun r_35 H locs hB hj hS => ?_)
                obtain ⟨hres, hP1, hD1⟩ := hB
                subst hres
                obtain ⟨hP, hD⟩ := hj _ hP1 hD1
                have hP : va_P D vwCl [(q_800, .inl (cy 2, 1, .inr (.inl (fun _ => 0)))), (h_2, .inr (12, [.int 1, .int 0, .ref q_700_1, .int 0, .int 0, .int 0, .int 0, .long 0, .int 0, .int 0, .ref q_700_2, .ref q_700_3, .ref q_700_4, .ref q_700_5, .ref q_700_6, .ref q_700_7, .ref q_700_8, .ref q_700_9, .ref q_700_10, .ref q_700_11, .ref q_700_12, .ref q_700_13, .ref q_700_14, .ref q_700_15, .ref q_700_16, .ref q_700_17, .int 0, .int 0, .ref q_700_18, .ref q_700_19, .ref q_700_20, .ref q_700_21, .ref q_700_22, .ref q_700_23, .ref q_700_24, .ref q_700_25, .ref q_700_26, .ref q_700_27, .ref q_700_28, .ref q_700_29, .int 0, .long 0, .ref q_700_30, .ref q_700_31, .ref q_700_32, .ref q_700_33, .ref q_700_34, .ref q_700_35, .ref q_700_36, .ref q_700_37, .ref q_700_38, .ref q_700_39, .ref q_700_40, .ref q_700_41, .int 0, .int 0, .int 0, .int 0, .ref q_700_42, .ref q_700_43, .ref q_700_44, .ref q_700_45, .int 0, .ref q_700_46, .ref q_700_47, .int 0, .long 0]))] H := hP
                have hD : va_D A [(q_800, .inl (cy 2, 1, .inr (.inl (fun _ => 0)))), (h_2, .inr (12, [.int 1, .int 0, .ref q_700_1, .int 0, .int 0, .int 0, .int 0, .long 0, .int 0, .int 0, .ref q_700_2, .ref q_700_3, .ref q_700_4, .ref q_700_5, .ref q_700_6, .ref q_700_7, .ref q_700_8, .ref q_700_9, .ref q_700_10, .ref q_700_11, .ref q_700_12, .ref q_700_13, .ref q_700_14, .ref q_700_15, .ref q_700_16, .ref q_700_17, .int 0, .int 0, .ref q_700_18, .ref q_700_19, .ref q_700_20, .ref q_700_21, .ref q_700_22, .ref q_700_23, .ref q_700_24, .ref q_700_25, .ref q_700_26, .ref q_700_27, .ref q_700_28, .ref q_700_29, .int 0, .long 0, .ref q_700_30, .ref q_700_31, .ref q_700_32, .ref q_700_33, .ref q_700_34, .ref q_700_35, .ref q_700_36, .ref q_700_37, .ref q_700_38, .ref q_700_39, .ref q_700_40, .ref q_700_41, .int 0, .int 0, .int 0, .int 0, .ref q_700_42, .ref q_700_43, .ref q_700_44, .ref q_700_45, .int 0, .ref q_700_46, .ref q_700_47, .int 0, .long 0]))] := hD
                refine lv_istore (lv' := [(6, .int 0), (5, .int 1), (4, .int 0), (3, .ref q_800), (2, .ref h_2), (1, .ref h_1), (0, .ref b)]) hx hb dL_law_932 hl (by decide) rfl (fun ls hl => ?_)
                refine lv_aload_n hx hb dL_law_934 rfl (lv_at hl 4 rfl) ?_
                refine x_i (wr := [(q_800, .inl (cy 2, 1, .inr (.inl (fun _ => 0))))]) hP hD hS hA [1] [0] rfl rfl (by decide) (by decide) (va_runV (As := []) (rest := []) ⟨hx, hb, hml, hown, hts⟩ (c_X12_thrown_1 l D cy h_2 q_700_1 q_700_2 q_700_3 q_700_4 q_700_5 q_700_6 q_700_7 q_700_8 q_700_9 q_700_10 q_700_11 q_700_12 q_700_13 q_700_14 q_700_15 q_700_16 q_700_17 q_700_18 q_700_19 q_700_20 q_700_21 q_700_22 q_700_23 q_700_24 q_700_25 q_700_26 q_700_27 q_700_28 q_700_29 q_700_30 q_700_31 q_700_32 q_700_33 q_700_34 q_700_35 q_700_36 q_700_37 q_700_38 q_700_39 q_700_40 q_700_41 q_700_42 q_700_43 q_700_44 q_700_45 q_700_46 q_700_47 H.size) (cwV 0 hts (gV0 km_L_111 ki_X12_thrown kz_X12_thrown kn_X12 kc_X12_thrown) rfl rfl rfl (by decide +kernel) ⟨(Nat.le_of_ble_eq_true rfl), (Nat.le_of_ble_eq_true rfl)⟩) (preV hG hP hD [1] rfl (by decide) 12 1 rfl rfl) rfl rfl hl.1 rfl (lv_room (Nat.le_of_ble_eq_true rfl)) dL_law_935 ⟨(Nat.le_of_ble_eq_true rfl), (Nat.le_of_ble_eq_true rfl)⟩) (fun r_36 H locs hB hj hS => ?_)
                obtain ⟨hres, hP1, hD1⟩ := hB
                subst hres
                obtain ⟨hP, hD⟩ := hj _ hP1 hD1
                have hP : va_P D vwCl [(q_800, .inl (cy 2, 1, .inr (.inl (fun _ => 0)))), (h_2, .inr (12, [.int 1, .int 0, .ref q_700_1, .int 0, .int 0, .int 0, .int 0, .long 0, .int 0, .int 0, .ref q_700_2, .ref q_700_3, .ref q_700_4, .ref q_700_5, .ref q_700_6, .ref q_700_7, .ref q_700_8, .ref q_700_9, .ref q_700_10, .ref q_700_11, .ref q_700_12, .ref q_700_13, .ref q_700_14, .ref q_700_15, .ref q_700_16, .ref q_700_17, .int 0, .int 0, .ref q_700_18, .ref q_700_19, .ref q_700_20, .ref q_700_21, .ref q_700_22, .ref q_700_23, .ref q_700_24, .ref q_700_25, .ref q_700_26, .ref q_700_27, .ref q_700_28, .ref q_700_29, .int 0, .long 0, .ref q_700_30, .ref q_700_31, .ref q_700_32, .ref q_700_33, .ref q_700_34, .ref q_700_35, .ref q_700_36, .ref q_700_37, .ref q_700_38, .ref q_700_39, .ref q_700_40, .ref q_700_41, .int 0, .int 0, .int 0, .int 0, .ref q_700_42, .ref q_700_43, .ref q_700_44, .ref q_700_45, .int 0, .ref q_700_46, .ref q_700_47, .int 0, .long 0]))] H := hP
                have hD : va_D A [(q_800, .inl (cy 2, 1, .inr (.inl (fun _ => 0)))), (h_2, .inr (12, [.int 1, .int 0, .ref q_700_1, .int 0, .int 0, .int 0, .int 0, .long 0, .int 0, .int 0, .ref q_700_2, .ref q_700_3, .ref q_700_4, .ref q_700_5, .ref q_700_6, .ref q_700_7, .ref q_700_8, .ref q_700_9, .ref q_700_10, .ref q_700_11, .ref q_700_12, .ref q_700_13, .ref q_700_14, .ref q_700_15, .ref q_700_16, .ref q_700_17, .int 0, .int 0, .ref q_700_18, .ref q_700_19, .ref q_700_20, .ref q_700_21, .ref q_700_22, .ref q_700_23, .ref q_700_24, .ref q_700_25, .ref q_700_26, .ref q_700_27, .ref q_700_28, .ref q_700_29, .int 0, .long 0, .ref q_700_30, .ref q_700_31, .ref q_700_32, .ref q_700_33, .ref q_700_34, .ref q_700_35, .ref q_700_36, .ref q_700_37, .ref q_700_38, .ref q_700_39, .ref q_700_40, .ref q_700_41, .int 0, .int 0, .int 0, .int 0, .ref q_700_42, .ref q_700_43, .ref q_700_44, .ref q_700_45, .int 0, .ref q_700_46, .ref q_700_47, .int 0, .long 0]))] := hD
                refine lv_iload hx hb dL_law_938 (lv_at hl 1 rfl) ?_
                refine lv_icmp_eq (tgt := 945) hx hb dL_law_940 (by decide) (fun _ => ?_) (fun c_ => absurd rfl c_)
                refine lv_iload hx hb dL_law_945 (lv_at hl 1 rfl) ?_
                refine lv_if_ne (tgt := 962) hx hb dL_law_947 (by decide) (fun _ => ?_) (fun c_ => absurd c_ (by decide))
                refine lv_goto (tgt := 1092) hx hb dL_law_962 (by decide) ?_
                refine lv_iinc (v := 7) (lv' := [(4, .int 7), (6, .int 0), (5, .int 1), (3, .ref q_800), (2, .ref h_2), (1, .ref h_1), (0, .ref b)]) hx hb dL_law_1092 hl (k := 2) rfl (by decide) (by decide) rfl (fun ls hl => ?_)
                refine lv_goto (tgt := 23) hx hb dL_law_1095 (by decide) ?_
                refine lv_iload hx hb dL_law_23 (lv_at hl 0 rfl) ?_
                refine lv_aload_n hx hb dL_law_25 rfl (lv_at hl 6 rfl) ?_
                refine va_slen hx hb hX hbl hbA hS dL_law_26 ?_
                refine m_as (v := 7) rfl ?_
                refine lv_bipush (v := 7) hx hb dL_law_27 (by decide) ?_
                refine m_isub (v := 0) hx hb dL_law_29 (by decide) ?_
                refine lv_icmp_gt (tgt := 1098) hx hb dL_law_30 (by decide) (fun _ => ?_) (fun c_ => absurd (by decide) c_)
                refine lv_iconst (v := 1) hx hb dL_law_1098 (by decide) ?_
                exact lw_end hx hb hr hlocks hAd hS (Nat.le_of_ble_eq_true rfl) (Nat.le_of_ble_eq_true rfl) dL_law_1099
              · refine lv_aload_n hx hb dL_law_885 rfl (lv_at hl 3 rfl) ?_
                refine lv_aload_n hx hb dL_law_886 rfl (lv_at hl 4 rfl) ?_
                refine lv_iload hx hb dL_law_887 (lv_at hl 0 rfl) ?_
                refine lv_iconst (v := 1) hx hb dL_law_889 (by decide) ?_
                refine m_iadd (v := 1) hx hb dL_law_890 (by decide) ?_
                refine va_sld hx hb hX hbl hbA hS (vin (by decide)) dL_law_891 ?_
                refine m_as (v := xs 1) rfl ?_
                refine lv_aload_n hx hb dL_law_892 rfl (lv_at hl 4 rfl) ?_
                refine lv_iload hx hb dL_law_893 (lv_at hl 0 rfl) ?_
                refine lv_iconst (v := 2) hx hb dL_law_895 (by decide) ?_
                refine m_iadd (v := 2) hx hb dL_law_896 (by decide) ?_
                refine va_sld hx hb hX hbl hbA hS (vin (by decide)) dL_law_897 ?_
                refine m_as (v := xs 2) rfl ?_
                refine lv_aload_n hx hb dL_law_898 rfl (lv_at hl 4 rfl) ?_
                refine lv_iload hx hb dL_law_899 (lv_at hl 0 rfl) ?_
                refine lv_iconst (v := 3) hx hb dL_law_901 (by decide) ?_
                refine m_iadd (v := 3) hx hb dL_law_902 (by decide) ?_
                refine va_sld hx hb hX hbl hbA hS (vin (by decide)) dL_law_903 ?_
                refine m_as (v := xs 3) rfl ?_
                refine lv_aload_n hx hb dL_law_904 rfl (lv_at hl 1 rfl) ?_
                refine x_i (wr := [(h_2, .inr (12, [.int 0, .int 0, .ref q_700_1, .int 0, .int 0, .int 0, .int 0, .long 0, .int 0, .int 0, .ref q_700_2, .ref q_700_3, .ref q_700_4, .ref q_700_5, .ref q_700_6, .ref q_700_7, .ref q_700_8, .ref q_700_9, .ref q_700_10, .ref q_700_11, .ref q_700_12, .ref q_700_13, .ref q_700_14, .ref q_700_15, .ref q_700_16, .ref q_700_17, .int 0, .int 0, .ref q_700_18, .ref q_700_19, .ref q_700_20, .ref q_700_21, .ref q_700_22, .ref q_700_23, .ref q_700_24, .ref q_700_25, .ref q_700_26, .ref q_700_27, .ref q_700_28, .ref q_700_29, .int 0, .long 0, .ref q_700_30, .ref q_700_31, .ref q_700_32, .ref q_700_33, .ref q_700_34, .ref q_700_35, .ref q_700_36, .ref q_700_37, .ref q_700_38, .ref q_700_39, .ref q_700_40, .ref q_700_41, .int 0, .int 0, .int 0, .int 0, .ref q_700_42, .ref q_700_43, .ref q_700_44, .ref q_700_45, .int 0, .ref q_700_46, .ref q_700_47, .int 0, .long 0])), (q_800, .inl (cy 2, 1, .inr (.inl (fun _ => 0))))]) hP hD hS hA [0, 1] [2, 3] rfl rfl (by decide) (by decide) (vx_runSW (hh := [(0, 12, 15, 13)]) (As := [.ref h_1, .int (xs 1), .int (xs 2), .int (xs 3), .ref q_800]) (rest := []) ⟨hx, hb, hml, hown, hts⟩ (c_L_rests_th l hlt D cy h_1 q_1 q_3 q_4 q_25 q_46 q_50 q_54 q_58 q_62 q_63 q_64 q_67 q_85 q_90 q_93 q_800 (fun _ => 0) (xs 1) (xs 2) (xs 3) H.size (Or.inr (Or.inr (Or.inr (Or.inr ⟨g_17, no_ex g_25⟩))))) (vx_cwSW 5 hts gLrests rfl rfl rfl (by decide +kernel) ⟨(Nat.le_of_ble_eq_true rfl), (Nat.le_of_ble_eq_true rfl)⟩) (prexS hG hP hD hS hA hZ [0, 1] rfl (by decide)) rfl rfl hl.1 rfl (lv_room (Nat.le_of_ble_eq_true rfl)) dL_law_905 ⟨(Nat.le_of_ble_eq_true rfl), (Nat.le_of_ble_eq_true rfl)⟩) (fun r_37 H locs hB hj hS => ?_)
                obtain ⟨hres, hP1, hD1⟩ := hB
                subst hres
                obtain ⟨hP, hD⟩ := hj _ hP1 hD1
                have hP : va_P D vwCl [(h_2, .inr (12, [.int 0, .int 0, .ref q_700_1, .int 0, .int 0, .int 0, .int 0, .long 0, .int 0, .int 0, .ref q_700_2, .ref q_700_3, .ref q_700_4, .ref q_700_5, .ref q_700_6, .ref q_700_7, .ref q_700_8, .ref q_700_9, .ref q_700_10, .ref q_700_11, .ref q_700_12, .ref q_700_13, .ref q_700_14, .ref q_700_15, .ref q_700_16, .ref q_700_17, .int 0, .int 0, .ref q_700_18, .ref q_700_19, .ref q_700_20, .ref q_700_21, .ref q_700_22, .ref q_700_23, .ref q_700_24, .ref q_700_25, .ref q_700_26, .ref q_700_27, .ref q_700_28, .ref q_700_29, .int 0, .long 0, .ref q_700_30, .ref q_700_31, .ref q_700_32, .ref q_700_33, .ref q_700_34, .ref q_700_35, .ref q_700_36, .ref q_700_37, .ref q_700_38, .ref q_700_39, .ref q_700_40, .ref q_700_41, .int 0, .int 0, .int 0, .int 0, .ref q_700_42, .ref q_700_43, .ref q_700_44, .ref q_700_45, .int 0, .ref q_700_46, .ref q_700_47, .int 0, .long 0])), (q_800, .inl (cy 2, 1, .inr (.inl (fun _ => 0))))] H := hP
                have hD : va_D A [(h_2, .inr (12, [.int 0, .int 0, .ref q_700_1, .int 0, .int 0, .int 0, .int 0, .long 0, .int 0, .int 0, .ref q_700_2, .ref q_700_3, .ref q_700_4, .ref q_700_5, .ref q_700_6, .ref q_700_7, .ref q_700_8, .ref q_700_9, .ref q_700_10, .ref q_700_11, .ref q_700_12, .ref q_700_13, .ref q_700_14, .ref q_700_15, .ref q_700_16, .ref q_700_17, .int 0, .int 0, .ref q_700_18, .ref q_700_19, .ref q_700_20, .ref q_700_21, .ref q_700_22, .ref q_700_23, .ref q_700_24, .ref q_700_25, .ref q_700_26, .ref q_700_27, .ref q_700_28, .ref q_700_29, .int 0, .long 0, .ref q_700_30, .ref q_700_31, .ref q_700_32, .ref q_700_33, .ref q_700_34, .ref q_700_35, .ref q_700_36, .ref q_700_37, .ref q_700_38, .ref q_700_39, .ref q_700_40, .ref q_700_41, .int 0, .int 0, .int 0, .int 0, .ref q_700_42, .ref q_700_43, .ref q_700_44, .ref q_700_45, .int 0, .ref q_700_46, .ref q_700_47, .int 0, .long 0])), (q_800, .inl (cy 2, 1, .inr (.inl (fun _ => 0))))] := hD
                refine W.widen (k := 248) (n := 10836) (Nat.le_of_ble_eq_true rfl) (Nat.le_of_ble_eq_true rfl) ?_
                refine lv_istore (lv' := [(5, .int 1), (4, .int 0), (3, .ref q_800), (2, .ref h_2), (1, .ref h_1), (0, .ref b)]) hx hb dL_law_908 hl (by decide) rfl (fun ls hl => ?_)
                refine lv_aload_n hx hb dL_law_910 rfl (lv_at hl 3 rfl) ?_
                refine lv_aload_n hx hb dL_law_911 rfl (lv_at hl 5 rfl) ?_
                refine lv_iload hx hb dL_law_912 (lv_at hl 1 rfl) ?_
                refine lv_iconst (v := 1) hx hb dL_law_914 (by decide) ?_
                refine m_iadd (v := 1) hx hb dL_law_915 (by decide) ?_
                refine va_sld hx hb hX hbl hbA hS (vin (by decide)) dL_law_916 ?_
                refine m_as (v := xs 1) rfl ?_
                refine lv_aload_n hx hb dL_law_917 rfl (lv_at hl 5 rfl) ?_
                refine lv_iload hx hb dL_law_918 (lv_at hl 1 rfl) ?_
                refine lv_iconst (v := 2) hx hb dL_law_920 (by decide) ?_
                refine m_iadd (v := 2) hx hb dL_law_921 (by decide) ?_
                refine va_sld hx hb hX hbl hbA hS (vin (by decide)) dL_law_922 ?_
                refine m_as (v := xs 2) rfl ?_
                refine lv_aload_n hx hb dL_law_923 rfl (lv_at hl 5 rfl) ?_
                refine lv_iload hx hb dL_law_924 (lv_at hl 1 rfl) ?_
                refine lv_iconst (v := 3) hx hb dL_law_926 (by decide) ?_
                refine m_iadd (v := 3) hx hb dL_law_927 (by decide) ?_
                refine va_sld hx hb hX hbl hbA hS (vin (by decide)) dL_law_928 ?_
                refine m_as (v := xs 3) rfl ?_
                refine x_i (wr := [(q_800, .inl (cy 2, 1, .inr (.inl (fun _ => 0))))]) hP hD hS hA [0] [1] rfl rfl (by decide) (by decide) (va_runV (As := [.int (xs 1), .int (xs 2), .int (xs 3)]) (rest := []) ⟨hx, hb, hml, hown, hts⟩ (c_X12_rests l D cy h_2 q_700_1 q_700_2 q_700_3 q_700_4 q_700_5 q_700_6 q_700_7 q_700_8 q_700_9 q_700_10 q_700_11 q_700_12 q_700_13 q_700_14 q_700_15 q_700_16 q_700_17 q_700_18 q_700_19 q_700_20 q_700_21 q_700_22 q_700_23 q_700_24 q_700_25 q_700_26 q_700_27 q_700_28 q_700_29 q_700_30 q_700_31 q_700_32 q_700_33 q_700_34 q_700_35 q_700_36 q_700_37 q_700_38 q_700_39 q_700_40 q_700_41 q_700_42 q_700_43 q_700_44 q_700_45 q_700_46 q_700_47 (xs 1) (xs 2) (xs 3) H.size g_1 g_5 g_9 g_13 g_33) (cwV 3 hts (gV0 km_L_110 ki_X12_rests kz_X12_rests kn_X12 kc_X12_rests) rfl rfl rfl (by decide +kernel) ⟨(Nat.le_of_ble_eq_true rfl), (Nat.le_of_ble_eq_true rfl)⟩) (preV hG hP hD [0] rfl (by decide) 12 0 rfl rfl) rfl rfl hl.1 rfl (lv_room (Nat.le_of_ble_eq_true rfl)) dL_law_929 ⟨(Nat.le_of_ble_eq_true rfl), (Nat.le_of_ble_eq_true rfl)⟩) (fun r_38 H locs hB hj hS => ?_)
                obtain ⟨th_39, hp_40, hP1, hD1⟩ := hB
                obtain ⟨hP, hD⟩ := hj _ hP1 hD1
                have hP : va_P D vwCl [(q_800, .inl (cy 2, 1, .inr (.inl (fun _ => 0)))), (h_2, .inr (12, [.int th_39, .int 0, .ref q_700_1, .int 0, .int 0, .int 0, .int 0, .long 0, .int 0, .int 0, .ref q_700_2, .ref q_700_3, .ref q_700_4, .ref q_700_5, .ref q_700_6, .ref q_700_7, .ref q_700_8, .ref q_700_9, .ref q_700_10, .ref q_700_11, .ref q_700_12, .ref q_700_13, .ref q_700_14, .ref q_700_15, .ref q_700_16, .ref q_700_17, .int 0, .int 0, .ref q_700_18, .ref q_700_19, .ref q_700_20, .ref q_700_21, .ref q_700_22, .ref q_700_23, .ref q_700_24, .ref q_700_25, .ref q_700_26, .ref q_700_27, .ref q_700_28, .ref q_700_29, .int 0, .long 0, .ref q_700_30, .ref q_700_31, .ref q_700_32, .ref q_700_33, .ref q_700_34, .ref q_700_35, .ref q_700_36, .ref q_700_37, .ref q_700_38, .ref q_700_39, .ref q_700_40, .ref q_700_41, .int 0, .int 0, .int 0, .int 0, .ref q_700_42, .ref q_700_43, .ref q_700_44, .ref q_700_45, .int 0, .ref q_700_46, .ref q_700_47, .int 0, .long 0]))] H := hP
                have hD : va_D A [(q_800, .inl (cy 2, 1, .inr (.inl (fun _ => 0)))), (h_2, .inr (12, [.int th_39, .int 0, .ref q_700_1, .int 0, .int 0, .int 0, .int 0, .long 0, .int 0, .int 0, .ref q_700_2, .ref q_700_3, .ref q_700_4, .ref q_700_5, .ref q_700_6, .ref q_700_7, .ref q_700_8, .ref q_700_9, .ref q_700_10, .ref q_700_11, .ref q_700_12, .ref q_700_13, .ref q_700_14, .ref q_700_15, .ref q_700_16, .ref q_700_17, .int 0, .int 0, .ref q_700_18, .ref q_700_19, .ref q_700_20, .ref q_700_21, .ref q_700_22, .ref q_700_23, .ref q_700_24, .ref q_700_25, .ref q_700_26, .ref q_700_27, .ref q_700_28, .ref q_700_29, .int 0, .long 0, .ref q_700_30, .ref q_700_31, .ref q_700_32, .ref q_700_33, .ref q_700_34, .ref q_700_35, .ref q_700_36, .ref q_700_37, .ref q_700_38, .ref q_700_39, .ref q_700_40, .ref q_700_41, .int 0, .int 0, .int 0, .int 0, .ref q_700_42, .ref q_700_43, .ref q_700_44, .ref q_700_45, .int 0, .ref q_700_46, .ref q_700_47, .int 0, .long 0]))] := hD
                have eth := rs_th hp_40 g_17 (no_ex g_25)
                subst eth
                have hP : va_P D vwCl [(q_800, .inl (cy 2, 1, .inr (.inl (fun _ => 0)))), (h_2, .inr (12, [.int 1, .int 0, .ref q_700_1, .int 0, .int 0, .int 0, .int 0, .long 0, .int 0, .int 0, .ref q_700_2, .ref q_700_3, .ref q_700_4, .ref q_700_5, .ref q_700_6, .ref q_700_7, .ref q_700_8, .ref q_700_9, .ref q_700_10, .ref q_700_11, .ref q_700_12, .ref q_700_13, .ref q_700_14, .ref q_700_15, .ref q_700_16, .ref q_700_17, .int 0, .int 0, .ref q_700_18, .ref q_700_19, .ref q_700_20, .ref q_700_21, .ref q_700_22, .ref q_700_23, .ref q_700_24, .ref q_700_25, .ref q_700_26, .ref q_700_27, .ref q_700_28, .ref q_700_29, .int 0, .long 0, .ref q_700_30, .ref q_700_31, .ref q_700_32, .ref q_700_33, .ref q_700_34, .ref q_700_35, .ref q_700_36, .ref q_700_37, .ref q_700_38, .ref q_700_39, .ref q_700_40, .ref q_700_41, .int 0, .int 0, .int 0, .int 0, .ref q_700_42, .ref q_700_43, .ref q_700_44, .ref q_700_45, .int 0, .ref q_700_46, .ref q_700_47, .int 0, .long 0]))] H := hP
                have hD : va_D A [(q_800, .inl (cy 2, 1, .inr (.inl (fun _ => 0)))), (h_2, .inr (12, [.int 1, .int 0, .ref q_700_1, .int 0, .int 0, .int 0, .int 0, .long 0, .int 0, .int 0, .ref q_700_2, .ref q_700_3, .ref q_700_4, .ref q_700_5, .ref q_700_6, .ref q_700_7, .ref q_700_8, .ref q_700_9, .ref q_700_10, .ref q_700_11, .ref q_700_12, .ref q_700_13, .ref q_700_14, .ref q_700_15, .ref q_700_16, .ref q_700_17, .int 0, .int 0, .ref q_700_18, .ref q_700_19, .ref q_700_20, .ref q_700_21, .ref q_700_22, .ref q_700_23, .ref q_700_24, .ref q_700_25, .ref q_700_26, .ref q_700_27, .ref q_700_28, .ref q_700_29, .int 0, .long 0, .ref q_700_30, .ref q_700_31, .ref q_700_32, .ref q_700_33, .ref q_700_34, .ref q_700_35, .ref q_700_36, .ref q_700_37, .ref q_700_38, .ref q_700_39, .ref q_700_40, .ref q_700_41, .int 0, .int 0, .int 0, .int 0, .ref q_700_42, .ref q_700_43, .ref q_700_44, .ref q_700_45, .int 0, .ref q_700_46, .ref q_700_47, .int 0, .long 0]))] := hD
                refine lv_istore (lv' := [(6, .int r_38), (5, .int 1), (4, .int 0), (3, .ref q_800), (2, .ref h_2), (1, .ref h_1), (0, .ref b)]) hx hb dL_law_932 hl (by decide) rfl (fun ls hl => ?_)
                refine lv_aload_n hx hb dL_law_934 rfl (lv_at hl 4 rfl) ?_
                refine x_i (wr := [(q_800, .inl (cy 2, 1, .inr (.inl (fun _ => 0))))]) hP hD hS hA [1] [0] rfl rfl (by decide) (by decide) (va_runV (As := []) (rest := []) ⟨hx, hb, hml, hown, hts⟩ (c_X12_thrown_1 l D cy h_2 q_700_1 q_700_2 q_700_3 q_700_4 q_700_5 q_700_6 q_700_7 q_700_8 q_700_9 q_700_10 q_700_11 q_700_12 q_700_13 q_700_14 q_700_15 q_700_16 q_700_17 q_700_18 q_700_19 q_700_20 q_700_21 q_700_22 q_700_23 q_700_24 q_700_25 q_700_26 q_700_27 q_700_28 q_700_29 q_700_30 q_700_31 q_700_32 q_700_33 q_700_34 q_700_35 q_700_36 q_700_37 q_700_38 q_700_39 q_700_40 q_700_41 q_700_42 q_700_43 q_700_44 q_700_45 q_700_46 q_700_47 H.size) (cwV 0 hts (gV0 km_L_111 ki_X12_thrown kz_X12_thrown kn_X12 kc_X12_thrown) rfl rfl rfl (by decide +kernel) ⟨(Nat.le_of_ble_eq_true rfl), (Nat.le_of_ble_eq_true rfl)⟩) (preV hG hP hD [1] rfl (by decide) 12 1 rfl rfl) rfl rfl hl.1 rfl (lv_room (Nat.le_of_ble_eq_true rfl)) dL_law_935 ⟨(Nat.le_of_ble_eq_true rfl), (Nat.le_of_ble_eq_true rfl)⟩) (fun r_41 H locs hB hj hS => ?_)
                obtain ⟨hres, hP1, hD1⟩ := hB
                subst hres
                obtain ⟨hP, hD⟩ := hj _ hP1 hD1
                have hP : va_P D vwCl [(q_800, .inl (cy 2, 1, .inr (.inl (fun _ => 0)))), (h_2, .inr (12, [.int 1, .int 0, .ref q_700_1, .int 0, .int 0, .int 0, .int 0, .long 0, .int 0, .int 0, .ref q_700_2, .ref q_700_3, .ref q_700_4, .ref q_700_5, .ref q_700_6, .ref q_700_7, .ref q_700_8, .ref q_700_9, .ref q_700_10, .ref q_700_11, .ref q_700_12, .ref q_700_13, .ref q_700_14, .ref q_700_15, .ref q_700_16, .ref q_700_17, .int 0, .int 0, .ref q_700_18, .ref q_700_19, .ref q_700_20, .ref q_700_21, .ref q_700_22, .ref q_700_23, .ref q_700_24, .ref q_700_25, .ref q_700_26, .ref q_700_27, .ref q_700_28, .ref q_700_29, .int 0, .long 0, .ref q_700_30, .ref q_700_31, .ref q_700_32, .ref q_700_33, .ref q_700_34, .ref q_700_35, .ref q_700_36, .ref q_700_37, .ref q_700_38, .ref q_700_39, .ref q_700_40, .ref q_700_41, .int 0, .int 0, .int 0, .int 0, .ref q_700_42, .ref q_700_43, .ref q_700_44, .ref q_700_45, .int 0, .ref q_700_46, .ref q_700_47, .int 0, .long 0]))] H := hP
                have hD : va_D A [(q_800, .inl (cy 2, 1, .inr (.inl (fun _ => 0)))), (h_2, .inr (12, [.int 1, .int 0, .ref q_700_1, .int 0, .int 0, .int 0, .int 0, .long 0, .int 0, .int 0, .ref q_700_2, .ref q_700_3, .ref q_700_4, .ref q_700_5, .ref q_700_6, .ref q_700_7, .ref q_700_8, .ref q_700_9, .ref q_700_10, .ref q_700_11, .ref q_700_12, .ref q_700_13, .ref q_700_14, .ref q_700_15, .ref q_700_16, .ref q_700_17, .int 0, .int 0, .ref q_700_18, .ref q_700_19, .ref q_700_20, .ref q_700_21, .ref q_700_22, .ref q_700_23, .ref q_700_24, .ref q_700_25, .ref q_700_26, .ref q_700_27, .ref q_700_28, .ref q_700_29, .int 0, .long 0, .ref q_700_30, .ref q_700_31, .ref q_700_32, .ref q_700_33, .ref q_700_34, .ref q_700_35, .ref q_700_36, .ref q_700_37, .ref q_700_38, .ref q_700_39, .ref q_700_40, .ref q_700_41, .int 0, .int 0, .int 0, .int 0, .ref q_700_42, .ref q_700_43, .ref q_700_44, .ref q_700_45, .int 0, .ref q_700_46, .ref q_700_47, .int 0, .long 0]))] := hD
                refine lv_iload hx hb dL_law_938 (lv_at hl 1 rfl) ?_
                refine lv_icmp_eq (tgt := 945) hx hb dL_law_940 (by decide) (fun _ => ?_) (fun c_ => absurd rfl c_)
                refine lv_iload hx hb dL_law_945 (lv_at hl 1 rfl) ?_
                refine lv_if_ne (tgt := 962) hx hb dL_law_947 (by decide) (fun _ => ?_) (fun c_ => absurd c_ (by decide))
                refine lv_goto (tgt := 1092) hx hb dL_law_962 (by decide) ?_
                refine lv_iinc (v := 7) (lv' := [(4, .int 7), (6, .int r_38), (5, .int 1), (3, .ref q_800), (2, .ref h_2), (1, .ref h_1), (0, .ref b)]) hx hb dL_law_1092 hl (k := 2) rfl (by decide) (by decide) rfl (fun ls hl => ?_)
                refine lv_goto (tgt := 23) hx hb dL_law_1095 (by decide) ?_
                refine lv_iload hx hb dL_law_23 (lv_at hl 0 rfl) ?_
                refine lv_aload_n hx hb dL_law_25 rfl (lv_at hl 6 rfl) ?_
                refine va_slen hx hb hX hbl hbA hS dL_law_26 ?_
                refine m_as (v := 7) rfl ?_
                refine lv_bipush (v := 7) hx hb dL_law_27 (by decide) ?_
                refine m_isub (v := 0) hx hb dL_law_29 (by decide) ?_
                refine lv_icmp_gt (tgt := 1098) hx hb dL_law_30 (by decide) (fun _ => ?_) (fun c_ => absurd (by decide) c_)
                refine lv_iconst (v := 1) hx hb dL_law_1098 (by decide) ?_
                exact lw_end hx hb hr hlocks hAd hS (Nat.le_of_ble_eq_true rfl) (Nat.le_of_ble_eq_true rfl) dL_law_1099
