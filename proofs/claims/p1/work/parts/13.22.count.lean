set_option maxHeartbeats 4000000 in
set_option maxRecDepth 100000 in
theorem c_X11_count_1 (l : Launch) (D : va_G) (cy : Nat → ClassId) (h_1 : Nat) (q_1 : Nat) (q_3 : Nat) (q_4 : Nat) (q_25 : Nat) (q_46 : Nat) (q_50 : Nat) (q_54 : Nat) (q_58 : Nat) (q_62 : Nat) (q_63 : Nat) (q_64 : Nat) (q_67 : Nat) (q_85 : Nat) (q_90 : Nat) (q_93 : Nat) (q_1_5 : Nat) (q_2_6 : Nat) (q_3_7 : Nat) (q_4_8 : Nat) (q_5_9 : Nat) (q_6_10 : Nat) (q_7_11 : Nat) (q_8_12 : Nat) (q_9_13 : Nat) (q_10_14 : Nat) (q_11_15 : Nat) (q_12_16 : Nat) (q_13_17 : Nat) (q_18_18 : Nat) (q_19_19 : Nat) (q_20_20 : Nat) (sz : Nat) : Met l yX11_count (Cond.code yX11_count cX11_count 2 (some .int) :: bigG) ({ frames := 0, cells := 0, slots := 0, locals := 0 }) (pre D cy [.ref h_1, .int 0] sz [(h_1, .inr (11, [.ref q_1, .ref q_3, .ref q_4, .ref q_25, .ref q_46, .ref q_50, .ref q_54, .ref q_58, .ref q_62, .int 0, .int 0, .ref q_63, .ref q_64, .ref q_67, .ref q_85, .ref q_90, .ref q_93])), (q_4, .inr (0, [.ref q_1_5, .ref q_2_6, .ref q_3_7, .ref q_4_8, .ref q_5_9, .ref q_6_10, .ref q_7_11, .ref q_8_12, .ref q_9_13, .ref q_10_14, .ref q_11_15, .ref q_12_16, .ref q_13_17, .int 0, .int 0, .int 0, .int 2, .ref q_18_18, .ref q_19_19, .ref q_20_20]))]) (qi (fun r h => r = 0 ∧ va_P D vwCl [] h ∧ va_D (va_A [(h_1, .inr (11, [.ref q_1, .ref q_3, .ref q_4, .ref q_25, .ref q_46, .ref q_50, .ref q_54, .ref q_58, .ref q_62, .int 0, .int 0, .ref q_63, .ref q_64, .ref q_67, .ref q_85, .ref q_90, .ref q_93])), (q_4, .inr (0, [.ref q_1_5, .ref q_2_6, .ref q_3_7, .ref q_4_8, .ref q_5_9, .ref q_6_10, .ref q_7_11, .ref q_8_12, .ref q_9_13, .ref q_10_14, .ref q_11_15, .ref q_12_16, .ref q_13_17, .int 0, .int 0, .int 0, .int 2, .ref q_18_18, .ref q_19_19, .ref q_20_20]))] sz) []) (va_A [(h_1, .inr (11, [.ref q_1, .ref q_3, .ref q_4, .ref q_25, .ref q_46, .ref q_50, .ref q_54, .ref q_58, .ref q_62, .int 0, .int 0, .ref q_63, .ref q_64, .ref q_67, .ref q_85, .ref q_90, .ref q_93])), (q_4, .inr (0, [.ref q_1_5, .ref q_2_6, .ref q_3_7, .ref q_4_8, .ref q_5_9, .ref q_6_10, .ref q_7_11, .ref q_8_12, .ref q_9_13, .ref q_10_14, .ref q_11_15, .ref q_12_16, .ref q_13_17, .int 0, .int 0, .int 0, .int 2, .ref q_18_18, .ref q_19_19, .ref q_20_20]))] sz)) 0 0 (va_A [(h_1, .inr (11, [.ref q_1, .ref q_3, .ref q_4, .ref q_25, .ref q_46, .ref q_50, .ref q_54, .ref q_58, .ref q_62, .int 0, .int 0, .ref q_63, .ref q_64, .ref q_67, .ref q_85, .ref q_90, .ref q_93])), (q_4, .inr (0, [.ref q_1_5, .ref q_2_6, .ref q_3_7, .ref q_4_8, .ref q_5_9, .ref q_6_10, .ref q_7_11, .ref q_8_12, .ref q_9_13, .ref q_10_14, .ref q_11_15, .ref q_12_16, .ref q_13_17, .int 0, .int 0, .int 0, .int 2, .ref q_18_18, .ref q_19_19, .ref q_20_20]))] sz) := by
  refine Met.ofW (cc := cX11_count) (maxL := 2) (ret := (some .int)) (by decide) rfl ?_
  intro p e s m args below meth c s₁ B hml hv
  obtain ⟨rfl, hsz, hP, hG, hD0⟩ := hv
  have hx := B.exec
  have hb := B.bytes
  have hr := B.returns
  have hts := atoms_spec (ws := (Cond.code yX11_count cX11_count 2 (some .int) :: bigG)) B.pre
  have hg : ∀ w ∈ bigG, w.before ([.ref h_1, .int 0] : List Value).toArray s = true := fun w h => hts w (List.mem_cons_of_mem _ h)
  have hown : s.vm.findClass RX11 = some m.cls := findClass_of_methodNamed B.named
  have hlocks := B.notSynchronized
  subst hsz
  have hD := hD0.self (sz := s.heap.size)
  generalize hAe : va_A [(h_1, .inr (11, [.ref q_1, .ref q_3, .ref q_4, .ref q_25, .ref q_46, .ref q_50, .ref q_54, .ref q_58, .ref q_62, .int 0, .int 0, .ref q_63, .ref q_64, .ref q_67, .ref q_85, .ref q_90, .ref q_93])), (q_4, .inr (0, [.ref q_1_5, .ref q_2_6, .ref q_3_7, .ref q_4_8, .ref q_5_9, .ref q_6_10, .ref q_7_11, .ref q_8_12, .ref q_9_13, .ref q_10_14, .ref q_11_15, .ref q_12_16, .ref q_13_17, .int 0, .int 0, .int 0, .int 2, .ref q_18_18, .ref q_19_19, .ref q_20_20]))] s.heap.size = A at hD ⊢
  have hA : ∀ q : Nat, s.heap.size ≤ q → A q := fun q h => by rw [← hAe]; exact Or.inr h
  have hS : va_S A s.heap s.heap [] := va_S.rf
  have hP : va_P D vwCl [(h_1, .inr (11, [.ref q_1, .ref q_3, .ref q_4, .ref q_25, .ref q_46, .ref q_50, .ref q_54, .ref q_58, .ref q_62, .int 0, .int 0, .ref q_63, .ref q_64, .ref q_67, .ref q_85, .ref q_90, .ref q_93])), (q_4, .inr (0, [.ref q_1_5, .ref q_2_6, .ref q_3_7, .ref q_4_8, .ref q_5_9, .ref q_6_10, .ref q_7_11, .ref q_8_12, .ref q_9_13, .ref q_10_14, .ref q_11_15, .ref q_12_16, .ref q_13_17, .int 0, .int 0, .int 0, .int 2, .ref q_18_18, .ref q_19_19, .ref q_20_20]))] s.heap := hP
  have hl := lv_entry ([.ref h_1, .int 0]) (n := 2) (Nat.le_of_ble_eq_true rfl)
  rw [lg_entry_eq]
  generalize (lg_sl ([.ref h_1, .int 0]) ++ List.replicate (2 - (lg_sl ([.ref h_1, .int 0])).length) Slot.unset).toArray = ls at hl ⊢
  have hl : lv_has ls 2 [(0, .ref h_1), (1, .int 0)] := hl
  refine w_nm (fun Q hQ => ?_)
  refine lv_iload_n hx hb dX11_count_0 rfl (lv_at hl 1 rfl) ?_
  refine lv_tableIn (off := 67) (tgt := 68) hx hb dX11_count_1 (by decide) (by decide) (by decide) (by decide) ?_
  refine lv_aload_n hx hb dX11_count_68 rfl (lv_at hl 0 rfl) ?_
  refine va_get (D := D) (ci := 11) (v := .ref q_4) (C := RX11) (T := TX11) (N := 17) hx hb hts (inC ibX11) hown hG.1 hP 0 rfl rfl 2 (by decide) (hg _ k_422) (fun _ h9 => h9) rfl dX11_count_69 ?_
  refine va_get (D := D) (ci := 0) (v := .int 0) (C := RX0) (T := TX0) (N := 20) hx hb hts (inC ibX0) hown hG.1 hP 1 rfl rfl 13 (by decide) (hg _ k_177) (fun _ h9 => h9) rfl dX11_count_72 ?_
  have hP9 := hP.sub (ws' := []) [] rfl
  have hD9 := hD.sub (ws' := []) [] (by decide) rfl
  subst hQ
  exact W.iret (v := 0) hx hb hr (fun t ht hW => qi_mk (by rw [ht]; exact ⟨rfl, hP9, hD9⟩) (hS.F ht)) hS.2.2 dX11_count_75
set_option maxHeartbeats 4000000 in
set_option maxRecDepth 100000 in
theorem c_X12_within_20 (l : Launch) (D : va_G) (cy : Nat → ClassId) (sz : Nat) : Met l yX12_within (Cond.code yX12_within cX12_within 3 (some .boolean) :: bigG) ({ frames := 0, cells := 0, slots := 0, locals := 0 }) (pre D cy [.int 0, .int 0, .int 12] sz []) (qi (fun r h => r = 1 ∧ va_P D vwCl [] h ∧ va_D (va_A [] sz) []) (va_A [] sz)) 0 0 (va_A [] sz) := by
  refine Met.ofW (cc := cX12_within) (maxL := 3) (ret := (some .boolean)) (by decide) rfl ?_
  intro p e s m args below meth c s₁ B hml hv
  obtain ⟨rfl, hsz, hP, hG, hD0⟩ := hv
  have hx := B.exec
  have hb := B.bytes
  have hr := B.returns
  have hts := atoms_spec (ws := (Cond.code yX12_within cX12_within 3 (some .boolean) :: bigG)) B.pre
  have hg : ∀ w ∈ bigG, w.before ([.int 0, .int 0, .int 12] : List Value).toArray s = true := fun w h => hts w (List.mem_cons_of_mem _ h)
  have hown : s.vm.findClass RX12 = some m.cls := findClass_of_methodNamed B.named
  have hlocks := B.notSynchronized
  subst hsz
  have hD := hD0.self (sz := s.heap.size)
  generalize hAe : va_A [] s.heap.size = A at hD ⊢
  have hA : ∀ q : Nat, s.heap.size ≤ q → A q := fun q h => by rw [← hAe]; exact Or.inr h
  have hS : va_S A s.heap s.heap [] := va_S.rf
  have hP : va_P D vwCl [] s.heap := hP
  have hl := lv_entry ([.int 0, .int 0, .int 12]) (n := 3) (Nat.le_of_ble_eq_true rfl)
  rw [lg_entry_eq]
  generalize (lg_sl ([.int 0, .int 0, .int 12]) ++ List.replicate (3 - (lg_sl ([.int 0, .int 0, .int 12])).length) Slot.unset).toArray = ls at hl ⊢
  have hl : lv_has ls 3 [(0, .int 0), (1, .int 0), (2, .int 12)] := hl
  refine w_nm (fun Q hQ => ?_)
  refine lv_iload_n hx hb dX12_within_0 rfl (lv_at hl 0 rfl) ?_
  refine lv_iload_n hx hb dX12_within_1 rfl (lv_at hl 1 rfl) ?_
  refine lv_icmp_lt (tgt := 14) hx hb dX12_within_2 (by decide) (fun c_ => absurd c_ (by decide)) (fun _ => ?_)
  refine lv_iload_n hx hb dX12_within_5 rfl (lv_at hl 0 rfl) ?_
  refine lv_iload_n hx hb dX12_within_6 rfl (lv_at hl 2 rfl) ?_
  refine lv_icmp_gt (tgt := 14) hx hb dX12_within_7 (by decide) (fun c_ => absurd c_ (by decide)) (fun _ => ?_)
  refine lv_iconst (v := 1) hx hb dX12_within_10 (by decide) ?_
  refine lv_goto (tgt := 15) hx hb dX12_within_11 (by decide) ?_
  have hP9 := hP.sub (ws' := []) [] rfl
  have hD9 := hD.sub (ws' := []) [] (by decide) rfl
  subst hQ
  exact W.zret (v := 1) hx hb hr rfl (fun t ht hW => qi_mk (by rw [ht]; exact ⟨rfl, hP9, hD9⟩) (hS.F ht)) hS.2.2 dX12_within_15
set_option maxHeartbeats 4000000 in
set_option maxRecDepth 100000 in
theorem c_X12_count_1 (l : Launch) (D : va_G) (cy : Nat → ClassId) (h_2 : Nat) (q_700_1 : Nat) (q_700_2 : Nat) (q_700_3 : Nat) (q_700_4 : Nat) (q_700_5 : Nat) (q_700_6 : Nat) (q_700_7 : Nat) (q_700_8 : Nat) (q_700_9 : Nat) (q_700_10 : Nat) (q_700_11 : Nat) (q_700_12 : Nat) (q_700_13 : Nat) (q_700_14 : Nat) (q_700_15 : Nat) (q_700_16 : Nat) (q_700_17 : Nat) (q_700_18 : Nat) (q_700_19 : Nat) (q_700_20 : Nat) (q_700_21 : Nat) (q_700_22 : Nat) (q_700_23 : Nat) (q_700_24 : Nat) (q_700_25 : Nat) (q_700_26 : Nat) (q_700_27 : Nat) (q_700_28 : Nat) (q_700_29 : Nat) (q_700_30 : Nat) (q_700_31 : Nat) (q_700_32 : Nat) (q_700_33 : Nat) (q_700_34 : Nat) (q_700_35 : Nat) (q_700_36 : Nat) (q_700_37 : Nat) (q_700_38 : Nat) (q_700_39 : Nat) (q_700_40 : Nat) (q_700_41 : Nat) (q_700_42 : Nat) (q_700_43 : Nat) (q_700_44 : Nat) (q_700_45 : Nat) (q_700_46 : Nat) (q_700_47 : Nat) (sz : Nat) : Met l yX12_count (Cond.code yX12_count cX12_count 2 (some .int) :: bigG) ({ frames := 1, cells := 0, slots := 0, locals := 22 }) (pre D cy [.ref h_2, .int 0] sz [(h_2, .inr (12, [.int 0, .int 0, .ref q_700_1, .int 0, .int 0, .int 0, .int 0, .long 0, .int 0, .int 0, .ref q_700_2, .ref q_700_3, .ref q_700_4, .ref q_700_5, .ref q_700_6, .ref q_700_7, .ref q_700_8, .ref q_700_9, .ref q_700_10, .ref q_700_11, .ref q_700_12, .ref q_700_13, .ref q_700_14, .ref q_700_15, .ref q_700_16, .ref q_700_17, .int 0, .int 0, .ref q_700_18, .ref q_700_19, .ref q_700_20, .ref q_700_21, .ref q_700_22, .ref q_700_23, .ref q_700_24, .ref q_700_25, .ref q_700_26, .ref q_700_27, .ref q_700_28, .ref q_700_29, .int 0, .long 0, .ref q_700_30, .ref q_700_31, .ref q_700_32, .ref q_700_33, .ref q_700_34, .ref q_700_35, .ref q_700_36, .ref q_700_37, .ref q_700_38, .ref q_700_39, .ref q_700_40, .ref q_700_41, .int 0, .int 0, .int 0, .int 0, .ref q_700_42, .ref q_700_43, .ref q_700_44, .ref q_700_45, .int 0, .ref q_700_46, .ref q_700_47, .int 0, .long 0])), (q_700_2, .inl (cy 1, 10, .inl (upd (fun _ => 0) 4 2)))]) (qi (fun r h => r = 0 ∧ va_P D vwCl [] h ∧ va_D (va_A [(h_2, .inr (12, [.int 0, .int 0, .ref q_700_1, .int 0, .int 0, .int 0, .int 0, .long 0, .int 0, .int 0, .ref q_700_2, .ref q_700_3, .ref q_700_4, .ref q_700_5, .ref q_700_6, .ref q_700_7, .ref q_700_8, .ref q_700_9, .ref q_700_10, .ref q_700_11, .ref q_700_12, .ref q_700_13, .ref q_700_14, .ref q_700_15, .ref q_700_16, .ref q_700_17, .int 0, .int 0, .ref q_700_18, .ref q_700_19, .ref q_700_20, .ref q_700_21, .ref q_700_22, .ref q_700_23, .ref q_700_24, .ref q_700_25, .ref q_700_26, .ref q_700_27, .ref q_700_28, .ref q_700_29, .int 0, .long 0, .ref q_700_30, .ref q_700_31, .ref q_700_32, .ref q_700_33, .ref q_700_34, .ref q_700_35, .ref q_700_36, .ref q_700_37, .ref q_700_38, .ref q_700_39, .ref q_700_40, .ref q_700_41, .int 0, .int 0, .int 0, .int 0, .ref q_700_42, .ref q_700_43, .ref q_700_44, .ref q_700_45, .int 0, .ref q_700_46, .ref q_700_47, .int 0, .long 0])), (q_700_2, .inl (cy 1, 10, .inl (upd (fun _ => 0) 4 2)))] sz) []) (va_A [(h_2, .inr (12, [.int 0, .int 0, .ref q_700_1, .int 0, .int 0, .int 0, .int 0, .long 0, .int 0, .int 0, .ref q_700_2, .ref q_700_3, .ref q_700_4, .ref q_700_5, .ref q_700_6, .ref q_700_7, .ref q_700_8, .ref q_700_9, .ref q_700_10, .ref q_700_11, .ref q_700_12, .ref q_700_13, .ref q_700_14, .ref q_700_15, .ref q_700_16, .ref q_700_17, .int 0, .int 0, .ref q_700_18, .ref q_700_19, .ref q_700_20, .ref q_700_21, .ref q_700_22, .ref q_700_23, .ref q_700_24, .ref q_700_25, .ref q_700_26, .ref q_700_27, .ref q_700_28, .ref q_700_29, .int 0, .long 0, .ref q_700_30, .ref q_700_31, .ref q_700_32, .ref q_700_33, .ref q_700_34, .ref q_700_35, .ref q_700_36, .ref q_700_37, .ref q_700_38, .ref q_700_39, .ref q_700_40, .ref q_700_41, .int 0, .int 0, .int 0, .int 0, .ref q_700_42, .ref q_700_43, .ref q_700_44, .ref q_700_45, .int 0, .ref q_700_46, .ref q_700_47, .int 0, .long 0])), (q_700_2, .inl (cy 1, 10, .inl (upd (fun _ => 0) 4 2)))] sz)) 0 0 (va_A [(h_2, .inr (12, [.int 0, .int 0, .ref q_700_1, .int 0, .int 0, .int 0, .int 0, .long 0, .int 0, .int 0, .ref q_700_2, .ref q_700_3, .ref q_700_4, .ref q_700_5, .ref q_700_6, .ref q_700_7, .ref q_700_8, .ref q_700_9, .ref q_700_10, .ref q_700_11, .ref q_700_12, .ref q_700_13, .ref q_700_14, .ref q_700_15, .ref q_700_16, .ref q_700_17, .int 0, .int 0, .ref q_700_18, .ref q_700_19, .ref q_700_20, .ref q_700_21, .ref q_700_22, .ref q_700_23, .ref q_700_24, .ref q_700_25, .ref q_700_26, .ref q_700_27, .ref q_700_28, .ref q_700_29, .int 0, .long 0, .ref q_700_30, .ref q_700_31, .ref q_700_32, .ref q_700_33, .ref q_700_34, .ref q_700_35, .ref q_700_36, .ref q_700_37, .ref q_700_38, .ref q_700_39, .ref q_700_40, .ref q_700_41, .int 0, .int 0, .int 0, .int 0, .ref q_700_42, .ref q_700_43, .ref q_700_44, .ref q_700_45, .int 0, .ref q_700_46, .ref q_700_47, .int 0, .long 0])), (q_700_2, .inl (cy 1, 10, .inl (upd (fun _ => 0) 4 2)))] sz) := by
  refine Met.ofW (cc := cX12_count) (maxL := 2) (ret := (some .int)) (by decide) rfl ?_
  intro p e s m args below meth c s₁ B hml hv
  obtain ⟨rfl, hsz, hP, hG, hD0⟩ := hv
  have hx := B.exec
  have hb := B.bytes
  have hr := B.returns
  have hts := atoms_spec (ws := (Cond.code yX12_count cX12_count 2 (some .int) :: bigG)) B.pre
  have hg : ∀ w ∈ bigG, w.before ([.ref h_2, .int 0] : List Value).toArray s = true := fun w h => hts w (List.mem_cons_of_mem _ h)
  have hown : s.vm.findClass RX12 = some m.cls := findClass_of_methodNamed B.named
  have hlocks := B.notSynchronized
  subst hsz
  have hD := hD0.self (sz := s.heap.size)
  generalize hAe : va_A [(h_2, .inr (12, [.int 0, .int 0, .ref q_700_1, .int 0, .int 0, .int 0, .int 0, .long 0, .int 0, .int 0, .ref q_700_2, .ref q_700_3, .ref q_700_4, .ref q_700_5, .ref q_700_6, .ref q_700_7, .ref q_700_8, .ref q_700_9, .ref q_700_10, .ref q_700_11, .ref q_700_12, .ref q_700_13, .ref q_700_14, .ref q_700_15, .ref q_700_16, .ref q_700_17, .int 0, .int 0, .ref q_700_18, .ref q_700_19, .ref q_700_20, .ref q_700_21, .ref q_700_22, .ref q_700_23, .ref q_700_24, .ref q_700_25, .ref q_700_26, .ref q_700_27, .ref q_700_28, .ref q_700_29, .int 0, .long 0, .ref q_700_30, .ref q_700_31, .ref q_700_32, .ref q_700_33, .ref q_700_34, .ref q_700_35, .ref q_700_36, .ref q_700_37, .ref q_700_38, .ref q_700_39, .ref q_700_40, .ref q_700_41, .int 0, .int 0, .int 0, .int 0, .ref q_700_42, .ref q_700_43, .ref q_700_44, .ref q_700_45, .int 0, .ref q_700_46, .ref q_700_47, .int 0, .long 0])), (q_700_2, .inl (cy 1, 10, .inl (upd (fun _ => 0) 4 2)))] s.heap.size = A at hD ⊢
  have hA : ∀ q : Nat, s.heap.size ≤ q → A q := fun q h => by rw [← hAe]; exact Or.inr h
  have hS : va_S A s.heap s.heap [] := va_S.rf
  have hP : va_P D vwCl [(h_2, .inr (12, [.int 0, .int 0, .ref q_700_1, .int 0, .int 0, .int 0, .int 0, .long 0, .int 0, .int 0, .ref q_700_2, .ref q_700_3, .ref q_700_4, .ref q_700_5, .ref q_700_6, .ref q_700_7, .ref q_700_8, .ref q_700_9, .ref q_700_10, .ref q_700_11, .ref q_700_12, .ref q_700_13, .ref q_700_14, .ref q_700_15, .ref q_700_16, .ref q_700_17, .int 0, .int 0, .ref q_700_18, .ref q_700_19, .ref q_700_20, .ref q_700_21, .ref q_700_22, .ref q_700_23, .ref q_700_24, .ref q_700_25, .ref q_700_26, .ref q_700_27, .ref q_700_28, .ref q_700_29, .int 0, .long 0, .ref q_700_30, .ref q_700_31, .ref q_700_32, .ref q_700_33, .ref q_700_34, .ref q_700_35, .ref q_700_36, .ref q_700_37, .ref q_700_38, .ref q_700_39, .ref q_700_40, .ref q_700_41, .int 0, .int 0, .int 0, .int 0, .ref q_700_42, .ref q_700_43, .ref q_700_44, .ref q_700_45, .int 0, .ref q_700_46, .ref q_700_47, .int 0, .long 0])), (q_700_2, .inl (cy 1, 10, .inl (upd (fun _ => 0) 4 2)))] s.heap := hP
  have hl := lv_entry ([.ref h_2, .int 0]) (n := 2) (Nat.le_of_ble_eq_true rfl)
  rw [lg_entry_eq]
  generalize (lg_sl ([.ref h_2, .int 0]) ++ List.replicate (2 - (lg_sl ([.ref h_2, .int 0])).length) Slot.unset).toArray = ls at hl ⊢
  have hl : lv_has ls 2 [(0, .ref h_2), (1, .int 0)] := hl
  refine w_nm (fun Q hQ => ?_)
  refine lv_aload_n hx hb dX12_count_0 rfl (lv_at hl 0 rfl) ?_
  refine lv_iconst (v := 0) hx hb dX12_count_1 (by decide) ?_
  refine va_put (D := D) (ci := 12) (v := .int 0) (ty := .int) (C := RX12) (T := TX12) (N := 67) hx hb hts (inC ibX12) tyX12 tyX12_ok nmX12 hown hG.1 hP hD hS 0 rfl rfl 0 (by decide) (hg _ k_1315) (fun _ h9 => h9) rfl (by decide +kernel) rfl rfl (Nat.le_of_ble_eq_true rfl) dX12_count_2 (fun H locs hP hD hS => ?_)
  have hP : va_P D vwCl [(h_2, .inr (12, [.int 0, .int 0, .ref q_700_1, .int 0, .int 0, .int 0, .int 0, .long 0, .int 0, .int 0, .ref q_700_2, .ref q_700_3, .ref q_700_4, .ref q_700_5, .ref q_700_6, .ref q_700_7, .ref q_700_8, .ref q_700_9, .ref q_700_10, .ref q_700_11, .ref q_700_12, .ref q_700_13, .ref q_700_14, .ref q_700_15, .ref q_700_16, .ref q_700_17, .int 0, .int 0, .ref q_700_18, .ref q_700_19, .ref q_700_20, .ref q_700_21, .ref q_700_22, .ref q_700_23, .ref q_700_24, .ref q_700_25, .ref q_700_26, .ref q_700_27, .ref q_700_28, .ref q_700_29, .int 0, .long 0, .ref q_700_30, .ref q_700_31, .ref q_700_32, .ref q_700_33, .ref q_700_34, .ref q_700_35, .ref q_700_36, .ref q_700_37, .ref q_700_38, .ref q_700_39, .ref q_700_40, .ref q_700_41, .int 0, .int 0, .int 0, .int 0, .ref q_700_42, .ref q_700_43, .ref q_700_44, .ref q_700_45, .int 0, .ref q_700_46, .ref q_700_47, .int 0, .long 0])), (q_700_2, .inl (cy 1, 10, .inl (upd (fun _ => 0) 4 2)))] H := hP
  have hD : va_D A [(h_2, .inr (12, [.int 0, .int 0, .ref q_700_1, .int 0, .int 0, .int 0, .int 0, .long 0, .int 0, .int 0, .ref q_700_2, .ref q_700_3, .ref q_700_4, .ref q_700_5, .ref q_700_6, .ref q_700_7, .ref q_700_8, .ref q_700_9, .ref q_700_10, .ref q_700_11, .ref q_700_12, .ref q_700_13, .ref q_700_14, .ref q_700_15, .ref q_700_16, .ref q_700_17, .int 0, .int 0, .ref q_700_18, .ref q_700_19, .ref q_700_20, .ref q_700_21, .ref q_700_22, .ref q_700_23, .ref q_700_24, .ref q_700_25, .ref q_700_26, .ref q_700_27, .ref q_700_28, .ref q_700_29, .int 0, .long 0, .ref q_700_30, .ref q_700_31, .ref q_700_32, .ref q_700_33, .ref q_700_34, .ref q_700_35, .ref q_700_36, .ref q_700_37, .ref q_700_38, .ref q_700_39, .ref q_700_40, .ref q_700_41, .int 0, .int 0, .int 0, .int 0, .ref q_700_42, .ref q_700_43, .ref q_700_44, .ref q_700_45, .int 0, .ref q_700_46, .ref q_700_47, .int 0, .long 0])), (q_700_2, .inl (cy 1, 10, .inl (upd (fun _ => 0) 4 2)))] := hD
  refine lv_iload_n hx hb dX12_count_5 rfl (lv_at hl 1 rfl) ?_
  refine lv_iconst (v := 0) hx hb dX12_count_6 (by decide) ?_
  refine lv_bipush (v := 12) hx hb dX12_count_7 (by decide) ?_
  refine x_i (wr := [(h_2, .inr (12, [.int 0, .int 0, .ref q_700_1, .int 0, .int 0, .int 0, .int 0, .long 0, .int 0, .int 0, .ref q_700_2, .ref q_700_3, .ref q_700_4, .ref q_700_5, .ref q_700_6, .ref q_700_7, .ref q_700_8, .ref q_700_9, .ref q_700_10, .ref q_700_11, .ref q_700_12, .ref q_700_13, .ref q_700_14, .ref q_700_15, .ref q_700_16, .ref q_700_17, .int 0, .int 0, .ref q_700_18, .ref q_700_19, .ref q_700_20, .ref q_700_21, .ref q_700_22, .ref q_700_23, .ref q_700_24, .ref q_700_25, .ref q_700_26, .ref q_700_27, .ref q_700_28, .ref q_700_29, .int 0, .long 0, .ref q_700_30, .ref q_700_31, .ref q_700_32, .ref q_700_33, .ref q_700_34, .ref q_700_35, .ref q_700_36, .ref q_700_37, .ref q_700_38, .ref q_700_39, .ref q_700_40, .ref q_700_41, .int 0, .int 0, .int 0, .int 0, .ref q_700_42, .ref q_700_43, .ref q_700_44, .ref q_700_45, .int 0, .ref q_700_46, .ref q_700_47, .int 0, .long 0])), (q_700_2, .inl (cy 1, 10, .inl (upd (fun _ => 0) 4 2)))]) hP hD hS hA [] [0, 1] rfl rfl (by decide) (by decide) (va_runS (As := [.int 0, .int 0, .int 12]) (rest := []) ⟨hx, hb, hml, hown, hts⟩ (c_X12_within_20 l D cy  H.size) (va_cwS 3 hts (gS km_X12_293 kt_X12_within kn_X12 kc_X12_within) rfl rfl rfl (by decide +kernel) ⟨(Nat.le_of_ble_eq_true rfl), (Nat.le_of_ble_eq_true rfl)⟩) (preS hG hP hD [] rfl (by decide)) rfl rfl hl.1 rfl (lv_room (Nat.le_of_ble_eq_true rfl)) dX12_count_9 ⟨(Nat.le_of_ble_eq_true rfl), (Nat.le_of_ble_eq_true rfl)⟩) (fun r_1 H locs hB hj hS => ?_)
  obtain ⟨hres, hP1, hD1⟩ := hB
  subst hres
  obtain ⟨hP, hD⟩ := hj _ hP1 hD1
  have hP : va_P D vwCl [(h_2, .inr (12, [.int 0, .int 0, .ref q_700_1, .int 0, .int 0, .int 0, .int 0, .long 0, .int 0, .int 0, .ref q_700_2, .ref q_700_3, .ref q_700_4, .ref q_700_5, .ref q_700_6, .ref q_700_7, .ref q_700_8, .ref q_700_9, .ref q_700_10, .ref q_700_11, .ref q_700_12, .ref q_700_13, .ref q_700_14, .ref q_700_15, .ref q_700_16, .ref q_700_17, .int 0, .int 0, .ref q_700_18, .ref q_700_19, .ref q_700_20, .ref q_700_21, .ref q_700_22, .ref q_700_23, .ref q_700_24, .ref q_700_25, .ref q_700_26, .ref q_700_27, .ref q_700_28, .ref q_700_29, .int 0, .long 0, .ref q_700_30, .ref q_700_31, .ref q_700_32, .ref q_700_33, .ref q_700_34, .ref q_700_35, .ref q_700_36, .ref q_700_37, .ref q_700_38, .ref q_700_39, .ref q_700_40, .ref q_700_41, .int 0, .int 0, .int 0, .int 0, .ref q_700_42, .ref q_700_43, .ref q_700_44, .ref q_700_45, .int 0, .ref q_700_46, .ref q_700_47, .int 0, .long 0])), (q_700_2, .inl (cy 1, 10, .inl (upd (fun _ => 0) 4 2)))] H := hP
  have hD : va_D A [(h_2, .inr (12, [.int 0, .int 0, .ref q_700_1, .int 0, .int 0, .int 0, .int 0, .long 0, .int 0, .int 0, .ref q_700_2, .ref q_700_3, .ref q_700_4, .ref q_700_5, .ref q_700_6, .ref q_700_7, .ref q_700_8, .ref q_700_9, .ref q_700_10, .ref q_700_11, .ref q_700_12, .ref q_700_13, .ref q_700_14, .ref q_700_15, .ref q_700_16, .ref q_700_17, .int 0, .int 0, .ref q_700_18, .ref q_700_19, .ref q_700_20, .ref q_700_21, .ref q_700_22, .ref q_700_23, .ref q_700_24, .ref q_700_25, .ref q_700_26, .ref q_700_27, .ref q_700_28, .ref q_700_29, .int 0, .long 0, .ref q_700_30, .ref q_700_31, .ref q_700_32, .ref q_700_33, .ref q_700_34, .ref q_700_35, .ref q_700_36, .ref q_700_37, .ref q_700_38, .ref q_700_39, .ref q_700_40, .ref q_700_41, .int 0, .int 0, .int 0, .int 0, .ref q_700_42, .ref q_700_43, .ref q_700_44, .ref q_700_45, .int 0, .ref q_700_46, .ref q_700_47, .int 0, .long 0])), (q_700_2, .inl (cy 1, 10, .inl (upd (fun _ => 0) 4 2)))] := hD
  refine lv_if_ne (tgt := 17) hx hb dX12_count_12 (by decide) (fun _ => ?_) (fun c_ => absurd c_ (by decide))
  refine lv_iload_n hx hb dX12_count_17 rfl (lv_at hl 1 rfl) ?_
  refine lv_iconst (v := 3) hx hb dX12_count_18 (by decide) ?_
  refine lv_icmp_ge (tgt := 29) hx hb dX12_count_19 (by decide) (fun c_ => absurd c_ (by decide)) (fun _ => ?_)
  refine lv_aload_n hx hb dX12_count_22 rfl (lv_at hl 0 rfl) ?_
  refine va_get (D := D) (ci := 12) (v := .ref q_700_2) (C := RX12) (T := TX12) (N := 67) hx hb hts (inC ibX12) hown hG.1 hP 0 rfl rfl 10 (by decide) (hg _ k_1325) (fun _ h9 => h9) rfl dX12_count_23 ?_
  refine lv_iload_n hx hb dX12_count_26 rfl (lv_at hl 1 rfl) ?_
  refine m_iald (v := 0) hx hb hG hP 1 rfl (vin (by decide)) dX12_count_27 rfl ?_
  have hP9 := hP.sub (ws' := []) [] rfl
  have hD9 := hD.sub (ws' := []) [] (by decide) rfl
  subst hQ
  exact W.iret (v := 0) hx hb hr (fun t ht hW => qi_mk (by rw [ht]; exact ⟨rfl, hP9, hD9⟩) (hS.F ht)) hS.2.2 dX12_count_28
set_option maxHeartbeats 4000000 in
set_option maxRecDepth 100000 in
theorem c_X11_count_2 (l : Launch) (D : va_G) (cy : Nat → ClassId) (h_1 : Nat) (q_1 : Nat) (q_3 : Nat) (q_4 : Nat) (q_25 : Nat) (q_46 : Nat) (q_50 : Nat) (q_54 : Nat) (q_58 : Nat) (q_62 : Nat) (q_63 : Nat) (q_64 : Nat) (q_67 : Nat) (q_85 : Nat) (q_90 : Nat) (q_93 : Nat) (q_1_5 : Nat) (q_2_6 : Nat) (q_3_7 : Nat) (q_4_8 : Nat) (q_5_9 : Nat) (q_6_10 : Nat) (q_7_11 : Nat) (q_8_12 : Nat) (q_9_13 : Nat) (q_10_14 : Nat) (q_11_15 : Nat) (q_12_16 : Nat) (q_13_17 : Nat) (q_18_18 : Nat) (q_19_19 : Nat) (q_20_20 : Nat) (sz : Nat) : Met l yX11_count (Cond.code yX11_count cX11_count 2 (some .int) :: bigG) ({ frames := 0, cells := 0, slots := 0, locals := 0 }) (pre D cy [.ref h_1, .int 1] sz [(h_1, .inr (11, [.ref q_1, .ref q_3, .ref q_4, .ref q_25, .ref q_46, .ref q_50, .ref q_54, .ref q_58, .ref q_62, .int 0, .int 0, .ref q_63, .ref q_64, .ref q_67, .ref q_85, .ref q_90, .ref q_93])), (q_4, .inr (0, [.ref q_1_5, .ref q_2_6, .ref q_3_7, .ref q_4_8, .ref q_5_9, .ref q_6_10, .ref q_7_11, .ref q_8_12, .ref q_9_13, .ref q_10_14, .ref q_11_15, .ref q_12_16, .ref q_13_17, .int 0, .int 0, .int 0, .int 2, .ref q_18_18, .ref q_19_19, .ref q_20_20]))]) (qi (fun r h => r = 0 ∧ va_P D vwCl [] h ∧ va_D (va_A [(h_1, .inr (11, [.ref q_1, .ref q_3, .ref q_4, .ref q_25, .ref q_46, .ref q_50, .ref q_54, .ref q_58, .ref q_62, .int 0, .int 0, .ref q_63, .ref q_64, .ref q_67, .ref q_85, .ref q_90, .ref q_93])), (q_4, .inr (0, [.ref q_1_5, .ref q_2_6, .ref q_3_7, .ref q_4_8, .ref q_5_9, .ref q_6_10, .ref q_7_11, .ref q_8_12, .ref q_9_13, .ref q_10_14, .ref q_11_15, .ref q_12_16, .ref q_13_17, .int 0, .int 0, .int 0, .int 2, .ref q_18_18, .ref q_19_19, .ref q_20_20]))] sz) []) (va_A [(h_1, .inr (11, [.ref q_1, .ref q_3, .ref q_4, .ref q_25, .ref q_46, .ref q_50, .ref q_54, .ref q_58, .ref q_62, .int 0, .int 0, .ref q_63, .ref q_64, .ref q_67, .ref q_85, .ref q_90, .ref q_93])), (q_4, .inr (0, [.ref q_1_5, .ref q_2_6, .ref q_3_7, .ref q_4_8, .ref q_5_9, .ref q_6_10, .ref q_7_11, .ref q_8_12, .ref q_9_13, .ref q_10_14, .ref q_11_15, .ref q_12_16, .ref q_13_17, .int 0, .int 0, .int 0, .int 2, .ref q_18_18, .ref q_19_19, .ref q_20_20]))] sz)) 0 0 (va_A [(h_1, .inr (11, [.ref q_1, .ref q_3, .ref q_4, .ref q_25, .ref q_46, .ref q_50, .ref q_54, .ref q_58, .ref q_62, .int 0, .int 0, .ref q_63, .ref q_64, .ref q_67, .ref q_85, .ref q_90, .ref q_93])), (q_4, .inr (0, [.ref q_1_5, .ref q_2_6, .ref q_3_7, .ref q_4_8, .ref q_5_9, .ref q_6_10, .ref q_7_11, .ref q_8_12, .ref q_9_13, .ref q_10_14, .ref q_11_15, .ref q_12_16, .ref q_13_17, .int 0, .int 0, .int 0, .int 2, .ref q_18_18, .ref q_19_19, .ref q_20_20]))] sz) := by
  refine Met.ofW (cc := cX11_count) (maxL := 2) (ret := (some .int)) (by decide) rfl ?_
  intro p e s m args below meth c s₁ B hml hv
  obtain ⟨rfl, hsz, hP, hG, hD0⟩ := hv
  have hx := B.exec
  have hb := B.bytes
  have hr := B.returns
  have hts := atoms_spec (ws := (Cond.code yX11_count cX11_count 2 (some .int) :: bigG)) B.pre
  have hg : ∀ w ∈ bigG, w.before ([.ref h_1, .int 1] : List Value).toArray s = true := fun w h => hts w (List.mem_cons_of_mem _ h)
  have hown : s.vm.findClass RX11 = some m.cls := findClass_of_methodNamed B.named
  have hlocks := B.notSynchronized
  subst hsz
  have hD := hD0.self (sz := s.heap.size)
  generalize hAe : va_A [(h_1, .inr (11, [.ref q_1, .ref q_3, .ref q_4, .ref q_25, .ref q_46, .ref q_50, .ref q_54, .ref q_58, .ref q_62, .int 0, .int 0, .ref q_63, .ref q_64, .ref q_67, .ref q_85, .ref q_90, .ref q_93])), (q_4, .inr (0, [.ref q_1_5, .ref q_2_6, .ref q_3_7, .ref q_4_8, .ref q_5_9, .ref q_6_10, .ref q_7_11, .ref q_8_12, .ref q_9_13, .ref q_10_14, .ref q_11_15, .ref q_12_16, .ref q_13_17, .int 0, .int 0, .int 0, .int 2, .ref q_18_18, .ref q_19_19, .ref q_20_20]))] s.heap.size = A at hD ⊢
  have hA : ∀ q : Nat, s.heap.size ≤ q → A q := fun q h => by rw [← hAe]; exact Or.inr h
  have hS : va_S A s.heap s.heap [] := va_S.rf
  have hP : va_P D vwCl [(h_1, .inr (11, [.ref q_1, .ref q_3, .ref q_4, .ref q_25, .ref q_46, .ref q_50, .ref q_54, .ref q_58, .ref q_62, .int 0, .int 0, .ref q_63, .ref q_64, .ref q_67, .ref q_85, .ref q_90, .ref q_93])), (q_4, .inr (0, [.ref q_1_5, .ref q_2_6, .ref q_3_7, .ref q_4_8, .ref q_5_9, .ref q_6_10, .ref q_7_11, .ref q_8_12, .ref q_9_13, .ref q_10_14, .ref q_11_15, .ref q_12_16, .ref q_13_17, .int 0, .int 0, .int 0, .int 2, .ref q_18_18, .ref q_19_19, .ref q_20_20]))] s.heap := hP
  have hl := lv_entry ([.ref h_1, .int 1]) (n := 2) (Nat.le_of_ble_eq_true rfl)
  rw [lg_entry_eq]
  generalize (lg_sl ([.ref h_1, .int 1]) ++ List.replicate (2 - (lg_sl ([.ref h_1, .int 1])).length) Slot.unset).toArray = ls at hl ⊢
  have hl : lv_has ls 2 [(0, .ref h_1), (1, .int 1)] := hl
  refine w_nm (fun Q hQ => ?_)
  refine lv_iload_n hx hb dX11_count_0 rfl (lv_at hl 1 rfl) ?_
  refine lv_tableIn (off := 75) (tgt := 76) hx hb dX11_count_1 (by decide) (by decide) (by decide) (by decide) ?_
  refine lv_aload_n hx hb dX11_count_76 rfl (lv_at hl 0 rfl) ?_
  refine va_get (D := D) (ci := 11) (v := .ref q_4) (C := RX11) (T := TX11) (N := 17) hx hb hts (inC ibX11) hown hG.1 hP 0 rfl rfl 2 (by decide) (hg _ k_422) (fun _ h9 => h9) rfl dX11_count_77 ?_
  refine va_get (D := D) (ci := 0) (v := .int 0) (C := RX0) (T := TX0) (N := 20) hx hb hts (inC ibX0) hown hG.1 hP 1 rfl rfl 14 (by decide) (hg _ k_181) (fun _ h9 => h9) rfl dX11_count_80 ?_
  have hP9 := hP.sub (ws' := []) [] rfl
  have hD9 := hD.sub (ws' := []) [] (by decide) rfl
  subst hQ
  exact W.iret (v := 0) hx hb hr (fun t ht hW => qi_mk (by rw [ht]; exact ⟨rfl, hP9, hD9⟩) (hS.F ht)) hS.2.2 dX11_count_83
set_option maxHeartbeats 4000000 in
set_option maxRecDepth 100000 in
theorem c_X12_within_21 (l : Launch) (D : va_G) (cy : Nat → ClassId) (sz : Nat) : Met l yX12_within (Cond.code yX12_within cX12_within 3 (some .boolean) :: bigG) ({ frames := 0, cells := 0, slots := 0, locals := 0 }) (pre D cy [.int 1, .int 0, .int 12] sz []) (qi (fun r h => r = 1 ∧ va_P D vwCl [] h ∧ va_D (va_A [] sz) []) (va_A [] sz)) 0 0 (va_A [] sz) := by
  refine Met.ofW (cc := cX12_within) (maxL := 3) (ret := (some .boolean)) (by decide) rfl ?_
  intro p e s m args below meth c s₁ B hml hv
  obtain ⟨rfl, hsz, hP, hG, hD0⟩ := hv
  have hx := B.exec
  have hb := B.bytes
  have hr := B.returns
  have hts := atoms_spec (ws := (Cond.code yX12_within cX12_within 3 (some .boolean) :: bigG)) B.pre
  have hg : ∀ w ∈ bigG, w.before ([.int 1, .int 0, .int 12] : List Value).toArray s = true := fun w h => hts w (List.mem_cons_of_mem _ h)
  have hown : s.vm.findClass RX12 = some m.cls := findClass_of_methodNamed B.named
  have hlocks := B.notSynchronized
  subst hsz
  have hD := hD0.self (sz := s.heap.size)
  generalize hAe : va_A [] s.heap.size = A at hD ⊢
  have hA : ∀ q : Nat, s.heap.size ≤ q → A q := fun q h => by rw [← hAe]; exact Or.inr h
  have hS : va_S A s.heap s.heap [] := va_S.rf
  have hP : va_P D vwCl [] s.heap := hP
  have hl := lv_entry ([.int 1, .int 0, .int 12]) (n := 3) (Nat.le_of_ble_eq_true rfl)
  rw [lg_entry_eq]
  generalize (lg_sl ([.int 1, .int 0, .int 12]) ++ List.replicate (3 - (lg_sl ([.int 1, .int 0, .int 12])).length) Slot.unset).toArray = ls at hl ⊢
  have hl : lv_has ls 3 [(0, .int 1), (1, .int 0), (2, .int 12)] := hl
  refine w_nm (fun Q hQ => ?_)
  refine lv_iload_n hx hb dX12_within_0 rfl (lv_at hl 0 rfl) ?_
  refine lv_iload_n hx hb dX12_within_1 rfl (lv_at hl 1 rfl) ?_
  refine lv_icmp_lt (tgt := 14) hx hb dX12_within_2 (by decide) (fun c_ => absurd c_ (by decide)) (fun _ => ?_)
  refine lv_iload_n hx hb dX12_within_5 rfl (lv_at hl 0 rfl) ?_
  refine lv_iload_n hx hb dX12_within_6 rfl (lv_at hl 2 rfl) ?_
  refine lv_icmp_gt (tgt := 14) hx hb dX12_within_7 (by decide) (fun c_ => absurd c_ (by decide)) (fun _ => ?_)
  refine lv_iconst (v := 1) hx hb dX12_within_10 (by decide) ?_
  refine lv_goto (tgt := 15) hx hb dX12_within_11 (by decide) ?_
  have hP9 := hP.sub (ws' := []) [] rfl
  have hD9 := hD.sub (ws' := []) [] (by decide) rfl
  subst hQ
  exact W.zret (v := 1) hx hb hr rfl (fun t ht hW => qi_mk (by rw [ht]; exact ⟨rfl, hP9, hD9⟩) (hS.F ht)) hS.2.2 dX12_within_15
set_option maxHeartbeats 4000000 in
set_option maxRecDepth 100000 in
theorem c_X12_count_2 (l : Launch) (D : va_G) (cy : Nat → ClassId) (h_2 : Nat) (q_700_1 : Nat) (q_700_2 : Nat) (q_700_3 : Nat) (q_700_4 : Nat) (q_700_5 : Nat) (q_700_6 : Nat) (q_700_7 : Nat) (q_700_8 : Nat) (q_700_9 : Nat) (q_700_10 : Nat) (q_700_11 : Nat) (q_700_12 : Nat) (q_700_13 : Nat) (q_700_14 : Nat) (q_700_15 : Nat) (q_700_16 : Nat) (q_700_17 : Nat) (q_700_18 : Nat) (q_700_19 : Nat) (q_700_20 : Nat) (q_700_21 : Nat) (q_700_22 : Nat) (q_700_23 : Nat) (q_700_24 : Nat) (q_700_25 : Nat) (q_700_26 : Nat) (q_700_27 : Nat) (q_700_28 : Nat) (q_700_29 : Nat) (q_700_30 : Nat) (q_700_31 : Nat) (q_700_32 : Nat) (q_700_33 : Nat) (q_700_34 : Nat) (q_700_35 : Nat) (q_700_36 : Nat) (q_700_37 : Nat) (q_700_38 : Nat) (q_700_39 : Nat) (q_700_40 : Nat) (q_700_41 : Nat) (q_700_42 : Nat) (q_700_43 : Nat) (q_700_44 : Nat) (q_700_45 : Nat) (q_700_46 : Nat) (q_700_47 : Nat) (sz : Nat) : Met l yX12_count (Cond.code yX12_count cX12_count 2 (some .int) :: bigG) ({ frames := 1, cells := 0, slots := 0, locals := 22 }) (pre D cy [.ref h_2, .int 1] sz [(h_2, .inr (12, [.int 0, .int 0, .ref q_700_1, .int 0, .int 0, .int 0, .int 0, .long 0, .int 0, .int 0, .ref q_700_2, .ref q_700_3, .ref q_700_4, .ref q_700_5, .ref q_700_6, .ref q_700_7, .ref q_700_8, .ref q_700_9, .ref q_700_10, .ref q_700_11, .ref q_700_12, .ref q_700_13, .ref q_700_14, .ref q_700_15, .ref q_700_16, .ref q_700_17, .int 0, .int 0, .ref q_700_18, .ref q_700_19, .ref q_700_20, .ref q_700_21, .ref q_700_22, .ref q_700_23, .ref q_700_24, .ref q_700_25, .ref q_700_26, .ref q_700_27, .ref q_700_28, .ref q_700_29, .int 0, .long 0, .ref q_700_30, .ref q_700_31, .ref q_700_32, .ref q_700_33, .ref q_700_34, .ref q_700_35, .ref q_700_36, .ref q_700_37, .ref q_700_38, .ref q_700_39, .ref q_700_40, .ref q_700_41, .int 0, .int 0, .int 0, .int 0, .ref q_700_42, .ref q_700_43, .ref q_700_44, .ref q_700_45, .int 0, .ref q_700_46, .ref q_700_47, .int 0, .long 0])), (q_700_2, .inl (cy 1, 10, .inl (upd (fun _ => 0) 4 2)))]) (qi (fun r h => r = 0 ∧ va_P D vwCl [] h ∧ va_D (va_A [(h_2, .inr (12, [.int 0, .int 0, .ref q_700_1, .int 0, .int 0, .int 0, .int 0, .long 0, .int 0, .int 0, .ref q_700_2, .ref q_700_3, .ref q_700_4, .ref q_700_5, .ref q_700_6, .ref q_700_7, .ref q_700_8, .ref q_700_9, .ref q_700_10, .ref q_700_11, .ref q_700_12, .ref q_700_13, .ref q_700_14, .ref q_700_15, .ref q_700_16, .ref q_700_17, .int 0, .int 0, .ref q_700_18, .ref q_700_19, .ref q_700_20, .ref q_700_21, .ref q_700_22, .ref q_700_23, .ref q_700_24, .ref q_700_25, .ref q_700_26, .ref q_700_27, .ref q_700_28, .ref q_700_29, .int 0, .long 0, .ref q_700_30, .ref q_700_31, .ref q_700_32, .ref q_700_33, .ref q_700_34, .ref q_700_35, .ref q_700_36, .ref q_700_37, .ref q_700_38, .ref q_700_39, .ref q_700_40, .ref q_700_41, .int 0, .int 0, .int 0, .int 0, .ref q_700_42, .ref q_700_43, .ref q_700_44, .ref q_700_45, .int 0, .ref q_700_46, .ref q_700_47, .int 0, .long 0])), (q_700_2, .inl (cy 1, 10, .inl (upd (fun _ => 0) 4 2)))] sz) []) (va_A [(h_2, .inr (12, [.int 0, .int 0, .ref q_700_1, .int 0, .int 0, .int 0, .int 0, .long 0, .int 0, .int 0, .ref q_700_2, .ref q_700_3, .ref q_700_4, .ref q_700_5, .ref q_700_6, .ref q_700_7, .ref q_700_8, .ref q_700_9, .ref q_700_10, .ref q_700_11, .ref q_700_12, .ref q_700_13, .ref q_700_14, .ref q_700_15, .ref q_700_16, .ref q_700_17, .int 0, .int 0, .ref q_700_18, .ref q_700_19, .ref q_700_20, .ref q_700_21, .ref q_700_22, .ref q_700_23, .ref q_700_24, .ref q_700_25, .ref q_700_26, .ref q_700_27, .ref q_700_28, .ref q_700_29, .int 0, .long 0, .ref q_700_30, .ref q_700_31, .ref q_700_32, .ref q_700_33, .ref q_700_34, .ref q_700_35, .ref q_700_36, .ref q_700_37, .ref q_700_38, .ref q_700_39, .ref q_700_40, .ref q_700_41, .int 0, .int 0, .int 0, .int 0, .ref q_700_42, .ref q_700_43, .ref q_700_44, .ref q_700_45, .int 0, .ref q_700_46, .ref q_700_47, .int 0, .long 0])), (q_700_2, .inl (cy 1, 10, .inl (upd (fun _ => 0) 4 2)))] sz)) 0 0 (va_A [(h_2, .inr (12, [.int 0, .int 0, .ref q_700_1, .int 0, .int 0, .int 0, .int 0, .long 0, .int 0, .int 0, .ref q_700_2, .ref q_700_3, .ref q_700_4, .ref q_700_5, .ref q_700_6, .ref q_700_7, .ref q_700_8, .ref q_700_9, .ref q_700_10, .ref q_700_11, .ref q_700_12, .ref q_700_13, .ref q_700_14, .ref q_700_15, .ref q_700_16, .ref q_700_17, .int 0, .int 0, .ref q_700_18, .ref q_700_19, .ref q_700_20, .ref q_700_21, .ref q_700_22, .ref q_700_23, .ref q_700_24, .ref q_700_25, .ref q_700_26, .ref q_700_27, .ref q_700_28, .ref q_700_29, .int 0, .long 0, .ref q_700_30, .ref q_700_31, .ref q_700_32, .ref q_700_33, .ref q_700_34, .ref q_700_35, .ref q_700_36, .ref q_700_37, .ref q_700_38, .ref q_700_39, .ref q_700_40, .ref q_700_41, .int 0, .int 0, .int 0, .int 0, .ref q_700_42, .ref q_700_43, .ref q_700_44, .ref q_700_45, .int 0, .ref q_700_46, .ref q_700_47, .int 0, .long 0])), (q_700_2, .inl (cy 1, 10, .inl (upd (fun _ => 0) 4 2)))] sz) := by
  refine Met.ofW (cc := cX12_count) (maxL := 2) (ret := (some .int)) (by decide) rfl ?_
  intro p e s m args below meth c s₁ B hml hv
  obtain ⟨rfl, hsz, hP, hG, hD0⟩ := hv
  have hx := B.exec
  have hb := B.bytes
  have hr := B.returns
  have hts := atoms_spec (ws := (Cond.code yX12_count cX12_count 2 (some .int) :: bigG)) B.pre
  have hg : ∀ w ∈ bigG, w.before ([.ref h_2, .int 1] : List Value).toArray s = true := fun w h => hts w (List.mem_cons_of_mem _ h)
  have hown : s.vm.findClass RX12 = some m.cls := findClass_of_methodNamed B.named
  have hlocks := B.notSynchronized
  subst hsz
  have hD := hD0.self (sz := s.heap.size)
  generalize hAe : va_A [(h_2, .inr (12, [.int 0, .int 0, .ref q_700_1, .int 0, .int 0, .int 0, .int 0, .long 0, .int 0, .int 0, .ref q_700_2, .ref q_700_3, .ref q_700_4, .ref q_700_5, .ref q_700_6, .ref q_700_7, .ref q_700_8, .ref q_700_9, .ref q_700_10, .ref q_700_11, .ref q_700_12, .ref q_700_13, .ref q_700_14, .ref q_700_15, .ref q_700_16, .ref q_700_17, .int 0, .int 0, .ref q_700_18, .ref q_700_19, .ref q_700_20, .ref q_700_21, .ref q_700_22, .ref q_700_23, .ref q_700_24, .ref q_700_25, .ref q_700_26, .ref q_700_27, .ref q_700_28, .ref q_700_29, .int 0, .long 0, .ref q_700_30, .ref q_700_31, .ref q_700_32, .ref q_700_33, .ref q_700_34, .ref q_700_35, .ref q_700_36, .ref q_700_37, .ref q_700_38, .ref q_700_39, .ref q_700_40, .ref q_700_41, .int 0, .int 0, .int 0, .int 0, .ref q_700_42, .ref q_700_43, .ref q_700_44, .ref q_700_45, .int 0, .ref q_700_46, .ref q_700_47, .int 0, .long 0])), (q_700_2, .inl (cy 1, 10, .inl (upd (fun _ => 0) 4 2)))] s.heap.size = A at hD ⊢
  have hA : ∀ q : Nat, s.heap.size ≤ q → A q := fun q h => by rw [← hAe]; exact Or.inr h
  have hS : va_S A s.heap s.heap [] := va_S.rf
  have hP : va_P D vwCl [(h_2, .inr (12, [.int 0, .int 0, .ref q_700_1, .int 0, .int 0, .int 0, .int 0, .long 0, .int 0, .int 0, .ref q_700_2, .ref q_700_3, .ref q_700_4, .ref q_700_5, .ref q_700_6, .ref q_700_7, .ref q_700_8, .ref q_700_9, .ref q_700_10, .ref q_700_11, .ref q_700_12, .ref q_700_13, .ref q_700_14, .ref q_700_15, .ref q_700_16, .ref q_700_17, .int 0, .int 0, .ref q_700_18, .ref q_700_19, .ref q_700_20, .ref q_700_21, .ref q_700_22, .ref q_700_23, .ref q_700_24, .ref q_700_25, .ref q_700_26, .ref q_700_27, .ref q_700_28, .ref q_700_29, .int 0, .long 0, .ref q_700_30, .ref q_700_31, .ref q_700_32, .ref q_700_33, .ref q_700_34, .ref q_700_35, .ref q_700_36, .ref q_700_37, .ref q_700_38, .ref q_700_39, .ref q_700_40, .ref q_700_41, .int 0, .int 0, .int 0, .int 0, .ref q_700_42, .ref q_700_43, .ref q_700_44, .ref q_700_45, .int 0, .ref q_700_46, .ref q_700_47, .int 0, .long 0])), (q_700_2, .inl (cy 1, 10, .inl (upd (fun _ => 0) 4 2)))] s.heap := hP
  have hl := lv_entry ([.ref h_2, .int 1]) (n := 2) (Nat.le_of_ble_eq_true rfl)
  rw [lg_entry_eq]
  generalize (lg_sl ([.ref h_2, .int 1]) ++ List.replicate (2 - (lg_sl ([.ref h_2, .int 1])).length) Slot.unset).toArray = ls at hl ⊢
  have hl : lv_has ls 2 [(0, .ref h_2), (1, .int 1)] := hl
  refine w_nm (fun Q hQ => ?_)
  refine lv_aload_n hx hb dX12_count_0 rfl (lv_at hl 0 rfl) ?_
  refine lv_iconst (v := 0) hx hb dX12_count_1 (by decide) ?_
  refine va_put (D := D) (ci := 12) (v := .int 0) (ty := .int) (C := RX12) (T := TX12) (N := 67) hx hb hts (inC ibX12) tyX12 tyX12_ok nmX12 hown hG.1 hP hD hS 0 rfl rfl 0 (by decide) (hg _ k_1315) (fun _ h9 => h9) rfl (by decide +kernel) rfl rfl (Nat.le_of_ble_eq_true rfl) dX12_count_2 (fun H locs hP hD hS => ?_)
  have hP : va_P D vwCl [(h_2, .inr (12, [.int 0, .int 0, .ref q_700_1, .int 0, .int 0, .int 0, .int 0, .long 0, .int 0, .int 0, .ref q_700_2, .ref q_700_3, .ref q_700_4, .ref q_700_5, .ref q_700_6, .ref q_700_7, .ref q_700_8, .ref q_700_9, .ref q_700_10, .ref q_700_11, .ref q_700_12, .ref q_700_13, .ref q_700_14, .ref q_700_15, .ref q_700_16, .ref q_700_17, .int 0, .int 0, .ref q_700_18, .ref q_700_19, .ref q_700_20, .ref q_700_21, .ref q_700_22, .ref q_700_23, .ref q_700_24, .ref q_700_25, .ref q_700_26, .ref q_700_27, .ref q_700_28, .ref q_700_29, .int 0, .long 0, .ref q_700_30, .ref q_700_31, .ref q_700_32, .ref q_700_33, .ref q_700_34, .ref q_700_35, .ref q_700_36, .ref q_700_37, .ref q_700_38, .ref q_700_39, .ref q_700_40, .ref q_700_41, .int 0, .int 0, .int 0, .int 0, .ref q_700_42, .ref q_700_43, .ref q_700_44, .ref q_700_45, .int 0, .ref q_700_46, .ref q_700_47, .int 0, .long 0])), (q_700_2, .inl (cy 1, 10, .inl (upd (fun _ => 0) 4 2)))] H := hP
  have hD : va_D A [(h_2, .inr (12, [.int 0, .int 0, .ref q_700_1, .int 0, .int 0, .int 0, .int 0, .long 0, .int 0, .int 0, .ref q_700_2, .ref q_700_3, .ref q_700_4, .ref q_700_5, .ref q_700_6, .ref q_700_7, .ref q_700_8, .ref q_700_9, .ref q_700_10, .ref q_700_11, .ref q_700_12, .ref q_700_13, .ref q_700_14, .ref q_700_15, .ref q_700_16, .ref q_700_17, .int 0, .int 0, .ref q_700_18, .ref q_700_19, .ref q_700_20, .ref q_700_21, .ref q_700_22, .ref q_700_23, .ref q_700_24, .ref q_700_25, .ref q_700_26, .ref q_700_27, .ref q_700_28, .ref q_700_29, .int 0, .long 0, .ref q_700_30, .ref q_700_31, .ref q_700_32, .ref q_700_33, .ref q_700_34, .ref q_700_35, .ref q_700_36, .ref q_700_37, .ref q_700_38, .ref q_700_39, .ref q_700_40, .ref q_700_41, .int 0, .int 0, .int 0, .int 0, .ref q_700_42, .ref q_700_43, .ref q_700_44, .ref q_700_45, .int 0, .ref q_700_46, .ref q_700_47, .int 0, .long 0])), (q_700_2, .inl (cy 1, 10, .inl (upd (fun _ => 0) 4 2)))] := hD
  refine lv_iload_n hx hb dX12_count_5 rfl (lv_at hl 1 rfl) ?_
  refine lv_iconst (v := 0) hx hb dX12_count_6 (by decide) ?_
  refine lv_bipush (v := 12) hx hb dX12_count_7 (by decide) ?_
  refine x_i (wr := [(h_2, .inr (12, [.int 0, .int 0, .ref q_700_1, .int 0, .int 0, .int 0, .int 0, .long 0, .int 0, .int 0, .ref q_700_2, .ref q_700_3, .ref q_700_4, .ref q_700_5, .ref q_700_6, .ref q_700_7, .ref q_700_8, .ref q_700_9, .ref q_700_10, .ref q_700_11, .ref q_700_12, .ref q_700_13, .ref q_700_14, .ref q_700_15, .ref q_700_16, .ref q_700_17, .int 0, .int 0, .ref q_700_18, .ref q_700_19, .ref q_700_20, .ref q_700_21, .ref q_700_22, .ref q_700_23, .ref q_700_24, .ref q_700_25, .ref q_700_26, .ref q_700_27, .ref q_700_28, .ref q_700_29, .int 0, .long 0, .ref q_700_30, .ref q_700_31, .ref q_700_32, .ref q_700_33, .ref q_700_34, .ref q_700_35, .ref q_700_36, .ref q_700_37, .ref q_700_38, .ref q_700_39, .ref q_700_40, .ref q_700_41, .int 0, .int 0, .int 0, .int 0, .ref q_700_42, .ref q_700_43, .ref q_700_44, .ref q_700_45, .int 0, .ref q_700_46, .ref q_700_47, .int 0, .long 0])), (q_700_2, .inl (cy 1, 10, .inl (upd (fun _ => 0) 4 2)))]) hP hD hS hA [] [0, 1] rfl rfl (by decide) (by decide) (va_runS (As := [.int 1, .int 0, .int 12]) (rest := []) ⟨hx, hb, hml, hown, hts⟩ (c_X12_within_21 l D cy  H.size) (va_cwS 3 hts (gS km_X12_293 kt_X12_within kn_X12 kc_X12_within) rfl rfl rfl (by decide +kernel) ⟨(Nat.le_of_ble_eq_true rfl), (Nat.le_of_ble_eq_true rfl)⟩) (preS hG hP hD [] rfl (by decide)) rfl rfl hl.1 rfl (lv_room (Nat.le_of_ble_eq_true rfl)) dX12_count_9 ⟨(Nat.le_of_ble_eq_true rfl), (Nat.le_of_ble_eq_true rfl)⟩) (fun r_1 H locs hB hj hS => ?_)
  obtain ⟨hres, hP1, hD1⟩ := hB
  subst hres
  obtain ⟨hP, hD⟩ := hj _ hP1 hD1
  have hP : va_P D vwCl [(h_2, .inr (12, [.int 0, .int 0, .ref q_700_1, .int 0, .int 0, .int 0, .int 0, .long 0, .int 0, .int 0, .ref q_700_2, .ref q_700_3, .ref q_700_4, .ref q_700_5, .ref q_700_6, .ref q_700_7, .ref q_700_8, .ref q_700_9, .ref q_700_10, .ref q_700_11, .ref q_700_12, .ref q_700_13, .ref q_700_14, .ref q_700_15, .ref q_700_16, .ref q_700_17, .int 0, .int 0, .ref q_700_18, .ref q_700_19, .ref q_700_20, .ref q_700_21, .ref q_700_22, .ref q_700_23, .ref q_700_24, .ref q_700_25, .ref q_700_26, .ref q_700_27, .ref q_700_28, .ref q_700_29, .int 0, .long 0, .ref q_700_30, .ref q_700_31, .ref q_700_32, .ref q_700_33, .ref q_700_34, .ref q_700_35, .ref q_700_36, .ref q_700_37, .ref q_700_38, .ref q_700_39, .ref q_700_40, .ref q_700_41, .int 0, .int 0, .int 0, .int 0, .ref q_700_42, .ref q_700_43, .ref q_700_44, .ref q_700_45, .int 0, .ref q_700_46, .ref q_700_47, .int 0, .long 0])), (q_700_2, .inl (cy 1, 10, .inl (upd (fun _ => 0) 4 2)))] H := hP
  have hD : va_D A [(h_2, .inr (12, [.int 0, .int 0, .ref q_700_1, .int 0, .int 0, .int 0, .int 0, .long 0, .int 0, .int 0, .ref q_700_2, .ref q_700_3, .ref q_700_4, .ref q_700_5, .ref q_700_6, .ref q_700_7, .ref q_700_8, .ref q_700_9, .ref q_700_10, .ref q_700_11, .ref q_700_12, .ref q_700_13, .ref q_700_14, .ref q_700_15, .ref q_700_16, .ref q_700_17, .int 0, .int 0, .ref q_700_18, .ref q_700_19, .ref q_700_20, .ref q_700_21, .ref q_700_22, .ref q_700_23, .ref q_700_24, .ref q_700_25, .ref q_700_26, .ref q_700_27, .ref q_700_28, .ref q_700_29, .int 0, .long 0, .ref q_700_30, .ref q_700_31, .ref q_700_32, .ref q_700_33, .ref q_700_34, .ref q_700_35, .ref q_700_36, .ref q_700_37, .ref q_700_38, .ref q_700_39, .ref q_700_40, .ref q_700_41, .int 0, .int 0, .int 0, .int 0, .ref q_700_42, .ref q_700_43, .ref q_700_44, .ref q_700_45, .int 0, .ref q_700_46, .ref q_700_47, .int 0, .long 0])), (q_700_2, .inl (cy 1, 10, .inl (upd (fun _ => 0) 4 2)))] := hD
  refine lv_if_ne (tgt := 17) hx hb dX12_count_12 (by decide) (fun _ => ?_) (fun c_ => absurd c_ (by decide))
  refine lv_iload_n hx hb dX12_count_17 rfl (lv_at hl 1 rfl) ?_
  refine lv_iconst (v := 3) hx hb dX12_count_18 (by decide) ?_
  refine lv_icmp_ge (tgt := 29) hx hb dX12_count_19 (by decide) (fun c_ => absurd c_ (by decide)) (fun _ => ?_)
  refine lv_aload_n hx hb dX12_count_22 rfl (lv_at hl 0 rfl) ?_
  refine va_get (D := D) (ci := 12) (v := .ref q_700_2) (C := RX12) (T := TX12) (N := 67) hx hb hts (inC ibX12) hown hG.1 hP 0 rfl rfl 10 (by decide) (hg _ k_1325) (fun _ h9 => h9) rfl dX12_count_23 ?_
  refine lv_iload_n hx hb dX12_count_26 rfl (lv_at hl 1 rfl) ?_
  refine m_iald (v := 0) hx hb hG hP 1 rfl (vin (by decide)) dX12_count_27 rfl ?_
  have hP9 := hP.sub (ws' := []) [] rfl
  have hD9 := hD.sub (ws' := []) [] (by decide) rfl
  subst hQ
  exact W.iret (v := 0) hx hb hr (fun t ht hW => qi_mk (by rw [ht]; exact ⟨rfl, hP9, hD9⟩) (hS.F ht)) hS.2.2 dX12_count_28
set_option maxHeartbeats 4000000 in
set_option maxRecDepth 100000 in
theorem c_X0_cupsInAll_1 (l : Launch) (D : va_G) (cy : Nat → ClassId) (q_4 : Nat) (q_1_5 : Nat) (q_2_6 : Nat) (q_3_7 : Nat) (q_4_8 : Nat) (q_5_9 : Nat) (q_6_10 : Nat) (q_7_11 : Nat) (q_8_12 : Nat) (q_9_13 : Nat) (q_10_14 : Nat) (q_11_15 : Nat) (q_12_16 : Nat) (q_13_17 : Nat) (q_18_18 : Nat) (q_19_19 : Nat) (q_20_20 : Nat) (sz : Nat) : Met l yX0_cupsInAll (Cond.code yX0_cupsInAll cX0_cupsInAll 3 (some .int) :: bigG) ({ frames := 0, cells := 0, slots := 0, locals := 0 }) (pre D cy [.ref q_4] sz [(q_4, .inr (0, [.ref q_1_5, .ref q_2_6, .ref q_3_7, .ref q_4_8, .ref q_5_9, .ref q_6_10, .ref q_7_11, .ref q_8_12, .ref q_9_13, .ref q_10_14, .ref q_11_15, .ref q_12_16, .ref q_13_17, .int 0, .int 0, .int 0, .int 2, .ref q_18_18, .ref q_19_19, .ref q_20_20]))]) (qi (fun r h => r = 0 ∧ va_P D vwCl [(q_4, .inr (0, [.ref q_1_5, .ref q_2_6, .ref q_3_7, .ref q_4_8, .ref q_5_9, .ref q_6_10, .ref q_7_11, .ref q_8_12, .ref q_9_13, .ref q_10_14, .ref q_11_15, .ref q_12_16, .ref q_13_17, .int 0, .int 0, .int 0, .int 2, .ref q_18_18, .ref q_19_19, .ref q_20_20]))] h ∧ va_D (va_A [(q_4, .inr (0, [.ref q_1_5, .ref q_2_6, .ref q_3_7, .ref q_4_8, .ref q_5_9, .ref q_6_10, .ref q_7_11, .ref q_8_12, .ref q_9_13, .ref q_10_14, .ref q_11_15, .ref q_12_16, .ref q_13_17, .int 0, .int 0, .int 0, .int 2, .ref q_18_18, .ref q_19_19, .ref q_20_20]))] sz) [(q_4, .inr (0, [.ref q_1_5, .ref q_2_6, .ref q_3_7, .ref q_4_8, .ref q_5_9, .ref q_6_10, .ref q_7_11, .ref q_8_12, .ref q_9_13, .ref q_10_14, .ref q_11_15, .ref q_12_16, .ref q_13_17, .int 0, .int 0, .int 0, .int 2, .ref q_18_18, .ref q_19_19, .ref q_20_20]))]) (va_A [(q_4, .inr (0, [.ref q_1_5, .ref q_2_6, .ref q_3_7, .ref q_4_8, .ref q_5_9, .ref q_6_10, .ref q_7_11, .ref q_8_12, .ref q_9_13, .ref q_10_14, .ref q_11_15, .ref q_12_16, .ref q_13_17, .int 0, .int 0, .int 0, .int 2, .ref q_18_18, .ref q_19_19, .ref q_20_20]))] sz)) 0 0 (va_A [(q_4, .inr (0, [.ref q_1_5, .ref q_2_6, .ref q_3_7, .ref q_4_8, .ref q_5_9, .ref q_6_10, .ref q_7_11, .ref q_8_12, .ref q_9_13, .ref q_10_14, .ref q_11_15, .ref q_12_16, .ref q_13_17, .int 0, .int 0, .int 0, .int 2, .ref q_18_18, .ref q_19_19, .ref q_20_20]))] sz) := by
  refine Met.ofW (cc := cX0_cupsInAll) (maxL := 3) (ret := (some .int)) (by decide) rfl ?_
  intro p e s m args below meth c s₁ B hml hv
  obtain ⟨rfl, hsz, hP, hG, hD0⟩ := hv
  have hx := B.exec
  have hb := B.bytes
  have hr := B.returns
  have hts := atoms_spec (ws := (Cond.code yX0_cupsInAll cX0_cupsInAll 3 (some .int) :: bigG)) B.pre
  have hg : ∀ w ∈ bigG, w.before ([.ref q_4] : List Value).toArray s = true := fun w h => hts w (List.mem_cons_of_mem _ h)
  have hown : s.vm.findClass RX0 = some m.cls := findClass_of_methodNamed B.named
  have hlocks := B.notSynchronized
  subst hsz
  have hD := hD0.self (sz := s.heap.size)
  generalize hAe : va_A [(q_4, .inr (0, [.ref q_1_5, .ref q_2_6, .ref q_3_7, .ref q_4_8, .ref q_5_9, .ref q_6_10, .ref q_7_11, .ref q_8_12, .ref q_9_13, .ref q_10_14, .ref q_11_15, .ref q_12_16, .ref q_13_17, .int 0, .int 0, .int 0, .int 2, .ref q_18_18, .ref q_19_19, .ref q_20_20]))] s.heap.size = A at hD ⊢
  have hA : ∀ q : Nat, s.heap.size ≤ q → A q := fun q h => by rw [← hAe]; exact Or.inr h
  have hS : va_S A s.heap s.heap [] := va_S.rf
  have hP : va_P D vwCl [(q_4, .inr (0, [.ref q_1_5, .ref q_2_6, .ref q_3_7, .ref q_4_8, .ref q_5_9, .ref q_6_10, .ref q_7_11, .ref q_8_12, .ref q_9_13, .ref q_10_14, .ref q_11_15, .ref q_12_16, .ref q_13_17, .int 0, .int 0, .int 0, .int 2, .ref q_18_18, .ref q_19_19, .ref q_20_20]))] s.heap := hP
  have hl := lv_entry ([.ref q_4]) (n := 3) (Nat.le_of_ble_eq_true rfl)
  rw [lg_entry_eq]
  generalize (lg_sl ([.ref q_4]) ++ List.replicate (3 - (lg_sl ([.ref q_4])).length) Slot.unset).toArray = ls at hl ⊢
  have hl : lv_has ls 3 [(0, .ref q_4)] := hl
  refine w_nm (fun Q hQ => ?_)
  refine lv_iconst (v := 0) hx hb dX0_cupsInAll_0 (by decide) ?_
  refine lv_istore_n (lv' := [(1, .int 0), (0, .ref q_4)]) hx hb dX0_cupsInAll_1 rfl hl (by decide) rfl (fun ls hl => ?_)
  refine lv_iconst (v := 0) hx hb dX0_cupsInAll_2 (by decide) ?_
  refine lv_istore_n (lv' := [(2, .int 0), (1, .int 0), (0, .ref q_4)]) hx hb dX0_cupsInAll_3 rfl hl (by decide) rfl (fun ls hl => ?_)
  refine lv_iload_n hx hb dX0_cupsInAll_4 rfl (lv_at hl 0 rfl) ?_
  refine lv_aload_n hx hb dX0_cupsInAll_5 rfl (lv_at hl 2 rfl) ?_
  refine va_get (D := D) (ci := 0) (v := .int 0) (C := RX0) (T := TX0) (N := 20) hx hb hts (inC ibX0) hown hG.1 hP 0 rfl rfl 13 (by decide) (hg _ k_171) (fun _ h9 => h9) rfl dX0_cupsInAll_6 ?_
  refine lv_icmp_ge (tgt := 30) hx hb dX0_cupsInAll_9 (by decide) (fun _ => ?_) (fun c_ => absurd (by decide) c_)
  refine lv_iload_n hx hb dX0_cupsInAll_30 rfl (lv_at hl 1 rfl) ?_
  refine lv_iconst (v := 2) hx hb dX0_cupsInAll_31 (by decide) ?_
  refine m_idiv (v := 0) hx hb dX0_cupsInAll_32 (by decide) (by decide) ?_
  have hP9 := hP.sub (ws' := [(q_4, .inr (0, [.ref q_1_5, .ref q_2_6, .ref q_3_7, .ref q_4_8, .ref q_5_9, .ref q_6_10, .ref q_7_11, .ref q_8_12, .ref q_9_13, .ref q_10_14, .ref q_11_15, .ref q_12_16, .ref q_13_17, .int 0, .int 0, .int 0, .int 2, .ref q_18_18, .ref q_19_19, .ref q_20_20]))]) [0] rfl
  have hD9 := hD.sub (ws' := [(q_4, .inr (0, [.ref q_1_5, .ref q_2_6, .ref q_3_7, .ref q_4_8, .ref q_5_9, .ref q_6_10, .ref q_7_11, .ref q_8_12, .ref q_9_13, .ref q_10_14, .ref q_11_15, .ref q_12_16, .ref q_13_17, .int 0, .int 0, .int 0, .int 2, .ref q_18_18, .ref q_19_19, .ref q_20_20]))]) [0] (by decide) rfl
  subst hQ
  exact W.iret (v := 0) hx hb hr (fun t ht hW => qi_mk (by rw [ht]; exact ⟨rfl, hP9, hD9⟩) (hS.F ht)) hS.2.2 dX0_cupsInAll_33
set_option maxHeartbeats 4000000 in
set_option maxRecDepth 100000 in
theorem c_X11_count_3 (l : Launch) (D : va_G) (cy : Nat → ClassId) (h_1 : Nat) (q_1 : Nat) (q_3 : Nat) (q_4 : Nat) (q_25 : Nat) (q_46 : Nat) (q_50 : Nat) (q_54 : Nat) (q_58 : Nat) (q_62 : Nat) (q_63 : Nat) (q_64 : Nat) (q_67 : Nat) (q_85 : Nat) (q_90 : Nat) (q_93 : Nat) (q_1_5 : Nat) (q_2_6 : Nat) (q_3_7 : Nat) (q_4_8 : Nat) (q_5_9 : Nat) (q_6_10 : Nat) (q_7_11 : Nat) (q_8_12 : Nat) (q_9_13 : Nat) (q_10_14 : Nat) (q_11_15 : Nat) (q_12_16 : Nat) (q_13_17 : Nat) (q_18_18 : Nat) (q_19_19 : Nat) (q_20_20 : Nat) (sz : Nat) : Met l yX11_count (Cond.code yX11_count cX11_count 2 (some .int) :: bigG) ({ frames := 1, cells := 0, slots := 0, locals := 22 }) (pre D cy [.ref h_1, .int 2] sz [(h_1, .inr (11, [.ref q_1, .ref q_3, .ref q_4, .ref q_25, .ref q_46, .ref q_50, .ref q_54, .ref q_58, .ref q_62, .int 0, .int 0, .ref q_63, .ref q_64, .ref q_67, .ref q_85, .ref q_90, .ref q_93])), (q_4, .inr (0, [.ref q_1_5, .ref q_2_6, .ref q_3_7, .ref q_4_8, .ref q_5_9, .ref q_6_10, .ref q_7_11, .ref q_8_12, .ref q_9_13, .ref q_10_14, .ref q_11_15, .ref q_12_16, .ref q_13_17, .int 0, .int 0, .int 0, .int 2, .ref q_18_18, .ref q_19_19, .ref q_20_20]))]) (qi (fun r h => r = 0 ∧ va_P D vwCl [] h ∧ va_D (va_A [(h_1, .inr (11, [.ref q_1, .ref q_3, .ref q_4, .ref q_25, .ref q_46, .ref q_50, .ref q_54, .ref q_58, .ref q_62, .int 0, .int 0, .ref q_63, .ref q_64, .ref q_67, .ref q_85, .ref q_90, .ref q_93])), (q_4, .inr (0, [.ref q_1_5, .ref q_2_6, .ref q_3_7, .ref q_4_8, .ref q_5_9, .ref q_6_10, .ref q_7_11, .ref q_8_12, .ref q_9_13, .ref q_10_14, .ref q_11_15, .ref q_12_16, .ref q_13_17, .int 0, .int 0, .int 0, .int 2, .ref q_18_18, .ref q_19_19, .ref q_20_20]))] sz) []) (va_A [(h_1, .inr (11, [.ref q_1, .ref q_3, .ref q_4, .ref q_25, .ref q_46, .ref q_50, .ref q_54, .ref q_58, .ref q_62, .int 0, .int 0, .ref q_63, .ref q_64, .ref q_67, .ref q_85, .ref q_90, .ref q_93])), (q_4, .inr (0, [.ref q_1_5, .ref q_2_6, .ref q_3_7, .ref q_4_8, .ref q_5_9, .ref q_6_10, .ref q_7_11, .ref q_8_12, .ref q_9_13, .ref q_10_14, .ref q_11_15, .ref q_12_16, .ref q_13_17, .int 0, .int 0, .int 0, .int 2, .ref q_18_18, .ref q_19_19, .ref q_20_20]))] sz)) 0 0 (va_A [(h_1, .inr (11, [.ref q_1, .ref q_3, .ref q_4, .ref q_25, .ref q_46, .ref q_50, .ref q_54, .ref q_58, .ref q_62, .int 0, .int 0, .ref q_63, .ref q_64, .ref q_67, .ref q_85, .ref q_90, .ref q_93])), (q_4, .inr (0, [.ref q_1_5, .ref q_2_6, .ref q_3_7, .ref q_4_8, .ref q_5_9, .ref q_6_10, .ref q_7_11, .ref q_8_12, .ref q_9_13, .ref q_10_14, .ref q_11_15, .ref q_12_16, .ref q_13_17, .int 0, .int 0, .int 0, .int 2, .ref q_18_18, .ref q_19_19, .ref q_20_20]))] sz) := by
  refine Met.ofW (cc := cX11_count) (maxL := 2) (ret := (some .int)) (by decide) rfl ?_
  intro p e s m args below meth c s₁ B hml hv
  obtain ⟨rfl, hsz, hP, hG, hD0⟩ := hv
  have hx := B.exec
  have hb := B.bytes
  have hr := B.returns
  have hts := atoms_spec (ws := (Cond.code yX11_count cX11_count 2 (some .int) :: bigG)) B.pre
  have hg : ∀ w ∈ bigG, w.before ([.ref h_1, .int 2] : List Value).toArray s = true := fun w h => hts w (List.mem_cons_of_mem _ h)
  have hown : s.vm.findClass RX11 = some m.cls := findClass_of_methodNamed B.named
  have hlocks := B.notSynchronized
  subst hsz
  have hD := hD0.self (sz := s.heap.size)
  generalize hAe : va_A [(h_1, .inr (11, [.ref q_1, .ref q_3, .ref q_4, .ref q_25, .ref q_46, .ref q_50, .ref q_54, .ref q_58, .ref q_62, .int 0, .int 0, .ref q_63, .ref q_64, .ref q_67, .ref q_85, .ref q_90, .ref q_93])), (q_4, .inr (0, [.ref q_1_5, .ref q_2_6, .ref q_3_7, .ref q_4_8, .ref q_5_9, .ref q_6_10, .ref q_7_11, .ref q_8_12, .ref q_9_13, .ref q_10_14, .ref q_11_15, .ref q_12_16, .ref q_13_17, .int 0, .int 0, .int 0, .int 2, .ref q_18_18, .ref q_19_19, .ref q_20_20]))] s.heap.size = A at hD ⊢
  have hA : ∀ q : Nat, s.heap.size ≤ q → A q := fun q h => by rw [← hAe]; exact Or.inr h
  have hS : va_S A s.heap s.heap [] := va_S.rf
  have hP : va_P D vwCl [(h_1, .inr (11, [.ref q_1, .ref q_3, .ref q_4, .ref q_25, .ref q_46, .ref q_50, .ref q_54, .ref q_58, .ref q_62, .int 0, .int 0, .ref q_63, .ref q_64, .ref q_67, .ref q_85, .ref q_90, .ref q_93])), (q_4, .inr (0, [.ref q_1_5, .ref q_2_6, .ref q_3_7, .ref q_4_8, .ref q_5_9, .ref q_6_10, .ref q_7_11, .ref q_8_12, .ref q_9_13, .ref q_10_14, .ref q_11_15, .ref q_12_16, .ref q_13_17, .int 0, .int 0, .int 0, .int 2, .ref q_18_18, .ref q_19_19, .ref q_20_20]))] s.heap := hP
  have hl := lv_entry ([.ref h_1, .int 2]) (n := 2) (Nat.le_of_ble_eq_true rfl)
  rw [lg_entry_eq]
  generalize (lg_sl ([.ref h_1, .int 2]) ++ List.replicate (2 - (lg_sl ([.ref h_1, .int 2])).length) Slot.unset).toArray = ls at hl ⊢
  have hl : lv_has ls 2 [(0, .ref h_1), (1, .int 2)] := hl
  refine w_nm (fun Q hQ => ?_)
  refine lv_iload_n hx hb dX11_count_0 rfl (lv_at hl 1 rfl) ?_
  refine lv_tableIn (off := 83) (tgt := 84) hx hb dX11_count_1 (by decide) (by decide) (by decide) (by decide) ?_
  refine lv_aload_n hx hb dX11_count_84 rfl (lv_at hl 0 rfl) ?_
  refine va_get (D := D) (ci := 11) (v := .ref q_4) (C := RX11) (T := TX11) (N := 17) hx hb hts (inC ibX11) hown hG.1 hP 0 rfl rfl 2 (by decide) (hg _ k_422) (fun _ h9 => h9) rfl dX11_count_85 ?_
  refine x_i (wr := [(h_1, .inr (11, [.ref q_1, .ref q_3, .ref q_4, .ref q_25, .ref q_46, .ref q_50, .ref q_54, .ref q_58, .ref q_62, .int 0, .int 0, .ref q_63, .ref q_64, .ref q_67, .ref q_85, .ref q_90, .ref q_93]))]) hP hD hS hA [1] [0] rfl rfl (by decide) (by decide) (va_runV (As := []) (rest := []) ⟨hx, hb, hml, hown, hts⟩ (c_X0_cupsInAll_1 l D cy q_4 q_1_5 q_2_6 q_3_7 q_4_8 q_5_9 q_6_10 q_7_11 q_8_12 q_9_13 q_10_14 q_11_15 q_12_16 q_13_17 q_18_18 q_19_19 q_20_20 s.heap.size) (cwV 0 hts (gV km_X11_318 ki_X0_cupsInAll kz_X0_cupsInAll kn_X0 kc_X0_cupsInAll) rfl rfl rfl (by decide +kernel) ⟨(Nat.le_of_ble_eq_true rfl), (Nat.le_of_ble_eq_true rfl)⟩) (preV hG hP hD [1] rfl (by decide) 0 1 rfl rfl) rfl rfl hl.1 rfl (lv_room (Nat.le_of_ble_eq_true rfl)) dX11_count_88 ⟨(Nat.le_of_ble_eq_true rfl), (Nat.le_of_ble_eq_true rfl)⟩) (fun r_1 H locs hB hj hS => ?_)
  obtain ⟨hres, hP1, hD1⟩ := hB
  subst hres
  obtain ⟨hP, hD⟩ := hj _ hP1 hD1
  have hP : va_P D vwCl [(h_1, .inr (11, [.ref q_1, .ref q_3, .ref q_4, .ref q_25, .ref q_46, .ref q_50, .ref q_54, .ref q_58, .ref q_62, .int 0, .int 0, .ref q_63, .ref q_64, .ref q_67, .ref q_85, .ref q_90, .ref q_93])), (q_4, .inr (0, [.ref q_1_5, .ref q_2_6, .ref q_3_7, .ref q_4_8, .ref q_5_9, .ref q_6_10, .ref q_7_11, .ref q_8_12, .ref q_9_13, .ref q_10_14, .ref q_11_15, .ref q_12_16, .ref q_13_17, .int 0, .int 0, .int 0, .int 2, .ref q_18_18, .ref q_19_19, .ref q_20_20]))] H := hP
  have hD : va_D A [(h_1, .inr (11, [.ref q_1, .ref q_3, .ref q_4, .ref q_25, .ref q_46, .ref q_50, .ref q_54, .ref q_58, .ref q_62, .int 0, .int 0, .ref q_63, .ref q_64, .ref q_67, .ref q_85, .ref q_90, .ref q_93])), (q_4, .inr (0, [.ref q_1_5, .ref q_2_6, .ref q_3_7, .ref q_4_8, .ref q_5_9, .ref q_6_10, .ref q_7_11, .ref q_8_12, .ref q_9_13, .ref q_10_14, .ref q_11_15, .ref q_12_16, .ref q_13_17, .int 0, .int 0, .int 0, .int 2, .ref q_18_18, .ref q_19_19, .ref q_20_20]))] := hD
  have hP9 := hP.sub (ws' := []) [] rfl
  have hD9 := hD.sub (ws' := []) [] (by decide) rfl
  subst hQ
  exact W.iret (v := 0) hx hb hr (fun t ht hW => qi_mk (by rw [ht]; exact ⟨rfl, hP9, hD9⟩) (hS.F ht)) hS.2.2 dX11_count_91
set_option maxHeartbeats 4000000 in
set_option maxRecDepth 100000 in
theorem c_X12_within_22 (l : Launch) (D : va_G) (cy : Nat → ClassId) (sz : Nat) : Met l yX12_within (Cond.code yX12_within cX12_within 3 (some .boolean) :: bigG) ({ frames := 0, cells := 0, slots := 0, locals := 0 }) (pre D cy [.int 2, .int 0, .int 12] sz []) (qi (fun r h => r = 1 ∧ va_P D vwCl [] h ∧ va_D (va_A [] sz) []) (va_A [] sz)) 0 0 (va_A [] sz) := by
  refine Met.ofW (cc := cX12_within) (maxL := 3) (ret := (some .boolean)) (by decide) rfl ?_
  intro p e s m args below meth c s₁ B hml hv
  obtain ⟨rfl, hsz, hP, hG, hD0⟩ := hv
  have hx := B.exec
  have hb := B.bytes
  have hr := B.returns
  have hts := atoms_spec (ws := (Cond.code yX12_within cX12_within 3 (some .boolean) :: bigG)) B.pre
  have hg : ∀ w ∈ bigG, w.before ([.int 2, .int 0, .int 12] : List Value).toArray s = true := fun w h => hts w (List.mem_cons_of_mem _ h)
  have hown : s.vm.findClass RX12 = some m.cls := findClass_of_methodNamed B.named
  have hlocks := B.notSynchronized
  subst hsz
  have hD := hD0.self (sz := s.heap.size)
  generalize hAe : va_A [] s.heap.size = A at hD ⊢
  have hA : ∀ q : Nat, s.heap.size ≤ q → A q := fun q h => by rw [← hAe]; exact Or.inr h
  have hS : va_S A s.heap s.heap [] := va_S.rf
  have hP : va_P D vwCl [] s.heap := hP
  have hl := lv_entry ([.int 2, .int 0, .int 12]) (n := 3) (Nat.le_of_ble_eq_true rfl)
  rw [lg_entry_eq]
  generalize (lg_sl ([.int 2, .int 0, .int 12]) ++ List.replicate (3 - (lg_sl ([.int 2, .int 0, .int 12])).length) Slot.unset).toArray = ls at hl ⊢
  have hl : lv_has ls 3 [(0, .int 2), (1, .int 0), (2, .int 12)] := hl
  refine w_nm (fun Q hQ => ?_)
  refine lv_iload_n hx hb dX12_within_0 rfl (lv_at hl 0 rfl) ?_
  refine lv_iload_n hx hb dX12_within_1 rfl (lv_at hl 1 rfl) ?_
  refine lv_icmp_lt (tgt := 14) hx hb dX12_within_2 (by decide) (fun c_ => absurd c_ (by decide)) (fun _ => ?_)
  refine lv_iload_n hx hb dX12_within_5 rfl (lv_at hl 0 rfl) ?_
  refine lv_iload_n hx hb dX12_within_6 rfl (lv_at hl 2 rfl) ?_
  refine lv_icmp_gt (tgt := 14) hx hb dX12_within_7 (by decide) (fun c_ => absurd c_ (by decide)) (fun _ => ?_)
  refine lv_iconst (v := 1) hx hb dX12_within_10 (by decide) ?_
  refine lv_goto (tgt := 15) hx hb dX12_within_11 (by decide) ?_
  have hP9 := hP.sub (ws' := []) [] rfl
  have hD9 := hD.sub (ws' := []) [] (by decide) rfl
  subst hQ
  exact W.zret (v := 1) hx hb hr rfl (fun t ht hW => qi_mk (by rw [ht]; exact ⟨rfl, hP9, hD9⟩) (hS.F ht)) hS.2.2 dX12_within_15
set_option maxHeartbeats 4000000 in
set_option maxRecDepth 100000 in
theorem c_X12_count_3 (l : Launch) (D : va_G) (cy : Nat → ClassId) (h_2 : Nat) (q_700_1 : Nat) (q_700_2 : Nat) (q_700_3 : Nat) (q_700_4 : Nat) (q_700_5 : Nat) (q_700_6 : Nat) (q_700_7 : Nat) (q_700_8 : Nat) (q_700_9 : Nat) (q_700_10 : Nat) (q_700_11 : Nat) (q_700_12 : Nat) (q_700_13 : Nat) (q_700_14 : Nat) (q_700_15 : Nat) (q_700_16 : Nat) (q_700_17 : Nat) (q_700_18 : Nat) (q_700_19 : Nat) (q_700_20 : Nat) (q_700_21 : Nat) (q_700_22 : Nat) (q_700_23 : Nat) (q_700_24 : Nat) (q_700_25 : Nat) (q_700_26 : Nat) (q_700_27 : Nat) (q_700_28 : Nat) (q_700_29 : Nat) (q_700_30 : Nat) (q_700_31 : Nat) (q_700_32 : Nat) (q_700_33 : Nat) (q_700_34 : Nat) (q_700_35 : Nat) (q_700_36 : Nat) (q_700_37 : Nat) (q_700_38 : Nat) (q_700_39 : Nat) (q_700_40 : Nat) (q_700_41 : Nat) (q_700_42 : Nat) (q_700_43 : Nat) (q_700_44 : Nat) (q_700_45 : Nat) (q_700_46 : Nat) (q_700_47 : Nat) (sz : Nat) : Met l yX12_count (Cond.code yX12_count cX12_count 2 (some .int) :: bigG) ({ frames := 1, cells := 0, slots := 0, locals := 22 }) (pre D cy [.ref h_2, .int 2] sz [(h_2, .inr (12, [.int 0, .int 0, .ref q_700_1, .int 0, .int 0, .int 0, .int 0, .long 0, .int 0, .int 0, .ref q_700_2, .ref q_700_3, .ref q_700_4, .ref q_700_5, .ref q_700_6, .ref q_700_7, .ref q_700_8, .ref q_700_9, .ref q_700_10, .ref q_700_11, .ref q_700_12, .ref q_700_13, .ref q_700_14, .ref q_700_15, .ref q_700_16, .ref q_700_17, .int 0, .int 0, .ref q_700_18, .ref q_700_19, .ref q_700_20, .ref q_700_21, .ref q_700_22, .ref q_700_23, .ref q_700_24, .ref q_700_25, .ref q_700_26, .ref q_700_27, .ref q_700_28, .ref q_700_29, .int 0, .long 0, .ref q_700_30, .ref q_700_31, .ref q_700_32, .ref q_700_33, .ref q_700_34, .ref q_700_35, .ref q_700_36, .ref q_700_37, .ref q_700_38, .ref q_700_39, .ref q_700_40, .ref q_700_41, .int 0, .int 0, .int 0, .int 0, .ref q_700_42, .ref q_700_43, .ref q_700_44, .ref q_700_45, .int 0, .ref q_700_46, .ref q_700_47, .int 0, .long 0])), (q_700_2, .inl (cy 1, 10, .inl (upd (fun _ => 0) 4 2)))]) (qi (fun r h => r = 0 ∧ va_P D vwCl [] h ∧ va_D (va_A [(h_2, .inr (12, [.int 0, .int 0, .ref q_700_1, .int 0, .int 0, .int 0, .int 0, .long 0, .int 0, .int 0, .ref q_700_2, .ref q_700_3, .ref q_700_4, .ref q_700_5, .ref q_700_6, .ref q_700_7, .ref q_700_8, .ref q_700_9, .ref q_700_10, .ref q_700_11, .ref q_700_12, .ref q_700_13, .ref q_700_14, .ref q_700_15, .ref q_700_16, .ref q_700_17, .int 0, .int 0, .ref q_700_18, .ref q_700_19, .ref q_700_20, .ref q_700_21, .ref q_700_22, .ref q_700_23, .ref q_700_24, .ref q_700_25, .ref q_700_26, .ref q_700_27, .ref q_700_28, .ref q_700_29, .int 0, .long 0, .ref q_700_30, .ref q_700_31, .ref q_700_32, .ref q_700_33, .ref q_700_34, .ref q_700_35, .ref q_700_36, .ref q_700_37, .ref q_700_38, .ref q_700_39, .ref q_700_40, .ref q_700_41, .int 0, .int 0, .int 0, .int 0, .ref q_700_42, .ref q_700_43, .ref q_700_44, .ref q_700_45, .int 0, .ref q_700_46, .ref q_700_47, .int 0, .long 0])), (q_700_2, .inl (cy 1, 10, .inl (upd (fun _ => 0) 4 2)))] sz) []) (va_A [(h_2, .inr (12, [.int 0, .int 0, .ref q_700_1, .int 0, .int 0, .int 0, .int 0, .long 0, .int 0, .int 0, .ref q_700_2, .ref q_700_3, .ref q_700_4, .ref q_700_5, .ref q_700_6, .ref q_700_7, .ref q_700_8, .ref q_700_9, .ref q_700_10, .ref q_700_11, .ref q_700_12, .ref q_700_13, .ref q_700_14, .ref q_700_15, .ref q_700_16, .ref q_700_17, .int 0, .int 0, .ref q_700_18, .ref q_700_19, .ref q_700_20, .ref q_700_21, .ref q_700_22, .ref q_700_23, .ref q_700_24, .ref q_700_25, .ref q_700_26, .ref q_700_27, .ref q_700_28, .ref q_700_29, .int 0, .long 0, .ref q_700_30, .ref q_700_31, .ref q_700_32, .ref q_700_33, .ref q_700_34, .ref q_700_35, .ref q_700_36, .ref q_700_37, .ref q_700_38, .ref q_700_39, .ref q_700_40, .ref q_700_41, .int 0, .int 0, .int 0, .int 0, .ref q_700_42, .ref q_700_43, .ref q_700_44, .ref q_700_45, .int 0, .ref q_700_46, .ref q_700_47, .int 0, .long 0])), (q_700_2, .inl (cy 1, 10, .inl (upd (fun _ => 0) 4 2)))] sz)) 0 0 (va_A [(h_2, .inr (12, [.int 0, .int 0, .ref q_700_1, .int 0, .int 0, .int 0, .int 0, .long 0, .int 0, .int 0, .ref q_700_2, .ref q_700_3, .ref q_700_4, .ref q_700_5, .ref q_700_6, .ref q_700_7, .ref q_700_8, .ref q_700_9, .ref q_700_10, .ref q_700_11, .ref q_700_12, .ref q_700_13, .ref q_700_14, .ref q_700_15, .ref q_700_16, .ref q_700_17, .int 0, .int 0, .ref q_700_18, .ref q_700_19, .ref q_700_20, .ref q_700_21, .ref q_700_22, .ref q_700_23, .ref q_700_24, .ref q_700_25, .ref q_700_26, .ref q_700_27, .ref q_700_28, .ref q_700_29, .int 0, .long 0, .ref q_700_30, .ref q_700_31, .ref q_700_32, .ref q_700_33, .ref q_700_34, .ref q_700_35, .ref q_700_36, .ref q_700_37, .ref q_700_38, .ref q_700_39, .ref q_700_40, .ref q_700_41, .int 0, .int 0, .int 0, .int 0, .ref q_700_42, .ref q_700_43, .ref q_700_44, .ref q_700_45, .int 0, .ref q_700_46, .ref q_700_47, .int 0, .long 0])), (q_700_2, .inl (cy 1, 10, .inl (upd (fun _ => 0) 4 2)))] sz) := by
  refine Met.ofW (cc := cX12_count) (maxL := 2) (ret := (some .int)) (by decide) rfl ?_
  intro p e s m args below meth c s₁ B hml hv
  obtain ⟨rfl, hsz, hP, hG, hD0⟩ := hv
  have hx := B.exec
  have hb := B.bytes
  have hr := B.returns
  have hts := atoms_spec (ws := (Cond.code yX12_count cX12_count 2 (some .int) :: bigG)) B.pre
  have hg : ∀ w ∈ bigG, w.before ([.ref h_2, .int 2] : List Value).toArray s = true := fun w h => hts w (List.mem_cons_of_mem _ h)
  have hown : s.vm.findClass RX12 = some m.cls := findClass_of_methodNamed B.named
  have hlocks := B.notSynchronized
  subst hsz
  have hD := hD0.self (sz := s.heap.size)
  generalize hAe : va_A [(h_2, .inr (12, [.int 0, .int 0, .ref q_700_1, .int 0, .int 0, .int 0, .int 0, .long 0, .int 0, .int 0, .ref q_700_2, .ref q_700_3, .ref q_700_4, .ref q_700_5, .ref q_700_6, .ref q_700_7, .ref q_700_8, .ref q_700_9, .ref q_700_10, .ref q_700_11, .ref q_700_12, .ref q_700_13, .ref q_700_14, .ref q_700_15, .ref q_700_16, .ref q_700_17, .int 0, .int 0, .ref q_700_18, .ref q_700_19, .ref q_700_20, .ref q_700_21, .ref q_700_22, .ref q_700_23, .ref q_700_24, .ref q_700_25, .ref q_700_26, .ref q_700_27, .ref q_700_28, .ref q_700_29, .int 0, .long 0, .ref q_700_30, .ref q_700_31, .ref q_700_32, .ref q_700_33, .ref q_700_34, .ref q_700_35, .ref q_700_36, .ref q_700_37, .ref q_700_38, .ref q_700_39, .ref q_700_40, .ref q_700_41, .int 0, .int 0, .int 0, .int 0, .ref q_700_42, .ref q_700_43, .ref q_700_44, .ref q_700_45, .int 0, .ref q_700_46, .ref q_700_47, .int 0, .long 0])), (q_700_2, .inl (cy 1, 10, .inl (upd (fun _ => 0) 4 2)))] s.heap.size = A at hD ⊢
  have hA : ∀ q : Nat, s.heap.size ≤ q → A q := fun q h => by rw [← hAe]; exact Or.inr h
  have hS : va_S A s.heap s.heap [] := va_S.rf
  have hP : va_P D vwCl [(h_2, .inr (12, [.int 0, .int 0, .ref q_700_1, .int 0, .int 0, .int 0, .int 0, .long 0, .int 0, .int 0, .ref q_700_2, .ref q_700_3, .ref q_700_4, .ref q_700_5, .ref q_700_6, .ref q_700_7, .ref q_700_8, .ref q_700_9, .ref q_700_10, .ref q_700_11, .ref q_700_12, .ref q_700_13, .ref q_700_14, .ref q_700_15, .ref q_700_16, .ref q_700_17, .int 0, .int 0, .ref q_700_18, .ref q_700_19, .ref q_700_20, .ref q_700_21, .ref q_700_22, .ref q_700_23, .ref q_700_24, .ref q_700_25, .ref q_700_26, .ref q_700_27, .ref q_700_28, .ref q_700_29, .int 0, .long 0, .ref q_700_30, .ref q_700_31, .ref q_700_32, .ref q_700_33, .ref q_700_34, .ref q_700_35, .ref q_700_36, .ref q_700_37, .ref q_700_38, .ref q_700_39, .ref q_700_40, .ref q_700_41, .int 0, .int 0, .int 0, .int 0, .ref q_700_42, .ref q_700_43, .ref q_700_44, .ref q_700_45, .int 0, .ref q_700_46, .ref q_700_47, .int 0, .long 0])), (q_700_2, .inl (cy 1, 10, .inl (upd (fun _ => 0) 4 2)))] s.heap := hP
  have hl := lv_entry ([.ref h_2, .int 2]) (n := 2) (Nat.le_of_ble_eq_true rfl)
  rw [lg_entry_eq]
  generalize (lg_sl ([.ref h_2, .int 2]) ++ List.replicate (2 - (lg_sl ([.ref h_2, .int 2])).length) Slot.unset).toArray = ls at hl ⊢
  have hl : lv_has ls 2 [(0, .ref h_2), (1, .int 2)] := hl
  refine w_nm (fun Q hQ => ?_)
  refine lv_aload_n hx hb dX12_count_0 rfl (lv_at hl 0 rfl) ?_
  refine lv_iconst (v := 0) hx hb dX12_count_1 (by decide) ?_
  refine va_put (D := D) (ci := 12) (v := .int 0) (ty := .int) (C := RX12) (T := TX12) (N := 67) hx hb hts (inC ibX12) tyX12 tyX12_ok nmX12 hown hG.1 hP hD hS 0 rfl rfl 0 (by decide) (hg _ k_1315) (fun _ h9 => h9) rfl (by decide +kernel) rfl rfl (Nat.le_of_ble_eq_true rfl) dX12_count_2 (fun H locs hP hD hS => ?_)
  have hP : va_P D vwCl [(h_2, .inr (12, [.int 0, .int 0, .ref q_700_1, .int 0, .int 0, .int 0, .int 0, .long 0, .int 0, .int 0, .ref q_700_2, .ref q_700_3, .ref q_700_4, .ref q_700_5, .ref q_700_6, .ref q_700_7, .ref q_700_8, .ref q_700_9, .ref q_700_10, .ref q_700_11, .ref q_700_12, .ref q_700_13, .ref q_700_14, .ref q_700_15, .ref q_700_16, .ref q_700_17, .int 0, .int 0, .ref q_700_18, .ref q_700_19, .ref q_700_20, .ref q_700_21, .ref q_700_22, .ref q_700_23, .ref q_700_24, .ref q_700_25, .ref q_700_26, .ref q_700_27, .ref q_700_28, .ref q_700_29, .int 0, .long 0, .ref q_700_30, .ref q_700_31, .ref q_700_32, .ref q_700_33, .ref q_700_34, .ref q_700_35, .ref q_700_36, .ref q_700_37, .ref q_700_38, .ref q_700_39, .ref q_700_40, .ref q_700_41, .int 0, .int 0, .int 0, .int 0, .ref q_700_42, .ref q_700_43, .ref q_700_44, .ref q_700_45, .int 0, .ref q_700_46, .ref q_700_47, .int 0, .long 0])), (q_700_2, .inl (cy 1, 10, .inl (upd (fun _ => 0) 4 2)))] H := hP
  have hD : va_D A [(h_2, .inr (12, [.int 0, .int 0, .ref q_700_1, .int 0, .int 0, .int 0, .int 0, .long 0, .int 0, .int 0, .ref q_700_2, .ref q_700_3, .ref q_700_4, .ref q_700_5, .ref q_700_6, .ref q_700_7, .ref q_700_8, .ref q_700_9, .ref q_700_10, .ref q_700_11, .ref q_700_12, .ref q_700_13, .ref q_700_14, .ref q_700_15, .ref q_700_16, .ref q_700_17, .int 0, .int 0, .ref q_700_18, .ref q_700_19, .ref q_700_20, .ref q_700_21, .ref q_700_22, .ref q_700_23, .ref q_700_24, .ref q_700_25, .ref q_700_26, .ref q_700_27, .ref q_700_28, .ref q_700_29, .int 0, .long 0, .ref q_700_30, .ref q_700_31, .ref q_700_32, .ref q_700_33, .ref q_700_34, .ref q_700_35, .ref q_700_36, .ref q_700_37, .ref q_700_38, .ref q_700_39, .ref q_700_40, .ref q_700_41, .int 0, .int 0, .int 0, .int 0, .ref q_700_42, .ref q_700_43, .ref q_700_44, .ref q_700_45, .int 0, .ref q_700_46, .ref q_700_47, .int 0, .long 0])), (q_700_2, .inl (cy 1, 10, .inl (upd (fun _ => 0) 4 2)))] := hD
  refine lv_iload_n hx hb dX12_count_5 rfl (lv_at hl 1 rfl) ?_
  refine lv_iconst (v := 0) hx hb dX12_count_6 (by decide) ?_
  refine lv_bipush (v := 12) hx hb dX12_count_7 (by decide) ?_
  refine x_i (wr := [(h_2, .inr (12, [.int 0, .int 0, .ref q_700_1, .int 0, .int 0, .int 0, .int 0, .long 0, .int 0, .int 0, .ref q_700_2, .ref q_700_3, .ref q_700_4, .ref q_700_5, .ref q_700_6, .ref q_700_7, .ref q_700_8, .ref q_700_9, .ref q_700_10, .ref q_700_11, .ref q_700_12, .ref q_700_13, .ref q_700_14, .ref q_700_15, .ref q_700_16, .ref q_700_17, .int 0, .int 0, .ref q_700_18, .ref q_700_19, .ref q_700_20, .ref q_700_21, .ref q_700_22, .ref q_700_23, .ref q_700_24, .ref q_700_25, .ref q_700_26, .ref q_700_27, .ref q_700_28, .ref q_700_29, .int 0, .long 0, .ref q_700_30, .ref q_700_31, .ref q_700_32, .ref q_700_33, .ref q_700_34, .ref q_700_35, .ref q_700_36, .ref q_700_37, .ref q_700_38, .ref q_700_39, .ref q_700_40, .ref q_700_41, .int 0, .int 0, .int 0, .int 0, .ref q_700_42, .ref q_700_43, .ref q_700_44, .ref q_700_45, .int 0, .ref q_700_46, .ref q_700_47, .int 0, .long 0])), (q_700_2, .inl (cy 1, 10, .inl (upd (fun _ => 0) 4 2)))]) hP hD hS hA [] [0, 1] rfl rfl (by decide) (by decide) (va_runS (As := [.int 2, .int 0, .int 12]) (rest := []) ⟨hx, hb, hml, hown, hts⟩ (c_X12_within_22 l D cy  H.size) (va_cwS 3 hts (gS km_X12_293 kt_X12_within kn_X12 kc_X12_within) rfl rfl rfl (by decide +kernel) ⟨(Nat.le_of_ble_eq_true rfl), (Nat.le_of_ble_eq_true rfl)⟩) (preS hG hP hD [] rfl (by decide)) rfl rfl hl.1 rfl (lv_room (Nat.le_of_ble_eq_true rfl)) dX12_count_9 ⟨(Nat.le_of_ble_eq_true rfl), (Nat.le_of_ble_eq_true rfl)⟩) (fun r_1 H locs hB hj hS => ?_)
  obtain ⟨hres, hP1, hD1⟩ := hB
  subst hres
  obtain ⟨hP, hD⟩ := hj _ hP1 hD1
  have hP : va_P D vwCl [(h_2, .inr (12, [.int 0, .int 0, .ref q_700_1, .int 0, .int 0, .int 0, .int 0, .long 0, .int 0, .int 0, .ref q_700_2, .ref q_700_3, .ref q_700_4, .ref q_700_5, .ref q_700_6, .ref q_700_7, .ref q_700_8, .ref q_700_9, .ref q_700_10, .ref q_700_11, .ref q_700_12, .ref q_700_13, .ref q_700_14, .ref q_700_15, .ref q_700_16, .ref q_700_17, .int 0, .int 0, .ref q_700_18, .ref q_700_19, .ref q_700_20, .ref q_700_21, .ref q_700_22, .ref q_700_23, .ref q_700_24, .ref q_700_25, .ref q_700_26, .ref q_700_27, .ref q_700_28, .ref q_700_29, .int 0, .long 0, .ref q_700_30, .ref q_700_31, .ref q_700_32, .ref q_700_33, .ref q_700_34, .ref q_700_35, .ref q_700_36, .ref q_700_37, .ref q_700_38, .ref q_700_39, .ref q_700_40, .ref q_700_41, .int 0, .int 0, .int 0, .int 0, .ref q_700_42, .ref q_700_43, .ref q_700_44, .ref q_700_45, .int 0, .ref q_700_46, .ref q_700_47, .int 0, .long 0])), (q_700_2, .inl (cy 1, 10, .inl (upd (fun _ => 0) 4 2)))] H := hP
  have hD : va_D A [(h_2, .inr (12, [.int 0, .int 0, .ref q_700_1, .int 0, .int 0, .int 0, .int 0, .long 0, .int 0, .int 0, .ref q_700_2, .ref q_700_3, .ref q_700_4, .ref q_700_5, .ref q_700_6, .ref q_700_7, .ref q_700_8, .ref q_700_9, .ref q_700_10, .ref q_700_11, .ref q_700_12, .ref q_700_13, .ref q_700_14, .ref q_700_15, .ref q_700_16, .ref q_700_17, .int 0, .int 0, .ref q_700_18, .ref q_700_19, .ref q_700_20, .ref q_700_21, .ref q_700_22, .ref q_700_23, .ref q_700_24, .ref q_700_25, .ref q_700_26, .ref q_700_27, .ref q_700_28, .ref q_700_29, .int 0, .long 0, .ref q_700_30, .ref q_700_31, .ref q_700_32, .ref q_700_33, .ref q_700_34, .ref q_700_35, .ref q_700_36, .ref q_700_37, .ref q_700_38, .ref q_700_39, .ref q_700_40, .ref q_700_41, .int 0, .int 0, .int 0, .int 0, .ref q_700_42, .ref q_700_43, .ref q_700_44, .ref q_700_45, .int 0, .ref q_700_46, .ref q_700_47, .int 0, .long 0])), (q_700_2, .inl (cy 1, 10, .inl (upd (fun _ => 0) 4 2)))] := hD
  refine lv_if_ne (tgt := 17) hx hb dX12_count_12 (by decide) (fun _ => ?_) (fun c_ => absurd c_ (by decide))
  refine lv_iload_n hx hb dX12_count_17 rfl (lv_at hl 1 rfl) ?_
  refine lv_iconst (v := 3) hx hb dX12_count_18 (by decide) ?_
  refine lv_icmp_ge (tgt := 29) hx hb dX12_count_19 (by decide) (fun c_ => absurd c_ (by decide)) (fun _ => ?_)
  refine lv_aload_n hx hb dX12_count_22 rfl (lv_at hl 0 rfl) ?_
  refine va_get (D := D) (ci := 12) (v := .ref q_700_2) (C := RX12) (T := TX12) (N := 67) hx hb hts (inC ibX12) hown hG.1 hP 0 rfl rfl 10 (by decide) (hg _ k_1325) (fun _ h9 => h9) rfl dX12_count_23 ?_
  refine lv_iload_n hx hb dX12_count_26 rfl (lv_at hl 1 rfl) ?_
  refine m_iald (v := 0) hx hb hG hP 1 rfl (vin (by decide)) dX12_count_27 rfl ?_
  have hP9 := hP.sub (ws' := []) [] rfl
  have hD9 := hD.sub (ws' := []) [] (by decide) rfl
  subst hQ
  exact W.iret (v := 0) hx hb hr (fun t ht hW => qi_mk (by rw [ht]; exact ⟨rfl, hP9, hD9⟩) (hS.F ht)) hS.2.2 dX12_count_28
set_option maxHeartbeats 4000000 in
set_option maxRecDepth 100000 in
theorem c_X11_count_4 (l : Launch) (D : va_G) (cy : Nat → ClassId) (h_1 : Nat) (q_1 : Nat) (q_3 : Nat) (q_4 : Nat) (q_25 : Nat) (q_46 : Nat) (q_50 : Nat) (q_54 : Nat) (q_58 : Nat) (q_62 : Nat) (q_63 : Nat) (q_64 : Nat) (q_67 : Nat) (q_85 : Nat) (q_90 : Nat) (q_93 : Nat) (q1_55 : Nat) (q2_56 : Nat) (q3_57 : Nat) (sz : Nat) : Met l yX11_count (Cond.code yX11_count cX11_count 2 (some .int) :: bigG) ({ frames := 0, cells := 0, slots := 0, locals := 0 }) (pre D cy [.ref h_1, .int 3] sz [(h_1, .inr (11, [.ref q_1, .ref q_3, .ref q_4, .ref q_25, .ref q_46, .ref q_50, .ref q_54, .ref q_58, .ref q_62, .int 0, .int 0, .ref q_63, .ref q_64, .ref q_67, .ref q_85, .ref q_90, .ref q_93])), (q_54, .inr (8, [.int 0, .int 0, .int 0, .ref q1_55, .ref q2_56, .ref q3_57]))]) (qi (fun r h => r = 0 ∧ va_P D vwCl [] h ∧ va_D (va_A [(h_1, .inr (11, [.ref q_1, .ref q_3, .ref q_4, .ref q_25, .ref q_46, .ref q_50, .ref q_54, .ref q_58, .ref q_62, .int 0, .int 0, .ref q_63, .ref q_64, .ref q_67, .ref q_85, .ref q_90, .ref q_93])), (q_54, .inr (8, [.int 0, .int 0, .int 0, .ref q1_55, .ref q2_56, .ref q3_57]))] sz) []) (va_A [(h_1, .inr (11, [.ref q_1, .ref q_3, .ref q_4, .ref q_25, .ref q_46, .ref q_50, .ref q_54, .ref q_58, .ref q_62, .int 0, .int 0, .ref q_63, .ref q_64, .ref q_67, .ref q_85, .ref q_90, .ref q_93])), (q_54, .inr (8, [.int 0, .int 0, .int 0, .ref q1_55, .ref q2_56, .ref q3_57]))] sz)) 0 0 (va_A [(h_1, .inr (11, [.ref q_1, .ref q_3, .ref q_4, .ref q_25, .ref q_46, .ref q_50, .ref q_54, .ref q_58, .ref q_62, .int 0, .int 0, .ref q_63, .ref q_64, .ref q_67, .ref q_85, .ref q_90, .ref q_93])), (q_54, .inr (8, [.int 0, .int 0, .int 0, .ref q1_55, .ref q2_56, .ref q3_57]))] sz) := by
  refine Met.ofW (cc := cX11_count) (maxL := 2) (ret := (some .int)) (by decide) rfl ?_
  intro p e s m args below meth c s₁ B hml hv
  obtain ⟨rfl, hsz, hP, hG, hD0⟩ := hv
  have hx := B.exec
  have hb := B.bytes
  have hr := B.returns
  have hts := atoms_spec (ws := (Cond.code yX11_count cX11_count 2 (some .int) :: bigG)) B.pre
  have hg : ∀ w ∈ bigG, w.before ([.ref h_1, .int 3] : List Value).toArray s = true := fun w h => hts w (List.mem_cons_of_mem _ h)
  have hown : s.vm.findClass RX11 = some m.cls := findClass_of_methodNamed B.named
  have hlocks := B.notSynchronized
  subst hsz
  have hD := hD0.self (sz := s.heap.size)
  generalize hAe : va_A [(h_1, .inr (11, [.ref q_1, .ref q_3, .ref q_4, .ref q_25, .ref q_46, .ref q_50, .ref q_54, .ref q_58, .ref q_62, .int 0, .int 0, .ref q_63, .ref q_64, .ref q_67, .ref q_85, .ref q_90, .ref q_93])), (q_54, .inr (8, [.int 0, .int 0, .int 0, .ref q1_55, .ref q2_56, .ref q3_57]))] s.heap.size = A at hD ⊢
  have hA : ∀ q : Nat, s.heap.size ≤ q → A q := fun q h => by rw [← hAe]; exact Or.inr h
  have hS : va_S A s.heap s.heap [] := va_S.rf
  have hP : va_P D vwCl [(h_1, .inr (11, [.ref q_1, .ref q_3, .ref q_4, .ref q_25, .ref q_46, .ref q_50, .ref q_54, .ref q_58, .ref q_62, .int 0, .int 0, .ref q_63, .ref q_64, .ref q_67, .ref q_85, .ref q_90, .ref q_93])), (q_54, .inr (8, [.int 0, .int 0, .int 0, .ref q1_55, .ref q2_56, .ref q3_57]))] s.heap := hP
  have hl := lv_entry ([.ref h_1, .int 3]) (n := 2) (Nat.le_of_ble_eq_true rfl)
  rw [lg_entry_eq]
  generalize (lg_sl ([.ref h_1, .int 3]) ++ List.replicate (2 - (lg_sl ([.ref h_1, .int 3])).length) Slot.unset).toArray = ls at hl ⊢
  have hl : lv_has ls 2 [(0, .ref h_1), (1, .int 3)] := hl
  refine w_nm (fun Q hQ => ?_)
  refine lv_iload_n hx hb dX11_count_0 rfl (lv_at hl 1 rfl) ?_
  refine lv_tableIn (off := 91) (tgt := 92) hx hb dX11_count_1 (by decide) (by decide) (by decide) (by decide) ?_
  refine lv_aload_n hx hb dX11_count_92 rfl (lv_at hl 0 rfl) ?_
  refine va_get (D := D) (ci := 11) (v := .ref q_54) (C := RX11) (T := TX11) (N := 17) hx hb hts (inC ibX11) hown hG.1 hP 0 rfl rfl 6 (by decide) (hg _ k_426) (fun _ h9 => h9) rfl dX11_count_93 ?_
  refine va_get (D := D) (ci := 8) (v := .int 0) (C := RX8) (T := TX8) (N := 6) hx hb hts (inC ibX8) hown hG.1 hP 1 rfl rfl 0 (by decide) (hg _ k_261) (fun _ h9 => h9) rfl dX11_count_96 ?_
  have hP9 := hP.sub (ws' := []) [] rfl
  have hD9 := hD.sub (ws' := []) [] (by decide) rfl
  subst hQ
  exact W.iret (v := 0) hx hb hr (fun t ht hW => qi_mk (by rw [ht]; exact ⟨rfl, hP9, hD9⟩) (hS.F ht)) hS.2.2 dX11_count_99
set_option maxHeartbeats 4000000 in
set_option maxRecDepth 100000 in
theorem c_X12_within_23 (l : Launch) (D : va_G) (cy : Nat → ClassId) (sz : Nat) : Met l yX12_within (Cond.code yX12_within cX12_within 3 (some .boolean) :: bigG) ({ frames := 0, cells := 0, slots := 0, locals := 0 }) (pre D cy [.int 3, .int 0, .int 12] sz []) (qi (fun r h => r = 1 ∧ va_P D vwCl [] h ∧ va_D (va_A [] sz) []) (va_A [] sz)) 0 0 (va_A [] sz) := by
  refine Met.ofW (cc := cX12_within) (maxL := 3) (ret := (some .boolean)) (by decide) rfl ?_
  intro p e s m args below meth c s₁ B hml hv
  obtain ⟨rfl, hsz, hP, hG, hD0⟩ := hv
  have hx := B.exec
  have hb := B.bytes
  have hr := B.returns
  have hts := atoms_spec (ws := (Cond.code yX12_within cX12_within 3 (some .boolean) :: bigG)) B.pre
  have hg : ∀ w ∈ bigG, w.before ([.int 3, .int 0, .int 12] : List Value).toArray s = true := fun w h => hts w (List.mem_cons_of_mem _ h)
  have hown : s.vm.findClass RX12 = some m.cls := findClass_of_methodNamed B.named
  have hlocks := B.notSynchronized
  subst hsz
  have hD := hD0.self (sz := s.heap.size)
  generalize hAe : va_A [] s.heap.size = A at hD ⊢
  have hA : ∀ q : Nat, s.heap.size ≤ q → A q := fun q h => by rw [← hAe]; exact Or.inr h
  have hS : va_S A s.heap s.heap [] := va_S.rf
  have hP : va_P D vwCl [] s.heap := hP
  have hl := lv_entry ([.int 3, .int 0, .int 12]) (n := 3) (Nat.le_of_ble_eq_true rfl)
  rw [lg_entry_eq]
  generalize (lg_sl ([.int 3, .int 0, .int 12]) ++ List.replicate (3 - (lg_sl ([.int 3, .int 0, .int 12])).length) Slot.unset).toArray = ls at hl ⊢
  have hl : lv_has ls 3 [(0, .int 3), (1, .int 0), (2, .int 12)] := hl
  refine w_nm (fun Q hQ => ?_)
  refine lv_iload_n hx hb dX12_within_0 rfl (lv_at hl 0 rfl) ?_
  refine lv_iload_n hx hb dX12_within_1 rfl (lv_at hl 1 rfl) ?_
  refine lv_icmp_lt (tgt := 14) hx hb dX12_within_2 (by decide) (fun c_ => absurd c_ (by decide)) (fun _ => ?_)
  refine lv_iload_n hx hb dX12_within_5 rfl (lv_at hl 0 rfl) ?_
  refine lv_iload_n hx hb dX12_within_6 rfl (lv_at hl 2 rfl) ?_
  refine lv_icmp_gt (tgt := 14) hx hb dX12_within_7 (by decide) (fun c_ => absurd c_ (by decide)) (fun _ => ?_)
  refine lv_iconst (v := 1) hx hb dX12_within_10 (by decide) ?_
  refine lv_goto (tgt := 15) hx hb dX12_within_11 (by decide) ?_
  have hP9 := hP.sub (ws' := []) [] rfl
  have hD9 := hD.sub (ws' := []) [] (by decide) rfl
  subst hQ
  exact W.zret (v := 1) hx hb hr rfl (fun t ht hW => qi_mk (by rw [ht]; exact ⟨rfl, hP9, hD9⟩) (hS.F ht)) hS.2.2 dX12_within_15
set_option maxHeartbeats 4000000 in
set_option maxRecDepth 100000 in
theorem c_X12_count_4 (l : Launch) (D : va_G) (cy : Nat → ClassId) (h_2 : Nat) (q_700_1 : Nat) (q_700_2 : Nat) (q_700_3 : Nat) (q_700_4 : Nat) (q_700_5 : Nat) (q_700_6 : Nat) (q_700_7 : Nat) (q_700_8 : Nat) (q_700_9 : Nat) (q_700_10 : Nat) (q_700_11 : Nat) (q_700_12 : Nat) (q_700_13 : Nat) (q_700_14 : Nat) (q_700_15 : Nat) (q_700_16 : Nat) (q_700_17 : Nat) (q_700_18 : Nat) (q_700_19 : Nat) (q_700_20 : Nat) (q_700_21 : Nat) (q_700_22 : Nat) (q_700_23 : Nat) (q_700_24 : Nat) (q_700_25 : Nat) (q_700_26 : Nat) (q_700_27 : Nat) (q_700_28 : Nat) (q_700_29 : Nat) (q_700_30 : Nat) (q_700_31 : Nat) (q_700_32 : Nat) (q_700_33 : Nat) (q_700_34 : Nat) (q_700_35 : Nat) (q_700_36 : Nat) (q_700_37 : Nat) (q_700_38 : Nat) (q_700_39 : Nat) (q_700_40 : Nat) (q_700_41 : Nat) (q_700_42 : Nat) (q_700_43 : Nat) (q_700_44 : Nat) (q_700_45 : Nat) (q_700_46 : Nat) (q_700_47 : Nat) (sz : Nat) : Met l yX12_count (Cond.code yX12_count cX12_count 2 (some .int) :: bigG) ({ frames := 1, cells := 0, slots := 0, locals := 22 }) (pre D cy [.ref h_2, .int 3] sz [(h_2, .inr (12, [.int 0, .int 0, .ref q_700_1, .int 0, .int 0, .int 0, .int 0, .long 0, .int 0, .int 0, .ref q_700_2, .ref q_700_3, .ref q_700_4, .ref q_700_5, .ref q_700_6, .ref q_700_7, .ref q_700_8, .ref q_700_9, .ref q_700_10, .ref q_700_11, .ref q_700_12, .ref q_700_13, .ref q_700_14, .ref q_700_15, .ref q_700_16, .ref q_700_17, .int 0, .int 0, .ref q_700_18, .ref q_700_19, .ref q_700_20, .ref q_700_21, .ref q_700_22, .ref q_700_23, .ref q_700_24, .ref q_700_25, .ref q_700_26, .ref q_700_27, .ref q_700_28, .ref q_700_29, .int 0, .long 0, .ref q_700_30, .ref q_700_31, .ref q_700_32, .ref q_700_33, .ref q_700_34, .ref q_700_35, .ref q_700_36, .ref q_700_37, .ref q_700_38, .ref q_700_39, .ref q_700_40, .ref q_700_41, .int 0, .int 0, .int 0, .int 0, .ref q_700_42, .ref q_700_43, .ref q_700_44, .ref q_700_45, .int 0, .ref q_700_46, .ref q_700_47, .int 0, .long 0])), (q_700_36, .inl (cy 1, 21, .inl (upd (upd (upd (upd (upd (upd (fun _ => 0) 9 (-1)) 10 (-1)) 11 (-1)) 12 (-1)) 13 (-1)) 14 (-1))))]) (qi (fun r h => r = 0 ∧ va_P D vwCl [] h ∧ va_D (va_A [(h_2, .inr (12, [.int 0, .int 0, .ref q_700_1, .int 0, .int 0, .int 0, .int 0, .long 0, .int 0, .int 0, .ref q_700_2, .ref q_700_3, .ref q_700_4, .ref q_700_5, .ref q_700_6, .ref q_700_7, .ref q_700_8, .ref q_700_9, .ref q_700_10, .ref q_700_11, .ref q_700_12, .ref q_700_13, .ref q_700_14, .ref q_700_15, .ref q_700_16, .ref q_700_17, .int 0, .int 0, .ref q_700_18, .ref q_700_19, .ref q_700_20, .ref q_700_21, .ref q_700_22, .ref q_700_23, .ref q_700_24, .ref q_700_25, .ref q_700_26, .ref q_700_27, .ref q_700_28, .ref q_700_29, .int 0, .long 0, .ref q_700_30, .ref q_700_31, .ref q_700_32, .ref q_700_33, .ref q_700_34, .ref q_700_35, .ref q_700_36, .ref q_700_37, .ref q_700_38, .ref q_700_39, .ref q_700_40, .ref q_700_41, .int 0, .int 0, .int 0, .int 0, .ref q_700_42, .ref q_700_43, .ref q_700_44, .ref q_700_45, .int 0, .ref q_700_46, .ref q_700_47, .int 0, .long 0])), (q_700_36, .inl (cy 1, 21, .inl (upd (upd (upd (upd (upd (upd (fun _ => 0) 9 (-1)) 10 (-1)) 11 (-1)) 12 (-1)) 13 (-1)) 14 (-1))))] sz) []) (va_A [(h_2, .inr (12, [.int 0, .int 0, .ref q_700_1, .int 0, .int 0, .int 0, .int 0, .long 0, .int 0, .int 0, .ref q_700_2, .ref q_700_3, .ref q_700_4, .ref q_700_5, .ref q_700_6, .ref q_700_7, .ref q_700_8, .ref q_700_9, .ref q_700_10, .ref q_700_11, .ref q_700_12, .ref q_700_13, .ref q_700_14, .ref q_700_15, .ref q_700_16, .ref q_700_17, .int 0, .int 0, .ref q_700_18, .ref q_700_19, .ref q_700_20, .ref q_700_21, .ref q_700_22, .ref q_700_23, .ref q_700_24, .ref q_700_25, .ref q_700_26, .ref q_700_27, .ref q_700_28, .ref q_700_29, .int 0, .long 0, .ref q_700_30, .ref q_700_31, .ref q_700_32, .ref q_700_33, .ref q_700_34, .ref q_700_35, .ref q_700_36, .ref q_700_37, .ref q_700_38, .ref q_700_39, .ref q_700_40, .ref q_700_41, .int 0, .int 0, .int 0, .int 0, .ref q_700_42, .ref q_700_43, .ref q_700_44, .ref q_700_45, .int 0, .ref q_700_46, .ref q_700_47, .int 0, .long 0])), (q_700_36, .inl (cy 1, 21, .inl (upd (upd (upd (upd (upd (upd (fun _ => 0) 9 (-1)) 10 (-1)) 11 (-1)) 12 (-1)) 13 (-1)) 14 (-1))))] sz)) 0 0 (va_A [(h_2, .inr (12, [.int 0, .int 0, .ref q_700_1, .int 0, .int 0, .int 0, .int 0, .long 0, .int 0, .int 0, .ref q_700_2, .ref q_700_3, .ref q_700_4, .ref q_700_5, .ref q_700_6, .ref q_700_7, .ref q_700_8, .ref q_700_9, .ref q_700_10, .ref q_700_11, .ref q_700_12, .ref q_700_13, .ref q_700_14, .ref q_700_15, .ref q_700_16, .ref q_700_17, .int 0, .int 0, .ref q_700_18, .ref q_700_19, .ref q_700_20, .ref q_700_21, .ref q_700_22, .ref q_700_23, .ref q_700_24, .ref q_700_25, .ref q_700_26, .ref q_700_27, .ref q_700_28, .ref q_700_29, .int 0, .long 0, .ref q_700_30, .ref q_700_31, .ref q_700_32, .ref q_700_33, .ref q_700_34, .ref q_700_35, .ref q_700_36, .ref q_700_37, .ref q_700_38, .ref q_700_39, .ref q_700_40, .ref q_700_41, .int 0, .int 0, .int 0, .int 0, .ref q_700_42, .ref q_700_43, .ref q_700_44, .ref q_700_45, .int 0, .ref q_700_46, .ref q_700_47, .int 0, .long 0])), (q_700_36, .inl (cy 1, 21, .inl (upd (upd (upd (upd (upd (upd (fun _ => 0) 9 (-1)) 10 (-1)) 11 (-1)) 12 (-1)) 13 (-1)) 14 (-1))))] sz) := by
  refine Met.ofW (cc := cX12_count) (maxL := 2) (ret := (some .int)) (by decide) rfl ?_
  intro p e s m args below meth c s₁ B hml hv
  obtain ⟨rfl, hsz, hP, hG, hD0⟩ := hv
  have hx := B.exec
  have hb := B.bytes
  have hr := B.returns
  have hts := atoms_spec (ws := (Cond.code yX12_count cX12_count 2 (some .int) :: bigG)) B.pre
  have hg : ∀ w ∈ bigG, w.before ([.ref h_2, .int 3] : List Value).toArray s = true := fun w h => hts w (List.mem_cons_of_mem _ h)
  have hown : s.vm.findClass RX12 = some m.cls := findClass_of_methodNamed B.named
  have hlocks := B.notSynchronized
  subst hsz
  have hD := hD0.self (sz := s.heap.size)
  generalize hAe : va_A [(h_2, .inr (12, [.int 0, .int 0, .ref q_700_1, .int 0, .int 0, .int 0, .int 0, .long 0, .int 0, .int 0, .ref q_700_2, .ref q_700_3, .ref q_700_4, .ref q_700_5, .ref q_700_6, .ref q_700_7, .ref q_700_8, .ref q_700_9, .ref q_700_10, .ref q_700_11, .ref q_700_12, .ref q_700_13, .ref q_700_14, .ref q_700_15, .ref q_700_16, .ref q_700_17, .int 0, .int 0, .ref q_700_18, .ref q_700_19, .ref q_700_20, .ref q_700_21, .ref q_700_22, .ref q_700_23, .ref q_700_24, .ref q_700_25, .ref q_700_26, .ref q_700_27, .ref q_700_28, .ref q_700_29, .int 0, .long 0, .ref q_700_30, .ref q_700_31, .ref q_700_32, .ref q_700_33, .ref q_700_34, .ref q_700_35, .ref q_700_36, .ref q_700_37, .ref q_700_38, .ref q_700_39, .ref q_700_40, .ref q_700_41, .int 0, .int 0, .int 0, .int 0, .ref q_700_42, .ref q_700_43, .ref q_700_44, .ref q_700_45, .int 0, .ref q_700_46, .ref q_700_47, .int 0, .long 0])), (q_700_36, .inl (cy 1, 21, .inl (upd (upd (upd (upd (upd (upd (fun _ => 0) 9 (-1)) 10 (-1)) 11 (-1)) 12 (-1)) 13 (-1)) 14 (-1))))] s.heap.size = A at hD ⊢
  have hA : ∀ q : Nat, s.heap.size ≤ q → A q := fun q h => by rw [← hAe]; exact Or.inr h
  have hS : va_S A s.heap s.heap [] := va_S.rf
  have hP : va_P D vwCl [(h_2, .inr (12, [.int 0, .int 0, .ref q_700_1, .int 0, .int 0, .int 0, .int 0, .long 0, .int 0, .int 0, .ref q_700_2, .ref q_700_3, .ref q_700_4, .ref q_700_5, .ref q_700_6, .ref q_700_7, .ref q_700_8, .ref q_700_9, .ref q_700_10, .ref q_700_11, .ref q_700_12, .ref q_700_13, .ref q_700_14, .ref q_700_15, .ref q_700_16, .ref q_700_17, .int 0, .int 0, .ref q_700_18, .ref q_700_19, .ref q_700_20, .ref q_700_21, .ref q_700_22, .ref q_700_23, .ref q_700_24, .ref q_700_25, .ref q_700_26, .ref q_700_27, .ref q_700_28, .ref q_700_29, .int 0, .long 0, .ref q_700_30, .ref q_700_31, .ref q_700_32, .ref q_700_33, .ref q_700_34, .ref q_700_35, .ref q_700_36, .ref q_700_37, .ref q_700_38, .ref q_700_39, .ref q_700_40, .ref q_700_41, .int 0, .int 0, .int 0, .int 0, .ref q_700_42, .ref q_700_43, .ref q_700_44, .ref q_700_45, .int 0, .ref q_700_46, .ref q_700_47, .int 0, .long 0])), (q_700_36, .inl (cy 1, 21, .inl (upd (upd (upd (upd (upd (upd (fun _ => 0) 9 (-1)) 10 (-1)) 11 (-1)) 12 (-1)) 13 (-1)) 14 (-1))))] s.heap := hP
  have hl := lv_entry ([.ref h_2, .int 3]) (n := 2) (Nat.le_of_ble_eq_true rfl)
  rw [lg_entry_eq]
  generalize (lg_sl ([.ref h_2, .int 3]) ++ List.replicate (2 - (lg_sl ([.ref h_2, .int 3])).length) Slot.unset).toArray = ls at hl ⊢
  have hl : lv_has ls 2 [(0, .ref h_2), (1, .int 3)] := hl
  refine w_nm (fun Q hQ => ?_)
  refine lv_aload_n hx hb dX12_count_0 rfl (lv_at hl 0 rfl) ?_
  refine lv_iconst (v := 0) hx hb dX12_count_1 (by decide) ?_
  refine va_put (D := D) (ci := 12) (v := .int 0) (ty := .int) (C := RX12) (T := TX12) (N := 67) hx hb hts (inC ibX12) tyX12 tyX12_ok nmX12 hown hG.1 hP hD hS 0 rfl rfl 0 (by decide) (hg _ k_1315) (fun _ h9 => h9) rfl (by decide +kernel) rfl rfl (Nat.le_of_ble_eq_true rfl) dX12_count_2 (fun H locs hP hD hS => ?_)
  have hP : va_P D vwCl [(h_2, .inr (12, [.int 0, .int 0, .ref q_700_1, .int 0, .int 0, .int 0, .int 0, .long 0, .int 0, .int 0, .ref q_700_2, .ref q_700_3, .ref q_700_4, .ref q_700_5, .ref q_700_6, .ref q_700_7, .ref q_700_8, .ref q_700_9, .ref q_700_10, .ref q_700_11, .ref q_700_12, .ref q_700_13, .ref q_700_14, .ref q_700_15, .ref q_700_16, .ref q_700_17, .int 0, .int 0, .ref q_700_18, .ref q_700_19, .ref q_700_20, .ref q_700_21, .ref q_700_22, .ref q_700_23, .ref q_700_24, .ref q_700_25, .ref q_700_26, .ref q_700_27, .ref q_700_28, .ref q_700_29, .int 0, .long 0, .ref q_700_30, .ref q_700_31, .ref q_700_32, .ref q_700_33, .ref q_700_34, .ref q_700_35, .ref q_700_36, .ref q_700_37, .ref q_700_38, .ref q_700_39, .ref q_700_40, .ref q_700_41, .int 0, .int 0, .int 0, .int 0, .ref q_700_42, .ref q_700_43, .ref q_700_44, .ref q_700_45, .int 0, .ref q_700_46, .ref q_700_47, .int 0, .long 0])), (q_700_36, .inl (cy 1, 21, .inl (upd (upd (upd (upd (upd (upd (fun _ => 0) 9 (-1)) 10 (-1)) 11 (-1)) 12 (-1)) 13 (-1)) 14 (-1))))] H := hP
  have hD : va_D A [(h_2, .inr (12, [.int 0, .int 0, .ref q_700_1, .int 0, .int 0, .int 0, .int 0, .long 0, .int 0, .int 0, .ref q_700_2, .ref q_700_3, .ref q_700_4, .ref q_700_5, .ref q_700_6, .ref q_700_7, .ref q_700_8, .ref q_700_9, .ref q_700_10, .ref q_700_11, .ref q_700_12, .ref q_700_13, .ref q_700_14, .ref q_700_15, .ref q_700_16, .ref q_700_17, .int 0, .int 0, .ref q_700_18, .ref q_700_19, .ref q_700_20, .ref q_700_21, .ref q_700_22, .ref q_700_23, .ref q_700_24, .ref q_700_25, .ref q_700_26, .ref q_700_27, .ref q_700_28, .ref q_700_29, .int 0, .long 0, .ref q_700_30, .ref q_700_31, .ref q_700_32, .ref q_700_33, .ref q_700_34, .ref q_700_35, .ref q_700_36, .ref q_700_37, .ref q_700_38, .ref q_700_39, .ref q_700_40, .ref q_700_41, .int 0, .int 0, .int 0, .int 0, .ref q_700_42, .ref q_700_43, .ref q_700_44, .ref q_700_45, .int 0, .ref q_700_46, .ref q_700_47, .int 0, .long 0])), (q_700_36, .inl (cy 1, 21, .inl (upd (upd (upd (upd (upd (upd (fun _ => 0) 9 (-1)) 10 (-1)) 11 (-1)) 12 (-1)) 13 (-1)) 14 (-1))))] := hD
  refine lv_iload_n hx hb dX12_count_5 rfl (lv_at hl 1 rfl) ?_
  refine lv_iconst (v := 0) hx hb dX12_count_6 (by decide) ?_
  refine lv_bipush (v := 12) hx hb dX12_count_7 (by decide) ?_
  refine x_i (wr := [(h_2, .inr (12, [.int 0, .int 0, .ref q_700_1, .int 0, .int 0, .int 0, .int 0, .long 0, .int 0, .int 0, .ref q_700_2, .ref q_700_3, .ref q_700_4, .ref q_700_5, .ref q_700_6, .ref q_700_7, .ref q_700_8, .ref q_700_9, .ref q_700_10, .ref q_700_11, .ref q_700_12, .ref q_700_13, .ref q_700_14, .ref q_700_15, .ref q_700_16, .ref q_700_17, .int 0, .int 0, .ref q_700_18, .ref q_700_19, .ref q_700_20, .ref q_700_21, .ref q_700_22, .ref q_700_23, .ref q_700_24, .ref q_700_25, .ref q_700_26, .ref q_700_27, .ref q_700_28, .ref q_700_29, .int 0, .long 0, .ref q_700_30, .ref q_700_31, .ref q_700_32, .ref q_700_33, .ref q_700_34, .ref q_700_35, .ref q_700_36, .ref q_700_37, .ref q_700_38, .ref q_700_39, .ref q_700_40, .ref q_700_41, .int 0, .int 0, .int 0, .int 0, .ref q_700_42, .ref q_700_43, .ref q_700_44, .ref q_700_45, .int 0, .ref q_700_46, .ref q_700_47, .int 0, .long 0])), (q_700_36, .inl (cy 1, 21, .inl (upd (upd (upd (upd (upd (upd (fun _ => 0) 9 (-1)) 10 (-1)) 11 (-1)) 12 (-1)) 13 (-1)) 14 (-1))))]) hP hD hS hA [] [0, 1] rfl rfl (by decide) (by decide) (va_runS (As := [.int 3, .int 0, .int 12]) (rest := []) ⟨hx, hb, hml, hown, hts⟩ (c_X12_within_23 l D cy  H.size) (va_cwS 3 hts (gS km_X12_293 kt_X12_within kn_X12 kc_X12_within) rfl rfl rfl (by decide +kernel) ⟨(Nat.le_of_ble_eq_true rfl), (Nat.le_of_ble_eq_true rfl)⟩) (preS hG hP hD [] rfl (by decide)) rfl rfl hl.1 rfl (lv_room (Nat.le_of_ble_eq_true rfl)) dX12_count_9 ⟨(Nat.le_of_ble_eq_true rfl), (Nat.le_of_ble_eq_true rfl)⟩) (fun r_1 H locs hB hj hS => ?_)
  obtain ⟨hres, hP1, hD1⟩ := hB
  subst hres
  obtain ⟨hP, hD⟩ := hj _ hP1 hD1
  have hP : va_P D vwCl [(h_2, .inr (12, [.int 0, .int 0, .ref q_700_1, .int 0, .int 0, .int 0, .int 0, .long 0, .int 0, .int 0, .ref q_700_2, .ref q_700_3, .ref q_700_4, .ref q_700_5, .ref q_700_6, .ref q_700_7, .ref q_700_8, .ref q_700_9, .ref q_700_10, .ref q_700_11, .ref q_700_12, .ref q_700_13, .ref q_700_14, .ref q_700_15, .ref q_700_16, .ref q_700_17, .int 0, .int 0, .ref q_700_18, .ref q_700_19, .ref q_700_20, .ref q_700_21, .ref q_700_22, .ref q_700_23, .ref q_700_24, .ref q_700_25, .ref q_700_26, .ref q_700_27, .ref q_700_28, .ref q_700_29, .int 0, .long 0, .ref q_700_30, .ref q_700_31, .ref q_700_32, .ref q_700_33, .ref q_700_34, .ref q_700_35, .ref q_700_36, .ref q_700_37, .ref q_700_38, .ref q_700_39, .ref q_700_40, .ref q_700_41, .int 0, .int 0, .int 0, .int 0, .ref q_700_42, .ref q_700_43, .ref q_700_44, .ref q_700_45, .int 0, .ref q_700_46, .ref q_700_47, .int 0, .long 0])), (q_700_36, .inl (cy 1, 21, .inl (upd (upd (upd (upd (upd (upd (fun _ => 0) 9 (-1)) 10 (-1)) 11 (-1)) 12 (-1)) 13 (-1)) 14 (-1))))] H := hP
  have hD : va_D A [(h_2, .inr (12, [.int 0, .int 0, .ref q_700_1, .int 0, .int 0, .int 0, .int 0, .long 0, .int 0, .int 0, .ref q_700_2, .ref q_700_3, .ref q_700_4, .ref q_700_5, .ref q_700_6, .ref q_700_7, .ref q_700_8, .ref q_700_9, .ref q_700_10, .ref q_700_11, .ref q_700_12, .ref q_700_13, .ref q_700_14, .ref q_700_15, .ref q_700_16, .ref q_700_17, .int 0, .int 0, .ref q_700_18, .ref q_700_19, .ref q_700_20, .ref q_700_21, .ref q_700_22, .ref q_700_23, .ref q_700_24, .ref q_700_25, .ref q_700_26, .ref q_700_27, .ref q_700_28, .ref q_700_29, .int 0, .long 0, .ref q_700_30, .ref q_700_31, .ref q_700_32, .ref q_700_33, .ref q_700_34, .ref q_700_35, .ref q_700_36, .ref q_700_37, .ref q_700_38, .ref q_700_39, .ref q_700_40, .ref q_700_41, .int 0, .int 0, .int 0, .int 0, .ref q_700_42, .ref q_700_43, .ref q_700_44, .ref q_700_45, .int 0, .ref q_700_46, .ref q_700_47, .int 0, .long 0])), (q_700_36, .inl (cy 1, 21, .inl (upd (upd (upd (upd (upd (upd (fun _ => 0) 9 (-1)) 10 (-1)) 11 (-1)) 12 (-1)) 13 (-1)) 14 (-1))))] := hD
  refine lv_if_ne (tgt := 17) hx hb dX12_count_12 (by decide) (fun _ => ?_) (fun c_ => absurd c_ (by decide))
  refine lv_iload_n hx hb dX12_count_17 rfl (lv_at hl 1 rfl) ?_
  refine lv_iconst (v := 3) hx hb dX12_count_18 (by decide) ?_
  refine lv_icmp_ge (tgt := 29) hx hb dX12_count_19 (by decide) (fun _ => ?_) (fun c_ => absurd (by decide) c_)
  refine lv_iload_n hx hb dX12_count_29 rfl (lv_at hl 1 rfl) ?_
  refine lv_bipush (v := 6) hx hb dX12_count_30 (by decide) ?_
  refine lv_icmp_ge (tgt := 68) hx hb dX12_count_32 (by decide) (fun c_ => absurd c_ (by decide)) (fun _ => ?_)
  refine lv_iload_n hx hb dX12_count_35 rfl (lv_at hl 1 rfl) ?_
  refine lv_iconst (v := 3) hx hb dX12_count_36 (by decide) ?_
  refine lv_icmp_ne (tgt := 49) hx hb dX12_count_37 (by decide) (fun c_ => absurd rfl c_) (fun _ => ?_)
  refine lv_aload_n hx hb dX12_count_40 rfl (lv_at hl 0 rfl) ?_
  refine va_get (D := D) (ci := 12) (v := .ref q_700_36) (C := RX12) (T := TX12) (N := 67) hx hb hts (inC ibX12) hown hG.1 hP 0 rfl rfl 48 (by decide) (hg _ k_1363) (fun _ h9 => h9) rfl dX12_count_41 ?_
  refine lv_iconst (v := 0) hx hb dX12_count_44 (by decide) ?_
  refine m_iald (v := 0) hx hb hG hP 1 rfl (vin (by decide)) dX12_count_45 rfl ?_
  refine lv_goto (tgt := 67) hx hb dX12_count_46 (by decide) ?_
  have hP9 := hP.sub (ws' := []) [] rfl
  have hD9 := hD.sub (ws' := []) [] (by decide) rfl
  subst hQ
  exact W.iret (v := 0) hx hb hr (fun t ht hW => qi_mk (by rw [ht]; exact ⟨rfl, hP9, hD9⟩) (hS.F ht)) hS.2.2 dX12_count_67
set_option maxHeartbeats 4000000 in
set_option maxRecDepth 100000 in
theorem c_X11_count_5 (l : Launch) (D : va_G) (cy : Nat → ClassId) (h_1 : Nat) (q_1 : Nat) (q_3 : Nat) (q_4 : Nat) (q_25 : Nat) (q_46 : Nat) (q_50 : Nat) (q_54 : Nat) (q_58 : Nat) (q_62 : Nat) (q_63 : Nat) (q_64 : Nat) (q_67 : Nat) (q_85 : Nat) (q_90 : Nat) (q_93 : Nat) (q1_55 : Nat) (q2_56 : Nat) (q3_57 : Nat) (sz : Nat) : Met l yX11_count (Cond.code yX11_count cX11_count 2 (some .int) :: bigG) ({ frames := 0, cells := 0, slots := 0, locals := 0 }) (pre D cy [.ref h_1, .int 4] sz [(h_1, .inr (11, [.ref q_1, .ref q_3, .ref q_4, .ref q_25, .ref q_46, .ref q_50, .ref q_54, .ref q_58, .ref q_62, .int 0, .int 0, .ref q_63, .ref q_64, .ref q_67, .ref q_85, .ref q_90, .ref q_93])), (q_54, .inr (8, [.int 0, .int 0, .int 0, .ref q1_55, .ref q2_56, .ref q3_57]))]) (qi (fun r h => r = 0 ∧ va_P D vwCl [] h ∧ va_D (va_A [(h_1, .inr (11, [.ref q_1, .ref q_3, .ref q_4, .ref q_25, .ref q_46, .ref q_50, .ref q_54, .ref q_58, .ref q_62, .int 0, .int 0, .ref q_63, .ref q_64, .ref q_67, .ref q_85, .ref q_90, .ref q_93])), (q_54, .inr (8, [.int 0, .int 0, .int 0, .ref q1_55, .ref q2_56, .ref q3_57]))] sz) []) (va_A [(h_1, .inr (11, [.ref q_1, .ref q_3, .ref q_4, .ref q_25, .ref q_46, .ref q_50, .ref q_54, .ref q_58, .ref q_62, .int 0, .int 0, .ref q_63, .ref q_64, .ref q_67, .ref q_85, .ref q_90, .ref q_93])), (q_54, .inr (8, [.int 0, .int 0, .int 0, .ref q1_55, .ref q2_56, .ref q3_57]))] sz)) 0 0 (va_A [(h_1, .inr (11, [.ref q_1, .ref q_3, .ref q_4, .ref q_25, .ref q_46, .ref q_50, .ref q_54, .ref q_58, .ref q_62, .int 0, .int 0, .ref q_63, .ref q_64, .ref q_67, .ref q_85, .ref q_90, .ref q_93])), (q_54, .inr (8, [.int 0, .int 0, .int 0, .ref q1_55, .ref q2_56, .ref q3_57]))] sz) := by
  refine Met.ofW (cc := cX11_count) (maxL := 2) (ret := (some .int)) (by decide) rfl ?_
  intro p e s m args below meth c s₁ B hml hv
  obtain ⟨rfl, hsz, hP, hG, hD0⟩ := hv
  have hx := B.exec
  have hb := B.bytes
  have hr := B.returns
  have hts := atoms_spec (ws := (Cond.code yX11_count cX11_count 2 (some .int) :: bigG)) B.pre
  have hg : ∀ w ∈ bigG, w.before ([.ref h_1, .int 4] : List Value).toArray s = true := fun w h => hts w (List.mem_cons_of_mem _ h)
  have hown : s.vm.findClass RX11 = some m.cls := findClass_of_methodNamed B.named
  have hlocks := B.notSynchronized
  subst hsz
  have hD := hD0.self (sz := s.heap.size)
  generalize hAe : va_A [(h_1, .inr (11, [.ref q_1, .ref q_3, .ref q_4, .ref q_25, .ref q_46, .ref q_50, .ref q_54, .ref q_58, .ref q_62, .int 0, .int 0, .ref q_63, .ref q_64, .ref q_67, .ref q_85, .ref q_90, .ref q_93])), (q_54, .inr (8, [.int 0, .int 0, .int 0, .ref q1_55, .ref q2_56, .ref q3_57]))] s.heap.size = A at hD ⊢
  have hA : ∀ q : Nat, s.heap.size ≤ q → A q := fun q h => by rw [← hAe]; exact Or.inr h
  have hS : va_S A s.heap s.heap [] := va_S.rf
  have hP : va_P D vwCl [(h_1, .inr (11, [.ref q_1, .ref q_3, .ref q_4, .ref q_25, .ref q_46, .ref q_50, .ref q_54, .ref q_58, .ref q_62, .int 0, .int 0, .ref q_63, .ref q_64, .ref q_67, .ref q_85, .ref q_90, .ref q_93])), (q_54, .inr (8, [.int 0, .int 0, .int 0, .ref q1_55, .ref q2_56, .ref q3_57]))] s.heap := hP
  have hl := lv_entry ([.ref h_1, .int 4]) (n := 2) (Nat.le_of_ble_eq_true rfl)
  rw [lg_entry_eq]
  generalize (lg_sl ([.ref h_1, .int 4]) ++ List.replicate (2 - (lg_sl ([.ref h_1, .int 4])).length) Slot.unset).toArray = ls at hl ⊢
  have hl : lv_has ls 2 [(0, .ref h_1), (1, .int 4)] := hl
  refine w_nm (fun Q hQ => ?_)
  refine lv_iload_n hx hb dX11_count_0 rfl (lv_at hl 1 rfl) ?_
  refine lv_tableIn (off := 99) (tgt := 100) hx hb dX11_count_1 (by decide) (by decide) (by decide) (by decide) ?_
  refine lv_aload_n hx hb dX11_count_100 rfl (lv_at hl 0 rfl) ?_
  refine va_get (D := D) (ci := 11) (v := .ref q_54) (C := RX11) (T := TX11) (N := 17) hx hb hts (inC ibX11) hown hG.1 hP 0 rfl rfl 6 (by decide) (hg _ k_426) (fun _ h9 => h9) rfl dX11_count_101 ?_
  refine va_get (D := D) (ci := 8) (v := .int 0) (C := RX8) (T := TX8) (N := 6) hx hb hts (inC ibX8) hown hG.1 hP 1 rfl rfl 1 (by decide) (hg _ k_263) (fun _ h9 => h9) rfl dX11_count_104 ?_
  have hP9 := hP.sub (ws' := []) [] rfl
  have hD9 := hD.sub (ws' := []) [] (by decide) rfl
  subst hQ
  exact W.iret (v := 0) hx hb hr (fun t ht hW => qi_mk (by rw [ht]; exact ⟨rfl, hP9, hD9⟩) (hS.F ht)) hS.2.2 dX11_count_107
set_option maxHeartbeats 4000000 in
set_option maxRecDepth 100000 in
theorem c_X12_within_24 (l : Launch) (D : va_G) (cy : Nat → ClassId) (sz : Nat) : Met l yX12_within (Cond.code yX12_within cX12_within 3 (some .boolean) :: bigG) ({ frames := 0, cells := 0, slots := 0, locals := 0 }) (pre D cy [.int 4, .int 0, .int 12] sz []) (qi (fun r h => r = 1 ∧ va_P D vwCl [] h ∧ va_D (va_A [] sz) []) (va_A [] sz)) 0 0 (va_A [] sz) := by
  refine Met.ofW (cc := cX12_within) (maxL := 3) (ret := (some .boolean)) (by decide) rfl ?_
  intro p e s m args below meth c s₁ B hml hv
  obtain ⟨rfl, hsz, hP, hG, hD0⟩ := hv
  have hx := B.exec
  have hb := B.bytes
  have hr := B.returns
  have hts := atoms_spec (ws := (Cond.code yX12_within cX12_within 3 (some .boolean) :: bigG)) B.pre
  have hg : ∀ w ∈ bigG, w.before ([.int 4, .int 0, .int 12] : List Value).toArray s = true := fun w h => hts w (List.mem_cons_of_mem _ h)
  have hown : s.vm.findClass RX12 = some m.cls := findClass_of_methodNamed B.named
  have hlocks := B.notSynchronized
  subst hsz
  have hD := hD0.self (sz := s.heap.size)
  generalize hAe : va_A [] s.heap.size = A at hD ⊢
  have hA : ∀ q : Nat, s.heap.size ≤ q → A q := fun q h => by rw [← hAe]; exact Or.inr h
  have hS : va_S A s.heap s.heap [] := va_S.rf
  have hP : va_P D vwCl [] s.heap := hP
  have hl := lv_entry ([.int 4, .int 0, .int 12]) (n := 3) (Nat.le_of_ble_eq_true rfl)
  rw [lg_entry_eq]
  generalize (lg_sl ([.int 4, .int 0, .int 12]) ++ List.replicate (3 - (lg_sl ([.int 4, .int 0, .int 12])).length) Slot.unset).toArray = ls at hl ⊢
  have hl : lv_has ls 3 [(0, .int 4), (1, .int 0), (2, .int 12)] := hl
  refine w_nm (fun Q hQ => ?_)
  refine lv_iload_n hx hb dX12_within_0 rfl (lv_at hl 0 rfl) ?_
  refine lv_iload_n hx hb dX12_within_1 rfl (lv_at hl 1 rfl) ?_
  refine lv_icmp_lt (tgt := 14) hx hb dX12_within_2 (by decide) (fun c_ => absurd c_ (by decide)) (fun _ => ?_)
  refine lv_iload_n hx hb dX12_within_5 rfl (lv_at hl 0 rfl) ?_
  refine lv_iload_n hx hb dX12_within_6 rfl (lv_at hl 2 rfl) ?_
  refine lv_icmp_gt (tgt := 14) hx hb dX12_within_7 (by decide) (fun c_ => absurd c_ (by decide)) (fun _ => ?_)
  refine lv_iconst (v := 1) hx hb dX12_within_10 (by decide) ?_
  refine lv_goto (tgt := 15) hx hb dX12_within_11 (by decide) ?_
  have hP9 := hP.sub (ws' := []) [] rfl
  have hD9 := hD.sub (ws' := []) [] (by decide) rfl
  subst hQ
  exact W.zret (v := 1) hx hb hr rfl (fun t ht hW => qi_mk (by rw [ht]; exact ⟨rfl, hP9, hD9⟩) (hS.F ht)) hS.2.2 dX12_within_15
set_option maxHeartbeats 4000000 in
set_option maxRecDepth 100000 in
theorem c_X12_count_5 (l : Launch) (D : va_G) (cy : Nat → ClassId) (h_2 : Nat) (q_700_1 : Nat) (q_700_2 : Nat) (q_700_3 : Nat) (q_700_4 : Nat) (q_700_5 : Nat) (q_700_6 : Nat) (q_700_7 : Nat) (q_700_8 : Nat) (q_700_9 : Nat) (q_700_10 : Nat) (q_700_11 : Nat) (q_700_12 : Nat) (q_700_13 : Nat) (q_700_14 : Nat) (q_700_15 : Nat) (q_700_16 : Nat) (q_700_17 : Nat) (q_700_18 : Nat) (q_700_19 : Nat) (q_700_20 : Nat) (q_700_21 : Nat) (q_700_22 : Nat) (q_700_23 : Nat) (q_700_24 : Nat) (q_700_25 : Nat) (q_700_26 : Nat) (q_700_27 : Nat) (q_700_28 : Nat) (q_700_29 : Nat) (q_700_30 : Nat) (q_700_31 : Nat) (q_700_32 : Nat) (q_700_33 : Nat) (q_700_34 : Nat) (q_700_35 : Nat) (q_700_36 : Nat) (q_700_37 : Nat) (q_700_38 : Nat) (q_700_39 : Nat) (q_700_40 : Nat) (q_700_41 : Nat) (q_700_42 : Nat) (q_700_43 : Nat) (q_700_44 : Nat) (q_700_45 : Nat) (q_700_46 : Nat) (q_700_47 : Nat) (sz : Nat) : Met l yX12_count (Cond.code yX12_count cX12_count 2 (some .int) :: bigG) ({ frames := 1, cells := 0, slots := 0, locals := 22 }) (pre D cy [.ref h_2, .int 4] sz [(h_2, .inr (12, [.int 0, .int 0, .ref q_700_1, .int 0, .int 0, .int 0, .int 0, .long 0, .int 0, .int 0, .ref q_700_2, .ref q_700_3, .ref q_700_4, .ref q_700_5, .ref q_700_6, .ref q_700_7, .ref q_700_8, .ref q_700_9, .ref q_700_10, .ref q_700_11, .ref q_700_12, .ref q_700_13, .ref q_700_14, .ref q_700_15, .ref q_700_16, .ref q_700_17, .int 0, .int 0, .ref q_700_18, .ref q_700_19, .ref q_700_20, .ref q_700_21, .ref q_700_22, .ref q_700_23, .ref q_700_24, .ref q_700_25, .ref q_700_26, .ref q_700_27, .ref q_700_28, .ref q_700_29, .int 0, .long 0, .ref q_700_30, .ref q_700_31, .ref q_700_32, .ref q_700_33, .ref q_700_34, .ref q_700_35, .ref q_700_36, .ref q_700_37, .ref q_700_38, .ref q_700_39, .ref q_700_40, .ref q_700_41, .int 0, .int 0, .int 0, .int 0, .ref q_700_42, .ref q_700_43, .ref q_700_44, .ref q_700_45, .int 0, .ref q_700_46, .ref q_700_47, .int 0, .long 0])), (q_700_36, .inl (cy 1, 21, .inl (upd (upd (upd (upd (upd (upd (fun _ => 0) 9 (-1)) 10 (-1)) 11 (-1)) 12 (-1)) 13 (-1)) 14 (-1))))]) (qi (fun r h => r = 0 ∧ va_P D vwCl [] h ∧ va_D (va_A [(h_2, .inr (12, [.int 0, .int 0, .ref q_700_1, .int 0, .int 0, .int 0, .int 0, .long 0, .int 0, .int 0, .ref q_700_2, .ref q_700_3, .ref q_700_4, .ref q_700_5, .ref q_700_6, .ref q_700_7, .ref q_700_8, .ref q_700_9, .ref q_700_10, .ref q_700_11, .ref q_700_12, .ref q_700_13, .ref q_700_14, .ref q_700_15, .ref q_700_16, .ref q_700_17, .int 0, .int 0, .ref q_700_18, .ref q_700_19, .ref q_700_20, .ref q_700_21, .ref q_700_22, .ref q_700_23, .ref q_700_24, .ref q_700_25, .ref q_700_26, .ref q_700_27, .ref q_700_28, .ref q_700_29, .int 0, .long 0, .ref q_700_30, .ref q_700_31, .ref q_700_32, .ref q_700_33, .ref q_700_34, .ref q_700_35, .ref q_700_36, .ref q_700_37, .ref q_700_38, .ref q_700_39, .ref q_700_40, .ref q_700_41, .int 0, .int 0, .int 0, .int 0, .ref q_700_42, .ref q_700_43, .ref q_700_44, .ref q_700_45, .int 0, .ref q_700_46, .ref q_700_47, .int 0, .long 0])), (q_700_36, .inl (cy 1, 21, .inl (upd (upd (upd (upd (upd (upd (fun _ => 0) 9 (-1)) 10 (-1)) 11 (-1)) 12 (-1)) 13 (-1)) 14 (-1))))] sz) []) (va_A [(h_2, .inr (12, [.int 0, .int 0, .ref q_700_1, .int 0, .int 0, .int 0, .int 0, .long 0, .int 0, .int 0, .ref q_700_2, .ref q_700_3, .ref q_700_4, .ref q_700_5, .ref q_700_6, .ref q_700_7, .ref q_700_8, .ref q_700_9, .ref q_700_10, .ref q_700_11, .ref q_700_12, .ref q_700_13, .ref q_700_14, .ref q_700_15, .ref q_700_16, .ref q_700_17, .int 0, .int 0, .ref q_700_18, .ref q_700_19, .ref q_700_20, .ref q_700_21, .ref q_700_22, .ref q_700_23, .ref q_700_24, .ref q_700_25, .ref q_700_26, .ref q_700_27, .ref q_700_28, .ref q_700_29, .int 0, .long 0, .ref q_700_30, .ref q_700_31, .ref q_700_32, .ref q_700_33, .ref q_700_34, .ref q_700_35, .ref q_700_36, .ref q_700_37, .ref q_700_38, .ref q_700_39, .ref q_700_40, .ref q_700_41, .int 0, .int 0, .int 0, .int 0, .ref q_700_42, .ref q_700_43, .ref q_700_44, .ref q_700_45, .int 0, .ref q_700_46, .ref q_700_47, .int 0, .long 0])), (q_700_36, .inl (cy 1, 21, .inl (upd (upd (upd (upd (upd (upd (fun _ => 0) 9 (-1)) 10 (-1)) 11 (-1)) 12 (-1)) 13 (-1)) 14 (-1))))] sz)) 0 0 (va_A [(h_2, .inr (12, [.int 0, .int 0, .ref q_700_1, .int 0, .int 0, .int 0, .int 0, .long 0, .int 0, .int 0, .ref q_700_2, .ref q_700_3, .ref q_700_4, .ref q_700_5, .ref q_700_6, .ref q_700_7, .ref q_700_8, .ref q_700_9, .ref q_700_10, .ref q_700_11, .ref q_700_12, .ref q_700_13, .ref q_700_14, .ref q_700_15, .ref q_700_16, .ref q_700_17, .int 0, .int 0, .ref q_700_18, .ref q_700_19, .ref q_700_20, .ref q_700_21, .ref q_700_22, .ref q_700_23, .ref q_700_24, .ref q_700_25, .ref q_700_26, .ref q_700_27, .ref q_700_28, .ref q_700_29, .int 0, .long 0, .ref q_700_30, .ref q_700_31, .ref q_700_32, .ref q_700_33, .ref q_700_34, .ref q_700_35, .ref q_700_36, .ref q_700_37, .ref q_700_38, .ref q_700_39, .ref q_700_40, .ref q_700_41, .int 0, .int 0, .int 0, .int 0, .ref q_700_42, .ref q_700_43, .ref q_700_44, .ref q_700_45, .int 0, .ref q_700_46, .ref q_700_47, .int 0, .long 0])), (q_700_36, .inl (cy 1, 21, .inl (upd (upd (upd (upd (upd (upd (fun _ => 0) 9 (-1)) 10 (-1)) 11 (-1)) 12 (-1)) 13 (-1)) 14 (-1))))] sz) := by
  refine Met.ofW (cc := cX12_count) (maxL := 2) (ret := (some .int)) (by decide) rfl ?_
  intro p e s m args below meth c s₁ B hml hv
  obtain ⟨rfl, hsz, hP, hG, hD0⟩ := hv
  have hx := B.exec
  have hb := B.bytes
  have hr := B.returns
  have hts := atoms_spec (ws := (Cond.code yX12_count cX12_count 2 (some .int) :: bigG)) B.pre
  have hg : ∀ w ∈ bigG, w.before ([.ref h_2, .int 4] : List Value).toArray s = true := fun w h => hts w (List.mem_cons_of_mem _ h)
  have hown : s.vm.findClass RX12 = some m.cls := findClass_of_methodNamed B.named
  have hlocks := B.notSynchronized
  subst hsz
  have hD := hD0.self (sz := s.heap.size)
  generalize hAe : va_A [(h_2, .inr (12, [.int 0, .int 0, .ref q_700_1, .int 0, .int 0, .int 0, .int 0, .long 0, .int 0, .int 0, .ref q_700_2, .ref q_700_3, .ref q_700_4, .ref q_700_5, .ref q_700_6, .ref q_700_7, .ref q_700_8, .ref q_700_9, .ref q_700_10, .ref q_700_11, .ref q_700_12, .ref q_700_13, .ref q_700_14, .ref q_700_15, .ref q_700_16, .ref q_700_17, .int 0, .int 0, .ref q_700_18, .ref q_700_19, .ref q_700_20, .ref q_700_21, .ref q_700_22, .ref q_700_23, .ref q_700_24, .ref q_700_25, .ref q_700_26, .ref q_700_27, .ref q_700_28, .ref q_700_29, .int 0, .long 0, .ref q_700_30, .ref q_700_31, .ref q_700_32, .ref q_700_33, .ref q_700_34, .ref q_700_35, .ref q_700_36, .ref q_700_37, .ref q_700_38, .ref q_700_39, .ref q_700_40, .ref q_700_41, .int 0, .int 0, .int 0, .int 0, .ref q_700_42, .ref q_700_43, .ref q_700_44, .ref q_700_45, .int 0, .ref q_700_46, .ref q_700_47, .int 0, .long 0])), (q_700_36, .inl (cy 1, 21, .inl (upd (upd (upd (upd (upd (upd (fun _ => 0) 9 (-1)) 10 (-1)) 11 (-1)) 12 (-1)) 13 (-1)) 14 (-1))))] s.heap.size = A at hD ⊢
  have hA : ∀ q : Nat, s.heap.size ≤ q → A q := fun q h => by rw [← hAe]; exact Or.inr h
  have hS : va_S A s.heap s.heap [] := va_S.rf
  have hP : va_P D vwCl [(h_2, .inr (12, [.int 0, .int 0, .ref q_700_1, .int 0, .int 0, .int 0, .int 0, .long 0, .int 0, .int 0, .ref q_700_2, .ref q_700_3, .ref q_700_4, .ref q_700_5, .ref q_700_6, .ref q_700_7, .ref q_700_8, .ref q_700_9, .ref q_700_10, .ref q_700_11, .ref q_700_12, .ref q_700_13, .ref q_700_14, .ref q_700_15, .ref q_700_16, .ref q_700_17, .int 0, .int 0, .ref q_700_18, .ref q_700_19, .ref q_700_20, .ref q_700_21, .ref q_700_22, .ref q_700_23, .ref q_700_24, .ref q_700_25, .ref q_700_26, .ref q_700_27, .ref q_700_28, .ref q_700_29, .int 0, .long 0, .ref q_700_30, .ref q_700_31, .ref q_700_32, .ref q_700_33, .ref q_700_34, .ref q_700_35, .ref q_700_36, .ref q_700_37, .ref q_700_38, .ref q_700_39, .ref q_700_40, .ref q_700_41, .int 0, .int 0, .int 0, .int 0, .ref q_700_42, .ref q_700_43, .ref q_700_44, .ref q_700_45, .int 0, .ref q_700_46, .ref q_700_47, .int 0, .long 0])), (q_700_36, .inl (cy 1, 21, .inl (upd (upd (upd (upd (upd (upd (fun _ => 0) 9 (-1)) 10 (-1)) 11 (-1)) 12 (-1)) 13 (-1)) 14 (-1))))] s.heap := hP
  have hl := lv_entry ([.ref h_2, .int 4]) (n := 2) (Nat.le_of_ble_eq_true rfl)
  rw [lg_entry_eq]
  generalize (lg_sl ([.ref h_2, .int 4]) ++ List.replicate (2 - (lg_sl ([.ref h_2, .int 4])).length) Slot.unset).toArray = ls at hl ⊢
  have hl : lv_has ls 2 [(0, .ref h_2), (1, .int 4)] := hl
  refine w_nm (fun Q hQ => ?_)
  refine lv_aload_n hx hb dX12_count_0 rfl (lv_at hl 0 rfl) ?_
  refine lv_iconst (v := 0) hx hb dX12_count_1 (by decide) ?_
  refine va_put (D := D) (ci := 12) (v := .int 0) (ty := .int) (C := RX12) (T := TX12) (N := 67) hx hb hts (inC ibX12) tyX12 tyX12_ok nmX12 hown hG.1 hP hD hS 0 rfl rfl 0 (by decide) (hg _ k_1315) (fun _ h9 => h9) rfl (by decide +kernel) rfl rfl (Nat.le_of_ble_eq_true rfl) dX12_count_2 (fun H locs hP hD hS => ?_)
  have hP : va_P D vwCl [(h_2, .inr (12, [.int 0, .int 0, .ref q_700_1, .int 0, .int 0, .int 0, .int 0, .long 0, .int 0, .int 0, .ref q_700_2, .ref q_700_3, .ref q_700_4, .ref q_700_5, .ref q_700_6, .ref q_700_7, .ref q_700_8, .ref q_700_9, .ref q_700_10, .ref q_700_11, .ref q_700_12, .ref q_700_13, .ref q_700_14, .ref q_700_15, .ref q_700_16, .ref q_700_17, .int 0, .int 0, .ref q_700_18, .ref q_700_19, .ref q_700_20, .ref q_700_21, .ref q_700_22, .ref q_700_23, .ref q_700_24, .ref q_700_25, .ref q_700_26, .ref q_700_27, .ref q_700_28, .ref q_700_29, .int 0, .long 0, .ref q_700_30, .ref q_700_31, .ref q_700_32, .ref q_700_33, .ref q_700_34, .ref q_700_35, .ref q_700_36, .ref q_700_37, .ref q_700_38, .ref q_700_39, .ref q_700_40, .ref q_700_41, .int 0, .int 0, .int 0, .int 0, .ref q_700_42, .ref q_700_43, .ref q_700_44, .ref q_700_45, .int 0, .ref q_700_46, .ref q_700_47, .int 0, .long 0])), (q_700_36, .inl (cy 1, 21, .inl (upd (upd (upd (upd (upd (upd (fun _ => 0) 9 (-1)) 10 (-1)) 11 (-1)) 12 (-1)) 13 (-1)) 14 (-1))))] H := hP
  have hD : va_D A [(h_2, .inr (12, [.int 0, .int 0, .ref q_700_1, .int 0, .int 0, .int 0, .int 0, .long 0, .int 0, .int 0, .ref q_700_2, .ref q_700_3, .ref q_700_4, .ref q_700_5, .ref q_700_6, .ref q_700_7, .ref q_700_8, .ref q_700_9, .ref q_700_10, .ref q_700_11, .ref q_700_12, .ref q_700_13, .ref q_700_14, .ref q_700_15, .ref q_700_16, .ref q_700_17, .int 0, .int 0, .ref q_700_18, .ref q_700_19, .ref q_700_20, .ref q_700_21, .ref q_700_22, .ref q_700_23, .ref q_700_24, .ref q_700_25, .ref q_700_26, .ref q_700_27, .ref q_700_28, .ref q_700_29, .int 0, .long 0, .ref q_700_30, .ref q_700_31, .ref q_700_32, .ref q_700_33, .ref q_700_34, .ref q_700_35, .ref q_700_36, .ref q_700_37, .ref q_700_38, .ref q_700_39, .ref q_700_40, .ref q_700_41, .int 0, .int 0, .int 0, .int 0, .ref q_700_42, .ref q_700_43, .ref q_700_44, .ref q_700_45, .int 0, .ref q_700_46, .ref q_700_47, .int 0, .long 0])), (q_700_36, .inl (cy 1, 21, .inl (upd (upd (upd (upd (upd (upd (fun _ => 0) 9 (-1)) 10 (-1)) 11 (-1)) 12 (-1)) 13 (-1)) 14 (-1))))] := hD
  refine lv_iload_n hx hb dX12_count_5 rfl (lv_at hl 1 rfl) ?_
  refine lv_iconst (v := 0) hx hb dX12_count_6 (by decide) ?_
  refine lv_bipush (v := 12) hx hb dX12_count_7 (by decide) ?_
  refine x_i (wr := [(h_2, .inr (12, [.int 0, .int 0, .ref q_700_1, .int 0, .int 0, .int 0, .int 0, .long 0, .int 0, .int 0, .ref q_700_2, .ref q_700_3, .ref q_700_4, .ref q_700_5, .ref q_700_6, .ref q_700_7, .ref q_700_8, .ref q_700_9, .ref q_700_10, .ref q_700_11, .ref q_700_12, .ref q_700_13, .ref q_700_14, .ref q_700_15, .ref q_700_16, .ref q_700_17, .int 0, .int 0, .ref q_700_18, .ref q_700_19, .ref q_700_20, .ref q_700_21, .ref q_700_22, .ref q_700_23, .ref q_700_24, .ref q_700_25, .ref q_700_26, .ref q_700_27, .ref q_700_28, .ref q_700_29, .int 0, .long 0, .ref q_700_30, .ref q_700_31, .ref q_700_32, .ref q_700_33, .ref q_700_34, .ref q_700_35, .ref q_700_36, .ref q_700_37, .ref q_700_38, .ref q_700_39, .ref q_700_40, .ref q_700_41, .int 0, .int 0, .int 0, .int 0, .ref q_700_42, .ref q_700_43, .ref q_700_44, .ref q_700_45, .int 0, .ref q_700_46, .ref q_700_47, .int 0, .long 0])), (q_700_36, .inl (cy 1, 21, .inl (upd (upd (upd (upd (upd (upd (fun _ => 0) 9 (-1)) 10 (-1)) 11 (-1)) 12 (-1)) 13 (-1)) 14 (-1))))]) hP hD hS hA [] [0, 1] rfl rfl (by decide) (by decide) (va_runS (As := [.int 4, .int 0, .int 12]) (rest := []) ⟨hx, hb, hml, hown, hts⟩ (c_X12_within_24 l D cy  H.size) (va_cwS 3 hts (gS km_X12_293 kt_X12_within kn_X12 kc_X12_within) rfl rfl rfl (by decide +kernel) ⟨(Nat.le_of_ble_eq_true rfl), (Nat.le_of_ble_eq_true rfl)⟩) (preS hG hP hD [] rfl (by decide)) rfl rfl hl.1 rfl (lv_room (Nat.le_of_ble_eq_true rfl)) dX12_count_9 ⟨(Nat.le_of_ble_eq_true rfl), (Nat.le_of_ble_eq_true rfl)⟩) (fun r_1 H locs hB hj hS => ?_)
  obtain ⟨hres, hP1, hD1⟩ := hB
  subst hres
  obtain ⟨hP, hD⟩ := hj _ hP1 hD1
  have hP : va_P D vwCl [(h_2, .inr (12, [.int 0, .int 0, .ref q_700_1, .int 0, .int 0, .int 0, .int 0, .long 0, .int 0, .int 0, .ref q_700_2, .ref q_700_3, .ref q_700_4, .ref q_700_5, .ref q_700_6, .ref q_700_7, .ref q_700_8, .ref q_700_9, .ref q_700_10, .ref q_700_11, .ref q_700_12, .ref q_700_13, .ref q_700_14, .ref q_700_15, .ref q_700_16, .ref q_700_17, .int 0, .int 0, .ref q_700_18, .ref q_700_19, .ref q_700_20, .ref q_700_21, .ref q_700_22, .ref q_700_23, .ref q_700_24, .ref q_700_25, .ref q_700_26, .ref q_700_27, .ref q_700_28, .ref q_700_29, .int 0, .long 0, .ref q_700_30, .ref q_700_31, .ref q_700_32, .ref q_700_33, .ref q_700_34, .ref q_700_35, .ref q_700_36, .ref q_700_37, .ref q_700_38, .ref q_700_39, .ref q_700_40, .ref q_700_41, .int 0, .int 0, .int 0, .int 0, .ref q_700_42, .ref q_700_43, .ref q_700_44, .ref q_700_45, .int 0, .ref q_700_46, .ref q_700_47, .int 0, .long 0])), (q_700_36, .inl (cy 1, 21, .inl (upd (upd (upd (upd (upd (upd (fun _ => 0) 9 (-1)) 10 (-1)) 11 (-1)) 12 (-1)) 13 (-1)) 14 (-1))))] H := hP
  have hD : va_D A [(h_2, .inr (12, [.int 0, .int 0, .ref q_700_1, .int 0, .int 0, .int 0, .int 0, .long 0, .int 0, .int 0, .ref q_700_2, .ref q_700_3, .ref q_700_4, .ref q_700_5, .ref q_700_6, .ref q_700_7, .ref q_700_8, .ref q_700_9, .ref q_700_10, .ref q_700_11, .ref q_700_12, .ref q_700_13, .ref q_700_14, .ref q_700_15, .ref q_700_16, .ref q_700_17, .int 0, .int 0, .ref q_700_18, .ref q_700_19, .ref q_700_20, .ref q_700_21, .ref q_700_22, .ref q_700_23, .ref q_700_24, .ref q_700_25, .ref q_700_26, .ref q_700_27, .ref q_700_28, .ref q_700_29, .int 0, .long 0, .ref q_700_30, .ref q_700_31, .ref q_700_32, .ref q_700_33, .ref q_700_34, .ref q_700_35, .ref q_700_36, .ref q_700_37, .ref q_700_38, .ref q_700_39, .ref q_700_40, .ref q_700_41, .int 0, .int 0, .int 0, .int 0, .ref q_700_42, .ref q_700_43, .ref q_700_44, .ref q_700_45, .int 0, .ref q_700_46, .ref q_700_47, .int 0, .long 0])), (q_700_36, .inl (cy 1, 21, .inl (upd (upd (upd (upd (upd (upd (fun _ => 0) 9 (-1)) 10 (-1)) 11 (-1)) 12 (-1)) 13 (-1)) 14 (-1))))] := hD
  refine lv_if_ne (tgt := 17) hx hb dX12_count_12 (by decide) (fun _ => ?_) (fun c_ => absurd c_ (by decide))
  refine lv_iload_n hx hb dX12_count_17 rfl (lv_at hl 1 rfl) ?_
  refine lv_iconst (v := 3) hx hb dX12_count_18 (by decide) ?_
  refine lv_icmp_ge (tgt := 29) hx hb dX12_count_19 (by decide) (fun _ => ?_) (fun c_ => absurd (by decide) c_)
  refine lv_iload_n hx hb dX12_count_29 rfl (lv_at hl 1 rfl) ?_
  refine lv_bipush (v := 6) hx hb dX12_count_30 (by decide) ?_
  refine lv_icmp_ge (tgt := 68) hx hb dX12_count_32 (by decide) (fun c_ => absurd c_ (by decide)) (fun _ => ?_)
  refine lv_iload_n hx hb dX12_count_35 rfl (lv_at hl 1 rfl) ?_
  refine lv_iconst (v := 3) hx hb dX12_count_36 (by decide) ?_
  refine lv_icmp_ne (tgt := 49) hx hb dX12_count_37 (by decide) (fun _ => ?_) (fun c_ => absurd c_ (by decide))
  refine lv_iload_n hx hb dX12_count_49 rfl (lv_at hl 1 rfl) ?_
  refine lv_iconst (v := 4) hx hb dX12_count_50 (by decide) ?_
  refine lv_icmp_ne (tgt := 63) hx hb dX12_count_51 (by decide) (fun c_ => absurd rfl c_) (fun _ => ?_)
  refine lv_aload_n hx hb dX12_count_54 rfl (lv_at hl 0 rfl) ?_
  refine va_get (D := D) (ci := 12) (v := .ref q_700_36) (C := RX12) (T := TX12) (N := 67) hx hb hts (inC ibX12) hown hG.1 hP 0 rfl rfl 48 (by decide) (hg _ k_1363) (fun _ h9 => h9) rfl dX12_count_55 ?_
  refine lv_iconst (v := 1) hx hb dX12_count_58 (by decide) ?_
  refine m_iald (v := 0) hx hb hG hP 1 rfl (vin (by decide)) dX12_count_59 rfl ?_
  refine lv_goto (tgt := 67) hx hb dX12_count_60 (by decide) ?_
  have hP9 := hP.sub (ws' := []) [] rfl
  have hD9 := hD.sub (ws' := []) [] (by decide) rfl
  subst hQ
  exact W.iret (v := 0) hx hb hr (fun t ht hW => qi_mk (by rw [ht]; exact ⟨rfl, hP9, hD9⟩) (hS.F ht)) hS.2.2 dX12_count_67
set_option maxHeartbeats 4000000 in
set_option maxRecDepth 100000 in
theorem c_X11_count_6 (l : Launch) (D : va_G) (cy : Nat → ClassId) (h_1 : Nat) (q_1 : Nat) (q_3 : Nat) (q_4 : Nat) (q_25 : Nat) (q_46 : Nat) (q_50 : Nat) (q_54 : Nat) (q_58 : Nat) (q_62 : Nat) (q_63 : Nat) (q_64 : Nat) (q_67 : Nat) (q_85 : Nat) (q_90 : Nat) (q_93 : Nat) (q_1_5 : Nat) (q_2_6 : Nat) (q_3_7 : Nat) (q_4_8 : Nat) (q_5_9 : Nat) (q_6_10 : Nat) (q_7_11 : Nat) (q_8_12 : Nat) (q_9_13 : Nat) (q_10_14 : Nat) (q_11_15 : Nat) (q_12_16 : Nat) (q_13_17 : Nat) (q_18_18 : Nat) (q_19_19 : Nat) (q_20_20 : Nat) (q1_55 : Nat) (q2_56 : Nat) (q3_57 : Nat) (sz : Nat) : Met l yX11_count (Cond.code yX11_count cX11_count 2 (some .int) :: bigG) ({ frames := 1, cells := 0, slots := 0, locals := 23 }) (pre D cy [.ref h_1, .int 5] sz [(h_1, .inr (11, [.ref q_1, .ref q_3, .ref q_4, .ref q_25, .ref q_46, .ref q_50, .ref q_54, .ref q_58, .ref q_62, .int 0, .int 0, .ref q_63, .ref q_64, .ref q_67, .ref q_85, .ref q_90, .ref q_93])), (q_4, .inr (0, [.ref q_1_5, .ref q_2_6, .ref q_3_7, .ref q_4_8, .ref q_5_9, .ref q_6_10, .ref q_7_11, .ref q_8_12, .ref q_9_13, .ref q_10_14, .ref q_11_15, .ref q_12_16, .ref q_13_17, .int 0, .int 0, .int 0, .int 2, .ref q_18_18, .ref q_19_19, .ref q_20_20])), (q_54, .inr (8, [.int 0, .int 0, .int 0, .ref q1_55, .ref q2_56, .ref q3_57]))]) (qi (fun r h => r = 0 ∧ va_P D vwCl [] h ∧ va_D (va_A [(h_1, .inr (11, [.ref q_1, .ref q_3, .ref q_4, .ref q_25, .ref q_46, .ref q_50, .ref q_54, .ref q_58, .ref q_62, .int 0, .int 0, .ref q_63, .ref q_64, .ref q_67, .ref q_85, .ref q_90, .ref q_93])), (q_4, .inr (0, [.ref q_1_5, .ref q_2_6, .ref q_3_7, .ref q_4_8, .ref q_5_9, .ref q_6_10, .ref q_7_11, .ref q_8_12, .ref q_9_13, .ref q_10_14, .ref q_11_15, .ref q_12_16, .ref q_13_17, .int 0, .int 0, .int 0, .int 2, .ref q_18_18, .ref q_19_19, .ref q_20_20])), (q_54, .inr (8, [.int 0, .int 0, .int 0, .ref q1_55, .ref q2_56, .ref q3_57]))] sz) []) (va_A [(h_1, .inr (11, [.ref q_1, .ref q_3, .ref q_4, .ref q_25, .ref q_46, .ref q_50, .ref q_54, .ref q_58, .ref q_62, .int 0, .int 0, .ref q_63, .ref q_64, .ref q_67, .ref q_85, .ref q_90, .ref q_93])), (q_4, .inr (0, [.ref q_1_5, .ref q_2_6, .ref q_3_7, .ref q_4_8, .ref q_5_9, .ref q_6_10, .ref q_7_11, .ref q_8_12, .ref q_9_13, .ref q_10_14, .ref q_11_15, .ref q_12_16, .ref q_13_17, .int 0, .int 0, .int 0, .int 2, .ref q_18_18, .ref q_19_19, .ref q_20_20])), (q_54, .inr (8, [.int 0, .int 0, .int 0, .ref q1_55, .ref q2_56, .ref q3_57]))] sz)) 0 0 (va_A [(h_1, .inr (11, [.ref q_1, .ref q_3, .ref q_4, .ref q_25, .ref q_46, .ref q_50, .ref q_54, .ref q_58, .ref q_62, .int 0, .int 0, .ref q_63, .ref q_64, .ref q_67, .ref q_85, .ref q_90, .ref q_93])), (q_4, .inr (0, [.ref q_1_5, .ref q_2_6, .ref q_3_7, .ref q_4_8, .ref q_5_9, .ref q_6_10, .ref q_7_11, .ref q_8_12, .ref q_9_13, .ref q_10_14, .ref q_11_15, .ref q_12_16, .ref q_13_17, .int 0, .int 0, .int 0, .int 2, .ref q_18_18, .ref q_19_19, .ref q_20_20])), (q_54, .inr (8, [.int 0, .int 0, .int 0, .ref q1_55, .ref q2_56, .ref q3_57]))] sz) := by
  refine Met.ofW (cc := cX11_count) (maxL := 2) (ret := (some .int)) (by decide) rfl ?_
  intro p e s m args below meth c s₁ B hml hv
  obtain ⟨rfl, hsz, hP, hG, hD0⟩ := hv
  have hx := B.exec
  have hb := B.bytes
  have hr := B.returns
  have hts := atoms_spec (ws := (Cond.code yX11_count cX11_count 2 (some .int) :: bigG)) B.pre
  have hg : ∀ w ∈ bigG, w.before ([.ref h_1, .int 5] : List Value).toArray s = true := fun w h => hts w (List.mem_cons_of_mem _ h)
  have hown : s.vm.findClass RX11 = some m.cls := findClass_of_methodNamed B.named
  have hlocks := B.notSynchronized
  subst hsz
  have hD := hD0.self (sz := s.heap.size)
  generalize hAe : va_A [(h_1, .inr (11, [.ref q_1, .ref q_3, .ref q_4, .ref q_25, .ref q_46, .ref q_50, .ref q_54, .ref q_58, .ref q_62, .int 0, .int 0, .ref q_63, .ref q_64, .ref q_67, .ref q_85, .ref q_90, .ref q_93])), (q_4, .inr (0, [.ref q_1_5, .ref q_2_6, .ref q_3_7, .ref q_4_8, .ref q_5_9, .ref q_6_10, .ref q_7_11, .ref q_8_12, .ref q_9_13, .ref q_10_14, .ref q_11_15, .ref q_12_16, .ref q_13_17, .int 0, .int 0, .int 0, .int 2, .ref q_18_18, .ref q_19_19, .ref q_20_20])), (q_54, .inr (8, [.int 0, .int 0, .int 0, .ref q1_55, .ref q2_56, .ref q3_57]))] s.heap.size = A at hD ⊢
  have hA : ∀ q : Nat, s.heap.size ≤ q → A q := fun q h => by rw [← hAe]; exact Or.inr h
  have hS : va_S A s.heap s.heap [] := va_S.rf
  have hP : va_P D vwCl [(h_1, .inr (11, [.ref q_1, .ref q_3, .ref q_4, .ref q_25, .ref q_46, .ref q_50, .ref q_54, .ref q_58, .ref q_62, .int 0, .int 0, .ref q_63, .ref q_64, .ref q_67, .ref q_85, .ref q_90, .ref q_93])), (q_4, .inr (0, [.ref q_1_5, .ref q_2_6, .ref q_3_7, .ref q_4_8, .ref q_5_9, .ref q_6_10, .ref q_7_11, .ref q_8_12, .ref q_9_13, .ref q_10_14, .ref q_11_15, .ref q_12_16, .ref q_13_17, .int 0, .int 0, .int 0, .int 2, .ref q_18_18, .ref q_19_19, .ref q_20_20])), (q_54, .inr (8, [.int 0, .int 0, .int 0, .ref q1_55, .ref q2_56, .ref q3_57]))] s.heap := hP
  have hl := lv_entry ([.ref h_1, .int 5]) (n := 2) (Nat.le_of_ble_eq_true rfl)
  rw [lg_entry_eq]
  generalize (lg_sl ([.ref h_1, .int 5]) ++ List.replicate (2 - (lg_sl ([.ref h_1, .int 5])).length) Slot.unset).toArray = ls at hl ⊢
  have hl : lv_has ls 2 [(0, .ref h_1), (1, .int 5)] := hl
  refine w_nm (fun Q hQ => ?_)
  refine lv_iload_n hx hb dX11_count_0 rfl (lv_at hl 1 rfl) ?_
  refine lv_tableIn (off := 107) (tgt := 108) hx hb dX11_count_1 (by decide) (by decide) (by decide) (by decide) ?_
  refine lv_aload_n hx hb dX11_count_108 rfl (lv_at hl 0 rfl) ?_
  refine va_get (D := D) (ci := 11) (v := .ref q_54) (C := RX11) (T := TX11) (N := 17) hx hb hts (inC ibX11) hown hG.1 hP 0 rfl rfl 6 (by decide) (hg _ k_426) (fun _ h9 => h9) rfl dX11_count_109 ?_
  refine lv_aload_n hx hb dX11_count_112 rfl (lv_at hl 0 rfl) ?_
  refine va_get (D := D) (ci := 11) (v := .ref q_4) (C := RX11) (T := TX11) (N := 17) hx hb hts (inC ibX11) hown hG.1 hP 0 rfl rfl 2 (by decide) (hg _ k_422) (fun _ h9 => h9) rfl dX11_count_113 ?_
  refine x_i (wr := [(h_1, .inr (11, [.ref q_1, .ref q_3, .ref q_4, .ref q_25, .ref q_46, .ref q_50, .ref q_54, .ref q_58, .ref q_62, .int 0, .int 0, .ref q_63, .ref q_64, .ref q_67, .ref q_85, .ref q_90, .ref q_93]))]) hP hD hS hA [2, 1] [0] rfl rfl (by decide) (by decide) (va_runV (As := [.ref q_4]) (rest := []) ⟨hx, hb, hml, hown, hts⟩ (c_X8_whoSits_1 l D cy q_54 q_4 q1_55 q2_56 q3_57 q_1_5 q_2_6 q_3_7 q_4_8 q_5_9 q_6_10 q_7_11 q_8_12 q_9_13 q_10_14 q_11_15 q_12_16 q_13_17 q_18_18 q_19_19 q_20_20 s.heap.size) (cwV 1 hts (gV km_X11_217 ki_X8_whoSits kz_X8_whoSits kn_X8 kc_X8_whoSits) rfl rfl rfl (by decide +kernel) ⟨(Nat.le_of_ble_eq_true rfl), (Nat.le_of_ble_eq_true rfl)⟩) (preV hG hP hD [2, 1] rfl (by decide) 8 2 rfl rfl) rfl rfl hl.1 rfl (lv_room (Nat.le_of_ble_eq_true rfl)) dX11_count_116 ⟨(Nat.le_of_ble_eq_true rfl), (Nat.le_of_ble_eq_true rfl)⟩) (fun r_1 H locs hB hj hS => ?_)
  obtain ⟨hres, hP1, hD1⟩ := hB
  subst hres
  obtain ⟨hP, hD⟩ := hj _ hP1 hD1
  have hP : va_P D vwCl [(h_1, .inr (11, [.ref q_1, .ref q_3, .ref q_4, .ref q_25, .ref q_46, .ref q_50, .ref q_54, .ref q_58, .ref q_62, .int 0, .int 0, .ref q_63, .ref q_64, .ref q_67, .ref q_85, .ref q_90, .ref q_93])), (q_54, .inr (8, [.int 0, .int 0, .int 0, .ref q1_55, .ref q2_56, .ref q3_57])), (q_4, .inr (0, [.ref q_1_5, .ref q_2_6, .ref q_3_7, .ref q_4_8, .ref q_5_9, .ref q_6_10, .ref q_7_11, .ref q_8_12, .ref q_9_13, .ref q_10_14, .ref q_11_15, .ref q_12_16, .ref q_13_17, .int 0, .int 0, .int 0, .int 2, .ref q_18_18, .ref q_19_19, .ref q_20_20]))] H := hP
  have hD : va_D A [(h_1, .inr (11, [.ref q_1, .ref q_3, .ref q_4, .ref q_25, .ref q_46, .ref q_50, .ref q_54, .ref q_58, .ref q_62, .int 0, .int 0, .ref q_63, .ref q_64, .ref q_67, .ref q_85, .ref q_90, .ref q_93])), (q_54, .inr (8, [.int 0, .int 0, .int 0, .ref q1_55, .ref q2_56, .ref q3_57])), (q_4, .inr (0, [.ref q_1_5, .ref q_2_6, .ref q_3_7, .ref q_4_8, .ref q_5_9, .ref q_6_10, .ref q_7_11, .ref q_8_12, .ref q_9_13, .ref q_10_14, .ref q_11_15, .ref q_12_16, .ref q_13_17, .int 0, .int 0, .int 0, .int 2, .ref q_18_18, .ref q_19_19, .ref q_20_20]))] := hD
  have hP9 := hP.sub (ws' := []) [] rfl
  have hD9 := hD.sub (ws' := []) [] (by decide) rfl
  subst hQ
  exact W.iret (v := 0) hx hb hr (fun t ht hW => qi_mk (by rw [ht]; exact ⟨rfl, hP9, hD9⟩) (hS.F ht)) hS.2.2 dX11_count_119
set_option maxHeartbeats 4000000 in
set_option maxRecDepth 100000 in
theorem c_X12_within_25 (l : Launch) (D : va_G) (cy : Nat → ClassId) (sz : Nat) : Met l yX12_within (Cond.code yX12_within cX12_within 3 (some .boolean) :: bigG) ({ frames := 0, cells := 0, slots := 0, locals := 0 }) (pre D cy [.int 5, .int 0, .int 12] sz []) (qi (fun r h => r = 1 ∧ va_P D vwCl [] h ∧ va_D (va_A [] sz) []) (va_A [] sz)) 0 0 (va_A [] sz) := by
  refine Met.ofW (cc := cX12_within) (maxL := 3) (ret := (some .boolean)) (by decide) rfl ?_
  intro p e s m args below meth c s₁ B hml hv
  obtain ⟨rfl, hsz, hP, hG, hD0⟩ := hv
  have hx := B.exec
  have hb := B.bytes
  have hr := B.returns
  have hts := atoms_spec (ws := (Cond.code yX12_within cX12_within 3 (some .boolean) :: bigG)) B.pre
  have hg : ∀ w ∈ bigG, w.before ([.int 5, .int 0, .int 12] : List Value).toArray s = true := fun w h => hts w (List.mem_cons_of_mem _ h)
  have hown : s.vm.findClass RX12 = some m.cls := findClass_of_methodNamed B.named
  have hlocks := B.notSynchronized
  subst hsz
  have hD := hD0.self (sz := s.heap.size)
  generalize hAe : va_A [] s.heap.size = A at hD ⊢
  have hA : ∀ q : Nat, s.heap.size ≤ q → A q := fun q h => by rw [← hAe]; exact Or.inr h
  have hS : va_S A s.heap s.heap [] := va_S.rf
  have hP : va_P D vwCl [] s.heap := hP
  have hl := lv_entry ([.int 5, .int 0, .int 12]) (n := 3) (Nat.le_of_ble_eq_true rfl)
  rw [lg_entry_eq]
  generalize (lg_sl ([.int 5, .int 0, .int 12]) ++ List.replicate (3 - (lg_sl ([.int 5, .int 0, .int 12])).length) Slot.unset).toArray = ls at hl ⊢
  have hl : lv_has ls 3 [(0, .int 5), (1, .int 0), (2, .int 12)] := hl
  refine w_nm (fun Q hQ => ?_)
  refine lv_iload_n hx hb dX12_within_0 rfl (lv_at hl 0 rfl) ?_
  refine lv_iload_n hx hb dX12_within_1 rfl (lv_at hl 1 rfl) ?_
  refine lv_icmp_lt (tgt := 14) hx hb dX12_within_2 (by decide) (fun c_ => absurd c_ (by decide)) (fun _ => ?_)
  refine lv_iload_n hx hb dX12_within_5 rfl (lv_at hl 0 rfl) ?_
  refine lv_iload_n hx hb dX12_within_6 rfl (lv_at hl 2 rfl) ?_
  refine lv_icmp_gt (tgt := 14) hx hb dX12_within_7 (by decide) (fun c_ => absurd c_ (by decide)) (fun _ => ?_)
  refine lv_iconst (v := 1) hx hb dX12_within_10 (by decide) ?_
  refine lv_goto (tgt := 15) hx hb dX12_within_11 (by decide) ?_
  have hP9 := hP.sub (ws' := []) [] rfl
  have hD9 := hD.sub (ws' := []) [] (by decide) rfl
  subst hQ
  exact W.zret (v := 1) hx hb hr rfl (fun t ht hW => qi_mk (by rw [ht]; exact ⟨rfl, hP9, hD9⟩) (hS.F ht)) hS.2.2 dX12_within_15
set_option maxHeartbeats 4000000 in
set_option maxRecDepth 100000 in
theorem c_X12_count_6 (l : Launch) (D : va_G) (cy : Nat → ClassId) (h_2 : Nat) (q_700_1 : Nat) (q_700_2 : Nat) (q_700_3 : Nat) (q_700_4 : Nat) (q_700_5 : Nat) (q_700_6 : Nat) (q_700_7 : Nat) (q_700_8 : Nat) (q_700_9 : Nat) (q_700_10 : Nat) (q_700_11 : Nat) (q_700_12 : Nat) (q_700_13 : Nat) (q_700_14 : Nat) (q_700_15 : Nat) (q_700_16 : Nat) (q_700_17 : Nat) (q_700_18 : Nat) (q_700_19 : Nat) (q_700_20 : Nat) (q_700_21 : Nat) (q_700_22 : Nat) (q_700_23 : Nat) (q_700_24 : Nat) (q_700_25 : Nat) (q_700_26 : Nat) (q_700_27 : Nat) (q_700_28 : Nat) (q_700_29 : Nat) (q_700_30 : Nat) (q_700_31 : Nat) (q_700_32 : Nat) (q_700_33 : Nat) (q_700_34 : Nat) (q_700_35 : Nat) (q_700_36 : Nat) (q_700_37 : Nat) (q_700_38 : Nat) (q_700_39 : Nat) (q_700_40 : Nat) (q_700_41 : Nat) (q_700_42 : Nat) (q_700_43 : Nat) (q_700_44 : Nat) (q_700_45 : Nat) (q_700_46 : Nat) (q_700_47 : Nat) (sz : Nat) : Met l yX12_count (Cond.code yX12_count cX12_count 2 (some .int) :: bigG) ({ frames := 1, cells := 0, slots := 0, locals := 22 }) (pre D cy [.ref h_2, .int 5] sz [(h_2, .inr (12, [.int 0, .int 0, .ref q_700_1, .int 0, .int 0, .int 0, .int 0, .long 0, .int 0, .int 0, .ref q_700_2, .ref q_700_3, .ref q_700_4, .ref q_700_5, .ref q_700_6, .ref q_700_7, .ref q_700_8, .ref q_700_9, .ref q_700_10, .ref q_700_11, .ref q_700_12, .ref q_700_13, .ref q_700_14, .ref q_700_15, .ref q_700_16, .ref q_700_17, .int 0, .int 0, .ref q_700_18, .ref q_700_19, .ref q_700_20, .ref q_700_21, .ref q_700_22, .ref q_700_23, .ref q_700_24, .ref q_700_25, .ref q_700_26, .ref q_700_27, .ref q_700_28, .ref q_700_29, .int 0, .long 0, .ref q_700_30, .ref q_700_31, .ref q_700_32, .ref q_700_33, .ref q_700_34, .ref q_700_35, .ref q_700_36, .ref q_700_37, .ref q_700_38, .ref q_700_39, .ref q_700_40, .ref q_700_41, .int 0, .int 0, .int 0, .int 0, .ref q_700_42, .ref q_700_43, .ref q_700_44, .ref q_700_45, .int 0, .ref q_700_46, .ref q_700_47, .int 0, .long 0])), (q_700_2, .inl (cy 1, 10, .inl (upd (fun _ => 0) 4 2)))]) (qi (fun r h => r = 0 ∧ va_P D vwCl [] h ∧ va_D (va_A [(h_2, .inr (12, [.int 0, .int 0, .ref q_700_1, .int 0, .int 0, .int 0, .int 0, .long 0, .int 0, .int 0, .ref q_700_2, .ref q_700_3, .ref q_700_4, .ref q_700_5, .ref q_700_6, .ref q_700_7, .ref q_700_8, .ref q_700_9, .ref q_700_10, .ref q_700_11, .ref q_700_12, .ref q_700_13, .ref q_700_14, .ref q_700_15, .ref q_700_16, .ref q_700_17, .int 0, .int 0, .ref q_700_18, .ref q_700_19, .ref q_700_20, .ref q_700_21, .ref q_700_22, .ref q_700_23, .ref q_700_24, .ref q_700_25, .ref q_700_26, .ref q_700_27, .ref q_700_28, .ref q_700_29, .int 0, .long 0, .ref q_700_30, .ref q_700_31, .ref q_700_32, .ref q_700_33, .ref q_700_34, .ref q_700_35, .ref q_700_36, .ref q_700_37, .ref q_700_38, .ref q_700_39, .ref q_700_40, .ref q_700_41, .int 0, .int 0, .int 0, .int 0, .ref q_700_42, .ref q_700_43, .ref q_700_44, .ref q_700_45, .int 0, .ref q_700_46, .ref q_700_47, .int 0, .long 0])), (q_700_2, .inl (cy 1, 10, .inl (upd (fun _ => 0) 4 2)))] sz) []) (va_A [(h_2, .inr (12, [.int 0, .int 0, .ref q_700_1, .int 0, .int 0, .int 0, .int 0, .long 0, .int 0, .int 0, .ref q_700_2, .ref q_700_3, .ref q_700_4, .ref q_700_5, .ref q_700_6, .ref q_700_7, .ref q_700_8, .ref q_700_9, .ref q_700_10, .ref q_700_11, .ref q_700_12, .ref q_700_13, .ref q_700_14, .ref q_700_15, .ref q_700_16, .ref q_700_17, .int 0, .int 0, .ref q_700_18, .ref q_700_19, .ref q_700_20, .ref q_700_21, .ref q_700_22, .ref q_700_23, .ref q_700_24, .ref q_700_25, .ref q_700_26, .ref q_700_27, .ref q_700_28, .ref q_700_29, .int 0, .long 0, .ref q_700_30, .ref q_700_31, .ref q_700_32, .ref q_700_33, .ref q_700_34, .ref q_700_35, .ref q_700_36, .ref q_700_37, .ref q_700_38, .ref q_700_39, .ref q_700_40, .ref q_700_41, .int 0, .int 0, .int 0, .int 0, .ref q_700_42, .ref q_700_43, .ref q_700_44, .ref q_700_45, .int 0, .ref q_700_46, .ref q_700_47, .int 0, .long 0])), (q_700_2, .inl (cy 1, 10, .inl (upd (fun _ => 0) 4 2)))] sz)) 0 0 (va_A [(h_2, .inr (12, [.int 0, .int 0, .ref q_700_1, .int 0, .int 0, .int 0, .int 0, .long 0, .int 0, .int 0, .ref q_700_2, .ref q_700_3, .ref q_700_4, .ref q_700_5, .ref q_700_6, .ref q_700_7, .ref q_700_8, .ref q_700_9, .ref q_700_10, .ref q_700_11, .ref q_700_12, .ref q_700_13, .ref q_700_14, .ref q_700_15, .ref q_700_16, .ref q_700_17, .int 0, .int 0, .ref q_700_18, .ref q_700_19, .ref q_700_20, .ref q_700_21, .ref q_700_22, .ref q_700_23, .ref q_700_24, .ref q_700_25, .ref q_700_26, .ref q_700_27, .ref q_700_28, .ref q_700_29, .int 0, .long 0, .ref q_700_30, .ref q_700_31, .ref q_700_32, .ref q_700_33, .ref q_700_34, .ref q_700_35, .ref q_700_36, .ref q_700_37, .ref q_700_38, .ref q_700_39, .ref q_700_40, .ref q_700_41, .int 0, .int 0, .int 0, .int 0, .ref q_700_42, .ref q_700_43, .ref q_700_44, .ref q_700_45, .int 0, .ref q_700_46, .ref q_700_47, .int 0, .long 0])), (q_700_2, .inl (cy 1, 10, .inl (upd (fun _ => 0) 4 2)))] sz) := by
  refine Met.ofW (cc := cX12_count) (maxL := 2) (ret := (some .int)) (by decide) rfl ?_
  intro p e s m args below meth c s₁ B hml hv
  obtain ⟨rfl, hsz, hP, hG, hD0⟩ := hv
  have hx := B.exec
  have hb := B.bytes
  have hr := B.returns
  have hts := atoms_spec (ws := (Cond.code yX12_count cX12_count 2 (some .int) :: bigG)) B.pre
  have hg : ∀ w ∈ bigG, w.before ([.ref h_2, .int 5] : List Value).toArray s = true := fun w h => hts w (List.mem_cons_of_mem _ h)
  have hown : s.vm.findClass RX12 = some m.cls := findClass_of_methodNamed B.named
  have hlocks := B.notSynchronized
  subst hsz
  have hD := hD0.self (sz := s.heap.size)
  generalize hAe : va_A [(h_2, .inr (12, [.int 0, .int 0, .ref q_700_1, .int 0, .int 0, .int 0, .int 0, .long 0, .int 0, .int 0, .ref q_700_2, .ref q_700_3, .ref q_700_4, .ref q_700_5, .ref q_700_6, .ref q_700_7, .ref q_700_8, .ref q_700_9, .ref q_700_10, .ref q_700_11, .ref q_700_12, .ref q_700_13, .ref q_700_14, .ref q_700_15, .ref q_700_16, .ref q_700_17, .int 0, .int 0, .ref q_700_18, .ref q_700_19, .ref q_700_20, .ref q_700_21, .ref q_700_22, .ref q_700_23, .ref q_700_24, .ref q_700_25, .ref q_700_26, .ref q_700_27, .ref q_700_28, .ref q_700_29, .int 0, .long 0, .ref q_700_30, .ref q_700_31, .ref q_700_32, .ref q_700_33, .ref q_700_34, .ref q_700_35, .ref q_700_36, .ref q_700_37, .ref q_700_38, .ref q_700_39, .ref q_700_40, .ref q_700_41, .int 0, .int 0, .int 0, .int 0, .ref q_700_42, .ref q_700_43, .ref q_700_44, .ref q_700_45, .int 0, .ref q_700_46, .ref q_700_47, .int 0, .long 0])), (q_700_2, .inl (cy 1, 10, .inl (upd (fun _ => 0) 4 2)))] s.heap.size = A at hD ⊢
  have hA : ∀ q : Nat, s.heap.size ≤ q → A q := fun q h => by rw [← hAe]; exact Or.inr h
  have hS : va_S A s.heap s.heap [] := va_S.rf
  have hP : va_P D vwCl [(h_2, .inr (12, [.int 0, .int 0, .ref q_700_1, .int 0, .int 0, .int 0, .int 0, .long 0, .int 0, .int 0, .ref q_700_2, .ref q_700_3, .ref q_700_4, .ref q_700_5, .ref q_700_6, .ref q_700_7, .ref q_700_8, .ref q_700_9, .ref q_700_10, .ref q_700_11, .ref q_700_12, .ref q_700_13, .ref q_700_14, .ref q_700_15, .ref q_700_16, .ref q_700_17, .int 0, .int 0, .ref q_700_18, .ref q_700_19, .ref q_700_20, .ref q_700_21, .ref q_700_22, .ref q_700_23, .ref q_700_24, .ref q_700_25, .ref q_700_26, .ref q_700_27, .ref q_700_28, .ref q_700_29, .int 0, .long 0, .ref q_700_30, .ref q_700_31, .ref q_700_32, .ref q_700_33, .ref q_700_34, .ref q_700_35, .ref q_700_36, .ref q_700_37, .ref q_700_38, .ref q_700_39, .ref q_700_40, .ref q_700_41, .int 0, .int 0, .int 0, .int 0, .ref q_700_42, .ref q_700_43, .ref q_700_44, .ref q_700_45, .int 0, .ref q_700_46, .ref q_700_47, .int 0, .long 0])), (q_700_2, .inl (cy 1, 10, .inl (upd (fun _ => 0) 4 2)))] s.heap := hP
  have hl := lv_entry ([.ref h_2, .int 5]) (n := 2) (Nat.le_of_ble_eq_true rfl)
  rw [lg_entry_eq]
  generalize (lg_sl ([.ref h_2, .int 5]) ++ List.replicate (2 - (lg_sl ([.ref h_2, .int 5])).length) Slot.unset).toArray = ls at hl ⊢
  have hl : lv_has ls 2 [(0, .ref h_2), (1, .int 5)] := hl
  refine w_nm (fun Q hQ => ?_)
  refine lv_aload_n hx hb dX12_count_0 rfl (lv_at hl 0 rfl) ?_
  refine lv_iconst (v := 0) hx hb dX12_count_1 (by decide) ?_
  refine va_put (D := D) (ci := 12) (v := .int 0) (ty := .int) (C := RX12) (T := TX12) (N := 67) hx hb hts (inC ibX12) tyX12 tyX12_ok nmX12 hown hG.1 hP hD hS 0 rfl rfl 0 (by decide) (hg _ k_1315) (fun _ h9 => h9) rfl (by decide +kernel) rfl rfl (Nat.le_of_ble_eq_true rfl) dX12_count_2 (fun H locs hP hD hS => ?_)
  have hP : va_P D vwCl [(h_2, .inr (12, [.int 0, .int 0, .ref q_700_1, .int 0, .int 0, .int 0, .int 0, .long 0, .int 0, .int 0, .ref q_700_2, .ref q_700_3, .ref q_700_4, .ref q_700_5, .ref q_700_6, .ref q_700_7, .ref q_700_8, .ref q_700_9, .ref q_700_10, .ref q_700_11, .ref q_700_12, .ref q_700_13, .ref q_700_14, .ref q_700_15, .ref q_700_16, .ref q_700_17, .int 0, .int 0, .ref q_700_18, .ref q_700_19, .ref q_700_20, .ref q_700_21, .ref q_700_22, .ref q_700_23, .ref q_700_24, .ref q_700_25, .ref q_700_26, .ref q_700_27, .ref q_700_28, .ref q_700_29, .int 0, .long 0, .ref q_700_30, .ref q_700_31, .ref q_700_32, .ref q_700_33, .ref q_700_34, .ref q_700_35, .ref q_700_36, .ref q_700_37, .ref q_700_38, .ref q_700_39, .ref q_700_40, .ref q_700_41, .int 0, .int 0, .int 0, .int 0, .ref q_700_42, .ref q_700_43, .ref q_700_44, .ref q_700_45, .int 0, .ref q_700_46, .ref q_700_47, .int 0, .long 0])), (q_700_2, .inl (cy 1, 10, .inl (upd (fun _ => 0) 4 2)))] H := hP
  have hD : va_D A [(h_2, .inr (12, [.int 0, .int 0, .ref q_700_1, .int 0, .int 0, .int 0, .int 0, .long 0, .int 0, .int 0, .ref q_700_2, .ref q_700_3, .ref q_700_4, .ref q_700_5, .ref q_700_6, .ref q_700_7, .ref q_700_8, .ref q_700_9, .ref q_700_10, .ref q_700_11, .ref q_700_12, .ref q_700_13, .ref q_700_14, .ref q_700_15, .ref q_700_16, .ref q_700_17, .int 0, .int 0, .ref q_700_18, .ref q_700_19, .ref q_700_20, .ref q_700_21, .ref q_700_22, .ref q_700_23, .ref q_700_24, .ref q_700_25, .ref q_700_26, .ref q_700_27, .ref q_700_28, .ref q_700_29, .int 0, .long 0, .ref q_700_30, .ref q_700_31, .ref q_700_32, .ref q_700_33, .ref q_700_34, .ref q_700_35, .ref q_700_36, .ref q_700_37, .ref q_700_38, .ref q_700_39, .ref q_700_40, .ref q_700_41, .int 0, .int 0, .int 0, .int 0, .ref q_700_42, .ref q_700_43, .ref q_700_44, .ref q_700_45, .int 0, .ref q_700_46, .ref q_700_47, .int 0, .long 0])), (q_700_2, .inl (cy 1, 10, .inl (upd (fun _ => 0) 4 2)))] := hD
  refine lv_iload_n hx hb dX12_count_5 rfl (lv_at hl 1 rfl) ?_
  refine lv_iconst (v := 0) hx hb dX12_count_6 (by decide) ?_
  refine lv_bipush (v := 12) hx hb dX12_count_7 (by decide) ?_
  refine x_i (wr := [(h_2, .inr (12, [.int 0, .int 0, .ref q_700_1, .int 0, .int 0, .int 0, .int 0, .long 0, .int 0, .int 0, .ref q_700_2, .ref q_700_3, .ref q_700_4, .ref q_700_5, .ref q_700_6, .ref q_700_7, .ref q_700_8, .ref q_700_9, .ref q_700_10, .ref q_700_11, .ref q_700_12, .ref q_700_13, .ref q_700_14, .ref q_700_15, .ref q_700_16, .ref q_700_17, .int 0, .int 0, .ref q_700_18, .ref q_700_19, .ref q_700_20, .ref q_700_21, .ref q_700_22, .ref q_700_23, .ref q_700_24, .ref q_700_25, .ref q_700_26, .ref q_700_27, .ref q_700_28, .ref q_700_29, .int 0, .long 0, .ref q_700_30, .ref q_700_31, .ref q_700_32, .ref q_700_33, .ref q_700_34, .ref q_700_35, .ref q_700_36, .ref q_700_37, .ref q_700_38, .ref q_700_39, .ref q_700_40, .ref q_700_41, .int 0, .int 0, .int 0, .int 0, .ref q_700_42, .ref q_700_43, .ref q_700_44, .ref q_700_45, .int 0, .ref q_700_46, .ref q_700_47, .int 0, .long 0])), (q_700_2, .inl (cy 1, 10, .inl (upd (fun _ => 0) 4 2)))]) hP hD hS hA [] [0, 1] rfl rfl (by decide) (by decide) (va_runS (As := [.int 5, .int 0, .int 12]) (rest := []) ⟨hx, hb, hml, hown, hts⟩ (c_X12_within_25 l D cy  H.size) (va_cwS 3 hts (gS km_X12_293 kt_X12_within kn_X12 kc_X12_within) rfl rfl rfl (by decide +kernel) ⟨(Nat.le_of_ble_eq_true rfl), (Nat.le_of_ble_eq_true rfl)⟩) (preS hG hP hD [] rfl (by decide)) rfl rfl hl.1 rfl (lv_room (Nat.le_of_ble_eq_true rfl)) dX12_count_9 ⟨(Nat.le_of_ble_eq_true rfl), (Nat.le_of_ble_eq_true rfl)⟩) (fun r_1 H locs hB hj hS => ?_)
  obtain ⟨hres, hP1, hD1⟩ := hB
  subst hres
  obtain ⟨hP, hD⟩ := hj _ hP1 hD1
  have hP : va_P D vwCl [(h_2, .inr (12, [.int 0, .int 0, .ref q_700_1, .int 0, .int 0, .int 0, .int 0, .long 0, .int 0, .int 0, .ref q_700_2, .ref q_700_3, .ref q_700_4, .ref q_700_5, .ref q_700_6, .ref q_700_7, .ref q_700_8, .ref q_700_9, .ref q_700_10, .ref q_700_11, .ref q_700_12, .ref q_700_13, .ref q_700_14, .ref q_700_15, .ref q_700_16, .ref q_700_17, .int 0, .int 0, .ref q_700_18, .ref q_700_19, .ref q_700_20, .ref q_700_21, .ref q_700_22, .ref q_700_23, .ref q_700_24, .ref q_700_25, .ref q_700_26, .ref q_700_27, .ref q_700_28, .ref q_700_29, .int 0, .long 0, .ref q_700_30, .ref q_700_31, .ref q_700_32, .ref q_700_33, .ref q_700_34, .ref q_700_35, .ref q_700_36, .ref q_700_37, .ref q_700_38, .ref q_700_39, .ref q_700_40, .ref q_700_41, .int 0, .int 0, .int 0, .int 0, .ref q_700_42, .ref q_700_43, .ref q_700_44, .ref q_700_45, .int 0, .ref q_700_46, .ref q_700_47, .int 0, .long 0])), (q_700_2, .inl (cy 1, 10, .inl (upd (fun _ => 0) 4 2)))] H := hP
  have hD : va_D A [(h_2, .inr (12, [.int 0, .int 0, .ref q_700_1, .int 0, .int 0, .int 0, .int 0, .long 0, .int 0, .int 0, .ref q_700_2, .ref q_700_3, .ref q_700_4, .ref q_700_5, .ref q_700_6, .ref q_700_7, .ref q_700_8, .ref q_700_9, .ref q_700_10, .ref q_700_11, .ref q_700_12, .ref q_700_13, .ref q_700_14, .ref q_700_15, .ref q_700_16, .ref q_700_17, .int 0, .int 0, .ref q_700_18, .ref q_700_19, .ref q_700_20, .ref q_700_21, .ref q_700_22, .ref q_700_23, .ref q_700_24, .ref q_700_25, .ref q_700_26, .ref q_700_27, .ref q_700_28, .ref q_700_29, .int 0, .long 0, .ref q_700_30, .ref q_700_31, .ref q_700_32, .ref q_700_33, .ref q_700_34, .ref q_700_35, .ref q_700_36, .ref q_700_37, .ref q_700_38, .ref q_700_39, .ref q_700_40, .ref q_700_41, .int 0, .int 0, .int 0, .int 0, .ref q_700_42, .ref q_700_43, .ref q_700_44, .ref q_700_45, .int 0, .ref q_700_46, .ref q_700_47, .int 0, .long 0])), (q_700_2, .inl (cy 1, 10, .inl (upd (fun _ => 0) 4 2)))] := hD
  refine lv_if_ne (tgt := 17) hx hb dX12_count_12 (by decide) (fun _ => ?_) (fun c_ => absurd c_ (by decide))
  refine lv_iload_n hx hb dX12_count_17 rfl (lv_at hl 1 rfl) ?_
  refine lv_iconst (v := 3) hx hb dX12_count_18 (by decide) ?_
  refine lv_icmp_ge (tgt := 29) hx hb dX12_count_19 (by decide) (fun _ => ?_) (fun c_ => absurd (by decide) c_)
  refine lv_iload_n hx hb dX12_count_29 rfl (lv_at hl 1 rfl) ?_
  refine lv_bipush (v := 6) hx hb dX12_count_30 (by decide) ?_
  refine lv_icmp_ge (tgt := 68) hx hb dX12_count_32 (by decide) (fun c_ => absurd c_ (by decide)) (fun _ => ?_)
  refine lv_iload_n hx hb dX12_count_35 rfl (lv_at hl 1 rfl) ?_
  refine lv_iconst (v := 3) hx hb dX12_count_36 (by decide) ?_
  refine lv_icmp_ne (tgt := 49) hx hb dX12_count_37 (by decide) (fun _ => ?_) (fun c_ => absurd c_ (by decide))
  refine lv_iload_n hx hb dX12_count_49 rfl (lv_at hl 1 rfl) ?_
  refine lv_iconst (v := 4) hx hb dX12_count_50 (by decide) ?_
  refine lv_icmp_ne (tgt := 63) hx hb dX12_count_51 (by decide) (fun _ => ?_) (fun c_ => absurd c_ (by decide))
  refine lv_aload_n hx hb dX12_count_63 rfl (lv_at hl 0 rfl) ?_
  refine x_i (wr := []) hP hD hS hA [0, 1] [] rfl rfl (by decide) (by decide) (va_runV (As := []) (rest := []) ⟨hx, hb, hml, hown, hts⟩ (c_X12_sitting_1 l D cy h_2 q_700_1 q_700_2 q_700_3 q_700_4 q_700_5 q_700_6 q_700_7 q_700_8 q_700_9 q_700_10 q_700_11 q_700_12 q_700_13 q_700_14 q_700_15 q_700_16 q_700_17 q_700_18 q_700_19 q_700_20 q_700_21 q_700_22 q_700_23 q_700_24 q_700_25 q_700_26 q_700_27 q_700_28 q_700_29 q_700_30 q_700_31 q_700_32 q_700_33 q_700_34 q_700_35 q_700_36 q_700_37 q_700_38 q_700_39 q_700_40 q_700_41 q_700_42 q_700_43 q_700_44 q_700_45 q_700_46 q_700_47 H.size) (cwV 0 hts (gV km_X12_431 ki_X12_sitting kz_X12_sitting kn_X12 kc_X12_sitting) rfl rfl rfl (by decide +kernel) ⟨(Nat.le_of_ble_eq_true rfl), (Nat.le_of_ble_eq_true rfl)⟩) (preV hG hP hD [0, 1] rfl (by decide) 12 0 rfl rfl) rfl rfl hl.1 rfl (lv_room (Nat.le_of_ble_eq_true rfl)) dX12_count_64 ⟨(Nat.le_of_ble_eq_true rfl), (Nat.le_of_ble_eq_true rfl)⟩) (fun r_2 H locs hB hj hS => ?_)
  obtain ⟨hres, hP1, hD1⟩ := hB
  subst hres
  obtain ⟨hP, hD⟩ := hj _ hP1 hD1
  have hP : va_P D vwCl [(h_2, .inr (12, [.int 0, .int 0, .ref q_700_1, .int 0, .int 0, .int 0, .int 0, .long 0, .int 0, .int 0, .ref q_700_2, .ref q_700_3, .ref q_700_4, .ref q_700_5, .ref q_700_6, .ref q_700_7, .ref q_700_8, .ref q_700_9, .ref q_700_10, .ref q_700_11, .ref q_700_12, .ref q_700_13, .ref q_700_14, .ref q_700_15, .ref q_700_16, .ref q_700_17, .int 0, .int 0, .ref q_700_18, .ref q_700_19, .ref q_700_20, .ref q_700_21, .ref q_700_22, .ref q_700_23, .ref q_700_24, .ref q_700_25, .ref q_700_26, .ref q_700_27, .ref q_700_28, .ref q_700_29, .int 0, .long 0, .ref q_700_30, .ref q_700_31, .ref q_700_32, .ref q_700_33, .ref q_700_34, .ref q_700_35, .ref q_700_36, .ref q_700_37, .ref q_700_38, .ref q_700_39, .ref q_700_40, .ref q_700_41, .int 0, .int 0, .int 0, .int 0, .ref q_700_42, .ref q_700_43, .ref q_700_44, .ref q_700_45, .int 0, .ref q_700_46, .ref q_700_47, .int 0, .long 0])), (q_700_2, .inl (cy 1, 10, .inl (upd (fun _ => 0) 4 2)))] H := hP
  have hD : va_D A [(h_2, .inr (12, [.int 0, .int 0, .ref q_700_1, .int 0, .int 0, .int 0, .int 0, .long 0, .int 0, .int 0, .ref q_700_2, .ref q_700_3, .ref q_700_4, .ref q_700_5, .ref q_700_6, .ref q_700_7, .ref q_700_8, .ref q_700_9, .ref q_700_10, .ref q_700_11, .ref q_700_12, .ref q_700_13, .ref q_700_14, .ref q_700_15, .ref q_700_16, .ref q_700_17, .int 0, .int 0, .ref q_700_18, .ref q_700_19, .ref q_700_20, .ref q_700_21, .ref q_700_22, .ref q_700_23, .ref q_700_24, .ref q_700_25, .ref q_700_26, .ref q_700_27, .ref q_700_28, .ref q_700_29, .int 0, .long 0, .ref q_700_30, .ref q_700_31, .ref q_700_32, .ref q_700_33, .ref q_700_34, .ref q_700_35, .ref q_700_36, .ref q_700_37, .ref q_700_38, .ref q_700_39, .ref q_700_40, .ref q_700_41, .int 0, .int 0, .int 0, .int 0, .ref q_700_42, .ref q_700_43, .ref q_700_44, .ref q_700_45, .int 0, .ref q_700_46, .ref q_700_47, .int 0, .long 0])), (q_700_2, .inl (cy 1, 10, .inl (upd (fun _ => 0) 4 2)))] := hD
  have hP9 := hP.sub (ws' := []) [] rfl
  have hD9 := hD.sub (ws' := []) [] (by decide) rfl
  subst hQ
  exact W.iret (v := 0) hx hb hr (fun t ht hW => qi_mk (by rw [ht]; exact ⟨rfl, hP9, hD9⟩) (hS.F ht)) hS.2.2 dX12_count_67
set_option maxHeartbeats 4000000 in
set_option maxRecDepth 100000 in
theorem c_X11_sum_1 (l : Launch) (D : va_G) (cy : Nat → ClassId) (q3_57 : Nat) (sz : Nat) : Met l yX11_sum (Cond.code yX11_sum cX11_sum 4 (some .int) :: bigG) ({ frames := 0, cells := 0, slots := 0, locals := 0 }) (pre D cy [.ref q3_57, .int 0] sz []) (qi (fun r h => r = 0 ∧ va_P D vwCl [] h ∧ va_D (va_A [] sz) []) (va_A [] sz)) 0 0 (va_A [] sz) := by
  refine Met.ofW (cc := cX11_sum) (maxL := 4) (ret := (some .int)) (by decide) rfl ?_
  intro p e s m args below meth c s₁ B hml hv
  obtain ⟨rfl, hsz, hP, hG, hD0⟩ := hv
  have hx := B.exec
  have hb := B.bytes
  have hr := B.returns
  have hts := atoms_spec (ws := (Cond.code yX11_sum cX11_sum 4 (some .int) :: bigG)) B.pre
  have hg : ∀ w ∈ bigG, w.before ([.ref q3_57, .int 0] : List Value).toArray s = true := fun w h => hts w (List.mem_cons_of_mem _ h)
  have hown : s.vm.findClass RX11 = some m.cls := findClass_of_methodNamed B.named
  have hlocks := B.notSynchronized
  subst hsz
  have hD := hD0.self (sz := s.heap.size)
  generalize hAe : va_A [] s.heap.size = A at hD ⊢
  have hA : ∀ q : Nat, s.heap.size ≤ q → A q := fun q h => by rw [← hAe]; exact Or.inr h
  have hS : va_S A s.heap s.heap [] := va_S.rf
  have hP : va_P D vwCl [] s.heap := hP
  have hl := lv_entry ([.ref q3_57, .int 0]) (n := 4) (Nat.le_of_ble_eq_true rfl)
  rw [lg_entry_eq]
  generalize (lg_sl ([.ref q3_57, .int 0]) ++ List.replicate (4 - (lg_sl ([.ref q3_57, .int 0])).length) Slot.unset).toArray = ls at hl ⊢
  have hl : lv_has ls 4 [(0, .ref q3_57), (1, .int 0)] := hl
  refine w_nm (fun Q hQ => ?_)
  refine lv_iconst (v := 0) hx hb dX11_sum_0 (by decide) ?_
  refine lv_istore_n (lv' := [(2, .int 0), (0, .ref q3_57), (1, .int 0)]) hx hb dX11_sum_1 rfl hl (by decide) rfl (fun ls hl => ?_)
  refine lv_iconst (v := 0) hx hb dX11_sum_2 (by decide) ?_
  refine lv_istore_n (lv' := [(3, .int 0), (2, .int 0), (0, .ref q3_57), (1, .int 0)]) hx hb dX11_sum_3 rfl hl (by decide) rfl (fun ls hl => ?_)
  refine lv_iload_n hx hb dX11_sum_4 rfl (lv_at hl 0 rfl) ?_
  refine lv_iload_n hx hb dX11_sum_5 rfl (lv_at hl 3 rfl) ?_
  refine lv_icmp_ge (tgt := 27) hx hb dX11_sum_6 (by decide) (fun _ => ?_) (fun c_ => absurd (by decide) c_)
  refine lv_iload_n hx hb dX11_sum_27 rfl (lv_at hl 1 rfl) ?_
  have hP9 := hP.sub (ws' := []) [] rfl
  have hD9 := hD.sub (ws' := []) [] (by decide) rfl
  subst hQ
  exact W.iret (v := 0) hx hb hr (fun t ht hW => qi_mk (by rw [ht]; exact ⟨rfl, hP9, hD9⟩) (hS.F ht)) hS.2.2 dX11_sum_28
set_option maxHeartbeats 4000000 in
set_option maxRecDepth 100000 in
theorem c_X11_count_7 (l : Launch) (D : va_G) (cy : Nat → ClassId) (h_1 : Nat) (q_1 : Nat) (q_3 : Nat) (q_4 : Nat) (q_25 : Nat) (q_46 : Nat) (q_50 : Nat) (q_54 : Nat) (q_58 : Nat) (q_62 : Nat) (q_63 : Nat) (q_64 : Nat) (q_67 : Nat) (q_85 : Nat) (q_90 : Nat) (q_93 : Nat) (q_1_5 : Nat) (q_2_6 : Nat) (q_3_7 : Nat) (q_4_8 : Nat) (q_5_9 : Nat) (q_6_10 : Nat) (q_7_11 : Nat) (q_8_12 : Nat) (q_9_13 : Nat) (q_10_14 : Nat) (q_11_15 : Nat) (q_12_16 : Nat) (q_13_17 : Nat) (q_18_18 : Nat) (q_19_19 : Nat) (q_20_20 : Nat) (q1_55 : Nat) (q2_56 : Nat) (q3_57 : Nat) (sz : Nat) : Met l yX11_count (Cond.code yX11_count cX11_count 2 (some .int) :: bigG) ({ frames := 1, cells := 0, slots := 0, locals := 23 }) (pre D cy [.ref h_1, .int 6] sz [(h_1, .inr (11, [.ref q_1, .ref q_3, .ref q_4, .ref q_25, .ref q_46, .ref q_50, .ref q_54, .ref q_58, .ref q_62, .int 0, .int 0, .ref q_63, .ref q_64, .ref q_67, .ref q_85, .ref q_90, .ref q_93])), (q_4, .inr (0, [.ref q_1_5, .ref q_2_6, .ref q_3_7, .ref q_4_8, .ref q_5_9, .ref q_6_10, .ref q_7_11, .ref q_8_12, .ref q_9_13, .ref q_10_14, .ref q_11_15, .ref q_12_16, .ref q_13_17, .int 0, .int 0, .int 0, .int 2, .ref q_18_18, .ref q_19_19, .ref q_20_20])), (q_54, .inr (8, [.int 0, .int 0, .int 0, .ref q1_55, .ref q2_56, .ref q3_57]))]) (qi (fun r h => r = 0 ∧ va_P D vwCl [] h ∧ va_D (va_A [(h_1, .inr (11, [.ref q_1, .ref q_3, .ref q_4, .ref q_25, .ref q_46, .ref q_50, .ref q_54, .ref q_58, .ref q_62, .int 0, .int 0, .ref q_63, .ref q_64, .ref q_67, .ref q_85, .ref q_90, .ref q_93])), (q_4, .inr (0, [.ref q_1_5, .ref q_2_6, .ref q_3_7, .ref q_4_8, .ref q_5_9, .ref q_6_10, .ref q_7_11, .ref q_8_12, .ref q_9_13, .ref q_10_14, .ref q_11_15, .ref q_12_16, .ref q_13_17, .int 0, .int 0, .int 0, .int 2, .ref q_18_18, .ref q_19_19, .ref q_20_20])), (q_54, .inr (8, [.int 0, .int 0, .int 0, .ref q1_55, .ref q2_56, .ref q3_57]))] sz) []) (va_A [(h_1, .inr (11, [.ref q_1, .ref q_3, .ref q_4, .ref q_25, .ref q_46, .ref q_50, .ref q_54, .ref q_58, .ref q_62, .int 0, .int 0, .ref q_63, .ref q_64, .ref q_67, .ref q_85, .ref q_90, .ref q_93])), (q_4, .inr (0, [.ref q_1_5, .ref q_2_6, .ref q_3_7, .ref q_4_8, .ref q_5_9, .ref q_6_10, .ref q_7_11, .ref q_8_12, .ref q_9_13, .ref q_10_14, .ref q_11_15, .ref q_12_16, .ref q_13_17, .int 0, .int 0, .int 0, .int 2, .ref q_18_18, .ref q_19_19, .ref q_20_20])), (q_54, .inr (8, [.int 0, .int 0, .int 0, .ref q1_55, .ref q2_56, .ref q3_57]))] sz)) 0 0 (va_A [(h_1, .inr (11, [.ref q_1, .ref q_3, .ref q_4, .ref q_25, .ref q_46, .ref q_50, .ref q_54, .ref q_58, .ref q_62, .int 0, .int 0, .ref q_63, .ref q_64, .ref q_67, .ref q_85, .ref q_90, .ref q_93])), (q_4, .inr (0, [.ref q_1_5, .ref q_2_6, .ref q_3_7, .ref q_4_8, .ref q_5_9, .ref q_6_10, .ref q_7_11, .ref q_8_12, .ref q_9_13, .ref q_10_14, .ref q_11_15, .ref q_12_16, .ref q_13_17, .int 0, .int 0, .int 0, .int 2, .ref q_18_18, .ref q_19_19, .ref q_20_20])), (q_54, .inr (8, [.int 0, .int 0, .int 0, .ref q1_55, .ref q2_56, .ref q3_57]))] sz) := by
  refine Met.ofW (cc := cX11_count) (maxL := 2) (ret := (some .int)) (by decide) rfl ?_
  intro p e s m args below meth c s₁ B hml hv
  obtain ⟨rfl, hsz, hP, hG, hD0⟩ := hv
  have hx := B.exec
  have hb := B.bytes
  have hr := B.returns
  have hts := atoms_spec (ws := (Cond.code yX11_count cX11_count 2 (some .int) :: bigG)) B.pre
  have hg : ∀ w ∈ bigG, w.before ([.ref h_1, .int 6] : List Value).toArray s = true := fun w h => hts w (List.mem_cons_of_mem _ h)
  have hown : s.vm.findClass RX11 = some m.cls := findClass_of_methodNamed B.named
  have hlocks := B.notSynchronized
  subst hsz
  have hD := hD0.self (sz := s.heap.size)
  generalize hAe : va_A [(h_1, .inr (11, [.ref q_1, .ref q_3, .ref q_4, .ref q_25, .ref q_46, .ref q_50, .ref q_54, .ref q_58, .ref q_62, .int 0, .int 0, .ref q_63, .ref q_64, .ref q_67, .ref q_85, .ref q_90, .ref q_93])), (q_4, .inr (0, [.ref q_1_5, .ref q_2_6, .ref q_3_7, .ref q_4_8, .ref q_5_9, .ref q_6_10, .ref q_7_11, .ref q_8_12, .ref q_9_13, .ref q_10_14, .ref q_11_15, .ref q_12_16, .ref q_13_17, .int 0, .int 0, .int 0, .int 2, .ref q_18_18, .ref q_19_19, .ref q_20_20])), (q_54, .inr (8, [.int 0, .int 0, .int 0, .ref q1_55, .ref q2_56, .ref q3_57]))] s.heap.size = A at hD ⊢
  have hA : ∀ q : Nat, s.heap.size ≤ q → A q := fun q h => by rw [← hAe]; exact Or.inr h
  have hS : va_S A s.heap s.heap [] := va_S.rf
  have hP : va_P D vwCl [(h_1, .inr (11, [.ref q_1, .ref q_3, .ref q_4, .ref q_25, .ref q_46, .ref q_50, .ref q_54, .ref q_58, .ref q_62, .int 0, .int 0, .ref q_63, .ref q_64, .ref q_67, .ref q_85, .ref q_90, .ref q_93])), (q_4, .inr (0, [.ref q_1_5, .ref q_2_6, .ref q_3_7, .ref q_4_8, .ref q_5_9, .ref q_6_10, .ref q_7_11, .ref q_8_12, .ref q_9_13, .ref q_10_14, .ref q_11_15, .ref q_12_16, .ref q_13_17, .int 0, .int 0, .int 0, .int 2, .ref q_18_18, .ref q_19_19, .ref q_20_20])), (q_54, .inr (8, [.int 0, .int 0, .int 0, .ref q1_55, .ref q2_56, .ref q3_57]))] s.heap := hP
  have hl := lv_entry ([.ref h_1, .int 6]) (n := 2) (Nat.le_of_ble_eq_true rfl)
  rw [lg_entry_eq]
  generalize (lg_sl ([.ref h_1, .int 6]) ++ List.replicate (2 - (lg_sl ([.ref h_1, .int 6])).length) Slot.unset).toArray = ls at hl ⊢
  have hl : lv_has ls 2 [(0, .ref h_1), (1, .int 6)] := hl
  refine w_nm (fun Q hQ => ?_)
  refine lv_iload_n hx hb dX11_count_0 rfl (lv_at hl 1 rfl) ?_
  refine lv_tableIn (off := 119) (tgt := 120) hx hb dX11_count_1 (by decide) (by decide) (by decide) (by decide) ?_
  refine lv_aload_n hx hb dX11_count_120 rfl (lv_at hl 0 rfl) ?_
  refine va_get (D := D) (ci := 11) (v := .ref q_54) (C := RX11) (T := TX11) (N := 17) hx hb hts (inC ibX11) hown hG.1 hP 0 rfl rfl 6 (by decide) (hg _ k_426) (fun _ h9 => h9) rfl dX11_count_121 ?_
  refine va_get (D := D) (ci := 8) (v := .ref q3_57) (C := RX8) (T := TX8) (N := 6) hx hb hts (inC ibX8) hown hG.1 hP 2 rfl rfl 5 (by decide) (hg _ k_273) (fun _ h9 => h9) rfl dX11_count_124 ?_
  refine lv_aload_n hx hb dX11_count_127 rfl (lv_at hl 0 rfl) ?_
  refine va_get (D := D) (ci := 11) (v := .ref q_4) (C := RX11) (T := TX11) (N := 17) hx hb hts (inC ibX11) hown hG.1 hP 0 rfl rfl 2 (by decide) (hg _ k_422) (fun _ h9 => h9) rfl dX11_count_128 ?_
  refine va_get (D := D) (ci := 0) (v := .int 0) (C := RX0) (T := TX0) (N := 20) hx hb hts (inC ibX0) hown hG.1 hP 1 rfl rfl 13 (by decide) (hg _ k_177) (fun _ h9 => h9) rfl dX11_count_131 ?_
  refine x_i (wr := [(h_1, .inr (11, [.ref q_1, .ref q_3, .ref q_4, .ref q_25, .ref q_46, .ref q_50, .ref q_54, .ref q_58, .ref q_62, .int 0, .int 0, .ref q_63, .ref q_64, .ref q_67, .ref q_85, .ref q_90, .ref q_93])), (q_4, .inr (0, [.ref q_1_5, .ref q_2_6, .ref q_3_7, .ref q_4_8, .ref q_5_9, .ref q_6_10, .ref q_7_11, .ref q_8_12, .ref q_9_13, .ref q_10_14, .ref q_11_15, .ref q_12_16, .ref q_13_17, .int 0, .int 0, .int 0, .int 2, .ref q_18_18, .ref q_19_19, .ref q_20_20])), (q_54, .inr (8, [.int 0, .int 0, .int 0, .ref q1_55, .ref q2_56, .ref q3_57]))]) hP hD hS hA [] [0, 1, 2] rfl rfl (by decide) (by decide) (va_runS (As := [.ref q3_57, .int 0]) (rest := []) ⟨hx, hb, hml, hown, hts⟩ (c_X11_sum_1 l D cy q3_57 s.heap.size) (va_cwS 2 hts (gS km_X11_321 kt_X11_sum kn_X11 kc_X11_sum) rfl rfl rfl (by decide +kernel) ⟨(Nat.le_of_ble_eq_true rfl), (Nat.le_of_ble_eq_true rfl)⟩) (preS hG hP hD [] rfl (by decide)) rfl rfl hl.1 rfl (lv_room (Nat.le_of_ble_eq_true rfl)) dX11_count_134 ⟨(Nat.le_of_ble_eq_true rfl), (Nat.le_of_ble_eq_true rfl)⟩) (fun r_1 H locs hB hj hS => ?_)
  obtain ⟨hres, hP1, hD1⟩ := hB
  subst hres
  obtain ⟨hP, hD⟩ := hj _ hP1 hD1
  have hP : va_P D vwCl [(h_1, .inr (11, [.ref q_1, .ref q_3, .ref q_4, .ref q_25, .ref q_46, .ref q_50, .ref q_54, .ref q_58, .ref q_62, .int 0, .int 0, .ref q_63, .ref q_64, .ref q_67, .ref q_85, .ref q_90, .ref q_93])), (q_4, .inr (0, [.ref q_1_5, .ref q_2_6, .ref q_3_7, .ref q_4_8, .ref q_5_9, .ref q_6_10, .ref q_7_11, .ref q_8_12, .ref q_9_13, .ref q_10_14, .ref q_11_15, .ref q_12_16, .ref q_13_17, .int 0, .int 0, .int 0, .int 2, .ref q_18_18, .ref q_19_19, .ref q_20_20])), (q_54, .inr (8, [.int 0, .int 0, .int 0, .ref q1_55, .ref q2_56, .ref q3_57]))] H := hP
  have hD : va_D A [(h_1, .inr (11, [.ref q_1, .ref q_3, .ref q_4, .ref q_25, .ref q_46, .ref q_50, .ref q_54, .ref q_58, .ref q_62, .int 0, .int 0, .ref q_63, .ref q_64, .ref q_67, .ref q_85, .ref q_90, .ref q_93])), (q_4, .inr (0, [.ref q_1_5, .ref q_2_6, .ref q_3_7, .ref q_4_8, .ref q_5_9, .ref q_6_10, .ref q_7_11, .ref q_8_12, .ref q_9_13, .ref q_10_14, .ref q_11_15, .ref q_12_16, .ref q_13_17, .int 0, .int 0, .int 0, .int 2, .ref q_18_18, .ref q_19_19, .ref q_20_20])), (q_54, .inr (8, [.int 0, .int 0, .int 0, .ref q1_55, .ref q2_56, .ref q3_57]))] := hD
  have hP9 := hP.sub (ws' := []) [] rfl
  have hD9 := hD.sub (ws' := []) [] (by decide) rfl
  subst hQ
  exact W.iret (v := 0) hx hb hr (fun t ht hW => qi_mk (by rw [ht]; exact ⟨rfl, hP9, hD9⟩) (hS.F ht)) hS.2.2 dX11_count_137
set_option maxHeartbeats 4000000 in
set_option maxRecDepth 100000 in
theorem c_X12_within_26 (l : Launch) (D : va_G) (cy : Nat → ClassId) (sz : Nat) : Met l yX12_within (Cond.code yX12_within cX12_within 3 (some .boolean) :: bigG) ({ frames := 0, cells := 0, slots := 0, locals := 0 }) (pre D cy [.int 6, .int 0, .int 12] sz []) (qi (fun r h => r = 1 ∧ va_P D vwCl [] h ∧ va_D (va_A [] sz) []) (va_A [] sz)) 0 0 (va_A [] sz) := by
  refine Met.ofW (cc := cX12_within) (maxL := 3) (ret := (some .boolean)) (by decide) rfl ?_
  intro p e s m args below meth c s₁ B hml hv
  obtain ⟨rfl, hsz, hP, hG, hD0⟩ := hv
  have hx := B.exec
  have hb := B.bytes
  have hr := B.returns
  have hts := atoms_spec (ws := (Cond.code yX12_within cX12_within 3 (some .boolean) :: bigG)) B.pre
  have hg : ∀ w ∈ bigG, w.before ([.int 6, .int 0, .int 12] : List Value).toArray s = true := fun w h => hts w (List.mem_cons_of_mem _ h)
  have hown : s.vm.findClass RX12 = some m.cls := findClass_of_methodNamed B.named
  have hlocks := B.notSynchronized
  subst hsz
  have hD := hD0.self (sz := s.heap.size)
  generalize hAe : va_A [] s.heap.size = A at hD ⊢
  have hA : ∀ q : Nat, s.heap.size ≤ q → A q := fun q h => by rw [← hAe]; exact Or.inr h
  have hS : va_S A s.heap s.heap [] := va_S.rf
  have hP : va_P D vwCl [] s.heap := hP
  have hl := lv_entry ([.int 6, .int 0, .int 12]) (n := 3) (Nat.le_of_ble_eq_true rfl)
  rw [lg_entry_eq]
  generalize (lg_sl ([.int 6, .int 0, .int 12]) ++ List.replicate (3 - (lg_sl ([.int 6, .int 0, .int 12])).length) Slot.unset).toArray = ls at hl ⊢
  have hl : lv_has ls 3 [(0, .int 6), (1, .int 0), (2, .int 12)] := hl
  refine w_nm (fun Q hQ => ?_)
  refine lv_iload_n hx hb dX12_within_0 rfl (lv_at hl 0 rfl) ?_
  refine lv_iload_n hx hb dX12_within_1 rfl (lv_at hl 1 rfl) ?_
  refine lv_icmp_lt (tgt := 14) hx hb dX12_within_2 (by decide) (fun c_ => absurd c_ (by decide)) (fun _ => ?_)
  refine lv_iload_n hx hb dX12_within_5 rfl (lv_at hl 0 rfl) ?_
  refine lv_iload_n hx hb dX12_within_6 rfl (lv_at hl 2 rfl) ?_
  refine lv_icmp_gt (tgt := 14) hx hb dX12_within_7 (by decide) (fun c_ => absurd c_ (by decide)) (fun _ => ?_)
  refine lv_iconst (v := 1) hx hb dX12_within_10 (by decide) ?_
  refine lv_goto (tgt := 15) hx hb dX12_within_11 (by decide) ?_
  have hP9 := hP.sub (ws' := []) [] rfl
  have hD9 := hD.sub (ws' := []) [] (by decide) rfl
  subst hQ
  exact W.zret (v := 1) hx hb hr rfl (fun t ht hW => qi_mk (by rw [ht]; exact ⟨rfl, hP9, hD9⟩) (hS.F ht)) hS.2.2 dX12_within_15
set_option maxHeartbeats 4000000 in
set_option maxRecDepth 100000 in
theorem c_X12_sum_3 (l : Launch) (D : va_G) (cy : Nat → ClassId) (q_700_36 : Nat) (sz : Nat) : Met l yX12_sum (Cond.code yX12_sum cX12_sum 4 (some .int) :: bigG) ({ frames := 0, cells := 0, slots := 0, locals := 0 }) (pre D cy [.ref q_700_36, .int 15] sz [(q_700_36, .inl (cy 1, 21, .inl (upd (upd (upd (upd (upd (upd (fun _ => 0) 9 (-1)) 10 (-1)) 11 (-1)) 12 (-1)) 13 (-1)) 14 (-1))))]) (qi (fun r h => r = 0 ∧ va_P D vwCl [(q_700_36, .inl (cy 1, 21, .inl (upd (upd (upd (upd (upd (upd (fun _ => 0) 9 (-1)) 10 (-1)) 11 (-1)) 12 (-1)) 13 (-1)) 14 (-1))))] h ∧ va_D (va_A [(q_700_36, .inl (cy 1, 21, .inl (upd (upd (upd (upd (upd (upd (fun _ => 0) 9 (-1)) 10 (-1)) 11 (-1)) 12 (-1)) 13 (-1)) 14 (-1))))] sz) [(q_700_36, .inl (cy 1, 21, .inl (upd (upd (upd (upd (upd (upd (fun _ => 0) 9 (-1)) 10 (-1)) 11 (-1)) 12 (-1)) 13 (-1)) 14 (-1))))]) (va_A [(q_700_36, .inl (cy 1, 21, .inl (upd (upd (upd (upd (upd (upd (fun _ => 0) 9 (-1)) 10 (-1)) 11 (-1)) 12 (-1)) 13 (-1)) 14 (-1))))] sz)) 0 0 (va_A [(q_700_36, .inl (cy 1, 21, .inl (upd (upd (upd (upd (upd (upd (fun _ => 0) 9 (-1)) 10 (-1)) 11 (-1)) 12 (-1)) 13 (-1)) 14 (-1))))] sz) := by
  refine Met.ofW (cc := cX12_sum) (maxL := 4) (ret := (some .int)) (by decide) rfl ?_
  intro p e s m args below meth c s₁ B hml hv
  obtain ⟨rfl, hsz, hP, hG, hD0⟩ := hv
  have hx := B.exec
  have hb := B.bytes
  have hr := B.returns
  have hts := atoms_spec (ws := (Cond.code yX12_sum cX12_sum 4 (some .int) :: bigG)) B.pre
  have hg : ∀ w ∈ bigG, w.before ([.ref q_700_36, .int 15] : List Value).toArray s = true := fun w h => hts w (List.mem_cons_of_mem _ h)
  have hown : s.vm.findClass RX12 = some m.cls := findClass_of_methodNamed B.named
  have hlocks := B.notSynchronized
  subst hsz
  have hD := hD0.self (sz := s.heap.size)
  generalize hAe : va_A [(q_700_36, .inl (cy 1, 21, .inl (upd (upd (upd (upd (upd (upd (fun _ => 0) 9 (-1)) 10 (-1)) 11 (-1)) 12 (-1)) 13 (-1)) 14 (-1))))] s.heap.size = A at hD ⊢
  have hA : ∀ q : Nat, s.heap.size ≤ q → A q := fun q h => by rw [← hAe]; exact Or.inr h
  have hS : va_S A s.heap s.heap [] := va_S.rf
  have hP : va_P D vwCl [(q_700_36, .inl (cy 1, 21, .inl (upd (upd (upd (upd (upd (upd (fun _ => 0) 9 (-1)) 10 (-1)) 11 (-1)) 12 (-1)) 13 (-1)) 14 (-1))))] s.heap := hP
  have hl := lv_entry ([.ref q_700_36, .int 15]) (n := 4) (Nat.le_of_ble_eq_true rfl)
  rw [lg_entry_eq]
  generalize (lg_sl ([.ref q_700_36, .int 15]) ++ List.replicate (4 - (lg_sl ([.ref q_700_36, .int 15])).length) Slot.unset).toArray = ls at hl ⊢
  have hl : lv_has ls 4 [(0, .ref q_700_36), (1, .int 15)] := hl
  refine w_nm (fun Q hQ => ?_)
  refine lv_iconst (v := 0) hx hb dX12_sum_0 (by decide) ?_
  refine lv_istore_n (lv' := [(2, .int 0), (0, .ref q_700_36), (1, .int 15)]) hx hb dX12_sum_1 rfl hl (by decide) rfl (fun ls hl => ?_)
  refine lv_iload_n hx hb dX12_sum_2 rfl (lv_at hl 2 rfl) ?_
  refine lv_istore_n (lv' := [(3, .int 15), (2, .int 0), (0, .ref q_700_36), (1, .int 15)]) hx hb dX12_sum_3 rfl hl (by decide) rfl (fun ls hl => ?_)
  refine lv_iload_n hx hb dX12_sum_4 rfl (lv_at hl 0 rfl) ?_
  refine lv_iload_n hx hb dX12_sum_5 rfl (lv_at hl 3 rfl) ?_
  refine lv_bipush (v := 6) hx hb dX12_sum_6 (by decide) ?_
  refine m_iadd (v := 21) hx hb dX12_sum_8 (by decide) ?_
  refine lv_icmp_ge (tgt := 24) hx hb dX12_sum_9 (by decide) (fun c_ => absurd c_ (by decide)) (fun _ => ?_)
  refine lv_iload_n hx hb dX12_sum_12 rfl (lv_at hl 1 rfl) ?_
  refine lv_aload_n hx hb dX12_sum_13 rfl (lv_at hl 2 rfl) ?_
  refine lv_iload_n hx hb dX12_sum_14 rfl (lv_at hl 0 rfl) ?_
  refine m_iald (v := 0) hx hb hG hP 0 rfl (vin (by decide)) dX12_sum_15 rfl ?_
  refine m_iadd (v := 0) hx hb dX12_sum_16 (by decide) ?_
  refine lv_istore_n (lv' := [(2, .int 0), (3, .int 15), (0, .ref q_700_36), (1, .int 15)]) hx hb dX12_sum_17 rfl hl (by decide) rfl (fun ls hl => ?_)
  refine lv_iinc (v := 16) (lv' := [(3, .int 16), (2, .int 0), (0, .ref q_700_36), (1, .int 15)]) hx hb dX12_sum_18 hl (k := 1) rfl (by decide) (by decide) rfl (fun ls hl => ?_)
  refine lv_goto (tgt := 4) hx hb dX12_sum_21 (by decide) ?_
  refine lv_iload_n hx hb dX12_sum_4 rfl (lv_at hl 0 rfl) ?_
  refine lv_iload_n hx hb dX12_sum_5 rfl (lv_at hl 3 rfl) ?_
  refine lv_bipush (v := 6) hx hb dX12_sum_6 (by decide) ?_
  refine m_iadd (v := 21) hx hb dX12_sum_8 (by decide) ?_
  refine lv_icmp_ge (tgt := 24) hx hb dX12_sum_9 (by decide) (fun c_ => absurd c_ (by decide)) (fun _ => ?_)
  refine lv_iload_n hx hb dX12_sum_12 rfl (lv_at hl 1 rfl) ?_
  refine lv_aload_n hx hb dX12_sum_13 rfl (lv_at hl 2 rfl) ?_
  refine lv_iload_n hx hb dX12_sum_14 rfl (lv_at hl 0 rfl) ?_
  refine m_iald (v := 0) hx hb hG hP 0 rfl (vin (by decide)) dX12_sum_15 rfl ?_
  refine m_iadd (v := 0) hx hb dX12_sum_16 (by decide) ?_
  refine lv_istore_n (lv' := [(2, .int 0), (3, .int 16), (0, .ref q_700_36), (1, .int 15)]) hx hb dX12_sum_17 rfl hl (by decide) rfl (fun ls hl => ?_)
  refine lv_iinc (v := 17) (lv' := [(3, .int 17), (2, .int 0), (0, .ref q_700_36), (1, .int 15)]) hx hb dX12_sum_18 hl (k := 1) rfl (by decide) (by decide) rfl (fun ls hl => ?_)
  refine lv_goto (tgt := 4) hx hb dX12_sum_21 (by decide) ?_
  refine lv_iload_n hx hb dX12_sum_4 rfl (lv_at hl 0 rfl) ?_
  refine lv_iload_n hx hb dX12_sum_5 rfl (lv_at hl 3 rfl) ?_
  refine lv_bipush (v := 6) hx hb dX12_sum_6 (by decide) ?_
  refine m_iadd (v := 21) hx hb dX12_sum_8 (by decide) ?_
  refine lv_icmp_ge (tgt := 24) hx hb dX12_sum_9 (by decide) (fun c_ => absurd c_ (by decide)) (fun _ => ?_)
  refine lv_iload_n hx hb dX12_sum_12 rfl (lv_at hl 1 rfl) ?_
  refine lv_aload_n hx hb dX12_sum_13 rfl (lv_at hl 2 rfl) ?_
  refine lv_iload_n hx hb dX12_sum_14 rfl (lv_at hl 0 rfl) ?_
  refine m_iald (v := 0) hx hb hG hP 0 rfl (vin (by decide)) dX12_sum_15 rfl ?_
  refine m_iadd (v := 0) hx hb dX12_sum_16 (by decide) ?_
  refine lv_istore_n (lv' := [(2, .int 0), (3, .int 17), (0, .ref q_700_36), (1, .int 15)]) hx hb dX12_sum_17 rfl hl (by decide) rfl (fun ls hl => ?_)
  refine lv_iinc (v := 18) (lv' := [(3, .int 18), (2, .int 0), (0, .ref q_700_36), (1, .int 15)]) hx hb dX12_sum_18 hl (k := 1) rfl (by decide) (by decide) rfl (fun ls hl => ?_)
  refine lv_goto (tgt := 4) hx hb dX12_sum_21 (by decide) ?_
  refine lv_iload_n hx hb dX12_sum_4 rfl (lv_at hl 0 rfl) ?_
  refine lv_iload_n hx hb dX12_sum_5 rfl (lv_at hl 3 rfl) ?_
  refine lv_bipush (v := 6) hx hb dX12_sum_6 (by decide) ?_
  refine m_iadd (v := 21) hx hb dX12_sum_8 (by decide) ?_
  refine lv_icmp_ge (tgt := 24) hx hb dX12_sum_9 (by decide) (fun c_ => absurd c_ (by decide)) (fun _ => ?_)
  refine lv_iload_n hx hb dX12_sum_12 rfl (lv_at hl 1 rfl) ?_
  refine lv_aload_n hx hb dX12_sum_13 rfl (lv_at hl 2 rfl) ?_
  refine lv_iload_n hx hb dX12_sum_14 rfl (lv_at hl 0 rfl) ?_
  refine m_iald (v := 0) hx hb hG hP 0 rfl (vin (by decide)) dX12_sum_15 rfl ?_
  refine m_iadd (v := 0) hx hb dX12_sum_16 (by decide) ?_
  refine lv_istore_n (lv' := [(2, .int 0), (3, .int 18), (0, .ref q_700_36), (1, .int 15)]) hx hb dX12_sum_17 rfl hl (by decide) rfl (fun ls hl => ?_)
  refine lv_iinc (v := 19) (lv' := [(3, .int 19), (2, .int 0), (0, .ref q_700_36), (1, .int 15)]) hx hb dX12_sum_18 hl (k := 1) rfl (by decide) (by decide) rfl (fun ls hl => ?_)
  refine lv_goto (tgt := 4) hx hb dX12_sum_21 (by decide) ?_
  refine lv_iload_n hx hb dX12_sum_4 rfl (lv_at hl 0 rfl) ?_
  refine lv_iload_n hx hb dX12_sum_5 rfl (lv_at hl 3 rfl) ?_
  refine lv_bipush (v := 6) hx hb dX12_sum_6 (by decide) ?_
  refine m_iadd (v := 21) hx hb dX12_sum_8 (by decide) ?_
  refine lv_icmp_ge (tgt := 24) hx hb dX12_sum_9 (by decide) (fun c_ => absurd c_ (by decide)) (fun _ => ?_)
  refine lv_iload_n hx hb dX12_sum_12 rfl (lv_at hl 1 rfl) ?_
  refine lv_aload_n hx hb dX12_sum_13 rfl (lv_at hl 2 rfl) ?_
  refine lv_iload_n hx hb dX12_sum_14 rfl (lv_at hl 0 rfl) ?_
  refine m_iald (v := 0) hx hb hG hP 0 rfl (vin (by decide)) dX12_sum_15 rfl ?_
  refine m_iadd (v := 0) hx hb dX12_sum_16 (by decide) ?_
  refine lv_istore_n (lv' := [(2, .int 0), (3, .int 19), (0, .ref q_700_36), (1, .int 15)]) hx hb dX12_sum_17 rfl hl (by decide) rfl (fun ls hl => ?_)
  refine lv_iinc (v := 20) (lv' := [(3, .int 20), (2, .int 0), (0, .ref q_700_36), (1, .int 15)]) hx hb dX12_sum_18 hl (k := 1) rfl (by decide) (by decide) rfl (fun ls hl => ?_)
  refine lv_goto (tgt := 4) hx hb dX12_sum_21 (by decide) ?_
  refine lv_iload_n hx hb dX12_sum_4 rfl (lv_at hl 0 rfl) ?_
  refine lv_iload_n hx hb dX12_sum_5 rfl (lv_at hl 3 rfl) ?_
  refine lv_bipush (v := 6) hx hb dX12_sum_6 (by decide) ?_
  refine m_iadd (v := 21) hx hb dX12_sum_8 (by decide) ?_
  refine lv_icmp_ge (tgt := 24) hx hb dX12_sum_9 (by decide) (fun c_ => absurd c_ (by decide)) (fun _ => ?_)
  refine lv_iload_n hx hb dX12_sum_12 rfl (lv_at hl 1 rfl) ?_
  refine lv_aload_n hx hb dX12_sum_13 rfl (lv_at hl 2 rfl) ?_
  refine lv_iload_n hx hb dX12_sum_14 rfl (lv_at hl 0 rfl) ?_
  refine m_iald (v := 0) hx hb hG hP 0 rfl (vin (by decide)) dX12_sum_15 rfl ?_
  refine m_iadd (v := 0) hx hb dX12_sum_16 (by decide) ?_
  refine lv_istore_n (lv' := [(2, .int 0), (3, .int 20), (0, .ref q_700_36), (1, .int 15)]) hx hb dX12_sum_17 rfl hl (by decide) rfl (fun ls hl => ?_)
  refine lv_iinc (v := 21) (lv' := [(3, .int 21), (2, .int 0), (0, .ref q_700_36), (1, .int 15)]) hx hb dX12_sum_18 hl (k := 1) rfl (by decide) (by decide) rfl (fun ls hl => ?_)
  refine lv_goto (tgt := 4) hx hb dX12_sum_21 (by decide) ?_
  refine lv_iload_n hx hb dX12_sum_4 rfl (lv_at hl 0 rfl) ?_
  refine lv_iload_n hx hb dX12_sum_5 rfl (lv_at hl 3 rfl) ?_
  refine lv_bipush (v := 6) hx hb dX12_sum_6 (by decide) ?_
  refine m_iadd (v := 21) hx hb dX12_sum_8 (by decide) ?_
  refine lv_icmp_ge (tgt := 24) hx hb dX12_sum_9 (by decide) (fun _ => ?_) (fun c_ => absurd (by decide) c_)
  refine lv_iload_n hx hb dX12_sum_24 rfl (lv_at hl 1 rfl) ?_
  have hP9 := hP.sub (ws' := [(q_700_36, .inl (cy 1, 21, .inl (upd (upd (upd (upd (upd (upd (fun _ => 0) 9 (-1)) 10 (-1)) 11 (-1)) 12 (-1)) 13 (-1)) 14 (-1))))]) [0] rfl
  have hD9 := hD.sub (ws' := [(q_700_36, .inl (cy 1, 21, .inl (upd (upd (upd (upd (upd (upd (fun _ => 0) 9 (-1)) 10 (-1)) 11 (-1)) 12 (-1)) 13 (-1)) 14 (-1))))]) [0] (by decide) rfl
  subst hQ
  exact W.iret (v := 0) hx hb hr (fun t ht hW => qi_mk (by rw [ht]; exact ⟨rfl, hP9, hD9⟩) (hS.F ht)) hS.2.2 dX12_sum_25
set_option maxHeartbeats 4000000 in
set_option maxRecDepth 100000 in
theorem c_X12_count_7 (l : Launch) (D : va_G) (cy : Nat → ClassId) (h_2 : Nat) (q_700_1 : Nat) (q_700_2 : Nat) (q_700_3 : Nat) (q_700_4 : Nat) (q_700_5 : Nat) (q_700_6 : Nat) (q_700_7 : Nat) (q_700_8 : Nat) (q_700_9 : Nat) (q_700_10 : Nat) (q_700_11 : Nat) (q_700_12 : Nat) (q_700_13 : Nat) (q_700_14 : Nat) (q_700_15 : Nat) (q_700_16 : Nat) (q_700_17 : Nat) (q_700_18 : Nat) (q_700_19 : Nat) (q_700_20 : Nat) (q_700_21 : Nat) (q_700_22 : Nat) (q_700_23 : Nat) (q_700_24 : Nat) (q_700_25 : Nat) (q_700_26 : Nat) (q_700_27 : Nat) (q_700_28 : Nat) (q_700_29 : Nat) (q_700_30 : Nat) (q_700_31 : Nat) (q_700_32 : Nat) (q_700_33 : Nat) (q_700_34 : Nat) (q_700_35 : Nat) (q_700_36 : Nat) (q_700_37 : Nat) (q_700_38 : Nat) (q_700_39 : Nat) (q_700_40 : Nat) (q_700_41 : Nat) (q_700_42 : Nat) (q_700_43 : Nat) (q_700_44 : Nat) (q_700_45 : Nat) (q_700_46 : Nat) (q_700_47 : Nat) (sz : Nat) : Met l yX12_count (Cond.code yX12_count cX12_count 2 (some .int) :: bigG) ({ frames := 1, cells := 0, slots := 0, locals := 23 }) (pre D cy [.ref h_2, .int 6] sz [(h_2, .inr (12, [.int 0, .int 0, .ref q_700_1, .int 0, .int 0, .int 0, .int 0, .long 0, .int 0, .int 0, .ref q_700_2, .ref q_700_3, .ref q_700_4, .ref q_700_5, .ref q_700_6, .ref q_700_7, .ref q_700_8, .ref q_700_9, .ref q_700_10, .ref q_700_11, .ref q_700_12, .ref q_700_13, .ref q_700_14, .ref q_700_15, .ref q_700_16, .ref q_700_17, .int 0, .int 0, .ref q_700_18, .ref q_700_19, .ref q_700_20, .ref q_700_21, .ref q_700_22, .ref q_700_23, .ref q_700_24, .ref q_700_25, .ref q_700_26, .ref q_700_27, .ref q_700_28, .ref q_700_29, .int 0, .long 0, .ref q_700_30, .ref q_700_31, .ref q_700_32, .ref q_700_33, .ref q_700_34, .ref q_700_35, .ref q_700_36, .ref q_700_37, .ref q_700_38, .ref q_700_39, .ref q_700_40, .ref q_700_41, .int 0, .int 0, .int 0, .int 0, .ref q_700_42, .ref q_700_43, .ref q_700_44, .ref q_700_45, .int 0, .ref q_700_46, .ref q_700_47, .int 0, .long 0])), (q_700_36, .inl (cy 1, 21, .inl (upd (upd (upd (upd (upd (upd (fun _ => 0) 9 (-1)) 10 (-1)) 11 (-1)) 12 (-1)) 13 (-1)) 14 (-1))))]) (qi (fun r h => r = 0 ∧ va_P D vwCl [] h ∧ va_D (va_A [(h_2, .inr (12, [.int 0, .int 0, .ref q_700_1, .int 0, .int 0, .int 0, .int 0, .long 0, .int 0, .int 0, .ref q_700_2, .ref q_700_3, .ref q_700_4, .ref q_700_5, .ref q_700_6, .ref q_700_7, .ref q_700_8, .ref q_700_9, .ref q_700_10, .ref q_700_11, .ref q_700_12, .ref q_700_13, .ref q_700_14, .ref q_700_15, .ref q_700_16, .ref q_700_17, .int 0, .int 0, .ref q_700_18, .ref q_700_19, .ref q_700_20, .ref q_700_21, .ref q_700_22, .ref q_700_23, .ref q_700_24, .ref q_700_25, .ref q_700_26, .ref q_700_27, .ref q_700_28, .ref q_700_29, .int 0, .long 0, .ref q_700_30, .ref q_700_31, .ref q_700_32, .ref q_700_33, .ref q_700_34, .ref q_700_35, .ref q_700_36, .ref q_700_37, .ref q_700_38, .ref q_700_39, .ref q_700_40, .ref q_700_41, .int 0, .int 0, .int 0, .int 0, .ref q_700_42, .ref q_700_43, .ref q_700_44, .ref q_700_45, .int 0, .ref q_700_46, .ref q_700_47, .int 0, .long 0])), (q_700_36, .inl (cy 1, 21, .inl (upd (upd (upd (upd (upd (upd (fun _ => 0) 9 (-1)) 10 (-1)) 11 (-1)) 12 (-1)) 13 (-1)) 14 (-1))))] sz) []) (va_A [(h_2, .inr (12, [.int 0, .int 0, .ref q_700_1, .int 0, .int 0, .int 0, .int 0, .long 0, .int 0, .int 0, .ref q_700_2, .ref q_700_3, .ref q_700_4, .ref q_700_5, .ref q_700_6, .ref q_700_7, .ref q_700_8, .ref q_700_9, .ref q_700_10, .ref q_700_11, .ref q_700_12, .ref q_700_13, .ref q_700_14, .ref q_700_15, .ref q_700_16, .ref q_700_17, .int 0, .int 0, .ref q_700_18, .ref q_700_19, .ref q_700_20, .ref q_700_21, .ref q_700_22, .ref q_700_23, .ref q_700_24, .ref q_700_25, .ref q_700_26, .ref q_700_27, .ref q_700_28, .ref q_700_29, .int 0, .long 0, .ref q_700_30, .ref q_700_31, .ref q_700_32, .ref q_700_33, .ref q_700_34, .ref q_700_35, .ref q_700_36, .ref q_700_37, .ref q_700_38, .ref q_700_39, .ref q_700_40, .ref q_700_41, .int 0, .int 0, .int 0, .int 0, .ref q_700_42, .ref q_700_43, .ref q_700_44, .ref q_700_45, .int 0, .ref q_700_46, .ref q_700_47, .int 0, .long 0])), (q_700_36, .inl (cy 1, 21, .inl (upd (upd (upd (upd (upd (upd (fun _ => 0) 9 (-1)) 10 (-1)) 11 (-1)) 12 (-1)) 13 (-1)) 14 (-1))))] sz)) 0 0 (va_A [(h_2, .inr (12, [.int 0, .int 0, .ref q_700_1, .int 0, .int 0, .int 0, .int 0, .long 0, .int 0, .int 0, .ref q_700_2, .ref q_700_3, .ref q_700_4, .ref q_700_5, .ref q_700_6, .ref q_700_7, .ref q_700_8, .ref q_700_9, .ref q_700_10, .ref q_700_11, .ref q_700_12, .ref q_700_13, .ref q_700_14, .ref q_700_15, .ref q_700_16, .ref q_700_17, .int 0, .int 0, .ref q_700_18, .ref q_700_19, .ref q_700_20, .ref q_700_21, .ref q_700_22, .ref q_700_23, .ref q_700_24, .ref q_700_25, .ref q_700_26, .ref q_700_27, .ref q_700_28, .ref q_700_29, .int 0, .long 0, .ref q_700_30, .ref q_700_31, .ref q_700_32, .ref q_700_33, .ref q_700_34, .ref q_700_35, .ref q_700_36, .ref q_700_37, .ref q_700_38, .ref q_700_39, .ref q_700_40, .ref q_700_41, .int 0, .int 0, .int 0, .int 0, .ref q_700_42, .ref q_700_43, .ref q_700_44, .ref q_700_45, .int 0, .ref q_700_46, .ref q_700_47, .int 0, .long 0])), (q_700_36, .inl (cy 1, 21, .inl (upd (upd (upd (upd (upd (upd (fun _ => 0) 9 (-1)) 10 (-1)) 11 (-1)) 12 (-1)) 13 (-1)) 14 (-1))))] sz) := by
  refine Met.ofW (cc := cX12_count) (maxL := 2) (ret := (some .int)) (by decide) rfl ?_
  intro p e s m args below meth c s₁ B hml hv
  obtain ⟨rfl, hsz, hP, hG, hD0⟩ := hv
  have hx := B.exec
  have hb := B.bytes
  have hr := B.returns
  have hts := atoms_spec (ws := (Cond.code yX12_count cX12_count 2 (some .int) :: bigG)) B.pre
  have hg : ∀ w ∈ bigG, w.before ([.ref h_2, .int 6] : List Value).toArray s = true := fun w h => hts w (List.mem_cons_of_mem _ h)
  have hown : s.vm.findClass RX12 = some m.cls := findClass_of_methodNamed B.named
  have hlocks := B.notSynchronized
  subst hsz
  have hD := hD0.self (sz := s.heap.size)
  generalize hAe : va_A [(h_2, .inr (12, [.int 0, .int 0, .ref q_700_1, .int 0, .int 0, .int 0, .int 0, .long 0, .int 0, .int 0, .ref q_700_2, .ref q_700_3, .ref q_700_4, .ref q_700_5, .ref q_700_6, .ref q_700_7, .ref q_700_8, .ref q_700_9, .ref q_700_10, .ref q_700_11, .ref q_700_12, .ref q_700_13, .ref q_700_14, .ref q_700_15, .ref q_700_16, .ref q_700_17, .int 0, .int 0, .ref q_700_18, .ref q_700_19, .ref q_700_20, .ref q_700_21, .ref q_700_22, .ref q_700_23, .ref q_700_24, .ref q_700_25, .ref q_700_26, .ref q_700_27, .ref q_700_28, .ref q_700_29, .int 0, .long 0, .ref q_700_30, .ref q_700_31, .ref q_700_32, .ref q_700_33, .ref q_700_34, .ref q_700_35, .ref q_700_36, .ref q_700_37, .ref q_700_38, .ref q_700_39, .ref q_700_40, .ref q_700_41, .int 0, .int 0, .int 0, .int 0, .ref q_700_42, .ref q_700_43, .ref q_700_44, .ref q_700_45, .int 0, .ref q_700_46, .ref q_700_47, .int 0, .long 0])), (q_700_36, .inl (cy 1, 21, .inl (upd (upd (upd (upd (upd (upd (fun _ => 0) 9 (-1)) 10 (-1)) 11 (-1)) 12 (-1)) 13 (-1)) 14 (-1))))] s.heap.size = A at hD ⊢
  have hA : ∀ q : Nat, s.heap.size ≤ q → A q := fun q h => by rw [← hAe]; exact Or.inr h
  have hS : va_S A s.heap s.heap [] := va_S.rf
  have hP : va_P D vwCl [(h_2, .inr (12, [.int 0, .int 0, .ref q_700_1, .int 0, .int 0, .int 0, .int 0, .long 0, .int 0, .int 0, .ref q_700_2, .ref q_700_3, .ref q_700_4, .ref q_700_5, .ref q_700_6, .ref q_700_7, .ref q_700_8, .ref q_700_9, .ref q_700_10, .ref q_700_11, .ref q_700_12, .ref q_700_13, .ref q_700_14, .ref q_700_15, .ref q_700_16, .ref q_700_17, .int 0, .int 0, .ref q_700_18, .ref q_700_19, .ref q_700_20, .ref q_700_21, .ref q_700_22, .ref q_700_23, .ref q_700_24, .ref q_700_25, .ref q_700_26, .ref q_700_27, .ref q_700_28, .ref q_700_29, .int 0, .long 0, .ref q_700_30, .ref q_700_31, .ref q_700_32, .ref q_700_33, .ref q_700_34, .ref q_700_35, .ref q_700_36, .ref q_700_37, .ref q_700_38, .ref q_700_39, .ref q_700_40, .ref q_700_41, .int 0, .int 0, .int 0, .int 0, .ref q_700_42, .ref q_700_43, .ref q_700_44, .ref q_700_45, .int 0, .ref q_700_46, .ref q_700_47, .int 0, .long 0])), (q_700_36, .inl (cy 1, 21, .inl (upd (upd (upd (upd (upd (upd (fun _ => 0) 9 (-1)) 10 (-1)) 11 (-1)) 12 (-1)) 13 (-1)) 14 (-1))))] s.heap := hP
  have hl := lv_entry ([.ref h_2, .int 6]) (n := 2) (Nat.le_of_ble_eq_true rfl)
  rw [lg_entry_eq]
  generalize (lg_sl ([.ref h_2, .int 6]) ++ List.replicate (2 - (lg_sl ([.ref h_2, .int 6])).length) Slot.unset).toArray = ls at hl ⊢
  have hl : lv_has ls 2 [(0, .ref h_2), (1, .int 6)] := hl
  refine w_nm (fun Q hQ => ?_)
  refine lv_aload_n hx hb dX12_count_0 rfl (lv_at hl 0 rfl) ?_
  refine lv_iconst (v := 0) hx hb dX12_count_1 (by decide) ?_
  refine va_put (D := D) (ci := 12) (v := .int 0) (ty := .int) (C := RX12) (T := TX12) (N := 67) hx hb hts (inC ibX12) tyX12 tyX12_ok nmX12 hown hG.1 hP hD hS 0 rfl rfl 0 (by decide) (hg _ k_1315) (fun _ h9 => h9) rfl (by decide +kernel) rfl rfl (Nat.le_of_ble_eq_true rfl) dX12_count_2 (fun H locs hP hD hS => ?_)
  have hP : va_P D vwCl [(h_2, .inr (12, [.int 0, .int 0, .ref q_700_1, .int 0, .int 0, .int 0, .int 0, .long 0, .int 0, .int 0, .ref q_700_2, .ref q_700_3, .ref q_700_4, .ref q_700_5, .ref q_700_6, .ref q_700_7, .ref q_700_8, .ref q_700_9, .ref q_700_10, .ref q_700_11, .ref q_700_12, .ref q_700_13, .ref q_700_14, .ref q_700_15, .ref q_700_16, .ref q_700_17, .int 0, .int 0, .ref q_700_18, .ref q_700_19, .ref q_700_20, .ref q_700_21, .ref q_700_22, .ref q_700_23, .ref q_700_24, .ref q_700_25, .ref q_700_26, .ref q_700_27, .ref q_700_28, .ref q_700_29, .int 0, .long 0, .ref q_700_30, .ref q_700_31, .ref q_700_32, .ref q_700_33, .ref q_700_34, .ref q_700_35, .ref q_700_36, .ref q_700_37, .ref q_700_38, .ref q_700_39, .ref q_700_40, .ref q_700_41, .int 0, .int 0, .int 0, .int 0, .ref q_700_42, .ref q_700_43, .ref q_700_44, .ref q_700_45, .int 0, .ref q_700_46, .ref q_700_47, .int 0, .long 0])), (q_700_36, .inl (cy 1, 21, .inl (upd (upd (upd (upd (upd (upd (fun _ => 0) 9 (-1)) 10 (-1)) 11 (-1)) 12 (-1)) 13 (-1)) 14 (-1))))] H := hP
  have hD : va_D A [(h_2, .inr (12, [.int 0, .int 0, .ref q_700_1, .int 0, .int 0, .int 0, .int 0, .long 0, .int 0, .int 0, .ref q_700_2, .ref q_700_3, .ref q_700_4, .ref q_700_5, .ref q_700_6, .ref q_700_7, .ref q_700_8, .ref q_700_9, .ref q_700_10, .ref q_700_11, .ref q_700_12, .ref q_700_13, .ref q_700_14, .ref q_700_15, .ref q_700_16, .ref q_700_17, .int 0, .int 0, .ref q_700_18, .ref q_700_19, .ref q_700_20, .ref q_700_21, .ref q_700_22, .ref q_700_23, .ref q_700_24, .ref q_700_25, .ref q_700_26, .ref q_700_27, .ref q_700_28, .ref q_700_29, .int 0, .long 0, .ref q_700_30, .ref q_700_31, .ref q_700_32, .ref q_700_33, .ref q_700_34, .ref q_700_35, .ref q_700_36, .ref q_700_37, .ref q_700_38, .ref q_700_39, .ref q_700_40, .ref q_700_41, .int 0, .int 0, .int 0, .int 0, .ref q_700_42, .ref q_700_43, .ref q_700_44, .ref q_700_45, .int 0, .ref q_700_46, .ref q_700_47, .int 0, .long 0])), (q_700_36, .inl (cy 1, 21, .inl (upd (upd (upd (upd (upd (upd (fun _ => 0) 9 (-1)) 10 (-1)) 11 (-1)) 12 (-1)) 13 (-1)) 14 (-1))))] := hD
  refine lv_iload_n hx hb dX12_count_5 rfl (lv_at hl 1 rfl) ?_
  refine lv_iconst (v := 0) hx hb dX12_count_6 (by decide) ?_
  refine lv_bipush (v := 12) hx hb dX12_count_7 (by decide) ?_
  refine x_i (wr := [(h_2, .inr (12, [.int 0, .int 0, .ref q_700_1, .int 0, .int 0, .int 0, .int 0, .long 0, .int 0, .int 0, .ref q_700_2, .ref q_700_3, .ref q_700_4, .ref q_700_5, .ref q_700_6, .ref q_700_7, .ref q_700_8, .ref q_700_9, .ref q_700_10, .ref q_700_11, .ref q_700_12, .ref q_700_13, .ref q_700_14, .ref q_700_15, .ref q_700_16, .ref q_700_17, .int 0, .int 0, .ref q_700_18, .ref q_700_19, .ref q_700_20, .ref q_700_21, .ref q_700_22, .ref q_700_23, .ref q_700_24, .ref q_700_25, .ref q_700_26, .ref q_700_27, .ref q_700_28, .ref q_700_29, .int 0, .long 0, .ref q_700_30, .ref q_700_31, .ref q_700_32, .ref q_700_33, .ref q_700_34, .ref q_700_35, .ref q_700_36, .ref q_700_37, .ref q_700_38, .ref q_700_39, .ref q_700_40, .ref q_700_41, .int 0, .int 0, .int 0, .int 0, .ref q_700_42, .ref q_700_43, .ref q_700_44, .ref q_700_45, .int 0, .ref q_700_46, .ref q_700_47, .int 0, .long 0])), (q_700_36, .inl (cy 1, 21, .inl (upd (upd (upd (upd (upd (upd (fun _ => 0) 9 (-1)) 10 (-1)) 11 (-1)) 12 (-1)) 13 (-1)) 14 (-1))))]) hP hD hS hA [] [0, 1] rfl rfl (by decide) (by decide) (va_runS (As := [.int 6, .int 0, .int 12]) (rest := []) ⟨hx, hb, hml, hown, hts⟩ (c_X12_within_26 l D cy  H.size) (va_cwS 3 hts (gS km_X12_293 kt_X12_within kn_X12 kc_X12_within) rfl rfl rfl (by decide +kernel) ⟨(Nat.le_of_ble_eq_true rfl), (Nat.le_of_ble_eq_true rfl)⟩) (preS hG hP hD [] rfl (by decide)) rfl rfl hl.1 rfl (lv_room (Nat.le_of_ble_eq_true rfl)) dX12_count_9 ⟨(Nat.le_of_ble_eq_true rfl), (Nat.le_of_ble_eq_true rfl)⟩) (fun r_1 H locs hB hj hS => ?_)
  obtain ⟨hres, hP1, hD1⟩ := hB
  subst hres
  obtain ⟨hP, hD⟩ := hj _ hP1 hD1
  have hP : va_P D vwCl [(h_2, .inr (12, [.int 0, .int 0, .ref q_700_1, .int 0, .int 0, .int 0, .int 0, .long 0, .int 0, .int 0, .ref q_700_2, .ref q_700_3, .ref q_700_4, .ref q_700_5, .ref q_700_6, .ref q_700_7, .ref q_700_8, .ref q_700_9, .ref q_700_10, .ref q_700_11, .ref q_700_12, .ref q_700_13, .ref q_700_14, .ref q_700_15, .ref q_700_16, .ref q_700_17, .int 0, .int 0, .ref q_700_18, .ref q_700_19, .ref q_700_20, .ref q_700_21, .ref q_700_22, .ref q_700_23, .ref q_700_24, .ref q_700_25, .ref q_700_26, .ref q_700_27, .ref q_700_28, .ref q_700_29, .int 0, .long 0, .ref q_700_30, .ref q_700_31, .ref q_700_32, .ref q_700_33, .ref q_700_34, .ref q_700_35, .ref q_700_36, .ref q_700_37, .ref q_700_38, .ref q_700_39, .ref q_700_40, .ref q_700_41, .int 0, .int 0, .int 0, .int 0, .ref q_700_42, .ref q_700_43, .ref q_700_44, .ref q_700_45, .int 0, .ref q_700_46, .ref q_700_47, .int 0, .long 0])), (q_700_36, .inl (cy 1, 21, .inl (upd (upd (upd (upd (upd (upd (fun _ => 0) 9 (-1)) 10 (-1)) 11 (-1)) 12 (-1)) 13 (-1)) 14 (-1))))] H := hP
  have hD : va_D A [(h_2, .inr (12, [.int 0, .int 0, .ref q_700_1, .int 0, .int 0, .int 0, .int 0, .long 0, .int 0, .int 0, .ref q_700_2, .ref q_700_3, .ref q_700_4, .ref q_700_5, .ref q_700_6, .ref q_700_7, .ref q_700_8, .ref q_700_9, .ref q_700_10, .ref q_700_11, .ref q_700_12, .ref q_700_13, .ref q_700_14, .ref q_700_15, .ref q_700_16, .ref q_700_17, .int 0, .int 0, .ref q_700_18, .ref q_700_19, .ref q_700_20, .ref q_700_21, .ref q_700_22, .ref q_700_23, .ref q_700_24, .ref q_700_25, .ref q_700_26, .ref q_700_27, .ref q_700_28, .ref q_700_29, .int 0, .long 0, .ref q_700_30, .ref q_700_31, .ref q_700_32, .ref q_700_33, .ref q_700_34, .ref q_700_35, .ref q_700_36, .ref q_700_37, .ref q_700_38, .ref q_700_39, .ref q_700_40, .ref q_700_41, .int 0, .int 0, .int 0, .int 0, .ref q_700_42, .ref q_700_43, .ref q_700_44, .ref q_700_45, .int 0, .ref q_700_46, .ref q_700_47, .int 0, .long 0])), (q_700_36, .inl (cy 1, 21, .inl (upd (upd (upd (upd (upd (upd (fun _ => 0) 9 (-1)) 10 (-1)) 11 (-1)) 12 (-1)) 13 (-1)) 14 (-1))))] := hD
  refine lv_if_ne (tgt := 17) hx hb dX12_count_12 (by decide) (fun _ => ?_) (fun c_ => absurd c_ (by decide))
  refine lv_iload_n hx hb dX12_count_17 rfl (lv_at hl 1 rfl) ?_
  refine lv_iconst (v := 3) hx hb dX12_count_18 (by decide) ?_
  refine lv_icmp_ge (tgt := 29) hx hb dX12_count_19 (by decide) (fun _ => ?_) (fun c_ => absurd (by decide) c_)
  refine lv_iload_n hx hb dX12_count_29 rfl (lv_at hl 1 rfl) ?_
  refine lv_bipush (v := 6) hx hb dX12_count_30 (by decide) ?_
  refine lv_icmp_ge (tgt := 68) hx hb dX12_count_32 (by decide) (fun _ => ?_) (fun c_ => absurd (by decide) c_)
  refine lv_iload_n hx hb dX12_count_68 rfl (lv_at hl 1 rfl) ?_
  refine lv_bipush (v := 8) hx hb dX12_count_69 (by decide) ?_
  refine lv_icmp_ge (tgt := 99) hx hb dX12_count_71 (by decide) (fun c_ => absurd c_ (by decide)) (fun _ => ?_)
  refine lv_iload_n hx hb dX12_count_74 rfl (lv_at hl 1 rfl) ?_
  refine lv_bipush (v := 6) hx hb dX12_count_75 (by decide) ?_
  refine lv_icmp_ne (tgt := 92) hx hb dX12_count_77 (by decide) (fun c_ => absurd rfl c_) (fun _ => ?_)
  refine lv_aload_n hx hb dX12_count_80 rfl (lv_at hl 0 rfl) ?_
  refine va_get (D := D) (ci := 12) (v := .ref q_700_36) (C := RX12) (T := TX12) (N := 67) hx hb hts (inC ibX12) hown hG.1 hP 0 rfl rfl 48 (by decide) (hg _ k_1363) (fun _ h9 => h9) rfl dX12_count_81 ?_
  refine lv_bipush (v := 15) hx hb dX12_count_84 (by decide) ?_
  refine x_i (wr := [(h_2, .inr (12, [.int 0, .int 0, .ref q_700_1, .int 0, .int 0, .int 0, .int 0, .long 0, .int 0, .int 0, .ref q_700_2, .ref q_700_3, .ref q_700_4, .ref q_700_5, .ref q_700_6, .ref q_700_7, .ref q_700_8, .ref q_700_9, .ref q_700_10, .ref q_700_11, .ref q_700_12, .ref q_700_13, .ref q_700_14, .ref q_700_15, .ref q_700_16, .ref q_700_17, .int 0, .int 0, .ref q_700_18, .ref q_700_19, .ref q_700_20, .ref q_700_21, .ref q_700_22, .ref q_700_23, .ref q_700_24, .ref q_700_25, .ref q_700_26, .ref q_700_27, .ref q_700_28, .ref q_700_29, .int 0, .long 0, .ref q_700_30, .ref q_700_31, .ref q_700_32, .ref q_700_33, .ref q_700_34, .ref q_700_35, .ref q_700_36, .ref q_700_37, .ref q_700_38, .ref q_700_39, .ref q_700_40, .ref q_700_41, .int 0, .int 0, .int 0, .int 0, .ref q_700_42, .ref q_700_43, .ref q_700_44, .ref q_700_45, .int 0, .ref q_700_46, .ref q_700_47, .int 0, .long 0]))]) hP hD hS hA [1] [0] rfl rfl (by decide) (by decide) (va_runS (As := [.ref q_700_36, .int 15]) (rest := []) ⟨hx, hb, hml, hown, hts⟩ (c_X12_sum_3 l D cy q_700_36 H.size) (va_cwS 2 hts (gS km_X12_541 kt_X12_sum kn_X12 kc_X12_sum) rfl rfl rfl (by decide +kernel) ⟨(Nat.le_of_ble_eq_true rfl), (Nat.le_of_ble_eq_true rfl)⟩) (preS hG hP hD [1] rfl (by decide)) rfl rfl hl.1 rfl (lv_room (Nat.le_of_ble_eq_true rfl)) dX12_count_86 ⟨(Nat.le_of_ble_eq_true rfl), (Nat.le_of_ble_eq_true rfl)⟩) (fun r_2 H locs hB hj hS => ?_)
  obtain ⟨hres, hP1, hD1⟩ := hB
  subst hres
  obtain ⟨hP, hD⟩ := hj _ hP1 hD1
  have hP : va_P D vwCl [(h_2, .inr (12, [.int 0, .int 0, .ref q_700_1, .int 0, .int 0, .int 0, .int 0, .long 0, .int 0, .int 0, .ref q_700_2, .ref q_700_3, .ref q_700_4, .ref q_700_5, .ref q_700_6, .ref q_700_7, .ref q_700_8, .ref q_700_9, .ref q_700_10, .ref q_700_11, .ref q_700_12, .ref q_700_13, .ref q_700_14, .ref q_700_15, .ref q_700_16, .ref q_700_17, .int 0, .int 0, .ref q_700_18, .ref q_700_19, .ref q_700_20, .ref q_700_21, .ref q_700_22, .ref q_700_23, .ref q_700_24, .ref q_700_25, .ref q_700_26, .ref q_700_27, .ref q_700_28, .ref q_700_29, .int 0, .long 0, .ref q_700_30, .ref q_700_31, .ref q_700_32, .ref q_700_33, .ref q_700_34, .ref q_700_35, .ref q_700_36, .ref q_700_37, .ref q_700_38, .ref q_700_39, .ref q_700_40, .ref q_700_41, .int 0, .int 0, .int 0, .int 0, .ref q_700_42, .ref q_700_43, .ref q_700_44, .ref q_700_45, .int 0, .ref q_700_46, .ref q_700_47, .int 0, .long 0])), (q_700_36, .inl (cy 1, 21, .inl (upd (upd (upd (upd (upd (upd (fun _ => 0) 9 (-1)) 10 (-1)) 11 (-1)) 12 (-1)) 13 (-1)) 14 (-1))))] H := hP
  have hD : va_D A [(h_2, .inr (12, [.int 0, .int 0, .ref q_700_1, .int 0, .int 0, .int 0, .int 0, .long 0, .int 0, .int 0, .ref q_700_2, .ref q_700_3, .ref q_700_4, .ref q_700_5, .ref q_700_6, .ref q_700_7, .ref q_700_8, .ref q_700_9, .ref q_700_10, .ref q_700_11, .ref q_700_12, .ref q_700_13, .ref q_700_14, .ref q_700_15, .ref q_700_16, .ref q_700_17, .int 0, .int 0, .ref q_700_18, .ref q_700_19, .ref q_700_20, .ref q_700_21, .ref q_700_22, .ref q_700_23, .ref q_700_24, .ref q_700_25, .ref q_700_26, .ref q_700_27, .ref q_700_28, .ref q_700_29, .int 0, .long 0, .ref q_700_30, .ref q_700_31, .ref q_700_32, .ref q_700_33, .ref q_700_34, .ref q_700_35, .ref q_700_36, .ref q_700_37, .ref q_700_38, .ref q_700_39, .ref q_700_40, .ref q_700_41, .int 0, .int 0, .int 0, .int 0, .ref q_700_42, .ref q_700_43, .ref q_700_44, .ref q_700_45, .int 0, .ref q_700_46, .ref q_700_47, .int 0, .long 0])), (q_700_36, .inl (cy 1, 21, .inl (upd (upd (upd (upd (upd (upd (fun _ => 0) 9 (-1)) 10 (-1)) 11 (-1)) 12 (-1)) 13 (-1)) 14 (-1))))] := hD
  refine lv_goto (tgt := 98) hx hb dX12_count_89 (by decide) ?_
  have hP9 := hP.sub (ws' := []) [] rfl
  have hD9 := hD.sub (ws' := []) [] (by decide) rfl
  subst hQ
  exact W.iret (v := 0) hx hb hr (fun t ht hW => qi_mk (by rw [ht]; exact ⟨rfl, hP9, hD9⟩) (hS.F ht)) hS.2.2 dX12_count_98
set_option maxHeartbeats 4000000 in
set_option maxRecDepth 100000 in
theorem c_X11_count_8 (l : Launch) (D : va_G) (cy : Nat → ClassId) (h_1 : Nat) (q_1 : Nat) (q_3 : Nat) (q_4 : Nat) (q_25 : Nat) (q_46 : Nat) (q_50 : Nat) (q_54 : Nat) (q_58 : Nat) (q_62 : Nat) (q_63 : Nat) (q_64 : Nat) (q_67 : Nat) (q_85 : Nat) (q_90 : Nat) (q_93 : Nat) (q1_55 : Nat) (q2_56 : Nat) (q3_57 : Nat) (sz : Nat) : Met l yX11_count (Cond.code yX11_count cX11_count 2 (some .int) :: bigG) ({ frames := 0, cells := 0, slots := 0, locals := 0 }) (pre D cy [.ref h_1, .int 7] sz [(h_1, .inr (11, [.ref q_1, .ref q_3, .ref q_4, .ref q_25, .ref q_46, .ref q_50, .ref q_54, .ref q_58, .ref q_62, .int 0, .int 0, .ref q_63, .ref q_64, .ref q_67, .ref q_85, .ref q_90, .ref q_93])), (q_54, .inr (8, [.int 0, .int 0, .int 0, .ref q1_55, .ref q2_56, .ref q3_57]))]) (qi (fun r h => r = 0 ∧ va_P D vwCl [] h ∧ va_D (va_A [(h_1, .inr (11, [.ref q_1, .ref q_3, .ref q_4, .ref q_25, .ref q_46, .ref q_50, .ref q_54, .ref q_58, .ref q_62, .int 0, .int 0, .ref q_63, .ref q_64, .ref q_67, .ref q_85, .ref q_90, .ref q_93])), (q_54, .inr (8, [.int 0, .int 0, .int 0, .ref q1_55, .ref q2_56, .ref q3_57]))] sz) []) (va_A [(h_1, .inr (11, [.ref q_1, .ref q_3, .ref q_4, .ref q_25, .ref q_46, .ref q_50, .ref q_54, .ref q_58, .ref q_62, .int 0, .int 0, .ref q_63, .ref q_64, .ref q_67, .ref q_85, .ref q_90, .ref q_93])), (q_54, .inr (8, [.int 0, .int 0, .int 0, .ref q1_55, .ref q2_56, .ref q3_57]))] sz)) 0 0 (va_A [(h_1, .inr (11, [.ref q_1, .ref q_3, .ref q_4, .ref q_25, .ref q_46, .ref q_50, .ref q_54, .ref q_58, .ref q_62, .int 0, .int 0, .ref q_63, .ref q_64, .ref q_67, .ref q_85, .ref q_90, .ref q_93])), (q_54, .inr (8, [.int 0, .int 0, .int 0, .ref q1_55, .ref q2_56, .ref q3_57]))] sz) := by
  refine Met.ofW (cc := cX11_count) (maxL := 2) (ret := (some .int)) (by decide) rfl ?_
  intro p e s m args below meth c s₁ B hml hv
  obtain ⟨rfl, hsz, hP, hG, hD0⟩ := hv
  have hx := B.exec
  have hb := B.bytes
  have hr := B.returns
  have hts := atoms_spec (ws := (Cond.code yX11_count cX11_count 2 (some .int) :: bigG)) B.pre
  have hg : ∀ w ∈ bigG, w.before ([.ref h_1, .int 7] : List Value).toArray s = true := fun w h => hts w (List.mem_cons_of_mem _ h)
  have hown : s.vm.findClass RX11 = some m.cls := findClass_of_methodNamed B.named
  have hlocks := B.notSynchronized
  subst hsz
  have hD := hD0.self (sz := s.heap.size)
  generalize hAe : va_A [(h_1, .inr (11, [.ref q_1, .ref q_3, .ref q_4, .ref q_25, .ref q_46, .ref q_50, .ref q_54, .ref q_58, .ref q_62, .int 0, .int 0, .ref q_63, .ref q_64, .ref q_67, .ref q_85, .ref q_90, .ref q_93])), (q_54, .inr (8, [.int 0, .int 0, .int 0, .ref q1_55, .ref q2_56, .ref q3_57]))] s.heap.size = A at hD ⊢
  have hA : ∀ q : Nat, s.heap.size ≤ q → A q := fun q h => by rw [← hAe]; exact Or.inr h
  have hS : va_S A s.heap s.heap [] := va_S.rf
  have hP : va_P D vwCl [(h_1, .inr (11, [.ref q_1, .ref q_3, .ref q_4, .ref q_25, .ref q_46, .ref q_50, .ref q_54, .ref q_58, .ref q_62, .int 0, .int 0, .ref q_63, .ref q_64, .ref q_67, .ref q_85, .ref q_90, .ref q_93])), (q_54, .inr (8, [.int 0, .int 0, .int 0, .ref q1_55, .ref q2_56, .ref q3_57]))] s.heap := hP
  have hl := lv_entry ([.ref h_1, .int 7]) (n := 2) (Nat.le_of_ble_eq_true rfl)
  rw [lg_entry_eq]
  generalize (lg_sl ([.ref h_1, .int 7]) ++ List.replicate (2 - (lg_sl ([.ref h_1, .int 7])).length) Slot.unset).toArray = ls at hl ⊢
  have hl : lv_has ls 2 [(0, .ref h_1), (1, .int 7)] := hl
  refine w_nm (fun Q hQ => ?_)
  refine lv_iload_n hx hb dX11_count_0 rfl (lv_at hl 1 rfl) ?_
  refine lv_tableIn (off := 137) (tgt := 138) hx hb dX11_count_1 (by decide) (by decide) (by decide) (by decide) ?_
  refine lv_aload_n hx hb dX11_count_138 rfl (lv_at hl 0 rfl) ?_
  refine va_get (D := D) (ci := 11) (v := .ref q_54) (C := RX11) (T := TX11) (N := 17) hx hb hts (inC ibX11) hown hG.1 hP 0 rfl rfl 6 (by decide) (hg _ k_426) (fun _ h9 => h9) rfl dX11_count_139 ?_
  refine va_get (D := D) (ci := 8) (v := .int 0) (C := RX8) (T := TX8) (N := 6) hx hb hts (inC ibX8) hown hG.1 hP 1 rfl rfl 2 (by decide) (hg _ k_265) (fun _ h9 => h9) rfl dX11_count_142 ?_
  have hP9 := hP.sub (ws' := []) [] rfl
  have hD9 := hD.sub (ws' := []) [] (by decide) rfl
  subst hQ
  exact W.iret (v := 0) hx hb hr (fun t ht hW => qi_mk (by rw [ht]; exact ⟨rfl, hP9, hD9⟩) (hS.F ht)) hS.2.2 dX11_count_145
set_option maxHeartbeats 4000000 in
set_option maxRecDepth 100000 in
theorem c_X12_within_27 (l : Launch) (D : va_G) (cy : Nat → ClassId) (sz : Nat) : Met l yX12_within (Cond.code yX12_within cX12_within 3 (some .boolean) :: bigG) ({ frames := 0, cells := 0, slots := 0, locals := 0 }) (pre D cy [.int 7, .int 0, .int 12] sz []) (qi (fun r h => r = 1 ∧ va_P D vwCl [] h ∧ va_D (va_A [] sz) []) (va_A [] sz)) 0 0 (va_A [] sz) := by
  refine Met.ofW (cc := cX12_within) (maxL := 3) (ret := (some .boolean)) (by decide) rfl ?_
  intro p e s m args below meth c s₁ B hml hv
  obtain ⟨rfl, hsz, hP, hG, hD0⟩ := hv
  have hx := B.exec
  have hb := B.bytes
  have hr := B.returns
  have hts := atoms_spec (ws := (Cond.code yX12_within cX12_within 3 (some .boolean) :: bigG)) B.pre
  have hg : ∀ w ∈ bigG, w.before ([.int 7, .int 0, .int 12] : List Value).toArray s = true := fun w h => hts w (List.mem_cons_of_mem _ h)
  have hown : s.vm.findClass RX12 = some m.cls := findClass_of_methodNamed B.named
  have hlocks := B.notSynchronized
  subst hsz
  have hD := hD0.self (sz := s.heap.size)
  generalize hAe : va_A [] s.heap.size = A at hD ⊢
  have hA : ∀ q : Nat, s.heap.size ≤ q → A q := fun q h => by rw [← hAe]; exact Or.inr h
  have hS : va_S A s.heap s.heap [] := va_S.rf
  have hP : va_P D vwCl [] s.heap := hP
  have hl := lv_entry ([.int 7, .int 0, .int 12]) (n := 3) (Nat.le_of_ble_eq_true rfl)
  rw [lg_entry_eq]
  generalize (lg_sl ([.int 7, .int 0, .int 12]) ++ List.replicate (3 - (lg_sl ([.int 7, .int 0, .int 12])).length) Slot.unset).toArray = ls at hl ⊢
  have hl : lv_has ls 3 [(0, .int 7), (1, .int 0), (2, .int 12)] := hl
  refine w_nm (fun Q hQ => ?_)
  refine lv_iload_n hx hb dX12_within_0 rfl (lv_at hl 0 rfl) ?_
  refine lv_iload_n hx hb dX12_within_1 rfl (lv_at hl 1 rfl) ?_
  refine lv_icmp_lt (tgt := 14) hx hb dX12_within_2 (by decide) (fun c_ => absurd c_ (by decide)) (fun _ => ?_)
  refine lv_iload_n hx hb dX12_within_5 rfl (lv_at hl 0 rfl) ?_
  refine lv_iload_n hx hb dX12_within_6 rfl (lv_at hl 2 rfl) ?_
  refine lv_icmp_gt (tgt := 14) hx hb dX12_within_7 (by decide) (fun c_ => absurd c_ (by decide)) (fun _ => ?_)
  refine lv_iconst (v := 1) hx hb dX12_within_10 (by decide) ?_
  refine lv_goto (tgt := 15) hx hb dX12_within_11 (by decide) ?_
  have hP9 := hP.sub (ws' := []) [] rfl
  have hD9 := hD.sub (ws' := []) [] (by decide) rfl
  subst hQ
  exact W.zret (v := 1) hx hb hr rfl (fun t ht hW => qi_mk (by rw [ht]; exact ⟨rfl, hP9, hD9⟩) (hS.F ht)) hS.2.2 dX12_within_15
set_option maxHeartbeats 4000000 in
set_option maxRecDepth 100000 in
theorem c_X12_count_8 (l : Launch) (D : va_G) (cy : Nat → ClassId) (h_2 : Nat) (q_700_1 : Nat) (q_700_2 : Nat) (q_700_3 : Nat) (q_700_4 : Nat) (q_700_5 : Nat) (q_700_6 : Nat) (q_700_7 : Nat) (q_700_8 : Nat) (q_700_9 : Nat) (q_700_10 : Nat) (q_700_11 : Nat) (q_700_12 : Nat) (q_700_13 : Nat) (q_700_14 : Nat) (q_700_15 : Nat) (q_700_16 : Nat) (q_700_17 : Nat) (q_700_18 : Nat) (q_700_19 : Nat) (q_700_20 : Nat) (q_700_21 : Nat) (q_700_22 : Nat) (q_700_23 : Nat) (q_700_24 : Nat) (q_700_25 : Nat) (q_700_26 : Nat) (q_700_27 : Nat) (q_700_28 : Nat) (q_700_29 : Nat) (q_700_30 : Nat) (q_700_31 : Nat) (q_700_32 : Nat) (q_700_33 : Nat) (q_700_34 : Nat) (q_700_35 : Nat) (q_700_36 : Nat) (q_700_37 : Nat) (q_700_38 : Nat) (q_700_39 : Nat) (q_700_40 : Nat) (q_700_41 : Nat) (q_700_42 : Nat) (q_700_43 : Nat) (q_700_44 : Nat) (q_700_45 : Nat) (q_700_46 : Nat) (q_700_47 : Nat) (sz : Nat) : Met l yX12_count (Cond.code yX12_count cX12_count 2 (some .int) :: bigG) ({ frames := 1, cells := 0, slots := 0, locals := 22 }) (pre D cy [.ref h_2, .int 7] sz [(h_2, .inr (12, [.int 0, .int 0, .ref q_700_1, .int 0, .int 0, .int 0, .int 0, .long 0, .int 0, .int 0, .ref q_700_2, .ref q_700_3, .ref q_700_4, .ref q_700_5, .ref q_700_6, .ref q_700_7, .ref q_700_8, .ref q_700_9, .ref q_700_10, .ref q_700_11, .ref q_700_12, .ref q_700_13, .ref q_700_14, .ref q_700_15, .ref q_700_16, .ref q_700_17, .int 0, .int 0, .ref q_700_18, .ref q_700_19, .ref q_700_20, .ref q_700_21, .ref q_700_22, .ref q_700_23, .ref q_700_24, .ref q_700_25, .ref q_700_26, .ref q_700_27, .ref q_700_28, .ref q_700_29, .int 0, .long 0, .ref q_700_30, .ref q_700_31, .ref q_700_32, .ref q_700_33, .ref q_700_34, .ref q_700_35, .ref q_700_36, .ref q_700_37, .ref q_700_38, .ref q_700_39, .ref q_700_40, .ref q_700_41, .int 0, .int 0, .int 0, .int 0, .ref q_700_42, .ref q_700_43, .ref q_700_44, .ref q_700_45, .int 0, .ref q_700_46, .ref q_700_47, .int 0, .long 0])), (q_700_36, .inl (cy 1, 21, .inl (upd (upd (upd (upd (upd (upd (fun _ => 0) 9 (-1)) 10 (-1)) 11 (-1)) 12 (-1)) 13 (-1)) 14 (-1))))]) (qi (fun r h => r = 0 ∧ va_P D vwCl [] h ∧ va_D (va_A [(h_2, .inr (12, [.int 0, .int 0, .ref q_700_1, .int 0, .int 0, .int 0, .int 0, .long 0, .int 0, .int 0, .ref q_700_2, .ref q_700_3, .ref q_700_4, .ref q_700_5, .ref q_700_6, .ref q_700_7, .ref q_700_8, .ref q_700_9, .ref q_700_10, .ref q_700_11, .ref q_700_12, .ref q_700_13, .ref q_700_14, .ref q_700_15, .ref q_700_16, .ref q_700_17, .int 0, .int 0, .ref q_700_18, .ref q_700_19, .ref q_700_20, .ref q_700_21, .ref q_700_22, .ref q_700_23, .ref q_700_24, .ref q_700_25, .ref q_700_26, .ref q_700_27, .ref q_700_28, .ref q_700_29, .int 0, .long 0, .ref q_700_30, .ref q_700_31, .ref q_700_32, .ref q_700_33, .ref q_700_34, .ref q_700_35, .ref q_700_36, .ref q_700_37, .ref q_700_38, .ref q_700_39, .ref q_700_40, .ref q_700_41, .int 0, .int 0, .int 0, .int 0, .ref q_700_42, .ref q_700_43, .ref q_700_44, .ref q_700_45, .int 0, .ref q_700_46, .ref q_700_47, .int 0, .long 0])), (q_700_36, .inl (cy 1, 21, .inl (upd (upd (upd (upd (upd (upd (fun _ => 0) 9 (-1)) 10 (-1)) 11 (-1)) 12 (-1)) 13 (-1)) 14 (-1))))] sz) []) (va_A [(h_2, .inr (12, [.int 0, .int 0, .ref q_700_1, .int 0, .int 0, .int 0, .int 0, .long 0, .int 0, .int 0, .ref q_700_2, .ref q_700_3, .ref q_700_4, .ref q_700_5, .ref q_700_6, .ref q_700_7, .ref q_700_8, .ref q_700_9, .ref q_700_10, .ref q_700_11, .ref q_700_12, .ref q_700_13, .ref q_700_14, .ref q_700_15, .ref q_700_16, .ref q_700_17, .int 0, .int 0, .ref q_700_18, .ref q_700_19, .ref q_700_20, .ref q_700_21, .ref q_700_22, .ref q_700_23, .ref q_700_24, .ref q_700_25, .ref q_700_26, .ref q_700_27, .ref q_700_28, .ref q_700_29, .int 0, .long 0, .ref q_700_30, .ref q_700_31, .ref q_700_32, .ref q_700_33, .ref q_700_34, .ref q_700_35, .ref q_700_36, .ref q_700_37, .ref q_700_38, .ref q_700_39, .ref q_700_40, .ref q_700_41, .int 0, .int 0, .int 0, .int 0, .ref q_700_42, .ref q_700_43, .ref q_700_44, .ref q_700_45, .int 0, .ref q_700_46, .ref q_700_47, .int 0, .long 0])), (q_700_36, .inl (cy 1, 21, .inl (upd (upd (upd (upd (upd (upd (fun _ => 0) 9 (-1)) 10 (-1)) 11 (-1)) 12 (-1)) 13 (-1)) 14 (-1))))] sz)) 0 0 (va_A [(h_2, .inr (12, [.int 0, .int 0, .ref q_700_1, .int 0, .int 0, .int 0, .int 0, .long 0, .int 0, .int 0, .ref q_700_2, .ref q_700_3, .ref q_700_4, .ref q_700_5, .ref q_700_6, .ref q_700_7, .ref q_700_8, .ref q_700_9, .ref q_700_10, .ref q_700_11, .ref q_700_12, .ref q_700_13, .ref q_700_14, .ref q_700_15, .ref q_700_16, .ref q_700_17, .int 0, .int 0, .ref q_700_18, .ref q_700_19, .ref q_700_20, .ref q_700_21, .ref q_700_22, .ref q_700_23, .ref q_700_24, .ref q_700_25, .ref q_700_26, .ref q_700_27, .ref q_700_28, .ref q_700_29, .int 0, .long 0, .ref q_700_30, .ref q_700_31, .ref q_700_32, .ref q_700_33, .ref q_700_34, .ref q_700_35, .ref q_700_36, .ref q_700_37, .ref q_700_38, .ref q_700_39, .ref q_700_40, .ref q_700_41, .int 0, .int 0, .int 0, .int 0, .ref q_700_42, .ref q_700_43, .ref q_700_44, .ref q_700_45, .int 0, .ref q_700_46, .ref q_700_47, .int 0, .long 0])), (q_700_36, .inl (cy 1, 21, .inl (upd (upd (upd (upd (upd (upd (fun _ => 0) 9 (-1)) 10 (-1)) 11 (-1)) 12 (-1)) 13 (-1)) 14 (-1))))] sz) := by
  refine Met.ofW (cc := cX12_count) (maxL := 2) (ret := (some .int)) (by decide) rfl ?_
  intro p e s m args below meth c s₁ B hml hv
  obtain ⟨rfl, hsz, hP, hG, hD0⟩ := hv
  have hx := B.exec
  have hb := B.bytes
  have hr := B.returns
  have hts := atoms_spec (ws := (Cond.code yX12_count cX12_count 2 (some .int) :: bigG)) B.pre
  have hg : ∀ w ∈ bigG, w.before ([.ref h_2, .int 7] : List Value).toArray s = true := fun w h => hts w (List.mem_cons_of_mem _ h)
  have hown : s.vm.findClass RX12 = some m.cls := findClass_of_methodNamed B.named
  have hlocks := B.notSynchronized
  subst hsz
  have hD := hD0.self (sz := s.heap.size)
  generalize hAe : va_A [(h_2, .inr (12, [.int 0, .int 0, .ref q_700_1, .int 0, .int 0, .int 0, .int 0, .long 0, .int 0, .int 0, .ref q_700_2, .ref q_700_3, .ref q_700_4, .ref q_700_5, .ref q_700_6, .ref q_700_7, .ref q_700_8, .ref q_700_9, .ref q_700_10, .ref q_700_11, .ref q_700_12, .ref q_700_13, .ref q_700_14, .ref q_700_15, .ref q_700_16, .ref q_700_17, .int 0, .int 0, .ref q_700_18, .ref q_700_19, .ref q_700_20, .ref q_700_21, .ref q_700_22, .ref q_700_23, .ref q_700_24, .ref q_700_25, .ref q_700_26, .ref q_700_27, .ref q_700_28, .ref q_700_29, .int 0, .long 0, .ref q_700_30, .ref q_700_31, .ref q_700_32, .ref q_700_33, .ref q_700_34, .ref q_700_35, .ref q_700_36, .ref q_700_37, .ref q_700_38, .ref q_700_39, .ref q_700_40, .ref q_700_41, .int 0, .int 0, .int 0, .int 0, .ref q_700_42, .ref q_700_43, .ref q_700_44, .ref q_700_45, .int 0, .ref q_700_46, .ref q_700_47, .int 0, .long 0])), (q_700_36, .inl (cy 1, 21, .inl (upd (upd (upd (upd (upd (upd (fun _ => 0) 9 (-1)) 10 (-1)) 11 (-1)) 12 (-1)) 13 (-1)) 14 (-1))))] s.heap.size = A at hD ⊢
  have hA : ∀ q : Nat, s.heap.size ≤ q → A q := fun q h => by rw [← hAe]; exact Or.inr h
  have hS : va_S A s.heap s.heap [] := va_S.rf
  have hP : va_P D vwCl [(h_2, .inr (12, [.int 0, .int 0, .ref q_700_1, .int 0, .int 0, .int 0, .int 0, .long 0, .int 0, .int 0, .ref q_700_2, .ref q_700_3, .ref q_700_4, .ref q_700_5, .ref q_700_6, .ref q_700_7, .ref q_700_8, .ref q_700_9, .ref q_700_10, .ref q_700_11, .ref q_700_12, .ref q_700_13, .ref q_700_14, .ref q_700_15, .ref q_700_16, .ref q_700_17, .int 0, .int 0, .ref q_700_18, .ref q_700_19, .ref q_700_20, .ref q_700_21, .ref q_700_22, .ref q_700_23, .ref q_700_24, .ref q_700_25, .ref q_700_26, .ref q_700_27, .ref q_700_28, .ref q_700_29, .int 0, .long 0, .ref q_700_30, .ref q_700_31, .ref q_700_32, .ref q_700_33, .ref q_700_34, .ref q_700_35, .ref q_700_36, .ref q_700_37, .ref q_700_38, .ref q_700_39, .ref q_700_40, .ref q_700_41, .int 0, .int 0, .int 0, .int 0, .ref q_700_42, .ref q_700_43, .ref q_700_44, .ref q_700_45, .int 0, .ref q_700_46, .ref q_700_47, .int 0, .long 0])), (q_700_36, .inl (cy 1, 21, .inl (upd (upd (upd (upd (upd (upd (fun _ => 0) 9 (-1)) 10 (-1)) 11 (-1)) 12 (-1)) 13 (-1)) 14 (-1))))] s.heap := hP
  have hl := lv_entry ([.ref h_2, .int 7]) (n := 2) (Nat.le_of_ble_eq_true rfl)
  rw [lg_entry_eq]
  generalize (lg_sl ([.ref h_2, .int 7]) ++ List.replicate (2 - (lg_sl ([.ref h_2, .int 7])).length) Slot.unset).toArray = ls at hl ⊢
  have hl : lv_has ls 2 [(0, .ref h_2), (1, .int 7)] := hl
  refine w_nm (fun Q hQ => ?_)
  refine lv_aload_n hx hb dX12_count_0 rfl (lv_at hl 0 rfl) ?_
  refine lv_iconst (v := 0) hx hb dX12_count_1 (by decide) ?_
  refine va_put (D := D) (ci := 12) (v := .int 0) (ty := .int) (C := RX12) (T := TX12) (N := 67) hx hb hts (inC ibX12) tyX12 tyX12_ok nmX12 hown hG.1 hP hD hS 0 rfl rfl 0 (by decide) (hg _ k_1315) (fun _ h9 => h9) rfl (by decide +kernel) rfl rfl (Nat.le_of_ble_eq_true rfl) dX12_count_2 (fun H locs hP hD hS => ?_)
  have hP : va_P D vwCl [(h_2, .inr (12, [.int 0, .int 0, .ref q_700_1, .int 0, .int 0, .int 0, .int 0, .long 0, .int 0, .int 0, .ref q_700_2, .ref q_700_3, .ref q_700_4, .ref q_700_5, .ref q_700_6, .ref q_700_7, .ref q_700_8, .ref q_700_9, .ref q_700_10, .ref q_700_11, .ref q_700_12, .ref q_700_13, .ref q_700_14, .ref q_700_15, .ref q_700_16, .ref q_700_17, .int 0, .int 0, .ref q_700_18, .ref q_700_19, .ref q_700_20, .ref q_700_21, .ref q_700_22, .ref q_700_23, .ref q_700_24, .ref q_700_25, .ref q_700_26, .ref q_700_27, .ref q_700_28, .ref q_700_29, .int 0, .long 0, .ref q_700_30, .ref q_700_31, .ref q_700_32, .ref q_700_33, .ref q_700_34, .ref q_700_35, .ref q_700_36, .ref q_700_37, .ref q_700_38, .ref q_700_39, .ref q_700_40, .ref q_700_41, .int 0, .int 0, .int 0, .int 0, .ref q_700_42, .ref q_700_43, .ref q_700_44, .ref q_700_45, .int 0, .ref q_700_46, .ref q_700_47, .int 0, .long 0])), (q_700_36, .inl (cy 1, 21, .inl (upd (upd (upd (upd (upd (upd (fun _ => 0) 9 (-1)) 10 (-1)) 11 (-1)) 12 (-1)) 13 (-1)) 14 (-1))))] H := hP
  have hD : va_D A [(h_2, .inr (12, [.int 0, .int 0, .ref q_700_1, .int 0, .int 0, .int 0, .int 0, .long 0, .int 0, .int 0, .ref q_700_2, .ref q_700_3, .ref q_700_4, .ref q_700_5, .ref q_700_6, .ref q_700_7, .ref q_700_8, .ref q_700_9, .ref q_700_10, .ref q_700_11, .ref q_700_12, .ref q_700_13, .ref q_700_14, .ref q_700_15, .ref q_700_16, .ref q_700_17, .int 0, .int 0, .ref q_700_18, .ref q_700_19, .ref q_700_20, .ref q_700_21, .ref q_700_22, .ref q_700_23, .ref q_700_24, .ref q_700_25, .ref q_700_26, .ref q_700_27, .ref q_700_28, .ref q_700_29, .int 0, .long 0, .ref q_700_30, .ref q_700_31, .ref q_700_32, .ref q_700_33, .ref q_700_34, .ref q_700_35, .ref q_700_36, .ref q_700_37, .ref q_700_38, .ref q_700_39, .ref q_700_40, .ref q_700_41, .int 0, .int 0, .int 0, .int 0, .ref q_700_42, .ref q_700_43, .ref q_700_44, .ref q_700_45, .int 0, .ref q_700_46, .ref q_700_47, .int 0, .long 0])), (q_700_36, .inl (cy 1, 21, .inl (upd (upd (upd (upd (upd (upd (fun _ => 0) 9 (-1)) 10 (-1)) 11 (-1)) 12 (-1)) 13 (-1)) 14 (-1))))] := hD
  refine lv_iload_n hx hb dX12_count_5 rfl (lv_at hl 1 rfl) ?_
  refine lv_iconst (v := 0) hx hb dX12_count_6 (by decide) ?_
  refine lv_bipush (v := 12) hx hb dX12_count_7 (by decide) ?_
  refine x_i (wr := [(h_2, .inr (12, [.int 0, .int 0, .ref q_700_1, .int 0, .int 0, .int 0, .int 0, .long 0, .int 0, .int 0, .ref q_700_2, .ref q_700_3, .ref q_700_4, .ref q_700_5, .ref q_700_6, .ref q_700_7, .ref q_700_8, .ref q_700_9, .ref q_700_10, .ref q_700_11, .ref q_700_12, .ref q_700_13, .ref q_700_14, .ref q_700_15, .ref q_700_16, .ref q_700_17, .int 0, .int 0, .ref q_700_18, .ref q_700_19, .ref q_700_20, .ref q_700_21, .ref q_700_22, .ref q_700_23, .ref q_700_24, .ref q_700_25, .ref q_700_26, .ref q_700_27, .ref q_700_28, .ref q_700_29, .int 0, .long 0, .ref q_700_30, .ref q_700_31, .ref q_700_32, .ref q_700_33, .ref q_700_34, .ref q_700_35, .ref q_700_36, .ref q_700_37, .ref q_700_38, .ref q_700_39, .ref q_700_40, .ref q_700_41, .int 0, .int 0, .int 0, .int 0, .ref q_700_42, .ref q_700_43, .ref q_700_44, .ref q_700_45, .int 0, .ref q_700_46, .ref q_700_47, .int 0, .long 0])), (q_700_36, .inl (cy 1, 21, .inl (upd (upd (upd (upd (upd (upd (fun _ => 0) 9 (-1)) 10 (-1)) 11 (-1)) 12 (-1)) 13 (-1)) 14 (-1))))]) hP hD hS hA [] [0, 1] rfl rfl (by decide) (by decide) (va_runS (As := [.int 7, .int 0, .int 12]) (rest := []) ⟨hx, hb, hml, hown, hts⟩ (c_X12_within_27 l D cy  H.size) (va_cwS 3 hts (gS km_X12_293 kt_X12_within kn_X12 kc_X12_within) rfl rfl rfl (by decide +kernel) ⟨(Nat.le_of_ble_eq_true rfl), (Nat.le_of_ble_eq_true rfl)⟩) (preS hG hP hD [] rfl (by decide)) rfl rfl hl.1 rfl (lv_room (Nat.le_of_ble_eq_true rfl)) dX12_count_9 ⟨(Nat.le_of_ble_eq_true rfl), (Nat.le_of_ble_eq_true rfl)⟩) (fun r_1 H locs hB hj hS => ?_)
  obtain ⟨hres, hP1, hD1⟩ := hB
  subst hres
  obtain ⟨hP, hD⟩ := hj _ hP1 hD1
  have hP : va_P D vwCl [(h_2, .inr (12, [.int 0, .int 0, .ref q_700_1, .int 0, .int 0, .int 0, .int 0, .long 0, .int 0, .int 0, .ref q_700_2, .ref q_700_3, .ref q_700_4, .ref q_700_5, .ref q_700_6, .ref q_700_7, .ref q_700_8, .ref q_700_9, .ref q_700_10, .ref q_700_11, .ref q_700_12, .ref q_700_13, .ref q_700_14, .ref q_700_15, .ref q_700_16, .ref q_700_17, .int 0, .int 0, .ref q_700_18, .ref q_700_19, .ref q_700_20, .ref q_700_21, .ref q_700_22, .ref q_700_23, .ref q_700_24, .ref q_700_25, .ref q_700_26, .ref q_700_27, .ref q_700_28, .ref q_700_29, .int 0, .long 0, .ref q_700_30, .ref q_700_31, .ref q_700_32, .ref q_700_33, .ref q_700_34, .ref q_700_35, .ref q_700_36, .ref q_700_37, .ref q_700_38, .ref q_700_39, .ref q_700_40, .ref q_700_41, .int 0, .int 0, .int 0, .int 0, .ref q_700_42, .ref q_700_43, .ref q_700_44, .ref q_700_45, .int 0, .ref q_700_46, .ref q_700_47, .int 0, .long 0])), (q_700_36, .inl (cy 1, 21, .inl (upd (upd (upd (upd (upd (upd (fun _ => 0) 9 (-1)) 10 (-1)) 11 (-1)) 12 (-1)) 13 (-1)) 14 (-1))))] H := hP
  have hD : va_D A [(h_2, .inr (12, [.int 0, .int 0, .ref q_700_1, .int 0, .int 0, .int 0, .int 0, .long 0, .int 0, .int 0, .ref q_700_2, .ref q_700_3, .ref q_700_4, .ref q_700_5, .ref q_700_6, .ref q_700_7, .ref q_700_8, .ref q_700_9, .ref q_700_10, .ref q_700_11, .ref q_700_12, .ref q_700_13, .ref q_700_14, .ref q_700_15, .ref q_700_16, .ref q_700_17, .int 0, .int 0, .ref q_700_18, .ref q_700_19, .ref q_700_20, .ref q_700_21, .ref q_700_22, .ref q_700_23, .ref q_700_24, .ref q_700_25, .ref q_700_26, .ref q_700_27, .ref q_700_28, .ref q_700_29, .int 0, .long 0, .ref q_700_30, .ref q_700_31, .ref q_700_32, .ref q_700_33, .ref q_700_34, .ref q_700_35, .ref q_700_36, .ref q_700_37, .ref q_700_38, .ref q_700_39, .ref q_700_40, .ref q_700_41, .int 0, .int 0, .int 0, .int 0, .ref q_700_42, .ref q_700_43, .ref q_700_44, .ref q_700_45, .int 0, .ref q_700_46, .ref q_700_47, .int 0, .long 0])), (q_700_36, .inl (cy 1, 21, .inl (upd (upd (upd (upd (upd (upd (fun _ => 0) 9 (-1)) 10 (-1)) 11 (-1)) 12 (-1)) 13 (-1)) 14 (-1))))] := hD
  refine lv_if_ne (tgt := 17) hx hb dX12_count_12 (by decide) (fun _ => ?_) (fun c_ => absurd c_ (by decide))
  refine lv_iload_n hx hb dX12_count_17 rfl (lv_at hl 1 rfl) ?_
  refine lv_iconst (v := 3) hx hb dX12_count_18 (by decide) ?_
  refine lv_icmp_ge (tgt := 29) hx hb dX12_count_19 (by decide) (fun _ => ?_) (fun c_ => absurd (by decide) c_)
  refine lv_iload_n hx hb dX12_count_29 rfl (lv_at hl 1 rfl) ?_
  refine lv_bipush (v := 6) hx hb dX12_count_30 (by decide) ?_
  refine lv_icmp_ge (tgt := 68) hx hb dX12_count_32 (by decide) (fun _ => ?_) (fun c_ => absurd (by decide) c_)
  refine lv_iload_n hx hb dX12_count_68 rfl (lv_at hl 1 rfl) ?_
  refine lv_bipush (v := 8) hx hb dX12_count_69 (by decide) ?_
  refine lv_icmp_ge (tgt := 99) hx hb dX12_count_71 (by decide) (fun c_ => absurd c_ (by decide)) (fun _ => ?_)
  refine lv_iload_n hx hb dX12_count_74 rfl (lv_at hl 1 rfl) ?_
  refine lv_bipush (v := 6) hx hb dX12_count_75 (by decide) ?_
  refine lv_icmp_ne (tgt := 92) hx hb dX12_count_77 (by decide) (fun _ => ?_) (fun c_ => absurd c_ (by decide))
  refine lv_aload_n hx hb dX12_count_92 rfl (lv_at hl 0 rfl) ?_
  refine va_get (D := D) (ci := 12) (v := .ref q_700_36) (C := RX12) (T := TX12) (N := 67) hx hb hts (inC ibX12) hown hG.1 hP 0 rfl rfl 48 (by decide) (hg _ k_1363) (fun _ h9 => h9) rfl dX12_count_93 ?_
  refine lv_iconst (v := 2) hx hb dX12_count_96 (by decide) ?_
  refine m_iald (v := 0) hx hb hG hP 1 rfl (vin (by decide)) dX12_count_97 rfl ?_
  have hP9 := hP.sub (ws' := []) [] rfl
  have hD9 := hD.sub (ws' := []) [] (by decide) rfl
  subst hQ
  exact W.iret (v := 0) hx hb hr (fun t ht hW => qi_mk (by rw [ht]; exact ⟨rfl, hP9, hD9⟩) (hS.F ht)) hS.2.2 dX12_count_98
set_option maxHeartbeats 4000000 in
set_option maxRecDepth 100000 in
theorem c_X11_count_9 (l : Launch) (D : va_G) (cy : Nat → ClassId) (h_1 : Nat) (q_1 : Nat) (q_3 : Nat) (q_4 : Nat) (q_25 : Nat) (q_46 : Nat) (q_50 : Nat) (q_54 : Nat) (q_58 : Nat) (q_62 : Nat) (q_63 : Nat) (q_64 : Nat) (q_67 : Nat) (q_85 : Nat) (q_90 : Nat) (q_93 : Nat) (q1_47 : Nat) (q2_48 : Nat) (q3_49 : Nat) (sz : Nat) : Met l yX11_count (Cond.code yX11_count cX11_count 2 (some .int) :: bigG) ({ frames := 0, cells := 0, slots := 0, locals := 0 }) (pre D cy [.ref h_1, .int 8] sz [(h_1, .inr (11, [.ref q_1, .ref q_3, .ref q_4, .ref q_25, .ref q_46, .ref q_50, .ref q_54, .ref q_58, .ref q_62, .int 0, .int 0, .ref q_63, .ref q_64, .ref q_67, .ref q_85, .ref q_90, .ref q_93])), (q_46, .inr (10, [.ref q1_47, .ref q2_48, .ref q3_49, .int 0]))]) (qi (fun r h => r = 0 ∧ va_P D vwCl [] h ∧ va_D (va_A [(h_1, .inr (11, [.ref q_1, .ref q_3, .ref q_4, .ref q_25, .ref q_46, .ref q_50, .ref q_54, .ref q_58, .ref q_62, .int 0, .int 0, .ref q_63, .ref q_64, .ref q_67, .ref q_85, .ref q_90, .ref q_93])), (q_46, .inr (10, [.ref q1_47, .ref q2_48, .ref q3_49, .int 0]))] sz) []) (va_A [(h_1, .inr (11, [.ref q_1, .ref q_3, .ref q_4, .ref q_25, .ref q_46, .ref q_50, .ref q_54, .ref q_58, .ref q_62, .int 0, .int 0, .ref q_63, .ref q_64, .ref q_67, .ref q_85, .ref q_90, .ref q_93])), (q_46, .inr (10, [.ref q1_47, .ref q2_48, .ref q3_49, .int 0]))] sz)) 0 0 (va_A [(h_1, .inr (11, [.ref q_1, .ref q_3, .ref q_4, .ref q_25, .ref q_46, .ref q_50, .ref q_54, .ref q_58, .ref q_62, .int 0, .int 0, .ref q_63, .ref q_64, .ref q_67, .ref q_85, .ref q_90, .ref q_93])), (q_46, .inr (10, [.ref q1_47, .ref q2_48, .ref q3_49, .int 0]))] sz) := by
  refine Met.ofW (cc := cX11_count) (maxL := 2) (ret := (some .int)) (by decide) rfl ?_
  intro p e s m args below meth c s₁ B hml hv
  obtain ⟨rfl, hsz, hP, hG, hD0⟩ := hv
  have hx := B.exec
  have hb := B.bytes
  have hr := B.returns
  have hts := atoms_spec (ws := (Cond.code yX11_count cX11_count 2 (some .int) :: bigG)) B.pre
  have hg : ∀ w ∈ bigG, w.before ([.ref h_1, .int 8] : List Value).toArray s = true := fun w h => hts w (List.mem_cons_of_mem _ h)
  have hown : s.vm.findClass RX11 = some m.cls := findClass_of_methodNamed B.named
  have hlocks := B.notSynchronized
  subst hsz
  have hD := hD0.self (sz := s.heap.size)
  generalize hAe : va_A [(h_1, .inr (11, [.ref q_1, .ref q_3, .ref q_4, .ref q_25, .ref q_46, .ref q_50, .ref q_54, .ref q_58, .ref q_62, .int 0, .int 0, .ref q_63, .ref q_64, .ref q_67, .ref q_85, .ref q_90, .ref q_93])), (q_46, .inr (10, [.ref q1_47, .ref q2_48, .ref q3_49, .int 0]))] s.heap.size = A at hD ⊢
  have hA : ∀ q : Nat, s.heap.size ≤ q → A q := fun q h => by rw [← hAe]; exact Or.inr h
  have hS : va_S A s.heap s.heap [] := va_S.rf
  have hP : va_P D vwCl [(h_1, .inr (11, [.ref q_1, .ref q_3, .ref q_4, .ref q_25, .ref q_46, .ref q_50, .ref q_54, .ref q_58, .ref q_62, .int 0, .int 0, .ref q_63, .ref q_64, .ref q_67, .ref q_85, .ref q_90, .ref q_93])), (q_46, .inr (10, [.ref q1_47, .ref q2_48, .ref q3_49, .int 0]))] s.heap := hP
  have hl := lv_entry ([.ref h_1, .int 8]) (n := 2) (Nat.le_of_ble_eq_true rfl)
  rw [lg_entry_eq]
  generalize (lg_sl ([.ref h_1, .int 8]) ++ List.replicate (2 - (lg_sl ([.ref h_1, .int 8])).length) Slot.unset).toArray = ls at hl ⊢
  have hl : lv_has ls 2 [(0, .ref h_1), (1, .int 8)] := hl
  refine w_nm (fun Q hQ => ?_)
  refine lv_iload_n hx hb dX11_count_0 rfl (lv_at hl 1 rfl) ?_
  refine lv_tableIn (off := 145) (tgt := 146) hx hb dX11_count_1 (by decide) (by decide) (by decide) (by decide) ?_
  refine lv_aload_n hx hb dX11_count_146 rfl (lv_at hl 0 rfl) ?_
  refine va_get (D := D) (ci := 11) (v := .ref q_46) (C := RX11) (T := TX11) (N := 17) hx hb hts (inC ibX11) hown hG.1 hP 0 rfl rfl 4 (by decide) (hg _ k_424) (fun _ h9 => h9) rfl dX11_count_147 ?_
  refine va_get (D := D) (ci := 10) (v := .int 0) (C := RX10) (T := TX10) (N := 4) hx hb hts (inC ibX10) hown hG.1 hP 1 rfl rfl 3 (by decide) (hg _ k_244) (fun _ h9 => h9) rfl dX11_count_150 ?_
  have hP9 := hP.sub (ws' := []) [] rfl
  have hD9 := hD.sub (ws' := []) [] (by decide) rfl
  subst hQ
  exact W.iret (v := 0) hx hb hr (fun t ht hW => qi_mk (by rw [ht]; exact ⟨rfl, hP9, hD9⟩) (hS.F ht)) hS.2.2 dX11_count_153
set_option maxHeartbeats 4000000 in
set_option maxRecDepth 100000 in
theorem c_X12_within_28 (l : Launch) (D : va_G) (cy : Nat → ClassId) (sz : Nat) : Met l yX12_within (Cond.code yX12_within cX12_within 3 (some .boolean) :: bigG) ({ frames := 0, cells := 0, slots := 0, locals := 0 }) (pre D cy [.int 8, .int 0, .int 12] sz []) (qi (fun r h => r = 1 ∧ va_P D vwCl [] h ∧ va_D (va_A [] sz) []) (va_A [] sz)) 0 0 (va_A [] sz) := by
  refine Met.ofW (cc := cX12_within) (maxL := 3) (ret := (some .boolean)) (by decide) rfl ?_
  intro p e s m args below meth c s₁ B hml hv
  obtain ⟨rfl, hsz, hP, hG, hD0⟩ := hv
  have hx := B.exec
  have hb := B.bytes
  have hr := B.returns
  have hts := atoms_spec (ws := (Cond.code yX12_within cX12_within 3 (some .boolean) :: bigG)) B.pre
  have hg : ∀ w ∈ bigG, w.before ([.int 8, .int 0, .int 12] : List Value).toArray s = true := fun w h => hts w (List.mem_cons_of_mem _ h)
  have hown : s.vm.findClass RX12 = some m.cls := findClass_of_methodNamed B.named
  have hlocks := B.notSynchronized
  subst hsz
  have hD := hD0.self (sz := s.heap.size)
  generalize hAe : va_A [] s.heap.size = A at hD ⊢
  have hA : ∀ q : Nat, s.heap.size ≤ q → A q := fun q h => by rw [← hAe]; exact Or.inr h
  have hS : va_S A s.heap s.heap [] := va_S.rf
  have hP : va_P D vwCl [] s.heap := hP
  have hl := lv_entry ([.int 8, .int 0, .int 12]) (n := 3) (Nat.le_of_ble_eq_true rfl)
  rw [lg_entry_eq]
  generalize (lg_sl ([.int 8, .int 0, .int 12]) ++ List.replicate (3 - (lg_sl ([.int 8, .int 0, .int 12])).length) Slot.unset).toArray = ls at hl ⊢
  have hl : lv_has ls 3 [(0, .int 8), (1, .int 0), (2, .int 12)] := hl
  refine w_nm (fun Q hQ => ?_)
  refine lv_iload_n hx hb dX12_within_0 rfl (lv_at hl 0 rfl) ?_
  refine lv_iload_n hx hb dX12_within_1 rfl (lv_at hl 1 rfl) ?_
  refine lv_icmp_lt (tgt := 14) hx hb dX12_within_2 (by decide) (fun c_ => absurd c_ (by decide)) (fun _ => ?_)
  refine lv_iload_n hx hb dX12_within_5 rfl (lv_at hl 0 rfl) ?_
  refine lv_iload_n hx hb dX12_within_6 rfl (lv_at hl 2 rfl) ?_
  refine lv_icmp_gt (tgt := 14) hx hb dX12_within_7 (by decide) (fun c_ => absurd c_ (by decide)) (fun _ => ?_)
  refine lv_iconst (v := 1) hx hb dX12_within_10 (by decide) ?_
  refine lv_goto (tgt := 15) hx hb dX12_within_11 (by decide) ?_
  have hP9 := hP.sub (ws' := []) [] rfl
  have hD9 := hD.sub (ws' := []) [] (by decide) rfl
  subst hQ
  exact W.zret (v := 1) hx hb hr rfl (fun t ht hW => qi_mk (by rw [ht]; exact ⟨rfl, hP9, hD9⟩) (hS.F ht)) hS.2.2 dX12_within_15
set_option maxHeartbeats 4000000 in
set_option maxRecDepth 100000 in
theorem c_X12_count_9 (l : Launch) (D : va_G) (cy : Nat → ClassId) (h_2 : Nat) (q_700_1 : Nat) (q_700_2 : Nat) (q_700_3 : Nat) (q_700_4 : Nat) (q_700_5 : Nat) (q_700_6 : Nat) (q_700_7 : Nat) (q_700_8 : Nat) (q_700_9 : Nat) (q_700_10 : Nat) (q_700_11 : Nat) (q_700_12 : Nat) (q_700_13 : Nat) (q_700_14 : Nat) (q_700_15 : Nat) (q_700_16 : Nat) (q_700_17 : Nat) (q_700_18 : Nat) (q_700_19 : Nat) (q_700_20 : Nat) (q_700_21 : Nat) (q_700_22 : Nat) (q_700_23 : Nat) (q_700_24 : Nat) (q_700_25 : Nat) (q_700_26 : Nat) (q_700_27 : Nat) (q_700_28 : Nat) (q_700_29 : Nat) (q_700_30 : Nat) (q_700_31 : Nat) (q_700_32 : Nat) (q_700_33 : Nat) (q_700_34 : Nat) (q_700_35 : Nat) (q_700_36 : Nat) (q_700_37 : Nat) (q_700_38 : Nat) (q_700_39 : Nat) (q_700_40 : Nat) (q_700_41 : Nat) (q_700_42 : Nat) (q_700_43 : Nat) (q_700_44 : Nat) (q_700_45 : Nat) (q_700_46 : Nat) (q_700_47 : Nat) (sz : Nat) : Met l yX12_count (Cond.code yX12_count cX12_count 2 (some .int) :: bigG) ({ frames := 1, cells := 0, slots := 0, locals := 22 }) (pre D cy [.ref h_2, .int 8] sz [(h_2, .inr (12, [.int 0, .int 0, .ref q_700_1, .int 0, .int 0, .int 0, .int 0, .long 0, .int 0, .int 0, .ref q_700_2, .ref q_700_3, .ref q_700_4, .ref q_700_5, .ref q_700_6, .ref q_700_7, .ref q_700_8, .ref q_700_9, .ref q_700_10, .ref q_700_11, .ref q_700_12, .ref q_700_13, .ref q_700_14, .ref q_700_15, .ref q_700_16, .ref q_700_17, .int 0, .int 0, .ref q_700_18, .ref q_700_19, .ref q_700_20, .ref q_700_21, .ref q_700_22, .ref q_700_23, .ref q_700_24, .ref q_700_25, .ref q_700_26, .ref q_700_27, .ref q_700_28, .ref q_700_29, .int 0, .long 0, .ref q_700_30, .ref q_700_31, .ref q_700_32, .ref q_700_33, .ref q_700_34, .ref q_700_35, .ref q_700_36, .ref q_700_37, .ref q_700_38, .ref q_700_39, .ref q_700_40, .ref q_700_41, .int 0, .int 0, .int 0, .int 0, .ref q_700_42, .ref q_700_43, .ref q_700_44, .ref q_700_45, .int 0, .ref q_700_46, .ref q_700_47, .int 0, .long 0])), (q_700_30, .inl (cy 1, 6, .inl (fun _ => 0)))]) (qi (fun r h => r = 0 ∧ va_P D vwCl [] h ∧ va_D (va_A [(h_2, .inr (12, [.int 0, .int 0, .ref q_700_1, .int 0, .int 0, .int 0, .int 0, .long 0, .int 0, .int 0, .ref q_700_2, .ref q_700_3, .ref q_700_4, .ref q_700_5, .ref q_700_6, .ref q_700_7, .ref q_700_8, .ref q_700_9, .ref q_700_10, .ref q_700_11, .ref q_700_12, .ref q_700_13, .ref q_700_14, .ref q_700_15, .ref q_700_16, .ref q_700_17, .int 0, .int 0, .ref q_700_18, .ref q_700_19, .ref q_700_20, .ref q_700_21, .ref q_700_22, .ref q_700_23, .ref q_700_24, .ref q_700_25, .ref q_700_26, .ref q_700_27, .ref q_700_28, .ref q_700_29, .int 0, .long 0, .ref q_700_30, .ref q_700_31, .ref q_700_32, .ref q_700_33, .ref q_700_34, .ref q_700_35, .ref q_700_36, .ref q_700_37, .ref q_700_38, .ref q_700_39, .ref q_700_40, .ref q_700_41, .int 0, .int 0, .int 0, .int 0, .ref q_700_42, .ref q_700_43, .ref q_700_44, .ref q_700_45, .int 0, .ref q_700_46, .ref q_700_47, .int 0, .long 0])), (q_700_30, .inl (cy 1, 6, .inl (fun _ => 0)))] sz) []) (va_A [(h_2, .inr (12, [.int 0, .int 0, .ref q_700_1, .int 0, .int 0, .int 0, .int 0, .long 0, .int 0, .int 0, .ref q_700_2, .ref q_700_3, .ref q_700_4, .ref q_700_5, .ref q_700_6, .ref q_700_7, .ref q_700_8, .ref q_700_9, .ref q_700_10, .ref q_700_11, .ref q_700_12, .ref q_700_13, .ref q_700_14, .ref q_700_15, .ref q_700_16, .ref q_700_17, .int 0, .int 0, .ref q_700_18, .ref q_700_19, .ref q_700_20, .ref q_700_21, .ref q_700_22, .ref q_700_23, .ref q_700_24, .ref q_700_25, .ref q_700_26, .ref q_700_27, .ref q_700_28, .ref q_700_29, .int 0, .long 0, .ref q_700_30, .ref q_700_31, .ref q_700_32, .ref q_700_33, .ref q_700_34, .ref q_700_35, .ref q_700_36, .ref q_700_37, .ref q_700_38, .ref q_700_39, .ref q_700_40, .ref q_700_41, .int 0, .int 0, .int 0, .int 0, .ref q_700_42, .ref q_700_43, .ref q_700_44, .ref q_700_45, .int 0, .ref q_700_46, .ref q_700_47, .int 0, .long 0])), (q_700_30, .inl (cy 1, 6, .inl (fun _ => 0)))] sz)) 0 0 (va_A [(h_2, .inr (12, [.int 0, .int 0, .ref q_700_1, .int 0, .int 0, .int 0, .int 0, .long 0, .int 0, .int 0, .ref q_700_2, .ref q_700_3, .ref q_700_4, .ref q_700_5, .ref q_700_6, .ref q_700_7, .ref q_700_8, .ref q_700_9, .ref q_700_10, .ref q_700_11, .ref q_700_12, .ref q_700_13, .ref q_700_14, .ref q_700_15, .ref q_700_16, .ref q_700_17, .int 0, .int 0, .ref q_700_18, .ref q_700_19, .ref q_700_20, .ref q_700_21, .ref q_700_22, .ref q_700_23, .ref q_700_24, .ref q_700_25, .ref q_700_26, .ref q_700_27, .ref q_700_28, .ref q_700_29, .int 0, .long 0, .ref q_700_30, .ref q_700_31, .ref q_700_32, .ref q_700_33, .ref q_700_34, .ref q_700_35, .ref q_700_36, .ref q_700_37, .ref q_700_38, .ref q_700_39, .ref q_700_40, .ref q_700_41, .int 0, .int 0, .int 0, .int 0, .ref q_700_42, .ref q_700_43, .ref q_700_44, .ref q_700_45, .int 0, .ref q_700_46, .ref q_700_47, .int 0, .long 0])), (q_700_30, .inl (cy 1, 6, .inl (fun _ => 0)))] sz) := by
  refine Met.ofW (cc := cX12_count) (maxL := 2) (ret := (some .int)) (by decide) rfl ?_
  intro p e s m args below meth c s₁ B hml hv
  obtain ⟨rfl, hsz, hP, hG, hD0⟩ := hv
  have hx := B.exec
  have hb := B.bytes
  have hr := B.returns
  have hts := atoms_spec (ws := (Cond.code yX12_count cX12_count 2 (some .int) :: bigG)) B.pre
  have hg : ∀ w ∈ bigG, w.before ([.ref h_2, .int 8] : List Value).toArray s = true := fun w h => hts w (List.mem_cons_of_mem _ h)
  have hown : s.vm.findClass RX12 = some m.cls := findClass_of_methodNamed B.named
  have hlocks := B.notSynchronized
  subst hsz
  have hD := hD0.self (sz := s.heap.size)
  generalize hAe : va_A [(h_2, .inr (12, [.int 0, .int 0, .ref q_700_1, .int 0, .int 0, .int 0, .int 0, .long 0, .int 0, .int 0, .ref q_700_2, .ref q_700_3, .ref q_700_4, .ref q_700_5, .ref q_700_6, .ref q_700_7, .ref q_700_8, .ref q_700_9, .ref q_700_10, .ref q_700_11, .ref q_700_12, .ref q_700_13, .ref q_700_14, .ref q_700_15, .ref q_700_16, .ref q_700_17, .int 0, .int 0, .ref q_700_18, .ref q_700_19, .ref q_700_20, .ref q_700_21, .ref q_700_22, .ref q_700_23, .ref q_700_24, .ref q_700_25, .ref q_700_26, .ref q_700_27, .ref q_700_28, .ref q_700_29, .int 0, .long 0, .ref q_700_30, .ref q_700_31, .ref q_700_32, .ref q_700_33, .ref q_700_34, .ref q_700_35, .ref q_700_36, .ref q_700_37, .ref q_700_38, .ref q_700_39, .ref q_700_40, .ref q_700_41, .int 0, .int 0, .int 0, .int 0, .ref q_700_42, .ref q_700_43, .ref q_700_44, .ref q_700_45, .int 0, .ref q_700_46, .ref q_700_47, .int 0, .long 0])), (q_700_30, .inl (cy 1, 6, .inl (fun _ => 0)))] s.heap.size = A at hD ⊢
  have hA : ∀ q : Nat, s.heap.size ≤ q → A q := fun q h => by rw [← hAe]; exact Or.inr h
  have hS : va_S A s.heap s.heap [] := va_S.rf
  have hP : va_P D vwCl [(h_2, .inr (12, [.int 0, .int 0, .ref q_700_1, .int 0, .int 0, .int 0, .int 0, .long 0, .int 0, .int 0, .ref q_700_2, .ref q_700_3, .ref q_700_4, .ref q_700_5, .ref q_700_6, .ref q_700_7, .ref q_700_8, .ref q_700_9, .ref q_700_10, .ref q_700_11, .ref q_700_12, .ref q_700_13, .ref q_700_14, .ref q_700_15, .ref q_700_16, .ref q_700_17, .int 0, .int 0, .ref q_700_18, .ref q_700_19, .ref q_700_20, .ref q_700_21, .ref q_700_22, .ref q_700_23, .ref q_700_24, .ref q_700_25, .ref q_700_26, .ref q_700_27, .ref q_700_28, .ref q_700_29, .int 0, .long 0, .ref q_700_30, .ref q_700_31, .ref q_700_32, .ref q_700_33, .ref q_700_34, .ref q_700_35, .ref q_700_36, .ref q_700_37, .ref q_700_38, .ref q_700_39, .ref q_700_40, .ref q_700_41, .int 0, .int 0, .int 0, .int 0, .ref q_700_42, .ref q_700_43, .ref q_700_44, .ref q_700_45, .int 0, .ref q_700_46, .ref q_700_47, .int 0, .long 0])), (q_700_30, .inl (cy 1, 6, .inl (fun _ => 0)))] s.heap := hP
  have hl := lv_entry ([.ref h_2, .int 8]) (n := 2) (Nat.le_of_ble_eq_true rfl)
  rw [lg_entry_eq]
  generalize (lg_sl ([.ref h_2, .int 8]) ++ List.replicate (2 - (lg_sl ([.ref h_2, .int 8])).length) Slot.unset).toArray = ls at hl ⊢
  have hl : lv_has ls 2 [(0, .ref h_2), (1, .int 8)] := hl
  refine w_nm (fun Q hQ => ?_)
  refine lv_aload_n hx hb dX12_count_0 rfl (lv_at hl 0 rfl) ?_
  refine lv_iconst (v := 0) hx hb dX12_count_1 (by decide) ?_
  refine va_put (D := D) (ci := 12) (v := .int 0) (ty := .int) (C := RX12) (T := TX12) (N := 67) hx hb hts (inC ibX12) tyX12 tyX12_ok nmX12 hown hG.1 hP hD hS 0 rfl rfl 0 (by decide) (hg _ k_1315) (fun _ h9 => h9) rfl (by decide +kernel) rfl rfl (Nat.le_of_ble_eq_true rfl) dX12_count_2 (fun H locs hP hD hS => ?_)
  have hP : va_P D vwCl [(h_2, .inr (12, [.int 0, .int 0, .ref q_700_1, .int 0, .int 0, .int 0, .int 0, .long 0, .int 0, .int 0, .ref q_700_2, .ref q_700_3, .ref q_700_4, .ref q_700_5, .ref q_700_6, .ref q_700_7, .ref q_700_8, .ref q_700_9, .ref q_700_10, .ref q_700_11, .ref q_700_12, .ref q_700_13, .ref q_700_14, .ref q_700_15, .ref q_700_16, .ref q_700_17, .int 0, .int 0, .ref q_700_18, .ref q_700_19, .ref q_700_20, .ref q_700_21, .ref q_700_22, .ref q_700_23, .ref q_700_24, .ref q_700_25, .ref q_700_26, .ref q_700_27, .ref q_700_28, .ref q_700_29, .int 0, .long 0, .ref q_700_30, .ref q_700_31, .ref q_700_32, .ref q_700_33, .ref q_700_34, .ref q_700_35, .ref q_700_36, .ref q_700_37, .ref q_700_38, .ref q_700_39, .ref q_700_40, .ref q_700_41, .int 0, .int 0, .int 0, .int 0, .ref q_700_42, .ref q_700_43, .ref q_700_44, .ref q_700_45, .int 0, .ref q_700_46, .ref q_700_47, .int 0, .long 0])), (q_700_30, .inl (cy 1, 6, .inl (fun _ => 0)))] H := hP
  have hD : va_D A [(h_2, .inr (12, [.int 0, .int 0, .ref q_700_1, .int 0, .int 0, .int 0, .int 0, .long 0, .int 0, .int 0, .ref q_700_2, .ref q_700_3, .ref q_700_4, .ref q_700_5, .ref q_700_6, .ref q_700_7, .ref q_700_8, .ref q_700_9, .ref q_700_10, .ref q_700_11, .ref q_700_12, .ref q_700_13, .ref q_700_14, .ref q_700_15, .ref q_700_16, .ref q_700_17, .int 0, .int 0, .ref q_700_18, .ref q_700_19, .ref q_700_20, .ref q_700_21, .ref q_700_22, .ref q_700_23, .ref q_700_24, .ref q_700_25, .ref q_700_26, .ref q_700_27, .ref q_700_28, .ref q_700_29, .int 0, .long 0, .ref q_700_30, .ref q_700_31, .ref q_700_32, .ref q_700_33, .ref q_700_34, .ref q_700_35, .ref q_700_36, .ref q_700_37, .ref q_700_38, .ref q_700_39, .ref q_700_40, .ref q_700_41, .int 0, .int 0, .int 0, .int 0, .ref q_700_42, .ref q_700_43, .ref q_700_44, .ref q_700_45, .int 0, .ref q_700_46, .ref q_700_47, .int 0, .long 0])), (q_700_30, .inl (cy 1, 6, .inl (fun _ => 0)))] := hD
  refine lv_iload_n hx hb dX12_count_5 rfl (lv_at hl 1 rfl) ?_
  refine lv_iconst (v := 0) hx hb dX12_count_6 (by decide) ?_
  refine lv_bipush (v := 12) hx hb dX12_count_7 (by decide) ?_
  refine x_i (wr := [(h_2, .inr (12, [.int 0, .int 0, .ref q_700_1, .int 0, .int 0, .int 0, .int 0, .long 0, .int 0, .int 0, .ref q_700_2, .ref q_700_3, .ref q_700_4, .ref q_700_5, .ref q_700_6, .ref q_700_7, .ref q_700_8, .ref q_700_9, .ref q_700_10, .ref q_700_11, .ref q_700_12, .ref q_700_13, .ref q_700_14, .ref q_700_15, .ref q_700_16, .ref q_700_17, .int 0, .int 0, .ref q_700_18, .ref q_700_19, .ref q_700_20, .ref q_700_21, .ref q_700_22, .ref q_700_23, .ref q_700_24, .ref q_700_25, .ref q_700_26, .ref q_700_27, .ref q_700_28, .ref q_700_29, .int 0, .long 0, .ref q_700_30, .ref q_700_31, .ref q_700_32, .ref q_700_33, .ref q_700_34, .ref q_700_35, .ref q_700_36, .ref q_700_37, .ref q_700_38, .ref q_700_39, .ref q_700_40, .ref q_700_41, .int 0, .int 0, .int 0, .int 0, .ref q_700_42, .ref q_700_43, .ref q_700_44, .ref q_700_45, .int 0, .ref q_700_46, .ref q_700_47, .int 0, .long 0])), (q_700_30, .inl (cy 1, 6, .inl (fun _ => 0)))]) hP hD hS hA [] [0, 1] rfl rfl (by decide) (by decide) (va_runS (As := [.int 8, .int 0, .int 12]) (rest := []) ⟨hx, hb, hml, hown, hts⟩ (c_X12_within_28 l D cy  H.size) (va_cwS 3 hts (gS km_X12_293 kt_X12_within kn_X12 kc_X12_within) rfl rfl rfl (by decide +kernel) ⟨(Nat.le_of_ble_eq_true rfl), (Nat.le_of_ble_eq_true rfl)⟩) (preS hG hP hD [] rfl (by decide)) rfl rfl hl.1 rfl (lv_room (Nat.le_of_ble_eq_true rfl)) dX12_count_9 ⟨(Nat.le_of_ble_eq_true rfl), (Nat.le_of_ble_eq_true rfl)⟩) (fun r_1 H locs hB hj hS => ?_)
  obtain ⟨hres, hP1, hD1⟩ := hB
  subst hres
  obtain ⟨hP, hD⟩ := hj _ hP1 hD1
  have hP : va_P D vwCl [(h_2, .inr (12, [.int 0, .int 0, .ref q_700_1, .int 0, .int 0, .int 0, .int 0, .long 0, .int 0, .int 0, .ref q_700_2, .ref q_700_3, .ref q_700_4, .ref q_700_5, .ref q_700_6, .ref q_700_7, .ref q_700_8, .ref q_700_9, .ref q_700_10, .ref q_700_11, .ref q_700_12, .ref q_700_13, .ref q_700_14, .ref q_700_15, .ref q_700_16, .ref q_700_17, .int 0, .int 0, .ref q_700_18, .ref q_700_19, .ref q_700_20, .ref q_700_21, .ref q_700_22, .ref q_700_23, .ref q_700_24, .ref q_700_25, .ref q_700_26, .ref q_700_27, .ref q_700_28, .ref q_700_29, .int 0, .long 0, .ref q_700_30, .ref q_700_31, .ref q_700_32, .ref q_700_33, .ref q_700_34, .ref q_700_35, .ref q_700_36, .ref q_700_37, .ref q_700_38, .ref q_700_39, .ref q_700_40, .ref q_700_41, .int 0, .int 0, .int 0, .int 0, .ref q_700_42, .ref q_700_43, .ref q_700_44, .ref q_700_45, .int 0, .ref q_700_46, .ref q_700_47, .int 0, .long 0])), (q_700_30, .inl (cy 1, 6, .inl (fun _ => 0)))] H := hP
  have hD : va_D A [(h_2, .inr (12, [.int 0, .int 0, .ref q_700_1, .int 0, .int 0, .int 0, .int 0, .long 0, .int 0, .int 0, .ref q_700_2, .ref q_700_3, .ref q_700_4, .ref q_700_5, .ref q_700_6, .ref q_700_7, .ref q_700_8, .ref q_700_9, .ref q_700_10, .ref q_700_11, .ref q_700_12, .ref q_700_13, .ref q_700_14, .ref q_700_15, .ref q_700_16, .ref q_700_17, .int 0, .int 0, .ref q_700_18, .ref q_700_19, .ref q_700_20, .ref q_700_21, .ref q_700_22, .ref q_700_23, .ref q_700_24, .ref q_700_25, .ref q_700_26, .ref q_700_27, .ref q_700_28, .ref q_700_29, .int 0, .long 0, .ref q_700_30, .ref q_700_31, .ref q_700_32, .ref q_700_33, .ref q_700_34, .ref q_700_35, .ref q_700_36, .ref q_700_37, .ref q_700_38, .ref q_700_39, .ref q_700_40, .ref q_700_41, .int 0, .int 0, .int 0, .int 0, .ref q_700_42, .ref q_700_43, .ref q_700_44, .ref q_700_45, .int 0, .ref q_700_46, .ref q_700_47, .int 0, .long 0])), (q_700_30, .inl (cy 1, 6, .inl (fun _ => 0)))] := hD
  refine lv_if_ne (tgt := 17) hx hb dX12_count_12 (by decide) (fun _ => ?_) (fun c_ => absurd c_ (by decide))
  refine lv_iload_n hx hb dX12_count_17 rfl (lv_at hl 1 rfl) ?_
  refine lv_iconst (v := 3) hx hb dX12_count_18 (by decide) ?_
  refine lv_icmp_ge (tgt := 29) hx hb dX12_count_19 (by decide) (fun _ => ?_) (fun c_ => absurd (by decide) c_)
  refine lv_iload_n hx hb dX12_count_29 rfl (lv_at hl 1 rfl) ?_
  refine lv_bipush (v := 6) hx hb dX12_count_30 (by decide) ?_
  refine lv_icmp_ge (tgt := 68) hx hb dX12_count_32 (by decide) (fun _ => ?_) (fun c_ => absurd (by decide) c_)
  refine lv_iload_n hx hb dX12_count_68 rfl (lv_at hl 1 rfl) ?_
  refine lv_bipush (v := 8) hx hb dX12_count_69 (by decide) ?_
  refine lv_icmp_ge (tgt := 99) hx hb dX12_count_71 (by decide) (fun _ => ?_) (fun c_ => absurd (by decide) c_)
  refine lv_iload_n hx hb dX12_count_99 rfl (lv_at hl 1 rfl) ?_
  refine lv_bipush (v := 10) hx hb dX12_count_100 (by decide) ?_
  refine lv_icmp_ge (tgt := 125) hx hb dX12_count_102 (by decide) (fun c_ => absurd c_ (by decide)) (fun _ => ?_)
  refine lv_iload_n hx hb dX12_count_105 rfl (lv_at hl 1 rfl) ?_
  refine lv_bipush (v := 8) hx hb dX12_count_106 (by decide) ?_
  refine lv_icmp_ne (tgt := 120) hx hb dX12_count_108 (by decide) (fun c_ => absurd rfl c_) (fun _ => ?_)
  refine lv_aload_n hx hb dX12_count_111 rfl (lv_at hl 0 rfl) ?_
  refine va_get (D := D) (ci := 12) (v := .ref q_700_30) (C := RX12) (T := TX12) (N := 67) hx hb hts (inC ibX12) hown hG.1 hP 0 rfl rfl 42 (by decide) (hg _ k_1357) (fun _ h9 => h9) rfl dX12_count_112 ?_
  refine lv_iconst (v := 0) hx hb dX12_count_115 (by decide) ?_
  refine m_iald (v := 0) hx hb hG hP 1 rfl (vin (by decide)) dX12_count_116 rfl ?_
  refine lv_goto (tgt := 124) hx hb dX12_count_117 (by decide) ?_
  have hP9 := hP.sub (ws' := []) [] rfl
  have hD9 := hD.sub (ws' := []) [] (by decide) rfl
  subst hQ
  exact W.iret (v := 0) hx hb hr (fun t ht hW => qi_mk (by rw [ht]; exact ⟨rfl, hP9, hD9⟩) (hS.F ht)) hS.2.2 dX12_count_124
set_option maxHeartbeats 4000000 in
set_option maxRecDepth 100000 in
theorem c_X2_isTold_1 (l : Launch) (D : va_G) (cy : Nat → ClassId) (q_64 : Nat) (q_1_65 : Nat) (q_2_66 : Nat) (sz : Nat) : Met l yX2_isTold (Cond.code yX2_isTold cX2_isTold 2 (some .boolean) :: bigG) ({ frames := 0, cells := 0, slots := 0, locals := 0 }) (pre D cy [.ref q_64, .int 0] sz [(q_64, .inr (2, [.ref q_1_65, .int 0, .int 0, .int 0, .ref q_2_66])), (q_1_65, .inl (cy 1, 6, .inl (fl 6 (-1) (fun _ => 0))))]) (qi (fun r h => r = 0 ∧ va_P D vwCl [(q_64, .inr (2, [.ref q_1_65, .int 0, .int 0, .int 0, .ref q_2_66])), (q_1_65, .inl (cy 1, 6, .inl (fl 6 (-1) (fun _ => 0))))] h ∧ va_D (va_A [(q_64, .inr (2, [.ref q_1_65, .int 0, .int 0, .int 0, .ref q_2_66])), (q_1_65, .inl (cy 1, 6, .inl (fl 6 (-1) (fun _ => 0))))] sz) [(q_64, .inr (2, [.ref q_1_65, .int 0, .int 0, .int 0, .ref q_2_66])), (q_1_65, .inl (cy 1, 6, .inl (fl 6 (-1) (fun _ => 0))))]) (va_A [(q_64, .inr (2, [.ref q_1_65, .int 0, .int 0, .int 0, .ref q_2_66])), (q_1_65, .inl (cy 1, 6, .inl (fl 6 (-1) (fun _ => 0))))] sz)) 0 0 (va_A [(q_64, .inr (2, [.ref q_1_65, .int 0, .int 0, .int 0, .ref q_2_66])), (q_1_65, .inl (cy 1, 6, .inl (fl 6 (-1) (fun _ => 0))))] sz) := by
  refine Met.ofW (cc := cX2_isTold) (maxL := 2) (ret := (some .boolean)) (by decide) rfl ?_
  intro p e s m args below meth c s₁ B hml hv
  obtain ⟨rfl, hsz, hP, hG, hD0⟩ := hv
  have hx := B.exec
  have hb := B.bytes
  have hr := B.returns
  have hts := atoms_spec (ws := (Cond.code yX2_isTold cX2_isTold 2 (some .boolean) :: bigG)) B.pre
  have hg : ∀ w ∈ bigG, w.before ([.ref q_64, .int 0] : List Value).toArray s = true := fun w h => hts w (List.mem_cons_of_mem _ h)
  have hown : s.vm.findClass RX2 = some m.cls := findClass_of_methodNamed B.named
  have hlocks := B.notSynchronized
  subst hsz
  have hD := hD0.self (sz := s.heap.size)
  generalize hAe : va_A [(q_64, .inr (2, [.ref q_1_65, .int 0, .int 0, .int 0, .ref q_2_66])), (q_1_65, .inl (cy 1, 6, .inl (fl 6 (-1) (fun _ => 0))))] s.heap.size = A at hD ⊢
  have hA : ∀ q : Nat, s.heap.size ≤ q → A q := fun q h => by rw [← hAe]; exact Or.inr h
  have hS : va_S A s.heap s.heap [] := va_S.rf
  have hP : va_P D vwCl [(q_64, .inr (2, [.ref q_1_65, .int 0, .int 0, .int 0, .ref q_2_66])), (q_1_65, .inl (cy 1, 6, .inl (fl 6 (-1) (fun _ => 0))))] s.heap := hP
  have hl := lv_entry ([.ref q_64, .int 0]) (n := 2) (Nat.le_of_ble_eq_true rfl)
  rw [lg_entry_eq]
  generalize (lg_sl ([.ref q_64, .int 0]) ++ List.replicate (2 - (lg_sl ([.ref q_64, .int 0])).length) Slot.unset).toArray = ls at hl ⊢
  have hl : lv_has ls 2 [(0, .ref q_64), (1, .int 0)] := hl
  refine w_nm (fun Q hQ => ?_)
  refine lv_aload_n hx hb dX2_isTold_0 rfl (lv_at hl 0 rfl) ?_
  refine va_get (D := D) (ci := 2) (v := .ref q_1_65) (C := RX2) (T := TX2) (N := 5) hx hb hts (inC ibX2) hown hG.1 hP 0 rfl rfl 0 (by decide) (hg _ k_299) (fun _ h9 => h9) rfl dX2_isTold_1 ?_
  refine lv_iload_n hx hb dX2_isTold_4 rfl (lv_at hl 1 rfl) ?_
  refine m_iald (v := (-1)) hx hb hG hP 1 rfl (vin (by decide)) dX2_isTold_5 rfl ?_
  refine lv_iconst (v := (-1)) hx hb dX2_isTold_6 (by decide) ?_
  refine lv_icmp_eq (tgt := 14) hx hb dX2_isTold_7 (by decide) (fun _ => ?_) (fun c_ => absurd rfl c_)
  refine lv_iconst (v := 0) hx hb dX2_isTold_14 (by decide) ?_
  have hP9 := hP.sub (ws' := [(q_64, .inr (2, [.ref q_1_65, .int 0, .int 0, .int 0, .ref q_2_66])), (q_1_65, .inl (cy 1, 6, .inl (fl 6 (-1) (fun _ => 0))))]) [0, 1] rfl
  have hD9 := hD.sub (ws' := [(q_64, .inr (2, [.ref q_1_65, .int 0, .int 0, .int 0, .ref q_2_66])), (q_1_65, .inl (cy 1, 6, .inl (fl 6 (-1) (fun _ => 0))))]) [0, 1] (by decide) rfl
  subst hQ
  exact W.zret (v := 0) hx hb hr rfl (fun t ht hW => qi_mk (by rw [ht]; exact ⟨rfl, hP9, hD9⟩) (hS.F ht)) hS.2.2 dX2_isTold_15
set_option maxHeartbeats 4000000 in
set_option maxRecDepth 100000 in
theorem c_X2_isTold_2 (l : Launch) (D : va_G) (cy : Nat → ClassId) (q_64 : Nat) (q_1_65 : Nat) (q_2_66 : Nat) (sz : Nat) : Met l yX2_isTold (Cond.code yX2_isTold cX2_isTold 2 (some .boolean) :: bigG) ({ frames := 0, cells := 0, slots := 0, locals := 0 }) (pre D cy [.ref q_64, .int 1] sz [(q_64, .inr (2, [.ref q_1_65, .int 0, .int 0, .int 0, .ref q_2_66])), (q_1_65, .inl (cy 1, 6, .inl (fl 6 (-1) (fun _ => 0))))]) (qi (fun r h => r = 0 ∧ va_P D vwCl [(q_64, .inr (2, [.ref q_1_65, .int 0, .int 0, .int 0, .ref q_2_66])), (q_1_65, .inl (cy 1, 6, .inl (fl 6 (-1) (fun _ => 0))))] h ∧ va_D (va_A [(q_64, .inr (2, [.ref q_1_65, .int 0, .int 0, .int 0, .ref q_2_66])), (q_1_65, .inl (cy 1, 6, .inl (fl 6 (-1) (fun _ => 0))))] sz) [(q_64, .inr (2, [.ref q_1_65, .int 0, .int 0, .int 0, .ref q_2_66])), (q_1_65, .inl (cy 1, 6, .inl (fl 6 (-1) (fun _ => 0))))]) (va_A [(q_64, .inr (2, [.ref q_1_65, .int 0, .int 0, .int 0, .ref q_2_66])), (q_1_65, .inl (cy 1, 6, .inl (fl 6 (-1) (fun _ => 0))))] sz)) 0 0 (va_A [(q_64, .inr (2, [.ref q_1_65, .int 0, .int 0, .int 0, .ref q_2_66])), (q_1_65, .inl (cy 1, 6, .inl (fl 6 (-1) (fun _ => 0))))] sz) := by
  refine Met.ofW (cc := cX2_isTold) (maxL := 2) (ret := (some .boolean)) (by decide) rfl ?_
  intro p e s m args below meth c s₁ B hml hv
  obtain ⟨rfl, hsz, hP, hG, hD0⟩ := hv
  have hx := B.exec
  have hb := B.bytes
  have hr := B.returns
  have hts := atoms_spec (ws := (Cond.code yX2_isTold cX2_isTold 2 (some .boolean) :: bigG)) B.pre
  have hg : ∀ w ∈ bigG, w.before ([.ref q_64, .int 1] : List Value).toArray s = true := fun w h => hts w (List.mem_cons_of_mem _ h)
  have hown : s.vm.findClass RX2 = some m.cls := findClass_of_methodNamed B.named
  have hlocks := B.notSynchronized
  subst hsz
  have hD := hD0.self (sz := s.heap.size)
  generalize hAe : va_A [(q_64, .inr (2, [.ref q_1_65, .int 0, .int 0, .int 0, .ref q_2_66])), (q_1_65, .inl (cy 1, 6, .inl (fl 6 (-1) (fun _ => 0))))] s.heap.size = A at hD ⊢
  have hA : ∀ q : Nat, s.heap.size ≤ q → A q := fun q h => by rw [← hAe]; exact Or.inr h
  have hS : va_S A s.heap s.heap [] := va_S.rf
  have hP : va_P D vwCl [(q_64, .inr (2, [.ref q_1_65, .int 0, .int 0, .int 0, .ref q_2_66])), (q_1_65, .inl (cy 1, 6, .inl (fl 6 (-1) (fun _ => 0))))] s.heap := hP
  have hl := lv_entry ([.ref q_64, .int 1]) (n := 2) (Nat.le_of_ble_eq_true rfl)
  rw [lg_entry_eq]
  generalize (lg_sl ([.ref q_64, .int 1]) ++ List.replicate (2 - (lg_sl ([.ref q_64, .int 1])).length) Slot.unset).toArray = ls at hl ⊢
  have hl : lv_has ls 2 [(0, .ref q_64), (1, .int 1)] := hl
  refine w_nm (fun Q hQ => ?_)
  refine lv_aload_n hx hb dX2_isTold_0 rfl (lv_at hl 0 rfl) ?_
  refine va_get (D := D) (ci := 2) (v := .ref q_1_65) (C := RX2) (T := TX2) (N := 5) hx hb hts (inC ibX2) hown hG.1 hP 0 rfl rfl 0 (by decide) (hg _ k_299) (fun _ h9 => h9) rfl dX2_isTold_1 ?_
  refine lv_iload_n hx hb dX2_isTold_4 rfl (lv_at hl 1 rfl) ?_
  refine m_iald (v := (-1)) hx hb hG hP 1 rfl (vin (by decide)) dX2_isTold_5 rfl ?_
  refine lv_iconst (v := (-1)) hx hb dX2_isTold_6 (by decide) ?_
  refine lv_icmp_eq (tgt := 14) hx hb dX2_isTold_7 (by decide) (fun _ => ?_) (fun c_ => absurd rfl c_)
  refine lv_iconst (v := 0) hx hb dX2_isTold_14 (by decide) ?_
  have hP9 := hP.sub (ws' := [(q_64, .inr (2, [.ref q_1_65, .int 0, .int 0, .int 0, .ref q_2_66])), (q_1_65, .inl (cy 1, 6, .inl (fl 6 (-1) (fun _ => 0))))]) [0, 1] rfl
  have hD9 := hD.sub (ws' := [(q_64, .inr (2, [.ref q_1_65, .int 0, .int 0, .int 0, .ref q_2_66])), (q_1_65, .inl (cy 1, 6, .inl (fl 6 (-1) (fun _ => 0))))]) [0, 1] (by decide) rfl
  subst hQ
  exact W.zret (v := 0) hx hb hr rfl (fun t ht hW => qi_mk (by rw [ht]; exact ⟨rfl, hP9, hD9⟩) (hS.F ht)) hS.2.2 dX2_isTold_15
set_option maxHeartbeats 4000000 in
set_option maxRecDepth 100000 in
theorem c_X2_isTold_3 (l : Launch) (D : va_G) (cy : Nat → ClassId) (q_64 : Nat) (q_1_65 : Nat) (q_2_66 : Nat) (sz : Nat) : Met l yX2_isTold (Cond.code yX2_isTold cX2_isTold 2 (some .boolean) :: bigG) ({ frames := 0, cells := 0, slots := 0, locals := 0 }) (pre D cy [.ref q_64, .int 2] sz [(q_64, .inr (2, [.ref q_1_65, .int 0, .int 0, .int 0, .ref q_2_66])), (q_1_65, .inl (cy 1, 6, .inl (fl 6 (-1) (fun _ => 0))))]) (qi (fun r h => r = 0 ∧ va_P D vwCl [(q_64, .inr (2, [.ref q_1_65, .int 0, .int 0, .int 0, .ref q_2_66])), (q_1_65, .inl (cy 1, 6, .inl (fl 6 (-1) (fun _ => 0))))] h ∧ va_D (va_A [(q_64, .inr (2, [.ref q_1_65, .int 0, .int 0, .int 0, .ref q_2_66])), (q_1_65, .inl (cy 1, 6, .inl (fl 6 (-1) (fun _ => 0))))] sz) [(q_64, .inr (2, [.ref q_1_65, .int 0, .int 0, .int 0, .ref q_2_66])), (q_1_65, .inl (cy 1, 6, .inl (fl 6 (-1) (fun _ => 0))))]) (va_A [(q_64, .inr (2, [.ref q_1_65, .int 0, .int 0, .int 0, .ref q_2_66])), (q_1_65, .inl (cy 1, 6, .inl (fl 6 (-1) (fun _ => 0))))] sz)) 0 0 (va_A [(q_64, .inr (2, [.ref q_1_65, .int 0, .int 0, .int 0, .ref q_2_66])), (q_1_65, .inl (cy 1, 6, .inl (fl 6 (-1) (fun _ => 0))))] sz) := by
  refine Met.ofW (cc := cX2_isTold) (maxL := 2) (ret := (some .boolean)) (by decide) rfl ?_
  intro p e s m args below meth c s₁ B hml hv
  obtain ⟨rfl, hsz, hP, hG, hD0⟩ := hv
  have hx := B.exec
  have hb := B.bytes
  have hr := B.returns
  have hts := atoms_spec (ws := (Cond.code yX2_isTold cX2_isTold 2 (some .boolean) :: bigG)) B.pre
  have hg : ∀ w ∈ bigG, w.before ([.ref q_64, .int 2] : List Value).toArray s = true := fun w h => hts w (List.mem_cons_of_mem _ h)
  have hown : s.vm.findClass RX2 = some m.cls := findClass_of_methodNamed B.named
  have hlocks := B.notSynchronized
  subst hsz
  have hD := hD0.self (sz := s.heap.size)
  generalize hAe : va_A [(q_64, .inr (2, [.ref q_1_65, .int 0, .int 0, .int 0, .ref q_2_66])), (q_1_65, .inl (cy 1, 6, .inl (fl 6 (-1) (fun _ => 0))))] s.heap.size = A at hD ⊢
  have hA : ∀ q : Nat, s.heap.size ≤ q → A q := fun q h => by rw [← hAe]; exact Or.inr h
  have hS : va_S A s.heap s.heap [] := va_S.rf
  have hP : va_P D vwCl [(q_64, .inr (2, [.ref q_1_65, .int 0, .int 0, .int 0, .ref q_2_66])), (q_1_65, .inl (cy 1, 6, .inl (fl 6 (-1) (fun _ => 0))))] s.heap := hP
  have hl := lv_entry ([.ref q_64, .int 2]) (n := 2) (Nat.le_of_ble_eq_true rfl)
  rw [lg_entry_eq]
  generalize (lg_sl ([.ref q_64, .int 2]) ++ List.replicate (2 - (lg_sl ([.ref q_64, .int 2])).length) Slot.unset).toArray = ls at hl ⊢
  have hl : lv_has ls 2 [(0, .ref q_64), (1, .int 2)] := hl
  refine w_nm (fun Q hQ => ?_)
  refine lv_aload_n hx hb dX2_isTold_0 rfl (lv_at hl 0 rfl) ?_
  refine va_get (D := D) (ci := 2) (v := .ref q_1_65) (C := RX2) (T := TX2) (N := 5) hx hb hts (inC ibX2) hown hG.1 hP 0 rfl rfl 0 (by decide) (hg _ k_299) (fun _ h9 => h9) rfl dX2_isTold_1 ?_
  refine lv_iload_n hx hb dX2_isTold_4 rfl (lv_at hl 1 rfl) ?_
  refine m_iald (v := (-1)) hx hb hG hP 1 rfl (vin (by decide)) dX2_isTold_5 rfl ?_
  refine lv_iconst (v := (-1)) hx hb dX2_isTold_6 (by decide) ?_
  refine lv_icmp_eq (tgt := 14) hx hb dX2_isTold_7 (by decide) (fun _ => ?_) (fun c_ => absurd rfl c_)
  refine lv_iconst (v := 0) hx hb dX2_isTold_14 (by decide) ?_
  have hP9 := hP.sub (ws' := [(q_64, .inr (2, [.ref q_1_65, .int 0, .int 0, .int 0, .ref q_2_66])), (q_1_65, .inl (cy 1, 6, .inl (fl 6 (-1) (fun _ => 0))))]) [0, 1] rfl
  have hD9 := hD.sub (ws' := [(q_64, .inr (2, [.ref q_1_65, .int 0, .int 0, .int 0, .ref q_2_66])), (q_1_65, .inl (cy 1, 6, .inl (fl 6 (-1) (fun _ => 0))))]) [0, 1] (by decide) rfl
  subst hQ
  exact W.zret (v := 0) hx hb hr rfl (fun t ht hW => qi_mk (by rw [ht]; exact ⟨rfl, hP9, hD9⟩) (hS.F ht)) hS.2.2 dX2_isTold_15
set_option maxHeartbeats 4000000 in
set_option maxRecDepth 100000 in
theorem c_X2_isTold_4 (l : Launch) (D : va_G) (cy : Nat → ClassId) (q_64 : Nat) (q_1_65 : Nat) (q_2_66 : Nat) (sz : Nat) : Met l yX2_isTold (Cond.code yX2_isTold cX2_isTold 2 (some .boolean) :: bigG) ({ frames := 0, cells := 0, slots := 0, locals := 0 }) (pre D cy [.ref q_64, .int 3] sz [(q_64, .inr (2, [.ref q_1_65, .int 0, .int 0, .int 0, .ref q_2_66])), (q_1_65, .inl (cy 1, 6, .inl (fl 6 (-1) (fun _ => 0))))]) (qi (fun r h => r = 0 ∧ va_P D vwCl [(q_64, .inr (2, [.ref q_1_65, .int 0, .int 0, .int 0, .ref q_2_66])), (q_1_65, .inl (cy 1, 6, .inl (fl 6 (-1) (fun _ => 0))))] h ∧ va_D (va_A [(q_64, .inr (2, [.ref q_1_65, .int 0, .int 0, .int 0, .ref q_2_66])), (q_1_65, .inl (cy 1, 6, .inl (fl 6 (-1) (fun _ => 0))))] sz) [(q_64, .inr (2, [.ref q_1_65, .int 0, .int 0, .int 0, .ref q_2_66])), (q_1_65, .inl (cy 1, 6, .inl (fl 6 (-1) (fun _ => 0))))]) (va_A [(q_64, .inr (2, [.ref q_1_65, .int 0, .int 0, .int 0, .ref q_2_66])), (q_1_65, .inl (cy 1, 6, .inl (fl 6 (-1) (fun _ => 0))))] sz)) 0 0 (va_A [(q_64, .inr (2, [.ref q_1_65, .int 0, .int 0, .int 0, .ref q_2_66])), (q_1_65, .inl (cy 1, 6, .inl (fl 6 (-1) (fun _ => 0))))] sz) := by
  refine Met.ofW (cc := cX2_isTold) (maxL := 2) (ret := (some .boolean)) (by decide) rfl ?_
  intro p e s m args below meth c s₁ B hml hv
  obtain ⟨rfl, hsz, hP, hG, hD0⟩ := hv
  have hx := B.exec
  have hb := B.bytes
  have hr := B.returns
  have hts := atoms_spec (ws := (Cond.code yX2_isTold cX2_isTold 2 (some .boolean) :: bigG)) B.pre
  have hg : ∀ w ∈ bigG, w.before ([.ref q_64, .int 3] : List Value).toArray s = true := fun w h => hts w (List.mem_cons_of_mem _ h)
  have hown : s.vm.findClass RX2 = some m.cls := findClass_of_methodNamed B.named
  have hlocks := B.notSynchronized
  subst hsz
  have hD := hD0.self (sz := s.heap.size)
  generalize hAe : va_A [(q_64, .inr (2, [.ref q_1_65, .int 0, .int 0, .int 0, .ref q_2_66])), (q_1_65, .inl (cy 1, 6, .inl (fl 6 (-1) (fun _ => 0))))] s.heap.size = A at hD ⊢
  have hA : ∀ q : Nat, s.heap.size ≤ q → A q := fun q h => by rw [← hAe]; exact Or.inr h
  have hS : va_S A s.heap s.heap [] := va_S.rf
  have hP : va_P D vwCl [(q_64, .inr (2, [.ref q_1_65, .int 0, .int 0, .int 0, .ref q_2_66])), (q_1_65, .inl (cy 1, 6, .inl (fl 6 (-1) (fun _ => 0))))] s.heap := hP
  have hl := lv_entry ([.ref q_64, .int 3]) (n := 2) (Nat.le_of_ble_eq_true rfl)
  rw [lg_entry_eq]
  generalize (lg_sl ([.ref q_64, .int 3]) ++ List.replicate (2 - (lg_sl ([.ref q_64, .int 3])).length) Slot.unset).toArray = ls at hl ⊢
  have hl : lv_has ls 2 [(0, .ref q_64), (1, .int 3)] := hl
  refine w_nm (fun Q hQ => ?_)
  refine lv_aload_n hx hb dX2_isTold_0 rfl (lv_at hl 0 rfl) ?_
  refine va_get (D := D) (ci := 2) (v := .ref q_1_65) (C := RX2) (T := TX2) (N := 5) hx hb hts (inC ibX2) hown hG.1 hP 0 rfl rfl 0 (by decide) (hg _ k_299) (fun _ h9 => h9) rfl dX2_isTold_1 ?_
  refine lv_iload_n hx hb dX2_isTold_4 rfl (lv_at hl 1 rfl) ?_
  refine m_iald (v := (-1)) hx hb hG hP 1 rfl (vin (by decide)) dX2_isTold_5 rfl ?_
  refine lv_iconst (v := (-1)) hx hb dX2_isTold_6 (by decide) ?_
  refine lv_icmp_eq (tgt := 14) hx hb dX2_isTold_7 (by decide) (fun _ => ?_) (fun c_ => absurd rfl c_)
  refine lv_iconst (v := 0) hx hb dX2_isTold_14 (by decide) ?_
  have hP9 := hP.sub (ws' := [(q_64, .inr (2, [.ref q_1_65, .int 0, .int 0, .int 0, .ref q_2_66])), (q_1_65, .inl (cy 1, 6, .inl (fl 6 (-1) (fun _ => 0))))]) [0, 1] rfl
  have hD9 := hD.sub (ws' := [(q_64, .inr (2, [.ref q_1_65, .int 0, .int 0, .int 0, .ref q_2_66])), (q_1_65, .inl (cy 1, 6, .inl (fl 6 (-1) (fun _ => 0))))]) [0, 1] (by decide) rfl
  subst hQ
  exact W.zret (v := 0) hx hb hr rfl (fun t ht hW => qi_mk (by rw [ht]; exact ⟨rfl, hP9, hD9⟩) (hS.F ht)) hS.2.2 dX2_isTold_15
set_option maxHeartbeats 4000000 in
set_option maxRecDepth 100000 in
theorem c_X2_isTold_5 (l : Launch) (D : va_G) (cy : Nat → ClassId) (q_64 : Nat) (q_1_65 : Nat) (q_2_66 : Nat) (sz : Nat) : Met l yX2_isTold (Cond.code yX2_isTold cX2_isTold 2 (some .boolean) :: bigG) ({ frames := 0, cells := 0, slots := 0, locals := 0 }) (pre D cy [.ref q_64, .int 4] sz [(q_64, .inr (2, [.ref q_1_65, .int 0, .int 0, .int 0, .ref q_2_66])), (q_1_65, .inl (cy 1, 6, .inl (fl 6 (-1) (fun _ => 0))))]) (qi (fun r h => r = 0 ∧ va_P D vwCl [(q_64, .inr (2, [.ref q_1_65, .int 0, .int 0, .int 0, .ref q_2_66])), (q_1_65, .inl (cy 1, 6, .inl (fl 6 (-1) (fun _ => 0))))] h ∧ va_D (va_A [(q_64, .inr (2, [.ref q_1_65, .int 0, .int 0, .int 0, .ref q_2_66])), (q_1_65, .inl (cy 1, 6, .inl (fl 6 (-1) (fun _ => 0))))] sz) [(q_64, .inr (2, [.ref q_1_65, .int 0, .int 0, .int 0, .ref q_2_66])), (q_1_65, .inl (cy 1, 6, .inl (fl 6 (-1) (fun _ => 0))))]) (va_A [(q_64, .inr (2, [.ref q_1_65, .int 0, .int 0, .int 0, .ref q_2_66])), (q_1_65, .inl (cy 1, 6, .inl (fl 6 (-1) (fun _ => 0))))] sz)) 0 0 (va_A [(q_64, .inr (2, [.ref q_1_65, .int 0, .int 0, .int 0, .ref q_2_66])), (q_1_65, .inl (cy 1, 6, .inl (fl 6 (-1) (fun _ => 0))))] sz) := by
  refine Met.ofW (cc := cX2_isTold) (maxL := 2) (ret := (some .boolean)) (by decide) rfl ?_
  intro p e s m args below meth c s₁ B hml hv
  obtain ⟨rfl, hsz, hP, hG, hD0⟩ := hv
  have hx := B.exec
  have hb := B.bytes
  have hr := B.returns
  have hts := atoms_spec (ws := (Cond.code yX2_isTold cX2_isTold 2 (some .boolean) :: bigG)) B.pre
  have hg : ∀ w ∈ bigG, w.before ([.ref q_64, .int 4] : List Value).toArray s = true := fun w h => hts w (List.mem_cons_of_mem _ h)
  have hown : s.vm.findClass RX2 = some m.cls := findClass_of_methodNamed B.named
  have hlocks := B.notSynchronized
  subst hsz
  have hD := hD0.self (sz := s.heap.size)
  generalize hAe : va_A [(q_64, .inr (2, [.ref q_1_65, .int 0, .int 0, .int 0, .ref q_2_66])), (q_1_65, .inl (cy 1, 6, .inl (fl 6 (-1) (fun _ => 0))))] s.heap.size = A at hD ⊢
  have hA : ∀ q : Nat, s.heap.size ≤ q → A q := fun q h => by rw [← hAe]; exact Or.inr h
  have hS : va_S A s.heap s.heap [] := va_S.rf
  have hP : va_P D vwCl [(q_64, .inr (2, [.ref q_1_65, .int 0, .int 0, .int 0, .ref q_2_66])), (q_1_65, .inl (cy 1, 6, .inl (fl 6 (-1) (fun _ => 0))))] s.heap := hP
  have hl := lv_entry ([.ref q_64, .int 4]) (n := 2) (Nat.le_of_ble_eq_true rfl)
  rw [lg_entry_eq]
  generalize (lg_sl ([.ref q_64, .int 4]) ++ List.replicate (2 - (lg_sl ([.ref q_64, .int 4])).length) Slot.unset).toArray = ls at hl ⊢
  have hl : lv_has ls 2 [(0, .ref q_64), (1, .int 4)] := hl
  refine w_nm (fun Q hQ => ?_)
  refine lv_aload_n hx hb dX2_isTold_0 rfl (lv_at hl 0 rfl) ?_
  refine va_get (D := D) (ci := 2) (v := .ref q_1_65) (C := RX2) (T := TX2) (N := 5) hx hb hts (inC ibX2) hown hG.1 hP 0 rfl rfl 0 (by decide) (hg _ k_299) (fun _ h9 => h9) rfl dX2_isTold_1 ?_
  refine lv_iload_n hx hb dX2_isTold_4 rfl (lv_at hl 1 rfl) ?_
  refine m_iald (v := (-1)) hx hb hG hP 1 rfl (vin (by decide)) dX2_isTold_5 rfl ?_
  refine lv_iconst (v := (-1)) hx hb dX2_isTold_6 (by decide) ?_
  refine lv_icmp_eq (tgt := 14) hx hb dX2_isTold_7 (by decide) (fun _ => ?_) (fun c_ => absurd rfl c_)
  refine lv_iconst (v := 0) hx hb dX2_isTold_14 (by decide) ?_
  have hP9 := hP.sub (ws' := [(q_64, .inr (2, [.ref q_1_65, .int 0, .int 0, .int 0, .ref q_2_66])), (q_1_65, .inl (cy 1, 6, .inl (fl 6 (-1) (fun _ => 0))))]) [0, 1] rfl
  have hD9 := hD.sub (ws' := [(q_64, .inr (2, [.ref q_1_65, .int 0, .int 0, .int 0, .ref q_2_66])), (q_1_65, .inl (cy 1, 6, .inl (fl 6 (-1) (fun _ => 0))))]) [0, 1] (by decide) rfl
  subst hQ
  exact W.zret (v := 0) hx hb hr rfl (fun t ht hW => qi_mk (by rw [ht]; exact ⟨rfl, hP9, hD9⟩) (hS.F ht)) hS.2.2 dX2_isTold_15
set_option maxHeartbeats 4000000 in
set_option maxRecDepth 100000 in
theorem c_X2_isTold_6 (l : Launch) (D : va_G) (cy : Nat → ClassId) (q_64 : Nat) (q_1_65 : Nat) (q_2_66 : Nat) (sz : Nat) : Met l yX2_isTold (Cond.code yX2_isTold cX2_isTold 2 (some .boolean) :: bigG) ({ frames := 0, cells := 0, slots := 0, locals := 0 }) (pre D cy [.ref q_64, .int 5] sz [(q_64, .inr (2, [.ref q_1_65, .int 0, .int 0, .int 0, .ref q_2_66])), (q_1_65, .inl (cy 1, 6, .inl (fl 6 (-1) (fun _ => 0))))]) (qi (fun r h => r = 0 ∧ va_P D vwCl [(q_64, .inr (2, [.ref q_1_65, .int 0, .int 0, .int 0, .ref q_2_66])), (q_1_65, .inl (cy 1, 6, .inl (fl 6 (-1) (fun _ => 0))))] h ∧ va_D (va_A [(q_64, .inr (2, [.ref q_1_65, .int 0, .int 0, .int 0, .ref q_2_66])), (q_1_65, .inl (cy 1, 6, .inl (fl 6 (-1) (fun _ => 0))))] sz) [(q_64, .inr (2, [.ref q_1_65, .int 0, .int 0, .int 0, .ref q_2_66])), (q_1_65, .inl (cy 1, 6, .inl (fl 6 (-1) (fun _ => 0))))]) (va_A [(q_64, .inr (2, [.ref q_1_65, .int 0, .int 0, .int 0, .ref q_2_66])), (q_1_65, .inl (cy 1, 6, .inl (fl 6 (-1) (fun _ => 0))))] sz)) 0 0 (va_A [(q_64, .inr (2, [.ref q_1_65, .int 0, .int 0, .int 0, .ref q_2_66])), (q_1_65, .inl (cy 1, 6, .inl (fl 6 (-1) (fun _ => 0))))] sz) := by
  refine Met.ofW (cc := cX2_isTold) (maxL := 2) (ret := (some .boolean)) (by decide) rfl ?_
  intro p e s m args below meth c s₁ B hml hv
  obtain ⟨rfl, hsz, hP, hG, hD0⟩ := hv
  have hx := B.exec
  have hb := B.bytes
  have hr := B.returns
  have hts := atoms_spec (ws := (Cond.code yX2_isTold cX2_isTold 2 (some .boolean) :: bigG)) B.pre
  have hg : ∀ w ∈ bigG, w.before ([.ref q_64, .int 5] : List Value).toArray s = true := fun w h => hts w (List.mem_cons_of_mem _ h)
  have hown : s.vm.findClass RX2 = some m.cls := findClass_of_methodNamed B.named
  have hlocks := B.notSynchronized
  subst hsz
  have hD := hD0.self (sz := s.heap.size)
  generalize hAe : va_A [(q_64, .inr (2, [.ref q_1_65, .int 0, .int 0, .int 0, .ref q_2_66])), (q_1_65, .inl (cy 1, 6, .inl (fl 6 (-1) (fun _ => 0))))] s.heap.size = A at hD ⊢
  have hA : ∀ q : Nat, s.heap.size ≤ q → A q := fun q h => by rw [← hAe]; exact Or.inr h
  have hS : va_S A s.heap s.heap [] := va_S.rf
  have hP : va_P D vwCl [(q_64, .inr (2, [.ref q_1_65, .int 0, .int 0, .int 0, .ref q_2_66])), (q_1_65, .inl (cy 1, 6, .inl (fl 6 (-1) (fun _ => 0))))] s.heap := hP
  have hl := lv_entry ([.ref q_64, .int 5]) (n := 2) (Nat.le_of_ble_eq_true rfl)
  rw [lg_entry_eq]
  generalize (lg_sl ([.ref q_64, .int 5]) ++ List.replicate (2 - (lg_sl ([.ref q_64, .int 5])).length) Slot.unset).toArray = ls at hl ⊢
  have hl : lv_has ls 2 [(0, .ref q_64), (1, .int 5)] := hl
  refine w_nm (fun Q hQ => ?_)
  refine lv_aload_n hx hb dX2_isTold_0 rfl (lv_at hl 0 rfl) ?_
  refine va_get (D := D) (ci := 2) (v := .ref q_1_65) (C := RX2) (T := TX2) (N := 5) hx hb hts (inC ibX2) hown hG.1 hP 0 rfl rfl 0 (by decide) (hg _ k_299) (fun _ h9 => h9) rfl dX2_isTold_1 ?_
  refine lv_iload_n hx hb dX2_isTold_4 rfl (lv_at hl 1 rfl) ?_
  refine m_iald (v := (-1)) hx hb hG hP 1 rfl (vin (by decide)) dX2_isTold_5 rfl ?_
  refine lv_iconst (v := (-1)) hx hb dX2_isTold_6 (by decide) ?_
  refine lv_icmp_eq (tgt := 14) hx hb dX2_isTold_7 (by decide) (fun _ => ?_) (fun c_ => absurd rfl c_)
  refine lv_iconst (v := 0) hx hb dX2_isTold_14 (by decide) ?_
  have hP9 := hP.sub (ws' := [(q_64, .inr (2, [.ref q_1_65, .int 0, .int 0, .int 0, .ref q_2_66])), (q_1_65, .inl (cy 1, 6, .inl (fl 6 (-1) (fun _ => 0))))]) [0, 1] rfl
  have hD9 := hD.sub (ws' := [(q_64, .inr (2, [.ref q_1_65, .int 0, .int 0, .int 0, .ref q_2_66])), (q_1_65, .inl (cy 1, 6, .inl (fl 6 (-1) (fun _ => 0))))]) [0, 1] (by decide) rfl
  subst hQ
  exact W.zret (v := 0) hx hb hr rfl (fun t ht hW => qi_mk (by rw [ht]; exact ⟨rfl, hP9, hD9⟩) (hS.F ht)) hS.2.2 dX2_isTold_15
set_option maxHeartbeats 4000000 in
set_option maxRecDepth 100000 in
theorem c_X2_howManyTold_1 (l : Launch) (D : va_G) (cy : Nat → ClassId) (q_64 : Nat) (q_1_65 : Nat) (q_2_66 : Nat) (sz : Nat) : Met l yX2_howManyTold (Cond.code yX2_howManyTold cX2_howManyTold 3 (some .int) :: bigG) ({ frames := 1, cells := 0, slots := 0, locals := 21 }) (pre D cy [.ref q_64] sz [(q_64, .inr (2, [.ref q_1_65, .int 0, .int 0, .int 0, .ref q_2_66])), (q_1_65, .inl (cy 1, 6, .inl (fl 6 (-1) (fun _ => 0))))]) (qi (fun r h => r = 0 ∧ va_P D vwCl [(q_64, .inr (2, [.ref q_1_65, .int 0, .int 0, .int 0, .ref q_2_66])), (q_1_65, .inl (cy 1, 6, .inl (fl 6 (-1) (fun _ => 0))))] h ∧ va_D (va_A [(q_64, .inr (2, [.ref q_1_65, .int 0, .int 0, .int 0, .ref q_2_66])), (q_1_65, .inl (cy 1, 6, .inl (fl 6 (-1) (fun _ => 0))))] sz) [(q_64, .inr (2, [.ref q_1_65, .int 0, .int 0, .int 0, .ref q_2_66])), (q_1_65, .inl (cy 1, 6, .inl (fl 6 (-1) (fun _ => 0))))]) (va_A [(q_64, .inr (2, [.ref q_1_65, .int 0, .int 0, .int 0, .ref q_2_66])), (q_1_65, .inl (cy 1, 6, .inl (fl 6 (-1) (fun _ => 0))))] sz)) 0 0 (va_A [(q_64, .inr (2, [.ref q_1_65, .int 0, .int 0, .int 0, .ref q_2_66])), (q_1_65, .inl (cy 1, 6, .inl (fl 6 (-1) (fun _ => 0))))] sz) := by
  refine Met.ofW (cc := cX2_howManyTold) (maxL := 3) (ret := (some .int)) (by decide) rfl ?_
  intro p e s m args below meth c s₁ B hml hv
  obtain ⟨rfl, hsz, hP, hG, hD0⟩ := hv
  have hx := B.exec
  have hb := B.bytes
  have hr := B.returns
  have hts := atoms_spec (ws := (Cond.code yX2_howManyTold cX2_howManyTold 3 (some .int) :: bigG)) B.pre
  have hg : ∀ w ∈ bigG, w.before ([.ref q_64] : List Value).toArray s = true := fun w h => hts w (List.mem_cons_of_mem _ h)
  have hown : s.vm.findClass RX2 = some m.cls := findClass_of_methodNamed B.named
  have hlocks := B.notSynchronized
  subst hsz
  have hD := hD0.self (sz := s.heap.size)
  generalize hAe : va_A [(q_64, .inr (2, [.ref q_1_65, .int 0, .int 0, .int 0, .ref q_2_66])), (q_1_65, .inl (cy 1, 6, .inl (fl 6 (-1) (fun _ => 0))))] s.heap.size = A at hD ⊢
  have hA : ∀ q : Nat, s.heap.size ≤ q → A q := fun q h => by rw [← hAe]; exact Or.inr h
  have hS : va_S A s.heap s.heap [] := va_S.rf
  have hP : va_P D vwCl [(q_64, .inr (2, [.ref q_1_65, .int 0, .int 0, .int 0, .ref q_2_66])), (q_1_65, .inl (cy 1, 6, .inl (fl 6 (-1) (fun _ => 0))))] s.heap := hP
  have hl := lv_entry ([.ref q_64]) (n := 3) (Nat.le_of_ble_eq_true rfl)
  rw [lg_entry_eq]
  generalize (lg_sl ([.ref q_64]) ++ List.replicate (3 - (lg_sl ([.ref q_64])).length) Slot.unset).toArray = ls at hl ⊢
  have hl : lv_has ls 3 [(0, .ref q_64)] := hl
  refine w_nm (fun Q hQ => ?_)
  refine lv_iconst (v := 0) hx hb dX2_howManyTold_0 (by decide) ?_
  refine lv_istore_n (lv' := [(1, .int 0), (0, .ref q_64)]) hx hb dX2_howManyTold_1 rfl hl (by decide) rfl (fun ls hl => ?_)
  refine lv_iconst (v := 0) hx hb dX2_howManyTold_2 (by decide) ?_
  refine lv_istore_n (lv' := [(2, .int 0), (1, .int 0), (0, .ref q_64)]) hx hb dX2_howManyTold_3 rfl hl (by decide) rfl (fun ls hl => ?_)
  refine lv_iload_n hx hb dX2_howManyTold_4 rfl (lv_at hl 0 rfl) ?_
  refine lv_bipush (v := 6) hx hb dX2_howManyTold_5 (by decide) ?_
  refine lv_icmp_ge (tgt := 32) hx hb dX2_howManyTold_7 (by decide) (fun c_ => absurd c_ (by decide)) (fun _ => ?_)
  refine lv_iload_n hx hb dX2_howManyTold_10 rfl (lv_at hl 1 rfl) ?_
  refine lv_aload_n hx hb dX2_howManyTold_11 rfl (lv_at hl 2 rfl) ?_
  refine lv_iload_n hx hb dX2_howManyTold_12 rfl (lv_at hl 0 rfl) ?_
  refine x_i (wr := []) hP hD hS hA [0, 1] [] rfl rfl (by decide) (by decide) (va_runV (As := [.int 0]) (rest := [.int 0]) ⟨hx, hb, hml, hown, hts⟩ (c_X2_isTold_1 l D cy q_64 q_1_65 q_2_66 s.heap.size) (cwV 1 hts (gV km_X2_34 ki_X2_isTold kz_X2_isTold kn_X2 kc_X2_isTold) rfl rfl rfl (by decide +kernel) ⟨(Nat.le_of_ble_eq_true rfl), (Nat.le_of_ble_eq_true rfl)⟩) (preV hG hP hD [0, 1] rfl (by decide) 2 0 rfl rfl) rfl rfl hl.1 rfl (lv_room (Nat.le_of_ble_eq_true rfl)) dX2_howManyTold_13 ⟨(Nat.le_of_ble_eq_true rfl), (Nat.le_of_ble_eq_true rfl)⟩) (fun r_1 H locs hB hj hS => ?_)
  obtain ⟨hres, hP1, hD1⟩ := hB
  subst hres
  obtain ⟨hP, hD⟩ := hj _ hP1 hD1
  have hP : va_P D vwCl [(q_64, .inr (2, [.ref q_1_65, .int 0, .int 0, .int 0, .ref q_2_66])), (q_1_65, .inl (cy 1, 6, .inl (fl 6 (-1) (fun _ => 0))))] H := hP
  have hD : va_D A [(q_64, .inr (2, [.ref q_1_65, .int 0, .int 0, .int 0, .ref q_2_66])), (q_1_65, .inl (cy 1, 6, .inl (fl 6 (-1) (fun _ => 0))))] := hD
  refine lv_if_eq (tgt := 23) hx hb dX2_howManyTold_16 (by decide) (fun _ => ?_) (fun c_ => absurd rfl c_)
  refine lv_iconst (v := 0) hx hb dX2_howManyTold_23 (by decide) ?_
  refine m_iadd (v := 0) hx hb dX2_howManyTold_24 (by decide) ?_
  refine lv_istore_n (lv' := [(1, .int 0), (2, .int 0), (0, .ref q_64)]) hx hb dX2_howManyTold_25 rfl hl (by decide) rfl (fun ls hl => ?_)
  refine lv_iinc (v := 1) (lv' := [(2, .int 1), (1, .int 0), (0, .ref q_64)]) hx hb dX2_howManyTold_26 hl (k := 1) rfl (by decide) (by decide) rfl (fun ls hl => ?_)
  refine lv_goto (tgt := 4) hx hb dX2_howManyTold_29 (by decide) ?_
  refine lv_iload_n hx hb dX2_howManyTold_4 rfl (lv_at hl 0 rfl) ?_
  refine lv_bipush (v := 6) hx hb dX2_howManyTold_5 (by decide) ?_
  refine lv_icmp_ge (tgt := 32) hx hb dX2_howManyTold_7 (by decide) (fun c_ => absurd c_ (by decide)) (fun _ => ?_)
  refine lv_iload_n hx hb dX2_howManyTold_10 rfl (lv_at hl 1 rfl) ?_
  refine lv_aload_n hx hb dX2_howManyTold_11 rfl (lv_at hl 2 rfl) ?_
  refine lv_iload_n hx hb dX2_howManyTold_12 rfl (lv_at hl 0 rfl) ?_
  refine x_i (wr := []) hP hD hS hA [0, 1] [] rfl rfl (by decide) (by decide) (va_runV (As := [.int 1]) (rest := [.int 0]) ⟨hx, hb, hml, hown, hts⟩ (c_X2_isTold_2 l D cy q_64 q_1_65 q_2_66 H.size) (cwV 1 hts (gV km_X2_34 ki_X2_isTold kz_X2_isTold kn_X2 kc_X2_isTold) rfl rfl rfl (by decide +kernel) ⟨(Nat.le_of_ble_eq_true rfl), (Nat.le_of_ble_eq_true rfl)⟩) (preV hG hP hD [0, 1] rfl (by decide) 2 0 rfl rfl) rfl rfl hl.1 rfl (lv_room (Nat.le_of_ble_eq_true rfl)) dX2_howManyTold_13 ⟨(Nat.le_of_ble_eq_true rfl), (Nat.le_of_ble_eq_true rfl)⟩) (fun r_2 H locs hB hj hS => ?_)
  obtain ⟨hres, hP1, hD1⟩ := hB
  subst hres
  obtain ⟨hP, hD⟩ := hj _ hP1 hD1
  have hP : va_P D vwCl [(q_64, .inr (2, [.ref q_1_65, .int 0, .int 0, .int 0, .ref q_2_66])), (q_1_65, .inl (cy 1, 6, .inl (fl 6 (-1) (fun _ => 0))))] H := hP
  have hD : va_D A [(q_64, .inr (2, [.ref q_1_65, .int 0, .int 0, .int 0, .ref q_2_66])), (q_1_65, .inl (cy 1, 6, .inl (fl 6 (-1) (fun _ => 0))))] := hD
  refine lv_if_eq (tgt := 23) hx hb dX2_howManyTold_16 (by decide) (fun _ => ?_) (fun c_ => absurd rfl c_)
  refine lv_iconst (v := 0) hx hb dX2_howManyTold_23 (by decide) ?_
  refine m_iadd (v := 0) hx hb dX2_howManyTold_24 (by decide) ?_
  refine lv_istore_n (lv' := [(1, .int 0), (2, .int 1), (0, .ref q_64)]) hx hb dX2_howManyTold_25 rfl hl (by decide) rfl (fun ls hl => ?_)
  refine lv_iinc (v := 2) (lv' := [(2, .int 2), (1, .int 0), (0, .ref q_64)]) hx hb dX2_howManyTold_26 hl (k := 1) rfl (by decide) (by decide) rfl (fun ls hl => ?_)
  refine lv_goto (tgt := 4) hx hb dX2_howManyTold_29 (by decide) ?_
  refine lv_iload_n hx hb dX2_howManyTold_4 rfl (lv_at hl 0 rfl) ?_
  refine lv_bipush (v := 6) hx hb dX2_howManyTold_5 (by decide) ?_
  refine lv_icmp_ge (tgt := 32) hx hb dX2_howManyTold_7 (by decide) (fun c_ => absurd c_ (by decide)) (fun _ => ?_)
  refine lv_iload_n hx hb dX2_howManyTold_10 rfl (lv_at hl 1 rfl) ?_
  refine lv_aload_n hx hb dX2_howManyTold_11 rfl (lv_at hl 2 rfl) ?_
  refine lv_iload_n hx hb dX2_howManyTold_12 rfl (lv_at hl 0 rfl) ?_
  refine x_i (wr := []) hP hD hS hA [0, 1] [] rfl rfl (by decide) (by decide) (va_runV (As := [.int 2]) (rest := [.int 0]) ⟨hx, hb, hml, hown, hts⟩ (c_X2_isTold_3 l D cy q_64 q_1_65 q_2_66 H.size) (cwV 1 hts (gV km_X2_34 ki_X2_isTold kz_X2_isTold kn_X2 kc_X2_isTold) rfl rfl rfl (by decide +kernel) ⟨(Nat.le_of_ble_eq_true rfl), (Nat.le_of_ble_eq_true rfl)⟩) (preV hG hP hD [0, 1] rfl (by decide) 2 0 rfl rfl) rfl rfl hl.1 rfl (lv_room (Nat.le_of_ble_eq_true rfl)) dX2_howManyTold_13 ⟨(Nat.le_of_ble_eq_true rfl), (Nat.le_of_ble_eq_true rfl)⟩) (fun r_3 H locs hB hj hS => ?_)
  obtain ⟨hres, hP1, hD1⟩ := hB
  subst hres
  obtain ⟨hP, hD⟩ := hj _ hP1 hD1
  have hP : va_P D vwCl [(q_64, .inr (2, [.ref q_1_65, .int 0, .int 0, .int 0, .ref q_2_66])), (q_1_65, .inl (cy 1, 6, .inl (fl 6 (-1) (fun _ => 0))))] H := hP
  have hD : va_D A [(q_64, .inr (2, [.ref q_1_65, .int 0, .int 0, .int 0, .ref q_2_66])), (q_1_65, .inl (cy 1, 6, .inl (fl 6 (-1) (fun _ => 0))))] := hD
  refine lv_if_eq (tgt := 23) hx hb dX2_howManyTold_16 (by decide) (fun _ => ?_) (fun c_ => absurd rfl c_)
  refine lv_iconst (v := 0) hx hb dX2_howManyTold_23 (by decide) ?_
  refine m_iadd (v := 0) hx hb dX2_howManyTold_24 (by decide) ?_
  refine lv_istore_n (lv' := [(1, .int 0), (2, .int 2), (0, .ref q_64)]) hx hb dX2_howManyTold_25 rfl hl (by decide) rfl (fun ls hl => ?_)
  refine lv_iinc (v := 3) (lv' := [(2, .int 3), (1, .int 0), (0, .ref q_64)]) hx hb dX2_howManyTold_26 hl (k := 1) rfl (by decide) (by decide) rfl (fun ls hl => ?_)
  refine lv_goto (tgt := 4) hx hb dX2_howManyTold_29 (by decide) ?_
  refine lv_iload_n hx hb dX2_howManyTold_4 rfl (lv_at hl 0 rfl) ?_
  refine lv_bipush (v := 6) hx hb dX2_howManyTold_5 (by decide) ?_
  refine lv_icmp_ge (tgt := 32) hx hb dX2_howManyTold_7 (by decide) (fun c_ => absurd c_ (by decide)) (fun _ => ?_)
  refine lv_iload_n hx hb dX2_howManyTold_10 rfl (lv_at hl 1 rfl) ?_
  refine lv_aload_n hx hb dX2_howManyTold_11 rfl (lv_at hl 2 rfl) ?_
  refine lv_iload_n hx hb dX2_howManyTold_12 rfl (lv_at hl 0 rfl) ?_
  refine x_i (wr := []) hP hD hS hA [0, 1] [] rfl rfl (by decide) (by decide) (va_runV (As := [.int 3]) (rest := [.int 0]) ⟨hx, hb, hml, hown, hts⟩ (c_X2_isTold_4 l D cy q_64 q_1_65 q_2_66 H.size) (cwV 1 hts (gV km_X2_34 ki_X2_isTold kz_X2_isTold kn_X2 kc_X2_isTold) rfl rfl rfl (by decide +kernel) ⟨(Nat.le_of_ble_eq_true rfl), (Nat.le_of_ble_eq_true rfl)⟩) (preV hG hP hD [0, 1] rfl (by decide) 2 0 rfl rfl) rfl rfl hl.1 rfl (lv_room (Nat.le_of_ble_eq_true rfl)) dX2_howManyTold_13 ⟨(Nat.le_of_ble_eq_true rfl), (Nat.le_of_ble_eq_true rfl)⟩) (fun r_4 H locs hB hj hS => ?_)
  obtain ⟨hres, hP1, hD1⟩ := hB
  subst hres
  obtain ⟨hP, hD⟩ := hj _ hP1 hD1
  have hP : va_P D vwCl [(q_64, .inr (2, [.ref q_1_65, .int 0, .int 0, .int 0, .ref q_2_66])), (q_1_65, .inl (cy 1, 6, .inl (fl 6 (-1) (fun _ => 0))))] H := hP
  have hD : va_D A [(q_64, .inr (2, [.ref q_1_65, .int 0, .int 0, .int 0, .ref q_2_66])), (q_1_65, .inl (cy 1, 6, .inl (fl 6 (-1) (fun _ => 0))))] := hD
  refine lv_if_eq (tgt := 23) hx hb dX2_howManyTold_16 (by decide) (fun _ => ?_) (fun c_ => absurd rfl c_)
  refine lv_iconst (v := 0) hx hb dX2_howManyTold_23 (by decide) ?_
  refine m_iadd (v := 0) hx hb dX2_howManyTold_24 (by decide) ?_
  refine lv_istore_n (lv' := [(1, .int 0), (2, .int 3), (0, .ref q_64)]) hx hb dX2_howManyTold_25 rfl hl (by decide) rfl (fun ls hl => ?_)
  refine lv_iinc (v := 4) (lv' := [(2, .int 4), (1, .int 0), (0, .ref q_64)]) hx hb dX2_howManyTold_26 hl (k := 1) rfl (by decide) (by decide) rfl (fun ls hl => ?_)
  refine lv_goto (tgt := 4) hx hb dX2_howManyTold_29 (by decide) ?_
  refine lv_iload_n hx hb dX2_howManyTold_4 rfl (lv_at hl 0 rfl) ?_
  refine lv_bipush (v := 6) hx hb dX2_howManyTold_5 (by decide) ?_
  refine lv_icmp_ge (tgt := 32) hx hb dX2_howManyTold_7 (by decide) (fun c_ => absurd c_ (by decide)) (fun _ => ?_)
  refine lv_iload_n hx hb dX2_howManyTold_10 rfl (lv_at hl 1 rfl) ?_
  refine lv_aload_n hx hb dX2_howManyTold_11 rfl (lv_at hl 2 rfl) ?_
  refine lv_iload_n hx hb dX2_howManyTold_12 rfl (lv_at hl 0 rfl) ?_
  refine x_i (wr := []) hP hD hS hA [0, 1] [] rfl rfl (by decide) (by decide) (va_runV (As := [.int 4]) (rest := [.int 0]) ⟨hx, hb, hml, hown, hts⟩ (c_X2_isTold_5 l D cy q_64 q_1_65 q_2_66 H.size) (cwV 1 hts (gV km_X2_34 ki_X2_isTold kz_X2_isTold kn_X2 kc_X2_isTold) rfl rfl rfl (by decide +kernel) ⟨(Nat.le_of_ble_eq_true rfl), (Nat.le_of_ble_eq_true rfl)⟩) (preV hG hP hD [0, 1] rfl (by decide) 2 0 rfl rfl) rfl rfl hl.1 rfl (lv_room (Nat.le_of_ble_eq_true rfl)) dX2_howManyTold_13 ⟨(Nat.le_of_ble_eq_true rfl), (Nat.le_of_ble_eq_true rfl)⟩) (fun r_5 H locs hB hj hS => ?_)
  obtain ⟨hres, hP1, hD1⟩ := hB
  subst hres
  obtain ⟨hP, hD⟩ := hj _ hP1 hD1
  have hP : va_P D vwCl [(q_64, .inr (2, [.ref q_1_65, .int 0, .int 0, .int 0, .ref q_2_66])), (q_1_65, .inl (cy 1, 6, .inl (fl 6 (-1) (fun _ => 0))))] H := hP
  have hD : va_D A [(q_64, .inr (2, [.ref q_1_65, .int 0, .int 0, .int 0, .ref q_2_66])), (q_1_65, .inl (cy 1, 6, .inl (fl 6 (-1) (fun _ => 0))))] := hD
  refine lv_if_eq (tgt := 23) hx hb dX2_howManyTold_16 (by decide) (fun _ => ?_) (fun c_ => absurd rfl c_)
  refine lv_iconst (v := 0) hx hb dX2_howManyTold_23 (by decide) ?_
  refine m_iadd (v := 0) hx hb dX2_howManyTold_24 (by decide) ?_
  refine lv_istore_n (lv' := [(1, .int 0), (2, .int 4), (0, .ref q_64)]) hx hb dX2_howManyTold_25 rfl hl (by decide) rfl (fun ls hl => ?_)
  refine lv_iinc (v := 5) (lv' := [(2, .int 5), (1, .int 0), (0, .ref q_64)]) hx hb dX2_howManyTold_26 hl (k := 1) rfl (by decide) (by decide) rfl (fun ls hl => ?_)
  refine lv_goto (tgt := 4) hx hb dX2_howManyTold_29 (by decide) ?_
  refine lv_iload_n hx hb dX2_howManyTold_4 rfl (lv_at hl 0 rfl) ?_
  refine lv_bipush (v := 6) hx hb dX2_howManyTold_5 (by decide) ?_
  refine lv_icmp_ge (tgt := 32) hx hb dX2_howManyTold_7 (by decide) (fun c_ => absurd c_ (by decide)) (fun _ => ?_)
  refine lv_iload_n hx hb dX2_howManyTold_10 rfl (lv_at hl 1 rfl) ?_
  refine lv_aload_n hx hb dX2_howManyTold_11 rfl (lv_at hl 2 rfl) ?_
  refine lv_iload_n hx hb dX2_howManyTold_12 rfl (lv_at hl 0 rfl) ?_
  refine x_i (wr := []) hP hD hS hA [0, 1] [] rfl rfl (by decide) (by decide) (va_runV (As := [.int 5]) (rest := [.int 0]) ⟨hx, hb, hml, hown, hts⟩ (c_X2_isTold_6 l D cy q_64 q_1_65 q_2_66 H.size) (cwV 1 hts (gV km_X2_34 ki_X2_isTold kz_X2_isTold kn_X2 kc_X2_isTold) rfl rfl rfl (by decide +kernel) ⟨(Nat.le_of_ble_eq_true rfl), (Nat.le_of_ble_eq_true rfl)⟩) (preV hG hP hD [0, 1] rfl (by decide) 2 0 rfl rfl) rfl rfl hl.1 rfl (lv_room (Nat.le_of_ble_eq_true rfl)) dX2_howManyTold_13 ⟨(Nat.le_of_ble_eq_true rfl), (Nat.le_of_ble_eq_true rfl)⟩) (fun r_6 H locs hB hj hS => ?_)
  obtain ⟨hres, hP1, hD1⟩ := hB
  subst hres
  obtain ⟨hP, hD⟩ := hj _ hP1 hD1
  have hP : va_P D vwCl [(q_64, .inr (2, [.ref q_1_65, .int 0, .int 0, .int 0, .ref q_2_66])), (q_1_65, .inl (cy 1, 6, .inl (fl 6 (-1) (fun _ => 0))))] H := hP
  have hD : va_D A [(q_64, .inr (2, [.ref q_1_65, .int 0, .int 0, .int 0, .ref q_2_66])), (q_1_65, .inl (cy 1, 6, .inl (fl 6 (-1) (fun _ => 0))))] := hD
  refine lv_if_eq (tgt := 23) hx hb dX2_howManyTold_16 (by decide) (fun _ => ?_) (fun c_ => absurd rfl c_)
  refine lv_iconst (v := 0) hx hb dX2_howManyTold_23 (by decide) ?_
  refine m_iadd (v := 0) hx hb dX2_howManyTold_24 (by decide) ?_
  refine lv_istore_n (lv' := [(1, .int 0), (2, .int 5), (0, .ref q_64)]) hx hb dX2_howManyTold_25 rfl hl (by decide) rfl (fun ls hl => ?_)
  refine lv_iinc (v := 6) (lv' := [(2, .int 6), (1, .int 0), (0, .ref q_64)]) hx hb dX2_howManyTold_26 hl (k := 1) rfl (by decide) (by decide) rfl (fun ls hl => ?_)
  refine lv_goto (tgt := 4) hx hb dX2_howManyTold_29 (by decide) ?_
  refine lv_iload_n hx hb dX2_howManyTold_4 rfl (lv_at hl 0 rfl) ?_
  refine lv_bipush (v := 6) hx hb dX2_howManyTold_5 (by decide) ?_
  refine lv_icmp_ge (tgt := 32) hx hb dX2_howManyTold_7 (by decide) (fun _ => ?_) (fun c_ => absurd (by decide) c_)
  refine lv_iload_n hx hb dX2_howManyTold_32 rfl (lv_at hl 1 rfl) ?_
  have hP9 := hP.sub (ws' := [(q_64, .inr (2, [.ref q_1_65, .int 0, .int 0, .int 0, .ref q_2_66])), (q_1_65, .inl (cy 1, 6, .inl (fl 6 (-1) (fun _ => 0))))]) [0, 1] rfl
  have hD9 := hD.sub (ws' := [(q_64, .inr (2, [.ref q_1_65, .int 0, .int 0, .int 0, .ref q_2_66])), (q_1_65, .inl (cy 1, 6, .inl (fl 6 (-1) (fun _ => 0))))]) [0, 1] (by decide) rfl
  subst hQ
  exact W.iret (v := 0) hx hb hr (fun t ht hW => qi_mk (by rw [ht]; exact ⟨rfl, hP9, hD9⟩) (hS.F ht)) hS.2.2 dX2_howManyTold_33
set_option maxHeartbeats 4000000 in
set_option maxRecDepth 100000 in
theorem c_X11_count_10 (l : Launch) (D : va_G) (cy : Nat → ClassId) (h_1 : Nat) (q_1 : Nat) (q_3 : Nat) (q_4 : Nat) (q_25 : Nat) (q_46 : Nat) (q_50 : Nat) (q_54 : Nat) (q_58 : Nat) (q_62 : Nat) (q_63 : Nat) (q_64 : Nat) (q_67 : Nat) (q_85 : Nat) (q_90 : Nat) (q_93 : Nat) (q_1_65 : Nat) (q_2_66 : Nat) (sz : Nat) : Met l yX11_count (Cond.code yX11_count cX11_count 2 (some .int) :: bigG) ({ frames := 2, cells := 0, slots := 0, locals := 43 }) (pre D cy [.ref h_1, .int 9] sz [(h_1, .inr (11, [.ref q_1, .ref q_3, .ref q_4, .ref q_25, .ref q_46, .ref q_50, .ref q_54, .ref q_58, .ref q_62, .int 0, .int 0, .ref q_63, .ref q_64, .ref q_67, .ref q_85, .ref q_90, .ref q_93])), (q_64, .inr (2, [.ref q_1_65, .int 0, .int 0, .int 0, .ref q_2_66])), (q_1_65, .inl (cy 1, 6, .inl (fl 6 (-1) (fun _ => 0))))]) (qi (fun r h => r = 0 ∧ va_P D vwCl [] h ∧ va_D (va_A [(h_1, .inr (11, [.ref q_1, .ref q_3, .ref q_4, .ref q_25, .ref q_46, .ref q_50, .ref q_54, .ref q_58, .ref q_62, .int 0, .int 0, .ref q_63, .ref q_64, .ref q_67, .ref q_85, .ref q_90, .ref q_93])), (q_64, .inr (2, [.ref q_1_65, .int 0, .int 0, .int 0, .ref q_2_66])), (q_1_65, .inl (cy 1, 6, .inl (fl 6 (-1) (fun _ => 0))))] sz) []) (va_A [(h_1, .inr (11, [.ref q_1, .ref q_3, .ref q_4, .ref q_25, .ref q_46, .ref q_50, .ref q_54, .ref q_58, .ref q_62, .int 0, .int 0, .ref q_63, .ref q_64, .ref q_67, .ref q_85, .ref q_90, .ref q_93])), (q_64, .inr (2, [.ref q_1_65, .int 0, .int 0, .int 0, .ref q_2_66])), (q_1_65, .inl (cy 1, 6, .inl (fl 6 (-1) (fun _ => 0))))] sz)) 0 0 (va_A [(h_1, .inr (11, [.ref q_1, .ref q_3, .ref q_4, .ref q_25, .ref q_46, .ref q_50, .ref q_54, .ref q_58, .ref q_62, .int 0, .int 0, .ref q_63, .ref q_64, .ref q_67, .ref q_85, .ref q_90, .ref q_93])), (q_64, .inr (2, [.ref q_1_65, .int 0, .int 0, .int 0, .ref q_2_66])), (q_1_65, .inl (cy 1, 6, .inl (fl 6 (-1) (fun _ => 0))))] sz) := by
  refine Met.ofW (cc := cX11_count) (maxL := 2) (ret := (some .int)) (by decide) rfl ?_
  intro p e s m args below meth c s₁ B hml hv
  obtain ⟨rfl, hsz, hP, hG, hD0⟩ := hv
  have hx := B.exec
  have hb := B.bytes
  have hr := B.returns
  have hts := atoms_spec (ws := (Cond.code yX11_count cX11_count 2 (some .int) :: bigG)) B.pre
  have hg : ∀ w ∈ bigG, w.before ([.ref h_1, .int 9] : List Value).toArray s = true := fun w h => hts w (List.mem_cons_of_mem _ h)
  have hown : s.vm.findClass RX11 = some m.cls := findClass_of_methodNamed B.named
  have hlocks := B.notSynchronized
  subst hsz
  have hD := hD0.self (sz := s.heap.size)
  generalize hAe : va_A [(h_1, .inr (11, [.ref q_1, .ref q_3, .ref q_4, .ref q_25, .ref q_46, .ref q_50, .ref q_54, .ref q_58, .ref q_62, .int 0, .int 0, .ref q_63, .ref q_64, .ref q_67, .ref q_85, .ref q_90, .ref q_93])), (q_64, .inr (2, [.ref q_1_65, .int 0, .int 0, .int 0, .ref q_2_66])), (q_1_65, .inl (cy 1, 6, .inl (fl 6 (-1) (fun _ => 0))))] s.heap.size = A at hD ⊢
  have hA : ∀ q : Nat, s.heap.size ≤ q → A q := fun q h => by rw [← hAe]; exact Or.inr h
  have hS : va_S A s.heap s.heap [] := va_S.rf
  have hP : va_P D vwCl [(h_1, .inr (11, [.ref q_1, .ref q_3, .ref q_4, .ref q_25, .ref q_46, .ref q_50, .ref q_54, .ref q_58, .ref q_62, .int 0, .int 0, .ref q_63, .ref q_64, .ref q_67, .ref q_85, .ref q_90, .ref q_93])), (q_64, .inr (2, [.ref q_1_65, .int 0, .int 0, .int 0, .ref q_2_66])), (q_1_65, .inl (cy 1, 6, .inl (fl 6 (-1) (fun _ => 0))))] s.heap := hP
  have hl := lv_entry ([.ref h_1, .int 9]) (n := 2) (Nat.le_of_ble_eq_true rfl)
  rw [lg_entry_eq]
  generalize (lg_sl ([.ref h_1, .int 9]) ++ List.replicate (2 - (lg_sl ([.ref h_1, .int 9])).length) Slot.unset).toArray = ls at hl ⊢
  have hl : lv_has ls 2 [(0, .ref h_1), (1, .int 9)] := hl
  refine w_nm (fun Q hQ => ?_)
  refine lv_iload_n hx hb dX11_count_0 rfl (lv_at hl 1 rfl) ?_
  refine lv_tableIn (off := 153) (tgt := 154) hx hb dX11_count_1 (by decide) (by decide) (by decide) (by decide) ?_
  refine lv_aload_n hx hb dX11_count_154 rfl (lv_at hl 0 rfl) ?_
  refine va_get (D := D) (ci := 11) (v := .ref q_64) (C := RX11) (T := TX11) (N := 17) hx hb hts (inC ibX11) hown hG.1 hP 0 rfl rfl 12 (by decide) (hg _ k_432) (fun _ h9 => h9) rfl dX11_count_155 ?_
  refine x_i (wr := [(h_1, .inr (11, [.ref q_1, .ref q_3, .ref q_4, .ref q_25, .ref q_46, .ref q_50, .ref q_54, .ref q_58, .ref q_62, .int 0, .int 0, .ref q_63, .ref q_64, .ref q_67, .ref q_85, .ref q_90, .ref q_93]))]) hP hD hS hA [1, 2] [0] rfl rfl (by decide) (by decide) (va_runV (As := []) (rest := []) ⟨hx, hb, hml, hown, hts⟩ (c_X2_howManyTold_1 l D cy q_64 q_1_65 q_2_66 s.heap.size) (cwV 0 hts (gV km_X11_325 ki_X2_howManyTold kz_X2_howManyTold kn_X2 kc_X2_howManyTold) rfl rfl rfl (by decide +kernel) ⟨(Nat.le_of_ble_eq_true rfl), (Nat.le_of_ble_eq_true rfl)⟩) (preV hG hP hD [1, 2] rfl (by decide) 2 1 rfl rfl) rfl rfl hl.1 rfl (lv_room (Nat.le_of_ble_eq_true rfl)) dX11_count_158 ⟨(Nat.le_of_ble_eq_true rfl), (Nat.le_of_ble_eq_true rfl)⟩) (fun r_1 H locs hB hj hS => ?_)
  obtain ⟨hres, hP1, hD1⟩ := hB
  subst hres
  obtain ⟨hP, hD⟩ := hj _ hP1 hD1
  have hP : va_P D vwCl [(h_1, .inr (11, [.ref q_1, .ref q_3, .ref q_4, .ref q_25, .ref q_46, .ref q_50, .ref q_54, .ref q_58, .ref q_62, .int 0, .int 0, .ref q_63, .ref q_64, .ref q_67, .ref q_85, .ref q_90, .ref q_93])), (q_64, .inr (2, [.ref q_1_65, .int 0, .int 0, .int 0, .ref q_2_66])), (q_1_65, .inl (cy 1, 6, .inl (fl 6 (-1) (fun _ => 0))))] H := hP
  have hD : va_D A [(h_1, .inr (11, [.ref q_1, .ref q_3, .ref q_4, .ref q_25, .ref q_46, .ref q_50, .ref q_54, .ref q_58, .ref q_62, .int 0, .int 0, .ref q_63, .ref q_64, .ref q_67, .ref q_85, .ref q_90, .ref q_93])), (q_64, .inr (2, [.ref q_1_65, .int 0, .int 0, .int 0, .ref q_2_66])), (q_1_65, .inl (cy 1, 6, .inl (fl 6 (-1) (fun _ => 0))))] := hD
  have hP9 := hP.sub (ws' := []) [] rfl
  have hD9 := hD.sub (ws' := []) [] (by decide) rfl
  subst hQ
  exact W.iret (v := 0) hx hb hr (fun t ht hW => qi_mk (by rw [ht]; exact ⟨rfl, hP9, hD9⟩) (hS.F ht)) hS.2.2 dX11_count_161
set_option maxHeartbeats 4000000 in
set_option maxRecDepth 100000 in
theorem c_X12_within_29 (l : Launch) (D : va_G) (cy : Nat → ClassId) (sz : Nat) : Met l yX12_within (Cond.code yX12_within cX12_within 3 (some .boolean) :: bigG) ({ frames := 0, cells := 0, slots := 0, locals := 0 }) (pre D cy [.int 9, .int 0, .int 12] sz []) (qi (fun r h => r = 1 ∧ va_P D vwCl [] h ∧ va_D (va_A [] sz) []) (va_A [] sz)) 0 0 (va_A [] sz) := by
  refine Met.ofW (cc := cX12_within) (maxL := 3) (ret := (some .boolean)) (by decide) rfl ?_
  intro p e s m args below meth c s₁ B hml hv
  obtain ⟨rfl, hsz, hP, hG, hD0⟩ := hv
  have hx := B.exec
  have hb := B.bytes
  have hr := B.returns
  have hts := atoms_spec (ws := (Cond.code yX12_within cX12_within 3 (some .boolean) :: bigG)) B.pre
  have hg : ∀ w ∈ bigG, w.before ([.int 9, .int 0, .int 12] : List Value).toArray s = true := fun w h => hts w (List.mem_cons_of_mem _ h)
  have hown : s.vm.findClass RX12 = some m.cls := findClass_of_methodNamed B.named
  have hlocks := B.notSynchronized
  subst hsz
  have hD := hD0.self (sz := s.heap.size)
  generalize hAe : va_A [] s.heap.size = A at hD ⊢
  have hA : ∀ q : Nat, s.heap.size ≤ q → A q := fun q h => by rw [← hAe]; exact Or.inr h
  have hS : va_S A s.heap s.heap [] := va_S.rf
  have hP : va_P D vwCl [] s.heap := hP
  have hl := lv_entry ([.int 9, .int 0, .int 12]) (n := 3) (Nat.le_of_ble_eq_true rfl)
  rw [lg_entry_eq]
  generalize (lg_sl ([.int 9, .int 0, .int 12]) ++ List.replicate (3 - (lg_sl ([.int 9, .int 0, .int 12])).length) Slot.unset).toArray = ls at hl ⊢
  have hl : lv_has ls 3 [(0, .int 9), (1, .int 0), (2, .int 12)] := hl
  refine w_nm (fun Q hQ => ?_)
  refine lv_iload_n hx hb dX12_within_0 rfl (lv_at hl 0 rfl) ?_
  refine lv_iload_n hx hb dX12_within_1 rfl (lv_at hl 1 rfl) ?_
  refine lv_icmp_lt (tgt := 14) hx hb dX12_within_2 (by decide) (fun c_ => absurd c_ (by decide)) (fun _ => ?_)
  refine lv_iload_n hx hb dX12_within_5 rfl (lv_at hl 0 rfl) ?_
  refine lv_iload_n hx hb dX12_within_6 rfl (lv_at hl 2 rfl) ?_
  refine lv_icmp_gt (tgt := 14) hx hb dX12_within_7 (by decide) (fun c_ => absurd c_ (by decide)) (fun _ => ?_)
  refine lv_iconst (v := 1) hx hb dX12_within_10 (by decide) ?_
  refine lv_goto (tgt := 15) hx hb dX12_within_11 (by decide) ?_
  have hP9 := hP.sub (ws' := []) [] rfl
  have hD9 := hD.sub (ws' := []) [] (by decide) rfl
  subst hQ
  exact W.zret (v := 1) hx hb hr rfl (fun t ht hW => qi_mk (by rw [ht]; exact ⟨rfl, hP9, hD9⟩) (hS.F ht)) hS.2.2 dX12_within_15
set_option maxHeartbeats 4000000 in
set_option maxRecDepth 100000 in
theorem c_X12_toldMany_1 (l : Launch) (D : va_G) (cy : Nat → ClassId) (h_2 : Nat) (q_700_1 : Nat) (q_700_2 : Nat) (q_700_3 : Nat) (q_700_4 : Nat) (q_700_5 : Nat) (q_700_6 : Nat) (q_700_7 : Nat) (q_700_8 : Nat) (q_700_9 : Nat) (q_700_10 : Nat) (q_700_11 : Nat) (q_700_12 : Nat) (q_700_13 : Nat) (q_700_14 : Nat) (q_700_15 : Nat) (q_700_16 : Nat) (q_700_17 : Nat) (q_700_18 : Nat) (q_700_19 : Nat) (q_700_20 : Nat) (q_700_21 : Nat) (q_700_22 : Nat) (q_700_23 : Nat) (q_700_24 : Nat) (q_700_25 : Nat) (q_700_26 : Nat) (q_700_27 : Nat) (q_700_28 : Nat) (q_700_29 : Nat) (q_700_30 : Nat) (q_700_31 : Nat) (q_700_32 : Nat) (q_700_33 : Nat) (q_700_34 : Nat) (q_700_35 : Nat) (q_700_36 : Nat) (q_700_37 : Nat) (q_700_38 : Nat) (q_700_39 : Nat) (q_700_40 : Nat) (q_700_41 : Nat) (q_700_42 : Nat) (q_700_43 : Nat) (q_700_44 : Nat) (q_700_45 : Nat) (q_700_46 : Nat) (q_700_47 : Nat) (sz : Nat) : Met l yX12_toldMany (Cond.code yX12_toldMany cX12_toldMany 3 (some .int) :: bigG) ({ frames := 0, cells := 0, slots := 0, locals := 0 }) (pre D cy [.ref h_2] sz [(h_2, .inr (12, [.int 0, .int 0, .ref q_700_1, .int 0, .int 0, .int 0, .int 0, .long 0, .int 0, .int 0, .ref q_700_2, .ref q_700_3, .ref q_700_4, .ref q_700_5, .ref q_700_6, .ref q_700_7, .ref q_700_8, .ref q_700_9, .ref q_700_10, .ref q_700_11, .ref q_700_12, .ref q_700_13, .ref q_700_14, .ref q_700_15, .ref q_700_16, .ref q_700_17, .int 0, .int 0, .ref q_700_18, .ref q_700_19, .ref q_700_20, .ref q_700_21, .ref q_700_22, .ref q_700_23, .ref q_700_24, .ref q_700_25, .ref q_700_26, .ref q_700_27, .ref q_700_28, .ref q_700_29, .int 0, .long 0, .ref q_700_30, .ref q_700_31, .ref q_700_32, .ref q_700_33, .ref q_700_34, .ref q_700_35, .ref q_700_36, .ref q_700_37, .ref q_700_38, .ref q_700_39, .ref q_700_40, .ref q_700_41, .int 0, .int 0, .int 0, .int 0, .ref q_700_42, .ref q_700_43, .ref q_700_44, .ref q_700_45, .int 0, .ref q_700_46, .ref q_700_47, .int 0, .long 0])), (q_700_2, .inl (cy 1, 10, .inl (upd (fun _ => 0) 4 2)))]) (qi (fun r h => r = 0 ∧ va_P D vwCl [(h_2, .inr (12, [.int 0, .int 0, .ref q_700_1, .int 0, .int 0, .int 0, .int 0, .long 0, .int 0, .int 0, .ref q_700_2, .ref q_700_3, .ref q_700_4, .ref q_700_5, .ref q_700_6, .ref q_700_7, .ref q_700_8, .ref q_700_9, .ref q_700_10, .ref q_700_11, .ref q_700_12, .ref q_700_13, .ref q_700_14, .ref q_700_15, .ref q_700_16, .ref q_700_17, .int 0, .int 0, .ref q_700_18, .ref q_700_19, .ref q_700_20, .ref q_700_21, .ref q_700_22, .ref q_700_23, .ref q_700_24, .ref q_700_25, .ref q_700_26, .ref q_700_27, .ref q_700_28, .ref q_700_29, .int 0, .long 0, .ref q_700_30, .ref q_700_31, .ref q_700_32, .ref q_700_33, .ref q_700_34, .ref q_700_35, .ref q_700_36, .ref q_700_37, .ref q_700_38, .ref q_700_39, .ref q_700_40, .ref q_700_41, .int 0, .int 0, .int 0, .int 0, .ref q_700_42, .ref q_700_43, .ref q_700_44, .ref q_700_45, .int 0, .ref q_700_46, .ref q_700_47, .int 0, .long 0])), (q_700_2, .inl (cy 1, 10, .inl (upd (fun _ => 0) 4 2)))] h ∧ va_D (va_A [(h_2, .inr (12, [.int 0, .int 0, .ref q_700_1, .int 0, .int 0, .int 0, .int 0, .long 0, .int 0, .int 0, .ref q_700_2, .ref q_700_3, .ref q_700_4, .ref q_700_5, .ref q_700_6, .ref q_700_7, .ref q_700_8, .ref q_700_9, .ref q_700_10, .ref q_700_11, .ref q_700_12, .ref q_700_13, .ref q_700_14, .ref q_700_15, .ref q_700_16, .ref q_700_17, .int 0, .int 0, .ref q_700_18, .ref q_700_19, .ref q_700_20, .ref q_700_21, .ref q_700_22, .ref q_700_23, .ref q_700_24, .ref q_700_25, .ref q_700_26, .ref q_700_27, .ref q_700_28, .ref q_700_29, .int 0, .long 0, .ref q_700_30, .ref q_700_31, .ref q_700_32, .ref q_700_33, .ref q_700_34, .ref q_700_35, .ref q_700_36, .ref q_700_37, .ref q_700_38, .ref q_700_39, .ref q_700_40, .ref q_700_41, .int 0, .int 0, .int 0, .int 0, .ref q_700_42, .ref q_700_43, .ref q_700_44, .ref q_700_45, .int 0, .ref q_700_46, .ref q_700_47, .int 0, .long 0])), (q_700_2, .inl (cy 1, 10, .inl (upd (fun _ => 0) 4 2)))] sz) [(h_2, .inr (12, [.int 0, .int 0, .ref q_700_1, .int 0, .int 0, .int 0, .int 0, .long 0, .int 0, .int 0, .ref q_700_2, .ref q_700_3, .ref q_700_4, .ref q_700_5, .ref q_700_6, .ref q_700_7, .ref q_700_8, .ref q_700_9, .ref q_700_10, .ref q_700_11, .ref q_700_12, .ref q_700_13, .ref q_700_14, .ref q_700_15, .ref q_700_16, .ref q_700_17, .int 0, .int 0, .ref q_700_18, .ref q_700_19, .ref q_700_20, .ref q_700_21, .ref q_700_22, .ref q_700_23, .ref q_700_24, .ref q_700_25, .ref q_700_26, .ref q_700_27, .ref q_700_28, .ref q_700_29, .int 0, .long 0, .ref q_700_30, .ref q_700_31, .ref q_700_32, .ref q_700_33, .ref q_700_34, .ref q_700_35, .ref q_700_36, .ref q_700_37, .ref q_700_38, .ref q_700_39, .ref q_700_40, .ref q_700_41, .int 0, .int 0, .int 0, .int 0, .ref q_700_42, .ref q_700_43, .ref q_700_44, .ref q_700_45, .int 0, .ref q_700_46, .ref q_700_47, .int 0, .long 0])), (q_700_2, .inl (cy 1, 10, .inl (upd (fun _ => 0) 4 2)))]) (va_A [(h_2, .inr (12, [.int 0, .int 0, .ref q_700_1, .int 0, .int 0, .int 0, .int 0, .long 0, .int 0, .int 0, .ref q_700_2, .ref q_700_3, .ref q_700_4, .ref q_700_5, .ref q_700_6, .ref q_700_7, .ref q_700_8, .ref q_700_9, .ref q_700_10, .ref q_700_11, .ref q_700_12, .ref q_700_13, .ref q_700_14, .ref q_700_15, .ref q_700_16, .ref q_700_17, .int 0, .int 0, .ref q_700_18, .ref q_700_19, .ref q_700_20, .ref q_700_21, .ref q_700_22, .ref q_700_23, .ref q_700_24, .ref q_700_25, .ref q_700_26, .ref q_700_27, .ref q_700_28, .ref q_700_29, .int 0, .long 0, .ref q_700_30, .ref q_700_31, .ref q_700_32, .ref q_700_33, .ref q_700_34, .ref q_700_35, .ref q_700_36, .ref q_700_37, .ref q_700_38, .ref q_700_39, .ref q_700_40, .ref q_700_41, .int 0, .int 0, .int 0, .int 0, .ref q_700_42, .ref q_700_43, .ref q_700_44, .ref q_700_45, .int 0, .ref q_700_46, .ref q_700_47, .int 0, .long 0])), (q_700_2, .inl (cy 1, 10, .inl (upd (fun _ => 0) 4 2)))] sz)) 0 0 (va_A [(h_2, .inr (12, [.int 0, .int 0, .ref q_700_1, .int 0, .int 0, .int 0, .int 0, .long 0, .int 0, .int 0, .ref q_700_2, .ref q_700_3, .ref q_700_4, .ref q_700_5, .ref q_700_6, .ref q_700_7, .ref q_700_8, .ref q_700_9, .ref q_700_10, .ref q_700_11, .ref q_700_12, .ref q_700_13, .ref q_700_14, .ref q_700_15, .ref q_700_16, .ref q_700_17, .int 0, .int 0, .ref q_700_18, .ref q_700_19, .ref q_700_20, .ref q_700_21, .ref q_700_22, .ref q_700_23, .ref q_700_24, .ref q_700_25, .ref q_700_26, .ref q_700_27, .ref q_700_28, .ref q_700_29, .int 0, .long 0, .ref q_700_30, .ref q_700_31, .ref q_700_32, .ref q_700_33, .ref q_700_34, .ref q_700_35, .ref q_700_36, .ref q_700_37, .ref q_700_38, .ref q_700_39, .ref q_700_40, .ref q_700_41, .int 0, .int 0, .int 0, .int 0, .ref q_700_42, .ref q_700_43, .ref q_700_44, .ref q_700_45, .int 0, .ref q_700_46, .ref q_700_47, .int 0, .long 0])), (q_700_2, .inl (cy 1, 10, .inl (upd (fun _ => 0) 4 2)))] sz) := by
  refine Met.ofW (cc := cX12_toldMany) (maxL := 3) (ret := (some .int)) (by decide) rfl ?_
  intro p e s m args below meth c s₁ B hml hv
  obtain ⟨rfl, hsz, hP, hG, hD0⟩ := hv
  have hx := B.exec
  have hb := B.bytes
  have hr := B.returns
  have hts := atoms_spec (ws := (Cond.code yX12_toldMany cX12_toldMany 3 (some .int) :: bigG)) B.pre
  have hg : ∀ w ∈ bigG, w.before ([.ref h_2] : List Value).toArray s = true := fun w h => hts w (List.mem_cons_of_mem _ h)
  have hown : s.vm.findClass RX12 = some m.cls := findClass_of_methodNamed B.named
  have hlocks := B.notSynchronized
  subst hsz
  have hD := hD0.self (sz := s.heap.size)
  generalize hAe : va_A [(h_2, .inr (12, [.int 0, .int 0, .ref q_700_1, .int 0, .int 0, .int 0, .int 0, .long 0, .int 0, .int 0, .ref q_700_2, .ref q_700_3, .ref q_700_4, .ref q_700_5, .ref q_700_6, .ref q_700_7, .ref q_700_8, .ref q_700_9, .ref q_700_10, .ref q_700_11, .ref q_700_12, .ref q_700_13, .ref q_700_14, .ref q_700_15, .ref q_700_16, .ref q_700_17, .int 0, .int 0, .ref q_700_18, .ref q_700_19, .ref q_700_20, .ref q_700_21, .ref q_700_22, .ref q_700_23, .ref q_700_24, .ref q_700_25, .ref q_700_26, .ref q_700_27, .ref q_700_28, .ref q_700_29, .int 0, .long 0, .ref q_700_30, .ref q_700_31, .ref q_700_32, .ref q_700_33, .ref q_700_34, .ref q_700_35, .ref q_700_36, .ref q_700_37, .ref q_700_38, .ref q_700_39, .ref q_700_40, .ref q_700_41, .int 0, .int 0, .int 0, .int 0, .ref q_700_42, .ref q_700_43, .ref q_700_44, .ref q_700_45, .int 0, .ref q_700_46, .ref q_700_47, .int 0, .long 0])), (q_700_2, .inl (cy 1, 10, .inl (upd (fun _ => 0) 4 2)))] s.heap.size = A at hD ⊢
  have hA : ∀ q : Nat, s.heap.size ≤ q → A q := fun q h => by rw [← hAe]; exact Or.inr h
  have hS : va_S A s.heap s.heap [] := va_S.rf
  have hP : va_P D vwCl [(h_2, .inr (12, [.int 0, .int 0, .ref q_700_1, .int 0, .int 0, .int 0, .int 0, .long 0, .int 0, .int 0, .ref q_700_2, .ref q_700_3, .ref q_700_4, .ref q_700_5, .ref q_700_6, .ref q_700_7, .ref q_700_8, .ref q_700_9, .ref q_700_10, .ref q_700_11, .ref q_700_12, .ref q_700_13, .ref q_700_14, .ref q_700_15, .ref q_700_16, .ref q_700_17, .int 0, .int 0, .ref q_700_18, .ref q_700_19, .ref q_700_20, .ref q_700_21, .ref q_700_22, .ref q_700_23, .ref q_700_24, .ref q_700_25, .ref q_700_26, .ref q_700_27, .ref q_700_28, .ref q_700_29, .int 0, .long 0, .ref q_700_30, .ref q_700_31, .ref q_700_32, .ref q_700_33, .ref q_700_34, .ref q_700_35, .ref q_700_36, .ref q_700_37, .ref q_700_38, .ref q_700_39, .ref q_700_40, .ref q_700_41, .int 0, .int 0, .int 0, .int 0, .ref q_700_42, .ref q_700_43, .ref q_700_44, .ref q_700_45, .int 0, .ref q_700_46, .ref q_700_47, .int 0, .long 0])), (q_700_2, .inl (cy 1, 10, .inl (upd (fun _ => 0) 4 2)))] s.heap := hP
  have hl := lv_entry ([.ref h_2]) (n := 3) (Nat.le_of_ble_eq_true rfl)
  rw [lg_entry_eq]
  generalize (lg_sl ([.ref h_2]) ++ List.replicate (3 - (lg_sl ([.ref h_2])).length) Slot.unset).toArray = ls at hl ⊢
  have hl : lv_has ls 3 [(0, .ref h_2)] := hl
  refine w_nm (fun Q hQ => ?_)
  refine lv_iconst (v := 0) hx hb dX12_toldMany_0 (by decide) ?_
  refine lv_istore_n (lv' := [(1, .int 0), (0, .ref h_2)]) hx hb dX12_toldMany_1 rfl hl (by decide) rfl (fun ls hl => ?_)
  refine lv_iconst (v := 0) hx hb dX12_toldMany_2 (by decide) ?_
  refine lv_istore_n (lv' := [(2, .int 0), (1, .int 0), (0, .ref h_2)]) hx hb dX12_toldMany_3 rfl hl (by decide) rfl (fun ls hl => ?_)
  refine lv_iload_n hx hb dX12_toldMany_4 rfl (lv_at hl 0 rfl) ?_
  refine lv_aload_n hx hb dX12_toldMany_5 rfl (lv_at hl 2 rfl) ?_
  refine va_get (D := D) (ci := 12) (v := .ref q_700_2) (C := RX12) (T := TX12) (N := 67) hx hb hts (inC ibX12) hown hG.1 hP 0 rfl rfl 10 (by decide) (hg _ k_1325) (fun _ h9 => h9) rfl dX12_toldMany_6 ?_
  refine lv_iconst (v := 0) hx hb dX12_toldMany_9 (by decide) ?_
  refine m_iald (v := 0) hx hb hG hP 1 rfl (vin (by decide)) dX12_toldMany_10 rfl ?_
  refine lv_icmp_ge (tgt := 37) hx hb dX12_toldMany_11 (by decide) (fun _ => ?_) (fun c_ => absurd (by decide) c_)
  refine lv_iload_n hx hb dX12_toldMany_37 rfl (lv_at hl 1 rfl) ?_
  have hP9 := hP.sub (ws' := [(h_2, .inr (12, [.int 0, .int 0, .ref q_700_1, .int 0, .int 0, .int 0, .int 0, .long 0, .int 0, .int 0, .ref q_700_2, .ref q_700_3, .ref q_700_4, .ref q_700_5, .ref q_700_6, .ref q_700_7, .ref q_700_8, .ref q_700_9, .ref q_700_10, .ref q_700_11, .ref q_700_12, .ref q_700_13, .ref q_700_14, .ref q_700_15, .ref q_700_16, .ref q_700_17, .int 0, .int 0, .ref q_700_18, .ref q_700_19, .ref q_700_20, .ref q_700_21, .ref q_700_22, .ref q_700_23, .ref q_700_24, .ref q_700_25, .ref q_700_26, .ref q_700_27, .ref q_700_28, .ref q_700_29, .int 0, .long 0, .ref q_700_30, .ref q_700_31, .ref q_700_32, .ref q_700_33, .ref q_700_34, .ref q_700_35, .ref q_700_36, .ref q_700_37, .ref q_700_38, .ref q_700_39, .ref q_700_40, .ref q_700_41, .int 0, .int 0, .int 0, .int 0, .ref q_700_42, .ref q_700_43, .ref q_700_44, .ref q_700_45, .int 0, .ref q_700_46, .ref q_700_47, .int 0, .long 0])), (q_700_2, .inl (cy 1, 10, .inl (upd (fun _ => 0) 4 2)))]) [0, 1] rfl
  have hD9 := hD.sub (ws' := [(h_2, .inr (12, [.int 0, .int 0, .ref q_700_1, .int 0, .int 0, .int 0, .int 0, .long 0, .int 0, .int 0, .ref q_700_2, .ref q_700_3, .ref q_700_4, .ref q_700_5, .ref q_700_6, .ref q_700_7, .ref q_700_8, .ref q_700_9, .ref q_700_10, .ref q_700_11, .ref q_700_12, .ref q_700_13, .ref q_700_14, .ref q_700_15, .ref q_700_16, .ref q_700_17, .int 0, .int 0, .ref q_700_18, .ref q_700_19, .ref q_700_20, .ref q_700_21, .ref q_700_22, .ref q_700_23, .ref q_700_24, .ref q_700_25, .ref q_700_26, .ref q_700_27, .ref q_700_28, .ref q_700_29, .int 0, .long 0, .ref q_700_30, .ref q_700_31, .ref q_700_32, .ref q_700_33, .ref q_700_34, .ref q_700_35, .ref q_700_36, .ref q_700_37, .ref q_700_38, .ref q_700_39, .ref q_700_40, .ref q_700_41, .int 0, .int 0, .int 0, .int 0, .ref q_700_42, .ref q_700_43, .ref q_700_44, .ref q_700_45, .int 0, .ref q_700_46, .ref q_700_47, .int 0, .long 0])), (q_700_2, .inl (cy 1, 10, .inl (upd (fun _ => 0) 4 2)))]) [0, 1] (by decide) rfl
  subst hQ
  exact W.iret (v := 0) hx hb hr (fun t ht hW => qi_mk (by rw [ht]; exact ⟨rfl, hP9, hD9⟩) (hS.F ht)) hS.2.2 dX12_toldMany_38
set_option maxHeartbeats 4000000 in
set_option maxRecDepth 100000 in
theorem c_X12_count_10 (l : Launch) (D : va_G) (cy : Nat → ClassId) (h_2 : Nat) (q_700_1 : Nat) (q_700_2 : Nat) (q_700_3 : Nat) (q_700_4 : Nat) (q_700_5 : Nat) (q_700_6 : Nat) (q_700_7 : Nat) (q_700_8 : Nat) (q_700_9 : Nat) (q_700_10 : Nat) (q_700_11 : Nat) (q_700_12 : Nat) (q_700_13 : Nat) (q_700_14 : Nat) (q_700_15 : Nat) (q_700_16 : Nat) (q_700_17 : Nat) (q_700_18 : Nat) (q_700_19 : Nat) (q_700_20 : Nat) (q_700_21 : Nat) (q_700_22 : Nat) (q_700_23 : Nat) (q_700_24 : Nat) (q_700_25 : Nat) (q_700_26 : Nat) (q_700_27 : Nat) (q_700_28 : Nat) (q_700_29 : Nat) (q_700_30 : Nat) (q_700_31 : Nat) (q_700_32 : Nat) (q_700_33 : Nat) (q_700_34 : Nat) (q_700_35 : Nat) (q_700_36 : Nat) (q_700_37 : Nat) (q_700_38 : Nat) (q_700_39 : Nat) (q_700_40 : Nat) (q_700_41 : Nat) (q_700_42 : Nat) (q_700_43 : Nat) (q_700_44 : Nat) (q_700_45 : Nat) (q_700_46 : Nat) (q_700_47 : Nat) (sz : Nat) : Met l yX12_count (Cond.code yX12_count cX12_count 2 (some .int) :: bigG) ({ frames := 1, cells := 0, slots := 0, locals := 22 }) (pre D cy [.ref h_2, .int 9] sz [(h_2, .inr (12, [.int 0, .int 0, .ref q_700_1, .int 0, .int 0, .int 0, .int 0, .long 0, .int 0, .int 0, .ref q_700_2, .ref q_700_3, .ref q_700_4, .ref q_700_5, .ref q_700_6, .ref q_700_7, .ref q_700_8, .ref q_700_9, .ref q_700_10, .ref q_700_11, .ref q_700_12, .ref q_700_13, .ref q_700_14, .ref q_700_15, .ref q_700_16, .ref q_700_17, .int 0, .int 0, .ref q_700_18, .ref q_700_19, .ref q_700_20, .ref q_700_21, .ref q_700_22, .ref q_700_23, .ref q_700_24, .ref q_700_25, .ref q_700_26, .ref q_700_27, .ref q_700_28, .ref q_700_29, .int 0, .long 0, .ref q_700_30, .ref q_700_31, .ref q_700_32, .ref q_700_33, .ref q_700_34, .ref q_700_35, .ref q_700_36, .ref q_700_37, .ref q_700_38, .ref q_700_39, .ref q_700_40, .ref q_700_41, .int 0, .int 0, .int 0, .int 0, .ref q_700_42, .ref q_700_43, .ref q_700_44, .ref q_700_45, .int 0, .ref q_700_46, .ref q_700_47, .int 0, .long 0])), (q_700_2, .inl (cy 1, 10, .inl (upd (fun _ => 0) 4 2)))]) (qi (fun r h => r = 0 ∧ va_P D vwCl [] h ∧ va_D (va_A [(h_2, .inr (12, [.int 0, .int 0, .ref q_700_1, .int 0, .int 0, .int 0, .int 0, .long 0, .int 0, .int 0, .ref q_700_2, .ref q_700_3, .ref q_700_4, .ref q_700_5, .ref q_700_6, .ref q_700_7, .ref q_700_8, .ref q_700_9, .ref q_700_10, .ref q_700_11, .ref q_700_12, .ref q_700_13, .ref q_700_14, .ref q_700_15, .ref q_700_16, .ref q_700_17, .int 0, .int 0, .ref q_700_18, .ref q_700_19, .ref q_700_20, .ref q_700_21, .ref q_700_22, .ref q_700_23, .ref q_700_24, .ref q_700_25, .ref q_700_26, .ref q_700_27, .ref q_700_28, .ref q_700_29, .int 0, .long 0, .ref q_700_30, .ref q_700_31, .ref q_700_32, .ref q_700_33, .ref q_700_34, .ref q_700_35, .ref q_700_36, .ref q_700_37, .ref q_700_38, .ref q_700_39, .ref q_700_40, .ref q_700_41, .int 0, .int 0, .int 0, .int 0, .ref q_700_42, .ref q_700_43, .ref q_700_44, .ref q_700_45, .int 0, .ref q_700_46, .ref q_700_47, .int 0, .long 0])), (q_700_2, .inl (cy 1, 10, .inl (upd (fun _ => 0) 4 2)))] sz) []) (va_A [(h_2, .inr (12, [.int 0, .int 0, .ref q_700_1, .int 0, .int 0, .int 0, .int 0, .long 0, .int 0, .int 0, .ref q_700_2, .ref q_700_3, .ref q_700_4, .ref q_700_5, .ref q_700_6, .ref q_700_7, .ref q_700_8, .ref q_700_9, .ref q_700_10, .ref q_700_11, .ref q_700_12, .ref q_700_13, .ref q_700_14, .ref q_700_15, .ref q_700_16, .ref q_700_17, .int 0, .int 0, .ref q_700_18, .ref q_700_19, .ref q_700_20, .ref q_700_21, .ref q_700_22, .ref q_700_23, .ref q_700_24, .ref q_700_25, .ref q_700_26, .ref q_700_27, .ref q_700_28, .ref q_700_29, .int 0, .long 0, .ref q_700_30, .ref q_700_31, .ref q_700_32, .ref q_700_33, .ref q_700_34, .ref q_700_35, .ref q_700_36, .ref q_700_37, .ref q_700_38, .ref q_700_39, .ref q_700_40, .ref q_700_41, .int 0, .int 0, .int 0, .int 0, .ref q_700_42, .ref q_700_43, .ref q_700_44, .ref q_700_45, .int 0, .ref q_700_46, .ref q_700_47, .int 0, .long 0])), (q_700_2, .inl (cy 1, 10, .inl (upd (fun _ => 0) 4 2)))] sz)) 0 0 (va_A [(h_2, .inr (12, [.int 0, .int 0, .ref q_700_1, .int 0, .int 0, .int 0, .int 0, .long 0, .int 0, .int 0, .ref q_700_2, .ref q_700_3, .ref q_700_4, .ref q_700_5, .ref q_700_6, .ref q_700_7, .ref q_700_8, .ref q_700_9, .ref q_700_10, .ref q_700_11, .ref q_700_12, .ref q_700_13, .ref q_700_14, .ref q_700_15, .ref q_700_16, .ref q_700_17, .int 0, .int 0, .ref q_700_18, .ref q_700_19, .ref q_700_20, .ref q_700_21, .ref q_700_22, .ref q_700_23, .ref q_700_24, .ref q_700_25, .ref q_700_26, .ref q_700_27, .ref q_700_28, .ref q_700_29, .int 0, .long 0, .ref q_700_30, .ref q_700_31, .ref q_700_32, .ref q_700_33, .ref q_700_34, .ref q_700_35, .ref q_700_36, .ref q_700_37, .ref q_700_38, .ref q_700_39, .ref q_700_40, .ref q_700_41, .int 0, .int 0, .int 0, .int 0, .ref q_700_42, .ref q_700_43, .ref q_700_44, .ref q_700_45, .int 0, .ref q_700_46, .ref q_700_47, .int 0, .long 0])), (q_700_2, .inl (cy 1, 10, .inl (upd (fun _ => 0) 4 2)))] sz) := by
  refine Met.ofW (cc := cX12_count) (maxL := 2) (ret := (some .int)) (by decide) rfl ?_
  intro p e s m args below meth c s₁ B hml hv
  obtain ⟨rfl, hsz, hP, hG, hD0⟩ := hv
  have hx := B.exec
  have hb := B.bytes
  have hr := B.returns
  have hts := atoms_spec (ws := (Cond.code yX12_count cX12_count 2 (some .int) :: bigG)) B.pre
  have hg : ∀ w ∈ bigG, w.before ([.ref h_2, .int 9] : List Value).toArray s = true := fun w h => hts w (List.mem_cons_of_mem _ h)
  have hown : s.vm.findClass RX12 = some m.cls := findClass_of_methodNamed B.named
  have hlocks := B.notSynchronized
  subst hsz
  have hD := hD0.self (sz := s.heap.size)
  generalize hAe : va_A [(h_2, .inr (12, [.int 0, .int 0, .ref q_700_1, .int 0, .int 0, .int 0, .int 0, .long 0, .int 0, .int 0, .ref q_700_2, .ref q_700_3, .ref q_700_4, .ref q_700_5, .ref q_700_6, .ref q_700_7, .ref q_700_8, .ref q_700_9, .ref q_700_10, .ref q_700_11, .ref q_700_12, .ref q_700_13, .ref q_700_14, .ref q_700_15, .ref q_700_16, .ref q_700_17, .int 0, .int 0, .ref q_700_18, .ref q_700_19, .ref q_700_20, .ref q_700_21, .ref q_700_22, .ref q_700_23, .ref q_700_24, .ref q_700_25, .ref q_700_26, .ref q_700_27, .ref q_700_28, .ref q_700_29, .int 0, .long 0, .ref q_700_30, .ref q_700_31, .ref q_700_32, .ref q_700_33, .ref q_700_34, .ref q_700_35, .ref q_700_36, .ref q_700_37, .ref q_700_38, .ref q_700_39, .ref q_700_40, .ref q_700_41, .int 0, .int 0, .int 0, .int 0, .ref q_700_42, .ref q_700_43, .ref q_700_44, .ref q_700_45, .int 0, .ref q_700_46, .ref q_700_47, .int 0, .long 0])), (q_700_2, .inl (cy 1, 10, .inl (upd (fun _ => 0) 4 2)))] s.heap.size = A at hD ⊢
  have hA : ∀ q : Nat, s.heap.size ≤ q → A q := fun q h => by rw [← hAe]; exact Or.inr h
  have hS : va_S A s.heap s.heap [] := va_S.rf
  have hP : va_P D vwCl [(h_2, .inr (12, [.int 0, .int 0, .ref q_700_1, .int 0, .int 0, .int 0, .int 0, .long 0, .int 0, .int 0, .ref q_700_2, .ref q_700_3, .ref q_700_4, .ref q_700_5, .ref q_700_6, .ref q_700_7, .ref q_700_8, .ref q_700_9, .ref q_700_10, .ref q_700_11, .ref q_700_12, .ref q_700_13, .ref q_700_14, .ref q_700_15, .ref q_700_16, .ref q_700_17, .int 0, .int 0, .ref q_700_18, .ref q_700_19, .ref q_700_20, .ref q_700_21, .ref q_700_22, .ref q_700_23, .ref q_700_24, .ref q_700_25, .ref q_700_26, .ref q_700_27, .ref q_700_28, .ref q_700_29, .int 0, .long 0, .ref q_700_30, .ref q_700_31, .ref q_700_32, .ref q_700_33, .ref q_700_34, .ref q_700_35, .ref q_700_36, .ref q_700_37, .ref q_700_38, .ref q_700_39, .ref q_700_40, .ref q_700_41, .int 0, .int 0, .int 0, .int 0, .ref q_700_42, .ref q_700_43, .ref q_700_44, .ref q_700_45, .int 0, .ref q_700_46, .ref q_700_47, .int 0, .long 0])), (q_700_2, .inl (cy 1, 10, .inl (upd (fun _ => 0) 4 2)))] s.heap := hP
  have hl := lv_entry ([.ref h_2, .int 9]) (n := 2) (Nat.le_of_ble_eq_true rfl)
  rw [lg_entry_eq]
  generalize (lg_sl ([.ref h_2, .int 9]) ++ List.replicate (2 - (lg_sl ([.ref h_2, .int 9])).length) Slot.unset).toArray = ls at hl ⊢
  have hl : lv_has ls 2 [(0, .ref h_2), (1, .int 9)] := hl
  refine w_nm (fun Q hQ => ?_)
  refine lv_aload_n hx hb dX12_count_0 rfl (lv_at hl 0 rfl) ?_
  refine lv_iconst (v := 0) hx hb dX12_count_1 (by decide) ?_
  refine va_put (D := D) (ci := 12) (v := .int 0) (ty := .int) (C := RX12) (T := TX12) (N := 67) hx hb hts (inC ibX12) tyX12 tyX12_ok nmX12 hown hG.1 hP hD hS 0 rfl rfl 0 (by decide) (hg _ k_1315) (fun _ h9 => h9) rfl (by decide +kernel) rfl rfl (Nat.le_of_ble_eq_true rfl) dX12_count_2 (fun H locs hP hD hS => ?_)
  have hP : va_P D vwCl [(h_2, .inr (12, [.int 0, .int 0, .ref q_700_1, .int 0, .int 0, .int 0, .int 0, .long 0, .int 0, .int 0, .ref q_700_2, .ref q_700_3, .ref q_700_4, .ref q_700_5, .ref q_700_6, .ref q_700_7, .ref q_700_8, .ref q_700_9, .ref q_700_10, .ref q_700_11, .ref q_700_12, .ref q_700_13, .ref q_700_14, .ref q_700_15, .ref q_700_16, .ref q_700_17, .int 0, .int 0, .ref q_700_18, .ref q_700_19, .ref q_700_20, .ref q_700_21, .ref q_700_22, .ref q_700_23, .ref q_700_24, .ref q_700_25, .ref q_700_26, .ref q_700_27, .ref q_700_28, .ref q_700_29, .int 0, .long 0, .ref q_700_30, .ref q_700_31, .ref q_700_32, .ref q_700_33, .ref q_700_34, .ref q_700_35, .ref q_700_36, .ref q_700_37, .ref q_700_38, .ref q_700_39, .ref q_700_40, .ref q_700_41, .int 0, .int 0, .int 0, .int 0, .ref q_700_42, .ref q_700_43, .ref q_700_44, .ref q_700_45, .int 0, .ref q_700_46, .ref q_700_47, .int 0, .long 0])), (q_700_2, .inl (cy 1, 10, .inl (upd (fun _ => 0) 4 2)))] H := hP
  have hD : va_D A [(h_2, .inr (12, [.int 0, .int 0, .ref q_700_1, .int 0, .int 0, .int 0, .int 0, .long 0, .int 0, .int 0, .ref q_700_2, .ref q_700_3, .ref q_700_4, .ref q_700_5, .ref q_700_6, .ref q_700_7, .ref q_700_8, .ref q_700_9, .ref q_700_10, .ref q_700_11, .ref q_700_12, .ref q_700_13, .ref q_700_14, .ref q_700_15, .ref q_700_16, .ref q_700_17, .int 0, .int 0, .ref q_700_18, .ref q_700_19, .ref q_700_20, .ref q_700_21, .ref q_700_22, .ref q_700_23, .ref q_700_24, .ref q_700_25, .ref q_700_26, .ref q_700_27, .ref q_700_28, .ref q_700_29, .int 0, .long 0, .ref q_700_30, .ref q_700_31, .ref q_700_32, .ref q_700_33, .ref q_700_34, .ref q_700_35, .ref q_700_36, .ref q_700_37, .ref q_700_38, .ref q_700_39, .ref q_700_40, .ref q_700_41, .int 0, .int 0, .int 0, .int 0, .ref q_700_42, .ref q_700_43, .ref q_700_44, .ref q_700_45, .int 0, .ref q_700_46, .ref q_700_47, .int 0, .long 0])), (q_700_2, .inl (cy 1, 10, .inl (upd (fun _ => 0) 4 2)))] := hD
  refine lv_iload_n hx hb dX12_count_5 rfl (lv_at hl 1 rfl) ?_
  refine lv_iconst (v := 0) hx hb dX12_count_6 (by decide) ?_
  refine lv_bipush (v := 12) hx hb dX12_count_7 (by decide) ?_
  refine x_i (wr := [(h_2, .inr (12, [.int 0, .int 0, .ref q_700_1, .int 0, .int 0, .int 0, .int 0, .long 0, .int 0, .int 0, .ref q_700_2, .ref q_700_3, .ref q_700_4, .ref q_700_5, .ref q_700_6, .ref q_700_7, .ref q_700_8, .ref q_700_9, .ref q_700_10, .ref q_700_11, .ref q_700_12, .ref q_700_13, .ref q_700_14, .ref q_700_15, .ref q_700_16, .ref q_700_17, .int 0, .int 0, .ref q_700_18, .ref q_700_19, .ref q_700_20, .ref q_700_21, .ref q_700_22, .ref q_700_23, .ref q_700_24, .ref q_700_25, .ref q_700_26, .ref q_700_27, .ref q_700_28, .ref q_700_29, .int 0, .long 0, .ref q_700_30, .ref q_700_31, .ref q_700_32, .ref q_700_33, .ref q_700_34, .ref q_700_35, .ref q_700_36, .ref q_700_37, .ref q_700_38, .ref q_700_39, .ref q_700_40, .ref q_700_41, .int 0, .int 0, .int 0, .int 0, .ref q_700_42, .ref q_700_43, .ref q_700_44, .ref q_700_45, .int 0, .ref q_700_46, .ref q_700_47, .int 0, .long 0])), (q_700_2, .inl (cy 1, 10, .inl (upd (fun _ => 0) 4 2)))]) hP hD hS hA [] [0, 1] rfl rfl (by decide) (by decide) (va_runS (As := [.int 9, .int 0, .int 12]) (rest := []) ⟨hx, hb, hml, hown, hts⟩ (c_X12_within_29 l D cy  H.size) (va_cwS 3 hts (gS km_X12_293 kt_X12_within kn_X12 kc_X12_within) rfl rfl rfl (by decide +kernel) ⟨(Nat.le_of_ble_eq_true rfl), (Nat.le_of_ble_eq_true rfl)⟩) (preS hG hP hD [] rfl (by decide)) rfl rfl hl.1 rfl (lv_room (Nat.le_of_ble_eq_true rfl)) dX12_count_9 ⟨(Nat.le_of_ble_eq_true rfl), (Nat.le_of_ble_eq_true rfl)⟩) (fun r_1 H locs hB hj hS => ?_)
  obtain ⟨hres, hP1, hD1⟩ := hB
  subst hres
  obtain ⟨hP, hD⟩ := hj _ hP1 hD1
  have hP : va_P D vwCl [(h_2, .inr (12, [.int 0, .int 0, .ref q_700_1, .int 0, .int 0, .int 0, .int 0, .long 0, .int 0, .int 0, .ref q_700_2, .ref q_700_3, .ref q_700_4, .ref q_700_5, .ref q_700_6, .ref q_700_7, .ref q_700_8, .ref q_700_9, .ref q_700_10, .ref q_700_11, .ref q_700_12, .ref q_700_13, .ref q_700_14, .ref q_700_15, .ref q_700_16, .ref q_700_17, .int 0, .int 0, .ref q_700_18, .ref q_700_19, .ref q_700_20, .ref q_700_21, .ref q_700_22, .ref q_700_23, .ref q_700_24, .ref q_700_25, .ref q_700_26, .ref q_700_27, .ref q_700_28, .ref q_700_29, .int 0, .long 0, .ref q_700_30, .ref q_700_31, .ref q_700_32, .ref q_700_33, .ref q_700_34, .ref q_700_35, .ref q_700_36, .ref q_700_37, .ref q_700_38, .ref q_700_39, .ref q_700_40, .ref q_700_41, .int 0, .int 0, .int 0, .int 0, .ref q_700_42, .ref q_700_43, .ref q_700_44, .ref q_700_45, .int 0, .ref q_700_46, .ref q_700_47, .int 0, .long 0])), (q_700_2, .inl (cy 1, 10, .inl (upd (fun _ => 0) 4 2)))] H := hP
  have hD : va_D A [(h_2, .inr (12, [.int 0, .int 0, .ref q_700_1, .int 0, .int 0, .int 0, .int 0, .long 0, .int 0, .int 0, .ref q_700_2, .ref q_700_3, .ref q_700_4, .ref q_700_5, .ref q_700_6, .ref q_700_7, .ref q_700_8, .ref q_700_9, .ref q_700_10, .ref q_700_11, .ref q_700_12, .ref q_700_13, .ref q_700_14, .ref q_700_15, .ref q_700_16, .ref q_700_17, .int 0, .int 0, .ref q_700_18, .ref q_700_19, .ref q_700_20, .ref q_700_21, .ref q_700_22, .ref q_700_23, .ref q_700_24, .ref q_700_25, .ref q_700_26, .ref q_700_27, .ref q_700_28, .ref q_700_29, .int 0, .long 0, .ref q_700_30, .ref q_700_31, .ref q_700_32, .ref q_700_33, .ref q_700_34, .ref q_700_35, .ref q_700_36, .ref q_700_37, .ref q_700_38, .ref q_700_39, .ref q_700_40, .ref q_700_41, .int 0, .int 0, .int 0, .int 0, .ref q_700_42, .ref q_700_43, .ref q_700_44, .ref q_700_45, .int 0, .ref q_700_46, .ref q_700_47, .int 0, .long 0])), (q_700_2, .inl (cy 1, 10, .inl (upd (fun _ => 0) 4 2)))] := hD
  refine lv_if_ne (tgt := 17) hx hb dX12_count_12 (by decide) (fun _ => ?_) (fun c_ => absurd c_ (by decide))
  refine lv_iload_n hx hb dX12_count_17 rfl (lv_at hl 1 rfl) ?_
  refine lv_iconst (v := 3) hx hb dX12_count_18 (by decide) ?_
  refine lv_icmp_ge (tgt := 29) hx hb dX12_count_19 (by decide) (fun _ => ?_) (fun c_ => absurd (by decide) c_)
  refine lv_iload_n hx hb dX12_count_29 rfl (lv_at hl 1 rfl) ?_
  refine lv_bipush (v := 6) hx hb dX12_count_30 (by decide) ?_
  refine lv_icmp_ge (tgt := 68) hx hb dX12_count_32 (by decide) (fun _ => ?_) (fun c_ => absurd (by decide) c_)
  refine lv_iload_n hx hb dX12_count_68 rfl (lv_at hl 1 rfl) ?_
  refine lv_bipush (v := 8) hx hb dX12_count_69 (by decide) ?_
  refine lv_icmp_ge (tgt := 99) hx hb dX12_count_71 (by decide) (fun _ => ?_) (fun c_ => absurd (by decide) c_)
  refine lv_iload_n hx hb dX12_count_99 rfl (lv_at hl 1 rfl) ?_
  refine lv_bipush (v := 10) hx hb dX12_count_100 (by decide) ?_
  refine lv_icmp_ge (tgt := 125) hx hb dX12_count_102 (by decide) (fun c_ => absurd c_ (by decide)) (fun _ => ?_)
  refine lv_iload_n hx hb dX12_count_105 rfl (lv_at hl 1 rfl) ?_
  refine lv_bipush (v := 8) hx hb dX12_count_106 (by decide) ?_
  refine lv_icmp_ne (tgt := 120) hx hb dX12_count_108 (by decide) (fun _ => ?_) (fun c_ => absurd c_ (by decide))
  refine lv_aload_n hx hb dX12_count_120 rfl (lv_at hl 0 rfl) ?_
  refine x_i (wr := []) hP hD hS hA [0, 1] [] rfl rfl (by decide) (by decide) (va_runV (As := []) (rest := []) ⟨hx, hb, hml, hown, hts⟩ (c_X12_toldMany_1 l D cy h_2 q_700_1 q_700_2 q_700_3 q_700_4 q_700_5 q_700_6 q_700_7 q_700_8 q_700_9 q_700_10 q_700_11 q_700_12 q_700_13 q_700_14 q_700_15 q_700_16 q_700_17 q_700_18 q_700_19 q_700_20 q_700_21 q_700_22 q_700_23 q_700_24 q_700_25 q_700_26 q_700_27 q_700_28 q_700_29 q_700_30 q_700_31 q_700_32 q_700_33 q_700_34 q_700_35 q_700_36 q_700_37 q_700_38 q_700_39 q_700_40 q_700_41 q_700_42 q_700_43 q_700_44 q_700_45 q_700_46 q_700_47 H.size) (cwV 0 hts (gV km_X12_547 ki_X12_toldMany kz_X12_toldMany kn_X12 kc_X12_toldMany) rfl rfl rfl (by decide +kernel) ⟨(Nat.le_of_ble_eq_true rfl), (Nat.le_of_ble_eq_true rfl)⟩) (preV hG hP hD [0, 1] rfl (by decide) 12 0 rfl rfl) rfl rfl hl.1 rfl (lv_room (Nat.le_of_ble_eq_true rfl)) dX12_count_121 ⟨(Nat.le_of_ble_eq_true rfl), (Nat.le_of_ble_eq_true rfl)⟩) (fun r_2 H locs hB hj hS => ?_)
  obtain ⟨hres, hP1, hD1⟩ := hB
  subst hres
  obtain ⟨hP, hD⟩ := hj _ hP1 hD1
  have hP : va_P D vwCl [(h_2, .inr (12, [.int 0, .int 0, .ref q_700_1, .int 0, .int 0, .int 0, .int 0, .long 0, .int 0, .int 0, .ref q_700_2, .ref q_700_3, .ref q_700_4, .ref q_700_5, .ref q_700_6, .ref q_700_7, .ref q_700_8, .ref q_700_9, .ref q_700_10, .ref q_700_11, .ref q_700_12, .ref q_700_13, .ref q_700_14, .ref q_700_15, .ref q_700_16, .ref q_700_17, .int 0, .int 0, .ref q_700_18, .ref q_700_19, .ref q_700_20, .ref q_700_21, .ref q_700_22, .ref q_700_23, .ref q_700_24, .ref q_700_25, .ref q_700_26, .ref q_700_27, .ref q_700_28, .ref q_700_29, .int 0, .long 0, .ref q_700_30, .ref q_700_31, .ref q_700_32, .ref q_700_33, .ref q_700_34, .ref q_700_35, .ref q_700_36, .ref q_700_37, .ref q_700_38, .ref q_700_39, .ref q_700_40, .ref q_700_41, .int 0, .int 0, .int 0, .int 0, .ref q_700_42, .ref q_700_43, .ref q_700_44, .ref q_700_45, .int 0, .ref q_700_46, .ref q_700_47, .int 0, .long 0])), (q_700_2, .inl (cy 1, 10, .inl (upd (fun _ => 0) 4 2)))] H := hP
  have hD : va_D A [(h_2, .inr (12, [.int 0, .int 0, .ref q_700_1, .int 0, .int 0, .int 0, .int 0, .long 0, .int 0, .int 0, .ref q_700_2, .ref q_700_3, .ref q_700_4, .ref q_700_5, .ref q_700_6, .ref q_700_7, .ref q_700_8, .ref q_700_9, .ref q_700_10, .ref q_700_11, .ref q_700_12, .ref q_700_13, .ref q_700_14, .ref q_700_15, .ref q_700_16, .ref q_700_17, .int 0, .int 0, .ref q_700_18, .ref q_700_19, .ref q_700_20, .ref q_700_21, .ref q_700_22, .ref q_700_23, .ref q_700_24, .ref q_700_25, .ref q_700_26, .ref q_700_27, .ref q_700_28, .ref q_700_29, .int 0, .long 0, .ref q_700_30, .ref q_700_31, .ref q_700_32, .ref q_700_33, .ref q_700_34, .ref q_700_35, .ref q_700_36, .ref q_700_37, .ref q_700_38, .ref q_700_39, .ref q_700_40, .ref q_700_41, .int 0, .int 0, .int 0, .int 0, .ref q_700_42, .ref q_700_43, .ref q_700_44, .ref q_700_45, .int 0, .ref q_700_46, .ref q_700_47, .int 0, .long 0])), (q_700_2, .inl (cy 1, 10, .inl (upd (fun _ => 0) 4 2)))] := hD
  have hP9 := hP.sub (ws' := []) [] rfl
  have hD9 := hD.sub (ws' := []) [] (by decide) rfl
  subst hQ
  exact W.iret (v := 0) hx hb hr (fun t ht hW => qi_mk (by rw [ht]; exact ⟨rfl, hP9, hD9⟩) (hS.F ht)) hS.2.2 dX12_count_124
set_option maxHeartbeats 4000000 in
set_option maxRecDepth 100000 in
theorem c_X11_count_11 (l : Launch) (D : va_G) (cy : Nat → ClassId) (h_1 : Nat) (q_1 : Nat) (q_3 : Nat) (q_4 : Nat) (q_25 : Nat) (q_46 : Nat) (q_50 : Nat) (q_54 : Nat) (q_58 : Nat) (q_62 : Nat) (q_63 : Nat) (q_64 : Nat) (q_67 : Nat) (q_85 : Nat) (q_90 : Nat) (q_93 : Nat) (sz : Nat) : Met l yX11_count (Cond.code yX11_count cX11_count 2 (some .int) :: bigG) ({ frames := 0, cells := 0, slots := 0, locals := 0 }) (pre D cy [.ref h_1, .int 10] sz [(h_1, .inr (11, [.ref q_1, .ref q_3, .ref q_4, .ref q_25, .ref q_46, .ref q_50, .ref q_54, .ref q_58, .ref q_62, .int 0, .int 0, .ref q_63, .ref q_64, .ref q_67, .ref q_85, .ref q_90, .ref q_93]))]) (qi (fun r h => r = 0 ∧ va_P D vwCl [] h ∧ va_D (va_A [(h_1, .inr (11, [.ref q_1, .ref q_3, .ref q_4, .ref q_25, .ref q_46, .ref q_50, .ref q_54, .ref q_58, .ref q_62, .int 0, .int 0, .ref q_63, .ref q_64, .ref q_67, .ref q_85, .ref q_90, .ref q_93]))] sz) []) (va_A [(h_1, .inr (11, [.ref q_1, .ref q_3, .ref q_4, .ref q_25, .ref q_46, .ref q_50, .ref q_54, .ref q_58, .ref q_62, .int 0, .int 0, .ref q_63, .ref q_64, .ref q_67, .ref q_85, .ref q_90, .ref q_93]))] sz)) 0 0 (va_A [(h_1, .inr (11, [.ref q_1, .ref q_3, .ref q_4, .ref q_25, .ref q_46, .ref q_50, .ref q_54, .ref q_58, .ref q_62, .int 0, .int 0, .ref q_63, .ref q_64, .ref q_67, .ref q_85, .ref q_90, .ref q_93]))] sz) := by
  refine Met.ofW (cc := cX11_count) (maxL := 2) (ret := (some .int)) (by decide) rfl ?_
  intro p e s m args below meth c s₁ B hml hv
  obtain ⟨rfl, hsz, hP, hG, hD0⟩ := hv
  have hx := B.exec
  have hb := B.bytes
  have hr := B.returns
  have hts := atoms_spec (ws := (Cond.code yX11_count cX11_count 2 (some .int) :: bigG)) B.pre
  have hg : ∀ w ∈ bigG, w.before ([.ref h_1, .int 10] : List Value).toArray s = true := fun w h => hts w (List.mem_cons_of_mem _ h)
  have hown : s.vm.findClass RX11 = some m.cls := findClass_of_methodNamed B.named
  have hlocks := B.notSynchronized
  subst hsz
  have hD := hD0.self (sz := s.heap.size)
  generalize hAe : va_A [(h_1, .inr (11, [.ref q_1, .ref q_3, .ref q_4, .ref q_25, .ref q_46, .ref q_50, .ref q_54, .ref q_58, .ref q_62, .int 0, .int 0, .ref q_63, .ref q_64, .ref q_67, .ref q_85, .ref q_90, .ref q_93]))] s.heap.size = A at hD ⊢
  have hA : ∀ q : Nat, s.heap.size ≤ q → A q := fun q h => by rw [← hAe]; exact Or.inr h
  have hS : va_S A s.heap s.heap [] := va_S.rf
  have hP : va_P D vwCl [(h_1, .inr (11, [.ref q_1, .ref q_3, .ref q_4, .ref q_25, .ref q_46, .ref q_50, .ref q_54, .ref q_58, .ref q_62, .int 0, .int 0, .ref q_63, .ref q_64, .ref q_67, .ref q_85, .ref q_90, .ref q_93]))] s.heap := hP
  have hl := lv_entry ([.ref h_1, .int 10]) (n := 2) (Nat.le_of_ble_eq_true rfl)
  rw [lg_entry_eq]
  generalize (lg_sl ([.ref h_1, .int 10]) ++ List.replicate (2 - (lg_sl ([.ref h_1, .int 10])).length) Slot.unset).toArray = ls at hl ⊢
  have hl : lv_has ls 2 [(0, .ref h_1), (1, .int 10)] := hl
  refine w_nm (fun Q hQ => ?_)
  refine lv_iload_n hx hb dX11_count_0 rfl (lv_at hl 1 rfl) ?_
  refine lv_tableIn (off := 161) (tgt := 162) hx hb dX11_count_1 (by decide) (by decide) (by decide) (by decide) ?_
  refine lv_aload_n hx hb dX11_count_162 rfl (lv_at hl 0 rfl) ?_
  refine va_get (D := D) (ci := 11) (v := .int 0) (C := RX11) (T := TX11) (N := 17) hx hb hts (inC ibX11) hown hG.1 hP 0 rfl rfl 10 (by decide) (hg _ k_430) (fun _ h9 => h9) rfl dX11_count_163 ?_
  have hP9 := hP.sub (ws' := []) [] rfl
  have hD9 := hD.sub (ws' := []) [] (by decide) rfl
  subst hQ
  exact W.iret (v := 0) hx hb hr (fun t ht hW => qi_mk (by rw [ht]; exact ⟨rfl, hP9, hD9⟩) (hS.F ht)) hS.2.2 dX11_count_166
set_option maxHeartbeats 4000000 in
set_option maxRecDepth 100000 in
theorem c_X12_within_30 (l : Launch) (D : va_G) (cy : Nat → ClassId) (sz : Nat) : Met l yX12_within (Cond.code yX12_within cX12_within 3 (some .boolean) :: bigG) ({ frames := 0, cells := 0, slots := 0, locals := 0 }) (pre D cy [.int 10, .int 0, .int 12] sz []) (qi (fun r h => r = 1 ∧ va_P D vwCl [] h ∧ va_D (va_A [] sz) []) (va_A [] sz)) 0 0 (va_A [] sz) := by
  refine Met.ofW (cc := cX12_within) (maxL := 3) (ret := (some .boolean)) (by decide) rfl ?_
  intro p e s m args below meth c s₁ B hml hv
  obtain ⟨rfl, hsz, hP, hG, hD0⟩ := hv
  have hx := B.exec
  have hb := B.bytes
  have hr := B.returns
  have hts := atoms_spec (ws := (Cond.code yX12_within cX12_within 3 (some .boolean) :: bigG)) B.pre
  have hg : ∀ w ∈ bigG, w.before ([.int 10, .int 0, .int 12] : List Value).toArray s = true := fun w h => hts w (List.mem_cons_of_mem _ h)
  have hown : s.vm.findClass RX12 = some m.cls := findClass_of_methodNamed B.named
  have hlocks := B.notSynchronized
  subst hsz
  have hD := hD0.self (sz := s.heap.size)
  generalize hAe : va_A [] s.heap.size = A at hD ⊢
  have hA : ∀ q : Nat, s.heap.size ≤ q → A q := fun q h => by rw [← hAe]; exact Or.inr h
  have hS : va_S A s.heap s.heap [] := va_S.rf
  have hP : va_P D vwCl [] s.heap := hP
  have hl := lv_entry ([.int 10, .int 0, .int 12]) (n := 3) (Nat.le_of_ble_eq_true rfl)
  rw [lg_entry_eq]
  generalize (lg_sl ([.int 10, .int 0, .int 12]) ++ List.replicate (3 - (lg_sl ([.int 10, .int 0, .int 12])).length) Slot.unset).toArray = ls at hl ⊢
  have hl : lv_has ls 3 [(0, .int 10), (1, .int 0), (2, .int 12)] := hl
  refine w_nm (fun Q hQ => ?_)
  refine lv_iload_n hx hb dX12_within_0 rfl (lv_at hl 0 rfl) ?_
  refine lv_iload_n hx hb dX12_within_1 rfl (lv_at hl 1 rfl) ?_
  refine lv_icmp_lt (tgt := 14) hx hb dX12_within_2 (by decide) (fun c_ => absurd c_ (by decide)) (fun _ => ?_)
  refine lv_iload_n hx hb dX12_within_5 rfl (lv_at hl 0 rfl) ?_
  refine lv_iload_n hx hb dX12_within_6 rfl (lv_at hl 2 rfl) ?_
  refine lv_icmp_gt (tgt := 14) hx hb dX12_within_7 (by decide) (fun c_ => absurd c_ (by decide)) (fun _ => ?_)
  refine lv_iconst (v := 1) hx hb dX12_within_10 (by decide) ?_
  refine lv_goto (tgt := 15) hx hb dX12_within_11 (by decide) ?_
  have hP9 := hP.sub (ws' := []) [] rfl
  have hD9 := hD.sub (ws' := []) [] (by decide) rfl
  subst hQ
  exact W.zret (v := 1) hx hb hr rfl (fun t ht hW => qi_mk (by rw [ht]; exact ⟨rfl, hP9, hD9⟩) (hS.F ht)) hS.2.2 dX12_within_15
set_option maxHeartbeats 4000000 in
set_option maxRecDepth 100000 in
theorem c_X12_count_11 (l : Launch) (D : va_G) (cy : Nat → ClassId) (h_2 : Nat) (q_700_1 : Nat) (q_700_2 : Nat) (q_700_3 : Nat) (q_700_4 : Nat) (q_700_5 : Nat) (q_700_6 : Nat) (q_700_7 : Nat) (q_700_8 : Nat) (q_700_9 : Nat) (q_700_10 : Nat) (q_700_11 : Nat) (q_700_12 : Nat) (q_700_13 : Nat) (q_700_14 : Nat) (q_700_15 : Nat) (q_700_16 : Nat) (q_700_17 : Nat) (q_700_18 : Nat) (q_700_19 : Nat) (q_700_20 : Nat) (q_700_21 : Nat) (q_700_22 : Nat) (q_700_23 : Nat) (q_700_24 : Nat) (q_700_25 : Nat) (q_700_26 : Nat) (q_700_27 : Nat) (q_700_28 : Nat) (q_700_29 : Nat) (q_700_30 : Nat) (q_700_31 : Nat) (q_700_32 : Nat) (q_700_33 : Nat) (q_700_34 : Nat) (q_700_35 : Nat) (q_700_36 : Nat) (q_700_37 : Nat) (q_700_38 : Nat) (q_700_39 : Nat) (q_700_40 : Nat) (q_700_41 : Nat) (q_700_42 : Nat) (q_700_43 : Nat) (q_700_44 : Nat) (q_700_45 : Nat) (q_700_46 : Nat) (q_700_47 : Nat) (sz : Nat) : Met l yX12_count (Cond.code yX12_count cX12_count 2 (some .int) :: bigG) ({ frames := 1, cells := 0, slots := 0, locals := 22 }) (pre D cy [.ref h_2, .int 10] sz [(h_2, .inr (12, [.int 0, .int 0, .ref q_700_1, .int 0, .int 0, .int 0, .int 0, .long 0, .int 0, .int 0, .ref q_700_2, .ref q_700_3, .ref q_700_4, .ref q_700_5, .ref q_700_6, .ref q_700_7, .ref q_700_8, .ref q_700_9, .ref q_700_10, .ref q_700_11, .ref q_700_12, .ref q_700_13, .ref q_700_14, .ref q_700_15, .ref q_700_16, .ref q_700_17, .int 0, .int 0, .ref q_700_18, .ref q_700_19, .ref q_700_20, .ref q_700_21, .ref q_700_22, .ref q_700_23, .ref q_700_24, .ref q_700_25, .ref q_700_26, .ref q_700_27, .ref q_700_28, .ref q_700_29, .int 0, .long 0, .ref q_700_30, .ref q_700_31, .ref q_700_32, .ref q_700_33, .ref q_700_34, .ref q_700_35, .ref q_700_36, .ref q_700_37, .ref q_700_38, .ref q_700_39, .ref q_700_40, .ref q_700_41, .int 0, .int 0, .int 0, .int 0, .ref q_700_42, .ref q_700_43, .ref q_700_44, .ref q_700_45, .int 0, .ref q_700_46, .ref q_700_47, .int 0, .long 0]))]) (qi (fun r h => r = 0 ∧ va_P D vwCl [] h ∧ va_D (va_A [(h_2, .inr (12, [.int 0, .int 0, .ref q_700_1, .int 0, .int 0, .int 0, .int 0, .long 0, .int 0, .int 0, .ref q_700_2, .ref q_700_3, .ref q_700_4, .ref q_700_5, .ref q_700_6, .ref q_700_7, .ref q_700_8, .ref q_700_9, .ref q_700_10, .ref q_700_11, .ref q_700_12, .ref q_700_13, .ref q_700_14, .ref q_700_15, .ref q_700_16, .ref q_700_17, .int 0, .int 0, .ref q_700_18, .ref q_700_19, .ref q_700_20, .ref q_700_21, .ref q_700_22, .ref q_700_23, .ref q_700_24, .ref q_700_25, .ref q_700_26, .ref q_700_27, .ref q_700_28, .ref q_700_29, .int 0, .long 0, .ref q_700_30, .ref q_700_31, .ref q_700_32, .ref q_700_33, .ref q_700_34, .ref q_700_35, .ref q_700_36, .ref q_700_37, .ref q_700_38, .ref q_700_39, .ref q_700_40, .ref q_700_41, .int 0, .int 0, .int 0, .int 0, .ref q_700_42, .ref q_700_43, .ref q_700_44, .ref q_700_45, .int 0, .ref q_700_46, .ref q_700_47, .int 0, .long 0]))] sz) []) (va_A [(h_2, .inr (12, [.int 0, .int 0, .ref q_700_1, .int 0, .int 0, .int 0, .int 0, .long 0, .int 0, .int 0, .ref q_700_2, .ref q_700_3, .ref q_700_4, .ref q_700_5, .ref q_700_6, .ref q_700_7, .ref q_700_8, .ref q_700_9, .ref q_700_10, .ref q_700_11, .ref q_700_12, .ref q_700_13, .ref q_700_14, .ref q_700_15, .ref q_700_16, .ref q_700_17, .int 0, .int 0, .ref q_700_18, .ref q_700_19, .ref q_700_20, .ref q_700_21, .ref q_700_22, .ref q_700_23, .ref q_700_24, .ref q_700_25, .ref q_700_26, .ref q_700_27, .ref q_700_28, .ref q_700_29, .int 0, .long 0, .ref q_700_30, .ref q_700_31, .ref q_700_32, .ref q_700_33, .ref q_700_34, .ref q_700_35, .ref q_700_36, .ref q_700_37, .ref q_700_38, .ref q_700_39, .ref q_700_40, .ref q_700_41, .int 0, .int 0, .int 0, .int 0, .ref q_700_42, .ref q_700_43, .ref q_700_44, .ref q_700_45, .int 0, .ref q_700_46, .ref q_700_47, .int 0, .long 0]))] sz)) 0 0 (va_A [(h_2, .inr (12, [.int 0, .int 0, .ref q_700_1, .int 0, .int 0, .int 0, .int 0, .long 0, .int 0, .int 0, .ref q_700_2, .ref q_700_3, .ref q_700_4, .ref q_700_5, .ref q_700_6, .ref q_700_7, .ref q_700_8, .ref q_700_9, .ref q_700_10, .ref q_700_11, .ref q_700_12, .ref q_700_13, .ref q_700_14, .ref q_700_15, .ref q_700_16, .ref q_700_17, .int 0, .int 0, .ref q_700_18, .ref q_700_19, .ref q_700_20, .ref q_700_21, .ref q_700_22, .ref q_700_23, .ref q_700_24, .ref q_700_25, .ref q_700_26, .ref q_700_27, .ref q_700_28, .ref q_700_29, .int 0, .long 0, .ref q_700_30, .ref q_700_31, .ref q_700_32, .ref q_700_33, .ref q_700_34, .ref q_700_35, .ref q_700_36, .ref q_700_37, .ref q_700_38, .ref q_700_39, .ref q_700_40, .ref q_700_41, .int 0, .int 0, .int 0, .int 0, .ref q_700_42, .ref q_700_43, .ref q_700_44, .ref q_700_45, .int 0, .ref q_700_46, .ref q_700_47, .int 0, .long 0]))] sz) := by
  refine Met.ofW (cc := cX12_count) (maxL := 2) (ret := (some .int)) (by decide) rfl ?_
  intro p e s m args below meth c s₁ B hml hv
  obtain ⟨rfl, hsz, hP, hG, hD0⟩ := hv
  have hx := B.exec
  have hb := B.bytes
  have hr := B.returns
  have hts := atoms_spec (ws := (Cond.code yX12_count cX12_count 2 (some .int) :: bigG)) B.pre
  have hg : ∀ w ∈ bigG, w.before ([.ref h_2, .int 10] : List Value).toArray s = true := fun w h => hts w (List.mem_cons_of_mem _ h)
  have hown : s.vm.findClass RX12 = some m.cls := findClass_of_methodNamed B.named
  have hlocks := B.notSynchronized
  subst hsz
  have hD := hD0.self (sz := s.heap.size)
  generalize hAe : va_A [(h_2, .inr (12, [.int 0, .int 0, .ref q_700_1, .int 0, .int 0, .int 0, .int 0, .long 0, .int 0, .int 0, .ref q_700_2, .ref q_700_3, .ref q_700_4, .ref q_700_5, .ref q_700_6, .ref q_700_7, .ref q_700_8, .ref q_700_9, .ref q_700_10, .ref q_700_11, .ref q_700_12, .ref q_700_13, .ref q_700_14, .ref q_700_15, .ref q_700_16, .ref q_700_17, .int 0, .int 0, .ref q_700_18, .ref q_700_19, .ref q_700_20, .ref q_700_21, .ref q_700_22, .ref q_700_23, .ref q_700_24, .ref q_700_25, .ref q_700_26, .ref q_700_27, .ref q_700_28, .ref q_700_29, .int 0, .long 0, .ref q_700_30, .ref q_700_31, .ref q_700_32, .ref q_700_33, .ref q_700_34, .ref q_700_35, .ref q_700_36, .ref q_700_37, .ref q_700_38, .ref q_700_39, .ref q_700_40, .ref q_700_41, .int 0, .int 0, .int 0, .int 0, .ref q_700_42, .ref q_700_43, .ref q_700_44, .ref q_700_45, .int 0, .ref q_700_46, .ref q_700_47, .int 0, .long 0]))] s.heap.size = A at hD ⊢
  have hA : ∀ q : Nat, s.heap.size ≤ q → A q := fun q h => by rw [← hAe]; exact Or.inr h
  have hS : va_S A s.heap s.heap [] := va_S.rf
  have hP : va_P D vwCl [(h_2, .inr (12, [.int 0, .int 0, .ref q_700_1, .int 0, .int 0, .int 0, .int 0, .long 0, .int 0, .int 0, .ref q_700_2, .ref q_700_3, .ref q_700_4, .ref q_700_5, .ref q_700_6, .ref q_700_7, .ref q_700_8, .ref q_700_9, .ref q_700_10, .ref q_700_11, .ref q_700_12, .ref q_700_13, .ref q_700_14, .ref q_700_15, .ref q_700_16, .ref q_700_17, .int 0, .int 0, .ref q_700_18, .ref q_700_19, .ref q_700_20, .ref q_700_21, .ref q_700_22, .ref q_700_23, .ref q_700_24, .ref q_700_25, .ref q_700_26, .ref q_700_27, .ref q_700_28, .ref q_700_29, .int 0, .long 0, .ref q_700_30, .ref q_700_31, .ref q_700_32, .ref q_700_33, .ref q_700_34, .ref q_700_35, .ref q_700_36, .ref q_700_37, .ref q_700_38, .ref q_700_39, .ref q_700_40, .ref q_700_41, .int 0, .int 0, .int 0, .int 0, .ref q_700_42, .ref q_700_43, .ref q_700_44, .ref q_700_45, .int 0, .ref q_700_46, .ref q_700_47, .int 0, .long 0]))] s.heap := hP
  have hl := lv_entry ([.ref h_2, .int 10]) (n := 2) (Nat.le_of_ble_eq_true rfl)
  rw [lg_entry_eq]
  generalize (lg_sl ([.ref h_2, .int 10]) ++ List.replicate (2 - (lg_sl ([.ref h_2, .int 10])).length) Slot.unset).toArray = ls at hl ⊢
  have hl : lv_has ls 2 [(0, .ref h_2), (1, .int 10)] := hl
  refine w_nm (fun Q hQ => ?_)
  refine lv_aload_n hx hb dX12_count_0 rfl (lv_at hl 0 rfl) ?_
  refine lv_iconst (v := 0) hx hb dX12_count_1 (by decide) ?_
  refine va_put (D := D) (ci := 12) (v := .int 0) (ty := .int) (C := RX12) (T := TX12) (N := 67) hx hb hts (inC ibX12) tyX12 tyX12_ok nmX12 hown hG.1 hP hD hS 0 rfl rfl 0 (by decide) (hg _ k_1315) (fun _ h9 => h9) rfl (by decide +kernel) rfl rfl (Nat.le_of_ble_eq_true rfl) dX12_count_2 (fun H locs hP hD hS => ?_)
  have hP : va_P D vwCl [(h_2, .inr (12, [.int 0, .int 0, .ref q_700_1, .int 0, .int 0, .int 0, .int 0, .long 0, .int 0, .int 0, .ref q_700_2, .ref q_700_3, .ref q_700_4, .ref q_700_5, .ref q_700_6, .ref q_700_7, .ref q_700_8, .ref q_700_9, .ref q_700_10, .ref q_700_11, .ref q_700_12, .ref q_700_13, .ref q_700_14, .ref q_700_15, .ref q_700_16, .ref q_700_17, .int 0, .int 0, .ref q_700_18, .ref q_700_19, .ref q_700_20, .ref q_700_21, .ref q_700_22, .ref q_700_23, .ref q_700_24, .ref q_700_25, .ref q_700_26, .ref q_700_27, .ref q_700_28, .ref q_700_29, .int 0, .long 0, .ref q_700_30, .ref q_700_31, .ref q_700_32, .ref q_700_33, .ref q_700_34, .ref q_700_35, .ref q_700_36, .ref q_700_37, .ref q_700_38, .ref q_700_39, .ref q_700_40, .ref q_700_41, .int 0, .int 0, .int 0, .int 0, .ref q_700_42, .ref q_700_43, .ref q_700_44, .ref q_700_45, .int 0, .ref q_700_46, .ref q_700_47, .int 0, .long 0]))] H := hP
  have hD : va_D A [(h_2, .inr (12, [.int 0, .int 0, .ref q_700_1, .int 0, .int 0, .int 0, .int 0, .long 0, .int 0, .int 0, .ref q_700_2, .ref q_700_3, .ref q_700_4, .ref q_700_5, .ref q_700_6, .ref q_700_7, .ref q_700_8, .ref q_700_9, .ref q_700_10, .ref q_700_11, .ref q_700_12, .ref q_700_13, .ref q_700_14, .ref q_700_15, .ref q_700_16, .ref q_700_17, .int 0, .int 0, .ref q_700_18, .ref q_700_19, .ref q_700_20, .ref q_700_21, .ref q_700_22, .ref q_700_23, .ref q_700_24, .ref q_700_25, .ref q_700_26, .ref q_700_27, .ref q_700_28, .ref q_700_29, .int 0, .long 0, .ref q_700_30, .ref q_700_31, .ref q_700_32, .ref q_700_33, .ref q_700_34, .ref q_700_35, .ref q_700_36, .ref q_700_37, .ref q_700_38, .ref q_700_39, .ref q_700_40, .ref q_700_41, .int 0, .int 0, .int 0, .int 0, .ref q_700_42, .ref q_700_43, .ref q_700_44, .ref q_700_45, .int 0, .ref q_700_46, .ref q_700_47, .int 0, .long 0]))] := hD
  refine lv_iload_n hx hb dX12_count_5 rfl (lv_at hl 1 rfl) ?_
  refine lv_iconst (v := 0) hx hb dX12_count_6 (by decide) ?_
  refine lv_bipush (v := 12) hx hb dX12_count_7 (by decide) ?_
  refine x_i (wr := [(h_2, .inr (12, [.int 0, .int 0, .ref q_700_1, .int 0, .int 0, .int 0, .int 0, .long 0, .int 0, .int 0, .ref q_700_2, .ref q_700_3, .ref q_700_4, .ref q_700_5, .ref q_700_6, .ref q_700_7, .ref q_700_8, .ref q_700_9, .ref q_700_10, .ref q_700_11, .ref q_700_12, .ref q_700_13, .ref q_700_14, .ref q_700_15, .ref q_700_16, .ref q_700_17, .int 0, .int 0, .ref q_700_18, .ref q_700_19, .ref q_700_20, .ref q_700_21, .ref q_700_22, .ref q_700_23, .ref q_700_24, .ref q_700_25, .ref q_700_26, .ref q_700_27, .ref q_700_28, .ref q_700_29, .int 0, .long 0, .ref q_700_30, .ref q_700_31, .ref q_700_32, .ref q_700_33, .ref q_700_34, .ref q_700_35, .ref q_700_36, .ref q_700_37, .ref q_700_38, .ref q_700_39, .ref q_700_40, .ref q_700_41, .int 0, .int 0, .int 0, .int 0, .ref q_700_42, .ref q_700_43, .ref q_700_44, .ref q_700_45, .int 0, .ref q_700_46, .ref q_700_47, .int 0, .long 0]))]) hP hD hS hA [] [0] rfl rfl (by decide) (by decide) (va_runS (As := [.int 10, .int 0, .int 12]) (rest := []) ⟨hx, hb, hml, hown, hts⟩ (c_X12_within_30 l D cy  H.size) (va_cwS 3 hts (gS km_X12_293 kt_X12_within kn_X12 kc_X12_within) rfl rfl rfl (by decide +kernel) ⟨(Nat.le_of_ble_eq_true rfl), (Nat.le_of_ble_eq_true rfl)⟩) (preS hG hP hD [] rfl (by decide)) rfl rfl hl.1 rfl (lv_room (Nat.le_of_ble_eq_true rfl)) dX12_count_9 ⟨(Nat.le_of_ble_eq_true rfl), (Nat.le_of_ble_eq_true rfl)⟩) (fun r_1 H locs hB hj hS => ?_)
  obtain ⟨hres, hP1, hD1⟩ := hB
  subst hres
  obtain ⟨hP, hD⟩ := hj _ hP1 hD1
  have hP : va_P D vwCl [(h_2, .inr (12, [.int 0, .int 0, .ref q_700_1, .int 0, .int 0, .int 0, .int 0, .long 0, .int 0, .int 0, .ref q_700_2, .ref q_700_3, .ref q_700_4, .ref q_700_5, .ref q_700_6, .ref q_700_7, .ref q_700_8, .ref q_700_9, .ref q_700_10, .ref q_700_11, .ref q_700_12, .ref q_700_13, .ref q_700_14, .ref q_700_15, .ref q_700_16, .ref q_700_17, .int 0, .int 0, .ref q_700_18, .ref q_700_19, .ref q_700_20, .ref q_700_21, .ref q_700_22, .ref q_700_23, .ref q_700_24, .ref q_700_25, .ref q_700_26, .ref q_700_27, .ref q_700_28, .ref q_700_29, .int 0, .long 0, .ref q_700_30, .ref q_700_31, .ref q_700_32, .ref q_700_33, .ref q_700_34, .ref q_700_35, .ref q_700_36, .ref q_700_37, .ref q_700_38, .ref q_700_39, .ref q_700_40, .ref q_700_41, .int 0, .int 0, .int 0, .int 0, .ref q_700_42, .ref q_700_43, .ref q_700_44, .ref q_700_45, .int 0, .ref q_700_46, .ref q_700_47, .int 0, .long 0]))] H := hP
  have hD : va_D A [(h_2, .inr (12, [.int 0, .int 0, .ref q_700_1, .int 0, .int 0, .int 0, .int 0, .long 0, .int 0, .int 0, .ref q_700_2, .ref q_700_3, .ref q_700_4, .ref q_700_5, .ref q_700_6, .ref q_700_7, .ref q_700_8, .ref q_700_9, .ref q_700_10, .ref q_700_11, .ref q_700_12, .ref q_700_13, .ref q_700_14, .ref q_700_15, .ref q_700_16, .ref q_700_17, .int 0, .int 0, .ref q_700_18, .ref q_700_19, .ref q_700_20, .ref q_700_21, .ref q_700_22, .ref q_700_23, .ref q_700_24, .ref q_700_25, .ref q_700_26, .ref q_700_27, .ref q_700_28, .ref q_700_29, .int 0, .long 0, .ref q_700_30, .ref q_700_31, .ref q_700_32, .ref q_700_33, .ref q_700_34, .ref q_700_35, .ref q_700_36, .ref q_700_37, .ref q_700_38, .ref q_700_39, .ref q_700_40, .ref q_700_41, .int 0, .int 0, .int 0, .int 0, .ref q_700_42, .ref q_700_43, .ref q_700_44, .ref q_700_45, .int 0, .ref q_700_46, .ref q_700_47, .int 0, .long 0]))] := hD
  refine lv_if_ne (tgt := 17) hx hb dX12_count_12 (by decide) (fun _ => ?_) (fun c_ => absurd c_ (by decide))
  refine lv_iload_n hx hb dX12_count_17 rfl (lv_at hl 1 rfl) ?_
  refine lv_iconst (v := 3) hx hb dX12_count_18 (by decide) ?_
  refine lv_icmp_ge (tgt := 29) hx hb dX12_count_19 (by decide) (fun _ => ?_) (fun c_ => absurd (by decide) c_)
  refine lv_iload_n hx hb dX12_count_29 rfl (lv_at hl 1 rfl) ?_
  refine lv_bipush (v := 6) hx hb dX12_count_30 (by decide) ?_
  refine lv_icmp_ge (tgt := 68) hx hb dX12_count_32 (by decide) (fun _ => ?_) (fun c_ => absurd (by decide) c_)
  refine lv_iload_n hx hb dX12_count_68 rfl (lv_at hl 1 rfl) ?_
  refine lv_bipush (v := 8) hx hb dX12_count_69 (by decide) ?_
  refine lv_icmp_ge (tgt := 99) hx hb dX12_count_71 (by decide) (fun _ => ?_) (fun c_ => absurd (by decide) c_)
  refine lv_iload_n hx hb dX12_count_99 rfl (lv_at hl 1 rfl) ?_
  refine lv_bipush (v := 10) hx hb dX12_count_100 (by decide) ?_
  refine lv_icmp_ge (tgt := 125) hx hb dX12_count_102 (by decide) (fun _ => ?_) (fun c_ => absurd (by decide) c_)
  refine lv_iload_n hx hb dX12_count_125 rfl (lv_at hl 1 rfl) ?_
  refine lv_bipush (v := 10) hx hb dX12_count_126 (by decide) ?_
  refine lv_icmp_ne (tgt := 138) hx hb dX12_count_128 (by decide) (fun c_ => absurd rfl c_) (fun _ => ?_)
  refine lv_aload_n hx hb dX12_count_131 rfl (lv_at hl 0 rfl) ?_
  refine va_get (D := D) (ci := 12) (v := .int 0) (C := RX12) (T := TX12) (N := 67) hx hb hts (inC ibX12) hown hG.1 hP 0 rfl rfl 54 (by decide) (hg _ k_1369) (fun _ h9 => h9) rfl dX12_count_132 ?_
  refine lv_goto (tgt := 159) hx hb dX12_count_135 (by decide) ?_
  have hP9 := hP.sub (ws' := []) [] rfl
  have hD9 := hD.sub (ws' := []) [] (by decide) rfl
  subst hQ
  exact W.iret (v := 0) hx hb hr (fun t ht hW => qi_mk (by rw [ht]; exact ⟨rfl, hP9, hD9⟩) (hS.F ht)) hS.2.2 dX12_count_159
set_option maxHeartbeats 4000000 in
set_option maxRecDepth 100000 in
theorem c_X11_count_12 (l : Launch) (D : va_G) (cy : Nat → ClassId) (h_1 : Nat) (q_1 : Nat) (q_3 : Nat) (q_4 : Nat) (q_25 : Nat) (q_46 : Nat) (q_50 : Nat) (q_54 : Nat) (q_58 : Nat) (q_62 : Nat) (q_63 : Nat) (q_64 : Nat) (q_67 : Nat) (q_85 : Nat) (q_90 : Nat) (q_93 : Nat) (q1_2 : Nat) (sz : Nat) : Met l yX11_count (Cond.code yX11_count cX11_count 2 (some .int) :: bigG) ({ frames := 0, cells := 0, slots := 0, locals := 0 }) (pre D cy [.ref h_1, .int 11] sz [(h_1, .inr (11, [.ref q_1, .ref q_3, .ref q_4, .ref q_25, .ref q_46, .ref q_50, .ref q_54, .ref q_58, .ref q_62, .int 0, .int 0, .ref q_63, .ref q_64, .ref q_67, .ref q_85, .ref q_90, .ref q_93])), (q_1, .inr (9, [.ref q1_2, .int 0, .int 0, .int 0, .int 0, .int 32, .long 0, .int 0, .int 0]))]) (qi (fun r h => r = 0 ∧ va_P D vwCl [] h ∧ va_D (va_A [(h_1, .inr (11, [.ref q_1, .ref q_3, .ref q_4, .ref q_25, .ref q_46, .ref q_50, .ref q_54, .ref q_58, .ref q_62, .int 0, .int 0, .ref q_63, .ref q_64, .ref q_67, .ref q_85, .ref q_90, .ref q_93])), (q_1, .inr (9, [.ref q1_2, .int 0, .int 0, .int 0, .int 0, .int 32, .long 0, .int 0, .int 0]))] sz) []) (va_A [(h_1, .inr (11, [.ref q_1, .ref q_3, .ref q_4, .ref q_25, .ref q_46, .ref q_50, .ref q_54, .ref q_58, .ref q_62, .int 0, .int 0, .ref q_63, .ref q_64, .ref q_67, .ref q_85, .ref q_90, .ref q_93])), (q_1, .inr (9, [.ref q1_2, .int 0, .int 0, .int 0, .int 0, .int 32, .long 0, .int 0, .int 0]))] sz)) 0 0 (va_A [(h_1, .inr (11, [.ref q_1, .ref q_3, .ref q_4, .ref q_25, .ref q_46, .ref q_50, .ref q_54, .ref q_58, .ref q_62, .int 0, .int 0, .ref q_63, .ref q_64, .ref q_67, .ref q_85, .ref q_90, .ref q_93])), (q_1, .inr (9, [.ref q1_2, .int 0, .int 0, .int 0, .int 0, .int 32, .long 0, .int 0, .int 0]))] sz) := by
  refine Met.ofW (cc := cX11_count) (maxL := 2) (ret := (some .int)) (by decide) rfl ?_
  intro p e s m args below meth c s₁ B hml hv
  obtain ⟨rfl, hsz, hP, hG, hD0⟩ := hv
  have hx := B.exec
  have hb := B.bytes
  have hr := B.returns
  have hts := atoms_spec (ws := (Cond.code yX11_count cX11_count 2 (some .int) :: bigG)) B.pre
  have hg : ∀ w ∈ bigG, w.before ([.ref h_1, .int 11] : List Value).toArray s = true := fun w h => hts w (List.mem_cons_of_mem _ h)
  have hown : s.vm.findClass RX11 = some m.cls := findClass_of_methodNamed B.named
  have hlocks := B.notSynchronized
  subst hsz
  have hD := hD0.self (sz := s.heap.size)
  generalize hAe : va_A [(h_1, .inr (11, [.ref q_1, .ref q_3, .ref q_4, .ref q_25, .ref q_46, .ref q_50, .ref q_54, .ref q_58, .ref q_62, .int 0, .int 0, .ref q_63, .ref q_64, .ref q_67, .ref q_85, .ref q_90, .ref q_93])), (q_1, .inr (9, [.ref q1_2, .int 0, .int 0, .int 0, .int 0, .int 32, .long 0, .int 0, .int 0]))] s.heap.size = A at hD ⊢
  have hA : ∀ q : Nat, s.heap.size ≤ q → A q := fun q h => by rw [← hAe]; exact Or.inr h
  have hS : va_S A s.heap s.heap [] := va_S.rf
  have hP : va_P D vwCl [(h_1, .inr (11, [.ref q_1, .ref q_3, .ref q_4, .ref q_25, .ref q_46, .ref q_50, .ref q_54, .ref q_58, .ref q_62, .int 0, .int 0, .ref q_63, .ref q_64, .ref q_67, .ref q_85, .ref q_90, .ref q_93])), (q_1, .inr (9, [.ref q1_2, .int 0, .int 0, .int 0, .int 0, .int 32, .long 0, .int 0, .int 0]))] s.heap := hP
  have hl := lv_entry ([.ref h_1, .int 11]) (n := 2) (Nat.le_of_ble_eq_true rfl)
  rw [lg_entry_eq]
  generalize (lg_sl ([.ref h_1, .int 11]) ++ List.replicate (2 - (lg_sl ([.ref h_1, .int 11])).length) Slot.unset).toArray = ls at hl ⊢
  have hl : lv_has ls 2 [(0, .ref h_1), (1, .int 11)] := hl
  refine w_nm (fun Q hQ => ?_)
  refine lv_iload_n hx hb dX11_count_0 rfl (lv_at hl 1 rfl) ?_
  refine lv_tableIn (off := 166) (tgt := 167) hx hb dX11_count_1 (by decide) (by decide) (by decide) (by decide) ?_
  refine lv_aload_n hx hb dX11_count_167 rfl (lv_at hl 0 rfl) ?_
  refine va_get (D := D) (ci := 11) (v := .ref q_1) (C := RX11) (T := TX11) (N := 17) hx hb hts (inC ibX11) hown hG.1 hP 0 rfl rfl 0 (by decide) (hg _ k_420) (fun _ h9 => h9) rfl dX11_count_168 ?_
  refine va_get (D := D) (ci := 9) (v := .int 0) (C := RX9) (T := TX9) (N := 9) hx hb hts (inC ibX9) hown hG.1 hP 1 rfl rfl 1 (by decide) (hg _ k_43) (fun _ h9 => h9) rfl dX11_count_171 ?_
  have hP9 := hP.sub (ws' := []) [] rfl
  have hD9 := hD.sub (ws' := []) [] (by decide) rfl
  subst hQ
  exact W.iret (v := 0) hx hb hr (fun t ht hW => qi_mk (by rw [ht]; exact ⟨rfl, hP9, hD9⟩) (hS.F ht)) hS.2.2 dX11_count_174
set_option maxHeartbeats 4000000 in
set_option maxRecDepth 100000 in
theorem c_X12_within_31 (l : Launch) (D : va_G) (cy : Nat → ClassId) (sz : Nat) : Met l yX12_within (Cond.code yX12_within cX12_within 3 (some .boolean) :: bigG) ({ frames := 0, cells := 0, slots := 0, locals := 0 }) (pre D cy [.int 11, .int 0, .int 12] sz []) (qi (fun r h => r = 1 ∧ va_P D vwCl [] h ∧ va_D (va_A [] sz) []) (va_A [] sz)) 0 0 (va_A [] sz) := by
  refine Met.ofW (cc := cX12_within) (maxL := 3) (ret := (some .boolean)) (by decide) rfl ?_
  intro p e s m args below meth c s₁ B hml hv
  obtain ⟨rfl, hsz, hP, hG, hD0⟩ := hv
  have hx := B.exec
  have hb := B.bytes
  have hr := B.returns
  have hts := atoms_spec (ws := (Cond.code yX12_within cX12_within 3 (some .boolean) :: bigG)) B.pre
  have hg : ∀ w ∈ bigG, w.before ([.int 11, .int 0, .int 12] : List Value).toArray s = true := fun w h => hts w (List.mem_cons_of_mem _ h)
  have hown : s.vm.findClass RX12 = some m.cls := findClass_of_methodNamed B.named
  have hlocks := B.notSynchronized
  subst hsz
  have hD := hD0.self (sz := s.heap.size)
  generalize hAe : va_A [] s.heap.size = A at hD ⊢
  have hA : ∀ q : Nat, s.heap.size ≤ q → A q := fun q h => by rw [← hAe]; exact Or.inr h
  have hS : va_S A s.heap s.heap [] := va_S.rf
  have hP : va_P D vwCl [] s.heap := hP
  have hl := lv_entry ([.int 11, .int 0, .int 12]) (n := 3) (Nat.le_of_ble_eq_true rfl)
  rw [lg_entry_eq]
  generalize (lg_sl ([.int 11, .int 0, .int 12]) ++ List.replicate (3 - (lg_sl ([.int 11, .int 0, .int 12])).length) Slot.unset).toArray = ls at hl ⊢
  have hl : lv_has ls 3 [(0, .int 11), (1, .int 0), (2, .int 12)] := hl
  refine w_nm (fun Q hQ => ?_)
  refine lv_iload_n hx hb dX12_within_0 rfl (lv_at hl 0 rfl) ?_
  refine lv_iload_n hx hb dX12_within_1 rfl (lv_at hl 1 rfl) ?_
  refine lv_icmp_lt (tgt := 14) hx hb dX12_within_2 (by decide) (fun c_ => absurd c_ (by decide)) (fun _ => ?_)
  refine lv_iload_n hx hb dX12_within_5 rfl (lv_at hl 0 rfl) ?_
  refine lv_iload_n hx hb dX12_within_6 rfl (lv_at hl 2 rfl) ?_
  refine lv_icmp_gt (tgt := 14) hx hb dX12_within_7 (by decide) (fun c_ => absurd c_ (by decide)) (fun _ => ?_)
  refine lv_iconst (v := 1) hx hb dX12_within_10 (by decide) ?_
  refine lv_goto (tgt := 15) hx hb dX12_within_11 (by decide) ?_
  have hP9 := hP.sub (ws' := []) [] rfl
  have hD9 := hD.sub (ws' := []) [] (by decide) rfl
  subst hQ
  exact W.zret (v := 1) hx hb hr rfl (fun t ht hW => qi_mk (by rw [ht]; exact ⟨rfl, hP9, hD9⟩) (hS.F ht)) hS.2.2 dX12_within_15
set_option maxHeartbeats 4000000 in
set_option maxRecDepth 100000 in
theorem c_X12_count_12 (l : Launch) (D : va_G) (cy : Nat → ClassId) (h_2 : Nat) (q_700_1 : Nat) (q_700_2 : Nat) (q_700_3 : Nat) (q_700_4 : Nat) (q_700_5 : Nat) (q_700_6 : Nat) (q_700_7 : Nat) (q_700_8 : Nat) (q_700_9 : Nat) (q_700_10 : Nat) (q_700_11 : Nat) (q_700_12 : Nat) (q_700_13 : Nat) (q_700_14 : Nat) (q_700_15 : Nat) (q_700_16 : Nat) (q_700_17 : Nat) (q_700_18 : Nat) (q_700_19 : Nat) (q_700_20 : Nat) (q_700_21 : Nat) (q_700_22 : Nat) (q_700_23 : Nat) (q_700_24 : Nat) (q_700_25 : Nat) (q_700_26 : Nat) (q_700_27 : Nat) (q_700_28 : Nat) (q_700_29 : Nat) (q_700_30 : Nat) (q_700_31 : Nat) (q_700_32 : Nat) (q_700_33 : Nat) (q_700_34 : Nat) (q_700_35 : Nat) (q_700_36 : Nat) (q_700_37 : Nat) (q_700_38 : Nat) (q_700_39 : Nat) (q_700_40 : Nat) (q_700_41 : Nat) (q_700_42 : Nat) (q_700_43 : Nat) (q_700_44 : Nat) (q_700_45 : Nat) (q_700_46 : Nat) (q_700_47 : Nat) (sz : Nat) : Met l yX12_count (Cond.code yX12_count cX12_count 2 (some .int) :: bigG) ({ frames := 1, cells := 0, slots := 0, locals := 22 }) (pre D cy [.ref h_2, .int 11] sz [(h_2, .inr (12, [.int 0, .int 0, .ref q_700_1, .int 0, .int 0, .int 0, .int 0, .long 0, .int 0, .int 0, .ref q_700_2, .ref q_700_3, .ref q_700_4, .ref q_700_5, .ref q_700_6, .ref q_700_7, .ref q_700_8, .ref q_700_9, .ref q_700_10, .ref q_700_11, .ref q_700_12, .ref q_700_13, .ref q_700_14, .ref q_700_15, .ref q_700_16, .ref q_700_17, .int 0, .int 0, .ref q_700_18, .ref q_700_19, .ref q_700_20, .ref q_700_21, .ref q_700_22, .ref q_700_23, .ref q_700_24, .ref q_700_25, .ref q_700_26, .ref q_700_27, .ref q_700_28, .ref q_700_29, .int 0, .long 0, .ref q_700_30, .ref q_700_31, .ref q_700_32, .ref q_700_33, .ref q_700_34, .ref q_700_35, .ref q_700_36, .ref q_700_37, .ref q_700_38, .ref q_700_39, .ref q_700_40, .ref q_700_41, .int 0, .int 0, .int 0, .int 0, .ref q_700_42, .ref q_700_43, .ref q_700_44, .ref q_700_45, .int 0, .ref q_700_46, .ref q_700_47, .int 0, .long 0]))]) (qi (fun r h => r = 0 ∧ va_P D vwCl [] h ∧ va_D (va_A [(h_2, .inr (12, [.int 0, .int 0, .ref q_700_1, .int 0, .int 0, .int 0, .int 0, .long 0, .int 0, .int 0, .ref q_700_2, .ref q_700_3, .ref q_700_4, .ref q_700_5, .ref q_700_6, .ref q_700_7, .ref q_700_8, .ref q_700_9, .ref q_700_10, .ref q_700_11, .ref q_700_12, .ref q_700_13, .ref q_700_14, .ref q_700_15, .ref q_700_16, .ref q_700_17, .int 0, .int 0, .ref q_700_18, .ref q_700_19, .ref q_700_20, .ref q_700_21, .ref q_700_22, .ref q_700_23, .ref q_700_24, .ref q_700_25, .ref q_700_26, .ref q_700_27, .ref q_700_28, .ref q_700_29, .int 0, .long 0, .ref q_700_30, .ref q_700_31, .ref q_700_32, .ref q_700_33, .ref q_700_34, .ref q_700_35, .ref q_700_36, .ref q_700_37, .ref q_700_38, .ref q_700_39, .ref q_700_40, .ref q_700_41, .int 0, .int 0, .int 0, .int 0, .ref q_700_42, .ref q_700_43, .ref q_700_44, .ref q_700_45, .int 0, .ref q_700_46, .ref q_700_47, .int 0, .long 0]))] sz) []) (va_A [(h_2, .inr (12, [.int 0, .int 0, .ref q_700_1, .int 0, .int 0, .int 0, .int 0, .long 0, .int 0, .int 0, .ref q_700_2, .ref q_700_3, .ref q_700_4, .ref q_700_5, .ref q_700_6, .ref q_700_7, .ref q_700_8, .ref q_700_9, .ref q_700_10, .ref q_700_11, .ref q_700_12, .ref q_700_13, .ref q_700_14, .ref q_700_15, .ref q_700_16, .ref q_700_17, .int 0, .int 0, .ref q_700_18, .ref q_700_19, .ref q_700_20, .ref q_700_21, .ref q_700_22, .ref q_700_23, .ref q_700_24, .ref q_700_25, .ref q_700_26, .ref q_700_27, .ref q_700_28, .ref q_700_29, .int 0, .long 0, .ref q_700_30, .ref q_700_31, .ref q_700_32, .ref q_700_33, .ref q_700_34, .ref q_700_35, .ref q_700_36, .ref q_700_37, .ref q_700_38, .ref q_700_39, .ref q_700_40, .ref q_700_41, .int 0, .int 0, .int 0, .int 0, .ref q_700_42, .ref q_700_43, .ref q_700_44, .ref q_700_45, .int 0, .ref q_700_46, .ref q_700_47, .int 0, .long 0]))] sz)) 0 0 (va_A [(h_2, .inr (12, [.int 0, .int 0, .ref q_700_1, .int 0, .int 0, .int 0, .int 0, .long 0, .int 0, .int 0, .ref q_700_2, .ref q_700_3, .ref q_700_4, .ref q_700_5, .ref q_700_6, .ref q_700_7, .ref q_700_8, .ref q_700_9, .ref q_700_10, .ref q_700_11, .ref q_700_12, .ref q_700_13, .ref q_700_14, .ref q_700_15, .ref q_700_16, .ref q_700_17, .int 0, .int 0, .ref q_700_18, .ref q_700_19, .ref q_700_20, .ref q_700_21, .ref q_700_22, .ref q_700_23, .ref q_700_24, .ref q_700_25, .ref q_700_26, .ref q_700_27, .ref q_700_28, .ref q_700_29, .int 0, .long 0, .ref q_700_30, .ref q_700_31, .ref q_700_32, .ref q_700_33, .ref q_700_34, .ref q_700_35, .ref q_700_36, .ref q_700_37, .ref q_700_38, .ref q_700_39, .ref q_700_40, .ref q_700_41, .int 0, .int 0, .int 0, .int 0, .ref q_700_42, .ref q_700_43, .ref q_700_44, .ref q_700_45, .int 0, .ref q_700_46, .ref q_700_47, .int 0, .long 0]))] sz) := by
  refine Met.ofW (cc := cX12_count) (maxL := 2) (ret := (some .int)) (by decide) rfl ?_
  intro p e s m args below meth c s₁ B hml hv
  obtain ⟨rfl, hsz, hP, hG, hD0⟩ := hv
  have hx := B.exec
  have hb := B.bytes
  have hr := B.returns
  have hts := atoms_spec (ws := (Cond.code yX12_count cX12_count 2 (some .int) :: bigG)) B.pre
  have hg : ∀ w ∈ bigG, w.before ([.ref h_2, .int 11] : List Value).toArray s = true := fun w h => hts w (List.mem_cons_of_mem _ h)
  have hown : s.vm.findClass RX12 = some m.cls := findClass_of_methodNamed B.named
  have hlocks := B.notSynchronized
  subst hsz
  have hD := hD0.self (sz := s.heap.size)
  generalize hAe : va_A [(h_2, .inr (12, [.int 0, .int 0, .ref q_700_1, .int 0, .int 0, .int 0, .int 0, .long 0, .int 0, .int 0, .ref q_700_2, .ref q_700_3, .ref q_700_4, .ref q_700_5, .ref q_700_6, .ref q_700_7, .ref q_700_8, .ref q_700_9, .ref q_700_10, .ref q_700_11, .ref q_700_12, .ref q_700_13, .ref q_700_14, .ref q_700_15, .ref q_700_16, .ref q_700_17, .int 0, .int 0, .ref q_700_18, .ref q_700_19, .ref q_700_20, .ref q_700_21, .ref q_700_22, .ref q_700_23, .ref q_700_24, .ref q_700_25, .ref q_700_26, .ref q_700_27, .ref q_700_28, .ref q_700_29, .int 0, .long 0, .ref q_700_30, .ref q_700_31, .ref q_700_32, .ref q_700_33, .ref q_700_34, .ref q_700_35, .ref q_700_36, .ref q_700_37, .ref q_700_38, .ref q_700_39, .ref q_700_40, .ref q_700_41, .int 0, .int 0, .int 0, .int 0, .ref q_700_42, .ref q_700_43, .ref q_700_44, .ref q_700_45, .int 0, .ref q_700_46, .ref q_700_47, .int 0, .long 0]))] s.heap.size = A at hD ⊢
  have hA : ∀ q : Nat, s.heap.size ≤ q → A q := fun q h => by rw [← hAe]; exact Or.inr h
  have hS : va_S A s.heap s.heap [] := va_S.rf
  have hP : va_P D vwCl [(h_2, .inr (12, [.int 0, .int 0, .ref q_700_1, .int 0, .int 0, .int 0, .int 0, .long 0, .int 0, .int 0, .ref q_700_2, .ref q_700_3, .ref q_700_4, .ref q_700_5, .ref q_700_6, .ref q_700_7, .ref q_700_8, .ref q_700_9, .ref q_700_10, .ref q_700_11, .ref q_700_12, .ref q_700_13, .ref q_700_14, .ref q_700_15, .ref q_700_16, .ref q_700_17, .int 0, .int 0, .ref q_700_18, .ref q_700_19, .ref q_700_20, .ref q_700_21, .ref q_700_22, .ref q_700_23, .ref q_700_24, .ref q_700_25, .ref q_700_26, .ref q_700_27, .ref q_700_28, .ref q_700_29, .int 0, .long 0, .ref q_700_30, .ref q_700_31, .ref q_700_32, .ref q_700_33, .ref q_700_34, .ref q_700_35, .ref q_700_36, .ref q_700_37, .ref q_700_38, .ref q_700_39, .ref q_700_40, .ref q_700_41, .int 0, .int 0, .int 0, .int 0, .ref q_700_42, .ref q_700_43, .ref q_700_44, .ref q_700_45, .int 0, .ref q_700_46, .ref q_700_47, .int 0, .long 0]))] s.heap := hP
  have hl := lv_entry ([.ref h_2, .int 11]) (n := 2) (Nat.le_of_ble_eq_true rfl)
  rw [lg_entry_eq]
  generalize (lg_sl ([.ref h_2, .int 11]) ++ List.replicate (2 - (lg_sl ([.ref h_2, .int 11])).length) Slot.unset).toArray = ls at hl ⊢
  have hl : lv_has ls 2 [(0, .ref h_2), (1, .int 11)] := hl
  refine w_nm (fun Q hQ => ?_)
  refine lv_aload_n hx hb dX12_count_0 rfl (lv_at hl 0 rfl) ?_
  refine lv_iconst (v := 0) hx hb dX12_count_1 (by decide) ?_
  refine va_put (D := D) (ci := 12) (v := .int 0) (ty := .int) (C := RX12) (T := TX12) (N := 67) hx hb hts (inC ibX12) tyX12 tyX12_ok nmX12 hown hG.1 hP hD hS 0 rfl rfl 0 (by decide) (hg _ k_1315) (fun _ h9 => h9) rfl (by decide +kernel) rfl rfl (Nat.le_of_ble_eq_true rfl) dX12_count_2 (fun H locs hP hD hS => ?_)
  have hP : va_P D vwCl [(h_2, .inr (12, [.int 0, .int 0, .ref q_700_1, .int 0, .int 0, .int 0, .int 0, .long 0, .int 0, .int 0, .ref q_700_2, .ref q_700_3, .ref q_700_4, .ref q_700_5, .ref q_700_6, .ref q_700_7, .ref q_700_8, .ref q_700_9, .ref q_700_10, .ref q_700_11, .ref q_700_12, .ref q_700_13, .ref q_700_14, .ref q_700_15, .ref q_700_16, .ref q_700_17, .int 0, .int 0, .ref q_700_18, .ref q_700_19, .ref q_700_20, .ref q_700_21, .ref q_700_22, .ref q_700_23, .ref q_700_24, .ref q_700_25, .ref q_700_26, .ref q_700_27, .ref q_700_28, .ref q_700_29, .int 0, .long 0, .ref q_700_30, .ref q_700_31, .ref q_700_32, .ref q_700_33, .ref q_700_34, .ref q_700_35, .ref q_700_36, .ref q_700_37, .ref q_700_38, .ref q_700_39, .ref q_700_40, .ref q_700_41, .int 0, .int 0, .int 0, .int 0, .ref q_700_42, .ref q_700_43, .ref q_700_44, .ref q_700_45, .int 0, .ref q_700_46, .ref q_700_47, .int 0, .long 0]))] H := hP
  have hD : va_D A [(h_2, .inr (12, [.int 0, .int 0, .ref q_700_1, .int 0, .int 0, .int 0, .int 0, .long 0, .int 0, .int 0, .ref q_700_2, .ref q_700_3, .ref q_700_4, .ref q_700_5, .ref q_700_6, .ref q_700_7, .ref q_700_8, .ref q_700_9, .ref q_700_10, .ref q_700_11, .ref q_700_12, .ref q_700_13, .ref q_700_14, .ref q_700_15, .ref q_700_16, .ref q_700_17, .int 0, .int 0, .ref q_700_18, .ref q_700_19, .ref q_700_20, .ref q_700_21, .ref q_700_22, .ref q_700_23, .ref q_700_24, .ref q_700_25, .ref q_700_26, .ref q_700_27, .ref q_700_28, .ref q_700_29, .int 0, .long 0, .ref q_700_30, .ref q_700_31, .ref q_700_32, .ref q_700_33, .ref q_700_34, .ref q_700_35, .ref q_700_36, .ref q_700_37, .ref q_700_38, .ref q_700_39, .ref q_700_40, .ref q_700_41, .int 0, .int 0, .int 0, .int 0, .ref q_700_42, .ref q_700_43, .ref q_700_44, .ref q_700_45, .int 0, .ref q_700_46, .ref q_700_47, .int 0, .long 0]))] := hD
  refine lv_iload_n hx hb dX12_count_5 rfl (lv_at hl 1 rfl) ?_
  refine lv_iconst (v := 0) hx hb dX12_count_6 (by decide) ?_
  refine lv_bipush (v := 12) hx hb dX12_count_7 (by decide) ?_
  refine x_i (wr := [(h_2, .inr (12, [.int 0, .int 0, .ref q_700_1, .int 0, .int 0, .int 0, .int 0, .long 0, .int 0, .int 0, .ref q_700_2, .ref q_700_3, .ref q_700_4, .ref q_700_5, .ref q_700_6, .ref q_700_7, .ref q_700_8, .ref q_700_9, .ref q_700_10, .ref q_700_11, .ref q_700_12, .ref q_700_13, .ref q_700_14, .ref q_700_15, .ref q_700_16, .ref q_700_17, .int 0, .int 0, .ref q_700_18, .ref q_700_19, .ref q_700_20, .ref q_700_21, .ref q_700_22, .ref q_700_23, .ref q_700_24, .ref q_700_25, .ref q_700_26, .ref q_700_27, .ref q_700_28, .ref q_700_29, .int 0, .long 0, .ref q_700_30, .ref q_700_31, .ref q_700_32, .ref q_700_33, .ref q_700_34, .ref q_700_35, .ref q_700_36, .ref q_700_37, .ref q_700_38, .ref q_700_39, .ref q_700_40, .ref q_700_41, .int 0, .int 0, .int 0, .int 0, .ref q_700_42, .ref q_700_43, .ref q_700_44, .ref q_700_45, .int 0, .ref q_700_46, .ref q_700_47, .int 0, .long 0]))]) hP hD hS hA [] [0] rfl rfl (by decide) (by decide) (va_runS (As := [.int 11, .int 0, .int 12]) (rest := []) ⟨hx, hb, hml, hown, hts⟩ (c_X12_within_31 l D cy  H.size) (va_cwS 3 hts (gS km_X12_293 kt_X12_within kn_X12 kc_X12_within) rfl rfl rfl (by decide +kernel) ⟨(Nat.le_of_ble_eq_true rfl), (Nat.le_of_ble_eq_true rfl)⟩) (preS hG hP hD [] rfl (by decide)) rfl rfl hl.1 rfl (lv_room (Nat.le_of_ble_eq_true rfl)) dX12_count_9 ⟨(Nat.le_of_ble_eq_true rfl), (Nat.le_of_ble_eq_true rfl)⟩) (fun r_1 H locs hB hj hS => ?_)
  obtain ⟨hres, hP1, hD1⟩ := hB
  subst hres
  obtain ⟨hP, hD⟩ := hj _ hP1 hD1
  have hP : va_P D vwCl [(h_2, .inr (12, [.int 0, .int 0, .ref q_700_1, .int 0, .int 0, .int 0, .int 0, .long 0, .int 0, .int 0, .ref q_700_2, .ref q_700_3, .ref q_700_4, .ref q_700_5, .ref q_700_6, .ref q_700_7, .ref q_700_8, .ref q_700_9, .ref q_700_10, .ref q_700_11, .ref q_700_12, .ref q_700_13, .ref q_700_14, .ref q_700_15, .ref q_700_16, .ref q_700_17, .int 0, .int 0, .ref q_700_18, .ref q_700_19, .ref q_700_20, .ref q_700_21, .ref q_700_22, .ref q_700_23, .ref q_700_24, .ref q_700_25, .ref q_700_26, .ref q_700_27, .ref q_700_28, .ref q_700_29, .int 0, .long 0, .ref q_700_30, .ref q_700_31, .ref q_700_32, .ref q_700_33, .ref q_700_34, .ref q_700_35, .ref q_700_36, .ref q_700_37, .ref q_700_38, .ref q_700_39, .ref q_700_40, .ref q_700_41, .int 0, .int 0, .int 0, .int 0, .ref q_700_42, .ref q_700_43, .ref q_700_44, .ref q_700_45, .int 0, .ref q_700_46, .ref q_700_47, .int 0, .long 0]))] H := hP
  have hD : va_D A [(h_2, .inr (12, [.int 0, .int 0, .ref q_700_1, .int 0, .int 0, .int 0, .int 0, .long 0, .int 0, .int 0, .ref q_700_2, .ref q_700_3, .ref q_700_4, .ref q_700_5, .ref q_700_6, .ref q_700_7, .ref q_700_8, .ref q_700_9, .ref q_700_10, .ref q_700_11, .ref q_700_12, .ref q_700_13, .ref q_700_14, .ref q_700_15, .ref q_700_16, .ref q_700_17, .int 0, .int 0, .ref q_700_18, .ref q_700_19, .ref q_700_20, .ref q_700_21, .ref q_700_22, .ref q_700_23, .ref q_700_24, .ref q_700_25, .ref q_700_26, .ref q_700_27, .ref q_700_28, .ref q_700_29, .int 0, .long 0, .ref q_700_30, .ref q_700_31, .ref q_700_32, .ref q_700_33, .ref q_700_34, .ref q_700_35, .ref q_700_36, .ref q_700_37, .ref q_700_38, .ref q_700_39, .ref q_700_40, .ref q_700_41, .int 0, .int 0, .int 0, .int 0, .ref q_700_42, .ref q_700_43, .ref q_700_44, .ref q_700_45, .int 0, .ref q_700_46, .ref q_700_47, .int 0, .long 0]))] := hD
  refine lv_if_ne (tgt := 17) hx hb dX12_count_12 (by decide) (fun _ => ?_) (fun c_ => absurd c_ (by decide))
  refine lv_iload_n hx hb dX12_count_17 rfl (lv_at hl 1 rfl) ?_
  refine lv_iconst (v := 3) hx hb dX12_count_18 (by decide) ?_
  refine lv_icmp_ge (tgt := 29) hx hb dX12_count_19 (by decide) (fun _ => ?_) (fun c_ => absurd (by decide) c_)
  refine lv_iload_n hx hb dX12_count_29 rfl (lv_at hl 1 rfl) ?_
  refine lv_bipush (v := 6) hx hb dX12_count_30 (by decide) ?_
  refine lv_icmp_ge (tgt := 68) hx hb dX12_count_32 (by decide) (fun _ => ?_) (fun c_ => absurd (by decide) c_)
  refine lv_iload_n hx hb dX12_count_68 rfl (lv_at hl 1 rfl) ?_
  refine lv_bipush (v := 8) hx hb dX12_count_69 (by decide) ?_
  refine lv_icmp_ge (tgt := 99) hx hb dX12_count_71 (by decide) (fun _ => ?_) (fun c_ => absurd (by decide) c_)
  refine lv_iload_n hx hb dX12_count_99 rfl (lv_at hl 1 rfl) ?_
  refine lv_bipush (v := 10) hx hb dX12_count_100 (by decide) ?_
  refine lv_icmp_ge (tgt := 125) hx hb dX12_count_102 (by decide) (fun _ => ?_) (fun c_ => absurd (by decide) c_)
  refine lv_iload_n hx hb dX12_count_125 rfl (lv_at hl 1 rfl) ?_
  refine lv_bipush (v := 10) hx hb dX12_count_126 (by decide) ?_
  refine lv_icmp_ne (tgt := 138) hx hb dX12_count_128 (by decide) (fun _ => ?_) (fun c_ => absurd c_ (by decide))
  refine lv_iload_n hx hb dX12_count_138 rfl (lv_at hl 1 rfl) ?_
  refine lv_bipush (v := 11) hx hb dX12_count_139 (by decide) ?_
  refine lv_icmp_ne (tgt := 151) hx hb dX12_count_141 (by decide) (fun c_ => absurd rfl c_) (fun _ => ?_)
  refine lv_aload_n hx hb dX12_count_144 rfl (lv_at hl 0 rfl) ?_
  refine va_get (D := D) (ci := 12) (v := .int 0) (C := RX12) (T := TX12) (N := 67) hx hb hts (inC ibX12) hown hG.1 hP 0 rfl rfl 1 (by decide) (hg _ k_1316) (fun _ h9 => h9) rfl dX12_count_145 ?_
  refine lv_goto (tgt := 159) hx hb dX12_count_148 (by decide) ?_
  have hP9 := hP.sub (ws' := []) [] rfl
  have hD9 := hD.sub (ws' := []) [] (by decide) rfl
  subst hQ
  exact W.iret (v := 0) hx hb hr (fun t ht hW => qi_mk (by rw [ht]; exact ⟨rfl, hP9, hD9⟩) (hS.F ht)) hS.2.2 dX12_count_159
set_option maxHeartbeats 4000000 in
set_option maxRecDepth 100000 in
theorem c_X11_count_13 (l : Launch) (D : va_G) (cy : Nat → ClassId) (h_1 : Nat) (q_1 : Nat) (q_3 : Nat) (q_4 : Nat) (q_25 : Nat) (q_46 : Nat) (q_50 : Nat) (q_54 : Nat) (q_58 : Nat) (q_62 : Nat) (q_63 : Nat) (q_64 : Nat) (q_67 : Nat) (q_85 : Nat) (q_90 : Nat) (q_93 : Nat) (q_1_5 : Nat) (q_2_6 : Nat) (q_3_7 : Nat) (q_4_8 : Nat) (q_5_9 : Nat) (q_6_10 : Nat) (q_7_11 : Nat) (q_8_12 : Nat) (q_9_13 : Nat) (q_10_14 : Nat) (q_11_15 : Nat) (q_12_16 : Nat) (q_13_17 : Nat) (q_18_18 : Nat) (q_19_19 : Nat) (q_20_20 : Nat) (q1_55 : Nat) (q2_56 : Nat) (q3_57 : Nat) (sz : Nat) : Met l yX11_count (Cond.code yX11_count cX11_count 2 (some .int) :: bigG) ({ frames := 1, cells := 0, slots := 0, locals := 23 }) (pre D cy [.ref h_1, .int 12] sz [(h_1, .inr (11, [.ref q_1, .ref q_3, .ref q_4, .ref q_25, .ref q_46, .ref q_50, .ref q_54, .ref q_58, .ref q_62, .int 0, .int 0, .ref q_63, .ref q_64, .ref q_67, .ref q_85, .ref q_90, .ref q_93])), (q_4, .inr (0, [.ref q_1_5, .ref q_2_6, .ref q_3_7, .ref q_4_8, .ref q_5_9, .ref q_6_10, .ref q_7_11, .ref q_8_12, .ref q_9_13, .ref q_10_14, .ref q_11_15, .ref q_12_16, .ref q_13_17, .int 0, .int 0, .int 0, .int 2, .ref q_18_18, .ref q_19_19, .ref q_20_20])), (q_54, .inr (8, [.int 0, .int 0, .int 0, .ref q1_55, .ref q2_56, .ref q3_57]))]) (qi (fun r h => r = 0 ∧ va_P D vwCl [] h ∧ va_D (va_A [(h_1, .inr (11, [.ref q_1, .ref q_3, .ref q_4, .ref q_25, .ref q_46, .ref q_50, .ref q_54, .ref q_58, .ref q_62, .int 0, .int 0, .ref q_63, .ref q_64, .ref q_67, .ref q_85, .ref q_90, .ref q_93])), (q_4, .inr (0, [.ref q_1_5, .ref q_2_6, .ref q_3_7, .ref q_4_8, .ref q_5_9, .ref q_6_10, .ref q_7_11, .ref q_8_12, .ref q_9_13, .ref q_10_14, .ref q_11_15, .ref q_12_16, .ref q_13_17, .int 0, .int 0, .int 0, .int 2, .ref q_18_18, .ref q_19_19, .ref q_20_20])), (q_54, .inr (8, [.int 0, .int 0, .int 0, .ref q1_55, .ref q2_56, .ref q3_57]))] sz) []) (va_A [(h_1, .inr (11, [.ref q_1, .ref q_3, .ref q_4, .ref q_25, .ref q_46, .ref q_50, .ref q_54, .ref q_58, .ref q_62, .int 0, .int 0, .ref q_63, .ref q_64, .ref q_67, .ref q_85, .ref q_90, .ref q_93])), (q_4, .inr (0, [.ref q_1_5, .ref q_2_6, .ref q_3_7, .ref q_4_8, .ref q_5_9, .ref q_6_10, .ref q_7_11, .ref q_8_12, .ref q_9_13, .ref q_10_14, .ref q_11_15, .ref q_12_16, .ref q_13_17, .int 0, .int 0, .int 0, .int 2, .ref q_18_18, .ref q_19_19, .ref q_20_20])), (q_54, .inr (8, [.int 0, .int 0, .int 0, .ref q1_55, .ref q2_56, .ref q3_57]))] sz)) 0 0 (va_A [(h_1, .inr (11, [.ref q_1, .ref q_3, .ref q_4, .ref q_25, .ref q_46, .ref q_50, .ref q_54, .ref q_58, .ref q_62, .int 0, .int 0, .ref q_63, .ref q_64, .ref q_67, .ref q_85, .ref q_90, .ref q_93])), (q_4, .inr (0, [.ref q_1_5, .ref q_2_6, .ref q_3_7, .ref q_4_8, .ref q_5_9, .ref q_6_10, .ref q_7_11, .ref q_8_12, .ref q_9_13, .ref q_10_14, .ref q_11_15, .ref q_12_16, .ref q_13_17, .int 0, .int 0, .int 0, .int 2, .ref q_18_18, .ref q_19_19, .ref q_20_20])), (q_54, .inr (8, [.int 0, .int 0, .int 0, .ref q1_55, .ref q2_56, .ref q3_57]))] sz) := by
  refine Met.ofW (cc := cX11_count) (maxL := 2) (ret := (some .int)) (by decide) rfl ?_
  intro p e s m args below meth c s₁ B hml hv
  obtain ⟨rfl, hsz, hP, hG, hD0⟩ := hv
  have hx := B.exec
  have hb := B.bytes
  have hr := B.returns
  have hts := atoms_spec (ws := (Cond.code yX11_count cX11_count 2 (some .int) :: bigG)) B.pre
  have hg : ∀ w ∈ bigG, w.before ([.ref h_1, .int 12] : List Value).toArray s = true := fun w h => hts w (List.mem_cons_of_mem _ h)
  have hown : s.vm.findClass RX11 = some m.cls := findClass_of_methodNamed B.named
  have hlocks := B.notSynchronized
  subst hsz
  have hD := hD0.self (sz := s.heap.size)
  generalize hAe : va_A [(h_1, .inr (11, [.ref q_1, .ref q_3, .ref q_4, .ref q_25, .ref q_46, .ref q_50, .ref q_54, .ref q_58, .ref q_62, .int 0, .int 0, .ref q_63, .ref q_64, .ref q_67, .ref q_85, .ref q_90, .ref q_93])), (q_4, .inr (0, [.ref q_1_5, .ref q_2_6, .ref q_3_7, .ref q_4_8, .ref q_5_9, .ref q_6_10, .ref q_7_11, .ref q_8_12, .ref q_9_13, .ref q_10_14, .ref q_11_15, .ref q_12_16, .ref q_13_17, .int 0, .int 0, .int 0, .int 2, .ref q_18_18, .ref q_19_19, .ref q_20_20])), (q_54, .inr (8, [.int 0, .int 0, .int 0, .ref q1_55, .ref q2_56, .ref q3_57]))] s.heap.size = A at hD ⊢
  have hA : ∀ q : Nat, s.heap.size ≤ q → A q := fun q h => by rw [← hAe]; exact Or.inr h
  have hS : va_S A s.heap s.heap [] := va_S.rf
  have hP : va_P D vwCl [(h_1, .inr (11, [.ref q_1, .ref q_3, .ref q_4, .ref q_25, .ref q_46, .ref q_50, .ref q_54, .ref q_58, .ref q_62, .int 0, .int 0, .ref q_63, .ref q_64, .ref q_67, .ref q_85, .ref q_90, .ref q_93])), (q_4, .inr (0, [.ref q_1_5, .ref q_2_6, .ref q_3_7, .ref q_4_8, .ref q_5_9, .ref q_6_10, .ref q_7_11, .ref q_8_12, .ref q_9_13, .ref q_10_14, .ref q_11_15, .ref q_12_16, .ref q_13_17, .int 0, .int 0, .int 0, .int 2, .ref q_18_18, .ref q_19_19, .ref q_20_20])), (q_54, .inr (8, [.int 0, .int 0, .int 0, .ref q1_55, .ref q2_56, .ref q3_57]))] s.heap := hP
  have hl := lv_entry ([.ref h_1, .int 12]) (n := 2) (Nat.le_of_ble_eq_true rfl)
  rw [lg_entry_eq]
  generalize (lg_sl ([.ref h_1, .int 12]) ++ List.replicate (2 - (lg_sl ([.ref h_1, .int 12])).length) Slot.unset).toArray = ls at hl ⊢
  have hl : lv_has ls 2 [(0, .ref h_1), (1, .int 12)] := hl
  refine w_nm (fun Q hQ => ?_)
  refine lv_iload_n hx hb dX11_count_0 rfl (lv_at hl 1 rfl) ?_
  refine lv_tableIn (off := 174) (tgt := 175) hx hb dX11_count_1 (by decide) (by decide) (by decide) (by decide) ?_
  refine lv_aload_n hx hb dX11_count_175 rfl (lv_at hl 0 rfl) ?_
  refine va_get (D := D) (ci := 11) (v := .ref q_54) (C := RX11) (T := TX11) (N := 17) hx hb hts (inC ibX11) hown hG.1 hP 0 rfl rfl 6 (by decide) (hg _ k_426) (fun _ h9 => h9) rfl dX11_count_176 ?_
  refine va_get (D := D) (ci := 8) (v := .ref q1_55) (C := RX8) (T := TX8) (N := 6) hx hb hts (inC ibX8) hown hG.1 hP 2 rfl rfl 3 (by decide) (hg _ k_268) (fun _ h9 => h9) rfl dX11_count_179 ?_
  refine lv_aload_n hx hb dX11_count_182 rfl (lv_at hl 0 rfl) ?_
  refine va_get (D := D) (ci := 11) (v := .ref q_4) (C := RX11) (T := TX11) (N := 17) hx hb hts (inC ibX11) hown hG.1 hP 0 rfl rfl 2 (by decide) (hg _ k_422) (fun _ h9 => h9) rfl dX11_count_183 ?_
  refine va_get (D := D) (ci := 0) (v := .int 0) (C := RX0) (T := TX0) (N := 20) hx hb hts (inC ibX0) hown hG.1 hP 1 rfl rfl 13 (by decide) (hg _ k_177) (fun _ h9 => h9) rfl dX11_count_186 ?_
  refine x_i (wr := [(h_1, .inr (11, [.ref q_1, .ref q_3, .ref q_4, .ref q_25, .ref q_46, .ref q_50, .ref q_54, .ref q_58, .ref q_62, .int 0, .int 0, .ref q_63, .ref q_64, .ref q_67, .ref q_85, .ref q_90, .ref q_93])), (q_4, .inr (0, [.ref q_1_5, .ref q_2_6, .ref q_3_7, .ref q_4_8, .ref q_5_9, .ref q_6_10, .ref q_7_11, .ref q_8_12, .ref q_9_13, .ref q_10_14, .ref q_11_15, .ref q_12_16, .ref q_13_17, .int 0, .int 0, .int 0, .int 2, .ref q_18_18, .ref q_19_19, .ref q_20_20])), (q_54, .inr (8, [.int 0, .int 0, .int 0, .ref q1_55, .ref q2_56, .ref q3_57]))]) hP hD hS hA [] [0, 1, 2] rfl rfl (by decide) (by decide) (va_runS (As := [.ref q1_55, .int 0]) (rest := []) ⟨hx, hb, hml, hown, hts⟩ (c_X11_sum_1 l D cy q1_55 s.heap.size) (va_cwS 2 hts (gS km_X11_321 kt_X11_sum kn_X11 kc_X11_sum) rfl rfl rfl (by decide +kernel) ⟨(Nat.le_of_ble_eq_true rfl), (Nat.le_of_ble_eq_true rfl)⟩) (preS hG hP hD [] rfl (by decide)) rfl rfl hl.1 rfl (lv_room (Nat.le_of_ble_eq_true rfl)) dX11_count_189 ⟨(Nat.le_of_ble_eq_true rfl), (Nat.le_of_ble_eq_true rfl)⟩) (fun r_1 H locs hB hj hS => ?_)
  obtain ⟨hres, hP1, hD1⟩ := hB
  subst hres
  obtain ⟨hP, hD⟩ := hj _ hP1 hD1
  have hP : va_P D vwCl [(h_1, .inr (11, [.ref q_1, .ref q_3, .ref q_4, .ref q_25, .ref q_46, .ref q_50, .ref q_54, .ref q_58, .ref q_62, .int 0, .int 0, .ref q_63, .ref q_64, .ref q_67, .ref q_85, .ref q_90, .ref q_93])), (q_4, .inr (0, [.ref q_1_5, .ref q_2_6, .ref q_3_7, .ref q_4_8, .ref q_5_9, .ref q_6_10, .ref q_7_11, .ref q_8_12, .ref q_9_13, .ref q_10_14, .ref q_11_15, .ref q_12_16, .ref q_13_17, .int 0, .int 0, .int 0, .int 2, .ref q_18_18, .ref q_19_19, .ref q_20_20])), (q_54, .inr (8, [.int 0, .int 0, .int 0, .ref q1_55, .ref q2_56, .ref q3_57]))] H := hP
  have hD : va_D A [(h_1, .inr (11, [.ref q_1, .ref q_3, .ref q_4, .ref q_25, .ref q_46, .ref q_50, .ref q_54, .ref q_58, .ref q_62, .int 0, .int 0, .ref q_63, .ref q_64, .ref q_67, .ref q_85, .ref q_90, .ref q_93])), (q_4, .inr (0, [.ref q_1_5, .ref q_2_6, .ref q_3_7, .ref q_4_8, .ref q_5_9, .ref q_6_10, .ref q_7_11, .ref q_8_12, .ref q_9_13, .ref q_10_14, .ref q_11_15, .ref q_12_16, .ref q_13_17, .int 0, .int 0, .int 0, .int 2, .ref q_18_18, .ref q_19_19, .ref q_20_20])), (q_54, .inr (8, [.int 0, .int 0, .int 0, .ref q1_55, .ref q2_56, .ref q3_57]))] := hD
  have hP9 := hP.sub (ws' := []) [] rfl
  have hD9 := hD.sub (ws' := []) [] (by decide) rfl
  subst hQ
  exact W.iret (v := 0) hx hb hr (fun t ht hW => qi_mk (by rw [ht]; exact ⟨rfl, hP9, hD9⟩) (hS.F ht)) hS.2.2 dX11_count_192
set_option maxHeartbeats 4000000 in
set_option maxRecDepth 100000 in
theorem c_X12_within_32 (l : Launch) (D : va_G) (cy : Nat → ClassId) (sz : Nat) : Met l yX12_within (Cond.code yX12_within cX12_within 3 (some .boolean) :: bigG) ({ frames := 0, cells := 0, slots := 0, locals := 0 }) (pre D cy [.int 12, .int 0, .int 12] sz []) (qi (fun r h => r = 1 ∧ va_P D vwCl [] h ∧ va_D (va_A [] sz) []) (va_A [] sz)) 0 0 (va_A [] sz) := by
  refine Met.ofW (cc := cX12_within) (maxL := 3) (ret := (some .boolean)) (by decide) rfl ?_
  intro p e s m args below meth c s₁ B hml hv
  obtain ⟨rfl, hsz, hP, hG, hD0⟩ := hv
  have hx := B.exec
  have hb := B.bytes
  have hr := B.returns
  have hts := atoms_spec (ws := (Cond.code yX12_within cX12_within 3 (some .boolean) :: bigG)) B.pre
  have hg : ∀ w ∈ bigG, w.before ([.int 12, .int 0, .int 12] : List Value).toArray s = true := fun w h => hts w (List.mem_cons_of_mem _ h)
  have hown : s.vm.findClass RX12 = some m.cls := findClass_of_methodNamed B.named
  have hlocks := B.notSynchronized
  subst hsz
  have hD := hD0.self (sz := s.heap.size)
  generalize hAe : va_A [] s.heap.size = A at hD ⊢
  have hA : ∀ q : Nat, s.heap.size ≤ q → A q := fun q h => by rw [← hAe]; exact Or.inr h
  have hS : va_S A s.heap s.heap [] := va_S.rf
  have hP : va_P D vwCl [] s.heap := hP
  have hl := lv_entry ([.int 12, .int 0, .int 12]) (n := 3) (Nat.le_of_ble_eq_true rfl)
  rw [lg_entry_eq]
  generalize (lg_sl ([.int 12, .int 0, .int 12]) ++ List.replicate (3 - (lg_sl ([.int 12, .int 0, .int 12])).length) Slot.unset).toArray = ls at hl ⊢
  have hl : lv_has ls 3 [(0, .int 12), (1, .int 0), (2, .int 12)] := hl
  refine w_nm (fun Q hQ => ?_)
  refine lv_iload_n hx hb dX12_within_0 rfl (lv_at hl 0 rfl) ?_
  refine lv_iload_n hx hb dX12_within_1 rfl (lv_at hl 1 rfl) ?_
  refine lv_icmp_lt (tgt := 14) hx hb dX12_within_2 (by decide) (fun c_ => absurd c_ (by decide)) (fun _ => ?_)
  refine lv_iload_n hx hb dX12_within_5 rfl (lv_at hl 0 rfl) ?_
  refine lv_iload_n hx hb dX12_within_6 rfl (lv_at hl 2 rfl) ?_
  refine lv_icmp_gt (tgt := 14) hx hb dX12_within_7 (by decide) (fun c_ => absurd c_ (by decide)) (fun _ => ?_)
  refine lv_iconst (v := 1) hx hb dX12_within_10 (by decide) ?_
  refine lv_goto (tgt := 15) hx hb dX12_within_11 (by decide) ?_
  have hP9 := hP.sub (ws' := []) [] rfl
  have hD9 := hD.sub (ws' := []) [] (by decide) rfl
  subst hQ
  exact W.zret (v := 1) hx hb hr rfl (fun t ht hW => qi_mk (by rw [ht]; exact ⟨rfl, hP9, hD9⟩) (hS.F ht)) hS.2.2 dX12_within_15
set_option maxHeartbeats 4000000 in
set_option maxRecDepth 100000 in
theorem c_X12_sum_4 (l : Launch) (D : va_G) (cy : Nat → ClassId) (q_700_36 : Nat) (sz : Nat) : Met l yX12_sum (Cond.code yX12_sum cX12_sum 4 (some .int) :: bigG) ({ frames := 0, cells := 0, slots := 0, locals := 0 }) (pre D cy [.ref q_700_36, .int 3] sz [(q_700_36, .inl (cy 1, 21, .inl (upd (upd (upd (upd (upd (upd (fun _ => 0) 9 (-1)) 10 (-1)) 11 (-1)) 12 (-1)) 13 (-1)) 14 (-1))))]) (qi (fun r h => r = 0 ∧ va_P D vwCl [(q_700_36, .inl (cy 1, 21, .inl (upd (upd (upd (upd (upd (upd (fun _ => 0) 9 (-1)) 10 (-1)) 11 (-1)) 12 (-1)) 13 (-1)) 14 (-1))))] h ∧ va_D (va_A [(q_700_36, .inl (cy 1, 21, .inl (upd (upd (upd (upd (upd (upd (fun _ => 0) 9 (-1)) 10 (-1)) 11 (-1)) 12 (-1)) 13 (-1)) 14 (-1))))] sz) [(q_700_36, .inl (cy 1, 21, .inl (upd (upd (upd (upd (upd (upd (fun _ => 0) 9 (-1)) 10 (-1)) 11 (-1)) 12 (-1)) 13 (-1)) 14 (-1))))]) (va_A [(q_700_36, .inl (cy 1, 21, .inl (upd (upd (upd (upd (upd (upd (fun _ => 0) 9 (-1)) 10 (-1)) 11 (-1)) 12 (-1)) 13 (-1)) 14 (-1))))] sz)) 0 0 (va_A [(q_700_36, .inl (cy 1, 21, .inl (upd (upd (upd (upd (upd (upd (fun _ => 0) 9 (-1)) 10 (-1)) 11 (-1)) 12 (-1)) 13 (-1)) 14 (-1))))] sz) := by
  refine Met.ofW (cc := cX12_sum) (maxL := 4) (ret := (some .int)) (by decide) rfl ?_
  intro p e s m args below meth c s₁ B hml hv
  obtain ⟨rfl, hsz, hP, hG, hD0⟩ := hv
  have hx := B.exec
  have hb := B.bytes
  have hr := B.returns
  have hts := atoms_spec (ws := (Cond.code yX12_sum cX12_sum 4 (some .int) :: bigG)) B.pre
  have hg : ∀ w ∈ bigG, w.before ([.ref q_700_36, .int 3] : List Value).toArray s = true := fun w h => hts w (List.mem_cons_of_mem _ h)
  have hown : s.vm.findClass RX12 = some m.cls := findClass_of_methodNamed B.named
  have hlocks := B.notSynchronized
  subst hsz
  have hD := hD0.self (sz := s.heap.size)
  generalize hAe : va_A [(q_700_36, .inl (cy 1, 21, .inl (upd (upd (upd (upd (upd (upd (fun _ => 0) 9 (-1)) 10 (-1)) 11 (-1)) 12 (-1)) 13 (-1)) 14 (-1))))] s.heap.size = A at hD ⊢
  have hA : ∀ q : Nat, s.heap.size ≤ q → A q := fun q h => by rw [← hAe]; exact Or.inr h
  have hS : va_S A s.heap s.heap [] := va_S.rf
  have hP : va_P D vwCl [(q_700_36, .inl (cy 1, 21, .inl (upd (upd (upd (upd (upd (upd (fun _ => 0) 9 (-1)) 10 (-1)) 11 (-1)) 12 (-1)) 13 (-1)) 14 (-1))))] s.heap := hP
  have hl := lv_entry ([.ref q_700_36, .int 3]) (n := 4) (Nat.le_of_ble_eq_true rfl)
  rw [lg_entry_eq]
  generalize (lg_sl ([.ref q_700_36, .int 3]) ++ List.replicate (4 - (lg_sl ([.ref q_700_36, .int 3])).length) Slot.unset).toArray = ls at hl ⊢
  have hl : lv_has ls 4 [(0, .ref q_700_36), (1, .int 3)] := hl
  refine w_nm (fun Q hQ => ?_)
  refine lv_iconst (v := 0) hx hb dX12_sum_0 (by decide) ?_
  refine lv_istore_n (lv' := [(2, .int 0), (0, .ref q_700_36), (1, .int 3)]) hx hb dX12_sum_1 rfl hl (by decide) rfl (fun ls hl => ?_)
  refine lv_iload_n hx hb dX12_sum_2 rfl (lv_at hl 2 rfl) ?_
  refine lv_istore_n (lv' := [(3, .int 3), (2, .int 0), (0, .ref q_700_36), (1, .int 3)]) hx hb dX12_sum_3 rfl hl (by decide) rfl (fun ls hl => ?_)
  refine lv_iload_n hx hb dX12_sum_4 rfl (lv_at hl 0 rfl) ?_
  refine lv_iload_n hx hb dX12_sum_5 rfl (lv_at hl 3 rfl) ?_
  refine lv_bipush (v := 6) hx hb dX12_sum_6 (by decide) ?_
  refine m_iadd (v := 9) hx hb dX12_sum_8 (by decide) ?_
  refine lv_icmp_ge (tgt := 24) hx hb dX12_sum_9 (by decide) (fun c_ => absurd c_ (by decide)) (fun _ => ?_)
  refine lv_iload_n hx hb dX12_sum_12 rfl (lv_at hl 1 rfl) ?_
  refine lv_aload_n hx hb dX12_sum_13 rfl (lv_at hl 2 rfl) ?_
  refine lv_iload_n hx hb dX12_sum_14 rfl (lv_at hl 0 rfl) ?_
  refine m_iald (v := 0) hx hb hG hP 0 rfl (vin (by decide)) dX12_sum_15 rfl ?_
  refine m_iadd (v := 0) hx hb dX12_sum_16 (by decide) ?_
  refine lv_istore_n (lv' := [(2, .int 0), (3, .int 3), (0, .ref q_700_36), (1, .int 3)]) hx hb dX12_sum_17 rfl hl (by decide) rfl (fun ls hl => ?_)
  refine lv_iinc (v := 4) (lv' := [(3, .int 4), (2, .int 0), (0, .ref q_700_36), (1, .int 3)]) hx hb dX12_sum_18 hl (k := 1) rfl (by decide) (by decide) rfl (fun ls hl => ?_)
  refine lv_goto (tgt := 4) hx hb dX12_sum_21 (by decide) ?_
  refine lv_iload_n hx hb dX12_sum_4 rfl (lv_at hl 0 rfl) ?_
  refine lv_iload_n hx hb dX12_sum_5 rfl (lv_at hl 3 rfl) ?_
  refine lv_bipush (v := 6) hx hb dX12_sum_6 (by decide) ?_
  refine m_iadd (v := 9) hx hb dX12_sum_8 (by decide) ?_
  refine lv_icmp_ge (tgt := 24) hx hb dX12_sum_9 (by decide) (fun c_ => absurd c_ (by decide)) (fun _ => ?_)
  refine lv_iload_n hx hb dX12_sum_12 rfl (lv_at hl 1 rfl) ?_
  refine lv_aload_n hx hb dX12_sum_13 rfl (lv_at hl 2 rfl) ?_
  refine lv_iload_n hx hb dX12_sum_14 rfl (lv_at hl 0 rfl) ?_
  refine m_iald (v := 0) hx hb hG hP 0 rfl (vin (by decide)) dX12_sum_15 rfl ?_
  refine m_iadd (v := 0) hx hb dX12_sum_16 (by decide) ?_
  refine lv_istore_n (lv' := [(2, .int 0), (3, .int 4), (0, .ref q_700_36), (1, .int 3)]) hx hb dX12_sum_17 rfl hl (by decide) rfl (fun ls hl => ?_)
  refine lv_iinc (v := 5) (lv' := [(3, .int 5), (2, .int 0), (0, .ref q_700_36), (1, .int 3)]) hx hb dX12_sum_18 hl (k := 1) rfl (by decide) (by decide) rfl (fun ls hl => ?_)
  refine lv_goto (tgt := 4) hx hb dX12_sum_21 (by decide) ?_
  refine lv_iload_n hx hb dX12_sum_4 rfl (lv_at hl 0 rfl) ?_
  refine lv_iload_n hx hb dX12_sum_5 rfl (lv_at hl 3 rfl) ?_
  refine lv_bipush (v := 6) hx hb dX12_sum_6 (by decide) ?_
  refine m_iadd (v := 9) hx hb dX12_sum_8 (by decide) ?_
  refine lv_icmp_ge (tgt := 24) hx hb dX12_sum_9 (by decide) (fun c_ => absurd c_ (by decide)) (fun _ => ?_)
  refine lv_iload_n hx hb dX12_sum_12 rfl (lv_at hl 1 rfl) ?_
  refine lv_aload_n hx hb dX12_sum_13 rfl (lv_at hl 2 rfl) ?_
  refine lv_iload_n hx hb dX12_sum_14 rfl (lv_at hl 0 rfl) ?_
  refine m_iald (v := 0) hx hb hG hP 0 rfl (vin (by decide)) dX12_sum_15 rfl ?_
  refine m_iadd (v := 0) hx hb dX12_sum_16 (by decide) ?_
  refine lv_istore_n (lv' := [(2, .int 0), (3, .int 5), (0, .ref q_700_36), (1, .int 3)]) hx hb dX12_sum_17 rfl hl (by decide) rfl (fun ls hl => ?_)
  refine lv_iinc (v := 6) (lv' := [(3, .int 6), (2, .int 0), (0, .ref q_700_36), (1, .int 3)]) hx hb dX12_sum_18 hl (k := 1) rfl (by decide) (by decide) rfl (fun ls hl => ?_)
  refine lv_goto (tgt := 4) hx hb dX12_sum_21 (by decide) ?_
  refine lv_iload_n hx hb dX12_sum_4 rfl (lv_at hl 0 rfl) ?_
  refine lv_iload_n hx hb dX12_sum_5 rfl (lv_at hl 3 rfl) ?_
  refine lv_bipush (v := 6) hx hb dX12_sum_6 (by decide) ?_
  refine m_iadd (v := 9) hx hb dX12_sum_8 (by decide) ?_
  refine lv_icmp_ge (tgt := 24) hx hb dX12_sum_9 (by decide) (fun c_ => absurd c_ (by decide)) (fun _ => ?_)
  refine lv_iload_n hx hb dX12_sum_12 rfl (lv_at hl 1 rfl) ?_
  refine lv_aload_n hx hb dX12_sum_13 rfl (lv_at hl 2 rfl) ?_
  refine lv_iload_n hx hb dX12_sum_14 rfl (lv_at hl 0 rfl) ?_
  refine m_iald (v := 0) hx hb hG hP 0 rfl (vin (by decide)) dX12_sum_15 rfl ?_
  refine m_iadd (v := 0) hx hb dX12_sum_16 (by decide) ?_
  refine lv_istore_n (lv' := [(2, .int 0), (3, .int 6), (0, .ref q_700_36), (1, .int 3)]) hx hb dX12_sum_17 rfl hl (by decide) rfl (fun ls hl => ?_)
  refine lv_iinc (v := 7) (lv' := [(3, .int 7), (2, .int 0), (0, .ref q_700_36), (1, .int 3)]) hx hb dX12_sum_18 hl (k := 1) rfl (by decide) (by decide) rfl (fun ls hl => ?_)
  refine lv_goto (tgt := 4) hx hb dX12_sum_21 (by decide) ?_
  refine lv_iload_n hx hb dX12_sum_4 rfl (lv_at hl 0 rfl) ?_
  refine lv_iload_n hx hb dX12_sum_5 rfl (lv_at hl 3 rfl) ?_
  refine lv_bipush (v := 6) hx hb dX12_sum_6 (by decide) ?_
  refine m_iadd (v := 9) hx hb dX12_sum_8 (by decide) ?_
  refine lv_icmp_ge (tgt := 24) hx hb dX12_sum_9 (by decide) (fun c_ => absurd c_ (by decide)) (fun _ => ?_)
  refine lv_iload_n hx hb dX12_sum_12 rfl (lv_at hl 1 rfl) ?_
  refine lv_aload_n hx hb dX12_sum_13 rfl (lv_at hl 2 rfl) ?_
  refine lv_iload_n hx hb dX12_sum_14 rfl (lv_at hl 0 rfl) ?_
  refine m_iald (v := 0) hx hb hG hP 0 rfl (vin (by decide)) dX12_sum_15 rfl ?_
  refine m_iadd (v := 0) hx hb dX12_sum_16 (by decide) ?_
  refine lv_istore_n (lv' := [(2, .int 0), (3, .int 7), (0, .ref q_700_36), (1, .int 3)]) hx hb dX12_sum_17 rfl hl (by decide) rfl (fun ls hl => ?_)
  refine lv_iinc (v := 8) (lv' := [(3, .int 8), (2, .int 0), (0, .ref q_700_36), (1, .int 3)]) hx hb dX12_sum_18 hl (k := 1) rfl (by decide) (by decide) rfl (fun ls hl => ?_)
  refine lv_goto (tgt := 4) hx hb dX12_sum_21 (by decide) ?_
  refine lv_iload_n hx hb dX12_sum_4 rfl (lv_at hl 0 rfl) ?_
  refine lv_iload_n hx hb dX12_sum_5 rfl (lv_at hl 3 rfl) ?_
  refine lv_bipush (v := 6) hx hb dX12_sum_6 (by decide) ?_
  refine m_iadd (v := 9) hx hb dX12_sum_8 (by decide) ?_
  refine lv_icmp_ge (tgt := 24) hx hb dX12_sum_9 (by decide) (fun c_ => absurd c_ (by decide)) (fun _ => ?_)
  refine lv_iload_n hx hb dX12_sum_12 rfl (lv_at hl 1 rfl) ?_
  refine lv_aload_n hx hb dX12_sum_13 rfl (lv_at hl 2 rfl) ?_
  refine lv_iload_n hx hb dX12_sum_14 rfl (lv_at hl 0 rfl) ?_
  refine m_iald (v := 0) hx hb hG hP 0 rfl (vin (by decide)) dX12_sum_15 rfl ?_
  refine m_iadd (v := 0) hx hb dX12_sum_16 (by decide) ?_
  refine lv_istore_n (lv' := [(2, .int 0), (3, .int 8), (0, .ref q_700_36), (1, .int 3)]) hx hb dX12_sum_17 rfl hl (by decide) rfl (fun ls hl => ?_)
  refine lv_iinc (v := 9) (lv' := [(3, .int 9), (2, .int 0), (0, .ref q_700_36), (1, .int 3)]) hx hb dX12_sum_18 hl (k := 1) rfl (by decide) (by decide) rfl (fun ls hl => ?_)
  refine lv_goto (tgt := 4) hx hb dX12_sum_21 (by decide) ?_
  refine lv_iload_n hx hb dX12_sum_4 rfl (lv_at hl 0 rfl) ?_
  refine lv_iload_n hx hb dX12_sum_5 rfl (lv_at hl 3 rfl) ?_
  refine lv_bipush (v := 6) hx hb dX12_sum_6 (by decide) ?_
  refine m_iadd (v := 9) hx hb dX12_sum_8 (by decide) ?_
  refine lv_icmp_ge (tgt := 24) hx hb dX12_sum_9 (by decide) (fun _ => ?_) (fun c_ => absurd (by decide) c_)
  refine lv_iload_n hx hb dX12_sum_24 rfl (lv_at hl 1 rfl) ?_
  have hP9 := hP.sub (ws' := [(q_700_36, .inl (cy 1, 21, .inl (upd (upd (upd (upd (upd (upd (fun _ => 0) 9 (-1)) 10 (-1)) 11 (-1)) 12 (-1)) 13 (-1)) 14 (-1))))]) [0] rfl
  have hD9 := hD.sub (ws' := [(q_700_36, .inl (cy 1, 21, .inl (upd (upd (upd (upd (upd (upd (fun _ => 0) 9 (-1)) 10 (-1)) 11 (-1)) 12 (-1)) 13 (-1)) 14 (-1))))]) [0] (by decide) rfl
  subst hQ
  exact W.iret (v := 0) hx hb hr (fun t ht hW => qi_mk (by rw [ht]; exact ⟨rfl, hP9, hD9⟩) (hS.F ht)) hS.2.2 dX12_sum_25
set_option maxHeartbeats 4000000 in
set_option maxRecDepth 100000 in
theorem c_X12_count_13 (l : Launch) (D : va_G) (cy : Nat → ClassId) (h_2 : Nat) (q_700_1 : Nat) (q_700_2 : Nat) (q_700_3 : Nat) (q_700_4 : Nat) (q_700_5 : Nat) (q_700_6 : Nat) (q_700_7 : Nat) (q_700_8 : Nat) (q_700_9 : Nat) (q_700_10 : Nat) (q_700_11 : Nat) (q_700_12 : Nat) (q_700_13 : Nat) (q_700_14 : Nat) (q_700_15 : Nat) (q_700_16 : Nat) (q_700_17 : Nat) (q_700_18 : Nat) (q_700_19 : Nat) (q_700_20 : Nat) (q_700_21 : Nat) (q_700_22 : Nat) (q_700_23 : Nat) (q_700_24 : Nat) (q_700_25 : Nat) (q_700_26 : Nat) (q_700_27 : Nat) (q_700_28 : Nat) (q_700_29 : Nat) (q_700_30 : Nat) (q_700_31 : Nat) (q_700_32 : Nat) (q_700_33 : Nat) (q_700_34 : Nat) (q_700_35 : Nat) (q_700_36 : Nat) (q_700_37 : Nat) (q_700_38 : Nat) (q_700_39 : Nat) (q_700_40 : Nat) (q_700_41 : Nat) (q_700_42 : Nat) (q_700_43 : Nat) (q_700_44 : Nat) (q_700_45 : Nat) (q_700_46 : Nat) (q_700_47 : Nat) (sz : Nat) : Met l yX12_count (Cond.code yX12_count cX12_count 2 (some .int) :: bigG) ({ frames := 1, cells := 0, slots := 0, locals := 23 }) (pre D cy [.ref h_2, .int 12] sz [(h_2, .inr (12, [.int 0, .int 0, .ref q_700_1, .int 0, .int 0, .int 0, .int 0, .long 0, .int 0, .int 0, .ref q_700_2, .ref q_700_3, .ref q_700_4, .ref q_700_5, .ref q_700_6, .ref q_700_7, .ref q_700_8, .ref q_700_9, .ref q_700_10, .ref q_700_11, .ref q_700_12, .ref q_700_13, .ref q_700_14, .ref q_700_15, .ref q_700_16, .ref q_700_17, .int 0, .int 0, .ref q_700_18, .ref q_700_19, .ref q_700_20, .ref q_700_21, .ref q_700_22, .ref q_700_23, .ref q_700_24, .ref q_700_25, .ref q_700_26, .ref q_700_27, .ref q_700_28, .ref q_700_29, .int 0, .long 0, .ref q_700_30, .ref q_700_31, .ref q_700_32, .ref q_700_33, .ref q_700_34, .ref q_700_35, .ref q_700_36, .ref q_700_37, .ref q_700_38, .ref q_700_39, .ref q_700_40, .ref q_700_41, .int 0, .int 0, .int 0, .int 0, .ref q_700_42, .ref q_700_43, .ref q_700_44, .ref q_700_45, .int 0, .ref q_700_46, .ref q_700_47, .int 0, .long 0])), (q_700_36, .inl (cy 1, 21, .inl (upd (upd (upd (upd (upd (upd (fun _ => 0) 9 (-1)) 10 (-1)) 11 (-1)) 12 (-1)) 13 (-1)) 14 (-1))))]) (qi (fun r h => r = 0 ∧ va_P D vwCl [] h ∧ va_D (va_A [(h_2, .inr (12, [.int 0, .int 0, .ref q_700_1, .int 0, .int 0, .int 0, .int 0, .long 0, .int 0, .int 0, .ref q_700_2, .ref q_700_3, .ref q_700_4, .ref q_700_5, .ref q_700_6, .ref q_700_7, .ref q_700_8, .ref q_700_9, .ref q_700_10, .ref q_700_11, .ref q_700_12, .ref q_700_13, .ref q_700_14, .ref q_700_15, .ref q_700_16, .ref q_700_17, .int 0, .int 0, .ref q_700_18, .ref q_700_19, .ref q_700_20, .ref q_700_21, .ref q_700_22, .ref q_700_23, .ref q_700_24, .ref q_700_25, .ref q_700_26, .ref q_700_27, .ref q_700_28, .ref q_700_29, .int 0, .long 0, .ref q_700_30, .ref q_700_31, .ref q_700_32, .ref q_700_33, .ref q_700_34, .ref q_700_35, .ref q_700_36, .ref q_700_37, .ref q_700_38, .ref q_700_39, .ref q_700_40, .ref q_700_41, .int 0, .int 0, .int 0, .int 0, .ref q_700_42, .ref q_700_43, .ref q_700_44, .ref q_700_45, .int 0, .ref q_700_46, .ref q_700_47, .int 0, .long 0])), (q_700_36, .inl (cy 1, 21, .inl (upd (upd (upd (upd (upd (upd (fun _ => 0) 9 (-1)) 10 (-1)) 11 (-1)) 12 (-1)) 13 (-1)) 14 (-1))))] sz) []) (va_A [(h_2, .inr (12, [.int 0, .int 0, .ref q_700_1, .int 0, .int 0, .int 0, .int 0, .long 0, .int 0, .int 0, .ref q_700_2, .ref q_700_3, .ref q_700_4, .ref q_700_5, .ref q_700_6, .ref q_700_7, .ref q_700_8, .ref q_700_9, .ref q_700_10, .ref q_700_11, .ref q_700_12, .ref q_700_13, .ref q_700_14, .ref q_700_15, .ref q_700_16, .ref q_700_17, .int 0, .int 0, .ref q_700_18, .ref q_700_19, .ref q_700_20, .ref q_700_21, .ref q_700_22, .ref q_700_23, .ref q_700_24, .ref q_700_25, .ref q_700_26, .ref q_700_27, .ref q_700_28, .ref q_700_29, .int 0, .long 0, .ref q_700_30, .ref q_700_31, .ref q_700_32, .ref q_700_33, .ref q_700_34, .ref q_700_35, .ref q_700_36, .ref q_700_37, .ref q_700_38, .ref q_700_39, .ref q_700_40, .ref q_700_41, .int 0, .int 0, .int 0, .int 0, .ref q_700_42, .ref q_700_43, .ref q_700_44, .ref q_700_45, .int 0, .ref q_700_46, .ref q_700_47, .int 0, .long 0])), (q_700_36, .inl (cy 1, 21, .inl (upd (upd (upd (upd (upd (upd (fun _ => 0) 9 (-1)) 10 (-1)) 11 (-1)) 12 (-1)) 13 (-1)) 14 (-1))))] sz)) 0 0 (va_A [(h_2, .inr (12, [.int 0, .int 0, .ref q_700_1, .int 0, .int 0, .int 0, .int 0, .long 0, .int 0, .int 0, .ref q_700_2, .ref q_700_3, .ref q_700_4, .ref q_700_5, .ref q_700_6, .ref q_700_7, .ref q_700_8, .ref q_700_9, .ref q_700_10, .ref q_700_11, .ref q_700_12, .ref q_700_13, .ref q_700_14, .ref q_700_15, .ref q_700_16, .ref q_700_17, .int 0, .int 0, .ref q_700_18, .ref q_700_19, .ref q_700_20, .ref q_700_21, .ref q_700_22, .ref q_700_23, .ref q_700_24, .ref q_700_25, .ref q_700_26, .ref q_700_27, .ref q_700_28, .ref q_700_29, .int 0, .long 0, .ref q_700_30, .ref q_700_31, .ref q_700_32, .ref q_700_33, .ref q_700_34, .ref q_700_35, .ref q_700_36, .ref q_700_37, .ref q_700_38, .ref q_700_39, .ref q_700_40, .ref q_700_41, .int 0, .int 0, .int 0, .int 0, .ref q_700_42, .ref q_700_43, .ref q_700_44, .ref q_700_45, .int 0, .ref q_700_46, .ref q_700_47, .int 0, .long 0])), (q_700_36, .inl (cy 1, 21, .inl (upd (upd (upd (upd (upd (upd (fun _ => 0) 9 (-1)) 10 (-1)) 11 (-1)) 12 (-1)) 13 (-1)) 14 (-1))))] sz) := by
  refine Met.ofW (cc := cX12_count) (maxL := 2) (ret := (some .int)) (by decide) rfl ?_
  intro p e s m args below meth c s₁ B hml hv
  obtain ⟨rfl, hsz, hP, hG, hD0⟩ := hv
  have hx := B.exec
  have hb := B.bytes
  have hr := B.returns
  have hts := atoms_spec (ws := (Cond.code yX12_count cX12_count 2 (some .int) :: bigG)) B.pre
  have hg : ∀ w ∈ bigG, w.before ([.ref h_2, .int 12] : List Value).toArray s = true := fun w h => hts w (List.mem_cons_of_mem _ h)
  have hown : s.vm.findClass RX12 = some m.cls := findClass_of_methodNamed B.named
  have hlocks := B.notSynchronized
  subst hsz
  have hD := hD0.self (sz := s.heap.size)
  generalize hAe : va_A [(h_2, .inr (12, [.int 0, .int 0, .ref q_700_1, .int 0, .int 0, .int 0, .int 0, .long 0, .int 0, .int 0, .ref q_700_2, .ref q_700_3, .ref q_700_4, .ref q_700_5, .ref q_700_6, .ref q_700_7, .ref q_700_8, .ref q_700_9, .ref q_700_10, .ref q_700_11, .ref q_700_12, .ref q_700_13, .ref q_700_14, .ref q_700_15, .ref q_700_16, .ref q_700_17, .int 0, .int 0, .ref q_700_18, .ref q_700_19, .ref q_700_20, .ref q_700_21, .ref q_700_22, .ref q_700_23, .ref q_700_24, .ref q_700_25, .ref q_700_26, .ref q_700_27, .ref q_700_28, .ref q_700_29, .int 0, .long 0, .ref q_700_30, .ref q_700_31, .ref q_700_32, .ref q_700_33, .ref q_700_34, .ref q_700_35, .ref q_700_36, .ref q_700_37, .ref q_700_38, .ref q_700_39, .ref q_700_40, .ref q_700_41, .int 0, .int 0, .int 0, .int 0, .ref q_700_42, .ref q_700_43, .ref q_700_44, .ref q_700_45, .int 0, .ref q_700_46, .ref q_700_47, .int 0, .long 0])), (q_700_36, .inl (cy 1, 21, .inl (upd (upd (upd (upd (upd (upd (fun _ => 0) 9 (-1)) 10 (-1)) 11 (-1)) 12 (-1)) 13 (-1)) 14 (-1))))] s.heap.size = A at hD ⊢
  have hA : ∀ q : Nat, s.heap.size ≤ q → A q := fun q h => by rw [← hAe]; exact Or.inr h
  have hS : va_S A s.heap s.heap [] := va_S.rf
  have hP : va_P D vwCl [(h_2, .inr (12, [.int 0, .int 0, .ref q_700_1, .int 0, .int 0, .int 0, .int 0, .long 0, .int 0, .int 0, .ref q_700_2, .ref q_700_3, .ref q_700_4, .ref q_700_5, .ref q_700_6, .ref q_700_7, .ref q_700_8, .ref q_700_9, .ref q_700_10, .ref q_700_11, .ref q_700_12, .ref q_700_13, .ref q_700_14, .ref q_700_15, .ref q_700_16, .ref q_700_17, .int 0, .int 0, .ref q_700_18, .ref q_700_19, .ref q_700_20, .ref q_700_21, .ref q_700_22, .ref q_700_23, .ref q_700_24, .ref q_700_25, .ref q_700_26, .ref q_700_27, .ref q_700_28, .ref q_700_29, .int 0, .long 0, .ref q_700_30, .ref q_700_31, .ref q_700_32, .ref q_700_33, .ref q_700_34, .ref q_700_35, .ref q_700_36, .ref q_700_37, .ref q_700_38, .ref q_700_39, .ref q_700_40, .ref q_700_41, .int 0, .int 0, .int 0, .int 0, .ref q_700_42, .ref q_700_43, .ref q_700_44, .ref q_700_45, .int 0, .ref q_700_46, .ref q_700_47, .int 0, .long 0])), (q_700_36, .inl (cy 1, 21, .inl (upd (upd (upd (upd (upd (upd (fun _ => 0) 9 (-1)) 10 (-1)) 11 (-1)) 12 (-1)) 13 (-1)) 14 (-1))))] s.heap := hP
  have hl := lv_entry ([.ref h_2, .int 12]) (n := 2) (Nat.le_of_ble_eq_true rfl)
  rw [lg_entry_eq]
  generalize (lg_sl ([.ref h_2, .int 12]) ++ List.replicate (2 - (lg_sl ([.ref h_2, .int 12])).length) Slot.unset).toArray = ls at hl ⊢
  have hl : lv_has ls 2 [(0, .ref h_2), (1, .int 12)] := hl
  refine w_nm (fun Q hQ => ?_)
  refine lv_aload_n hx hb dX12_count_0 rfl (lv_at hl 0 rfl) ?_
  refine lv_iconst (v := 0) hx hb dX12_count_1 (by decide) ?_
  refine va_put (D := D) (ci := 12) (v := .int 0) (ty := .int) (C := RX12) (T := TX12) (N := 67) hx hb hts (inC ibX12) tyX12 tyX12_ok nmX12 hown hG.1 hP hD hS 0 rfl rfl 0 (by decide) (hg _ k_1315) (fun _ h9 => h9) rfl (by decide +kernel) rfl rfl (Nat.le_of_ble_eq_true rfl) dX12_count_2 (fun H locs hP hD hS => ?_)
  have hP : va_P D vwCl [(h_2, .inr (12, [.int 0, .int 0, .ref q_700_1, .int 0, .int 0, .int 0, .int 0, .long 0, .int 0, .int 0, .ref q_700_2, .ref q_700_3, .ref q_700_4, .ref q_700_5, .ref q_700_6, .ref q_700_7, .ref q_700_8, .ref q_700_9, .ref q_700_10, .ref q_700_11, .ref q_700_12, .ref q_700_13, .ref q_700_14, .ref q_700_15, .ref q_700_16, .ref q_700_17, .int 0, .int 0, .ref q_700_18, .ref q_700_19, .ref q_700_20, .ref q_700_21, .ref q_700_22, .ref q_700_23, .ref q_700_24, .ref q_700_25, .ref q_700_26, .ref q_700_27, .ref q_700_28, .ref q_700_29, .int 0, .long 0, .ref q_700_30, .ref q_700_31, .ref q_700_32, .ref q_700_33, .ref q_700_34, .ref q_700_35, .ref q_700_36, .ref q_700_37, .ref q_700_38, .ref q_700_39, .ref q_700_40, .ref q_700_41, .int 0, .int 0, .int 0, .int 0, .ref q_700_42, .ref q_700_43, .ref q_700_44, .ref q_700_45, .int 0, .ref q_700_46, .ref q_700_47, .int 0, .long 0])), (q_700_36, .inl (cy 1, 21, .inl (upd (upd (upd (upd (upd (upd (fun _ => 0) 9 (-1)) 10 (-1)) 11 (-1)) 12 (-1)) 13 (-1)) 14 (-1))))] H := hP
  have hD : va_D A [(h_2, .inr (12, [.int 0, .int 0, .ref q_700_1, .int 0, .int 0, .int 0, .int 0, .long 0, .int 0, .int 0, .ref q_700_2, .ref q_700_3, .ref q_700_4, .ref q_700_5, .ref q_700_6, .ref q_700_7, .ref q_700_8, .ref q_700_9, .ref q_700_10, .ref q_700_11, .ref q_700_12, .ref q_700_13, .ref q_700_14, .ref q_700_15, .ref q_700_16, .ref q_700_17, .int 0, .int 0, .ref q_700_18, .ref q_700_19, .ref q_700_20, .ref q_700_21, .ref q_700_22, .ref q_700_23, .ref q_700_24, .ref q_700_25, .ref q_700_26, .ref q_700_27, .ref q_700_28, .ref q_700_29, .int 0, .long 0, .ref q_700_30, .ref q_700_31, .ref q_700_32, .ref q_700_33, .ref q_700_34, .ref q_700_35, .ref q_700_36, .ref q_700_37, .ref q_700_38, .ref q_700_39, .ref q_700_40, .ref q_700_41, .int 0, .int 0, .int 0, .int 0, .ref q_700_42, .ref q_700_43, .ref q_700_44, .ref q_700_45, .int 0, .ref q_700_46, .ref q_700_47, .int 0, .long 0])), (q_700_36, .inl (cy 1, 21, .inl (upd (upd (upd (upd (upd (upd (fun _ => 0) 9 (-1)) 10 (-1)) 11 (-1)) 12 (-1)) 13 (-1)) 14 (-1))))] := hD
  refine lv_iload_n hx hb dX12_count_5 rfl (lv_at hl 1 rfl) ?_
  refine lv_iconst (v := 0) hx hb dX12_count_6 (by decide) ?_
  refine lv_bipush (v := 12) hx hb dX12_count_7 (by decide) ?_
  refine x_i (wr := [(h_2, .inr (12, [.int 0, .int 0, .ref q_700_1, .int 0, .int 0, .int 0, .int 0, .long 0, .int 0, .int 0, .ref q_700_2, .ref q_700_3, .ref q_700_4, .ref q_700_5, .ref q_700_6, .ref q_700_7, .ref q_700_8, .ref q_700_9, .ref q_700_10, .ref q_700_11, .ref q_700_12, .ref q_700_13, .ref q_700_14, .ref q_700_15, .ref q_700_16, .ref q_700_17, .int 0, .int 0, .ref q_700_18, .ref q_700_19, .ref q_700_20, .ref q_700_21, .ref q_700_22, .ref q_700_23, .ref q_700_24, .ref q_700_25, .ref q_700_26, .ref q_700_27, .ref q_700_28, .ref q_700_29, .int 0, .long 0, .ref q_700_30, .ref q_700_31, .ref q_700_32, .ref q_700_33, .ref q_700_34, .ref q_700_35, .ref q_700_36, .ref q_700_37, .ref q_700_38, .ref q_700_39, .ref q_700_40, .ref q_700_41, .int 0, .int 0, .int 0, .int 0, .ref q_700_42, .ref q_700_43, .ref q_700_44, .ref q_700_45, .int 0, .ref q_700_46, .ref q_700_47, .int 0, .long 0])), (q_700_36, .inl (cy 1, 21, .inl (upd (upd (upd (upd (upd (upd (fun _ => 0) 9 (-1)) 10 (-1)) 11 (-1)) 12 (-1)) 13 (-1)) 14 (-1))))]) hP hD hS hA [] [0, 1] rfl rfl (by decide) (by decide) (va_runS (As := [.int 12, .int 0, .int 12]) (rest := []) ⟨hx, hb, hml, hown, hts⟩ (c_X12_within_32 l D cy  H.size) (va_cwS 3 hts (gS km_X12_293 kt_X12_within kn_X12 kc_X12_within) rfl rfl rfl (by decide +kernel) ⟨(Nat.le_of_ble_eq_true rfl), (Nat.le_of_ble_eq_true rfl)⟩) (preS hG hP hD [] rfl (by decide)) rfl rfl hl.1 rfl (lv_room (Nat.le_of_ble_eq_true rfl)) dX12_count_9 ⟨(Nat.le_of_ble_eq_true rfl), (Nat.le_of_ble_eq_true rfl)⟩) (fun r_1 H locs hB hj hS => ?_)
  obtain ⟨hres, hP1, hD1⟩ := hB
  subst hres
  obtain ⟨hP, hD⟩ := hj _ hP1 hD1
  have hP : va_P D vwCl [(h_2, .inr (12, [.int 0, .int 0, .ref q_700_1, .int 0, .int 0, .int 0, .int 0, .long 0, .int 0, .int 0, .ref q_700_2, .ref q_700_3, .ref q_700_4, .ref q_700_5, .ref q_700_6, .ref q_700_7, .ref q_700_8, .ref q_700_9, .ref q_700_10, .ref q_700_11, .ref q_700_12, .ref q_700_13, .ref q_700_14, .ref q_700_15, .ref q_700_16, .ref q_700_17, .int 0, .int 0, .ref q_700_18, .ref q_700_19, .ref q_700_20, .ref q_700_21, .ref q_700_22, .ref q_700_23, .ref q_700_24, .ref q_700_25, .ref q_700_26, .ref q_700_27, .ref q_700_28, .ref q_700_29, .int 0, .long 0, .ref q_700_30, .ref q_700_31, .ref q_700_32, .ref q_700_33, .ref q_700_34, .ref q_700_35, .ref q_700_36, .ref q_700_37, .ref q_700_38, .ref q_700_39, .ref q_700_40, .ref q_700_41, .int 0, .int 0, .int 0, .int 0, .ref q_700_42, .ref q_700_43, .ref q_700_44, .ref q_700_45, .int 0, .ref q_700_46, .ref q_700_47, .int 0, .long 0])), (q_700_36, .inl (cy 1, 21, .inl (upd (upd (upd (upd (upd (upd (fun _ => 0) 9 (-1)) 10 (-1)) 11 (-1)) 12 (-1)) 13 (-1)) 14 (-1))))] H := hP
  have hD : va_D A [(h_2, .inr (12, [.int 0, .int 0, .ref q_700_1, .int 0, .int 0, .int 0, .int 0, .long 0, .int 0, .int 0, .ref q_700_2, .ref q_700_3, .ref q_700_4, .ref q_700_5, .ref q_700_6, .ref q_700_7, .ref q_700_8, .ref q_700_9, .ref q_700_10, .ref q_700_11, .ref q_700_12, .ref q_700_13, .ref q_700_14, .ref q_700_15, .ref q_700_16, .ref q_700_17, .int 0, .int 0, .ref q_700_18, .ref q_700_19, .ref q_700_20, .ref q_700_21, .ref q_700_22, .ref q_700_23, .ref q_700_24, .ref q_700_25, .ref q_700_26, .ref q_700_27, .ref q_700_28, .ref q_700_29, .int 0, .long 0, .ref q_700_30, .ref q_700_31, .ref q_700_32, .ref q_700_33, .ref q_700_34, .ref q_700_35, .ref q_700_36, .ref q_700_37, .ref q_700_38, .ref q_700_39, .ref q_700_40, .ref q_700_41, .int 0, .int 0, .int 0, .int 0, .ref q_700_42, .ref q_700_43, .ref q_700_44, .ref q_700_45, .int 0, .ref q_700_46, .ref q_700_47, .int 0, .long 0])), (q_700_36, .inl (cy 1, 21, .inl (upd (upd (upd (upd (upd (upd (fun _ => 0) 9 (-1)) 10 (-1)) 11 (-1)) 12 (-1)) 13 (-1)) 14 (-1))))] := hD
  refine lv_if_ne (tgt := 17) hx hb dX12_count_12 (by decide) (fun _ => ?_) (fun c_ => absurd c_ (by decide))
  refine lv_iload_n hx hb dX12_count_17 rfl (lv_at hl 1 rfl) ?_
  refine lv_iconst (v := 3) hx hb dX12_count_18 (by decide) ?_
  refine lv_icmp_ge (tgt := 29) hx hb dX12_count_19 (by decide) (fun _ => ?_) (fun c_ => absurd (by decide) c_)
  refine lv_iload_n hx hb dX12_count_29 rfl (lv_at hl 1 rfl) ?_
  refine lv_bipush (v := 6) hx hb dX12_count_30 (by decide) ?_
  refine lv_icmp_ge (tgt := 68) hx hb dX12_count_32 (by decide) (fun _ => ?_) (fun c_ => absurd (by decide) c_)
  refine lv_iload_n hx hb dX12_count_68 rfl (lv_at hl 1 rfl) ?_
  refine lv_bipush (v := 8) hx hb dX12_count_69 (by decide) ?_
  refine lv_icmp_ge (tgt := 99) hx hb dX12_count_71 (by decide) (fun _ => ?_) (fun c_ => absurd (by decide) c_)
  refine lv_iload_n hx hb dX12_count_99 rfl (lv_at hl 1 rfl) ?_
  refine lv_bipush (v := 10) hx hb dX12_count_100 (by decide) ?_
  refine lv_icmp_ge (tgt := 125) hx hb dX12_count_102 (by decide) (fun _ => ?_) (fun c_ => absurd (by decide) c_)
  refine lv_iload_n hx hb dX12_count_125 rfl (lv_at hl 1 rfl) ?_
  refine lv_bipush (v := 10) hx hb dX12_count_126 (by decide) ?_
  refine lv_icmp_ne (tgt := 138) hx hb dX12_count_128 (by decide) (fun _ => ?_) (fun c_ => absurd c_ (by decide))
  refine lv_iload_n hx hb dX12_count_138 rfl (lv_at hl 1 rfl) ?_
  refine lv_bipush (v := 11) hx hb dX12_count_139 (by decide) ?_
  refine lv_icmp_ne (tgt := 151) hx hb dX12_count_141 (by decide) (fun _ => ?_) (fun c_ => absurd c_ (by decide))
  refine lv_aload_n hx hb dX12_count_151 rfl (lv_at hl 0 rfl) ?_
  refine va_get (D := D) (ci := 12) (v := .ref q_700_36) (C := RX12) (T := TX12) (N := 67) hx hb hts (inC ibX12) hown hG.1 hP 0 rfl rfl 48 (by decide) (hg _ k_1363) (fun _ h9 => h9) rfl dX12_count_152 ?_
  refine lv_iconst (v := 3) hx hb dX12_count_155 (by decide) ?_
  refine x_i (wr := [(h_2, .inr (12, [.int 0, .int 0, .ref q_700_1, .int 0, .int 0, .int 0, .int 0, .long 0, .int 0, .int 0, .ref q_700_2, .ref q_700_3, .ref q_700_4, .ref q_700_5, .ref q_700_6, .ref q_700_7, .ref q_700_8, .ref q_700_9, .ref q_700_10, .ref q_700_11, .ref q_700_12, .ref q_700_13, .ref q_700_14, .ref q_700_15, .ref q_700_16, .ref q_700_17, .int 0, .int 0, .ref q_700_18, .ref q_700_19, .ref q_700_20, .ref q_700_21, .ref q_700_22, .ref q_700_23, .ref q_700_24, .ref q_700_25, .ref q_700_26, .ref q_700_27, .ref q_700_28, .ref q_700_29, .int 0, .long 0, .ref q_700_30, .ref q_700_31, .ref q_700_32, .ref q_700_33, .ref q_700_34, .ref q_700_35, .ref q_700_36, .ref q_700_37, .ref q_700_38, .ref q_700_39, .ref q_700_40, .ref q_700_41, .int 0, .int 0, .int 0, .int 0, .ref q_700_42, .ref q_700_43, .ref q_700_44, .ref q_700_45, .int 0, .ref q_700_46, .ref q_700_47, .int 0, .long 0]))]) hP hD hS hA [1] [0] rfl rfl (by decide) (by decide) (va_runS (As := [.ref q_700_36, .int 3]) (rest := []) ⟨hx, hb, hml, hown, hts⟩ (c_X12_sum_4 l D cy q_700_36 H.size) (va_cwS 2 hts (gS km_X12_541 kt_X12_sum kn_X12 kc_X12_sum) rfl rfl rfl (by decide +kernel) ⟨(Nat.le_of_ble_eq_true rfl), (Nat.le_of_ble_eq_true rfl)⟩) (preS hG hP hD [1] rfl (by decide)) rfl rfl hl.1 rfl (lv_room (Nat.le_of_ble_eq_true rfl)) dX12_count_156 ⟨(Nat.le_of_ble_eq_true rfl), (Nat.le_of_ble_eq_true rfl)⟩) (fun r_2 H locs hB hj hS => ?_)
  obtain ⟨hres, hP1, hD1⟩ := hB
  subst hres
  obtain ⟨hP, hD⟩ := hj _ hP1 hD1
  have hP : va_P D vwCl [(h_2, .inr (12, [.int 0, .int 0, .ref q_700_1, .int 0, .int 0, .int 0, .int 0, .long 0, .int 0, .int 0, .ref q_700_2, .ref q_700_3, .ref q_700_4, .ref q_700_5, .ref q_700_6, .ref q_700_7, .ref q_700_8, .ref q_700_9, .ref q_700_10, .ref q_700_11, .ref q_700_12, .ref q_700_13, .ref q_700_14, .ref q_700_15, .ref q_700_16, .ref q_700_17, .int 0, .int 0, .ref q_700_18, .ref q_700_19, .ref q_700_20, .ref q_700_21, .ref q_700_22, .ref q_700_23, .ref q_700_24, .ref q_700_25, .ref q_700_26, .ref q_700_27, .ref q_700_28, .ref q_700_29, .int 0, .long 0, .ref q_700_30, .ref q_700_31, .ref q_700_32, .ref q_700_33, .ref q_700_34, .ref q_700_35, .ref q_700_36, .ref q_700_37, .ref q_700_38, .ref q_700_39, .ref q_700_40, .ref q_700_41, .int 0, .int 0, .int 0, .int 0, .ref q_700_42, .ref q_700_43, .ref q_700_44, .ref q_700_45, .int 0, .ref q_700_46, .ref q_700_47, .int 0, .long 0])), (q_700_36, .inl (cy 1, 21, .inl (upd (upd (upd (upd (upd (upd (fun _ => 0) 9 (-1)) 10 (-1)) 11 (-1)) 12 (-1)) 13 (-1)) 14 (-1))))] H := hP
  have hD : va_D A [(h_2, .inr (12, [.int 0, .int 0, .ref q_700_1, .int 0, .int 0, .int 0, .int 0, .long 0, .int 0, .int 0, .ref q_700_2, .ref q_700_3, .ref q_700_4, .ref q_700_5, .ref q_700_6, .ref q_700_7, .ref q_700_8, .ref q_700_9, .ref q_700_10, .ref q_700_11, .ref q_700_12, .ref q_700_13, .ref q_700_14, .ref q_700_15, .ref q_700_16, .ref q_700_17, .int 0, .int 0, .ref q_700_18, .ref q_700_19, .ref q_700_20, .ref q_700_21, .ref q_700_22, .ref q_700_23, .ref q_700_24, .ref q_700_25, .ref q_700_26, .ref q_700_27, .ref q_700_28, .ref q_700_29, .int 0, .long 0, .ref q_700_30, .ref q_700_31, .ref q_700_32, .ref q_700_33, .ref q_700_34, .ref q_700_35, .ref q_700_36, .ref q_700_37, .ref q_700_38, .ref q_700_39, .ref q_700_40, .ref q_700_41, .int 0, .int 0, .int 0, .int 0, .ref q_700_42, .ref q_700_43, .ref q_700_44, .ref q_700_45, .int 0, .ref q_700_46, .ref q_700_47, .int 0, .long 0])), (q_700_36, .inl (cy 1, 21, .inl (upd (upd (upd (upd (upd (upd (fun _ => 0) 9 (-1)) 10 (-1)) 11 (-1)) 12 (-1)) 13 (-1)) 14 (-1))))] := hD
  have hP9 := hP.sub (ws' := []) [] rfl
  have hD9 := hD.sub (ws' := []) [] (by decide) rfl
  subst hQ
  exact W.iret (v := 0) hx hb hr (fun t ht hW => qi_mk (by rw [ht]; exact ⟨rfl, hP9, hD9⟩) (hS.F ht)) hS.2.2 dX12_count_159
set_option maxHeartbeats 4000000 in
set_option maxRecDepth 100000 in
theorem c_X11_count_14 (l : Launch) (D : va_G) (cy : Nat → ClassId) (h_1 : Nat) (q_1 : Nat) (q_3 : Nat) (q_4 : Nat) (q_25 : Nat) (q_46 : Nat) (q_50 : Nat) (q_54 : Nat) (q_58 : Nat) (q_62 : Nat) (q_63 : Nat) (q_64 : Nat) (q_67 : Nat) (q_85 : Nat) (q_90 : Nat) (q_93 : Nat) (a1 : Int32) (sz : Nat) (hf0 : a1 < 0) : Met l yX11_count (Cond.code yX11_count cX11_count 2 (some .int) :: bigG) ({ frames := 0, cells := 0, slots := 0, locals := 0 }) (pre D cy [.ref h_1, .int a1] sz [(h_1, .inr (11, [.ref q_1, .ref q_3, .ref q_4, .ref q_25, .ref q_46, .ref q_50, .ref q_54, .ref q_58, .ref q_62, .int 0, .int 0, .ref q_63, .ref q_64, .ref q_67, .ref q_85, .ref q_90, .ref q_93]))]) (qi (fun r h => r = (-1) ∧ va_P D vwCl [] h ∧ va_D (va_A [(h_1, .inr (11, [.ref q_1, .ref q_3, .ref q_4, .ref q_25, .ref q_46, .ref q_50, .ref q_54, .ref q_58, .ref q_62, .int 0, .int 0, .ref q_63, .ref q_64, .ref q_67, .ref q_85, .ref q_90, .ref q_93]))] sz) []) (va_A [(h_1, .inr (11, [.ref q_1, .ref q_3, .ref q_4, .ref q_25, .ref q_46, .ref q_50, .ref q_54, .ref q_58, .ref q_62, .int 0, .int 0, .ref q_63, .ref q_64, .ref q_67, .ref q_85, .ref q_90, .ref q_93]))] sz)) 0 0 (va_A [(h_1, .inr (11, [.ref q_1, .ref q_3, .ref q_4, .ref q_25, .ref q_46, .ref q_50, .ref q_54, .ref q_58, .ref q_62, .int 0, .int 0, .ref q_63, .ref q_64, .ref q_67, .ref q_85, .ref q_90, .ref q_93]))] sz) := by
  refine Met.ofW (cc := cX11_count) (maxL := 2) (ret := (some .int)) (by decide) rfl ?_
  intro p e s m args below meth c s₁ B hml hv
  obtain ⟨rfl, hsz, hP, hG, hD0⟩ := hv
  have hx := B.exec
  have hb := B.bytes
  have hr := B.returns
  have hts := atoms_spec (ws := (Cond.code yX11_count cX11_count 2 (some .int) :: bigG)) B.pre
  have hg : ∀ w ∈ bigG, w.before ([.ref h_1, .int a1] : List Value).toArray s = true := fun w h => hts w (List.mem_cons_of_mem _ h)
  have hown : s.vm.findClass RX11 = some m.cls := findClass_of_methodNamed B.named
  have hlocks := B.notSynchronized
  subst hsz
  have hD := hD0.self (sz := s.heap.size)
  generalize hAe : va_A [(h_1, .inr (11, [.ref q_1, .ref q_3, .ref q_4, .ref q_25, .ref q_46, .ref q_50, .ref q_54, .ref q_58, .ref q_62, .int 0, .int 0, .ref q_63, .ref q_64, .ref q_67, .ref q_85, .ref q_90, .ref q_93]))] s.heap.size = A at hD ⊢
  have hA : ∀ q : Nat, s.heap.size ≤ q → A q := fun q h => by rw [← hAe]; exact Or.inr h
  have hS : va_S A s.heap s.heap [] := va_S.rf
  have hP : va_P D vwCl [(h_1, .inr (11, [.ref q_1, .ref q_3, .ref q_4, .ref q_25, .ref q_46, .ref q_50, .ref q_54, .ref q_58, .ref q_62, .int 0, .int 0, .ref q_63, .ref q_64, .ref q_67, .ref q_85, .ref q_90, .ref q_93]))] s.heap := hP
  have hl := lv_entry ([.ref h_1, .int a1]) (n := 2) (Nat.le_of_ble_eq_true rfl)
  rw [lg_entry_eq]
  generalize (lg_sl ([.ref h_1, .int a1]) ++ List.replicate (2 - (lg_sl ([.ref h_1, .int a1])).length) Slot.unset).toArray = ls at hl ⊢
  have hl : lv_has ls 2 [(0, .ref h_1), (1, .int a1)] := hl
  refine w_nm (fun Q hQ => ?_)
  refine lv_iload_n hx hb dX11_count_0 rfl (lv_at hl 1 rfl) ?_
  refine lv_tableOut (tgt := 193) hx hb dX11_count_1 (Or.inl (by have q9 : a1 < 0 := hf0; simp only [lt_ti, ti_0] at q9; omega)) (by decide) ?_
  refine lv_iconst (v := (-1)) hx hb dX11_count_193 (by decide) ?_
  have hP9 := hP.sub (ws' := []) [] rfl
  have hD9 := hD.sub (ws' := []) [] (by decide) rfl
  subst hQ
  exact W.iret (v := (-1)) hx hb hr (fun t ht hW => qi_mk (by rw [ht]; exact ⟨rfl, hP9, hD9⟩) (hS.F ht)) hS.2.2 dX11_count_194
set_option maxHeartbeats 4000000 in
set_option maxRecDepth 100000 in
theorem c_X12_within_33 (l : Launch) (D : va_G) (cy : Nat → ClassId) (a0 : Int32) (sz : Nat) (hf0 : a0 < 0) : Met l yX12_within (Cond.code yX12_within cX12_within 3 (some .boolean) :: bigG) ({ frames := 0, cells := 0, slots := 0, locals := 0 }) (pre D cy [.int a0, .int 0, .int 12] sz []) (qi (fun r h => r = 0 ∧ va_P D vwCl [] h ∧ va_D (va_A [] sz) []) (va_A [] sz)) 0 0 (va_A [] sz) := by
  refine Met.ofW (cc := cX12_within) (maxL := 3) (ret := (some .boolean)) (by decide) rfl ?_
  intro p e s m args below meth c s₁ B hml hv
  obtain ⟨rfl, hsz, hP, hG, hD0⟩ := hv
  have hx := B.exec
  have hb := B.bytes
  have hr := B.returns
  have hts := atoms_spec (ws := (Cond.code yX12_within cX12_within 3 (some .boolean) :: bigG)) B.pre
  have hg : ∀ w ∈ bigG, w.before ([.int a0, .int 0, .int 12] : List Value).toArray s = true := fun w h => hts w (List.mem_cons_of_mem _ h)
  have hown : s.vm.findClass RX12 = some m.cls := findClass_of_methodNamed B.named
  have hlocks := B.notSynchronized
  subst hsz
  have hD := hD0.self (sz := s.heap.size)
  generalize hAe : va_A [] s.heap.size = A at hD ⊢
  have hA : ∀ q : Nat, s.heap.size ≤ q → A q := fun q h => by rw [← hAe]; exact Or.inr h
  have hS : va_S A s.heap s.heap [] := va_S.rf
  have hP : va_P D vwCl [] s.heap := hP
  have hl := lv_entry ([.int a0, .int 0, .int 12]) (n := 3) (Nat.le_of_ble_eq_true rfl)
  rw [lg_entry_eq]
  generalize (lg_sl ([.int a0, .int 0, .int 12]) ++ List.replicate (3 - (lg_sl ([.int a0, .int 0, .int 12])).length) Slot.unset).toArray = ls at hl ⊢
  have hl : lv_has ls 3 [(0, .int a0), (1, .int 0), (2, .int 12)] := hl
  refine w_nm (fun Q hQ => ?_)
  refine lv_iload_n hx hb dX12_within_0 rfl (lv_at hl 0 rfl) ?_
  refine lv_iload_n hx hb dX12_within_1 rfl (lv_at hl 1 rfl) ?_
  refine lv_icmp_lt (tgt := 14) hx hb dX12_within_2 (by decide) (fun _ => ?_) (fun c_ => absurd hf0 c_)
  refine lv_iconst (v := 0) hx hb dX12_within_14 (by decide) ?_
  have hP9 := hP.sub (ws' := []) [] rfl
  have hD9 := hD.sub (ws' := []) [] (by decide) rfl
  subst hQ
  exact W.zret (v := 0) hx hb hr rfl (fun t ht hW => qi_mk (by rw [ht]; exact ⟨rfl, hP9, hD9⟩) (hS.F ht)) hS.2.2 dX12_within_15
set_option maxHeartbeats 4000000 in
set_option maxRecDepth 100000 in
theorem c_X12_count_14 (l : Launch) (D : va_G) (cy : Nat → ClassId) (h_2 : Nat) (q_700_1 : Nat) (q_700_2 : Nat) (q_700_3 : Nat) (q_700_4 : Nat) (q_700_5 : Nat) (q_700_6 : Nat) (q_700_7 : Nat) (q_700_8 : Nat) (q_700_9 : Nat) (q_700_10 : Nat) (q_700_11 : Nat) (q_700_12 : Nat) (q_700_13 : Nat) (q_700_14 : Nat) (q_700_15 : Nat) (q_700_16 : Nat) (q_700_17 : Nat) (q_700_18 : Nat) (q_700_19 : Nat) (q_700_20 : Nat) (q_700_21 : Nat) (q_700_22 : Nat) (q_700_23 : Nat) (q_700_24 : Nat) (q_700_25 : Nat) (q_700_26 : Nat) (q_700_27 : Nat) (q_700_28 : Nat) (q_700_29 : Nat) (q_700_30 : Nat) (q_700_31 : Nat) (q_700_32 : Nat) (q_700_33 : Nat) (q_700_34 : Nat) (q_700_35 : Nat) (q_700_36 : Nat) (q_700_37 : Nat) (q_700_38 : Nat) (q_700_39 : Nat) (q_700_40 : Nat) (q_700_41 : Nat) (q_700_42 : Nat) (q_700_43 : Nat) (q_700_44 : Nat) (q_700_45 : Nat) (q_700_46 : Nat) (q_700_47 : Nat) (a1 : Int32) (sz : Nat) (hf0 : a1 < 0) : Met l yX12_count (Cond.code yX12_count cX12_count 2 (some .int) :: bigG) ({ frames := 1, cells := 0, slots := 0, locals := 22 }) (pre D cy [.ref h_2, .int a1] sz [(h_2, .inr (12, [.int 0, .int 0, .ref q_700_1, .int 0, .int 0, .int 0, .int 0, .long 0, .int 0, .int 0, .ref q_700_2, .ref q_700_3, .ref q_700_4, .ref q_700_5, .ref q_700_6, .ref q_700_7, .ref q_700_8, .ref q_700_9, .ref q_700_10, .ref q_700_11, .ref q_700_12, .ref q_700_13, .ref q_700_14, .ref q_700_15, .ref q_700_16, .ref q_700_17, .int 0, .int 0, .ref q_700_18, .ref q_700_19, .ref q_700_20, .ref q_700_21, .ref q_700_22, .ref q_700_23, .ref q_700_24, .ref q_700_25, .ref q_700_26, .ref q_700_27, .ref q_700_28, .ref q_700_29, .int 0, .long 0, .ref q_700_30, .ref q_700_31, .ref q_700_32, .ref q_700_33, .ref q_700_34, .ref q_700_35, .ref q_700_36, .ref q_700_37, .ref q_700_38, .ref q_700_39, .ref q_700_40, .ref q_700_41, .int 0, .int 0, .int 0, .int 0, .ref q_700_42, .ref q_700_43, .ref q_700_44, .ref q_700_45, .int 0, .ref q_700_46, .ref q_700_47, .int 0, .long 0]))]) (qi (fun r h => r = (-1) ∧ va_P D vwCl [] h ∧ va_D (va_A [(h_2, .inr (12, [.int 0, .int 0, .ref q_700_1, .int 0, .int 0, .int 0, .int 0, .long 0, .int 0, .int 0, .ref q_700_2, .ref q_700_3, .ref q_700_4, .ref q_700_5, .ref q_700_6, .ref q_700_7, .ref q_700_8, .ref q_700_9, .ref q_700_10, .ref q_700_11, .ref q_700_12, .ref q_700_13, .ref q_700_14, .ref q_700_15, .ref q_700_16, .ref q_700_17, .int 0, .int 0, .ref q_700_18, .ref q_700_19, .ref q_700_20, .ref q_700_21, .ref q_700_22, .ref q_700_23, .ref q_700_24, .ref q_700_25, .ref q_700_26, .ref q_700_27, .ref q_700_28, .ref q_700_29, .int 0, .long 0, .ref q_700_30, .ref q_700_31, .ref q_700_32, .ref q_700_33, .ref q_700_34, .ref q_700_35, .ref q_700_36, .ref q_700_37, .ref q_700_38, .ref q_700_39, .ref q_700_40, .ref q_700_41, .int 0, .int 0, .int 0, .int 0, .ref q_700_42, .ref q_700_43, .ref q_700_44, .ref q_700_45, .int 0, .ref q_700_46, .ref q_700_47, .int 0, .long 0]))] sz) []) (va_A [(h_2, .inr (12, [.int 0, .int 0, .ref q_700_1, .int 0, .int 0, .int 0, .int 0, .long 0, .int 0, .int 0, .ref q_700_2, .ref q_700_3, .ref q_700_4, .ref q_700_5, .ref q_700_6, .ref q_700_7, .ref q_700_8, .ref q_700_9, .ref q_700_10, .ref q_700_11, .ref q_700_12, .ref q_700_13, .ref q_700_14, .ref q_700_15, .ref q_700_16, .ref q_700_17, .int 0, .int 0, .ref q_700_18, .ref q_700_19, .ref q_700_20, .ref q_700_21, .ref q_700_22, .ref q_700_23, .ref q_700_24, .ref q_700_25, .ref q_700_26, .ref q_700_27, .ref q_700_28, .ref q_700_29, .int 0, .long 0, .ref q_700_30, .ref q_700_31, .ref q_700_32, .ref q_700_33, .ref q_700_34, .ref q_700_35, .ref q_700_36, .ref q_700_37, .ref q_700_38, .ref q_700_39, .ref q_700_40, .ref q_700_41, .int 0, .int 0, .int 0, .int 0, .ref q_700_42, .ref q_700_43, .ref q_700_44, .ref q_700_45, .int 0, .ref q_700_46, .ref q_700_47, .int 0, .long 0]))] sz)) 0 0 (va_A [(h_2, .inr (12, [.int 0, .int 0, .ref q_700_1, .int 0, .int 0, .int 0, .int 0, .long 0, .int 0, .int 0, .ref q_700_2, .ref q_700_3, .ref q_700_4, .ref q_700_5, .ref q_700_6, .ref q_700_7, .ref q_700_8, .ref q_700_9, .ref q_700_10, .ref q_700_11, .ref q_700_12, .ref q_700_13, .ref q_700_14, .ref q_700_15, .ref q_700_16, .ref q_700_17, .int 0, .int 0, .ref q_700_18, .ref q_700_19, .ref q_700_20, .ref q_700_21, .ref q_700_22, .ref q_700_23, .ref q_700_24, .ref q_700_25, .ref q_700_26, .ref q_700_27, .ref q_700_28, .ref q_700_29, .int 0, .long 0, .ref q_700_30, .ref q_700_31, .ref q_700_32, .ref q_700_33, .ref q_700_34, .ref q_700_35, .ref q_700_36, .ref q_700_37, .ref q_700_38, .ref q_700_39, .ref q_700_40, .ref q_700_41, .int 0, .int 0, .int 0, .int 0, .ref q_700_42, .ref q_700_43, .ref q_700_44, .ref q_700_45, .int 0, .ref q_700_46, .ref q_700_47, .int 0, .long 0]))] sz) := by
  refine Met.ofW (cc := cX12_count) (maxL := 2) (ret := (some .int)) (by decide) rfl ?_
  intro p e s m args below meth c s₁ B hml hv
  obtain ⟨rfl, hsz, hP, hG, hD0⟩ := hv
  have hx := B.exec
  have hb := B.bytes
  have hr := B.returns
  have hts := atoms_spec (ws := (Cond.code yX12_count cX12_count 2 (some .int) :: bigG)) B.pre
  have hg : ∀ w ∈ bigG, w.before ([.ref h_2, .int a1] : List Value).toArray s = true := fun w h => hts w (List.mem_cons_of_mem _ h)
  have hown : s.vm.findClass RX12 = some m.cls := findClass_of_methodNamed B.named
  have hlocks := B.notSynchronized
  subst hsz
  have hD := hD0.self (sz := s.heap.size)
  generalize hAe : va_A [(h_2, .inr (12, [.int 0, .int 0, .ref q_700_1, .int 0, .int 0, .int 0, .int 0, .long 0, .int 0, .int 0, .ref q_700_2, .ref q_700_3, .ref q_700_4, .ref q_700_5, .ref q_700_6, .ref q_700_7, .ref q_700_8, .ref q_700_9, .ref q_700_10, .ref q_700_11, .ref q_700_12, .ref q_700_13, .ref q_700_14, .ref q_700_15, .ref q_700_16, .ref q_700_17, .int 0, .int 0, .ref q_700_18, .ref q_700_19, .ref q_700_20, .ref q_700_21, .ref q_700_22, .ref q_700_23, .ref q_700_24, .ref q_700_25, .ref q_700_26, .ref q_700_27, .ref q_700_28, .ref q_700_29, .int 0, .long 0, .ref q_700_30, .ref q_700_31, .ref q_700_32, .ref q_700_33, .ref q_700_34, .ref q_700_35, .ref q_700_36, .ref q_700_37, .ref q_700_38, .ref q_700_39, .ref q_700_40, .ref q_700_41, .int 0, .int 0, .int 0, .int 0, .ref q_700_42, .ref q_700_43, .ref q_700_44, .ref q_700_45, .int 0, .ref q_700_46, .ref q_700_47, .int 0, .long 0]))] s.heap.size = A at hD ⊢
  have hA : ∀ q : Nat, s.heap.size ≤ q → A q := fun q h => by rw [← hAe]; exact Or.inr h
  have hS : va_S A s.heap s.heap [] := va_S.rf
  have hP : va_P D vwCl [(h_2, .inr (12, [.int 0, .int 0, .ref q_700_1, .int 0, .int 0, .int 0, .int 0, .long 0, .int 0, .int 0, .ref q_700_2, .ref q_700_3, .ref q_700_4, .ref q_700_5, .ref q_700_6, .ref q_700_7, .ref q_700_8, .ref q_700_9, .ref q_700_10, .ref q_700_11, .ref q_700_12, .ref q_700_13, .ref q_700_14, .ref q_700_15, .ref q_700_16, .ref q_700_17, .int 0, .int 0, .ref q_700_18, .ref q_700_19, .ref q_700_20, .ref q_700_21, .ref q_700_22, .ref q_700_23, .ref q_700_24, .ref q_700_25, .ref q_700_26, .ref q_700_27, .ref q_700_28, .ref q_700_29, .int 0, .long 0, .ref q_700_30, .ref q_700_31, .ref q_700_32, .ref q_700_33, .ref q_700_34, .ref q_700_35, .ref q_700_36, .ref q_700_37, .ref q_700_38, .ref q_700_39, .ref q_700_40, .ref q_700_41, .int 0, .int 0, .int 0, .int 0, .ref q_700_42, .ref q_700_43, .ref q_700_44, .ref q_700_45, .int 0, .ref q_700_46, .ref q_700_47, .int 0, .long 0]))] s.heap := hP
  have hl := lv_entry ([.ref h_2, .int a1]) (n := 2) (Nat.le_of_ble_eq_true rfl)
  rw [lg_entry_eq]
  generalize (lg_sl ([.ref h_2, .int a1]) ++ List.replicate (2 - (lg_sl ([.ref h_2, .int a1])).length) Slot.unset).toArray = ls at hl ⊢
  have hl : lv_has ls 2 [(0, .ref h_2), (1, .int a1)] := hl
  refine w_nm (fun Q hQ => ?_)
  refine lv_aload_n hx hb dX12_count_0 rfl (lv_at hl 0 rfl) ?_
  refine lv_iconst (v := 0) hx hb dX12_count_1 (by decide) ?_
  refine va_put (D := D) (ci := 12) (v := .int 0) (ty := .int) (C := RX12) (T := TX12) (N := 67) hx hb hts (inC ibX12) tyX12 tyX12_ok nmX12 hown hG.1 hP hD hS 0 rfl rfl 0 (by decide) (hg _ k_1315) (fun _ h9 => h9) rfl (by decide +kernel) rfl rfl (Nat.le_of_ble_eq_true rfl) dX12_count_2 (fun H locs hP hD hS => ?_)
  have hP : va_P D vwCl [(h_2, .inr (12, [.int 0, .int 0, .ref q_700_1, .int 0, .int 0, .int 0, .int 0, .long 0, .int 0, .int 0, .ref q_700_2, .ref q_700_3, .ref q_700_4, .ref q_700_5, .ref q_700_6, .ref q_700_7, .ref q_700_8, .ref q_700_9, .ref q_700_10, .ref q_700_11, .ref q_700_12, .ref q_700_13, .ref q_700_14, .ref q_700_15, .ref q_700_16, .ref q_700_17, .int 0, .int 0, .ref q_700_18, .ref q_700_19, .ref q_700_20, .ref q_700_21, .ref q_700_22, .ref q_700_23, .ref q_700_24, .ref q_700_25, .ref q_700_26, .ref q_700_27, .ref q_700_28, .ref q_700_29, .int 0, .long 0, .ref q_700_30, .ref q_700_31, .ref q_700_32, .ref q_700_33, .ref q_700_34, .ref q_700_35, .ref q_700_36, .ref q_700_37, .ref q_700_38, .ref q_700_39, .ref q_700_40, .ref q_700_41, .int 0, .int 0, .int 0, .int 0, .ref q_700_42, .ref q_700_43, .ref q_700_44, .ref q_700_45, .int 0, .ref q_700_46, .ref q_700_47, .int 0, .long 0]))] H := hP
  have hD : va_D A [(h_2, .inr (12, [.int 0, .int 0, .ref q_700_1, .int 0, .int 0, .int 0, .int 0, .long 0, .int 0, .int 0, .ref q_700_2, .ref q_700_3, .ref q_700_4, .ref q_700_5, .ref q_700_6, .ref q_700_7, .ref q_700_8, .ref q_700_9, .ref q_700_10, .ref q_700_11, .ref q_700_12, .ref q_700_13, .ref q_700_14, .ref q_700_15, .ref q_700_16, .ref q_700_17, .int 0, .int 0, .ref q_700_18, .ref q_700_19, .ref q_700_20, .ref q_700_21, .ref q_700_22, .ref q_700_23, .ref q_700_24, .ref q_700_25, .ref q_700_26, .ref q_700_27, .ref q_700_28, .ref q_700_29, .int 0, .long 0, .ref q_700_30, .ref q_700_31, .ref q_700_32, .ref q_700_33, .ref q_700_34, .ref q_700_35, .ref q_700_36, .ref q_700_37, .ref q_700_38, .ref q_700_39, .ref q_700_40, .ref q_700_41, .int 0, .int 0, .int 0, .int 0, .ref q_700_42, .ref q_700_43, .ref q_700_44, .ref q_700_45, .int 0, .ref q_700_46, .ref q_700_47, .int 0, .long 0]))] := hD
  refine lv_iload_n hx hb dX12_count_5 rfl (lv_at hl 1 rfl) ?_
  refine lv_iconst (v := 0) hx hb dX12_count_6 (by decide) ?_
  refine lv_bipush (v := 12) hx hb dX12_count_7 (by decide) ?_
  refine x_i (wr := [(h_2, .inr (12, [.int 0, .int 0, .ref q_700_1, .int 0, .int 0, .int 0, .int 0, .long 0, .int 0, .int 0, .ref q_700_2, .ref q_700_3, .ref q_700_4, .ref q_700_5, .ref q_700_6, .ref q_700_7, .ref q_700_8, .ref q_700_9, .ref q_700_10, .ref q_700_11, .ref q_700_12, .ref q_700_13, .ref q_700_14, .ref q_700_15, .ref q_700_16, .ref q_700_17, .int 0, .int 0, .ref q_700_18, .ref q_700_19, .ref q_700_20, .ref q_700_21, .ref q_700_22, .ref q_700_23, .ref q_700_24, .ref q_700_25, .ref q_700_26, .ref q_700_27, .ref q_700_28, .ref q_700_29, .int 0, .long 0, .ref q_700_30, .ref q_700_31, .ref q_700_32, .ref q_700_33, .ref q_700_34, .ref q_700_35, .ref q_700_36, .ref q_700_37, .ref q_700_38, .ref q_700_39, .ref q_700_40, .ref q_700_41, .int 0, .int 0, .int 0, .int 0, .ref q_700_42, .ref q_700_43, .ref q_700_44, .ref q_700_45, .int 0, .ref q_700_46, .ref q_700_47, .int 0, .long 0]))]) hP hD hS hA [] [0] rfl rfl (by decide) (by decide) (va_runS (As := [.int a1, .int 0, .int 12]) (rest := []) ⟨hx, hb, hml, hown, hts⟩ (c_X12_within_33 l D cy a1 H.size hf0) (va_cwS 3 hts (gS km_X12_293 kt_X12_within kn_X12 kc_X12_within) rfl rfl rfl (by decide +kernel) ⟨(Nat.le_of_ble_eq_true rfl), (Nat.le_of_ble_eq_true rfl)⟩) (preS hG hP hD [] rfl (by decide)) rfl rfl hl.1 rfl (lv_room (Nat.le_of_ble_eq_true rfl)) dX12_count_9 ⟨(Nat.le_of_ble_eq_true rfl), (Nat.le_of_ble_eq_true rfl)⟩) (fun r_1 H locs hB hj hS => ?_)
  obtain ⟨hres, hP1, hD1⟩ := hB
  subst hres
  obtain ⟨hP, hD⟩ := hj _ hP1 hD1
  have hP : va_P D vwCl [(h_2, .inr (12, [.int 0, .int 0, .ref q_700_1, .int 0, .int 0, .int 0, .int 0, .long 0, .int 0, .int 0, .ref q_700_2, .ref q_700_3, .ref q_700_4, .ref q_700_5, .ref q_700_6, .ref q_700_7, .ref q_700_8, .ref q_700_9, .ref q_700_10, .ref q_700_11, .ref q_700_12, .ref q_700_13, .ref q_700_14, .ref q_700_15, .ref q_700_16, .ref q_700_17, .int 0, .int 0, .ref q_700_18, .ref q_700_19, .ref q_700_20, .ref q_700_21, .ref q_700_22, .ref q_700_23, .ref q_700_24, .ref q_700_25, .ref q_700_26, .ref q_700_27, .ref q_700_28, .ref q_700_29, .int 0, .long 0, .ref q_700_30, .ref q_700_31, .ref q_700_32, .ref q_700_33, .ref q_700_34, .ref q_700_35, .ref q_700_36, .ref q_700_37, .ref q_700_38, .ref q_700_39, .ref q_700_40, .ref q_700_41, .int 0, .int 0, .int 0, .int 0, .ref q_700_42, .ref q_700_43, .ref q_700_44, .ref q_700_45, .int 0, .ref q_700_46, .ref q_700_47, .int 0, .long 0]))] H := hP
  have hD : va_D A [(h_2, .inr (12, [.int 0, .int 0, .ref q_700_1, .int 0, .int 0, .int 0, .int 0, .long 0, .int 0, .int 0, .ref q_700_2, .ref q_700_3, .ref q_700_4, .ref q_700_5, .ref q_700_6, .ref q_700_7, .ref q_700_8, .ref q_700_9, .ref q_700_10, .ref q_700_11, .ref q_700_12, .ref q_700_13, .ref q_700_14, .ref q_700_15, .ref q_700_16, .ref q_700_17, .int 0, .int 0, .ref q_700_18, .ref q_700_19, .ref q_700_20, .ref q_700_21, .ref q_700_22, .ref q_700_23, .ref q_700_24, .ref q_700_25, .ref q_700_26, .ref q_700_27, .ref q_700_28, .ref q_700_29, .int 0, .long 0, .ref q_700_30, .ref q_700_31, .ref q_700_32, .ref q_700_33, .ref q_700_34, .ref q_700_35, .ref q_700_36, .ref q_700_37, .ref q_700_38, .ref q_700_39, .ref q_700_40, .ref q_700_41, .int 0, .int 0, .int 0, .int 0, .ref q_700_42, .ref q_700_43, .ref q_700_44, .ref q_700_45, .int 0, .ref q_700_46, .ref q_700_47, .int 0, .long 0]))] := hD
  refine lv_if_ne (tgt := 17) hx hb dX12_count_12 (by decide) (fun c_ => absurd rfl c_) (fun _ => ?_)
  refine lv_iconst (v := (-1)) hx hb dX12_count_15 (by decide) ?_
  have hP9 := hP.sub (ws' := []) [] rfl
  have hD9 := hD.sub (ws' := []) [] (by decide) rfl
  subst hQ
  exact W.iret (v := (-1)) hx hb hr (fun t ht hW => qi_mk (by rw [ht]; exact ⟨rfl, hP9, hD9⟩) (hS.F ht)) hS.2.2 dX12_count_16
set_option maxHeartbeats 4000000 in
set_option maxRecDepth 100000 in
theorem c_X11_count_15 (l : Launch) (D : va_G) (cy : Nat → ClassId) (h_1 : Nat) (q_1 : Nat) (q_3 : Nat) (q_4 : Nat) (q_25 : Nat) (q_46 : Nat) (q_50 : Nat) (q_54 : Nat) (q_58 : Nat) (q_62 : Nat) (q_63 : Nat) (q_64 : Nat) (q_67 : Nat) (q_85 : Nat) (q_90 : Nat) (q_93 : Nat) (a1 : Int32) (sz : Nat) (hf0 : 12 < a1) : Met l yX11_count (Cond.code yX11_count cX11_count 2 (some .int) :: bigG) ({ frames := 0, cells := 0, slots := 0, locals := 0 }) (pre D cy [.ref h_1, .int a1] sz [(h_1, .inr (11, [.ref q_1, .ref q_3, .ref q_4, .ref q_25, .ref q_46, .ref q_50, .ref q_54, .ref q_58, .ref q_62, .int 0, .int 0, .ref q_63, .ref q_64, .ref q_67, .ref q_85, .ref q_90, .ref q_93]))]) (qi (fun r h => r = (-1) ∧ va_P D vwCl [] h ∧ va_D (va_A [(h_1, .inr (11, [.ref q_1, .ref q_3, .ref q_4, .ref q_25, .ref q_46, .ref q_50, .ref q_54, .ref q_58, .ref q_62, .int 0, .int 0, .ref q_63, .ref q_64, .ref q_67, .ref q_85, .ref q_90, .ref q_93]))] sz) []) (va_A [(h_1, .inr (11, [.ref q_1, .ref q_3, .ref q_4, .ref q_25, .ref q_46, .ref q_50, .ref q_54, .ref q_58, .ref q_62, .int 0, .int 0, .ref q_63, .ref q_64, .ref q_67, .ref q_85, .ref q_90, .ref q_93]))] sz)) 0 0 (va_A [(h_1, .inr (11, [.ref q_1, .ref q_3, .ref q_4, .ref q_25, .ref q_46, .ref q_50, .ref q_54, .ref q_58, .ref q_62, .int 0, .int 0, .ref q_63, .ref q_64, .ref q_67, .ref q_85, .ref q_90, .ref q_93]))] sz) := by
  refine Met.ofW (cc := cX11_count) (maxL := 2) (ret := (some .int)) (by decide) rfl ?_
  intro p e s m args below meth c s₁ B hml hv
  obtain ⟨rfl, hsz, hP, hG, hD0⟩ := hv
  have hx := B.exec
  have hb := B.bytes
  have hr := B.returns
  have hts := atoms_spec (ws := (Cond.code yX11_count cX11_count 2 (some .int) :: bigG)) B.pre
  have hg : ∀ w ∈ bigG, w.before ([.ref h_1, .int a1] : List Value).toArray s = true := fun w h => hts w (List.mem_cons_of_mem _ h)
  have hown : s.vm.findClass RX11 = some m.cls := findClass_of_methodNamed B.named
  have hlocks := B.notSynchronized
  subst hsz
  have hD := hD0.self (sz := s.heap.size)
  generalize hAe : va_A [(h_1, .inr (11, [.ref q_1, .ref q_3, .ref q_4, .ref q_25, .ref q_46, .ref q_50, .ref q_54, .ref q_58, .ref q_62, .int 0, .int 0, .ref q_63, .ref q_64, .ref q_67, .ref q_85, .ref q_90, .ref q_93]))] s.heap.size = A at hD ⊢
  have hA : ∀ q : Nat, s.heap.size ≤ q → A q := fun q h => by rw [← hAe]; exact Or.inr h
  have hS : va_S A s.heap s.heap [] := va_S.rf
  have hP : va_P D vwCl [(h_1, .inr (11, [.ref q_1, .ref q_3, .ref q_4, .ref q_25, .ref q_46, .ref q_50, .ref q_54, .ref q_58, .ref q_62, .int 0, .int 0, .ref q_63, .ref q_64, .ref q_67, .ref q_85, .ref q_90, .ref q_93]))] s.heap := hP
  have hl := lv_entry ([.ref h_1, .int a1]) (n := 2) (Nat.le_of_ble_eq_true rfl)
  rw [lg_entry_eq]
  generalize (lg_sl ([.ref h_1, .int a1]) ++ List.replicate (2 - (lg_sl ([.ref h_1, .int a1])).length) Slot.unset).toArray = ls at hl ⊢
  have hl : lv_has ls 2 [(0, .ref h_1), (1, .int a1)] := hl
  refine w_nm (fun Q hQ => ?_)
  refine lv_iload_n hx hb dX11_count_0 rfl (lv_at hl 1 rfl) ?_
  refine lv_tableOut (tgt := 193) hx hb dX11_count_1 (Or.inr (by have q9 : 12 < a1 := hf0; simp only [lt_ti, ti_12] at q9; omega)) (by decide) ?_
  refine lv_iconst (v := (-1)) hx hb dX11_count_193 (by decide) ?_
  have hP9 := hP.sub (ws' := []) [] rfl
  have hD9 := hD.sub (ws' := []) [] (by decide) rfl
  subst hQ
  exact W.iret (v := (-1)) hx hb hr (fun t ht hW => qi_mk (by rw [ht]; exact ⟨rfl, hP9, hD9⟩) (hS.F ht)) hS.2.2 dX11_count_194
set_option maxHeartbeats 4000000 in
set_option maxRecDepth 100000 in
theorem c_X12_within_34 (l : Launch) (D : va_G) (cy : Nat → ClassId) (a0 : Int32) (sz : Nat) (hf0 : 12 < a0) : Met l yX12_within (Cond.code yX12_within cX12_within 3 (some .boolean) :: bigG) ({ frames := 0, cells := 0, slots := 0, locals := 0 }) (pre D cy [.int a0, .int 0, .int 12] sz []) (qi (fun r h => r = 0 ∧ va_P D vwCl [] h ∧ va_D (va_A [] sz) []) (va_A [] sz)) 0 0 (va_A [] sz) := by
  refine Met.ofW (cc := cX12_within) (maxL := 3) (ret := (some .boolean)) (by decide) rfl ?_
  intro p e s m args below meth c s₁ B hml hv
  obtain ⟨rfl, hsz, hP, hG, hD0⟩ := hv
  have hx := B.exec
  have hb := B.bytes
  have hr := B.returns
  have hts := atoms_spec (ws := (Cond.code yX12_within cX12_within 3 (some .boolean) :: bigG)) B.pre
  have hg : ∀ w ∈ bigG, w.before ([.int a0, .int 0, .int 12] : List Value).toArray s = true := fun w h => hts w (List.mem_cons_of_mem _ h)
  have hown : s.vm.findClass RX12 = some m.cls := findClass_of_methodNamed B.named
  have hlocks := B.notSynchronized
  subst hsz
  have hD := hD0.self (sz := s.heap.size)
  generalize hAe : va_A [] s.heap.size = A at hD ⊢
  have hA : ∀ q : Nat, s.heap.size ≤ q → A q := fun q h => by rw [← hAe]; exact Or.inr h
  have hS : va_S A s.heap s.heap [] := va_S.rf
  have hP : va_P D vwCl [] s.heap := hP
  have hl := lv_entry ([.int a0, .int 0, .int 12]) (n := 3) (Nat.le_of_ble_eq_true rfl)
  rw [lg_entry_eq]
  generalize (lg_sl ([.int a0, .int 0, .int 12]) ++ List.replicate (3 - (lg_sl ([.int a0, .int 0, .int 12])).length) Slot.unset).toArray = ls at hl ⊢
  have hl : lv_has ls 3 [(0, .int a0), (1, .int 0), (2, .int 12)] := hl
  refine w_nm (fun Q hQ => ?_)
  refine lv_iload_n hx hb dX12_within_0 rfl (lv_at hl 0 rfl) ?_
  refine lv_iload_n hx hb dX12_within_1 rfl (lv_at hl 1 rfl) ?_
  refine lv_icmp_lt (tgt := 14) hx hb dX12_within_2 (by decide) (fun c_ => absurd c_ (by have q0 := hf0; simp only [lt_ti, le_ti, eq_ti, ti_0, ti_12] at q0 ⊢; omega)) (fun _ => ?_)
  refine lv_iload_n hx hb dX12_within_5 rfl (lv_at hl 0 rfl) ?_
  refine lv_iload_n hx hb dX12_within_6 rfl (lv_at hl 2 rfl) ?_
  refine lv_icmp_gt (tgt := 14) hx hb dX12_within_7 (by decide) (fun _ => ?_) (fun c_ => absurd hf0 c_)
  refine lv_iconst (v := 0) hx hb dX12_within_14 (by decide) ?_
  have hP9 := hP.sub (ws' := []) [] rfl
  have hD9 := hD.sub (ws' := []) [] (by decide) rfl
  subst hQ
  exact W.zret (v := 0) hx hb hr rfl (fun t ht hW => qi_mk (by rw [ht]; exact ⟨rfl, hP9, hD9⟩) (hS.F ht)) hS.2.2 dX12_within_15
set_option maxHeartbeats 4000000 in
set_option maxRecDepth 100000 in
theorem c_X12_count_15 (l : Launch) (D : va_G) (cy : Nat → ClassId) (h_2 : Nat) (q_700_1 : Nat) (q_700_2 : Nat) (q_700_3 : Nat) (q_700_4 : Nat) (q_700_5 : Nat) (q_700_6 : Nat) (q_700_7 : Nat) (q_700_8 : Nat) (q_700_9 : Nat) (q_700_10 : Nat) (q_700_11 : Nat) (q_700_12 : Nat) (q_700_13 : Nat) (q_700_14 : Nat) (q_700_15 : Nat) (q_700_16 : Nat) (q_700_17 : Nat) (q_700_18 : Nat) (q_700_19 : Nat) (q_700_20 : Nat) (q_700_21 : Nat) (q_700_22 : Nat) (q_700_23 : Nat) (q_700_24 : Nat) (q_700_25 : Nat) (q_700_26 : Nat) (q_700_27 : Nat) (q_700_28 : Nat) (q_700_29 : Nat) (q_700_30 : Nat) (q_700_31 : Nat) (q_700_32 : Nat) (q_700_33 : Nat) (q_700_34 : Nat) (q_700_35 : Nat) (q_700_36 : Nat) (q_700_37 : Nat) (q_700_38 : Nat) (q_700_39 : Nat) (q_700_40 : Nat) (q_700_41 : Nat) (q_700_42 : Nat) (q_700_43 : Nat) (q_700_44 : Nat) (q_700_45 : Nat) (q_700_46 : Nat) (q_700_47 : Nat) (a1 : Int32) (sz : Nat) (hf0 : 12 < a1) : Met l yX12_count (Cond.code yX12_count cX12_count 2 (some .int) :: bigG) ({ frames := 1, cells := 0, slots := 0, locals := 22 }) (pre D cy [.ref h_2, .int a1] sz [(h_2, .inr (12, [.int 0, .int 0, .ref q_700_1, .int 0, .int 0, .int 0, .int 0, .long 0, .int 0, .int 0, .ref q_700_2, .ref q_700_3, .ref q_700_4, .ref q_700_5, .ref q_700_6, .ref q_700_7, .ref q_700_8, .ref q_700_9, .ref q_700_10, .ref q_700_11, .ref q_700_12, .ref q_700_13, .ref q_700_14, .ref q_700_15, .ref q_700_16, .ref q_700_17, .int 0, .int 0, .ref q_700_18, .ref q_700_19, .ref q_700_20, .ref q_700_21, .ref q_700_22, .ref q_700_23, .ref q_700_24, .ref q_700_25, .ref q_700_26, .ref q_700_27, .ref q_700_28, .ref q_700_29, .int 0, .long 0, .ref q_700_30, .ref q_700_31, .ref q_700_32, .ref q_700_33, .ref q_700_34, .ref q_700_35, .ref q_700_36, .ref q_700_37, .ref q_700_38, .ref q_700_39, .ref q_700_40, .ref q_700_41, .int 0, .int 0, .int 0, .int 0, .ref q_700_42, .ref q_700_43, .ref q_700_44, .ref q_700_45, .int 0, .ref q_700_46, .ref q_700_47, .int 0, .long 0]))]) (qi (fun r h => r = (-1) ∧ va_P D vwCl [] h ∧ va_D (va_A [(h_2, .inr (12, [.int 0, .int 0, .ref q_700_1, .int 0, .int 0, .int 0, .int 0, .long 0, .int 0, .int 0, .ref q_700_2, .ref q_700_3, .ref q_700_4, .ref q_700_5, .ref q_700_6, .ref q_700_7, .ref q_700_8, .ref q_700_9, .ref q_700_10, .ref q_700_11, .ref q_700_12, .ref q_700_13, .ref q_700_14, .ref q_700_15, .ref q_700_16, .ref q_700_17, .int 0, .int 0, .ref q_700_18, .ref q_700_19, .ref q_700_20, .ref q_700_21, .ref q_700_22, .ref q_700_23, .ref q_700_24, .ref q_700_25, .ref q_700_26, .ref q_700_27, .ref q_700_28, .ref q_700_29, .int 0, .long 0, .ref q_700_30, .ref q_700_31, .ref q_700_32, .ref q_700_33, .ref q_700_34, .ref q_700_35, .ref q_700_36, .ref q_700_37, .ref q_700_38, .ref q_700_39, .ref q_700_40, .ref q_700_41, .int 0, .int 0, .int 0, .int 0, .ref q_700_42, .ref q_700_43, .ref q_700_44, .ref q_700_45, .int 0, .ref q_700_46, .ref q_700_47, .int 0, .long 0]))] sz) []) (va_A [(h_2, .inr (12, [.int 0, .int 0, .ref q_700_1, .int 0, .int 0, .int 0, .int 0, .long 0, .int 0, .int 0, .ref q_700_2, .ref q_700_3, .ref q_700_4, .ref q_700_5, .ref q_700_6, .ref q_700_7, .ref q_700_8, .ref q_700_9, .ref q_700_10, .ref q_700_11, .ref q_700_12, .ref q_700_13, .ref q_700_14, .ref q_700_15, .ref q_700_16, .ref q_700_17, .int 0, .int 0, .ref q_700_18, .ref q_700_19, .ref q_700_20, .ref q_700_21, .ref q_700_22, .ref q_700_23, .ref q_700_24, .ref q_700_25, .ref q_700_26, .ref q_700_27, .ref q_700_28, .ref q_700_29, .int 0, .long 0, .ref q_700_30, .ref q_700_31, .ref q_700_32, .ref q_700_33, .ref q_700_34, .ref q_700_35, .ref q_700_36, .ref q_700_37, .ref q_700_38, .ref q_700_39, .ref q_700_40, .ref q_700_41, .int 0, .int 0, .int 0, .int 0, .ref q_700_42, .ref q_700_43, .ref q_700_44, .ref q_700_45, .int 0, .ref q_700_46, .ref q_700_47, .int 0, .long 0]))] sz)) 0 0 (va_A [(h_2, .inr (12, [.int 0, .int 0, .ref q_700_1, .int 0, .int 0, .int 0, .int 0, .long 0, .int 0, .int 0, .ref q_700_2, .ref q_700_3, .ref q_700_4, .ref q_700_5, .ref q_700_6, .ref q_700_7, .ref q_700_8, .ref q_700_9, .ref q_700_10, .ref q_700_11, .ref q_700_12, .ref q_700_13, .ref q_700_14, .ref q_700_15, .ref q_700_16, .ref q_700_17, .int 0, .int 0, .ref q_700_18, .ref q_700_19, .ref q_700_20, .ref q_700_21, .ref q_700_22, .ref q_700_23, .ref q_700_24, .ref q_700_25, .ref q_700_26, .ref q_700_27, .ref q_700_28, .ref q_700_29, .int 0, .long 0, .ref q_700_30, .ref q_700_31, .ref q_700_32, .ref q_700_33, .ref q_700_34, .ref q_700_35, .ref q_700_36, .ref q_700_37, .ref q_700_38, .ref q_700_39, .ref q_700_40, .ref q_700_41, .int 0, .int 0, .int 0, .int 0, .ref q_700_42, .ref q_700_43, .ref q_700_44, .ref q_700_45, .int 0, .ref q_700_46, .ref q_700_47, .int 0, .long 0]))] sz) := by
  refine Met.ofW (cc := cX12_count) (maxL := 2) (ret := (some .int)) (by decide) rfl ?_
  intro p e s m args below meth c s₁ B hml hv
  obtain ⟨rfl, hsz, hP, hG, hD0⟩ := hv
  have hx := B.exec
  have hb := B.bytes
  have hr := B.returns
  have hts := atoms_spec (ws := (Cond.code yX12_count cX12_count 2 (some .int) :: bigG)) B.pre
  have hg : ∀ w ∈ bigG, w.before ([.ref h_2, .int a1] : List Value).toArray s = true := fun w h => hts w (List.mem_cons_of_mem _ h)
  have hown : s.vm.findClass RX12 = some m.cls := findClass_of_methodNamed B.named
  have hlocks := B.notSynchronized
  subst hsz
  have hD := hD0.self (sz := s.heap.size)
  generalize hAe : va_A [(h_2, .inr (12, [.int 0, .int 0, .ref q_700_1, .int 0, .int 0, .int 0, .int 0, .long 0, .int 0, .int 0, .ref q_700_2, .ref q_700_3, .ref q_700_4, .ref q_700_5, .ref q_700_6, .ref q_700_7, .ref q_700_8, .ref q_700_9, .ref q_700_10, .ref q_700_11, .ref q_700_12, .ref q_700_13, .ref q_700_14, .ref q_700_15, .ref q_700_16, .ref q_700_17, .int 0, .int 0, .ref q_700_18, .ref q_700_19, .ref q_700_20, .ref q_700_21, .ref q_700_22, .ref q_700_23, .ref q_700_24, .ref q_700_25, .ref q_700_26, .ref q_700_27, .ref q_700_28, .ref q_700_29, .int 0, .long 0, .ref q_700_30, .ref q_700_31, .ref q_700_32, .ref q_700_33, .ref q_700_34, .ref q_700_35, .ref q_700_36, .ref q_700_37, .ref q_700_38, .ref q_700_39, .ref q_700_40, .ref q_700_41, .int 0, .int 0, .int 0, .int 0, .ref q_700_42, .ref q_700_43, .ref q_700_44, .ref q_700_45, .int 0, .ref q_700_46, .ref q_700_47, .int 0, .long 0]))] s.heap.size = A at hD ⊢
  have hA : ∀ q : Nat, s.heap.size ≤ q → A q := fun q h => by rw [← hAe]; exact Or.inr h
  have hS : va_S A s.heap s.heap [] := va_S.rf
  have hP : va_P D vwCl [(h_2, .inr (12, [.int 0, .int 0, .ref q_700_1, .int 0, .int 0, .int 0, .int 0, .long 0, .int 0, .int 0, .ref q_700_2, .ref q_700_3, .ref q_700_4, .ref q_700_5, .ref q_700_6, .ref q_700_7, .ref q_700_8, .ref q_700_9, .ref q_700_10, .ref q_700_11, .ref q_700_12, .ref q_700_13, .ref q_700_14, .ref q_700_15, .ref q_700_16, .ref q_700_17, .int 0, .int 0, .ref q_700_18, .ref q_700_19, .ref q_700_20, .ref q_700_21, .ref q_700_22, .ref q_700_23, .ref q_700_24, .ref q_700_25, .ref q_700_26, .ref q_700_27, .ref q_700_28, .ref q_700_29, .int 0, .long 0, .ref q_700_30, .ref q_700_31, .ref q_700_32, .ref q_700_33, .ref q_700_34, .ref q_700_35, .ref q_700_36, .ref q_700_37, .ref q_700_38, .ref q_700_39, .ref q_700_40, .ref q_700_41, .int 0, .int 0, .int 0, .int 0, .ref q_700_42, .ref q_700_43, .ref q_700_44, .ref q_700_45, .int 0, .ref q_700_46, .ref q_700_47, .int 0, .long 0]))] s.heap := hP
  have hl := lv_entry ([.ref h_2, .int a1]) (n := 2) (Nat.le_of_ble_eq_true rfl)
  rw [lg_entry_eq]
  generalize (lg_sl ([.ref h_2, .int a1]) ++ List.replicate (2 - (lg_sl ([.ref h_2, .int a1])).length) Slot.unset).toArray = ls at hl ⊢
  have hl : lv_has ls 2 [(0, .ref h_2), (1, .int a1)] := hl
  refine w_nm (fun Q hQ => ?_)
  refine lv_aload_n hx hb dX12_count_0 rfl (lv_at hl 0 rfl) ?_
  refine lv_iconst (v := 0) hx hb dX12_count_1 (by decide) ?_
  refine va_put (D := D) (ci := 12) (v := .int 0) (ty := .int) (C := RX12) (T := TX12) (N := 67) hx hb hts (inC ibX12) tyX12 tyX12_ok nmX12 hown hG.1 hP hD hS 0 rfl rfl 0 (by decide) (hg _ k_1315) (fun _ h9 => h9) rfl (by decide +kernel) rfl rfl (Nat.le_of_ble_eq_true rfl) dX12_count_2 (fun H locs hP hD hS => ?_)
  have hP : va_P D vwCl [(h_2, .inr (12, [.int 0, .int 0, .ref q_700_1, .int 0, .int 0, .int 0, .int 0, .long 0, .int 0, .int 0, .ref q_700_2, .ref q_700_3, .ref q_700_4, .ref q_700_5, .ref q_700_6, .ref q_700_7, .ref q_700_8, .ref q_700_9, .ref q_700_10, .ref q_700_11, .ref q_700_12, .ref q_700_13, .ref q_700_14, .ref q_700_15, .ref q_700_16, .ref q_700_17, .int 0, .int 0, .ref q_700_18, .ref q_700_19, .ref q_700_20, .ref q_700_21, .ref q_700_22, .ref q_700_23, .ref q_700_24, .ref q_700_25, .ref q_700_26, .ref q_700_27, .ref q_700_28, .ref q_700_29, .int 0, .long 0, .ref q_700_30, .ref q_700_31, .ref q_700_32, .ref q_700_33, .ref q_700_34, .ref q_700_35, .ref q_700_36, .ref q_700_37, .ref q_700_38, .ref q_700_39, .ref q_700_40, .ref q_700_41, .int 0, .int 0, .int 0, .int 0, .ref q_700_42, .ref q_700_43, .ref q_700_44, .ref q_700_45, .int 0, .ref q_700_46, .ref q_700_47, .int 0, .long 0]))] H := hP
  have hD : va_D A [(h_2, .inr (12, [.int 0, .int 0, .ref q_700_1, .int 0, .int 0, .int 0, .int 0, .long 0, .int 0, .int 0, .ref q_700_2, .ref q_700_3, .ref q_700_4, .ref q_700_5, .ref q_700_6, .ref q_700_7, .ref q_700_8, .ref q_700_9, .ref q_700_10, .ref q_700_11, .ref q_700_12, .ref q_700_13, .ref q_700_14, .ref q_700_15, .ref q_700_16, .ref q_700_17, .int 0, .int 0, .ref q_700_18, .ref q_700_19, .ref q_700_20, .ref q_700_21, .ref q_700_22, .ref q_700_23, .ref q_700_24, .ref q_700_25, .ref q_700_26, .ref q_700_27, .ref q_700_28, .ref q_700_29, .int 0, .long 0, .ref q_700_30, .ref q_700_31, .ref q_700_32, .ref q_700_33, .ref q_700_34, .ref q_700_35, .ref q_700_36, .ref q_700_37, .ref q_700_38, .ref q_700_39, .ref q_700_40, .ref q_700_41, .int 0, .int 0, .int 0, .int 0, .ref q_700_42, .ref q_700_43, .ref q_700_44, .ref q_700_45, .int 0, .ref q_700_46, .ref q_700_47, .int 0, .long 0]))] := hD
  refine lv_iload_n hx hb dX12_count_5 rfl (lv_at hl 1 rfl) ?_
  refine lv_iconst (v := 0) hx hb dX12_count_6 (by decide) ?_
  refine lv_bipush (v := 12) hx hb dX12_count_7 (by decide) ?_
  refine x_i (wr := [(h_2, .inr (12, [.int 0, .int 0, .ref q_700_1, .int 0, .int 0, .int 0, .int 0, .long 0, .int 0, .int 0, .ref q_700_2, .ref q_700_3, .ref q_700_4, .ref q_700_5, .ref q_700_6, .ref q_700_7, .ref q_700_8, .ref q_700_9, .ref q_700_10, .ref q_700_11, .ref q_700_12, .ref q_700_13, .ref q_700_14, .ref q_700_15, .ref q_700_16, .ref q_700_17, .int 0, .int 0, .ref q_700_18, .ref q_700_19, .ref q_700_20, .ref q_700_21, .ref q_700_22, .ref q_700_23, .ref q_700_24, .ref q_700_25, .ref q_700_26, .ref q_700_27, .ref q_700_28, .ref q_700_29, .int 0, .long 0, .ref q_700_30, .ref q_700_31, .ref q_700_32, .ref q_700_33, .ref q_700_34, .ref q_700_35, .ref q_700_36, .ref q_700_37, .ref q_700_38, .ref q_700_39, .ref q_700_40, .ref q_700_41, .int 0, .int 0, .int 0, .int 0, .ref q_700_42, .ref q_700_43, .ref q_700_44, .ref q_700_45, .int 0, .ref q_700_46, .ref q_700_47, .int 0, .long 0]))]) hP hD hS hA [] [0] rfl rfl (by decide) (by decide) (va_runS (As := [.int a1, .int 0, .int 12]) (rest := []) ⟨hx, hb, hml, hown, hts⟩ (c_X12_within_34 l D cy a1 H.size hf0) (va_cwS 3 hts (gS km_X12_293 kt_X12_within kn_X12 kc_X12_within) rfl rfl rfl (by decide +kernel) ⟨(Nat.le_of_ble_eq_true rfl), (Nat.le_of_ble_eq_true rfl)⟩) (preS hG hP hD [] rfl (by decide)) rfl rfl hl.1 rfl (lv_room (Nat.le_of_ble_eq_true rfl)) dX12_count_9 ⟨(Nat.le_of_ble_eq_true rfl), (Nat.le_of_ble_eq_true rfl)⟩) (fun r_1 H locs hB hj hS => ?_)
  obtain ⟨hres, hP1, hD1⟩ := hB
  subst hres
  obtain ⟨hP, hD⟩ := hj _ hP1 hD1
  have hP : va_P D vwCl [(h_2, .inr (12, [.int 0, .int 0, .ref q_700_1, .int 0, .int 0, .int 0, .int 0, .long 0, .int 0, .int 0, .ref q_700_2, .ref q_700_3, .ref q_700_4, .ref q_700_5, .ref q_700_6, .ref q_700_7, .ref q_700_8, .ref q_700_9, .ref q_700_10, .ref q_700_11, .ref q_700_12, .ref q_700_13, .ref q_700_14, .ref q_700_15, .ref q_700_16, .ref q_700_17, .int 0, .int 0, .ref q_700_18, .ref q_700_19, .ref q_700_20, .ref q_700_21, .ref q_700_22, .ref q_700_23, .ref q_700_24, .ref q_700_25, .ref q_700_26, .ref q_700_27, .ref q_700_28, .ref q_700_29, .int 0, .long 0, .ref q_700_30, .ref q_700_31, .ref q_700_32, .ref q_700_33, .ref q_700_34, .ref q_700_35, .ref q_700_36, .ref q_700_37, .ref q_700_38, .ref q_700_39, .ref q_700_40, .ref q_700_41, .int 0, .int 0, .int 0, .int 0, .ref q_700_42, .ref q_700_43, .ref q_700_44, .ref q_700_45, .int 0, .ref q_700_46, .ref q_700_47, .int 0, .long 0]))] H := hP
  have hD : va_D A [(h_2, .inr (12, [.int 0, .int 0, .ref q_700_1, .int 0, .int 0, .int 0, .int 0, .long 0, .int 0, .int 0, .ref q_700_2, .ref q_700_3, .ref q_700_4, .ref q_700_5, .ref q_700_6, .ref q_700_7, .ref q_700_8, .ref q_700_9, .ref q_700_10, .ref q_700_11, .ref q_700_12, .ref q_700_13, .ref q_700_14, .ref q_700_15, .ref q_700_16, .ref q_700_17, .int 0, .int 0, .ref q_700_18, .ref q_700_19, .ref q_700_20, .ref q_700_21, .ref q_700_22, .ref q_700_23, .ref q_700_24, .ref q_700_25, .ref q_700_26, .ref q_700_27, .ref q_700_28, .ref q_700_29, .int 0, .long 0, .ref q_700_30, .ref q_700_31, .ref q_700_32, .ref q_700_33, .ref q_700_34, .ref q_700_35, .ref q_700_36, .ref q_700_37, .ref q_700_38, .ref q_700_39, .ref q_700_40, .ref q_700_41, .int 0, .int 0, .int 0, .int 0, .ref q_700_42, .ref q_700_43, .ref q_700_44, .ref q_700_45, .int 0, .ref q_700_46, .ref q_700_47, .int 0, .long 0]))] := hD
  refine lv_if_ne (tgt := 17) hx hb dX12_count_12 (by decide) (fun c_ => absurd rfl c_) (fun _ => ?_)
  refine lv_iconst (v := (-1)) hx hb dX12_count_15 (by decide) ?_
  have hP9 := hP.sub (ws' := []) [] rfl
  have hD9 := hD.sub (ws' := []) [] (by decide) rfl
  subst hQ
  exact W.iret (v := (-1)) hx hb hr (fun t ht hW => qi_mk (by rw [ht]; exact ⟨rfl, hP9, hD9⟩) (hS.F ht)) hS.2.2 dX12_count_16
set_option maxHeartbeats 4000000 in
set_option maxRecDepth 100000 in
theorem law_count (l : Launch) {p : Program} {e : Env} {s : State} {m : MethodId} {below : List Frame} {meth : Method} {c : Code} {b : Nat} {xs : Nat → Int32} (C0 : lw_At p s m meth c b 7 xs) {D : va_G} {cy : Nat → ClassId} (hG : gk D cy s) {A : Nat → Prop} (hAd : A = fun q => s.heap.size ≤ q) (h_1 q_1 q_3 q_4 q_25 q_46 q_50 q_54 q_58 q_62 q_63 q_64 q_67 q_85 q_90 q_93 q1_2 q_1_5 q_2_6 q_3_7 q_4_8 q_5_9 q_6_10 q_7_11 q_8_12 q_9_13 q_10_14 q_11_15 q_12_16 q_13_17 q_18_18 q_19_19 q_20_20 q1_47 q2_48 q3_49 q1_55 q2_56 q3_57 q_1_65 q_2_66 q_700_30 h_2 q_700_1 q_700_2 q_700_3 q_700_4 q_700_5 q_700_6 q_700_7 q_700_8 q_700_9 q_700_10 q_700_11 q_700_12 q_700_13 q_700_14 q_700_15 q_700_16 q_700_17 q_700_18 q_700_19 q_700_20 q_700_21 q_700_22 q_700_23 q_700_24 q_700_25 q_700_26 q_700_27 q_700_28 q_700_29 q_700_31 q_700_32 q_700_33 q_700_34 q_700_35 q_700_36 q_700_37 q_700_38 q_700_39 q_700_40 q_700_41 q_700_42 q_700_43 q_700_44 q_700_45 q_700_46 q_700_47 q_800 : Nat) {H : Heap} {locs : List Loc} (hP : va_P D vwCl [(h_1, .inr (11, [.ref q_1, .ref q_3, .ref q_4, .ref q_25, .ref q_46, .ref q_50, .ref q_54, .ref q_58, .ref q_62, .int 0, .int 0, .ref q_63, .ref q_64, .ref q_67, .ref q_85, .ref q_90, .ref q_93])), (q_1, .inr (9, [.ref q1_2, .int 0, .int 0, .int 0, .int 0, .int 32, .long 0, .int 0, .int 0])), (q_4, .inr (0, [.ref q_1_5, .ref q_2_6, .ref q_3_7, .ref q_4_8, .ref q_5_9, .ref q_6_10, .ref q_7_11, .ref q_8_12, .ref q_9_13, .ref q_10_14, .ref q_11_15, .ref q_12_16, .ref q_13_17, .int 0, .int 0, .int 0, .int 2, .ref q_18_18, .ref q_19_19, .ref q_20_20])), (q_46, .inr (10, [.ref q1_47, .ref q2_48, .ref q3_49, .int 0])), (q_54, .inr (8, [.int 0, .int 0, .int 0, .ref q1_55, .ref q2_56, .ref q3_57])), (q_64, .inr (2, [.ref q_1_65, .int 0, .int 0, .int 0, .ref q_2_66])), (q_1_65, .inl (cy 1, 6, .inl (fl 6 (-1) (fun _ => 0)))), (q_700_30, .inl (cy 1, 6, .inl (fun _ => 0))), (h_2, .inr (12, [.int 0, .int 0, .ref q_700_1, .int 0, .int 0, .int 0, .int 0, .long 0, .int 0, .int 0, .ref q_700_2, .ref q_700_3, .ref q_700_4, .ref q_700_5, .ref q_700_6, .ref q_700_7, .ref q_700_8, .ref q_700_9, .ref q_700_10, .ref q_700_11, .ref q_700_12, .ref q_700_13, .ref q_700_14, .ref q_700_15, .ref q_700_16, .ref q_700_17, .int 0, .int 0, .ref q_700_18, .ref q_700_19, .ref q_700_20, .ref q_700_21, .ref q_700_22, .ref q_700_23, .ref q_700_24, .ref q_700_25, .ref q_700_26, .ref q_700_27, .ref q_700_28, .ref q_700_29, .int 0, .long 0, .ref q_700_30, .ref q_700_31, .ref q_700_32, .ref q_700_33, .ref q_700_34, .ref q_700_35, .ref q_700_36, .ref q_700_37, .ref q_700_38, .ref q_700_39, .ref q_700_40, .ref q_700_41, .int 0, .int 0, .int 0, .int 0, .ref q_700_42, .ref q_700_43, .ref q_700_44, .ref q_700_45, .int 0, .ref q_700_46, .ref q_700_47, .int 0, .long 0])), (q_700_2, .inl (cy 1, 10, .inl (upd (fun _ => 0) 4 2))), (q_700_36, .inl (cy 1, 21, .inl (upd (upd (upd (upd (upd (upd (fun _ => 0) 9 (-1)) 10 (-1)) 11 (-1)) 12 (-1)) 13 (-1)) 14 (-1))))] H) (hD : va_D A [(h_1, .inr (11, [.ref q_1, .ref q_3, .ref q_4, .ref q_25, .ref q_46, .ref q_50, .ref q_54, .ref q_58, .ref q_62, .int 0, .int 0, .ref q_63, .ref q_64, .ref q_67, .ref q_85, .ref q_90, .ref q_93])), (q_1, .inr (9, [.ref q1_2, .int 0, .int 0, .int 0, .int 0, .int 32, .long 0, .int 0, .int 0])), (q_4, .inr (0, [.ref q_1_5, .ref q_2_6, .ref q_3_7, .ref q_4_8, .ref q_5_9, .ref q_6_10, .ref q_7_11, .ref q_8_12, .ref q_9_13, .ref q_10_14, .ref q_11_15, .ref q_12_16, .ref q_13_17, .int 0, .int 0, .int 0, .int 2, .ref q_18_18, .ref q_19_19, .ref q_20_20])), (q_46, .inr (10, [.ref q1_47, .ref q2_48, .ref q3_49, .int 0])), (q_54, .inr (8, [.int 0, .int 0, .int 0, .ref q1_55, .ref q2_56, .ref q3_57])), (q_64, .inr (2, [.ref q_1_65, .int 0, .int 0, .int 0, .ref q_2_66])), (q_1_65, .inl (cy 1, 6, .inl (fl 6 (-1) (fun _ => 0)))), (q_700_30, .inl (cy 1, 6, .inl (fun _ => 0))), (h_2, .inr (12, [.int 0, .int 0, .ref q_700_1, .int 0, .int 0, .int 0, .int 0, .long 0, .int 0, .int 0, .ref q_700_2, .ref q_700_3, .ref q_700_4, .ref q_700_5, .ref q_700_6, .ref q_700_7, .ref q_700_8, .ref q_700_9, .ref q_700_10, .ref q_700_11, .ref q_700_12, .ref q_700_13, .ref q_700_14, .ref q_700_15, .ref q_700_16, .ref q_700_17, .int 0, .int 0, .ref q_700_18, .ref q_700_19, .ref q_700_20, .ref q_700_21, .ref q_700_22, .ref q_700_23, .ref q_700_24, .ref q_700_25, .ref q_700_26, .ref q_700_27, .ref q_700_28, .ref q_700_29, .int 0, .long 0, .ref q_700_30, .ref q_700_31, .ref q_700_32, .ref q_700_33, .ref q_700_34, .ref q_700_35, .ref q_700_36, .ref q_700_37, .ref q_700_38, .ref q_700_39, .ref q_700_40, .ref q_700_41, .int 0, .int 0, .int 0, .int 0, .ref q_700_42, .ref q_700_43, .ref q_700_44, .ref q_700_45, .int 0, .ref q_700_46, .ref q_700_47, .int 0, .long 0])), (q_700_2, .inl (cy 1, 10, .inl (upd (fun _ => 0) 4 2))), (q_700_36, .inl (cy 1, 21, .inl (upd (upd (upd (upd (upd (upd (fun _ => 0) 9 (-1)) 10 (-1)) 11 (-1)) 12 (-1)) 13 (-1)) 14 (-1))))]) (hS : va_S A s.heap H locs) {ls : Array Slot} (hl : lv_has ls 7 [(4, .int 0), (3, .ref q_800), (2, .ref h_2), (1, .ref h_1), (0, .ref b)]) : W p l e room_1 s m #[Value.ref b] below meth c H locs 247 10830 (lw_Z below #[Value.ref b] s) (F0 m 1067 ls []) := by
  obtain ⟨hx, hb, hr, hml, hown, hts0, hX, hbl, hlocks, hgv⟩ := C0
  have hts : ∀ w ∈ bigG, w.before #[Value.ref b] s = true := fun w h => hts0 w (bigG_in h)
  have hg := hts
  have hown : s.vm.findClass RL = some m.cls := hown
  have hA : ∀ q : Nat, s.heap.size ≤ q → A q := fun q h => by rw [hAd]; exact h
  have hbA : ¬ A b := by rw [hAd]; exact Nat.not_le.mpr hbl
  rcases sv_0_12 (xs 1) with g_1 | g_1 | g_1 | g_1 | g_1 | g_1 | g_1 | g_1 | g_1 | g_1 | g_1 | g_1 | g_1 | g_1 | g_1
  · refine lv_aload_n hx hb dL_law_1067 rfl (lv_at hl 3 rfl) ?_
    refine lv_aload_n hx hb dL_law_1068 rfl (lv_at hl 4 rfl) ?_
    refine lv_iload hx hb dL_law_1069 (lv_at hl 0 rfl) ?_
    refine lv_iconst (v := 1) hx hb dL_law_1071 (by decide) ?_
    refine m_iadd (v := 1) hx hb dL_law_1072 (by decide) ?_
    refine va_sld hx hb hX hbl hbA hS (vin (by decide)) dL_law_1073 ?_
    refine m_as (v := xs 1) rfl ?_
    refine m_as (v := 0) g_1 ?_
    refine x_i (wr := [(q_1, .inr (9, [.ref q1_2, .int 0, .int 0, .int 0, .int 0, .int 32, .long 0, .int 0, .int 0])), (q_46, .inr (10, [.ref q1_47, .ref q2_48, .ref q3_49, .int 0])), (q_54, .inr (8, [.int 0, .int 0, .int 0, .ref q1_55, .ref q2_56, .ref q3_57])), (q_64, .inr (2, [.ref q_1_65, .int 0, .int 0, .int 0, .ref q_2_66])), (q_1_65, .inl (cy 1, 6, .inl (fl 6 (-1) (fun _ => 0)))), (q_700_30, .inl (cy 1, 6, .inl (fun _ => 0))), (h_2, .inr (12, [.int 0, .int 0, .ref q_700_1, .int 0, .int 0, .int 0, .int 0, .long 0, .int 0, .int 0, .ref q_700_2, .ref q_700_3, .ref q_700_4, .ref q_700_5, .ref q_700_6, .ref q_700_7, .ref q_700_8, .ref q_700_9, .ref q_700_10, .ref q_700_11, .ref q_700_12, .ref q_700_13, .ref q_700_14, .ref q_700_15, .ref q_700_16, .ref q_700_17, .int 0, .int 0, .ref q_700_18, .ref q_700_19, .ref q_700_20, .ref q_700_21, .ref q_700_22, .ref q_700_23, .ref q_700_24, .ref q_700_25, .ref q_700_26, .ref q_700_27, .ref q_700_28, .ref q_700_29, .int 0, .long 0, .ref q_700_30, .ref q_700_31, .ref q_700_32, .ref q_700_33, .ref q_700_34, .ref q_700_35, .ref q_700_36, .ref q_700_37, .ref q_700_38, .ref q_700_39, .ref q_700_40, .ref q_700_41, .int 0, .int 0, .int 0, .int 0, .ref q_700_42, .ref q_700_43, .ref q_700_44, .ref q_700_45, .int 0, .ref q_700_46, .ref q_700_47, .int 0, .long 0])), (q_700_2, .inl (cy 1, 10, .inl (upd (fun _ => 0) 4 2))), (q_700_36, .inl (cy 1, 21, .inl (upd (upd (upd (upd (upd (upd (fun _ => 0) 9 (-1)) 10 (-1)) 11 (-1)) 12 (-1)) 13 (-1)) 14 (-1))))]) hP hD hS hA [0, 2] [1, 3, 4, 5, 6, 7, 8, 9, 10] rfl rfl (by decide) (by decide) (va_runV (As := [.int 0]) (rest := []) ⟨hx, hb, hml, hown, hts⟩ (c_X11_count_1 l D cy h_1 q_1 q_3 q_4 q_25 q_46 q_50 q_54 q_58 q_62 q_63 q_64 q_67 q_85 q_90 q_93 q_1_5 q_2_6 q_3_7 q_4_8 q_5_9 q_6_10 q_7_11 q_8_12 q_9_13 q_10_14 q_11_15 q_12_16 q_13_17 q_18_18 q_19_19 q_20_20 H.size) (cwV 1 hts (gV0 km_L_123 ki_X11_count kz_X11_count kn_X11 kc_X11_count) rfl rfl rfl (by decide +kernel) ⟨(Nat.le_of_ble_eq_true rfl), (Nat.le_of_ble_eq_true rfl)⟩) (preV hG hP hD [0, 2] rfl (by decide) 11 0 rfl rfl) rfl rfl hl.1 rfl (lv_room (Nat.le_of_ble_eq_true rfl)) dL_law_1074 ⟨(Nat.le_of_ble_eq_true rfl), (Nat.le_of_ble_eq_true rfl)⟩) (fun r_2 H locs hB hj hS => ?_)
    obtain ⟨hres, hP1, hD1⟩ := hB
    subst hres
    obtain ⟨hP, hD⟩ := hj _ hP1 hD1
    have hP : va_P D vwCl [(q_1, .inr (9, [.ref q1_2, .int 0, .int 0, .int 0, .int 0, .int 32, .long 0, .int 0, .int 0])), (q_46, .inr (10, [.ref q1_47, .ref q2_48, .ref q3_49, .int 0])), (q_54, .inr (8, [.int 0, .int 0, .int 0, .ref q1_55, .ref q2_56, .ref q3_57])), (q_64, .inr (2, [.ref q_1_65, .int 0, .int 0, .int 0, .ref q_2_66])), (q_1_65, .inl (cy 1, 6, .inl (fl 6 (-1) (fun _ => 0)))), (q_700_30, .inl (cy 1, 6, .inl (fun _ => 0))), (h_2, .inr (12, [.int 0, .int 0, .ref q_700_1, .int 0, .int 0, .int 0, .int 0, .long 0, .int 0, .int 0, .ref q_700_2, .ref q_700_3, .ref q_700_4, .ref q_700_5, .ref q_700_6, .ref q_700_7, .ref q_700_8, .ref q_700_9, .ref q_700_10, .ref q_700_11, .ref q_700_12, .ref q_700_13, .ref q_700_14, .ref q_700_15, .ref q_700_16, .ref q_700_17, .int 0, .int 0, .ref q_700_18, .ref q_700_19, .ref q_700_20, .ref q_700_21, .ref q_700_22, .ref q_700_23, .ref q_700_24, .ref q_700_25, .ref q_700_26, .ref q_700_27, .ref q_700_28, .ref q_700_29, .int 0, .long 0, .ref q_700_30, .ref q_700_31, .ref q_700_32, .ref q_700_33, .ref q_700_34, .ref q_700_35, .ref q_700_36, .ref q_700_37, .ref q_700_38, .ref q_700_39, .ref q_700_40, .ref q_700_41, .int 0, .int 0, .int 0, .int 0, .ref q_700_42, .ref q_700_43, .ref q_700_44, .ref q_700_45, .int 0, .ref q_700_46, .ref q_700_47, .int 0, .long 0])), (q_700_2, .inl (cy 1, 10, .inl (upd (fun _ => 0) 4 2))), (q_700_36, .inl (cy 1, 21, .inl (upd (upd (upd (upd (upd (upd (fun _ => 0) 9 (-1)) 10 (-1)) 11 (-1)) 12 (-1)) 13 (-1)) 14 (-1))))] H := hP
    have hD : va_D A [(q_1, .inr (9, [.ref q1_2, .int 0, .int 0, .int 0, .int 0, .int 32, .long 0, .int 0, .int 0])), (q_46, .inr (10, [.ref q1_47, .ref q2_48, .ref q3_49, .int 0])), (q_54, .inr (8, [.int 0, .int 0, .int 0, .ref q1_55, .ref q2_56, .ref q3_57])), (q_64, .inr (2, [.ref q_1_65, .int 0, .int 0, .int 0, .ref q_2_66])), (q_1_65, .inl (cy 1, 6, .inl (fl 6 (-1) (fun _ => 0)))), (q_700_30, .inl (cy 1, 6, .inl (fun _ => 0))), (h_2, .inr (12, [.int 0, .int 0, .ref q_700_1, .int 0, .int 0, .int 0, .int 0, .long 0, .int 0, .int 0, .ref q_700_2, .ref q_700_3, .ref q_700_4, .ref q_700_5, .ref q_700_6, .ref q_700_7, .ref q_700_8, .ref q_700_9, .ref q_700_10, .ref q_700_11, .ref q_700_12, .ref q_700_13, .ref q_700_14, .ref q_700_15, .ref q_700_16, .ref q_700_17, .int 0, .int 0, .ref q_700_18, .ref q_700_19, .ref q_700_20, .ref q_700_21, .ref q_700_22, .ref q_700_23, .ref q_700_24, .ref q_700_25, .ref q_700_26, .ref q_700_27, .ref q_700_28, .ref q_700_29, .int 0, .long 0, .ref q_700_30, .ref q_700_31, .ref q_700_32, .ref q_700_33, .ref q_700_34, .ref q_700_35, .ref q_700_36, .ref q_700_37, .ref q_700_38, .ref q_700_39, .ref q_700_40, .ref q_700_41, .int 0, .int 0, .int 0, .int 0, .ref q_700_42, .ref q_700_43, .ref q_700_44, .ref q_700_45, .int 0, .ref q_700_46, .ref q_700_47, .int 0, .long 0])), (q_700_2, .inl (cy 1, 10, .inl (upd (fun _ => 0) 4 2))), (q_700_36, .inl (cy 1, 21, .inl (upd (upd (upd (upd (upd (upd (fun _ => 0) 9 (-1)) 10 (-1)) 11 (-1)) 12 (-1)) 13 (-1)) 14 (-1))))] := hD
    refine lv_aload_n hx hb dL_law_1077 rfl (lv_at hl 2 rfl) ?_
    refine lv_aload_n hx hb dL_law_1078 rfl (lv_at hl 4 rfl) ?_
    refine lv_iload hx hb dL_law_1079 (lv_at hl 0 rfl) ?_
    refine lv_iconst (v := 1) hx hb dL_law_1081 (by decide) ?_
    refine m_iadd (v := 1) hx hb dL_law_1082 (by decide) ?_
    refine va_sld hx hb hX hbl hbA hS (vin (by decide)) dL_law_1083 ?_
    refine m_as (v := xs 1) rfl ?_
    refine m_as (v := 0) g_1 ?_
    refine x_i (wr := [(q_1, .inr (9, [.ref q1_2, .int 0, .int 0, .int 0, .int 0, .int 32, .long 0, .int 0, .int 0])), (q_46, .inr (10, [.ref q1_47, .ref q2_48, .ref q3_49, .int 0])), (q_54, .inr (8, [.int 0, .int 0, .int 0, .ref q1_55, .ref q2_56, .ref q3_57])), (q_64, .inr (2, [.ref q_1_65, .int 0, .int 0, .int 0, .ref q_2_66])), (q_1_65, .inl (cy 1, 6, .inl (fl 6 (-1) (fun _ => 0)))), (q_700_30, .inl (cy 1, 6, .inl (fun _ => 0))), (q_700_36, .inl (cy 1, 21, .inl (upd (upd (upd (upd (upd (upd (fun _ => 0) 9 (-1)) 10 (-1)) 11 (-1)) 12 (-1)) 13 (-1)) 14 (-1))))]) hP hD hS hA [6, 7] [0, 1, 2, 3, 4, 5, 8] rfl rfl (by decide) (by decide) (va_runV (As := [.int 0]) (rest := [.int 0]) ⟨hx, hb, hml, hown, hts⟩ (c_X12_count_1 l D cy h_2 q_700_1 q_700_2 q_700_3 q_700_4 q_700_5 q_700_6 q_700_7 q_700_8 q_700_9 q_700_10 q_700_11 q_700_12 q_700_13 q_700_14 q_700_15 q_700_16 q_700_17 q_700_18 q_700_19 q_700_20 q_700_21 q_700_22 q_700_23 q_700_24 q_700_25 q_700_26 q_700_27 q_700_28 q_700_29 q_700_30 q_700_31 q_700_32 q_700_33 q_700_34 q_700_35 q_700_36 q_700_37 q_700_38 q_700_39 q_700_40 q_700_41 q_700_42 q_700_43 q_700_44 q_700_45 q_700_46 q_700_47 H.size) (cwV 1 hts (gV0 km_L_126 ki_X12_count kz_X12_count kn_X12 kc_X12_count) rfl rfl rfl (by decide +kernel) ⟨(Nat.le_of_ble_eq_true rfl), (Nat.le_of_ble_eq_true rfl)⟩) (preV hG hP hD [6, 7] rfl (by decide) 12 6 rfl rfl) rfl rfl hl.1 rfl (lv_room (Nat.le_of_ble_eq_true rfl)) dL_law_1084 ⟨(Nat.le_of_ble_eq_true rfl), (Nat.le_of_ble_eq_true rfl)⟩) (fun r_3 H locs hB hj hS => ?_)
    obtain ⟨hres, hP1, hD1⟩ := hB
    subst hres
    obtain ⟨hP, hD⟩ := hj _ hP1 hD1
    have hP : va_P D vwCl [(q_1, .inr (9, [.ref q1_2, .int 0, .int 0, .int 0, .int 0, .int 32, .long 0, .int 0, .int 0])), (q_46, .inr (10, [.ref q1_47, .ref q2_48, .ref q3_49, .int 0])), (q_54, .inr (8, [.int 0, .int 0, .int 0, .ref q1_55, .ref q2_56, .ref q3_57])), (q_64, .inr (2, [.ref q_1_65, .int 0, .int 0, .int 0, .ref q_2_66])), (q_1_65, .inl (cy 1, 6, .inl (fl 6 (-1) (fun _ => 0)))), (q_700_30, .inl (cy 1, 6, .inl (fun _ => 0))), (q_700_36, .inl (cy 1, 21, .inl (upd (upd (upd (upd (upd (upd (fun _ => 0) 9 (-1)) 10 (-1)) 11 (-1)) 12 (-1)) 13 (-1)) 14 (-1))))] H := hP
    have hD : va_D A [(q_1, .inr (9, [.ref q1_2, .int 0, .int 0, .int 0, .int 0, .int 32, .long 0, .int 0, .int 0])), (q_46, .inr (10, [.ref q1_47, .ref q2_48, .ref q3_49, .int 0])), (q_54, .inr (8, [.int 0, .int 0, .int 0, .ref q1_55, .ref q2_56, .ref q3_57])), (q_64, .inr (2, [.ref q_1_65, .int 0, .int 0, .int 0, .ref q_2_66])), (q_1_65, .inl (cy 1, 6, .inl (fl 6 (-1) (fun _ => 0)))), (q_700_30, .inl (cy 1, 6, .inl (fun _ => 0))), (q_700_36, .inl (cy 1, 21, .inl (upd (upd (upd (upd (upd (upd (fun _ => 0) 9 (-1)) 10 (-1)) 11 (-1)) 12 (-1)) 13 (-1)) 14 (-1))))] := hD
    refine lv_icmp_eq (tgt := 1092) hx hb dL_law_1087 (by decide) (fun _ => ?_) (fun c_ => absurd rfl c_)
    refine lv_iinc (v := 7) (lv' := [(4, .int 7), (3, .ref q_800), (2, .ref h_2), (1, .ref h_1), (0, .ref b)]) hx hb dL_law_1092 hl (k := 0) rfl (by decide) (by decide) rfl (fun ls hl => ?_)
    refine lv_goto (tgt := 23) hx hb dL_law_1095 (by decide) ?_
    refine lv_iload hx hb dL_law_23 (lv_at hl 0 rfl) ?_
    refine lv_aload_n hx hb dL_law_25 rfl (lv_at hl 4 rfl) ?_
    refine va_slen hx hb hX hbl hbA hS dL_law_26 ?_
    refine m_as (v := 7) rfl ?_
    refine lv_bipush (v := 7) hx hb dL_law_27 (by decide) ?_
    refine m_isub (v := 0) hx hb dL_law_29 (by decide) ?_
    refine lv_icmp_gt (tgt := 1098) hx hb dL_law_30 (by decide) (fun _ => ?_) (fun c_ => absurd (by decide) c_)
    refine lv_iconst (v := 1) hx hb dL_law_1098 (by decide) ?_
    exact lw_end hx hb hr hlocks hAd hS (Nat.le_of_ble_eq_true rfl) (Nat.le_of_ble_eq_true rfl) dL_law_1099
  · refine lv_aload_n hx hb dL_law_1067 rfl (lv_at hl 3 rfl) ?_
    refine lv_aload_n hx hb dL_law_1068 rfl (lv_at hl 4 rfl) ?_
    refine lv_iload hx hb dL_law_1069 (lv_at hl 0 rfl) ?_
    refine lv_iconst (v := 1) hx hb dL_law_1071 (by decide) ?_
    refine m_iadd (v := 1) hx hb dL_law_1072 (by decide) ?_
    refine va_sld hx hb hX hbl hbA hS (vin (by decide)) dL_law_1073 ?_
    refine m_as (v := xs 1) rfl ?_
    refine m_as (v := 1) g_1 ?_
    refine x_i (wr := [(q_1, .inr (9, [.ref q1_2, .int 0, .int 0, .int 0, .int 0, .int 32, .long 0, .int 0, .int 0])), (q_46, .inr (10, [.ref q1_47, .ref q2_48, .ref q3_49, .int 0])), (q_54, .inr (8, [.int 0, .int 0, .int 0, .ref q1_55, .ref q2_56, .ref q3_57])), (q_64, .inr (2, [.ref q_1_65, .int 0, .int 0, .int 0, .ref q_2_66])), (q_1_65, .inl (cy 1, 6, .inl (fl 6 (-1) (fun _ => 0)))), (q_700_30, .inl (cy 1, 6, .inl (fun _ => 0))), (h_2, .inr (12, [.int 0, .int 0, .ref q_700_1, .int 0, .int 0, .int 0, .int 0, .long 0, .int 0, .int 0, .ref q_700_2, .ref q_700_3, .ref q_700_4, .ref q_700_5, .ref q_700_6, .ref q_700_7, .ref q_700_8, .ref q_700_9, .ref q_700_10, .ref q_700_11, .ref q_700_12, .ref q_700_13, .ref q_700_14, .ref q_700_15, .ref q_700_16, .ref q_700_17, .int 0, .int 0, .ref q_700_18, .ref q_700_19, .ref q_700_20, .ref q_700_21, .ref q_700_22, .ref q_700_23, .ref q_700_24, .ref q_700_25, .ref q_700_26, .ref q_700_27, .ref q_700_28, .ref q_700_29, .int 0, .long 0, .ref q_700_30, .ref q_700_31, .ref q_700_32, .ref q_700_33, .ref q_700_34, .ref q_700_35, .ref q_700_36, .ref q_700_37, .ref q_700_38, .ref q_700_39, .ref q_700_40, .ref q_700_41, .int 0, .int 0, .int 0, .int 0, .ref q_700_42, .ref q_700_43, .ref q_700_44, .ref q_700_45, .int 0, .ref q_700_46, .ref q_700_47, .int 0, .long 0])), (q_700_2, .inl (cy 1, 10, .inl (upd (fun _ => 0) 4 2))), (q_700_36, .inl (cy 1, 21, .inl (upd (upd (upd (upd (upd (upd (fun _ => 0) 9 (-1)) 10 (-1)) 11 (-1)) 12 (-1)) 13 (-1)) 14 (-1))))]) hP hD hS hA [0, 2] [1, 3, 4, 5, 6, 7, 8, 9, 10] rfl rfl (by decide) (by decide) (va_runV (As := [.int 1]) (rest := []) ⟨hx, hb, hml, hown, hts⟩ (c_X11_count_2 l D cy h_1 q_1 q_3 q_4 q_25 q_46 q_50 q_54 q_58 q_62 q_63 q_64 q_67 q_85 q_90 q_93 q_1_5 q_2_6 q_3_7 q_4_8 q_5_9 q_6_10 q_7_11 q_8_12 q_9_13 q_10_14 q_11_15 q_12_16 q_13_17 q_18_18 q_19_19 q_20_20 H.size) (cwV 1 hts (gV0 km_L_123 ki_X11_count kz_X11_count kn_X11 kc_X11_count) rfl rfl rfl (by decide +kernel) ⟨(Nat.le_of_ble_eq_true rfl), (Nat.le_of_ble_eq_true rfl)⟩) (preV hG hP hD [0, 2] rfl (by decide) 11 0 rfl rfl) rfl rfl hl.1 rfl (lv_room (Nat.le_of_ble_eq_true rfl)) dL_law_1074 ⟨(Nat.le_of_ble_eq_true rfl), (Nat.le_of_ble_eq_true rfl)⟩) (fun r_4 H locs hB hj hS => ?_)
    obtain ⟨hres, hP1, hD1⟩ := hB
    subst hres
    obtain ⟨hP, hD⟩ := hj _ hP1 hD1
    have hP : va_P D vwCl [(q_1, .inr (9, [.ref q1_2, .int 0, .int 0, .int 0, .int 0, .int 32, .long 0, .int 0, .int 0])), (q_46, .inr (10, [.ref q1_47, .ref q2_48, .ref q3_49, .int 0])), (q_54, .inr (8, [.int 0, .int 0, .int 0, .ref q1_55, .ref q2_56, .ref q3_57])), (q_64, .inr (2, [.ref q_1_65, .int 0, .int 0, .int 0, .ref q_2_66])), (q_1_65, .inl (cy 1, 6, .inl (fl 6 (-1) (fun _ => 0)))), (q_700_30, .inl (cy 1, 6, .inl (fun _ => 0))), (h_2, .inr (12, [.int 0, .int 0, .ref q_700_1, .int 0, .int 0, .int 0, .int 0, .long 0, .int 0, .int 0, .ref q_700_2, .ref q_700_3, .ref q_700_4, .ref q_700_5, .ref q_700_6, .ref q_700_7, .ref q_700_8, .ref q_700_9, .ref q_700_10, .ref q_700_11, .ref q_700_12, .ref q_700_13, .ref q_700_14, .ref q_700_15, .ref q_700_16, .ref q_700_17, .int 0, .int 0, .ref q_700_18, .ref q_700_19, .ref q_700_20, .ref q_700_21, .ref q_700_22, .ref q_700_23, .ref q_700_24, .ref q_700_25, .ref q_700_26, .ref q_700_27, .ref q_700_28, .ref q_700_29, .int 0, .long 0, .ref q_700_30, .ref q_700_31, .ref q_700_32, .ref q_700_33, .ref q_700_34, .ref q_700_35, .ref q_700_36, .ref q_700_37, .ref q_700_38, .ref q_700_39, .ref q_700_40, .ref q_700_41, .int 0, .int 0, .int 0, .int 0, .ref q_700_42, .ref q_700_43, .ref q_700_44, .ref q_700_45, .int 0, .ref q_700_46, .ref q_700_47, .int 0, .long 0])), (q_700_2, .inl (cy 1, 10, .inl (upd (fun _ => 0) 4 2))), (q_700_36, .inl (cy 1, 21, .inl (upd (upd (upd (upd (upd (upd (fun _ => 0) 9 (-1)) 10 (-1)) 11 (-1)) 12 (-1)) 13 (-1)) 14 (-1))))] H := hP
    have hD : va_D A [(q_1, .inr (9, [.ref q1_2, .int 0, .int 0, .int 0, .int 0, .int 32, .long 0, .int 0, .int 0])), (q_46, .inr (10, [.ref q1_47, .ref q2_48, .ref q3_49, .int 0])), (q_54, .inr (8, [.int 0, .int 0, .int 0, .ref q1_55, .ref q2_56, .ref q3_57])), (q_64, .inr (2, [.ref q_1_65, .int 0, .int 0, .int 0, .ref q_2_66])), (q_1_65, .inl (cy 1, 6, .inl (fl 6 (-1) (fun _ => 0)))), (q_700_30, .inl (cy 1, 6, .inl (fun _ => 0))), (h_2, .inr (12, [.int 0, .int 0, .ref q_700_1, .int 0, .int 0, .int 0, .int 0, .long 0, .int 0, .int 0, .ref q_700_2, .ref q_700_3, .ref q_700_4, .ref q_700_5, .ref q_700_6, .ref q_700_7, .ref q_700_8, .ref q_700_9, .ref q_700_10, .ref q_700_11, .ref q_700_12, .ref q_700_13, .ref q_700_14, .ref q_700_15, .ref q_700_16, .ref q_700_17, .int 0, .int 0, .ref q_700_18, .ref q_700_19, .ref q_700_20, .ref q_700_21, .ref q_700_22, .ref q_700_23, .ref q_700_24, .ref q_700_25, .ref q_700_26, .ref q_700_27, .ref q_700_28, .ref q_700_29, .int 0, .long 0, .ref q_700_30, .ref q_700_31, .ref q_700_32, .ref q_700_33, .ref q_700_34, .ref q_700_35, .ref q_700_36, .ref q_700_37, .ref q_700_38, .ref q_700_39, .ref q_700_40, .ref q_700_41, .int 0, .int 0, .int 0, .int 0, .ref q_700_42, .ref q_700_43, .ref q_700_44, .ref q_700_45, .int 0, .ref q_700_46, .ref q_700_47, .int 0, .long 0])), (q_700_2, .inl (cy 1, 10, .inl (upd (fun _ => 0) 4 2))), (q_700_36, .inl (cy 1, 21, .inl (upd (upd (upd (upd (upd (upd (fun _ => 0) 9 (-1)) 10 (-1)) 11 (-1)) 12 (-1)) 13 (-1)) 14 (-1))))] := hD
    refine lv_aload_n hx hb dL_law_1077 rfl (lv_at hl 2 rfl) ?_
    refine lv_aload_n hx hb dL_law_1078 rfl (lv_at hl 4 rfl) ?_
    refine lv_iload hx hb dL_law_1079 (lv_at hl 0 rfl) ?_
    refine lv_iconst (v := 1) hx hb dL_law_1081 (by decide) ?_
    refine m_iadd (v := 1) hx hb dL_law_1082 (by decide) ?_
    refine va_sld hx hb hX hbl hbA hS (vin (by decide)) dL_law_1083 ?_
    refine m_as (v := xs 1) rfl ?_
    refine m_as (v := 1) g_1 ?_
    refine x_i (wr := [(q_1, .inr (9, [.ref q1_2, .int 0, .int 0, .int 0, .int 0, .int 32, .long 0, .int 0, .int 0])), (q_46, .inr (10, [.ref q1_47, .ref q2_48, .ref q3_49, .int 0])), (q_54, .inr (8, [.int 0, .int 0, .int 0, .ref q1_55, .ref q2_56, .ref q3_57])), (q_64, .inr (2, [.ref q_1_65, .int 0, .int 0, .int 0, .ref q_2_66])), (q_1_65, .inl (cy 1, 6, .inl (fl 6 (-1) (fun _ => 0)))), (q_700_30, .inl (cy 1, 6, .inl (fun _ => 0))), (q_700_36, .inl (cy 1, 21, .inl (upd (upd (upd (upd (upd (upd (fun _ => 0) 9 (-1)) 10 (-1)) 11 (-1)) 12 (-1)) 13 (-1)) 14 (-1))))]) hP hD hS hA [6, 7] [0, 1, 2, 3, 4, 5, 8] rfl rfl (by decide) (by decide) (va_runV (As := [.int 1]) (rest := [.int 0]) ⟨hx, hb, hml, hown, hts⟩ (c_X12_count_2 l D cy h_2 q_700_1 q_700_2 q_700_3 q_700_4 q_700_5 q_700_6 q_700_7 q_700_8 q_700_9 q_700_10 q_700_11 q_700_12 q_700_13 q_700_14 q_700_15 q_700_16 q_700_17 q_700_18 q_700_19 q_700_20 q_700_21 q_700_22 q_700_23 q_700_24 q_700_25 q_700_26 q_700_27 q_700_28 q_700_29 q_700_30 q_700_31 q_700_32 q_700_33 q_700_34 q_700_35 q_700_36 q_700_37 q_700_38 q_700_39 q_700_40 q_700_41 q_700_42 q_700_43 q_700_44 q_700_45 q_700_46 q_700_47 H.size) (cwV 1 hts (gV0 km_L_126 ki_X12_count kz_X12_count kn_X12 kc_X12_count) rfl rfl rfl (by decide +kernel) ⟨(Nat.le_of_ble_eq_true rfl), (Nat.le_of_ble_eq_true rfl)⟩) (preV hG hP hD [6, 7] rfl (by decide) 12 6 rfl rfl) rfl rfl hl.1 rfl (lv_room (Nat.le_of_ble_eq_true rfl)) dL_law_1084 ⟨(Nat.le_of_ble_eq_true rfl), (Nat.le_of_ble_eq_true rfl)⟩) (fun r_5 H locs hB hj hS => ?_)
    obtain ⟨hres, hP1, hD1⟩ := hB
    subst hres
    obtain ⟨hP, hD⟩ := hj _ hP1 hD1
    have hP : va_P D vwCl [(q_1, .inr (9, [.ref q1_2, .int 0, .int 0, .int 0, .int 0, .int 32, .long 0, .int 0, .int 0])), (q_46, .inr (10, [.ref q1_47, .ref q2_48, .ref q3_49, .int 0])), (q_54, .inr (8, [.int 0, .int 0, .int 0, .ref q1_55, .ref q2_56, .ref q3_57])), (q_64, .inr (2, [.ref q_1_65, .int 0, .int 0, .int 0, .ref q_2_66])), (q_1_65, .inl (cy 1, 6, .inl (fl 6 (-1) (fun _ => 0)))), (q_700_30, .inl (cy 1, 6, .inl (fun _ => 0))), (q_700_36, .inl (cy 1, 21, .inl (upd (upd (upd (upd (upd (upd (fun _ => 0) 9 (-1)) 10 (-1)) 11 (-1)) 12 (-1)) 13 (-1)) 14 (-1))))] H := hP
    have hD : va_D A [(q_1, .inr (9, [.ref q1_2, .int 0, .int 0, .int 0, .int 0, .int 32, .long 0, .int 0, .int 0])), (q_46, .inr (10, [.ref q1_47, .ref q2_48, .ref q3_49, .int 0])), (q_54, .inr (8, [.int 0, .int 0, .int 0, .ref q1_55, .ref q2_56, .ref q3_57])), (q_64, .inr (2, [.ref q_1_65, .int 0, .int 0, .int 0, .ref q_2_66])), (q_1_65, .inl (cy 1, 6, .inl (fl 6 (-1) (fun _ => 0)))), (q_700_30, .inl (cy 1, 6, .inl (fun _ => 0))), (q_700_36, .inl (cy 1, 21, .inl (upd (upd (upd (upd (upd (upd (fun _ => 0) 9 (-1)) 10 (-1)) 11 (-1)) 12 (-1)) 13 (-1)) 14 (-1))))] := hD
    refine lv_icmp_eq (tgt := 1092) hx hb dL_law_1087 (by decide) (fun _ => ?_) (fun c_ => absurd rfl c_)
    refine lv_iinc (v := 7) (lv' := [(4, .int 7), (3, .ref q_800), (2, .ref h_2), (1, .ref h_1), (0, .ref b)]) hx hb dL_law_1092 hl (k := 0) rfl (by decide) (by decide) rfl (fun ls hl => ?_)
    refine lv_goto (tgt := 23) hx hb dL_law_1095 (by decide) ?_
    refine lv_iload hx hb dL_law_23 (lv_at hl 0 rfl) ?_
    refine lv_aload_n hx hb dL_law_25 rfl (lv_at hl 4 rfl) ?_
    refine va_slen hx hb hX hbl hbA hS dL_law_26 ?_
    refine m_as (v := 7) rfl ?_
    refine lv_bipush (v := 7) hx hb dL_law_27 (by decide) ?_
    refine m_isub (v := 0) hx hb dL_law_29 (by decide) ?_
    refine lv_icmp_gt (tgt := 1098) hx hb dL_law_30 (by decide) (fun _ => ?_) (fun c_ => absurd (by decide) c_)
    refine lv_iconst (v := 1) hx hb dL_law_1098 (by decide) ?_
    exact lw_end hx hb hr hlocks hAd hS (Nat.le_of_ble_eq_true rfl) (Nat.le_of_ble_eq_true rfl) dL_law_1099
  · refine lv_aload_n hx hb dL_law_1067 rfl (lv_at hl 3 rfl) ?_
    refine lv_aload_n hx hb dL_law_1068 rfl (lv_at hl 4 rfl) ?_
    refine lv_iload hx hb dL_law_1069 (lv_at hl 0 rfl) ?_
    refine lv_iconst (v := 1) hx hb dL_law_1071 (by decide) ?_
    refine m_iadd (v := 1) hx hb dL_law_1072 (by decide) ?_
    refine va_sld hx hb hX hbl hbA hS (vin (by decide)) dL_law_1073 ?_
    refine m_as (v := xs 1) rfl ?_
    refine m_as (v := 2) g_1 ?_
    refine x_i (wr := [(q_1, .inr (9, [.ref q1_2, .int 0, .int 0, .int 0, .int 0, .int 32, .long 0, .int 0, .int 0])), (q_46, .inr (10, [.ref q1_47, .ref q2_48, .ref q3_49, .int 0])), (q_54, .inr (8, [.int 0, .int 0, .int 0, .ref q1_55, .ref q2_56, .ref q3_57])), (q_64, .inr (2, [.ref q_1_65, .int 0, .int 0, .int 0, .ref q_2_66])), (q_1_65, .inl (cy 1, 6, .inl (fl 6 (-1) (fun _ => 0)))), (q_700_30, .inl (cy 1, 6, .inl (fun _ => 0))), (h_2, .inr (12, [.int 0, .int 0, .ref q_700_1, .int 0, .int 0, .int 0, .int 0, .long 0, .int 0, .int 0, .ref q_700_2, .ref q_700_3, .ref q_700_4, .ref q_700_5, .ref q_700_6, .ref q_700_7, .ref q_700_8, .ref q_700_9, .ref q_700_10, .ref q_700_11, .ref q_700_12, .ref q_700_13, .ref q_700_14, .ref q_700_15, .ref q_700_16, .ref q_700_17, .int 0, .int 0, .ref q_700_18, .ref q_700_19, .ref q_700_20, .ref q_700_21, .ref q_700_22, .ref q_700_23, .ref q_700_24, .ref q_700_25, .ref q_700_26, .ref q_700_27, .ref q_700_28, .ref q_700_29, .int 0, .long 0, .ref q_700_30, .ref q_700_31, .ref q_700_32, .ref q_700_33, .ref q_700_34, .ref q_700_35, .ref q_700_36, .ref q_700_37, .ref q_700_38, .ref q_700_39, .ref q_700_40, .ref q_700_41, .int 0, .int 0, .int 0, .int 0, .ref q_700_42, .ref q_700_43, .ref q_700_44, .ref q_700_45, .int 0, .ref q_700_46, .ref q_700_47, .int 0, .long 0])), (q_700_2, .inl (cy 1, 10, .inl (upd (fun _ => 0) 4 2))), (q_700_36, .inl (cy 1, 21, .inl (upd (upd (upd (upd (upd (upd (fun _ => 0) 9 (-1)) 10 (-1)) 11 (-1)) 12 (-1)) 13 (-1)) 14 (-1))))]) hP hD hS hA [0, 2] [1, 3, 4, 5, 6, 7, 8, 9, 10] rfl rfl (by decide) (by decide) (va_runV (As := [.int 2]) (rest := []) ⟨hx, hb, hml, hown, hts⟩ (c_X11_count_3 l D cy h_1 q_1 q_3 q_4 q_25 q_46 q_50 q_54 q_58 q_62 q_63 q_64 q_67 q_85 q_90 q_93 q_1_5 q_2_6 q_3_7 q_4_8 q_5_9 q_6_10 q_7_11 q_8_12 q_9_13 q_10_14 q_11_15 q_12_16 q_13_17 q_18_18 q_19_19 q_20_20 H.size) (cwV 1 hts (gV0 km_L_123 ki_X11_count kz_X11_count kn_X11 kc_X11_count) rfl rfl rfl (by decide +kernel) ⟨(Nat.le_of_ble_eq_true rfl), (Nat.le_of_ble_eq_true rfl)⟩) (preV hG hP hD [0, 2] rfl (by decide) 11 0 rfl rfl) rfl rfl hl.1 rfl (lv_room (Nat.le_of_ble_eq_true rfl)) dL_law_1074 ⟨(Nat.le_of_ble_eq_true rfl), (Nat.le_of_ble_eq_true rfl)⟩) (fun r_6 H locs hB hj hS => ?_)
    obtain ⟨hres, hP1, hD1⟩ := hB
    subst hres
    obtain ⟨hP, hD⟩ := hj _ hP1 hD1
    have hP : va_P D vwCl [(q_1, .inr (9, [.ref q1_2, .int 0, .int 0, .int 0, .int 0, .int 32, .long 0, .int 0, .int 0])), (q_46, .inr (10, [.ref q1_47, .ref q2_48, .ref q3_49, .int 0])), (q_54, .inr (8, [.int 0, .int 0, .int 0, .ref q1_55, .ref q2_56, .ref q3_57])), (q_64, .inr (2, [.ref q_1_65, .int 0, .int 0, .int 0, .ref q_2_66])), (q_1_65, .inl (cy 1, 6, .inl (fl 6 (-1) (fun _ => 0)))), (q_700_30, .inl (cy 1, 6, .inl (fun _ => 0))), (h_2, .inr (12, [.int 0, .int 0, .ref q_700_1, .int 0, .int 0, .int 0, .int 0, .long 0, .int 0, .int 0, .ref q_700_2, .ref q_700_3, .ref q_700_4, .ref q_700_5, .ref q_700_6, .ref q_700_7, .ref q_700_8, .ref q_700_9, .ref q_700_10, .ref q_700_11, .ref q_700_12, .ref q_700_13, .ref q_700_14, .ref q_700_15, .ref q_700_16, .ref q_700_17, .int 0, .int 0, .ref q_700_18, .ref q_700_19, .ref q_700_20, .ref q_700_21, .ref q_700_22, .ref q_700_23, .ref q_700_24, .ref q_700_25, .ref q_700_26, .ref q_700_27, .ref q_700_28, .ref q_700_29, .int 0, .long 0, .ref q_700_30, .ref q_700_31, .ref q_700_32, .ref q_700_33, .ref q_700_34, .ref q_700_35, .ref q_700_36, .ref q_700_37, .ref q_700_38, .ref q_700_39, .ref q_700_40, .ref q_700_41, .int 0, .int 0, .int 0, .int 0, .ref q_700_42, .ref q_700_43, .ref q_700_44, .ref q_700_45, .int 0, .ref q_700_46, .ref q_700_47, .int 0, .long 0])), (q_700_2, .inl (cy 1, 10, .inl (upd (fun _ => 0) 4 2))), (q_700_36, .inl (cy 1, 21, .inl (upd (upd (upd (upd (upd (upd (fun _ => 0) 9 (-1)) 10 (-1)) 11 (-1)) 12 (-1)) 13 (-1)) 14 (-1))))] H := hP
    have hD : va_D A [(q_1, .inr (9, [.ref q1_2, .int 0, .int 0, .int 0, .int 0, .int 32, .long 0, .int 0, .int 0])), (q_46, .inr (10, [.ref q1_47, .ref q2_48, .ref q3_49, .int 0])), (q_54, .inr (8, [.int 0, .int 0, .int 0, .ref q1_55, .ref q2_56, .ref q3_57])), (q_64, .inr (2, [.ref q_1_65, .int 0, .int 0, .int 0, .ref q_2_66])), (q_1_65, .inl (cy 1, 6, .inl (fl 6 (-1) (fun _ => 0)))), (q_700_30, .inl (cy 1, 6, .inl (fun _ => 0))), (h_2, .inr (12, [.int 0, .int 0, .ref q_700_1, .int 0, .int 0, .int 0, .int 0, .long 0, .int 0, .int 0, .ref q_700_2, .ref q_700_3, .ref q_700_4, .ref q_700_5, .ref q_700_6, .ref q_700_7, .ref q_700_8, .ref q_700_9, .ref q_700_10, .ref q_700_11, .ref q_700_12, .ref q_700_13, .ref q_700_14, .ref q_700_15, .ref q_700_16, .ref q_700_17, .int 0, .int 0, .ref q_700_18, .ref q_700_19, .ref q_700_20, .ref q_700_21, .ref q_700_22, .ref q_700_23, .ref q_700_24, .ref q_700_25, .ref q_700_26, .ref q_700_27, .ref q_700_28, .ref q_700_29, .int 0, .long 0, .ref q_700_30, .ref q_700_31, .ref q_700_32, .ref q_700_33, .ref q_700_34, .ref q_700_35, .ref q_700_36, .ref q_700_37, .ref q_700_38, .ref q_700_39, .ref q_700_40, .ref q_700_41, .int 0, .int 0, .int 0, .int 0, .ref q_700_42, .ref q_700_43, .ref q_700_44, .ref q_700_45, .int 0, .ref q_700_46, .ref q_700_47, .int 0, .long 0])), (q_700_2, .inl (cy 1, 10, .inl (upd (fun _ => 0) 4 2))), (q_700_36, .inl (cy 1, 21, .inl (upd (upd (upd (upd (upd (upd (fun _ => 0) 9 (-1)) 10 (-1)) 11 (-1)) 12 (-1)) 13 (-1)) 14 (-1))))] := hD
    refine lv_aload_n hx hb dL_law_1077 rfl (lv_at hl 2 rfl) ?_
    refine lv_aload_n hx hb dL_law_1078 rfl (lv_at hl 4 rfl) ?_
    refine lv_iload hx hb dL_law_1079 (lv_at hl 0 rfl) ?_
    refine lv_iconst (v := 1) hx hb dL_law_1081 (by decide) ?_
    refine m_iadd (v := 1) hx hb dL_law_1082 (by decide) ?_
    refine va_sld hx hb hX hbl hbA hS (vin (by decide)) dL_law_1083 ?_
    refine m_as (v := xs 1) rfl ?_
    refine m_as (v := 2) g_1 ?_
    refine x_i (wr := [(q_1, .inr (9, [.ref q1_2, .int 0, .int 0, .int 0, .int 0, .int 32, .long 0, .int 0, .int 0])), (q_46, .inr (10, [.ref q1_47, .ref q2_48, .ref q3_49, .int 0])), (q_54, .inr (8, [.int 0, .int 0, .int 0, .ref q1_55, .ref q2_56, .ref q3_57])), (q_64, .inr (2, [.ref q_1_65, .int 0, .int 0, .int 0, .ref q_2_66])), (q_1_65, .inl (cy 1, 6, .inl (fl 6 (-1) (fun _ => 0)))), (q_700_30, .inl (cy 1, 6, .inl (fun _ => 0))), (q_700_36, .inl (cy 1, 21, .inl (upd (upd (upd (upd (upd (upd (fun _ => 0) 9 (-1)) 10 (-1)) 11 (-1)) 12 (-1)) 13 (-1)) 14 (-1))))]) hP hD hS hA [6, 7] [0, 1, 2, 3, 4, 5, 8] rfl rfl (by decide) (by decide) (va_runV (As := [.int 2]) (rest := [.int 0]) ⟨hx, hb, hml, hown, hts⟩ (c_X12_count_3 l D cy h_2 q_700_1 q_700_2 q_700_3 q_700_4 q_700_5 q_700_6 q_700_7 q_700_8 q_700_9 q_700_10 q_700_11 q_700_12 q_700_13 q_700_14 q_700_15 q_700_16 q_700_17 q_700_18 q_700_19 q_700_20 q_700_21 q_700_22 q_700_23 q_700_24 q_700_25 q_700_26 q_700_27 q_700_28 q_700_29 q_700_30 q_700_31 q_700_32 q_700_33 q_700_34 q_700_35 q_700_36 q_700_37 q_700_38 q_700_39 q_700_40 q_700_41 q_700_42 q_700_43 q_700_44 q_700_45 q_700_46 q_700_47 H.size) (cwV 1 hts (gV0 km_L_126 ki_X12_count kz_X12_count kn_X12 kc_X12_count) rfl rfl rfl (by decide +kernel) ⟨(Nat.le_of_ble_eq_true rfl), (Nat.le_of_ble_eq_true rfl)⟩) (preV hG hP hD [6, 7] rfl (by decide) 12 6 rfl rfl) rfl rfl hl.1 rfl (lv_room (Nat.le_of_ble_eq_true rfl)) dL_law_1084 ⟨(Nat.le_of_ble_eq_true rfl), (Nat.le_of_ble_eq_true rfl)⟩) (fun r_7 H locs hB hj hS => ?_)
    obtain ⟨hres, hP1, hD1⟩ := hB
    subst hres
    obtain ⟨hP, hD⟩ := hj _ hP1 hD1
    have hP : va_P D vwCl [(q_1, .inr (9, [.ref q1_2, .int 0, .int 0, .int 0, .int 0, .int 32, .long 0, .int 0, .int 0])), (q_46, .inr (10, [.ref q1_47, .ref q2_48, .ref q3_49, .int 0])), (q_54, .inr (8, [.int 0, .int 0, .int 0, .ref q1_55, .ref q2_56, .ref q3_57])), (q_64, .inr (2, [.ref q_1_65, .int 0, .int 0, .int 0, .ref q_2_66])), (q_1_65, .inl (cy 1, 6, .inl (fl 6 (-1) (fun _ => 0)))), (q_700_30, .inl (cy 1, 6, .inl (fun _ => 0))), (q_700_36, .inl (cy 1, 21, .inl (upd (upd (upd (upd (upd (upd (fun _ => 0) 9 (-1)) 10 (-1)) 11 (-1)) 12 (-1)) 13 (-1)) 14 (-1))))] H := hP
    have hD : va_D A [(q_1, .inr (9, [.ref q1_2, .int 0, .int 0, .int 0, .int 0, .int 32, .long 0, .int 0, .int 0])), (q_46, .inr (10, [.ref q1_47, .ref q2_48, .ref q3_49, .int 0])), (q_54, .inr (8, [.int 0, .int 0, .int 0, .ref q1_55, .ref q2_56, .ref q3_57])), (q_64, .inr (2, [.ref q_1_65, .int 0, .int 0, .int 0, .ref q_2_66])), (q_1_65, .inl (cy 1, 6, .inl (fl 6 (-1) (fun _ => 0)))), (q_700_30, .inl (cy 1, 6, .inl (fun _ => 0))), (q_700_36, .inl (cy 1, 21, .inl (upd (upd (upd (upd (upd (upd (fun _ => 0) 9 (-1)) 10 (-1)) 11 (-1)) 12 (-1)) 13 (-1)) 14 (-1))))] := hD
    refine lv_icmp_eq (tgt := 1092) hx hb dL_law_1087 (by decide) (fun _ => ?_) (fun c_ => absurd rfl c_)
    refine lv_iinc (v := 7) (lv' := [(4, .int 7), (3, .ref q_800), (2, .ref h_2), (1, .ref h_1), (0, .ref b)]) hx hb dL_law_1092 hl (k := 0) rfl (by decide) (by decide) rfl (fun ls hl => ?_)
    refine lv_goto (tgt := 23) hx hb dL_law_1095 (by decide) ?_
    refine lv_iload hx hb dL_law_23 (lv_at hl 0 rfl) ?_
    refine lv_aload_n hx hb dL_law_25 rfl (lv_at hl 4 rfl) ?_
    refine va_slen hx hb hX hbl hbA hS dL_law_26 ?_
    refine m_as (v := 7) rfl ?_
    refine lv_bipush (v := 7) hx hb dL_law_27 (by decide) ?_
    refine m_isub (v := 0) hx hb dL_law_29 (by decide) ?_
    refine lv_icmp_gt (tgt := 1098) hx hb dL_law_30 (by decide) (fun _ => ?_) (fun c_ => absurd (by decide) c_)
    refine lv_iconst (v := 1) hx hb dL_law_1098 (by decide) ?_
    exact lw_end hx hb hr hlocks hAd hS (Nat.le_of_ble_eq_true rfl) (Nat.le_of_ble_eq_true rfl) dL_law_1099
  · refine lv_aload_n hx hb dL_law_1067 rfl (lv_at hl 3 rfl) ?_
    refine lv_aload_n hx hb dL_law_1068 rfl (lv_at hl 4 rfl) ?_
    refine lv_iload hx hb dL_law_1069 (lv_at hl 0 rfl) ?_
    refine lv_iconst (v := 1) hx hb dL_law_1071 (by decide) ?_
    refine m_iadd (v := 1) hx hb dL_law_1072 (by decide) ?_
    refine va_sld hx hb hX hbl hbA hS (vin (by decide)) dL_law_1073 ?_
    refine m_as (v := xs 1) rfl ?_
    refine m_as (v := 3) g_1 ?_
    refine x_i (wr := [(q_1, .inr (9, [.ref q1_2, .int 0, .int 0, .int 0, .int 0, .int 32, .long 0, .int 0, .int 0])), (q_4, .inr (0, [.ref q_1_5, .ref q_2_6, .ref q_3_7, .ref q_4_8, .ref q_5_9, .ref q_6_10, .ref q_7_11, .ref q_8_12, .ref q_9_13, .ref q_10_14, .ref q_11_15, .ref q_12_16, .ref q_13_17, .int 0, .int 0, .int 0, .int 2, .ref q_18_18, .ref q_19_19, .ref q_20_20])), (q_46, .inr (10, [.ref q1_47, .ref q2_48, .ref q3_49, .int 0])), (q_64, .inr (2, [.ref q_1_65, .int 0, .int 0, .int 0, .ref q_2_66])), (q_1_65, .inl (cy 1, 6, .inl (fl 6 (-1) (fun _ => 0)))), (q_700_30, .inl (cy 1, 6, .inl (fun _ => 0))), (h_2, .inr (12, [.int 0, .int 0, .ref q_700_1, .int 0, .int 0, .int 0, .int 0, .long 0, .int 0, .int 0, .ref q_700_2, .ref q_700_3, .ref q_700_4, .ref q_700_5, .ref q_700_6, .ref q_700_7, .ref q_700_8, .ref q_700_9, .ref q_700_10, .ref q_700_11, .ref q_700_12, .ref q_700_13, .ref q_700_14, .ref q_700_15, .ref q_700_16, .ref q_700_17, .int 0, .int 0, .ref q_700_18, .ref q_700_19, .ref q_700_20, .ref q_700_21, .ref q_700_22, .ref q_700_23, .ref q_700_24, .ref q_700_25, .ref q_700_26, .ref q_700_27, .ref q_700_28, .ref q_700_29, .int 0, .long 0, .ref q_700_30, .ref q_700_31, .ref q_700_32, .ref q_700_33, .ref q_700_34, .ref q_700_35, .ref q_700_36, .ref q_700_37, .ref q_700_38, .ref q_700_39, .ref q_700_40, .ref q_700_41, .int 0, .int 0, .int 0, .int 0, .ref q_700_42, .ref q_700_43, .ref q_700_44, .ref q_700_45, .int 0, .ref q_700_46, .ref q_700_47, .int 0, .long 0])), (q_700_2, .inl (cy 1, 10, .inl (upd (fun _ => 0) 4 2))), (q_700_36, .inl (cy 1, 21, .inl (upd (upd (upd (upd (upd (upd (fun _ => 0) 9 (-1)) 10 (-1)) 11 (-1)) 12 (-1)) 13 (-1)) 14 (-1))))]) hP hD hS hA [0, 4] [1, 2, 3, 5, 6, 7, 8, 9, 10] rfl rfl (by decide) (by decide) (va_runV (As := [.int 3]) (rest := []) ⟨hx, hb, hml, hown, hts⟩ (c_X11_count_4 l D cy h_1 q_1 q_3 q_4 q_25 q_46 q_50 q_54 q_58 q_62 q_63 q_64 q_67 q_85 q_90 q_93 q1_55 q2_56 q3_57 H.size) (cwV 1 hts (gV0 km_L_123 ki_X11_count kz_X11_count kn_X11 kc_X11_count) rfl rfl rfl (by decide +kernel) ⟨(Nat.le_of_ble_eq_true rfl), (Nat.le_of_ble_eq_true rfl)⟩) (preV hG hP hD [0, 4] rfl (by decide) 11 0 rfl rfl) rfl rfl hl.1 rfl (lv_room (Nat.le_of_ble_eq_true rfl)) dL_law_1074 ⟨(Nat.le_of_ble_eq_true rfl), (Nat.le_of_ble_eq_true rfl)⟩) (fun r_8 H locs hB hj hS => ?_)
    obtain ⟨hres, hP1, hD1⟩ := hB
    subst hres
    obtain ⟨hP, hD⟩ := hj _ hP1 hD1
    have hP : va_P D vwCl [(q_1, .inr (9, [.ref q1_2, .int 0, .int 0, .int 0, .int 0, .int 32, .long 0, .int 0, .int 0])), (q_4, .inr (0, [.ref q_1_5, .ref q_2_6, .ref q_3_7, .ref q_4_8, .ref q_5_9, .ref q_6_10, .ref q_7_11, .ref q_8_12, .ref q_9_13, .ref q_10_14, .ref q_11_15, .ref q_12_16, .ref q_13_17, .int 0, .int 0, .int 0, .int 2, .ref q_18_18, .ref q_19_19, .ref q_20_20])), (q_46, .inr (10, [.ref q1_47, .ref q2_48, .ref q3_49, .int 0])), (q_64, .inr (2, [.ref q_1_65, .int 0, .int 0, .int 0, .ref q_2_66])), (q_1_65, .inl (cy 1, 6, .inl (fl 6 (-1) (fun _ => 0)))), (q_700_30, .inl (cy 1, 6, .inl (fun _ => 0))), (h_2, .inr (12, [.int 0, .int 0, .ref q_700_1, .int 0, .int 0, .int 0, .int 0, .long 0, .int 0, .int 0, .ref q_700_2, .ref q_700_3, .ref q_700_4, .ref q_700_5, .ref q_700_6, .ref q_700_7, .ref q_700_8, .ref q_700_9, .ref q_700_10, .ref q_700_11, .ref q_700_12, .ref q_700_13, .ref q_700_14, .ref q_700_15, .ref q_700_16, .ref q_700_17, .int 0, .int 0, .ref q_700_18, .ref q_700_19, .ref q_700_20, .ref q_700_21, .ref q_700_22, .ref q_700_23, .ref q_700_24, .ref q_700_25, .ref q_700_26, .ref q_700_27, .ref q_700_28, .ref q_700_29, .int 0, .long 0, .ref q_700_30, .ref q_700_31, .ref q_700_32, .ref q_700_33, .ref q_700_34, .ref q_700_35, .ref q_700_36, .ref q_700_37, .ref q_700_38, .ref q_700_39, .ref q_700_40, .ref q_700_41, .int 0, .int 0, .int 0, .int 0, .ref q_700_42, .ref q_700_43, .ref q_700_44, .ref q_700_45, .int 0, .ref q_700_46, .ref q_700_47, .int 0, .long 0])), (q_700_2, .inl (cy 1, 10, .inl (upd (fun _ => 0) 4 2))), (q_700_36, .inl (cy 1, 21, .inl (upd (upd (upd (upd (upd (upd (fun _ => 0) 9 (-1)) 10 (-1)) 11 (-1)) 12 (-1)) 13 (-1)) 14 (-1))))] H := hP
    have hD : va_D A [(q_1, .inr (9, [.ref q1_2, .int 0, .int 0, .int 0, .int 0, .int 32, .long 0, .int 0, .int 0])), (q_4, .inr (0, [.ref q_1_5, .ref q_2_6, .ref q_3_7, .ref q_4_8, .ref q_5_9, .ref q_6_10, .ref q_7_11, .ref q_8_12, .ref q_9_13, .ref q_10_14, .ref q_11_15, .ref q_12_16, .ref q_13_17, .int 0, .int 0, .int 0, .int 2, .ref q_18_18, .ref q_19_19, .ref q_20_20])), (q_46, .inr (10, [.ref q1_47, .ref q2_48, .ref q3_49, .int 0])), (q_64, .inr (2, [.ref q_1_65, .int 0, .int 0, .int 0, .ref q_2_66])), (q_1_65, .inl (cy 1, 6, .inl (fl 6 (-1) (fun _ => 0)))), (q_700_30, .inl (cy 1, 6, .inl (fun _ => 0))), (h_2, .inr (12, [.int 0, .int 0, .ref q_700_1, .int 0, .int 0, .int 0, .int 0, .long 0, .int 0, .int 0, .ref q_700_2, .ref q_700_3, .ref q_700_4, .ref q_700_5, .ref q_700_6, .ref q_700_7, .ref q_700_8, .ref q_700_9, .ref q_700_10, .ref q_700_11, .ref q_700_12, .ref q_700_13, .ref q_700_14, .ref q_700_15, .ref q_700_16, .ref q_700_17, .int 0, .int 0, .ref q_700_18, .ref q_700_19, .ref q_700_20, .ref q_700_21, .ref q_700_22, .ref q_700_23, .ref q_700_24, .ref q_700_25, .ref q_700_26, .ref q_700_27, .ref q_700_28, .ref q_700_29, .int 0, .long 0, .ref q_700_30, .ref q_700_31, .ref q_700_32, .ref q_700_33, .ref q_700_34, .ref q_700_35, .ref q_700_36, .ref q_700_37, .ref q_700_38, .ref q_700_39, .ref q_700_40, .ref q_700_41, .int 0, .int 0, .int 0, .int 0, .ref q_700_42, .ref q_700_43, .ref q_700_44, .ref q_700_45, .int 0, .ref q_700_46, .ref q_700_47, .int 0, .long 0])), (q_700_2, .inl (cy 1, 10, .inl (upd (fun _ => 0) 4 2))), (q_700_36, .inl (cy 1, 21, .inl (upd (upd (upd (upd (upd (upd (fun _ => 0) 9 (-1)) 10 (-1)) 11 (-1)) 12 (-1)) 13 (-1)) 14 (-1))))] := hD
    refine lv_aload_n hx hb dL_law_1077 rfl (lv_at hl 2 rfl) ?_
    refine lv_aload_n hx hb dL_law_1078 rfl (lv_at hl 4 rfl) ?_
    refine lv_iload hx hb dL_law_1079 (lv_at hl 0 rfl) ?_
    refine lv_iconst (v := 1) hx hb dL_law_1081 (by decide) ?_
    refine m_iadd (v := 1) hx hb dL_law_1082 (by decide) ?_
    refine va_sld hx hb hX hbl hbA hS (vin (by decide)) dL_law_1083 ?_
    refine m_as (v := xs 1) rfl ?_
    refine m_as (v := 3) g_1 ?_
    refine x_i (wr := [(q_1, .inr (9, [.ref q1_2, .int 0, .int 0, .int 0, .int 0, .int 32, .long 0, .int 0, .int 0])), (q_4, .inr (0, [.ref q_1_5, .ref q_2_6, .ref q_3_7, .ref q_4_8, .ref q_5_9, .ref q_6_10, .ref q_7_11, .ref q_8_12, .ref q_9_13, .ref q_10_14, .ref q_11_15, .ref q_12_16, .ref q_13_17, .int 0, .int 0, .int 0, .int 2, .ref q_18_18, .ref q_19_19, .ref q_20_20])), (q_46, .inr (10, [.ref q1_47, .ref q2_48, .ref q3_49, .int 0])), (q_64, .inr (2, [.ref q_1_65, .int 0, .int 0, .int 0, .ref q_2_66])), (q_1_65, .inl (cy 1, 6, .inl (fl 6 (-1) (fun _ => 0)))), (q_700_30, .inl (cy 1, 6, .inl (fun _ => 0))), (q_700_2, .inl (cy 1, 10, .inl (upd (fun _ => 0) 4 2)))]) hP hD hS hA [6, 8] [0, 1, 2, 3, 4, 5, 7] rfl rfl (by decide) (by decide) (va_runV (As := [.int 3]) (rest := [.int 0]) ⟨hx, hb, hml, hown, hts⟩ (c_X12_count_4 l D cy h_2 q_700_1 q_700_2 q_700_3 q_700_4 q_700_5 q_700_6 q_700_7 q_700_8 q_700_9 q_700_10 q_700_11 q_700_12 q_700_13 q_700_14 q_700_15 q_700_16 q_700_17 q_700_18 q_700_19 q_700_20 q_700_21 q_700_22 q_700_23 q_700_24 q_700_25 q_700_26 q_700_27 q_700_28 q_700_29 q_700_30 q_700_31 q_700_32 q_700_33 q_700_34 q_700_35 q_700_36 q_700_37 q_700_38 q_700_39 q_700_40 q_700_41 q_700_42 q_700_43 q_700_44 q_700_45 q_700_46 q_700_47 H.size) (cwV 1 hts (gV0 km_L_126 ki_X12_count kz_X12_count kn_X12 kc_X12_count) rfl rfl rfl (by decide +kernel) ⟨(Nat.le_of_ble_eq_true rfl), (Nat.le_of_ble_eq_true rfl)⟩) (preV hG hP hD [6, 8] rfl (by decide) 12 6 rfl rfl) rfl rfl hl.1 rfl (lv_room (Nat.le_of_ble_eq_true rfl)) dL_law_1084 ⟨(Nat.le_of_ble_eq_true rfl), (Nat.le_of_ble_eq_true rfl)⟩) (fun r_9 H locs hB hj hS => ?_)
    obtain ⟨hres, hP1, hD1⟩ := hB
    subst hres
    obtain ⟨hP, hD⟩ := hj _ hP1 hD1
    have hP : va_P D vwCl [(q_1, .inr (9, [.ref q1_2, .int 0, .int 0, .int 0, .int 0, .int 32, .long 0, .int 0, .int 0])), (q_4, .inr (0, [.ref q_1_5, .ref q_2_6, .ref q_3_7, .ref q_4_8, .ref q_5_9, .ref q_6_10, .ref q_7_11, .ref q_8_12, .ref q_9_13, .ref q_10_14, .ref q_11_15, .ref q_12_16, .ref q_13_17, .int 0, .int 0, .int 0, .int 2, .ref q_18_18, .ref q_19_19, .ref q_20_20])), (q_46, .inr (10, [.ref q1_47, .ref q2_48, .ref q3_49, .int 0])), (q_64, .inr (2, [.ref q_1_65, .int 0, .int 0, .int 0, .ref q_2_66])), (q_1_65, .inl (cy 1, 6, .inl (fl 6 (-1) (fun _ => 0)))), (q_700_30, .inl (cy 1, 6, .inl (fun _ => 0))), (q_700_2, .inl (cy 1, 10, .inl (upd (fun _ => 0) 4 2)))] H := hP
    have hD : va_D A [(q_1, .inr (9, [.ref q1_2, .int 0, .int 0, .int 0, .int 0, .int 32, .long 0, .int 0, .int 0])), (q_4, .inr (0, [.ref q_1_5, .ref q_2_6, .ref q_3_7, .ref q_4_8, .ref q_5_9, .ref q_6_10, .ref q_7_11, .ref q_8_12, .ref q_9_13, .ref q_10_14, .ref q_11_15, .ref q_12_16, .ref q_13_17, .int 0, .int 0, .int 0, .int 2, .ref q_18_18, .ref q_19_19, .ref q_20_20])), (q_46, .inr (10, [.ref q1_47, .ref q2_48, .ref q3_49, .int 0])), (q_64, .inr (2, [.ref q_1_65, .int 0, .int 0, .int 0, .ref q_2_66])), (q_1_65, .inl (cy 1, 6, .inl (fl 6 (-1) (fun _ => 0)))), (q_700_30, .inl (cy 1, 6, .inl (fun _ => 0))), (q_700_2, .inl (cy 1, 10, .inl (upd (fun _ => 0) 4 2)))] := hD
    refine lv_icmp_eq (tgt := 1092) hx hb dL_law_1087 (by decide) (fun _ => ?_) (fun c_ => absurd rfl c_)
    refine lv_iinc (v := 7) (lv' := [(4, .int 7), (3, .ref q_800), (2, .ref h_2), (1, .ref h_1), (0, .ref b)]) hx hb dL_law_1092 hl (k := 0) rfl (by decide) (by decide) rfl (fun ls hl => ?_)
    refine lv_goto (tgt := 23) hx hb dL_law_1095 (by decide) ?_
    refine lv_iload hx hb dL_law_23 (lv_at hl 0 rfl) ?_
    refine lv_aload_n hx hb dL_law_25 rfl (lv_at hl 4 rfl) ?_
    refine va_slen hx hb hX hbl hbA hS dL_law_26 ?_
    refine m_as (v := 7) rfl ?_
    refine lv_bipush (v := 7) hx hb dL_law_27 (by decide) ?_
    refine m_isub (v := 0) hx hb dL_law_29 (by decide) ?_
    refine lv_icmp_gt (tgt := 1098) hx hb dL_law_30 (by decide) (fun _ => ?_) (fun c_ => absurd (by decide) c_)
    refine lv_iconst (v := 1) hx hb dL_law_1098 (by decide) ?_
    exact lw_end hx hb hr hlocks hAd hS (Nat.le_of_ble_eq_true rfl) (Nat.le_of_ble_eq_true rfl) dL_law_1099
  · refine lv_aload_n hx hb dL_law_1067 rfl (lv_at hl 3 rfl) ?_
    refine lv_aload_n hx hb dL_law_1068 rfl (lv_at hl 4 rfl) ?_
    refine lv_iload hx hb dL_law_1069 (lv_at hl 0 rfl) ?_
    refine lv_iconst (v := 1) hx hb dL_law_1071 (by decide) ?_
    refine m_iadd (v := 1) hx hb dL_law_1072 (by decide) ?_
    refine va_sld hx hb hX hbl hbA hS (vin (by decide)) dL_law_1073 ?_
    refine m_as (v := xs 1) rfl ?_
    refine m_as (v := 4) g_1 ?_
    refine x_i (wr := [(q_1, .inr (9, [.ref q1_2, .int 0, .int 0, .int 0, .int 0, .int 32, .long 0, .int 0, .int 0])), (q_4, .inr (0, [.ref q_1_5, .ref q_2_6, .ref q_3_7, .ref q_4_8, .ref q_5_9, .ref q_6_10, .ref q_7_11, .ref q_8_12, .ref q_9_13, .ref q_10_14, .ref q_11_15, .ref q_12_16, .ref q_13_17, .int 0, .int 0, .int 0, .int 2, .ref q_18_18, .ref q_19_19, .ref q_20_20])), (q_46, .inr (10, [.ref q1_47, .ref q2_48, .ref q3_49, .int 0])), (q_64, .inr (2, [.ref q_1_65, .int 0, .int 0, .int 0, .ref q_2_66])), (q_1_65, .inl (cy 1, 6, .inl (fl 6 (-1) (fun _ => 0)))), (q_700_30, .inl (cy 1, 6, .inl (fun _ => 0))), (h_2, .inr (12, [.int 0, .int 0, .ref q_700_1, .int 0, .int 0, .int 0, .int 0, .long 0, .int 0, .int 0, .ref q_700_2, .ref q_700_3, .ref q_700_4, .ref q_700_5, .ref q_700_6, .ref q_700_7, .ref q_700_8, .ref q_700_9, .ref q_700_10, .ref q_700_11, .ref q_700_12, .ref q_700_13, .ref q_700_14, .ref q_700_15, .ref q_700_16, .ref q_700_17, .int 0, .int 0, .ref q_700_18, .ref q_700_19, .ref q_700_20, .ref q_700_21, .ref q_700_22, .ref q_700_23, .ref q_700_24, .ref q_700_25, .ref q_700_26, .ref q_700_27, .ref q_700_28, .ref q_700_29, .int 0, .long 0, .ref q_700_30, .ref q_700_31, .ref q_700_32, .ref q_700_33, .ref q_700_34, .ref q_700_35, .ref q_700_36, .ref q_700_37, .ref q_700_38, .ref q_700_39, .ref q_700_40, .ref q_700_41, .int 0, .int 0, .int 0, .int 0, .ref q_700_42, .ref q_700_43, .ref q_700_44, .ref q_700_45, .int 0, .ref q_700_46, .ref q_700_47, .int 0, .long 0])), (q_700_2, .inl (cy 1, 10, .inl (upd (fun _ => 0) 4 2))), (q_700_36, .inl (cy 1, 21, .inl (upd (upd (upd (upd (upd (upd (fun _ => 0) 9 (-1)) 10 (-1)) 11 (-1)) 12 (-1)) 13 (-1)) 14 (-1))))]) hP hD hS hA [0, 4] [1, 2, 3, 5, 6, 7, 8, 9, 10] rfl rfl (by decide) (by decide) (va_runV (As := [.int 4]) (rest := []) ⟨hx, hb, hml, hown, hts⟩ (c_X11_count_5 l D cy h_1 q_1 q_3 q_4 q_25 q_46 q_50 q_54 q_58 q_62 q_63 q_64 q_67 q_85 q_90 q_93 q1_55 q2_56 q3_57 H.size) (cwV 1 hts (gV0 km_L_123 ki_X11_count kz_X11_count kn_X11 kc_X11_count) rfl rfl rfl (by decide +kernel) ⟨(Nat.le_of_ble_eq_true rfl), (Nat.le_of_ble_eq_true rfl)⟩) (preV hG hP hD [0, 4] rfl (by decide) 11 0 rfl rfl) rfl rfl hl.1 rfl (lv_room (Nat.le_of_ble_eq_true rfl)) dL_law_1074 ⟨(Nat.le_of_ble_eq_true rfl), (Nat.le_of_ble_eq_true rfl)⟩) (fun r_10 H locs hB hj hS => ?_)
    obtain ⟨hres, hP1, hD1⟩ := hB
    subst hres
    obtain ⟨hP, hD⟩ := hj _ hP1 hD1
    have hP : va_P D vwCl [(q_1, .inr (9, [.ref q1_2, .int 0, .int 0, .int 0, .int 0, .int 32, .long 0, .int 0, .int 0])), (q_4, .inr (0, [.ref q_1_5, .ref q_2_6, .ref q_3_7, .ref q_4_8, .ref q_5_9, .ref q_6_10, .ref q_7_11, .ref q_8_12, .ref q_9_13, .ref q_10_14, .ref q_11_15, .ref q_12_16, .ref q_13_17, .int 0, .int 0, .int 0, .int 2, .ref q_18_18, .ref q_19_19, .ref q_20_20])), (q_46, .inr (10, [.ref q1_47, .ref q2_48, .ref q3_49, .int 0])), (q_64, .inr (2, [.ref q_1_65, .int 0, .int 0, .int 0, .ref q_2_66])), (q_1_65, .inl (cy 1, 6, .inl (fl 6 (-1) (fun _ => 0)))), (q_700_30, .inl (cy 1, 6, .inl (fun _ => 0))), (h_2, .inr (12, [.int 0, .int 0, .ref q_700_1, .int 0, .int 0, .int 0, .int 0, .long 0, .int 0, .int 0, .ref q_700_2, .ref q_700_3, .ref q_700_4, .ref q_700_5, .ref q_700_6, .ref q_700_7, .ref q_700_8, .ref q_700_9, .ref q_700_10, .ref q_700_11, .ref q_700_12, .ref q_700_13, .ref q_700_14, .ref q_700_15, .ref q_700_16, .ref q_700_17, .int 0, .int 0, .ref q_700_18, .ref q_700_19, .ref q_700_20, .ref q_700_21, .ref q_700_22, .ref q_700_23, .ref q_700_24, .ref q_700_25, .ref q_700_26, .ref q_700_27, .ref q_700_28, .ref q_700_29, .int 0, .long 0, .ref q_700_30, .ref q_700_31, .ref q_700_32, .ref q_700_33, .ref q_700_34, .ref q_700_35, .ref q_700_36, .ref q_700_37, .ref q_700_38, .ref q_700_39, .ref q_700_40, .ref q_700_41, .int 0, .int 0, .int 0, .int 0, .ref q_700_42, .ref q_700_43, .ref q_700_44, .ref q_700_45, .int 0, .ref q_700_46, .ref q_700_47, .int 0, .long 0])), (q_700_2, .inl (cy 1, 10, .inl (upd (fun _ => 0) 4 2))), (q_700_36, .inl (cy 1, 21, .inl (upd (upd (upd (upd (upd (upd (fun _ => 0) 9 (-1)) 10 (-1)) 11 (-1)) 12 (-1)) 13 (-1)) 14 (-1))))] H := hP
    have hD : va_D A [(q_1, .inr (9, [.ref q1_2, .int 0, .int 0, .int 0, .int 0, .int 32, .long 0, .int 0, .int 0])), (q_4, .inr (0, [.ref q_1_5, .ref q_2_6, .ref q_3_7, .ref q_4_8, .ref q_5_9, .ref q_6_10, .ref q_7_11, .ref q_8_12, .ref q_9_13, .ref q_10_14, .ref q_11_15, .ref q_12_16, .ref q_13_17, .int 0, .int 0, .int 0, .int 2, .ref q_18_18, .ref q_19_19, .ref q_20_20])), (q_46, .inr (10, [.ref q1_47, .ref q2_48, .ref q3_49, .int 0])), (q_64, .inr (2, [.ref q_1_65, .int 0, .int 0, .int 0, .ref q_2_66])), (q_1_65, .inl (cy 1, 6, .inl (fl 6 (-1) (fun _ => 0)))), (q_700_30, .inl (cy 1, 6, .inl (fun _ => 0))), (h_2, .inr (12, [.int 0, .int 0, .ref q_700_1, .int 0, .int 0, .int 0, .int 0, .long 0, .int 0, .int 0, .ref q_700_2, .ref q_700_3, .ref q_700_4, .ref q_700_5, .ref q_700_6, .ref q_700_7, .ref q_700_8, .ref q_700_9, .ref q_700_10, .ref q_700_11, .ref q_700_12, .ref q_700_13, .ref q_700_14, .ref q_700_15, .ref q_700_16, .ref q_700_17, .int 0, .int 0, .ref q_700_18, .ref q_700_19, .ref q_700_20, .ref q_700_21, .ref q_700_22, .ref q_700_23, .ref q_700_24, .ref q_700_25, .ref q_700_26, .ref q_700_27, .ref q_700_28, .ref q_700_29, .int 0, .long 0, .ref q_700_30, .ref q_700_31, .ref q_700_32, .ref q_700_33, .ref q_700_34, .ref q_700_35, .ref q_700_36, .ref q_700_37, .ref q_700_38, .ref q_700_39, .ref q_700_40, .ref q_700_41, .int 0, .int 0, .int 0, .int 0, .ref q_700_42, .ref q_700_43, .ref q_700_44, .ref q_700_45, .int 0, .ref q_700_46, .ref q_700_47, .int 0, .long 0])), (q_700_2, .inl (cy 1, 10, .inl (upd (fun _ => 0) 4 2))), (q_700_36, .inl (cy 1, 21, .inl (upd (upd (upd (upd (upd (upd (fun _ => 0) 9 (-1)) 10 (-1)) 11 (-1)) 12 (-1)) 13 (-1)) 14 (-1))))] := hD
    refine lv_aload_n hx hb dL_law_1077 rfl (lv_at hl 2 rfl) ?_
    refine lv_aload_n hx hb dL_law_1078 rfl (lv_at hl 4 rfl) ?_
    refine lv_iload hx hb dL_law_1079 (lv_at hl 0 rfl) ?_
    refine lv_iconst (v := 1) hx hb dL_law_1081 (by decide) ?_
    refine m_iadd (v := 1) hx hb dL_law_1082 (by decide) ?_
    refine va_sld hx hb hX hbl hbA hS (vin (by decide)) dL_law_1083 ?_
    refine m_as (v := xs 1) rfl ?_
    refine m_as (v := 4) g_1 ?_
    refine x_i (wr := [(q_1, .inr (9, [.ref q1_2, .int 0, .int 0, .int 0, .int 0, .int 32, .long 0, .int 0, .int 0])), (q_4, .inr (0, [.ref q_1_5, .ref q_2_6, .ref q_3_7, .ref q_4_8, .ref q_5_9, .ref q_6_10, .ref q_7_11, .ref q_8_12, .ref q_9_13, .ref q_10_14, .ref q_11_15, .ref q_12_16, .ref q_13_17, .int 0, .int 0, .int 0, .int 2, .ref q_18_18, .ref q_19_19, .ref q_20_20])), (q_46, .inr (10, [.ref q1_47, .ref q2_48, .ref q3_49, .int 0])), (q_64, .inr (2, [.ref q_1_65, .int 0, .int 0, .int 0, .ref q_2_66])), (q_1_65, .inl (cy 1, 6, .inl (fl 6 (-1) (fun _ => 0)))), (q_700_30, .inl (cy 1, 6, .inl (fun _ => 0))), (q_700_2, .inl (cy 1, 10, .inl (upd (fun _ => 0) 4 2)))]) hP hD hS hA [6, 8] [0, 1, 2, 3, 4, 5, 7] rfl rfl (by decide) (by decide) (va_runV (As := [.int 4]) (rest := [.int 0]) ⟨hx, hb, hml, hown, hts⟩ (c_X12_count_5 l D cy h_2 q_700_1 q_700_2 q_700_3 q_700_4 q_700_5 q_700_6 q_700_7 q_700_8 q_700_9 q_700_10 q_700_11 q_700_12 q_700_13 q_700_14 q_700_15 q_700_16 q_700_17 q_700_18 q_700_19 q_700_20 q_700_21 q_700_22 q_700_23 q_700_24 q_700_25 q_700_26 q_700_27 q_700_28 q_700_29 q_700_30 q_700_31 q_700_32 q_700_33 q_700_34 q_700_35 q_700_36 q_700_37 q_700_38 q_700_39 q_700_40 q_700_41 q_700_42 q_700_43 q_700_44 q_700_45 q_700_46 q_700_47 H.size) (cwV 1 hts (gV0 km_L_126 ki_X12_count kz_X12_count kn_X12 kc_X12_count) rfl rfl rfl (by decide +kernel) ⟨(Nat.le_of_ble_eq_true rfl), (Nat.le_of_ble_eq_true rfl)⟩) (preV hG hP hD [6, 8] rfl (by decide) 12 6 rfl rfl) rfl rfl hl.1 rfl (lv_room (Nat.le_of_ble_eq_true rfl)) dL_law_1084 ⟨(Nat.le_of_ble_eq_true rfl), (Nat.le_of_ble_eq_true rfl)⟩) (fun r_11 H locs hB hj hS => ?_)
    obtain ⟨hres, hP1, hD1⟩ := hB
    subst hres
    obtain ⟨hP, hD⟩ := hj _ hP1 hD1
    have hP : va_P D vwCl [(q_1, .inr (9, [.ref q1_2, .int 0, .int 0, .int 0, .int 0, .int 32, .long 0, .int 0, .int 0])), (q_4, .inr (0, [.ref q_1_5, .ref q_2_6, .ref q_3_7, .ref q_4_8, .ref q_5_9, .ref q_6_10, .ref q_7_11, .ref q_8_12, .ref q_9_13, .ref q_10_14, .ref q_11_15, .ref q_12_16, .ref q_13_17, .int 0, .int 0, .int 0, .int 2, .ref q_18_18, .ref q_19_19, .ref q_20_20])), (q_46, .inr (10, [.ref q1_47, .ref q2_48, .ref q3_49, .int 0])), (q_64, .inr (2, [.ref q_1_65, .int 0, .int 0, .int 0, .ref q_2_66])), (q_1_65, .inl (cy 1, 6, .inl (fl 6 (-1) (fun _ => 0)))), (q_700_30, .inl (cy 1, 6, .inl (fun _ => 0))), (q_700_2, .inl (cy 1, 10, .inl (upd (fun _ => 0) 4 2)))] H := hP
    have hD : va_D A [(q_1, .inr (9, [.ref q1_2, .int 0, .int 0, .int 0, .int 0, .int 32, .long 0, .int 0, .int 0])), (q_4, .inr (0, [.ref q_1_5, .ref q_2_6, .ref q_3_7, .ref q_4_8, .ref q_5_9, .ref q_6_10, .ref q_7_11, .ref q_8_12, .ref q_9_13, .ref q_10_14, .ref q_11_15, .ref q_12_16, .ref q_13_17, .int 0, .int 0, .int 0, .int 2, .ref q_18_18, .ref q_19_19, .ref q_20_20])), (q_46, .inr (10, [.ref q1_47, .ref q2_48, .ref q3_49, .int 0])), (q_64, .inr (2, [.ref q_1_65, .int 0, .int 0, .int 0, .ref q_2_66])), (q_1_65, .inl (cy 1, 6, .inl (fl 6 (-1) (fun _ => 0)))), (q_700_30, .inl (cy 1, 6, .inl (fun _ => 0))), (q_700_2, .inl (cy 1, 10, .inl (upd (fun _ => 0) 4 2)))] := hD
    refine lv_icmp_eq (tgt := 1092) hx hb dL_law_1087 (by decide) (fun _ => ?_) (fun c_ => absurd rfl c_)
    refine lv_iinc (v := 7) (lv' := [(4, .int 7), (3, .ref q_800), (2, .ref h_2), (1, .ref h_1), (0, .ref b)]) hx hb dL_law_1092 hl (k := 0) rfl (by decide) (by decide) rfl (fun ls hl => ?_)
    refine lv_goto (tgt := 23) hx hb dL_law_1095 (by decide) ?_
    refine lv_iload hx hb dL_law_23 (lv_at hl 0 rfl) ?_
    refine lv_aload_n hx hb dL_law_25 rfl (lv_at hl 4 rfl) ?_
    refine va_slen hx hb hX hbl hbA hS dL_law_26 ?_
    refine m_as (v := 7) rfl ?_
    refine lv_bipush (v := 7) hx hb dL_law_27 (by decide) ?_
    refine m_isub (v := 0) hx hb dL_law_29 (by decide) ?_
    refine lv_icmp_gt (tgt := 1098) hx hb dL_law_30 (by decide) (fun _ => ?_) (fun c_ => absurd (by decide) c_)
    refine lv_iconst (v := 1) hx hb dL_law_1098 (by decide) ?_
    exact lw_end hx hb hr hlocks hAd hS (Nat.le_of_ble_eq_true rfl) (Nat.le_of_ble_eq_true rfl) dL_law_1099
  · refine lv_aload_n hx hb dL_law_1067 rfl (lv_at hl 3 rfl) ?_
    refine lv_aload_n hx hb dL_law_1068 rfl (lv_at hl 4 rfl) ?_
    refine lv_iload hx hb dL_law_1069 (lv_at hl 0 rfl) ?_
    refine lv_iconst (v := 1) hx hb dL_law_1071 (by decide) ?_
    refine m_iadd (v := 1) hx hb dL_law_1072 (by decide) ?_
    refine va_sld hx hb hX hbl hbA hS (vin (by decide)) dL_law_1073 ?_
    refine m_as (v := xs 1) rfl ?_
    refine m_as (v := 5) g_1 ?_
    refine x_i (wr := [(q_1, .inr (9, [.ref q1_2, .int 0, .int 0, .int 0, .int 0, .int 32, .long 0, .int 0, .int 0])), (q_46, .inr (10, [.ref q1_47, .ref q2_48, .ref q3_49, .int 0])), (q_64, .inr (2, [.ref q_1_65, .int 0, .int 0, .int 0, .ref q_2_66])), (q_1_65, .inl (cy 1, 6, .inl (fl 6 (-1) (fun _ => 0)))), (q_700_30, .inl (cy 1, 6, .inl (fun _ => 0))), (h_2, .inr (12, [.int 0, .int 0, .ref q_700_1, .int 0, .int 0, .int 0, .int 0, .long 0, .int 0, .int 0, .ref q_700_2, .ref q_700_3, .ref q_700_4, .ref q_700_5, .ref q_700_6, .ref q_700_7, .ref q_700_8, .ref q_700_9, .ref q_700_10, .ref q_700_11, .ref q_700_12, .ref q_700_13, .ref q_700_14, .ref q_700_15, .ref q_700_16, .ref q_700_17, .int 0, .int 0, .ref q_700_18, .ref q_700_19, .ref q_700_20, .ref q_700_21, .ref q_700_22, .ref q_700_23, .ref q_700_24, .ref q_700_25, .ref q_700_26, .ref q_700_27, .ref q_700_28, .ref q_700_29, .int 0, .long 0, .ref q_700_30, .ref q_700_31, .ref q_700_32, .ref q_700_33, .ref q_700_34, .ref q_700_35, .ref q_700_36, .ref q_700_37, .ref q_700_38, .ref q_700_39, .ref q_700_40, .ref q_700_41, .int 0, .int 0, .int 0, .int 0, .ref q_700_42, .ref q_700_43, .ref q_700_44, .ref q_700_45, .int 0, .ref q_700_46, .ref q_700_47, .int 0, .long 0])), (q_700_2, .inl (cy 1, 10, .inl (upd (fun _ => 0) 4 2))), (q_700_36, .inl (cy 1, 21, .inl (upd (upd (upd (upd (upd (upd (fun _ => 0) 9 (-1)) 10 (-1)) 11 (-1)) 12 (-1)) 13 (-1)) 14 (-1))))]) hP hD hS hA [0, 2, 4] [1, 3, 5, 6, 7, 8, 9, 10] rfl rfl (by decide) (by decide) (va_runV (As := [.int 5]) (rest := []) ⟨hx, hb, hml, hown, hts⟩ (c_X11_count_6 l D cy h_1 q_1 q_3 q_4 q_25 q_46 q_50 q_54 q_58 q_62 q_63 q_64 q_67 q_85 q_90 q_93 q_1_5 q_2_6 q_3_7 q_4_8 q_5_9 q_6_10 q_7_11 q_8_12 q_9_13 q_10_14 q_11_15 q_12_16 q_13_17 q_18_18 q_19_19 q_20_20 q1_55 q2_56 q3_57 H.size) (cwV 1 hts (gV0 km_L_123 ki_X11_count kz_X11_count kn_X11 kc_X11_count) rfl rfl rfl (by decide +kernel) ⟨(Nat.le_of_ble_eq_true rfl), (Nat.le_of_ble_eq_true rfl)⟩) (preV hG hP hD [0, 2, 4] rfl (by decide) 11 0 rfl rfl) rfl rfl hl.1 rfl (lv_room (Nat.le_of_ble_eq_true rfl)) dL_law_1074 ⟨(Nat.le_of_ble_eq_true rfl), (Nat.le_of_ble_eq_true rfl)⟩) (fun r_12 H locs hB hj hS => ?_)
    obtain ⟨hres, hP1, hD1⟩ := hB
    subst hres
    obtain ⟨hP, hD⟩ := hj _ hP1 hD1
    have hP : va_P D vwCl [(q_1, .inr (9, [.ref q1_2, .int 0, .int 0, .int 0, .int 0, .int 32, .long 0, .int 0, .int 0])), (q_46, .inr (10, [.ref q1_47, .ref q2_48, .ref q3_49, .int 0])), (q_64, .inr (2, [.ref q_1_65, .int 0, .int 0, .int 0, .ref q_2_66])), (q_1_65, .inl (cy 1, 6, .inl (fl 6 (-1) (fun _ => 0)))), (q_700_30, .inl (cy 1, 6, .inl (fun _ => 0))), (h_2, .inr (12, [.int 0, .int 0, .ref q_700_1, .int 0, .int 0, .int 0, .int 0, .long 0, .int 0, .int 0, .ref q_700_2, .ref q_700_3, .ref q_700_4, .ref q_700_5, .ref q_700_6, .ref q_700_7, .ref q_700_8, .ref q_700_9, .ref q_700_10, .ref q_700_11, .ref q_700_12, .ref q_700_13, .ref q_700_14, .ref q_700_15, .ref q_700_16, .ref q_700_17, .int 0, .int 0, .ref q_700_18, .ref q_700_19, .ref q_700_20, .ref q_700_21, .ref q_700_22, .ref q_700_23, .ref q_700_24, .ref q_700_25, .ref q_700_26, .ref q_700_27, .ref q_700_28, .ref q_700_29, .int 0, .long 0, .ref q_700_30, .ref q_700_31, .ref q_700_32, .ref q_700_33, .ref q_700_34, .ref q_700_35, .ref q_700_36, .ref q_700_37, .ref q_700_38, .ref q_700_39, .ref q_700_40, .ref q_700_41, .int 0, .int 0, .int 0, .int 0, .ref q_700_42, .ref q_700_43, .ref q_700_44, .ref q_700_45, .int 0, .ref q_700_46, .ref q_700_47, .int 0, .long 0])), (q_700_2, .inl (cy 1, 10, .inl (upd (fun _ => 0) 4 2))), (q_700_36, .inl (cy 1, 21, .inl (upd (upd (upd (upd (upd (upd (fun _ => 0) 9 (-1)) 10 (-1)) 11 (-1)) 12 (-1)) 13 (-1)) 14 (-1))))] H := hP
    have hD : va_D A [(q_1, .inr (9, [.ref q1_2, .int 0, .int 0, .int 0, .int 0, .int 32, .long 0, .int 0, .int 0])), (q_46, .inr (10, [.ref q1_47, .ref q2_48, .ref q3_49, .int 0])), (q_64, .inr (2, [.ref q_1_65, .int 0, .int 0, .int 0, .ref q_2_66])), (q_1_65, .inl (cy 1, 6, .inl (fl 6 (-1) (fun _ => 0)))), (q_700_30, .inl (cy 1, 6, .inl (fun _ => 0))), (h_2, .inr (12, [.int 0, .int 0, .ref q_700_1, .int 0, .int 0, .int 0, .int 0, .long 0, .int 0, .int 0, .ref q_700_2, .ref q_700_3, .ref q_700_4, .ref q_700_5, .ref q_700_6, .ref q_700_7, .ref q_700_8, .ref q_700_9, .ref q_700_10, .ref q_700_11, .ref q_700_12, .ref q_700_13, .ref q_700_14, .ref q_700_15, .ref q_700_16, .ref q_700_17, .int 0, .int 0, .ref q_700_18, .ref q_700_19, .ref q_700_20, .ref q_700_21, .ref q_700_22, .ref q_700_23, .ref q_700_24, .ref q_700_25, .ref q_700_26, .ref q_700_27, .ref q_700_28, .ref q_700_29, .int 0, .long 0, .ref q_700_30, .ref q_700_31, .ref q_700_32, .ref q_700_33, .ref q_700_34, .ref q_700_35, .ref q_700_36, .ref q_700_37, .ref q_700_38, .ref q_700_39, .ref q_700_40, .ref q_700_41, .int 0, .int 0, .int 0, .int 0, .ref q_700_42, .ref q_700_43, .ref q_700_44, .ref q_700_45, .int 0, .ref q_700_46, .ref q_700_47, .int 0, .long 0])), (q_700_2, .inl (cy 1, 10, .inl (upd (fun _ => 0) 4 2))), (q_700_36, .inl (cy 1, 21, .inl (upd (upd (upd (upd (upd (upd (fun _ => 0) 9 (-1)) 10 (-1)) 11 (-1)) 12 (-1)) 13 (-1)) 14 (-1))))] := hD
    refine lv_aload_n hx hb dL_law_1077 rfl (lv_at hl 2 rfl) ?_
    refine lv_aload_n hx hb dL_law_1078 rfl (lv_at hl 4 rfl) ?_
    refine lv_iload hx hb dL_law_1079 (lv_at hl 0 rfl) ?_
    refine lv_iconst (v := 1) hx hb dL_law_1081 (by decide) ?_
    refine m_iadd (v := 1) hx hb dL_law_1082 (by decide) ?_
    refine va_sld hx hb hX hbl hbA hS (vin (by decide)) dL_law_1083 ?_
    refine m_as (v := xs 1) rfl ?_
    refine m_as (v := 5) g_1 ?_
    refine x_i (wr := [(q_1, .inr (9, [.ref q1_2, .int 0, .int 0, .int 0, .int 0, .int 32, .long 0, .int 0, .int 0])), (q_46, .inr (10, [.ref q1_47, .ref q2_48, .ref q3_49, .int 0])), (q_64, .inr (2, [.ref q_1_65, .int 0, .int 0, .int 0, .ref q_2_66])), (q_1_65, .inl (cy 1, 6, .inl (fl 6 (-1) (fun _ => 0)))), (q_700_30, .inl (cy 1, 6, .inl (fun _ => 0))), (q_700_36, .inl (cy 1, 21, .inl (upd (upd (upd (upd (upd (upd (fun _ => 0) 9 (-1)) 10 (-1)) 11 (-1)) 12 (-1)) 13 (-1)) 14 (-1))))]) hP hD hS hA [5, 6] [0, 1, 2, 3, 4, 7] rfl rfl (by decide) (by decide) (va_runV (As := [.int 5]) (rest := [.int 0]) ⟨hx, hb, hml, hown, hts⟩ (c_X12_count_6 l D cy h_2 q_700_1 q_700_2 q_700_3 q_700_4 q_700_5 q_700_6 q_700_7 q_700_8 q_700_9 q_700_10 q_700_11 q_700_12 q_700_13 q_700_14 q_700_15 q_700_16 q_700_17 q_700_18 q_700_19 q_700_20 q_700_21 q_700_22 q_700_23 q_700_24 q_700_25 q_700_26 q_700_27 q_700_28 q_700_29 q_700_30 q_700_31 q_700_32 q_700_33 q_700_34 q_700_35 q_700_36 q_700_37 q_700_38 q_700_39 q_700_40 q_700_41 q_700_42 q_700_43 q_700_44 q_700_45 q_700_46 q_700_47 H.size) (cwV 1 hts (gV0 km_L_126 ki_X12_count kz_X12_count kn_X12 kc_X12_count) rfl rfl rfl (by decide +kernel) ⟨(Nat.le_of_ble_eq_true rfl), (Nat.le_of_ble_eq_true rfl)⟩) (preV hG hP hD [5, 6] rfl (by decide) 12 5 rfl rfl) rfl rfl hl.1 rfl (lv_room (Nat.le_of_ble_eq_true rfl)) dL_law_1084 ⟨(Nat.le_of_ble_eq_true rfl), (Nat.le_of_ble_eq_true rfl)⟩) (fun r_13 H locs hB hj hS => ?_)
    obtain ⟨hres, hP1, hD1⟩ := hB
    subst hres
    obtain ⟨hP, hD⟩ := hj _ hP1 hD1
    have hP : va_P D vwCl [(q_1, .inr (9, [.ref q1_2, .int 0, .int 0, .int 0, .int 0, .int 32, .long 0, .int 0, .int 0])), (q_46, .inr (10, [.ref q1_47, .ref q2_48, .ref q3_49, .int 0])), (q_64, .inr (2, [.ref q_1_65, .int 0, .int 0, .int 0, .ref q_2_66])), (q_1_65, .inl (cy 1, 6, .inl (fl 6 (-1) (fun _ => 0)))), (q_700_30, .inl (cy 1, 6, .inl (fun _ => 0))), (q_700_36, .inl (cy 1, 21, .inl (upd (upd (upd (upd (upd (upd (fun _ => 0) 9 (-1)) 10 (-1)) 11 (-1)) 12 (-1)) 13 (-1)) 14 (-1))))] H := hP
    have hD : va_D A [(q_1, .inr (9, [.ref q1_2, .int 0, .int 0, .int 0, .int 0, .int 32, .long 0, .int 0, .int 0])), (q_46, .inr (10, [.ref q1_47, .ref q2_48, .ref q3_49, .int 0])), (q_64, .inr (2, [.ref q_1_65, .int 0, .int 0, .int 0, .ref q_2_66])), (q_1_65, .inl (cy 1, 6, .inl (fl 6 (-1) (fun _ => 0)))), (q_700_30, .inl (cy 1, 6, .inl (fun _ => 0))), (q_700_36, .inl (cy 1, 21, .inl (upd (upd (upd (upd (upd (upd (fun _ => 0) 9 (-1)) 10 (-1)) 11 (-1)) 12 (-1)) 13 (-1)) 14 (-1))))] := hD
    refine lv_icmp_eq (tgt := 1092) hx hb dL_law_1087 (by decide) (fun _ => ?_) (fun c_ => absurd rfl c_)
    refine lv_iinc (v := 7) (lv' := [(4, .int 7), (3, .ref q_800), (2, .ref h_2), (1, .ref h_1), (0, .ref b)]) hx hb dL_law_1092 hl (k := 0) rfl (by decide) (by decide) rfl (fun ls hl => ?_)
    refine lv_goto (tgt := 23) hx hb dL_law_1095 (by decide) ?_
    refine lv_iload hx hb dL_law_23 (lv_at hl 0 rfl) ?_
    refine lv_aload_n hx hb dL_law_25 rfl (lv_at hl 4 rfl) ?_
    refine va_slen hx hb hX hbl hbA hS dL_law_26 ?_
    refine m_as (v := 7) rfl ?_
    refine lv_bipush (v := 7) hx hb dL_law_27 (by decide) ?_
    refine m_isub (v := 0) hx hb dL_law_29 (by decide) ?_
    refine lv_icmp_gt (tgt := 1098) hx hb dL_law_30 (by decide) (fun _ => ?_) (fun c_ => absurd (by decide) c_)
    refine lv_iconst (v := 1) hx hb dL_law_1098 (by decide) ?_
    exact lw_end hx hb hr hlocks hAd hS (Nat.le_of_ble_eq_true rfl) (Nat.le_of_ble_eq_true rfl) dL_law_1099
  · refine lv_aload_n hx hb dL_law_1067 rfl (lv_at hl 3 rfl) ?_
    refine lv_aload_n hx hb dL_law_1068 rfl (lv_at hl 4 rfl) ?_
    refine lv_iload hx hb dL_law_1069 (lv_at hl 0 rfl) ?_
    refine lv_iconst (v := 1) hx hb dL_law_1071 (by decide) ?_
    refine m_iadd (v := 1) hx hb dL_law_1072 (by decide) ?_
    refine va_sld hx hb hX hbl hbA hS (vin (by decide)) dL_law_1073 ?_
    refine m_as (v := xs 1) rfl ?_
    refine m_as (v := 6) g_1 ?_
    refine x_i (wr := [(q_1, .inr (9, [.ref q1_2, .int 0, .int 0, .int 0, .int 0, .int 32, .long 0, .int 0, .int 0])), (q_46, .inr (10, [.ref q1_47, .ref q2_48, .ref q3_49, .int 0])), (q_64, .inr (2, [.ref q_1_65, .int 0, .int 0, .int 0, .ref q_2_66])), (q_1_65, .inl (cy 1, 6, .inl (fl 6 (-1) (fun _ => 0)))), (q_700_30, .inl (cy 1, 6, .inl (fun _ => 0))), (h_2, .inr (12, [.int 0, .int 0, .ref q_700_1, .int 0, .int 0, .int 0, .int 0, .long 0, .int 0, .int 0, .ref q_700_2, .ref q_700_3, .ref q_700_4, .ref q_700_5, .ref q_700_6, .ref q_700_7, .ref q_700_8, .ref q_700_9, .ref q_700_10, .ref q_700_11, .ref q_700_12, .ref q_700_13, .ref q_700_14, .ref q_700_15, .ref q_700_16, .ref q_700_17, .int 0, .int 0, .ref q_700_18, .ref q_700_19, .ref q_700_20, .ref q_700_21, .ref q_700_22, .ref q_700_23, .ref q_700_24, .ref q_700_25, .ref q_700_26, .ref q_700_27, .ref q_700_28, .ref q_700_29, .int 0, .long 0, .ref q_700_30, .ref q_700_31, .ref q_700_32, .ref q_700_33, .ref q_700_34, .ref q_700_35, .ref q_700_36, .ref q_700_37, .ref q_700_38, .ref q_700_39, .ref q_700_40, .ref q_700_41, .int 0, .int 0, .int 0, .int 0, .ref q_700_42, .ref q_700_43, .ref q_700_44, .ref q_700_45, .int 0, .ref q_700_46, .ref q_700_47, .int 0, .long 0])), (q_700_2, .inl (cy 1, 10, .inl (upd (fun _ => 0) 4 2))), (q_700_36, .inl (cy 1, 21, .inl (upd (upd (upd (upd (upd (upd (fun _ => 0) 9 (-1)) 10 (-1)) 11 (-1)) 12 (-1)) 13 (-1)) 14 (-1))))]) hP hD hS hA [0, 2, 4] [1, 3, 5, 6, 7, 8, 9, 10] rfl rfl (by decide) (by decide) (va_runV (As := [.int 6]) (rest := []) ⟨hx, hb, hml, hown, hts⟩ (c_X11_count_7 l D cy h_1 q_1 q_3 q_4 q_25 q_46 q_50 q_54 q_58 q_62 q_63 q_64 q_67 q_85 q_90 q_93 q_1_5 q_2_6 q_3_7 q_4_8 q_5_9 q_6_10 q_7_11 q_8_12 q_9_13 q_10_14 q_11_15 q_12_16 q_13_17 q_18_18 q_19_19 q_20_20 q1_55 q2_56 q3_57 H.size) (cwV 1 hts (gV0 km_L_123 ki_X11_count kz_X11_count kn_X11 kc_X11_count) rfl rfl rfl (by decide +kernel) ⟨(Nat.le_of_ble_eq_true rfl), (Nat.le_of_ble_eq_true rfl)⟩) (preV hG hP hD [0, 2, 4] rfl (by decide) 11 0 rfl rfl) rfl rfl hl.1 rfl (lv_room (Nat.le_of_ble_eq_true rfl)) dL_law_1074 ⟨(Nat.le_of_ble_eq_true rfl), (Nat.le_of_ble_eq_true rfl)⟩) (fun r_14 H locs hB hj hS => ?_)
    obtain ⟨hres, hP1, hD1⟩ := hB
    subst hres
    obtain ⟨hP, hD⟩ := hj _ hP1 hD1
    have hP : va_P D vwCl [(q_1, .inr (9, [.ref q1_2, .int 0, .int 0, .int 0, .int 0, .int 32, .long 0, .int 0, .int 0])), (q_46, .inr (10, [.ref q1_47, .ref q2_48, .ref q3_49, .int 0])), (q_64, .inr (2, [.ref q_1_65, .int 0, .int 0, .int 0, .ref q_2_66])), (q_1_65, .inl (cy 1, 6, .inl (fl 6 (-1) (fun _ => 0)))), (q_700_30, .inl (cy 1, 6, .inl (fun _ => 0))), (h_2, .inr (12, [.int 0, .int 0, .ref q_700_1, .int 0, .int 0, .int 0, .int 0, .long 0, .int 0, .int 0, .ref q_700_2, .ref q_700_3, .ref q_700_4, .ref q_700_5, .ref q_700_6, .ref q_700_7, .ref q_700_8, .ref q_700_9, .ref q_700_10, .ref q_700_11, .ref q_700_12, .ref q_700_13, .ref q_700_14, .ref q_700_15, .ref q_700_16, .ref q_700_17, .int 0, .int 0, .ref q_700_18, .ref q_700_19, .ref q_700_20, .ref q_700_21, .ref q_700_22, .ref q_700_23, .ref q_700_24, .ref q_700_25, .ref q_700_26, .ref q_700_27, .ref q_700_28, .ref q_700_29, .int 0, .long 0, .ref q_700_30, .ref q_700_31, .ref q_700_32, .ref q_700_33, .ref q_700_34, .ref q_700_35, .ref q_700_36, .ref q_700_37, .ref q_700_38, .ref q_700_39, .ref q_700_40, .ref q_700_41, .int 0, .int 0, .int 0, .int 0, .ref q_700_42, .ref q_700_43, .ref q_700_44, .ref q_700_45, .int 0, .ref q_700_46, .ref q_700_47, .int 0, .long 0])), (q_700_2, .inl (cy 1, 10, .inl (upd (fun _ => 0) 4 2))), (q_700_36, .inl (cy 1, 21, .inl (upd (upd (upd (upd (upd (upd (fun _ => 0) 9 (-1)) 10 (-1)) 11 (-1)) 12 (-1)) 13 (-1)) 14 (-1))))] H := hP
    have hD : va_D A [(q_1, .inr (9, [.ref q1_2, .int 0, .int 0, .int 0, .int 0, .int 32, .long 0, .int 0, .int 0])), (q_46, .inr (10, [.ref q1_47, .ref q2_48, .ref q3_49, .int 0])), (q_64, .inr (2, [.ref q_1_65, .int 0, .int 0, .int 0, .ref q_2_66])), (q_1_65, .inl (cy 1, 6, .inl (fl 6 (-1) (fun _ => 0)))), (q_700_30, .inl (cy 1, 6, .inl (fun _ => 0))), (h_2, .inr (12, [.int 0, .int 0, .ref q_700_1, .int 0, .int 0, .int 0, .int 0, .long 0, .int 0, .int 0, .ref q_700_2, .ref q_700_3, .ref q_700_4, .ref q_700_5, .ref q_700_6, .ref q_700_7, .ref q_700_8, .ref q_700_9, .ref q_700_10, .ref q_700_11, .ref q_700_12, .ref q_700_13, .ref q_700_14, .ref q_700_15, .ref q_700_16, .ref q_700_17, .int 0, .int 0, .ref q_700_18, .ref q_700_19, .ref q_700_20, .ref q_700_21, .ref q_700_22, .ref q_700_23, .ref q_700_24, .ref q_700_25, .ref q_700_26, .ref q_700_27, .ref q_700_28, .ref q_700_29, .int 0, .long 0, .ref q_700_30, .ref q_700_31, .ref q_700_32, .ref q_700_33, .ref q_700_34, .ref q_700_35, .ref q_700_36, .ref q_700_37, .ref q_700_38, .ref q_700_39, .ref q_700_40, .ref q_700_41, .int 0, .int 0, .int 0, .int 0, .ref q_700_42, .ref q_700_43, .ref q_700_44, .ref q_700_45, .int 0, .ref q_700_46, .ref q_700_47, .int 0, .long 0])), (q_700_2, .inl (cy 1, 10, .inl (upd (fun _ => 0) 4 2))), (q_700_36, .inl (cy 1, 21, .inl (upd (upd (upd (upd (upd (upd (fun _ => 0) 9 (-1)) 10 (-1)) 11 (-1)) 12 (-1)) 13 (-1)) 14 (-1))))] := hD
    refine lv_aload_n hx hb dL_law_1077 rfl (lv_at hl 2 rfl) ?_
    refine lv_aload_n hx hb dL_law_1078 rfl (lv_at hl 4 rfl) ?_
    refine lv_iload hx hb dL_law_1079 (lv_at hl 0 rfl) ?_
    refine lv_iconst (v := 1) hx hb dL_law_1081 (by decide) ?_
    refine m_iadd (v := 1) hx hb dL_law_1082 (by decide) ?_
    refine va_sld hx hb hX hbl hbA hS (vin (by decide)) dL_law_1083 ?_
    refine m_as (v := xs 1) rfl ?_
    refine m_as (v := 6) g_1 ?_
    refine x_i (wr := [(q_1, .inr (9, [.ref q1_2, .int 0, .int 0, .int 0, .int 0, .int 32, .long 0, .int 0, .int 0])), (q_46, .inr (10, [.ref q1_47, .ref q2_48, .ref q3_49, .int 0])), (q_64, .inr (2, [.ref q_1_65, .int 0, .int 0, .int 0, .ref q_2_66])), (q_1_65, .inl (cy 1, 6, .inl (fl 6 (-1) (fun _ => 0)))), (q_700_30, .inl (cy 1, 6, .inl (fun _ => 0))), (q_700_2, .inl (cy 1, 10, .inl (upd (fun _ => 0) 4 2)))]) hP hD hS hA [5, 7] [0, 1, 2, 3, 4, 6] rfl rfl (by decide) (by decide) (va_runV (As := [.int 6]) (rest := [.int 0]) ⟨hx, hb, hml, hown, hts⟩ (c_X12_count_7 l D cy h_2 q_700_1 q_700_2 q_700_3 q_700_4 q_700_5 q_700_6 q_700_7 q_700_8 q_700_9 q_700_10 q_700_11 q_700_12 q_700_13 q_700_14 q_700_15 q_700_16 q_700_17 q_700_18 q_700_19 q_700_20 q_700_21 q_700_22 q_700_23 q_700_24 q_700_25 q_700_26 q_700_27 q_700_28 q_700_29 q_700_30 q_700_31 q_700_32 q_700_33 q_700_34 q_700_35 q_700_36 q_700_37 q_700_38 q_700_39 q_700_40 q_700_41 q_700_42 q_700_43 q_700_44 q_700_45 q_700_46 q_700_47 H.size) (cwV 1 hts (gV0 km_L_126 ki_X12_count kz_X12_count kn_X12 kc_X12_count) rfl rfl rfl (by decide +kernel) ⟨(Nat.le_of_ble_eq_true rfl), (Nat.le_of_ble_eq_true rfl)⟩) (preV hG hP hD [5, 7] rfl (by decide) 12 5 rfl rfl) rfl rfl hl.1 rfl (lv_room (Nat.le_of_ble_eq_true rfl)) dL_law_1084 ⟨(Nat.le_of_ble_eq_true rfl), (Nat.le_of_ble_eq_true rfl)⟩) (fun r_15 H locs hB hj hS => ?_)
    obtain ⟨hres, hP1, hD1⟩ := hB
    subst hres
    obtain ⟨hP, hD⟩ := hj _ hP1 hD1
    have hP : va_P D vwCl [(q_1, .inr (9, [.ref q1_2, .int 0, .int 0, .int 0, .int 0, .int 32, .long 0, .int 0, .int 0])), (q_46, .inr (10, [.ref q1_47, .ref q2_48, .ref q3_49, .int 0])), (q_64, .inr (2, [.ref q_1_65, .int 0, .int 0, .int 0, .ref q_2_66])), (q_1_65, .inl (cy 1, 6, .inl (fl 6 (-1) (fun _ => 0)))), (q_700_30, .inl (cy 1, 6, .inl (fun _ => 0))), (q_700_2, .inl (cy 1, 10, .inl (upd (fun _ => 0) 4 2)))] H := hP
    have hD : va_D A [(q_1, .inr (9, [.ref q1_2, .int 0, .int 0, .int 0, .int 0, .int 32, .long 0, .int 0, .int 0])), (q_46, .inr (10, [.ref q1_47, .ref q2_48, .ref q3_49, .int 0])), (q_64, .inr (2, [.ref q_1_65, .int 0, .int 0, .int 0, .ref q_2_66])), (q_1_65, .inl (cy 1, 6, .inl (fl 6 (-1) (fun _ => 0)))), (q_700_30, .inl (cy 1, 6, .inl (fun _ => 0))), (q_700_2, .inl (cy 1, 10, .inl (upd (fun _ => 0) 4 2)))] := hD
    refine lv_icmp_eq (tgt := 1092) hx hb dL_law_1087 (by decide) (fun _ => ?_) (fun c_ => absurd rfl c_)
    refine lv_iinc (v := 7) (lv' := [(4, .int 7), (3, .ref q_800), (2, .ref h_2), (1, .ref h_1), (0, .ref b)]) hx hb dL_law_1092 hl (k := 0) rfl (by decide) (by decide) rfl (fun ls hl => ?_)
    refine lv_goto (tgt := 23) hx hb dL_law_1095 (by decide) ?_
    refine lv_iload hx hb dL_law_23 (lv_at hl 0 rfl) ?_
    refine lv_aload_n hx hb dL_law_25 rfl (lv_at hl 4 rfl) ?_
    refine va_slen hx hb hX hbl hbA hS dL_law_26 ?_
    refine m_as (v := 7) rfl ?_
    refine lv_bipush (v := 7) hx hb dL_law_27 (by decide) ?_
    refine m_isub (v := 0) hx hb dL_law_29 (by decide) ?_
    refine lv_icmp_gt (tgt := 1098) hx hb dL_law_30 (by decide) (fun _ => ?_) (fun c_ => absurd (by decide) c_)
    refine lv_iconst (v := 1) hx hb dL_law_1098 (by decide) ?_
    exact lw_end hx hb hr hlocks hAd hS (Nat.le_of_ble_eq_true rfl) (Nat.le_of_ble_eq_true rfl) dL_law_1099
  · refine lv_aload_n hx hb dL_law_1067 rfl (lv_at hl 3 rfl) ?_
    refine lv_aload_n hx hb dL_law_1068 rfl (lv_at hl 4 rfl) ?_
    refine lv_iload hx hb dL_law_1069 (lv_at hl 0 rfl) ?_
    refine lv_iconst (v := 1) hx hb dL_law_1071 (by decide) ?_
    refine m_iadd (v := 1) hx hb dL_law_1072 (by decide) ?_
    refine va_sld hx hb hX hbl hbA hS (vin (by decide)) dL_law_1073 ?_
    refine m_as (v := xs 1) rfl ?_
    refine m_as (v := 7) g_1 ?_
    refine x_i (wr := [(q_1, .inr (9, [.ref q1_2, .int 0, .int 0, .int 0, .int 0, .int 32, .long 0, .int 0, .int 0])), (q_4, .inr (0, [.ref q_1_5, .ref q_2_6, .ref q_3_7, .ref q_4_8, .ref q_5_9, .ref q_6_10, .ref q_7_11, .ref q_8_12, .ref q_9_13, .ref q_10_14, .ref q_11_15, .ref q_12_16, .ref q_13_17, .int 0, .int 0, .int 0, .int 2, .ref q_18_18, .ref q_19_19, .ref q_20_20])), (q_46, .inr (10, [.ref q1_47, .ref q2_48, .ref q3_49, .int 0])), (q_64, .inr (2, [.ref q_1_65, .int 0, .int 0, .int 0, .ref q_2_66])), (q_1_65, .inl (cy 1, 6, .inl (fl 6 (-1) (fun _ => 0)))), (q_700_30, .inl (cy 1, 6, .inl (fun _ => 0))), (h_2, .inr (12, [.int 0, .int 0, .ref q_700_1, .int 0, .int 0, .int 0, .int 0, .long 0, .int 0, .int 0, .ref q_700_2, .ref q_700_3, .ref q_700_4, .ref q_700_5, .ref q_700_6, .ref q_700_7, .ref q_700_8, .ref q_700_9, .ref q_700_10, .ref q_700_11, .ref q_700_12, .ref q_700_13, .ref q_700_14, .ref q_700_15, .ref q_700_16, .ref q_700_17, .int 0, .int 0, .ref q_700_18, .ref q_700_19, .ref q_700_20, .ref q_700_21, .ref q_700_22, .ref q_700_23, .ref q_700_24, .ref q_700_25, .ref q_700_26, .ref q_700_27, .ref q_700_28, .ref q_700_29, .int 0, .long 0, .ref q_700_30, .ref q_700_31, .ref q_700_32, .ref q_700_33, .ref q_700_34, .ref q_700_35, .ref q_700_36, .ref q_700_37, .ref q_700_38, .ref q_700_39, .ref q_700_40, .ref q_700_41, .int 0, .int 0, .int 0, .int 0, .ref q_700_42, .ref q_700_43, .ref q_700_44, .ref q_700_45, .int 0, .ref q_700_46, .ref q_700_47, .int 0, .long 0])), (q_700_2, .inl (cy 1, 10, .inl (upd (fun _ => 0) 4 2))), (q_700_36, .inl (cy 1, 21, .inl (upd (upd (upd (upd (upd (upd (fun _ => 0) 9 (-1)) 10 (-1)) 11 (-1)) 12 (-1)) 13 (-1)) 14 (-1))))]) hP hD hS hA [0, 4] [1, 2, 3, 5, 6, 7, 8, 9, 10] rfl rfl (by decide) (by decide) (va_runV (As := [.int 7]) (rest := []) ⟨hx, hb, hml, hown, hts⟩ (c_X11_count_8 l D cy h_1 q_1 q_3 q_4 q_25 q_46 q_50 q_54 q_58 q_62 q_63 q_64 q_67 q_85 q_90 q_93 q1_55 q2_56 q3_57 H.size) (cwV 1 hts (gV0 km_L_123 ki_X11_count kz_X11_count kn_X11 kc_X11_count) rfl rfl rfl (by decide +kernel) ⟨(Nat.le_of_ble_eq_true rfl), (Nat.le_of_ble_eq_true rfl)⟩) (preV hG hP hD [0, 4] rfl (by decide) 11 0 rfl rfl) rfl rfl hl.1 rfl (lv_room (Nat.le_of_ble_eq_true rfl)) dL_law_1074 ⟨(Nat.le_of_ble_eq_true rfl), (Nat.le_of_ble_eq_true rfl)⟩) (fun r_16 H locs hB hj hS => ?_)
    obtain ⟨hres, hP1, hD1⟩ := hB
    subst hres
    obtain ⟨hP, hD⟩ := hj _ hP1 hD1
    have hP : va_P D vwCl [(q_1, .inr (9, [.ref q1_2, .int 0, .int 0, .int 0, .int 0, .int 32, .long 0, .int 0, .int 0])), (q_4, .inr (0, [.ref q_1_5, .ref q_2_6, .ref q_3_7, .ref q_4_8, .ref q_5_9, .ref q_6_10, .ref q_7_11, .ref q_8_12, .ref q_9_13, .ref q_10_14, .ref q_11_15, .ref q_12_16, .ref q_13_17, .int 0, .int 0, .int 0, .int 2, .ref q_18_18, .ref q_19_19, .ref q_20_20])), (q_46, .inr (10, [.ref q1_47, .ref q2_48, .ref q3_49, .int 0])), (q_64, .inr (2, [.ref q_1_65, .int 0, .int 0, .int 0, .ref q_2_66])), (q_1_65, .inl (cy 1, 6, .inl (fl 6 (-1) (fun _ => 0)))), (q_700_30, .inl (cy 1, 6, .inl (fun _ => 0))), (h_2, .inr (12, [.int 0, .int 0, .ref q_700_1, .int 0, .int 0, .int 0, .int 0, .long 0, .int 0, .int 0, .ref q_700_2, .ref q_700_3, .ref q_700_4, .ref q_700_5, .ref q_700_6, .ref q_700_7, .ref q_700_8, .ref q_700_9, .ref q_700_10, .ref q_700_11, .ref q_700_12, .ref q_700_13, .ref q_700_14, .ref q_700_15, .ref q_700_16, .ref q_700_17, .int 0, .int 0, .ref q_700_18, .ref q_700_19, .ref q_700_20, .ref q_700_21, .ref q_700_22, .ref q_700_23, .ref q_700_24, .ref q_700_25, .ref q_700_26, .ref q_700_27, .ref q_700_28, .ref q_700_29, .int 0, .long 0, .ref q_700_30, .ref q_700_31, .ref q_700_32, .ref q_700_33, .ref q_700_34, .ref q_700_35, .ref q_700_36, .ref q_700_37, .ref q_700_38, .ref q_700_39, .ref q_700_40, .ref q_700_41, .int 0, .int 0, .int 0, .int 0, .ref q_700_42, .ref q_700_43, .ref q_700_44, .ref q_700_45, .int 0, .ref q_700_46, .ref q_700_47, .int 0, .long 0])), (q_700_2, .inl (cy 1, 10, .inl (upd (fun _ => 0) 4 2))), (q_700_36, .inl (cy 1, 21, .inl (upd (upd (upd (upd (upd (upd (fun _ => 0) 9 (-1)) 10 (-1)) 11 (-1)) 12 (-1)) 13 (-1)) 14 (-1))))] H := hP
    have hD : va_D A [(q_1, .inr (9, [.ref q1_2, .int 0, .int 0, .int 0, .int 0, .int 32, .long 0, .int 0, .int 0])), (q_4, .inr (0, [.ref q_1_5, .ref q_2_6, .ref q_3_7, .ref q_4_8, .ref q_5_9, .ref q_6_10, .ref q_7_11, .ref q_8_12, .ref q_9_13, .ref q_10_14, .ref q_11_15, .ref q_12_16, .ref q_13_17, .int 0, .int 0, .int 0, .int 2, .ref q_18_18, .ref q_19_19, .ref q_20_20])), (q_46, .inr (10, [.ref q1_47, .ref q2_48, .ref q3_49, .int 0])), (q_64, .inr (2, [.ref q_1_65, .int 0, .int 0, .int 0, .ref q_2_66])), (q_1_65, .inl (cy 1, 6, .inl (fl 6 (-1) (fun _ => 0)))), (q_700_30, .inl (cy 1, 6, .inl (fun _ => 0))), (h_2, .inr (12, [.int 0, .int 0, .ref q_700_1, .int 0, .int 0, .int 0, .int 0, .long 0, .int 0, .int 0, .ref q_700_2, .ref q_700_3, .ref q_700_4, .ref q_700_5, .ref q_700_6, .ref q_700_7, .ref q_700_8, .ref q_700_9, .ref q_700_10, .ref q_700_11, .ref q_700_12, .ref q_700_13, .ref q_700_14, .ref q_700_15, .ref q_700_16, .ref q_700_17, .int 0, .int 0, .ref q_700_18, .ref q_700_19, .ref q_700_20, .ref q_700_21, .ref q_700_22, .ref q_700_23, .ref q_700_24, .ref q_700_25, .ref q_700_26, .ref q_700_27, .ref q_700_28, .ref q_700_29, .int 0, .long 0, .ref q_700_30, .ref q_700_31, .ref q_700_32, .ref q_700_33, .ref q_700_34, .ref q_700_35, .ref q_700_36, .ref q_700_37, .ref q_700_38, .ref q_700_39, .ref q_700_40, .ref q_700_41, .int 0, .int 0, .int 0, .int 0, .ref q_700_42, .ref q_700_43, .ref q_700_44, .ref q_700_45, .int 0, .ref q_700_46, .ref q_700_47, .int 0, .long 0])), (q_700_2, .inl (cy 1, 10, .inl (upd (fun _ => 0) 4 2))), (q_700_36, .inl (cy 1, 21, .inl (upd (upd (upd (upd (upd (upd (fun _ => 0) 9 (-1)) 10 (-1)) 11 (-1)) 12 (-1)) 13 (-1)) 14 (-1))))] := hD
    refine lv_aload_n hx hb dL_law_1077 rfl (lv_at hl 2 rfl) ?_
    refine lv_aload_n hx hb dL_law_1078 rfl (lv_at hl 4 rfl) ?_
    refine lv_iload hx hb dL_law_1079 (lv_at hl 0 rfl) ?_
    refine lv_iconst (v := 1) hx hb dL_law_1081 (by decide) ?_
    refine m_iadd (v := 1) hx hb dL_law_1082 (by decide) ?_
    refine va_sld hx hb hX hbl hbA hS (vin (by decide)) dL_law_1083 ?_
    refine m_as (v := xs 1) rfl ?_
    refine m_as (v := 7) g_1 ?_
    refine x_i (wr := [(q_1, .inr (9, [.ref q1_2, .int 0, .int 0, .int 0, .int 0, .int 32, .long 0, .int 0, .int 0])), (q_4, .inr (0, [.ref q_1_5, .ref q_2_6, .ref q_3_7, .ref q_4_8, .ref q_5_9, .ref q_6_10, .ref q_7_11, .ref q_8_12, .ref q_9_13, .ref q_10_14, .ref q_11_15, .ref q_12_16, .ref q_13_17, .int 0, .int 0, .int 0, .int 2, .ref q_18_18, .ref q_19_19, .ref q_20_20])), (q_46, .inr (10, [.ref q1_47, .ref q2_48, .ref q3_49, .int 0])), (q_64, .inr (2, [.ref q_1_65, .int 0, .int 0, .int 0, .ref q_2_66])), (q_1_65, .inl (cy 1, 6, .inl (fl 6 (-1) (fun _ => 0)))), (q_700_30, .inl (cy 1, 6, .inl (fun _ => 0))), (q_700_2, .inl (cy 1, 10, .inl (upd (fun _ => 0) 4 2)))]) hP hD hS hA [6, 8] [0, 1, 2, 3, 4, 5, 7] rfl rfl (by decide) (by decide) (va_runV (As := [.int 7]) (rest := [.int 0]) ⟨hx, hb, hml, hown, hts⟩ (c_X12_count_8 l D cy h_2 q_700_1 q_700_2 q_700_3 q_700_4 q_700_5 q_700_6 q_700_7 q_700_8 q_700_9 q_700_10 q_700_11 q_700_12 q_700_13 q_700_14 q_700_15 q_700_16 q_700_17 q_700_18 q_700_19 q_700_20 q_700_21 q_700_22 q_700_23 q_700_24 q_700_25 q_700_26 q_700_27 q_700_28 q_700_29 q_700_30 q_700_31 q_700_32 q_700_33 q_700_34 q_700_35 q_700_36 q_700_37 q_700_38 q_700_39 q_700_40 q_700_41 q_700_42 q_700_43 q_700_44 q_700_45 q_700_46 q_700_47 H.size) (cwV 1 hts (gV0 km_L_126 ki_X12_count kz_X12_count kn_X12 kc_X12_count) rfl rfl rfl (by decide +kernel) ⟨(Nat.le_of_ble_eq_true rfl), (Nat.le_of_ble_eq_true rfl)⟩) (preV hG hP hD [6, 8] rfl (by decide) 12 6 rfl rfl) rfl rfl hl.1 rfl (lv_room (Nat.le_of_ble_eq_true rfl)) dL_law_1084 ⟨(Nat.le_of_ble_eq_true rfl), (Nat.le_of_ble_eq_true rfl)⟩) (fun r_17 H locs hB hj hS => ?_)
    obtain ⟨hres, hP1, hD1⟩ := hB
    subst hres
    obtain ⟨hP, hD⟩ := hj _ hP1 hD1
    have hP : va_P D vwCl [(q_1, .inr (9, [.ref q1_2, .int 0, .int 0, .int 0, .int 0, .int 32, .long 0, .int 0, .int 0])), (q_4, .inr (0, [.ref q_1_5, .ref q_2_6, .ref q_3_7, .ref q_4_8, .ref q_5_9, .ref q_6_10, .ref q_7_11, .ref q_8_12, .ref q_9_13, .ref q_10_14, .ref q_11_15, .ref q_12_16, .ref q_13_17, .int 0, .int 0, .int 0, .int 2, .ref q_18_18, .ref q_19_19, .ref q_20_20])), (q_46, .inr (10, [.ref q1_47, .ref q2_48, .ref q3_49, .int 0])), (q_64, .inr (2, [.ref q_1_65, .int 0, .int 0, .int 0, .ref q_2_66])), (q_1_65, .inl (cy 1, 6, .inl (fl 6 (-1) (fun _ => 0)))), (q_700_30, .inl (cy 1, 6, .inl (fun _ => 0))), (q_700_2, .inl (cy 1, 10, .inl (upd (fun _ => 0) 4 2)))] H := hP
    have hD : va_D A [(q_1, .inr (9, [.ref q1_2, .int 0, .int 0, .int 0, .int 0, .int 32, .long 0, .int 0, .int 0])), (q_4, .inr (0, [.ref q_1_5, .ref q_2_6, .ref q_3_7, .ref q_4_8, .ref q_5_9, .ref q_6_10, .ref q_7_11, .ref q_8_12, .ref q_9_13, .ref q_10_14, .ref q_11_15, .ref q_12_16, .ref q_13_17, .int 0, .int 0, .int 0, .int 2, .ref q_18_18, .ref q_19_19, .ref q_20_20])), (q_46, .inr (10, [.ref q1_47, .ref q2_48, .ref q3_49, .int 0])), (q_64, .inr (2, [.ref q_1_65, .int 0, .int 0, .int 0, .ref q_2_66])), (q_1_65, .inl (cy 1, 6, .inl (fl 6 (-1) (fun _ => 0)))), (q_700_30, .inl (cy 1, 6, .inl (fun _ => 0))), (q_700_2, .inl (cy 1, 10, .inl (upd (fun _ => 0) 4 2)))] := hD
    refine lv_icmp_eq (tgt := 1092) hx hb dL_law_1087 (by decide) (fun _ => ?_) (fun c_ => absurd rfl c_)
    refine lv_iinc (v := 7) (lv' := [(4, .int 7), (3, .ref q_800), (2, .ref h_2), (1, .ref h_1), (0, .ref b)]) hx hb dL_law_1092 hl (k := 0) rfl (by decide) (by decide) rfl (fun ls hl => ?_)
    refine lv_goto (tgt := 23) hx hb dL_law_1095 (by decide) ?_
    refine lv_iload hx hb dL_law_23 (lv_at hl 0 rfl) ?_
    refine lv_aload_n hx hb dL_law_25 rfl (lv_at hl 4 rfl) ?_
    refine va_slen hx hb hX hbl hbA hS dL_law_26 ?_
    refine m_as (v := 7) rfl ?_
    refine lv_bipush (v := 7) hx hb dL_law_27 (by decide) ?_
    refine m_isub (v := 0) hx hb dL_law_29 (by decide) ?_
    refine lv_icmp_gt (tgt := 1098) hx hb dL_law_30 (by decide) (fun _ => ?_) (fun c_ => absurd (by decide) c_)
    refine lv_iconst (v := 1) hx hb dL_law_1098 (by decide) ?_
    exact lw_end hx hb hr hlocks hAd hS (Nat.le_of_ble_eq_true rfl) (Nat.le_of_ble_eq_true rfl) dL_law_1099
  · refine lv_aload_n hx hb dL_law_1067 rfl (lv_at hl 3 rfl) ?_
    refine lv_aload_n hx hb dL_law_1068 rfl (lv_at hl 4 rfl) ?_
    refine lv_iload hx hb dL_law_1069 (lv_at hl 0 rfl) ?_
    refine lv_iconst (v := 1) hx hb dL_law_1071 (by decide) ?_
    refine m_iadd (v := 1) hx hb dL_law_1072 (by decide) ?_
    refine va_sld hx hb hX hbl hbA hS (vin (by decide)) dL_law_1073 ?_
    refine m_as (v := xs 1) rfl ?_
    refine m_as (v := 8) g_1 ?_
    refine x_i (wr := [(q_1, .inr (9, [.ref q1_2, .int 0, .int 0, .int 0, .int 0, .int 32, .long 0, .int 0, .int 0])), (q_4, .inr (0, [.ref q_1_5, .ref q_2_6, .ref q_3_7, .ref q_4_8, .ref q_5_9, .ref q_6_10, .ref q_7_11, .ref q_8_12, .ref q_9_13, .ref q_10_14, .ref q_11_15, .ref q_12_16, .ref q_13_17, .int 0, .int 0, .int 0, .int 2, .ref q_18_18, .ref q_19_19, .ref q_20_20])), (q_54, .inr (8, [.int 0, .int 0, .int 0, .ref q1_55, .ref q2_56, .ref q3_57])), (q_64, .inr (2, [.ref q_1_65, .int 0, .int 0, .int 0, .ref q_2_66])), (q_1_65, .inl (cy 1, 6, .inl (fl 6 (-1) (fun _ => 0)))), (q_700_30, .inl (cy 1, 6, .inl (fun _ => 0))), (h_2, .inr (12, [.int 0, .int 0, .ref q_700_1, .int 0, .int 0, .int 0, .int 0, .long 0, .int 0, .int 0, .ref q_700_2, .ref q_700_3, .ref q_700_4, .ref q_700_5, .ref q_700_6, .ref q_700_7, .ref q_700_8, .ref q_700_9, .ref q_700_10, .ref q_700_11, .ref q_700_12, .ref q_700_13, .ref q_700_14, .ref q_700_15, .ref q_700_16, .ref q_700_17, .int 0, .int 0, .ref q_700_18, .ref q_700_19, .ref q_700_20, .ref q_700_21, .ref q_700_22, .ref q_700_23, .ref q_700_24, .ref q_700_25, .ref q_700_26, .ref q_700_27, .ref q_700_28, .ref q_700_29, .int 0, .long 0, .ref q_700_30, .ref q_700_31, .ref q_700_32, .ref q_700_33, .ref q_700_34, .ref q_700_35, .ref q_700_36, .ref q_700_37, .ref q_700_38, .ref q_700_39, .ref q_700_40, .ref q_700_41, .int 0, .int 0, .int 0, .int 0, .ref q_700_42, .ref q_700_43, .ref q_700_44, .ref q_700_45, .int 0, .ref q_700_46, .ref q_700_47, .int 0, .long 0])), (q_700_2, .inl (cy 1, 10, .inl (upd (fun _ => 0) 4 2))), (q_700_36, .inl (cy 1, 21, .inl (upd (upd (upd (upd (upd (upd (fun _ => 0) 9 (-1)) 10 (-1)) 11 (-1)) 12 (-1)) 13 (-1)) 14 (-1))))]) hP hD hS hA [0, 3] [1, 2, 4, 5, 6, 7, 8, 9, 10] rfl rfl (by decide) (by decide) (va_runV (As := [.int 8]) (rest := []) ⟨hx, hb, hml, hown, hts⟩ (c_X11_count_9 l D cy h_1 q_1 q_3 q_4 q_25 q_46 q_50 q_54 q_58 q_62 q_63 q_64 q_67 q_85 q_90 q_93 q1_47 q2_48 q3_49 H.size) (cwV 1 hts (gV0 km_L_123 ki_X11_count kz_X11_count kn_X11 kc_X11_count) rfl rfl rfl (by decide +kernel) ⟨(Nat.le_of_ble_eq_true rfl), (Nat.le_of_ble_eq_true rfl)⟩) (preV hG hP hD [0, 3] rfl (by decide) 11 0 rfl rfl) rfl rfl hl.1 rfl (lv_room (Nat.le_of_ble_eq_true rfl)) dL_law_1074 ⟨(Nat.le_of_ble_eq_true rfl), (Nat.le_of_ble_eq_true rfl)⟩) (fun r_18 H locs hB hj hS => ?_)
    obtain ⟨hres, hP1, hD1⟩ := hB
    subst hres
    obtain ⟨hP, hD⟩ := hj _ hP1 hD1
    have hP : va_P D vwCl [(q_1, .inr (9, [.ref q1_2, .int 0, .int 0, .int 0, .int 0, .int 32, .long 0, .int 0, .int 0])), (q_4, .inr (0, [.ref q_1_5, .ref q_2_6, .ref q_3_7, .ref q_4_8, .ref q_5_9, .ref q_6_10, .ref q_7_11, .ref q_8_12, .ref q_9_13, .ref q_10_14, .ref q_11_15, .ref q_12_16, .ref q_13_17, .int 0, .int 0, .int 0, .int 2, .ref q_18_18, .ref q_19_19, .ref q_20_20])), (q_54, .inr (8, [.int 0, .int 0, .int 0, .ref q1_55, .ref q2_56, .ref q3_57])), (q_64, .inr (2, [.ref q_1_65, .int 0, .int 0, .int 0, .ref q_2_66])), (q_1_65, .inl (cy 1, 6, .inl (fl 6 (-1) (fun _ => 0)))), (q_700_30, .inl (cy 1, 6, .inl (fun _ => 0))), (h_2, .inr (12, [.int 0, .int 0, .ref q_700_1, .int 0, .int 0, .int 0, .int 0, .long 0, .int 0, .int 0, .ref q_700_2, .ref q_700_3, .ref q_700_4, .ref q_700_5, .ref q_700_6, .ref q_700_7, .ref q_700_8, .ref q_700_9, .ref q_700_10, .ref q_700_11, .ref q_700_12, .ref q_700_13, .ref q_700_14, .ref q_700_15, .ref q_700_16, .ref q_700_17, .int 0, .int 0, .ref q_700_18, .ref q_700_19, .ref q_700_20, .ref q_700_21, .ref q_700_22, .ref q_700_23, .ref q_700_24, .ref q_700_25, .ref q_700_26, .ref q_700_27, .ref q_700_28, .ref q_700_29, .int 0, .long 0, .ref q_700_30, .ref q_700_31, .ref q_700_32, .ref q_700_33, .ref q_700_34, .ref q_700_35, .ref q_700_36, .ref q_700_37, .ref q_700_38, .ref q_700_39, .ref q_700_40, .ref q_700_41, .int 0, .int 0, .int 0, .int 0, .ref q_700_42, .ref q_700_43, .ref q_700_44, .ref q_700_45, .int 0, .ref q_700_46, .ref q_700_47, .int 0, .long 0])), (q_700_2, .inl (cy 1, 10, .inl (upd (fun _ => 0) 4 2))), (q_700_36, .inl (cy 1, 21, .inl (upd (upd (upd (upd (upd (upd (fun _ => 0) 9 (-1)) 10 (-1)) 11 (-1)) 12 (-1)) 13 (-1)) 14 (-1))))] H := hP
    have hD : va_D A [(q_1, .inr (9, [.ref q1_2, .int 0, .int 0, .int 0, .int 0, .int 32, .long 0, .int 0, .int 0])), (q_4, .inr (0, [.ref q_1_5, .ref q_2_6, .ref q_3_7, .ref q_4_8, .ref q_5_9, .ref q_6_10, .ref q_7_11, .ref q_8_12, .ref q_9_13, .ref q_10_14, .ref q_11_15, .ref q_12_16, .ref q_13_17, .int 0, .int 0, .int 0, .int 2, .ref q_18_18, .ref q_19_19, .ref q_20_20])), (q_54, .inr (8, [.int 0, .int 0, .int 0, .ref q1_55, .ref q2_56, .ref q3_57])), (q_64, .inr (2, [.ref q_1_65, .int 0, .int 0, .int 0, .ref q_2_66])), (q_1_65, .inl (cy 1, 6, .inl (fl 6 (-1) (fun _ => 0)))), (q_700_30, .inl (cy 1, 6, .inl (fun _ => 0))), (h_2, .inr (12, [.int 0, .int 0, .ref q_700_1, .int 0, .int 0, .int 0, .int 0, .long 0, .int 0, .int 0, .ref q_700_2, .ref q_700_3, .ref q_700_4, .ref q_700_5, .ref q_700_6, .ref q_700_7, .ref q_700_8, .ref q_700_9, .ref q_700_10, .ref q_700_11, .ref q_700_12, .ref q_700_13, .ref q_700_14, .ref q_700_15, .ref q_700_16, .ref q_700_17, .int 0, .int 0, .ref q_700_18, .ref q_700_19, .ref q_700_20, .ref q_700_21, .ref q_700_22, .ref q_700_23, .ref q_700_24, .ref q_700_25, .ref q_700_26, .ref q_700_27, .ref q_700_28, .ref q_700_29, .int 0, .long 0, .ref q_700_30, .ref q_700_31, .ref q_700_32, .ref q_700_33, .ref q_700_34, .ref q_700_35, .ref q_700_36, .ref q_700_37, .ref q_700_38, .ref q_700_39, .ref q_700_40, .ref q_700_41, .int 0, .int 0, .int 0, .int 0, .ref q_700_42, .ref q_700_43, .ref q_700_44, .ref q_700_45, .int 0, .ref q_700_46, .ref q_700_47, .int 0, .long 0])), (q_700_2, .inl (cy 1, 10, .inl (upd (fun _ => 0) 4 2))), (q_700_36, .inl (cy 1, 21, .inl (upd (upd (upd (upd (upd (upd (fun _ => 0) 9 (-1)) 10 (-1)) 11 (-1)) 12 (-1)) 13 (-1)) 14 (-1))))] := hD
    refine lv_aload_n hx hb dL_law_1077 rfl (lv_at hl 2 rfl) ?_
    refine lv_aload_n hx hb dL_law_1078 rfl (lv_at hl 4 rfl) ?_
    refine lv_iload hx hb dL_law_1079 (lv_at hl 0 rfl) ?_
    refine lv_iconst (v := 1) hx hb dL_law_1081 (by decide) ?_
    refine m_iadd (v := 1) hx hb dL_law_1082 (by decide) ?_
    refine va_sld hx hb hX hbl hbA hS (vin (by decide)) dL_law_1083 ?_
    refine m_as (v := xs 1) rfl ?_
    refine m_as (v := 8) g_1 ?_
    refine x_i (wr := [(q_1, .inr (9, [.ref q1_2, .int 0, .int 0, .int 0, .int 0, .int 32, .long 0, .int 0, .int 0])), (q_4, .inr (0, [.ref q_1_5, .ref q_2_6, .ref q_3_7, .ref q_4_8, .ref q_5_9, .ref q_6_10, .ref q_7_11, .ref q_8_12, .ref q_9_13, .ref q_10_14, .ref q_11_15, .ref q_12_16, .ref q_13_17, .int 0, .int 0, .int 0, .int 2, .ref q_18_18, .ref q_19_19, .ref q_20_20])), (q_54, .inr (8, [.int 0, .int 0, .int 0, .ref q1_55, .ref q2_56, .ref q3_57])), (q_64, .inr (2, [.ref q_1_65, .int 0, .int 0, .int 0, .ref q_2_66])), (q_1_65, .inl (cy 1, 6, .inl (fl 6 (-1) (fun _ => 0)))), (q_700_2, .inl (cy 1, 10, .inl (upd (fun _ => 0) 4 2))), (q_700_36, .inl (cy 1, 21, .inl (upd (upd (upd (upd (upd (upd (fun _ => 0) 9 (-1)) 10 (-1)) 11 (-1)) 12 (-1)) 13 (-1)) 14 (-1))))]) hP hD hS hA [6, 5] [0, 1, 2, 3, 4, 7, 8] rfl rfl (by decide) (by decide) (va_runV (As := [.int 8]) (rest := [.int 0]) ⟨hx, hb, hml, hown, hts⟩ (c_X12_count_9 l D cy h_2 q_700_1 q_700_2 q_700_3 q_700_4 q_700_5 q_700_6 q_700_7 q_700_8 q_700_9 q_700_10 q_700_11 q_700_12 q_700_13 q_700_14 q_700_15 q_700_16 q_700_17 q_700_18 q_700_19 q_700_20 q_700_21 q_700_22 q_700_23 q_700_24 q_700_25 q_700_26 q_700_27 q_700_28 q_700_29 q_700_30 q_700_31 q_700_32 q_700_33 q_700_34 q_700_35 q_700_36 q_700_37 q_700_38 q_700_39 q_700_40 q_700_41 q_700_42 q_700_43 q_700_44 q_700_45 q_700_46 q_700_47 H.size) (cwV 1 hts (gV0 km_L_126 ki_X12_count kz_X12_count kn_X12 kc_X12_count) rfl rfl rfl (by decide +kernel) ⟨(Nat.le_of_ble_eq_true rfl), (Nat.le_of_ble_eq_true rfl)⟩) (preV hG hP hD [6, 5] rfl (by decide) 12 6 rfl rfl) rfl rfl hl.1 rfl (lv_room (Nat.le_of_ble_eq_true rfl)) dL_law_1084 ⟨(Nat.le_of_ble_eq_true rfl), (Nat.le_of_ble_eq_true rfl)⟩) (fun r_19 H locs hB hj hS => ?_)
    obtain ⟨hres, hP1, hD1⟩ := hB
    subst hres
    obtain ⟨hP, hD⟩ := hj _ hP1 hD1
    have hP : va_P D vwCl [(q_1, .inr (9, [.ref q1_2, .int 0, .int 0, .int 0, .int 0, .int 32, .long 0, .int 0, .int 0])), (q_4, .inr (0, [.ref q_1_5, .ref q_2_6, .ref q_3_7, .ref q_4_8, .ref q_5_9, .ref q_6_10, .ref q_7_11, .ref q_8_12, .ref q_9_13, .ref q_10_14, .ref q_11_15, .ref q_12_16, .ref q_13_17, .int 0, .int 0, .int 0, .int 2, .ref q_18_18, .ref q_19_19, .ref q_20_20])), (q_54, .inr (8, [.int 0, .int 0, .int 0, .ref q1_55, .ref q2_56, .ref q3_57])), (q_64, .inr (2, [.ref q_1_65, .int 0, .int 0, .int 0, .ref q_2_66])), (q_1_65, .inl (cy 1, 6, .inl (fl 6 (-1) (fun _ => 0)))), (q_700_2, .inl (cy 1, 10, .inl (upd (fun _ => 0) 4 2))), (q_700_36, .inl (cy 1, 21, .inl (upd (upd (upd (upd (upd (upd (fun _ => 0) 9 (-1)) 10 (-1)) 11 (-1)) 12 (-1)) 13 (-1)) 14 (-1))))] H := hP
    have hD : va_D A [(q_1, .inr (9, [.ref q1_2, .int 0, .int 0, .int 0, .int 0, .int 32, .long 0, .int 0, .int 0])), (q_4, .inr (0, [.ref q_1_5, .ref q_2_6, .ref q_3_7, .ref q_4_8, .ref q_5_9, .ref q_6_10, .ref q_7_11, .ref q_8_12, .ref q_9_13, .ref q_10_14, .ref q_11_15, .ref q_12_16, .ref q_13_17, .int 0, .int 0, .int 0, .int 2, .ref q_18_18, .ref q_19_19, .ref q_20_20])), (q_54, .inr (8, [.int 0, .int 0, .int 0, .ref q1_55, .ref q2_56, .ref q3_57])), (q_64, .inr (2, [.ref q_1_65, .int 0, .int 0, .int 0, .ref q_2_66])), (q_1_65, .inl (cy 1, 6, .inl (fl 6 (-1) (fun _ => 0)))), (q_700_2, .inl (cy 1, 10, .inl (upd (fun _ => 0) 4 2))), (q_700_36, .inl (cy 1, 21, .inl (upd (upd (upd (upd (upd (upd (fun _ => 0) 9 (-1)) 10 (-1)) 11 (-1)) 12 (-1)) 13 (-1)) 14 (-1))))] := hD
    refine lv_icmp_eq (tgt := 1092) hx hb dL_law_1087 (by decide) (fun _ => ?_) (fun c_ => absurd rfl c_)
    refine lv_iinc (v := 7) (lv' := [(4, .int 7), (3, .ref q_800), (2, .ref h_2), (1, .ref h_1), (0, .ref b)]) hx hb dL_law_1092 hl (k := 0) rfl (by decide) (by decide) rfl (fun ls hl => ?_)
    refine lv_goto (tgt := 23) hx hb dL_law_1095 (by decide) ?_
    refine lv_iload hx hb dL_law_23 (lv_at hl 0 rfl) ?_
    refine lv_aload_n hx hb dL_law_25 rfl (lv_at hl 4 rfl) ?_
    refine va_slen hx hb hX hbl hbA hS dL_law_26 ?_
    refine m_as (v := 7) rfl ?_
    refine lv_bipush (v := 7) hx hb dL_law_27 (by decide) ?_
    refine m_isub (v := 0) hx hb dL_law_29 (by decide) ?_
    refine lv_icmp_gt (tgt := 1098) hx hb dL_law_30 (by decide) (fun _ => ?_) (fun c_ => absurd (by decide) c_)
    refine lv_iconst (v := 1) hx hb dL_law_1098 (by decide) ?_
    exact lw_end hx hb hr hlocks hAd hS (Nat.le_of_ble_eq_true rfl) (Nat.le_of_ble_eq_true rfl) dL_law_1099
  · refine lv_aload_n hx hb dL_law_1067 rfl (lv_at hl 3 rfl) ?_
    refine lv_aload_n hx hb dL_law_1068 rfl (lv_at hl 4 rfl) ?_
    refine lv_iload hx hb dL_law_1069 (lv_at hl 0 rfl) ?_
    refine lv_iconst (v := 1) hx hb dL_law_1071 (by decide) ?_
    refine m_iadd (v := 1) hx hb dL_law_1072 (by decide) ?_
    refine va_sld hx hb hX hbl hbA hS (vin (by decide)) dL_law_1073 ?_
    refine m_as (v := xs 1) rfl ?_
    refine m_as (v := 9) g_1 ?_
    refine x_i (wr := [(q_1, .inr (9, [.ref q1_2, .int 0, .int 0, .int 0, .int 0, .int 32, .long 0, .int 0, .int 0])), (q_4, .inr (0, [.ref q_1_5, .ref q_2_6, .ref q_3_7, .ref q_4_8, .ref q_5_9, .ref q_6_10, .ref q_7_11, .ref q_8_12, .ref q_9_13, .ref q_10_14, .ref q_11_15, .ref q_12_16, .ref q_13_17, .int 0, .int 0, .int 0, .int 2, .ref q_18_18, .ref q_19_19, .ref q_20_20])), (q_46, .inr (10, [.ref q1_47, .ref q2_48, .ref q3_49, .int 0])), (q_54, .inr (8, [.int 0, .int 0, .int 0, .ref q1_55, .ref q2_56, .ref q3_57])), (q_700_30, .inl (cy 1, 6, .inl (fun _ => 0))), (h_2, .inr (12, [.int 0, .int 0, .ref q_700_1, .int 0, .int 0, .int 0, .int 0, .long 0, .int 0, .int 0, .ref q_700_2, .ref q_700_3, .ref q_700_4, .ref q_700_5, .ref q_700_6, .ref q_700_7, .ref q_700_8, .ref q_700_9, .ref q_700_10, .ref q_700_11, .ref q_700_12, .ref q_700_13, .ref q_700_14, .ref q_700_15, .ref q_700_16, .ref q_700_17, .int 0, .int 0, .ref q_700_18, .ref q_700_19, .ref q_700_20, .ref q_700_21, .ref q_700_22, .ref q_700_23, .ref q_700_24, .ref q_700_25, .ref q_700_26, .ref q_700_27, .ref q_700_28, .ref q_700_29, .int 0, .long 0, .ref q_700_30, .ref q_700_31, .ref q_700_32, .ref q_700_33, .ref q_700_34, .ref q_700_35, .ref q_700_36, .ref q_700_37, .ref q_700_38, .ref q_700_39, .ref q_700_40, .ref q_700_41, .int 0, .int 0, .int 0, .int 0, .ref q_700_42, .ref q_700_43, .ref q_700_44, .ref q_700_45, .int 0, .ref q_700_46, .ref q_700_47, .int 0, .long 0])), (q_700_2, .inl (cy 1, 10, .inl (upd (fun _ => 0) 4 2))), (q_700_36, .inl (cy 1, 21, .inl (upd (upd (upd (upd (upd (upd (fun _ => 0) 9 (-1)) 10 (-1)) 11 (-1)) 12 (-1)) 13 (-1)) 14 (-1))))]) hP hD hS hA [0, 5, 6] [1, 2, 3, 4, 7, 8, 9, 10] rfl rfl (by decide) (by decide) (va_runV (As := [.int 9]) (rest := []) ⟨hx, hb, hml, hown, hts⟩ (c_X11_count_10 l D cy h_1 q_1 q_3 q_4 q_25 q_46 q_50 q_54 q_58 q_62 q_63 q_64 q_67 q_85 q_90 q_93 q_1_65 q_2_66 H.size) (cwV 1 hts (gV0 km_L_123 ki_X11_count kz_X11_count kn_X11 kc_X11_count) rfl rfl rfl (by decide +kernel) ⟨(Nat.le_of_ble_eq_true rfl), (Nat.le_of_ble_eq_true rfl)⟩) (preV hG hP hD [0, 5, 6] rfl (by decide) 11 0 rfl rfl) rfl rfl hl.1 rfl (lv_room (Nat.le_of_ble_eq_true rfl)) dL_law_1074 ⟨(Nat.le_of_ble_eq_true rfl), (Nat.le_of_ble_eq_true rfl)⟩) (fun r_20 H locs hB hj hS => ?_)
    obtain ⟨hres, hP1, hD1⟩ := hB
    subst hres
    obtain ⟨hP, hD⟩ := hj _ hP1 hD1
    have hP : va_P D vwCl [(q_1, .inr (9, [.ref q1_2, .int 0, .int 0, .int 0, .int 0, .int 32, .long 0, .int 0, .int 0])), (q_4, .inr (0, [.ref q_1_5, .ref q_2_6, .ref q_3_7, .ref q_4_8, .ref q_5_9, .ref q_6_10, .ref q_7_11, .ref q_8_12, .ref q_9_13, .ref q_10_14, .ref q_11_15, .ref q_12_16, .ref q_13_17, .int 0, .int 0, .int 0, .int 2, .ref q_18_18, .ref q_19_19, .ref q_20_20])), (q_46, .inr (10, [.ref q1_47, .ref q2_48, .ref q3_49, .int 0])), (q_54, .inr (8, [.int 0, .int 0, .int 0, .ref q1_55, .ref q2_56, .ref q3_57])), (q_700_30, .inl (cy 1, 6, .inl (fun _ => 0))), (h_2, .inr (12, [.int 0, .int 0, .ref q_700_1, .int 0, .int 0, .int 0, .int 0, .long 0, .int 0, .int 0, .ref q_700_2, .ref q_700_3, .ref q_700_4, .ref q_700_5, .ref q_700_6, .ref q_700_7, .ref q_700_8, .ref q_700_9, .ref q_700_10, .ref q_700_11, .ref q_700_12, .ref q_700_13, .ref q_700_14, .ref q_700_15, .ref q_700_16, .ref q_700_17, .int 0, .int 0, .ref q_700_18, .ref q_700_19, .ref q_700_20, .ref q_700_21, .ref q_700_22, .ref q_700_23, .ref q_700_24, .ref q_700_25, .ref q_700_26, .ref q_700_27, .ref q_700_28, .ref q_700_29, .int 0, .long 0, .ref q_700_30, .ref q_700_31, .ref q_700_32, .ref q_700_33, .ref q_700_34, .ref q_700_35, .ref q_700_36, .ref q_700_37, .ref q_700_38, .ref q_700_39, .ref q_700_40, .ref q_700_41, .int 0, .int 0, .int 0, .int 0, .ref q_700_42, .ref q_700_43, .ref q_700_44, .ref q_700_45, .int 0, .ref q_700_46, .ref q_700_47, .int 0, .long 0])), (q_700_2, .inl (cy 1, 10, .inl (upd (fun _ => 0) 4 2))), (q_700_36, .inl (cy 1, 21, .inl (upd (upd (upd (upd (upd (upd (fun _ => 0) 9 (-1)) 10 (-1)) 11 (-1)) 12 (-1)) 13 (-1)) 14 (-1))))] H := hP
    have hD : va_D A [(q_1, .inr (9, [.ref q1_2, .int 0, .int 0, .int 0, .int 0, .int 32, .long 0, .int 0, .int 0])), (q_4, .inr (0, [.ref q_1_5, .ref q_2_6, .ref q_3_7, .ref q_4_8, .ref q_5_9, .ref q_6_10, .ref q_7_11, .ref q_8_12, .ref q_9_13, .ref q_10_14, .ref q_11_15, .ref q_12_16, .ref q_13_17, .int 0, .int 0, .int 0, .int 2, .ref q_18_18, .ref q_19_19, .ref q_20_20])), (q_46, .inr (10, [.ref q1_47, .ref q2_48, .ref q3_49, .int 0])), (q_54, .inr (8, [.int 0, .int 0, .int 0, .ref q1_55, .ref q2_56, .ref q3_57])), (q_700_30, .inl (cy 1, 6, .inl (fun _ => 0))), (h_2, .inr (12, [.int 0, .int 0, .ref q_700_1, .int 0, .int 0, .int 0, .int 0, .long 0, .int 0, .int 0, .ref q_700_2, .ref q_700_3, .ref q_700_4, .ref q_700_5, .ref q_700_6, .ref q_700_7, .ref q_700_8, .ref q_700_9, .ref q_700_10, .ref q_700_11, .ref q_700_12, .ref q_700_13, .ref q_700_14, .ref q_700_15, .ref q_700_16, .ref q_700_17, .int 0, .int 0, .ref q_700_18, .ref q_700_19, .ref q_700_20, .ref q_700_21, .ref q_700_22, .ref q_700_23, .ref q_700_24, .ref q_700_25, .ref q_700_26, .ref q_700_27, .ref q_700_28, .ref q_700_29, .int 0, .long 0, .ref q_700_30, .ref q_700_31, .ref q_700_32, .ref q_700_33, .ref q_700_34, .ref q_700_35, .ref q_700_36, .ref q_700_37, .ref q_700_38, .ref q_700_39, .ref q_700_40, .ref q_700_41, .int 0, .int 0, .int 0, .int 0, .ref q_700_42, .ref q_700_43, .ref q_700_44, .ref q_700_45, .int 0, .ref q_700_46, .ref q_700_47, .int 0, .long 0])), (q_700_2, .inl (cy 1, 10, .inl (upd (fun _ => 0) 4 2))), (q_700_36, .inl (cy 1, 21, .inl (upd (upd (upd (upd (upd (upd (fun _ => 0) 9 (-1)) 10 (-1)) 11 (-1)) 12 (-1)) 13 (-1)) 14 (-1))))] := hD
    refine lv_aload_n hx hb dL_law_1077 rfl (lv_at hl 2 rfl) ?_
    refine lv_aload_n hx hb dL_law_1078 rfl (lv_at hl 4 rfl) ?_
    refine lv_iload hx hb dL_law_1079 (lv_at hl 0 rfl) ?_
    refine lv_iconst (v := 1) hx hb dL_law_1081 (by decide) ?_
    refine m_iadd (v := 1) hx hb dL_law_1082 (by decide) ?_
    refine va_sld hx hb hX hbl hbA hS (vin (by decide)) dL_law_1083 ?_
    refine m_as (v := xs 1) rfl ?_
    refine m_as (v := 9) g_1 ?_
    refine x_i (wr := [(q_1, .inr (9, [.ref q1_2, .int 0, .int 0, .int 0, .int 0, .int 32, .long 0, .int 0, .int 0])), (q_4, .inr (0, [.ref q_1_5, .ref q_2_6, .ref q_3_7, .ref q_4_8, .ref q_5_9, .ref q_6_10, .ref q_7_11, .ref q_8_12, .ref q_9_13, .ref q_10_14, .ref q_11_15, .ref q_12_16, .ref q_13_17, .int 0, .int 0, .int 0, .int 2, .ref q_18_18, .ref q_19_19, .ref q_20_20])), (q_46, .inr (10, [.ref q1_47, .ref q2_48, .ref q3_49, .int 0])), (q_54, .inr (8, [.int 0, .int 0, .int 0, .ref q1_55, .ref q2_56, .ref q3_57])), (q_700_30, .inl (cy 1, 6, .inl (fun _ => 0))), (q_700_36, .inl (cy 1, 21, .inl (upd (upd (upd (upd (upd (upd (fun _ => 0) 9 (-1)) 10 (-1)) 11 (-1)) 12 (-1)) 13 (-1)) 14 (-1))))]) hP hD hS hA [5, 6] [0, 1, 2, 3, 4, 7] rfl rfl (by decide) (by decide) (va_runV (As := [.int 9]) (rest := [.int 0]) ⟨hx, hb, hml, hown, hts⟩ (c_X12_count_10 l D cy h_2 q_700_1 q_700_2 q_700_3 q_700_4 q_700_5 q_700_6 q_700_7 q_700_8 q_700_9 q_700_10 q_700_11 q_700_12 q_700_13 q_700_14 q_700_15 q_700_16 q_700_17 q_700_18 q_700_19 q_700_20 q_700_21 q_700_22 q_700_23 q_700_24 q_700_25 q_700_26 q_700_27 q_700_28 q_700_29 q_700_30 q_700_31 q_700_32 q_700_33 q_700_34 q_700_35 q_700_36 q_700_37 q_700_38 q_700_39 q_700_40 q_700_41 q_700_42 q_700_43 q_700_44 q_700_45 q_700_46 q_700_47 H.size) (cwV 1 hts (gV0 km_L_126 ki_X12_count kz_X12_count kn_X12 kc_X12_count) rfl rfl rfl (by decide +kernel) ⟨(Nat.le_of_ble_eq_true rfl), (Nat.le_of_ble_eq_true rfl)⟩) (preV hG hP hD [5, 6] rfl (by decide) 12 5 rfl rfl) rfl rfl hl.1 rfl (lv_room (Nat.le_of_ble_eq_true rfl)) dL_law_1084 ⟨(Nat.le_of_ble_eq_true rfl), (Nat.le_of_ble_eq_true rfl)⟩) (fun r_21 H locs hB hj hS => ?_)
    obtain ⟨hres, hP1, hD1⟩ := hB
    subst hres
    obtain ⟨hP, hD⟩ := hj _ hP1 hD1
    have hP : va_P D vwCl [(q_1, .inr (9, [.ref q1_2, .int 0, .int 0, .int 0, .int 0, .int 32, .long 0, .int 0, .int 0])), (q_4, .inr (0, [.ref q_1_5, .ref q_2_6, .ref q_3_7, .ref q_4_8, .ref q_5_9, .ref q_6_10, .ref q_7_11, .ref q_8_12, .ref q_9_13, .ref q_10_14, .ref q_11_15, .ref q_12_16, .ref q_13_17, .int 0, .int 0, .int 0, .int 2, .ref q_18_18, .ref q_19_19, .ref q_20_20])), (q_46, .inr (10, [.ref q1_47, .ref q2_48, .ref q3_49, .int 0])), (q_54, .inr (8, [.int 0, .int 0, .int 0, .ref q1_55, .ref q2_56, .ref q3_57])), (q_700_30, .inl (cy 1, 6, .inl (fun _ => 0))), (q_700_36, .inl (cy 1, 21, .inl (upd (upd (upd (upd (upd (upd (fun _ => 0) 9 (-1)) 10 (-1)) 11 (-1)) 12 (-1)) 13 (-1)) 14 (-1))))] H := hP
    have hD : va_D A [(q_1, .inr (9, [.ref q1_2, .int 0, .int 0, .int 0, .int 0, .int 32, .long 0, .int 0, .int 0])), (q_4, .inr (0, [.ref q_1_5, .ref q_2_6, .ref q_3_7, .ref q_4_8, .ref q_5_9, .ref q_6_10, .ref q_7_11, .ref q_8_12, .ref q_9_13, .ref q_10_14, .ref q_11_15, .ref q_12_16, .ref q_13_17, .int 0, .int 0, .int 0, .int 2, .ref q_18_18, .ref q_19_19, .ref q_20_20])), (q_46, .inr (10, [.ref q1_47, .ref q2_48, .ref q3_49, .int 0])), (q_54, .inr (8, [.int 0, .int 0, .int 0, .ref q1_55, .ref q2_56, .ref q3_57])), (q_700_30, .inl (cy 1, 6, .inl (fun _ => 0))), (q_700_36, .inl (cy 1, 21, .inl (upd (upd (upd (upd (upd (upd (fun _ => 0) 9 (-1)) 10 (-1)) 11 (-1)) 12 (-1)) 13 (-1)) 14 (-1))))] := hD
    refine lv_icmp_eq (tgt := 1092) hx hb dL_law_1087 (by decide) (fun _ => ?_) (fun c_ => absurd rfl c_)
    refine lv_iinc (v := 7) (lv' := [(4, .int 7), (3, .ref q_800), (2, .ref h_2), (1, .ref h_1), (0, .ref b)]) hx hb dL_law_1092 hl (k := 0) rfl (by decide) (by decide) rfl (fun ls hl => ?_)
    refine lv_goto (tgt := 23) hx hb dL_law_1095 (by decide) ?_
    refine lv_iload hx hb dL_law_23 (lv_at hl 0 rfl) ?_
    refine lv_aload_n hx hb dL_law_25 rfl (lv_at hl 4 rfl) ?_
    refine va_slen hx hb hX hbl hbA hS dL_law_26 ?_
    refine m_as (v := 7) rfl ?_
    refine lv_bipush (v := 7) hx hb dL_law_27 (by decide) ?_
    refine m_isub (v := 0) hx hb dL_law_29 (by decide) ?_
    refine lv_icmp_gt (tgt := 1098) hx hb dL_law_30 (by decide) (fun _ => ?_) (fun c_ => absurd (by decide) c_)
    refine lv_iconst (v := 1) hx hb dL_law_1098 (by decide) ?_
    exact lw_end hx hb hr hlocks hAd hS (Nat.le_of_ble_eq_true rfl) (Nat.le_of_ble_eq_true rfl) dL_law_1099
  · refine lv_aload_n hx hb dL_law_1067 rfl (lv_at hl 3 rfl) ?_
    refine lv_aload_n hx hb dL_law_1068 rfl (lv_at hl 4 rfl) ?_
    refine lv_iload hx hb dL_law_1069 (lv_at hl 0 rfl) ?_
    refine lv_iconst (v := 1) hx hb dL_law_1071 (by decide) ?_
    refine m_iadd (v := 1) hx hb dL_law_1072 (by decide) ?_
    refine va_sld hx hb hX hbl hbA hS (vin (by decide)) dL_law_1073 ?_
    refine m_as (v := xs 1) rfl ?_
    refine m_as (v := 10) g_1 ?_
    refine x_i (wr := [(q_1, .inr (9, [.ref q1_2, .int 0, .int 0, .int 0, .int 0, .int 32, .long 0, .int 0, .int 0])), (q_4, .inr (0, [.ref q_1_5, .ref q_2_6, .ref q_3_7, .ref q_4_8, .ref q_5_9, .ref q_6_10, .ref q_7_11, .ref q_8_12, .ref q_9_13, .ref q_10_14, .ref q_11_15, .ref q_12_16, .ref q_13_17, .int 0, .int 0, .int 0, .int 2, .ref q_18_18, .ref q_19_19, .ref q_20_20])), (q_46, .inr (10, [.ref q1_47, .ref q2_48, .ref q3_49, .int 0])), (q_54, .inr (8, [.int 0, .int 0, .int 0, .ref q1_55, .ref q2_56, .ref q3_57])), (q_64, .inr (2, [.ref q_1_65, .int 0, .int 0, .int 0, .ref q_2_66])), (q_1_65, .inl (cy 1, 6, .inl (fl 6 (-1) (fun _ => 0)))), (q_700_30, .inl (cy 1, 6, .inl (fun _ => 0))), (h_2, .inr (12, [.int 0, .int 0, .ref q_700_1, .int 0, .int 0, .int 0, .int 0, .long 0, .int 0, .int 0, .ref q_700_2, .ref q_700_3, .ref q_700_4, .ref q_700_5, .ref q_700_6, .ref q_700_7, .ref q_700_8, .ref q_700_9, .ref q_700_10, .ref q_700_11, .ref q_700_12, .ref q_700_13, .ref q_700_14, .ref q_700_15, .ref q_700_16, .ref q_700_17, .int 0, .int 0, .ref q_700_18, .ref q_700_19, .ref q_700_20, .ref q_700_21, .ref q_700_22, .ref q_700_23, .ref q_700_24, .ref q_700_25, .ref q_700_26, .ref q_700_27, .ref q_700_28, .ref q_700_29, .int 0, .long 0, .ref q_700_30, .ref q_700_31, .ref q_700_32, .ref q_700_33, .ref q_700_34, .ref q_700_35, .ref q_700_36, .ref q_700_37, .ref q_700_38, .ref q_700_39, .ref q_700_40, .ref q_700_41, .int 0, .int 0, .int 0, .int 0, .ref q_700_42, .ref q_700_43, .ref q_700_44, .ref q_700_45, .int 0, .ref q_700_46, .ref q_700_47, .int 0, .long 0])), (q_700_2, .inl (cy 1, 10, .inl (upd (fun _ => 0) 4 2))), (q_700_36, .inl (cy 1, 21, .inl (upd (upd (upd (upd (upd (upd (fun _ => 0) 9 (-1)) 10 (-1)) 11 (-1)) 12 (-1)) 13 (-1)) 14 (-1))))]) hP hD hS hA [0] [1, 2, 3, 4, 5, 6, 7, 8, 9, 10] rfl rfl (by decide) (by decide) (va_runV (As := [.int 10]) (rest := []) ⟨hx, hb, hml, hown, hts⟩ (c_X11_count_11 l D cy h_1 q_1 q_3 q_4 q_25 q_46 q_50 q_54 q_58 q_62 q_63 q_64 q_67 q_85 q_90 q_93 H.size) (cwV 1 hts (gV0 km_L_123 ki_X11_count kz_X11_count kn_X11 kc_X11_count) rfl rfl rfl (by decide +kernel) ⟨(Nat.le_of_ble_eq_true rfl), (Nat.le_of_ble_eq_true rfl)⟩) (preV hG hP hD [0] rfl (by decide) 11 0 rfl rfl) rfl rfl hl.1 rfl (lv_room (Nat.le_of_ble_eq_true rfl)) dL_law_1074 ⟨(Nat.le_of_ble_eq_true rfl), (Nat.le_of_ble_eq_true rfl)⟩) (fun r_22 H locs hB hj hS => ?_)
    obtain ⟨hres, hP1, hD1⟩ := hB
    subst hres
    obtain ⟨hP, hD⟩ := hj _ hP1 hD1
    have hP : va_P D vwCl [(q_1, .inr (9, [.ref q1_2, .int 0, .int 0, .int 0, .int 0, .int 32, .long 0, .int 0, .int 0])), (q_4, .inr (0, [.ref q_1_5, .ref q_2_6, .ref q_3_7, .ref q_4_8, .ref q_5_9, .ref q_6_10, .ref q_7_11, .ref q_8_12, .ref q_9_13, .ref q_10_14, .ref q_11_15, .ref q_12_16, .ref q_13_17, .int 0, .int 0, .int 0, .int 2, .ref q_18_18, .ref q_19_19, .ref q_20_20])), (q_46, .inr (10, [.ref q1_47, .ref q2_48, .ref q3_49, .int 0])), (q_54, .inr (8, [.int 0, .int 0, .int 0, .ref q1_55, .ref q2_56, .ref q3_57])), (q_64, .inr (2, [.ref q_1_65, .int 0, .int 0, .int 0, .ref q_2_66])), (q_1_65, .inl (cy 1, 6, .inl (fl 6 (-1) (fun _ => 0)))), (q_700_30, .inl (cy 1, 6, .inl (fun _ => 0))), (h_2, .inr (12, [.int 0, .int 0, .ref q_700_1, .int 0, .int 0, .int 0, .int 0, .long 0, .int 0, .int 0, .ref q_700_2, .ref q_700_3, .ref q_700_4, .ref q_700_5, .ref q_700_6, .ref q_700_7, .ref q_700_8, .ref q_700_9, .ref q_700_10, .ref q_700_11, .ref q_700_12, .ref q_700_13, .ref q_700_14, .ref q_700_15, .ref q_700_16, .ref q_700_17, .int 0, .int 0, .ref q_700_18, .ref q_700_19, .ref q_700_20, .ref q_700_21, .ref q_700_22, .ref q_700_23, .ref q_700_24, .ref q_700_25, .ref q_700_26, .ref q_700_27, .ref q_700_28, .ref q_700_29, .int 0, .long 0, .ref q_700_30, .ref q_700_31, .ref q_700_32, .ref q_700_33, .ref q_700_34, .ref q_700_35, .ref q_700_36, .ref q_700_37, .ref q_700_38, .ref q_700_39, .ref q_700_40, .ref q_700_41, .int 0, .int 0, .int 0, .int 0, .ref q_700_42, .ref q_700_43, .ref q_700_44, .ref q_700_45, .int 0, .ref q_700_46, .ref q_700_47, .int 0, .long 0])), (q_700_2, .inl (cy 1, 10, .inl (upd (fun _ => 0) 4 2))), (q_700_36, .inl (cy 1, 21, .inl (upd (upd (upd (upd (upd (upd (fun _ => 0) 9 (-1)) 10 (-1)) 11 (-1)) 12 (-1)) 13 (-1)) 14 (-1))))] H := hP
    have hD : va_D A [(q_1, .inr (9, [.ref q1_2, .int 0, .int 0, .int 0, .int 0, .int 32, .long 0, .int 0, .int 0])), (q_4, .inr (0, [.ref q_1_5, .ref q_2_6, .ref q_3_7, .ref q_4_8, .ref q_5_9, .ref q_6_10, .ref q_7_11, .ref q_8_12, .ref q_9_13, .ref q_10_14, .ref q_11_15, .ref q_12_16, .ref q_13_17, .int 0, .int 0, .int 0, .int 2, .ref q_18_18, .ref q_19_19, .ref q_20_20])), (q_46, .inr (10, [.ref q1_47, .ref q2_48, .ref q3_49, .int 0])), (q_54, .inr (8, [.int 0, .int 0, .int 0, .ref q1_55, .ref q2_56, .ref q3_57])), (q_64, .inr (2, [.ref q_1_65, .int 0, .int 0, .int 0, .ref q_2_66])), (q_1_65, .inl (cy 1, 6, .inl (fl 6 (-1) (fun _ => 0)))), (q_700_30, .inl (cy 1, 6, .inl (fun _ => 0))), (h_2, .inr (12, [.int 0, .int 0, .ref q_700_1, .int 0, .int 0, .int 0, .int 0, .long 0, .int 0, .int 0, .ref q_700_2, .ref q_700_3, .ref q_700_4, .ref q_700_5, .ref q_700_6, .ref q_700_7, .ref q_700_8, .ref q_700_9, .ref q_700_10, .ref q_700_11, .ref q_700_12, .ref q_700_13, .ref q_700_14, .ref q_700_15, .ref q_700_16, .ref q_700_17, .int 0, .int 0, .ref q_700_18, .ref q_700_19, .ref q_700_20, .ref q_700_21, .ref q_700_22, .ref q_700_23, .ref q_700_24, .ref q_700_25, .ref q_700_26, .ref q_700_27, .ref q_700_28, .ref q_700_29, .int 0, .long 0, .ref q_700_30, .ref q_700_31, .ref q_700_32, .ref q_700_33, .ref q_700_34, .ref q_700_35, .ref q_700_36, .ref q_700_37, .ref q_700_38, .ref q_700_39, .ref q_700_40, .ref q_700_41, .int 0, .int 0, .int 0, .int 0, .ref q_700_42, .ref q_700_43, .ref q_700_44, .ref q_700_45, .int 0, .ref q_700_46, .ref q_700_47, .int 0, .long 0])), (q_700_2, .inl (cy 1, 10, .inl (upd (fun _ => 0) 4 2))), (q_700_36, .inl (cy 1, 21, .inl (upd (upd (upd (upd (upd (upd (fun _ => 0) 9 (-1)) 10 (-1)) 11 (-1)) 12 (-1)) 13 (-1)) 14 (-1))))] := hD
    refine lv_aload_n hx hb dL_law_1077 rfl (lv_at hl 2 rfl) ?_
    refine lv_aload_n hx hb dL_law_1078 rfl (lv_at hl 4 rfl) ?_
    refine lv_iload hx hb dL_law_1079 (lv_at hl 0 rfl) ?_
    refine lv_iconst (v := 1) hx hb dL_law_1081 (by decide) ?_
    refine m_iadd (v := 1) hx hb dL_law_1082 (by decide) ?_
    refine va_sld hx hb hX hbl hbA hS (vin (by decide)) dL_law_1083 ?_
    refine m_as (v := xs 1) rfl ?_
    refine m_as (v := 10) g_1 ?_
    refine x_i (wr := [(q_1, .inr (9, [.ref q1_2, .int 0, .int 0, .int 0, .int 0, .int 32, .long 0, .int 0, .int 0])), (q_4, .inr (0, [.ref q_1_5, .ref q_2_6, .ref q_3_7, .ref q_4_8, .ref q_5_9, .ref q_6_10, .ref q_7_11, .ref q_8_12, .ref q_9_13, .ref q_10_14, .ref q_11_15, .ref q_12_16, .ref q_13_17, .int 0, .int 0, .int 0, .int 2, .ref q_18_18, .ref q_19_19, .ref q_20_20])), (q_46, .inr (10, [.ref q1_47, .ref q2_48, .ref q3_49, .int 0])), (q_54, .inr (8, [.int 0, .int 0, .int 0, .ref q1_55, .ref q2_56, .ref q3_57])), (q_64, .inr (2, [.ref q_1_65, .int 0, .int 0, .int 0, .ref q_2_66])), (q_1_65, .inl (cy 1, 6, .inl (fl 6 (-1) (fun _ => 0)))), (q_700_30, .inl (cy 1, 6, .inl (fun _ => 0))), (q_700_2, .inl (cy 1, 10, .inl (upd (fun _ => 0) 4 2))), (q_700_36, .inl (cy 1, 21, .inl (upd (upd (upd (upd (upd (upd (fun _ => 0) 9 (-1)) 10 (-1)) 11 (-1)) 12 (-1)) 13 (-1)) 14 (-1))))]) hP hD hS hA [7] [0, 1, 2, 3, 4, 5, 6, 8, 9] rfl rfl (by decide) (by decide) (va_runV (As := [.int 10]) (rest := [.int 0]) ⟨hx, hb, hml, hown, hts⟩ (c_X12_count_11 l D cy h_2 q_700_1 q_700_2 q_700_3 q_700_4 q_700_5 q_700_6 q_700_7 q_700_8 q_700_9 q_700_10 q_700_11 q_700_12 q_700_13 q_700_14 q_700_15 q_700_16 q_700_17 q_700_18 q_700_19 q_700_20 q_700_21 q_700_22 q_700_23 q_700_24 q_700_25 q_700_26 q_700_27 q_700_28 q_700_29 q_700_30 q_700_31 q_700_32 q_700_33 q_700_34 q_700_35 q_700_36 q_700_37 q_700_38 q_700_39 q_700_40 q_700_41 q_700_42 q_700_43 q_700_44 q_700_45 q_700_46 q_700_47 H.size) (cwV 1 hts (gV0 km_L_126 ki_X12_count kz_X12_count kn_X12 kc_X12_count) rfl rfl rfl (by decide +kernel) ⟨(Nat.le_of_ble_eq_true rfl), (Nat.le_of_ble_eq_true rfl)⟩) (preV hG hP hD [7] rfl (by decide) 12 7 rfl rfl) rfl rfl hl.1 rfl (lv_room (Nat.le_of_ble_eq_true rfl)) dL_law_1084 ⟨(Nat.le_of_ble_eq_true rfl), (Nat.le_of_ble_eq_true rfl)⟩) (fun r_23 H locs hB hj hS => ?_)
    obtain ⟨hres, hP1, hD1⟩ := hB
    subst hres
    obtain ⟨hP, hD⟩ := hj _ hP1 hD1
    have hP : va_P D vwCl [(q_1, .inr (9, [.ref q1_2, .int 0, .int 0, .int 0, .int 0, .int 32, .long 0, .int 0, .int 0])), (q_4, .inr (0, [.ref q_1_5, .ref q_2_6, .ref q_3_7, .ref q_4_8, .ref q_5_9, .ref q_6_10, .ref q_7_11, .ref q_8_12, .ref q_9_13, .ref q_10_14, .ref q_11_15, .ref q_12_16, .ref q_13_17, .int 0, .int 0, .int 0, .int 2, .ref q_18_18, .ref q_19_19, .ref q_20_20])), (q_46, .inr (10, [.ref q1_47, .ref q2_48, .ref q3_49, .int 0])), (q_54, .inr (8, [.int 0, .int 0, .int 0, .ref q1_55, .ref q2_56, .ref q3_57])), (q_64, .inr (2, [.ref q_1_65, .int 0, .int 0, .int 0, .ref q_2_66])), (q_1_65, .inl (cy 1, 6, .inl (fl 6 (-1) (fun _ => 0)))), (q_700_30, .inl (cy 1, 6, .inl (fun _ => 0))), (q_700_2, .inl (cy 1, 10, .inl (upd (fun _ => 0) 4 2))), (q_700_36, .inl (cy 1, 21, .inl (upd (upd (upd (upd (upd (upd (fun _ => 0) 9 (-1)) 10 (-1)) 11 (-1)) 12 (-1)) 13 (-1)) 14 (-1))))] H := hP
    have hD : va_D A [(q_1, .inr (9, [.ref q1_2, .int 0, .int 0, .int 0, .int 0, .int 32, .long 0, .int 0, .int 0])), (q_4, .inr (0, [.ref q_1_5, .ref q_2_6, .ref q_3_7, .ref q_4_8, .ref q_5_9, .ref q_6_10, .ref q_7_11, .ref q_8_12, .ref q_9_13, .ref q_10_14, .ref q_11_15, .ref q_12_16, .ref q_13_17, .int 0, .int 0, .int 0, .int 2, .ref q_18_18, .ref q_19_19, .ref q_20_20])), (q_46, .inr (10, [.ref q1_47, .ref q2_48, .ref q3_49, .int 0])), (q_54, .inr (8, [.int 0, .int 0, .int 0, .ref q1_55, .ref q2_56, .ref q3_57])), (q_64, .inr (2, [.ref q_1_65, .int 0, .int 0, .int 0, .ref q_2_66])), (q_1_65, .inl (cy 1, 6, .inl (fl 6 (-1) (fun _ => 0)))), (q_700_30, .inl (cy 1, 6, .inl (fun _ => 0))), (q_700_2, .inl (cy 1, 10, .inl (upd (fun _ => 0) 4 2))), (q_700_36, .inl (cy 1, 21, .inl (upd (upd (upd (upd (upd (upd (fun _ => 0) 9 (-1)) 10 (-1)) 11 (-1)) 12 (-1)) 13 (-1)) 14 (-1))))] := hD
    refine lv_icmp_eq (tgt := 1092) hx hb dL_law_1087 (by decide) (fun _ => ?_) (fun c_ => absurd rfl c_)
    refine lv_iinc (v := 7) (lv' := [(4, .int 7), (3, .ref q_800), (2, .ref h_2), (1, .ref h_1), (0, .ref b)]) hx hb dL_law_1092 hl (k := 0) rfl (by decide) (by decide) rfl (fun ls hl => ?_)
    refine lv_goto (tgt := 23) hx hb dL_law_1095 (by decide) ?_
    refine lv_iload hx hb dL_law_23 (lv_at hl 0 rfl) ?_
    refine lv_aload_n hx hb dL_law_25 rfl (lv_at hl 4 rfl) ?_
    refine va_slen hx hb hX hbl hbA hS dL_law_26 ?_
    refine m_as (v := 7) rfl ?_
    refine lv_bipush (v := 7) hx hb dL_law_27 (by decide) ?_
    refine m_isub (v := 0) hx hb dL_law_29 (by decide) ?_
    refine lv_icmp_gt (tgt := 1098) hx hb dL_law_30 (by decide) (fun _ => ?_) (fun c_ => absurd (by decide) c_)
    refine lv_iconst (v := 1) hx hb dL_law_1098 (by decide) ?_
    exact lw_end hx hb hr hlocks hAd hS (Nat.le_of_ble_eq_true rfl) (Nat.le_of_ble_eq_true rfl) dL_law_1099
  · refine lv_aload_n hx hb dL_law_1067 rfl (lv_at hl 3 rfl) ?_
    refine lv_aload_n hx hb dL_law_1068 rfl (lv_at hl 4 rfl) ?_
    refine lv_iload hx hb dL_law_1069 (lv_at hl 0 rfl) ?_
    refine lv_iconst (v := 1) hx hb dL_law_1071 (by decide) ?_
    refine m_iadd (v := 1) hx hb dL_law_1072 (by decide) ?_
    refine va_sld hx hb hX hbl hbA hS (vin (by decide)) dL_law_1073 ?_
    refine m_as (v := xs 1) rfl ?_
    refine m_as (v := 11) g_1 ?_
    refine x_i (wr := [(q_4, .inr (0, [.ref q_1_5, .ref q_2_6, .ref q_3_7, .ref q_4_8, .ref q_5_9, .ref q_6_10, .ref q_7_11, .ref q_8_12, .ref q_9_13, .ref q_10_14, .ref q_11_15, .ref q_12_16, .ref q_13_17, .int 0, .int 0, .int 0, .int 2, .ref q_18_18, .ref q_19_19, .ref q_20_20])), (q_46, .inr (10, [.ref q1_47, .ref q2_48, .ref q3_49, .int 0])), (q_54, .inr (8, [.int 0, .int 0, .int 0, .ref q1_55, .ref q2_56, .ref q3_57])), (q_64, .inr (2, [.ref q_1_65, .int 0, .int 0, .int 0, .ref q_2_66])), (q_1_65, .inl (cy 1, 6, .inl (fl 6 (-1) (fun _ => 0)))), (q_700_30, .inl (cy 1, 6, .inl (fun _ => 0))), (h_2, .inr (12, [.int 0, .int 0, .ref q_700_1, .int 0, .int 0, .int 0, .int 0, .long 0, .int 0, .int 0, .ref q_700_2, .ref q_700_3, .ref q_700_4, .ref q_700_5, .ref q_700_6, .ref q_700_7, .ref q_700_8, .ref q_700_9, .ref q_700_10, .ref q_700_11, .ref q_700_12, .ref q_700_13, .ref q_700_14, .ref q_700_15, .ref q_700_16, .ref q_700_17, .int 0, .int 0, .ref q_700_18, .ref q_700_19, .ref q_700_20, .ref q_700_21, .ref q_700_22, .ref q_700_23, .ref q_700_24, .ref q_700_25, .ref q_700_26, .ref q_700_27, .ref q_700_28, .ref q_700_29, .int 0, .long 0, .ref q_700_30, .ref q_700_31, .ref q_700_32, .ref q_700_33, .ref q_700_34, .ref q_700_35, .ref q_700_36, .ref q_700_37, .ref q_700_38, .ref q_700_39, .ref q_700_40, .ref q_700_41, .int 0, .int 0, .int 0, .int 0, .ref q_700_42, .ref q_700_43, .ref q_700_44, .ref q_700_45, .int 0, .ref q_700_46, .ref q_700_47, .int 0, .long 0])), (q_700_2, .inl (cy 1, 10, .inl (upd (fun _ => 0) 4 2))), (q_700_36, .inl (cy 1, 21, .inl (upd (upd (upd (upd (upd (upd (fun _ => 0) 9 (-1)) 10 (-1)) 11 (-1)) 12 (-1)) 13 (-1)) 14 (-1))))]) hP hD hS hA [0, 1] [2, 3, 4, 5, 6, 7, 8, 9, 10] rfl rfl (by decide) (by decide) (va_runV (As := [.int 11]) (rest := []) ⟨hx, hb, hml, hown, hts⟩ (c_X11_count_12 l D cy h_1 q_1 q_3 q_4 q_25 q_46 q_50 q_54 q_58 q_62 q_63 q_64 q_67 q_85 q_90 q_93 q1_2 H.size) (cwV 1 hts (gV0 km_L_123 ki_X11_count kz_X11_count kn_X11 kc_X11_count) rfl rfl rfl (by decide +kernel) ⟨(Nat.le_of_ble_eq_true rfl), (Nat.le_of_ble_eq_true rfl)⟩) (preV hG hP hD [0, 1] rfl (by decide) 11 0 rfl rfl) rfl rfl hl.1 rfl (lv_room (Nat.le_of_ble_eq_true rfl)) dL_law_1074 ⟨(Nat.le_of_ble_eq_true rfl), (Nat.le_of_ble_eq_true rfl)⟩) (fun r_24 H locs hB hj hS => ?_)
    obtain ⟨hres, hP1, hD1⟩ := hB
    subst hres
    obtain ⟨hP, hD⟩ := hj _ hP1 hD1
    have hP : va_P D vwCl [(q_4, .inr (0, [.ref q_1_5, .ref q_2_6, .ref q_3_7, .ref q_4_8, .ref q_5_9, .ref q_6_10, .ref q_7_11, .ref q_8_12, .ref q_9_13, .ref q_10_14, .ref q_11_15, .ref q_12_16, .ref q_13_17, .int 0, .int 0, .int 0, .int 2, .ref q_18_18, .ref q_19_19, .ref q_20_20])), (q_46, .inr (10, [.ref q1_47, .ref q2_48, .ref q3_49, .int 0])), (q_54, .inr (8, [.int 0, .int 0, .int 0, .ref q1_55, .ref q2_56, .ref q3_57])), (q_64, .inr (2, [.ref q_1_65, .int 0, .int 0, .int 0, .ref q_2_66])), (q_1_65, .inl (cy 1, 6, .inl (fl 6 (-1) (fun _ => 0)))), (q_700_30, .inl (cy 1, 6, .inl (fun _ => 0))), (h_2, .inr (12, [.int 0, .int 0, .ref q_700_1, .int 0, .int 0, .int 0, .int 0, .long 0, .int 0, .int 0, .ref q_700_2, .ref q_700_3, .ref q_700_4, .ref q_700_5, .ref q_700_6, .ref q_700_7, .ref q_700_8, .ref q_700_9, .ref q_700_10, .ref q_700_11, .ref q_700_12, .ref q_700_13, .ref q_700_14, .ref q_700_15, .ref q_700_16, .ref q_700_17, .int 0, .int 0, .ref q_700_18, .ref q_700_19, .ref q_700_20, .ref q_700_21, .ref q_700_22, .ref q_700_23, .ref q_700_24, .ref q_700_25, .ref q_700_26, .ref q_700_27, .ref q_700_28, .ref q_700_29, .int 0, .long 0, .ref q_700_30, .ref q_700_31, .ref q_700_32, .ref q_700_33, .ref q_700_34, .ref q_700_35, .ref q_700_36, .ref q_700_37, .ref q_700_38, .ref q_700_39, .ref q_700_40, .ref q_700_41, .int 0, .int 0, .int 0, .int 0, .ref q_700_42, .ref q_700_43, .ref q_700_44, .ref q_700_45, .int 0, .ref q_700_46, .ref q_700_47, .int 0, .long 0])), (q_700_2, .inl (cy 1, 10, .inl (upd (fun _ => 0) 4 2))), (q_700_36, .inl (cy 1, 21, .inl (upd (upd (upd (upd (upd (upd (fun _ => 0) 9 (-1)) 10 (-1)) 11 (-1)) 12 (-1)) 13 (-1)) 14 (-1))))] H := hP
    have hD : va_D A [(q_4, .inr (0, [.ref q_1_5, .ref q_2_6, .ref q_3_7, .ref q_4_8, .ref q_5_9, .ref q_6_10, .ref q_7_11, .ref q_8_12, .ref q_9_13, .ref q_10_14, .ref q_11_15, .ref q_12_16, .ref q_13_17, .int 0, .int 0, .int 0, .int 2, .ref q_18_18, .ref q_19_19, .ref q_20_20])), (q_46, .inr (10, [.ref q1_47, .ref q2_48, .ref q3_49, .int 0])), (q_54, .inr (8, [.int 0, .int 0, .int 0, .ref q1_55, .ref q2_56, .ref q3_57])), (q_64, .inr (2, [.ref q_1_65, .int 0, .int 0, .int 0, .ref q_2_66])), (q_1_65, .inl (cy 1, 6, .inl (fl 6 (-1) (fun _ => 0)))), (q_700_30, .inl (cy 1, 6, .inl (fun _ => 0))), (h_2, .inr (12, [.int 0, .int 0, .ref q_700_1, .int 0, .int 0, .int 0, .int 0, .long 0, .int 0, .int 0, .ref q_700_2, .ref q_700_3, .ref q_700_4, .ref q_700_5, .ref q_700_6, .ref q_700_7, .ref q_700_8, .ref q_700_9, .ref q_700_10, .ref q_700_11, .ref q_700_12, .ref q_700_13, .ref q_700_14, .ref q_700_15, .ref q_700_16, .ref q_700_17, .int 0, .int 0, .ref q_700_18, .ref q_700_19, .ref q_700_20, .ref q_700_21, .ref q_700_22, .ref q_700_23, .ref q_700_24, .ref q_700_25, .ref q_700_26, .ref q_700_27, .ref q_700_28, .ref q_700_29, .int 0, .long 0, .ref q_700_30, .ref q_700_31, .ref q_700_32, .ref q_700_33, .ref q_700_34, .ref q_700_35, .ref q_700_36, .ref q_700_37, .ref q_700_38, .ref q_700_39, .ref q_700_40, .ref q_700_41, .int 0, .int 0, .int 0, .int 0, .ref q_700_42, .ref q_700_43, .ref q_700_44, .ref q_700_45, .int 0, .ref q_700_46, .ref q_700_47, .int 0, .long 0])), (q_700_2, .inl (cy 1, 10, .inl (upd (fun _ => 0) 4 2))), (q_700_36, .inl (cy 1, 21, .inl (upd (upd (upd (upd (upd (upd (fun _ => 0) 9 (-1)) 10 (-1)) 11 (-1)) 12 (-1)) 13 (-1)) 14 (-1))))] := hD
    refine lv_aload_n hx hb dL_law_1077 rfl (lv_at hl 2 rfl) ?_
    refine lv_aload_n hx hb dL_law_1078 rfl (lv_at hl 4 rfl) ?_
    refine lv_iload hx hb dL_law_1079 (lv_at hl 0 rfl) ?_
    refine lv_iconst (v := 1) hx hb dL_law_1081 (by decide) ?_
    refine m_iadd (v := 1) hx hb dL_law_1082 (by decide) ?_
    refine va_sld hx hb hX hbl hbA hS (vin (by decide)) dL_law_1083 ?_
    refine m_as (v := xs 1) rfl ?_
    refine m_as (v := 11) g_1 ?_
    refine x_i (wr := [(q_4, .inr (0, [.ref q_1_5, .ref q_2_6, .ref q_3_7, .ref q_4_8, .ref q_5_9, .ref q_6_10, .ref q_7_11, .ref q_8_12, .ref q_9_13, .ref q_10_14, .ref q_11_15, .ref q_12_16, .ref q_13_17, .int 0, .int 0, .int 0, .int 2, .ref q_18_18, .ref q_19_19, .ref q_20_20])), (q_46, .inr (10, [.ref q1_47, .ref q2_48, .ref q3_49, .int 0])), (q_54, .inr (8, [.int 0, .int 0, .int 0, .ref q1_55, .ref q2_56, .ref q3_57])), (q_64, .inr (2, [.ref q_1_65, .int 0, .int 0, .int 0, .ref q_2_66])), (q_1_65, .inl (cy 1, 6, .inl (fl 6 (-1) (fun _ => 0)))), (q_700_30, .inl (cy 1, 6, .inl (fun _ => 0))), (q_700_2, .inl (cy 1, 10, .inl (upd (fun _ => 0) 4 2))), (q_700_36, .inl (cy 1, 21, .inl (upd (upd (upd (upd (upd (upd (fun _ => 0) 9 (-1)) 10 (-1)) 11 (-1)) 12 (-1)) 13 (-1)) 14 (-1))))]) hP hD hS hA [6] [0, 1, 2, 3, 4, 5, 7, 8] rfl rfl (by decide) (by decide) (va_runV (As := [.int 11]) (rest := [.int 0]) ⟨hx, hb, hml, hown, hts⟩ (c_X12_count_12 l D cy h_2 q_700_1 q_700_2 q_700_3 q_700_4 q_700_5 q_700_6 q_700_7 q_700_8 q_700_9 q_700_10 q_700_11 q_700_12 q_700_13 q_700_14 q_700_15 q_700_16 q_700_17 q_700_18 q_700_19 q_700_20 q_700_21 q_700_22 q_700_23 q_700_24 q_700_25 q_700_26 q_700_27 q_700_28 q_700_29 q_700_30 q_700_31 q_700_32 q_700_33 q_700_34 q_700_35 q_700_36 q_700_37 q_700_38 q_700_39 q_700_40 q_700_41 q_700_42 q_700_43 q_700_44 q_700_45 q_700_46 q_700_47 H.size) (cwV 1 hts (gV0 km_L_126 ki_X12_count kz_X12_count kn_X12 kc_X12_count) rfl rfl rfl (by decide +kernel) ⟨(Nat.le_of_ble_eq_true rfl), (Nat.le_of_ble_eq_true rfl)⟩) (preV hG hP hD [6] rfl (by decide) 12 6 rfl rfl) rfl rfl hl.1 rfl (lv_room (Nat.le_of_ble_eq_true rfl)) dL_law_1084 ⟨(Nat.le_of_ble_eq_true rfl), (Nat.le_of_ble_eq_true rfl)⟩) (fun r_25 H locs hB hj hS => ?_)
    obtain ⟨hres, hP1, hD1⟩ := hB
    subst hres
    obtain ⟨hP, hD⟩ := hj _ hP1 hD1
    have hP : va_P D vwCl [(q_4, .inr (0, [.ref q_1_5, .ref q_2_6, .ref q_3_7, .ref q_4_8, .ref q_5_9, .ref q_6_10, .ref q_7_11, .ref q_8_12, .ref q_9_13, .ref q_10_14, .ref q_11_15, .ref q_12_16, .ref q_13_17, .int 0, .int 0, .int 0, .int 2, .ref q_18_18, .ref q_19_19, .ref q_20_20])), (q_46, .inr (10, [.ref q1_47, .ref q2_48, .ref q3_49, .int 0])), (q_54, .inr (8, [.int 0, .int 0, .int 0, .ref q1_55, .ref q2_56, .ref q3_57])), (q_64, .inr (2, [.ref q_1_65, .int 0, .int 0, .int 0, .ref q_2_66])), (q_1_65, .inl (cy 1, 6, .inl (fl 6 (-1) (fun _ => 0)))), (q_700_30, .inl (cy 1, 6, .inl (fun _ => 0))), (q_700_2, .inl (cy 1, 10, .inl (upd (fun _ => 0) 4 2))), (q_700_36, .inl (cy 1, 21, .inl (upd (upd (upd (upd (upd (upd (fun _ => 0) 9 (-1)) 10 (-1)) 11 (-1)) 12 (-1)) 13 (-1)) 14 (-1))))] H := hP
    have hD : va_D A [(q_4, .inr (0, [.ref q_1_5, .ref q_2_6, .ref q_3_7, .ref q_4_8, .ref q_5_9, .ref q_6_10, .ref q_7_11, .ref q_8_12, .ref q_9_13, .ref q_10_14, .ref q_11_15, .ref q_12_16, .ref q_13_17, .int 0, .int 0, .int 0, .int 2, .ref q_18_18, .ref q_19_19, .ref q_20_20])), (q_46, .inr (10, [.ref q1_47, .ref q2_48, .ref q3_49, .int 0])), (q_54, .inr (8, [.int 0, .int 0, .int 0, .ref q1_55, .ref q2_56, .ref q3_57])), (q_64, .inr (2, [.ref q_1_65, .int 0, .int 0, .int 0, .ref q_2_66])), (q_1_65, .inl (cy 1, 6, .inl (fl 6 (-1) (fun _ => 0)))), (q_700_30, .inl (cy 1, 6, .inl (fun _ => 0))), (q_700_2, .inl (cy 1, 10, .inl (upd (fun _ => 0) 4 2))), (q_700_36, .inl (cy 1, 21, .inl (upd (upd (upd (upd (upd (upd (fun _ => 0) 9 (-1)) 10 (-1)) 11 (-1)) 12 (-1)) 13 (-1)) 14 (-1))))] := hD
    refine lv_icmp_eq (tgt := 1092) hx hb dL_law_1087 (by decide) (fun _ => ?_) (fun c_ => absurd rfl c_)
    refine lv_iinc (v := 7) (lv' := [(4, .int 7), (3, .ref q_800), (2, .ref h_2), (1, .ref h_1), (0, .ref b)]) hx hb dL_law_1092 hl (k := 0) rfl (by decide) (by decide) rfl (fun ls hl => ?_)
    refine lv_goto (tgt := 23) hx hb dL_law_1095 (by decide) ?_
    refine lv_iload hx hb dL_law_23 (lv_at hl 0 rfl) ?_
    refine lv_aload_n hx hb dL_law_25 rfl (lv_at hl 4 rfl) ?_
    refine va_slen hx hb hX hbl hbA hS dL_law_26 ?_
    refine m_as (v := 7) rfl ?_
    refine lv_bipush (v := 7) hx hb dL_law_27 (by decide) ?_
    refine m_isub (v := 0) hx hb dL_law_29 (by decide) ?_
    refine lv_icmp_gt (tgt := 1098) hx hb dL_law_30 (by decide) (fun _ => ?_) (fun c_ => absurd (by decide) c_)
    refine lv_iconst (v := 1) hx hb dL_law_1098 (by decide) ?_
    exact lw_end hx hb hr hlocks hAd hS (Nat.le_of_ble_eq_true rfl) (Nat.le_of_ble_eq_true rfl) dL_law_1099
  · refine lv_aload_n hx hb dL_law_1067 rfl (lv_at hl 3 rfl) ?_
    refine lv_aload_n hx hb dL_law_1068 rfl (lv_at hl 4 rfl) ?_
    refine lv_iload hx hb dL_law_1069 (lv_at hl 0 rfl) ?_
    refine lv_iconst (v := 1) hx hb dL_law_1071 (by decide) ?_
    refine m_iadd (v := 1) hx hb dL_law_1072 (by decide) ?_
    refine va_sld hx hb hX hbl hbA hS (vin (by decide)) dL_law_1073 ?_
    refine m_as (v := xs 1) rfl ?_
    refine m_as (v := 12) g_1 ?_
    refine x_i (wr := [(q_1, .inr (9, [.ref q1_2, .int 0, .int 0, .int 0, .int 0, .int 32, .long 0, .int 0, .int 0])), (q_46, .inr (10, [.ref q1_47, .ref q2_48, .ref q3_49, .int 0])), (q_64, .inr (2, [.ref q_1_65, .int 0, .int 0, .int 0, .ref q_2_66])), (q_1_65, .inl (cy 1, 6, .inl (fl 6 (-1) (fun _ => 0)))), (q_700_30, .inl (cy 1, 6, .inl (fun _ => 0))), (h_2, .inr (12, [.int 0, .int 0, .ref q_700_1, .int 0, .int 0, .int 0, .int 0, .long 0, .int 0, .int 0, .ref q_700_2, .ref q_700_3, .ref q_700_4, .ref q_700_5, .ref q_700_6, .ref q_700_7, .ref q_700_8, .ref q_700_9, .ref q_700_10, .ref q_700_11, .ref q_700_12, .ref q_700_13, .ref q_700_14, .ref q_700_15, .ref q_700_16, .ref q_700_17, .int 0, .int 0, .ref q_700_18, .ref q_700_19, .ref q_700_20, .ref q_700_21, .ref q_700_22, .ref q_700_23, .ref q_700_24, .ref q_700_25, .ref q_700_26, .ref q_700_27, .ref q_700_28, .ref q_700_29, .int 0, .long 0, .ref q_700_30, .ref q_700_31, .ref q_700_32, .ref q_700_33, .ref q_700_34, .ref q_700_35, .ref q_700_36, .ref q_700_37, .ref q_700_38, .ref q_700_39, .ref q_700_40, .ref q_700_41, .int 0, .int 0, .int 0, .int 0, .ref q_700_42, .ref q_700_43, .ref q_700_44, .ref q_700_45, .int 0, .ref q_700_46, .ref q_700_47, .int 0, .long 0])), (q_700_2, .inl (cy 1, 10, .inl (upd (fun _ => 0) 4 2))), (q_700_36, .inl (cy 1, 21, .inl (upd (upd (upd (upd (upd (upd (fun _ => 0) 9 (-1)) 10 (-1)) 11 (-1)) 12 (-1)) 13 (-1)) 14 (-1))))]) hP hD hS hA [0, 2, 4] [1, 3, 5, 6, 7, 8, 9, 10] rfl rfl (by decide) (by decide) (va_runV (As := [.int 12]) (rest := []) ⟨hx, hb, hml, hown, hts⟩ (c_X11_count_13 l D cy h_1 q_1 q_3 q_4 q_25 q_46 q_50 q_54 q_58 q_62 q_63 q_64 q_67 q_85 q_90 q_93 q_1_5 q_2_6 q_3_7 q_4_8 q_5_9 q_6_10 q_7_11 q_8_12 q_9_13 q_10_14 q_11_15 q_12_16 q_13_17 q_18_18 q_19_19 q_20_20 q1_55 q2_56 q3_57 H.size) (cwV 1 hts (gV0 km_L_123 ki_X11_count kz_X11_count kn_X11 kc_X11_count) rfl rfl rfl (by decide +kernel) ⟨(Nat.le_of_ble_eq_true rfl), (Nat.le_of_ble_eq_true rfl)⟩) (preV hG hP hD [0, 2, 4] rfl (by decide) 11 0 rfl rfl) rfl rfl hl.1 rfl (lv_room (Nat.le_of_ble_eq_true rfl)) dL_law_1074 ⟨(Nat.le_of_ble_eq_true rfl), (Nat.le_of_ble_eq_true rfl)⟩) (fun r_26 H locs hB hj hS => ?_)
    obtain ⟨hres, hP1, hD1⟩ := hB
    subst hres
    obtain ⟨hP, hD⟩ := hj _ hP1 hD1
    have hP : va_P D vwCl [(q_1, .inr (9, [.ref q1_2, .int 0, .int 0, .int 0, .int 0, .int 32, .long 0, .int 0, .int 0])), (q_46, .inr (10, [.ref q1_47, .ref q2_48, .ref q3_49, .int 0])), (q_64, .inr (2, [.ref q_1_65, .int 0, .int 0, .int 0, .ref q_2_66])), (q_1_65, .inl (cy 1, 6, .inl (fl 6 (-1) (fun _ => 0)))), (q_700_30, .inl (cy 1, 6, .inl (fun _ => 0))), (h_2, .inr (12, [.int 0, .int 0, .ref q_700_1, .int 0, .int 0, .int 0, .int 0, .long 0, .int 0, .int 0, .ref q_700_2, .ref q_700_3, .ref q_700_4, .ref q_700_5, .ref q_700_6, .ref q_700_7, .ref q_700_8, .ref q_700_9, .ref q_700_10, .ref q_700_11, .ref q_700_12, .ref q_700_13, .ref q_700_14, .ref q_700_15, .ref q_700_16, .ref q_700_17, .int 0, .int 0, .ref q_700_18, .ref q_700_19, .ref q_700_20, .ref q_700_21, .ref q_700_22, .ref q_700_23, .ref q_700_24, .ref q_700_25, .ref q_700_26, .ref q_700_27, .ref q_700_28, .ref q_700_29, .int 0, .long 0, .ref q_700_30, .ref q_700_31, .ref q_700_32, .ref q_700_33, .ref q_700_34, .ref q_700_35, .ref q_700_36, .ref q_700_37, .ref q_700_38, .ref q_700_39, .ref q_700_40, .ref q_700_41, .int 0, .int 0, .int 0, .int 0, .ref q_700_42, .ref q_700_43, .ref q_700_44, .ref q_700_45, .int 0, .ref q_700_46, .ref q_700_47, .int 0, .long 0])), (q_700_2, .inl (cy 1, 10, .inl (upd (fun _ => 0) 4 2))), (q_700_36, .inl (cy 1, 21, .inl (upd (upd (upd (upd (upd (upd (fun _ => 0) 9 (-1)) 10 (-1)) 11 (-1)) 12 (-1)) 13 (-1)) 14 (-1))))] H := hP
    have hD : va_D A [(q_1, .inr (9, [.ref q1_2, .int 0, .int 0, .int 0, .int 0, .int 32, .long 0, .int 0, .int 0])), (q_46, .inr (10, [.ref q1_47, .ref q2_48, .ref q3_49, .int 0])), (q_64, .inr (2, [.ref q_1_65, .int 0, .int 0, .int 0, .ref q_2_66])), (q_1_65, .inl (cy 1, 6, .inl (fl 6 (-1) (fun _ => 0)))), (q_700_30, .inl (cy 1, 6, .inl (fun _ => 0))), (h_2, .inr (12, [.int 0, .int 0, .ref q_700_1, .int 0, .int 0, .int 0, .int 0, .long 0, .int 0, .int 0, .ref q_700_2, .ref q_700_3, .ref q_700_4, .ref q_700_5, .ref q_700_6, .ref q_700_7, .ref q_700_8, .ref q_700_9, .ref q_700_10, .ref q_700_11, .ref q_700_12, .ref q_700_13, .ref q_700_14, .ref q_700_15, .ref q_700_16, .ref q_700_17, .int 0, .int 0, .ref q_700_18, .ref q_700_19, .ref q_700_20, .ref q_700_21, .ref q_700_22, .ref q_700_23, .ref q_700_24, .ref q_700_25, .ref q_700_26, .ref q_700_27, .ref q_700_28, .ref q_700_29, .int 0, .long 0, .ref q_700_30, .ref q_700_31, .ref q_700_32, .ref q_700_33, .ref q_700_34, .ref q_700_35, .ref q_700_36, .ref q_700_37, .ref q_700_38, .ref q_700_39, .ref q_700_40, .ref q_700_41, .int 0, .int 0, .int 0, .int 0, .ref q_700_42, .ref q_700_43, .ref q_700_44, .ref q_700_45, .int 0, .ref q_700_46, .ref q_700_47, .int 0, .long 0])), (q_700_2, .inl (cy 1, 10, .inl (upd (fun _ => 0) 4 2))), (q_700_36, .inl (cy 1, 21, .inl (upd (upd (upd (upd (upd (upd (fun _ => 0) 9 (-1)) 10 (-1)) 11 (-1)) 12 (-1)) 13 (-1)) 14 (-1))))] := hD
    refine lv_aload_n hx hb dL_law_1077 rfl (lv_at hl 2 rfl) ?_
    refine lv_aload_n hx hb dL_law_1078 rfl (lv_at hl 4 rfl) ?_
    refine lv_iload hx hb dL_law_1079 (lv_at hl 0 rfl) ?_
    refine lv_iconst (v := 1) hx hb dL_law_1081 (by decide) ?_
    refine m_iadd (v := 1) hx hb dL_law_1082 (by decide) ?_
    refine va_sld hx hb hX hbl hbA hS (vin (by decide)) dL_law_1083 ?_
    refine m_as (v := xs 1) rfl ?_
    refine m_as (v := 12) g_1 ?_
    refine x_i (wr := [(q_1, .inr (9, [.ref q1_2, .int 0, .int 0, .int 0, .int 0, .int 32, .long 0, .int 0, .int 0])), (q_46, .inr (10, [.ref q1_47, .ref q2_48, .ref q3_49, .int 0])), (q_64, .inr (2, [.ref q_1_65, .int 0, .int 0, .int 0, .ref q_2_66])), (q_1_65, .inl (cy 1, 6, .inl (fl 6 (-1) (fun _ => 0)))), (q_700_30, .inl (cy 1, 6, .inl (fun _ => 0))), (q_700_2, .inl (cy 1, 10, .inl (upd (fun _ => 0) 4 2)))]) hP hD hS hA [5, 7] [0, 1, 2, 3, 4, 6] rfl rfl (by decide) (by decide) (va_runV (As := [.int 12]) (rest := [.int 0]) ⟨hx, hb, hml, hown, hts⟩ (c_X12_count_13 l D cy h_2 q_700_1 q_700_2 q_700_3 q_700_4 q_700_5 q_700_6 q_700_7 q_700_8 q_700_9 q_700_10 q_700_11 q_700_12 q_700_13 q_700_14 q_700_15 q_700_16 q_700_17 q_700_18 q_700_19 q_700_20 q_700_21 q_700_22 q_700_23 q_700_24 q_700_25 q_700_26 q_700_27 q_700_28 q_700_29 q_700_30 q_700_31 q_700_32 q_700_33 q_700_34 q_700_35 q_700_36 q_700_37 q_700_38 q_700_39 q_700_40 q_700_41 q_700_42 q_700_43 q_700_44 q_700_45 q_700_46 q_700_47 H.size) (cwV 1 hts (gV0 km_L_126 ki_X12_count kz_X12_count kn_X12 kc_X12_count) rfl rfl rfl (by decide +kernel) ⟨(Nat.le_of_ble_eq_true rfl), (Nat.le_of_ble_eq_true rfl)⟩) (preV hG hP hD [5, 7] rfl (by decide) 12 5 rfl rfl) rfl rfl hl.1 rfl (lv_room (Nat.le_of_ble_eq_true rfl)) dL_law_1084 ⟨(Nat.le_of_ble_eq_true rfl), (Nat.le_of_ble_eq_true rfl)⟩) (fun r_27 H locs hB hj hS => ?_)
    obtain ⟨hres, hP1, hD1⟩ := hB
    subst hres
    obtain ⟨hP, hD⟩ := hj _ hP1 hD1
    have hP : va_P D vwCl [(q_1, .inr (9, [.ref q1_2, .int 0, .int 0, .int 0, .int 0, .int 32, .long 0, .int 0, .int 0])), (q_46, .inr (10, [.ref q1_47, .ref q2_48, .ref q3_49, .int 0])), (q_64, .inr (2, [.ref q_1_65, .int 0, .int 0, .int 0, .ref q_2_66])), (q_1_65, .inl (cy 1, 6, .inl (fl 6 (-1) (fun _ => 0)))), (q_700_30, .inl (cy 1, 6, .inl (fun _ => 0))), (q_700_2, .inl (cy 1, 10, .inl (upd (fun _ => 0) 4 2)))] H := hP
    have hD : va_D A [(q_1, .inr (9, [.ref q1_2, .int 0, .int 0, .int 0, .int 0, .int 32, .long 0, .int 0, .int 0])), (q_46, .inr (10, [.ref q1_47, .ref q2_48, .ref q3_49, .int 0])), (q_64, .inr (2, [.ref q_1_65, .int 0, .int 0, .int 0, .ref q_2_66])), (q_1_65, .inl (cy 1, 6, .inl (fl 6 (-1) (fun _ => 0)))), (q_700_30, .inl (cy 1, 6, .inl (fun _ => 0))), (q_700_2, .inl (cy 1, 10, .inl (upd (fun _ => 0) 4 2)))] := hD
    refine lv_icmp_eq (tgt := 1092) hx hb dL_law_1087 (by decide) (fun _ => ?_) (fun c_ => absurd rfl c_)
    refine lv_iinc (v := 7) (lv' := [(4, .int 7), (3, .ref q_800), (2, .ref h_2), (1, .ref h_1), (0, .ref b)]) hx hb dL_law_1092 hl (k := 0) rfl (by decide) (by decide) rfl (fun ls hl => ?_)
    refine lv_goto (tgt := 23) hx hb dL_law_1095 (by decide) ?_
    refine lv_iload hx hb dL_law_23 (lv_at hl 0 rfl) ?_
    refine lv_aload_n hx hb dL_law_25 rfl (lv_at hl 4 rfl) ?_
    refine va_slen hx hb hX hbl hbA hS dL_law_26 ?_
    refine m_as (v := 7) rfl ?_
    refine lv_bipush (v := 7) hx hb dL_law_27 (by decide) ?_
    refine m_isub (v := 0) hx hb dL_law_29 (by decide) ?_
    refine lv_icmp_gt (tgt := 1098) hx hb dL_law_30 (by decide) (fun _ => ?_) (fun c_ => absurd (by decide) c_)
    refine lv_iconst (v := 1) hx hb dL_law_1098 (by decide) ?_
    exact lw_end hx hb hr hlocks hAd hS (Nat.le_of_ble_eq_true rfl) (Nat.le_of_ble_eq_true rfl) dL_law_1099
  · refine lv_aload_n hx hb dL_law_1067 rfl (lv_at hl 3 rfl) ?_
    refine lv_aload_n hx hb dL_law_1068 rfl (lv_at hl 4 rfl) ?_
    refine lv_iload hx hb dL_law_1069 (lv_at hl 0 rfl) ?_
    refine lv_iconst (v := 1) hx hb dL_law_1071 (by decide) ?_
    refine m_iadd (v := 1) hx hb dL_law_1072 (by decide) ?_
    refine va_sld hx hb hX hbl hbA hS (vin (by decide)) dL_law_1073 ?_
    refine m_as (v := xs 1) rfl ?_
    refine x_i (wr := [(q_1, .inr (9, [.ref q1_2, .int 0, .int 0, .int 0, .int 0, .int 32, .long 0, .int 0, .int 0])), (q_4, .inr (0, [.ref q_1_5, .ref q_2_6, .ref q_3_7, .ref q_4_8, .ref q_5_9, .ref q_6_10, .ref q_7_11, .ref q_8_12, .ref q_9_13, .ref q_10_14, .ref q_11_15, .ref q_12_16, .ref q_13_17, .int 0, .int 0, .int 0, .int 2, .ref q_18_18, .ref q_19_19, .ref q_20_20])), (q_46, .inr (10, [.ref q1_47, .ref q2_48, .ref q3_49, .int 0])), (q_54, .inr (8, [.int 0, .int 0, .int 0, .ref q1_55, .ref q2_56, .ref q3_57])), (q_64, .inr (2, [.ref q_1_65, .int 0, .int 0, .int 0, .ref q_2_66])), (q_1_65, .inl (cy 1, 6, .inl (fl 6 (-1) (fun _ => 0)))), (q_700_30, .inl (cy 1, 6, .inl (fun _ => 0))), (h_2, .inr (12, [.int 0, .int 0, .ref q_700_1, .int 0, .int 0, .int 0, .int 0, .long 0, .int 0, .int 0, .ref q_700_2, .ref q_700_3, .ref q_700_4, .ref q_700_5, .ref q_700_6, .ref q_700_7, .ref q_700_8, .ref q_700_9, .ref q_700_10, .ref q_700_11, .ref q_700_12, .ref q_700_13, .ref q_700_14, .ref q_700_15, .ref q_700_16, .ref q_700_17, .int 0, .int 0, .ref q_700_18, .ref q_700_19, .ref q_700_20, .ref q_700_21, .ref q_700_22, .ref q_700_23, .ref q_700_24, .ref q_700_25, .ref q_700_26, .ref q_700_27, .ref q_700_28, .ref q_700_29, .int 0, .long 0, .ref q_700_30, .ref q_700_31, .ref q_700_32, .ref q_700_33, .ref q_700_34, .ref q_700_35, .ref q_700_36, .ref q_700_37, .ref q_700_38, .ref q_700_39, .ref q_700_40, .ref q_700_41, .int 0, .int 0, .int 0, .int 0, .ref q_700_42, .ref q_700_43, .ref q_700_44, .ref q_700_45, .int 0, .ref q_700_46, .ref q_700_47, .int 0, .long 0])), (q_700_2, .inl (cy 1, 10, .inl (upd (fun _ => 0) 4 2))), (q_700_36, .inl (cy 1, 21, .inl (upd (upd (upd (upd (upd (upd (fun _ => 0) 9 (-1)) 10 (-1)) 11 (-1)) 12 (-1)) 13 (-1)) 14 (-1))))]) hP hD hS hA [0] [1, 2, 3, 4, 5, 6, 7, 8, 9, 10] rfl rfl (by decide) (by decide) (va_runV (As := [.int (xs 1)]) (rest := []) ⟨hx, hb, hml, hown, hts⟩ (c_X11_count_14 l D cy h_1 q_1 q_3 q_4 q_25 q_46 q_50 q_54 q_58 q_62 q_63 q_64 q_67 q_85 q_90 q_93 (xs 1) H.size g_1) (cwV 1 hts (gV0 km_L_123 ki_X11_count kz_X11_count kn_X11 kc_X11_count) rfl rfl rfl (by decide +kernel) ⟨(Nat.le_of_ble_eq_true rfl), (Nat.le_of_ble_eq_true rfl)⟩) (preV hG hP hD [0] rfl (by decide) 11 0 rfl rfl) rfl rfl hl.1 rfl (lv_room (Nat.le_of_ble_eq_true rfl)) dL_law_1074 ⟨(Nat.le_of_ble_eq_true rfl), (Nat.le_of_ble_eq_true rfl)⟩) (fun r_28 H locs hB hj hS => ?_)
    obtain ⟨hres, hP1, hD1⟩ := hB
    subst hres
    obtain ⟨hP, hD⟩ := hj _ hP1 hD1
    have hP : va_P D vwCl [(q_1, .inr (9, [.ref q1_2, .int 0, .int 0, .int 0, .int 0, .int 32, .long 0, .int 0, .int 0])), (q_4, .inr (0, [.ref q_1_5, .ref q_2_6, .ref q_3_7, .ref q_4_8, .ref q_5_9, .ref q_6_10, .ref q_7_11, .ref q_8_12, .ref q_9_13, .ref q_10_14, .ref q_11_15, .ref q_12_16, .ref q_13_17, .int 0, .int 0, .int 0, .int 2, .ref q_18_18, .ref q_19_19, .ref q_20_20])), (q_46, .inr (10, [.ref q1_47, .ref q2_48, .ref q3_49, .int 0])), (q_54, .inr (8, [.int 0, .int 0, .int 0, .ref q1_55, .ref q2_56, .ref q3_57])), (q_64, .inr (2, [.ref q_1_65, .int 0, .int 0, .int 0, .ref q_2_66])), (q_1_65, .inl (cy 1, 6, .inl (fl 6 (-1) (fun _ => 0)))), (q_700_30, .inl (cy 1, 6, .inl (fun _ => 0))), (h_2, .inr (12, [.int 0, .int 0, .ref q_700_1, .int 0, .int 0, .int 0, .int 0, .long 0, .int 0, .int 0, .ref q_700_2, .ref q_700_3, .ref q_700_4, .ref q_700_5, .ref q_700_6, .ref q_700_7, .ref q_700_8, .ref q_700_9, .ref q_700_10, .ref q_700_11, .ref q_700_12, .ref q_700_13, .ref q_700_14, .ref q_700_15, .ref q_700_16, .ref q_700_17, .int 0, .int 0, .ref q_700_18, .ref q_700_19, .ref q_700_20, .ref q_700_21, .ref q_700_22, .ref q_700_23, .ref q_700_24, .ref q_700_25, .ref q_700_26, .ref q_700_27, .ref q_700_28, .ref q_700_29, .int 0, .long 0, .ref q_700_30, .ref q_700_31, .ref q_700_32, .ref q_700_33, .ref q_700_34, .ref q_700_35, .ref q_700_36, .ref q_700_37, .ref q_700_38, .ref q_700_39, .ref q_700_40, .ref q_700_41, .int 0, .int 0, .int 0, .int 0, .ref q_700_42, .ref q_700_43, .ref q_700_44, .ref q_700_45, .int 0, .ref q_700_46, .ref q_700_47, .int 0, .long 0])), (q_700_2, .inl (cy 1, 10, .inl (upd (fun _ => 0) 4 2))), (q_700_36, .inl (cy 1, 21, .inl (upd (upd (upd (upd (upd (upd (fun _ => 0) 9 (-1)) 10 (-1)) 11 (-1)) 12 (-1)) 13 (-1)) 14 (-1))))] H := hP
    have hD : va_D A [(q_1, .inr (9, [.ref q1_2, .int 0, .int 0, .int 0, .int 0, .int 32, .long 0, .int 0, .int 0])), (q_4, .inr (0, [.ref q_1_5, .ref q_2_6, .ref q_3_7, .ref q_4_8, .ref q_5_9, .ref q_6_10, .ref q_7_11, .ref q_8_12, .ref q_9_13, .ref q_10_14, .ref q_11_15, .ref q_12_16, .ref q_13_17, .int 0, .int 0, .int 0, .int 2, .ref q_18_18, .ref q_19_19, .ref q_20_20])), (q_46, .inr (10, [.ref q1_47, .ref q2_48, .ref q3_49, .int 0])), (q_54, .inr (8, [.int 0, .int 0, .int 0, .ref q1_55, .ref q2_56, .ref q3_57])), (q_64, .inr (2, [.ref q_1_65, .int 0, .int 0, .int 0, .ref q_2_66])), (q_1_65, .inl (cy 1, 6, .inl (fl 6 (-1) (fun _ => 0)))), (q_700_30, .inl (cy 1, 6, .inl (fun _ => 0))), (h_2, .inr (12, [.int 0, .int 0, .ref q_700_1, .int 0, .int 0, .int 0, .int 0, .long 0, .int 0, .int 0, .ref q_700_2, .ref q_700_3, .ref q_700_4, .ref q_700_5, .ref q_700_6, .ref q_700_7, .ref q_700_8, .ref q_700_9, .ref q_700_10, .ref q_700_11, .ref q_700_12, .ref q_700_13, .ref q_700_14, .ref q_700_15, .ref q_700_16, .ref q_700_17, .int 0, .int 0, .ref q_700_18, .ref q_700_19, .ref q_700_20, .ref q_700_21, .ref q_700_22, .ref q_700_23, .ref q_700_24, .ref q_700_25, .ref q_700_26, .ref q_700_27, .ref q_700_28, .ref q_700_29, .int 0, .long 0, .ref q_700_30, .ref q_700_31, .ref q_700_32, .ref q_700_33, .ref q_700_34, .ref q_700_35, .ref q_700_36, .ref q_700_37, .ref q_700_38, .ref q_700_39, .ref q_700_40, .ref q_700_41, .int 0, .int 0, .int 0, .int 0, .ref q_700_42, .ref q_700_43, .ref q_700_44, .ref q_700_45, .int 0, .ref q_700_46, .ref q_700_47, .int 0, .long 0])), (q_700_2, .inl (cy 1, 10, .inl (upd (fun _ => 0) 4 2))), (q_700_36, .inl (cy 1, 21, .inl (upd (upd (upd (upd (upd (upd (fun _ => 0) 9 (-1)) 10 (-1)) 11 (-1)) 12 (-1)) 13 (-1)) 14 (-1))))] := hD
    refine lv_aload_n hx hb dL_law_1077 rfl (lv_at hl 2 rfl) ?_
    refine lv_aload_n hx hb dL_law_1078 rfl (lv_at hl 4 rfl) ?_
    refine lv_iload hx hb dL_law_1079 (lv_at hl 0 rfl) ?_
    refine lv_iconst (v := 1) hx hb dL_law_1081 (by decide) ?_
    refine m_iadd (v := 1) hx hb dL_law_1082 (by decide) ?_
    refine va_sld hx hb hX hbl hbA hS (vin (by decide)) dL_law_1083 ?_
    refine m_as (v := xs 1) rfl ?_
    refine x_i (wr := [(q_1, .inr (9, [.ref q1_2, .int 0, .int 0, .int 0, .int 0, .int 32, .long 0, .int 0, .int 0])), (q_4, .inr (0, [.ref q_1_5, .ref q_2_6, .ref q_3_7, .ref q_4_8, .ref q_5_9, .ref q_6_10, .ref q_7_11, .ref q_8_12, .ref q_9_13, .ref q_10_14, .ref q_11_15, .ref q_12_16, .ref q_13_17, .int 0, .int 0, .int 0, .int 2, .ref q_18_18, .ref q_19_19, .ref q_20_20])), (q_46, .inr (10, [.ref q1_47, .ref q2_48, .ref q3_49, .int 0])), (q_54, .inr (8, [.int 0, .int 0, .int 0, .ref q1_55, .ref q2_56, .ref q3_57])), (q_64, .inr (2, [.ref q_1_65, .int 0, .int 0, .int 0, .ref q_2_66])), (q_1_65, .inl (cy 1, 6, .inl (fl 6 (-1) (fun _ => 0)))), (q_700_30, .inl (cy 1, 6, .inl (fun _ => 0))), (q_700_2, .inl (cy 1, 10, .inl (upd (fun _ => 0) 4 2))), (q_700_36, .inl (cy 1, 21, .inl (upd (upd (upd (upd (upd (upd (fun _ => 0) 9 (-1)) 10 (-1)) 11 (-1)) 12 (-1)) 13 (-1)) 14 (-1))))]) hP hD hS hA [7] [0, 1, 2, 3, 4, 5, 6, 8, 9] rfl rfl (by decide) (by decide) (va_runV (As := [.int (xs 1)]) (rest := [.int (-1)]) ⟨hx, hb, hml, hown, hts⟩ (c_X12_count_14 l D cy h_2 q_700_1 q_700_2 q_700_3 q_700_4 q_700_5 q_700_6 q_700_7 q_700_8 q_700_9 q_700_10 q_700_11 q_700_12 q_700_13 q_700_14 q_700_15 q_700_16 q_700_17 q_700_18 q_700_19 q_700_20 q_700_21 q_700_22 q_700_23 q_700_24 q_700_25 q_700_26 q_700_27 q_700_28 q_700_29 q_700_30 q_700_31 q_700_32 q_700_33 q_700_34 q_700_35 q_700_36 q_700_37 q_700_38 q_700_39 q_700_40 q_700_41 q_700_42 q_700_43 q_700_44 q_700_45 q_700_46 q_700_47 (xs 1) H.size g_1) (cwV 1 hts (gV0 km_L_126 ki_X12_count kz_X12_count kn_X12 kc_X12_count) rfl rfl rfl (by decide +kernel) ⟨(Nat.le_of_ble_eq_true rfl), (Nat.le_of_ble_eq_true rfl)⟩) (preV hG hP hD [7] rfl (by decide) 12 7 rfl rfl) rfl rfl hl.1 rfl (lv_room (Nat.le_of_ble_eq_true rfl)) dL_law_1084 ⟨(Nat.le_of_ble_eq_true rfl), (Nat.le_of_ble_eq_true rfl)⟩) (fun r_29 H locs hB hj hS => ?_)
    obtain ⟨hres, hP1, hD1⟩ := hB
    subst hres
    obtain ⟨hP, hD⟩ := hj _ hP1 hD1
    have hP : va_P D vwCl [(q_1, .inr (9, [.ref q1_2, .int 0, .int 0, .int 0, .int 0, .int 32, .long 0, .int 0, .int 0])), (q_4, .inr (0, [.ref q_1_5, .ref q_2_6, .ref q_3_7, .ref q_4_8, .ref q_5_9, .ref q_6_10, .ref q_7_11, .ref q_8_12, .ref q_9_13, .ref q_10_14, .ref q_11_15, .ref q_12_16, .ref q_13_17, .int 0, .int 0, .int 0, .int 2, .ref q_18_18, .ref q_19_19, .ref q_20_20])), (q_46, .inr (10, [.ref q1_47, .ref q2_48, .ref q3_49, .int 0])), (q_54, .inr (8, [.int 0, .int 0, .int 0, .ref q1_55, .ref q2_56, .ref q3_57])), (q_64, .inr (2, [.ref q_1_65, .int 0, .int 0, .int 0, .ref q_2_66])), (q_1_65, .inl (cy 1, 6, .inl (fl 6 (-1) (fun _ => 0)))), (q_700_30, .inl (cy 1, 6, .inl (fun _ => 0))), (q_700_2, .inl (cy 1, 10, .inl (upd (fun _ => 0) 4 2))), (q_700_36, .inl (cy 1, 21, .inl (upd (upd (upd (upd (upd (upd (fun _ => 0) 9 (-1)) 10 (-1)) 11 (-1)) 12 (-1)) 13 (-1)) 14 (-1))))] H := hP
    have hD : va_D A [(q_1, .inr (9, [.ref q1_2, .int 0, .int 0, .int 0, .int 0, .int 32, .long 0, .int 0, .int 0])), (q_4, .inr (0, [.ref q_1_5, .ref q_2_6, .ref q_3_7, .ref q_4_8, .ref q_5_9, .ref q_6_10, .ref q_7_11, .ref q_8_12, .ref q_9_13, .ref q_10_14, .ref q_11_15, .ref q_12_16, .ref q_13_17, .int 0, .int 0, .int 0, .int 2, .ref q_18_18, .ref q_19_19, .ref q_20_20])), (q_46, .inr (10, [.ref q1_47, .ref q2_48, .ref q3_49, .int 0])), (q_54, .inr (8, [.int 0, .int 0, .int 0, .ref q1_55, .ref q2_56, .ref q3_57])), (q_64, .inr (2, [.ref q_1_65, .int 0, .int 0, .int 0, .ref q_2_66])), (q_1_65, .inl (cy 1, 6, .inl (fl 6 (-1) (fun _ => 0)))), (q_700_30, .inl (cy 1, 6, .inl (fun _ => 0))), (q_700_2, .inl (cy 1, 10, .inl (upd (fun _ => 0) 4 2))), (q_700_36, .inl (cy 1, 21, .inl (upd (upd (upd (upd (upd (upd (fun _ => 0) 9 (-1)) 10 (-1)) 11 (-1)) 12 (-1)) 13 (-1)) 14 (-1))))] := hD
    refine lv_icmp_eq (tgt := 1092) hx hb dL_law_1087 (by decide) (fun _ => ?_) (fun c_ => absurd rfl c_)
    refine lv_iinc (v := 7) (lv' := [(4, .int 7), (3, .ref q_800), (2, .ref h_2), (1, .ref h_1), (0, .ref b)]) hx hb dL_law_1092 hl (k := 0) rfl (by decide) (by decide) rfl (fun ls hl => ?_)
    refine lv_goto (tgt := 23) hx hb dL_law_1095 (by decide) ?_
    refine lv_iload hx hb dL_law_23 (lv_at hl 0 rfl) ?_
    refine lv_aload_n hx hb dL_law_25 rfl (lv_at hl 4 rfl) ?_
    refine va_slen hx hb hX hbl hbA hS dL_law_26 ?_
    refine m_as (v := 7) rfl ?_
    refine lv_bipush (v := 7) hx hb dL_law_27 (by decide) ?_
    refine m_isub (v := 0) hx hb dL_law_29 (by decide) ?_
    refine lv_icmp_gt (tgt := 1098) hx hb dL_law_30 (by decide) (fun _ => ?_) (fun c_ => absurd (by decide) c_)
    refine lv_iconst (v := 1) hx hb dL_law_1098 (by decide) ?_
    exact lw_end hx hb hr hlocks hAd hS (Nat.le_of_ble_eq_true rfl) (Nat.le_of_ble_eq_true rfl) dL_law_1099
  · refine lv_aload_n hx hb dL_law_1067 rfl (lv_at hl 3 rfl) ?_
    refine lv_aload_n hx hb dL_law_1068 rfl (lv_at hl 4 rfl) ?_
    refine lv_iload hx hb dL_law_1069 (lv_at hl 0 rfl) ?_
    refine lv_iconst (v := 1) hx hb dL_law_1071 (by decide) ?_
    refine m_iadd (v := 1) hx hb dL_law_1072 (by decide) ?_
    refine va_sld hx hb hX hbl hbA hS (vin (by decide)) dL_law_1073 ?_
    refine m_as (v := xs 1) rfl ?_
    refine x_i (wr := [(q_1, .inr (9, [.ref q1_2, .int 0, .int 0, .int 0, .int 0, .int 32, .long 0, .int 0, .int 0])), (q_4, .inr (0, [.ref q_1_5, .ref q_2_6, .ref q_3_7, .ref q_4_8, .ref q_5_9, .ref q_6_10, .ref q_7_11, .ref q_8_12, .ref q_9_13, .ref q_10_14, .ref q_11_15, .ref q_12_16, .ref q_13_17, .int 0, .int 0, .int 0, .int 2, .ref q_18_18, .ref q_19_19, .ref q_20_20])), (q_46, .inr (10, [.ref q1_47, .ref q2_48, .ref q3_49, .int 0])), (q_54, .inr (8, [.int 0, .int 0, .int 0, .ref q1_55, .ref q2_56, .ref q3_57])), (q_64, .inr (2, [.ref q_1_65, .int 0, .int 0, .int 0, .ref q_2_66])), (q_1_65, .inl (cy 1, 6, .inl (fl 6 (-1) (fun _ => 0)))), (q_700_30, .inl (cy 1, 6, .inl (fun _ => 0))), (h_2, .inr (12, [.int 0, .int 0, .ref q_700_1, .int 0, .int 0, .int 0, .int 0, .long 0, .int 0, .int 0, .ref q_700_2, .ref q_700_3, .ref q_700_4, .ref q_700_5, .ref q_700_6, .ref q_700_7, .ref q_700_8, .ref q_700_9, .ref q_700_10, .ref q_700_11, .ref q_700_12, .ref q_700_13, .ref q_700_14, .ref q_700_15, .ref q_700_16, .ref q_700_17, .int 0, .int 0, .ref q_700_18, .ref q_700_19, .ref q_700_20, .ref q_700_21, .ref q_700_22, .ref q_700_23, .ref q_700_24, .ref q_700_25, .ref q_700_26, .ref q_700_27, .ref q_700_28, .ref q_700_29, .int 0, .long 0, .ref q_700_30, .ref q_700_31, .ref q_700_32, .ref q_700_33, .ref q_700_34, .ref q_700_35, .ref q_700_36, .ref q_700_37, .ref q_700_38, .ref q_700_39, .ref q_700_40, .ref q_700_41, .int 0, .int 0, .int 0, .int 0, .ref q_700_42, .ref q_700_43, .ref q_700_44, .ref q_700_45, .int 0, .ref q_700_46, .ref q_700_47, .int 0, .long 0])), (q_700_2, .inl (cy 1, 10, .inl (upd (fun _ => 0) 4 2))), (q_700_36, .inl (cy 1, 21, .inl (upd (upd (upd (upd (upd (upd (fun _ => 0) 9 (-1)) 10 (-1)) 11 (-1)) 12 (-1)) 13 (-1)) 14 (-1))))]) hP hD hS hA [0] [1, 2, 3, 4, 5, 6, 7, 8, 9, 10] rfl rfl (by decide) (by decide) (va_runV (As := [.int (xs 1)]) (rest := []) ⟨hx, hb, hml, hown, hts⟩ (c_X11_count_15 l D cy h_1 q_1 q_3 q_4 q_25 q_46 q_50 q_54 q_58 q_62 q_63 q_64 q_67 q_85 q_90 q_93 (xs 1) H.size g_1) (cwV 1 hts (gV0 km_L_123 ki_X11_count kz_X11_count kn_X11 kc_X11_count) rfl rfl rfl (by decide +kernel) ⟨(Nat.le_of_ble_eq_true rfl), (Nat.le_of_ble_eq_true rfl)⟩) (preV hG hP hD [0] rfl (by decide) 11 0 rfl rfl) rfl rfl hl.1 rfl (lv_room (Nat.le_of_ble_eq_true rfl)) dL_law_1074 ⟨(Nat.le_of_ble_eq_true rfl), (Nat.le_of_ble_eq_true rfl)⟩) (fun r_30 H locs hB hj hS => ?_)
    obtain ⟨hres, hP1, hD1⟩ := hB
    subst hres
    obtain ⟨hP, hD⟩ := hj _ hP1 hD1
    have hP : va_P D vwCl [(q_1, .inr (9, [.ref q1_2, .int 0, .int 0, .int 0, .int 0, .int 32, .long 0, .int 0, .int 0])), (q_4, .inr (0, [.ref q_1_5, .ref q_2_6, .ref q_3_7, .ref q_4_8, .ref q_5_9, .ref q_6_10, .ref q_7_11, .ref q_8_12, .ref q_9_13, .ref q_10_14, .ref q_11_15, .ref q_12_16, .ref q_13_17, .int 0, .int 0, .int 0, .int 2, .ref q_18_18, .ref q_19_19, .ref q_20_20])), (q_46, .inr (10, [.ref q1_47, .ref q2_48, .ref q3_49, .int 0])), (q_54, .inr (8, [.int 0, .int 0, .int 0, .ref q1_55, .ref q2_56, .ref q3_57])), (q_64, .inr (2, [.ref q_1_65, .int 0, .int 0, .int 0, .ref q_2_66])), (q_1_65, .inl (cy 1, 6, .inl (fl 6 (-1) (fun _ => 0)))), (q_700_30, .inl (cy 1, 6, .inl (fun _ => 0))), (h_2, .inr (12, [.int 0, .int 0, .ref q_700_1, .int 0, .int 0, .int 0, .int 0, .long 0, .int 0, .int 0, .ref q_700_2, .ref q_700_3, .ref q_700_4, .ref q_700_5, .ref q_700_6, .ref q_700_7, .ref q_700_8, .ref q_700_9, .ref q_700_10, .ref q_700_11, .ref q_700_12, .ref q_700_13, .ref q_700_14, .ref q_700_15, .ref q_700_16, .ref q_700_17, .int 0, .int 0, .ref q_700_18, .ref q_700_19, .ref q_700_20, .ref q_700_21, .ref q_700_22, .ref q_700_23, .ref q_700_24, .ref q_700_25, .ref q_700_26, .ref q_700_27, .ref q_700_28, .ref q_700_29, .int 0, .long 0, .ref q_700_30, .ref q_700_31, .ref q_700_32, .ref q_700_33, .ref q_700_34, .ref q_700_35, .ref q_700_36, .ref q_700_37, .ref q_700_38, .ref q_700_39, .ref q_700_40, .ref q_700_41, .int 0, .int 0, .int 0, .int 0, .ref q_700_42, .ref q_700_43, .ref q_700_44, .ref q_700_45, .int 0, .ref q_700_46, .ref q_700_47, .int 0, .long 0])), (q_700_2, .inl (cy 1, 10, .inl (upd (fun _ => 0) 4 2))), (q_700_36, .inl (cy 1, 21, .inl (upd (upd (upd (upd (upd (upd (fun _ => 0) 9 (-1)) 10 (-1)) 11 (-1)) 12 (-1)) 13 (-1)) 14 (-1))))] H := hP
    have hD : va_D A [(q_1, .inr (9, [.ref q1_2, .int 0, .int 0, .int 0, .int 0, .int 32, .long 0, .int 0, .int 0])), (q_4, .inr (0, [.ref q_1_5, .ref q_2_6, .ref q_3_7, .ref q_4_8, .ref q_5_9, .ref q_6_10, .ref q_7_11, .ref q_8_12, .ref q_9_13, .ref q_10_14, .ref q_11_15, .ref q_12_16, .ref q_13_17, .int 0, .int 0, .int 0, .int 2, .ref q_18_18, .ref q_19_19, .ref q_20_20])), (q_46, .inr (10, [.ref q1_47, .ref q2_48, .ref q3_49, .int 0])), (q_54, .inr (8, [.int 0, .int 0, .int 0, .ref q1_55, .ref q2_56, .ref q3_57])), (q_64, .inr (2, [.ref q_1_65, .int 0, .int 0, .int 0, .ref q_2_66])), (q_1_65, .inl (cy 1, 6, .inl (fl 6 (-1) (fun _ => 0)))), (q_700_30, .inl (cy 1, 6, .inl (fun _ => 0))), (h_2, .inr (12, [.int 0, .int 0, .ref q_700_1, .int 0, .int 0, .int 0, .int 0, .long 0, .int 0, .int 0, .ref q_700_2, .ref q_700_3, .ref q_700_4, .ref q_700_5, .ref q_700_6, .ref q_700_7, .ref q_700_8, .ref q_700_9, .ref q_700_10, .ref q_700_11, .ref q_700_12, .ref q_700_13, .ref q_700_14, .ref q_700_15, .ref q_700_16, .ref q_700_17, .int 0, .int 0, .ref q_700_18, .ref q_700_19, .ref q_700_20, .ref q_700_21, .ref q_700_22, .ref q_700_23, .ref q_700_24, .ref q_700_25, .ref q_700_26, .ref q_700_27, .ref q_700_28, .ref q_700_29, .int 0, .long 0, .ref q_700_30, .ref q_700_31, .ref q_700_32, .ref q_700_33, .ref q_700_34, .ref q_700_35, .ref q_700_36, .ref q_700_37, .ref q_700_38, .ref q_700_39, .ref q_700_40, .ref q_700_41, .int 0, .int 0, .int 0, .int 0, .ref q_700_42, .ref q_700_43, .ref q_700_44, .ref q_700_45, .int 0, .ref q_700_46, .ref q_700_47, .int 0, .long 0])), (q_700_2, .inl (cy 1, 10, .inl (upd (fun _ => 0) 4 2))), (q_700_36, .inl (cy 1, 21, .inl (upd (upd (upd (upd (upd (upd (fun _ => 0) 9 (-1)) 10 (-1)) 11 (-1)) 12 (-1)) 13 (-1)) 14 (-1))))] := hD
    refine lv_aload_n hx hb dL_law_1077 rfl (lv_at hl 2 rfl) ?_
    refine lv_aload_n hx hb dL_law_1078 rfl (lv_at hl 4 rfl) ?_
    refine lv_iload hx hb dL_law_1079 (lv_at hl 0 rfl) ?_
    refine lv_iconst (v := 1) hx hb dL_law_1081 (by decide) ?_
    refine m_iadd (v := 1) hx hb dL_law_1082 (by decide) ?_
    refine va_sld hx hb hX hbl hbA hS (vin (by decide)) dL_law_1083 ?_
    refine m_as (v := xs 1) rfl ?_
    refine x_i (wr := [(q_1, .inr (9, [.ref q1_2, .int 0, .int 0, .int 0, .int 0, .int 32, .long 0, .int 0, .int 0])), (q_4, .inr (0, [.ref q_1_5, .ref q_2_6, .ref q_3_7, .ref q_4_8, .ref q_5_9, .ref q_6_10, .ref q_7_11, .ref q_8_12, .ref q_9_13, .ref q_10_14, .ref q_11_15, .ref q_12_16, .ref q_13_17, .int 0, .int 0, .int 0, .int 2, .ref q_18_18, .ref q_19_19, .ref q_20_20])), (q_46, .inr (10, [.ref q1_47, .ref q2_48, .ref q3_49, .int 0])), (q_54, .inr (8, [.int 0, .int 0, .int 0, .ref q1_55, .ref q2_56, .ref q3_57])), (q_64, .inr (2, [.ref q_1_65, .int 0, .int 0, .int 0, .ref q_2_66])), (q_1_65, .inl (cy 1, 6, .inl (fl 6 (-1) (fun _ => 0)))), (q_700_30, .inl (cy 1, 6, .inl (fun _ => 0))), (q_700_2, .inl (cy 1, 10, .inl (upd (fun _ => 0) 4 2))), (q_700_36, .inl (cy 1, 21, .inl (upd (upd (upd (upd (upd (upd (fun _ => 0) 9 (-1)) 10 (-1)) 11 (-1)) 12 (-1)) 13 (-1)) 14 (-1))))]) hP hD hS hA [7] [0, 1, 2, 3, 4, 5, 6, 8, 9] rfl rfl (by decide) (by decide) (va_runV (As := [.int (xs 1)]) (rest := [.int (-1)]) ⟨hx, hb, hml, hown, hts⟩ (c_X12_count_15 l D cy h_2 q_700_1 q_700_2 q_700_3 q_700_4 q_700_5 q_700_6 q_700_7 q_700_8 q_700_9 q_700_10 q_700_11 q_700_12 q_700_13 q_700_14 q_700_15 q_700_16 q_700_17 q_700_18 q_700_19 q_700_20 q_700_21 q_700_22 q_700_23 q_700_24 q_700_25 q_700_26 q_700_27 q_700_28 q_700_29 q_700_30 q_700_31 q_700_32 q_700_33 q_700_34 q_700_35 q_700_36 q_700_37 q_700_38 q_700_39 q_700_40 q_700_41 q_700_42 q_700_43 q_700_44 q_700_45 q_700_46 q_700_47 (xs 1) H.size g_1) (cwV 1 hts (gV0 km_L_126 ki_X12_count kz_X12_count kn_X12 kc_X12_count) rfl rfl rfl (by decide +kernel) ⟨(Nat.le_of_ble_eq_true rfl), (Nat.le_of_ble_eq_true rfl)⟩) (preV hG hP hD [7] rfl (by decide) 12 7 rfl rfl) rfl rfl hl.1 rfl (lv_room (Nat.le_of_ble_eq_true rfl)) dL_law_1084 ⟨(Nat.le_of_ble_eq_true rfl), (Nat.le_of_ble_eq_true rfl)⟩) (fun r_31 H locs hB hj hS => ?_)
    obtain ⟨hres, hP1, hD1⟩ := hB
    subst hres
    obtain ⟨hP, hD⟩ := hj _ hP1 hD1
    have hP : va_P D vwCl [(q_1, .inr (9, [.ref q1_2, .int 0, .int 0, .int 0, .int 0, .int 32, .long 0, .int 0, .int 0])), (q_4, .inr (0, [.ref q_1_5, .ref q_2_6, .ref q_3_7, .ref q_4_8, .ref q_5_9, .ref q_6_10, .ref q_7_11, .ref q_8_12, .ref q_9_13, .ref q_10_14, .ref q_11_15, .ref q_12_16, .ref q_13_17, .int 0, .int 0, .int 0, .int 2, .ref q_18_18, .ref q_19_19, .ref q_20_20])), (q_46, .inr (10, [.ref q1_47, .ref q2_48, .ref q3_49, .int 0])), (q_54, .inr (8, [.int 0, .int 0, .int 0, .ref q1_55, .ref q2_56, .ref q3_57])), (q_64, .inr (2, [.ref q_1_65, .int 0, .int 0, .int 0, .ref q_2_66])), (q_1_65, .inl (cy 1, 6, .inl (fl 6 (-1) (fun _ => 0)))), (q_700_30, .inl (cy 1, 6, .inl (fun _ => 0))), (q_700_2, .inl (cy 1, 10, .inl (upd (fun _ => 0) 4 2))), (q_700_36, .inl (cy 1, 21, .inl (upd (upd (upd (upd (upd (upd (fun _ => 0) 9 (-1)) 10 (-1)) 11 (-1)) 12 (-1)) 13 (-1)) 14 (-1))))] H := hP
    have hD : va_D A [(q_1, .inr (9, [.ref q1_2, .int 0, .int 0, .int 0, .int 0, .int 32, .long 0, .int 0, .int 0])), (q_4, .inr (0, [.ref q_1_5, .ref q_2_6, .ref q_3_7, .ref q_4_8, .ref q_5_9, .ref q_6_10, .ref q_7_11, .ref q_8_12, .ref q_9_13, .ref q_10_14, .ref q_11_15, .ref q_12_16, .ref q_13_17, .int 0, .int 0, .int 0, .int 2, .ref q_18_18, .ref q_19_19, .ref q_20_20])), (q_46, .inr (10, [.ref q1_47, .ref q2_48, .ref q3_49, .int 0])), (q_54, .inr (8, [.int 0, .int 0, .int 0, .ref q1_55, .ref q2_56, .ref q3_57])), (q_64, .inr (2, [.ref q_1_65, .int 0, .int 0, .int 0, .ref q_2_66])), (q_1_65, .inl (cy 1, 6, .inl (fl 6 (-1) (fun _ => 0)))), (q_700_30, .inl (cy 1, 6, .inl (fun _ => 0))), (q_700_2, .inl (cy 1, 10, .inl (upd (fun _ => 0) 4 2))), (q_700_36, .inl (cy 1, 21, .inl (upd (upd (upd (upd (upd (upd (fun _ => 0) 9 (-1)) 10 (-1)) 11 (-1)) 12 (-1)) 13 (-1)) 14 (-1))))] := hD
    refine lv_icmp_eq (tgt := 1092) hx hb dL_law_1087 (by decide) (fun _ => ?_) (fun c_ => absurd rfl c_)
    refine lv_iinc (v := 7) (lv' := [(4, .int 7), (3, .ref q_800), (2, .ref h_2), (1, .ref h_1), (0, .ref b)]) hx hb dL_law_1092 hl (k := 0) rfl (by decide) (by decide) rfl (fun ls hl => ?_)
    refine lv_goto (tgt := 23) hx hb dL_law_1095 (by decide) ?_
    refine lv_iload hx hb dL_law_23 (lv_at hl 0 rfl) ?_
    refine lv_aload_n hx hb dL_law_25 rfl (lv_at hl 4 rfl) ?_
    refine va_slen hx hb hX hbl hbA hS dL_law_26 ?_
    refine m_as (v := 7) rfl ?_
    refine lv_bipush (v := 7) hx hb dL_law_27 (by decide) ?_
    refine m_isub (v := 0) hx hb dL_law_29 (by decide) ?_
    refine lv_icmp_gt (tgt := 1098) hx hb dL_law_30 (by decide) (fun _ => ?_) (fun c_ => absurd (by decide) c_)
    refine lv_iconst (v := 1) hx hb dL_law_1098 (by decide) ?_
    exact lw_end hx hb hr hlocks hAd hS (Nat.le_of_ble_eq_true rfl) (Nat.le_of_ble_eq_true rfl) dL_law_1099
