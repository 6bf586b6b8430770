set_option maxHeartbeats 4000000 in
set_option maxRecDepth 100000 in
theorem c_X7_eaterOf_1 (l : Launch) (D : va_G) (cy : Nat → ClassId) (a0 : Int32) (sz : Nat) : Met l yX7_eaterOf (Cond.code yX7_eaterOf cX7_eaterOf 1 (some .int) :: bigG) ({ frames := 0, cells := 0, slots := 0, locals := 0 }) (pre D cy [.int a0] sz []) (qi (fun r h => r = (a0 / 10) ∧ va_P D vwCl [] h ∧ va_D (va_A [] sz) []) (va_A [] sz)) 0 0 (va_A [] sz) := by
  refine Met.ofW (cc := cX7_eaterOf) (maxL := 1) (ret := (some .int)) (by decide) rfl ?_
  intro p e s m args below meth c s₁ B hml hv
  obtain ⟨rfl, hsz, hP, hG, hD0⟩ := hv
  have hx := B.exec
  have hb := B.bytes
  have hr := B.returns
  have hts := atoms_spec (ws := (Cond.code yX7_eaterOf cX7_eaterOf 1 (some .int) :: bigG)) B.pre
  have hg : ∀ w ∈ bigG, w.before ([.int a0] : List Value).toArray s = true := fun w h => hts w (List.mem_cons_of_mem _ h)
  have hown : s.vm.findClass RX7 = some m.cls := findClass_of_methodNamed B.named
  have hlocks := B.notSynchronized
  subst hsz
  have hD := hD0.self (sz := s.heap.size)
  generalize hAe : va_A [] s.heap.size = A at hD ⊢
  have hA : ∀ q : Nat, s.heap.size ≤ q → A q := fun q h => by rw [← hAe]; exact Or.inr h
  have hS : va_S A s.heap s.heap [] := va_S.rf
  have hP : va_P D vwCl [] s.heap := hP
  have hl := lv_entry ([.int a0]) (n := 1) (Nat.le_of_ble_eq_true rfl)
  rw [lg_entry_eq]
  generalize (lg_sl ([.int a0]) ++ List.replicate (1 - (lg_sl ([.int a0])).length) Slot.unset).toArray = ls at hl ⊢
  have hl : lv_has ls 1 [(0, .int a0)] := hl
  refine w_nm (fun Q hQ => ?_)
  refine lv_iload_n hx hb dX7_eaterOf_0 rfl (lv_at hl 0 rfl) ?_
  refine lv_bipush (v := 10) hx hb dX7_eaterOf_1 (by decide) ?_
  refine m_idiv (v := (a0 / 10)) hx hb dX7_eaterOf_3 (by decide) rfl ?_
  have hP9 := hP.sub (ws' := []) [] rfl
  have hD9 := hD.sub (ws' := []) [] (by decide) rfl
  subst hQ
  exact W.iret (v := (a0 / 10)) hx hb hr (fun t ht hW => qi_mk (by rw [ht]; exact ⟨rfl, hP9, hD9⟩) (hS.F ht)) hS.2.2 dX7_eaterOf_4
set_option maxHeartbeats 4000000 in
set_option maxRecDepth 100000 in
theorem c_X7_dishOf_1 (l : Launch) (D : va_G) (cy : Nat → ClassId) (a0 : Int32) (sz : Nat) : Met l yX7_dishOf (Cond.code yX7_dishOf cX7_dishOf 1 (some .int) :: bigG) ({ frames := 0, cells := 0, slots := 0, locals := 0 }) (pre D cy [.int a0] sz []) (qi (fun r h => r = ((a0 - a0 / 10 * 10) / 2) ∧ va_P D vwCl [] h ∧ va_D (va_A [] sz) []) (va_A [] sz)) 0 0 (va_A [] sz) := by
  refine Met.ofW (cc := cX7_dishOf) (maxL := 1) (ret := (some .int)) (by decide) rfl ?_
  intro p e s m args below meth c s₁ B hml hv
  obtain ⟨rfl, hsz, hP, hG, hD0⟩ := hv
  have hx := B.exec
  have hb := B.bytes
  have hr := B.returns
  have hts := atoms_spec (ws := (Cond.code yX7_dishOf cX7_dishOf 1 (some .int) :: bigG)) B.pre
  have hg : ∀ w ∈ bigG, w.before ([.int a0] : List Value).toArray s = true := fun w h => hts w (List.mem_cons_of_mem _ h)
  have hown : s.vm.findClass RX7 = some m.cls := findClass_of_methodNamed B.named
  have hlocks := B.notSynchronized
  subst hsz
  have hD := hD0.self (sz := s.heap.size)
  generalize hAe : va_A [] s.heap.size = A at hD ⊢
  have hA : ∀ q : Nat, s.heap.size ≤ q → A q := fun q h => by rw [← hAe]; exact Or.inr h
  have hS : va_S A s.heap s.heap [] := va_S.rf
  have hP : va_P D vwCl [] s.heap := hP
  have hl := lv_entry ([.int a0]) (n := 1) (Nat.le_of_ble_eq_true rfl)
  rw [lg_entry_eq]
  generalize (lg_sl ([.int a0]) ++ List.replicate (1 - (lg_sl ([.int a0])).length) Slot.unset).toArray = ls at hl ⊢
  have hl : lv_has ls 1 [(0, .int a0)] := hl
  refine w_nm (fun Q hQ => ?_)
  refine lv_iload_n hx hb dX7_dishOf_0 rfl (lv_at hl 0 rfl) ?_
  refine lv_bipush (v := 10) hx hb dX7_dishOf_1 (by decide) ?_
  refine m_irem (v := (a0 - a0 / 10 * 10)) hx hb dX7_dishOf_3 (by decide) rfl ?_
  refine lv_iconst (v := 2) hx hb dX7_dishOf_4 (by decide) ?_
  refine m_idiv (v := ((a0 - a0 / 10 * 10) / 2)) hx hb dX7_dishOf_5 (by decide) rfl ?_
  have hP9 := hP.sub (ws' := []) [] rfl
  have hD9 := hD.sub (ws' := []) [] (by decide) rfl
  subst hQ
  exact W.iret (v := ((a0 - a0 / 10 * 10) / 2)) hx hb hr (fun t ht hW => qi_mk (by rw [ht]; exact ⟨rfl, hP9, hD9⟩) (hS.F ht)) hS.2.2 dX7_dishOf_6
set_option maxHeartbeats 4000000 in
set_option maxRecDepth 100000 in
theorem c_X7_costOf (l : Launch) (D : va_G) (cy : Nat → ClassId) (h0 : Nat) (q_4 : Nat) (q_1_5 : Nat) (q_2_6 : Nat) (q_3_7 : Nat) (q_4_8 : Nat) (q_5_9 : Nat) (q_6_10 : Nat) (q_7_11 : Nat) (q_8_12 : Nat) (q_9_13 : Nat) (q_10_14 : Nat) (q_11_15 : Nat) (q_12_16 : Nat) (q_13_17 : Nat) (q_18_18 : Nat) (q_19_19 : Nat) (q_20_20 : Nat) (dy : Int32) (ch : Nat) (sz : Nat) (hc : ch < 60) : Met l yX7_costOf (Cond.code yX7_costOf cX7_costOf 6 (some .int) :: bigG) ({ frames := 1, cells := 0, slots := 0, locals := 20 }) (pre D cy [.ref h0, .ref q_4, .int dy, .int (nI ch)] sz [(q_4, .inr (0, [.ref q_1_5, .ref q_2_6, .ref q_3_7, .ref q_4_8, .ref q_5_9, .ref q_6_10, .ref q_7_11, .ref q_8_12, .ref q_9_13, .ref q_10_14, .ref q_11_15, .ref q_12_16, .ref q_13_17, .int 0, .int 0, .int 0, .int 2, .ref q_18_18, .ref q_19_19, .ref q_20_20]))]) (qi (fun r h => r = (-1) ∧ va_P D vwCl [(q_4, .inr (0, [.ref q_1_5, .ref q_2_6, .ref q_3_7, .ref q_4_8, .ref q_5_9, .ref q_6_10, .ref q_7_11, .ref q_8_12, .ref q_9_13, .ref q_10_14, .ref q_11_15, .ref q_12_16, .ref q_13_17, .int 0, .int 0, .int 0, .int 2, .ref q_18_18, .ref q_19_19, .ref q_20_20]))] h ∧ va_D (va_A [(q_4, .inr (0, [.ref q_1_5, .ref q_2_6, .ref q_3_7, .ref q_4_8, .ref q_5_9, .ref q_6_10, .ref q_7_11, .ref q_8_12, .ref q_9_13, .ref q_10_14, .ref q_11_15, .ref q_12_16, .ref q_13_17, .int 0, .int 0, .int 0, .int 2, .ref q_18_18, .ref q_19_19, .ref q_20_20]))] sz) [(q_4, .inr (0, [.ref q_1_5, .ref q_2_6, .ref q_3_7, .ref q_4_8, .ref q_5_9, .ref q_6_10, .ref q_7_11, .ref q_8_12, .ref q_9_13, .ref q_10_14, .ref q_11_15, .ref q_12_16, .ref q_13_17, .int 0, .int 0, .int 0, .int 2, .ref q_18_18, .ref q_19_19, .ref q_20_20]))]) (va_A [(q_4, .inr (0, [.ref q_1_5, .ref q_2_6, .ref q_3_7, .ref q_4_8, .ref q_5_9, .ref q_6_10, .ref q_7_11, .ref q_8_12, .ref q_9_13, .ref q_10_14, .ref q_11_15, .ref q_12_16, .ref q_13_17, .int 0, .int 0, .int 0, .int 2, .ref q_18_18, .ref q_19_19, .ref q_20_20]))] sz)) 0 0 (va_A [(q_4, .inr (0, [.ref q_1_5, .ref q_2_6, .ref q_3_7, .ref q_4_8, .ref q_5_9, .ref q_6_10, .ref q_7_11, .ref q_8_12, .ref q_9_13, .ref q_10_14, .ref q_11_15, .ref q_12_16, .ref q_13_17, .int 0, .int 0, .int 0, .int 2, .ref q_18_18, .ref q_19_19, .ref q_20_20]))] sz) := by
  refine Met.ofW (cc := cX7_costOf) (maxL := 6) (ret := (some .int)) (by decide) rfl ?_
  intro p e s m args below meth c s₁ B hml hv
  obtain ⟨rfl, hsz, hP, hG, hD0⟩ := hv
  have hx := B.exec
  have hb := B.bytes
  have hr := B.returns
  have hts := atoms_spec (ws := (Cond.code yX7_costOf cX7_costOf 6 (some .int) :: bigG)) B.pre
  have hg : ∀ w ∈ bigG, w.before ([.ref h0, .ref q_4, .int dy, .int (nI ch)] : List Value).toArray s = true := fun w h => hts w (List.mem_cons_of_mem _ h)
  have hown : s.vm.findClass RX7 = some m.cls := findClass_of_methodNamed B.named
  have hlocks := B.notSynchronized
  subst hsz
  have hD := hD0.self (sz := s.heap.size)
  generalize hAe : va_A [(q_4, .inr (0, [.ref q_1_5, .ref q_2_6, .ref q_3_7, .ref q_4_8, .ref q_5_9, .ref q_6_10, .ref q_7_11, .ref q_8_12, .ref q_9_13, .ref q_10_14, .ref q_11_15, .ref q_12_16, .ref q_13_17, .int 0, .int 0, .int 0, .int 2, .ref q_18_18, .ref q_19_19, .ref q_20_20]))] s.heap.size = A at hD ⊢
  have hA : ∀ q : Nat, s.heap.size ≤ q → A q := fun q h => by rw [← hAe]; exact Or.inr h
  have hS : va_S A s.heap s.heap [] := va_S.rf
  have hP : va_P D vwCl [(q_4, .inr (0, [.ref q_1_5, .ref q_2_6, .ref q_3_7, .ref q_4_8, .ref q_5_9, .ref q_6_10, .ref q_7_11, .ref q_8_12, .ref q_9_13, .ref q_10_14, .ref q_11_15, .ref q_12_16, .ref q_13_17, .int 0, .int 0, .int 0, .int 2, .ref q_18_18, .ref q_19_19, .ref q_20_20]))] s.heap := hP
  have hl := lv_entry ([.ref h0, .ref q_4, .int dy, .int (nI ch)]) (n := 6) (Nat.le_of_ble_eq_true rfl)
  rw [lg_entry_eq]
  generalize (lg_sl ([.ref h0, .ref q_4, .int dy, .int (nI ch)]) ++ List.replicate (6 - (lg_sl ([.ref h0, .ref q_4, .int dy, .int (nI ch)])).length) Slot.unset).toArray = ls at hl ⊢
  have hl : lv_has ls 6 [(0, .ref h0), (1, .ref q_4), (2, .int dy), (3, .int (nI ch))] := hl
  refine w_nm (fun Q hQ => ?_)
  refine lv_iload_n hx hb dX7_costOf_0 rfl (lv_at hl 3 rfl) ?_
  refine lv_bipush (v := 60) hx hb dX7_costOf_1 (by decide) ?_
  refine lv_icmp_ne (tgt := 8) hx hb dX7_costOf_3 (by decide) (fun _ => ?_) (fun c_ => absurd c_ (fun h => absurd ((nI_eq (b := 60) (by omega) (by decide)).mp h) (by omega)))
  refine lv_iload_n hx hb dX7_costOf_8 rfl (lv_at hl 3 rfl) ?_
  refine x_i (wr := [(q_4, .inr (0, [.ref q_1_5, .ref q_2_6, .ref q_3_7, .ref q_4_8, .ref q_5_9, .ref q_6_10, .ref q_7_11, .ref q_8_12, .ref q_9_13, .ref q_10_14, .ref q_11_15, .ref q_12_16, .ref q_13_17, .int 0, .int 0, .int 0, .int 2, .ref q_18_18, .ref q_19_19, .ref q_20_20]))]) hP hD hS hA [] [0] rfl rfl (by decide) (by decide) (va_runS (As := [.int (nI ch)]) (rest := []) ⟨hx, hb, hml, hown, hts⟩ (c_X7_eaterOf_1 l D cy (nI ch) s.heap.size) (va_cwS 1 hts (gS km_X7_60 kt_X7_eaterOf kn_X7 kc_X7_eaterOf) rfl rfl rfl (by decide +kernel) ⟨(Nat.le_of_ble_eq_true rfl), (Nat.le_of_ble_eq_true rfl)⟩) (preS hG hP hD [] rfl (by decide)) rfl rfl hl.1 rfl (lv_room (Nat.le_of_ble_eq_true rfl)) dX7_costOf_9 ⟨(Nat.le_of_ble_eq_true rfl), (Nat.le_of_ble_eq_true rfl)⟩) (fun r_1 H locs hB hj hS => ?_)
  obtain ⟨hres, hP1, hD1⟩ := hB
  subst hres
  obtain ⟨hP, hD⟩ := hj _ hP1 hD1
  have hP : va_P D vwCl [(q_4, .inr (0, [.ref q_1_5, .ref q_2_6, .ref q_3_7, .ref q_4_8, .ref q_5_9, .ref q_6_10, .ref q_7_11, .ref q_8_12, .ref q_9_13, .ref q_10_14, .ref q_11_15, .ref q_12_16, .ref q_13_17, .int 0, .int 0, .int 0, .int 2, .ref q_18_18, .ref q_19_19, .ref q_20_20]))] H := hP
  have hD : va_D A [(q_4, .inr (0, [.ref q_1_5, .ref q_2_6, .ref q_3_7, .ref q_4_8, .ref q_5_9, .ref q_6_10, .ref q_7_11, .ref q_8_12, .ref q_9_13, .ref q_10_14, .ref q_11_15, .ref q_12_16, .ref q_13_17, .int 0, .int 0, .int 0, .int 2, .ref q_18_18, .ref q_19_19, .ref q_20_20]))] := hD
  refine lv_topi (fun x4_2 ex4_2 => ?_)
  refine lv_istore (lv' := [(4, .int x4_2), (0, .ref h0), (1, .ref q_4), (2, .int dy), (3, .int (nI ch))]) hx hb dX7_costOf_12 hl (by decide) rfl (fun ls hl => ?_)
  refine lv_iload_n hx hb dX7_costOf_14 rfl (lv_at hl 4 rfl) ?_
  refine x_i (wr := [(q_4, .inr (0, [.ref q_1_5, .ref q_2_6, .ref q_3_7, .ref q_4_8, .ref q_5_9, .ref q_6_10, .ref q_7_11, .ref q_8_12, .ref q_9_13, .ref q_10_14, .ref q_11_15, .ref q_12_16, .ref q_13_17, .int 0, .int 0, .int 0, .int 2, .ref q_18_18, .ref q_19_19, .ref q_20_20]))]) hP hD hS hA [] [0] rfl rfl (by decide) (by decide) (va_runS (As := [.int (nI ch)]) (rest := []) ⟨hx, hb, hml, hown, hts⟩ (c_X7_dishOf_1 l D cy (nI ch) H.size) (va_cwS 1 hts (gS km_X7_64 kt_X7_dishOf kn_X7 kc_X7_dishOf) rfl rfl rfl (by decide +kernel) ⟨(Nat.le_of_ble_eq_true rfl), (Nat.le_of_ble_eq_true rfl)⟩) (preS hG hP hD [] rfl (by decide)) rfl rfl hl.1 rfl (lv_room (Nat.le_of_ble_eq_true rfl)) dX7_costOf_15 ⟨(Nat.le_of_ble_eq_true rfl), (Nat.le_of_ble_eq_true rfl)⟩) (fun r_3 H locs hB hj hS => ?_)
  obtain ⟨hres, hP1, hD1⟩ := hB
  subst hres
  obtain ⟨hP, hD⟩ := hj _ hP1 hD1
  have hP : va_P D vwCl [(q_4, .inr (0, [.ref q_1_5, .ref q_2_6, .ref q_3_7, .ref q_4_8, .ref q_5_9, .ref q_6_10, .ref q_7_11, .ref q_8_12, .ref q_9_13, .ref q_10_14, .ref q_11_15, .ref q_12_16, .ref q_13_17, .int 0, .int 0, .int 0, .int 2, .ref q_18_18, .ref q_19_19, .ref q_20_20]))] H := hP
  have hD : va_D A [(q_4, .inr (0, [.ref q_1_5, .ref q_2_6, .ref q_3_7, .ref q_4_8, .ref q_5_9, .ref q_6_10, .ref q_7_11, .ref q_8_12, .ref q_9_13, .ref q_10_14, .ref q_11_15, .ref q_12_16, .ref q_13_17, .int 0, .int 0, .int 0, .int 2, .ref q_18_18, .ref q_19_19, .ref q_20_20]))] := hD
  refine lv_topi (fun x5_4 ex5_4 => ?_)
  refine lv_istore (lv' := [(5, .int x5_4), (4, .int x4_2), (0, .ref h0), (1, .ref q_4), (2, .int dy), (3, .int (nI ch))]) hx hb dX7_costOf_18 hl (by decide) rfl (fun ls hl => ?_)
  refine lv_iload hx hb dX7_costOf_20 (lv_at hl 1 rfl) ?_
  refine lv_aload_n hx hb dX7_costOf_22 rfl (lv_at hl 3 rfl) ?_
  refine va_get (D := D) (ci := 0) (v := .int 0) (C := RX0) (T := TX0) (N := 20) hx hb hts (inC ibX0) hown hG.1 hP 0 rfl rfl 13 (by decide) (hg _ k_176) (fun _ h9 => h9) rfl dX7_costOf_23 ?_
  refine lv_icmp_ge (tgt := 47) hx hb dX7_costOf_26 (by decide) (fun _ => ?_) (fun c_ => absurd (by rw [ex4_2, show (10 : Int32) = nI 10 from rfl, pk_div (by omega) (by decide) (by decide)]; exact nI_pos' (by omega)) c_)
  refine lv_iconst (v := (-1)) hx hb dX7_costOf_47 (by decide) ?_
  have hP9 := hP.sub (ws' := [(q_4, .inr (0, [.ref q_1_5, .ref q_2_6, .ref q_3_7, .ref q_4_8, .ref q_5_9, .ref q_6_10, .ref q_7_11, .ref q_8_12, .ref q_9_13, .ref q_10_14, .ref q_11_15, .ref q_12_16, .ref q_13_17, .int 0, .int 0, .int 0, .int 2, .ref q_18_18, .ref q_19_19, .ref q_20_20]))]) [0] rfl
  have hD9 := hD.sub (ws' := [(q_4, .inr (0, [.ref q_1_5, .ref q_2_6, .ref q_3_7, .ref q_4_8, .ref q_5_9, .ref q_6_10, .ref q_7_11, .ref q_8_12, .ref q_9_13, .ref q_10_14, .ref q_11_15, .ref q_12_16, .ref q_13_17, .int 0, .int 0, .int 0, .int 2, .ref q_18_18, .ref q_19_19, .ref q_20_20]))]) [0] (by decide) rfl
  subst hQ
  exact W.iret (v := (-1)) hx hb hr (fun t ht hW => qi_mk (by rw [ht]; exact ⟨rfl, hP9, hD9⟩) (hS.F ht)) hS.2.2 dX7_costOf_48
set_option maxHeartbeats 4000000 in
set_option maxRecDepth 100000 in
theorem c_X12_draws (l : Launch) (D : va_G) (cy : Nat → ClassId) (h0 : Nat) (q_1 : Nat) (q_2 : Nat) (q_3 : Nat) (q_4 : Nat) (q_5 : Nat) (q_6 : Nat) (q_7 : Nat) (q_8 : Nat) (q_9 : Nat) (q_10 : Nat) (q_11 : Nat) (q_12 : Nat) (q_13 : Nat) (q_14 : Nat) (q_15 : Nat) (q_16 : Nat) (q_17 : Nat) (q_18 : Nat) (q_19 : Nat) (q_20 : Nat) (q_21 : Nat) (q_22 : Nat) (q_23 : Nat) (q_24 : Nat) (q_25 : Nat) (q_26 : Nat) (q_27 : Nat) (q_28 : Nat) (q_29 : Nat) (q_30 : Nat) (q_31 : Nat) (q_32 : Nat) (q_33 : Nat) (q_34 : Nat) (q_35 : Nat) (q_36 : Nat) (q_37 : Nat) (q_38 : Nat) (q_39 : Nat) (q_40 : Nat) (q_41 : Nat) (q_42 : Nat) (q_43 : Nat) (q_44 : Nat) (q_45 : Nat) (q_46 : Nat) (q_47 : Nat) (g0 : Int64) (a1 : Int32) (sz : Nat) (hm : ¬ a1.toInt64 = 0) : Met l yX12_draws (Cond.code yX12_draws cX12_draws 2 (some .int) :: bigG) ({ frames := 0, cells := 0, slots := 0, locals := 0 }) (pre D cy [.ref h0, .int a1] sz [(h0, .inr (12, [.int 0, .int 0, .ref q_1, .int 0, .int 0, .int 0, .int 0, .long 0, .int 0, .int 0, .ref q_2, .ref q_3, .ref q_4, .ref q_5, .ref q_6, .ref q_7, .ref q_8, .ref q_9, .ref q_10, .ref q_11, .ref q_12, .ref q_13, .ref q_14, .ref q_15, .ref q_16, .ref q_17, .int 0, .int 0, .ref q_18, .ref q_19, .ref q_20, .ref q_21, .ref q_22, .ref q_23, .ref q_24, .ref q_25, .ref q_26, .ref q_27, .ref q_28, .ref q_29, .int 0, .long 0, .ref q_30, .ref q_31, .ref q_32, .ref q_33, .ref q_34, .ref q_35, .ref q_36, .ref q_37, .ref q_38, .ref q_39, .ref q_40, .ref q_41, .int 0, .int 0, .int 0, .int 0, .ref q_42, .ref q_43, .ref q_44, .ref q_45, .int 0, .ref q_46, .ref q_47, .int 0, .long g0]))]) (qi (fun r h => ∃ (g1 : Int64), va_P D vwCl [(h0, .inr (12, [.int 0, .int 0, .ref q_1, .int 0, .int 0, .int 0, .int 0, .long 0, .int 0, .int 0, .ref q_2, .ref q_3, .ref q_4, .ref q_5, .ref q_6, .ref q_7, .ref q_8, .ref q_9, .ref q_10, .ref q_11, .ref q_12, .ref q_13, .ref q_14, .ref q_15, .ref q_16, .ref q_17, .int 0, .int 0, .ref q_18, .ref q_19, .ref q_20, .ref q_21, .ref q_22, .ref q_23, .ref q_24, .ref q_25, .ref q_26, .ref q_27, .ref q_28, .ref q_29, .int 0, .long 0, .ref q_30, .ref q_31, .ref q_32, .ref q_33, .ref q_34, .ref q_35, .ref q_36, .ref q_37, .ref q_38, .ref q_39, .ref q_40, .ref q_41, .int 0, .int 0, .int 0, .int 0, .ref q_42, .ref q_43, .ref q_44, .ref q_45, .int 0, .ref q_46, .ref q_47, .int 0, .long g1]))] h ∧ va_D (va_A [(h0, .inr (12, [.int 0, .int 0, .ref q_1, .int 0, .int 0, .int 0, .int 0, .long 0, .int 0, .int 0, .ref q_2, .ref q_3, .ref q_4, .ref q_5, .ref q_6, .ref q_7, .ref q_8, .ref q_9, .ref q_10, .ref q_11, .ref q_12, .ref q_13, .ref q_14, .ref q_15, .ref q_16, .ref q_17, .int 0, .int 0, .ref q_18, .ref q_19, .ref q_20, .ref q_21, .ref q_22, .ref q_23, .ref q_24, .ref q_25, .ref q_26, .ref q_27, .ref q_28, .ref q_29, .int 0, .long 0, .ref q_30, .ref q_31, .ref q_32, .ref q_33, .ref q_34, .ref q_35, .ref q_36, .ref q_37, .ref q_38, .ref q_39, .ref q_40, .ref q_41, .int 0, .int 0, .int 0, .int 0, .ref q_42, .ref q_43, .ref q_44, .ref q_45, .int 0, .ref q_46, .ref q_47, .int 0, .long g0]))] sz) [(h0, .inr (12, [.int 0, .int 0, .ref q_1, .int 0, .int 0, .int 0, .int 0, .long 0, .int 0, .int 0, .ref q_2, .ref q_3, .ref q_4, .ref q_5, .ref q_6, .ref q_7, .ref q_8, .ref q_9, .ref q_10, .ref q_11, .ref q_12, .ref q_13, .ref q_14, .ref q_15, .ref q_16, .ref q_17, .int 0, .int 0, .ref q_18, .ref q_19, .ref q_20, .ref q_21, .ref q_22, .ref q_23, .ref q_24, .ref q_25, .ref q_26, .ref q_27, .ref q_28, .ref q_29, .int 0, .long 0, .ref q_30, .ref q_31, .ref q_32, .ref q_33, .ref q_34, .ref q_35, .ref q_36, .ref q_37, .ref q_38, .ref q_39, .ref q_40, .ref q_41, .int 0, .int 0, .int 0, .int 0, .ref q_42, .ref q_43, .ref q_44, .ref q_45, .int 0, .ref q_46, .ref q_47, .int 0, .long g1]))]) (va_A [(h0, .inr (12, [.int 0, .int 0, .ref q_1, .int 0, .int 0, .int 0, .int 0, .long 0, .int 0, .int 0, .ref q_2, .ref q_3, .ref q_4, .ref q_5, .ref q_6, .ref q_7, .ref q_8, .ref q_9, .ref q_10, .ref q_11, .ref q_12, .ref q_13, .ref q_14, .ref q_15, .ref q_16, .ref q_17, .int 0, .int 0, .ref q_18, .ref q_19, .ref q_20, .ref q_21, .ref q_22, .ref q_23, .ref q_24, .ref q_25, .ref q_26, .ref q_27, .ref q_28, .ref q_29, .int 0, .long 0, .ref q_30, .ref q_31, .ref q_32, .ref q_33, .ref q_34, .ref q_35, .ref q_36, .ref q_37, .ref q_38, .ref q_39, .ref q_40, .ref q_41, .int 0, .int 0, .int 0, .int 0, .ref q_42, .ref q_43, .ref q_44, .ref q_45, .int 0, .ref q_46, .ref q_47, .int 0, .long g0]))] sz)) 0 0 (va_A [(h0, .inr (12, [.int 0, .int 0, .ref q_1, .int 0, .int 0, .int 0, .int 0, .long 0, .int 0, .int 0, .ref q_2, .ref q_3, .ref q_4, .ref q_5, .ref q_6, .ref q_7, .ref q_8, .ref q_9, .ref q_10, .ref q_11, .ref q_12, .ref q_13, .ref q_14, .ref q_15, .ref q_16, .ref q_17, .int 0, .int 0, .ref q_18, .ref q_19, .ref q_20, .ref q_21, .ref q_22, .ref q_23, .ref q_24, .ref q_25, .ref q_26, .ref q_27, .ref q_28, .ref q_29, .int 0, .long 0, .ref q_30, .ref q_31, .ref q_32, .ref q_33, .ref q_34, .ref q_35, .ref q_36, .ref q_37, .ref q_38, .ref q_39, .ref q_40, .ref q_41, .int 0, .int 0, .int 0, .int 0, .ref q_42, .ref q_43, .ref q_44, .ref q_45, .int 0, .ref q_46, .ref q_47, .int 0, .long g0]))] sz) := by
  refine Met.ofW (cc := cX12_draws) (maxL := 2) (ret := (some .int)) (by decide) rfl ?_
  intro p e s m args below meth c s₁ B hml hv
  obtain ⟨rfl, hsz, hP, hG, hD0⟩ := hv
  have hx := B.exec
  have hb := B.bytes
  have hr := B.returns
  have hts := atoms_spec (ws := (Cond.code yX12_draws cX12_draws 2 (some .int) :: bigG)) B.pre
  have hg : ∀ w ∈ bigG, w.before ([.ref h0, .int a1] : List Value).toArray s = true := fun w h => hts w (List.mem_cons_of_mem _ h)
  have hown : s.vm.findClass RX12 = some m.cls := findClass_of_methodNamed B.named
  have hlocks := B.notSynchronized
  subst hsz
  have hD := hD0.self (sz := s.heap.size)
  generalize hAe : va_A [(h0, .inr (12, [.int 0, .int 0, .ref q_1, .int 0, .int 0, .int 0, .int 0, .long 0, .int 0, .int 0, .ref q_2, .ref q_3, .ref q_4, .ref q_5, .ref q_6, .ref q_7, .ref q_8, .ref q_9, .ref q_10, .ref q_11, .ref q_12, .ref q_13, .ref q_14, .ref q_15, .ref q_16, .ref q_17, .int 0, .int 0, .ref q_18, .ref q_19, .ref q_20, .ref q_21, .ref q_22, .ref q_23, .ref q_24, .ref q_25, .ref q_26, .ref q_27, .ref q_28, .ref q_29, .int 0, .long 0, .ref q_30, .ref q_31, .ref q_32, .ref q_33, .ref q_34, .ref q_35, .ref q_36, .ref q_37, .ref q_38, .ref q_39, .ref q_40, .ref q_41, .int 0, .int 0, .int 0, .int 0, .ref q_42, .ref q_43, .ref q_44, .ref q_45, .int 0, .ref q_46, .ref q_47, .int 0, .long g0]))] s.heap.size = A at hD ⊢
  have hA : ∀ q : Nat, s.heap.size ≤ q → A q := fun q h => by rw [← hAe]; exact Or.inr h
  have hS : va_S A s.heap s.heap [] := va_S.rf
  have hP : va_P D vwCl [(h0, .inr (12, [.int 0, .int 0, .ref q_1, .int 0, .int 0, .int 0, .int 0, .long 0, .int 0, .int 0, .ref q_2, .ref q_3, .ref q_4, .ref q_5, .ref q_6, .ref q_7, .ref q_8, .ref q_9, .ref q_10, .ref q_11, .ref q_12, .ref q_13, .ref q_14, .ref q_15, .ref q_16, .ref q_17, .int 0, .int 0, .ref q_18, .ref q_19, .ref q_20, .ref q_21, .ref q_22, .ref q_23, .ref q_24, .ref q_25, .ref q_26, .ref q_27, .ref q_28, .ref q_29, .int 0, .long 0, .ref q_30, .ref q_31, .ref q_32, .ref q_33, .ref q_34, .ref q_35, .ref q_36, .ref q_37, .ref q_38, .ref q_39, .ref q_40, .ref q_41, .int 0, .int 0, .int 0, .int 0, .ref q_42, .ref q_43, .ref q_44, .ref q_45, .int 0, .ref q_46, .ref q_47, .int 0, .long g0]))] s.heap := hP
  have hl := lv_entry ([.ref h0, .int a1]) (n := 2) (Nat.le_of_ble_eq_true rfl)
  rw [lg_entry_eq]
  generalize (lg_sl ([.ref h0, .int a1]) ++ List.replicate (2 - (lg_sl ([.ref h0, .int a1])).length) Slot.unset).toArray = ls at hl ⊢
  have hl : lv_has ls 2 [(0, .ref h0), (1, .int a1)] := hl
  refine w_nm (fun Q hQ => ?_)
  refine lv_aload_n hx hb dX12_draws_0 rfl (lv_at hl 0 rfl) ?_
  refine lv_aload_n hx hb dX12_draws_1 rfl (lv_at hl 0 rfl) ?_
  refine va_get (D := D) (ci := 12) (v := .long g0) (C := RX12) (T := TX12) (N := 67) hx hb hts (inC ibX12) hown hG.1 hP 0 rfl rfl 66 (by decide) (hg _ k_1381) (fun _ h9 => h9) rfl dX12_draws_2 ?_
  refine lv_ldc2 (v := 1103515245) hx hb hown (hg _ k_1921) dX12_draws_5 ?_
  refine m_lmul (v := (g0 * 1103515245)) hx hb dX12_draws_8 rfl ?_
  refine lv_ldc2 (v := 12345) hx hb hown (hg _ k_1922) dX12_draws_9 ?_
  refine m_ladd (v := ((g0 * 1103515245) + 12345)) hx hb dX12_draws_12 rfl ?_
  refine lv_ldc2 (v := 2147483648) hx hb hown (hg _ k_1923) dX12_draws_13 ?_
  refine m_lrem (v := (((g0 * 1103515245) + 12345) - ((g0 * 1103515245) + 12345) / 2147483648 * 2147483648)) hx hb dX12_draws_16 (by decide) rfl ?_
  refine lv_topl (fun f_1 ef_1 => ?_)
  refine va_put (D := D) (ci := 12) (v := .long f_1) (ty := .long) (C := RX12) (T := TX12) (N := 67) hx hb hts (inC ibX12) tyX12 tyX12_ok nmX12 hown hG.1 hP hD hS 0 rfl rfl 66 (by decide) (hg _ k_1381) (fun _ h9 => h9) rfl (by decide +kernel) rfl rfl (Nat.le_of_ble_eq_true rfl) dX12_draws_17 (fun H locs hP hD hS => ?_)
  have hP : va_P D vwCl [(h0, .inr (12, [.int 0, .int 0, .ref q_1, .int 0, .int 0, .int 0, .int 0, .long 0, .int 0, .int 0, .ref q_2, .ref q_3, .ref q_4, .ref q_5, .ref q_6, .ref q_7, .ref q_8, .ref q_9, .ref q_10, .ref q_11, .ref q_12, .ref q_13, .ref q_14, .ref q_15, .ref q_16, .ref q_17, .int 0, .int 0, .ref q_18, .ref q_19, .ref q_20, .ref q_21, .ref q_22, .ref q_23, .ref q_24, .ref q_25, .ref q_26, .ref q_27, .ref q_28, .ref q_29, .int 0, .long 0, .ref q_30, .ref q_31, .ref q_32, .ref q_33, .ref q_34, .ref q_35, .ref q_36, .ref q_37, .ref q_38, .ref q_39, .ref q_40, .ref q_41, .int 0, .int 0, .int 0, .int 0, .ref q_42, .ref q_43, .ref q_44, .ref q_45, .int 0, .ref q_46, .ref q_47, .int 0, .long f_1]))] H := hP
  have hD : va_D A [(h0, .inr (12, [.int 0, .int 0, .ref q_1, .int 0, .int 0, .int 0, .int 0, .long 0, .int 0, .int 0, .ref q_2, .ref q_3, .ref q_4, .ref q_5, .ref q_6, .ref q_7, .ref q_8, .ref q_9, .ref q_10, .ref q_11, .ref q_12, .ref q_13, .ref q_14, .ref q_15, .ref q_16, .ref q_17, .int 0, .int 0, .ref q_18, .ref q_19, .ref q_20, .ref q_21, .ref q_22, .ref q_23, .ref q_24, .ref q_25, .ref q_26, .ref q_27, .ref q_28, .ref q_29, .int 0, .long 0, .ref q_30, .ref q_31, .ref q_32, .ref q_33, .ref q_34, .ref q_35, .ref q_36, .ref q_37, .ref q_38, .ref q_39, .ref q_40, .ref q_41, .int 0, .int 0, .int 0, .int 0, .ref q_42, .ref q_43, .ref q_44, .ref q_45, .int 0, .ref q_46, .ref q_47, .int 0, .long f_1]))] := hD
  refine lv_aload_n hx hb dX12_draws_20 rfl (lv_at hl 0 rfl) ?_
  refine va_get (D := D) (ci := 12) (v := .long f_1) (C := RX12) (T := TX12) (N := 67) hx hb hts (inC ibX12) hown hG.1 hP 0 rfl rfl 66 (by decide) (hg _ k_1381) (fun _ h9 => h9) rfl dX12_draws_21 ?_
  refine lv_ldc2 (v := 65536) hx hb hown (hg _ k_1924) dX12_draws_24 ?_
  refine m_ldiv (v := (f_1 / 65536)) hx hb dX12_draws_27 (by decide) rfl ?_
  refine lv_iload_n hx hb dX12_draws_28 rfl (lv_at hl 1 rfl) ?_
  refine lv_i2l (v := a1.toInt64) hx hb dX12_draws_29 rfl ?_
  refine m_lrem (v := ((f_1 / 65536) - (f_1 / 65536) / a1.toInt64 * a1.toInt64)) hx hb dX12_draws_30 hm rfl ?_
  refine lv_l2i (v := ((f_1 / 65536) - (f_1 / 65536) / a1.toInt64 * a1.toInt64).toInt32) hx hb dX12_draws_31 rfl ?_
  have hP9 := hP.sub (ws' := [(h0, .inr (12, [.int 0, .int 0, .ref q_1, .int 0, .int 0, .int 0, .int 0, .long 0, .int 0, .int 0, .ref q_2, .ref q_3, .ref q_4, .ref q_5, .ref q_6, .ref q_7, .ref q_8, .ref q_9, .ref q_10, .ref q_11, .ref q_12, .ref q_13, .ref q_14, .ref q_15, .ref q_16, .ref q_17, .int 0, .int 0, .ref q_18, .ref q_19, .ref q_20, .ref q_21, .ref q_22, .ref q_23, .ref q_24, .ref q_25, .ref q_26, .ref q_27, .ref q_28, .ref q_29, .int 0, .long 0, .ref q_30, .ref q_31, .ref q_32, .ref q_33, .ref q_34, .ref q_35, .ref q_36, .ref q_37, .ref q_38, .ref q_39, .ref q_40, .ref q_41, .int 0, .int 0, .int 0, .int 0, .ref q_42, .ref q_43, .ref q_44, .ref q_45, .int 0, .ref q_46, .ref q_47, .int 0, .long f_1]))]) [0] rfl
  have hD9 := hD.sub (ws' := [(h0, .inr (12, [.int 0, .int 0, .ref q_1, .int 0, .int 0, .int 0, .int 0, .long 0, .int 0, .int 0, .ref q_2, .ref q_3, .ref q_4, .ref q_5, .ref q_6, .ref q_7, .ref q_8, .ref q_9, .ref q_10, .ref q_11, .ref q_12, .ref q_13, .ref q_14, .ref q_15, .ref q_16, .ref q_17, .int 0, .int 0, .ref q_18, .ref q_19, .ref q_20, .ref q_21, .ref q_22, .ref q_23, .ref q_24, .ref q_25, .ref q_26, .ref q_27, .ref q_28, .ref q_29, .int 0, .long 0, .ref q_30, .ref q_31, .ref q_32, .ref q_33, .ref q_34, .ref q_35, .ref q_36, .ref q_37, .ref q_38, .ref q_39, .ref q_40, .ref q_41, .int 0, .int 0, .int 0, .int 0, .ref q_42, .ref q_43, .ref q_44, .ref q_45, .int 0, .ref q_46, .ref q_47, .int 0, .long f_1]))]) [0] (by decide) rfl
  subst hQ
  exact W.iret (v := ((f_1 / 65536) - (f_1 / 65536) / a1.toInt64 * a1.toInt64).toInt32) hx hb hr (fun t ht hW => qi_mk (by rw [ht]; exact ⟨f_1, hP9, hD9⟩) (hS.F ht)) hS.2.2 dX12_draws_32
set_option maxHeartbeats 4000000 in
set_option maxRecDepth 100000 in
theorem c_X12_ends_1 (l : Launch) (D : va_G) (cy : Nat → ClassId) (h0 : Nat) (q_1 : Nat) (q_2 : Nat) (q_3 : Nat) (q_4 : Nat) (q_5 : Nat) (q_6 : Nat) (q_7 : Nat) (q_8 : Nat) (q_9 : Nat) (q_10 : Nat) (q_11 : Nat) (q_12 : Nat) (q_13 : Nat) (q_14 : Nat) (q_15 : Nat) (q_16 : Nat) (q_17 : Nat) (q_18 : Nat) (q_19 : Nat) (q_20 : Nat) (q_21 : Nat) (q_22 : Nat) (q_23 : Nat) (q_24 : Nat) (q_25 : Nat) (q_26 : Nat) (q_27 : Nat) (q_28 : Nat) (q_29 : Nat) (q_30 : Nat) (q_31 : Nat) (q_32 : Nat) (q_33 : Nat) (q_34 : Nat) (q_35 : Nat) (q_36 : Nat) (q_37 : Nat) (q_38 : Nat) (q_39 : Nat) (q_40 : Nat) (q_41 : Nat) (q_42 : Nat) (q_43 : Nat) (q_44 : Nat) (q_45 : Nat) (q_46 : Nat) (q_47 : Nat) (g1_2 : Int64) (dy : Int32) (sz : Nat) : Met l yX12_ends (Cond.code yX12_ends cX12_ends 3 none :: bigG) ({ frames := 0, cells := 0, slots := 0, locals := 0 }) (pre D cy [.ref h0] sz [(h0, .inr (12, [.int 0, .int 0, .ref q_1, .int 0, .int 0, .int 0, .int 0, .long 0, .int 0, .int 0, .ref q_2, .ref q_3, .ref q_4, .ref q_5, .ref q_6, .ref q_7, .ref q_8, .ref q_9, .ref q_10, .ref q_11, .ref q_12, .ref q_13, .ref q_14, .ref q_15, .ref q_16, .ref q_17, .int 0, .int 0, .ref q_18, .ref q_19, .ref q_20, .ref q_21, .ref q_22, .ref q_23, .ref q_24, .ref q_25, .ref q_26, .ref q_27, .ref q_28, .ref q_29, .int 0, .long 0, .ref q_30, .ref q_31, .ref q_32, .ref q_33, .ref q_34, .ref q_35, .ref q_36, .ref q_37, .ref q_38, .ref q_39, .ref q_40, .ref q_41, .int 0, .int 0, .int 0, .int 0, .ref q_42, .ref q_43, .ref q_44, .ref q_45, .int 0, .ref q_46, .ref q_47, .int 0, .long g1_2])), (q_2, .inl (cy 1, 10, .inl (upd (fun _ => 0) 4 2))), (q_36, .inl (cy 1, 21, .inl (upd (upd (upd (upd (upd (upd (upd (fun _ => 0) 9 (-1)) 10 (-1)) 11 (-1)) 12 (-1)) 13 (-1)) 14 (-1)) 0 dy)))]) (qv (fun h => va_P D vwCl [(h0, .inr (12, [.int 0, .int 0, .ref q_1, .int 0, .int 0, .int 0, .int 0, .long 0, .int 0, .int 0, .ref q_2, .ref q_3, .ref q_4, .ref q_5, .ref q_6, .ref q_7, .ref q_8, .ref q_9, .ref q_10, .ref q_11, .ref q_12, .ref q_13, .ref q_14, .ref q_15, .ref q_16, .ref q_17, .int 0, .int 0, .ref q_18, .ref q_19, .ref q_20, .ref q_21, .ref q_22, .ref q_23, .ref q_24, .ref q_25, .ref q_26, .ref q_27, .ref q_28, .ref q_29, .int 0, .long 0, .ref q_30, .ref q_31, .ref q_32, .ref q_33, .ref q_34, .ref q_35, .ref q_36, .ref q_37, .ref q_38, .ref q_39, .ref q_40, .ref q_41, .int 0, .int 0, .int 0, .int 0, .ref q_42, .ref q_43, .ref q_44, .ref q_45, .int 0, .ref q_46, .ref q_47, .int 0, .long g1_2])), (q_2, .inl (cy 1, 10, .inl (upd (fun _ => 0) 4 2))), (q_36, .inl (cy 1, 21, .inl (upd (upd (upd (upd (upd (upd (upd (upd (fun _ => 0) 9 (-1)) 10 (-1)) 11 (-1)) 12 (-1)) 13 (-1)) 14 (-1)) 0 dy) 0 (dy + 1))))] h ∧ va_D (va_A [(h0, .inr (12, [.int 0, .int 0, .ref q_1, .int 0, .int 0, .int 0, .int 0, .long 0, .int 0, .int 0, .ref q_2, .ref q_3, .ref q_4, .ref q_5, .ref q_6, .ref q_7, .ref q_8, .ref q_9, .ref q_10, .ref q_11, .ref q_12, .ref q_13, .ref q_14, .ref q_15, .ref q_16, .ref q_17, .int 0, .int 0, .ref q_18, .ref q_19, .ref q_20, .ref q_21, .ref q_22, .ref q_23, .ref q_24, .ref q_25, .ref q_26, .ref q_27, .ref q_28, .ref q_29, .int 0, .long 0, .ref q_30, .ref q_31, .ref q_32, .ref q_33, .ref q_34, .ref q_35, .ref q_36, .ref q_37, .ref q_38, .ref q_39, .ref q_40, .ref q_41, .int 0, .int 0, .int 0, .int 0, .ref q_42, .ref q_43, .ref q_44, .ref q_45, .int 0, .ref q_46, .ref q_47, .int 0, .long g1_2])), (q_2, .inl (cy 1, 10, .inl (upd (fun _ => 0) 4 2))), (q_36, .inl (cy 1, 21, .inl (upd (upd (upd (upd (upd (upd (upd (fun _ => 0) 9 (-1)) 10 (-1)) 11 (-1)) 12 (-1)) 13 (-1)) 14 (-1)) 0 dy)))] sz) [(h0, .inr (12, [.int 0, .int 0, .ref q_1, .int 0, .int 0, .int 0, .int 0, .long 0, .int 0, .int 0, .ref q_2, .ref q_3, .ref q_4, .ref q_5, .ref q_6, .ref q_7, .ref q_8, .ref q_9, .ref q_10, .ref q_11, .ref q_12, .ref q_13, .ref q_14, .ref q_15, .ref q_16, .ref q_17, .int 0, .int 0, .ref q_18, .ref q_19, .ref q_20, .ref q_21, .ref q_22, .ref q_23, .ref q_24, .ref q_25, .ref q_26, .ref q_27, .ref q_28, .ref q_29, .int 0, .long 0, .ref q_30, .ref q_31, .ref q_32, .ref q_33, .ref q_34, .ref q_35, .ref q_36, .ref q_37, .ref q_38, .ref q_39, .ref q_40, .ref q_41, .int 0, .int 0, .int 0, .int 0, .ref q_42, .ref q_43, .ref q_44, .ref q_45, .int 0, .ref q_46, .ref q_47, .int 0, .long g1_2])), (q_2, .inl (cy 1, 10, .inl (upd (fun _ => 0) 4 2))), (q_36, .inl (cy 1, 21, .inl (upd (upd (upd (upd (upd (upd (upd (upd (fun _ => 0) 9 (-1)) 10 (-1)) 11 (-1)) 12 (-1)) 13 (-1)) 14 (-1)) 0 dy) 0 (dy + 1))))]) (va_A [(h0, .inr (12, [.int 0, .int 0, .ref q_1, .int 0, .int 0, .int 0, .int 0, .long 0, .int 0, .int 0, .ref q_2, .ref q_3, .ref q_4, .ref q_5, .ref q_6, .ref q_7, .ref q_8, .ref q_9, .ref q_10, .ref q_11, .ref q_12, .ref q_13, .ref q_14, .ref q_15, .ref q_16, .ref q_17, .int 0, .int 0, .ref q_18, .ref q_19, .ref q_20, .ref q_21, .ref q_22, .ref q_23, .ref q_24, .ref q_25, .ref q_26, .ref q_27, .ref q_28, .ref q_29, .int 0, .long 0, .ref q_30, .ref q_31, .ref q_32, .ref q_33, .ref q_34, .ref q_35, .ref q_36, .ref q_37, .ref q_38, .ref q_39, .ref q_40, .ref q_41, .int 0, .int 0, .int 0, .int 0, .ref q_42, .ref q_43, .ref q_44, .ref q_45, .int 0, .ref q_46, .ref q_47, .int 0, .long g1_2])), (q_2, .inl (cy 1, 10, .inl (upd (fun _ => 0) 4 2))), (q_36, .inl (cy 1, 21, .inl (upd (upd (upd (upd (upd (upd (upd (fun _ => 0) 9 (-1)) 10 (-1)) 11 (-1)) 12 (-1)) 13 (-1)) 14 (-1)) 0 dy)))] sz)) 0 0 (va_A [(h0, .inr (12, [.int 0, .int 0, .ref q_1, .int 0, .int 0, .int 0, .int 0, .long 0, .int 0, .int 0, .ref q_2, .ref q_3, .ref q_4, .ref q_5, .ref q_6, .ref q_7, .ref q_8, .ref q_9, .ref q_10, .ref q_11, .ref q_12, .ref q_13, .ref q_14, .ref q_15, .ref q_16, .ref q_17, .int 0, .int 0, .ref q_18, .ref q_19, .ref q_20, .ref q_21, .ref q_22, .ref q_23, .ref q_24, .ref q_25, .ref q_26, .ref q_27, .ref q_28, .ref q_29, .int 0, .long 0, .ref q_30, .ref q_31, .ref q_32, .ref q_33, .ref q_34, .ref q_35, .ref q_36, .ref q_37, .ref q_38, .ref q_39, .ref q_40, .ref q_41, .int 0, .int 0, .int 0, .int 0, .ref q_42, .ref q_43, .ref q_44, .ref q_45, .int 0, .ref q_46, .ref q_47, .int 0, .long g1_2])), (q_2, .inl (cy 1, 10, .inl (upd (fun _ => 0) 4 2))), (q_36, .inl (cy 1, 21, .inl (upd (upd (upd (upd (upd (upd (upd (fun _ => 0) 9 (-1)) 10 (-1)) 11 (-1)) 12 (-1)) 13 (-1)) 14 (-1)) 0 dy)))] sz) := by
  refine Met.ofW (cc := cX12_ends) (maxL := 3) (ret := none) (by decide) rfl ?_
  intro p e s m args below meth c s₁ B hml hv
  obtain ⟨rfl, hsz, hP, hG, hD0⟩ := hv
  have hx := B.exec
  have hb := B.bytes
  have hr := B.returns
  have hts := atoms_spec (ws := (Cond.code yX12_ends cX12_ends 3 none :: bigG)) B.pre
  have hg : ∀ w ∈ bigG, w.before ([.ref h0] : List Value).toArray s = true := fun w h => hts w (List.mem_cons_of_mem _ h)
  have hown : s.vm.findClass RX12 = some m.cls := findClass_of_methodNamed B.named
  have hlocks := B.notSynchronized
  subst hsz
  have hD := hD0.self (sz := s.heap.size)
  generalize hAe : va_A [(h0, .inr (12, [.int 0, .int 0, .ref q_1, .int 0, .int 0, .int 0, .int 0, .long 0, .int 0, .int 0, .ref q_2, .ref q_3, .ref q_4, .ref q_5, .ref q_6, .ref q_7, .ref q_8, .ref q_9, .ref q_10, .ref q_11, .ref q_12, .ref q_13, .ref q_14, .ref q_15, .ref q_16, .ref q_17, .int 0, .int 0, .ref q_18, .ref q_19, .ref q_20, .ref q_21, .ref q_22, .ref q_23, .ref q_24, .ref q_25, .ref q_26, .ref q_27, .ref q_28, .ref q_29, .int 0, .long 0, .ref q_30, .ref q_31, .ref q_32, .ref q_33, .ref q_34, .ref q_35, .ref q_36, .ref q_37, .ref q_38, .ref q_39, .ref q_40, .ref q_41, .int 0, .int 0, .int 0, .int 0, .ref q_42, .ref q_43, .ref q_44, .ref q_45, .int 0, .ref q_46, .ref q_47, .int 0, .long g1_2])), (q_2, .inl (cy 1, 10, .inl (upd (fun _ => 0) 4 2))), (q_36, .inl (cy 1, 21, .inl (upd (upd (upd (upd (upd (upd (upd (fun _ => 0) 9 (-1)) 10 (-1)) 11 (-1)) 12 (-1)) 13 (-1)) 14 (-1)) 0 dy)))] s.heap.size = A at hD ⊢
  have hA : ∀ q : Nat, s.heap.size ≤ q → A q := fun q h => by rw [← hAe]; exact Or.inr h
  have hS : va_S A s.heap s.heap [] := va_S.rf
  have hP : va_P D vwCl [(h0, .inr (12, [.int 0, .int 0, .ref q_1, .int 0, .int 0, .int 0, .int 0, .long 0, .int 0, .int 0, .ref q_2, .ref q_3, .ref q_4, .ref q_5, .ref q_6, .ref q_7, .ref q_8, .ref q_9, .ref q_10, .ref q_11, .ref q_12, .ref q_13, .ref q_14, .ref q_15, .ref q_16, .ref q_17, .int 0, .int 0, .ref q_18, .ref q_19, .ref q_20, .ref q_21, .ref q_22, .ref q_23, .ref q_24, .ref q_25, .ref q_26, .ref q_27, .ref q_28, .ref q_29, .int 0, .long 0, .ref q_30, .ref q_31, .ref q_32, .ref q_33, .ref q_34, .ref q_35, .ref q_36, .ref q_37, .ref q_38, .ref q_39, .ref q_40, .ref q_41, .int 0, .int 0, .int 0, .int 0, .ref q_42, .ref q_43, .ref q_44, .ref q_45, .int 0, .ref q_46, .ref q_47, .int 0, .long g1_2])), (q_2, .inl (cy 1, 10, .inl (upd (fun _ => 0) 4 2))), (q_36, .inl (cy 1, 21, .inl (upd (upd (upd (upd (upd (upd (upd (fun _ => 0) 9 (-1)) 10 (-1)) 11 (-1)) 12 (-1)) 13 (-1)) 14 (-1)) 0 dy)))] s.heap := hP
  have hl := lv_entry ([.ref h0]) (n := 3) (Nat.le_of_ble_eq_true rfl)
  rw [lg_entry_eq]
  generalize (lg_sl ([.ref h0]) ++ List.replicate (3 - (lg_sl ([.ref h0])).length) Slot.unset).toArray = ls at hl ⊢
  have hl : lv_has ls 3 [(0, .ref h0)] := hl
  refine w_nm (fun Q hQ => ?_)
  refine lv_aload_n hx hb dX12_ends_0 rfl (lv_at hl 0 rfl) ?_
  refine lv_iconst (v := 0) hx hb dX12_ends_1 (by decide) ?_
  refine va_put (D := D) (ci := 12) (v := .int 0) (ty := .boolean) (C := RX12) (T := TX12) (N := 67) hx hb hts (inC ibX12) tyX12 tyX12_ok nmX12 hown hG.1 hP hD hS 0 rfl rfl 55 (by decide) (hg _ k_1370) (fun _ h9 => h9) rfl (by decide +kernel) rfl rfl (Nat.le_of_ble_eq_true rfl) dX12_ends_2 (fun H locs hP hD hS => ?_)
  have hP : va_P D vwCl [(h0, .inr (12, [.int 0, .int 0, .ref q_1, .int 0, .int 0, .int 0, .int 0, .long 0, .int 0, .int 0, .ref q_2, .ref q_3, .ref q_4, .ref q_5, .ref q_6, .ref q_7, .ref q_8, .ref q_9, .ref q_10, .ref q_11, .ref q_12, .ref q_13, .ref q_14, .ref q_15, .ref q_16, .ref q_17, .int 0, .int 0, .ref q_18, .ref q_19, .ref q_20, .ref q_21, .ref q_22, .ref q_23, .ref q_24, .ref q_25, .ref q_26, .ref q_27, .ref q_28, .ref q_29, .int 0, .long 0, .ref q_30, .ref q_31, .ref q_32, .ref q_33, .ref q_34, .ref q_35, .ref q_36, .ref q_37, .ref q_38, .ref q_39, .ref q_40, .ref q_41, .int 0, .int 0, .int 0, .int 0, .ref q_42, .ref q_43, .ref q_44, .ref q_45, .int 0, .ref q_46, .ref q_47, .int 0, .long g1_2])), (q_2, .inl (cy 1, 10, .inl (upd (fun _ => 0) 4 2))), (q_36, .inl (cy 1, 21, .inl (upd (upd (upd (upd (upd (upd (upd (fun _ => 0) 9 (-1)) 10 (-1)) 11 (-1)) 12 (-1)) 13 (-1)) 14 (-1)) 0 dy)))] H := hP
  have hD : va_D A [(h0, .inr (12, [.int 0, .int 0, .ref q_1, .int 0, .int 0, .int 0, .int 0, .long 0, .int 0, .int 0, .ref q_2, .ref q_3, .ref q_4, .ref q_5, .ref q_6, .ref q_7, .ref q_8, .ref q_9, .ref q_10, .ref q_11, .ref q_12, .ref q_13, .ref q_14, .ref q_15, .ref q_16, .ref q_17, .int 0, .int 0, .ref q_18, .ref q_19, .ref q_20, .ref q_21, .ref q_22, .ref q_23, .ref q_24, .ref q_25, .ref q_26, .ref q_27, .ref q_28, .ref q_29, .int 0, .long 0, .ref q_30, .ref q_31, .ref q_32, .ref q_33, .ref q_34, .ref q_35, .ref q_36, .ref q_37, .ref q_38, .ref q_39, .ref q_40, .ref q_41, .int 0, .int 0, .int 0, .int 0, .ref q_42, .ref q_43, .ref q_44, .ref q_45, .int 0, .ref q_46, .ref q_47, .int 0, .long g1_2])), (q_2, .inl (cy 1, 10, .inl (upd (fun _ => 0) 4 2))), (q_36, .inl (cy 1, 21, .inl (upd (upd (upd (upd (upd (upd (upd (fun _ => 0) 9 (-1)) 10 (-1)) 11 (-1)) 12 (-1)) 13 (-1)) 14 (-1)) 0 dy)))] := hD
  refine lv_iconst (v := 0) hx hb dX12_ends_5 (by decide) ?_
  refine lv_istore_n (lv' := [(1, .int 0), (0, .ref h0)]) hx hb dX12_ends_6 rfl hl (by decide) rfl (fun ls hl => ?_)
  refine lv_iload_n hx hb dX12_ends_7 rfl (lv_at hl 0 rfl) ?_
  refine lv_aload_n hx hb dX12_ends_8 rfl (lv_at hl 1 rfl) ?_
  refine va_get (D := D) (ci := 12) (v := .ref q_2) (C := RX12) (T := TX12) (N := 67) hx hb hts (inC ibX12) hown hG.1 hP 0 rfl rfl 10 (by decide) (hg _ k_1325) (fun _ h9 => h9) rfl dX12_ends_9 ?_
  refine lv_iconst (v := 0) hx hb dX12_ends_12 (by decide) ?_
  refine m_iald (v := 0) hx hb hG hP 1 rfl (vin (by decide)) dX12_ends_13 rfl ?_
  refine lv_icmp_ge (tgt := 118) hx hb dX12_ends_14 (by decide) (fun _ => ?_) (fun c_ => absurd (by decide) c_)
  refine lv_aload_n hx hb dX12_ends_118 rfl (lv_at hl 1 rfl) ?_
  refine va_get (D := D) (ci := 12) (v := .ref q_36) (C := RX12) (T := TX12) (N := 67) hx hb hts (inC ibX12) hown hG.1 hP 0 rfl rfl 48 (by decide) (hg _ k_1363) (fun _ h9 => h9) rfl dX12_ends_119 ?_
  refine lv_iconst (v := 0) hx hb dX12_ends_122 (by decide) ?_
  refine lv_dup2_11 hx hb dX12_ends_123 rfl rfl ?_
  refine m_iald (v := dy) hx hb hG hP 2 rfl (vin (by decide)) dX12_ends_124 rfl ?_
  refine lv_iconst (v := 1) hx hb dX12_ends_125 (by decide) ?_
  refine m_iadd (v := (dy + 1)) hx hb dX12_ends_126 rfl ?_
  refine m_iast (g := upd (upd (upd (upd (upd (upd (upd (upd (fun _ => 0) 9 (-1)) 10 (-1)) 11 (-1)) 12 (-1)) 13 (-1)) 14 (-1)) 0 dy) 0 (dy + 1)) hx hb hG hP hD hS 2 rfl (vin (by decide)) dX12_ends_127 rfl (fun H locs hP hD hS => ?_)
  have hP : va_P D vwCl [(h0, .inr (12, [.int 0, .int 0, .ref q_1, .int 0, .int 0, .int 0, .int 0, .long 0, .int 0, .int 0, .ref q_2, .ref q_3, .ref q_4, .ref q_5, .ref q_6, .ref q_7, .ref q_8, .ref q_9, .ref q_10, .ref q_11, .ref q_12, .ref q_13, .ref q_14, .ref q_15, .ref q_16, .ref q_17, .int 0, .int 0, .ref q_18, .ref q_19, .ref q_20, .ref q_21, .ref q_22, .ref q_23, .ref q_24, .ref q_25, .ref q_26, .ref q_27, .ref q_28, .ref q_29, .int 0, .long 0, .ref q_30, .ref q_31, .ref q_32, .ref q_33, .ref q_34, .ref q_35, .ref q_36, .ref q_37, .ref q_38, .ref q_39, .ref q_40, .ref q_41, .int 0, .int 0, .int 0, .int 0, .ref q_42, .ref q_43, .ref q_44, .ref q_45, .int 0, .ref q_46, .ref q_47, .int 0, .long g1_2])), (q_2, .inl (cy 1, 10, .inl (upd (fun _ => 0) 4 2))), (q_36, .inl (cy 1, 21, .inl (upd (upd (upd (upd (upd (upd (upd (upd (fun _ => 0) 9 (-1)) 10 (-1)) 11 (-1)) 12 (-1)) 13 (-1)) 14 (-1)) 0 dy) 0 (dy + 1))))] H := hP
  have hD : va_D A [(h0, .inr (12, [.int 0, .int 0, .ref q_1, .int 0, .int 0, .int 0, .int 0, .long 0, .int 0, .int 0, .ref q_2, .ref q_3, .ref q_4, .ref q_5, .ref q_6, .ref q_7, .ref q_8, .ref q_9, .ref q_10, .ref q_11, .ref q_12, .ref q_13, .ref q_14, .ref q_15, .ref q_16, .ref q_17, .int 0, .int 0, .ref q_18, .ref q_19, .ref q_20, .ref q_21, .ref q_22, .ref q_23, .ref q_24, .ref q_25, .ref q_26, .ref q_27, .ref q_28, .ref q_29, .int 0, .long 0, .ref q_30, .ref q_31, .ref q_32, .ref q_33, .ref q_34, .ref q_35, .ref q_36, .ref q_37, .ref q_38, .ref q_39, .ref q_40, .ref q_41, .int 0, .int 0, .int 0, .int 0, .ref q_42, .ref q_43, .ref q_44, .ref q_45, .int 0, .ref q_46, .ref q_47, .int 0, .long g1_2])), (q_2, .inl (cy 1, 10, .inl (upd (fun _ => 0) 4 2))), (q_36, .inl (cy 1, 21, .inl (upd (upd (upd (upd (upd (upd (upd (upd (fun _ => 0) 9 (-1)) 10 (-1)) 11 (-1)) 12 (-1)) 13 (-1)) 14 (-1)) 0 dy) 0 (dy + 1))))] := hD
  have hP9 := hP.sub (ws' := [(h0, .inr (12, [.int 0, .int 0, .ref q_1, .int 0, .int 0, .int 0, .int 0, .long 0, .int 0, .int 0, .ref q_2, .ref q_3, .ref q_4, .ref q_5, .ref q_6, .ref q_7, .ref q_8, .ref q_9, .ref q_10, .ref q_11, .ref q_12, .ref q_13, .ref q_14, .ref q_15, .ref q_16, .ref q_17, .int 0, .int 0, .ref q_18, .ref q_19, .ref q_20, .ref q_21, .ref q_22, .ref q_23, .ref q_24, .ref q_25, .ref q_26, .ref q_27, .ref q_28, .ref q_29, .int 0, .long 0, .ref q_30, .ref q_31, .ref q_32, .ref q_33, .ref q_34, .ref q_35, .ref q_36, .ref q_37, .ref q_38, .ref q_39, .ref q_40, .ref q_41, .int 0, .int 0, .int 0, .int 0, .ref q_42, .ref q_43, .ref q_44, .ref q_45, .int 0, .ref q_46, .ref q_47, .int 0, .long g1_2])), (q_2, .inl (cy 1, 10, .inl (upd (fun _ => 0) 4 2))), (q_36, .inl (cy 1, 21, .inl (upd (upd (upd (upd (upd (upd (upd (upd (fun _ => 0) 9 (-1)) 10 (-1)) 11 (-1)) 12 (-1)) 13 (-1)) 14 (-1)) 0 dy) 0 (dy + 1))))]) [0, 1, 2] rfl
  have hD9 := hD.sub (ws' := [(h0, .inr (12, [.int 0, .int 0, .ref q_1, .int 0, .int 0, .int 0, .int 0, .long 0, .int 0, .int 0, .ref q_2, .ref q_3, .ref q_4, .ref q_5, .ref q_6, .ref q_7, .ref q_8, .ref q_9, .ref q_10, .ref q_11, .ref q_12, .ref q_13, .ref q_14, .ref q_15, .ref q_16, .ref q_17, .int 0, .int 0, .ref q_18, .ref q_19, .ref q_20, .ref q_21, .ref q_22, .ref q_23, .ref q_24, .ref q_25, .ref q_26, .ref q_27, .ref q_28, .ref q_29, .int 0, .long 0, .ref q_30, .ref q_31, .ref q_32, .ref q_33, .ref q_34, .ref q_35, .ref q_36, .ref q_37, .ref q_38, .ref q_39, .ref q_40, .ref q_41, .int 0, .int 0, .int 0, .int 0, .ref q_42, .ref q_43, .ref q_44, .ref q_45, .int 0, .ref q_46, .ref q_47, .int 0, .long g1_2])), (q_2, .inl (cy 1, 10, .inl (upd (fun _ => 0) 4 2))), (q_36, .inl (cy 1, 21, .inl (upd (upd (upd (upd (upd (upd (upd (upd (fun _ => 0) 9 (-1)) 10 (-1)) 11 (-1)) 12 (-1)) 13 (-1)) 14 (-1)) 0 dy) 0 (dy + 1))))]) [0, 1, 2] (by decide) rfl
  subst hQ
  exact W.vret hx hb hr (fun t ht hW => qv_mk (by rw [ht]; exact ⟨hP9, hD9⟩) (hS.F ht)) hS.2.2 dX12_ends_128
set_option maxHeartbeats 4000000 in
set_option maxRecDepth 100000 in
theorem c_X12_livesDay (l : Launch) (D : va_G) (cy : Nat → ClassId) (h0 : Nat) (q_1 : Nat) (q_2 : Nat) (q_3 : Nat) (q_4 : Nat) (q_5 : Nat) (q_6 : Nat) (q_7 : Nat) (q_8 : Nat) (q_9 : Nat) (q_10 : Nat) (q_11 : Nat) (q_12 : Nat) (q_13 : Nat) (q_14 : Nat) (q_15 : Nat) (q_16 : Nat) (q_17 : Nat) (q_18 : Nat) (q_19 : Nat) (q_20 : Nat) (q_21 : Nat) (q_22 : Nat) (q_23 : Nat) (q_24 : Nat) (q_25 : Nat) (q_26 : Nat) (q_27 : Nat) (q_28 : Nat) (q_29 : Nat) (q_30 : Nat) (q_31 : Nat) (q_32 : Nat) (q_33 : Nat) (q_34 : Nat) (q_35 : Nat) (q_36 : Nat) (q_37 : Nat) (q_38 : Nat) (q_39 : Nat) (q_40 : Nat) (q_41 : Nat) (q_42 : Nat) (q_43 : Nat) (q_44 : Nat) (q_45 : Nat) (q_46 : Nat) (q_47 : Nat) (g0 : Int64) (dy : Int32) (sz : Nat) : Met l yX12_livesDay (Cond.code yX12_livesDay cX12_livesDay 5 none :: bigG) ({ frames := 1, cells := 0, slots := 0, locals := 22 }) (pre D cy [.ref h0] sz [(h0, .inr (12, [.int 0, .int 0, .ref q_1, .int 0, .int 0, .int 0, .int 0, .long 0, .int 0, .int 0, .ref q_2, .ref q_3, .ref q_4, .ref q_5, .ref q_6, .ref q_7, .ref q_8, .ref q_9, .ref q_10, .ref q_11, .ref q_12, .ref q_13, .ref q_14, .ref q_15, .ref q_16, .ref q_17, .int 0, .int 0, .ref q_18, .ref q_19, .ref q_20, .ref q_21, .ref q_22, .ref q_23, .ref q_24, .ref q_25, .ref q_26, .ref q_27, .ref q_28, .ref q_29, .int 0, .long 0, .ref q_30, .ref q_31, .ref q_32, .ref q_33, .ref q_34, .ref q_35, .ref q_36, .ref q_37, .ref q_38, .ref q_39, .ref q_40, .ref q_41, .int 0, .int 0, .int 0, .int 0, .ref q_42, .ref q_43, .ref q_44, .ref q_45, .int 0, .ref q_46, .ref q_47, .int 0, .long g0])), (q_2, .inl (cy 1, 10, .inl (upd (fun _ => 0) 4 2))), (q_36, .inl (cy 1, 21, .inl (upd (upd (upd (upd (upd (upd (upd (fun _ => 0) 9 (-1)) 10 (-1)) 11 (-1)) 12 (-1)) 13 (-1)) 14 (-1)) 0 dy)))]) (qv (fun h => ∃ (g1 : Int64), ∃ (dy2 : Int32), va_P D vwCl [(h0, .inr (12, [.int 0, .int 0, .ref q_1, .int 0, .int 0, .int 0, .int 0, .long 0, .int 0, .int 0, .ref q_2, .ref q_3, .ref q_4, .ref q_5, .ref q_6, .ref q_7, .ref q_8, .ref q_9, .ref q_10, .ref q_11, .ref q_12, .ref q_13, .ref q_14, .ref q_15, .ref q_16, .ref q_17, .int 0, .int 0, .ref q_18, .ref q_19, .ref q_20, .ref q_21, .ref q_22, .ref q_23, .ref q_24, .ref q_25, .ref q_26, .ref q_27, .ref q_28, .ref q_29, .int 0, .long 0, .ref q_30, .ref q_31, .ref q_32, .ref q_33, .ref q_34, .ref q_35, .ref q_36, .ref q_37, .ref q_38, .ref q_39, .ref q_40, .ref q_41, .int 0, .int 0, .int 0, .int 0, .ref q_42, .ref q_43, .ref q_44, .ref q_45, .int 0, .ref q_46, .ref q_47, .int 0, .long g1])), (q_2, .inl (cy 1, 10, .inl (upd (fun _ => 0) 4 2))), (q_36, .inl (cy 1, 21, .inl (upd (upd (upd (upd (upd (upd (upd (fun _ => 0) 9 (-1)) 10 (-1)) 11 (-1)) 12 (-1)) 13 (-1)) 14 (-1)) 0 dy2)))] h ∧ va_D (va_A [(h0, .inr (12, [.int 0, .int 0, .ref q_1, .int 0, .int 0, .int 0, .int 0, .long 0, .int 0, .int 0, .ref q_2, .ref q_3, .ref q_4, .ref q_5, .ref q_6, .ref q_7, .ref q_8, .ref q_9, .ref q_10, .ref q_11, .ref q_12, .ref q_13, .ref q_14, .ref q_15, .ref q_16, .ref q_17, .int 0, .int 0, .ref q_18, .ref q_19, .ref q_20, .ref q_21, .ref q_22, .ref q_23, .ref q_24, .ref q_25, .ref q_26, .ref q_27, .ref q_28, .ref q_29, .int 0, .long 0, .ref q_30, .ref q_31, .ref q_32, .ref q_33, .ref q_34, .ref q_35, .ref q_36, .ref q_37, .ref q_38, .ref q_39, .ref q_40, .ref q_41, .int 0, .int 0, .int 0, .int 0, .ref q_42, .ref q_43, .ref q_44, .ref q_45, .int 0, .ref q_46, .ref q_47, .int 0, .long g0])), (q_2, .inl (cy 1, 10, .inl (upd (fun _ => 0) 4 2))), (q_36, .inl (cy 1, 21, .inl (upd (upd (upd (upd (upd (upd (upd (fun _ => 0) 9 (-1)) 10 (-1)) 11 (-1)) 12 (-1)) 13 (-1)) 14 (-1)) 0 dy)))] sz) [(h0, .inr (12, [.int 0, .int 0, .ref q_1, .int 0, .int 0, .int 0, .int 0, .long 0, .int 0, .int 0, .ref q_2, .ref q_3, .ref q_4, .ref q_5, .ref q_6, .ref q_7, .ref q_8, .ref q_9, .ref q_10, .ref q_11, .ref q_12, .ref q_13, .ref q_14, .ref q_15, .ref q_16, .ref q_17, .int 0, .int 0, .ref q_18, .ref q_19, .ref q_20, .ref q_21, .ref q_22, .ref q_23, .ref q_24, .ref q_25, .ref q_26, .ref q_27, .ref q_28, .ref q_29, .int 0, .long 0, .ref q_30, .ref q_31, .ref q_32, .ref q_33, .ref q_34, .ref q_35, .ref q_36, .ref q_37, .ref q_38, .ref q_39, .ref q_40, .ref q_41, .int 0, .int 0, .int 0, .int 0, .ref q_42, .ref q_43, .ref q_44, .ref q_45, .int 0, .ref q_46, .ref q_47, .int 0, .long g1])), (q_2, .inl (cy 1, 10, .inl (upd (fun _ => 0) 4 2))), (q_36, .inl (cy 1, 21, .inl (upd (upd (upd (upd (upd (upd (upd (fun _ => 0) 9 (-1)) 10 (-1)) 11 (-1)) 12 (-1)) 13 (-1)) 14 (-1)) 0 dy2)))]) (va_A [(h0, .inr (12, [.int 0, .int 0, .ref q_1, .int 0, .int 0, .int 0, .int 0, .long 0, .int 0, .int 0, .ref q_2, .ref q_3, .ref q_4, .ref q_5, .ref q_6, .ref q_7, .ref q_8, .ref q_9, .ref q_10, .ref q_11, .ref q_12, .ref q_13, .ref q_14, .ref q_15, .ref q_16, .ref q_17, .int 0, .int 0, .ref q_18, .ref q_19, .ref q_20, .ref q_21, .ref q_22, .ref q_23, .ref q_24, .ref q_25, .ref q_26, .ref q_27, .ref q_28, .ref q_29, .int 0, .long 0, .ref q_30, .ref q_31, .ref q_32, .ref q_33, .ref q_34, .ref q_35, .ref q_36, .ref q_37, .ref q_38, .ref q_39, .ref q_40, .ref q_41, .int 0, .int 0, .int 0, .int 0, .ref q_42, .ref q_43, .ref q_44, .ref q_45, .int 0, .ref q_46, .ref q_47, .int 0, .long g0])), (q_2, .inl (cy 1, 10, .inl (upd (fun _ => 0) 4 2))), (q_36, .inl (cy 1, 21, .inl (upd (upd (upd (upd (upd (upd (upd (fun _ => 0) 9 (-1)) 10 (-1)) 11 (-1)) 12 (-1)) 13 (-1)) 14 (-1)) 0 dy)))] sz)) 0 0 (va_A [(h0, .inr (12, [.int 0, .int 0, .ref q_1, .int 0, .int 0, .int 0, .int 0, .long 0, .int 0, .int 0, .ref q_2, .ref q_3, .ref q_4, .ref q_5, .ref q_6, .ref q_7, .ref q_8, .ref q_9, .ref q_10, .ref q_11, .ref q_12, .ref q_13, .ref q_14, .ref q_15, .ref q_16, .ref q_17, .int 0, .int 0, .ref q_18, .ref q_19, .ref q_20, .ref q_21, .ref q_22, .ref q_23, .ref q_24, .ref q_25, .ref q_26, .ref q_27, .ref q_28, .ref q_29, .int 0, .long 0, .ref q_30, .ref q_31, .ref q_32, .ref q_33, .ref q_34, .ref q_35, .ref q_36, .ref q_37, .ref q_38, .ref q_39, .ref q_40, .ref q_41, .int 0, .int 0, .int 0, .int 0, .ref q_42, .ref q_43, .ref q_44, .ref q_45, .int 0, .ref q_46, .ref q_47, .int 0, .long g0])), (q_2, .inl (cy 1, 10, .inl (upd (fun _ => 0) 4 2))), (q_36, .inl (cy 1, 21, .inl (upd (upd (upd (upd (upd (upd (upd (fun _ => 0) 9 (-1)) 10 (-1)) 11 (-1)) 12 (-1)) 13 (-1)) 14 (-1)) 0 dy)))] sz) := by
  refine Met.ofW (cc := cX12_livesDay) (maxL := 5) (ret := none) (by decide) rfl ?_
  intro p e s m args below meth c s₁ B hml hv
  obtain ⟨rfl, hsz, hP, hG, hD0⟩ := hv
  have hx := B.exec
  have hb := B.bytes
  have hr := B.returns
  have hts := atoms_spec (ws := (Cond.code yX12_livesDay cX12_livesDay 5 none :: bigG)) B.pre
  have hg : ∀ w ∈ bigG, w.before ([.ref h0] : List Value).toArray s = true := fun w h => hts w (List.mem_cons_of_mem _ h)
  have hown : s.vm.findClass RX12 = some m.cls := findClass_of_methodNamed B.named
  have hlocks := B.notSynchronized
  subst hsz
  have hD := hD0.self (sz := s.heap.size)
  generalize hAe : va_A [(h0, .inr (12, [.int 0, .int 0, .ref q_1, .int 0, .int 0, .int 0, .int 0, .long 0, .int 0, .int 0, .ref q_2, .ref q_3, .ref q_4, .ref q_5, .ref q_6, .ref q_7, .ref q_8, .ref q_9, .ref q_10, .ref q_11, .ref q_12, .ref q_13, .ref q_14, .ref q_15, .ref q_16, .ref q_17, .int 0, .int 0, .ref q_18, .ref q_19, .ref q_20, .ref q_21, .ref q_22, .ref q_23, .ref q_24, .ref q_25, .ref q_26, .ref q_27, .ref q_28, .ref q_29, .int 0, .long 0, .ref q_30, .ref q_31, .ref q_32, .ref q_33, .ref q_34, .ref q_35, .ref q_36, .ref q_37, .ref q_38, .ref q_39, .ref q_40, .ref q_41, .int 0, .int 0, .int 0, .int 0, .ref q_42, .ref q_43, .ref q_44, .ref q_45, .int 0, .ref q_46, .ref q_47, .int 0, .long g0])), (q_2, .inl (cy 1, 10, .inl (upd (fun _ => 0) 4 2))), (q_36, .inl (cy 1, 21, .inl (upd (upd (upd (upd (upd (upd (upd (fun _ => 0) 9 (-1)) 10 (-1)) 11 (-1)) 12 (-1)) 13 (-1)) 14 (-1)) 0 dy)))] s.heap.size = A at hD ⊢
  have hA : ∀ q : Nat, s.heap.size ≤ q → A q := fun q h => by rw [← hAe]; exact Or.inr h
  have hS : va_S A s.heap s.heap [] := va_S.rf
  have hP : va_P D vwCl [(h0, .inr (12, [.int 0, .int 0, .ref q_1, .int 0, .int 0, .int 0, .int 0, .long 0, .int 0, .int 0, .ref q_2, .ref q_3, .ref q_4, .ref q_5, .ref q_6, .ref q_7, .ref q_8, .ref q_9, .ref q_10, .ref q_11, .ref q_12, .ref q_13, .ref q_14, .ref q_15, .ref q_16, .ref q_17, .int 0, .int 0, .ref q_18, .ref q_19, .ref q_20, .ref q_21, .ref q_22, .ref q_23, .ref q_24, .ref q_25, .ref q_26, .ref q_27, .ref q_28, .ref q_29, .int 0, .long 0, .ref q_30, .ref q_31, .ref q_32, .ref q_33, .ref q_34, .ref q_35, .ref q_36, .ref q_37, .ref q_38, .ref q_39, .ref q_40, .ref q_41, .int 0, .int 0, .int 0, .int 0, .ref q_42, .ref q_43, .ref q_44, .ref q_45, .int 0, .ref q_46, .ref q_47, .int 0, .long g0])), (q_2, .inl (cy 1, 10, .inl (upd (fun _ => 0) 4 2))), (q_36, .inl (cy 1, 21, .inl (upd (upd (upd (upd (upd (upd (upd (fun _ => 0) 9 (-1)) 10 (-1)) 11 (-1)) 12 (-1)) 13 (-1)) 14 (-1)) 0 dy)))] s.heap := hP
  have hl := lv_entry ([.ref h0]) (n := 5) (Nat.le_of_ble_eq_true rfl)
  rw [lg_entry_eq]
  generalize (lg_sl ([.ref h0]) ++ List.replicate (5 - (lg_sl ([.ref h0])).length) Slot.unset).toArray = ls at hl ⊢
  have hl : lv_has ls 5 [(0, .ref h0)] := hl
  refine w_nm (fun Q hQ => ?_)
  refine lv_aload_n hx hb dX12_livesDay_0 rfl (lv_at hl 0 rfl) ?_
  refine lv_bipush (v := 10) hx hb dX12_livesDay_1 (by decide) ?_
  refine x_i (wr := [(q_2, .inl (cy 1, 10, .inl (upd (fun _ => 0) 4 2))), (q_36, .inl (cy 1, 21, .inl (upd (upd (upd (upd (upd (upd (upd (fun _ => 0) 9 (-1)) 10 (-1)) 11 (-1)) 12 (-1)) 13 (-1)) 14 (-1)) 0 dy)))]) hP hD hS hA [0] [1, 2] rfl rfl (by decide) (by decide) (va_runV (As := [.int 10]) (rest := []) ⟨hx, hb, hml, hown, hts⟩ (c_X12_draws l D cy h0 q_1 q_2 q_3 q_4 q_5 q_6 q_7 q_8 q_9 q_10 q_11 q_12 q_13 q_14 q_15 q_16 q_17 q_18 q_19 q_20 q_21 q_22 q_23 q_24 q_25 q_26 q_27 q_28 q_29 q_30 q_31 q_32 q_33 q_34 q_35 q_36 q_37 q_38 q_39 q_40 q_41 q_42 q_43 q_44 q_45 q_46 q_47 g0 10 s.heap.size (by decide)) (cwV 1 hts (gV km_X12_535 ki_X12_draws kz_X12_draws kn_X12 kc_X12_draws) rfl rfl rfl (by decide +kernel) ⟨(Nat.le_of_ble_eq_true rfl), (Nat.le_of_ble_eq_true rfl)⟩) (preV hG hP hD [0] rfl (by decide) 12 0 rfl rfl) rfl rfl hl.1 rfl (lv_room (Nat.le_of_ble_eq_true rfl)) dX12_livesDay_3 ⟨(Nat.le_of_ble_eq_true rfl), (Nat.le_of_ble_eq_true rfl)⟩) (fun r_1 H locs hB hj hS => ?_)
  obtain ⟨g1_2, hP1, hD1⟩ := hB
  obtain ⟨hP, hD⟩ := hj _ hP1 hD1
  have hP : va_P D vwCl [(q_2, .inl (cy 1, 10, .inl (upd (fun _ => 0) 4 2))), (q_36, .inl (cy 1, 21, .inl (upd (upd (upd (upd (upd (upd (upd (fun _ => 0) 9 (-1)) 10 (-1)) 11 (-1)) 12 (-1)) 13 (-1)) 14 (-1)) 0 dy))), (h0, .inr (12, [.int 0, .int 0, .ref q_1, .int 0, .int 0, .int 0, .int 0, .long 0, .int 0, .int 0, .ref q_2, .ref q_3, .ref q_4, .ref q_5, .ref q_6, .ref q_7, .ref q_8, .ref q_9, .ref q_10, .ref q_11, .ref q_12, .ref q_13, .ref q_14, .ref q_15, .ref q_16, .ref q_17, .int 0, .int 0, .ref q_18, .ref q_19, .ref q_20, .ref q_21, .ref q_22, .ref q_23, .ref q_24, .ref q_25, .ref q_26, .ref q_27, .ref q_28, .ref q_29, .int 0, .long 0, .ref q_30, .ref q_31, .ref q_32, .ref q_33, .ref q_34, .ref q_35, .ref q_36, .ref q_37, .ref q_38, .ref q_39, .ref q_40, .ref q_41, .int 0, .int 0, .int 0, .int 0, .ref q_42, .ref q_43, .ref q_44, .ref q_45, .int 0, .ref q_46, .ref q_47, .int 0, .long g1_2]))] H := hP
  have hD : va_D A [(q_2, .inl (cy 1, 10, .inl (upd (fun _ => 0) 4 2))), (q_36, .inl (cy 1, 21, .inl (upd (upd (upd (upd (upd (upd (upd (fun _ => 0) 9 (-1)) 10 (-1)) 11 (-1)) 12 (-1)) 13 (-1)) 14 (-1)) 0 dy))), (h0, .inr (12, [.int 0, .int 0, .ref q_1, .int 0, .int 0, .int 0, .int 0, .long 0, .int 0, .int 0, .ref q_2, .ref q_3, .ref q_4, .ref q_5, .ref q_6, .ref q_7, .ref q_8, .ref q_9, .ref q_10, .ref q_11, .ref q_12, .ref q_13, .ref q_14, .ref q_15, .ref q_16, .ref q_17, .int 0, .int 0, .ref q_18, .ref q_19, .ref q_20, .ref q_21, .ref q_22, .ref q_23, .ref q_24, .ref q_25, .ref q_26, .ref q_27, .ref q_28, .ref q_29, .int 0, .long 0, .ref q_30, .ref q_31, .ref q_32, .ref q_33, .ref q_34, .ref q_35, .ref q_36, .ref q_37, .ref q_38, .ref q_39, .ref q_40, .ref q_41, .int 0, .int 0, .int 0, .int 0, .ref q_42, .ref q_43, .ref q_44, .ref q_45, .int 0, .ref q_46, .ref q_47, .int 0, .long g1_2]))] := hD
  refine lv_if_ne (tgt := 26) hx hb dX12_livesDay_6 (by decide) (fun c_3 => ?_) (fun c_3 => ?_)
  · refine lv_iconst (v := 0) hx hb dX12_livesDay_26 (by decide) ?_
    refine lv_istore_n (lv' := [(1, .int 0), (0, .ref h0)]) hx hb dX12_livesDay_27 rfl hl (by decide) rfl (fun ls hl => ?_)
    refine lv_aload_n hx hb dX12_livesDay_28 rfl (lv_at hl 1 rfl) ?_
    refine va_get (D := D) (ci := 12) (v := .ref q_2) (C := RX12) (T := TX12) (N := 67) hx hb hts (inC ibX12) hown hG.1 hP 2 rfl rfl 10 (by decide) (hg _ k_1325) (fun _ h9 => h9) rfl dX12_livesDay_29 ?_
    refine lv_iconst (v := 0) hx hb dX12_livesDay_32 (by decide) ?_
    refine m_iald (v := 0) hx hb hG hP 0 rfl (vin (by decide)) dX12_livesDay_33 rfl ?_
    refine lv_if_le (tgt := 103) hx hb dX12_livesDay_34 (by decide) (fun _ => ?_) (fun c_ => absurd (by decide) c_)
    refine lv_iload_n hx hb dX12_livesDay_103 rfl (lv_at hl 0 rfl) ?_
    refine lv_if_ne (tgt := 111) hx hb dX12_livesDay_104 (by decide) (fun c_ => absurd rfl c_) (fun _ => ?_)
    refine lv_aload_n hx hb dX12_livesDay_107 rfl (lv_at hl 1 rfl) ?_
    refine x_v (wr := []) hP hD hS hA [2, 0, 1] [] rfl rfl (by decide) (by decide) (va_runV (As := []) (rest := []) ⟨hx, hb, hml, hown, hts⟩ (c_X12_ends_1 l D cy h0 q_1 q_2 q_3 q_4 q_5 q_6 q_7 q_8 q_9 q_10 q_11 q_12 q_13 q_14 q_15 q_16 q_17 q_18 q_19 q_20 q_21 q_22 q_23 q_24 q_25 q_26 q_27 q_28 q_29 q_30 q_31 q_32 q_33 q_34 q_35 q_36 q_37 q_38 q_39 q_40 q_41 q_42 q_43 q_44 q_45 q_46 q_47 g1_2 dy H.size) (cwV 0 hts (gV km_X12_441 ki_X12_ends kz_X12_ends kn_X12 kc_X12_ends) rfl rfl rfl (by decide +kernel) ⟨(Nat.le_of_ble_eq_true rfl), (Nat.le_of_ble_eq_true rfl)⟩) (preV hG hP hD [2, 0, 1] rfl (by decide) 12 2 rfl rfl) rfl rfl hl.1 rfl (lv_room (Nat.le_of_ble_eq_true rfl)) dX12_livesDay_108 ⟨(Nat.le_of_ble_eq_true rfl), (Nat.le_of_ble_eq_true rfl)⟩) (fun H locs hB hj hS => ?_)
    obtain ⟨hP1, hD1⟩ := hB
    obtain ⟨hP, hD⟩ := hj _ hP1 hD1
    have hP : va_P D vwCl [(h0, .inr (12, [.int 0, .int 0, .ref q_1, .int 0, .int 0, .int 0, .int 0, .long 0, .int 0, .int 0, .ref q_2, .ref q_3, .ref q_4, .ref q_5, .ref q_6, .ref q_7, .ref q_8, .ref q_9, .ref q_10, .ref q_11, .ref q_12, .ref q_13, .ref q_14, .ref q_15, .ref q_16, .ref q_17, .int 0, .int 0, .ref q_18, .ref q_19, .ref q_20, .ref q_21, .ref q_22, .ref q_23, .ref q_24, .ref q_25, .ref q_26, .ref q_27, .ref q_28, .ref q_29, .int 0, .long 0, .ref q_30, .ref q_31, .ref q_32, .ref q_33, .ref q_34, .ref q_35, .ref q_36, .ref q_37, .ref q_38, .ref q_39, .ref q_40, .ref q_41, .int 0, .int 0, .int 0, .int 0, .ref q_42, .ref q_43, .ref q_44, .ref q_45, .int 0, .ref q_46, .ref q_47, .int 0, .long g1_2])), (q_2, .inl (cy 1, 10, .inl (upd (fun _ => 0) 4 2))), (q_36, .inl (cy 1, 21, .inl (upd (upd (upd (upd (upd (upd (upd (upd (fun _ => 0) 9 (-1)) 10 (-1)) 11 (-1)) 12 (-1)) 13 (-1)) 14 (-1)) 0 dy) 0 (dy + 1))))] H := hP
    have hD : va_D A [(h0, .inr (12, [.int 0, .int 0, .ref q_1, .int 0, .int 0, .int 0, .int 0, .long 0, .int 0, .int 0, .ref q_2, .ref q_3, .ref q_4, .ref q_5, .ref q_6, .ref q_7, .ref q_8, .ref q_9, .ref q_10, .ref q_11, .ref q_12, .ref q_13, .ref q_14, .ref q_15, .ref q_16, .ref q_17, .int 0, .int 0, .ref q_18, .ref q_19, .ref q_20, .ref q_21, .ref q_22, .ref q_23, .ref q_24, .ref q_25, .ref q_26, .ref q_27, .ref q_28, .ref q_29, .int 0, .long 0, .ref q_30, .ref q_31, .ref q_32, .ref q_33, .ref q_34, .ref q_35, .ref q_36, .ref q_37, .ref q_38, .ref q_39, .ref q_40, .ref q_41, .int 0, .int 0, .int 0, .int 0, .ref q_42, .ref q_43, .ref q_44, .ref q_45, .int 0, .ref q_46, .ref q_47, .int 0, .long g1_2])), (q_2, .inl (cy 1, 10, .inl (upd (fun _ => 0) 4 2))), (q_36, .inl (cy 1, 21, .inl (upd (upd (upd (upd (upd (upd (upd (upd (fun _ => 0) 9 (-1)) 10 (-1)) 11 (-1)) 12 (-1)) 13 (-1)) 14 (-1)) 0 dy) 0 (dy + 1))))] := hD
    simp only [upd_upd] at hP hD
    have hP9 := hP.sub (ws' := [(h0, .inr (12, [.int 0, .int 0, .ref q_1, .int 0, .int 0, .int 0, .int 0, .long 0, .int 0, .int 0, .ref q_2, .ref q_3, .ref q_4, .ref q_5, .ref q_6, .ref q_7, .ref q_8, .ref q_9, .ref q_10, .ref q_11, .ref q_12, .ref q_13, .ref q_14, .ref q_15, .ref q_16, .ref q_17, .int 0, .int 0, .ref q_18, .ref q_19, .ref q_20, .ref q_21, .ref q_22, .ref q_23, .ref q_24, .ref q_25, .ref q_26, .ref q_27, .ref q_28, .ref q_29, .int 0, .long 0, .ref q_30, .ref q_31, .ref q_32, .ref q_33, .ref q_34, .ref q_35, .ref q_36, .ref q_37, .ref q_38, .ref q_39, .ref q_40, .ref q_41, .int 0, .int 0, .int 0, .int 0, .ref q_42, .ref q_43, .ref q_44, .ref q_45, .int 0, .ref q_46, .ref q_47, .int 0, .long g1_2])), (q_2, .inl (cy 1, 10, .inl (upd (fun _ => 0) 4 2))), (q_36, .inl (cy 1, 21, .inl (upd (upd (upd (upd (upd (upd (upd (fun _ => 0) 9 (-1)) 10 (-1)) 11 (-1)) 12 (-1)) 13 (-1)) 14 (-1)) 0 (dy + 1))))]) [0, 1, 2] rfl
    have hD9 := hD.sub (ws' := [(h0, .inr (12, [.int 0, .int 0, .ref q_1, .int 0, .int 0, .int 0, .int 0, .long 0, .int 0, .int 0, .ref q_2, .ref q_3, .ref q_4, .ref q_5, .ref q_6, .ref q_7, .ref q_8, .ref q_9, .ref q_10, .ref q_11, .ref q_12, .ref q_13, .ref q_14, .ref q_15, .ref q_16, .ref q_17, .int 0, .int 0, .ref q_18, .ref q_19, .ref q_20, .ref q_21, .ref q_22, .ref q_23, .ref q_24, .ref q_25, .ref q_26, .ref q_27, .ref q_28, .ref q_29, .int 0, .long 0, .ref q_30, .ref q_31, .ref q_32, .ref q_33, .ref q_34, .ref q_35, .ref q_36, .ref q_37, .ref q_38, .ref q_39, .ref q_40, .ref q_41, .int 0, .int 0, .int 0, .int 0, .ref q_42, .ref q_43, .ref q_44, .ref q_45, .int 0, .ref q_46, .ref q_47, .int 0, .long g1_2])), (q_2, .inl (cy 1, 10, .inl (upd (fun _ => 0) 4 2))), (q_36, .inl (cy 1, 21, .inl (upd (upd (upd (upd (upd (upd (upd (fun _ => 0) 9 (-1)) 10 (-1)) 11 (-1)) 12 (-1)) 13 (-1)) 14 (-1)) 0 (dy + 1))))]) [0, 1, 2] (by decide) rfl
    subst hQ
    exact W.vret hx hb hr (fun t ht hW => qv_mk (by rw [ht]; exact ⟨g1_2, (dy + 1), hP9, hD9⟩) (hS.F ht)) hS.2.2 dX12_livesDay_111
  · refine lv_aload_n hx hb dX12_livesDay_9 rfl (lv_at hl 0 rfl) ?_
    refine va_get (D := D) (ci := 12) (v := .ref q_36) (C := RX12) (T := TX12) (N := 67) hx hb hts (inC ibX12) hown hG.1 hP 2 rfl rfl 48 (by decide) (hg _ k_1363) (fun _ h9 => h9) rfl dX12_livesDay_10 ?_
    refine lv_iconst (v := 1) hx hb dX12_livesDay_13 (by decide) ?_
    refine lv_dup2_11 hx hb dX12_livesDay_14 rfl rfl ?_
    refine m_iald (v := 0) hx hb hG hP 1 rfl (vin (by decide)) dX12_livesDay_15 rfl ?_
    refine lv_aload_n hx hb dX12_livesDay_16 rfl (lv_at hl 0 rfl) ?_
    refine va_get (D := D) (ci := 12) (v := .ref q_36) (C := RX12) (T := TX12) (N := 67) hx hb hts (inC ibX12) hown hG.1 hP 2 rfl rfl 48 (by decide) (hg _ k_1363) (fun _ h9 => h9) rfl dX12_livesDay_17 ?_
    refine lv_iconst (v := 1) hx hb dX12_livesDay_20 (by decide) ?_
    refine m_iald (v := 0) hx hb hG hP 1 rfl (vin (by decide)) dX12_livesDay_21 rfl ?_
    refine lv_iconst (v := 2) hx hb dX12_livesDay_22 (by decide) ?_
    refine m_idiv (v := 0) hx hb dX12_livesDay_23 (by decide) (by decide) ?_
    refine m_isub (v := 0) hx hb dX12_livesDay_24 (by decide) ?_
    refine m_iast (g := upd (upd (upd (upd (upd (upd (upd (fun _ => 0) 9 (-1)) 10 (-1)) 11 (-1)) 12 (-1)) 13 (-1)) 14 (-1)) 0 dy) hx hb hG hP hD hS 1 rfl (vin (by decide)) dX12_livesDay_25 (upd_same rfl) (fun H locs hP hD hS => ?_)
    have hP : va_P D vwCl [(q_2, .inl (cy 1, 10, .inl (upd (fun _ => 0) 4 2))), (q_36, .inl (cy 1, 21, .inl (upd (upd (upd (upd (upd (upd (upd (fun _ => 0) 9 (-1)) 10 (-1)) 11 (-1)) 12 (-1)) 13 (-1)) 14 (-1)) 0 dy))), (h0, .inr (12, [.int 0, .int 0, .ref q_1, .int 0, .int 0, .int 0, .int 0, .long 0, .int 0, .int 0, .ref q_2, .ref q_3, .ref q_4, .ref q_5, .ref q_6, .ref q_7, .ref q_8, .ref q_9, .ref q_10, .ref q_11, .ref q_12, .ref q_13, .ref q_14, .ref q_15, .ref q_16, .ref q_17, .int 0, .int 0, .ref q_18, .ref q_19, .ref q_20, .ref q_21, .ref q_22, .ref q_23, .ref q_24, .ref q_25, .ref q_26, .ref q_27, .ref q_28, .ref q_29, .int 0, .long 0, .ref q_30, .ref q_31, .ref q_32, .ref q_33, .ref q_34, .ref q_35, .ref q_36, .ref q_37, .ref q_38, .ref q_39, .ref q_40, .ref q_41, .int 0, .int 0, .int 0, .int 0, .ref q_42, .ref q_43, .ref q_44, .ref q_45, .int 0, .ref q_46, .ref q_47, .int 0, .long g1_2]))] H := hP
    have hD : va_D A [(q_2, .inl (cy 1, 10, .inl (upd (fun _ => 0) 4 2))), (q_36, .inl (cy 1, 21, .inl (upd (upd (upd (upd (upd (upd (upd (fun _ => 0) 9 (-1)) 10 (-1)) 11 (-1)) 12 (-1)) 13 (-1)) 14 (-1)) 0 dy))), (h0, .inr (12, [.int 0, .int 0, .ref q_1, .int 0, .int 0, .int 0, .int 0, .long 0, .int 0, .int 0, .ref q_2, .ref q_3, .ref q_4, .ref q_5, .ref q_6, .ref q_7, .ref q_8, .ref q_9, .ref q_10, .ref q_11, .ref q_12, .ref q_13, .ref q_14, .ref q_15, .ref q_16, .ref q_17, .int 0, .int 0, .ref q_18, .ref q_19, .ref q_20, .ref q_21, .ref q_22, .ref q_23, .ref q_24, .ref q_25, .ref q_26, .ref q_27, .ref q_28, .ref q_29, .int 0, .long 0, .ref q_30, .ref q_31, .ref q_32, .ref q_33, .ref q_34, .ref q_35, .ref q_36, .ref q_37, .ref q_38, .ref q_39, .ref q_40, .ref q_41, .int 0, .int 0, .int 0, .int 0, .ref q_42, .ref q_43, .ref q_44, .ref q_45, .int 0, .ref q_46, .ref q_47, .int 0, .long g1_2]))] := hD
    refine lv_iconst (v := 0) hx hb dX12_livesDay_26 (by decide) ?_
    refine lv_istore_n (lv' := [(1, .int 0), (0, .ref h0)]) hx hb dX12_livesDay_27 rfl hl (by decide) rfl (fun ls hl => ?_)
    refine lv_aload_n hx hb dX12_livesDay_28 rfl (lv_at hl 1 rfl) ?_
    refine va_get (D := D) (ci := 12) (v := .ref q_2) (C := RX12) (T := TX12) (N := 67) hx hb hts (inC ibX12) hown hG.1 hP 2 rfl rfl 10 (by decide) (hg _ k_1325) (fun _ h9 => h9) rfl dX12_livesDay_29 ?_
    refine lv_iconst (v := 0) hx hb dX12_livesDay_32 (by decide) ?_
    refine m_iald (v := 0) hx hb hG hP 0 rfl (vin (by decide)) dX12_livesDay_33 rfl ?_
    refine lv_if_le (tgt := 103) hx hb dX12_livesDay_34 (by decide) (fun _ => ?_) (fun c_ => absurd (by decide) c_)
    refine lv_iload_n hx hb dX12_livesDay_103 rfl (lv_at hl 0 rfl) ?_
    refine lv_if_ne (tgt := 111) hx hb dX12_livesDay_104 (by decide) (fun c_ => absurd rfl c_) (fun _ => ?_)
    refine lv_aload_n hx hb dX12_livesDay_107 rfl (lv_at hl 1 rfl) ?_
    refine x_v (wr := []) hP hD hS hA [2, 0, 1] [] rfl rfl (by decide) (by decide) (va_runV (As := []) (rest := []) ⟨hx, hb, hml, hown, hts⟩ (c_X12_ends_1 l D cy h0 q_1 q_2 q_3 q_4 q_5 q_6 q_7 q_8 q_9 q_10 q_11 q_12 q_13 q_14 q_15 q_16 q_17 q_18 q_19 q_20 q_21 q_22 q_23 q_24 q_25 q_26 q_27 q_28 q_29 q_30 q_31 q_32 q_33 q_34 q_35 q_36 q_37 q_38 q_39 q_40 q_41 q_42 q_43 q_44 q_45 q_46 q_47 g1_2 dy H.size) (cwV 0 hts (gV km_X12_441 ki_X12_ends kz_X12_ends kn_X12 kc_X12_ends) rfl rfl rfl (by decide +kernel) ⟨(Nat.le_of_ble_eq_true rfl), (Nat.le_of_ble_eq_true rfl)⟩) (preV hG hP hD [2, 0, 1] rfl (by decide) 12 2 rfl rfl) rfl rfl hl.1 rfl (lv_room (Nat.le_of_ble_eq_true rfl)) dX12_livesDay_108 ⟨(Nat.le_of_ble_eq_true rfl), (Nat.le_of_ble_eq_true rfl)⟩) (fun H locs hB hj hS => ?_)
    obtain ⟨hP1, hD1⟩ := hB
    obtain ⟨hP, hD⟩ := hj _ hP1 hD1
    have hP : va_P D vwCl [(h0, .inr (12, [.int 0, .int 0, .ref q_1, .int 0, .int 0, .int 0, .int 0, .long 0, .int 0, .int 0, .ref q_2, .ref q_3, .ref q_4, .ref q_5, .ref q_6, .ref q_7, .ref q_8, .ref q_9, .ref q_10, .ref q_11, .ref q_12, .ref q_13, .ref q_14, .ref q_15, .ref q_16, .ref q_17, .int 0, .int 0, .ref q_18, .ref q_19, .ref q_20, .ref q_21, .ref q_22, .ref q_23, .ref q_24, .ref q_25, .ref q_26, .ref q_27, .ref q_28, .ref q_29, .int 0, .long 0, .ref q_30, .ref q_31, .ref q_32, .ref q_33, .ref q_34, .ref q_35, .ref q_36, .ref q_37, .ref q_38, .ref q_39, .ref q_40, .ref q_41, .int 0, .int 0, .int 0, .int 0, .ref q_42, .ref q_43, .ref q_44, .ref q_45, .int 0, .ref q_46, .ref q_47, .int 0, .long g1_2])), (q_2, .inl (cy 1, 10, .inl (upd (fun _ => 0) 4 2))), (q_36, .inl (cy 1, 21, .inl (upd (upd (upd (upd (upd (upd (upd (upd (fun _ => 0) 9 (-1)) 10 (-1)) 11 (-1)) 12 (-1)) 13 (-1)) 14 (-1)) 0 dy) 0 (dy + 1))))] H := hP
    have hD : va_D A [(h0, .inr (12, [.int 0, .int 0, .ref q_1, .int 0, .int 0, .int 0, .int 0, .long 0, .int 0, .int 0, .ref q_2, .ref q_3, .ref q_4, .ref q_5, .ref q_6, .ref q_7, .ref q_8, .ref q_9, .ref q_10, .ref q_11, .ref q_12, .ref q_13, .ref q_14, .ref q_15, .ref q_16, .ref q_17, .int 0, .int 0, .ref q_18, .ref q_19, .ref q_20, .ref q_21, .ref q_22, .ref q_23, .ref q_24, .ref q_25, .ref q_26, .ref q_27, .ref q_28, .ref q_29, .int 0, .long 0, .ref q_30, .ref q_31, .ref q_32, .ref q_33, .ref q_34, .ref q_35, .ref q_36, .ref q_37, .ref q_38, .ref q_39, .ref q_40, .ref q_41, .int 0, .int 0, .int 0, .int 0, .ref q_42, .ref q_43, .ref q_44, .ref q_45, .int 0, .ref q_46, .ref q_47, .int 0, .long g1_2])), (q_2, .inl (cy 1, 10, .inl (upd (fun _ => 0) 4 2))), (q_36, .inl (cy 1, 21, .inl (upd (upd (upd (upd (upd (upd (upd (upd (fun _ => 0) 9 (-1)) 10 (-1)) 11 (-1)) 12 (-1)) 13 (-1)) 14 (-1)) 0 dy) 0 (dy + 1))))] := hD
    simp only [upd_upd] at hP hD
    have hP9 := hP.sub (ws' := [(h0, .inr (12, [.int 0, .int 0, .ref q_1, .int 0, .int 0, .int 0, .int 0, .long 0, .int 0, .int 0, .ref q_2, .ref q_3, .ref q_4, .ref q_5, .ref q_6, .ref q_7, .ref q_8, .ref q_9, .ref q_10, .ref q_11, .ref q_12, .ref q_13, .ref q_14, .ref q_15, .ref q_16, .ref q_17, .int 0, .int 0, .ref q_18, .ref q_19, .ref q_20, .ref q_21, .ref q_22, .ref q_23, .ref q_24, .ref q_25, .ref q_26, .ref q_27, .ref q_28, .ref q_29, .int 0, .long 0, .ref q_30, .ref q_31, .ref q_32, .ref q_33, .ref q_34, .ref q_35, .ref q_36, .ref q_37, .ref q_38, .ref q_39, .ref q_40, .ref q_41, .int 0, .int 0, .int 0, .int 0, .ref q_42, .ref q_43, .ref q_44, .ref q_45, .int 0, .ref q_46, .ref q_47, .int 0, .long g1_2])), (q_2, .inl (cy 1, 10, .inl (upd (fun _ => 0) 4 2))), (q_36, .inl (cy 1, 21, .inl (upd (upd (upd (upd (upd (upd (upd (fun _ => 0) 9 (-1)) 10 (-1)) 11 (-1)) 12 (-1)) 13 (-1)) 14 (-1)) 0 (dy + 1))))]) [0, 1, 2] rfl
    have hD9 := hD.sub (ws' := [(h0, .inr (12, [.int 0, .int 0, .ref q_1, .int 0, .int 0, .int 0, .int 0, .long 0, .int 0, .int 0, .ref q_2, .ref q_3, .ref q_4, .ref q_5, .ref q_6, .ref q_7, .ref q_8, .ref q_9, .ref q_10, .ref q_11, .ref q_12, .ref q_13, .ref q_14, .ref q_15, .ref q_16, .ref q_17, .int 0, .int 0, .ref q_18, .ref q_19, .ref q_20, .ref q_21, .ref q_22, .ref q_23, .ref q_24, .ref q_25, .ref q_26, .ref q_27, .ref q_28, .ref q_29, .int 0, .long 0, .ref q_30, .ref q_31, .ref q_32, .ref q_33, .ref q_34, .ref q_35, .ref q_36, .ref q_37, .ref q_38, .ref q_39, .ref q_40, .ref q_41, .int 0, .int 0, .int 0, .int 0, .ref q_42, .ref q_43, .ref q_44, .ref q_45, .int 0, .ref q_46, .ref q_47, .int 0, .long g1_2])), (q_2, .inl (cy 1, 10, .inl (upd (fun _ => 0) 4 2))), (q_36, .inl (cy 1, 21, .inl (upd (upd (upd (upd (upd (upd (upd (fun _ => 0) 9 (-1)) 10 (-1)) 11 (-1)) 12 (-1)) 13 (-1)) 14 (-1)) 0 (dy + 1))))]) [0, 1, 2] (by decide) rfl
    subst hQ
    exact W.vret hx hb hr (fun t ht hW => qv_mk (by rw [ht]; exact ⟨g1_2, (dy + 1), hP9, hD9⟩) (hS.F ht)) hS.2.2 dX12_livesDay_111
set_option maxHeartbeats 4000000 in
set_option maxRecDepth 100000 in
theorem c_X8_copiesDay_1 (l : Launch) (D : va_G) (cy : Nat → ClassId) (q_58 : Nat) (q_54 : Nat) (q1_59 : Nat) (q2_60 : Nat) (q3_61 : Nat) (q1_55 : Nat) (q2_56 : Nat) (q3_57 : Nat) (sz : Nat) : Met l yX8_copiesDay (Cond.code yX8_copiesDay cX8_copiesDay 2 none :: bigG) ({ frames := 1, cells := 0, slots := 0, locals := 40 }) (pre D cy [.ref q_58, .ref q_54] sz [(q_58, .inr (8, [.int 0, .int 0, .int 0, .ref q1_59, .ref q2_60, .ref q3_61])), (q_54, .inr (8, [.int 0, .int 0, .int 0, .ref q1_55, .ref q2_56, .ref q3_57])), (q1_59, .inl (cy 1, 6, .inl (fun _ => 0))), (q2_60, .inl (cy 1, 6, .inl (fun _ => 0))), (q1_55, .inl (cy 1, 6, .inl (fun _ => 0))), (q2_56, .inl (cy 1, 6, .inl (fun _ => 0)))]) (qv (fun h => va_P D vwCl [(q_58, .inr (8, [.int 0, .int 0, .int 0, .ref q1_59, .ref q2_60, .ref q3_61])), (q_54, .inr (8, [.int 0, .int 0, .int 0, .ref q1_55, .ref q2_56, .ref q3_57])), (q1_59, .inl (cy 1, 6, .inl (va_cpy (fun _ => 0) (fun _ => 0) 0 0 6))), (q2_60, .inl (cy 1, 6, .inl (va_cpy (fun _ => 0) (fun _ => 0) 0 0 6))), (q1_55, .inl (cy 1, 6, .inl (fun _ => 0))), (q2_56, .inl (cy 1, 6, .inl (fun _ => 0)))] h ∧ va_D (va_A [(q_58, .inr (8, [.int 0, .int 0, .int 0, .ref q1_59, .ref q2_60, .ref q3_61])), (q_54, .inr (8, [.int 0, .int 0, .int 0, .ref q1_55, .ref q2_56, .ref q3_57])), (q1_59, .inl (cy 1, 6, .inl (fun _ => 0))), (q2_60, .inl (cy 1, 6, .inl (fun _ => 0))), (q1_55, .inl (cy 1, 6, .inl (fun _ => 0))), (q2_56, .inl (cy 1, 6, .inl (fun _ => 0)))] sz) [(q_58, .inr (8, [.int 0, .int 0, .int 0, .ref q1_59, .ref q2_60, .ref q3_61])), (q_54, .inr (8, [.int 0, .int 0, .int 0, .ref q1_55, .ref q2_56, .ref q3_57])), (q1_59, .inl (cy 1, 6, .inl (va_cpy (fun _ => 0) (fun _ => 0) 0 0 6))), (q2_60, .inl (cy 1, 6, .inl (va_cpy (fun _ => 0) (fun _ => 0) 0 0 6))), (q1_55, .inl (cy 1, 6, .inl (fun _ => 0))), (q2_56, .inl (cy 1, 6, .inl (fun _ => 0)))]) (va_A [(q_58, .inr (8, [.int 0, .int 0, .int 0, .ref q1_59, .ref q2_60, .ref q3_61])), (q_54, .inr (8, [.int 0, .int 0, .int 0, .ref q1_55, .ref q2_56, .ref q3_57])), (q1_59, .inl (cy 1, 6, .inl (fun _ => 0))), (q2_60, .inl (cy 1, 6, .inl (fun _ => 0))), (q1_55, .inl (cy 1, 6, .inl (fun _ => 0))), (q2_56, .inl (cy 1, 6, .inl (fun _ => 0)))] sz)) 0 0 (va_A [(q_58, .inr (8, [.int 0, .int 0, .int 0, .ref q1_59, .ref q2_60, .ref q3_61])), (q_54, .inr (8, [.int 0, .int 0, .int 0, .ref q1_55, .ref q2_56, .ref q3_57])), (q1_59, .inl (cy 1, 6, .inl (fun _ => 0))), (q2_60, .inl (cy 1, 6, .inl (fun _ => 0))), (q1_55, .inl (cy 1, 6, .inl (fun _ => 0))), (q2_56, .inl (cy 1, 6, .inl (fun _ => 0)))] sz) := by
  refine Met.ofW (cc := cX8_copiesDay) (maxL := 2) (ret := none) (by decide) rfl ?_
  intro p e s m args below meth c s₁ B hml hv
  obtain ⟨rfl, hsz, hP, hG, hD0⟩ := hv
  have hx := B.exec
  have hb := B.bytes
  have hr := B.returns
  have hts := atoms_spec (ws := (Cond.code yX8_copiesDay cX8_copiesDay 2 none :: bigG)) B.pre
  have hg : ∀ w ∈ bigG, w.before ([.ref q_58, .ref q_54] : List Value).toArray s = true := fun w h => hts w (List.mem_cons_of_mem _ h)
  have hown : s.vm.findClass RX8 = some m.cls := findClass_of_methodNamed B.named
  have hlocks := B.notSynchronized
  subst hsz
  have hD := hD0.self (sz := s.heap.size)
  generalize hAe : va_A [(q_58, .inr (8, [.int 0, .int 0, .int 0, .ref q1_59, .ref q2_60, .ref q3_61])), (q_54, .inr (8, [.int 0, .int 0, .int 0, .ref q1_55, .ref q2_56, .ref q3_57])), (q1_59, .inl (cy 1, 6, .inl (fun _ => 0))), (q2_60, .inl (cy 1, 6, .inl (fun _ => 0))), (q1_55, .inl (cy 1, 6, .inl (fun _ => 0))), (q2_56, .inl (cy 1, 6, .inl (fun _ => 0)))] s.heap.size = A at hD ⊢
  have hA : ∀ q : Nat, s.heap.size ≤ q → A q := fun q h => by rw [← hAe]; exact Or.inr h
  have hS : va_S A s.heap s.heap [] := va_S.rf
  have hP : va_P D vwCl [(q_58, .inr (8, [.int 0, .int 0, .int 0, .ref q1_59, .ref q2_60, .ref q3_61])), (q_54, .inr (8, [.int 0, .int 0, .int 0, .ref q1_55, .ref q2_56, .ref q3_57])), (q1_59, .inl (cy 1, 6, .inl (fun _ => 0))), (q2_60, .inl (cy 1, 6, .inl (fun _ => 0))), (q1_55, .inl (cy 1, 6, .inl (fun _ => 0))), (q2_56, .inl (cy 1, 6, .inl (fun _ => 0)))] s.heap := hP
  have hl := lv_entry ([.ref q_58, .ref q_54]) (n := 2) (Nat.le_of_ble_eq_true rfl)
  rw [lg_entry_eq]
  generalize (lg_sl ([.ref q_58, .ref q_54]) ++ List.replicate (2 - (lg_sl ([.ref q_58, .ref q_54])).length) Slot.unset).toArray = ls at hl ⊢
  have hl : lv_has ls 2 [(0, .ref q_58), (1, .ref q_54)] := hl
  refine w_nm (fun Q hQ => ?_)
  refine lv_aload_n hx hb dX8_copiesDay_0 rfl (lv_at hl 0 rfl) ?_
  refine lv_aload_n hx hb dX8_copiesDay_1 rfl (lv_at hl 1 rfl) ?_
  refine va_get (D := D) (ci := 8) (v := .int 0) (C := RX8) (T := TX8) (N := 6) hx hb hts (inC ibX8) hown hG.1 hP 1 rfl rfl 0 (by decide) (hg _ k_260) (fun _ h9 => h9) rfl dX8_copiesDay_2 ?_
  refine va_put (D := D) (ci := 8) (v := .int 0) (ty := .int) (C := RX8) (T := TX8) (N := 6) hx hb hts (inC ibX8) tyX8 tyX8_ok nmX8 hown hG.1 hP hD hS 0 rfl rfl 0 (by decide) (hg _ k_260) (fun _ h9 => h9) rfl (by decide +kernel) rfl rfl (Nat.le_of_ble_eq_true rfl) dX8_copiesDay_5 (fun H locs hP hD hS => ?_)
  have hP : va_P D vwCl [(q_58, .inr (8, [.int 0, .int 0, .int 0, .ref q1_59, .ref q2_60, .ref q3_61])), (q_54, .inr (8, [.int 0, .int 0, .int 0, .ref q1_55, .ref q2_56, .ref q3_57])), (q1_59, .inl (cy 1, 6, .inl (fun _ => 0))), (q2_60, .inl (cy 1, 6, .inl (fun _ => 0))), (q1_55, .inl (cy 1, 6, .inl (fun _ => 0))), (q2_56, .inl (cy 1, 6, .inl (fun _ => 0)))] H := hP
  have hD : va_D A [(q_58, .inr (8, [.int 0, .int 0, .int 0, .ref q1_59, .ref q2_60, .ref q3_61])), (q_54, .inr (8, [.int 0, .int 0, .int 0, .ref q1_55, .ref q2_56, .ref q3_57])), (q1_59, .inl (cy 1, 6, .inl (fun _ => 0))), (q2_60, .inl (cy 1, 6, .inl (fun _ => 0))), (q1_55, .inl (cy 1, 6, .inl (fun _ => 0))), (q2_56, .inl (cy 1, 6, .inl (fun _ => 0)))] := hD
  refine lv_aload_n hx hb dX8_copiesDay_8 rfl (lv_at hl 0 rfl) ?_
  refine lv_aload_n hx hb dX8_copiesDay_9 rfl (lv_at hl 1 rfl) ?_
  refine va_get (D := D) (ci := 8) (v := .int 0) (C := RX8) (T := TX8) (N := 6) hx hb hts (inC ibX8) hown hG.1 hP 1 rfl rfl 1 (by decide) (hg _ k_262) (fun _ h9 => h9) rfl dX8_copiesDay_10 ?_
  refine va_put (D := D) (ci := 8) (v := .int 0) (ty := .int) (C := RX8) (T := TX8) (N := 6) hx hb hts (inC ibX8) tyX8 tyX8_ok nmX8 hown hG.1 hP hD hS 0 rfl rfl 1 (by decide) (hg _ k_262) (fun _ h9 => h9) rfl (by decide +kernel) rfl rfl (Nat.le_of_ble_eq_true rfl) dX8_copiesDay_13 (fun H locs hP hD hS => ?_)
  have hP : va_P D vwCl [(q_58, .inr (8, [.int 0, .int 0, .int 0, .ref q1_59, .ref q2_60, .ref q3_61])), (q_54, .inr (8, [.int 0, .int 0, .int 0, .ref q1_55, .ref q2_56, .ref q3_57])), (q1_59, .inl (cy 1, 6, .inl (fun _ => 0))), (q2_60, .inl (cy 1, 6, .inl (fun _ => 0))), (q1_55, .inl (cy 1, 6, .inl (fun _ => 0))), (q2_56, .inl (cy 1, 6, .inl (fun _ => 0)))] H := hP
  have hD : va_D A [(q_58, .inr (8, [.int 0, .int 0, .int 0, .ref q1_59, .ref q2_60, .ref q3_61])), (q_54, .inr (8, [.int 0, .int 0, .int 0, .ref q1_55, .ref q2_56, .ref q3_57])), (q1_59, .inl (cy 1, 6, .inl (fun _ => 0))), (q2_60, .inl (cy 1, 6, .inl (fun _ => 0))), (q1_55, .inl (cy 1, 6, .inl (fun _ => 0))), (q2_56, .inl (cy 1, 6, .inl (fun _ => 0)))] := hD
  refine lv_aload_n hx hb dX8_copiesDay_16 rfl (lv_at hl 1 rfl) ?_
  refine va_get (D := D) (ci := 8) (v := .ref q1_55) (C := RX8) (T := TX8) (N := 6) hx hb hts (inC ibX8) hown hG.1 hP 1 rfl rfl 3 (by decide) (hg _ k_266) (fun _ h9 => h9) rfl dX8_copiesDay_17 ?_
  refine lv_iconst (v := 0) hx hb dX8_copiesDay_20 (by decide) ?_
  refine lv_aload_n hx hb dX8_copiesDay_21 rfl (lv_at hl 0 rfl) ?_
  refine va_get (D := D) (ci := 8) (v := .ref q1_59) (C := RX8) (T := TX8) (N := 6) hx hb hts (inC ibX8) hown hG.1 hP 0 rfl rfl 3 (by decide) (hg _ k_266) (fun _ h9 => h9) rfl dX8_copiesDay_22 ?_
  refine lv_iconst (v := 0) hx hb dX8_copiesDay_25 (by decide) ?_
  refine lv_bipush (v := 6) hx hb dX8_copiesDay_26 (by decide) ?_
  refine va_copyi hx hb (hml.trans hl.1.symm) hown (hg _ k_959) (hg _ k_961) (hg _ k_960) (hg _ k_21) hG.1 hP hD hS 4 2 1 1 rfl rfl rfl rfl rfl (by decide) (by decide) (by decide) (by decide) (by decide) (fun _ _ => rfl) (Nat.le_of_ble_eq_true rfl) (Nat.le_of_ble_eq_true rfl) dX8_copiesDay_28 (fun H locs hP hD hS => ?_)
  have hP : va_P D vwCl [(q_58, .inr (8, [.int 0, .int 0, .int 0, .ref q1_59, .ref q2_60, .ref q3_61])), (q_54, .inr (8, [.int 0, .int 0, .int 0, .ref q1_55, .ref q2_56, .ref q3_57])), (q1_59, .inl (cy 1, 6, .inl (va_cpy (fun _ => 0) (fun _ => 0) 0 0 6))), (q2_60, .inl (cy 1, 6, .inl (fun _ => 0))), (q1_55, .inl (cy 1, 6, .inl (fun _ => 0))), (q2_56, .inl (cy 1, 6, .inl (fun _ => 0)))] H := hP
  have hD : va_D A [(q_58, .inr (8, [.int 0, .int 0, .int 0, .ref q1_59, .ref q2_60, .ref q3_61])), (q_54, .inr (8, [.int 0, .int 0, .int 0, .ref q1_55, .ref q2_56, .ref q3_57])), (q1_59, .inl (cy 1, 6, .inl (va_cpy (fun _ => 0) (fun _ => 0) 0 0 6))), (q2_60, .inl (cy 1, 6, .inl (fun _ => 0))), (q1_55, .inl (cy 1, 6, .inl (fun _ => 0))), (q2_56, .inl (cy 1, 6, .inl (fun _ => 0)))] := hD
  refine lv_aload_n hx hb dX8_copiesDay_31 rfl (lv_at hl 1 rfl) ?_
  refine va_get (D := D) (ci := 8) (v := .ref q2_56) (C := RX8) (T := TX8) (N := 6) hx hb hts (inC ibX8) hown hG.1 hP 1 rfl rfl 4 (by decide) (hg _ k_270) (fun _ h9 => h9) rfl dX8_copiesDay_32 ?_
  refine lv_iconst (v := 0) hx hb dX8_copiesDay_35 (by decide) ?_
  refine lv_aload_n hx hb dX8_copiesDay_36 rfl (lv_at hl 0 rfl) ?_
  refine va_get (D := D) (ci := 8) (v := .ref q2_60) (C := RX8) (T := TX8) (N := 6) hx hb hts (inC ibX8) hown hG.1 hP 0 rfl rfl 4 (by decide) (hg _ k_270) (fun _ h9 => h9) rfl dX8_copiesDay_37 ?_
  refine lv_iconst (v := 0) hx hb dX8_copiesDay_40 (by decide) ?_
  refine lv_bipush (v := 6) hx hb dX8_copiesDay_41 (by decide) ?_
  refine va_copyi hx hb (hml.trans hl.1.symm) hown (hg _ k_959) (hg _ k_961) (hg _ k_960) (hg _ k_21) hG.1 hP hD hS 5 3 1 1 rfl rfl rfl rfl rfl (by decide) (by decide) (by decide) (by decide) (by decide) (fun _ _ => rfl) (Nat.le_of_ble_eq_true rfl) (Nat.le_of_ble_eq_true rfl) dX8_copiesDay_43 (fun H locs hP hD hS => ?_)
  have hP : va_P D vwCl [(q_58, .inr (8, [.int 0, .int 0, .int 0, .ref q1_59, .ref q2_60, .ref q3_61])), (q_54, .inr (8, [.int 0, .int 0, .int 0, .ref q1_55, .ref q2_56, .ref q3_57])), (q1_59, .inl (cy 1, 6, .inl (va_cpy (fun _ => 0) (fun _ => 0) 0 0 6))), (q2_60, .inl (cy 1, 6, .inl (va_cpy (fun _ => 0) (fun _ => 0) 0 0 6))), (q1_55, .inl (cy 1, 6, .inl (fun _ => 0))), (q2_56, .inl (cy 1, 6, .inl (fun _ => 0)))] H := hP
  have hD : va_D A [(q_58, .inr (8, [.int 0, .int 0, .int 0, .ref q1_59, .ref q2_60, .ref q3_61])), (q_54, .inr (8, [.int 0, .int 0, .int 0, .ref q1_55, .ref q2_56, .ref q3_57])), (q1_59, .inl (cy 1, 6, .inl (va_cpy (fun _ => 0) (fun _ => 0) 0 0 6))), (q2_60, .inl (cy 1, 6, .inl (va_cpy (fun _ => 0) (fun _ => 0) 0 0 6))), (q1_55, .inl (cy 1, 6, .inl (fun _ => 0))), (q2_56, .inl (cy 1, 6, .inl (fun _ => 0)))] := hD
  have hP9 := hP.sub (ws' := [(q_58, .inr (8, [.int 0, .int 0, .int 0, .ref q1_59, .ref q2_60, .ref q3_61])), (q_54, .inr (8, [.int 0, .int 0, .int 0, .ref q1_55, .ref q2_56, .ref q3_57])), (q1_59, .inl (cy 1, 6, .inl (va_cpy (fun _ => 0) (fun _ => 0) 0 0 6))), (q2_60, .inl (cy 1, 6, .inl (va_cpy (fun _ => 0) (fun _ => 0) 0 0 6))), (q1_55, .inl (cy 1, 6, .inl (fun _ => 0))), (q2_56, .inl (cy 1, 6, .inl (fun _ => 0)))]) [0, 1, 2, 3, 4, 5] rfl
  have hD9 := hD.sub (ws' := [(q_58, .inr (8, [.int 0, .int 0, .int 0, .ref q1_59, .ref q2_60, .ref q3_61])), (q_54, .inr (8, [.int 0, .int 0, .int 0, .ref q1_55, .ref q2_56, .ref q3_57])), (q1_59, .inl (cy 1, 6, .inl (va_cpy (fun _ => 0) (fun _ => 0) 0 0 6))), (q2_60, .inl (cy 1, 6, .inl (va_cpy (fun _ => 0) (fun _ => 0) 0 0 6))), (q1_55, .inl (cy 1, 6, .inl (fun _ => 0))), (q2_56, .inl (cy 1, 6, .inl (fun _ => 0)))]) [0, 1, 2, 3, 4, 5] (by decide) rfl
  subst hQ
  exact W.vret hx hb hr (fun t ht hW => qv_mk (by rw [ht]; exact ⟨hP9, hD9⟩) (hS.F ht)) hS.2.2 dX8_copiesDay_46
set_option maxHeartbeats 4000000 in
set_option maxRecDepth 100000 in
theorem c_X8_copies_1 (l : Launch) (D : va_G) (cy : Nat → ClassId) (q_58 : Nat) (q_54 : Nat) (q1_59 : Nat) (q2_60 : Nat) (q3_61 : Nat) (q1_55 : Nat) (q2_56 : Nat) (q3_57 : Nat) (sz : Nat) : Met l yX8_copies (Cond.code yX8_copies cX8_copies 2 none :: bigG) ({ frames := 2, cells := 0, slots := 0, locals := 61 }) (pre D cy [.ref q_58, .ref q_54] sz [(q_58, .inr (8, [.int 0, .int 0, .int 0, .ref q1_59, .ref q2_60, .ref q3_61])), (q_54, .inr (8, [.int 0, .int 0, .int 0, .ref q1_55, .ref q2_56, .ref q3_57])), (q1_59, .inl (cy 1, 6, .inl (fun _ => 0))), (q2_60, .inl (cy 1, 6, .inl (fun _ => 0))), (q3_61, .inl (cy 1, 6, .inl (fun _ => 0))), (q1_55, .inl (cy 1, 6, .inl (fun _ => 0))), (q2_56, .inl (cy 1, 6, .inl (fun _ => 0))), (q3_57, .inl (cy 1, 6, .inl (fun _ => 0)))]) (qv (fun h => va_P D vwCl [(q3_61, .inl (cy 1, 6, .inl (va_cpy (fun _ => 0) (fun _ => 0) 0 0 6))), (q3_57, .inl (cy 1, 6, .inl (fun _ => 0))), (q_58, .inr (8, [.int 0, .int 0, .int 0, .ref q1_59, .ref q2_60, .ref q3_61])), (q_54, .inr (8, [.int 0, .int 0, .int 0, .ref q1_55, .ref q2_56, .ref q3_57])), (q1_59, .inl (cy 1, 6, .inl (va_cpy (fun _ => 0) (fun _ => 0) 0 0 6))), (q2_60, .inl (cy 1, 6, .inl (va_cpy (fun _ => 0) (fun _ => 0) 0 0 6))), (q1_55, .inl (cy 1, 6, .inl (fun _ => 0))), (q2_56, .inl (cy 1, 6, .inl (fun _ => 0)))] h ∧ va_D (va_A [(q_58, .inr (8, [.int 0, .int 0, .int 0, .ref q1_59, .ref q2_60, .ref q3_61])), (q_54, .inr (8, [.int 0, .int 0, .int 0, .ref q1_55, .ref q2_56, .ref q3_57])), (q1_59, .inl (cy 1, 6, .inl (fun _ => 0))), (q2_60, .inl (cy 1, 6, .inl (fun _ => 0))), (q3_61, .inl (cy 1, 6, .inl (fun _ => 0))), (q1_55, .inl (cy 1, 6, .inl (fun _ => 0))), (q2_56, .inl (cy 1, 6, .inl (fun _ => 0))), (q3_57, .inl (cy 1, 6, .inl (fun _ => 0)))] sz) [(q3_61, .inl (cy 1, 6, .inl (va_cpy (fun _ => 0) (fun _ => 0) 0 0 6))), (q3_57, .inl (cy 1, 6, .inl (fun _ => 0))), (q_58, .inr (8, [.int 0, .int 0, .int 0, .ref q1_59, .ref q2_60, .ref q3_61])), (q_54, .inr (8, [.int 0, .int 0, .int 0, .ref q1_55, .ref q2_56, .ref q3_57])), (q1_59, .inl (cy 1, 6, .inl (va_cpy (fun _ => 0) (fun _ => 0) 0 0 6))), (q2_60, .inl (cy 1, 6, .inl (va_cpy (fun _ => 0) (fun _ => 0) 0 0 6))), (q1_55, .inl (cy 1, 6, .inl (fun _ => 0))), (q2_56, .inl (cy 1, 6, .inl (fun _ => 0)))]) (va_A [(q_58, .inr (8, [.int 0, .int 0, .int 0, .ref q1_59, .ref q2_60, .ref q3_61])), (q_54, .inr (8, [.int 0, .int 0, .int 0, .ref q1_55, .ref q2_56, .ref q3_57])), (q1_59, .inl (cy 1, 6, .inl (fun _ => 0))), (q2_60, .inl (cy 1, 6, .inl (fun _ => 0))), (q3_61, .inl (cy 1, 6, .inl (fun _ => 0))), (q1_55, .inl (cy 1, 6, .inl (fun _ => 0))), (q2_56, .inl (cy 1, 6, .inl (fun _ => 0))), (q3_57, .inl (cy 1, 6, .inl (fun _ => 0)))] sz)) 0 0 (va_A [(q_58, .inr (8, [.int 0, .int 0, .int 0, .ref q1_59, .ref q2_60, .ref q3_61])), (q_54, .inr (8, [.int 0, .int 0, .int 0, .ref q1_55, .ref q2_56, .ref q3_57])), (q1_59, .inl (cy 1, 6, .inl (fun _ => 0))), (q2_60, .inl (cy 1, 6, .inl (fun _ => 0))), (q3_61, .inl (cy 1, 6, .inl (fun _ => 0))), (q1_55, .inl (cy 1, 6, .inl (fun _ => 0))), (q2_56, .inl (cy 1, 6, .inl (fun _ => 0))), (q3_57, .inl (cy 1, 6, .inl (fun _ => 0)))] sz) := by
  refine Met.ofW (cc := cX8_copies) (maxL := 2) (ret := none) (by decide) rfl ?_
  intro p e s m args below meth c s₁ B hml hv
  obtain ⟨rfl, hsz, hP, hG, hD0⟩ := hv
  have hx := B.exec
  have hb := B.bytes
  have hr := B.returns
  have hts := atoms_spec (ws := (Cond.code yX8_copies cX8_copies 2 none :: bigG)) B.pre
  have hg : ∀ w ∈ bigG, w.before ([.ref q_58, .ref q_54] : List Value).toArray s = true := fun w h => hts w (List.mem_cons_of_mem _ h)
  have hown : s.vm.findClass RX8 = some m.cls := findClass_of_methodNamed B.named
  have hlocks := B.notSynchronized
  subst hsz
  have hD := hD0.self (sz := s.heap.size)
  generalize hAe : va_A [(q_58, .inr (8, [.int 0, .int 0, .int 0, .ref q1_59, .ref q2_60, .ref q3_61])), (q_54, .inr (8, [.int 0, .int 0, .int 0, .ref q1_55, .ref q2_56, .ref q3_57])), (q1_59, .inl (cy 1, 6, .inl (fun _ => 0))), (q2_60, .inl (cy 1, 6, .inl (fun _ => 0))), (q3_61, .inl (cy 1, 6, .inl (fun _ => 0))), (q1_55, .inl (cy 1, 6, .inl (fun _ => 0))), (q2_56, .inl (cy 1, 6, .inl (fun _ => 0))), (q3_57, .inl (cy 1, 6, .inl (fun _ => 0)))] s.heap.size = A at hD ⊢
  have hA : ∀ q : Nat, s.heap.size ≤ q → A q := fun q h => by rw [← hAe]; exact Or.inr h
  have hS : va_S A s.heap s.heap [] := va_S.rf
  have hP : va_P D vwCl [(q_58, .inr (8, [.int 0, .int 0, .int 0, .ref q1_59, .ref q2_60, .ref q3_61])), (q_54, .inr (8, [.int 0, .int 0, .int 0, .ref q1_55, .ref q2_56, .ref q3_57])), (q1_59, .inl (cy 1, 6, .inl (fun _ => 0))), (q2_60, .inl (cy 1, 6, .inl (fun _ => 0))), (q3_61, .inl (cy 1, 6, .inl (fun _ => 0))), (q1_55, .inl (cy 1, 6, .inl (fun _ => 0))), (q2_56, .inl (cy 1, 6, .inl (fun _ => 0))), (q3_57, .inl (cy 1, 6, .inl (fun _ => 0)))] s.heap := hP
  have hl := lv_entry ([.ref q_58, .ref q_54]) (n := 2) (Nat.le_of_ble_eq_true rfl)
  rw [lg_entry_eq]
  generalize (lg_sl ([.ref q_58, .ref q_54]) ++ List.replicate (2 - (lg_sl ([.ref q_58, .ref q_54])).length) Slot.unset).toArray = ls at hl ⊢
  have hl : lv_has ls 2 [(0, .ref q_58), (1, .ref q_54)] := hl
  refine w_nm (fun Q hQ => ?_)
  refine lv_aload_n hx hb dX8_copies_0 rfl (lv_at hl 0 rfl) ?_
  refine lv_aload_n hx hb dX8_copies_1 rfl (lv_at hl 1 rfl) ?_
  refine x_v (wr := [(q3_61, .inl (cy 1, 6, .inl (fun _ => 0))), (q3_57, .inl (cy 1, 6, .inl (fun _ => 0)))]) hP hD hS hA [0, 1, 2, 3, 5, 6] [4, 7] rfl rfl (by decide) (by decide) (va_runV (As := [.ref q_54]) (rest := []) ⟨hx, hb, hml, hown, hts⟩ (c_X8_copiesDay_1 l D cy q_58 q_54 q1_59 q2_60 q3_61 q1_55 q2_56 q3_57 s.heap.size) (cwV 1 hts (gV km_X8_40 ki_X8_copiesDay kz_X8_copiesDay kn_X8 kc_X8_copiesDay) rfl rfl rfl (by decide +kernel) ⟨(Nat.le_of_ble_eq_true rfl), (Nat.le_of_ble_eq_true rfl)⟩) (preV hG hP hD [0, 1, 2, 3, 5, 6] rfl (by decide) 8 0 rfl rfl) rfl rfl hl.1 rfl (lv_room (Nat.le_of_ble_eq_true rfl)) dX8_copies_2 ⟨(Nat.le_of_ble_eq_true rfl), (Nat.le_of_ble_eq_true rfl)⟩) (fun H locs hB hj hS => ?_)
  obtain ⟨hP1, hD1⟩ := hB
  obtain ⟨hP, hD⟩ := hj _ hP1 hD1
  have hP : va_P D vwCl [(q3_61, .inl (cy 1, 6, .inl (fun _ => 0))), (q3_57, .inl (cy 1, 6, .inl (fun _ => 0))), (q_58, .inr (8, [.int 0, .int 0, .int 0, .ref q1_59, .ref q2_60, .ref q3_61])), (q_54, .inr (8, [.int 0, .int 0, .int 0, .ref q1_55, .ref q2_56, .ref q3_57])), (q1_59, .inl (cy 1, 6, .inl (va_cpy (fun _ => 0) (fun _ => 0) 0 0 6))), (q2_60, .inl (cy 1, 6, .inl (va_cpy (fun _ => 0) (fun _ => 0) 0 0 6))), (q1_55, .inl (cy 1, 6, .inl (fun _ => 0))), (q2_56, .inl (cy 1, 6, .inl (fun _ => 0)))] H := hP
  have hD : va_D A [(q3_61, .inl (cy 1, 6, .inl (fun _ => 0))), (q3_57, .inl (cy 1, 6, .inl (fun _ => 0))), (q_58, .inr (8, [.int 0, .int 0, .int 0, .ref q1_59, .ref q2_60, .ref q3_61])), (q_54, .inr (8, [.int 0, .int 0, .int 0, .ref q1_55, .ref q2_56, .ref q3_57])), (q1_59, .inl (cy 1, 6, .inl (va_cpy (fun _ => 0) (fun _ => 0) 0 0 6))), (q2_60, .inl (cy 1, 6, .inl (va_cpy (fun _ => 0) (fun _ => 0) 0 0 6))), (q1_55, .inl (cy 1, 6, .inl (fun _ => 0))), (q2_56, .inl (cy 1, 6, .inl (fun _ => 0)))] := hD
  refine lv_aload_n hx hb dX8_copies_5 rfl (lv_at hl 0 rfl) ?_
  refine lv_aload_n hx hb dX8_copies_6 rfl (lv_at hl 1 rfl) ?_
  refine va_get (D := D) (ci := 8) (v := .int 0) (C := RX8) (T := TX8) (N := 6) hx hb hts (inC ibX8) hown hG.1 hP 3 rfl rfl 2 (by decide) (hg _ k_264) (fun _ h9 => h9) rfl dX8_copies_7 ?_
  refine va_put (D := D) (ci := 8) (v := .int 0) (ty := .int) (C := RX8) (T := TX8) (N := 6) hx hb hts (inC ibX8) tyX8 tyX8_ok nmX8 hown hG.1 hP hD hS 2 rfl rfl 2 (by decide) (hg _ k_264) (fun _ h9 => h9) rfl (by decide +kernel) rfl rfl (Nat.le_of_ble_eq_true rfl) dX8_copies_10 (fun H locs hP hD hS => ?_)
  have hP : va_P D vwCl [(q3_61, .inl (cy 1, 6, .inl (fun _ => 0))), (q3_57, .inl (cy 1, 6, .inl (fun _ => 0))), (q_58, .inr (8, [.int 0, .int 0, .int 0, .ref q1_59, .ref q2_60, .ref q3_61])), (q_54, .inr (8, [.int 0, .int 0, .int 0, .ref q1_55, .ref q2_56, .ref q3_57])), (q1_59, .inl (cy 1, 6, .inl (va_cpy (fun _ => 0) (fun _ => 0) 0 0 6))), (q2_60, .inl (cy 1, 6, .inl (va_cpy (fun _ => 0) (fun _ => 0) 0 0 6))), (q1_55, .inl (cy 1, 6, .inl (fun _ => 0))), (q2_56, .inl (cy 1, 6, .inl (fun _ => 0)))] H := hP
  have hD : va_D A [(q3_61, .inl (cy 1, 6, .inl (fun _ => 0))), (q3_57, .inl (cy 1, 6, .inl (fun _ => 0))), (q_58, .inr (8, [.int 0, .int 0, .int 0, .ref q1_59, .ref q2_60, .ref q3_61])), (q_54, .inr (8, [.int 0, .int 0, .int 0, .ref q1_55, .ref q2_56, .ref q3_57])), (q1_59, .inl (cy 1, 6, .inl (va_cpy (fun _ => 0) (fun _ => 0) 0 0 6))), (q2_60, .inl (cy 1, 6, .inl (va_cpy (fun _ => 0) (fun _ => 0) 0 0 6))), (q1_55, .inl (cy 1, 6, .inl (fun _ => 0))), (q2_56, .inl (cy 1, 6, .inl (fun _ => 0)))] := hD
  refine lv_aload_n hx hb dX8_copies_13 rfl (lv_at hl 1 rfl) ?_
  refine va_get (D := D) (ci := 8) (v := .ref q3_57) (C := RX8) (T := TX8) (N := 6) hx hb hts (inC ibX8) hown hG.1 hP 3 rfl rfl 5 (by decide) (hg _ k_272) (fun _ h9 => h9) rfl dX8_copies_14 ?_
  refine lv_iconst (v := 0) hx hb dX8_copies_17 (by decide) ?_
  refine lv_aload_n hx hb dX8_copies_18 rfl (lv_at hl 0 rfl) ?_
  refine va_get (D := D) (ci := 8) (v := .ref q3_61) (C := RX8) (T := TX8) (N := 6) hx hb hts (inC ibX8) hown hG.1 hP 2 rfl rfl 5 (by decide) (hg _ k_272) (fun _ h9 => h9) rfl dX8_copies_19 ?_
  refine lv_iconst (v := 0) hx hb dX8_copies_22 (by decide) ?_
  refine lv_bipush (v := 6) hx hb dX8_copies_23 (by decide) ?_
  refine va_copyi hx hb (hml.trans hl.1.symm) hown (hg _ k_959) (hg _ k_961) (hg _ k_960) (hg _ k_21) hG.1 hP hD hS 1 0 1 1 rfl rfl rfl rfl rfl (by decide) (by decide) (by decide) (by decide) (by decide) (fun _ _ => rfl) (Nat.le_of_ble_eq_true rfl) (Nat.le_of_ble_eq_true rfl) dX8_copies_25 (fun H locs hP hD hS => ?_)
  have hP : va_P D vwCl [(q3_61, .inl (cy 1, 6, .inl (va_cpy (fun _ => 0) (fun _ => 0) 0 0 6))), (q3_57, .inl (cy 1, 6, .inl (fun _ => 0))), (q_58, .inr (8, [.int 0, .int 0, .int 0, .ref q1_59, .ref q2_60, .ref q3_61])), (q_54, .inr (8, [.int 0, .int 0, .int 0, .ref q1_55, .ref q2_56, .ref q3_57])), (q1_59, .inl (cy 1, 6, .inl (va_cpy (fun _ => 0) (fun _ => 0) 0 0 6))), (q2_60, .inl (cy 1, 6, .inl (va_cpy (fun _ => 0) (fun _ => 0) 0 0 6))), (q1_55, .inl (cy 1, 6, .inl (fun _ => 0))), (q2_56, .inl (cy 1, 6, .inl (fun _ => 0)))] H := hP
  have hD : va_D A [(q3_61, .inl (cy 1, 6, .inl (va_cpy (fun _ => 0) (fun _ => 0) 0 0 6))), (q3_57, .inl (cy 1, 6, .inl (fun _ => 0))), (q_58, .inr (8, [.int 0, .int 0, .int 0, .ref q1_59, .ref q2_60, .ref q3_61])), (q_54, .inr (8, [.int 0, .int 0, .int 0, .ref q1_55, .ref q2_56, .ref q3_57])), (q1_59, .inl (cy 1, 6, .inl (va_cpy (fun _ => 0) (fun _ => 0) 0 0 6))), (q2_60, .inl (cy 1, 6, .inl (va_cpy (fun _ => 0) (fun _ => 0) 0 0 6))), (q1_55, .inl (cy 1, 6, .inl (fun _ => 0))), (q2_56, .inl (cy 1, 6, .inl (fun _ => 0)))] := hD
  have hP9 := hP.sub (ws' := [(q3_61, .inl (cy 1, 6, .inl (va_cpy (fun _ => 0) (fun _ => 0) 0 0 6))), (q3_57, .inl (cy 1, 6, .inl (fun _ => 0))), (q_58, .inr (8, [.int 0, .int 0, .int 0, .ref q1_59, .ref q2_60, .ref q3_61])), (q_54, .inr (8, [.int 0, .int 0, .int 0, .ref q1_55, .ref q2_56, .ref q3_57])), (q1_59, .inl (cy 1, 6, .inl (va_cpy (fun _ => 0) (fun _ => 0) 0 0 6))), (q2_60, .inl (cy 1, 6, .inl (va_cpy (fun _ => 0) (fun _ => 0) 0 0 6))), (q1_55, .inl (cy 1, 6, .inl (fun _ => 0))), (q2_56, .inl (cy 1, 6, .inl (fun _ => 0)))]) [0, 1, 2, 3, 4, 5, 6, 7] rfl
  have hD9 := hD.sub (ws' := [(q3_61, .inl (cy 1, 6, .inl (va_cpy (fun _ => 0) (fun _ => 0) 0 0 6))), (q3_57, .inl (cy 1, 6, .inl (fun _ => 0))), (q_58, .inr (8, [.int 0, .int 0, .int 0, .ref q1_59, .ref q2_60, .ref q3_61])), (q_54, .inr (8, [.int 0, .int 0, .int 0, .ref q1_55, .ref q2_56, .ref q3_57])), (q1_59, .inl (cy 1, 6, .inl (va_cpy (fun _ => 0) (fun _ => 0) 0 0 6))), (q2_60, .inl (cy 1, 6, .inl (va_cpy (fun _ => 0) (fun _ => 0) 0 0 6))), (q1_55, .inl (cy 1, 6, .inl (fun _ => 0))), (q2_56, .inl (cy 1, 6, .inl (fun _ => 0)))]) [0, 1, 2, 3, 4, 5, 6, 7] (by decide) rfl
  subst hQ
  exact W.vret hx hb hr (fun t ht hW => qv_mk (by rw [ht]; exact ⟨hP9, hD9⟩) (hS.F ht)) hS.2.2 dX8_copies_28
set_option maxHeartbeats 4000000 in
set_option maxRecDepth 100000 in
theorem c_X11_nextDraw_1 (l : Launch) (D : va_G) (cy : Nat → ClassId) (a0 : Int64) (sz : Nat) : Met l yX11_nextDraw (Cond.code yX11_nextDraw cX11_nextDraw 2 (some .long) :: bigG) ({ frames := 0, cells := 0, slots := 0, locals := 0 }) (pre D cy [.long a0] sz []) (ql (fun r h => va_P D vwCl [] h ∧ va_D (va_A [] sz) []) (va_A [] sz)) 0 0 (va_A [] sz) := by
  refine Met.ofW (cc := cX11_nextDraw) (maxL := 2) (ret := (some .long)) (by decide) rfl ?_
  intro p e s m args below meth c s₁ B hml hv
  obtain ⟨rfl, hsz, hP, hG, hD0⟩ := hv
  have hx := B.exec
  have hb := B.bytes
  have hr := B.returns
  have hts := atoms_spec (ws := (Cond.code yX11_nextDraw cX11_nextDraw 2 (some .long) :: bigG)) B.pre
  have hg : ∀ w ∈ bigG, w.before ([.long a0] : List Value).toArray s = true := fun w h => hts w (List.mem_cons_of_mem _ h)
  have hown : s.vm.findClass RX11 = some m.cls := findClass_of_methodNamed B.named
  have hlocks := B.notSynchronized
  subst hsz
  have hD := hD0.self (sz := s.heap.size)
  generalize hAe : va_A [] s.heap.size = A at hD ⊢
  have hA : ∀ q : Nat, s.heap.size ≤ q → A q := fun q h => by rw [← hAe]; exact Or.inr h
  have hS : va_S A s.heap s.heap [] := va_S.rf
  have hP : va_P D vwCl [] s.heap := hP
  have hl := lv_entry ([.long a0]) (n := 2) (Nat.le_of_ble_eq_true rfl)
  rw [lg_entry_eq]
  generalize (lg_sl ([.long a0]) ++ List.replicate (2 - (lg_sl ([.long a0])).length) Slot.unset).toArray = ls at hl ⊢
  have hl : lv_has ls 2 [(0, .long a0)] := hl
  refine w_nm (fun Q hQ => ?_)
  refine lv_lload_n hx hb dX11_nextDraw_0 rfl (lv_at hl 0 rfl) ?_
  refine lv_ldc2 (v := 1103515245) hx hb hown (hg _ k_1174) dX11_nextDraw_1 ?_
  refine m_lmul (v := (a0 * 1103515245)) hx hb dX11_nextDraw_4 rfl ?_
  refine lv_ldc2 (v := 12345) hx hb hown (hg _ k_1175) dX11_nextDraw_5 ?_
  refine m_ladd (v := ((a0 * 1103515245) + 12345)) hx hb dX11_nextDraw_8 rfl ?_
  refine lv_ldc2 (v := 2147483648) hx hb hown (hg _ k_1176) dX11_nextDraw_9 ?_
  refine m_lrem (v := (((a0 * 1103515245) + 12345) - ((a0 * 1103515245) + 12345) / 2147483648 * 2147483648)) hx hb dX11_nextDraw_12 (by decide) rfl ?_
  have hP9 := hP.sub (ws' := []) [] rfl
  have hD9 := hD.sub (ws' := []) [] (by decide) rfl
  subst hQ
  exact W.lret (v := (((a0 * 1103515245) + 12345) - ((a0 * 1103515245) + 12345) / 2147483648 * 2147483648)) hx hb hr (fun t ht hW => ql_mk (by rw [ht]; exact ⟨hP9, hD9⟩) (hS.F ht)) hS.2.2 dX11_nextDraw_13
set_option maxHeartbeats 4000000 in
set_option maxRecDepth 100000 in
theorem c_X11_drawBelow_1 (l : Launch) (D : va_G) (cy : Nat → ClassId) (a0 : Int64) (sz : Nat) : Met l yX11_drawBelow (Cond.code yX11_drawBelow cX11_drawBelow 3 (some .int) :: bigG) ({ frames := 0, cells := 0, slots := 0, locals := 0 }) (pre D cy [.long a0, .int 10] sz []) (qi (fun r h => va_P D vwCl [] h ∧ va_D (va_A [] sz) []) (va_A [] sz)) 0 0 (va_A [] sz) := by
  refine Met.ofW (cc := cX11_drawBelow) (maxL := 3) (ret := (some .int)) (by decide) rfl ?_
  intro p e s m args below meth c s₁ B hml hv
  obtain ⟨rfl, hsz, hP, hG, hD0⟩ := hv
  have hx := B.exec
  have hb := B.bytes
  have hr := B.returns
  have hts := atoms_spec (ws := (Cond.code yX11_drawBelow cX11_drawBelow 3 (some .int) :: bigG)) B.pre
  have hg : ∀ w ∈ bigG, w.before ([.long a0, .int 10] : List Value).toArray s = true := fun w h => hts w (List.mem_cons_of_mem _ h)
  have hown : s.vm.findClass RX11 = some m.cls := findClass_of_methodNamed B.named
  have hlocks := B.notSynchronized
  subst hsz
  have hD := hD0.self (sz := s.heap.size)
  generalize hAe : va_A [] s.heap.size = A at hD ⊢
  have hA : ∀ q : Nat, s.heap.size ≤ q → A q := fun q h => by rw [← hAe]; exact Or.inr h
  have hS : va_S A s.heap s.heap [] := va_S.rf
  have hP : va_P D vwCl [] s.heap := hP
  have hl := lv_entry ([.long a0, .int 10]) (n := 3) (Nat.le_of_ble_eq_true rfl)
  rw [lg_entry_eq]
  generalize (lg_sl ([.long a0, .int 10]) ++ List.replicate (3 - (lg_sl ([.long a0, .int 10])).length) Slot.unset).toArray = ls at hl ⊢
  have hl : lv_has ls 3 [(0, .long a0), (2, .int 10)] := hl
  refine w_nm (fun Q hQ => ?_)
  refine lv_iload_n hx hb dX11_drawBelow_0 rfl (lv_at hl 1 rfl) ?_
  refine lv_if_le (tgt := 16) hx hb dX11_drawBelow_1 (by decide) (fun c_ => absurd c_ (by decide)) (fun _ => ?_)
  refine lv_lload_n hx hb dX11_drawBelow_4 rfl (lv_at hl 0 rfl) ?_
  refine lv_ldc2 (v := 65536) hx hb hown (hg _ k_1180) dX11_drawBelow_5 ?_
  refine m_ldiv (v := (a0 / 65536)) hx hb dX11_drawBelow_8 (by decide) rfl ?_
  refine lv_iload_n hx hb dX11_drawBelow_9 rfl (lv_at hl 1 rfl) ?_
  refine lv_i2l (v := 10) hx hb dX11_drawBelow_10 (by decide) ?_
  refine m_lrem (v := ((a0 / 65536) - (a0 / 65536) / 10 * 10)) hx hb dX11_drawBelow_11 (by decide) rfl ?_
  refine lv_l2i (v := ((a0 / 65536) - (a0 / 65536) / 10 * 10).toInt32) hx hb dX11_drawBelow_12 rfl ?_
  refine lv_goto (tgt := 17) hx hb dX11_drawBelow_13 (by decide) ?_
  have hP9 := hP.sub (ws' := []) [] rfl
  have hD9 := hD.sub (ws' := []) [] (by decide) rfl
  subst hQ
  exact W.iret (v := ((a0 / 65536) - (a0 / 65536) / 10 * 10).toInt32) hx hb hr (fun t ht hW => qi_mk (by rw [ht]; exact ⟨hP9, hD9⟩) (hS.F ht)) hS.2.2 dX11_drawBelow_17
set_option maxHeartbeats 4000000 in
set_option maxRecDepth 100000 in
theorem c_X8_endsDay_1 (l : Launch) (D : va_G) (cy : Nat → ClassId) (q_58 : Nat) (q_4 : Nat) (dy : Int32) (q1_59 : Nat) (q2_60 : Nat) (q3_61 : Nat) (q_1_5 : Nat) (q_2_6 : Nat) (q_3_7 : Nat) (q_4_8 : Nat) (q_5_9 : Nat) (q_6_10 : Nat) (q_7_11 : Nat) (q_8_12 : Nat) (q_9_13 : Nat) (q_10_14 : Nat) (q_11_15 : Nat) (q_12_16 : Nat) (q_13_17 : Nat) (q_18_18 : Nat) (q_19_19 : Nat) (q_20_20 : Nat) (sz : Nat) : Met l yX8_endsDay (Cond.code yX8_endsDay cX8_endsDay 4 (some .int) :: bigG) ({ frames := 0, cells := 0, slots := 0, locals := 0 }) (pre D cy [.ref q_58, .ref q_4] sz [(q_58, .inr (8, [.int dy, .int 0, .int 0, .ref q1_59, .ref q2_60, .ref q3_61])), (q_4, .inr (0, [.ref q_1_5, .ref q_2_6, .ref q_3_7, .ref q_4_8, .ref q_5_9, .ref q_6_10, .ref q_7_11, .ref q_8_12, .ref q_9_13, .ref q_10_14, .ref q_11_15, .ref q_12_16, .ref q_13_17, .int 0, .int 0, .int 0, .int 2, .ref q_18_18, .ref q_19_19, .ref q_20_20]))]) (qi (fun r h => r = 0 ∧ va_P D vwCl [(q_58, .inr (8, [.int (dy + 1), .int 0, .int 0, .ref q1_59, .ref q2_60, .ref q3_61])), (q_4, .inr (0, [.ref q_1_5, .ref q_2_6, .ref q_3_7, .ref q_4_8, .ref q_5_9, .ref q_6_10, .ref q_7_11, .ref q_8_12, .ref q_9_13, .ref q_10_14, .ref q_11_15, .ref q_12_16, .ref q_13_17, .int 0, .int 0, .int 0, .int 2, .ref q_18_18, .ref q_19_19, .ref q_20_20]))] h ∧ va_D (va_A [(q_58, .inr (8, [.int dy, .int 0, .int 0, .ref q1_59, .ref q2_60, .ref q3_61])), (q_4, .inr (0, [.ref q_1_5, .ref q_2_6, .ref q_3_7, .ref q_4_8, .ref q_5_9, .ref q_6_10, .ref q_7_11, .ref q_8_12, .ref q_9_13, .ref q_10_14, .ref q_11_15, .ref q_12_16, .ref q_13_17, .int 0, .int 0, .int 0, .int 2, .ref q_18_18, .ref q_19_19, .ref q_20_20]))] sz) [(q_58, .inr (8, [.int (dy + 1), .int 0, .int 0, .ref q1_59, .ref q2_60, .ref q3_61])), (q_4, .inr (0, [.ref q_1_5, .ref q_2_6, .ref q_3_7, .ref q_4_8, .ref q_5_9, .ref q_6_10, .ref q_7_11, .ref q_8_12, .ref q_9_13, .ref q_10_14, .ref q_11_15, .ref q_12_16, .ref q_13_17, .int 0, .int 0, .int 0, .int 2, .ref q_18_18, .ref q_19_19, .ref q_20_20]))]) (va_A [(q_58, .inr (8, [.int dy, .int 0, .int 0, .ref q1_59, .ref q2_60, .ref q3_61])), (q_4, .inr (0, [.ref q_1_5, .ref q_2_6, .ref q_3_7, .ref q_4_8, .ref q_5_9, .ref q_6_10, .ref q_7_11, .ref q_8_12, .ref q_9_13, .ref q_10_14, .ref q_11_15, .ref q_12_16, .ref q_13_17, .int 0, .int 0, .int 0, .int 2, .ref q_18_18, .ref q_19_19, .ref q_20_20]))] sz)) 0 0 (va_A [(q_58, .inr (8, [.int dy, .int 0, .int 0, .ref q1_59, .ref q2_60, .ref q3_61])), (q_4, .inr (0, [.ref q_1_5, .ref q_2_6, .ref q_3_7, .ref q_4_8, .ref q_5_9, .ref q_6_10, .ref q_7_11, .ref q_8_12, .ref q_9_13, .ref q_10_14, .ref q_11_15, .ref q_12_16, .ref q_13_17, .int 0, .int 0, .int 0, .int 2, .ref q_18_18, .ref q_19_19, .ref q_20_20]))] sz) := by
  refine Met.ofW (cc := cX8_endsDay) (maxL := 4) (ret := (some .int)) (by decide) rfl ?_
  intro p e s m args below meth c s₁ B hml hv
  obtain ⟨rfl, hsz, hP, hG, hD0⟩ := hv
  have hx := B.exec
  have hb := B.bytes
  have hr := B.returns
  have hts := atoms_spec (ws := (Cond.code yX8_endsDay cX8_endsDay 4 (some .int) :: bigG)) B.pre
  have hg : ∀ w ∈ bigG, w.before ([.ref q_58, .ref q_4] : List Value).toArray s = true := fun w h => hts w (List.mem_cons_of_mem _ h)
  have hown : s.vm.findClass RX8 = some m.cls := findClass_of_methodNamed B.named
  have hlocks := B.notSynchronized
  subst hsz
  have hD := hD0.self (sz := s.heap.size)
  generalize hAe : va_A [(q_58, .inr (8, [.int dy, .int 0, .int 0, .ref q1_59, .ref q2_60, .ref q3_61])), (q_4, .inr (0, [.ref q_1_5, .ref q_2_6, .ref q_3_7, .ref q_4_8, .ref q_5_9, .ref q_6_10, .ref q_7_11, .ref q_8_12, .ref q_9_13, .ref q_10_14, .ref q_11_15, .ref q_12_16, .ref q_13_17, .int 0, .int 0, .int 0, .int 2, .ref q_18_18, .ref q_19_19, .ref q_20_20]))] s.heap.size = A at hD ⊢
  have hA : ∀ q : Nat, s.heap.size ≤ q → A q := fun q h => by rw [← hAe]; exact Or.inr h
  have hS : va_S A s.heap s.heap [] := va_S.rf
  have hP : va_P D vwCl [(q_58, .inr (8, [.int dy, .int 0, .int 0, .ref q1_59, .ref q2_60, .ref q3_61])), (q_4, .inr (0, [.ref q_1_5, .ref q_2_6, .ref q_3_7, .ref q_4_8, .ref q_5_9, .ref q_6_10, .ref q_7_11, .ref q_8_12, .ref q_9_13, .ref q_10_14, .ref q_11_15, .ref q_12_16, .ref q_13_17, .int 0, .int 0, .int 0, .int 2, .ref q_18_18, .ref q_19_19, .ref q_20_20]))] s.heap := hP
  have hl := lv_entry ([.ref q_58, .ref q_4]) (n := 4) (Nat.le_of_ble_eq_true rfl)
  rw [lg_entry_eq]
  generalize (lg_sl ([.ref q_58, .ref q_4]) ++ List.replicate (4 - (lg_sl ([.ref q_58, .ref q_4])).length) Slot.unset).toArray = ls at hl ⊢
  have hl : lv_has ls 4 [(0, .ref q_58), (1, .ref q_4)] := hl
  refine w_nm (fun Q hQ => ?_)
  refine lv_iconst (v := 0) hx hb dX8_endsDay_0 (by decide) ?_
  refine lv_istore_n (lv' := [(2, .int 0), (0, .ref q_58), (1, .ref q_4)]) hx hb dX8_endsDay_1 rfl hl (by decide) rfl (fun ls hl => ?_)
  refine lv_iconst (v := 0) hx hb dX8_endsDay_2 (by decide) ?_
  refine lv_istore_n (lv' := [(3, .int 0), (2, .int 0), (0, .ref q_58), (1, .ref q_4)]) hx hb dX8_endsDay_3 rfl hl (by decide) rfl (fun ls hl => ?_)
  refine lv_iload_n hx hb dX8_endsDay_4 rfl (lv_at hl 0 rfl) ?_
  refine lv_aload_n hx hb dX8_endsDay_5 rfl (lv_at hl 3 rfl) ?_
  refine va_get (D := D) (ci := 0) (v := .int 0) (C := RX0) (T := TX0) (N := 20) hx hb hts (inC ibX0) hown hG.1 hP 1 rfl rfl 13 (by decide) (hg _ k_175) (fun _ h9 => h9) rfl dX8_endsDay_6 ?_
  refine lv_icmp_ge (tgt := 71) hx hb dX8_endsDay_9 (by decide) (fun _ => ?_) (fun c_ => absurd (by decide) c_)
  refine lv_aload_n hx hb dX8_endsDay_71 rfl (lv_at hl 2 rfl) ?_
  refine lv_dup hx hb dX8_endsDay_72 rfl ?_
  refine va_get (D := D) (ci := 8) (v := .int dy) (C := RX8) (T := TX8) (N := 6) hx hb hts (inC ibX8) hown hG.1 hP 0 rfl rfl 0 (by decide) (hg _ k_260) (fun _ h9 => h9) rfl dX8_endsDay_73 ?_
  refine lv_iconst (v := 1) hx hb dX8_endsDay_76 (by decide) ?_
  refine m_iadd (v := (dy + 1)) hx hb dX8_endsDay_77 rfl ?_
  refine lv_topi (fun f_1 ef_1 => ?_)
  refine va_put (D := D) (ci := 8) (v := .int f_1) (ty := .int) (C := RX8) (T := TX8) (N := 6) hx hb hts (inC ibX8) tyX8 tyX8_ok nmX8 hown hG.1 hP hD hS 0 rfl rfl 0 (by decide) (hg _ k_260) (fun _ h9 => h9) rfl (by decide +kernel) rfl rfl (Nat.le_of_ble_eq_true rfl) dX8_endsDay_78 (fun H locs hP hD hS => ?_)
  have hP : va_P D vwCl [(q_58, .inr (8, [.int f_1, .int 0, .int 0, .ref q1_59, .ref q2_60, .ref q3_61])), (q_4, .inr (0, [.ref q_1_5, .ref q_2_6, .ref q_3_7, .ref q_4_8, .ref q_5_9, .ref q_6_10, .ref q_7_11, .ref q_8_12, .ref q_9_13, .ref q_10_14, .ref q_11_15, .ref q_12_16, .ref q_13_17, .int 0, .int 0, .int 0, .int 2, .ref q_18_18, .ref q_19_19, .ref q_20_20]))] H := hP
  have hD : va_D A [(q_58, .inr (8, [.int f_1, .int 0, .int 0, .ref q1_59, .ref q2_60, .ref q3_61])), (q_4, .inr (0, [.ref q_1_5, .ref q_2_6, .ref q_3_7, .ref q_4_8, .ref q_5_9, .ref q_6_10, .ref q_7_11, .ref q_8_12, .ref q_9_13, .ref q_10_14, .ref q_11_15, .ref q_12_16, .ref q_13_17, .int 0, .int 0, .int 0, .int 2, .ref q_18_18, .ref q_19_19, .ref q_20_20]))] := hD
  refine lv_iload_n hx hb dX8_endsDay_81 rfl (lv_at hl 1 rfl) ?_
  subst ef_1
  have hP9 := hP.sub (ws' := [(q_58, .inr (8, [.int (dy + 1), .int 0, .int 0, .ref q1_59, .ref q2_60, .ref q3_61])), (q_4, .inr (0, [.ref q_1_5, .ref q_2_6, .ref q_3_7, .ref q_4_8, .ref q_5_9, .ref q_6_10, .ref q_7_11, .ref q_8_12, .ref q_9_13, .ref q_10_14, .ref q_11_15, .ref q_12_16, .ref q_13_17, .int 0, .int 0, .int 0, .int 2, .ref q_18_18, .ref q_19_19, .ref q_20_20]))]) [0, 1] rfl
  have hD9 := hD.sub (ws' := [(q_58, .inr (8, [.int (dy + 1), .int 0, .int 0, .ref q1_59, .ref q2_60, .ref q3_61])), (q_4, .inr (0, [.ref q_1_5, .ref q_2_6, .ref q_3_7, .ref q_4_8, .ref q_5_9, .ref q_6_10, .ref q_7_11, .ref q_8_12, .ref q_9_13, .ref q_10_14, .ref q_11_15, .ref q_12_16, .ref q_13_17, .int 0, .int 0, .int 0, .int 2, .ref q_18_18, .ref q_19_19, .ref q_20_20]))]) [0, 1] (by decide) rfl
  subst hQ
  exact W.iret (v := 0) hx hb hr (fun t ht hW => qi_mk (by rw [ht]; exact ⟨rfl, hP9, hD9⟩) (hS.F ht)) hS.2.2 dX8_endsDay_82
set_option maxHeartbeats 4000000 in
set_option maxRecDepth 100000 in
theorem c_X11_years_1 (l : Launch) (D : va_G) (cy : Nat → ClassId) (h0 : Nat) (q_1 : Nat) (q_3 : Nat) (q_4 : Nat) (q_25 : Nat) (q_46 : Nat) (q_50 : Nat) (q_54 : Nat) (q_58 : Nat) (q_62 : Nat) (q_63 : Nat) (q_64 : Nat) (q_67 : Nat) (q_85 : Nat) (q_90 : Nat) (q_93 : Nat) (q_1_5 : Nat) (q_2_6 : Nat) (q_3_7 : Nat) (q_4_8 : Nat) (q_5_9 : Nat) (q_6_10 : Nat) (q_7_11 : Nat) (q_8_12 : Nat) (q_9_13 : Nat) (q_10_14 : Nat) (q_11_15 : Nat) (q_12_16 : Nat) (q_13_17 : Nat) (q_18_18 : Nat) (q_19_19 : Nat) (q_20_20 : Nat) (q1_55 : Nat) (q2_56 : Nat) (q3_57 : Nat) (q1_59 : Nat) (q2_60 : Nat) (q3_61 : Nat) (a1 : Int32) (a2 : Int32) (a3 : Int32) (sz : Nat) (hf0 : ¬ a1 < 0) (hf1 : ¬ 9999 < a1) (hf2 : ¬ a2 < 1) (hf3 : ¬ 100 < a2) (hf4 : ¬ a3 < 0) (hf5 : ¬ 2 < a3) : Met l yX11_years (Cond.code yX11_years cX11_years 8 (some .int) :: bigG) ({ frames := 3, cells := 0, slots := 0, locals := 82 }) (pre D cy [.ref h0, .int a1, .int a2, .int a3] sz [(h0, .inr (11, [.ref q_1, .ref q_3, .ref q_4, .ref q_25, .ref q_46, .ref q_50, .ref q_54, .ref q_58, .ref q_62, .int 0, .int 0, .ref q_63, .ref q_64, .ref q_67, .ref q_85, .ref q_90, .ref q_93])), (q_4, .inr (0, [.ref q_1_5, .ref q_2_6, .ref q_3_7, .ref q_4_8, .ref q_5_9, .ref q_6_10, .ref q_7_11, .ref q_8_12, .ref q_9_13, .ref q_10_14, .ref q_11_15, .ref q_12_16, .ref q_13_17, .int 0, .int 0, .int 0, .int 2, .ref q_18_18, .ref q_19_19, .ref q_20_20])), (q_54, .inr (8, [.int 0, .int 0, .int 0, .ref q1_55, .ref q2_56, .ref q3_57])), (q_58, .inr (8, [.int 0, .int 0, .int 0, .ref q1_59, .ref q2_60, .ref q3_61])), (q1_55, .inl (cy 1, 6, .inl (fun _ => 0))), (q2_56, .inl (cy 1, 6, .inl (fun _ => 0))), (q3_57, .inl (cy 1, 6, .inl (fun _ => 0))), (q1_59, .inl (cy 1, 6, .inl (fun _ => 0))), (q2_60, .inl (cy 1, 6, .inl (fun _ => 0))), (q3_61, .inl (cy 1, 6, .inl (fun _ => 0)))]) (qi (fun r h => r = 0 ∧ va_P D vwCl [] h ∧ va_D (va_A [(h0, .inr (11, [.ref q_1, .ref q_3, .ref q_4, .ref q_25, .ref q_46, .ref q_50, .ref q_54, .ref q_58, .ref q_62, .int 0, .int 0, .ref q_63, .ref q_64, .ref q_67, .ref q_85, .ref q_90, .ref q_93])), (q_4, .inr (0, [.ref q_1_5, .ref q_2_6, .ref q_3_7, .ref q_4_8, .ref q_5_9, .ref q_6_10, .ref q_7_11, .ref q_8_12, .ref q_9_13, .ref q_10_14, .ref q_11_15, .ref q_12_16, .ref q_13_17, .int 0, .int 0, .int 0, .int 2, .ref q_18_18, .ref q_19_19, .ref q_20_20])), (q_54, .inr (8, [.int 0, .int 0, .int 0, .ref q1_55, .ref q2_56, .ref q3_57])), (q_58, .inr (8, [.int 0, .int 0, .int 0, .ref q1_59, .ref q2_60, .ref q3_61])), (q1_55, .inl (cy 1, 6, .inl (fun _ => 0))), (q2_56, .inl (cy 1, 6, .inl (fun _ => 0))), (q3_57, .inl (cy 1, 6, .inl (fun _ => 0))), (q1_59, .inl (cy 1, 6, .inl (fun _ => 0))), (q2_60, .inl (cy 1, 6, .inl (fun _ => 0))), (q3_61, .inl (cy 1, 6, .inl (fun _ => 0)))] sz) []) (va_A [(h0, .inr (11, [.ref q_1, .ref q_3, .ref q_4, .ref q_25, .ref q_46, .ref q_50, .ref q_54, .ref q_58, .ref q_62, .int 0, .int 0, .ref q_63, .ref q_64, .ref q_67, .ref q_85, .ref q_90, .ref q_93])), (q_4, .inr (0, [.ref q_1_5, .ref q_2_6, .ref q_3_7, .ref q_4_8, .ref q_5_9, .ref q_6_10, .ref q_7_11, .ref q_8_12, .ref q_9_13, .ref q_10_14, .ref q_11_15, .ref q_12_16, .ref q_13_17, .int 0, .int 0, .int 0, .int 2, .ref q_18_18, .ref q_19_19, .ref q_20_20])), (q_54, .inr (8, [.int 0, .int 0, .int 0, .ref q1_55, .ref q2_56, .ref q3_57])), (q_58, .inr (8, [.int 0, .int 0, .int 0, .ref q1_59, .ref q2_60, .ref q3_61])), (q1_55, .inl (cy 1, 6, .inl (fun _ => 0))), (q2_56, .inl (cy 1, 6, .inl (fun _ => 0))), (q3_57, .inl (cy 1, 6, .inl (fun _ => 0))), (q1_59, .inl (cy 1, 6, .inl (fun _ => 0))), (q2_60, .inl (cy 1, 6, .inl (fun _ => 0))), (q3_61, .inl (cy 1, 6, .inl (fun _ => 0)))] sz)) 0 0 (va_A [(h0, .inr (11, [.ref q_1, .ref q_3, .ref q_4, .ref q_25, .ref q_46, .ref q_50, .ref q_54, .ref q_58, .ref q_62, .int 0, .int 0, .ref q_63, .ref q_64, .ref q_67, .ref q_85, .ref q_90, .ref q_93])), (q_4, .inr (0, [.ref q_1_5, .ref q_2_6, .ref q_3_7, .ref q_4_8, .ref q_5_9, .ref q_6_10, .ref q_7_11, .ref q_8_12, .ref q_9_13, .ref q_10_14, .ref q_11_15, .ref q_12_16, .ref q_13_17, .int 0, .int 0, .int 0, .int 2, .ref q_18_18, .ref q_19_19, .ref q_20_20])), (q_54, .inr (8, [.int 0, .int 0, .int 0, .ref q1_55, .ref q2_56, .ref q3_57])), (q_58, .inr (8, [.int 0, .int 0, .int 0, .ref q1_59, .ref q2_60, .ref q3_61])), (q1_55, .inl (cy 1, 6, .inl (fun _ => 0))), (q2_56, .inl (cy 1, 6, .inl (fun _ => 0))), (q3_57, .inl (cy 1, 6, .inl (fun _ => 0))), (q1_59, .inl (cy 1, 6, .inl (fun _ => 0))), (q2_60, .inl (cy 1, 6, .inl (fun _ => 0))), (q3_61, .inl (cy 1, 6, .inl (fun _ => 0)))] sz) := by
  refine Met.ofW (cc := cX11_years) (maxL := 8) (ret := (some .int)) (by decide) rfl ?_
  intro p e s m args below meth c s₁ B hml hv
  obtain ⟨rfl, hsz, hP, hG, hD0⟩ := hv
  have hx := B.exec
  have hb := B.bytes
  have hr := B.returns
  have hts := atoms_spec (ws := (Cond.code yX11_years cX11_years 8 (some .int) :: bigG)) B.pre
  have hg : ∀ w ∈ bigG, w.before ([.ref h0, .int a1, .int a2, .int a3] : List Value).toArray s = true := fun w h => hts w (List.mem_cons_of_mem _ h)
  have hown : s.vm.findClass RX11 = some m.cls := findClass_of_methodNamed B.named
  have hlocks := B.notSynchronized
  subst hsz
  have hD := hD0.self (sz := s.heap.size)
  generalize hAe : va_A [(h0, .inr (11, [.ref q_1, .ref q_3, .ref q_4, .ref q_25, .ref q_46, .ref q_50, .ref q_54, .ref q_58, .ref q_62, .int 0, .int 0, .ref q_63, .ref q_64, .ref q_67, .ref q_85, .ref q_90, .ref q_93])), (q_4, .inr (0, [.ref q_1_5, .ref q_2_6, .ref q_3_7, .ref q_4_8, .ref q_5_9, .ref q_6_10, .ref q_7_11, .ref q_8_12, .ref q_9_13, .ref q_10_14, .ref q_11_15, .ref q_12_16, .ref q_13_17, .int 0, .int 0, .int 0, .int 2, .ref q_18_18, .ref q_19_19, .ref q_20_20])), (q_54, .inr (8, [.int 0, .int 0, .int 0, .ref q1_55, .ref q2_56, .ref q3_57])), (q_58, .inr (8, [.int 0, .int 0, .int 0, .ref q1_59, .ref q2_60, .ref q3_61])), (q1_55, .inl (cy 1, 6, .inl (fun _ => 0))), (q2_56, .inl (cy 1, 6, .inl (fun _ => 0))), (q3_57, .inl (cy 1, 6, .inl (fun _ => 0))), (q1_59, .inl (cy 1, 6, .inl (fun _ => 0))), (q2_60, .inl (cy 1, 6, .inl (fun _ => 0))), (q3_61, .inl (cy 1, 6, .inl (fun _ => 0)))] s.heap.size = A at hD ⊢
  have hA : ∀ q : Nat, s.heap.size ≤ q → A q := fun q h => by rw [← hAe]; exact Or.inr h
  have hS : va_S A s.heap s.heap [] := va_S.rf
  have hP : va_P D vwCl [(h0, .inr (11, [.ref q_1, .ref q_3, .ref q_4, .ref q_25, .ref q_46, .ref q_50, .ref q_54, .ref q_58, .ref q_62, .int 0, .int 0, .ref q_63, .ref q_64, .ref q_67, .ref q_85, .ref q_90, .ref q_93])), (q_4, .inr (0, [.ref q_1_5, .ref q_2_6, .ref q_3_7, .ref q_4_8, .ref q_5_9, .ref q_6_10, .ref q_7_11, .ref q_8_12, .ref q_9_13, .ref q_10_14, .ref q_11_15, .ref q_12_16, .ref q_13_17, .int 0, .int 0, .int 0, .int 2, .ref q_18_18, .ref q_19_19, .ref q_20_20])), (q_54, .inr (8, [.int 0, .int 0, .int 0, .ref q1_55, .ref q2_56, .ref q3_57])), (q_58, .inr (8, [.int 0, .int 0, .int 0, .ref q1_59, .ref q2_60, .ref q3_61])), (q1_55, .inl (cy 1, 6, .inl (fun _ => 0))), (q2_56, .inl (cy 1, 6, .inl (fun _ => 0))), (q3_57, .inl (cy 1, 6, .inl (fun _ => 0))), (q1_59, .inl (cy 1, 6, .inl (fun _ => 0))), (q2_60, .inl (cy 1, 6, .inl (fun _ => 0))), (q3_61, .inl (cy 1, 6, .inl (fun _ => 0)))] s.heap := hP
  have hl := lv_entry ([.ref h0, .int a1, .int a2, .int a3]) (n := 8) (Nat.le_of_ble_eq_true rfl)
  rw [lg_entry_eq]
  generalize (lg_sl ([.ref h0, .int a1, .int a2, .int a3]) ++ List.replicate (8 - (lg_sl ([.ref h0, .int a1, .int a2, .int a3])).length) Slot.unset).toArray = ls at hl ⊢
  have hl : lv_has ls 8 [(0, .ref h0), (1, .int a1), (2, .int a2), (3, .int a3)] := hl
  refine w_nm (fun Q hQ => ?_)
  refine lv_iload_n hx hb dX11_years_0 rfl (lv_at hl 1 rfl) ?_
  refine lv_if_lt (tgt := 31) hx hb dX11_years_1 (by decide) (fun c_ => absurd c_ hf0) (fun _ => ?_)
  refine lv_iload_n hx hb dX11_years_4 rfl (lv_at hl 1 rfl) ?_
  refine lv_sipush (v := 9999) hx hb dX11_years_5 (by decide) ?_
  refine lv_icmp_gt (tgt := 31) hx hb dX11_years_8 (by decide) (fun c_ => absurd c_ hf1) (fun _ => ?_)
  refine lv_iload_n hx hb dX11_years_11 rfl (lv_at hl 2 rfl) ?_
  refine lv_iconst (v := 1) hx hb dX11_years_12 (by decide) ?_
  refine lv_icmp_lt (tgt := 31) hx hb dX11_years_13 (by decide) (fun c_ => absurd c_ hf2) (fun _ => ?_)
  refine lv_iload_n hx hb dX11_years_16 rfl (lv_at hl 2 rfl) ?_
  refine lv_bipush (v := 100) hx hb dX11_years_17 (by decide) ?_
  refine lv_icmp_gt (tgt := 31) hx hb dX11_years_19 (by decide) (fun c_ => absurd c_ hf3) (fun _ => ?_)
  refine lv_iload_n hx hb dX11_years_22 rfl (lv_at hl 3 rfl) ?_
  refine lv_if_lt (tgt := 31) hx hb dX11_years_23 (by decide) (fun c_ => absurd c_ hf4) (fun _ => ?_)
  refine lv_iload_n hx hb dX11_years_26 rfl (lv_at hl 3 rfl) ?_
  refine lv_iconst (v := 2) hx hb dX11_years_27 (by decide) ?_
  refine lv_icmp_le (tgt := 33) hx hb dX11_years_28 (by decide) (fun _ => ?_) (fun c_ => absurd (by have q0 := hf4; have q1 := hf5; simp only [lt_ti, le_ti, eq_ti, ti_0, ti_2] at q0 q1 ⊢; omega) c_)
  obtain ⟨nd, hnd, end_⟩ := nI_of2 (x := a2) (M := 100) (n := 100) rfl (by have q0 := hf2; simp only [lt_ti, ti_0, ti_1] at q0 ⊢; omega) (nlt_le hf3)
  refine lv_aload_n hx hb dX11_years_33 rfl (lv_at hl 0 rfl) ?_
  refine va_get (D := D) (ci := 11) (v := .ref q_58) (C := RX11) (T := TX11) (N := 17) hx hb hts (inC ibX11) hown hG.1 hP 0 rfl rfl 7 (by decide) (hg _ k_427) (fun _ h9 => h9) rfl dX11_years_34 ?_
  refine lv_aload_n hx hb dX11_years_37 rfl (lv_at hl 0 rfl) ?_
  refine va_get (D := D) (ci := 11) (v := .ref q_54) (C := RX11) (T := TX11) (N := 17) hx hb hts (inC ibX11) hown hG.1 hP 0 rfl rfl 6 (by decide) (hg _ k_426) (fun _ h9 => h9) rfl dX11_years_38 ?_
  refine x_v (wr := [(h0, .inr (11, [.ref q_1, .ref q_3, .ref q_4, .ref q_25, .ref q_46, .ref q_50, .ref q_54, .ref q_58, .ref q_62, .int 0, .int 0, .ref q_63, .ref q_64, .ref q_67, .ref q_85, .ref q_90, .ref q_93])), (q_4, .inr (0, [.ref q_1_5, .ref q_2_6, .ref q_3_7, .ref q_4_8, .ref q_5_9, .ref q_6_10, .ref q_7_11, .ref q_8_12, .ref q_9_13, .ref q_10_14, .ref q_11_15, .ref q_12_16, .ref q_13_17, .int 0, .int 0, .int 0, .int 2, .ref q_18_18, .ref q_19_19, .ref q_20_20]))]) hP hD hS hA [3, 2, 7, 8, 9, 4, 5, 6] [0, 1] rfl rfl (by decide) (by decide) (va_runV (As := [.ref q_54]) (rest := []) ⟨hx, hb, hml, hown, hts⟩ (c_X8_copies_1 l D cy q_58 q_54 q1_59 q2_60 q3_61 q1_55 q2_56 q3_57 s.heap.size) (cwV 1 hts (gV km_X11_191 ki_X8_copies kz_X8_copies kn_X8 kc_X8_copies) rfl rfl rfl (by decide +kernel) ⟨(Nat.le_of_ble_eq_true rfl), (Nat.le_of_ble_eq_true rfl)⟩) (preV hG hP hD [3, 2, 7, 8, 9, 4, 5, 6] rfl (by decide) 8 3 rfl rfl) rfl rfl hl.1 rfl (lv_room (Nat.le_of_ble_eq_true rfl)) dX11_years_41 ⟨(Nat.le_of_ble_eq_true rfl), (Nat.le_of_ble_eq_true rfl)⟩) (fun H locs hB hj hS => ?_)
  obtain ⟨hP1, hD1⟩ := hB
  obtain ⟨hP, hD⟩ := hj _ hP1 hD1
  have hP : va_P D vwCl [(h0, .inr (11, [.ref q_1, .ref q_3, .ref q_4, .ref q_25, .ref q_46, .ref q_50, .ref q_54, .ref q_58, .ref q_62, .int 0, .int 0, .ref q_63, .ref q_64, .ref q_67, .ref q_85, .ref q_90, .ref q_93])), (q_4, .inr (0, [.ref q_1_5, .ref q_2_6, .ref q_3_7, .ref q_4_8, .ref q_5_9, .ref q_6_10, .ref q_7_11, .ref q_8_12, .ref q_9_13, .ref q_10_14, .ref q_11_15, .ref q_12_16, .ref q_13_17, .int 0, .int 0, .int 0, .int 2, .ref q_18_18, .ref q_19_19, .ref q_20_20])), (q3_61, .inl (cy 1, 6, .inl (va_cpy (fun _ => 0) (fun _ => 0) 0 0 6))), (q3_57, .inl (cy 1, 6, .inl (fun _ => 0))), (q_58, .inr (8, [.int 0, .int 0, .int 0, .ref q1_59, .ref q2_60, .ref q3_61])), (q_54, .inr (8, [.int 0, .int 0, .int 0, .ref q1_55, .ref q2_56, .ref q3_57])), (q1_59, .inl (cy 1, 6, .inl (va_cpy (fun _ => 0) (fun _ => 0) 0 0 6))), (q2_60, .inl (cy 1, 6, .inl (va_cpy (fun _ => 0) (fun _ => 0) 0 0 6))), (q1_55, .inl (cy 1, 6, .inl (fun _ => 0))), (q2_56, .inl (cy 1, 6, .inl (fun _ => 0)))] H := hP
  have hD : va_D A [(h0, .inr (11, [.ref q_1, .ref q_3, .ref q_4, .ref q_25, .ref q_46, .ref q_50, .ref q_54, .ref q_58, .ref q_62, .int 0, .int 0, .ref q_63, .ref q_64, .ref q_67, .ref q_85, .ref q_90, .ref q_93])), (q_4, .inr (0, [.ref q_1_5, .ref q_2_6, .ref q_3_7, .ref q_4_8, .ref q_5_9, .ref q_6_10, .ref q_7_11, .ref q_8_12, .ref q_9_13, .ref q_10_14, .ref q_11_15, .ref q_12_16, .ref q_13_17, .int 0, .int 0, .int 0, .int 2, .ref q_18_18, .ref q_19_19, .ref q_20_20])), (q3_61, .inl (cy 1, 6, .inl (va_cpy (fun _ => 0) (fun _ => 0) 0 0 6))), (q3_57, .inl (cy 1, 6, .inl (fun _ => 0))), (q_58, .inr (8, [.int 0, .int 0, .int 0, .ref q1_59, .ref q2_60, .ref q3_61])), (q_54, .inr (8, [.int 0, .int 0, .int 0, .ref q1_55, .ref q2_56, .ref q3_57])), (q1_59, .inl (cy 1, 6, .inl (va_cpy (fun _ => 0) (fun _ => 0) 0 0 6))), (q2_60, .inl (cy 1, 6, .inl (va_cpy (fun _ => 0) (fun _ => 0) 0 0 6))), (q1_55, .inl (cy 1, 6, .inl (fun _ => 0))), (q2_56, .inl (cy 1, 6, .inl (fun _ => 0)))] := hD
  refine lv_aload_n hx hb dX11_years_44 rfl (lv_at hl 0 rfl) ?_
  refine va_get (D := D) (ci := 11) (v := .ref q_58) (C := RX11) (T := TX11) (N := 17) hx hb hts (inC ibX11) hown hG.1 hP 0 rfl rfl 7 (by decide) (hg _ k_427) (fun _ h9 => h9) rfl dX11_years_45 ?_
  refine lv_iconst (v := 0) hx hb dX11_years_48 (by decide) ?_
  refine va_put (D := D) (ci := 8) (v := .int 0) (ty := .int) (C := RX8) (T := TX8) (N := 6) hx hb hts (inC ibX8) tyX8 tyX8_ok nmX8 hown hG.1 hP hD hS 4 rfl rfl 2 (by decide) (hg _ k_265) (fun _ h9 => h9) rfl (by decide +kernel) rfl rfl (Nat.le_of_ble_eq_true rfl) dX11_years_49 (fun H locs hP hD hS => ?_)
  have hP : va_P D vwCl [(h0, .inr (11, [.ref q_1, .ref q_3, .ref q_4, .ref q_25, .ref q_46, .ref q_50, .ref q_54, .ref q_58, .ref q_62, .int 0, .int 0, .ref q_63, .ref q_64, .ref q_67, .ref q_85, .ref q_90, .ref q_93])), (q_4, .inr (0, [.ref q_1_5, .ref q_2_6, .ref q_3_7, .ref q_4_8, .ref q_5_9, .ref q_6_10, .ref q_7_11, .ref q_8_12, .ref q_9_13, .ref q_10_14, .ref q_11_15, .ref q_12_16, .ref q_13_17, .int 0, .int 0, .int 0, .int 2, .ref q_18_18, .ref q_19_19, .ref q_20_20])), (q3_61, .inl (cy 1, 6, .inl (va_cpy (fun _ => 0) (fun _ => 0) 0 0 6))), (q3_57, .inl (cy 1, 6, .inl (fun _ => 0))), (q_58, .inr (8, [.int 0, .int 0, .int 0, .ref q1_59, .ref q2_60, .ref q3_61])), (q_54, .inr (8, [.int 0, .int 0, .int 0, .ref q1_55, .ref q2_56, .ref q3_57])), (q1_59, .inl (cy 1, 6, .inl (va_cpy (fun _ => 0) (fun _ => 0) 0 0 6))), (q2_60, .inl (cy 1, 6, .inl (va_cpy (fun _ => 0) (fun _ => 0) 0 0 6))), (q1_55, .inl (cy 1, 6, .inl (fun _ => 0))), (q2_56, .inl (cy 1, 6, .inl (fun _ => 0)))] H := hP
  have hD : va_D A [(h0, .inr (11, [.ref q_1, .ref q_3, .ref q_4, .ref q_25, .ref q_46, .ref q_50, .ref q_54, .ref q_58, .ref q_62, .int 0, .int 0, .ref q_63, .ref q_64, .ref q_67, .ref q_85, .ref q_90, .ref q_93])), (q_4, .inr (0, [.ref q_1_5, .ref q_2_6, .ref q_3_7, .ref q_4_8, .ref q_5_9, .ref q_6_10, .ref q_7_11, .ref q_8_12, .ref q_9_13, .ref q_10_14, .ref q_11_15, .ref q_12_16, .ref q_13_17, .int 0, .int 0, .int 0, .int 2, .ref q_18_18, .ref q_19_19, .ref q_20_20])), (q3_61, .inl (cy 1, 6, .inl (va_cpy (fun _ => 0) (fun _ => 0) 0 0 6))), (q3_57, .inl (cy 1, 6, .inl (fun _ => 0))), (q_58, .inr (8, [.int 0, .int 0, .int 0, .ref q1_59, .ref q2_60, .ref q3_61])), (q_54, .inr (8, [.int 0, .int 0, .int 0, .ref q1_55, .ref q2_56, .ref q3_57])), (q1_59, .inl (cy 1, 6, .inl (va_cpy (fun _ => 0) (fun _ => 0) 0 0 6))), (q2_60, .inl (cy 1, 6, .inl (va_cpy (fun _ => 0) (fun _ => 0) 0 0 6))), (q1_55, .inl (cy 1, 6, .inl (fun _ => 0))), (q2_56, .inl (cy 1, 6, .inl (fun _ => 0)))] := hD
  refine lv_iconst (v := 0) hx hb dX11_years_52 (by decide) ?_
  refine lv_istore (lv' := [(4, .int 0), (0, .ref h0), (1, .int a1), (2, .int a2), (3, .int a3)]) hx hb dX11_years_53 hl (by decide) rfl (fun ls hl => ?_)
  refine lv_iload_n hx hb dX11_years_55 rfl (lv_at hl 2 rfl) ?_
  refine lv_i2l (v := a1.toInt64) hx hb dX11_years_56 rfl ?_
  refine lv_topl (fun x5_1 ex5_1 => ?_)
  refine lv_lstore (lv' := [(5, .long x5_1), (4, .int 0), (0, .ref h0), (1, .int a1), (2, .int a2), (3, .int a3)]) hx hb dX11_years_57 hl (by decide) rfl (fun ls hl => ?_)
  refine lv_iconst (v := 0) hx hb dX11_years_59 (by decide) ?_
  refine lv_istore (lv' := [(7, .int 0), (5, .long x5_1), (4, .int 0), (0, .ref h0), (1, .int a1), (2, .int a2), (3, .int a3)]) hx hb dX11_years_60 hl (by decide) rfl (fun ls hl => ?_)
  have LP_2 : ∀ (n_ : Nat) (i : Nat) (x7 : Int32) (dr : Int64) (dy : Int32), nd - i < n_ → i ≤ nd → x7 = nI i → ∀ (H : Heap) (locs : List Loc), va_P D vwCl [(h0, .inr (11, [.ref q_1, .ref q_3, .ref q_4, .ref q_25, .ref q_46, .ref q_50, .ref q_54, .ref q_58, .ref q_62, .int 0, .int 0, .ref q_63, .ref q_64, .ref q_67, .ref q_85, .ref q_90, .ref q_93])), (q_4, .inr (0, [.ref q_1_5, .ref q_2_6, .ref q_3_7, .ref q_4_8, .ref q_5_9, .ref q_6_10, .ref q_7_11, .ref q_8_12, .ref q_9_13, .ref q_10_14, .ref q_11_15, .ref q_12_16, .ref q_13_17, .int 0, .int 0, .int 0, .int 2, .ref q_18_18, .ref q_19_19, .ref q_20_20])), (q3_61, .inl (cy 1, 6, .inl (va_cpy (fun _ => 0) (fun _ => 0) 0 0 6))), (q3_57, .inl (cy 1, 6, .inl (fun _ => 0))), (q_58, .inr (8, [.int dy, .int 0, .int 0, .ref q1_59, .ref q2_60, .ref q3_61])), (q_54, .inr (8, [.int 0, .int 0, .int 0, .ref q1_55, .ref q2_56, .ref q3_57])), (q1_59, .inl (cy 1, 6, .inl (va_cpy (fun _ => 0) (fun _ => 0) 0 0 6))), (q2_60, .inl (cy 1, 6, .inl (va_cpy (fun _ => 0) (fun _ => 0) 0 0 6))), (q1_55, .inl (cy 1, 6, .inl (fun _ => 0))), (q2_56, .inl (cy 1, 6, .inl (fun _ => 0)))] H → va_D A [(h0, .inr (11, [.ref q_1, .ref q_3, .ref q_4, .ref q_25, .ref q_46, .ref q_50, .ref q_54, .ref q_58, .ref q_62, .int 0, .int 0, .ref q_63, .ref q_64, .ref q_67, .ref q_85, .ref q_90, .ref q_93])), (q_4, .inr (0, [.ref q_1_5, .ref q_2_6, .ref q_3_7, .ref q_4_8, .ref q_5_9, .ref q_6_10, .ref q_7_11, .ref q_8_12, .ref q_9_13, .ref q_10_14, .ref q_11_15, .ref q_12_16, .ref q_13_17, .int 0, .int 0, .int 0, .int 2, .ref q_18_18, .ref q_19_19, .ref q_20_20])), (q3_61, .inl (cy 1, 6, .inl (va_cpy (fun _ => 0) (fun _ => 0) 0 0 6))), (q3_57, .inl (cy 1, 6, .inl (fun _ => 0))), (q_58, .inr (8, [.int dy, .int 0, .int 0, .ref q1_59, .ref q2_60, .ref q3_61])), (q_54, .inr (8, [.int 0, .int 0, .int 0, .ref q1_55, .ref q2_56, .ref q3_57])), (q1_59, .inl (cy 1, 6, .inl (va_cpy (fun _ => 0) (fun _ => 0) 0 0 6))), (q2_60, .inl (cy 1, 6, .inl (va_cpy (fun _ => 0) (fun _ => 0) 0 0 6))), (q1_55, .inl (cy 1, 6, .inl (fun _ => 0))), (q2_56, .inl (cy 1, 6, .inl (fun _ => 0)))] → va_S A s.heap H locs → ∀ (ls : Array Slot), lv_has ls 8 [(7, .int x7), (5, .long dr), (4, .int 0), (0, .ref h0), (1, .int a1), (2, .int a2), (3, .int a3)] → W p l e (headSpec (Cond.code yX11_years cX11_years 8 (some .int) :: bigG) { frames := 3, cells := 0, slots := 0, locals := 82 }).room s m ([.ref h0, .int a1, .int a2, .int a3] : List Value).toArray below meth c H locs 0 0 Q (F0 m 62 ls []) := by
    intro n_
    induction n_ with
    | zero => intro i x7 dr dy hm_; exact absurd hm_ (Nat.not_lt_zero _)
    | succ n_ ih =>
      intro i x7 dr dy hm_ hi ex7 H locs hP hD hS ls hl
      refine lv_iload hx hb dX11_years_62 (lv_at hl 0 rfl) ?_
      refine lv_iload_n hx hb dX11_years_64 rfl (lv_at hl 5 rfl) ?_
      refine lv_icmp_ge (tgt := 156) hx hb dX11_years_65 (by decide) (fun c_3 => ?_) (fun c_3 => ?_)
      · refine lv_iload_n hx hb dX11_years_156 rfl (lv_at hl 6 rfl) ?_
        refine lv_if_ne (tgt := 163) hx hb dX11_years_157 (by decide) (fun c_4 => ?_) (fun c_4 => ?_)
        · refine lv_iload_n hx hb dX11_years_163 rfl (lv_at hl 6 rfl) ?_
          refine lv_iconst (v := 1) hx hb dX11_years_164 (by decide) ?_
          refine lv_icmp_ne (tgt := 178) hx hb dX11_years_165 (by decide) (fun c_5 => ?_) (fun c_5 => ?_)
          · refine lv_aload_n hx hb dX11_years_178 rfl (lv_at hl 3 rfl) ?_
            refine va_get (D := D) (ci := 11) (v := .ref q_58) (C := RX11) (T := TX11) (N := 17) hx hb hts (inC ibX11) hown hG.1 hP 0 rfl rfl 7 (by decide) (hg _ k_427) (fun _ h9 => h9) rfl dX11_years_179 ?_
            refine va_get (D := D) (ci := 8) (v := .int 0) (C := RX8) (T := TX8) (N := 6) hx hb hts (inC ibX8) hown hG.1 hP 4 rfl rfl 1 (by decide) (hg _ k_263) (fun _ h9 => h9) rfl dX11_years_182 ?_
            have hP9 := hP.sub (ws' := []) [] rfl
            have hD9 := hD.sub (ws' := []) [] (by decide) rfl
            subst hQ
            exact W.iret (v := 0) hx hb hr (fun t ht hW => qi_mk (by rw [ht]; exact ⟨rfl, hP9, hD9⟩) (hS.F ht)) hS.2.2 dX11_years_185
          · refine lv_aload_n hx hb dX11_years_168 rfl (lv_at hl 3 rfl) ?_
            refine va_get (D := D) (ci := 11) (v := .ref q_58) (C := RX11) (T := TX11) (N := 17) hx hb hts (inC ibX11) hown hG.1 hP 0 rfl rfl 7 (by decide) (hg _ k_427) (fun _ h9 => h9) rfl dX11_years_169 ?_
            refine va_get (D := D) (ci := 8) (v := .int 0) (C := RX8) (T := TX8) (N := 6) hx hb hts (inC ibX8) hown hG.1 hP 4 rfl rfl 2 (by decide) (hg _ k_265) (fun _ h9 => h9) rfl dX11_years_172 ?_
            refine lv_goto (tgt := 185) hx hb dX11_years_175 (by decide) ?_
            have hP9 := hP.sub (ws' := []) [] rfl
            have hD9 := hD.sub (ws' := []) [] (by decide) rfl
            subst hQ
            exact W.iret (v := 0) hx hb hr (fun t ht hW => qi_mk (by rw [ht]; exact ⟨rfl, hP9, hD9⟩) (hS.F ht)) hS.2.2 dX11_years_185
        · refine lv_iload hx hb dX11_years_160 (lv_at hl 2 rfl) ?_
          have hP9 := hP.sub (ws' := []) [] rfl
          have hD9 := hD.sub (ws' := []) [] (by decide) rfl
          subst hQ
          exact W.iret (v := 0) hx hb hr (fun t ht hW => qi_mk (by rw [ht]; exact ⟨rfl, hP9, hD9⟩) (hS.F ht)) hS.2.2 dX11_years_162
      · have hlt : i < nd := Nat.lt_of_not_le fun q => c_3 (by rw [end_, ex7]; exact nI_le q (by omega))
        refine lv_lload hx hb dX11_years_68 (lv_at hl 1 rfl) ?_
        refine x_l (wr := [(h0, .inr (11, [.ref q_1, .ref q_3, .ref q_4, .ref q_25, .ref q_46, .ref q_50, .ref q_54, .ref q_58, .ref q_62, .int 0, .int 0, .ref q_63, .ref q_64, .ref q_67, .ref q_85, .ref q_90, .ref q_93])), (q_4, .inr (0, [.ref q_1_5, .ref q_2_6, .ref q_3_7, .ref q_4_8, .ref q_5_9, .ref q_6_10, .ref q_7_11, .ref q_8_12, .ref q_9_13, .ref q_10_14, .ref q_11_15, .ref q_12_16, .ref q_13_17, .int 0, .int 0, .int 0, .int 2, .ref q_18_18, .ref q_19_19, .ref q_20_20])), (q3_61, .inl (cy 1, 6, .inl (va_cpy (fun _ => 0) (fun _ => 0) 0 0 6))), (q3_57, .inl (cy 1, 6, .inl (fun _ => 0))), (q_58, .inr (8, [.int dy, .int 0, .int 0, .ref q1_59, .ref q2_60, .ref q3_61])), (q_54, .inr (8, [.int 0, .int 0, .int 0, .ref q1_55, .ref q2_56, .ref q3_57])), (q1_59, .inl (cy 1, 6, .inl (va_cpy (fun _ => 0) (fun _ => 0) 0 0 6))), (q2_60, .inl (cy 1, 6, .inl (va_cpy (fun _ => 0) (fun _ => 0) 0 0 6))), (q1_55, .inl (cy 1, 6, .inl (fun _ => 0))), (q2_56, .inl (cy 1, 6, .inl (fun _ => 0)))]) hP hD hS hA [] [0, 1, 2, 3, 4, 5, 6, 7, 8, 9] rfl rfl (by decide) (by decide) (va_runS (As := [.long dr]) (rest := []) ⟨hx, hb, hml, hown, hts⟩ (c_X11_nextDraw_1 l D cy dr H.size) (va_cwS 1 hts (gS km_X11_290 kt_X11_nextDraw kn_X11 kc_X11_nextDraw) rfl rfl rfl (by decide +kernel) ⟨(Nat.le_of_ble_eq_true rfl), (Nat.le_of_ble_eq_true rfl)⟩) (preS hG hP hD [] rfl (by decide)) rfl rfl hl.1 rfl (lv_room (Nat.le_of_ble_eq_true rfl)) dX11_years_70 ⟨(Nat.le_of_ble_eq_true rfl), (Nat.le_of_ble_eq_true rfl)⟩) (fun r_6 H locs hB hj hS => ?_)
        obtain ⟨hP1, hD1⟩ := hB
        obtain ⟨hP, hD⟩ := hj _ hP1 hD1
        have hP : va_P D vwCl [(h0, .inr (11, [.ref q_1, .ref q_3, .ref q_4, .ref q_25, .ref q_46, .ref q_50, .ref q_54, .ref q_58, .ref q_62, .int 0, .int 0, .ref q_63, .ref q_64, .ref q_67, .ref q_85, .ref q_90, .ref q_93])), (q_4, .inr (0, [.ref q_1_5, .ref q_2_6, .ref q_3_7, .ref q_4_8, .ref q_5_9, .ref q_6_10, .ref q_7_11, .ref q_8_12, .ref q_9_13, .ref q_10_14, .ref q_11_15, .ref q_12_16, .ref q_13_17, .int 0, .int 0, .int 0, .int 2, .ref q_18_18, .ref q_19_19, .ref q_20_20])), (q3_61, .inl (cy 1, 6, .inl (va_cpy (fun _ => 0) (fun _ => 0) 0 0 6))), (q3_57, .inl (cy 1, 6, .inl (fun _ => 0))), (q_58, .inr (8, [.int dy, .int 0, .int 0, .ref q1_59, .ref q2_60, .ref q3_61])), (q_54, .inr (8, [.int 0, .int 0, .int 0, .ref q1_55, .ref q2_56, .ref q3_57])), (q1_59, .inl (cy 1, 6, .inl (va_cpy (fun _ => 0) (fun _ => 0) 0 0 6))), (q2_60, .inl (cy 1, 6, .inl (va_cpy (fun _ => 0) (fun _ => 0) 0 0 6))), (q1_55, .inl (cy 1, 6, .inl (fun _ => 0))), (q2_56, .inl (cy 1, 6, .inl (fun _ => 0)))] H := hP
        have hD : va_D A [(h0, .inr (11, [.ref q_1, .ref q_3, .ref q_4, .ref q_25, .ref q_46, .ref q_50, .ref q_54, .ref q_58, .ref q_62, .int 0, .int 0, .ref q_63, .ref q_64, .ref q_67, .ref q_85, .ref q_90, .ref q_93])), (q_4, .inr (0, [.ref q_1_5, .ref q_2_6, .ref q_3_7, .ref q_4_8, .ref q_5_9, .ref q_6_10, .ref q_7_11, .ref q_8_12, .ref q_9_13, .ref q_10_14, .ref q_11_15, .ref q_12_16, .ref q_13_17, .int 0, .int 0, .int 0, .int 2, .ref q_18_18, .ref q_19_19, .ref q_20_20])), (q3_61, .inl (cy 1, 6, .inl (va_cpy (fun _ => 0) (fun _ => 0) 0 0 6))), (q3_57, .inl (cy 1, 6, .inl (fun _ => 0))), (q_58, .inr (8, [.int dy, .int 0, .int 0, .ref q1_59, .ref q2_60, .ref q3_61])), (q_54, .inr (8, [.int 0, .int 0, .int 0, .ref q1_55, .ref q2_56, .ref q3_57])), (q1_59, .inl (cy 1, 6, .inl (va_cpy (fun _ => 0) (fun _ => 0) 0 0 6))), (q2_60, .inl (cy 1, 6, .inl (va_cpy (fun _ => 0) (fun _ => 0) 0 0 6))), (q1_55, .inl (cy 1, 6, .inl (fun _ => 0))), (q2_56, .inl (cy 1, 6, .inl (fun _ => 0)))] := hD
        refine lv_lstore (lv' := [(5, .long r_6), (7, .int x7), (4, .int 0), (0, .ref h0), (1, .int a1), (2, .int a2), (3, .int a3)]) hx hb dX11_years_73 hl (by decide) rfl (fun ls hl => ?_)
        refine lv_lload hx hb dX11_years_75 (lv_at hl 0 rfl) ?_
        refine lv_bipush (v := 10) hx hb dX11_years_77 (by decide) ?_
        refine x_i (wr := [(h0, .inr (11, [.ref q_1, .ref q_3, .ref q_4, .ref q_25, .ref q_46, .ref q_50, .ref q_54, .ref q_58, .ref q_62, .int 0, .int 0, .ref q_63, .ref q_64, .ref q_67, .ref q_85, .ref q_90, .ref q_93])), (q_4, .inr (0, [.ref q_1_5, .ref q_2_6, .ref q_3_7, .ref q_4_8, .ref q_5_9, .ref q_6_10, .ref q_7_11, .ref q_8_12, .ref q_9_13, .ref q_10_14, .ref q_11_15, .ref q_12_16, .ref q_13_17, .int 0, .int 0, .int 0, .int 2, .ref q_18_18, .ref q_19_19, .ref q_20_20])), (q3_61, .inl (cy 1, 6, .inl (va_cpy (fun _ => 0) (fun _ => 0) 0 0 6))), (q3_57, .inl (cy 1, 6, .inl (fun _ => 0))), (q_58, .inr (8, [.int dy, .int 0, .int 0, .ref q1_59, .ref q2_60, .ref q3_61])), (q_54, .inr (8, [.int 0, .int 0, .int 0, .ref q1_55, .ref q2_56, .ref q3_57])), (q1_59, .inl (cy 1, 6, .inl (va_cpy (fun _ => 0) (fun _ => 0) 0 0 6))), (q2_60, .inl (cy 1, 6, .inl (va_cpy (fun _ => 0) (fun _ => 0) 0 0 6))), (q1_55, .inl (cy 1, 6, .inl (fun _ => 0))), (q2_56, .inl (cy 1, 6, .inl (fun _ => 0)))]) hP hD hS hA [] [0, 1, 2, 3, 4, 5, 6, 7, 8, 9] rfl rfl (by decide) (by decide) (va_runS (As := [.long r_6, .int 10]) (rest := []) ⟨hx, hb, hml, hown, hts⟩ (c_X11_drawBelow_1 l D cy r_6 H.size) (va_cwS 2 hts (gS km_X11_294 kt_X11_drawBelow kn_X11 kc_X11_drawBelow) rfl rfl rfl (by decide +kernel) ⟨(Nat.le_of_ble_eq_true rfl), (Nat.le_of_ble_eq_true rfl)⟩) (preS hG hP hD [] rfl (by decide)) rfl rfl hl.1 rfl (lv_room (Nat.le_of_ble_eq_true rfl)) dX11_years_79 ⟨(Nat.le_of_ble_eq_true rfl), (Nat.le_of_ble_eq_true rfl)⟩) (fun r_7 H locs hB hj hS => ?_)
        obtain ⟨hP1, hD1⟩ := hB
        obtain ⟨hP, hD⟩ := hj _ hP1 hD1
        have hP : va_P D vwCl [(h0, .inr (11, [.ref q_1, .ref q_3, .ref q_4, .ref q_25, .ref q_46, .ref q_50, .ref q_54, .ref q_58, .ref q_62, .int 0, .int 0, .ref q_63, .ref q_64, .ref q_67, .ref q_85, .ref q_90, .ref q_93])), (q_4, .inr (0, [.ref q_1_5, .ref q_2_6, .ref q_3_7, .ref q_4_8, .ref q_5_9, .ref q_6_10, .ref q_7_11, .ref q_8_12, .ref q_9_13, .ref q_10_14, .ref q_11_15, .ref q_12_16, .ref q_13_17, .int 0, .int 0, .int 0, .int 2, .ref q_18_18, .ref q_19_19, .ref q_20_20])), (q3_61, .inl (cy 1, 6, .inl (va_cpy (fun _ => 0) (fun _ => 0) 0 0 6))), (q3_57, .inl (cy 1, 6, .inl (fun _ => 0))), (q_58, .inr (8, [.int dy, .int 0, .int 0, .ref q1_59, .ref q2_60, .ref q3_61])), (q_54, .inr (8, [.int 0, .int 0, .int 0, .ref q1_55, .ref q2_56, .ref q3_57])), (q1_59, .inl (cy 1, 6, .inl (va_cpy (fun _ => 0) (fun _ => 0) 0 0 6))), (q2_60, .inl (cy 1, 6, .inl (va_cpy (fun _ => 0) (fun _ => 0) 0 0 6))), (q1_55, .inl (cy 1, 6, .inl (fun _ => 0))), (q2_56, .inl (cy 1, 6, .inl (fun _ => 0)))] H := hP
        have hD : va_D A [(h0, .inr (11, [.ref q_1, .ref q_3, .ref q_4, .ref q_25, .ref q_46, .ref q_50, .ref q_54, .ref q_58, .ref q_62, .int 0, .int 0, .ref q_63, .ref q_64, .ref q_67, .ref q_85, .ref q_90, .ref q_93])), (q_4, .inr (0, [.ref q_1_5, .ref q_2_6, .ref q_3_7, .ref q_4_8, .ref q_5_9, .ref q_6_10, .ref q_7_11, .ref q_8_12, .ref q_9_13, .ref q_10_14, .ref q_11_15, .ref q_12_16, .ref q_13_17, .int 0, .int 0, .int 0, .int 2, .ref q_18_18, .ref q_19_19, .ref q_20_20])), (q3_61, .inl (cy 1, 6, .inl (va_cpy (fun _ => 0) (fun _ => 0) 0 0 6))), (q3_57, .inl (cy 1, 6, .inl (fun _ => 0))), (q_58, .inr (8, [.int dy, .int 0, .int 0, .ref q1_59, .ref q2_60, .ref q3_61])), (q_54, .inr (8, [.int 0, .int 0, .int 0, .ref q1_55, .ref q2_56, .ref q3_57])), (q1_59, .inl (cy 1, 6, .inl (va_cpy (fun _ => 0) (fun _ => 0) 0 0 6))), (q2_60, .inl (cy 1, 6, .inl (va_cpy (fun _ => 0) (fun _ => 0) 0 0 6))), (q1_55, .inl (cy 1, 6, .inl (fun _ => 0))), (q2_56, .inl (cy 1, 6, .inl (fun _ => 0)))] := hD
        refine lv_if_ne (tgt := 106) hx hb dX11_years_82 (by decide) (fun c_8 => ?_) (fun c_8 => ?_)
        · refine lv_aload_n hx hb dX11_years_106 rfl (lv_at hl 3 rfl) ?_
          refine va_get (D := D) (ci := 11) (v := .ref q_4) (C := RX11) (T := TX11) (N := 17) hx hb hts (inC ibX11) hown hG.1 hP 0 rfl rfl 2 (by decide) (hg _ k_422) (fun _ h9 => h9) rfl dX11_years_107 ?_
          refine va_get (D := D) (ci := 0) (v := .int 0) (C := RX0) (T := TX0) (N := 20) hx hb hts (inC ibX0) hown hG.1 hP 1 rfl rfl 13 (by decide) (hg _ k_177) (fun _ h9 => h9) rfl dX11_years_110 ?_
          refine lv_if_le (tgt := 134) hx hb dX11_years_113 (by decide) (fun _ => ?_) (fun c_ => absurd (by decide) c_)
          refine lv_iload hx hb dX11_years_134 (lv_at hl 2 rfl) ?_
          refine lv_aload_n hx hb dX11_years_136 rfl (lv_at hl 3 rfl) ?_
          refine va_get (D := D) (ci := 11) (v := .ref q_58) (C := RX11) (T := TX11) (N := 17) hx hb hts (inC ibX11) hown hG.1 hP 0 rfl rfl 7 (by decide) (hg _ k_427) (fun _ h9 => h9) rfl dX11_years_137 ?_
          refine lv_aload_n hx hb dX11_years_140 rfl (lv_at hl 3 rfl) ?_
          refine va_get (D := D) (ci := 11) (v := .ref q_4) (C := RX11) (T := TX11) (N := 17) hx hb hts (inC ibX11) hown hG.1 hP 0 rfl rfl 2 (by decide) (hg _ k_422) (fun _ h9 => h9) rfl dX11_years_141 ?_
          refine x_i (wr := [(h0, .inr (11, [.ref q_1, .ref q_3, .ref q_4, .ref q_25, .ref q_46, .ref q_50, .ref q_54, .ref q_58, .ref q_62, .int 0, .int 0, .ref q_63, .ref q_64, .ref q_67, .ref q_85, .ref q_90, .ref q_93])), (q3_61, .inl (cy 1, 6, .inl (va_cpy (fun _ => 0) (fun _ => 0) 0 0 6))), (q3_57, .inl (cy 1, 6, .inl (fun _ => 0))), (q_54, .inr (8, [.int 0, .int 0, .int 0, .ref q1_55, .ref q2_56, .ref q3_57])), (q1_59, .inl (cy 1, 6, .inl (va_cpy (fun _ => 0) (fun _ => 0) 0 0 6))), (q2_60, .inl (cy 1, 6, .inl (va_cpy (fun _ => 0) (fun _ => 0) 0 0 6))), (q1_55, .inl (cy 1, 6, .inl (fun _ => 0))), (q2_56, .inl (cy 1, 6, .inl (fun _ => 0)))]) hP hD hS hA [4, 1] [0, 2, 3, 5, 6, 7, 8, 9] rfl rfl (by decide) (by decide) (va_runV (As := [.ref q_4]) (rest := [.int 0]) ⟨hx, hb, hml, hown, hts⟩ (c_X8_endsDay_1 l D cy q_58 q_4 dy q1_59 q2_60 q3_61 q_1_5 q_2_6 q_3_7 q_4_8 q_5_9 q_6_10 q_7_11 q_8_12 q_9_13 q_10_14 q_11_15 q_12_16 q_13_17 q_18_18 q_19_19 q_20_20 H.size) (cwV 1 hts (gV km_X11_180 ki_X8_endsDay kz_X8_endsDay kn_X8 kc_X8_endsDay) rfl rfl rfl (by decide +kernel) ⟨(Nat.le_of_ble_eq_true rfl), (Nat.le_of_ble_eq_true rfl)⟩) (preV hG hP hD [4, 1] rfl (by decide) 8 4 rfl rfl) rfl rfl hl.1 rfl (lv_room (Nat.le_of_ble_eq_true rfl)) dX11_years_144 ⟨(Nat.le_of_ble_eq_true rfl), (Nat.le_of_ble_eq_true rfl)⟩) (fun r_9 H locs hB hj hS => ?_)
          obtain ⟨hres, hP1, hD1⟩ := hB
          subst hres
          obtain ⟨hP, hD⟩ := hj _ hP1 hD1
          have hP : va_P D vwCl [(h0, .inr (11, [.ref q_1, .ref q_3, .ref q_4, .ref q_25, .ref q_46, .ref q_50, .ref q_54, .ref q_58, .ref q_62, .int 0, .int 0, .ref q_63, .ref q_64, .ref q_67, .ref q_85, .ref q_90, .ref q_93])), (q3_61, .inl (cy 1, 6, .inl (va_cpy (fun _ => 0) (fun _ => 0) 0 0 6))), (q3_57, .inl (cy 1, 6, .inl (fun _ => 0))), (q_54, .inr (8, [.int 0, .int 0, .int 0, .ref q1_55, .ref q2_56, .ref q3_57])), (q1_59, .inl (cy 1, 6, .inl (va_cpy (fun _ => 0) (fun _ => 0) 0 0 6))), (q2_60, .inl (cy 1, 6, .inl (va_cpy (fun _ => 0) (fun _ => 0) 0 0 6))), (q1_55, .inl (cy 1, 6, .inl (fun _ => 0))), (q2_56, .inl (cy 1, 6, .inl (fun _ => 0))), (q_58, .inr (8, [.int (dy + 1), .int 0, .int 0, .ref q1_59, .ref q2_60, .ref q3_61])), (q_4, .inr (0, [.ref q_1_5, .ref q_2_6, .ref q_3_7, .ref q_4_8, .ref q_5_9, .ref q_6_10, .ref q_7_11, .ref q_8_12, .ref q_9_13, .ref q_10_14, .ref q_11_15, .ref q_12_16, .ref q_13_17, .int 0, .int 0, .int 0, .int 2, .ref q_18_18, .ref q_19_19, .ref q_20_20]))] H := hP
          have hD : va_D A [(h0, .inr (11, [.ref q_1, .ref q_3, .ref q_4, .ref q_25, .ref q_46, .ref q_50, .ref q_54, .ref q_58, .ref q_62, .int 0, .int 0, .ref q_63, .ref q_64, .ref q_67, .ref q_85, .ref q_90, .ref q_93])), (q3_61, .inl (cy 1, 6, .inl (va_cpy (fun _ => 0) (fun _ => 0) 0 0 6))), (q3_57, .inl (cy 1, 6, .inl (fun _ => 0))), (q_54, .inr (8, [.int 0, .int 0, .int 0, .ref q1_55, .ref q2_56, .ref q3_57])), (q1_59, .inl (cy 1, 6, .inl (va_cpy (fun _ => 0) (fun _ => 0) 0 0 6))), (q2_60, .inl (cy 1, 6, .inl (va_cpy (fun _ => 0) (fun _ => 0) 0 0 6))), (q1_55, .inl (cy 1, 6, .inl (fun _ => 0))), (q2_56, .inl (cy 1, 6, .inl (fun _ => 0))), (q_58, .inr (8, [.int (dy + 1), .int 0, .int 0, .ref q1_59, .ref q2_60, .ref q3_61])), (q_4, .inr (0, [.ref q_1_5, .ref q_2_6, .ref q_3_7, .ref q_4_8, .ref q_5_9, .ref q_6_10, .ref q_7_11, .ref q_8_12, .ref q_9_13, .ref q_10_14, .ref q_11_15, .ref q_12_16, .ref q_13_17, .int 0, .int 0, .int 0, .int 2, .ref q_18_18, .ref q_19_19, .ref q_20_20]))] := hD
          refine m_iadd (v := 0) hx hb dX11_years_147 (by decide) ?_
          refine lv_istore (lv' := [(4, .int 0), (5, .long r_6), (7, .int x7), (0, .ref h0), (1, .int a1), (2, .int a2), (3, .int a3)]) hx hb dX11_years_148 hl (by decide) rfl (fun ls hl => ?_)
          obtain ⟨x7_10, ex7_10⟩ : ∃ y : Int32, y = x7 + 1 := ⟨_, rfl⟩
          refine lv_iinc (v := x7_10) (lv' := [(7, .int x7_10), (4, .int 0), (5, .long r_6), (0, .ref h0), (1, .int a1), (2, .int a2), (3, .int a3)]) hx hb dX11_years_150 hl (k := 2) rfl (by rw [ex7_10]; rfl) (by decide) rfl (fun ls hl => ?_)
          refine lv_goto (tgt := 62) hx hb dX11_years_153 (by decide) ?_
          exact ih (i + 1) x7_10 r_6 (dy + 1) (by omega) hlt (by rw [ex7_10, ex7]; exact nI_1 i) _ _ (hP.sub [0, 9, 1, 2, 8, 3, 4, 5, 6, 7] rfl) (hD.sub [0, 9, 1, 2, 8, 3, 4, 5, 6, 7] (by decide) rfl) hS ls (lv_sub hl [0, 2, 1, 3, 4, 5, 6] rfl)
        · refine lv_aload_n hx hb dX11_years_85 rfl (lv_at hl 3 rfl) ?_
          refine va_get (D := D) (ci := 11) (v := .ref q_58) (C := RX11) (T := TX11) (N := 17) hx hb hts (inC ibX11) hown hG.1 hP 0 rfl rfl 7 (by decide) (hg _ k_427) (fun _ h9 => h9) rfl dX11_years_86 ?_
          refine lv_dup hx hb dX11_years_89 rfl ?_
          refine va_get (D := D) (ci := 8) (v := .int 0) (C := RX8) (T := TX8) (N := 6) hx hb hts (inC ibX8) hown hG.1 hP 4 rfl rfl 1 (by decide) (hg _ k_263) (fun _ h9 => h9) rfl dX11_years_90 ?_
          refine lv_aload_n hx hb dX11_years_93 rfl (lv_at hl 3 rfl) ?_
          refine va_get (D := D) (ci := 11) (v := .ref q_58) (C := RX11) (T := TX11) (N := 17) hx hb hts (inC ibX11) hown hG.1 hP 0 rfl rfl 7 (by decide) (hg _ k_427) (fun _ h9 => h9) rfl dX11_years_94 ?_
          refine va_get (D := D) (ci := 8) (v := .int 0) (C := RX8) (T := TX8) (N := 6) hx hb hts (inC ibX8) hown hG.1 hP 4 rfl rfl 1 (by decide) (hg _ k_263) (fun _ h9 => h9) rfl dX11_years_97 ?_
          refine lv_iconst (v := 2) hx hb dX11_years_100 (by decide) ?_
          refine m_idiv (v := 0) hx hb dX11_years_101 (by decide) (by decide) ?_
          refine m_isub (v := 0) hx hb dX11_years_102 (by decide) ?_
          refine va_put (D := D) (ci := 8) (v := .int 0) (ty := .int) (C := RX8) (T := TX8) (N := 6) hx hb hts (inC ibX8) tyX8 tyX8_ok nmX8 hown hG.1 hP hD hS 4 rfl rfl 1 (by decide) (hg _ k_263) (fun _ h9 => h9) rfl (by decide +kernel) rfl rfl (Nat.le_of_ble_eq_true rfl) dX11_years_103 (fun H locs hP hD hS => ?_)
          have hP : va_P D vwCl [(h0, .inr (11, [.ref q_1, .ref q_3, .ref q_4, .ref q_25, .ref q_46, .ref q_50, .ref q_54, .ref q_58, .ref q_62, .int 0, .int 0, .ref q_63, .ref q_64, .ref q_67, .ref q_85, .ref q_90, .ref q_93])), (q_4, .inr (0, [.ref q_1_5, .ref q_2_6, .ref q_3_7, .ref q_4_8, .ref q_5_9, .ref q_6_10, .ref q_7_11, .ref q_8_12, .ref q_9_13, .ref q_10_14, .ref q_11_15, .ref q_12_16, .ref q_13_17, .int 0, .int 0, .int 0, .int 2, .ref q_18_18, .ref q_19_19, .ref q_20_20])), (q3_61, .inl (cy 1, 6, .inl (va_cpy (fun _ => 0) (fun _ => 0) 0 0 6))), (q3_57, .inl (cy 1, 6, .inl (fun _ => 0))), (q_58, .inr (8, [.int dy, .int 0, .int 0, .ref q1_59, .ref q2_60, .ref q3_61])), (q_54, .inr (8, [.int 0, .int 0, .int 0, .ref q1_55, .ref q2_56, .ref q3_57])), (q1_59, .inl (cy 1, 6, .inl (va_cpy (fun _ => 0) (fun _ => 0) 0 0 6))), (q2_60, .inl (cy 1, 6, .inl (va_cpy (fun _ => 0) (fun _ => 0) 0 0 6))), (q1_55, .inl (cy 1, 6, .inl (fun _ => 0))), (q2_56, .inl (cy 1, 6, .inl (fun _ => 0)))] H := hP
          have hD : va_D A [(h0, .inr (11, [.ref q_1, .ref q_3, .ref q_4, .ref q_25, .ref q_46, .ref q_50, .ref q_54, .ref q_58, .ref q_62, .int 0, .int 0, .ref q_63, .ref q_64, .ref q_67, .ref q_85, .ref q_90, .ref q_93])), (q_4, .inr (0, [.ref q_1_5, .ref q_2_6, .ref q_3_7, .ref q_4_8, .ref q_5_9, .ref q_6_10, .ref q_7_11, .ref q_8_12, .ref q_9_13, .ref q_10_14, .ref q_11_15, .ref q_12_16, .ref q_13_17, .int 0, .int 0, .int 0, .int 2, .ref q_18_18, .ref q_19_19, .ref q_20_20])), (q3_61, .inl (cy 1, 6, .inl (va_cpy (fun _ => 0) (fun _ => 0) 0 0 6))), (q3_57, .inl (cy 1, 6, .inl (fun _ => 0))), (q_58, .inr (8, [.int dy, .int 0, .int 0, .ref q1_59, .ref q2_60, .ref q3_61])), (q_54, .inr (8, [.int 0, .int 0, .int 0, .ref q1_55, .ref q2_56, .ref q3_57])), (q1_59, .inl (cy 1, 6, .inl (va_cpy (fun _ => 0) (fun _ => 0) 0 0 6))), (q2_60, .inl (cy 1, 6, .inl (va_cpy (fun _ => 0) (fun _ => 0) 0 0 6))), (q1_55, .inl (cy 1, 6, .inl (fun _ => 0))), (q2_56, .inl (cy 1, 6, .inl (fun _ => 0)))] := hD
          refine lv_aload_n hx hb dX11_years_106 rfl (lv_at hl 3 rfl) ?_
          refine va_get (D := D) (ci := 11) (v := .ref q_4) (C := RX11) (T := TX11) (N := 17) hx hb hts (inC ibX11) hown hG.1 hP 0 rfl rfl 2 (by decide) (hg _ k_422) (fun _ h9 => h9) rfl dX11_years_107 ?_
          refine va_get (D := D) (ci := 0) (v := .int 0) (C := RX0) (T := TX0) (N := 20) hx hb hts (inC ibX0) hown hG.1 hP 1 rfl rfl 13 (by decide) (hg _ k_177) (fun _ h9 => h9) rfl dX11_years_110 ?_
          refine lv_if_le (tgt := 134) hx hb dX11_years_113 (by decide) (fun _ => ?_) (fun c_ => absurd (by decide) c_)
          refine lv_iload hx hb dX11_years_134 (lv_at hl 2 rfl) ?_
          refine lv_aload_n hx hb dX11_years_136 rfl (lv_at hl 3 rfl) ?_
          refine va_get (D := D) (ci := 11) (v := .ref q_58) (C := RX11) (T := TX11) (N := 17) hx hb hts (inC ibX11) hown hG.1 hP 0 rfl rfl 7 (by decide) (hg _ k_427) (fun _ h9 => h9) rfl dX11_years_137 ?_
          refine lv_aload_n hx hb dX11_years_140 rfl (lv_at hl 3 rfl) ?_
          refine va_get (D := D) (ci := 11) (v := .ref q_4) (C := RX11) (T := TX11) (N := 17) hx hb hts (inC ibX11) hown hG.1 hP 0 rfl rfl 2 (by decide) (hg _ k_422) (fun _ h9 => h9) rfl dX11_years_141 ?_
          refine x_i (wr := [(h0, .inr (11, [.ref q_1, .ref q_3, .ref q_4, .ref q_25, .ref q_46, .ref q_50, .ref q_54, .ref q_58, .ref q_62, .int 0, .int 0, .ref q_63, .ref q_64, .ref q_67, .ref q_85, .ref q_90, .ref q_93])), (q3_61, .inl (cy 1, 6, .inl (va_cpy (fun _ => 0) (fun _ => 0) 0 0 6))), (q3_57, .inl (cy 1, 6, .inl (fun _ => 0))), (q_54, .inr (8, [.int 0, .int 0, .int 0, .ref q1_55, .ref q2_56, .ref q3_57])), (q1_59, .inl (cy 1, 6, .inl (va_cpy (fun _ => 0) (fun _ => 0) 0 0 6))), (q2_60, .inl (cy 1, 6, .inl (va_cpy (fun _ => 0) (fun _ => 0) 0 0 6))), (q1_55, .inl (cy 1, 6, .inl (fun _ => 0))), (q2_56, .inl (cy 1, 6, .inl (fun _ => 0)))]) hP hD hS hA [4, 1] [0, 2, 3, 5, 6, 7, 8, 9] rfl rfl (by decide) (by decide) (va_runV (As := [.ref q_4]) (rest := [.int 0]) ⟨hx, hb, hml, hown, hts⟩ (c_X8_endsDay_1 l D cy q_58 q_4 dy q1_59 q2_60 q3_61 q_1_5 q_2_6 q_3_7 q_4_8 q_5_9 q_6_10 q_7_11 q_8_12 q_9_13 q_10_14 q_11_15 q_12_16 q_13_17 q_18_18 q_19_19 q_20_20 H.size) (cwV 1 hts (gV km_X11_180 ki_X8_endsDay kz_X8_endsDay kn_X8 kc_X8_endsDay) rfl rfl rfl (by decide +kernel) ⟨(Nat.le_of_ble_eq_true rfl), (Nat.le_of_ble_eq_true rfl)⟩) (preV hG hP hD [4, 1] rfl (by decide) 8 4 rfl rfl) rfl rfl hl.1 rfl (lv_room (Nat.le_of_ble_eq_true rfl)) dX11_years_144 ⟨(Nat.le_of_ble_eq_true rfl), (Nat.le_of_ble_eq_true rfl)⟩) (fun r_11 H locs hB hj hS => ?_)
          obtain ⟨hres, hP1, hD1⟩ := hB
          subst hres
          obtain ⟨hP, hD⟩ := hj _ hP1 hD1
          have hP : va_P D vwCl [(h0, .inr (11, [.ref q_1, .ref q_3, .ref q_4, .ref q_25, .ref q_46, .ref q_50, .ref q_54, .ref q_58, .ref q_62, .int 0, .int 0, .ref q_63, .ref q_64, .ref q_67, .ref q_85, .ref q_90, .ref q_93])), (q3_61, .inl (cy 1, 6, .inl (va_cpy (fun _ => 0) (fun _ => 0) 0 0 6))), (q3_57, .inl (cy 1, 6, .inl (fun _ => 0))), (q_54, .inr (8, [.int 0, .int 0, .int 0, .ref q1_55, .ref q2_56, .ref q3_57])), (q1_59, .inl (cy 1, 6, .inl (va_cpy (fun _ => 0) (fun _ => 0) 0 0 6))), (q2_60, .inl (cy 1, 6, .inl (va_cpy (fun _ => 0) (fun _ => 0) 0 0 6))), (q1_55, .inl (cy 1, 6, .inl (fun _ => 0))), (q2_56, .inl (cy 1, 6, .inl (fun _ => 0))), (q_58, .inr (8, [.int (dy + 1), .int 0, .int 0, .ref q1_59, .ref q2_60, .ref q3_61])), (q_4, .inr (0, [.ref q_1_5, .ref q_2_6, .ref q_3_7, .ref q_4_8, .ref q_5_9, .ref q_6_10, .ref q_7_11, .ref q_8_12, .ref q_9_13, .ref q_10_14, .ref q_11_15, .ref q_12_16, .ref q_13_17, .int 0, .int 0, .int 0, .int 2, .ref q_18_18, .ref q_19_19, .ref q_20_20]))] H := hP
          have hD : va_D A [(h0, .inr (11, [.ref q_1, .ref q_3, .ref q_4, .ref q_25, .ref q_46, .ref q_50, .ref q_54, .ref q_58, .ref q_62, .int 0, .int 0, .ref q_63, .ref q_64, .ref q_67, .ref q_85, .ref q_90, .ref q_93])), (q3_61, .inl (cy 1, 6, .inl (va_cpy (fun _ => 0) (fun _ => 0) 0 0 6))), (q3_57, .inl (cy 1, 6, .inl (fun _ => 0))), (q_54, .inr (8, [.int 0, .int 0, .int 0, .ref q1_55, .ref q2_56, .ref q3_57])), (q1_59, .inl (cy 1, 6, .inl (va_cpy (fun _ => 0) (fun _ => 0) 0 0 6))), (q2_60, .inl (cy 1, 6, .inl (va_cpy (fun _ => 0) (fun _ => 0) 0 0 6))), (q1_55, .inl (cy 1, 6, .inl (fun _ => 0))), (q2_56, .inl (cy 1, 6, .inl (fun _ => 0))), (q_58, .inr (8, [.int (dy + 1), .int 0, .int 0, .ref q1_59, .ref q2_60, .ref q3_61])), (q_4, .inr (0, [.ref q_1_5, .ref q_2_6, .ref q_3_7, .ref q_4_8, .ref q_5_9, .ref q_6_10, .ref q_7_11, .ref q_8_12, .ref q_9_13, .ref q_10_14, .ref q_11_15, .ref q_12_16, .ref q_13_17, .int 0, .int 0, .int 0, .int 2, .ref q_18_18, .ref q_19_19, .ref q_20_20]))] := hD
          refine m_iadd (v := 0) hx hb dX11_years_147 (by decide) ?_
          refine lv_istore (lv' := [(4, .int 0), (5, .long r_6), (7, .int x7), (0, .ref h0), (1, .int a1), (2, .int a2), (3, .int a3)]) hx hb dX11_years_148 hl (by decide) rfl (fun ls hl => ?_)
          obtain ⟨x7_12, ex7_12⟩ : ∃ y : Int32, y = x7 + 1 := ⟨_, rfl⟩
          refine lv_iinc (v := x7_12) (lv' := [(7, .int x7_12), (4, .int 0), (5, .long r_6), (0, .ref h0), (1, .int a1), (2, .int a2), (3, .int a3)]) hx hb dX11_years_150 hl (k := 2) rfl (by rw [ex7_12]; rfl) (by decide) rfl (fun ls hl => ?_)
          refine lv_goto (tgt := 62) hx hb dX11_years_153 (by decide) ?_
          exact ih (i + 1) x7_12 r_6 (dy + 1) (by omega) hlt (by rw [ex7_12, ex7]; exact nI_1 i) _ _ (hP.sub [0, 9, 1, 2, 8, 3, 4, 5, 6, 7] rfl) (hD.sub [0, 9, 1, 2, 8, 3, 4, 5, 6, 7] (by decide) rfl) hS ls (lv_sub hl [0, 2, 1, 3, 4, 5, 6] rfl)
  exact LP_2 _ 0 0 x5_1 0 (Nat.lt_succ_self _) (Nat.zero_le _) rfl _ _ (hP.sub [0, 1, 2, 3, 4, 5, 6, 7, 8, 9] rfl) (hD.sub [0, 1, 2, 3, 4, 5, 6, 7, 8, 9] (by decide) rfl) hS ls (lv_sub hl [0, 1, 2, 3, 4, 5, 6] rfl)
set_option maxHeartbeats 4000000 in
set_option maxRecDepth 100000 in
theorem c_X12_within_1 (l : Launch) (D : va_G) (cy : Nat → ClassId) (a0 : Int32) (sz : Nat) (hf0 : ¬ a0 < 0) (hf1 : ¬ 9999 < a0) : Met l yX12_within (Cond.code yX12_within cX12_within 3 (some .boolean) :: bigG) ({ frames := 0, cells := 0, slots := 0, locals := 0 }) (pre D cy [.int a0, .int 0, .int 9999] sz []) (qi (fun r h => r = 1 ∧ va_P D vwCl [] h ∧ va_D (va_A [] sz) []) (va_A [] sz)) 0 0 (va_A [] sz) := by
  refine Met.ofW (cc := cX12_within) (maxL := 3) (ret := (some .boolean)) (by decide) rfl ?_
  intro p e s m args below meth c s₁ B hml hv
  obtain ⟨rfl, hsz, hP, hG, hD0⟩ := hv
  have hx := B.exec
  have hb := B.bytes
  have hr := B.returns
  have hts := atoms_spec (ws := (Cond.code yX12_within cX12_within 3 (some .boolean) :: bigG)) B.pre
  have hg : ∀ w ∈ bigG, w.before ([.int a0, .int 0, .int 9999] : List Value).toArray s = true := fun w h => hts w (List.mem_cons_of_mem _ h)
  have hown : s.vm.findClass RX12 = some m.cls := findClass_of_methodNamed B.named
  have hlocks := B.notSynchronized
  subst hsz
  have hD := hD0.self (sz := s.heap.size)
  generalize hAe : va_A [] s.heap.size = A at hD ⊢
  have hA : ∀ q : Nat, s.heap.size ≤ q → A q := fun q h => by rw [← hAe]; exact Or.inr h
  have hS : va_S A s.heap s.heap [] := va_S.rf
  have hP : va_P D vwCl [] s.heap := hP
  have hl := lv_entry ([.int a0, .int 0, .int 9999]) (n := 3) (Nat.le_of_ble_eq_true rfl)
  rw [lg_entry_eq]
  generalize (lg_sl ([.int a0, .int 0, .int 9999]) ++ List.replicate (3 - (lg_sl ([.int a0, .int 0, .int 9999])).length) Slot.unset).toArray = ls at hl ⊢
  have hl : lv_has ls 3 [(0, .int a0), (1, .int 0), (2, .int 9999)] := hl
  refine w_nm (fun Q hQ => ?_)
  refine lv_iload_n hx hb dX12_within_0 rfl (lv_at hl 0 rfl) ?_
  refine lv_iload_n hx hb dX12_within_1 rfl (lv_at hl 1 rfl) ?_
  refine lv_icmp_lt (tgt := 14) hx hb dX12_within_2 (by decide) (fun c_ => absurd c_ hf0) (fun _ => ?_)
  refine lv_iload_n hx hb dX12_within_5 rfl (lv_at hl 0 rfl) ?_
  refine lv_iload_n hx hb dX12_within_6 rfl (lv_at hl 2 rfl) ?_
  refine lv_icmp_gt (tgt := 14) hx hb dX12_within_7 (by decide) (fun c_ => absurd c_ hf1) (fun _ => ?_)
  refine lv_iconst (v := 1) hx hb dX12_within_10 (by decide) ?_
  refine lv_goto (tgt := 15) hx hb dX12_within_11 (by decide) ?_
  have hP9 := hP.sub (ws' := []) [] rfl
  have hD9 := hD.sub (ws' := []) [] (by decide) rfl
  subst hQ
  exact W.zret (v := 1) hx hb hr rfl (fun t ht hW => qi_mk (by rw [ht]; exact ⟨rfl, hP9, hD9⟩) (hS.F ht)) hS.2.2 dX12_within_15
set_option maxHeartbeats 4000000 in
set_option maxRecDepth 100000 in
theorem c_X12_within_2 (l : Launch) (D : va_G) (cy : Nat → ClassId) (a0 : Int32) (sz : Nat) (hf0 : ¬ a0 < 1) (hf1 : ¬ 100 < a0) : Met l yX12_within (Cond.code yX12_within cX12_within 3 (some .boolean) :: bigG) ({ frames := 0, cells := 0, slots := 0, locals := 0 }) (pre D cy [.int a0, .int 1, .int 100] sz []) (qi (fun r h => r = 1 ∧ va_P D vwCl [] h ∧ va_D (va_A [] sz) []) (va_A [] sz)) 0 0 (va_A [] sz) := by
  refine Met.ofW (cc := cX12_within) (maxL := 3) (ret := (some .boolean)) (by decide) rfl ?_
  intro p e s m args below meth c s₁ B hml hv
  obtain ⟨rfl, hsz, hP, hG, hD0⟩ := hv
  have hx := B.exec
  have hb := B.bytes
  have hr := B.returns
  have hts := atoms_spec (ws := (Cond.code yX12_within cX12_within 3 (some .boolean) :: bigG)) B.pre
  have hg : ∀ w ∈ bigG, w.before ([.int a0, .int 1, .int 100] : List Value).toArray s = true := fun w h => hts w (List.mem_cons_of_mem _ h)
  have hown : s.vm.findClass RX12 = some m.cls := findClass_of_methodNamed B.named
  have hlocks := B.notSynchronized
  subst hsz
  have hD := hD0.self (sz := s.heap.size)
  generalize hAe : va_A [] s.heap.size = A at hD ⊢
  have hA : ∀ q : Nat, s.heap.size ≤ q → A q := fun q h => by rw [← hAe]; exact Or.inr h
  have hS : va_S A s.heap s.heap [] := va_S.rf
  have hP : va_P D vwCl [] s.heap := hP
  have hl := lv_entry ([.int a0, .int 1, .int 100]) (n := 3) (Nat.le_of_ble_eq_true rfl)
  rw [lg_entry_eq]
  generalize (lg_sl ([.int a0, .int 1, .int 100]) ++ List.replicate (3 - (lg_sl ([.int a0, .int 1, .int 100])).length) Slot.unset).toArray = ls at hl ⊢
  have hl : lv_has ls 3 [(0, .int a0), (1, .int 1), (2, .int 100)] := hl
  refine w_nm (fun Q hQ => ?_)
  refine lv_iload_n hx hb dX12_within_0 rfl (lv_at hl 0 rfl) ?_
  refine lv_iload_n hx hb dX12_within_1 rfl (lv_at hl 1 rfl) ?_
  refine lv_icmp_lt (tgt := 14) hx hb dX12_within_2 (by decide) (fun c_ => absurd c_ hf0) (fun _ => ?_)
  refine lv_iload_n hx hb dX12_within_5 rfl (lv_at hl 0 rfl) ?_
  refine lv_iload_n hx hb dX12_within_6 rfl (lv_at hl 2 rfl) ?_
  refine lv_icmp_gt (tgt := 14) hx hb dX12_within_7 (by decide) (fun c_ => absurd c_ hf1) (fun _ => ?_)
  refine lv_iconst (v := 1) hx hb dX12_within_10 (by decide) ?_
  refine lv_goto (tgt := 15) hx hb dX12_within_11 (by decide) ?_
  have hP9 := hP.sub (ws' := []) [] rfl
  have hD9 := hD.sub (ws' := []) [] (by decide) rfl
  subst hQ
  exact W.zret (v := 1) hx hb hr rfl (fun t ht hW => qi_mk (by rw [ht]; exact ⟨rfl, hP9, hD9⟩) (hS.F ht)) hS.2.2 dX12_within_15
set_option maxHeartbeats 4000000 in
set_option maxRecDepth 100000 in
theorem c_X12_within_3 (l : Launch) (D : va_G) (cy : Nat → ClassId) (a0 : Int32) (sz : Nat) (hf0 : ¬ a0 < 0) (hf1 : ¬ 2 < a0) : Met l yX12_within (Cond.code yX12_within cX12_within 3 (some .boolean) :: bigG) ({ frames := 0, cells := 0, slots := 0, locals := 0 }) (pre D cy [.int a0, .int 0, .int 2] sz []) (qi (fun r h => r = 1 ∧ va_P D vwCl [] h ∧ va_D (va_A [] sz) []) (va_A [] sz)) 0 0 (va_A [] sz) := by
  refine Met.ofW (cc := cX12_within) (maxL := 3) (ret := (some .boolean)) (by decide) rfl ?_
  intro p e s m args below meth c s₁ B hml hv
  obtain ⟨rfl, hsz, hP, hG, hD0⟩ := hv
  have hx := B.exec
  have hb := B.bytes
  have hr := B.returns
  have hts := atoms_spec (ws := (Cond.code yX12_within cX12_within 3 (some .boolean) :: bigG)) B.pre
  have hg : ∀ w ∈ bigG, w.before ([.int a0, .int 0, .int 2] : List Value).toArray s = true := fun w h => hts w (List.mem_cons_of_mem _ h)
  have hown : s.vm.findClass RX12 = some m.cls := findClass_of_methodNamed B.named
  have hlocks := B.notSynchronized
  subst hsz
  have hD := hD0.self (sz := s.heap.size)
  generalize hAe : va_A [] s.heap.size = A at hD ⊢
  have hA : ∀ q : Nat, s.heap.size ≤ q → A q := fun q h => by rw [← hAe]; exact Or.inr h
  have hS : va_S A s.heap s.heap [] := va_S.rf
  have hP : va_P D vwCl [] s.heap := hP
  have hl := lv_entry ([.int a0, .int 0, .int 2]) (n := 3) (Nat.le_of_ble_eq_true rfl)
  rw [lg_entry_eq]
  generalize (lg_sl ([.int a0, .int 0, .int 2]) ++ List.replicate (3 - (lg_sl ([.int a0, .int 0, .int 2])).length) Slot.unset).toArray = ls at hl ⊢
  have hl : lv_has ls 3 [(0, .int a0), (1, .int 0), (2, .int 2)] := hl
  refine w_nm (fun Q hQ => ?_)
  refine lv_iload_n hx hb dX12_within_0 rfl (lv_at hl 0 rfl) ?_
  refine lv_iload_n hx hb dX12_within_1 rfl (lv_at hl 1 rfl) ?_
  refine lv_icmp_lt (tgt := 14) hx hb dX12_within_2 (by decide) (fun c_ => absurd c_ hf0) (fun _ => ?_)
  refine lv_iload_n hx hb dX12_within_5 rfl (lv_at hl 0 rfl) ?_
  refine lv_iload_n hx hb dX12_within_6 rfl (lv_at hl 2 rfl) ?_
  refine lv_icmp_gt (tgt := 14) hx hb dX12_within_7 (by decide) (fun c_ => absurd c_ hf1) (fun _ => ?_)
  refine lv_iconst (v := 1) hx hb dX12_within_10 (by decide) ?_
  refine lv_goto (tgt := 15) hx hb dX12_within_11 (by decide) ?_
  have hP9 := hP.sub (ws' := []) [] rfl
  have hD9 := hD.sub (ws' := []) [] (by decide) rfl
  subst hQ
  exact W.zret (v := 1) hx hb hr rfl (fun t ht hW => qi_mk (by rw [ht]; exact ⟨rfl, hP9, hD9⟩) (hS.F ht)) hS.2.2 dX12_within_15
set_option maxHeartbeats 4000000 in
set_option maxRecDepth 100000 in
theorem c_X12_sum_1 (l : Launch) (D : va_G) (cy : Nat → ClassId) (q_36 : Nat) (dy : Int32) (sz : Nat) : Met l yX12_sum (Cond.code yX12_sum cX12_sum 4 (some .int) :: bigG) ({ frames := 0, cells := 0, slots := 0, locals := 0 }) (pre D cy [.ref q_36, .int 15] sz [(q_36, .inl (cy 1, 21, .inl (upd (upd (upd (upd (upd (upd (upd (fun _ => 0) 9 (-1)) 10 (-1)) 11 (-1)) 12 (-1)) 13 (-1)) 14 (-1)) 0 dy)))]) (qi (fun r h => r = 0 ∧ va_P D vwCl [(q_36, .inl (cy 1, 21, .inl (upd (upd (upd (upd (upd (upd (upd (fun _ => 0) 9 (-1)) 10 (-1)) 11 (-1)) 12 (-1)) 13 (-1)) 14 (-1)) 0 dy)))] h ∧ va_D (va_A [(q_36, .inl (cy 1, 21, .inl (upd (upd (upd (upd (upd (upd (upd (fun _ => 0) 9 (-1)) 10 (-1)) 11 (-1)) 12 (-1)) 13 (-1)) 14 (-1)) 0 dy)))] sz) [(q_36, .inl (cy 1, 21, .inl (upd (upd (upd (upd (upd (upd (upd (fun _ => 0) 9 (-1)) 10 (-1)) 11 (-1)) 12 (-1)) 13 (-1)) 14 (-1)) 0 dy)))]) (va_A [(q_36, .inl (cy 1, 21, .inl (upd (upd (upd (upd (upd (upd (upd (fun _ => 0) 9 (-1)) 10 (-1)) 11 (-1)) 12 (-1)) 13 (-1)) 14 (-1)) 0 dy)))] sz)) 0 0 (va_A [(q_36, .inl (cy 1, 21, .inl (upd (upd (upd (upd (upd (upd (upd (fun _ => 0) 9 (-1)) 10 (-1)) 11 (-1)) 12 (-1)) 13 (-1)) 14 (-1)) 0 dy)))] sz) := by
  refine Met.ofW (cc := cX12_sum) (maxL := 4) (ret := (some .int)) (by decide) rfl ?_
  intro p e s m args below meth c s₁ B hml hv
  obtain ⟨rfl, hsz, hP, hG, hD0⟩ := hv
  have hx := B.exec
  have hb := B.bytes
  have hr := B.returns
  have hts := atoms_spec (ws := (Cond.code yX12_sum cX12_sum 4 (some .int) :: bigG)) B.pre
  have hg : ∀ w ∈ bigG, w.before ([.ref q_36, .int 15] : List Value).toArray s = true := fun w h => hts w (List.mem_cons_of_mem _ h)
  have hown : s.vm.findClass RX12 = some m.cls := findClass_of_methodNamed B.named
  have hlocks := B.notSynchronized
  subst hsz
  have hD := hD0.self (sz := s.heap.size)
  generalize hAe : va_A [(q_36, .inl (cy 1, 21, .inl (upd (upd (upd (upd (upd (upd (upd (fun _ => 0) 9 (-1)) 10 (-1)) 11 (-1)) 12 (-1)) 13 (-1)) 14 (-1)) 0 dy)))] s.heap.size = A at hD ⊢
  have hA : ∀ q : Nat, s.heap.size ≤ q → A q := fun q h => by rw [← hAe]; exact Or.inr h
  have hS : va_S A s.heap s.heap [] := va_S.rf
  have hP : va_P D vwCl [(q_36, .inl (cy 1, 21, .inl (upd (upd (upd (upd (upd (upd (upd (fun _ => 0) 9 (-1)) 10 (-1)) 11 (-1)) 12 (-1)) 13 (-1)) 14 (-1)) 0 dy)))] s.heap := hP
  have hl := lv_entry ([.ref q_36, .int 15]) (n := 4) (Nat.le_of_ble_eq_true rfl)
  rw [lg_entry_eq]
  generalize (lg_sl ([.ref q_36, .int 15]) ++ List.replicate (4 - (lg_sl ([.ref q_36, .int 15])).length) Slot.unset).toArray = ls at hl ⊢
  have hl : lv_has ls 4 [(0, .ref q_36), (1, .int 15)] := hl
  refine w_nm (fun Q hQ => ?_)
  refine lv_iconst (v := 0) hx hb dX12_sum_0 (by decide) ?_
  refine lv_istore_n (lv' := [(2, .int 0), (0, .ref q_36), (1, .int 15)]) hx hb dX12_sum_1 rfl hl (by decide) rfl (fun ls hl => ?_)
  refine lv_iload_n hx hb dX12_sum_2 rfl (lv_at hl 2 rfl) ?_
  refine lv_istore_n (lv' := [(3, .int 15), (2, .int 0), (0, .ref q_36), (1, .int 15)]) hx hb dX12_sum_3 rfl hl (by decide) rfl (fun ls hl => ?_)
  refine lv_iload_n hx hb dX12_sum_4 rfl (lv_at hl 0 rfl) ?_
  refine lv_iload_n hx hb dX12_sum_5 rfl (lv_at hl 3 rfl) ?_
  refine lv_bipush (v := 6) hx hb dX12_sum_6 (by decide) ?_
  refine m_iadd (v := 21) hx hb dX12_sum_8 (by decide) ?_
  refine lv_icmp_ge (tgt := 24) hx hb dX12_sum_9 (by decide) (fun c_ => absurd c_ (by decide)) (fun _ => ?_)
  refine lv_iload_n hx hb dX12_sum_12 rfl (lv_at hl 1 rfl) ?_
  refine lv_aload_n hx hb dX12_sum_13 rfl (lv_at hl 2 rfl) ?_
  refine lv_iload_n hx hb dX12_sum_14 rfl (lv_at hl 0 rfl) ?_
  refine m_iald (v := 0) hx hb hG hP 0 rfl (vin (by decide)) dX12_sum_15 rfl ?_
  refine m_iadd (v := 0) hx hb dX12_sum_16 (by decide) ?_
  refine lv_istore_n (lv' := [(2, .int 0), (3, .int 15), (0, .ref q_36), (1, .int 15)]) hx hb dX12_sum_17 rfl hl (by decide) rfl (fun ls hl => ?_)
  refine lv_iinc (v := 16) (lv' := [(3, .int 16), (2, .int 0), (0, .ref q_36), (1, .int 15)]) hx hb dX12_sum_18 hl (k := 1) rfl (by decide) (by decide) rfl (fun ls hl => ?_)
  refine lv_goto (tgt := 4) hx hb dX12_sum_21 (by decide) ?_
  refine lv_iload_n hx hb dX12_sum_4 rfl (lv_at hl 0 rfl) ?_
  refine lv_iload_n hx hb dX12_sum_5 rfl (lv_at hl 3 rfl) ?_
  refine lv_bipush (v := 6) hx hb dX12_sum_6 (by decide) ?_
  refine m_iadd (v := 21) hx hb dX12_sum_8 (by decide) ?_
  refine lv_icmp_ge (tgt := 24) hx hb dX12_sum_9 (by decide) (fun c_ => absurd c_ (by decide)) (fun _ => ?_)
  refine lv_iload_n hx hb dX12_sum_12 rfl (lv_at hl 1 rfl) ?_
  refine lv_aload_n hx hb dX12_sum_13 rfl (lv_at hl 2 rfl) ?_
  refine lv_iload_n hx hb dX12_sum_14 rfl (lv_at hl 0 rfl) ?_
  refine m_iald (v := 0) hx hb hG hP 0 rfl (vin (by decide)) dX12_sum_15 rfl ?_
  refine m_iadd (v := 0) hx hb dX12_sum_16 (by decide) ?_
  refine lv_istore_n (lv' := [(2, .int 0), (3, .int 16), (0, .ref q_36), (1, .int 15)]) hx hb dX12_sum_17 rfl hl (by decide) rfl (fun ls hl => ?_)
  refine lv_iinc (v := 17) (lv' := [(3, .int 17), (2, .int 0), (0, .ref q_36), (1, .int 15)]) hx hb dX12_sum_18 hl (k := 1) rfl (by decide) (by decide) rfl (fun ls hl => ?_)
  refine lv_goto (tgt := 4) hx hb dX12_sum_21 (by decide) ?_
  refine lv_iload_n hx hb dX12_sum_4 rfl (lv_at hl 0 rfl) ?_
  refine lv_iload_n hx hb dX12_sum_5 rfl (lv_at hl 3 rfl) ?_
  refine lv_bipush (v := 6) hx hb dX12_sum_6 (by decide) ?_
  refine m_iadd (v := 21) hx hb dX12_sum_8 (by decide) ?_
  refine lv_icmp_ge (tgt := 24) hx hb dX12_sum_9 (by decide) (fun c_ => absurd c_ (by decide)) (fun _ => ?_)
  refine lv_iload_n hx hb dX12_sum_12 rfl (lv_at hl 1 rfl) ?_
  refine lv_aload_n hx hb dX12_sum_13 rfl (lv_at hl 2 rfl) ?_
  refine lv_iload_n hx hb dX12_sum_14 rfl (lv_at hl 0 rfl) ?_
  refine m_iald (v := 0) hx hb hG hP 0 rfl (vin (by decide)) dX12_sum_15 rfl ?_
  refine m_iadd (v := 0) hx hb dX12_sum_16 (by decide) ?_
  refine lv_istore_n (lv' := [(2, .int 0), (3, .int 17), (0, .ref q_36), (1, .int 15)]) hx hb dX12_sum_17 rfl hl (by decide) rfl (fun ls hl => ?_)
  refine lv_iinc (v := 18) (lv' := [(3, .int 18), (2, .int 0), (0, .ref q_36), (1, .int 15)]) hx hb dX12_sum_18 hl (k := 1) rfl (by decide) (by decide) rfl (fun ls hl => ?_)
  refine lv_goto (tgt := 4) hx hb dX12_sum_21 (by decide) ?_
  refine lv_iload_n hx hb dX12_sum_4 rfl (lv_at hl 0 rfl) ?_
  refine lv_iload_n hx hb dX12_sum_5 rfl (lv_at hl 3 rfl) ?_
  refine lv_bipush (v := 6) hx hb dX12_sum_6 (by decide) ?_
  refine m_iadd (v := 21) hx hb dX12_sum_8 (by decide) ?_
  refine lv_icmp_ge (tgt := 24) hx hb dX12_sum_9 (by decide) (fun c_ => absurd c_ (by decide)) (fun _ => ?_)
  refine lv_iload_n hx hb dX12_sum_12 rfl (lv_at hl 1 rfl) ?_
  refine lv_aload_n hx hb dX12_sum_13 rfl (lv_at hl 2 rfl) ?_
  refine lv_iload_n hx hb dX12_sum_14 rfl (lv_at hl 0 rfl) ?_
  refine m_iald (v := 0) hx hb hG hP 0 rfl (vin (by decide)) dX12_sum_15 rfl ?_
  refine m_iadd (v := 0) hx hb dX12_sum_16 (by decide) ?_
  refine lv_istore_n (lv' := [(2, .int 0), (3, .int 18), (0, .ref q_36), (1, .int 15)]) hx hb dX12_sum_17 rfl hl (by decide) rfl (fun ls hl => ?_)
  refine lv_iinc (v := 19) (lv' := [(3, .int 19), (2, .int 0), (0, .ref q_36), (1, .int 15)]) hx hb dX12_sum_18 hl (k := 1) rfl (by decide) (by decide) rfl (fun ls hl => ?_)
  refine lv_goto (tgt := 4) hx hb dX12_sum_21 (by decide) ?_
  refine lv_iload_n hx hb dX12_sum_4 rfl (lv_at hl 0 rfl) ?_
  refine lv_iload_n hx hb dX12_sum_5 rfl (lv_at hl 3 rfl) ?_
  refine lv_bipush (v := 6) hx hb dX12_sum_6 (by decide) ?_
  refine m_iadd (v := 21) hx hb dX12_sum_8 (by decide) ?_
  refine lv_icmp_ge (tgt := 24) hx hb dX12_sum_9 (by decide) (fun c_ => absurd c_ (by decide)) (fun _ => ?_)
  refine lv_iload_n hx hb dX12_sum_12 rfl (lv_at hl 1 rfl) ?_
  refine lv_aload_n hx hb dX12_sum_13 rfl (lv_at hl 2 rfl) ?_
  refine lv_iload_n hx hb dX12_sum_14 rfl (lv_at hl 0 rfl) ?_
  refine m_iald (v := 0) hx hb hG hP 0 rfl (vin (by decide)) dX12_sum_15 rfl ?_
  refine m_iadd (v := 0) hx hb dX12_sum_16 (by decide) ?_
  refine lv_istore_n (lv' := [(2, .int 0), (3, .int 19), (0, .ref q_36), (1, .int 15)]) hx hb dX12_sum_17 rfl hl (by decide) rfl (fun ls hl => ?_)
  refine lv_iinc (v := 20) (lv' := [(3, .int 20), (2, .int 0), (0, .ref q_36), (1, .int 15)]) hx hb dX12_sum_18 hl (k := 1) rfl (by decide) (by decide) rfl (fun ls hl => ?_)
  refine lv_goto (tgt := 4) hx hb dX12_sum_21 (by decide) ?_
  refine lv_iload_n hx hb dX12_sum_4 rfl (lv_at hl 0 rfl) ?_
  refine lv_iload_n hx hb dX12_sum_5 rfl (lv_at hl 3 rfl) ?_
  refine lv_bipush (v := 6) hx hb dX12_sum_6 (by decide) ?_
  refine m_iadd (v := 21) hx hb dX12_sum_8 (by decide) ?_
  refine lv_icmp_ge (tgt := 24) hx hb dX12_sum_9 (by decide) (fun c_ => absurd c_ (by decide)) (fun _ => ?_)
  refine lv_iload_n hx hb dX12_sum_12 rfl (lv_at hl 1 rfl) ?_
  refine lv_aload_n hx hb dX12_sum_13 rfl (lv_at hl 2 rfl) ?_
  refine lv_iload_n hx hb dX12_sum_14 rfl (lv_at hl 0 rfl) ?_
  refine m_iald (v := 0) hx hb hG hP 0 rfl (vin (by decide)) dX12_sum_15 rfl ?_
  refine m_iadd (v := 0) hx hb dX12_sum_16 (by decide) ?_
  refine lv_istore_n (lv' := [(2, .int 0), (3, .int 20), (0, .ref q_36), (1, .int 15)]) hx hb dX12_sum_17 rfl hl (by decide) rfl (fun ls hl => ?_)
  refine lv_iinc (v := 21) (lv' := [(3, .int 21), (2, .int 0), (0, .ref q_36), (1, .int 15)]) hx hb dX12_sum_18 hl (k := 1) rfl (by decide) (by decide) rfl (fun ls hl => ?_)
  refine lv_goto (tgt := 4) hx hb dX12_sum_21 (by decide) ?_
  refine lv_iload_n hx hb dX12_sum_4 rfl (lv_at hl 0 rfl) ?_
  refine lv_iload_n hx hb dX12_sum_5 rfl (lv_at hl 3 rfl) ?_
  refine lv_bipush (v := 6) hx hb dX12_sum_6 (by decide) ?_
  refine m_iadd (v := 21) hx hb dX12_sum_8 (by decide) ?_
  refine lv_icmp_ge (tgt := 24) hx hb dX12_sum_9 (by decide) (fun _ => ?_) (fun c_ => absurd (by decide) c_)
  refine lv_iload_n hx hb dX12_sum_24 rfl (lv_at hl 1 rfl) ?_
  have hP9 := hP.sub (ws' := [(q_36, .inl (cy 1, 21, .inl (upd (upd (upd (upd (upd (upd (upd (fun _ => 0) 9 (-1)) 10 (-1)) 11 (-1)) 12 (-1)) 13 (-1)) 14 (-1)) 0 dy)))]) [0] rfl
  have hD9 := hD.sub (ws' := [(q_36, .inl (cy 1, 21, .inl (upd (upd (upd (upd (upd (upd (upd (fun _ => 0) 9 (-1)) 10 (-1)) 11 (-1)) 12 (-1)) 13 (-1)) 14 (-1)) 0 dy)))]) [0] (by decide) rfl
  subst hQ
  exact W.iret (v := 0) hx hb hr (fun t ht hW => qi_mk (by rw [ht]; exact ⟨rfl, hP9, hD9⟩) (hS.F ht)) hS.2.2 dX12_sum_25
set_option maxHeartbeats 4000000 in
set_option maxRecDepth 100000 in
theorem c_X12_sum_2 (l : Launch) (D : va_G) (cy : Nat → ClassId) (q_37 : Nat) (sz : Nat) : Met l yX12_sum (Cond.code yX12_sum cX12_sum 4 (some .int) :: bigG) ({ frames := 0, cells := 0, slots := 0, locals := 0 }) (pre D cy [.ref q_37, .int 15] sz [(q_37, .inl (cy 1, 21, .inl (va_cpy (upd (upd (upd (upd (upd (upd (fun _ => 0) 9 (-1)) 10 (-1)) 11 (-1)) 12 (-1)) 13 (-1)) 14 (-1)) (fun _ => 0) 0 0 21)))]) (qi (fun r h => r = 0 ∧ va_P D vwCl [(q_37, .inl (cy 1, 21, .inl (va_cpy (upd (upd (upd (upd (upd (upd (fun _ => 0) 9 (-1)) 10 (-1)) 11 (-1)) 12 (-1)) 13 (-1)) 14 (-1)) (fun _ => 0) 0 0 21)))] h ∧ va_D (va_A [(q_37, .inl (cy 1, 21, .inl (va_cpy (upd (upd (upd (upd (upd (upd (fun _ => 0) 9 (-1)) 10 (-1)) 11 (-1)) 12 (-1)) 13 (-1)) 14 (-1)) (fun _ => 0) 0 0 21)))] sz) [(q_37, .inl (cy 1, 21, .inl (va_cpy (upd (upd (upd (upd (upd (upd (fun _ => 0) 9 (-1)) 10 (-1)) 11 (-1)) 12 (-1)) 13 (-1)) 14 (-1)) (fun _ => 0) 0 0 21)))]) (va_A [(q_37, .inl (cy 1, 21, .inl (va_cpy (upd (upd (upd (upd (upd (upd (fun _ => 0) 9 (-1)) 10 (-1)) 11 (-1)) 12 (-1)) 13 (-1)) 14 (-1)) (fun _ => 0) 0 0 21)))] sz)) 0 0 (va_A [(q_37, .inl (cy 1, 21, .inl (va_cpy (upd (upd (upd (upd (upd (upd (fun _ => 0) 9 (-1)) 10 (-1)) 11 (-1)) 12 (-1)) 13 (-1)) 14 (-1)) (fun _ => 0) 0 0 21)))] sz) := by
  refine Met.ofW (cc := cX12_sum) (maxL := 4) (ret := (some .int)) (by decide) rfl ?_
  intro p e s m args below meth c s₁ B hml hv
  obtain ⟨rfl, hsz, hP, hG, hD0⟩ := hv
  have hx := B.exec
  have hb := B.bytes
  have hr := B.returns
  have hts := atoms_spec (ws := (Cond.code yX12_sum cX12_sum 4 (some .int) :: bigG)) B.pre
  have hg : ∀ w ∈ bigG, w.before ([.ref q_37, .int 15] : List Value).toArray s = true := fun w h => hts w (List.mem_cons_of_mem _ h)
  have hown : s.vm.findClass RX12 = some m.cls := findClass_of_methodNamed B.named
  have hlocks := B.notSynchronized
  subst hsz
  have hD := hD0.self (sz := s.heap.size)
  generalize hAe : va_A [(q_37, .inl (cy 1, 21, .inl (va_cpy (upd (upd (upd (upd (upd (upd (fun _ => 0) 9 (-1)) 10 (-1)) 11 (-1)) 12 (-1)) 13 (-1)) 14 (-1)) (fun _ => 0) 0 0 21)))] s.heap.size = A at hD ⊢
  have hA : ∀ q : Nat, s.heap.size ≤ q → A q := fun q h => by rw [← hAe]; exact Or.inr h
  have hS : va_S A s.heap s.heap [] := va_S.rf
  have hP : va_P D vwCl [(q_37, .inl (cy 1, 21, .inl (va_cpy (upd (upd (upd (upd (upd (upd (fun _ => 0) 9 (-1)) 10 (-1)) 11 (-1)) 12 (-1)) 13 (-1)) 14 (-1)) (fun _ => 0) 0 0 21)))] s.heap := hP
  have hl := lv_entry ([.ref q_37, .int 15]) (n := 4) (Nat.le_of_ble_eq_true rfl)
  rw [lg_entry_eq]
  generalize (lg_sl ([.ref q_37, .int 15]) ++ List.replicate (4 - (lg_sl ([.ref q_37, .int 15])).length) Slot.unset).toArray = ls at hl ⊢
  have hl : lv_has ls 4 [(0, .ref q_37), (1, .int 15)] := hl
  refine w_nm (fun Q hQ => ?_)
  refine lv_iconst (v := 0) hx hb dX12_sum_0 (by decide) ?_
  refine lv_istore_n (lv' := [(2, .int 0), (0, .ref q_37), (1, .int 15)]) hx hb dX12_sum_1 rfl hl (by decide) rfl (fun ls hl => ?_)
  refine lv_iload_n hx hb dX12_sum_2 rfl (lv_at hl 2 rfl) ?_
  refine lv_istore_n (lv' := [(3, .int 15), (2, .int 0), (0, .ref q_37), (1, .int 15)]) hx hb dX12_sum_3 rfl hl (by decide) rfl (fun ls hl => ?_)
  refine lv_iload_n hx hb dX12_sum_4 rfl (lv_at hl 0 rfl) ?_
  refine lv_iload_n hx hb dX12_sum_5 rfl (lv_at hl 3 rfl) ?_
  refine lv_bipush (v := 6) hx hb dX12_sum_6 (by decide) ?_
  refine m_iadd (v := 21) hx hb dX12_sum_8 (by decide) ?_
  refine lv_icmp_ge (tgt := 24) hx hb dX12_sum_9 (by decide) (fun c_ => absurd c_ (by decide)) (fun _ => ?_)
  refine lv_iload_n hx hb dX12_sum_12 rfl (lv_at hl 1 rfl) ?_
  refine lv_aload_n hx hb dX12_sum_13 rfl (lv_at hl 2 rfl) ?_
  refine lv_iload_n hx hb dX12_sum_14 rfl (lv_at hl 0 rfl) ?_
  refine m_iald (v := 0) hx hb hG hP 0 rfl (vin (by decide)) dX12_sum_15 rfl ?_
  refine m_iadd (v := 0) hx hb dX12_sum_16 (by decide) ?_
  refine lv_istore_n (lv' := [(2, .int 0), (3, .int 15), (0, .ref q_37), (1, .int 15)]) hx hb dX12_sum_17 rfl hl (by decide) rfl (fun ls hl => ?_)
  refine lv_iinc (v := 16) (lv' := [(3, .int 16), (2, .int 0), (0, .ref q_37), (1, .int 15)]) hx hb dX12_sum_18 hl (k := 1) rfl (by decide) (by decide) rfl (fun ls hl => ?_)
  refine lv_goto (tgt := 4) hx hb dX12_sum_21 (by decide) ?_
  refine lv_iload_n hx hb dX12_sum_4 rfl (lv_at hl 0 rfl) ?_
  refine lv_iload_n hx hb dX12_sum_5 rfl (lv_at hl 3 rfl) ?_
  refine lv_bipush (v := 6) hx hb dX12_sum_6 (by decide) ?_
  refine m_iadd (v := 21) hx hb dX12_sum_8 (by decide) ?_
  refine lv_icmp_ge (tgt := 24) hx hb dX12_sum_9 (by decide) (fun c_ => absurd c_ (by decide)) (fun _ => ?_)
  refine lv_iload_n hx hb dX12_sum_12 rfl (lv_at hl 1 rfl) ?_
  refine lv_aload_n hx hb dX12_sum_13 rfl (lv_at hl 2 rfl) ?_
  refine lv_iload_n hx hb dX12_sum_14 rfl (lv_at hl 0 rfl) ?_
  refine m_iald (v := 0) hx hb hG hP 0 rfl (vin (by decide)) dX12_sum_15 rfl ?_
  refine m_iadd (v := 0) hx hb dX12_sum_16 (by decide) ?_
  refine lv_istore_n (lv' := [(2, .int 0), (3, .int 16), (0, .ref q_37), (1, .int 15)]) hx hb dX12_sum_17 rfl hl (by decide) rfl (fun ls hl => ?_)
  refine lv_iinc (v := 17) (lv' := [(3, .int 17), (2, .int 0), (0, .ref q_37), (1, .int 15)]) hx hb dX12_sum_18 hl (k := 1) rfl (by decide) (by decide) rfl (fun ls hl => ?_)
  refine lv_goto (tgt := 4) hx hb dX12_sum_21 (by decide) ?_
  refine lv_iload_n hx hb dX12_sum_4 rfl (lv_at hl 0 rfl) ?_
  refine lv_iload_n hx hb dX12_sum_5 rfl (lv_at hl 3 rfl) ?_
  refine lv_bipush (v := 6) hx hb dX12_sum_6 (by decide) ?_
  refine m_iadd (v := 21) hx hb dX12_sum_8 (by decide) ?_
  refine lv_icmp_ge (tgt := 24) hx hb dX12_sum_9 (by decide) (fun c_ => absurd c_ (by decide)) (fun _ => ?_)
  refine lv_iload_n hx hb dX12_sum_12 rfl (lv_at hl 1 rfl) ?_
  refine lv_aload_n hx hb dX12_sum_13 rfl (lv_at hl 2 rfl) ?_
  refine lv_iload_n hx hb dX12_sum_14 rfl (lv_at hl 0 rfl) ?_
  refine m_iald (v := 0) hx hb hG hP 0 rfl (vin (by decide)) dX12_sum_15 rfl ?_
  refine m_iadd (v := 0) hx hb dX12_sum_16 (by decide) ?_
  refine lv_istore_n (lv' := [(2, .int 0), (3, .int 17), (0, .ref q_37), (1, .int 15)]) hx hb dX12_sum_17 rfl hl (by decide) rfl (fun ls hl => ?_)
  refine lv_iinc (v := 18) (lv' := [(3, .int 18), (2, .int 0), (0, .ref q_37), (1, .int 15)]) hx hb dX12_sum_18 hl (k := 1) rfl (by decide) (by decide) rfl (fun ls hl => ?_)
  refine lv_goto (tgt := 4) hx hb dX12_sum_21 (by decide) ?_
  refine lv_iload_n hx hb dX12_sum_4 rfl (lv_at hl 0 rfl) ?_
  refine lv_iload_n hx hb dX12_sum_5 rfl (lv_at hl 3 rfl) ?_
  refine lv_bipush (v := 6) hx hb dX12_sum_6 (by decide) ?_
  refine m_iadd (v := 21) hx hb dX12_sum_8 (by decide) ?_
  refine lv_icmp_ge (tgt := 24) hx hb dX12_sum_9 (by decide) (fun c_ => absurd c_ (by decide)) (fun _ => ?_)
  refine lv_iload_n hx hb dX12_sum_12 rfl (lv_at hl 1 rfl) ?_
  refine lv_aload_n hx hb dX12_sum_13 rfl (lv_at hl 2 rfl) ?_
  refine lv_iload_n hx hb dX12_sum_14 rfl (lv_at hl 0 rfl) ?_
  refine m_iald (v := 0) hx hb hG hP 0 rfl (vin (by decide)) dX12_sum_15 rfl ?_
  refine m_iadd (v := 0) hx hb dX12_sum_16 (by decide) ?_
  refine lv_istore_n (lv' := [(2, .int 0), (3, .int 18), (0, .ref q_37), (1, .int 15)]) hx hb dX12_sum_17 rfl hl (by decide) rfl (fun ls hl => ?_)
  refine lv_iinc (v := 19) (lv' := [(3, .int 19), (2, .int 0), (0, .ref q_37), (1, .int 15)]) hx hb dX12_sum_18 hl (k := 1) rfl (by decide) (by decide) rfl (fun ls hl => ?_)
  refine lv_goto (tgt := 4) hx hb dX12_sum_21 (by decide) ?_
  refine lv_iload_n hx hb dX12_sum_4 rfl (lv_at hl 0 rfl) ?_
  refine lv_iload_n hx hb dX12_sum_5 rfl (lv_at hl 3 rfl) ?_
  refine lv_bipush (v := 6) hx hb dX12_sum_6 (by decide) ?_
  refine m_iadd (v := 21) hx hb dX12_sum_8 (by decide) ?_
  refine lv_icmp_ge (tgt := 24) hx hb dX12_sum_9 (by decide) (fun c_ => absurd c_ (by decide)) (fun _ => ?_)
  refine lv_iload_n hx hb dX12_sum_12 rfl (lv_at hl 1 rfl) ?_
  refine lv_aload_n hx hb dX12_sum_13 rfl (lv_at hl 2 rfl) ?_
  refine lv_iload_n hx hb dX12_sum_14 rfl (lv_at hl 0 rfl) ?_
  refine m_iald (v := 0) hx hb hG hP 0 rfl (vin (by decide)) dX12_sum_15 rfl ?_
  refine m_iadd (v := 0) hx hb dX12_sum_16 (by decide) ?_
  refine lv_istore_n (lv' := [(2, .int 0), (3, .int 19), (0, .ref q_37), (1, .int 15)]) hx hb dX12_sum_17 rfl hl (by decide) rfl (fun ls hl => ?_)
  refine lv_iinc (v := 20) (lv' := [(3, .int 20), (2, .int 0), (0, .ref q_37), (1, .int 15)]) hx hb dX12_sum_18 hl (k := 1) rfl (by decide) (by decide) rfl (fun ls hl => ?_)
  refine lv_goto (tgt := 4) hx hb dX12_sum_21 (by decide) ?_
  refine lv_iload_n hx hb dX12_sum_4 rfl (lv_at hl 0 rfl) ?_
  refine lv_iload_n hx hb dX12_sum_5 rfl (lv_at hl 3 rfl) ?_
  refine lv_bipush (v := 6) hx hb dX12_sum_6 (by decide) ?_
  refine m_iadd (v := 21) hx hb dX12_sum_8 (by decide) ?_
  refine lv_icmp_ge (tgt := 24) hx hb dX12_sum_9 (by decide) (fun c_ => absurd c_ (by decide)) (fun _ => ?_)
  refine lv_iload_n hx hb dX12_sum_12 rfl (lv_at hl 1 rfl) ?_
  refine lv_aload_n hx hb dX12_sum_13 rfl (lv_at hl 2 rfl) ?_
  refine lv_iload_n hx hb dX12_sum_14 rfl (lv_at hl 0 rfl) ?_
  refine m_iald (v := 0) hx hb hG hP 0 rfl (vin (by decide)) dX12_sum_15 rfl ?_
  refine m_iadd (v := 0) hx hb dX12_sum_16 (by decide) ?_
  refine lv_istore_n (lv' := [(2, .int 0), (3, .int 20), (0, .ref q_37), (1, .int 15)]) hx hb dX12_sum_17 rfl hl (by decide) rfl (fun ls hl => ?_)
  refine lv_iinc (v := 21) (lv' := [(3, .int 21), (2, .int 0), (0, .ref q_37), (1, .int 15)]) hx hb dX12_sum_18 hl (k := 1) rfl (by decide) (by decide) rfl (fun ls hl => ?_)
  refine lv_goto (tgt := 4) hx hb dX12_sum_21 (by decide) ?_
  refine lv_iload_n hx hb dX12_sum_4 rfl (lv_at hl 0 rfl) ?_
  refine lv_iload_n hx hb dX12_sum_5 rfl (lv_at hl 3 rfl) ?_
  refine lv_bipush (v := 6) hx hb dX12_sum_6 (by decide) ?_
  refine m_iadd (v := 21) hx hb dX12_sum_8 (by decide) ?_
  refine lv_icmp_ge (tgt := 24) hx hb dX12_sum_9 (by decide) (fun _ => ?_) (fun c_ => absurd (by decide) c_)
  refine lv_iload_n hx hb dX12_sum_24 rfl (lv_at hl 1 rfl) ?_
  have hP9 := hP.sub (ws' := [(q_37, .inl (cy 1, 21, .inl (va_cpy (upd (upd (upd (upd (upd (upd (fun _ => 0) 9 (-1)) 10 (-1)) 11 (-1)) 12 (-1)) 13 (-1)) 14 (-1)) (fun _ => 0) 0 0 21)))]) [0] rfl
  have hD9 := hD.sub (ws' := [(q_37, .inl (cy 1, 21, .inl (va_cpy (upd (upd (upd (upd (upd (upd (fun _ => 0) 9 (-1)) 10 (-1)) 11 (-1)) 12 (-1)) 13 (-1)) 14 (-1)) (fun _ => 0) 0 0 21)))]) [0] (by decide) rfl
  subst hQ
  exact W.iret (v := 0) hx hb hr (fun t ht hW => qi_mk (by rw [ht]; exact ⟨rfl, hP9, hD9⟩) (hS.F ht)) hS.2.2 dX12_sum_25
set_option maxHeartbeats 4000000 in
set_option maxRecDepth 100000 in
theorem c_X12_years_1 (l : Launch) (D : va_G) (cy : Nat → ClassId) (h0 : Nat) (q_1 : Nat) (q_2 : Nat) (q_3 : Nat) (q_4 : Nat) (q_5 : Nat) (q_6 : Nat) (q_7 : Nat) (q_8 : Nat) (q_9 : Nat) (q_10 : Nat) (q_11 : Nat) (q_12 : Nat) (q_13 : Nat) (q_14 : Nat) (q_15 : Nat) (q_16 : Nat) (q_17 : Nat) (q_18 : Nat) (q_19 : Nat) (q_20 : Nat) (q_21 : Nat) (q_22 : Nat) (q_23 : Nat) (q_24 : Nat) (q_25 : Nat) (q_26 : Nat) (q_27 : Nat) (q_28 : Nat) (q_29 : Nat) (q_30 : Nat) (q_31 : Nat) (q_32 : Nat) (q_33 : Nat) (q_34 : Nat) (q_35 : Nat) (q_36 : Nat) (q_37 : Nat) (q_38 : Nat) (q_39 : Nat) (q_40 : Nat) (q_41 : Nat) (q_42 : Nat) (q_43 : Nat) (q_44 : Nat) (q_45 : Nat) (q_46 : Nat) (q_47 : Nat) (a1 : Int32) (a2 : Int32) (a3 : Int32) (sz : Nat) (hf0 : ¬ a1 < 0) (hf1 : ¬ 9999 < a1) (hf2 : ¬ a2 < 1) (hf3 : ¬ 100 < a2) (hf4 : ¬ a3 < 0) (hf5 : ¬ 2 < a3) : Met l yX12_years (Cond.code yX12_years cX12_years 5 (some .int) :: bigG) ({ frames := 2, cells := 0, slots := 0, locals := 46 }) (pre D cy [.ref h0, .int a1, .int a2, .int a3] sz [(h0, .inr (12, [.int 0, .int 0, .ref q_1, .int 0, .int 0, .int 0, .int 0, .long 0, .int 0, .int 0, .ref q_2, .ref q_3, .ref q_4, .ref q_5, .ref q_6, .ref q_7, .ref q_8, .ref q_9, .ref q_10, .ref q_11, .ref q_12, .ref q_13, .ref q_14, .ref q_15, .ref q_16, .ref q_17, .int 0, .int 0, .ref q_18, .ref q_19, .ref q_20, .ref q_21, .ref q_22, .ref q_23, .ref q_24, .ref q_25, .ref q_26, .ref q_27, .ref q_28, .ref q_29, .int 0, .long 0, .ref q_30, .ref q_31, .ref q_32, .ref q_33, .ref q_34, .ref q_35, .ref q_36, .ref q_37, .ref q_38, .ref q_39, .ref q_40, .ref q_41, .int 0, .int 0, .int 0, .int 0, .ref q_42, .ref q_43, .ref q_44, .ref q_45, .int 0, .ref q_46, .ref q_47, .int 0, .long 0])), (q_2, .inl (cy 1, 10, .inl (upd (fun _ => 0) 4 2))), (q_36, .inl (cy 1, 21, .inl (upd (upd (upd (upd (upd (upd (fun _ => 0) 9 (-1)) 10 (-1)) 11 (-1)) 12 (-1)) 13 (-1)) 14 (-1)))), (q_37, .inl (cy 1, 21, .inl (fun _ => 0)))]) (qi (fun r h => r = 0 ∧ va_P D vwCl [] h ∧ va_D (va_A [(h0, .inr (12, [.int 0, .int 0, .ref q_1, .int 0, .int 0, .int 0, .int 0, .long 0, .int 0, .int 0, .ref q_2, .ref q_3, .ref q_4, .ref q_5, .ref q_6, .ref q_7, .ref q_8, .ref q_9, .ref q_10, .ref q_11, .ref q_12, .ref q_13, .ref q_14, .ref q_15, .ref q_16, .ref q_17, .int 0, .int 0, .ref q_18, .ref q_19, .ref q_20, .ref q_21, .ref q_22, .ref q_23, .ref q_24, .ref q_25, .ref q_26, .ref q_27, .ref q_28, .ref q_29, .int 0, .long 0, .ref q_30, .ref q_31, .ref q_32, .ref q_33, .ref q_34, .ref q_35, .ref q_36, .ref q_37, .ref q_38, .ref q_39, .ref q_40, .ref q_41, .int 0, .int 0, .int 0, .int 0, .ref q_42, .ref q_43, .ref q_44, .ref q_45, .int 0, .ref q_46, .ref q_47, .int 0, .long 0])), (q_2, .inl (cy 1, 10, .inl (upd (fun _ => 0) 4 2))), (q_36, .inl (cy 1, 21, .inl (upd (upd (upd (upd (upd (upd (fun _ => 0) 9 (-1)) 10 (-1)) 11 (-1)) 12 (-1)) 13 (-1)) 14 (-1)))), (q_37, .inl (cy 1, 21, .inl (fun _ => 0)))] sz) []) (va_A [(h0, .inr (12, [.int 0, .int 0, .ref q_1, .int 0, .int 0, .int 0, .int 0, .long 0, .int 0, .int 0, .ref q_2, .ref q_3, .ref q_4, .ref q_5, .ref q_6, .ref q_7, .ref q_8, .ref q_9, .ref q_10, .ref q_11, .ref q_12, .ref q_13, .ref q_14, .ref q_15, .ref q_16, .ref q_17, .int 0, .int 0, .ref q_18, .ref q_19, .ref q_20, .ref q_21, .ref q_22, .ref q_23, .ref q_24, .ref q_25, .ref q_26, .ref q_27, .ref q_28, .ref q_29, .int 0, .long 0, .ref q_30, .ref q_31, .ref q_32, .ref q_33, .ref q_34, .ref q_35, .ref q_36, .ref q_37, .ref q_38, .ref q_39, .ref q_40, .ref q_41, .int 0, .int 0, .int 0, .int 0, .ref q_42, .ref q_43, .ref q_44, .ref q_45, .int 0, .ref q_46, .ref q_47, .int 0, .long 0])), (q_2, .inl (cy 1, 10, .inl (upd (fun _ => 0) 4 2))), (q_36, .inl (cy 1, 21, .inl (upd (upd (upd (upd (upd (upd (fun _ => 0) 9 (-1)) 10 (-1)) 11 (-1)) 12 (-1)) 13 (-1)) 14 (-1)))), (q_37, .inl (cy 1, 21, .inl (fun _ => 0)))] sz)) 0 0 (va_A [(h0, .inr (12, [.int 0, .int 0, .ref q_1, .int 0, .int 0, .int 0, .int 0, .long 0, .int 0, .int 0, .ref q_2, .ref q_3, .ref q_4, .ref q_5, .ref q_6, .ref q_7, .ref q_8, .ref q_9, .ref q_10, .ref q_11, .ref q_12, .ref q_13, .ref q_14, .ref q_15, .ref q_16, .ref q_17, .int 0, .int 0, .ref q_18, .ref q_19, .ref q_20, .ref q_21, .ref q_22, .ref q_23, .ref q_24, .ref q_25, .ref q_26, .ref q_27, .ref q_28, .ref q_29, .int 0, .long 0, .ref q_30, .ref q_31, .ref q_32, .ref q_33, .ref q_34, .ref q_35, .ref q_36, .ref q_37, .ref q_38, .ref q_39, .ref q_40, .ref q_41, .int 0, .int 0, .int 0, .int 0, .ref q_42, .ref q_43, .ref q_44, .ref q_45, .int 0, .ref q_46, .ref q_47, .int 0, .long 0])), (q_2, .inl (cy 1, 10, .inl (upd (fun _ => 0) 4 2))), (q_36, .inl (cy 1, 21, .inl (upd (upd (upd (upd (upd (upd (fun _ => 0) 9 (-1)) 10 (-1)) 11 (-1)) 12 (-1)) 13 (-1)) 14 (-1)))), (q_37, .inl (cy 1, 21, .inl (fun _ => 0)))] sz) := by
  refine Met.ofW (cc := cX12_years) (maxL := 5) (ret := (some .int)) (by decide) rfl ?_
  intro p e s m args below meth c s₁ B hml hv
  obtain ⟨rfl, hsz, hP, hG, hD0⟩ := hv
  have hx := B.exec
  have hb := B.bytes
  have hr := B.returns
  have hts := atoms_spec (ws := (Cond.code yX12_years cX12_years 5 (some .int) :: bigG)) B.pre
  have hg : ∀ w ∈ bigG, w.before ([.ref h0, .int a1, .int a2, .int a3] : List Value).toArray s = true := fun w h => hts w (List.mem_cons_of_mem _ h)
  have hown : s.vm.findClass RX12 = some m.cls := findClass_of_methodNamed B.named
  have hlocks := B.notSynchronized
  subst hsz
  have hD := hD0.self (sz := s.heap.size)
  generalize hAe : va_A [(h0, .inr (12, [.int 0, .int 0, .ref q_1, .int 0, .int 0, .int 0, .int 0, .long 0, .int 0, .int 0, .ref q_2, .ref q_3, .ref q_4, .ref q_5, .ref q_6, .ref q_7, .ref q_8, .ref q_9, .ref q_10, .ref q_11, .ref q_12, .ref q_13, .ref q_14, .ref q_15, .ref q_16, .ref q_17, .int 0, .int 0, .ref q_18, .ref q_19, .ref q_20, .ref q_21, .ref q_22, .ref q_23, .ref q_24, .ref q_25, .ref q_26, .ref q_27, .ref q_28, .ref q_29, .int 0, .long 0, .ref q_30, .ref q_31, .ref q_32, .ref q_33, .ref q_34, .ref q_35, .ref q_36, .ref q_37, .ref q_38, .ref q_39, .ref q_40, .ref q_41, .int 0, .int 0, .int 0, .int 0, .ref q_42, .ref q_43, .ref q_44, .ref q_45, .int 0, .ref q_46, .ref q_47, .int 0, .long 0])), (q_2, .inl (cy 1, 10, .inl (upd (fun _ => 0) 4 2))), (q_36, .inl (cy 1, 21, .inl (upd (upd (upd (upd (upd (upd (fun _ => 0) 9 (-1)) 10 (-1)) 11 (-1)) 12 (-1)) 13 (-1)) 14 (-1)))), (q_37, .inl (cy 1, 21, .inl (fun _ => 0)))] s.heap.size = A at hD ⊢
  have hA : ∀ q : Nat, s.heap.size ≤ q → A q := fun q h => by rw [← hAe]; exact Or.inr h
  have hS : va_S A s.heap s.heap [] := va_S.rf
  have hP : va_P D vwCl [(h0, .inr (12, [.int 0, .int 0, .ref q_1, .int 0, .int 0, .int 0, .int 0, .long 0, .int 0, .int 0, .ref q_2, .ref q_3, .ref q_4, .ref q_5, .ref q_6, .ref q_7, .ref q_8, .ref q_9, .ref q_10, .ref q_11, .ref q_12, .ref q_13, .ref q_14, .ref q_15, .ref q_16, .ref q_17, .int 0, .int 0, .ref q_18, .ref q_19, .ref q_20, .ref q_21, .ref q_22, .ref q_23, .ref q_24, .ref q_25, .ref q_26, .ref q_27, .ref q_28, .ref q_29, .int 0, .long 0, .ref q_30, .ref q_31, .ref q_32, .ref q_33, .ref q_34, .ref q_35, .ref q_36, .ref q_37, .ref q_38, .ref q_39, .ref q_40, .ref q_41, .int 0, .int 0, .int 0, .int 0, .ref q_42, .ref q_43, .ref q_44, .ref q_45, .int 0, .ref q_46, .ref q_47, .int 0, .long 0])), (q_2, .inl (cy 1, 10, .inl (upd (fun _ => 0) 4 2))), (q_36, .inl (cy 1, 21, .inl (upd (upd (upd (upd (upd (upd (fun _ => 0) 9 (-1)) 10 (-1)) 11 (-1)) 12 (-1)) 13 (-1)) 14 (-1)))), (q_37, .inl (cy 1, 21, .inl (fun _ => 0)))] s.heap := hP
  have hl := lv_entry ([.ref h0, .int a1, .int a2, .int a3]) (n := 5) (Nat.le_of_ble_eq_true rfl)
  rw [lg_entry_eq]
  generalize (lg_sl ([.ref h0, .int a1, .int a2, .int a3]) ++ List.replicate (5 - (lg_sl ([.ref h0, .int a1, .int a2, .int a3])).length) Slot.unset).toArray = ls at hl ⊢
  have hl : lv_has ls 5 [(0, .ref h0), (1, .int a1), (2, .int a2), (3, .int a3)] := hl
  refine w_nm (fun Q hQ => ?_)
  refine lv_aload_n hx hb dX12_years_0 rfl (lv_at hl 0 rfl) ?_
  refine lv_iconst (v := 0) hx hb dX12_years_1 (by decide) ?_
  refine va_put (D := D) (ci := 12) (v := .int 0) (ty := .int) (C := RX12) (T := TX12) (N := 67) hx hb hts (inC ibX12) tyX12 tyX12_ok nmX12 hown hG.1 hP hD hS 0 rfl rfl 0 (by decide) (hg _ k_1315) (fun _ h9 => h9) rfl (by decide +kernel) rfl rfl (Nat.le_of_ble_eq_true rfl) dX12_years_2 (fun H locs hP hD hS => ?_)
  have hP : va_P D vwCl [(h0, .inr (12, [.int 0, .int 0, .ref q_1, .int 0, .int 0, .int 0, .int 0, .long 0, .int 0, .int 0, .ref q_2, .ref q_3, .ref q_4, .ref q_5, .ref q_6, .ref q_7, .ref q_8, .ref q_9, .ref q_10, .ref q_11, .ref q_12, .ref q_13, .ref q_14, .ref q_15, .ref q_16, .ref q_17, .int 0, .int 0, .ref q_18, .ref q_19, .ref q_20, .ref q_21, .ref q_22, .ref q_23, .ref q_24, .ref q_25, .ref q_26, .ref q_27, .ref q_28, .ref q_29, .int 0, .long 0, .ref q_30, .ref q_31, .ref q_32, .ref q_33, .ref q_34, .ref q_35, .ref q_36, .ref q_37, .ref q_38, .ref q_39, .ref q_40, .ref q_41, .int 0, .int 0, .int 0, .int 0, .ref q_42, .ref q_43, .ref q_44, .ref q_45, .int 0, .ref q_46, .ref q_47, .int 0, .long 0])), (q_2, .inl (cy 1, 10, .inl (upd (fun _ => 0) 4 2))), (q_36, .inl (cy 1, 21, .inl (upd (upd (upd (upd (upd (upd (fun _ => 0) 9 (-1)) 10 (-1)) 11 (-1)) 12 (-1)) 13 (-1)) 14 (-1)))), (q_37, .inl (cy 1, 21, .inl (fun _ => 0)))] H := hP
  have hD : va_D A [(h0, .inr (12, [.int 0, .int 0, .ref q_1, .int 0, .int 0, .int 0, .int 0, .long 0, .int 0, .int 0, .ref q_2, .ref q_3, .ref q_4, .ref q_5, .ref q_6, .ref q_7, .ref q_8, .ref q_9, .ref q_10, .ref q_11, .ref q_12, .ref q_13, .ref q_14, .ref q_15, .ref q_16, .ref q_17, .int 0, .int 0, .ref q_18, .ref q_19, .ref q_20, .ref q_21, .ref q_22, .ref q_23, .ref q_24, .ref q_25, .ref q_26, .ref q_27, .ref q_28, .ref q_29, .int 0, .long 0, .ref q_30, .ref q_31, .ref q_32, .ref q_33, .ref q_34, .ref q_35, .ref q_36, .ref q_37, .ref q_38, .ref q_39, .ref q_40, .ref q_41, .int 0, .int 0, .int 0, .int 0, .ref q_42, .ref q_43, .ref q_44, .ref q_45, .int 0, .ref q_46, .ref q_47, .int 0, .long 0])), (q_2, .inl (cy 1, 10, .inl (upd (fun _ => 0) 4 2))), (q_36, .inl (cy 1, 21, .inl (upd (upd (upd (upd (upd (upd (fun _ => 0) 9 (-1)) 10 (-1)) 11 (-1)) 12 (-1)) 13 (-1)) 14 (-1)))), (q_37, .inl (cy 1, 21, .inl (fun _ => 0)))] := hD
  refine lv_iload_n hx hb dX12_years_5 rfl (lv_at hl 1 rfl) ?_
  refine lv_iconst (v := 0) hx hb dX12_years_6 (by decide) ?_
  refine lv_sipush (v := 9999) hx hb dX12_years_7 (by decide) ?_
  refine x_i (wr := [(h0, .inr (12, [.int 0, .int 0, .ref q_1, .int 0, .int 0, .int 0, .int 0, .long 0, .int 0, .int 0, .ref q_2, .ref q_3, .ref q_4, .ref q_5, .ref q_6, .ref q_7, .ref q_8, .ref q_9, .ref q_10, .ref q_11, .ref q_12, .ref q_13, .ref q_14, .ref q_15, .ref q_16, .ref q_17, .int 0, .int 0, .ref q_18, .ref q_19, .ref q_20, .ref q_21, .ref q_22, .ref q_23, .ref q_24, .ref q_25, .ref q_26, .ref q_27, .ref q_28, .ref q_29, .int 0, .long 0, .ref q_30, .ref q_31, .ref q_32, .ref q_33, .ref q_34, .ref q_35, .ref q_36, .ref q_37, .ref q_38, .ref q_39, .ref q_40, .ref q_41, .int 0, .int 0, .int 0, .int 0, .ref q_42, .ref q_43, .ref q_44, .ref q_45, .int 0, .ref q_46, .ref q_47, .int 0, .long 0])), (q_2, .inl (cy 1, 10, .inl (upd (fun _ => 0) 4 2))), (q_36, .inl (cy 1, 21, .inl (upd (upd (upd (upd (upd (upd (fun _ => 0) 9 (-1)) 10 (-1)) 11 (-1)) 12 (-1)) 13 (-1)) 14 (-1)))), (q_37, .inl (cy 1, 21, .inl (fun _ => 0)))]) hP hD hS hA [] [0, 1, 2, 3] rfl rfl (by decide) (by decide) (va_runS (As := [.int a1, .int 0, .int 9999]) (rest := []) ⟨hx, hb, hml, hown, hts⟩ (c_X12_within_1 l D cy a1 H.size hf0 hf1) (va_cwS 3 hts (gS km_X12_293 kt_X12_within kn_X12 kc_X12_within) rfl rfl rfl (by decide +kernel) ⟨(Nat.le_of_ble_eq_true rfl), (Nat.le_of_ble_eq_true rfl)⟩) (preS hG hP hD [] rfl (by decide)) rfl rfl hl.1 rfl (lv_room (Nat.le_of_ble_eq_true rfl)) dX12_years_10 ⟨(Nat.le_of_ble_eq_true rfl), (Nat.le_of_ble_eq_true rfl)⟩) (fun r_1 H locs hB hj hS => ?_)
  obtain ⟨hres, hP1, hD1⟩ := hB
  subst hres
  obtain ⟨hP, hD⟩ := hj _ hP1 hD1
  have hP : va_P D vwCl [(h0, .inr (12, [.int 0, .int 0, .ref q_1, .int 0, .int 0, .int 0, .int 0, .long 0, .int 0, .int 0, .ref q_2, .ref q_3, .ref q_4, .ref q_5, .ref q_6, .ref q_7, .ref q_8, .ref q_9, .ref q_10, .ref q_11, .ref q_12, .ref q_13, .ref q_14, .ref q_15, .ref q_16, .ref q_17, .int 0, .int 0, .ref q_18, .ref q_19, .ref q_20, .ref q_21, .ref q_22, .ref q_23, .ref q_24, .ref q_25, .ref q_26, .ref q_27, .ref q_28, .ref q_29, .int 0, .long 0, .ref q_30, .ref q_31, .ref q_32, .ref q_33, .ref q_34, .ref q_35, .ref q_36, .ref q_37, .ref q_38, .ref q_39, .ref q_40, .ref q_41, .int 0, .int 0, .int 0, .int 0, .ref q_42, .ref q_43, .ref q_44, .ref q_45, .int 0, .ref q_46, .ref q_47, .int 0, .long 0])), (q_2, .inl (cy 1, 10, .inl (upd (fun _ => 0) 4 2))), (q_36, .inl (cy 1, 21, .inl (upd (upd (upd (upd (upd (upd (fun _ => 0) 9 (-1)) 10 (-1)) 11 (-1)) 12 (-1)) 13 (-1)) 14 (-1)))), (q_37, .inl (cy 1, 21, .inl (fun _ => 0)))] H := hP
  have hD : va_D A [(h0, .inr (12, [.int 0, .int 0, .ref q_1, .int 0, .int 0, .int 0, .int 0, .long 0, .int 0, .int 0, .ref q_2, .ref q_3, .ref q_4, .ref q_5, .ref q_6, .ref q_7, .ref q_8, .ref q_9, .ref q_10, .ref q_11, .ref q_12, .ref q_13, .ref q_14, .ref q_15, .ref q_16, .ref q_17, .int 0, .int 0, .ref q_18, .ref q_19, .ref q_20, .ref q_21, .ref q_22, .ref q_23, .ref q_24, .ref q_25, .ref q_26, .ref q_27, .ref q_28, .ref q_29, .int 0, .long 0, .ref q_30, .ref q_31, .ref q_32, .ref q_33, .ref q_34, .ref q_35, .ref q_36, .ref q_37, .ref q_38, .ref q_39, .ref q_40, .ref q_41, .int 0, .int 0, .int 0, .int 0, .ref q_42, .ref q_43, .ref q_44, .ref q_45, .int 0, .ref q_46, .ref q_47, .int 0, .long 0])), (q_2, .inl (cy 1, 10, .inl (upd (fun _ => 0) 4 2))), (q_36, .inl (cy 1, 21, .inl (upd (upd (upd (upd (upd (upd (fun _ => 0) 9 (-1)) 10 (-1)) 11 (-1)) 12 (-1)) 13 (-1)) 14 (-1)))), (q_37, .inl (cy 1, 21, .inl (fun _ => 0)))] := hD
  refine lv_if_eq (tgt := 35) hx hb dX12_years_13 (by decide) (fun c_ => absurd c_ (by decide)) (fun _ => ?_)
  refine lv_iload_n hx hb dX12_years_16 rfl (lv_at hl 2 rfl) ?_
  refine lv_iconst (v := 1) hx hb dX12_years_17 (by decide) ?_
  refine lv_bipush (v := 100) hx hb dX12_years_18 (by decide) ?_
  refine x_i (wr := [(h0, .inr (12, [.int 0, .int 0, .ref q_1, .int 0, .int 0, .int 0, .int 0, .long 0, .int 0, .int 0, .ref q_2, .ref q_3, .ref q_4, .ref q_5, .ref q_6, .ref q_7, .ref q_8, .ref q_9, .ref q_10, .ref q_11, .ref q_12, .ref q_13, .ref q_14, .ref q_15, .ref q_16, .ref q_17, .int 0, .int 0, .ref q_18, .ref q_19, .ref q_20, .ref q_21, .ref q_22, .ref q_23, .ref q_24, .ref q_25, .ref q_26, .ref q_27, .ref q_28, .ref q_29, .int 0, .long 0, .ref q_30, .ref q_31, .ref q_32, .ref q_33, .ref q_34, .ref q_35, .ref q_36, .ref q_37, .ref q_38, .ref q_39, .ref q_40, .ref q_41, .int 0, .int 0, .int 0, .int 0, .ref q_42, .ref q_43, .ref q_44, .ref q_45, .int 0, .ref q_46, .ref q_47, .int 0, .long 0])), (q_2, .inl (cy 1, 10, .inl (upd (fun _ => 0) 4 2))), (q_36, .inl (cy 1, 21, .inl (upd (upd (upd (upd (upd (upd (fun _ => 0) 9 (-1)) 10 (-1)) 11 (-1)) 12 (-1)) 13 (-1)) 14 (-1)))), (q_37, .inl (cy 1, 21, .inl (fun _ => 0)))]) hP hD hS hA [] [0, 1, 2, 3] rfl rfl (by decide) (by decide) (va_runS (As := [.int a2, .int 1, .int 100]) (rest := []) ⟨hx, hb, hml, hown, hts⟩ (c_X12_within_2 l D cy a2 H.size hf2 hf3) (va_cwS 3 hts (gS km_X12_293 kt_X12_within kn_X12 kc_X12_within) rfl rfl rfl (by decide +kernel) ⟨(Nat.le_of_ble_eq_true rfl), (Nat.le_of_ble_eq_true rfl)⟩) (preS hG hP hD [] rfl (by decide)) rfl rfl hl.1 rfl (lv_room (Nat.le_of_ble_eq_true rfl)) dX12_years_20 ⟨(Nat.le_of_ble_eq_true rfl), (Nat.le_of_ble_eq_true rfl)⟩) (fun r_2 H locs hB hj hS => ?_)
  obtain ⟨hres, hP1, hD1⟩ := hB
  subst hres
  obtain ⟨hP, hD⟩ := hj _ hP1 hD1
  have hP : va_P D vwCl [(h0, .inr (12, [.int 0, .int 0, .ref q_1, .int 0, .int 0, .int 0, .int 0, .long 0, .int 0, .int 0, .ref q_2, .ref q_3, .ref q_4, .ref q_5, .ref q_6, .ref q_7, .ref q_8, .ref q_9, .ref q_10, .ref q_11, .ref q_12, .ref q_13, .ref q_14, .ref q_15, .ref q_16, .ref q_17, .int 0, .int 0, .ref q_18, .ref q_19, .ref q_20, .ref q_21, .ref q_22, .ref q_23, .ref q_24, .ref q_25, .ref q_26, .ref q_27, .ref q_28, .ref q_29, .int 0, .long 0, .ref q_30, .ref q_31, .ref q_32, .ref q_33, .ref q_34, .ref q_35, .ref q_36, .ref q_37, .ref q_38, .ref q_39, .ref q_40, .ref q_41, .int 0, .int 0, .int 0, .int 0, .ref q_42, .ref q_43, .ref q_44, .ref q_45, .int 0, .ref q_46, .ref q_47, .int 0, .long 0])), (q_2, .inl (cy 1, 10, .inl (upd (fun _ => 0) 4 2))), (q_36, .inl (cy 1, 21, .inl (upd (upd (upd (upd (upd (upd (fun _ => 0) 9 (-1)) 10 (-1)) 11 (-1)) 12 (-1)) 13 (-1)) 14 (-1)))), (q_37, .inl (cy 1, 21, .inl (fun _ => 0)))] H := hP
  have hD : va_D A [(h0, .inr (12, [.int 0, .int 0, .ref q_1, .int 0, .int 0, .int 0, .int 0, .long 0, .int 0, .int 0, .ref q_2, .ref q_3, .ref q_4, .ref q_5, .ref q_6, .ref q_7, .ref q_8, .ref q_9, .ref q_10, .ref q_11, .ref q_12, .ref q_13, .ref q_14, .ref q_15, .ref q_16, .ref q_17, .int 0, .int 0, .ref q_18, .ref q_19, .ref q_20, .ref q_21, .ref q_22, .ref q_23, .ref q_24, .ref q_25, .ref q_26, .ref q_27, .ref q_28, .ref q_29, .int 0, .long 0, .ref q_30, .ref q_31, .ref q_32, .ref q_33, .ref q_34, .ref q_35, .ref q_36, .ref q_37, .ref q_38, .ref q_39, .ref q_40, .ref q_41, .int 0, .int 0, .int 0, .int 0, .ref q_42, .ref q_43, .ref q_44, .ref q_45, .int 0, .ref q_46, .ref q_47, .int 0, .long 0])), (q_2, .inl (cy 1, 10, .inl (upd (fun _ => 0) 4 2))), (q_36, .inl (cy 1, 21, .inl (upd (upd (upd (upd (upd (upd (fun _ => 0) 9 (-1)) 10 (-1)) 11 (-1)) 12 (-1)) 13 (-1)) 14 (-1)))), (q_37, .inl (cy 1, 21, .inl (fun _ => 0)))] := hD
  refine lv_if_eq (tgt := 35) hx hb dX12_years_23 (by decide) (fun c_ => absurd c_ (by decide)) (fun _ => ?_)
  refine lv_iload_n hx hb dX12_years_26 rfl (lv_at hl 3 rfl) ?_
  refine lv_iconst (v := 0) hx hb dX12_years_27 (by decide) ?_
  refine lv_iconst (v := 2) hx hb dX12_years_28 (by decide) ?_
  refine x_i (wr := [(h0, .inr (12, [.int 0, .int 0, .ref q_1, .int 0, .int 0, .int 0, .int 0, .long 0, .int 0, .int 0, .ref q_2, .ref q_3, .ref q_4, .ref q_5, .ref q_6, .ref q_7, .ref q_8, .ref q_9, .ref q_10, .ref q_11, .ref q_12, .ref q_13, .ref q_14, .ref q_15, .ref q_16, .ref q_17, .int 0, .int 0, .ref q_18, .ref q_19, .ref q_20, .ref q_21, .ref q_22, .ref q_23, .ref q_24, .ref q_25, .ref q_26, .ref q_27, .ref q_28, .ref q_29, .int 0, .long 0, .ref q_30, .ref q_31, .ref q_32, .ref q_33, .ref q_34, .ref q_35, .ref q_36, .ref q_37, .ref q_38, .ref q_39, .ref q_40, .ref q_41, .int 0, .int 0, .int 0, .int 0, .ref q_42, .ref q_43, .ref q_44, .ref q_45, .int 0, .ref q_46, .ref q_47, .int 0, .long 0])), (q_2, .inl (cy 1, 10, .inl (upd (fun _ => 0) 4 2))), (q_36, .inl (cy 1, 21, .inl (upd (upd (upd (upd (upd (upd (fun _ => 0) 9 (-1)) 10 (-1)) 11 (-1)) 12 (-1)) 13 (-1)) 14 (-1)))), (q_37, .inl (cy 1, 21, .inl (fun _ => 0)))]) hP hD hS hA [] [0, 1, 2, 3] rfl rfl (by decide) (by decide) (va_runS (As := [.int a3, .int 0, .int 2]) (rest := []) ⟨hx, hb, hml, hown, hts⟩ (c_X12_within_3 l D cy a3 H.size hf4 hf5) (va_cwS 3 hts (gS km_X12_293 kt_X12_within kn_X12 kc_X12_within) rfl rfl rfl (by decide +kernel) ⟨(Nat.le_of_ble_eq_true rfl), (Nat.le_of_ble_eq_true rfl)⟩) (preS hG hP hD [] rfl (by decide)) rfl rfl hl.1 rfl (lv_room (Nat.le_of_ble_eq_true rfl)) dX12_years_29 ⟨(Nat.le_of_ble_eq_true rfl), (Nat.le_of_ble_eq_true rfl)⟩) (fun r_3 H locs hB hj hS => ?_)
  obtain ⟨hres, hP1, hD1⟩ := hB
  subst hres
  obtain ⟨hP, hD⟩ := hj _ hP1 hD1
  have hP : va_P D vwCl [(h0, .inr (12, [.int 0, .int 0, .ref q_1, .int 0, .int 0, .int 0, .int 0, .long 0, .int 0, .int 0, .ref q_2, .ref q_3, .ref q_4, .ref q_5, .ref q_6, .ref q_7, .ref q_8, .ref q_9, .ref q_10, .ref q_11, .ref q_12, .ref q_13, .ref q_14, .ref q_15, .ref q_16, .ref q_17, .int 0, .int 0, .ref q_18, .ref q_19, .ref q_20, .ref q_21, .ref q_22, .ref q_23, .ref q_24, .ref q_25, .ref q_26, .ref q_27, .ref q_28, .ref q_29, .int 0, .long 0, .ref q_30, .ref q_31, .ref q_32, .ref q_33, .ref q_34, .ref q_35, .ref q_36, .ref q_37, .ref q_38, .ref q_39, .ref q_40, .ref q_41, .int 0, .int 0, .int 0, .int 0, .ref q_42, .ref q_43, .ref q_44, .ref q_45, .int 0, .ref q_46, .ref q_47, .int 0, .long 0])), (q_2, .inl (cy 1, 10, .inl (upd (fun _ => 0) 4 2))), (q_36, .inl (cy 1, 21, .inl (upd (upd (upd (upd (upd (upd (fun _ => 0) 9 (-1)) 10 (-1)) 11 (-1)) 12 (-1)) 13 (-1)) 14 (-1)))), (q_37, .inl (cy 1, 21, .inl (fun _ => 0)))] H := hP
  have hD : va_D A [(h0, .inr (12, [.int 0, .int 0, .ref q_1, .int 0, .int 0, .int 0, .int 0, .long 0, .int 0, .int 0, .ref q_2, .ref q_3, .ref q_4, .ref q_5, .ref q_6, .ref q_7, .ref q_8, .ref q_9, .ref q_10, .ref q_11, .ref q_12, .ref q_13, .ref q_14, .ref q_15, .ref q_16, .ref q_17, .int 0, .int 0, .ref q_18, .ref q_19, .ref q_20, .ref q_21, .ref q_22, .ref q_23, .ref q_24, .ref q_25, .ref q_26, .ref q_27, .ref q_28, .ref q_29, .int 0, .long 0, .ref q_30, .ref q_31, .ref q_32, .ref q_33, .ref q_34, .ref q_35, .ref q_36, .ref q_37, .ref q_38, .ref q_39, .ref q_40, .ref q_41, .int 0, .int 0, .int 0, .int 0, .ref q_42, .ref q_43, .ref q_44, .ref q_45, .int 0, .ref q_46, .ref q_47, .int 0, .long 0])), (q_2, .inl (cy 1, 10, .inl (upd (fun _ => 0) 4 2))), (q_36, .inl (cy 1, 21, .inl (upd (upd (upd (upd (upd (upd (fun _ => 0) 9 (-1)) 10 (-1)) 11 (-1)) 12 (-1)) 13 (-1)) 14 (-1)))), (q_37, .inl (cy 1, 21, .inl (fun _ => 0)))] := hD
  refine lv_if_ne (tgt := 37) hx hb dX12_years_32 (by decide) (fun _ => ?_) (fun c_ => absurd c_ (by decide))
  obtain ⟨nd, hnd, end_⟩ := nI_of2 (x := a2) (M := 100) (n := 100) rfl (by have q0 := hf2; simp only [lt_ti, ti_0, ti_1] at q0 ⊢; omega) (nlt_le hf3)
  refine lv_aload_n hx hb dX12_years_37 rfl (lv_at hl 0 rfl) ?_
  refine lv_iload_n hx hb dX12_years_38 rfl (lv_at hl 1 rfl) ?_
  refine lv_i2l (v := a1.toInt64) hx hb dX12_years_39 rfl ?_
  refine lv_topl (fun f_4 ef_4 => ?_)
  refine va_put (D := D) (ci := 12) (v := .long f_4) (ty := .long) (C := RX12) (T := TX12) (N := 67) hx hb hts (inC ibX12) tyX12 tyX12_ok nmX12 hown hG.1 hP hD hS 0 rfl rfl 66 (by decide) (hg _ k_1381) (fun _ h9 => h9) rfl (by decide +kernel) rfl rfl (Nat.le_of_ble_eq_true rfl) dX12_years_40 (fun H locs hP hD hS => ?_)
  have hP : va_P D vwCl [(h0, .inr (12, [.int 0, .int 0, .ref q_1, .int 0, .int 0, .int 0, .int 0, .long 0, .int 0, .int 0, .ref q_2, .ref q_3, .ref q_4, .ref q_5, .ref q_6, .ref q_7, .ref q_8, .ref q_9, .ref q_10, .ref q_11, .ref q_12, .ref q_13, .ref q_14, .ref q_15, .ref q_16, .ref q_17, .int 0, .int 0, .ref q_18, .ref q_19, .ref q_20, .ref q_21, .ref q_22, .ref q_23, .ref q_24, .ref q_25, .ref q_26, .ref q_27, .ref q_28, .ref q_29, .int 0, .long 0, .ref q_30, .ref q_31, .ref q_32, .ref q_33, .ref q_34, .ref q_35, .ref q_36, .ref q_37, .ref q_38, .ref q_39, .ref q_40, .ref q_41, .int 0, .int 0, .int 0, .int 0, .ref q_42, .ref q_43, .ref q_44, .ref q_45, .int 0, .ref q_46, .ref q_47, .int 0, .long f_4])), (q_2, .inl (cy 1, 10, .inl (upd (fun _ => 0) 4 2))), (q_36, .inl (cy 1, 21, .inl (upd (upd (upd (upd (upd (upd (fun _ => 0) 9 (-1)) 10 (-1)) 11 (-1)) 12 (-1)) 13 (-1)) 14 (-1)))), (q_37, .inl (cy 1, 21, .inl (fun _ => 0)))] H := hP
  have hD : va_D A [(h0, .inr (12, [.int 0, .int 0, .ref q_1, .int 0, .int 0, .int 0, .int 0, .long 0, .int 0, .int 0, .ref q_2, .ref q_3, .ref q_4, .ref q_5, .ref q_6, .ref q_7, .ref q_8, .ref q_9, .ref q_10, .ref q_11, .ref q_12, .ref q_13, .ref q_14, .ref q_15, .ref q_16, .ref q_17, .int 0, .int 0, .ref q_18, .ref q_19, .ref q_20, .ref q_21, .ref q_22, .ref q_23, .ref q_24, .ref q_25, .ref q_26, .ref q_27, .ref q_28, .ref q_29, .int 0, .long 0, .ref q_30, .ref q_31, .ref q_32, .ref q_33, .ref q_34, .ref q_35, .ref q_36, .ref q_37, .ref q_38, .ref q_39, .ref q_40, .ref q_41, .int 0, .int 0, .int 0, .int 0, .ref q_42, .ref q_43, .ref q_44, .ref q_45, .int 0, .ref q_46, .ref q_47, .int 0, .long f_4])), (q_2, .inl (cy 1, 10, .inl (upd (fun _ => 0) 4 2))), (q_36, .inl (cy 1, 21, .inl (upd (upd (upd (upd (upd (upd (fun _ => 0) 9 (-1)) 10 (-1)) 11 (-1)) 12 (-1)) 13 (-1)) 14 (-1)))), (q_37, .inl (cy 1, 21, .inl (fun _ => 0)))] := hD
  refine lv_aload_n hx hb dX12_years_43 rfl (lv_at hl 0 rfl) ?_
  refine va_get (D := D) (ci := 12) (v := .ref q_36) (C := RX12) (T := TX12) (N := 67) hx hb hts (inC ibX12) hown hG.1 hP 0 rfl rfl 48 (by decide) (hg _ k_1363) (fun _ h9 => h9) rfl dX12_years_44 ?_
  refine lv_iconst (v := 0) hx hb dX12_years_47 (by decide) ?_
  refine lv_aload_n hx hb dX12_years_48 rfl (lv_at hl 0 rfl) ?_
  refine va_get (D := D) (ci := 12) (v := .ref q_37) (C := RX12) (T := TX12) (N := 67) hx hb hts (inC ibX12) hown hG.1 hP 0 rfl rfl 49 (by decide) (hg _ k_1364) (fun _ h9 => h9) rfl dX12_years_49 ?_
  refine lv_iconst (v := 0) hx hb dX12_years_52 (by decide) ?_
  refine x_v (wr := [(h0, .inr (12, [.int 0, .int 0, .ref q_1, .int 0, .int 0, .int 0, .int 0, .long 0, .int 0, .int 0, .ref q_2, .ref q_3, .ref q_4, .ref q_5, .ref q_6, .ref q_7, .ref q_8, .ref q_9, .ref q_10, .ref q_11, .ref q_12, .ref q_13, .ref q_14, .ref q_15, .ref q_16, .ref q_17, .int 0, .int 0, .ref q_18, .ref q_19, .ref q_20, .ref q_21, .ref q_22, .ref q_23, .ref q_24, .ref q_25, .ref q_26, .ref q_27, .ref q_28, .ref q_29, .int 0, .long 0, .ref q_30, .ref q_31, .ref q_32, .ref q_33, .ref q_34, .ref q_35, .ref q_36, .ref q_37, .ref q_38, .ref q_39, .ref q_40, .ref q_41, .int 0, .int 0, .int 0, .int 0, .ref q_42, .ref q_43, .ref q_44, .ref q_45, .int 0, .ref q_46, .ref q_47, .int 0, .long f_4])), (q_2, .inl (cy 1, 10, .inl (upd (fun _ => 0) 4 2)))]) hP hD hS hA [2, 3] [0, 1] rfl rfl (by decide) (by decide) (va_runS (As := [.ref q_36, .int 0, .ref q_37, .int 0]) (rest := []) ⟨hx, hb, hml, hown, hts⟩ (c_X12_copies l D cy q_36 21 (upd (upd (upd (upd (upd (upd (fun _ => 0) 9 (-1)) 10 (-1)) 11 (-1)) 12 (-1)) 13 (-1)) 14 (-1)) q_37 21 (fun _ => 0) 0 0 H.size (by decide) (by decide) (by decide) (by decide)) (va_cwS 4 hts (gS km_X12_453 kt_X12_copies kn_X12 kc_X12_copies) rfl rfl rfl (by decide +kernel) ⟨(Nat.le_of_ble_eq_true rfl), (Nat.le_of_ble_eq_true rfl)⟩) (preS hG hP hD [2, 3] rfl (by decide)) rfl rfl hl.1 rfl (lv_room (Nat.le_of_ble_eq_true rfl)) dX12_years_53 ⟨(Nat.le_of_ble_eq_true rfl), (Nat.le_of_ble_eq_true rfl)⟩) (fun H locs hB hj hS => ?_)
  obtain ⟨hP1, hD1⟩ := hB
  obtain ⟨hP, hD⟩ := hj _ hP1 hD1
  have hP : va_P D vwCl [(h0, .inr (12, [.int 0, .int 0, .ref q_1, .int 0, .int 0, .int 0, .int 0, .long 0, .int 0, .int 0, .ref q_2, .ref q_3, .ref q_4, .ref q_5, .ref q_6, .ref q_7, .ref q_8, .ref q_9, .ref q_10, .ref q_11, .ref q_12, .ref q_13, .ref q_14, .ref q_15, .ref q_16, .ref q_17, .int 0, .int 0, .ref q_18, .ref q_19, .ref q_20, .ref q_21, .ref q_22, .ref q_23, .ref q_24, .ref q_25, .ref q_26, .ref q_27, .ref q_28, .ref q_29, .int 0, .long 0, .ref q_30, .ref q_31, .ref q_32, .ref q_33, .ref q_34, .ref q_35, .ref q_36, .ref q_37, .ref q_38, .ref q_39, .ref q_40, .ref q_41, .int 0, .int 0, .int 0, .int 0, .ref q_42, .ref q_43, .ref q_44, .ref q_45, .int 0, .ref q_46, .ref q_47, .int 0, .long f_4])), (q_2, .inl (cy 1, 10, .inl (upd (fun _ => 0) 4 2))), (q_36, .inl (cy 1, 21, .inl (upd (upd (upd (upd (upd (upd (fun _ => 0) 9 (-1)) 10 (-1)) 11 (-1)) 12 (-1)) 13 (-1)) 14 (-1)))), (q_37, .inl (cy 1, 21, .inl (va_cpy (upd (upd (upd (upd (upd (upd (fun _ => 0) 9 (-1)) 10 (-1)) 11 (-1)) 12 (-1)) 13 (-1)) 14 (-1)) (fun _ => 0) 0 0 21)))] H := hP
  have hD : va_D A [(h0, .inr (12, [.int 0, .int 0, .ref q_1, .int 0, .int 0, .int 0, .int 0, .long 0, .int 0, .int 0, .ref q_2, .ref q_3, .ref q_4, .ref q_5, .ref q_6, .ref q_7, .ref q_8, .ref q_9, .ref q_10, .ref q_11, .ref q_12, .ref q_13, .ref q_14, .ref q_15, .ref q_16, .ref q_17, .int 0, .int 0, .ref q_18, .ref q_19, .ref q_20, .ref q_21, .ref q_22, .ref q_23, .ref q_24, .ref q_25, .ref q_26, .ref q_27, .ref q_28, .ref q_29, .int 0, .long 0, .ref q_30, .ref q_31, .ref q_32, .ref q_33, .ref q_34, .ref q_35, .ref q_36, .ref q_37, .ref q_38, .ref q_39, .ref q_40, .ref q_41, .int 0, .int 0, .int 0, .int 0, .ref q_42, .ref q_43, .ref q_44, .ref q_45, .int 0, .ref q_46, .ref q_47, .int 0, .long f_4])), (q_2, .inl (cy 1, 10, .inl (upd (fun _ => 0) 4 2))), (q_36, .inl (cy 1, 21, .inl (upd (upd (upd (upd (upd (upd (fun _ => 0) 9 (-1)) 10 (-1)) 11 (-1)) 12 (-1)) 13 (-1)) 14 (-1)))), (q_37, .inl (cy 1, 21, .inl (va_cpy (upd (upd (upd (upd (upd (upd (fun _ => 0) 9 (-1)) 10 (-1)) 11 (-1)) 12 (-1)) 13 (-1)) 14 (-1)) (fun _ => 0) 0 0 21)))] := hD
  refine lv_iconst (v := 0) hx hb dX12_years_56 (by decide) ?_
  refine lv_istore (lv' := [(4, .int 0), (0, .ref h0), (1, .int a1), (2, .int a2), (3, .int a3)]) hx hb dX12_years_57 hl (by decide) rfl (fun ls hl => ?_)
  have hP : va_P D vwCl [(h0, .inr (12, [.int 0, .int 0, .ref q_1, .int 0, .int 0, .int 0, .int 0, .long 0, .int 0, .int 0, .ref q_2, .ref q_3, .ref q_4, .ref q_5, .ref q_6, .ref q_7, .ref q_8, .ref q_9, .ref q_10, .ref q_11, .ref q_12, .ref q_13, .ref q_14, .ref q_15, .ref q_16, .ref q_17, .int 0, .int 0, .ref q_18, .ref q_19, .ref q_20, .ref q_21, .ref q_22, .ref q_23, .ref q_24, .ref q_25, .ref q_26, .ref q_27, .ref q_28, .ref q_29, .int 0, .long 0, .ref q_30, .ref q_31, .ref q_32, .ref q_33, .ref q_34, .ref q_35, .ref q_36, .ref q_37, .ref q_38, .ref q_39, .ref q_40, .ref q_41, .int 0, .int 0, .int 0, .int 0, .ref q_42, .ref q_43, .ref q_44, .ref q_45, .int 0, .ref q_46, .ref q_47, .int 0, .long f_4])), (q_2, .inl (cy 1, 10, .inl (upd (fun _ => 0) 4 2))), (q_36, .inl (cy 1, 21, .inl (upd (upd (upd (upd (upd (upd (upd (fun _ => 0) 9 (-1)) 10 (-1)) 11 (-1)) 12 (-1)) 13 (-1)) 14 (-1)) 0 0))), (q_37, .inl (cy 1, 21, .inl (va_cpy (upd (upd (upd (upd (upd (upd (fun _ => 0) 9 (-1)) 10 (-1)) 11 (-1)) 12 (-1)) 13 (-1)) 14 (-1)) (fun _ => 0) 0 0 21)))] H := by rw [upd_same (f := upd (upd (upd (upd (upd (upd (fun _ => 0) 9 (-1)) 10 (-1)) 11 (-1)) 12 (-1)) 13 (-1)) 14 (-1)) (k := 0) (x := 0) rfl]; exact hP
  have hD : va_D A [(h0, .inr (12, [.int 0, .int 0, .ref q_1, .int 0, .int 0, .int 0, .int 0, .long 0, .int 0, .int 0, .ref q_2, .ref q_3, .ref q_4, .ref q_5, .ref q_6, .ref q_7, .ref q_8, .ref q_9, .ref q_10, .ref q_11, .ref q_12, .ref q_13, .ref q_14, .ref q_15, .ref q_16, .ref q_17, .int 0, .int 0, .ref q_18, .ref q_19, .ref q_20, .ref q_21, .ref q_22, .ref q_23, .ref q_24, .ref q_25, .ref q_26, .ref q_27, .ref q_28, .ref q_29, .int 0, .long 0, .ref q_30, .ref q_31, .ref q_32, .ref q_33, .ref q_34, .ref q_35, .ref q_36, .ref q_37, .ref q_38, .ref q_39, .ref q_40, .ref q_41, .int 0, .int 0, .int 0, .int 0, .ref q_42, .ref q_43, .ref q_44, .ref q_45, .int 0, .ref q_46, .ref q_47, .int 0, .long f_4])), (q_2, .inl (cy 1, 10, .inl (upd (fun _ => 0) 4 2))), (q_36, .inl (cy 1, 21, .inl (upd (upd (upd (upd (upd (upd (upd (fun _ => 0) 9 (-1)) 10 (-1)) 11 (-1)) 12 (-1)) 13 (-1)) 14 (-1)) 0 0))), (q_37, .inl (cy 1, 21, .inl (va_cpy (upd (upd (upd (upd (upd (upd (fun _ => 0) 9 (-1)) 10 (-1)) 11 (-1)) 12 (-1)) 13 (-1)) 14 (-1)) (fun _ => 0) 0 0 21)))] := by rw [upd_same (f := upd (upd (upd (upd (upd (upd (fun _ => 0) 9 (-1)) 10 (-1)) 11 (-1)) 12 (-1)) 13 (-1)) 14 (-1)) (k := 0) (x := 0) rfl]; exact hD
  have LP_5 : ∀ (n_ : Nat) (i : Nat) (x4 : Int32) (g0 : Int64) (dy : Int32), nd - i < n_ → i ≤ nd → x4 = nI i → ∀ (H : Heap) (locs : List Loc), va_P D vwCl [(h0, .inr (12, [.int 0, .int 0, .ref q_1, .int 0, .int 0, .int 0, .int 0, .long 0, .int 0, .int 0, .ref q_2, .ref q_3, .ref q_4, .ref q_5, .ref q_6, .ref q_7, .ref q_8, .ref q_9, .ref q_10, .ref q_11, .ref q_12, .ref q_13, .ref q_14, .ref q_15, .ref q_16, .ref q_17, .int 0, .int 0, .ref q_18, .ref q_19, .ref q_20, .ref q_21, .ref q_22, .ref q_23, .ref q_24, .ref q_25, .ref q_26, .ref q_27, .ref q_28, .ref q_29, .int 0, .long 0, .ref q_30, .ref q_31, .ref q_32, .ref q_33, .ref q_34, .ref q_35, .ref q_36, .ref q_37, .ref q_38, .ref q_39, .ref q_40, .ref q_41, .int 0, .int 0, .int 0, .int 0, .ref q_42, .ref q_43, .ref q_44, .ref q_45, .int 0, .ref q_46, .ref q_47, .int 0, .long g0])), (q_2, .inl (cy 1, 10, .inl (upd (fun _ => 0) 4 2))), (q_36, .inl (cy 1, 21, .inl (upd (upd (upd (upd (upd (upd (upd (fun _ => 0) 9 (-1)) 10 (-1)) 11 (-1)) 12 (-1)) 13 (-1)) 14 (-1)) 0 dy))), (q_37, .inl (cy 1, 21, .inl (va_cpy (upd (upd (upd (upd (upd (upd (fun _ => 0) 9 (-1)) 10 (-1)) 11 (-1)) 12 (-1)) 13 (-1)) 14 (-1)) (fun _ => 0) 0 0 21)))] H → va_D A [(h0, .inr (12, [.int 0, .int 0, .ref q_1, .int 0, .int 0, .int 0, .int 0, .long 0, .int 0, .int 0, .ref q_2, .ref q_3, .ref q_4, .ref q_5, .ref q_6, .ref q_7, .ref q_8, .ref q_9, .ref q_10, .ref q_11, .ref q_12, .ref q_13, .ref q_14, .ref q_15, .ref q_16, .ref q_17, .int 0, .int 0, .ref q_18, .ref q_19, .ref q_20, .ref q_21, .ref q_22, .ref q_23, .ref q_24, .ref q_25, .ref q_26, .ref q_27, .ref q_28, .ref q_29, .int 0, .long 0, .ref q_30, .ref q_31, .ref q_32, .ref q_33, .ref q_34, .ref q_35, .ref q_36, .ref q_37, .ref q_38, .ref q_39, .ref q_40, .ref q_41, .int 0, .int 0, .int 0, .int 0, .ref q_42, .ref q_43, .ref q_44, .ref q_45, .int 0, .ref q_46, .ref q_47, .int 0, .long g0])), (q_2, .inl (cy 1, 10, .inl (upd (fun _ => 0) 4 2))), (q_36, .inl (cy 1, 21, .inl (upd (upd (upd (upd (upd (upd (upd (fun _ => 0) 9 (-1)) 10 (-1)) 11 (-1)) 12 (-1)) 13 (-1)) 14 (-1)) 0 dy))), (q_37, .inl (cy 1, 21, .inl (va_cpy (upd (upd (upd (upd (upd (upd (fun _ => 0) 9 (-1)) 10 (-1)) 11 (-1)) 12 (-1)) 13 (-1)) 14 (-1)) (fun _ => 0) 0 0 21)))] → va_S A s.heap H locs → ∀ (ls : Array Slot), lv_has ls 5 [(4, .int x4), (0, .ref h0), (1, .int a1), (2, .int a2), (3, .int a3)] → W p l e (headSpec (Cond.code yX12_years cX12_years 5 (some .int) :: bigG) { frames := 2, cells := 0, slots := 0, locals := 46 }).room s m ([.ref h0, .int a1, .int a2, .int a3] : List Value).toArray below meth c H locs 0 0 Q (F0 m 59 ls []) := by
    intro n_
    induction n_ with
    | zero => intro i x4 g0 dy hm_; exact absurd hm_ (Nat.not_lt_zero _)
    | succ n_ ih =>
      intro i x4 g0 dy hm_ hi ex4 H locs hP hD hS ls hl
      refine lv_iload hx hb dX12_years_59 (lv_at hl 0 rfl) ?_
      refine lv_iload_n hx hb dX12_years_61 rfl (lv_at hl 3 rfl) ?_
      refine lv_icmp_ge (tgt := 75) hx hb dX12_years_62 (by decide) (fun c_6 => ?_) (fun c_6 => ?_)
      · refine lv_iload_n hx hb dX12_years_75 rfl (lv_at hl 4 rfl) ?_
        refine lv_if_ne (tgt := 101) hx hb dX12_years_76 (by decide) (fun c_7 => ?_) (fun c_7 => ?_)
        · refine lv_iload_n hx hb dX12_years_101 rfl (lv_at hl 4 rfl) ?_
          refine lv_iconst (v := 1) hx hb dX12_years_102 (by decide) ?_
          refine lv_icmp_ne (tgt := 122) hx hb dX12_years_103 (by decide) (fun c_8 => ?_) (fun c_8 => ?_)
          · refine lv_aload_n hx hb dX12_years_122 rfl (lv_at hl 1 rfl) ?_
            refine va_get (D := D) (ci := 12) (v := .ref q_36) (C := RX12) (T := TX12) (N := 67) hx hb hts (inC ibX12) hown hG.1 hP 0 rfl rfl 48 (by decide) (hg _ k_1363) (fun _ h9 => h9) rfl dX12_years_123 ?_
            refine lv_iconst (v := 1) hx hb dX12_years_126 (by decide) ?_
            refine m_iald (v := 0) hx hb hG hP 2 rfl (vin (by decide)) dX12_years_127 rfl ?_
            refine lv_istore (lv' := [(4, .int 0), (0, .ref h0), (1, .int a1), (2, .int a2), (3, .int a3)]) hx hb dX12_years_128 hl (by decide) rfl (fun ls hl => ?_)
            refine lv_aload_n hx hb dX12_years_130 rfl (lv_at hl 1 rfl) ?_
            refine va_get (D := D) (ci := 12) (v := .ref q_37) (C := RX12) (T := TX12) (N := 67) hx hb hts (inC ibX12) hown hG.1 hP 0 rfl rfl 49 (by decide) (hg _ k_1364) (fun _ h9 => h9) rfl dX12_years_131 ?_
            refine lv_iconst (v := 0) hx hb dX12_years_134 (by decide) ?_
            refine lv_aload_n hx hb dX12_years_135 rfl (lv_at hl 1 rfl) ?_
            refine va_get (D := D) (ci := 12) (v := .ref q_36) (C := RX12) (T := TX12) (N := 67) hx hb hts (inC ibX12) hown hG.1 hP 0 rfl rfl 48 (by decide) (hg _ k_1363) (fun _ h9 => h9) rfl dX12_years_136 ?_
            refine lv_iconst (v := 0) hx hb dX12_years_139 (by decide) ?_
            refine x_v (wr := [(h0, .inr (12, [.int 0, .int 0, .ref q_1, .int 0, .int 0, .int 0, .int 0, .long 0, .int 0, .int 0, .ref q_2, .ref q_3, .ref q_4, .ref q_5, .ref q_6, .ref q_7, .ref q_8, .ref q_9, .ref q_10, .ref q_11, .ref q_12, .ref q_13, .ref q_14, .ref q_15, .ref q_16, .ref q_17, .int 0, .int 0, .ref q_18, .ref q_19, .ref q_20, .ref q_21, .ref q_22, .ref q_23, .ref q_24, .ref q_25, .ref q_26, .ref q_27, .ref q_28, .ref q_29, .int 0, .long 0, .ref q_30, .ref q_31, .ref q_32, .ref q_33, .ref q_34, .ref q_35, .ref q_36, .ref q_37, .ref q_38, .ref q_39, .ref q_40, .ref q_41, .int 0, .int 0, .int 0, .int 0, .ref q_42, .ref q_43, .ref q_44, .ref q_45, .int 0, .ref q_46, .ref q_47, .int 0, .long g0])), (q_2, .inl (cy 1, 10, .inl (upd (fun _ => 0) 4 2)))]) hP hD hS hA [3, 2] [0, 1] rfl rfl (by decide) (by decide) (va_runS (As := [.ref q_37, .int 0, .ref q_36, .int 0]) (rest := []) ⟨hx, hb, hml, hown, hts⟩ (c_X12_copies l D cy q_37 21 (va_cpy (upd (upd (upd (upd (upd (upd (fun _ => 0) 9 (-1)) 10 (-1)) 11 (-1)) 12 (-1)) 13 (-1)) 14 (-1)) (fun _ => 0) 0 0 21) q_36 21 (upd (upd (upd (upd (upd (upd (upd (fun _ => 0) 9 (-1)) 10 (-1)) 11 (-1)) 12 (-1)) 13 (-1)) 14 (-1)) 0 dy) 0 0 H.size (by decide) (by decide) (by decide) (by decide)) (va_cwS 4 hts (gS km_X12_453 kt_X12_copies kn_X12 kc_X12_copies) rfl rfl rfl (by decide +kernel) ⟨(Nat.le_of_ble_eq_true rfl), (Nat.le_of_ble_eq_true rfl)⟩) (preS hG hP hD [3, 2] rfl (by decide)) rfl rfl hl.1 rfl (lv_room (Nat.le_of_ble_eq_true rfl)) dX12_years_140 ⟨(Nat.le_of_ble_eq_true rfl), (Nat.le_of_ble_eq_true rfl)⟩) (fun H locs hB hj hS => ?_)
            obtain ⟨hP1, hD1⟩ := hB
            obtain ⟨hP, hD⟩ := hj _ hP1 hD1
            have hP : va_P D vwCl [(h0, .inr (12, [.int 0, .int 0, .ref q_1, .int 0, .int 0, .int 0, .int 0, .long 0, .int 0, .int 0, .ref q_2, .ref q_3, .ref q_4, .ref q_5, .ref q_6, .ref q_7, .ref q_8, .ref q_9, .ref q_10, .ref q_11, .ref q_12, .ref q_13, .ref q_14, .ref q_15, .ref q_16, .ref q_17, .int 0, .int 0, .ref q_18, .ref q_19, .ref q_20, .ref q_21, .ref q_22, .ref q_23, .ref q_24, .ref q_25, .ref q_26, .ref q_27, .ref q_28, .ref q_29, .int 0, .long 0, .ref q_30, .ref q_31, .ref q_32, .ref q_33, .ref q_34, .ref q_35, .ref q_36, .ref q_37, .ref q_38, .ref q_39, .ref q_40, .ref q_41, .int 0, .int 0, .int 0, .int 0, .ref q_42, .ref q_43, .ref q_44, .ref q_45, .int 0, .ref q_46, .ref q_47, .int 0, .long g0])), (q_2, .inl (cy 1, 10, .inl (upd (fun _ => 0) 4 2))), (q_37, .inl (cy 1, 21, .inl (va_cpy (upd (upd (upd (upd (upd (upd (fun _ => 0) 9 (-1)) 10 (-1)) 11 (-1)) 12 (-1)) 13 (-1)) 14 (-1)) (fun _ => 0) 0 0 21))), (q_36, .inl (cy 1, 21, .inl (va_cpy (va_cpy (upd (upd (upd (upd (upd (upd (fun _ => 0) 9 (-1)) 10 (-1)) 11 (-1)) 12 (-1)) 13 (-1)) 14 (-1)) (fun _ => 0) 0 0 21) (upd (upd (upd (upd (upd (upd (upd (fun _ => 0) 9 (-1)) 10 (-1)) 11 (-1)) 12 (-1)) 13 (-1)) 14 (-1)) 0 dy) 0 0 21)))] H := hP
            have hD : va_D A [(h0, .inr (12, [.int 0, .int 0, .ref q_1, .int 0, .int 0, .int 0, .int 0, .long 0, .int 0, .int 0, .ref q_2, .ref q_3, .ref q_4, .ref q_5, .ref q_6, .ref q_7, .ref q_8, .ref q_9, .ref q_10, .ref q_11, .ref q_12, .ref q_13, .ref q_14, .ref q_15, .ref q_16, .ref q_17, .int 0, .int 0, .ref q_18, .ref q_19, .ref q_20, .ref q_21, .ref q_22, .ref q_23, .ref q_24, .ref q_25, .ref q_26, .ref q_27, .ref q_28, .ref q_29, .int 0, .long 0, .ref q_30, .ref q_31, .ref q_32, .ref q_33, .ref q_34, .ref q_35, .ref q_36, .ref q_37, .ref q_38, .ref q_39, .ref q_40, .ref q_41, .int 0, .int 0, .int 0, .int 0, .ref q_42, .ref q_43, .ref q_44, .ref q_45, .int 0, .ref q_46, .ref q_47, .int 0, .long g0])), (q_2, .inl (cy 1, 10, .inl (upd (fun _ => 0) 4 2))), (q_37, .inl (cy 1, 21, .inl (va_cpy (upd (upd (upd (upd (upd (upd (fun _ => 0) 9 (-1)) 10 (-1)) 11 (-1)) 12 (-1)) 13 (-1)) 14 (-1)) (fun _ => 0) 0 0 21))), (q_36, .inl (cy 1, 21, .inl (va_cpy (va_cpy (upd (upd (upd (upd (upd (upd (fun _ => 0) 9 (-1)) 10 (-1)) 11 (-1)) 12 (-1)) 13 (-1)) 14 (-1)) (fun _ => 0) 0 0 21) (upd (upd (upd (upd (upd (upd (upd (fun _ => 0) 9 (-1)) 10 (-1)) 11 (-1)) 12 (-1)) 13 (-1)) 14 (-1)) 0 dy) 0 0 21)))] := hD
            refine lv_iload hx hb dX12_years_143 (lv_at hl 0 rfl) ?_
            have hP9 := hP.sub (ws' := []) [] rfl
            have hD9 := hD.sub (ws' := []) [] (by decide) rfl
            subst hQ
            exact W.iret (v := 0) hx hb hr (fun t ht hW => qi_mk (by rw [ht]; exact ⟨rfl, hP9, hD9⟩) (hS.F ht)) hS.2.2 dX12_years_145
          · refine lv_aload_n hx hb dX12_years_106 rfl (lv_at hl 1 rfl) ?_
            refine va_get (D := D) (ci := 12) (v := .ref q_36) (C := RX12) (T := TX12) (N := 67) hx hb hts (inC ibX12) hown hG.1 hP 0 rfl rfl 48 (by decide) (hg _ k_1363) (fun _ h9 => h9) rfl dX12_years_107 ?_
            refine lv_iconst (v := 2) hx hb dX12_years_110 (by decide) ?_
            refine m_iald (v := 0) hx hb hG hP 2 rfl (vin (by decide)) dX12_years_111 rfl ?_
            refine lv_aload_n hx hb dX12_years_112 rfl (lv_at hl 1 rfl) ?_
            refine va_get (D := D) (ci := 12) (v := .ref q_37) (C := RX12) (T := TX12) (N := 67) hx hb hts (inC ibX12) hown hG.1 hP 0 rfl rfl 49 (by decide) (hg _ k_1364) (fun _ h9 => h9) rfl dX12_years_113 ?_
            refine lv_iconst (v := 2) hx hb dX12_years_116 (by decide) ?_
            refine m_iald (v := 0) hx hb hG hP 3 rfl (vin (by decide)) dX12_years_117 rfl ?_
            refine m_isub (v := 0) hx hb dX12_years_118 (by decide) ?_
            refine lv_goto (tgt := 128) hx hb dX12_years_119 (by decide) ?_
            refine lv_istore (lv' := [(4, .int 0), (0, .ref h0), (1, .int a1), (2, .int a2), (3, .int a3)]) hx hb dX12_years_128 hl (by decide) rfl (fun ls hl => ?_)
            refine lv_aload_n hx hb dX12_years_130 rfl (lv_at hl 1 rfl) ?_
            refine va_get (D := D) (ci := 12) (v := .ref q_37) (C := RX12) (T := TX12) (N := 67) hx hb hts (inC ibX12) hown hG.1 hP 0 rfl rfl 49 (by decide) (hg _ k_1364) (fun _ h9 => h9) rfl dX12_years_131 ?_
            refine lv_iconst (v := 0) hx hb dX12_years_134 (by decide) ?_
            refine lv_aload_n hx hb dX12_years_135 rfl (lv_at hl 1 rfl) ?_
            refine va_get (D := D) (ci := 12) (v := .ref q_36) (C := RX12) (T := TX12) (N := 67) hx hb hts (inC ibX12) hown hG.1 hP 0 rfl rfl 48 (by decide) (hg _ k_1363) (fun _ h9 => h9) rfl dX12_years_136 ?_
            refine lv_iconst (v := 0) hx hb dX12_years_139 (by decide) ?_
            refine x_v (wr := [(h0, .inr (12, [.int 0, .int 0, .ref q_1, .int 0, .int 0, .int 0, .int 0, .long 0, .int 0, .int 0, .ref q_2, .ref q_3, .ref q_4, .ref q_5, .ref q_6, .ref q_7, .ref q_8, .ref q_9, .ref q_10, .ref q_11, .ref q_12, .ref q_13, .ref q_14, .ref q_15, .ref q_16, .ref q_17, .int 0, .int 0, .ref q_18, .ref q_19, .ref q_20, .ref q_21, .ref q_22, .ref q_23, .ref q_24, .ref q_25, .ref q_26, .ref q_27, .ref q_28, .ref q_29, .int 0, .long 0, .ref q_30, .ref q_31, .ref q_32, .ref q_33, .ref q_34, .ref q_35, .ref q_36, .ref q_37, .ref q_38, .ref q_39, .ref q_40, .ref q_41, .int 0, .int 0, .int 0, .int 0, .ref q_42, .ref q_43, .ref q_44, .ref q_45, .int 0, .ref q_46, .ref q_47, .int 0, .long g0])), (q_2, .inl (cy 1, 10, .inl (upd (fun _ => 0) 4 2)))]) hP hD hS hA [3, 2] [0, 1] rfl rfl (by decide) (by decide) (va_runS (As := [.ref q_37, .int 0, .ref q_36, .int 0]) (rest := []) ⟨hx, hb, hml, hown, hts⟩ (c_X12_copies l D cy q_37 21 (va_cpy (upd (upd (upd (upd (upd (upd (fun _ => 0) 9 (-1)) 10 (-1)) 11 (-1)) 12 (-1)) 13 (-1)) 14 (-1)) (fun _ => 0) 0 0 21) q_36 21 (upd (upd (upd (upd (upd (upd (upd (fun _ => 0) 9 (-1)) 10 (-1)) 11 (-1)) 12 (-1)) 13 (-1)) 14 (-1)) 0 dy) 0 0 H.size (by decide) (by decide) (by decide) (by decide)) (va_cwS 4 hts (gS km_X12_453 kt_X12_copies kn_X12 kc_X12_copies) rfl rfl rfl (by decide +kernel) ⟨(Nat.le_of_ble_eq_true rfl), (Nat.le_of_ble_eq_true rfl)⟩) (preS hG hP hD [3, 2] rfl (by decide)) rfl rfl hl.1 rfl (lv_room (Nat.le_of_ble_eq_true rfl)) dX12_years_140 ⟨(Nat.le_of_ble_eq_true rfl), (Nat.le_of_ble_eq_true rfl)⟩) (fun H locs hB hj hS => ?_)
            obtain ⟨hP1, hD1⟩ := hB
            obtain ⟨hP, hD⟩ := hj _ hP1 hD1
            have hP : va_P D vwCl [(h0, .inr (12, [.int 0, .int 0, .ref q_1, .int 0, .int 0, .int 0, .int 0, .long 0, .int 0, .int 0, .ref q_2, .ref q_3, .ref q_4, .ref q_5, .ref q_6, .ref q_7, .ref q_8, .ref q_9, .ref q_10, .ref q_11, .ref q_12, .ref q_13, .ref q_14, .ref q_15, .ref q_16, .ref q_17, .int 0, .int 0, .ref q_18, .ref q_19, .ref q_20, .ref q_21, .ref q_22, .ref q_23, .ref q_24, .ref q_25, .ref q_26, .ref q_27, .ref q_28, .ref q_29, .int 0, .long 0, .ref q_30, .ref q_31, .ref q_32, .ref q_33, .ref q_34, .ref q_35, .ref q_36, .ref q_37, .ref q_38, .ref q_39, .ref q_40, .ref q_41, .int 0, .int 0, .int 0, .int 0, .ref q_42, .ref q_43, .ref q_44, .ref q_45, .int 0, .ref q_46, .ref q_47, .int 0, .long g0])), (q_2, .inl (cy 1, 10, .inl (upd (fun _ => 0) 4 2))), (q_37, .inl (cy 1, 21, .inl (va_cpy (upd (upd (upd (upd (upd (upd (fun _ => 0) 9 (-1)) 10 (-1)) 11 (-1)) 12 (-1)) 13 (-1)) 14 (-1)) (fun _ => 0) 0 0 21))), (q_36, .inl (cy 1, 21, .inl (va_cpy (va_cpy (upd (upd (upd (upd (upd (upd (fun _ => 0) 9 (-1)) 10 (-1)) 11 (-1)) 12 (-1)) 13 (-1)) 14 (-1)) (fun _ => 0) 0 0 21) (upd (upd (upd (upd (upd (upd (upd (fun _ => 0) 9 (-1)) 10 (-1)) 11 (-1)) 12 (-1)) 13 (-1)) 14 (-1)) 0 dy) 0 0 21)))] H := hP
            have hD : va_D A [(h0, .inr (12, [.int 0, .int 0, .ref q_1, .int 0, .int 0, .int 0, .int 0, .long 0, .int 0, .int 0, .ref q_2, .ref q_3, .ref q_4, .ref q_5, .ref q_6, .ref q_7, .ref q_8, .ref q_9, .ref q_10, .ref q_11, .ref q_12, .ref q_13, .ref q_14, .ref q_15, .ref q_16, .ref q_17, .int 0, .int 0, .ref q_18, .ref q_19, .ref q_20, .ref q_21, .ref q_22, .ref q_23, .ref q_24, .ref q_25, .ref q_26, .ref q_27, .ref q_28, .ref q_29, .int 0, .long 0, .ref q_30, .ref q_31, .ref q_32, .ref q_33, .ref q_34, .ref q_35, .ref q_36, .ref q_37, .ref q_38, .ref q_39, .ref q_40, .ref q_41, .int 0, .int 0, .int 0, .int 0, .ref q_42, .ref q_43, .ref q_44, .ref q_45, .int 0, .ref q_46, .ref q_47, .int 0, .long g0])), (q_2, .inl (cy 1, 10, .inl (upd (fun _ => 0) 4 2))), (q_37, .inl (cy 1, 21, .inl (va_cpy (upd (upd (upd (upd (upd (upd (fun _ => 0) 9 (-1)) 10 (-1)) 11 (-1)) 12 (-1)) 13 (-1)) 14 (-1)) (fun _ => 0) 0 0 21))), (q_36, .inl (cy 1, 21, .inl (va_cpy (va_cpy (upd (upd (upd (upd (upd (upd (fun _ => 0) 9 (-1)) 10 (-1)) 11 (-1)) 12 (-1)) 13 (-1)) 14 (-1)) (fun _ => 0) 0 0 21) (upd (upd (upd (upd (upd (upd (upd (fun _ => 0) 9 (-1)) 10 (-1)) 11 (-1)) 12 (-1)) 13 (-1)) 14 (-1)) 0 dy) 0 0 21)))] := hD
            refine lv_iload hx hb dX12_years_143 (lv_at hl 0 rfl) ?_
            have hP9 := hP.sub (ws' := []) [] rfl
            have hD9 := hD.sub (ws' := []) [] (by decide) rfl
            subst hQ
            exact W.iret (v := 0) hx hb hr (fun t ht hW => qi_mk (by rw [ht]; exact ⟨rfl, hP9, hD9⟩) (hS.F ht)) hS.2.2 dX12_years_145
        · refine lv_aload_n hx hb dX12_years_79 rfl (lv_at hl 1 rfl) ?_
          refine va_get (D := D) (ci := 12) (v := .ref q_36) (C := RX12) (T := TX12) (N := 67) hx hb hts (inC ibX12) hown hG.1 hP 0 rfl rfl 48 (by decide) (hg _ k_1363) (fun _ h9 => h9) rfl dX12_years_80 ?_
          refine lv_bipush (v := 15) hx hb dX12_years_83 (by decide) ?_
          refine x_i (wr := [(h0, .inr (12, [.int 0, .int 0, .ref q_1, .int 0, .int 0, .int 0, .int 0, .long 0, .int 0, .int 0, .ref q_2, .ref q_3, .ref q_4, .ref q_5, .ref q_6, .ref q_7, .ref q_8, .ref q_9, .ref q_10, .ref q_11, .ref q_12, .ref q_13, .ref q_14, .ref q_15, .ref q_16, .ref q_17, .int 0, .int 0, .ref q_18, .ref q_19, .ref q_20, .ref q_21, .ref q_22, .ref q_23, .ref q_24, .ref q_25, .ref q_26, .ref q_27, .ref q_28, .ref q_29, .int 0, .long 0, .ref q_30, .ref q_31, .ref q_32, .ref q_33, .ref q_34, .ref q_35, .ref q_36, .ref q_37, .ref q_38, .ref q_39, .ref q_40, .ref q_41, .int 0, .int 0, .int 0, .int 0, .ref q_42, .ref q_43, .ref q_44, .ref q_45, .int 0, .ref q_46, .ref q_47, .int 0, .long g0])), (q_2, .inl (cy 1, 10, .inl (upd (fun _ => 0) 4 2))), (q_37, .inl (cy 1, 21, .inl (va_cpy (upd (upd (upd (upd (upd (upd (fun _ => 0) 9 (-1)) 10 (-1)) 11 (-1)) 12 (-1)) 13 (-1)) 14 (-1)) (fun _ => 0) 0 0 21)))]) hP hD hS hA [2] [0, 1, 3] rfl rfl (by decide) (by decide) (va_runS (As := [.ref q_36, .int 15]) (rest := []) ⟨hx, hb, hml, hown, hts⟩ (c_X12_sum_1 l D cy q_36 dy H.size) (va_cwS 2 hts (gS km_X12_541 kt_X12_sum kn_X12 kc_X12_sum) rfl rfl rfl (by decide +kernel) ⟨(Nat.le_of_ble_eq_true rfl), (Nat.le_of_ble_eq_true rfl)⟩) (preS hG hP hD [2] rfl (by decide)) rfl rfl hl.1 rfl (lv_room (Nat.le_of_ble_eq_true rfl)) dX12_years_85 ⟨(Nat.le_of_ble_eq_true rfl), (Nat.le_of_ble_eq_true rfl)⟩) (fun r_9 H locs hB hj hS => ?_)
          obtain ⟨hres, hP1, hD1⟩ := hB
          subst hres
          obtain ⟨hP, hD⟩ := hj _ hP1 hD1
          have hP : va_P D vwCl [(h0, .inr (12, [.int 0, .int 0, .ref q_1, .int 0, .int 0, .int 0, .int 0, .long 0, .int 0, .int 0, .ref q_2, .ref q_3, .ref q_4, .ref q_5, .ref q_6, .ref q_7, .ref q_8, .ref q_9, .ref q_10, .ref q_11, .ref q_12, .ref q_13, .ref q_14, .ref q_15, .ref q_16, .ref q_17, .int 0, .int 0, .ref q_18, .ref q_19, .ref q_20, .ref q_21, .ref q_22, .ref q_23, .ref q_24, .ref q_25, .ref q_26, .ref q_27, .ref q_28, .ref q_29, .int 0, .long 0, .ref q_30, .ref q_31, .ref q_32, .ref q_33, .ref q_34, .ref q_35, .ref q_36, .ref q_37, .ref q_38, .ref q_39, .ref q_40, .ref q_41, .int 0, .int 0, .int 0, .int 0, .ref q_42, .ref q_43, .ref q_44, .ref q_45, .int 0, .ref q_46, .ref q_47, .int 0, .long g0])), (q_2, .inl (cy 1, 10, .inl (upd (fun _ => 0) 4 2))), (q_37, .inl (cy 1, 21, .inl (va_cpy (upd (upd (upd (upd (upd (upd (fun _ => 0) 9 (-1)) 10 (-1)) 11 (-1)) 12 (-1)) 13 (-1)) 14 (-1)) (fun _ => 0) 0 0 21))), (q_36, .inl (cy 1, 21, .inl (upd (upd (upd (upd (upd (upd (upd (fun _ => 0) 9 (-1)) 10 (-1)) 11 (-1)) 12 (-1)) 13 (-1)) 14 (-1)) 0 dy)))] H := hP
          have hD : va_D A [(h0, .inr (12, [.int 0, .int 0, .ref q_1, .int 0, .int 0, .int 0, .int 0, .long 0, .int 0, .int 0, .ref q_2, .ref q_3, .ref q_4, .ref q_5, .ref q_6, .ref q_7, .ref q_8, .ref q_9, .ref q_10, .ref q_11, .ref q_12, .ref q_13, .ref q_14, .ref q_15, .ref q_16, .ref q_17, .int 0, .int 0, .ref q_18, .ref q_19, .ref q_20, .ref q_21, .ref q_22, .ref q_23, .ref q_24, .ref q_25, .ref q_26, .ref q_27, .ref q_28, .ref q_29, .int 0, .long 0, .ref q_30, .ref q_31, .ref q_32, .ref q_33, .ref q_34, .ref q_35, .ref q_36, .ref q_37, .ref q_38, .ref q_39, .ref q_40, .ref q_41, .int 0, .int 0, .int 0, .int 0, .ref q_42, .ref q_43, .ref q_44, .ref q_45, .int 0, .ref q_46, .ref q_47, .int 0, .long g0])), (q_2, .inl (cy 1, 10, .inl (upd (fun _ => 0) 4 2))), (q_37, .inl (cy 1, 21, .inl (va_cpy (upd (upd (upd (upd (upd (upd (fun _ => 0) 9 (-1)) 10 (-1)) 11 (-1)) 12 (-1)) 13 (-1)) 14 (-1)) (fun _ => 0) 0 0 21))), (q_36, .inl (cy 1, 21, .inl (upd (upd (upd (upd (upd (upd (upd (fun _ => 0) 9 (-1)) 10 (-1)) 11 (-1)) 12 (-1)) 13 (-1)) 14 (-1)) 0 dy)))] := hD
          refine lv_aload_n hx hb dX12_years_88 rfl (lv_at hl 1 rfl) ?_
          refine va_get (D := D) (ci := 12) (v := .ref q_37) (C := RX12) (T := TX12) (N := 67) hx hb hts (inC ibX12) hown hG.1 hP 0 rfl rfl 49 (by decide) (hg _ k_1364) (fun _ h9 => h9) rfl dX12_years_89 ?_
          refine lv_bipush (v := 15) hx hb dX12_years_92 (by decide) ?_
          refine x_i (wr := [(h0, .inr (12, [.int 0, .int 0, .ref q_1, .int 0, .int 0, .int 0, .int 0, .long 0, .int 0, .int 0, .ref q_2, .ref q_3, .ref q_4, .ref q_5, .ref q_6, .ref q_7, .ref q_8, .ref q_9, .ref q_10, .ref q_11, .ref q_12, .ref q_13, .ref q_14, .ref q_15, .ref q_16, .ref q_17, .int 0, .int 0, .ref q_18, .ref q_19, .ref q_20, .ref q_21, .ref q_22, .ref q_23, .ref q_24, .ref q_25, .ref q_26, .ref q_27, .ref q_28, .ref q_29, .int 0, .long 0, .ref q_30, .ref q_31, .ref q_32, .ref q_33, .ref q_34, .ref q_35, .ref q_36, .ref q_37, .ref q_38, .ref q_39, .ref q_40, .ref q_41, .int 0, .int 0, .int 0, .int 0, .ref q_42, .ref q_43, .ref q_44, .ref q_45, .int 0, .ref q_46, .ref q_47, .int 0, .long g0])), (q_2, .inl (cy 1, 10, .inl (upd (fun _ => 0) 4 2))), (q_36, .inl (cy 1, 21, .inl (upd (upd (upd (upd (upd (upd (upd (fun _ => 0) 9 (-1)) 10 (-1)) 11 (-1)) 12 (-1)) 13 (-1)) 14 (-1)) 0 dy)))]) hP hD hS hA [2] [0, 1, 3] rfl rfl (by decide) (by decide) (va_runS (As := [.ref q_37, .int 15]) (rest := [.int 0]) ⟨hx, hb, hml, hown, hts⟩ (c_X12_sum_2 l D cy q_37 H.size) (va_cwS 2 hts (gS km_X12_541 kt_X12_sum kn_X12 kc_X12_sum) rfl rfl rfl (by decide +kernel) ⟨(Nat.le_of_ble_eq_true rfl), (Nat.le_of_ble_eq_true rfl)⟩) (preS hG hP hD [2] rfl (by decide)) rfl rfl hl.1 rfl (lv_room (Nat.le_of_ble_eq_true rfl)) dX12_years_94 ⟨(Nat.le_of_ble_eq_true rfl), (Nat.le_of_ble_eq_true rfl)⟩) (fun r_10 H locs hB hj hS => ?_)
          obtain ⟨hres, hP1, hD1⟩ := hB
          subst hres
          obtain ⟨hP, hD⟩ := hj _ hP1 hD1
          have hP : va_P D vwCl [(h0, .inr (12, [.int 0, .int 0, .ref q_1, .int 0, .int 0, .int 0, .int 0, .long 0, .int 0, .int 0, .ref q_2, .ref q_3, .ref q_4, .ref q_5, .ref q_6, .ref q_7, .ref q_8, .ref q_9, .ref q_10, .ref q_11, .ref q_12, .ref q_13, .ref q_14, .ref q_15, .ref q_16, .ref q_17, .int 0, .int 0, .ref q_18, .ref q_19, .ref q_20, .ref q_21, .ref q_22, .ref q_23, .ref q_24, .ref q_25, .ref q_26, .ref q_27, .ref q_28, .ref q_29, .int 0, .long 0, .ref q_30, .ref q_31, .ref q_32, .ref q_33, .ref q_34, .ref q_35, .ref q_36, .ref q_37, .ref q_38, .ref q_39, .ref q_40, .ref q_41, .int 0, .int 0, .int 0, .int 0, .ref q_42, .ref q_43, .ref q_44, .ref q_45, .int 0, .ref q_46, .ref q_47, .int 0, .long g0])), (q_2, .inl (cy 1, 10, .inl (upd (fun _ => 0) 4 2))), (q_36, .inl (cy 1, 21, .inl (upd (upd (upd (upd (upd (upd (upd (fun _ => 0) 9 (-1)) 10 (-1)) 11 (-1)) 12 (-1)) 13 (-1)) 14 (-1)) 0 dy))), (q_37, .inl (cy 1, 21, .inl (va_cpy (upd (upd (upd (upd (upd (upd (fun _ => 0) 9 (-1)) 10 (-1)) 11 (-1)) 12 (-1)) 13 (-1)) 14 (-1)) (fun _ => 0) 0 0 21)))] H := hP
          have hD : va_D A [(h0, .inr (12, [.int 0, .int 0, .ref q_1, .int 0, .int 0, .int 0, .int 0, .long 0, .int 0, .int 0, .ref q_2, .ref q_3, .ref q_4, .ref q_5, .ref q_6, .ref q_7, .ref q_8, .ref q_9, .ref q_10, .ref q_11, .ref q_12, .ref q_13, .ref q_14, .ref q_15, .ref q_16, .ref q_17, .int 0, .int 0, .ref q_18, .ref q_19, .ref q_20, .ref q_21, .ref q_22, .ref q_23, .ref q_24, .ref q_25, .ref q_26, .ref q_27, .ref q_28, .ref q_29, .int 0, .long 0, .ref q_30, .ref q_31, .ref q_32, .ref q_33, .ref q_34, .ref q_35, .ref q_36, .ref q_37, .ref q_38, .ref q_39, .ref q_40, .ref q_41, .int 0, .int 0, .int 0, .int 0, .ref q_42, .ref q_43, .ref q_44, .ref q_45, .int 0, .ref q_46, .ref q_47, .int 0, .long g0])), (q_2, .inl (cy 1, 10, .inl (upd (fun _ => 0) 4 2))), (q_36, .inl (cy 1, 21, .inl (upd (upd (upd (upd (upd (upd (upd (fun _ => 0) 9 (-1)) 10 (-1)) 11 (-1)) 12 (-1)) 13 (-1)) 14 (-1)) 0 dy))), (q_37, .inl (cy 1, 21, .inl (va_cpy (upd (upd (upd (upd (upd (upd (fun _ => 0) 9 (-1)) 10 (-1)) 11 (-1)) 12 (-1)) 13 (-1)) 14 (-1)) (fun _ => 0) 0 0 21)))] := hD
          refine m_isub (v := 0) hx hb dX12_years_97 (by decide) ?_
          refine lv_goto (tgt := 128) hx hb dX12_years_98 (by decide) ?_
          refine lv_istore (lv' := [(4, .int 0), (0, .ref h0), (1, .int a1), (2, .int a2), (3, .int a3)]) hx hb dX12_years_128 hl (by decide) rfl (fun ls hl => ?_)
          refine lv_aload_n hx hb dX12_years_130 rfl (lv_at hl 1 rfl) ?_
          refine va_get (D := D) (ci := 12) (v := .ref q_37) (C := RX12) (T := TX12) (N := 67) hx hb hts (inC ibX12) hown hG.1 hP 0 rfl rfl 49 (by decide) (hg _ k_1364) (fun _ h9 => h9) rfl dX12_years_131 ?_
          refine lv_iconst (v := 0) hx hb dX12_years_134 (by decide) ?_
          refine lv_aload_n hx hb dX12_years_135 rfl (lv_at hl 1 rfl) ?_
          refine va_get (D := D) (ci := 12) (v := .ref q_36) (C := RX12) (T := TX12) (N := 67) hx hb hts (inC ibX12) hown hG.1 hP 0 rfl rfl 48 (by decide) (hg _ k_1363) (fun _ h9 => h9) rfl dX12_years_136 ?_
          refine lv_iconst (v := 0) hx hb dX12_years_139 (by decide) ?_
          refine x_v (wr := [(h0, .inr (12, [.int 0, .int 0, .ref q_1, .int 0, .int 0, .int 0, .int 0, .long 0, .int 0, .int 0, .ref q_2, .ref q_3, .ref q_4, .ref q_5, .ref q_6, .ref q_7, .ref q_8, .ref q_9, .ref q_10, .ref q_11, .ref q_12, .ref q_13, .ref q_14, .ref q_15, .ref q_16, .ref q_17, .int 0, .int 0, .ref q_18, .ref q_19, .ref q_20, .ref q_21, .ref q_22, .ref q_23, .ref q_24, .ref q_25, .ref q_26, .ref q_27, .ref q_28, .ref q_29, .int 0, .long 0, .ref q_30, .ref q_31, .ref q_32, .ref q_33, .ref q_34, .ref q_35, .ref q_36, .ref q_37, .ref q_38, .ref q_39, .ref q_40, .ref q_41, .int 0, .int 0, .int 0, .int 0, .ref q_42, .ref q_43, .ref q_44, .ref q_45, .int 0, .ref q_46, .ref q_47, .int 0, .long g0])), (q_2, .inl (cy 1, 10, .inl (upd (fun _ => 0) 4 2)))]) hP hD hS hA [3, 2] [0, 1] rfl rfl (by decide) (by decide) (va_runS (As := [.ref q_37, .int 0, .ref q_36, .int 0]) (rest := []) ⟨hx, hb, hml, hown, hts⟩ (c_X12_copies l D cy q_37 21 (va_cpy (upd (upd (upd (upd (upd (upd (fun _ => 0) 9 (-1)) 10 (-1)) 11 (-1)) 12 (-1)) 13 (-1)) 14 (-1)) (fun _ => 0) 0 0 21) q_36 21 (upd (upd (upd (upd (upd (upd (upd (fun _ => 0) 9 (-1)) 10 (-1)) 11 (-1)) 12 (-1)) 13 (-1)) 14 (-1)) 0 dy) 0 0 H.size (by decide) (by decide) (by decide) (by decide)) (va_cwS 4 hts (gS km_X12_453 kt_X12_copies kn_X12 kc_X12_copies) rfl rfl rfl (by decide +kernel) ⟨(Nat.le_of_ble_eq_true rfl), (Nat.le_of_ble_eq_true rfl)⟩) (preS hG hP hD [3, 2] rfl (by decide)) rfl rfl hl.1 rfl (lv_room (Nat.le_of_ble_eq_true rfl)) dX12_years_140 ⟨(Nat.le_of_ble_eq_true rfl), (Nat.le_of_ble_eq_true rfl)⟩) (fun H locs hB hj hS => ?_)
          obtain ⟨hP1, hD1⟩ := hB
          obtain ⟨hP, hD⟩ := hj _ hP1 hD1
          have hP : va_P D vwCl [(h0, .inr (12, [.int 0, .int 0, .ref q_1, .int 0, .int 0, .int 0, .int 0, .long 0, .int 0, .int 0, .ref q_2, .ref q_3, .ref q_4, .ref q_5, .ref q_6, .ref q_7, .ref q_8, .ref q_9, .ref q_10, .ref q_11, .ref q_12, .ref q_13, .ref q_14, .ref q_15, .ref q_16, .ref q_17, .int 0, .int 0, .ref q_18, .ref q_19, .ref q_20, .ref q_21, .ref q_22, .ref q_23, .ref q_24, .ref q_25, .ref q_26, .ref q_27, .ref q_28, .ref q_29, .int 0, .long 0, .ref q_30, .ref q_31, .ref q_32, .ref q_33, .ref q_34, .ref q_35, .ref q_36, .ref q_37, .ref q_38, .ref q_39, .ref q_40, .ref q_41, .int 0, .int 0, .int 0, .int 0, .ref q_42, .ref q_43, .ref q_44, .ref q_45, .int 0, .ref q_46, .ref q_47, .int 0, .long g0])), (q_2, .inl (cy 1, 10, .inl (upd (fun _ => 0) 4 2))), (q_37, .inl (cy 1, 21, .inl (va_cpy (upd (upd (upd (upd (upd (upd (fun _ => 0) 9 (-1)) 10 (-1)) 11 (-1)) 12 (-1)) 13 (-1)) 14 (-1)) (fun _ => 0) 0 0 21))), (q_36, .inl (cy 1, 21, .inl (va_cpy (va_cpy (upd (upd (upd (upd (upd (upd (fun _ => 0) 9 (-1)) 10 (-1)) 11 (-1)) 12 (-1)) 13 (-1)) 14 (-1)) (fun _ => 0) 0 0 21) (upd (upd (upd (upd (upd (upd (upd (fun _ => 0) 9 (-1)) 10 (-1)) 11 (-1)) 12 (-1)) 13 (-1)) 14 (-1)) 0 dy) 0 0 21)))] H := hP
          have hD : va_D A [(h0, .inr (12, [.int 0, .int 0, .ref q_1, .int 0, .int 0, .int 0, .int 0, .long 0, .int 0, .int 0, .ref q_2, .ref q_3, .ref q_4, .ref q_5, .ref q_6, .ref q_7, .ref q_8, .ref q_9, .ref q_10, .ref q_11, .ref q_12, .ref q_13, .ref q_14, .ref q_15, .ref q_16, .ref q_17, .int 0, .int 0, .ref q_18, .ref q_19, .ref q_20, .ref q_21, .ref q_22, .ref q_23, .ref q_24, .ref q_25, .ref q_26, .ref q_27, .ref q_28, .ref q_29, .int 0, .long 0, .ref q_30, .ref q_31, .ref q_32, .ref q_33, .ref q_34, .ref q_35, .ref q_36, .ref q_37, .ref q_38, .ref q_39, .ref q_40, .ref q_41, .int 0, .int 0, .int 0, .int 0, .ref q_42, .ref q_43, .ref q_44, .ref q_45, .int 0, .ref q_46, .ref q_47, .int 0, .long g0])), (q_2, .inl (cy 1, 10, .inl (upd (fun _ => 0) 4 2))), (q_37, .inl (cy 1, 21, .inl (va_cpy (upd (upd (upd (upd (upd (upd (fun _ => 0) 9 (-1)) 10 (-1)) 11 (-1)) 12 (-1)) 13 (-1)) 14 (-1)) (fun _ => 0) 0 0 21))), (q_36, .inl (cy 1, 21, .inl (va_cpy (va_cpy (upd (upd (upd (upd (upd (upd (fun _ => 0) 9 (-1)) 10 (-1)) 11 (-1)) 12 (-1)) 13 (-1)) 14 (-1)) (fun _ => 0) 0 0 21) (upd (upd (upd (upd (upd (upd (upd (fun _ => 0) 9 (-1)) 10 (-1)) 11 (-1)) 12 (-1)) 13 (-1)) 14 (-1)) 0 dy) 0 0 21)))] := hD
          refine lv_iload hx hb dX12_years_143 (lv_at hl 0 rfl) ?_
          have hP9 := hP.sub (ws' := []) [] rfl
          have hD9 := hD.sub (ws' := []) [] (by decide) rfl
          subst hQ
          exact W.iret (v := 0) hx hb hr (fun t ht hW => qi_mk (by rw [ht]; exact ⟨rfl, hP9, hD9⟩) (hS.F ht)) hS.2.2 dX12_years_145
      · have hlt : i < nd := Nat.lt_of_not_le fun q => c_6 (by rw [end_, ex4]; exact nI_le q (by omega))
        refine lv_aload_n hx hb dX12_years_65 rfl (lv_at hl 1 rfl) ?_
        refine x_v (wr := [(q_37, .inl (cy 1, 21, .inl (va_cpy (upd (upd (upd (upd (upd (upd (fun _ => 0) 9 (-1)) 10 (-1)) 11 (-1)) 12 (-1)) 13 (-1)) 14 (-1)) (fun _ => 0) 0 0 21)))]) hP hD hS hA [0, 1, 2] [3] rfl rfl (by decide) (by decide) (va_runV (As := []) (rest := []) ⟨hx, hb, hml, hown, hts⟩ (c_X12_livesDay l D cy h0 q_1 q_2 q_3 q_4 q_5 q_6 q_7 q_8 q_9 q_10 q_11 q_12 q_13 q_14 q_15 q_16 q_17 q_18 q_19 q_20 q_21 q_22 q_23 q_24 q_25 q_26 q_27 q_28 q_29 q_30 q_31 q_32 q_33 q_34 q_35 q_36 q_37 q_38 q_39 q_40 q_41 q_42 q_43 q_44 q_45 q_46 q_47 g0 dy H.size) (cwV 0 hts (gV km_X12_538 ki_X12_livesDay kz_X12_livesDay kn_X12 kc_X12_livesDay) rfl rfl rfl (by decide +kernel) ⟨(Nat.le_of_ble_eq_true rfl), (Nat.le_of_ble_eq_true rfl)⟩) (preV hG hP hD [0, 1, 2] rfl (by decide) 12 0 rfl rfl) rfl rfl hl.1 rfl (lv_room (Nat.le_of_ble_eq_true rfl)) dX12_years_66 ⟨(Nat.le_of_ble_eq_true rfl), (Nat.le_of_ble_eq_true rfl)⟩) (fun H locs hB hj hS => ?_)
        obtain ⟨g1_11, dy2_12, hP1, hD1⟩ := hB
        obtain ⟨hP, hD⟩ := hj _ hP1 hD1
        have hP : va_P D vwCl [(q_37, .inl (cy 1, 21, .inl (va_cpy (upd (upd (upd (upd (upd (upd (fun _ => 0) 9 (-1)) 10 (-1)) 11 (-1)) 12 (-1)) 13 (-1)) 14 (-1)) (fun _ => 0) 0 0 21))), (h0, .inr (12, [.int 0, .int 0, .ref q_1, .int 0, .int 0, .int 0, .int 0, .long 0, .int 0, .int 0, .ref q_2, .ref q_3, .ref q_4, .ref q_5, .ref q_6, .ref q_7, .ref q_8, .ref q_9, .ref q_10, .ref q_11, .ref q_12, .ref q_13, .ref q_14, .ref q_15, .ref q_16, .ref q_17, .int 0, .int 0, .ref q_18, .ref q_19, .ref q_20, .ref q_21, .ref q_22, .ref q_23, .ref q_24, .ref q_25, .ref q_26, .ref q_27, .ref q_28, .ref q_29, .int 0, .long 0, .ref q_30, .ref q_31, .ref q_32, .ref q_33, .ref q_34, .ref q_35, .ref q_36, .ref q_37, .ref q_38, .ref q_39, .ref q_40, .ref q_41, .int 0, .int 0, .int 0, .int 0, .ref q_42, .ref q_43, .ref q_44, .ref q_45, .int 0, .ref q_46, .ref q_47, .int 0, .long g1_11])), (q_2, .inl (cy 1, 10, .inl (upd (fun _ => 0) 4 2))), (q_36, .inl (cy 1, 21, .inl (upd (upd (upd (upd (upd (upd (upd (fun _ => 0) 9 (-1)) 10 (-1)) 11 (-1)) 12 (-1)) 13 (-1)) 14 (-1)) 0 dy2_12)))] H := hP
        have hD : va_D A [(q_37, .inl (cy 1, 21, .inl (va_cpy (upd (upd (upd (upd (upd (upd (fun _ => 0) 9 (-1)) 10 (-1)) 11 (-1)) 12 (-1)) 13 (-1)) 14 (-1)) (fun _ => 0) 0 0 21))), (h0, .inr (12, [.int 0, .int 0, .ref q_1, .int 0, .int 0, .int 0, .int 0, .long 0, .int 0, .int 0, .ref q_2, .ref q_3, .ref q_4, .ref q_5, .ref q_6, .ref q_7, .ref q_8, .ref q_9, .ref q_10, .ref q_11, .ref q_12, .ref q_13, .ref q_14, .ref q_15, .ref q_16, .ref q_17, .int 0, .int 0, .ref q_18, .ref q_19, .ref q_20, .ref q_21, .ref q_22, .ref q_23, .ref q_24, .ref q_25, .ref q_26, .ref q_27, .ref q_28, .ref q_29, .int 0, .long 0, .ref q_30, .ref q_31, .ref q_32, .ref q_33, .ref q_34, .ref q_35, .ref q_36, .ref q_37, .ref q_38, .ref q_39, .ref q_40, .ref q_41, .int 0, .int 0, .int 0, .int 0, .ref q_42, .ref q_43, .ref q_44, .ref q_45, .int 0, .ref q_46, .ref q_47, .int 0, .long g1_11])), (q_2, .inl (cy 1, 10, .inl (upd (fun _ => 0) 4 2))), (q_36, .inl (cy 1, 21, .inl (upd (upd (upd (upd (upd (upd (upd (fun _ => 0) 9 (-1)) 10 (-1)) 11 (-1)) 12 (-1)) 13 (-1)) 14 (-1)) 0 dy2_12)))] := hD
        obtain ⟨x4_13, ex4_13⟩ : ∃ y : Int32, y = x4 + 1 := ⟨_, rfl⟩
        refine lv_iinc (v := x4_13) (lv' := [(4, .int x4_13), (0, .ref h0), (1, .int a1), (2, .int a2), (3, .int a3)]) hx hb dX12_years_69 hl (k := 0) rfl (by rw [ex4_13]; rfl) (by decide) rfl (fun ls hl => ?_)
        refine lv_goto (tgt := 59) hx hb dX12_years_72 (by decide) ?_
        exact ih (i + 1) x4_13 g1_11 dy2_12 (by omega) hlt (by rw [ex4_13, ex4]; exact nI_1 i) _ _ (hP.sub [1, 2, 3, 0] rfl) (hD.sub [1, 2, 3, 0] (by decide) rfl) hS ls (lv_sub hl [0, 1, 2, 3, 4] rfl)
  exact LP_5 _ 0 0 f_4 0 (Nat.lt_succ_self _) (Nat.zero_le _) rfl _ _ (hP.sub [0, 1, 2, 3] rfl) (hD.sub [0, 1, 2, 3] (by decide) rfl) hS ls (lv_sub hl [0, 1, 2, 3, 4] rfl)
