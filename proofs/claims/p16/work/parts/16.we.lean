theorem cmp_self (x : Int64) : lg_cmp x x = 0 := by
  unfold lg_cmp
  rw [if_neg (by show ¬ x < x; exact Int64.lt_irrefl), if_pos rfl]
theorem rs_ok {a1 a2 a3 th r v : Int32} (hp : (a3 = (-1) ∧ th = 0 ∧ r = nI (outr a1 a2 5).length) ∨ (∃ t, t < (outr a1 a2 5).length ∧ a3 = nI t ∧ th = 0 ∧ r = (outr a1 a2 5).getD t 0) ∨ (¬ a3 = (-1) ∧ (∀ t, t < (outr a1 a2 5).length → ¬ a3 = nI t) ∧ th = 1)) (hv : ((a3 = (-1) ∧ v = nI (outr a1 a2 5).length) ∨ (∃ t, t < (outr a1 a2 5).length ∧ a3 = nI t ∧ v = (outr a1 a2 5).getD t 0))) : th = 0 ∧ v = r := by
  have hF := F_len a1 a2
  rcases hp with ⟨h1, h2, h3⟩ | ⟨t, h1, h2, h3, h4⟩ | ⟨h1, h2, h3⟩
  · rcases hv with ⟨g1, g2⟩ | ⟨t, g1, g2, g3⟩
    · exact ⟨h2, g2.trans h3.symm⟩
    · exact absurd (h1.symm.trans g2) (fun e => absurd (show (-1 : Int32) < 0 by decide) (by rw [e]; exact nI_pos (by omega)))
  · rcases hv with ⟨g1, g2⟩ | ⟨t', g1, g2, g3⟩
    · exact absurd (g1.symm.trans h2) (fun e => absurd (show (-1 : Int32) < 0 by decide) (by rw [e]; exact nI_pos (by omega)))
    · have e : t = t' := (nI_eq (by omega) (by omega)).mp (h2.symm.trans g2)
      subst e
      exact ⟨h3, g3.trans h4.symm⟩
  · rcases hv with ⟨g1, g2⟩ | ⟨t, g1, g2, g3⟩
    · exact absurd g1 h1
    · exact absurd g2 (h2 t g1)
theorem rs_th {a1 a2 a3 th r : Int32} (hp : (a3 = (-1) ∧ th = 0 ∧ r = nI (outr a1 a2 5).length) ∨ (∃ t, t < (outr a1 a2 5).length ∧ a3 = nI t ∧ th = 0 ∧ r = (outr a1 a2 5).getD t 0) ∨ (¬ a3 = (-1) ∧ (∀ t, t < (outr a1 a2 5).length → ¬ a3 = nI t) ∧ th = 1)) (h : ¬ a3 = (-1)) (hno : ∀ t, t < (outr a1 a2 5).length → ¬ a3 = nI t) : th = 1 := by
  rcases hp with ⟨h1, -, -⟩ | ⟨t, h1, h2, -, -⟩ | ⟨-, -, h3⟩
  · exact absurd h1 h
  · exact absurd h2 (hno t h1)
  · exact h3
theorem okt_ge {a3 B L : Int32} (h : ∃ t, t < (outr B L 5).length ∧ a3 = nI t) : ¬ a3 < (-1) := by
  obtain ⟨t, ht, e⟩ := h
  have hF := F_len B L
  rw [e, lt_ti]
  have h2 : (nI t).toInt = (t : Int) := nI_toInt (by omega)
  rw [h2]
  show ¬ (t : Int) < -1
  omega
theorem no_ex {a3 : Int32} {F : List Int32} (h : ¬ ∃ t, t < F.length ∧ a3 = nI t) : ∀ t, t < F.length → ¬ a3 = nI t := fun t ht e => h ⟨t, ht, e⟩
set_option maxHeartbeats 4000000 in
set_option maxRecDepth 100000 in
theorem c_X12_within_37 (l : Launch) (D : va_G) (cy : Nat → ClassId) (a0 : Int32) (sz : Nat) (hf0 : a0 < 0) : Met l yX12_within (Cond.code yX12_within cX12_within 3 (some .boolean) :: bigG) ({ frames := 0, cells := 0, slots := 0, locals := 0 }) (pre D cy [.int a0, .int 0, .int 20] sz []) (qi (fun r h => r = 0 ∧ va_P D vwCl [] h ∧ va_D (va_A [] sz) []) (va_A [] sz)) 0 0 (va_A [] sz) := by
  refine Met.ofW (cc := cX12_within) (maxL := 3) (ret := (some .boolean)) (by decide) rfl ?_
  intro p e s m args below meth c s₁ B hml hv
  obtain ⟨rfl, hsz, hP, hG, hD0⟩ := hv
  have hx := B.exec
  have hb := B.bytes
  have hr := B.returns
  have hts := atoms_spec (ws := (Cond.code yX12_within cX12_within 3 (some .boolean) :: bigG)) B.pre
  have hg : ∀ w ∈ bigG, w.before ([.int a0, .int 0, .int 20] : List Value).toArray s = true := fun w h => hts w (List.mem_cons_of_mem _ h)
  have hown : s.vm.findClass RX12 = some m.cls := findClass_of_methodNamed B.named
  have hlocks := B.notSynchronized
  subst hsz
  have hD := hD0.self (sz := s.heap.size)
  generalize hAe : va_A [] s.heap.size = A at hD ⊢
  have hA : ∀ q : Nat, s.heap.size ≤ q → A q := fun q h => by rw [← hAe]; exact Or.inr h
  have hS : va_S A s.heap s.heap [] := va_S.rf
  have hP : va_P D vwCl [] s.heap := hP
  have hl := lv_entry ([.int a0, .int 0, .int 20]) (n := 3) (Nat.le_of_ble_eq_true rfl)
  rw [lg_entry_eq]
  generalize (lg_sl ([.int a0, .int 0, .int 20]) ++ List.replicate (3 - (lg_sl ([.int a0, .int 0, .int 20])).length) Slot.unset).toArray = ls at hl ⊢
  have hl : lv_has ls 3 [(0, .int a0), (1, .int 0), (2, .int 20)] := hl
  refine w_nm (fun Q hQ => ?_)
  refine lv_iload_n hx hb dX12_within_0 rfl (lv_at hl 0 rfl) ?_
  refine lv_iload_n hx hb dX12_within_1 rfl (lv_at hl 1 rfl) ?_
  refine lv_icmp_lt (tgt := 14) hx hb dX12_within_2 (by decide) (fun _ => ?_) (fun c_ => absurd hf0 c_)
  refine lv_iconst (v := 0) hx hb dX12_within_14 (by decide) ?_
  have hP9 := hP.sub (ws' := []) [] rfl
  have hD9 := hD.sub (ws' := []) [] (by decide) rfl
  subst hQ
  exact W.zret (v := 0) hx hb hr rfl (fun t ht hW => qi_mk (by rw [ht]; exact ⟨rfl, hP9, hD9⟩) (hS.F ht)) hS.2.2 dX12_within_15
set_option maxHeartbeats 4000000 in
set_option maxRecDepth 100000 in
theorem c_X12_rests_1 (l : Launch) (D : va_G) (cy : Nat → ClassId) (h_2 : Nat) (th0 : Int32) (F : List Value) (a1 : Int32) (a2 : Int32) (a3 : Int32) (sz : Nat) (hf0 : a1 < 0) : Met l yX12_rests (Cond.code yX12_rests cX12_rests 7 (some .int) :: bigG) ({ frames := 1, cells := 0, slots := 0, locals := 22 }) (pre D cy [.ref h_2, .int a1, .int a2, .int a3] sz [(h_2, .inr (12, .int th0 :: F))]) (qi (fun r h => r = 0 ∧ va_P D vwCl [(h_2, .inr (12, .int 1 :: F))] h ∧ va_D (va_A [(h_2, .inr (12, .int th0 :: F))] sz) [(h_2, .inr (12, .int 1 :: F))]) (va_A [(h_2, .inr (12, .int th0 :: F))] sz)) 0 0 (va_A [(h_2, .inr (12, .int th0 :: F))] sz) := by
  refine Met.ofW (cc := cX12_rests) (maxL := 7) (ret := (some .int)) (by decide) rfl ?_
  intro p e s m args below meth c s₁ B hml hv
  obtain ⟨rfl, hsz, hP, hG, hD0⟩ := hv
  have hx := B.exec
  have hb := B.bytes
  have hr := B.returns
  have hts := atoms_spec (ws := (Cond.code yX12_rests cX12_rests 7 (some .int) :: bigG)) B.pre
  have hg : ∀ w ∈ bigG, w.before ([.ref h_2, .int a1, .int a2, .int a3] : List Value).toArray s = true := fun w h => hts w (List.mem_cons_of_mem _ h)
  have hown : s.vm.findClass RX12 = some m.cls := findClass_of_methodNamed B.named
  have hlocks := B.notSynchronized
  subst hsz
  have hD := hD0.self (sz := s.heap.size)
  generalize hAe : va_A [(h_2, .inr (12, .int th0 :: F))] s.heap.size = A at hD ⊢
  have hA : ∀ q : Nat, s.heap.size ≤ q → A q := fun q h => by rw [← hAe]; exact Or.inr h
  have hS : va_S A s.heap s.heap [] := va_S.rf
  have hP : va_P D vwCl [(h_2, .inr (12, .int th0 :: F))] s.heap := hP
  have hl := lv_entry ([.ref h_2, .int a1, .int a2, .int a3]) (n := 7) (Nat.le_of_ble_eq_true rfl)
  rw [lg_entry_eq]
  generalize (lg_sl ([.ref h_2, .int a1, .int a2, .int a3]) ++ List.replicate (7 - (lg_sl ([.ref h_2, .int a1, .int a2, .int a3])).length) Slot.unset).toArray = ls at hl ⊢
  have hl : lv_has ls 7 [(0, .ref h_2), (1, .int a1), (2, .int a2), (3, .int a3)] := hl
  refine w_nm (fun Q hQ => ?_)
  refine lv_aload_n hx hb dX12_rests_0 rfl (lv_at hl 0 rfl) ?_
  refine lv_iload_n hx hb dX12_rests_1 rfl (lv_at hl 1 rfl) ?_
  refine lv_iconst (v := 0) hx hb dX12_rests_2 (by decide) ?_
  refine lv_bipush (v := 20) hx hb dX12_rests_3 (by decide) ?_
  refine x_i (wr := [(h_2, .inr (12, .int th0 :: F))]) hP hD hS hA [] [0] rfl rfl (by decide) (by decide) (va_runS (As := [.int a1, .int 0, .int 20]) (rest := [.ref h_2]) ⟨hx, hb, hml, hown, hts⟩ (c_X12_within_37 l D cy a1 s.heap.size hf0) (va_cwS 3 hts (gS km_X12_293 kt_X12_within kn_X12 kc_X12_within) rfl rfl rfl (by decide +kernel) ⟨(Nat.le_of_ble_eq_true rfl), (Nat.le_of_ble_eq_true rfl)⟩) (preS hG hP hD [] rfl (by decide)) rfl rfl hl.1 rfl (lv_room (Nat.le_of_ble_eq_true rfl)) dX12_rests_5 ⟨(Nat.le_of_ble_eq_true rfl), (Nat.le_of_ble_eq_true rfl)⟩) (fun r_1 H locs hB hj hS => ?_)
  obtain ⟨hres, hP1, hD1⟩ := hB
  subst hres
  obtain ⟨hP, hD⟩ := hj _ hP1 hD1
  have hP : va_P D vwCl [(h_2, .inr (12, .int th0 :: F))] H := hP
  have hD : va_D A [(h_2, .inr (12, .int th0 :: F))] := hD
  refine lv_if_eq (tgt := 30) hx hb dX12_rests_8 (by decide) (fun _ => ?_) (fun c_ => absurd rfl c_)
  refine lv_iconst (v := 1) hx hb dX12_rests_30 (by decide) ?_
  refine va_put (D := D) (ci := 12) (v := .int 1) (ty := .int) (C := RX12) (T := TX12) (N := 67) hx hb hts (inC ibX12) tyX12 tyX12_ok nmX12 hown hG.1 hP hD hS 0 rfl rfl 0 (by decide) (hg _ k_1315) (fun _ h9 => h9) rfl (by decide +kernel) rfl rfl (Nat.le_of_ble_eq_true rfl) dX12_rests_31 (fun H locs hP hD hS => ?_)
  have hP : va_P D vwCl [(h_2, .inr (12, .int 1 :: F))] H := hP
  have hD : va_D A [(h_2, .inr (12, .int 1 :: F))] := hD
  refine lv_aload_n hx hb dX12_rests_34 rfl (lv_at hl 0 rfl) ?_
  refine va_get (D := D) (ci := 12) (v := .int 1) (C := RX12) (T := TX12) (N := 67) hx hb hts (inC ibX12) hown hG.1 hP 0 rfl rfl 0 (by decide) (hg _ k_1315) (fun _ h9 => h9) rfl dX12_rests_35 ?_
  refine lv_iconst (v := 1) hx hb dX12_rests_38 (by decide) ?_
  refine lv_icmp_ne (tgt := 44) hx hb dX12_rests_39 (by decide) (fun c_ => absurd rfl c_) (fun _ => ?_)
  refine lv_iconst (v := 0) hx hb dX12_rests_42 (by decide) ?_
  have hP9 := hP.sub (ws' := [(h_2, .inr (12, .int 1 :: F))]) [0] rfl
  have hD9 := hD.sub (ws' := [(h_2, .inr (12, .int 1 :: F))]) [0] (by decide) rfl
  subst hQ
  exact W.iret (v := 0) hx hb hr (fun t ht hW => qi_mk (by rw [ht]; exact ⟨rfl, hP9, hD9⟩) (hS.F ht)) hS.2.2 dX12_rests_43
set_option maxHeartbeats 4000000 in
set_option maxRecDepth 100000 in
theorem c_X12_within_38 (l : Launch) (D : va_G) (cy : Nat → ClassId) (a0 : Int32) (sz : Nat) (hf0 : ¬ a0 < 0) (hf1 : 20 < a0) : Met l yX12_within (Cond.code yX12_within cX12_within 3 (some .boolean) :: bigG) ({ frames := 0, cells := 0, slots := 0, locals := 0 }) (pre D cy [.int a0, .int 0, .int 20] sz []) (qi (fun r h => r = 0 ∧ va_P D vwCl [] h ∧ va_D (va_A [] sz) []) (va_A [] sz)) 0 0 (va_A [] sz) := by
  refine Met.ofW (cc := cX12_within) (maxL := 3) (ret := (some .boolean)) (by decide) rfl ?_
  intro p e s m args below meth c s₁ B hml hv
  obtain ⟨rfl, hsz, hP, hG, hD0⟩ := hv
  have hx := B.exec
  have hb := B.bytes
  have hr := B.returns
  have hts := atoms_spec (ws := (Cond.code yX12_within cX12_within 3 (some .boolean) :: bigG)) B.pre
  have hg : ∀ w ∈ bigG, w.before ([.int a0, .int 0, .int 20] : List Value).toArray s = true := fun w h => hts w (List.mem_cons_of_mem _ h)
  have hown : s.vm.findClass RX12 = some m.cls := findClass_of_methodNamed B.named
  have hlocks := B.notSynchronized
  subst hsz
  have hD := hD0.self (sz := s.heap.size)
  generalize hAe : va_A [] s.heap.size = A at hD ⊢
  have hA : ∀ q : Nat, s.heap.size ≤ q → A q := fun q h => by rw [← hAe]; exact Or.inr h
  have hS : va_S A s.heap s.heap [] := va_S.rf
  have hP : va_P D vwCl [] s.heap := hP
  have hl := lv_entry ([.int a0, .int 0, .int 20]) (n := 3) (Nat.le_of_ble_eq_true rfl)
  rw [lg_entry_eq]
  generalize (lg_sl ([.int a0, .int 0, .int 20]) ++ List.replicate (3 - (lg_sl ([.int a0, .int 0, .int 20])).length) Slot.unset).toArray = ls at hl ⊢
  have hl : lv_has ls 3 [(0, .int a0), (1, .int 0), (2, .int 20)] := hl
  refine w_nm (fun Q hQ => ?_)
  refine lv_iload_n hx hb dX12_within_0 rfl (lv_at hl 0 rfl) ?_
  refine lv_iload_n hx hb dX12_within_1 rfl (lv_at hl 1 rfl) ?_
  refine lv_icmp_lt (tgt := 14) hx hb dX12_within_2 (by decide) (fun c_ => absurd c_ hf0) (fun _ => ?_)
  refine lv_iload_n hx hb dX12_within_5 rfl (lv_at hl 0 rfl) ?_
  refine lv_iload_n hx hb dX12_within_6 rfl (lv_at hl 2 rfl) ?_
  refine lv_icmp_gt (tgt := 14) hx hb dX12_within_7 (by decide) (fun _ => ?_) (fun c_ => absurd hf1 c_)
  refine lv_iconst (v := 0) hx hb dX12_within_14 (by decide) ?_
  have hP9 := hP.sub (ws' := []) [] rfl
  have hD9 := hD.sub (ws' := []) [] (by decide) rfl
  subst hQ
  exact W.zret (v := 0) hx hb hr rfl (fun t ht hW => qi_mk (by rw [ht]; exact ⟨rfl, hP9, hD9⟩) (hS.F ht)) hS.2.2 dX12_within_15
set_option maxHeartbeats 4000000 in
set_option maxRecDepth 100000 in
theorem c_X12_rests_2 (l : Launch) (D : va_G) (cy : Nat → ClassId) (h_2 : Nat) (th0 : Int32) (F : List Value) (a1 : Int32) (a2 : Int32) (a3 : Int32) (sz : Nat) (hf0 : ¬ a1 < 0) (hf1 : 20 < a1) : Met l yX12_rests (Cond.code yX12_rests cX12_rests 7 (some .int) :: bigG) ({ frames := 1, cells := 0, slots := 0, locals := 22 }) (pre D cy [.ref h_2, .int a1, .int a2, .int a3] sz [(h_2, .inr (12, .int th0 :: F))]) (qi (fun r h => r = 0 ∧ va_P D vwCl [(h_2, .inr (12, .int 1 :: F))] h ∧ va_D (va_A [(h_2, .inr (12, .int th0 :: F))] sz) [(h_2, .inr (12, .int 1 :: F))]) (va_A [(h_2, .inr (12, .int th0 :: F))] sz)) 0 0 (va_A [(h_2, .inr (12, .int th0 :: F))] sz) := by
  refine Met.ofW (cc := cX12_rests) (maxL := 7) (ret := (some .int)) (by decide) rfl ?_
  intro p e s m args below meth c s₁ B hml hv
  obtain ⟨rfl, hsz, hP, hG, hD0⟩ := hv
  have hx := B.exec
  have hb := B.bytes
  have hr := B.returns
  have hts := atoms_spec (ws := (Cond.code yX12_rests cX12_rests 7 (some .int) :: bigG)) B.pre
  have hg : ∀ w ∈ bigG, w.before ([.ref h_2, .int a1, .int a2, .int a3] : List Value).toArray s = true := fun w h => hts w (List.mem_cons_of_mem _ h)
  have hown : s.vm.findClass RX12 = some m.cls := findClass_of_methodNamed B.named
  have hlocks := B.notSynchronized
  subst hsz
  have hD := hD0.self (sz := s.heap.size)
  generalize hAe : va_A [(h_2, .inr (12, .int th0 :: F))] s.heap.size = A at hD ⊢
  have hA : ∀ q : Nat, s.heap.size ≤ q → A q := fun q h => by rw [← hAe]; exact Or.inr h
  have hS : va_S A s.heap s.heap [] := va_S.rf
  have hP : va_P D vwCl [(h_2, .inr (12, .int th0 :: F))] s.heap := hP
  have hl := lv_entry ([.ref h_2, .int a1, .int a2, .int a3]) (n := 7) (Nat.le_of_ble_eq_true rfl)
  rw [lg_entry_eq]
  generalize (lg_sl ([.ref h_2, .int a1, .int a2, .int a3]) ++ List.replicate (7 - (lg_sl ([.ref h_2, .int a1, .int a2, .int a3])).length) Slot.unset).toArray = ls at hl ⊢
  have hl : lv_has ls 7 [(0, .ref h_2), (1, .int a1), (2, .int a2), (3, .int a3)] := hl
  refine w_nm (fun Q hQ => ?_)
  refine lv_aload_n hx hb dX12_rests_0 rfl (lv_at hl 0 rfl) ?_
  refine lv_iload_n hx hb dX12_rests_1 rfl (lv_at hl 1 rfl) ?_
  refine lv_iconst (v := 0) hx hb dX12_rests_2 (by decide) ?_
  refine lv_bipush (v := 20) hx hb dX12_rests_3 (by decide) ?_
  refine x_i (wr := [(h_2, .inr (12, .int th0 :: F))]) hP hD hS hA [] [0] rfl rfl (by decide) (by decide) (va_runS (As := [.int a1, .int 0, .int 20]) (rest := [.ref h_2]) ⟨hx, hb, hml, hown, hts⟩ (c_X12_within_38 l D cy a1 s.heap.size hf0 hf1) (va_cwS 3 hts (gS km_X12_293 kt_X12_within kn_X12 kc_X12_within) rfl rfl rfl (by decide +kernel) ⟨(Nat.le_of_ble_eq_true rfl), (Nat.le_of_ble_eq_true rfl)⟩) (preS hG hP hD [] rfl (by decide)) rfl rfl hl.1 rfl (lv_room (Nat.le_of_ble_eq_true rfl)) dX12_rests_5 ⟨(Nat.le_of_ble_eq_true rfl), (Nat.le_of_ble_eq_true rfl)⟩) (fun r_1 H locs hB hj hS => ?_)
  obtain ⟨hres, hP1, hD1⟩ := hB
  subst hres
  obtain ⟨hP, hD⟩ := hj _ hP1 hD1
  have hP : va_P D vwCl [(h_2, .inr (12, .int th0 :: F))] H := hP
  have hD : va_D A [(h_2, .inr (12, .int th0 :: F))] := hD
  refine lv_if_eq (tgt := 30) hx hb dX12_rests_8 (by decide) (fun _ => ?_) (fun c_ => absurd rfl c_)
  refine lv_iconst (v := 1) hx hb dX12_rests_30 (by decide) ?_
  refine va_put (D := D) (ci := 12) (v := .int 1) (ty := .int) (C := RX12) (T := TX12) (N := 67) hx hb hts (inC ibX12) tyX12 tyX12_ok nmX12 hown hG.1 hP hD hS 0 rfl rfl 0 (by decide) (hg _ k_1315) (fun _ h9 => h9) rfl (by decide +kernel) rfl rfl (Nat.le_of_ble_eq_true rfl) dX12_rests_31 (fun H locs hP hD hS => ?_)
  have hP : va_P D vwCl [(h_2, .inr (12, .int 1 :: F))] H := hP
  have hD : va_D A [(h_2, .inr (12, .int 1 :: F))] := hD
  refine lv_aload_n hx hb dX12_rests_34 rfl (lv_at hl 0 rfl) ?_
  refine va_get (D := D) (ci := 12) (v := .int 1) (C := RX12) (T := TX12) (N := 67) hx hb hts (inC ibX12) hown hG.1 hP 0 rfl rfl 0 (by decide) (hg _ k_1315) (fun _ h9 => h9) rfl dX12_rests_35 ?_
  refine lv_iconst (v := 1) hx hb dX12_rests_38 (by decide) ?_
  refine lv_icmp_ne (tgt := 44) hx hb dX12_rests_39 (by decide) (fun c_ => absurd rfl c_) (fun _ => ?_)
  refine lv_iconst (v := 0) hx hb dX12_rests_42 (by decide) ?_
  have hP9 := hP.sub (ws' := [(h_2, .inr (12, .int 1 :: F))]) [0] rfl
  have hD9 := hD.sub (ws' := [(h_2, .inr (12, .int 1 :: F))]) [0] (by decide) rfl
  subst hQ
  exact W.iret (v := 0) hx hb hr (fun t ht hW => qi_mk (by rw [ht]; exact ⟨rfl, hP9, hD9⟩) (hS.F ht)) hS.2.2 dX12_rests_43
set_option maxHeartbeats 4000000 in
set_option maxRecDepth 100000 in
theorem c_X12_within_39 (l : Launch) (D : va_G) (cy : Nat → ClassId) (a0 : Int32) (sz : Nat) (hf0 : a0 < 0) : Met l yX12_within (Cond.code yX12_within cX12_within 3 (some .boolean) :: bigG) ({ frames := 0, cells := 0, slots := 0, locals := 0 }) (pre D cy [.int a0, .int 0, .int 9] sz []) (qi (fun r h => r = 0 ∧ va_P D vwCl [] h ∧ va_D (va_A [] sz) []) (va_A [] sz)) 0 0 (va_A [] sz) := by
  refine Met.ofW (cc := cX12_within) (maxL := 3) (ret := (some .boolean)) (by decide) rfl ?_
  intro p e s m args below meth c s₁ B hml hv
  obtain ⟨rfl, hsz, hP, hG, hD0⟩ := hv
  have hx := B.exec
  have hb := B.bytes
  have hr := B.returns
  have hts := atoms_spec (ws := (Cond.code yX12_within cX12_within 3 (some .boolean) :: bigG)) B.pre
  have hg : ∀ w ∈ bigG, w.before ([.int a0, .int 0, .int 9] : List Value).toArray s = true := fun w h => hts w (List.mem_cons_of_mem _ h)
  have hown : s.vm.findClass RX12 = some m.cls := findClass_of_methodNamed B.named
  have hlocks := B.notSynchronized
  subst hsz
  have hD := hD0.self (sz := s.heap.size)
  generalize hAe : va_A [] s.heap.size = A at hD ⊢
  have hA : ∀ q : Nat, s.heap.size ≤ q → A q := fun q h => by rw [← hAe]; exact Or.inr h
  have hS : va_S A s.heap s.heap [] := va_S.rf
  have hP : va_P D vwCl [] s.heap := hP
  have hl := lv_entry ([.int a0, .int 0, .int 9]) (n := 3) (Nat.le_of_ble_eq_true rfl)
  rw [lg_entry_eq]
  generalize (lg_sl ([.int a0, .int 0, .int 9]) ++ List.replicate (3 - (lg_sl ([.int a0, .int 0, .int 9])).length) Slot.unset).toArray = ls at hl ⊢
  have hl : lv_has ls 3 [(0, .int a0), (1, .int 0), (2, .int 9)] := hl
  refine w_nm (fun Q hQ => ?_)
  refine lv_iload_n hx hb dX12_within_0 rfl (lv_at hl 0 rfl) ?_
  refine lv_iload_n hx hb dX12_within_1 rfl (lv_at hl 1 rfl) ?_
  refine lv_icmp_lt (tgt := 14) hx hb dX12_within_2 (by decide) (fun _ => ?_) (fun c_ => absurd hf0 c_)
  refine lv_iconst (v := 0) hx hb dX12_within_14 (by decide) ?_
  have hP9 := hP.sub (ws' := []) [] rfl
  have hD9 := hD.sub (ws' := []) [] (by decide) rfl
  subst hQ
  exact W.zret (v := 0) hx hb hr rfl (fun t ht hW => qi_mk (by rw [ht]; exact ⟨rfl, hP9, hD9⟩) (hS.F ht)) hS.2.2 dX12_within_15
set_option maxHeartbeats 4000000 in
set_option maxRecDepth 100000 in
theorem c_X12_rests_3 (l : Launch) (D : va_G) (cy : Nat → ClassId) (h_2 : Nat) (th0 : Int32) (F : List Value) (a1 : Int32) (a2 : Int32) (a3 : Int32) (sz : Nat) (hf0 : ¬ a1 < 0) (hf1 : ¬ 20 < a1) (hf2 : a2 < 0) : Met l yX12_rests (Cond.code yX12_rests cX12_rests 7 (some .int) :: bigG) ({ frames := 1, cells := 0, slots := 0, locals := 22 }) (pre D cy [.ref h_2, .int a1, .int a2, .int a3] sz [(h_2, .inr (12, .int th0 :: F))]) (qi (fun r h => r = 0 ∧ va_P D vwCl [(h_2, .inr (12, .int 1 :: F))] h ∧ va_D (va_A [(h_2, .inr (12, .int th0 :: F))] sz) [(h_2, .inr (12, .int 1 :: F))]) (va_A [(h_2, .inr (12, .int th0 :: F))] sz)) 0 0 (va_A [(h_2, .inr (12, .int th0 :: F))] sz) := by
  refine Met.ofW (cc := cX12_rests) (maxL := 7) (ret := (some .int)) (by decide) rfl ?_
  intro p e s m args below meth c s₁ B hml hv
  obtain ⟨rfl, hsz, hP, hG, hD0⟩ := hv
  have hx := B.exec
  have hb := B.bytes
  have hr := B.returns
  have hts := atoms_spec (ws := (Cond.code yX12_rests cX12_rests 7 (some .int) :: bigG)) B.pre
  have hg : ∀ w ∈ bigG, w.before ([.ref h_2, .int a1, .int a2, .int a3] : List Value).toArray s = true := fun w h => hts w (List.mem_cons_of_mem _ h)
  have hown : s.vm.findClass RX12 = some m.cls := findClass_of_methodNamed B.named
  have hlocks := B.notSynchronized
  subst hsz
  have hD := hD0.self (sz := s.heap.size)
  generalize hAe : va_A [(h_2, .inr (12, .int th0 :: F))] s.heap.size = A at hD ⊢
  have hA : ∀ q : Nat, s.heap.size ≤ q → A q := fun q h => by rw [← hAe]; exact Or.inr h
  have hS : va_S A s.heap s.heap [] := va_S.rf
  have hP : va_P D vwCl [(h_2, .inr (12, .int th0 :: F))] s.heap := hP
  have hl := lv_entry ([.ref h_2, .int a1, .int a2, .int a3]) (n := 7) (Nat.le_of_ble_eq_true rfl)
  rw [lg_entry_eq]
  generalize (lg_sl ([.ref h_2, .int a1, .int a2, .int a3]) ++ List.replicate (7 - (lg_sl ([.ref h_2, .int a1, .int a2, .int a3])).length) Slot.unset).toArray = ls at hl ⊢
  have hl : lv_has ls 7 [(0, .ref h_2), (1, .int a1), (2, .int a2), (3, .int a3)] := hl
  refine w_nm (fun Q hQ => ?_)
  refine lv_aload_n hx hb dX12_rests_0 rfl (lv_at hl 0 rfl) ?_
  refine lv_iload_n hx hb dX12_rests_1 rfl (lv_at hl 1 rfl) ?_
  refine lv_iconst (v := 0) hx hb dX12_rests_2 (by decide) ?_
  refine lv_bipush (v := 20) hx hb dX12_rests_3 (by decide) ?_
  refine x_i (wr := [(h_2, .inr (12, .int th0 :: F))]) hP hD hS hA [] [0] rfl rfl (by decide) (by decide) (va_runS (As := [.int a1, .int 0, .int 20]) (rest := [.ref h_2]) ⟨hx, hb, hml, hown, hts⟩ (c_X12_within_35 l D cy a1 s.heap.size hf0 hf1) (va_cwS 3 hts (gS km_X12_293 kt_X12_within kn_X12 kc_X12_within) rfl rfl rfl (by decide +kernel) ⟨(Nat.le_of_ble_eq_true rfl), (Nat.le_of_ble_eq_true rfl)⟩) (preS hG hP hD [] rfl (by decide)) rfl rfl hl.1 rfl (lv_room (Nat.le_of_ble_eq_true rfl)) dX12_rests_5 ⟨(Nat.le_of_ble_eq_true rfl), (Nat.le_of_ble_eq_true rfl)⟩) (fun r_1 H locs hB hj hS => ?_)
  obtain ⟨hres, hP1, hD1⟩ := hB
  subst hres
  obtain ⟨hP, hD⟩ := hj _ hP1 hD1
  have hP : va_P D vwCl [(h_2, .inr (12, .int th0 :: F))] H := hP
  have hD : va_D A [(h_2, .inr (12, .int th0 :: F))] := hD
  refine lv_if_eq (tgt := 30) hx hb dX12_rests_8 (by decide) (fun c_ => absurd c_ (by decide)) (fun _ => ?_)
  refine lv_iload_n hx hb dX12_rests_11 rfl (lv_at hl 2 rfl) ?_
  refine lv_iconst (v := 0) hx hb dX12_rests_12 (by decide) ?_
  refine lv_bipush (v := 9) hx hb dX12_rests_13 (by decide) ?_
  refine x_i (wr := [(h_2, .inr (12, .int th0 :: F))]) hP hD hS hA [] [0] rfl rfl (by decide) (by decide) (va_runS (As := [.int a2, .int 0, .int 9]) (rest := [.ref h_2]) ⟨hx, hb, hml, hown, hts⟩ (c_X12_within_39 l D cy a2 H.size hf2) (va_cwS 3 hts (gS km_X12_293 kt_X12_within kn_X12 kc_X12_within) rfl rfl rfl (by decide +kernel) ⟨(Nat.le_of_ble_eq_true rfl), (Nat.le_of_ble_eq_true rfl)⟩) (preS hG hP hD [] rfl (by decide)) rfl rfl hl.1 rfl (lv_room (Nat.le_of_ble_eq_true rfl)) dX12_rests_15 ⟨(Nat.le_of_ble_eq_true rfl), (Nat.le_of_ble_eq_true rfl)⟩) (fun r_2 H locs hB hj hS => ?_)
  obtain ⟨hres, hP1, hD1⟩ := hB
  subst hres
  obtain ⟨hP, hD⟩ := hj _ hP1 hD1
  have hP : va_P D vwCl [(h_2, .inr (12, .int th0 :: F))] H := hP
  have hD : va_D A [(h_2, .inr (12, .int th0 :: F))] := hD
  refine lv_if_eq (tgt := 30) hx hb dX12_rests_18 (by decide) (fun _ => ?_) (fun c_ => absurd rfl c_)
  refine lv_iconst (v := 1) hx hb dX12_rests_30 (by decide) ?_
  refine va_put (D := D) (ci := 12) (v := .int 1) (ty := .int) (C := RX12) (T := TX12) (N := 67) hx hb hts (inC ibX12) tyX12 tyX12_ok nmX12 hown hG.1 hP hD hS 0 rfl rfl 0 (by decide) (hg _ k_1315) (fun _ h9 => h9) rfl (by decide +kernel) rfl rfl (Nat.le_of_ble_eq_true rfl) dX12_rests_31 (fun H locs hP hD hS => ?_)
  have hP : va_P D vwCl [(h_2, .inr (12, .int 1 :: F))] H := hP
  have hD : va_D A [(h_2, .inr (12, .int 1 :: F))] := hD
  refine lv_aload_n hx hb dX12_rests_34 rfl (lv_at hl 0 rfl) ?_
  refine va_get (D := D) (ci := 12) (v := .int 1) (C := RX12) (T := TX12) (N := 67) hx hb hts (inC ibX12) hown hG.1 hP 0 rfl rfl 0 (by decide) (hg _ k_1315) (fun _ h9 => h9) rfl dX12_rests_35 ?_
  refine lv_iconst (v := 1) hx hb dX12_rests_38 (by decide) ?_
  refine lv_icmp_ne (tgt := 44) hx hb dX12_rests_39 (by decide) (fun c_ => absurd rfl c_) (fun _ => ?_)
  refine lv_iconst (v := 0) hx hb dX12_rests_42 (by decide) ?_
  have hP9 := hP.sub (ws' := [(h_2, .inr (12, .int 1 :: F))]) [0] rfl
  have hD9 := hD.sub (ws' := [(h_2, .inr (12, .int 1 :: F))]) [0] (by decide) rfl
  subst hQ
  exact W.iret (v := 0) hx hb hr (fun t ht hW => qi_mk (by rw [ht]; exact ⟨rfl, hP9, hD9⟩) (hS.F ht)) hS.2.2 dX12_rests_43
set_option maxHeartbeats 4000000 in
set_option maxRecDepth 100000 in
theorem c_X12_within_40 (l : Launch) (D : va_G) (cy : Nat → ClassId) (a0 : Int32) (sz : Nat) (hf0 : ¬ a0 < 0) (hf1 : 9 < a0) : Met l yX12_within (Cond.code yX12_within cX12_within 3 (some .boolean) :: bigG) ({ frames := 0, cells := 0, slots := 0, locals := 0 }) (pre D cy [.int a0, .int 0, .int 9] sz []) (qi (fun r h => r = 0 ∧ va_P D vwCl [] h ∧ va_D (va_A [] sz) []) (va_A [] sz)) 0 0 (va_A [] sz) := by
  refine Met.ofW (cc := cX12_within) (maxL := 3) (ret := (some .boolean)) (by decide) rfl ?_
  intro p e s m args below meth c s₁ B hml hv
  obtain ⟨rfl, hsz, hP, hG, hD0⟩ := hv
  have hx := B.exec
  have hb := B.bytes
  have hr := B.returns
  have hts := atoms_spec (ws := (Cond.code yX12_within cX12_within 3 (some .boolean) :: bigG)) B.pre
  have hg : ∀ w ∈ bigG, w.before ([.int a0, .int 0, .int 9] : List Value).toArray s = true := fun w h => hts w (List.mem_cons_of_mem _ h)
  have hown : s.vm.findClass RX12 = some m.cls := findClass_of_methodNamed B.named
  have hlocks := B.notSynchronized
  subst hsz
  have hD := hD0.self (sz := s.heap.size)
  generalize hAe : va_A [] s.heap.size = A at hD ⊢
  have hA : ∀ q : Nat, s.heap.size ≤ q → A q := fun q h => by rw [← hAe]; exact Or.inr h
  have hS : va_S A s.heap s.heap [] := va_S.rf
  have hP : va_P D vwCl [] s.heap := hP
  have hl := lv_entry ([.int a0, .int 0, .int 9]) (n := 3) (Nat.le_of_ble_eq_true rfl)
  rw [lg_entry_eq]
  generalize (lg_sl ([.int a0, .int 0, .int 9]) ++ List.replicate (3 - (lg_sl ([.int a0, .int 0, .int 9])).length) Slot.unset).toArray = ls at hl ⊢
  have hl : lv_has ls 3 [(0, .int a0), (1, .int 0), (2, .int 9)] := hl
  refine w_nm (fun Q hQ => ?_)
  refine lv_iload_n hx hb dX12_within_0 rfl (lv_at hl 0 rfl) ?_
  refine lv_iload_n hx hb dX12_within_1 rfl (lv_at hl 1 rfl) ?_
  refine lv_icmp_lt (tgt := 14) hx hb dX12_within_2 (by decide) (fun c_ => absurd c_ hf0) (fun _ => ?_)
  refine lv_iload_n hx hb dX12_within_5 rfl (lv_at hl 0 rfl) ?_
  refine lv_iload_n hx hb dX12_within_6 rfl (lv_at hl 2 rfl) ?_
  refine lv_icmp_gt (tgt := 14) hx hb dX12_within_7 (by decide) (fun _ => ?_) (fun c_ => absurd hf1 c_)
  refine lv_iconst (v := 0) hx hb dX12_within_14 (by decide) ?_
  have hP9 := hP.sub (ws' := []) [] rfl
  have hD9 := hD.sub (ws' := []) [] (by decide) rfl
  subst hQ
  exact W.zret (v := 0) hx hb hr rfl (fun t ht hW => qi_mk (by rw [ht]; exact ⟨rfl, hP9, hD9⟩) (hS.F ht)) hS.2.2 dX12_within_15
set_option maxHeartbeats 4000000 in
set_option maxRecDepth 100000 in
theorem c_X12_rests_4 (l : Launch) (D : va_G) (cy : Nat → ClassId) (h_2 : Nat) (th0 : Int32) (F : List Value) (a1 : Int32) (a2 : Int32) (a3 : Int32) (sz : Nat) (hf0 : ¬ a1 < 0) (hf1 : ¬ 20 < a1) (hf2 : ¬ a2 < 0) (hf3 : 9 < a2) : Met l yX12_rests (Cond.code yX12_rests cX12_rests 7 (some .int) :: bigG) ({ frames := 1, cells := 0, slots := 0, locals := 22 }) (pre D cy [.ref h_2, .int a1, .int a2, .int a3] sz [(h_2, .inr (12, .int th0 :: F))]) (qi (fun r h => r = 0 ∧ va_P D vwCl [(h_2, .inr (12, .int 1 :: F))] h ∧ va_D (va_A [(h_2, .inr (12, .int th0 :: F))] sz) [(h_2, .inr (12, .int 1 :: F))]) (va_A [(h_2, .inr (12, .int th0 :: F))] sz)) 0 0 (va_A [(h_2, .inr (12, .int th0 :: F))] sz) := by
  refine Met.ofW (cc := cX12_rests) (maxL := 7) (ret := (some .int)) (by decide) rfl ?_
  intro p e s m args below meth c s₁ B hml hv
  obtain ⟨rfl, hsz, hP, hG, hD0⟩ := hv
  have hx := B.exec
  have hb := B.bytes
  have hr := B.returns
  have hts := atoms_spec (ws := (Cond.code yX12_rests cX12_rests 7 (some .int) :: bigG)) B.pre
  have hg : ∀ w ∈ bigG, w.before ([.ref h_2, .int a1, .int a2, .int a3] : List Value).toArray s = true := fun w h => hts w (List.mem_cons_of_mem _ h)
  have hown : s.vm.findClass RX12 = some m.cls := findClass_of_methodNamed B.named
  have hlocks := B.notSynchronized
  subst hsz
  have hD := hD0.self (sz := s.heap.size)
  generalize hAe : va_A [(h_2, .inr (12, .int th0 :: F))] s.heap.size = A at hD ⊢
  have hA : ∀ q : Nat, s.heap.size ≤ q → A q := fun q h => by rw [← hAe]; exact Or.inr h
  have hS : va_S A s.heap s.heap [] := va_S.rf
  have hP : va_P D vwCl [(h_2, .inr (12, .int th0 :: F))] s.heap := hP
  have hl := lv_entry ([.ref h_2, .int a1, .int a2, .int a3]) (n := 7) (Nat.le_of_ble_eq_true rfl)
  rw [lg_entry_eq]
  generalize (lg_sl ([.ref h_2, .int a1, .int a2, .int a3]) ++ List.replicate (7 - (lg_sl ([.ref h_2, .int a1, .int a2, .int a3])).length) Slot.unset).toArray = ls at hl ⊢
  have hl : lv_has ls 7 [(0, .ref h_2), (1, .int a1), (2, .int a2), (3, .int a3)] := hl
  refine w_nm (fun Q hQ => ?_)
  refine lv_aload_n hx hb dX12_rests_0 rfl (lv_at hl 0 rfl) ?_
  refine lv_iload_n hx hb dX12_rests_1 rfl (lv_at hl 1 rfl) ?_
  refine lv_iconst (v := 0) hx hb dX12_rests_2 (by decide) ?_
  refine lv_bipush (v := 20) hx hb dX12_rests_3 (by decide) ?_
  refine x_i (wr := [(h_2, .inr (12, .int th0 :: F))]) hP hD hS hA [] [0] rfl rfl (by decide) (by decide) (va_runS (As := [.int a1, .int 0, .int 20]) (rest := [.ref h_2]) ⟨hx, hb, hml, hown, hts⟩ (c_X12_within_35 l D cy a1 s.heap.size hf0 hf1) (va_cwS 3 hts (gS km_X12_293 kt_X12_within kn_X12 kc_X12_within) rfl rfl rfl (by decide +kernel) ⟨(Nat.le_of_ble_eq_true rfl), (Nat.le_of_ble_eq_true rfl)⟩) (preS hG hP hD [] rfl (by decide)) rfl rfl hl.1 rfl (lv_room (Nat.le_of_ble_eq_true rfl)) dX12_rests_5 ⟨(Nat.le_of_ble_eq_true rfl), (Nat.le_of_ble_eq_true rfl)⟩) (fun r_1 H locs hB hj hS => ?_)
  obtain ⟨hres, hP1, hD1⟩ := hB
  subst hres
  obtain ⟨hP, hD⟩ := hj _ hP1 hD1
  have hP : va_P D vwCl [(h_2, .inr (12, .int th0 :: F))] H := hP
  have hD : va_D A [(h_2, .inr (12, .int th0 :: F))] := hD
  refine lv_if_eq (tgt := 30) hx hb dX12_rests_8 (by decide) (fun c_ => absurd c_ (by decide)) (fun _ => ?_)
  refine lv_iload_n hx hb dX12_rests_11 rfl (lv_at hl 2 rfl) ?_
  refine lv_iconst (v := 0) hx hb dX12_rests_12 (by decide) ?_
  refine lv_bipush (v := 9) hx hb dX12_rests_13 (by decide) ?_
  refine x_i (wr := [(h_2, .inr (12, .int th0 :: F))]) hP hD hS hA [] [0] rfl rfl (by decide) (by decide) (va_runS (As := [.int a2, .int 0, .int 9]) (rest := [.ref h_2]) ⟨hx, hb, hml, hown, hts⟩ (c_X12_within_40 l D cy a2 H.size hf2 hf3) (va_cwS 3 hts (gS km_X12_293 kt_X12_within kn_X12 kc_X12_within) rfl rfl rfl (by decide +kernel) ⟨(Nat.le_of_ble_eq_true rfl), (Nat.le_of_ble_eq_true rfl)⟩) (preS hG hP hD [] rfl (by decide)) rfl rfl hl.1 rfl (lv_room (Nat.le_of_ble_eq_true rfl)) dX12_rests_15 ⟨(Nat.le_of_ble_eq_true rfl), (Nat.le_of_ble_eq_true rfl)⟩) (fun r_2 H locs hB hj hS => ?_)
  obtain ⟨hres, hP1, hD1⟩ := hB
  subst hres
  obtain ⟨hP, hD⟩ := hj _ hP1 hD1
  have hP : va_P D vwCl [(h_2, .inr (12, .int th0 :: F))] H := hP
  have hD : va_D A [(h_2, .inr (12, .int th0 :: F))] := hD
  refine lv_if_eq (tgt := 30) hx hb dX12_rests_18 (by decide) (fun _ => ?_) (fun c_ => absurd rfl c_)
  refine lv_iconst (v := 1) hx hb dX12_rests_30 (by decide) ?_
  refine va_put (D := D) (ci := 12) (v := .int 1) (ty := .int) (C := RX12) (T := TX12) (N := 67) hx hb hts (inC ibX12) tyX12 tyX12_ok nmX12 hown hG.1 hP hD hS 0 rfl rfl 0 (by decide) (hg _ k_1315) (fun _ h9 => h9) rfl (by decide +kernel) rfl rfl (Nat.le_of_ble_eq_true rfl) dX12_rests_31 (fun H locs hP hD hS => ?_)
  have hP : va_P D vwCl [(h_2, .inr (12, .int 1 :: F))] H := hP
  have hD : va_D A [(h_2, .inr (12, .int 1 :: F))] := hD
  refine lv_aload_n hx hb dX12_rests_34 rfl (lv_at hl 0 rfl) ?_
  refine va_get (D := D) (ci := 12) (v := .int 1) (C := RX12) (T := TX12) (N := 67) hx hb hts (inC ibX12) hown hG.1 hP 0 rfl rfl 0 (by decide) (hg _ k_1315) (fun _ h9 => h9) rfl dX12_rests_35 ?_
  refine lv_iconst (v := 1) hx hb dX12_rests_38 (by decide) ?_
  refine lv_icmp_ne (tgt := 44) hx hb dX12_rests_39 (by decide) (fun c_ => absurd rfl c_) (fun _ => ?_)
  refine lv_iconst (v := 0) hx hb dX12_rests_42 (by decide) ?_
  have hP9 := hP.sub (ws' := [(h_2, .inr (12, .int 1 :: F))]) [0] rfl
  have hD9 := hD.sub (ws' := [(h_2, .inr (12, .int 1 :: F))]) [0] (by decide) rfl
  subst hQ
  exact W.iret (v := 0) hx hb hr (fun t ht hW => qi_mk (by rw [ht]; exact ⟨rfl, hP9, hD9⟩) (hS.F ht)) hS.2.2 dX12_rests_43
set_option maxHeartbeats 4000000 in
set_option maxRecDepth 100000 in
theorem c_X12_rests_5 (l : Launch) (D : va_G) (cy : Nat → ClassId) (h_2 : Nat) (th0 : Int32) (F : List Value) (a1 : Int32) (a2 : Int32) (a3 : Int32) (sz : Nat) (hf0 : ¬ a1 < 0) (hf1 : ¬ 20 < a1) (hf2 : ¬ a2 < 0) (hf3 : ¬ 9 < a2) (hf4 : ¬ a3 = (-1)) (hf5 : a3 < (-1)) : Met l yX12_rests (Cond.code yX12_rests cX12_rests 7 (some .int) :: bigG) ({ frames := 1, cells := 0, slots := 0, locals := 22 }) (pre D cy [.ref h_2, .int a1, .int a2, .int a3] sz [(h_2, .inr (12, .int th0 :: F))]) (qi (fun r h => r = 0 ∧ va_P D vwCl [(h_2, .inr (12, .int 1 :: F))] h ∧ va_D (va_A [(h_2, .inr (12, .int th0 :: F))] sz) [(h_2, .inr (12, .int 1 :: F))]) (va_A [(h_2, .inr (12, .int th0 :: F))] sz)) 0 0 (va_A [(h_2, .inr (12, .int th0 :: F))] sz) := by
  refine Met.ofW (cc := cX12_rests) (maxL := 7) (ret := (some .int)) (by decide) rfl ?_
  intro p e s m args below meth c s₁ B hml hv
  obtain ⟨rfl, hsz, hP, hG, hD0⟩ := hv
  have hx := B.exec
  have hb := B.bytes
  have hr := B.returns
  have hts := atoms_spec (ws := (Cond.code yX12_rests cX12_rests 7 (some .int) :: bigG)) B.pre
  have hg : ∀ w ∈ bigG, w.before ([.ref h_2, .int a1, .int a2, .int a3] : List Value).toArray s = true := fun w h => hts w (List.mem_cons_of_mem _ h)
  have hown : s.vm.findClass RX12 = some m.cls := findClass_of_methodNamed B.named
  have hlocks := B.notSynchronized
  subst hsz
  have hD := hD0.self (sz := s.heap.size)
  generalize hAe : va_A [(h_2, .inr (12, .int th0 :: F))] s.heap.size = A at hD ⊢
  have hA : ∀ q : Nat, s.heap.size ≤ q → A q := fun q h => by rw [← hAe]; exact Or.inr h
  have hS : va_S A s.heap s.heap [] := va_S.rf
  have hP : va_P D vwCl [(h_2, .inr (12, .int th0 :: F))] s.heap := hP
  have hl := lv_entry ([.ref h_2, .int a1, .int a2, .int a3]) (n := 7) (Nat.le_of_ble_eq_true rfl)
  rw [lg_entry_eq]
  generalize (lg_sl ([.ref h_2, .int a1, .int a2, .int a3]) ++ List.replicate (7 - (lg_sl ([.ref h_2, .int a1, .int a2, .int a3])).length) Slot.unset).toArray = ls at hl ⊢
  have hl : lv_has ls 7 [(0, .ref h_2), (1, .int a1), (2, .int a2), (3, .int a3)] := hl
  refine w_nm (fun Q hQ => ?_)
  refine lv_aload_n hx hb dX12_rests_0 rfl (lv_at hl 0 rfl) ?_
  refine lv_iload_n hx hb dX12_rests_1 rfl (lv_at hl 1 rfl) ?_
  refine lv_iconst (v := 0) hx hb dX12_rests_2 (by decide) ?_
  refine lv_bipush (v := 20) hx hb dX12_rests_3 (by decide) ?_
  refine x_i (wr := [(h_2, .inr (12, .int th0 :: F))]) hP hD hS hA [] [0] rfl rfl (by decide) (by decide) (va_runS (As := [.int a1, .int 0, .int 20]) (rest := [.ref h_2]) ⟨hx, hb, hml, hown, hts⟩ (c_X12_within_35 l D cy a1 s.heap.size hf0 hf1) (va_cwS 3 hts (gS km_X12_293 kt_X12_within kn_X12 kc_X12_within) rfl rfl rfl (by decide +kernel) ⟨(Nat.le_of_ble_eq_true rfl), (Nat.le_of_ble_eq_true rfl)⟩) (preS hG hP hD [] rfl (by decide)) rfl rfl hl.1 rfl (lv_room (Nat.le_of_ble_eq_true rfl)) dX12_rests_5 ⟨(Nat.le_of_ble_eq_true rfl), (Nat.le_of_ble_eq_true rfl)⟩) (fun r_1 H locs hB hj hS => ?_)
  obtain ⟨hres, hP1, hD1⟩ := hB
  subst hres
  obtain ⟨hP, hD⟩ := hj _ hP1 hD1
  have hP : va_P D vwCl [(h_2, .inr (12, .int th0 :: F))] H := hP
  have hD : va_D A [(h_2, .inr (12, .int th0 :: F))] := hD
  refine lv_if_eq (tgt := 30) hx hb dX12_rests_8 (by decide) (fun c_ => absurd c_ (by decide)) (fun _ => ?_)
  refine lv_iload_n hx hb dX12_rests_11 rfl (lv_at hl 2 rfl) ?_
  refine lv_iconst (v := 0) hx hb dX12_rests_12 (by decide) ?_
  refine lv_bipush (v := 9) hx hb dX12_rests_13 (by decide) ?_
  refine x_i (wr := [(h_2, .inr (12, .int th0 :: F))]) hP hD hS hA [] [0] rfl rfl (by decide) (by decide) (va_runS (As := [.int a2, .int 0, .int 9]) (rest := [.ref h_2]) ⟨hx, hb, hml, hown, hts⟩ (c_X12_within_36 l D cy a2 H.size hf2 hf3) (va_cwS 3 hts (gS km_X12_293 kt_X12_within kn_X12 kc_X12_within) rfl rfl rfl (by decide +kernel) ⟨(Nat.le_of_ble_eq_true rfl), (Nat.le_of_ble_eq_true rfl)⟩) (preS hG hP hD [] rfl (by decide)) rfl rfl hl.1 rfl (lv_room (Nat.le_of_ble_eq_true rfl)) dX12_rests_15 ⟨(Nat.le_of_ble_eq_true rfl), (Nat.le_of_ble_eq_true rfl)⟩) (fun r_2 H locs hB hj hS => ?_)
  obtain ⟨hres, hP1, hD1⟩ := hB
  subst hres
  obtain ⟨hP, hD⟩ := hj _ hP1 hD1
  have hP : va_P D vwCl [(h_2, .inr (12, .int th0 :: F))] H := hP
  have hD : va_D A [(h_2, .inr (12, .int th0 :: F))] := hD
  refine lv_if_eq (tgt := 30) hx hb dX12_rests_18 (by decide) (fun c_ => absurd c_ (by decide)) (fun _ => ?_)
  refine lv_iload_n hx hb dX12_rests_21 rfl (lv_at hl 3 rfl) ?_
  refine lv_iconst (v := (-1)) hx hb dX12_rests_22 (by decide) ?_
  refine lv_icmp_lt (tgt := 30) hx hb dX12_rests_23 (by decide) (fun _ => ?_) (fun c_ => absurd hf5 c_)
  refine lv_iconst (v := 1) hx hb dX12_rests_30 (by decide) ?_
  refine va_put (D := D) (ci := 12) (v := .int 1) (ty := .int) (C := RX12) (T := TX12) (N := 67) hx hb hts (inC ibX12) tyX12 tyX12_ok nmX12 hown hG.1 hP hD hS 0 rfl rfl 0 (by decide) (hg _ k_1315) (fun _ h9 => h9) rfl (by decide +kernel) rfl rfl (Nat.le_of_ble_eq_true rfl) dX12_rests_31 (fun H locs hP hD hS => ?_)
  have hP : va_P D vwCl [(h_2, .inr (12, .int 1 :: F))] H := hP
  have hD : va_D A [(h_2, .inr (12, .int 1 :: F))] := hD
  refine lv_aload_n hx hb dX12_rests_34 rfl (lv_at hl 0 rfl) ?_
  refine va_get (D := D) (ci := 12) (v := .int 1) (C := RX12) (T := TX12) (N := 67) hx hb hts (inC ibX12) hown hG.1 hP 0 rfl rfl 0 (by decide) (hg _ k_1315) (fun _ h9 => h9) rfl dX12_rests_35 ?_
  refine lv_iconst (v := 1) hx hb dX12_rests_38 (by decide) ?_
  refine lv_icmp_ne (tgt := 44) hx hb dX12_rests_39 (by decide) (fun c_ => absurd rfl c_) (fun _ => ?_)
  refine lv_iconst (v := 0) hx hb dX12_rests_42 (by decide) ?_
  have hP9 := hP.sub (ws' := [(h_2, .inr (12, .int 1 :: F))]) [0] rfl
  have hD9 := hD.sub (ws' := [(h_2, .inr (12, .int 1 :: F))]) [0] (by decide) rfl
  subst hQ
  exact W.iret (v := 0) hx hb hr (fun t ht hW => qi_mk (by rw [ht]; exact ⟨rfl, hP9, hD9⟩) (hS.F ht)) hS.2.2 dX12_rests_43
