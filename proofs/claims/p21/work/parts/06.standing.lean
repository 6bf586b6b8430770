set_option maxHeartbeats 4000000 in
set_option maxRecDepth 100000 in
theorem c_X8_copiesDay (l : Launch) (D : va_G) (cy : Nat → ClassId) (h0 : Nat) (q1 : Nat) (q2 : Nat) (q3 : Nat) (dy : Int32) (so : Int32) (il : Int32) (fu : Nat → Int32) (at_ : Nat → Int32) (hu : Nat → Int32) (h8 : Nat) (p1 : Nat) (p2 : Nat) (p3 : Nat) (dy8 : Int32) (so8 : Int32) (il8 : Int32) (fu8 : Nat → Int32) (at8 : Nat → Int32) (hu8 : Nat → Int32) (sz : Nat) : Met l yX8_copiesDay (Cond.code yX8_copiesDay cX8_copiesDay 2 none :: bigG) ({ frames := 1, cells := 0, slots := 0, locals := 40 }) (pre D cy [.ref h0, .ref h8] sz [(h0, .inr (8, [.int dy, .int so, .int il, .ref q1, .ref q2, .ref q3])), (q1, .inl (cy 1, 6, .inl fu)), (q2, .inl (cy 1, 6, .inl at_)), (q3, .inl (cy 1, 6, .inl hu)), (h8, .inr (8, [.int dy8, .int so8, .int il8, .ref p1, .ref p2, .ref p3])), (p1, .inl (cy 1, 6, .inl fu8)), (p2, .inl (cy 1, 6, .inl at8)), (p3, .inl (cy 1, 6, .inl hu8))]) (qv (fun h => va_P D vwCl [(h0, .inr (8, [.int dy8, .int so8, .int il, .ref q1, .ref q2, .ref q3])), (q1, .inl (cy 1, 6, .inl (va_cpy fu8 fu 0 0 6))), (q2, .inl (cy 1, 6, .inl (va_cpy at8 at_ 0 0 6))), (q3, .inl (cy 1, 6, .inl hu)), (h8, .inr (8, [.int dy8, .int so8, .int il8, .ref p1, .ref p2, .ref p3])), (p1, .inl (cy 1, 6, .inl fu8)), (p2, .inl (cy 1, 6, .inl at8)), (p3, .inl (cy 1, 6, .inl hu8))] h ∧ va_D (va_A [(h0, .inr (8, [.int dy, .int so, .int il, .ref q1, .ref q2, .ref q3])), (q1, .inl (cy 1, 6, .inl fu)), (q2, .inl (cy 1, 6, .inl at_)), (q3, .inl (cy 1, 6, .inl hu)), (h8, .inr (8, [.int dy8, .int so8, .int il8, .ref p1, .ref p2, .ref p3])), (p1, .inl (cy 1, 6, .inl fu8)), (p2, .inl (cy 1, 6, .inl at8)), (p3, .inl (cy 1, 6, .inl hu8))] sz) [(h0, .inr (8, [.int dy8, .int so8, .int il, .ref q1, .ref q2, .ref q3])), (q1, .inl (cy 1, 6, .inl (va_cpy fu8 fu 0 0 6))), (q2, .inl (cy 1, 6, .inl (va_cpy at8 at_ 0 0 6))), (q3, .inl (cy 1, 6, .inl hu)), (h8, .inr (8, [.int dy8, .int so8, .int il8, .ref p1, .ref p2, .ref p3])), (p1, .inl (cy 1, 6, .inl fu8)), (p2, .inl (cy 1, 6, .inl at8)), (p3, .inl (cy 1, 6, .inl hu8))]) (va_A [(h0, .inr (8, [.int dy, .int so, .int il, .ref q1, .ref q2, .ref q3])), (q1, .inl (cy 1, 6, .inl fu)), (q2, .inl (cy 1, 6, .inl at_)), (q3, .inl (cy 1, 6, .inl hu)), (h8, .inr (8, [.int dy8, .int so8, .int il8, .ref p1, .ref p2, .ref p3])), (p1, .inl (cy 1, 6, .inl fu8)), (p2, .inl (cy 1, 6, .inl at8)), (p3, .inl (cy 1, 6, .inl hu8))] sz)) 0 0 (va_A [(h0, .inr (8, [.int dy, .int so, .int il, .ref q1, .ref q2, .ref q3])), (q1, .inl (cy 1, 6, .inl fu)), (q2, .inl (cy 1, 6, .inl at_)), (q3, .inl (cy 1, 6, .inl hu)), (h8, .inr (8, [.int dy8, .int so8, .int il8, .ref p1, .ref p2, .ref p3])), (p1, .inl (cy 1, 6, .inl fu8)), (p2, .inl (cy 1, 6, .inl at8)), (p3, .inl (cy 1, 6, .inl hu8))] sz) := by
  refine Met.ofW (cc := cX8_copiesDay) (maxL := 2) (ret := none) (by decide) rfl ?_
  intro p e s m args below meth c s₁ B hml hv
  obtain ⟨rfl, hsz, hP, hG, hD0⟩ := hv
  have hx := B.exec
  have hb := B.bytes
  have hr := B.returns
  have hts := atoms_spec (ws := (Cond.code yX8_copiesDay cX8_copiesDay 2 none :: bigG)) B.pre
  have hg : ∀ w ∈ bigG, w.before ([.ref h0, .ref h8] : List Value).toArray s = true := fun w h => hts w (List.mem_cons_of_mem _ h)
  have hown : s.vm.findClass RX8 = some m.cls := findClass_of_methodNamed B.named
  have hlocks := B.notSynchronized
  subst hsz
  have hD := hD0.self (sz := s.heap.size)
  generalize hAe : va_A [(h0, .inr (8, [.int dy, .int so, .int il, .ref q1, .ref q2, .ref q3])), (q1, .inl (cy 1, 6, .inl fu)), (q2, .inl (cy 1, 6, .inl at_)), (q3, .inl (cy 1, 6, .inl hu)), (h8, .inr (8, [.int dy8, .int so8, .int il8, .ref p1, .ref p2, .ref p3])), (p1, .inl (cy 1, 6, .inl fu8)), (p2, .inl (cy 1, 6, .inl at8)), (p3, .inl (cy 1, 6, .inl hu8))] s.heap.size = A at hD ⊢
  have hA : ∀ q : Nat, s.heap.size ≤ q → A q := fun q h => by rw [← hAe]; exact Or.inr h
  have hS : va_S A s.heap s.heap [] := va_S.rf
  have hP : va_P D vwCl [(h0, .inr (8, [.int dy, .int so, .int il, .ref q1, .ref q2, .ref q3])), (q1, .inl (cy 1, 6, .inl fu)), (q2, .inl (cy 1, 6, .inl at_)), (q3, .inl (cy 1, 6, .inl hu)), (h8, .inr (8, [.int dy8, .int so8, .int il8, .ref p1, .ref p2, .ref p3])), (p1, .inl (cy 1, 6, .inl fu8)), (p2, .inl (cy 1, 6, .inl at8)), (p3, .inl (cy 1, 6, .inl hu8))] s.heap := hP
  have hl := lv_entry ([.ref h0, .ref h8]) (n := 2) (Nat.le_of_ble_eq_true rfl)
  rw [lg_entry_eq]
  generalize (lg_sl ([.ref h0, .ref h8]) ++ List.replicate (2 - (lg_sl ([.ref h0, .ref h8])).length) Slot.unset).toArray = ls at hl ⊢
  have hl : lv_has ls 2 [(0, .ref h0), (1, .ref h8)] := hl
  refine w_nm (fun Q hQ => ?_)
  refine lv_aload_n hx hb dX8_copiesDay_0 rfl (lv_at hl 0 rfl) ?_
  refine lv_aload_n hx hb dX8_copiesDay_1 rfl (lv_at hl 1 rfl) ?_
  refine va_get (D := D) (ci := 8) (v := .int dy8) (C := RX8) (T := TX8) (N := 6) hx hb hts (inC ibX8) hown hG.1 hP 4 rfl rfl 0 (by decide) (hg _ k_260) (fun _ h9 => h9) rfl dX8_copiesDay_2 ?_
  refine va_put (D := D) (ci := 8) (v := .int dy8) (ty := .int) (C := RX8) (T := TX8) (N := 6) hx hb hts (inC ibX8) tyX8 tyX8_ok nmX8 hown hG.1 hP hD hS 0 rfl rfl 0 (by decide) (hg _ k_260) (fun _ h9 => h9) rfl (by decide +kernel) rfl rfl (Nat.le_of_ble_eq_true rfl) dX8_copiesDay_5 (fun H locs hP hD hS => ?_)
  have hP : va_P D vwCl [(h0, .inr (8, [.int dy8, .int so, .int il, .ref q1, .ref q2, .ref q3])), (q1, .inl (cy 1, 6, .inl fu)), (q2, .inl (cy 1, 6, .inl at_)), (q3, .inl (cy 1, 6, .inl hu)), (h8, .inr (8, [.int dy8, .int so8, .int il8, .ref p1, .ref p2, .ref p3])), (p1, .inl (cy 1, 6, .inl fu8)), (p2, .inl (cy 1, 6, .inl at8)), (p3, .inl (cy 1, 6, .inl hu8))] H := hP
  have hD : va_D A [(h0, .inr (8, [.int dy8, .int so, .int il, .ref q1, .ref q2, .ref q3])), (q1, .inl (cy 1, 6, .inl fu)), (q2, .inl (cy 1, 6, .inl at_)), (q3, .inl (cy 1, 6, .inl hu)), (h8, .inr (8, [.int dy8, .int so8, .int il8, .ref p1, .ref p2, .ref p3])), (p1, .inl (cy 1, 6, .inl fu8)), (p2, .inl (cy 1, 6, .inl at8)), (p3, .inl (cy 1, 6, .inl hu8))] := hD
  refine lv_aload_n hx hb dX8_copiesDay_8 rfl (lv_at hl 0 rfl) ?_
  refine lv_aload_n hx hb dX8_copiesDay_9 rfl (lv_at hl 1 rfl) ?_
  refine va_get (D := D) (ci := 8) (v := .int so8) (C := RX8) (T := TX8) (N := 6) hx hb hts (inC ibX8) hown hG.1 hP 4 rfl rfl 1 (by decide) (hg _ k_262) (fun _ h9 => h9) rfl dX8_copiesDay_10 ?_
  refine va_put (D := D) (ci := 8) (v := .int so8) (ty := .int) (C := RX8) (T := TX8) (N := 6) hx hb hts (inC ibX8) tyX8 tyX8_ok nmX8 hown hG.1 hP hD hS 0 rfl rfl 1 (by decide) (hg _ k_262) (fun _ h9 => h9) rfl (by decide +kernel) rfl rfl (Nat.le_of_ble_eq_true rfl) dX8_copiesDay_13 (fun H locs hP hD hS => ?_)
  have hP : va_P D vwCl [(h0, .inr (8, [.int dy8, .int so8, .int il, .ref q1, .ref q2, .ref q3])), (q1, .inl (cy 1, 6, .inl fu)), (q2, .inl (cy 1, 6, .inl at_)), (q3, .inl (cy 1, 6, .inl hu)), (h8, .inr (8, [.int dy8, .int so8, .int il8, .ref p1, .ref p2, .ref p3])), (p1, .inl (cy 1, 6, .inl fu8)), (p2, .inl (cy 1, 6, .inl at8)), (p3, .inl (cy 1, 6, .inl hu8))] H := hP
  have hD : va_D A [(h0, .inr (8, [.int dy8, .int so8, .int il, .ref q1, .ref q2, .ref q3])), (q1, .inl (cy 1, 6, .inl fu)), (q2, .inl (cy 1, 6, .inl at_)), (q3, .inl (cy 1, 6, .inl hu)), (h8, .inr (8, [.int dy8, .int so8, .int il8, .ref p1, .ref p2, .ref p3])), (p1, .inl (cy 1, 6, .inl fu8)), (p2, .inl (cy 1, 6, .inl at8)), (p3, .inl (cy 1, 6, .inl hu8))] := hD
  refine lv_aload_n hx hb dX8_copiesDay_16 rfl (lv_at hl 1 rfl) ?_
  refine va_get (D := D) (ci := 8) (v := .ref p1) (C := RX8) (T := TX8) (N := 6) hx hb hts (inC ibX8) hown hG.1 hP 4 rfl rfl 3 (by decide) (hg _ k_266) (fun _ h9 => h9) rfl dX8_copiesDay_17 ?_
  refine lv_iconst (v := 0) hx hb dX8_copiesDay_20 (by decide) ?_
  refine lv_aload_n hx hb dX8_copiesDay_21 rfl (lv_at hl 0 rfl) ?_
  refine va_get (D := D) (ci := 8) (v := .ref q1) (C := RX8) (T := TX8) (N := 6) hx hb hts (inC ibX8) hown hG.1 hP 0 rfl rfl 3 (by decide) (hg _ k_266) (fun _ h9 => h9) rfl dX8_copiesDay_22 ?_
  refine lv_iconst (v := 0) hx hb dX8_copiesDay_25 (by decide) ?_
  refine lv_bipush (v := 6) hx hb dX8_copiesDay_26 (by decide) ?_
  refine va_copyi hx hb (hml.trans hl.1.symm) hown (hg _ k_959) (hg _ k_961) (hg _ k_960) (hg _ k_21) hG.1 hP hD hS 5 1 1 1 rfl rfl rfl rfl rfl (by decide) (by decide) (by decide) (by decide) (by decide) (fun _ _ => rfl) (Nat.le_of_ble_eq_true rfl) (Nat.le_of_ble_eq_true rfl) dX8_copiesDay_28 (fun H locs hP hD hS => ?_)
  have hP : va_P D vwCl [(h0, .inr (8, [.int dy8, .int so8, .int il, .ref q1, .ref q2, .ref q3])), (q1, .inl (cy 1, 6, .inl (va_cpy fu8 fu 0 0 6))), (q2, .inl (cy 1, 6, .inl at_)), (q3, .inl (cy 1, 6, .inl hu)), (h8, .inr (8, [.int dy8, .int so8, .int il8, .ref p1, .ref p2, .ref p3])), (p1, .inl (cy 1, 6, .inl fu8)), (p2, .inl (cy 1, 6, .inl at8)), (p3, .inl (cy 1, 6, .inl hu8))] H := hP
  have hD : va_D A [(h0, .inr (8, [.int dy8, .int so8, .int il, .ref q1, .ref q2, .ref q3])), (q1, .inl (cy 1, 6, .inl (va_cpy fu8 fu 0 0 6))), (q2, .inl (cy 1, 6, .inl at_)), (q3, .inl (cy 1, 6, .inl hu)), (h8, .inr (8, [.int dy8, .int so8, .int il8, .ref p1, .ref p2, .ref p3])), (p1, .inl (cy 1, 6, .inl fu8)), (p2, .inl (cy 1, 6, .inl at8)), (p3, .inl (cy 1, 6, .inl hu8))] := hD
  refine lv_aload_n hx hb dX8_copiesDay_31 rfl (lv_at hl 1 rfl) ?_
  refine va_get (D := D) (ci := 8) (v := .ref p2) (C := RX8) (T := TX8) (N := 6) hx hb hts (inC ibX8) hown hG.1 hP 4 rfl rfl 4 (by decide) (hg _ k_270) (fun _ h9 => h9) rfl dX8_copiesDay_32 ?_
  refine lv_iconst (v := 0) hx hb dX8_copiesDay_35 (by decide) ?_
  refine lv_aload_n hx hb dX8_copiesDay_36 rfl (lv_at hl 0 rfl) ?_
  refine va_get (D := D) (ci := 8) (v := .ref q2) (C := RX8) (T := TX8) (N := 6) hx hb hts (inC ibX8) hown hG.1 hP 0 rfl rfl 4 (by decide) (hg _ k_270) (fun _ h9 => h9) rfl dX8_copiesDay_37 ?_
  refine lv_iconst (v := 0) hx hb dX8_copiesDay_40 (by decide) ?_
  refine lv_bipush (v := 6) hx hb dX8_copiesDay_41 (by decide) ?_
  refine va_copyi hx hb (hml.trans hl.1.symm) hown (hg _ k_959) (hg _ k_961) (hg _ k_960) (hg _ k_21) hG.1 hP hD hS 6 2 1 1 rfl rfl rfl rfl rfl (by decide) (by decide) (by decide) (by decide) (by decide) (fun _ _ => rfl) (Nat.le_of_ble_eq_true rfl) (Nat.le_of_ble_eq_true rfl) dX8_copiesDay_43 (fun H locs hP hD hS => ?_)
  have hP : va_P D vwCl [(h0, .inr (8, [.int dy8, .int so8, .int il, .ref q1, .ref q2, .ref q3])), (q1, .inl (cy 1, 6, .inl (va_cpy fu8 fu 0 0 6))), (q2, .inl (cy 1, 6, .inl (va_cpy at8 at_ 0 0 6))), (q3, .inl (cy 1, 6, .inl hu)), (h8, .inr (8, [.int dy8, .int so8, .int il8, .ref p1, .ref p2, .ref p3])), (p1, .inl (cy 1, 6, .inl fu8)), (p2, .inl (cy 1, 6, .inl at8)), (p3, .inl (cy 1, 6, .inl hu8))] H := hP
  have hD : va_D A [(h0, .inr (8, [.int dy8, .int so8, .int il, .ref q1, .ref q2, .ref q3])), (q1, .inl (cy 1, 6, .inl (va_cpy fu8 fu 0 0 6))), (q2, .inl (cy 1, 6, .inl (va_cpy at8 at_ 0 0 6))), (q3, .inl (cy 1, 6, .inl hu)), (h8, .inr (8, [.int dy8, .int so8, .int il8, .ref p1, .ref p2, .ref p3])), (p1, .inl (cy 1, 6, .inl fu8)), (p2, .inl (cy 1, 6, .inl at8)), (p3, .inl (cy 1, 6, .inl hu8))] := hD
  have hP9 := hP.sub (ws' := [(h0, .inr (8, [.int dy8, .int so8, .int il, .ref q1, .ref q2, .ref q3])), (q1, .inl (cy 1, 6, .inl (va_cpy fu8 fu 0 0 6))), (q2, .inl (cy 1, 6, .inl (va_cpy at8 at_ 0 0 6))), (q3, .inl (cy 1, 6, .inl hu)), (h8, .inr (8, [.int dy8, .int so8, .int il8, .ref p1, .ref p2, .ref p3])), (p1, .inl (cy 1, 6, .inl fu8)), (p2, .inl (cy 1, 6, .inl at8)), (p3, .inl (cy 1, 6, .inl hu8))]) [0, 1, 2, 3, 4, 5, 6, 7] rfl
  have hD9 := hD.sub (ws' := [(h0, .inr (8, [.int dy8, .int so8, .int il, .ref q1, .ref q2, .ref q3])), (q1, .inl (cy 1, 6, .inl (va_cpy fu8 fu 0 0 6))), (q2, .inl (cy 1, 6, .inl (va_cpy at8 at_ 0 0 6))), (q3, .inl (cy 1, 6, .inl hu)), (h8, .inr (8, [.int dy8, .int so8, .int il8, .ref p1, .ref p2, .ref p3])), (p1, .inl (cy 1, 6, .inl fu8)), (p2, .inl (cy 1, 6, .inl at8)), (p3, .inl (cy 1, 6, .inl hu8))]) [0, 1, 2, 3, 4, 5, 6, 7] (by decide) rfl
  subst hQ
  exact W.vret hx hb hr (fun t ht hW => qv_mk (by rw [ht]; exact ⟨hP9, hD9⟩) (hS.F ht)) hS.2.2 dX8_copiesDay_46
set_option maxHeartbeats 4000000 in
set_option maxRecDepth 100000 in
theorem c_X8_copies (l : Launch) (D : va_G) (cy : Nat → ClassId) (h0 : Nat) (q1 : Nat) (q2 : Nat) (q3 : Nat) (dy : Int32) (so : Int32) (il : Int32) (fu : Nat → Int32) (at_ : Nat → Int32) (hu : Nat → Int32) (h8 : Nat) (p1 : Nat) (p2 : Nat) (p3 : Nat) (dy8 : Int32) (so8 : Int32) (il8 : Int32) (fu8 : Nat → Int32) (at8 : Nat → Int32) (hu8 : Nat → Int32) (sz : Nat) : Met l yX8_copies (Cond.code yX8_copies cX8_copies 2 none :: bigG) ({ frames := 2, cells := 0, slots := 0, locals := 61 }) (pre D cy [.ref h0, .ref h8] sz [(h0, .inr (8, [.int dy, .int so, .int il, .ref q1, .ref q2, .ref q3])), (q1, .inl (cy 1, 6, .inl fu)), (q2, .inl (cy 1, 6, .inl at_)), (q3, .inl (cy 1, 6, .inl hu)), (h8, .inr (8, [.int dy8, .int so8, .int il8, .ref p1, .ref p2, .ref p3])), (p1, .inl (cy 1, 6, .inl fu8)), (p2, .inl (cy 1, 6, .inl at8)), (p3, .inl (cy 1, 6, .inl hu8))]) (qv (fun h => va_P D vwCl [(h0, .inr (8, [.int dy8, .int so8, .int il8, .ref q1, .ref q2, .ref q3])), (q1, .inl (cy 1, 6, .inl (va_cpy fu8 fu 0 0 6))), (q2, .inl (cy 1, 6, .inl (va_cpy at8 at_ 0 0 6))), (q3, .inl (cy 1, 6, .inl (va_cpy hu8 hu 0 0 6))), (h8, .inr (8, [.int dy8, .int so8, .int il8, .ref p1, .ref p2, .ref p3])), (p1, .inl (cy 1, 6, .inl fu8)), (p2, .inl (cy 1, 6, .inl at8)), (p3, .inl (cy 1, 6, .inl hu8))] h ∧ va_D (va_A [(h0, .inr (8, [.int dy, .int so, .int il, .ref q1, .ref q2, .ref q3])), (q1, .inl (cy 1, 6, .inl fu)), (q2, .inl (cy 1, 6, .inl at_)), (q3, .inl (cy 1, 6, .inl hu)), (h8, .inr (8, [.int dy8, .int so8, .int il8, .ref p1, .ref p2, .ref p3])), (p1, .inl (cy 1, 6, .inl fu8)), (p2, .inl (cy 1, 6, .inl at8)), (p3, .inl (cy 1, 6, .inl hu8))] sz) [(h0, .inr (8, [.int dy8, .int so8, .int il8, .ref q1, .ref q2, .ref q3])), (q1, .inl (cy 1, 6, .inl (va_cpy fu8 fu 0 0 6))), (q2, .inl (cy 1, 6, .inl (va_cpy at8 at_ 0 0 6))), (q3, .inl (cy 1, 6, .inl (va_cpy hu8 hu 0 0 6))), (h8, .inr (8, [.int dy8, .int so8, .int il8, .ref p1, .ref p2, .ref p3])), (p1, .inl (cy 1, 6, .inl fu8)), (p2, .inl (cy 1, 6, .inl at8)), (p3, .inl (cy 1, 6, .inl hu8))]) (va_A [(h0, .inr (8, [.int dy, .int so, .int il, .ref q1, .ref q2, .ref q3])), (q1, .inl (cy 1, 6, .inl fu)), (q2, .inl (cy 1, 6, .inl at_)), (q3, .inl (cy 1, 6, .inl hu)), (h8, .inr (8, [.int dy8, .int so8, .int il8, .ref p1, .ref p2, .ref p3])), (p1, .inl (cy 1, 6, .inl fu8)), (p2, .inl (cy 1, 6, .inl at8)), (p3, .inl (cy 1, 6, .inl hu8))] sz)) 0 0 (va_A [(h0, .inr (8, [.int dy, .int so, .int il, .ref q1, .ref q2, .ref q3])), (q1, .inl (cy 1, 6, .inl fu)), (q2, .inl (cy 1, 6, .inl at_)), (q3, .inl (cy 1, 6, .inl hu)), (h8, .inr (8, [.int dy8, .int so8, .int il8, .ref p1, .ref p2, .ref p3])), (p1, .inl (cy 1, 6, .inl fu8)), (p2, .inl (cy 1, 6, .inl at8)), (p3, .inl (cy 1, 6, .inl hu8))] sz) := by
  refine Met.ofW (cc := cX8_copies) (maxL := 2) (ret := none) (by decide) rfl ?_
  intro p e s m args below meth c s₁ B hml hv
  obtain ⟨rfl, hsz, hP, hG, hD0⟩ := hv
  have hx := B.exec
  have hb := B.bytes
  have hr := B.returns
  have hts := atoms_spec (ws := (Cond.code yX8_copies cX8_copies 2 none :: bigG)) B.pre
  have hg : ∀ w ∈ bigG, w.before ([.ref h0, .ref h8] : List Value).toArray s = true := fun w h => hts w (List.mem_cons_of_mem _ h)
  have hown : s.vm.findClass RX8 = some m.cls := findClass_of_methodNamed B.named
  have hlocks := B.notSynchronized
  subst hsz
  have hD := hD0.self (sz := s.heap.size)
  generalize hAe : va_A [(h0, .inr (8, [.int dy, .int so, .int il, .ref q1, .ref q2, .ref q3])), (q1, .inl (cy 1, 6, .inl fu)), (q2, .inl (cy 1, 6, .inl at_)), (q3, .inl (cy 1, 6, .inl hu)), (h8, .inr (8, [.int dy8, .int so8, .int il8, .ref p1, .ref p2, .ref p3])), (p1, .inl (cy 1, 6, .inl fu8)), (p2, .inl (cy 1, 6, .inl at8)), (p3, .inl (cy 1, 6, .inl hu8))] s.heap.size = A at hD ⊢
  have hA : ∀ q : Nat, s.heap.size ≤ q → A q := fun q h => by rw [← hAe]; exact Or.inr h
  have hS : va_S A s.heap s.heap [] := va_S.rf
  have hP : va_P D vwCl [(h0, .inr (8, [.int dy, .int so, .int il, .ref q1, .ref q2, .ref q3])), (q1, .inl (cy 1, 6, .inl fu)), (q2, .inl (cy 1, 6, .inl at_)), (q3, .inl (cy 1, 6, .inl hu)), (h8, .inr (8, [.int dy8, .int so8, .int il8, .ref p1, .ref p2, .ref p3])), (p1, .inl (cy 1, 6, .inl fu8)), (p2, .inl (cy 1, 6, .inl at8)), (p3, .inl (cy 1, 6, .inl hu8))] s.heap := hP
  have hl := lv_entry ([.ref h0, .ref h8]) (n := 2) (Nat.le_of_ble_eq_true rfl)
  rw [lg_entry_eq]
  generalize (lg_sl ([.ref h0, .ref h8]) ++ List.replicate (2 - (lg_sl ([.ref h0, .ref h8])).length) Slot.unset).toArray = ls at hl ⊢
  have hl : lv_has ls 2 [(0, .ref h0), (1, .ref h8)] := hl
  refine w_nm (fun Q hQ => ?_)
  refine lv_aload_n hx hb dX8_copies_0 rfl (lv_at hl 0 rfl) ?_
  refine lv_aload_n hx hb dX8_copies_1 rfl (lv_at hl 1 rfl) ?_
  refine x_v (wr := []) hP hD hS hA [0, 1, 2, 3, 4, 5, 6, 7] [] rfl rfl (by decide) (by decide) (va_runV (As := [.ref h8]) (rest := []) ⟨hx, hb, hml, hown, hts⟩ (c_X8_copiesDay l D cy h0 q1 q2 q3 dy so il fu at_ hu h8 p1 p2 p3 dy8 so8 il8 fu8 at8 hu8 s.heap.size) (cwV 1 hts (gV km_X8_40 ki_X8_copiesDay kz_X8_copiesDay kn_X8 kc_X8_copiesDay) rfl rfl rfl (by decide +kernel) ⟨(Nat.le_of_ble_eq_true rfl), (Nat.le_of_ble_eq_true rfl)⟩) (preV hG hP hD [0, 1, 2, 3, 4, 5, 6, 7] rfl (by decide) 8 0 rfl rfl) rfl rfl hl.1 rfl (lv_room (Nat.le_of_ble_eq_true rfl)) dX8_copies_2 ⟨(Nat.le_of_ble_eq_true rfl), (Nat.le_of_ble_eq_true rfl)⟩) (fun H locs hB hj hS => ?_)
  obtain ⟨hP1, hD1⟩ := hB
  obtain ⟨hP, hD⟩ := hj _ hP1 hD1
  have hP : va_P D vwCl [(h0, .inr (8, [.int dy8, .int so8, .int il, .ref q1, .ref q2, .ref q3])), (q1, .inl (cy 1, 6, .inl (va_cpy fu8 fu 0 0 6))), (q2, .inl (cy 1, 6, .inl (va_cpy at8 at_ 0 0 6))), (q3, .inl (cy 1, 6, .inl hu)), (h8, .inr (8, [.int dy8, .int so8, .int il8, .ref p1, .ref p2, .ref p3])), (p1, .inl (cy 1, 6, .inl fu8)), (p2, .inl (cy 1, 6, .inl at8)), (p3, .inl (cy 1, 6, .inl hu8))] H := hP
  have hD : va_D A [(h0, .inr (8, [.int dy8, .int so8, .int il, .ref q1, .ref q2, .ref q3])), (q1, .inl (cy 1, 6, .inl (va_cpy fu8 fu 0 0 6))), (q2, .inl (cy 1, 6, .inl (va_cpy at8 at_ 0 0 6))), (q3, .inl (cy 1, 6, .inl hu)), (h8, .inr (8, [.int dy8, .int so8, .int il8, .ref p1, .ref p2, .ref p3])), (p1, .inl (cy 1, 6, .inl fu8)), (p2, .inl (cy 1, 6, .inl at8)), (p3, .inl (cy 1, 6, .inl hu8))] := hD
  refine lv_aload_n hx hb dX8_copies_5 rfl (lv_at hl 0 rfl) ?_
  refine lv_aload_n hx hb dX8_copies_6 rfl (lv_at hl 1 rfl) ?_
  refine va_get (D := D) (ci := 8) (v := .int il8) (C := RX8) (T := TX8) (N := 6) hx hb hts (inC ibX8) hown hG.1 hP 4 rfl rfl 2 (by decide) (hg _ k_264) (fun _ h9 => h9) rfl dX8_copies_7 ?_
  refine va_put (D := D) (ci := 8) (v := .int il8) (ty := .int) (C := RX8) (T := TX8) (N := 6) hx hb hts (inC ibX8) tyX8 tyX8_ok nmX8 hown hG.1 hP hD hS 0 rfl rfl 2 (by decide) (hg _ k_264) (fun _ h9 => h9) rfl (by decide +kernel) rfl rfl (Nat.le_of_ble_eq_true rfl) dX8_copies_10 (fun H locs hP hD hS => ?_)
  have hP : va_P D vwCl [(h0, .inr (8, [.int dy8, .int so8, .int il8, .ref q1, .ref q2, .ref q3])), (q1, .inl (cy 1, 6, .inl (va_cpy fu8 fu 0 0 6))), (q2, .inl (cy 1, 6, .inl (va_cpy at8 at_ 0 0 6))), (q3, .inl (cy 1, 6, .inl hu)), (h8, .inr (8, [.int dy8, .int so8, .int il8, .ref p1, .ref p2, .ref p3])), (p1, .inl (cy 1, 6, .inl fu8)), (p2, .inl (cy 1, 6, .inl at8)), (p3, .inl (cy 1, 6, .inl hu8))] H := hP
  have hD : va_D A [(h0, .inr (8, [.int dy8, .int so8, .int il8, .ref q1, .ref q2, .ref q3])), (q1, .inl (cy 1, 6, .inl (va_cpy fu8 fu 0 0 6))), (q2, .inl (cy 1, 6, .inl (va_cpy at8 at_ 0 0 6))), (q3, .inl (cy 1, 6, .inl hu)), (h8, .inr (8, [.int dy8, .int so8, .int il8, .ref p1, .ref p2, .ref p3])), (p1, .inl (cy 1, 6, .inl fu8)), (p2, .inl (cy 1, 6, .inl at8)), (p3, .inl (cy 1, 6, .inl hu8))] := hD
  refine lv_aload_n hx hb dX8_copies_13 rfl (lv_at hl 1 rfl) ?_
  refine va_get (D := D) (ci := 8) (v := .ref p3) (C := RX8) (T := TX8) (N := 6) hx hb hts (inC ibX8) hown hG.1 hP 4 rfl rfl 5 (by decide) (hg _ k_272) (fun _ h9 => h9) rfl dX8_copies_14 ?_
  refine lv_iconst (v := 0) hx hb dX8_copies_17 (by decide) ?_
  refine lv_aload_n hx hb dX8_copies_18 rfl (lv_at hl 0 rfl) ?_
  refine va_get (D := D) (ci := 8) (v := .ref q3) (C := RX8) (T := TX8) (N := 6) hx hb hts (inC ibX8) hown hG.1 hP 0 rfl rfl 5 (by decide) (hg _ k_272) (fun _ h9 => h9) rfl dX8_copies_19 ?_
  refine lv_iconst (v := 0) hx hb dX8_copies_22 (by decide) ?_
  refine lv_bipush (v := 6) hx hb dX8_copies_23 (by decide) ?_
  refine va_copyi hx hb (hml.trans hl.1.symm) hown (hg _ k_959) (hg _ k_961) (hg _ k_960) (hg _ k_21) hG.1 hP hD hS 7 3 1 1 rfl rfl rfl rfl rfl (by decide) (by decide) (by decide) (by decide) (by decide) (fun _ _ => rfl) (Nat.le_of_ble_eq_true rfl) (Nat.le_of_ble_eq_true rfl) dX8_copies_25 (fun H locs hP hD hS => ?_)
  have hP : va_P D vwCl [(h0, .inr (8, [.int dy8, .int so8, .int il8, .ref q1, .ref q2, .ref q3])), (q1, .inl (cy 1, 6, .inl (va_cpy fu8 fu 0 0 6))), (q2, .inl (cy 1, 6, .inl (va_cpy at8 at_ 0 0 6))), (q3, .inl (cy 1, 6, .inl (va_cpy hu8 hu 0 0 6))), (h8, .inr (8, [.int dy8, .int so8, .int il8, .ref p1, .ref p2, .ref p3])), (p1, .inl (cy 1, 6, .inl fu8)), (p2, .inl (cy 1, 6, .inl at8)), (p3, .inl (cy 1, 6, .inl hu8))] H := hP
  have hD : va_D A [(h0, .inr (8, [.int dy8, .int so8, .int il8, .ref q1, .ref q2, .ref q3])), (q1, .inl (cy 1, 6, .inl (va_cpy fu8 fu 0 0 6))), (q2, .inl (cy 1, 6, .inl (va_cpy at8 at_ 0 0 6))), (q3, .inl (cy 1, 6, .inl (va_cpy hu8 hu 0 0 6))), (h8, .inr (8, [.int dy8, .int so8, .int il8, .ref p1, .ref p2, .ref p3])), (p1, .inl (cy 1, 6, .inl fu8)), (p2, .inl (cy 1, 6, .inl at8)), (p3, .inl (cy 1, 6, .inl hu8))] := hD
  have hP9 := hP.sub (ws' := [(h0, .inr (8, [.int dy8, .int so8, .int il8, .ref q1, .ref q2, .ref q3])), (q1, .inl (cy 1, 6, .inl (va_cpy fu8 fu 0 0 6))), (q2, .inl (cy 1, 6, .inl (va_cpy at8 at_ 0 0 6))), (q3, .inl (cy 1, 6, .inl (va_cpy hu8 hu 0 0 6))), (h8, .inr (8, [.int dy8, .int so8, .int il8, .ref p1, .ref p2, .ref p3])), (p1, .inl (cy 1, 6, .inl fu8)), (p2, .inl (cy 1, 6, .inl at8)), (p3, .inl (cy 1, 6, .inl hu8))]) [0, 1, 2, 3, 4, 5, 6, 7] rfl
  have hD9 := hD.sub (ws' := [(h0, .inr (8, [.int dy8, .int so8, .int il8, .ref q1, .ref q2, .ref q3])), (q1, .inl (cy 1, 6, .inl (va_cpy fu8 fu 0 0 6))), (q2, .inl (cy 1, 6, .inl (va_cpy at8 at_ 0 0 6))), (q3, .inl (cy 1, 6, .inl (va_cpy hu8 hu 0 0 6))), (h8, .inr (8, [.int dy8, .int so8, .int il8, .ref p1, .ref p2, .ref p3])), (p1, .inl (cy 1, 6, .inl fu8)), (p2, .inl (cy 1, 6, .inl at8)), (p3, .inl (cy 1, 6, .inl hu8))]) [0, 1, 2, 3, 4, 5, 6, 7] (by decide) rfl
  subst hQ
  exact W.vret hx hb hr (fun t ht hW => qv_mk (by rw [ht]; exact ⟨hP9, hD9⟩) (hS.F ht)) hS.2.2 dX8_copies_28
set_option maxHeartbeats 4000000 in
set_option maxRecDepth 100000 in
theorem c_X8_fill (l : Launch) (D : va_G) (cy : Nat → ClassId) (h0 : Nat) (q1 : Nat) (q2 : Nat) (q3 : Nat) (dy : Int32) (so : Int32) (il : Int32) (fu : Nat → Int32) (at_ : Nat → Int32) (hu : Nat → Int32) (pe : Nat) (ga : Int32) (sz : Nat) (hp : pe < 6) : Met l yX8_fill (Cond.code yX8_fill cX8_fill 3 none :: bigG) ({ frames := 1, cells := 0, slots := 0, locals := 21 }) (pre D cy [.ref h0, .int (nI pe), .int ga] sz [(h0, .inr (8, [.int dy, .int so, .int il, .ref q1, .ref q2, .ref q3])), (q1, .inl (cy 1, 6, .inl fu)), (q2, .inl (cy 1, 6, .inl at_)), (q3, .inl (cy 1, 6, .inl hu))]) (qv (fun h => ∃ (fu2 : Nat → Int32), va_P D vwCl [(h0, .inr (8, [.int dy, .int so, .int il, .ref q1, .ref q2, .ref q3])), (q1, .inl (cy 1, 6, .inl fu2)), (q2, .inl (cy 1, 6, .inl at_)), (q3, .inl (cy 1, 6, .inl hu))] h ∧ va_D (va_A [(h0, .inr (8, [.int dy, .int so, .int il, .ref q1, .ref q2, .ref q3])), (q1, .inl (cy 1, 6, .inl fu)), (q2, .inl (cy 1, 6, .inl at_)), (q3, .inl (cy 1, 6, .inl hu))] sz) [(h0, .inr (8, [.int dy, .int so, .int il, .ref q1, .ref q2, .ref q3])), (q1, .inl (cy 1, 6, .inl fu2)), (q2, .inl (cy 1, 6, .inl at_)), (q3, .inl (cy 1, 6, .inl hu))]) (va_A [(h0, .inr (8, [.int dy, .int so, .int il, .ref q1, .ref q2, .ref q3])), (q1, .inl (cy 1, 6, .inl fu)), (q2, .inl (cy 1, 6, .inl at_)), (q3, .inl (cy 1, 6, .inl hu))] sz)) 0 0 (va_A [(h0, .inr (8, [.int dy, .int so, .int il, .ref q1, .ref q2, .ref q3])), (q1, .inl (cy 1, 6, .inl fu)), (q2, .inl (cy 1, 6, .inl at_)), (q3, .inl (cy 1, 6, .inl hu))] sz) := by
  refine Met.ofW (cc := cX8_fill) (maxL := 3) (ret := none) (by decide) rfl ?_
  intro p e s m args below meth c s₁ B hml hv
  obtain ⟨rfl, hsz, hP, hG, hD0⟩ := hv
  have hx := B.exec
  have hb := B.bytes
  have hr := B.returns
  have hts := atoms_spec (ws := (Cond.code yX8_fill cX8_fill 3 none :: bigG)) B.pre
  have hg : ∀ w ∈ bigG, w.before ([.ref h0, .int (nI pe), .int ga] : List Value).toArray s = true := fun w h => hts w (List.mem_cons_of_mem _ h)
  have hown : s.vm.findClass RX8 = some m.cls := findClass_of_methodNamed B.named
  have hlocks := B.notSynchronized
  subst hsz
  have hD := hD0.self (sz := s.heap.size)
  generalize hAe : va_A [(h0, .inr (8, [.int dy, .int so, .int il, .ref q1, .ref q2, .ref q3])), (q1, .inl (cy 1, 6, .inl fu)), (q2, .inl (cy 1, 6, .inl at_)), (q3, .inl (cy 1, 6, .inl hu))] s.heap.size = A at hD ⊢
  have hA : ∀ q : Nat, s.heap.size ≤ q → A q := fun q h => by rw [← hAe]; exact Or.inr h
  have hS : va_S A s.heap s.heap [] := va_S.rf
  have hP : va_P D vwCl [(h0, .inr (8, [.int dy, .int so, .int il, .ref q1, .ref q2, .ref q3])), (q1, .inl (cy 1, 6, .inl fu)), (q2, .inl (cy 1, 6, .inl at_)), (q3, .inl (cy 1, 6, .inl hu))] s.heap := hP
  have hl := lv_entry ([.ref h0, .int (nI pe), .int ga]) (n := 3) (Nat.le_of_ble_eq_true rfl)
  rw [lg_entry_eq]
  generalize (lg_sl ([.ref h0, .int (nI pe), .int ga]) ++ List.replicate (3 - (lg_sl ([.ref h0, .int (nI pe), .int ga])).length) Slot.unset).toArray = ls at hl ⊢
  have hl : lv_has ls 3 [(0, .ref h0), (1, .int (nI pe)), (2, .int ga)] := hl
  refine w_nm (fun Q hQ => ?_)
  refine lv_aload_n hx hb dX8_fill_0 rfl (lv_at hl 0 rfl) ?_
  refine va_get (D := D) (ci := 8) (v := .ref q1) (C := RX8) (T := TX8) (N := 6) hx hb hts (inC ibX8) hown hG.1 hP 0 rfl rfl 3 (by decide) (hg _ k_266) (fun _ h9 => h9) rfl dX8_fill_1 ?_
  refine lv_iload_n hx hb dX8_fill_4 rfl (lv_at hl 1 rfl) ?_
  refine lv_bipush (v := 99) hx hb dX8_fill_5 (by decide) ?_
  refine lv_aload_n hx hb dX8_fill_7 rfl (lv_at hl 0 rfl) ?_
  refine va_get (D := D) (ci := 8) (v := .ref q1) (C := RX8) (T := TX8) (N := 6) hx hb hts (inC ibX8) hown hG.1 hP 0 rfl rfl 3 (by decide) (hg _ k_266) (fun _ h9 => h9) rfl dX8_fill_8 ?_
  refine lv_iload_n hx hb dX8_fill_11 rfl (lv_at hl 1 rfl) ?_
  refine m_iald (v := fu pe) hx hb hG hP 1 rfl (vp_in_nI (by omega) (by omega)) dX8_fill_12 (by rw [nI_clamp (by omega)]) ?_
  refine lv_iload_n hx hb dX8_fill_13 rfl (lv_at hl 2 rfl) ?_
  refine m_iadd (v := ((fu pe) + ga)) hx hb dX8_fill_14 rfl ?_
  refine va_mmin hx hb (hml.trans hl.1.symm) hown (hg _ k_972) (hg _ k_564) (hg _ k_17) (hg _ k_565) (Nat.le_of_ble_eq_true rfl) (Nat.le_of_ble_eq_true rfl) (Nat.le_of_ble_eq_true rfl) (Nat.le_of_ble_eq_true rfl) dX8_fill_15 ?_
  refine lv_topi (fun mm_1 emm_1 => ?_)
  refine m_iast (g := upd fu pe mm_1) hx hb hG hP hD hS 1 rfl (vp_in_nI (by omega) (by omega)) dX8_fill_18 (by rw [nI_clamp (by omega)]) (fun H locs hP hD hS => ?_)
  have hP : va_P D vwCl [(h0, .inr (8, [.int dy, .int so, .int il, .ref q1, .ref q2, .ref q3])), (q1, .inl (cy 1, 6, .inl (upd fu pe mm_1))), (q2, .inl (cy 1, 6, .inl at_)), (q3, .inl (cy 1, 6, .inl hu))] H := hP
  have hD : va_D A [(h0, .inr (8, [.int dy, .int so, .int il, .ref q1, .ref q2, .ref q3])), (q1, .inl (cy 1, 6, .inl (upd fu pe mm_1))), (q2, .inl (cy 1, 6, .inl at_)), (q3, .inl (cy 1, 6, .inl hu))] := hD
  subst emm_1
  have hP9 := hP.sub (ws' := [(h0, .inr (8, [.int dy, .int so, .int il, .ref q1, .ref q2, .ref q3])), (q1, .inl (cy 1, 6, .inl (upd fu pe (if ((fu pe) + ga) < 99 then ((fu pe) + ga) else 99)))), (q2, .inl (cy 1, 6, .inl at_)), (q3, .inl (cy 1, 6, .inl hu))]) [0, 1, 2, 3] rfl
  have hD9 := hD.sub (ws' := [(h0, .inr (8, [.int dy, .int so, .int il, .ref q1, .ref q2, .ref q3])), (q1, .inl (cy 1, 6, .inl (upd fu pe (if ((fu pe) + ga) < 99 then ((fu pe) + ga) else 99)))), (q2, .inl (cy 1, 6, .inl at_)), (q3, .inl (cy 1, 6, .inl hu))]) [0, 1, 2, 3] (by decide) rfl
  subst hQ
  exact W.vret hx hb hr (fun t ht hW => qv_mk (by rw [ht]; exact ⟨(upd fu pe (if ((fu pe) + ga) < 99 then ((fu pe) + ga) else 99)), hP9, hD9⟩) (hS.F ht)) hS.2.2 dX8_fill_19
