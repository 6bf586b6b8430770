theorem hno_app {a3 z v : Int32} {l : List Int32} (h : ∀ t, t < l.length → ¬ a3 = nI t) (hz : z = nI l.length) (hne : ¬ z = a3) : ∀ t, t < (l ++ [v]).length → ¬ a3 = nI t := by
  intro t ht e
  rw [List.length_append] at ht
  simp only [List.length_cons, List.length_nil] at ht
  rcases Nat.lt_or_ge t l.length with h1 | h1
  · exact h t h1 e
  · exact hne (by rw [hz, e, show t = l.length by omega])
set_option maxHeartbeats 4000000 in
set_option maxRecDepth 100000 in
theorem c_X12_within_35 (l : Launch) (D : va_G) (cy : Nat → ClassId) (a0 : Int32) (sz : Nat) (hf0 : ¬ a0 < 0) (hf1 : ¬ 20 < a0) : Met l yX12_within (Cond.code yX12_within cX12_within 3 (some .boolean) :: bigG) ({ frames := 0, cells := 0, slots := 0, locals := 0 }) (pre D cy [.int a0, .int 0, .int 20] sz []) (qi (fun r h => r = 1 ∧ va_P D vwCl [] h ∧ va_D (va_A [] sz) []) (va_A [] sz)) 0 0 (va_A [] sz) := by
  refine Met.ofW (cc := cX12_within) (maxL := 3) (ret := (some .boolean)) (by decide) rfl ?_
  intro p e s m args below meth c s₁ B hml hv
  obtain ⟨rfl, hsz, hP, hG, hD0⟩ := hv
  have hx := B.exec
  have hb := B.bytes
  have hr := B.returns
  have hts := atoms_spec (ws := (Cond.code yX12_within cX12_within 3 (some .boolean) :: bigG)) B.pre
  have hg : ∀ w ∈ bigG, w.before ([.int a0, .int 0, .int 20] : List Value).toArray s = true := fun w h => hts w (List.mem_cons_of_mem _ h)
  have hown : s.vm.findClass RX12 = some m.cls := findClass_of_methodNamed B.named
  have hlocks := B.notSynchronized
  subst hsz
  have hD := hD0.self (sz := s.heap.size)
  generalize hAe : va_A [] s.heap.size = A at hD ⊢
  have hA : ∀ q : Nat, s.heap.size ≤ q → A q := fun q h => by rw [← hAe]; exact Or.inr h
  have hS : va_S A s.heap s.heap [] := va_S.rf
  have hP : va_P D vwCl [] s.heap := hP
  have hl := lv_entry ([.int a0, .int 0, .int 20]) (n := 3) (Nat.le_of_ble_eq_true rfl)
  rw [lg_entry_eq]
  generalize (lg_sl ([.int a0, .int 0, .int 20]) ++ List.replicate (3 - (lg_sl ([.int a0, .int 0, .int 20])).length) Slot.unset).toArray = ls at hl ⊢
  have hl : lv_has ls 3 [(0, .int a0), (1, .int 0), (2, .int 20)] := hl
  refine w_nm (fun Q hQ => ?_)
  refine lv_iload_n hx hb dX12_within_0 rfl (lv_at hl 0 rfl) ?_
  refine lv_iload_n hx hb dX12_within_1 rfl (lv_at hl 1 rfl) ?_
  refine lv_icmp_lt (tgt := 14) hx hb dX12_within_2 (by decide) (fun c_ => absurd c_ hf0) (fun _ => ?_)
  refine lv_iload_n hx hb dX12_within_5 rfl (lv_at hl 0 rfl) ?_
  refine lv_iload_n hx hb dX12_within_6 rfl (lv_at hl 2 rfl) ?_
  refine lv_icmp_gt (tgt := 14) hx hb dX12_within_7 (by decide) (fun c_ => absurd c_ hf1) (fun _ => ?_)
  refine lv_iconst (v := 1) hx hb dX12_within_10 (by decide) ?_
  refine lv_goto (tgt := 15) hx hb dX12_within_11 (by decide) ?_
  have hP9 := hP.sub (ws' := []) [] rfl
  have hD9 := hD.sub (ws' := []) [] (by decide) rfl
  subst hQ
  exact W.zret (v := 1) hx hb hr rfl (fun t ht hW => qi_mk (by rw [ht]; exact ⟨rfl, hP9, hD9⟩) (hS.F ht)) hS.2.2 dX12_within_15
set_option maxHeartbeats 4000000 in
set_option maxRecDepth 100000 in
theorem c_X12_within_36 (l : Launch) (D : va_G) (cy : Nat → ClassId) (a0 : Int32) (sz : Nat) (hf0 : ¬ a0 < 0) (hf1 : ¬ 9 < a0) : Met l yX12_within (Cond.code yX12_within cX12_within 3 (some .boolean) :: bigG) ({ frames := 0, cells := 0, slots := 0, locals := 0 }) (pre D cy [.int a0, .int 0, .int 9] sz []) (qi (fun r h => r = 1 ∧ va_P D vwCl [] h ∧ va_D (va_A [] sz) []) (va_A [] sz)) 0 0 (va_A [] sz) := by
  refine Met.ofW (cc := cX12_within) (maxL := 3) (ret := (some .boolean)) (by decide) rfl ?_
  intro p e s m args below meth c s₁ B hml hv
  obtain ⟨rfl, hsz, hP, hG, hD0⟩ := hv
  have hx := B.exec
  have hb := B.bytes
  have hr := B.returns
  have hts := atoms_spec (ws := (Cond.code yX12_within cX12_within 3 (some .boolean) :: bigG)) B.pre
  have hg : ∀ w ∈ bigG, w.before ([.int a0, .int 0, .int 9] : List Value).toArray s = true := fun w h => hts w (List.mem_cons_of_mem _ h)
  have hown : s.vm.findClass RX12 = some m.cls := findClass_of_methodNamed B.named
  have hlocks := B.notSynchronized
  subst hsz
  have hD := hD0.self (sz := s.heap.size)
  generalize hAe : va_A [] s.heap.size = A at hD ⊢
  have hA : ∀ q : Nat, s.heap.size ≤ q → A q := fun q h => by rw [← hAe]; exact Or.inr h
  have hS : va_S A s.heap s.heap [] := va_S.rf
  have hP : va_P D vwCl [] s.heap := hP
  have hl := lv_entry ([.int a0, .int 0, .int 9]) (n := 3) (Nat.le_of_ble_eq_true rfl)
  rw [lg_entry_eq]
  generalize (lg_sl ([.int a0, .int 0, .int 9]) ++ List.replicate (3 - (lg_sl ([.int a0, .int 0, .int 9])).length) Slot.unset).toArray = ls at hl ⊢
  have hl : lv_has ls 3 [(0, .int a0), (1, .int 0), (2, .int 9)] := hl
  refine w_nm (fun Q hQ => ?_)
  refine lv_iload_n hx hb dX12_within_0 rfl (lv_at hl 0 rfl) ?_
  refine lv_iload_n hx hb dX12_within_1 rfl (lv_at hl 1 rfl) ?_
  refine lv_icmp_lt (tgt := 14) hx hb dX12_within_2 (by decide) (fun c_ => absurd c_ hf0) (fun _ => ?_)
  refine lv_iload_n hx hb dX12_within_5 rfl (lv_at hl 0 rfl) ?_
  refine lv_iload_n hx hb dX12_within_6 rfl (lv_at hl 2 rfl) ?_
  refine lv_icmp_gt (tgt := 14) hx hb dX12_within_7 (by decide) (fun c_ => absurd c_ hf1) (fun _ => ?_)
  refine lv_iconst (v := 1) hx hb dX12_within_10 (by decide) ?_
  refine lv_goto (tgt := 15) hx hb dX12_within_11 (by decide) ?_
  have hP9 := hP.sub (ws' := []) [] rfl
  have hD9 := hD.sub (ws' := []) [] (by decide) rfl
  subst hQ
  exact W.zret (v := 1) hx hb hr rfl (fun t ht hW => qi_mk (by rw [ht]; exact ⟨rfl, hP9, hD9⟩) (hS.F ht)) hS.2.2 dX12_within_15
set_option maxHeartbeats 4000000 in
set_option maxRecDepth 100000 in
theorem c_X12_rests (l : Launch) (D : va_G) (cy : Nat → ClassId) (h0 : Nat) (th0 : Int32) (F : List Value) (a1 : Int32) (a2 : Int32) (a3 : Int32) (sz : Nat) (hb0 : ¬ a1 < 0) (hb1 : ¬ 20 < a1) (hl0 : ¬ a2 < 0) (hl1 : ¬ 9 < a2) (hw : ¬ a3 < (-1)) : Met l yX12_rests (Cond.code yX12_rests cX12_rests 7 (some .int) :: bigG) ({ frames := 3, cells := 0, slots := 0, locals := 68 }) (pre D cy [.ref h0, .int a1, .int a2, .int a3] sz [(h0, .inr (12, .int th0 :: F))]) (qi (fun r h => ∃ (th : Int32), ((a3 = (-1) ∧ th = 0 ∧ r = nI (outr a1 a2 5).length) ∨ (∃ t, t < (outr a1 a2 5).length ∧ a3 = nI t ∧ th = 0 ∧ r = (outr a1 a2 5).getD t 0) ∨ (¬ a3 = (-1) ∧ (∀ t, t < (outr a1 a2 5).length → ¬ a3 = nI t) ∧ th = 1)) ∧ va_P D vwCl [(h0, .inr (12, .int th :: F))] h ∧ va_D (va_A [(h0, .inr (12, .int th0 :: F))] sz) [(h0, .inr (12, .int th :: F))]) (va_A [(h0, .inr (12, .int th0 :: F))] sz)) 0 0 (va_A [(h0, .inr (12, .int th0 :: F))] sz) := by
  refine Met.ofW (cc := cX12_rests) (maxL := 7) (ret := (some .int)) (by decide) rfl ?_
  intro p e s m args below meth c s₁ B hml hv
  obtain ⟨rfl, hsz, hP, hG, hD0⟩ := hv
  have hx := B.exec
  have hb := B.bytes
  have hr := B.returns
  have hts := atoms_spec (ws := (Cond.code yX12_rests cX12_rests 7 (some .int) :: bigG)) B.pre
  have hg : ∀ w ∈ bigG, w.before ([.ref h0, .int a1, .int a2, .int a3] : List Value).toArray s = true := fun w h => hts w (List.mem_cons_of_mem _ h)
  have hown : s.vm.findClass RX12 = some m.cls := findClass_of_methodNamed B.named
  have hlocks := B.notSynchronized
  subst hsz
  have hD := hD0.self (sz := s.heap.size)
  generalize hAe : va_A [(h0, .inr (12, .int th0 :: F))] s.heap.size = A at hD ⊢
  have hA : ∀ q : Nat, s.heap.size ≤ q → A q := fun q h => by rw [← hAe]; exact Or.inr h
  have hS : va_S A s.heap s.heap [] := va_S.rf
  have hP : va_P D vwCl [(h0, .inr (12, .int th0 :: F))] s.heap := hP
  have hl := lv_entry ([.ref h0, .int a1, .int a2, .int a3]) (n := 7) (Nat.le_of_ble_eq_true rfl)
  rw [lg_entry_eq]
  generalize (lg_sl ([.ref h0, .int a1, .int a2, .int a3]) ++ List.replicate (7 - (lg_sl ([.ref h0, .int a1, .int a2, .int a3])).length) Slot.unset).toArray = ls at hl ⊢
  have hl : lv_has ls 7 [(0, .ref h0), (1, .int a1), (2, .int a2), (3, .int a3)] := hl
  refine w_nm (fun Q hQ => ?_)
  refine lv_aload_n hx hb dX12_rests_0 rfl (lv_at hl 0 rfl) ?_
  refine lv_iload_n hx hb dX12_rests_1 rfl (lv_at hl 1 rfl) ?_
  refine lv_iconst (v := 0) hx hb dX12_rests_2 (by decide) ?_
  refine lv_bipush (v := 20) hx hb dX12_rests_3 (by decide) ?_
  refine x_i (wr := [(h0, .inr (12, .int th0 :: F))]) hP hD hS hA [] [0] rfl rfl (by decide) (by decide) (va_runS (As := [.int a1, .int 0, .int 20]) (rest := [.ref h0]) ⟨hx, hb, hml, hown, hts⟩ (c_X12_within_35 l D cy a1 s.heap.size hb0 hb1) (va_cwS 3 hts (gS km_X12_293 kt_X12_within kn_X12 kc_X12_within) rfl rfl rfl (by decide +kernel) ⟨(Nat.le_of_ble_eq_true rfl), (Nat.le_of_ble_eq_true rfl)⟩) (preS hG hP hD [] rfl (by decide)) rfl rfl hl.1 rfl (lv_room (Nat.le_of_ble_eq_true rfl)) dX12_rests_5 ⟨(Nat.le_of_ble_eq_true rfl), (Nat.le_of_ble_eq_true rfl)⟩) (fun r_1 H locs hB hj hS => ?_)
  obtain ⟨hres, hP1, hD1⟩ := hB
  subst hres
  obtain ⟨hP, hD⟩ := hj _ hP1 hD1
  have hP : va_P D vwCl [(h0, .inr (12, .int th0 :: F))] H := hP
  have hD : va_D A [(h0, .inr (12, .int th0 :: F))] := hD
  refine lv_if_eq (tgt := 30) hx hb dX12_rests_8 (by decide) (fun c_ => absurd c_ (by decide)) (fun _ => ?_)
  refine lv_iload_n hx hb dX12_rests_11 rfl (lv_at hl 2 rfl) ?_
  refine lv_iconst (v := 0) hx hb dX12_rests_12 (by decide) ?_
  refine lv_bipush (v := 9) hx hb dX12_rests_13 (by decide) ?_
  refine x_i (wr := [(h0, .inr (12, .int th0 :: F))]) hP hD hS hA [] [0] rfl rfl (by decide) (by decide) (va_runS (As := [.int a2, .int 0, .int 9]) (rest := [.ref h0]) ⟨hx, hb, hml, hown, hts⟩ (c_X12_within_36 l D cy a2 H.size hl0 hl1) (va_cwS 3 hts (gS km_X12_293 kt_X12_within kn_X12 kc_X12_within) rfl rfl rfl (by decide +kernel) ⟨(Nat.le_of_ble_eq_true rfl), (Nat.le_of_ble_eq_true rfl)⟩) (preS hG hP hD [] rfl (by decide)) rfl rfl hl.1 rfl (lv_room (Nat.le_of_ble_eq_true rfl)) dX12_rests_15 ⟨(Nat.le_of_ble_eq_true rfl), (Nat.le_of_ble_eq_true rfl)⟩) (fun r_2 H locs hB hj hS => ?_)
  obtain ⟨hres, hP1, hD1⟩ := hB
  subst hres
  obtain ⟨hP, hD⟩ := hj _ hP1 hD1
  have hP : va_P D vwCl [(h0, .inr (12, .int th0 :: F))] H := hP
  have hD : va_D A [(h0, .inr (12, .int th0 :: F))] := hD
  refine lv_if_eq (tgt := 30) hx hb dX12_rests_18 (by decide) (fun c_ => absurd c_ (by decide)) (fun _ => ?_)
  refine lv_iload_n hx hb dX12_rests_21 rfl (lv_at hl 3 rfl) ?_
  refine lv_iconst (v := (-1)) hx hb dX12_rests_22 (by decide) ?_
  refine lv_icmp_lt (tgt := 30) hx hb dX12_rests_23 (by decide) (fun c_ => absurd c_ hw) (fun _ => ?_)
  refine lv_iconst (v := 0) hx hb dX12_rests_26 (by decide) ?_
  refine lv_goto (tgt := 31) hx hb dX12_rests_27 (by decide) ?_
  refine va_put (D := D) (ci := 12) (v := .int 0) (ty := .int) (C := RX12) (T := TX12) (N := 67) hx hb hts (inC ibX12) tyX12 tyX12_ok nmX12 hown hG.1 hP hD hS 0 rfl rfl 0 (by decide) (hg _ k_1315) (fun _ h9 => h9) rfl (by decide +kernel) rfl rfl (Nat.le_of_ble_eq_true rfl) dX12_rests_31 (fun H locs hP hD hS => ?_)
  have hP : va_P D vwCl [(h0, .inr (12, .int 0 :: F))] H := hP
  have hD : va_D A [(h0, .inr (12, .int 0 :: F))] := hD
  refine lv_aload_n hx hb dX12_rests_34 rfl (lv_at hl 0 rfl) ?_
  refine va_get (D := D) (ci := 12) (v := .int 0) (C := RX12) (T := TX12) (N := 67) hx hb hts (inC ibX12) hown hG.1 hP 0 rfl rfl 0 (by decide) (hg _ k_1315) (fun _ h9 => h9) rfl dX12_rests_35 ?_
  refine lv_iconst (v := 1) hx hb dX12_rests_38 (by decide) ?_
  refine lv_icmp_ne (tgt := 44) hx hb dX12_rests_39 (by decide) (fun _ => ?_) (fun c_ => absurd c_ (by decide))
  refine lv_iconst (v := 0) hx hb dX12_rests_44 (by decide) ?_
  refine lv_istore (lv' := [(4, .int 0), (0, .ref h0), (1, .int a1), (2, .int a2), (3, .int a3)]) hx hb dX12_rests_45 hl (by decide) rfl (fun ls hl => ?_)
  refine lv_iconst (v := 1) hx hb dX12_rests_47 (by decide) ?_
  refine lv_istore (lv' := [(5, .int 1), (4, .int 0), (0, .ref h0), (1, .int a1), (2, .int a2), (3, .int a3)]) hx hb dX12_rests_48 hl (by decide) rfl (fun ls hl => ?_)
  have LP_3 : ∀ (n_ : Nat) (n : Nat) (x5 : Int32) (x4 : Int32), 5 - n < n_ → n ≤ 5 → x5 = nI (n + 1) → x4 = nI (outr a1 a2 n).length → (∀ t, t < (outr a1 a2 n).length → ¬ a3 = nI t) → ∀ (H : Heap) (locs : List Loc), va_P D vwCl [(h0, .inr (12, .int 0 :: F))] H → va_D A [(h0, .inr (12, .int 0 :: F))] → va_S A s.heap H locs → ∀ (ls : Array Slot), lv_has ls 7 [(0, .ref h0), (1, .int a1), (2, .int a2), (3, .int a3), (4, .int x4), (5, .int x5)] → W p l e (headSpec (Cond.code yX12_rests cX12_rests 7 (some .int) :: bigG) { frames := 3, cells := 0, slots := 0, locals := 68 }).room s m ([.ref h0, .int a1, .int a2, .int a3] : List Value).toArray below meth c H locs 0 0 Q (F0 m 50 ls []) := by
    intro n_
    induction n_ with
    | zero => intro n x5 x4 hm_; exact absurd hm_ (Nat.not_lt_zero _)
    | succ n_ ih =>
      intro n x5 x4 hm_ hn ex5 ex4 hno H locs hP hD hS ls hl
      refine lv_iload hx hb dX12_rests_50 (lv_at hl 5 rfl) ?_
      refine lv_bipush (v := 6) hx hb dX12_rests_52 (by decide) ?_
      refine lv_icmp_ge (tgt := 112) hx hb dX12_rests_54 (by decide) (fun c_4 => ?_) (fun c_4 => ?_)
      · have hn5 : n = 5 := Nat.le_antisymm hn (Nat.le_of_not_lt fun q => absurd c_4 (by rw [ex5]; exact nI_ge (b := 6) (by omega) (by decide)))
        refine lv_aload_n hx hb dX12_rests_112 rfl (lv_at hl 0 rfl) ?_
        refine lv_iload_n hx hb dX12_rests_113 rfl (lv_at hl 3 rfl) ?_
        refine lv_iconst (v := (-1)) hx hb dX12_rests_114 (by decide) ?_
        refine lv_icmp_ne (tgt := 122) hx hb dX12_rests_115 (by decide) (fun c_5 => ?_) (fun c_5 => ?_)
        · refine lv_iconst (v := 1) hx hb dX12_rests_122 (by decide) ?_
          refine va_put (D := D) (ci := 12) (v := .int 1) (ty := .int) (C := RX12) (T := TX12) (N := 67) hx hb hts (inC ibX12) tyX12 tyX12_ok nmX12 hown hG.1 hP hD hS 0 rfl rfl 0 (by decide) (hg _ k_1315) (fun _ h9 => h9) rfl (by decide +kernel) rfl rfl (Nat.le_of_ble_eq_true rfl) dX12_rests_123 (fun H locs hP hD hS => ?_)
          have hP : va_P D vwCl [(h0, .inr (12, .int 1 :: F))] H := hP
          have hD : va_D A [(h0, .inr (12, .int 1 :: F))] := hD
          refine lv_iload_n hx hb dX12_rests_126 rfl (lv_at hl 3 rfl) ?_
          refine lv_iconst (v := (-1)) hx hb dX12_rests_127 (by decide) ?_
          refine lv_icmp_ne (tgt := 136) hx hb dX12_rests_128 (by decide) (fun _ => ?_) (fun c_ => absurd c_ c_5)
          refine lv_iconst (v := 0) hx hb dX12_rests_136 (by decide) ?_
          have hP9 := hP.sub (ws' := [(h0, .inr (12, .int 1 :: F))]) [0] rfl
          have hD9 := hD.sub (ws' := [(h0, .inr (12, .int 1 :: F))]) [0] (by decide) rfl
          subst hQ
          exact W.iret (v := 0) hx hb hr (fun t ht hW => qi_mk (by rw [ht]; exact ⟨1, (Or.inr (Or.inr ⟨c_5, by rw [← hn5]; exact hno, rfl⟩)), hP9, hD9⟩) (hS.F ht)) hS.2.2 dX12_rests_137
        · refine lv_iconst (v := 0) hx hb dX12_rests_118 (by decide) ?_
          refine lv_goto (tgt := 123) hx hb dX12_rests_119 (by decide) ?_
          refine va_put (D := D) (ci := 12) (v := .int 0) (ty := .int) (C := RX12) (T := TX12) (N := 67) hx hb hts (inC ibX12) tyX12 tyX12_ok nmX12 hown hG.1 hP hD hS 0 rfl rfl 0 (by decide) (hg _ k_1315) (fun _ h9 => h9) rfl (by decide +kernel) rfl rfl (Nat.le_of_ble_eq_true rfl) dX12_rests_123 (fun H locs hP hD hS => ?_)
          have hP : va_P D vwCl [(h0, .inr (12, .int 0 :: F))] H := hP
          have hD : va_D A [(h0, .inr (12, .int 0 :: F))] := hD
          refine lv_iload_n hx hb dX12_rests_126 rfl (lv_at hl 3 rfl) ?_
          refine lv_iconst (v := (-1)) hx hb dX12_rests_127 (by decide) ?_
          refine lv_icmp_ne (tgt := 136) hx hb dX12_rests_128 (by decide) (fun c_ => absurd c_5 c_) (fun _ => ?_)
          refine lv_iload hx hb dX12_rests_131 (lv_at hl 4 rfl) ?_
          refine lv_goto (tgt := 137) hx hb dX12_rests_133 (by decide) ?_
          have hP9 := hP.sub (ws' := [(h0, .inr (12, .int 0 :: F))]) [0] rfl
          have hD9 := hD.sub (ws' := [(h0, .inr (12, .int 0 :: F))]) [0] (by decide) rfl
          subst hQ
          exact W.iret (v := x4) hx hb hr (fun t ht hW => qi_mk (by rw [ht]; exact ⟨0, (Or.inl ⟨c_5, rfl, by rw [ex4, hn5]⟩), hP9, hD9⟩) (hS.F ht)) hS.2.2 dX12_rests_137
      · have hlt5 : n < 5 := Nat.lt_of_not_le fun q => c_4 (by rw [ex5, show n = 5 from Nat.le_antisymm hn q]; decide)
        refine lv_iconst (v := 1) hx hb dX12_rests_57 (by decide) ?_
        refine lv_istore (lv' := [(6, .int 1), (0, .ref h0), (1, .int a1), (2, .int a2), (3, .int a3), (4, .int x4), (5, .int x5)]) hx hb dX12_rests_58 hl (by decide) rfl (fun ls hl => ?_)
        have LP_6 : ∀ (n_ : Nat) (k : Nat) (y6 : Int32) (z4 : Int32), 5 - k < n_ → k ≤ 5 → y6 = nI (k + 1) → z4 = nI (rl a1 a2 n k).length → (∀ t, t < (rl a1 a2 n k).length → ¬ a3 = nI t) → ∀ (H : Heap) (locs : List Loc), va_P D vwCl [(h0, .inr (12, .int 0 :: F))] H → va_D A [(h0, .inr (12, .int 0 :: F))] → va_S A s.heap H locs → ∀ (ls : Array Slot), lv_has ls 7 [(0, .ref h0), (1, .int a1), (2, .int a2), (3, .int a3), (4, .int z4), (5, .int x5), (6, .int y6)] → W p l e (headSpec (Cond.code yX12_rests cX12_rests 7 (some .int) :: bigG) { frames := 3, cells := 0, slots := 0, locals := 68 }).room s m ([.ref h0, .int a1, .int a2, .int a3] : List Value).toArray below meth c H locs 0 0 Q (F0 m 60 ls []) := by
          intro n_
          induction n_ with
          | zero => intro k y6 z4 hm_; exact absurd hm_ (Nat.not_lt_zero _)
          | succ n_ ih60 =>
            intro k y6 z4 hm60_ hk ey6 ez4 hno2 H locs hP hD hS ls hl
            refine lv_iload hx hb dX12_rests_60 (lv_at hl 6 rfl) ?_
            refine lv_bipush (v := 6) hx hb dX12_rests_62 (by decide) ?_
            refine lv_icmp_ge (tgt := 106) hx hb dX12_rests_64 (by decide) (fun c_7 => ?_) (fun c_7 => ?_)
            · have hk5 : k = 5 := Nat.le_antisymm hk (Nat.le_of_not_lt fun q => absurd c_7 (by rw [ey6]; exact nI_ge (b := 6) (by omega) (by decide)))
              obtain ⟨x5_8, ex5_8⟩ : ∃ y : Int32, y = x5 + 1 := ⟨_, rfl⟩
              refine lv_iinc (v := x5_8) (lv' := [(5, .int x5_8), (0, .ref h0), (1, .int a1), (2, .int a2), (3, .int a3), (4, .int z4), (6, .int y6)]) hx hb dX12_rests_106 hl (k := 5) rfl (by rw [ex5_8]; rfl) (by decide) rfl (fun ls hl => ?_)
              refine lv_goto (tgt := 50) hx hb dX12_rests_109 (by decide) ?_
              exact ih (n + 1) x5_8 z4 (by omega) hlt5 (by rw [ex5_8, ex5]; exact nI_1 (n + 1)) (by rw [ez4, hk5]; rfl) (by intro t ht; exact hno2 t (by rw [hk5]; exact ht)) _ _ (hP.sub [0] rfl) (hD.sub [0] (by decide) rfl) hS ls (lv_sub hl [1, 2, 3, 4, 5, 0] rfl)
            · have hk4 : k < 5 := Nat.lt_of_not_le fun q => c_7 (by rw [ey6, show k = 5 from Nat.le_antisymm hk q]; decide)
              refine lv_iload_n hx hb dX12_rests_67 rfl (lv_at hl 1 rfl) ?_
              refine lv_iload_n hx hb dX12_rests_68 rfl (lv_at hl 2 rfl) ?_
              refine lv_iload hx hb dX12_rests_69 (lv_at hl 5 rfl) ?_
              refine lv_iload hx hb dX12_rests_71 (lv_at hl 6 rfl) ?_
              refine x_i (wr := [(h0, .inr (12, .int 0 :: F))]) hP hD hS hA [] [0] rfl rfl (by decide) (by decide) (va_runS (As := [.int a1, .int a2, .int x5, .int y6]) (rest := []) ⟨hx, hb, hml, hown, hts⟩ (c_X12_isRest l D cy a1 a2 x5 y6 H.size) (va_cwS 4 hts (gS km_X12_520 kt_X12_isRest kn_X12 kc_X12_isRest) rfl rfl rfl (by decide +kernel) ⟨(Nat.le_of_ble_eq_true rfl), (Nat.le_of_ble_eq_true rfl)⟩) (preS hG hP hD [] rfl (by decide)) rfl rfl hl.1 rfl (lv_room (Nat.le_of_ble_eq_true rfl)) dX12_rests_73 ⟨(Nat.le_of_ble_eq_true rfl), (Nat.le_of_ble_eq_true rfl)⟩) (fun r_9 H locs hB hj hS => ?_)
              obtain ⟨hres, hP1, hD1⟩ := hB
              subst hres
              obtain ⟨hP, hD⟩ := hj _ hP1 hD1
              have hP : va_P D vwCl [(h0, .inr (12, .int 0 :: F))] H := hP
              have hD : va_D A [(h0, .inr (12, .int 0 :: F))] := hD
              refine lv_if_ne (tgt := 82) hx hb dX12_rests_76 (by decide) (fun c_10 => ?_) (fun c_10 => ?_)
              · refine lv_iload hx hb dX12_rests_82 (lv_at hl 4 rfl) ?_
                refine lv_iload_n hx hb dX12_rests_84 rfl (lv_at hl 3 rfl) ?_
                refine lv_icmp_ne (tgt := 97) hx hb dX12_rests_85 (by decide) (fun c_11 => ?_) (fun c_11 => ?_)
                · obtain ⟨x4_12, ex4_12⟩ : ∃ y : Int32, y = z4 + 1 := ⟨_, rfl⟩
                  refine lv_iinc (v := x4_12) (lv' := [(4, .int x4_12), (0, .ref h0), (1, .int a1), (2, .int a2), (3, .int a3), (5, .int x5), (6, .int y6)]) hx hb dX12_rests_97 hl (k := 4) rfl (by rw [ex4_12]; rfl) (by decide) rfl (fun ls hl => ?_)
                  obtain ⟨x6_13, ex6_13⟩ : ∃ y : Int32, y = y6 + 1 := ⟨_, rfl⟩
                  refine lv_iinc (v := x6_13) (lv' := [(6, .int x6_13), (4, .int x4_12), (0, .ref h0), (1, .int a1), (2, .int a2), (3, .int a3), (5, .int x5)]) hx hb dX12_rests_100 hl (k := 6) rfl (by rw [ex6_13]; rfl) (by decide) rfl (fun ls hl => ?_)
                  refine lv_goto (tgt := 60) hx hb dX12_rests_103 (by decide) ?_
                  have hr_ : rl a1 a2 n (k + 1) = rl a1 a2 n k ++ [nI (10 * (n + 1) + (k + 1))] := rl_yes (by rw [← ex5, ← ey6]; exact rst_yes c_10)
                  exact ih60 (k + 1) x6_13 x4_12 (by omega) hk4 (by rw [ex6_13, ey6]; exact nI_1 (k + 1)) (by rw [ex4_12, ez4, hr_, List.length_append]; exact nI_1 _) (by rw [hr_]; exact hno_app hno2 ez4 c_11) _ _ (hP.sub [0] rfl) (hD.sub [0] (by decide) rfl) hS ls (lv_sub hl [2, 3, 4, 5, 1, 6, 0] rfl)
                · refine lv_bipush (v := 10) hx hb dX12_rests_88 (by decide) ?_
                  refine lv_iload hx hb dX12_rests_90 (lv_at hl 5 rfl) ?_
                  refine m_imul (v := (10 * x5)) hx hb dX12_rests_92 rfl ?_
                  refine lv_iload hx hb dX12_rests_93 (lv_at hl 6 rfl) ?_
                  refine m_iadd (v := ((10 * x5) + y6)) hx hb dX12_rests_95 rfl ?_
                  have hr_ : rl a1 a2 n (k + 1) = rl a1 a2 n k ++ [nI (10 * (n + 1) + (k + 1))] := rl_yes (by rw [← ex5, ← ey6]; exact rst_yes c_10)
                  have hpre_ := rl_pre (B := a1) (L := a2) (n := n) (k := k + 1) (t := (rl a1 a2 n k).length) hlt5 hk4 (by rw [hr_, List.length_append]; simp)
                  rw [hr_, getD_last] at hpre_
                  have hP9 := hP.sub (ws' := [(h0, .inr (12, .int 0 :: F))]) [0] rfl
                  have hD9 := hD.sub (ws' := [(h0, .inr (12, .int 0 :: F))]) [0] (by decide) rfl
                  subst hQ
                  exact W.iret (v := ((10 * x5) + y6)) hx hb hr (fun t ht hW => qi_mk (by rw [ht]; exact ⟨0, (Or.inr (Or.inl ⟨(rl a1 a2 n k).length, hpre_.2, c_11.symm.trans ez4, rfl, by rw [hpre_.1, ← nI_code, ex5, ey6]⟩)), hP9, hD9⟩) (hS.F ht)) hS.2.2 dX12_rests_96
              · refine lv_goto (tgt := 100) hx hb dX12_rests_79 (by decide) ?_
                obtain ⟨x6_14, ex6_14⟩ : ∃ y : Int32, y = y6 + 1 := ⟨_, rfl⟩
                refine lv_iinc (v := x6_14) (lv' := [(6, .int x6_14), (0, .ref h0), (1, .int a1), (2, .int a2), (3, .int a3), (4, .int z4), (5, .int x5)]) hx hb dX12_rests_100 hl (k := 6) rfl (by rw [ex6_14]; rfl) (by decide) rfl (fun ls hl => ?_)
                refine lv_goto (tgt := 60) hx hb dX12_rests_103 (by decide) ?_
                have hr_ : rl a1 a2 n (k + 1) = rl a1 a2 n k := rl_no (by rw [← ex5, ← ey6]; exact rst_no c_10)
                exact ih60 (k + 1) x6_14 z4 (by omega) hk4 (by rw [ex6_14, ey6]; exact nI_1 (k + 1)) (by rw [hr_]; exact ez4) (by rw [hr_]; exact hno2) _ _ (hP.sub [0] rfl) (hD.sub [0] (by decide) rfl) hS ls (lv_sub hl [1, 2, 3, 4, 5, 6, 0] rfl)
        exact LP_6 _ 0 1 x4 (Nat.lt_succ_self _) (by decide) rfl ex4 hno _ _ (hP.sub [0] rfl) (hD.sub [0] (by decide) rfl) hS ls (lv_sub hl [1, 2, 3, 4, 5, 6, 0] rfl)
  exact LP_3 _ 0 1 0 (Nat.lt_succ_self _) (by decide) rfl rfl (fun t h => absurd h (Nat.not_lt_zero _)) _ _ (hP.sub [0] rfl) (hD.sub [0] (by decide) rfl) hS ls (lv_sub hl [2, 3, 4, 5, 1, 0] rfl)
