theorem cpy_0 (f g : Nat → Int32) (a b : Nat) : va_cpy f g a b 0 = g := by
  funext j
  simp only [va_cpy]
  split
  · omega
  · rfl
theorem cpyL_0 (f g : Nat → Int64) (a b : Nat) : va_cpy f g a b 0 = g := by
  funext j
  simp only [va_cpy]
  split
  · omega
  · rfl
theorem cpy_s (f g : Nat → Int32) (a b i : Nat) : upd (va_cpy f g a b i) (b + i) (f (a + i)) = va_cpy f g a b (i + 1) := by
  funext j
  by_cases h : j = b + i
  · subst h
    have e : b + i - b = i := by omega
    simp [upd, va_cpy, e]
  · have e : (b ≤ j ∧ j < b + (i + 1)) = (b ≤ j ∧ j < b + i) := by
      apply propext
      omega
    simp only [upd, va_cpy, h, e, if_false]
theorem cpyL_s (f g : Nat → Int64) (a b i : Nat) : vp_updL (va_cpy f g a b i) (b + i) (f (a + i)) = va_cpy f g a b (i + 1) := by
  funext j
  by_cases h : j = b + i
  · subst h
    have e : b + i - b = i := by omega
    simp [vp_updL, va_cpy, e]
  · have e : (b ≤ j ∧ j < b + (i + 1)) = (b ≤ j ∧ j < b + i) := by
      apply propext
      omega
    simp only [vp_updL, va_cpy, h, e, if_false]
theorem cpy_mv (f : Nat → Int32) (n i : Nat) (h : i < n) : va_cpy f f n 0 i (n + i) = f (n + i) := pk_cpy_out (Or.inr (by omega))
theorem cpyL_mv (f : Nat → Int64) (n i : Nat) (h : i < n) : va_cpy f f n 0 i (n + i) = f (n + i) := pk_cpy_out (Or.inr (by omega))
set_option maxHeartbeats 4000000 in
set_option maxRecDepth 100000 in
theorem c_X12_copies (l : Launch) (D : va_G) (cy : Nat → ClassId) (h1 : Nat) (n1 : Nat) (f : Nat → Int32) (h2 : Nat) (n2 : Nat) (g : Nat → Int32) (na : Nat) (nb : Nat) (sz : Nat) (ha1 : na + 21 ≤ n1) (ha2 : nb + 21 ≤ n2) (hb1 : n1 < 2 ^ 31) (hb2 : n2 < 2 ^ 31) : Met l yX12_copies (Cond.code yX12_copies cX12_copies 5 none :: bigG) ({ frames := 0, cells := 0, slots := 0, locals := 0 }) (pre D cy [.ref h1, .int (nI na), .ref h2, .int (nI nb)] sz [(h1, .inl (cy 1, n1, .inl f)), (h2, .inl (cy 1, n2, .inl g))]) (qv (fun h => va_P D vwCl [(h1, .inl (cy 1, n1, .inl f)), (h2, .inl (cy 1, n2, .inl (va_cpy f g na nb 21)))] h ∧ va_D (va_A [(h1, .inl (cy 1, n1, .inl f)), (h2, .inl (cy 1, n2, .inl g))] sz) [(h1, .inl (cy 1, n1, .inl f)), (h2, .inl (cy 1, n2, .inl (va_cpy f g na nb 21)))]) (va_A [(h1, .inl (cy 1, n1, .inl f)), (h2, .inl (cy 1, n2, .inl g))] sz)) 0 0 (va_A [(h1, .inl (cy 1, n1, .inl f)), (h2, .inl (cy 1, n2, .inl g))] sz) := by
  refine Met.ofW (cc := cX12_copies) (maxL := 5) (ret := none) (by decide) rfl ?_
  intro p e s m args below meth c s₁ B hml hv
  obtain ⟨rfl, hsz, hP, hG, hD0⟩ := hv
  have hx := B.exec
  have hb := B.bytes
  have hr := B.returns
  have hts := atoms_spec (ws := (Cond.code yX12_copies cX12_copies 5 none :: bigG)) B.pre
  have hg : ∀ w ∈ bigG, w.before ([.ref h1, .int (nI na), .ref h2, .int (nI nb)] : List Value).toArray s = true := fun w h => hts w (List.mem_cons_of_mem _ h)
  have hown : s.vm.findClass RX12 = some m.cls := findClass_of_methodNamed B.named
  have hlocks := B.notSynchronized
  subst hsz
  have hD := hD0.self (sz := s.heap.size)
  generalize hAe : va_A [(h1, .inl (cy 1, n1, .inl f)), (h2, .inl (cy 1, n2, .inl g))] s.heap.size = A at hD ⊢
  have hA : ∀ q : Nat, s.heap.size ≤ q → A q := fun q h => by rw [← hAe]; exact Or.inr h
  have hS : va_S A s.heap s.heap [] := va_S.rf
  have hP : va_P D vwCl [(h1, .inl (cy 1, n1, .inl f)), (h2, .inl (cy 1, n2, .inl g))] s.heap := hP
  have hl := lv_entry ([.ref h1, .int (nI na), .ref h2, .int (nI nb)]) (n := 5) (Nat.le_of_ble_eq_true rfl)
  rw [lg_entry_eq]
  generalize (lg_sl ([.ref h1, .int (nI na), .ref h2, .int (nI nb)]) ++ List.replicate (5 - (lg_sl ([.ref h1, .int (nI na), .ref h2, .int (nI nb)])).length) Slot.unset).toArray = ls at hl ⊢
  have hl : lv_has ls 5 [(0, .ref h1), (1, .int (nI na)), (2, .ref h2), (3, .int (nI nb))] := hl
  refine w_nm (fun Q hQ => ?_)
  refine lv_iconst (v := 0) hx hb dX12_copies_0 (by decide) ?_
  refine lv_istore (lv' := [(4, .int 0), (0, .ref h1), (1, .int (nI na)), (2, .ref h2), (3, .int (nI nb))]) hx hb dX12_copies_1 hl (by decide) rfl (fun ls hl => ?_)
  have hP : va_P D vwCl [(h1, .inl (cy 1, n1, .inl f)), (h2, .inl (cy 1, n2, .inl (va_cpy f g na nb 0)))] s.heap := by simp only [cpy_0, cpyL_0, fl_0]; exact hP
  have hD : va_D A [(h1, .inl (cy 1, n1, .inl f)), (h2, .inl (cy 1, n2, .inl (va_cpy f g na nb 0)))] := by simp only [cpy_0, cpyL_0, fl_0]; exact hD
  have LP_1 : ∀ (n_ : Nat) (i : Nat) (x4 : Int32), 21 - i < n_ → i ≤ 21 → x4 = nI i → ∀ (H : Heap) (locs : List Loc), va_P D vwCl [(h1, .inl (cy 1, n1, .inl f)), (h2, .inl (cy 1, n2, .inl (va_cpy f g na nb i)))] H → va_D A [(h1, .inl (cy 1, n1, .inl f)), (h2, .inl (cy 1, n2, .inl (va_cpy f g na nb i)))] → va_S A s.heap H locs → ∀ (ls : Array Slot), lv_has ls 5 [(4, .int x4), (0, .ref h1), (1, .int (nI na)), (2, .ref h2), (3, .int (nI nb))] → W p l e (headSpec (Cond.code yX12_copies cX12_copies 5 none :: bigG) { frames := 0, cells := 0, slots := 0, locals := 0 }).room s m ([.ref h1, .int (nI na), .ref h2, .int (nI nb)] : List Value).toArray below meth c H locs 0 0 Q (F0 m 3 ls []) := by
    intro n_
    induction n_ with
    | zero => intro i x4 hm_; exact absurd hm_ (Nat.not_lt_zero _)
    | succ n_ ih =>
      intro i x4 hm_ hi3 ex3 H locs hP hD hS ls hl
      refine lv_iload hx hb dX12_copies_3 (lv_at hl 0 rfl) ?_
      refine lv_bipush (v := 21) hx hb dX12_copies_5 (by decide) ?_
      refine lv_icmp_ge (tgt := 28) hx hb dX12_copies_7 (by decide) (fun c_2 => ?_) (fun c_2 => ?_)
      · have hei3 : i = 21 := Nat.le_antisymm hi3 (Nat.le_of_not_lt fun q => absurd c_2 (by rw [ex3]; exact nI_ge (b := 21) q (by decide)))
        rw [hei3] at hP hD
        have hP9 := hP.sub (ws' := [(h1, .inl (cy 1, n1, .inl f)), (h2, .inl (cy 1, n2, .inl (va_cpy f g na nb 21)))]) [0, 1] rfl
        have hD9 := hD.sub (ws' := [(h1, .inl (cy 1, n1, .inl f)), (h2, .inl (cy 1, n2, .inl (va_cpy f g na nb 21)))]) [0, 1] (by decide) rfl
        subst hQ
        exact W.vret hx hb hr (fun t ht hW => qv_mk (by rw [ht]; exact ⟨hP9, hD9⟩) (hS.F ht)) hS.2.2 dX12_copies_28
      · have hlt3 : i < 21 := Nat.lt_of_not_le fun q => c_2 (by rw [ex3]; exact nI_le (a := 21) q (by omega))
        refine lv_aload_n hx hb dX12_copies_10 rfl (lv_at hl 3 rfl) ?_
        refine lv_iload_n hx hb dX12_copies_11 rfl (lv_at hl 4 rfl) ?_
        refine lv_iload hx hb dX12_copies_12 (lv_at hl 0 rfl) ?_
        refine m_iadd (v := ((nI nb) + x4)) hx hb dX12_copies_14 rfl ?_
        refine lv_aload_n hx hb dX12_copies_15 rfl (lv_at hl 1 rfl) ?_
        refine lv_iload_n hx hb dX12_copies_16 rfl (lv_at hl 2 rfl) ?_
        refine lv_iload hx hb dX12_copies_17 (lv_at hl 0 rfl) ?_
        refine m_iadd (v := ((nI na) + x4)) hx hb dX12_copies_19 rfl ?_
        refine m_iald (v := f (na + i)) hx hb hG hP 0 rfl (by rw [ex3, nI_add]; exact vp_in_nI (by omega) hb1) dX12_copies_20 (by rw [ex3, nI_add, nI_clamp (by omega)]) ?_
        refine m_iast (g := va_cpy f g na nb (i + 1)) hx hb hG hP hD hS 1 rfl (by rw [ex3, nI_add]; exact vp_in_nI (by omega) hb2) dX12_copies_21 (by rw [ex3, nI_add, nI_clamp (by omega)]; exact cpy_s f g na nb i) (fun H locs hP hD hS => ?_)
        have hP : va_P D vwCl [(h1, .inl (cy 1, n1, .inl f)), (h2, .inl (cy 1, n2, .inl (va_cpy f g na nb (i + 1))))] H := hP
        have hD : va_D A [(h1, .inl (cy 1, n1, .inl f)), (h2, .inl (cy 1, n2, .inl (va_cpy f g na nb (i + 1))))] := hD
        obtain ⟨x4_3, ex4_3⟩ : ∃ y : Int32, y = x4 + 1 := ⟨_, rfl⟩
        refine lv_iinc (v := x4_3) (lv' := [(4, .int x4_3), (0, .ref h1), (1, .int (nI na)), (2, .ref h2), (3, .int (nI nb))]) hx hb dX12_copies_22 hl (k := 0) rfl (by rw [ex4_3]; rfl) (by decide) rfl (fun ls hl => ?_)
        refine lv_goto (tgt := 3) hx hb dX12_copies_25 (by decide) ?_
        exact ih (i + 1) x4_3 (by omega) hlt3 (by rw [ex4_3, ex3]; exact nI_1 i) _ _ (hP.sub [0, 1] rfl) (hD.sub [0, 1] (by decide) rfl) hS ls (lv_sub hl [0, 1, 2, 3, 4] rfl)
  exact LP_1 _ 0 0 (Nat.lt_succ_self _) (Nat.zero_le _) rfl _ _ (hP.sub [0, 1] rfl) (hD.sub [0, 1] (by decide) rfl) hS ls (lv_sub hl [0, 1, 2, 3, 4] rfl)
set_option maxHeartbeats 4000000 in
set_option maxRecDepth 100000 in
theorem c_X12_moves (l : Launch) (D : va_G) (cy : Nat → ClassId) (h0 : Nat) (n0 : Nat) (f : Nat → Int32) (n : Nat) (sz : Nat) (ha1 : n + n ≤ n0) (hb1 : n0 < 2 ^ 31) : Met l yX12_moves (Cond.code yX12_moves cX12_moves 3 none :: bigG) ({ frames := 0, cells := 0, slots := 0, locals := 0 }) (pre D cy [.ref h0, .int (nI n)] sz [(h0, .inl (cy 1, n0, .inl f))]) (qv (fun h => va_P D vwCl [(h0, .inl (cy 1, n0, .inl (va_cpy f f n 0 n)))] h ∧ va_D (va_A [(h0, .inl (cy 1, n0, .inl f))] sz) [(h0, .inl (cy 1, n0, .inl (va_cpy f f n 0 n)))]) (va_A [(h0, .inl (cy 1, n0, .inl f))] sz)) 0 0 (va_A [(h0, .inl (cy 1, n0, .inl f))] sz) := by
  refine Met.ofW (cc := cX12_moves) (maxL := 3) (ret := none) (by decide) rfl ?_
  intro p e s m args below meth c s₁ B hml hv
  obtain ⟨rfl, hsz, hP, hG, hD0⟩ := hv
  have hx := B.exec
  have hb := B.bytes
  have hr := B.returns
  have hts := atoms_spec (ws := (Cond.code yX12_moves cX12_moves 3 none :: bigG)) B.pre
  have hg : ∀ w ∈ bigG, w.before ([.ref h0, .int (nI n)] : List Value).toArray s = true := fun w h => hts w (List.mem_cons_of_mem _ h)
  have hown : s.vm.findClass RX12 = some m.cls := findClass_of_methodNamed B.named
  have hlocks := B.notSynchronized
  subst hsz
  have hD := hD0.self (sz := s.heap.size)
  generalize hAe : va_A [(h0, .inl (cy 1, n0, .inl f))] s.heap.size = A at hD ⊢
  have hA : ∀ q : Nat, s.heap.size ≤ q → A q := fun q h => by rw [← hAe]; exact Or.inr h
  have hS : va_S A s.heap s.heap [] := va_S.rf
  have hP : va_P D vwCl [(h0, .inl (cy 1, n0, .inl f))] s.heap := hP
  have hl := lv_entry ([.ref h0, .int (nI n)]) (n := 3) (Nat.le_of_ble_eq_true rfl)
  rw [lg_entry_eq]
  generalize (lg_sl ([.ref h0, .int (nI n)]) ++ List.replicate (3 - (lg_sl ([.ref h0, .int (nI n)])).length) Slot.unset).toArray = ls at hl ⊢
  have hl : lv_has ls 3 [(0, .ref h0), (1, .int (nI n))] := hl
  refine w_nm (fun Q hQ => ?_)
  refine lv_iconst (v := 0) hx hb dX12_moves_0 (by decide) ?_
  refine lv_istore_n (lv' := [(2, .int 0), (0, .ref h0), (1, .int (nI n))]) hx hb dX12_moves_1 rfl hl (by decide) rfl (fun ls hl => ?_)
  have hP : va_P D vwCl [(h0, .inl (cy 1, n0, .inl (va_cpy f f n 0 0)))] s.heap := by simp only [cpy_0, cpyL_0, fl_0]; exact hP
  have hD : va_D A [(h0, .inl (cy 1, n0, .inl (va_cpy f f n 0 0)))] := by simp only [cpy_0, cpyL_0, fl_0]; exact hD
  have LP_1 : ∀ (n_ : Nat) (i : Nat) (x2 : Int32), n - i < n_ → i ≤ n → x2 = nI i → ∀ (H : Heap) (locs : List Loc), va_P D vwCl [(h0, .inl (cy 1, n0, .inl (va_cpy f f n 0 i)))] H → va_D A [(h0, .inl (cy 1, n0, .inl (va_cpy f f n 0 i)))] → va_S A s.heap H locs → ∀ (ls : Array Slot), lv_has ls 3 [(2, .int x2), (0, .ref h0), (1, .int (nI n))] → W p l e (headSpec (Cond.code yX12_moves cX12_moves 3 none :: bigG) { frames := 0, cells := 0, slots := 0, locals := 0 }).room s m ([.ref h0, .int (nI n)] : List Value).toArray below meth c H locs 0 0 Q (F0 m 2 ls []) := by
    intro n_
    induction n_ with
    | zero => intro i x2 hm_; exact absurd hm_ (Nat.not_lt_zero _)
    | succ n_ ih =>
      intro i x2 hm_ hi2 ex2 H locs hP hD hS ls hl
      refine lv_iload_n hx hb dX12_moves_2 rfl (lv_at hl 0 rfl) ?_
      refine lv_iload_n hx hb dX12_moves_3 rfl (lv_at hl 2 rfl) ?_
      refine lv_icmp_ge (tgt := 21) hx hb dX12_moves_4 (by decide) (fun c_2 => ?_) (fun c_2 => ?_)
      · have hei2 : i = n := Nat.le_antisymm hi2 (Nat.le_of_not_lt fun q => absurd c_2 (by rw [ex2]; exact nI_ge (b := n) q (by omega)))
        rw [hei2] at hP hD
        have hP9 := hP.sub (ws' := [(h0, .inl (cy 1, n0, .inl (va_cpy f f n 0 n)))]) [0] rfl
        have hD9 := hD.sub (ws' := [(h0, .inl (cy 1, n0, .inl (va_cpy f f n 0 n)))]) [0] (by decide) rfl
        subst hQ
        exact W.vret hx hb hr (fun t ht hW => qv_mk (by rw [ht]; exact ⟨hP9, hD9⟩) (hS.F ht)) hS.2.2 dX12_moves_21
      · have hlt2 : i < n := Nat.lt_of_not_le fun q => c_2 (by rw [ex2]; exact nI_le (a := n) q (by omega))
        refine lv_aload_n hx hb dX12_moves_7 rfl (lv_at hl 1 rfl) ?_
        refine lv_iload_n hx hb dX12_moves_8 rfl (lv_at hl 0 rfl) ?_
        refine lv_aload_n hx hb dX12_moves_9 rfl (lv_at hl 1 rfl) ?_
        refine lv_iload_n hx hb dX12_moves_10 rfl (lv_at hl 2 rfl) ?_
        refine lv_iload_n hx hb dX12_moves_11 rfl (lv_at hl 0 rfl) ?_
        refine m_iadd (v := ((nI n) + x2)) hx hb dX12_moves_12 rfl ?_
        refine m_iald (v := f (n + i)) hx hb hG hP 0 rfl (by rw [ex2, nI_add]; exact vp_in_nI (by omega) hb1) dX12_moves_13 (by rw [ex2, nI_add, nI_clamp (by omega)]; exact cpy_mv f n i hlt2) ?_
        refine m_iast (g := va_cpy f f n 0 (i + 1)) hx hb hG hP hD hS 0 rfl (by rw [ex2]; exact vp_in_nI (by omega) hb1) dX12_moves_14 (by rw [ex2, nI_clamp (by omega)]; have q := cpy_s f f n 0 i; rw [Nat.zero_add] at q; exact q) (fun H locs hP hD hS => ?_)
        have hP : va_P D vwCl [(h0, .inl (cy 1, n0, .inl (va_cpy f f n 0 (i + 1))))] H := hP
        have hD : va_D A [(h0, .inl (cy 1, n0, .inl (va_cpy f f n 0 (i + 1))))] := hD
        obtain ⟨x2_3, ex2_3⟩ : ∃ y : Int32, y = x2 + 1 := ⟨_, rfl⟩
        refine lv_iinc (v := x2_3) (lv' := [(2, .int x2_3), (0, .ref h0), (1, .int (nI n))]) hx hb dX12_moves_15 hl (k := 0) rfl (by rw [ex2_3]; rfl) (by decide) rfl (fun ls hl => ?_)
        refine lv_goto (tgt := 2) hx hb dX12_moves_18 (by decide) ?_
        exact ih (i + 1) x2_3 (by omega) hlt2 (by rw [ex2_3, ex2]; exact nI_1 i) _ _ (hP.sub [0] rfl) (hD.sub [0] (by decide) rfl) hS ls (lv_sub hl [0, 1, 2] rfl)
  exact LP_1 _ 0 0 (Nat.lt_succ_self _) (Nat.zero_le _) rfl _ _ (hP.sub [0] rfl) (hD.sub [0] (by decide) rfl) hS ls (lv_sub hl [0, 1, 2] rfl)
set_option maxHeartbeats 4000000 in
set_option maxRecDepth 100000 in
theorem c_X12_movesNames (l : Launch) (D : va_G) (cy : Nat → ClassId) (h0 : Nat) (n0 : Nat) (f : Nat → Int64) (n : Nat) (sz : Nat) (ha1 : n + n ≤ n0) (hb1 : n0 < 2 ^ 31) : Met l yX12_movesNames (Cond.code yX12_movesNames cX12_movesNames 3 none :: bigG) ({ frames := 0, cells := 0, slots := 0, locals := 0 }) (pre D cy [.ref h0, .int (nI n)] sz [(h0, .inl (cy 2, n0, .inr (.inl f)))]) (qv (fun h => va_P D vwCl [(h0, .inl (cy 2, n0, .inr (.inl (va_cpy f f n 0 n))))] h ∧ va_D (va_A [(h0, .inl (cy 2, n0, .inr (.inl f)))] sz) [(h0, .inl (cy 2, n0, .inr (.inl (va_cpy f f n 0 n))))]) (va_A [(h0, .inl (cy 2, n0, .inr (.inl f)))] sz)) 0 0 (va_A [(h0, .inl (cy 2, n0, .inr (.inl f)))] sz) := by
  refine Met.ofW (cc := cX12_movesNames) (maxL := 3) (ret := none) (by decide) rfl ?_
  intro p e s m args below meth c s₁ B hml hv
  obtain ⟨rfl, hsz, hP, hG, hD0⟩ := hv
  have hx := B.exec
  have hb := B.bytes
  have hr := B.returns
  have hts := atoms_spec (ws := (Cond.code yX12_movesNames cX12_movesNames 3 none :: bigG)) B.pre
  have hg : ∀ w ∈ bigG, w.before ([.ref h0, .int (nI n)] : List Value).toArray s = true := fun w h => hts w (List.mem_cons_of_mem _ h)
  have hown : s.vm.findClass RX12 = some m.cls := findClass_of_methodNamed B.named
  have hlocks := B.notSynchronized
  subst hsz
  have hD := hD0.self (sz := s.heap.size)
  generalize hAe : va_A [(h0, .inl (cy 2, n0, .inr (.inl f)))] s.heap.size = A at hD ⊢
  have hA : ∀ q : Nat, s.heap.size ≤ q → A q := fun q h => by rw [← hAe]; exact Or.inr h
  have hS : va_S A s.heap s.heap [] := va_S.rf
  have hP : va_P D vwCl [(h0, .inl (cy 2, n0, .inr (.inl f)))] s.heap := hP
  have hl := lv_entry ([.ref h0, .int (nI n)]) (n := 3) (Nat.le_of_ble_eq_true rfl)
  rw [lg_entry_eq]
  generalize (lg_sl ([.ref h0, .int (nI n)]) ++ List.replicate (3 - (lg_sl ([.ref h0, .int (nI n)])).length) Slot.unset).toArray = ls at hl ⊢
  have hl : lv_has ls 3 [(0, .ref h0), (1, .int (nI n))] := hl
  refine w_nm (fun Q hQ => ?_)
  refine lv_iconst (v := 0) hx hb dX12_movesNames_0 (by decide) ?_
  refine lv_istore_n (lv' := [(2, .int 0), (0, .ref h0), (1, .int (nI n))]) hx hb dX12_movesNames_1 rfl hl (by decide) rfl (fun ls hl => ?_)
  have hP : va_P D vwCl [(h0, .inl (cy 2, n0, .inr (.inl (va_cpy f f n 0 0))))] s.heap := by simp only [cpy_0, cpyL_0, fl_0]; exact hP
  have hD : va_D A [(h0, .inl (cy 2, n0, .inr (.inl (va_cpy f f n 0 0))))] := by simp only [cpy_0, cpyL_0, fl_0]; exact hD
  have LP_1 : ∀ (n_ : Nat) (i : Nat) (x2 : Int32), n - i < n_ → i ≤ n → x2 = nI i → ∀ (H : Heap) (locs : List Loc), va_P D vwCl [(h0, .inl (cy 2, n0, .inr (.inl (va_cpy f f n 0 i))))] H → va_D A [(h0, .inl (cy 2, n0, .inr (.inl (va_cpy f f n 0 i))))] → va_S A s.heap H locs → ∀ (ls : Array Slot), lv_has ls 3 [(2, .int x2), (0, .ref h0), (1, .int (nI n))] → W p l e (headSpec (Cond.code yX12_movesNames cX12_movesNames 3 none :: bigG) { frames := 0, cells := 0, slots := 0, locals := 0 }).room s m ([.ref h0, .int (nI n)] : List Value).toArray below meth c H locs 0 0 Q (F0 m 2 ls []) := by
    intro n_
    induction n_ with
    | zero => intro i x2 hm_; exact absurd hm_ (Nat.not_lt_zero _)
    | succ n_ ih =>
      intro i x2 hm_ hi2 ex2 H locs hP hD hS ls hl
      refine lv_iload_n hx hb dX12_movesNames_2 rfl (lv_at hl 0 rfl) ?_
      refine lv_iload_n hx hb dX12_movesNames_3 rfl (lv_at hl 2 rfl) ?_
      refine lv_icmp_ge (tgt := 21) hx hb dX12_movesNames_4 (by decide) (fun c_2 => ?_) (fun c_2 => ?_)
      · have hei2 : i = n := Nat.le_antisymm hi2 (Nat.le_of_not_lt fun q => absurd c_2 (by rw [ex2]; exact nI_ge (b := n) q (by omega)))
        rw [hei2] at hP hD
        have hP9 := hP.sub (ws' := [(h0, .inl (cy 2, n0, .inr (.inl (va_cpy f f n 0 n))))]) [0] rfl
        have hD9 := hD.sub (ws' := [(h0, .inl (cy 2, n0, .inr (.inl (va_cpy f f n 0 n))))]) [0] (by decide) rfl
        subst hQ
        exact W.vret hx hb hr (fun t ht hW => qv_mk (by rw [ht]; exact ⟨hP9, hD9⟩) (hS.F ht)) hS.2.2 dX12_movesNames_21
      · have hlt2 : i < n := Nat.lt_of_not_le fun q => c_2 (by rw [ex2]; exact nI_le (a := n) q (by omega))
        refine lv_aload_n hx hb dX12_movesNames_7 rfl (lv_at hl 1 rfl) ?_
        refine lv_iload_n hx hb dX12_movesNames_8 rfl (lv_at hl 0 rfl) ?_
        refine lv_aload_n hx hb dX12_movesNames_9 rfl (lv_at hl 1 rfl) ?_
        refine lv_iload_n hx hb dX12_movesNames_10 rfl (lv_at hl 2 rfl) ?_
        refine lv_iload_n hx hb dX12_movesNames_11 rfl (lv_at hl 0 rfl) ?_
        refine m_iadd (v := ((nI n) + x2)) hx hb dX12_movesNames_12 rfl ?_
        refine m_lald (v := f (n + i)) hx hb hG hP 0 rfl (by rw [ex2, nI_add]; exact vp_in_nI (by omega) hb1) dX12_movesNames_13 (by rw [ex2, nI_add, nI_clamp (by omega)]; exact cpyL_mv f n i hlt2) ?_
        refine m_last (g := va_cpy f f n 0 (i + 1)) hx hb hG hP hD hS 0 rfl (by rw [ex2]; exact vp_in_nI (by omega) hb1) dX12_movesNames_14 (by rw [ex2, nI_clamp (by omega)]; have q := cpyL_s f f n 0 i; rw [Nat.zero_add] at q; exact q) (fun H locs hP hD hS => ?_)
        have hP : va_P D vwCl [(h0, .inl (cy 2, n0, .inr (.inl (va_cpy f f n 0 (i + 1)))))] H := hP
        have hD : va_D A [(h0, .inl (cy 2, n0, .inr (.inl (va_cpy f f n 0 (i + 1)))))] := hD
        obtain ⟨x2_3, ex2_3⟩ : ∃ y : Int32, y = x2 + 1 := ⟨_, rfl⟩
        refine lv_iinc (v := x2_3) (lv' := [(2, .int x2_3), (0, .ref h0), (1, .int (nI n))]) hx hb dX12_movesNames_15 hl (k := 0) rfl (by rw [ex2_3]; rfl) (by decide) rfl (fun ls hl => ?_)
        refine lv_goto (tgt := 2) hx hb dX12_movesNames_18 (by decide) ?_
        exact ih (i + 1) x2_3 (by omega) hlt2 (by rw [ex2_3, ex2]; exact nI_1 i) _ _ (hP.sub [0] rfl) (hD.sub [0] (by decide) rfl) hS ls (lv_sub hl [0, 1, 2] rfl)
  exact LP_1 _ 0 0 (Nat.lt_succ_self _) (Nat.zero_le _) rfl _ _ (hP.sub [0] rfl) (hD.sub [0] (by decide) rfl) hS ls (lv_sub hl [0, 1, 2] rfl)
