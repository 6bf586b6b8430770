def gg (o t b l : Int32) : Int32 := 3 * o - l * (if 0 < o + t - b then o + t - b else 0)
def bs (g t b l : Int32) : Int32 := if gg 1 t b l ≤ g then (if gg 2 t b l ≤ g then (if gg 3 t b l ≤ g then (if gg 4 t b l ≤ g then (if gg 5 t b l ≤ g then 1 else 0) else 0) else 0) else 0) else 0
def bst (o t b l : Int32) : Int32 := bs (gg o t b l) t b l
theorem bs_01 (g t b l : Int32) : bs g t b l = 0 ∨ bs g t b l = 1 := by
  by_cases h1 : gg 1 t b l ≤ g <;> by_cases h2 : gg 2 t b l ≤ g <;> by_cases h3 : gg 3 t b l ≤ g <;> by_cases h4 : gg 4 t b l ≤ g <;> by_cases h5 : gg 5 t b l ≤ g <;> simp [bs, h1, h2, h3, h4, h5]
theorem bs_iff (g t b l : Int32) : bs g t b l = 1 ↔ gg 1 t b l ≤ g ∧ gg 2 t b l ≤ g ∧ gg 3 t b l ≤ g ∧ gg 4 t b l ≤ g ∧ gg 5 t b l ≤ g := by
  by_cases h1 : gg 1 t b l ≤ g <;> by_cases h2 : gg 2 t b l ≤ g <;> by_cases h3 : gg 3 t b l ≤ g <;> by_cases h4 : gg 4 t b l ≤ g <;> by_cases h5 : gg 5 t b l ≤ g <;> simp [bs, h1, h2, h3, h4, h5]
theorem bst_n0 {o t b l : Int32} (h : ¬ bst o t b l = 0) : bst o t b l = 1 := (bs_01 _ _ _ _).resolve_left h
def okb (a c B L : Int32) : Bool := decide (bst a c B L = 1) && decide (bst c a B L = 1)
theorem okb_yes {a c B L : Int32} (h1 : ¬ bst a c B L = 0) (h2 : ¬ bst c a B L = 0) : okb a c B L = true := by
  simp [okb, bst_n0 h1, bst_n0 h2]
theorem okb_no1 {a c B L : Int32} (h1 : bst a c B L = 0) : ¬ okb a c B L = true := by
  simp [okb, h1]
theorem okb_no2 {a c B L : Int32} (h2 : bst c a B L = 0) : ¬ okb a c B L = true := by
  simp [okb, h2]
def rst (a c B L : Int32) : Int32 := if okb a c B L = true then 1 else 0
theorem rst_yes {a c B L : Int32} (h : ¬ rst a c B L = 0) : okb a c B L = true := by
  by_cases q : okb a c B L = true
  · exact q
  · exact absurd (if_neg q) h
theorem rst_no {a c B L : Int32} (h : rst a c B L = 0) : ¬ okb a c B L = true := fun q => absurd ((if_pos q).symm.trans h) (by decide)
theorem nlt_le' {a b : Int32} (h : ¬ a < b) : b ≤ a := nlt_le h
theorem rst_1 {a c B L : Int32} (h : bst a c B L = 1) (h2 : bst c a B L = 1) : rst a c B L = 1 := if_pos (by simp [okb, h, h2])
theorem rst_0a {a c B L : Int32} (h : ¬ bst a c B L = 1) : rst a c B L = 0 := if_neg (by simp [okb, h])
theorem rst_0b {a c B L : Int32} (h : ¬ bst c a B L = 1) : rst a c B L = 0 := if_neg (by simp [okb, h])
def inn (B L : Int32) (acc : List Int32) (a : Nat) : Nat → List Int32
  | 0 => acc
  | k + 1 => if okb (nI a) (nI (k + 1)) B L = true then inn B L acc a k ++ [nI (10 * a + (k + 1))] else inn B L acc a k
def outr (B L : Int32) : Nat → List Int32
  | 0 => []
  | n + 1 => inn B L (outr B L n) (n + 1) 5
def rl (B L : Int32) (n k : Nat) : List Int32 := inn B L (outr B L n) (n + 1) k
theorem rl_yes {B L : Int32} {n k : Nat} (h : okb (nI (n + 1)) (nI (k + 1)) B L = true) : rl B L n (k + 1) = rl B L n k ++ [nI (10 * (n + 1) + (k + 1))] := if_pos h
theorem rl_no {B L : Int32} {n k : Nat} (h : ¬ okb (nI (n + 1)) (nI (k + 1)) B L = true) : rl B L n (k + 1) = rl B L n k := if_neg h
theorem inn_len (B L : Int32) (acc : List Int32) (a : Nat) : ∀ k, (inn B L acc a k).length ≤ acc.length + k
  | 0 => Nat.le_refl _
  | k + 1 => by
    have ih := inn_len B L acc a k
    by_cases h : okb (nI a) (nI (k + 1)) B L = true
    · rw [show inn B L acc a (k + 1) = inn B L acc a k ++ [nI (10 * a + (k + 1))] from if_pos h, List.length_append]
      simp only [List.length_cons, List.length_nil]
      omega
    · rw [show inn B L acc a (k + 1) = inn B L acc a k from if_neg h]
      omega
theorem outr_len (B L : Int32) : ∀ n, (outr B L n).length ≤ 5 * n
  | 0 => Nat.le_refl _
  | n + 1 => by
    have ih := outr_len B L n
    have h := inn_len B L (outr B L n) (n + 1) 5
    show (inn B L (outr B L n) (n + 1) 5).length ≤ _
    omega
theorem rl_len (B L : Int32) (n k : Nat) : (rl B L n k).length ≤ 5 * n + k := by
  have h1 := outr_len B L n
  have h2 := inn_len B L (outr B L n) (n + 1) k
  show (inn B L (outr B L n) (n + 1) k).length ≤ _
  omega
def hold (f : Nat → Int32) (l : List Int32) : Prop := ∀ t, t < l.length → f t = l.getD t 0
theorem hold_0 {f : Nat → Int32} : hold f [] := fun t h => absurd h (Nat.not_lt_zero _)
theorem hold_app {f : Nat → Int32} {l : List Int32} {v : Int32} (h : hold f l) : hold (upd f l.length v) (l ++ [v]) := by
  intro t ht
  rw [List.length_append] at ht
  simp only [List.length_cons, List.length_nil] at ht
  by_cases q : t = l.length
  · subst q
    simp [upd, List.getD]
  · have h2 : t < l.length := by omega
    have e := h t h2
    simp only [upd, q, if_false]
    rw [e]
    simp [List.getD, List.getElem?_append_left h2]
theorem inn_pre (B L : Int32) (acc : List Int32) (a : Nat) : ∀ k t, t < acc.length → (inn B L acc a k).getD t 0 = acc.getD t 0 ∧ t < (inn B L acc a k).length
  | 0, t, h => ⟨rfl, h⟩
  | k + 1, t, h => by
    obtain ⟨e, hl⟩ := inn_pre B L acc a k t h
    by_cases q : okb (nI a) (nI (k + 1)) B L = true
    · rw [show inn B L acc a (k + 1) = inn B L acc a k ++ [nI (10 * a + (k + 1))] from if_pos q]
      refine ⟨?_, by rw [List.length_append]; omega⟩
      rw [← e]
      simp [List.getD, List.getElem?_append_left hl]
    · rw [show inn B L acc a (k + 1) = inn B L acc a k from if_neg q]
      exact ⟨e, hl⟩
theorem inn_mono (B L : Int32) (acc : List Int32) (a k : Nat) : ∀ m t, t < (inn B L acc a k).length → (inn B L acc a (k + m)).getD t 0 = (inn B L acc a k).getD t 0 ∧ t < (inn B L acc a (k + m)).length
  | 0, t, h => ⟨rfl, h⟩
  | m + 1, t, h => by
    obtain ⟨e, hl⟩ := inn_mono B L acc a k m t h
    by_cases q : okb (nI a) (nI (k + m + 1)) B L = true
    · rw [show inn B L acc a (k + (m + 1)) = inn B L acc a (k + m) ++ [nI (10 * a + (k + m + 1))] from if_pos q]
      refine ⟨?_, by rw [List.length_append]; omega⟩
      rw [← e]
      simp [List.getD, List.getElem?_append_left hl]
    · rw [show inn B L acc a (k + (m + 1)) = inn B L acc a (k + m) from if_neg q]
      exact ⟨e, hl⟩
theorem outr_mono (B L : Int32) (n : Nat) : ∀ m t, t < (outr B L n).length → (outr B L (n + m)).getD t 0 = (outr B L n).getD t 0 ∧ t < (outr B L (n + m)).length
  | 0, t, h => ⟨rfl, h⟩
  | m + 1, t, h => by
    obtain ⟨e, hl⟩ := outr_mono B L n m t h
    obtain ⟨e2, h2⟩ := inn_pre B L (outr B L (n + m)) (n + m + 1) 5 t hl
    exact ⟨e2.trans e, h2⟩
theorem rl_pre {B L : Int32} {n k t : Nat} (hn : n < 5) (hk : k ≤ 5) (h : t < (rl B L n k).length) : (outr B L 5).getD t 0 = (rl B L n k).getD t 0 ∧ t < (outr B L 5).length := by
  obtain ⟨e, hl⟩ := inn_mono B L (outr B L n) (n + 1) k (5 - k) t h
  rw [show k + (5 - k) = 5 by omega] at e hl
  obtain ⟨e2, h2⟩ := outr_mono B L (n + 1) (4 - n) t hl
  rw [show n + 1 + (4 - n) = 5 by omega] at e2 h2
  exact ⟨e2.trans e, h2⟩
theorem nI_code (n k : Nat) : (10 : Int32) * nI (n + 1) + nI (k + 1) = nI (10 * (n + 1) + (k + 1)) := by
  rw [show (10 : Int32) = nI 10 from rfl, pk_mul, nI_add]
theorem getD_last (l : List Int32) (v : Int32) : (l ++ [v]).getD l.length 0 = v := by simp [List.getD]
set_option maxHeartbeats 4000000 in
set_option maxRecDepth 100000 in
theorem c_X11_greedGain (l : Launch) (D : va_G) (cy : Nat → ClassId) (a0 : Int32) (a1 : Int32) (a2 : Int32) (a3 : Int32) (sz : Nat) : Met l yX11_greedGain (Cond.code yX11_greedGain cX11_greedGain 4 (some .int) :: bigG) ({ frames := 1, cells := 0, slots := 0, locals := 21 }) (pre D cy [.int a0, .int a1, .int a2, .int a3] sz []) (qi (fun r h => r = gg a0 a1 a2 a3 ∧ va_P D vwCl [] h ∧ va_D (va_A [] sz) []) (va_A [] sz)) 0 0 (va_A [] sz) := by
  refine Met.ofW (cc := cX11_greedGain) (maxL := 4) (ret := (some .int)) (by decide) rfl ?_
  intro p e s m args below meth c s₁ B hml hv
  obtain ⟨rfl, hsz, hP, hG, hD0⟩ := hv
  have hx := B.exec
  have hb := B.bytes
  have hr := B.returns
  have hts := atoms_spec (ws := (Cond.code yX11_greedGain cX11_greedGain 4 (some .int) :: bigG)) B.pre
  have hg : ∀ w ∈ bigG, w.before ([.int a0, .int a1, .int a2, .int a3] : List Value).toArray s = true := fun w h => hts w (List.mem_cons_of_mem _ h)
  have hown : s.vm.findClass RX11 = some m.cls := findClass_of_methodNamed B.named
  have hlocks := B.notSynchronized
  subst hsz
  have hD := hD0.self (sz := s.heap.size)
  generalize hAe : va_A [] s.heap.size = A at hD ⊢
  have hA : ∀ q : Nat, s.heap.size ≤ q → A q := fun q h => by rw [← hAe]; exact Or.inr h
  have hS : va_S A s.heap s.heap [] := va_S.rf
  have hP : va_P D vwCl [] s.heap := hP
  have hl := lv_entry ([.int a0, .int a1, .int a2, .int a3]) (n := 4) (Nat.le_of_ble_eq_true rfl)
  rw [lg_entry_eq]
  generalize (lg_sl ([.int a0, .int a1, .int a2, .int a3]) ++ List.replicate (4 - (lg_sl ([.int a0, .int a1, .int a2, .int a3])).length) Slot.unset).toArray = ls at hl ⊢
  have hl : lv_has ls 4 [(0, .int a0), (1, .int a1), (2, .int a2), (3, .int a3)] := hl
  refine w_nm (fun Q hQ => ?_)
  refine lv_iconst (v := 3) hx hb dX11_greedGain_0 (by decide) ?_
  refine lv_iload_n hx hb dX11_greedGain_1 rfl (lv_at hl 0 rfl) ?_
  refine m_imul (v := (3 * a0)) hx hb dX11_greedGain_2 rfl ?_
  refine lv_iload_n hx hb dX11_greedGain_3 rfl (lv_at hl 3 rfl) ?_
  refine lv_iconst (v := 0) hx hb dX11_greedGain_4 (by decide) ?_
  refine lv_iload_n hx hb dX11_greedGain_5 rfl (lv_at hl 0 rfl) ?_
  refine lv_iload_n hx hb dX11_greedGain_6 rfl (lv_at hl 1 rfl) ?_
  refine m_iadd (v := (a0 + a1)) hx hb dX11_greedGain_7 rfl ?_
  refine lv_iload_n hx hb dX11_greedGain_8 rfl (lv_at hl 2 rfl) ?_
  refine m_isub (v := ((a0 + a1) - a2)) hx hb dX11_greedGain_9 rfl ?_
  refine va_mmax hx hb (hml.trans hl.1.symm) hown (hg _ k_1303) (hg _ k_561) (hg _ k_17) (hg _ k_562) (Nat.le_of_ble_eq_true rfl) (Nat.le_of_ble_eq_true rfl) (Nat.le_of_ble_eq_true rfl) (Nat.le_of_ble_eq_true rfl) dX11_greedGain_10 ?_
  refine lv_topi (fun mm_1 emm_1 => ?_)
  refine m_imul (v := (a3 * mm_1)) hx hb dX11_greedGain_13 rfl ?_
  refine m_isub (v := ((3 * a0) - (a3 * mm_1))) hx hb dX11_greedGain_14 rfl ?_
  have hP9 := hP.sub (ws' := []) [] rfl
  have hD9 := hD.sub (ws' := []) [] (by decide) rfl
  subst hQ
  exact W.iret (v := ((3 * a0) - (a3 * mm_1))) hx hb hr (fun t ht hW => qi_mk (by rw [ht]; exact ⟨(by rw [emm_1]; rfl), hP9, hD9⟩) (hS.F ht)) hS.2.2 dX11_greedGain_15
set_option maxHeartbeats 4000000 in
set_option maxRecDepth 100000 in
theorem c_X12_gets (l : Launch) (D : va_G) (cy : Nat → ClassId) (a0 : Int32) (a1 : Int32) (a2 : Int32) (a3 : Int32) (sz : Nat) : Met l yX12_gets (Cond.code yX12_gets cX12_gets 4 (some .int) :: bigG) ({ frames := 1, cells := 0, slots := 0, locals := 21 }) (pre D cy [.int a0, .int a1, .int a2, .int a3] sz []) (qi (fun r h => r = gg a2 a3 a0 a1 ∧ va_P D vwCl [] h ∧ va_D (va_A [] sz) []) (va_A [] sz)) 0 0 (va_A [] sz) := by
  refine Met.ofW (cc := cX12_gets) (maxL := 4) (ret := (some .int)) (by decide) rfl ?_
  intro p e s m args below meth c s₁ B hml hv
  obtain ⟨rfl, hsz, hP, hG, hD0⟩ := hv
  have hx := B.exec
  have hb := B.bytes
  have hr := B.returns
  have hts := atoms_spec (ws := (Cond.code yX12_gets cX12_gets 4 (some .int) :: bigG)) B.pre
  have hg : ∀ w ∈ bigG, w.before ([.int a0, .int a1, .int a2, .int a3] : List Value).toArray s = true := fun w h => hts w (List.mem_cons_of_mem _ h)
  have hown : s.vm.findClass RX12 = some m.cls := findClass_of_methodNamed B.named
  have hlocks := B.notSynchronized
  subst hsz
  have hD := hD0.self (sz := s.heap.size)
  generalize hAe : va_A [] s.heap.size = A at hD ⊢
  have hA : ∀ q : Nat, s.heap.size ≤ q → A q := fun q h => by rw [← hAe]; exact Or.inr h
  have hS : va_S A s.heap s.heap [] := va_S.rf
  have hP : va_P D vwCl [] s.heap := hP
  have hl := lv_entry ([.int a0, .int a1, .int a2, .int a3]) (n := 4) (Nat.le_of_ble_eq_true rfl)
  rw [lg_entry_eq]
  generalize (lg_sl ([.int a0, .int a1, .int a2, .int a3]) ++ List.replicate (4 - (lg_sl ([.int a0, .int a1, .int a2, .int a3])).length) Slot.unset).toArray = ls at hl ⊢
  have hl : lv_has ls 4 [(0, .int a0), (1, .int a1), (2, .int a2), (3, .int a3)] := hl
  refine w_nm (fun Q hQ => ?_)
  refine lv_iconst (v := 3) hx hb dX12_gets_0 (by decide) ?_
  refine lv_iload_n hx hb dX12_gets_1 rfl (lv_at hl 2 rfl) ?_
  refine m_imul (v := (3 * a2)) hx hb dX12_gets_2 rfl ?_
  refine lv_iload_n hx hb dX12_gets_3 rfl (lv_at hl 1 rfl) ?_
  refine lv_iconst (v := 0) hx hb dX12_gets_4 (by decide) ?_
  refine lv_iload_n hx hb dX12_gets_5 rfl (lv_at hl 2 rfl) ?_
  refine lv_iload_n hx hb dX12_gets_6 rfl (lv_at hl 3 rfl) ?_
  refine m_iadd (v := (a2 + a3)) hx hb dX12_gets_7 rfl ?_
  refine lv_iload_n hx hb dX12_gets_8 rfl (lv_at hl 0 rfl) ?_
  refine m_isub (v := ((a2 + a3) - a0)) hx hb dX12_gets_9 rfl ?_
  refine va_mmax hx hb (hml.trans hl.1.symm) hown (hg _ k_1771) (hg _ k_561) (hg _ k_17) (hg _ k_562) (Nat.le_of_ble_eq_true rfl) (Nat.le_of_ble_eq_true rfl) (Nat.le_of_ble_eq_true rfl) (Nat.le_of_ble_eq_true rfl) dX12_gets_10 ?_
  refine lv_topi (fun mm_1 emm_1 => ?_)
  refine m_imul (v := (a1 * mm_1)) hx hb dX12_gets_13 rfl ?_
  refine m_isub (v := ((3 * a2) - (a1 * mm_1))) hx hb dX12_gets_14 rfl ?_
  have hP9 := hP.sub (ws' := []) [] rfl
  have hD9 := hD.sub (ws' := []) [] (by decide) rfl
  subst hQ
  exact W.iret (v := ((3 * a2) - (a1 * mm_1))) hx hb hr (fun t ht hW => qi_mk (by rw [ht]; exact ⟨(by rw [emm_1]; rfl), hP9, hD9⟩) (hS.F ht)) hS.2.2 dX12_gets_15
set_option maxHeartbeats 4000000 in
set_option maxRecDepth 100000 in
theorem c_X11_isBestFor (l : Launch) (D : va_G) (cy : Nat → ClassId) (a0 : Int32) (a1 : Int32) (a2 : Int32) (a3 : Int32) (sz : Nat) : Met l yX11_isBestFor (Cond.code yX11_isBestFor cX11_isBestFor 6 (some .boolean) :: bigG) ({ frames := 2, cells := 0, slots := 0, locals := 44 }) (pre D cy [.int a0, .int a1, .int a2, .int a3] sz []) (qi (fun r h => r = bst a0 a1 a2 a3 ∧ va_P D vwCl [] h ∧ va_D (va_A [] sz) []) (va_A [] sz)) 0 0 (va_A [] sz) := by
  refine Met.ofW (cc := cX11_isBestFor) (maxL := 6) (ret := (some .boolean)) (by decide) rfl ?_
  intro p e s m args below meth c s₁ B hml hv
  obtain ⟨rfl, hsz, hP, hG, hD0⟩ := hv
  have hx := B.exec
  have hb := B.bytes
  have hr := B.returns
  have hts := atoms_spec (ws := (Cond.code yX11_isBestFor cX11_isBestFor 6 (some .boolean) :: bigG)) B.pre
  have hg : ∀ w ∈ bigG, w.before ([.int a0, .int a1, .int a2, .int a3] : List Value).toArray s = true := fun w h => hts w (List.mem_cons_of_mem _ h)
  have hown : s.vm.findClass RX11 = some m.cls := findClass_of_methodNamed B.named
  have hlocks := B.notSynchronized
  subst hsz
  have hD := hD0.self (sz := s.heap.size)
  generalize hAe : va_A [] s.heap.size = A at hD ⊢
  have hA : ∀ q : Nat, s.heap.size ≤ q → A q := fun q h => by rw [← hAe]; exact Or.inr h
  have hS : va_S A s.heap s.heap [] := va_S.rf
  have hP : va_P D vwCl [] s.heap := hP
  have hl := lv_entry ([.int a0, .int a1, .int a2, .int a3]) (n := 6) (Nat.le_of_ble_eq_true rfl)
  rw [lg_entry_eq]
  generalize (lg_sl ([.int a0, .int a1, .int a2, .int a3]) ++ List.replicate (6 - (lg_sl ([.int a0, .int a1, .int a2, .int a3])).length) Slot.unset).toArray = ls at hl ⊢
  have hl : lv_has ls 6 [(0, .int a0), (1, .int a1), (2, .int a2), (3, .int a3)] := hl
  refine w_nm (fun Q hQ => ?_)
  refine lv_iload_n hx hb dX11_isBestFor_0 rfl (lv_at hl 0 rfl) ?_
  refine lv_iload_n hx hb dX11_isBestFor_1 rfl (lv_at hl 1 rfl) ?_
  refine lv_iload_n hx hb dX11_isBestFor_2 rfl (lv_at hl 2 rfl) ?_
  refine lv_iload_n hx hb dX11_isBestFor_3 rfl (lv_at hl 3 rfl) ?_
  refine x_i (wr := []) hP hD hS hA [] [] rfl rfl (by decide) (by decide) (va_runS (As := [.int a0, .int a1, .int a2, .int a3]) (rest := []) ⟨hx, hb, hml, hown, hts⟩ (c_X11_greedGain l D cy a0 a1 a2 a3 s.heap.size) (va_cwS 4 hts (gS km_X11_350 kt_X11_greedGain kn_X11 kc_X11_greedGain) rfl rfl rfl (by decide +kernel) ⟨(Nat.le_of_ble_eq_true rfl), (Nat.le_of_ble_eq_true rfl)⟩) (preS hG hP hD [] rfl (by decide)) rfl rfl hl.1 rfl (lv_room (Nat.le_of_ble_eq_true rfl)) dX11_isBestFor_4 ⟨(Nat.le_of_ble_eq_true rfl), (Nat.le_of_ble_eq_true rfl)⟩) (fun r_1 H locs hB hj hS => ?_)
  obtain ⟨hres, hP1, hD1⟩ := hB
  subst hres
  obtain ⟨hP, hD⟩ := hj _ hP1 hD1
  have hP : va_P D vwCl [] H := hP
  have hD : va_D A [] := hD
  refine lv_topi (fun x4_2 ex4_2 => ?_)
  refine lv_istore (lv' := [(4, .int x4_2), (0, .int a0), (1, .int a1), (2, .int a2), (3, .int a3)]) hx hb dX11_isBestFor_7 hl (by decide) rfl (fun ls hl => ?_)
  refine lv_iconst (v := 1) hx hb dX11_isBestFor_9 (by decide) ?_
  refine lv_istore (lv' := [(5, .int 1), (4, .int x4_2), (0, .int a0), (1, .int a1), (2, .int a2), (3, .int a3)]) hx hb dX11_isBestFor_10 hl (by decide) rfl (fun ls hl => ?_)
  refine lv_iload hx hb dX11_isBestFor_12 (lv_at hl 0 rfl) ?_
  refine lv_iconst (v := 5) hx hb dX11_isBestFor_14 (by decide) ?_
  refine lv_icmp_gt (tgt := 39) hx hb dX11_isBestFor_15 (by decide) (fun c_ => absurd c_ (by decide)) (fun _ => ?_)
  refine lv_iload hx hb dX11_isBestFor_18 (lv_at hl 0 rfl) ?_
  refine lv_iload_n hx hb dX11_isBestFor_20 rfl (lv_at hl 3 rfl) ?_
  refine lv_iload_n hx hb dX11_isBestFor_21 rfl (lv_at hl 4 rfl) ?_
  refine lv_iload_n hx hb dX11_isBestFor_22 rfl (lv_at hl 5 rfl) ?_
  refine x_i (wr := []) hP hD hS hA [] [] rfl rfl (by decide) (by decide) (va_runS (As := [.int 1, .int a1, .int a2, .int a3]) (rest := []) ⟨hx, hb, hml, hown, hts⟩ (c_X11_greedGain l D cy 1 a1 a2 a3 H.size) (va_cwS 4 hts (gS km_X11_350 kt_X11_greedGain kn_X11 kc_X11_greedGain) rfl rfl rfl (by decide +kernel) ⟨(Nat.le_of_ble_eq_true rfl), (Nat.le_of_ble_eq_true rfl)⟩) (preS hG hP hD [] rfl (by decide)) rfl rfl hl.1 rfl (lv_room (Nat.le_of_ble_eq_true rfl)) dX11_isBestFor_23 ⟨(Nat.le_of_ble_eq_true rfl), (Nat.le_of_ble_eq_true rfl)⟩) (fun r_3 H locs hB hj hS => ?_)
  obtain ⟨hres, hP1, hD1⟩ := hB
  subst hres
  obtain ⟨hP, hD⟩ := hj _ hP1 hD1
  have hP : va_P D vwCl [] H := hP
  have hD : va_D A [] := hD
  refine lv_iload hx hb dX11_isBestFor_26 (lv_at hl 1 rfl) ?_
  refine lv_icmp_le (tgt := 33) hx hb dX11_isBestFor_28 (by decide) (fun c_4 => ?_) (fun c_4 => ?_)
  · refine lv_iinc (v := 2) (lv' := [(5, .int 2), (4, .int x4_2), (0, .int a0), (1, .int a1), (2, .int a2), (3, .int a3)]) hx hb dX11_isBestFor_33 hl (k := 0) rfl (by decide) (by decide) rfl (fun ls hl => ?_)
    refine lv_goto (tgt := 12) hx hb dX11_isBestFor_36 (by decide) ?_
    refine lv_iload hx hb dX11_isBestFor_12 (lv_at hl 0 rfl) ?_
    refine lv_iconst (v := 5) hx hb dX11_isBestFor_14 (by decide) ?_
    refine lv_icmp_gt (tgt := 39) hx hb dX11_isBestFor_15 (by decide) (fun c_ => absurd c_ (by decide)) (fun _ => ?_)
    refine lv_iload hx hb dX11_isBestFor_18 (lv_at hl 0 rfl) ?_
    refine lv_iload_n hx hb dX11_isBestFor_20 rfl (lv_at hl 3 rfl) ?_
    refine lv_iload_n hx hb dX11_isBestFor_21 rfl (lv_at hl 4 rfl) ?_
    refine lv_iload_n hx hb dX11_isBestFor_22 rfl (lv_at hl 5 rfl) ?_
    refine x_i (wr := []) hP hD hS hA [] [] rfl rfl (by decide) (by decide) (va_runS (As := [.int 2, .int a1, .int a2, .int a3]) (rest := []) ⟨hx, hb, hml, hown, hts⟩ (c_X11_greedGain l D cy 2 a1 a2 a3 H.size) (va_cwS 4 hts (gS km_X11_350 kt_X11_greedGain kn_X11 kc_X11_greedGain) rfl rfl rfl (by decide +kernel) ⟨(Nat.le_of_ble_eq_true rfl), (Nat.le_of_ble_eq_true rfl)⟩) (preS hG hP hD [] rfl (by decide)) rfl rfl hl.1 rfl (lv_room (Nat.le_of_ble_eq_true rfl)) dX11_isBestFor_23 ⟨(Nat.le_of_ble_eq_true rfl), (Nat.le_of_ble_eq_true rfl)⟩) (fun r_5 H locs hB hj hS => ?_)
    obtain ⟨hres, hP1, hD1⟩ := hB
    subst hres
    obtain ⟨hP, hD⟩ := hj _ hP1 hD1
    have hP : va_P D vwCl [] H := hP
    have hD : va_D A [] := hD
    refine lv_iload hx hb dX11_isBestFor_26 (lv_at hl 1 rfl) ?_
    refine lv_icmp_le (tgt := 33) hx hb dX11_isBestFor_28 (by decide) (fun c_6 => ?_) (fun c_6 => ?_)
    · refine lv_iinc (v := 3) (lv' := [(5, .int 3), (4, .int x4_2), (0, .int a0), (1, .int a1), (2, .int a2), (3, .int a3)]) hx hb dX11_isBestFor_33 hl (k := 0) rfl (by decide) (by decide) rfl (fun ls hl => ?_)
      refine lv_goto (tgt := 12) hx hb dX11_isBestFor_36 (by decide) ?_
      refine lv_iload hx hb dX11_isBestFor_12 (lv_at hl 0 rfl) ?_
      refine lv_iconst (v := 5) hx hb dX11_isBestFor_14 (by decide) ?_
      refine lv_icmp_gt (tgt := 39) hx hb dX11_isBestFor_15 (by decide) (fun c_ => absurd c_ (by decide)) (fun _ => ?_)
      refine lv_iload hx hb dX11_isBestFor_18 (lv_at hl 0 rfl) ?_
      refine lv_iload_n hx hb dX11_isBestFor_20 rfl (lv_at hl 3 rfl) ?_
      refine lv_iload_n hx hb dX11_isBestFor_21 rfl (lv_at hl 4 rfl) ?_
      refine lv_iload_n hx hb dX11_isBestFor_22 rfl (lv_at hl 5 rfl) ?_
      refine x_i (wr := []) hP hD hS hA [] [] rfl rfl (by decide) (by decide) (va_runS (As := [.int 3, .int a1, .int a2, .int a3]) (rest := []) ⟨hx, hb, hml, hown, hts⟩ (c_X11_greedGain l D cy 3 a1 a2 a3 H.size) (va_cwS 4 hts (gS km_X11_350 kt_X11_greedGain kn_X11 kc_X11_greedGain) rfl rfl rfl (by decide +kernel) ⟨(Nat.le_of_ble_eq_true rfl), (Nat.le_of_ble_eq_true rfl)⟩) (preS hG hP hD [] rfl (by decide)) rfl rfl hl.1 rfl (lv_room (Nat.le_of_ble_eq_true rfl)) dX11_isBestFor_23 ⟨(Nat.le_of_ble_eq_true rfl), (Nat.le_of_ble_eq_true rfl)⟩) (fun r_7 H locs hB hj hS => ?_)
      obtain ⟨hres, hP1, hD1⟩ := hB
      subst hres
      obtain ⟨hP, hD⟩ := hj _ hP1 hD1
      have hP : va_P D vwCl [] H := hP
      have hD : va_D A [] := hD
      refine lv_iload hx hb dX11_isBestFor_26 (lv_at hl 1 rfl) ?_
      refine lv_icmp_le (tgt := 33) hx hb dX11_isBestFor_28 (by decide) (fun c_8 => ?_) (fun c_8 => ?_)
      · refine lv_iinc (v := 4) (lv' := [(5, .int 4), (4, .int x4_2), (0, .int a0), (1, .int a1), (2, .int a2), (3, .int a3)]) hx hb dX11_isBestFor_33 hl (k := 0) rfl (by decide) (by decide) rfl (fun ls hl => ?_)
        refine lv_goto (tgt := 12) hx hb dX11_isBestFor_36 (by decide) ?_
        refine lv_iload hx hb dX11_isBestFor_12 (lv_at hl 0 rfl) ?_
        refine lv_iconst (v := 5) hx hb dX11_isBestFor_14 (by decide) ?_
        refine lv_icmp_gt (tgt := 39) hx hb dX11_isBestFor_15 (by decide) (fun c_ => absurd c_ (by decide)) (fun _ => ?_)
        refine lv_iload hx hb dX11_isBestFor_18 (lv_at hl 0 rfl) ?_
        refine lv_iload_n hx hb dX11_isBestFor_20 rfl (lv_at hl 3 rfl) ?_
        refine lv_iload_n hx hb dX11_isBestFor_21 rfl (lv_at hl 4 rfl) ?_
        refine lv_iload_n hx hb dX11_isBestFor_22 rfl (lv_at hl 5 rfl) ?_
        refine x_i (wr := []) hP hD hS hA [] [] rfl rfl (by decide) (by decide) (va_runS (As := [.int 4, .int a1, .int a2, .int a3]) (rest := []) ⟨hx, hb, hml, hown, hts⟩ (c_X11_greedGain l D cy 4 a1 a2 a3 H.size) (va_cwS 4 hts (gS km_X11_350 kt_X11_greedGain kn_X11 kc_X11_greedGain) rfl rfl rfl (by decide +kernel) ⟨(Nat.le_of_ble_eq_true rfl), (Nat.le_of_ble_eq_true rfl)⟩) (preS hG hP hD [] rfl (by decide)) rfl rfl hl.1 rfl (lv_room (Nat.le_of_ble_eq_true rfl)) dX11_isBestFor_23 ⟨(Nat.le_of_ble_eq_true rfl), (Nat.le_of_ble_eq_true rfl)⟩) (fun r_9 H locs hB hj hS => ?_)
        obtain ⟨hres, hP1, hD1⟩ := hB
        subst hres
        obtain ⟨hP, hD⟩ := hj _ hP1 hD1
        have hP : va_P D vwCl [] H := hP
        have hD : va_D A [] := hD
        refine lv_iload hx hb dX11_isBestFor_26 (lv_at hl 1 rfl) ?_
        refine lv_icmp_le (tgt := 33) hx hb dX11_isBestFor_28 (by decide) (fun c_10 => ?_) (fun c_10 => ?_)
        · refine lv_iinc (v := 5) (lv' := [(5, .int 5), (4, .int x4_2), (0, .int a0), (1, .int a1), (2, .int a2), (3, .int a3)]) hx hb dX11_isBestFor_33 hl (k := 0) rfl (by decide) (by decide) rfl (fun ls hl => ?_)
          refine lv_goto (tgt := 12) hx hb dX11_isBestFor_36 (by decide) ?_
          refine lv_iload hx hb dX11_isBestFor_12 (lv_at hl 0 rfl) ?_
          refine lv_iconst (v := 5) hx hb dX11_isBestFor_14 (by decide) ?_
          refine lv_icmp_gt (tgt := 39) hx hb dX11_isBestFor_15 (by decide) (fun c_ => absurd c_ (by decide)) (fun _ => ?_)
          refine lv_iload hx hb dX11_isBestFor_18 (lv_at hl 0 rfl) ?_
          refine lv_iload_n hx hb dX11_isBestFor_20 rfl (lv_at hl 3 rfl) ?_
          refine lv_iload_n hx hb dX11_isBestFor_21 rfl (lv_at hl 4 rfl) ?_
          refine lv_iload_n hx hb dX11_isBestFor_22 rfl (lv_at hl 5 rfl) ?_
          refine x_i (wr := []) hP hD hS hA [] [] rfl rfl (by decide) (by decide) (va_runS (As := [.int 5, .int a1, .int a2, .int a3]) (rest := []) ⟨hx, hb, hml, hown, hts⟩ (c_X11_greedGain l D cy 5 a1 a2 a3 H.size) (va_cwS 4 hts (gS km_X11_350 kt_X11_greedGain kn_X11 kc_X11_greedGain) rfl rfl rfl (by decide +kernel) ⟨(Nat.le_of_ble_eq_true rfl), (Nat.le_of_ble_eq_true rfl)⟩) (preS hG hP hD [] rfl (by decide)) rfl rfl hl.1 rfl (lv_room (Nat.le_of_ble_eq_true rfl)) dX11_isBestFor_23 ⟨(Nat.le_of_ble_eq_true rfl), (Nat.le_of_ble_eq_true rfl)⟩) (fun r_11 H locs hB hj hS => ?_)
          obtain ⟨hres, hP1, hD1⟩ := hB
          subst hres
          obtain ⟨hP, hD⟩ := hj _ hP1 hD1
          have hP : va_P D vwCl [] H := hP
          have hD : va_D A [] := hD
          refine lv_iload hx hb dX11_isBestFor_26 (lv_at hl 1 rfl) ?_
          refine lv_icmp_le (tgt := 33) hx hb dX11_isBestFor_28 (by decide) (fun c_12 => ?_) (fun c_12 => ?_)
          · refine lv_iinc (v := 6) (lv' := [(5, .int 6), (4, .int x4_2), (0, .int a0), (1, .int a1), (2, .int a2), (3, .int a3)]) hx hb dX11_isBestFor_33 hl (k := 0) rfl (by decide) (by decide) rfl (fun ls hl => ?_)
            refine lv_goto (tgt := 12) hx hb dX11_isBestFor_36 (by decide) ?_
            refine lv_iload hx hb dX11_isBestFor_12 (lv_at hl 0 rfl) ?_
            refine lv_iconst (v := 5) hx hb dX11_isBestFor_14 (by decide) ?_
            refine lv_icmp_gt (tgt := 39) hx hb dX11_isBestFor_15 (by decide) (fun _ => ?_) (fun c_ => absurd (by decide) c_)
            refine lv_iconst (v := 1) hx hb dX11_isBestFor_39 (by decide) ?_
            have hP9 := hP.sub (ws' := []) [] rfl
            have hD9 := hD.sub (ws' := []) [] (by decide) rfl
            subst hQ
            exact W.zret (v := 1) hx hb hr rfl (fun t ht hW => qi_mk (by rw [ht]; exact ⟨(by show (1 : Int32) = bs (gg a0 a1 a2 a3) a1 a2 a3; rw [← ex4_2, bs, if_pos c_4, if_pos c_6, if_pos c_8, if_pos c_10, if_pos c_12]), hP9, hD9⟩) (hS.F ht)) hS.2.2 dX11_isBestFor_40
          · refine lv_iconst (v := 0) hx hb dX11_isBestFor_31 (by decide) ?_
            have hP9 := hP.sub (ws' := []) [] rfl
            have hD9 := hD.sub (ws' := []) [] (by decide) rfl
            subst hQ
            exact W.zret (v := 0) hx hb hr rfl (fun t ht hW => qi_mk (by rw [ht]; exact ⟨(by show (0 : Int32) = bs (gg a0 a1 a2 a3) a1 a2 a3; rw [← ex4_2, bs, if_pos c_4, if_pos c_6, if_pos c_8, if_pos c_10, if_neg c_12]), hP9, hD9⟩) (hS.F ht)) hS.2.2 dX11_isBestFor_32
        · refine lv_iconst (v := 0) hx hb dX11_isBestFor_31 (by decide) ?_
          have hP9 := hP.sub (ws' := []) [] rfl
          have hD9 := hD.sub (ws' := []) [] (by decide) rfl
          subst hQ
          exact W.zret (v := 0) hx hb hr rfl (fun t ht hW => qi_mk (by rw [ht]; exact ⟨(by show (0 : Int32) = bs (gg a0 a1 a2 a3) a1 a2 a3; rw [← ex4_2, bs, if_pos c_4, if_pos c_6, if_pos c_8, if_neg c_10]), hP9, hD9⟩) (hS.F ht)) hS.2.2 dX11_isBestFor_32
      · refine lv_iconst (v := 0) hx hb dX11_isBestFor_31 (by decide) ?_
        have hP9 := hP.sub (ws' := []) [] rfl
        have hD9 := hD.sub (ws' := []) [] (by decide) rfl
        subst hQ
        exact W.zret (v := 0) hx hb hr rfl (fun t ht hW => qi_mk (by rw [ht]; exact ⟨(by show (0 : Int32) = bs (gg a0 a1 a2 a3) a1 a2 a3; rw [← ex4_2, bs, if_pos c_4, if_pos c_6, if_neg c_8]), hP9, hD9⟩) (hS.F ht)) hS.2.2 dX11_isBestFor_32
    · refine lv_iconst (v := 0) hx hb dX11_isBestFor_31 (by decide) ?_
      have hP9 := hP.sub (ws' := []) [] rfl
      have hD9 := hD.sub (ws' := []) [] (by decide) rfl
      subst hQ
      exact W.zret (v := 0) hx hb hr rfl (fun t ht hW => qi_mk (by rw [ht]; exact ⟨(by show (0 : Int32) = bs (gg a0 a1 a2 a3) a1 a2 a3; rw [← ex4_2, bs, if_pos c_4, if_neg c_6]), hP9, hD9⟩) (hS.F ht)) hS.2.2 dX11_isBestFor_32
  · refine lv_iconst (v := 0) hx hb dX11_isBestFor_31 (by decide) ?_
    have hP9 := hP.sub (ws' := []) [] rfl
    have hD9 := hD.sub (ws' := []) [] (by decide) rfl
    subst hQ
    exact W.zret (v := 0) hx hb hr rfl (fun t ht hW => qi_mk (by rw [ht]; exact ⟨(by show (0 : Int32) = bs (gg a0 a1 a2 a3) a1 a2 a3; rw [← ex4_2, bs, if_neg c_4]), hP9, hD9⟩) (hS.F ht)) hS.2.2 dX11_isBestFor_32
set_option maxHeartbeats 4000000 in
set_option maxRecDepth 100000 in
theorem c_X12_isRest (l : Launch) (D : va_G) (cy : Nat → ClassId) (a0 : Int32) (a1 : Int32) (a2 : Int32) (a3 : Int32) (sz : Nat) : Met l yX12_isRest (Cond.code yX12_isRest cX12_isRest 5 (some .boolean) :: bigG) ({ frames := 2, cells := 0, slots := 0, locals := 44 }) (pre D cy [.int a0, .int a1, .int a2, .int a3] sz []) (qi (fun r h => r = rst a2 a3 a0 a1 ∧ va_P D vwCl [] h ∧ va_D (va_A [] sz) []) (va_A [] sz)) 0 0 (va_A [] sz) := by
  refine Met.ofW (cc := cX12_isRest) (maxL := 5) (ret := (some .boolean)) (by decide) rfl ?_
  intro p e s m args below meth c s₁ B hml hv
  obtain ⟨rfl, hsz, hP, hG, hD0⟩ := hv
  have hx := B.exec
  have hb := B.bytes
  have hr := B.returns
  have hts := atoms_spec (ws := (Cond.code yX12_isRest cX12_isRest 5 (some .boolean) :: bigG)) B.pre
  have hg : ∀ w ∈ bigG, w.before ([.int a0, .int a1, .int a2, .int a3] : List Value).toArray s = true := fun w h => hts w (List.mem_cons_of_mem _ h)
  have hown : s.vm.findClass RX12 = some m.cls := findClass_of_methodNamed B.named
  have hlocks := B.notSynchronized
  subst hsz
  have hD := hD0.self (sz := s.heap.size)
  generalize hAe : va_A [] s.heap.size = A at hD ⊢
  have hA : ∀ q : Nat, s.heap.size ≤ q → A q := fun q h => by rw [← hAe]; exact Or.inr h
  have hS : va_S A s.heap s.heap [] := va_S.rf
  have hP : va_P D vwCl [] s.heap := hP
  have hl := lv_entry ([.int a0, .int a1, .int a2, .int a3]) (n := 5) (Nat.le_of_ble_eq_true rfl)
  rw [lg_entry_eq]
  generalize (lg_sl ([.int a0, .int a1, .int a2, .int a3]) ++ List.replicate (5 - (lg_sl ([.int a0, .int a1, .int a2, .int a3])).length) Slot.unset).toArray = ls at hl ⊢
  have hl : lv_has ls 5 [(0, .int a0), (1, .int a1), (2, .int a2), (3, .int a3)] := hl
  refine w_nm (fun Q hQ => ?_)
  refine lv_iconst (v := 1) hx hb dX12_isRest_0 (by decide) ?_
  refine lv_istore (lv' := [(4, .int 1), (0, .int a0), (1, .int a1), (2, .int a2), (3, .int a3)]) hx hb dX12_isRest_1 hl (by decide) rfl (fun ls hl => ?_)
  refine lv_iload hx hb dX12_isRest_3 (lv_at hl 0 rfl) ?_
  refine lv_bipush (v := 6) hx hb dX12_isRest_5 (by decide) ?_
  refine lv_icmp_ge (tgt := 54) hx hb dX12_isRest_7 (by decide) (fun c_ => absurd c_ (by decide)) (fun _ => ?_)
  refine lv_iload_n hx hb dX12_isRest_10 rfl (lv_at hl 1 rfl) ?_
  refine lv_iload_n hx hb dX12_isRest_11 rfl (lv_at hl 2 rfl) ?_
  refine lv_iload hx hb dX12_isRest_12 (lv_at hl 0 rfl) ?_
  refine lv_iload_n hx hb dX12_isRest_14 rfl (lv_at hl 4 rfl) ?_
  refine x_i (wr := []) hP hD hS hA [] [] rfl rfl (by decide) (by decide) (va_runS (As := [.int a0, .int a1, .int 1, .int a3]) (rest := []) ⟨hx, hb, hml, hown, hts⟩ (c_X12_gets l D cy a0 a1 1 a3 s.heap.size) (va_cwS 4 hts (gS km_X12_516 kt_X12_gets kn_X12 kc_X12_gets) rfl rfl rfl (by decide +kernel) ⟨(Nat.le_of_ble_eq_true rfl), (Nat.le_of_ble_eq_true rfl)⟩) (preS hG hP hD [] rfl (by decide)) rfl rfl hl.1 rfl (lv_room (Nat.le_of_ble_eq_true rfl)) dX12_isRest_15 ⟨(Nat.le_of_ble_eq_true rfl), (Nat.le_of_ble_eq_true rfl)⟩) (fun r_1 H locs hB hj hS => ?_)
  obtain ⟨hres, hP1, hD1⟩ := hB
  subst hres
  obtain ⟨hP, hD⟩ := hj _ hP1 hD1
  have hP : va_P D vwCl [] H := hP
  have hD : va_D A [] := hD
  refine lv_iload_n hx hb dX12_isRest_18 rfl (lv_at hl 1 rfl) ?_
  refine lv_iload_n hx hb dX12_isRest_19 rfl (lv_at hl 2 rfl) ?_
  refine lv_iload_n hx hb dX12_isRest_20 rfl (lv_at hl 3 rfl) ?_
  refine lv_iload_n hx hb dX12_isRest_21 rfl (lv_at hl 4 rfl) ?_
  refine x_i (wr := []) hP hD hS hA [] [] rfl rfl (by decide) (by decide) (va_runS (As := [.int a0, .int a1, .int a2, .int a3]) (rest := [.int (gg 1 a3 a0 a1)]) ⟨hx, hb, hml, hown, hts⟩ (c_X12_gets l D cy a0 a1 a2 a3 H.size) (va_cwS 4 hts (gS km_X12_516 kt_X12_gets kn_X12 kc_X12_gets) rfl rfl rfl (by decide +kernel) ⟨(Nat.le_of_ble_eq_true rfl), (Nat.le_of_ble_eq_true rfl)⟩) (preS hG hP hD [] rfl (by decide)) rfl rfl hl.1 rfl (lv_room (Nat.le_of_ble_eq_true rfl)) dX12_isRest_22 ⟨(Nat.le_of_ble_eq_true rfl), (Nat.le_of_ble_eq_true rfl)⟩) (fun r_2 H locs hB hj hS => ?_)
  obtain ⟨hres, hP1, hD1⟩ := hB
  subst hres
  obtain ⟨hP, hD⟩ := hj _ hP1 hD1
  have hP : va_P D vwCl [] H := hP
  have hD : va_D A [] := hD
  refine lv_icmp_gt (tgt := 46) hx hb dX12_isRest_25 (by decide) (fun c_3 => ?_) (fun c_3 => ?_)
  · refine lv_iconst (v := 0) hx hb dX12_isRest_46 (by decide) ?_
    have hP9 := hP.sub (ws' := []) [] rfl
    have hD9 := hD.sub (ws' := []) [] (by decide) rfl
    subst hQ
    exact W.zret (v := 0) hx hb hr rfl (fun t ht hW => qi_mk (by rw [ht]; exact ⟨(rst_0a (fun q => absurd c_3 (le_nlt (((bs_iff _ _ _ _).mp q).1)))).symm, hP9, hD9⟩) (hS.F ht)) hS.2.2 dX12_isRest_47
  · refine lv_iload_n hx hb dX12_isRest_28 rfl (lv_at hl 1 rfl) ?_
    refine lv_iload_n hx hb dX12_isRest_29 rfl (lv_at hl 2 rfl) ?_
    refine lv_iload hx hb dX12_isRest_30 (lv_at hl 0 rfl) ?_
    refine lv_iload_n hx hb dX12_isRest_32 rfl (lv_at hl 3 rfl) ?_
    refine x_i (wr := []) hP hD hS hA [] [] rfl rfl (by decide) (by decide) (va_runS (As := [.int a0, .int a1, .int 1, .int a2]) (rest := []) ⟨hx, hb, hml, hown, hts⟩ (c_X12_gets l D cy a0 a1 1 a2 H.size) (va_cwS 4 hts (gS km_X12_516 kt_X12_gets kn_X12 kc_X12_gets) rfl rfl rfl (by decide +kernel) ⟨(Nat.le_of_ble_eq_true rfl), (Nat.le_of_ble_eq_true rfl)⟩) (preS hG hP hD [] rfl (by decide)) rfl rfl hl.1 rfl (lv_room (Nat.le_of_ble_eq_true rfl)) dX12_isRest_33 ⟨(Nat.le_of_ble_eq_true rfl), (Nat.le_of_ble_eq_true rfl)⟩) (fun r_4 H locs hB hj hS => ?_)
    obtain ⟨hres, hP1, hD1⟩ := hB
    subst hres
    obtain ⟨hP, hD⟩ := hj _ hP1 hD1
    have hP : va_P D vwCl [] H := hP
    have hD : va_D A [] := hD
    refine lv_iload_n hx hb dX12_isRest_36 rfl (lv_at hl 1 rfl) ?_
    refine lv_iload_n hx hb dX12_isRest_37 rfl (lv_at hl 2 rfl) ?_
    refine lv_iload_n hx hb dX12_isRest_38 rfl (lv_at hl 4 rfl) ?_
    refine lv_iload_n hx hb dX12_isRest_39 rfl (lv_at hl 3 rfl) ?_
    refine x_i (wr := []) hP hD hS hA [] [] rfl rfl (by decide) (by decide) (va_runS (As := [.int a0, .int a1, .int a3, .int a2]) (rest := [.int (gg 1 a2 a0 a1)]) ⟨hx, hb, hml, hown, hts⟩ (c_X12_gets l D cy a0 a1 a3 a2 H.size) (va_cwS 4 hts (gS km_X12_516 kt_X12_gets kn_X12 kc_X12_gets) rfl rfl rfl (by decide +kernel) ⟨(Nat.le_of_ble_eq_true rfl), (Nat.le_of_ble_eq_true rfl)⟩) (preS hG hP hD [] rfl (by decide)) rfl rfl hl.1 rfl (lv_room (Nat.le_of_ble_eq_true rfl)) dX12_isRest_40 ⟨(Nat.le_of_ble_eq_true rfl), (Nat.le_of_ble_eq_true rfl)⟩) (fun r_5 H locs hB hj hS => ?_)
    obtain ⟨hres, hP1, hD1⟩ := hB
    subst hres
    obtain ⟨hP, hD⟩ := hj _ hP1 hD1
    have hP : va_P D vwCl [] H := hP
    have hD : va_D A [] := hD
    refine lv_icmp_le (tgt := 48) hx hb dX12_isRest_43 (by decide) (fun c_6 => ?_) (fun c_6 => ?_)
    · refine lv_iinc (v := 2) (lv' := [(4, .int 2), (0, .int a0), (1, .int a1), (2, .int a2), (3, .int a3)]) hx hb dX12_isRest_48 hl (k := 0) rfl (by decide) (by decide) rfl (fun ls hl => ?_)
      refine lv_goto (tgt := 3) hx hb dX12_isRest_51 (by decide) ?_
      refine lv_iload hx hb dX12_isRest_3 (lv_at hl 0 rfl) ?_
      refine lv_bipush (v := 6) hx hb dX12_isRest_5 (by decide) ?_
      refine lv_icmp_ge (tgt := 54) hx hb dX12_isRest_7 (by decide) (fun c_ => absurd c_ (by decide)) (fun _ => ?_)
      refine lv_iload_n hx hb dX12_isRest_10 rfl (lv_at hl 1 rfl) ?_
      refine lv_iload_n hx hb dX12_isRest_11 rfl (lv_at hl 2 rfl) ?_
      refine lv_iload hx hb dX12_isRest_12 (lv_at hl 0 rfl) ?_
      refine lv_iload_n hx hb dX12_isRest_14 rfl (lv_at hl 4 rfl) ?_
      refine x_i (wr := []) hP hD hS hA [] [] rfl rfl (by decide) (by decide) (va_runS (As := [.int a0, .int a1, .int 2, .int a3]) (rest := []) ⟨hx, hb, hml, hown, hts⟩ (c_X12_gets l D cy a0 a1 2 a3 H.size) (va_cwS 4 hts (gS km_X12_516 kt_X12_gets kn_X12 kc_X12_gets) rfl rfl rfl (by decide +kernel) ⟨(Nat.le_of_ble_eq_true rfl), (Nat.le_of_ble_eq_true rfl)⟩) (preS hG hP hD [] rfl (by decide)) rfl rfl hl.1 rfl (lv_room (Nat.le_of_ble_eq_true rfl)) dX12_isRest_15 ⟨(Nat.le_of_ble_eq_true rfl), (Nat.le_of_ble_eq_true rfl)⟩) (fun r_7 H locs hB hj hS => ?_)
      obtain ⟨hres, hP1, hD1⟩ := hB
      subst hres
      obtain ⟨hP, hD⟩ := hj _ hP1 hD1
      have hP : va_P D vwCl [] H := hP
      have hD : va_D A [] := hD
      refine lv_iload_n hx hb dX12_isRest_18 rfl (lv_at hl 1 rfl) ?_
      refine lv_iload_n hx hb dX12_isRest_19 rfl (lv_at hl 2 rfl) ?_
      refine lv_iload_n hx hb dX12_isRest_20 rfl (lv_at hl 3 rfl) ?_
      refine lv_iload_n hx hb dX12_isRest_21 rfl (lv_at hl 4 rfl) ?_
      refine x_i (wr := []) hP hD hS hA [] [] rfl rfl (by decide) (by decide) (va_runS (As := [.int a0, .int a1, .int a2, .int a3]) (rest := [.int (gg 2 a3 a0 a1)]) ⟨hx, hb, hml, hown, hts⟩ (c_X12_gets l D cy a0 a1 a2 a3 H.size) (va_cwS 4 hts (gS km_X12_516 kt_X12_gets kn_X12 kc_X12_gets) rfl rfl rfl (by decide +kernel) ⟨(Nat.le_of_ble_eq_true rfl), (Nat.le_of_ble_eq_true rfl)⟩) (preS hG hP hD [] rfl (by decide)) rfl rfl hl.1 rfl (lv_room (Nat.le_of_ble_eq_true rfl)) dX12_isRest_22 ⟨(Nat.le_of_ble_eq_true rfl), (Nat.le_of_ble_eq_true rfl)⟩) (fun r_8 H locs hB hj hS => ?_)
      obtain ⟨hres, hP1, hD1⟩ := hB
      subst hres
      obtain ⟨hP, hD⟩ := hj _ hP1 hD1
      have hP : va_P D vwCl [] H := hP
      have hD : va_D A [] := hD
      refine lv_icmp_gt (tgt := 46) hx hb dX12_isRest_25 (by decide) (fun c_9 => ?_) (fun c_9 => ?_)
      · refine lv_iconst (v := 0) hx hb dX12_isRest_46 (by decide) ?_
        have hP9 := hP.sub (ws' := []) [] rfl
        have hD9 := hD.sub (ws' := []) [] (by decide) rfl
        subst hQ
        exact W.zret (v := 0) hx hb hr rfl (fun t ht hW => qi_mk (by rw [ht]; exact ⟨(rst_0a (fun q => absurd c_9 (le_nlt (((bs_iff _ _ _ _).mp q).2.1)))).symm, hP9, hD9⟩) (hS.F ht)) hS.2.2 dX12_isRest_47
      · refine lv_iload_n hx hb dX12_isRest_28 rfl (lv_at hl 1 rfl) ?_
        refine lv_iload_n hx hb dX12_isRest_29 rfl (lv_at hl 2 rfl) ?_
        refine lv_iload hx hb dX12_isRest_30 (lv_at hl 0 rfl) ?_
        refine lv_iload_n hx hb dX12_isRest_32 rfl (lv_at hl 3 rfl) ?_
        refine x_i (wr := []) hP hD hS hA [] [] rfl rfl (by decide) (by decide) (va_runS (As := [.int a0, .int a1, .int 2, .int a2]) (rest := []) ⟨hx, hb, hml, hown, hts⟩ (c_X12_gets l D cy a0 a1 2 a2 H.size) (va_cwS 4 hts (gS km_X12_516 kt_X12_gets kn_X12 kc_X12_gets) rfl rfl rfl (by decide +kernel) ⟨(Nat.le_of_ble_eq_true rfl), (Nat.le_of_ble_eq_true rfl)⟩) (preS hG hP hD [] rfl (by decide)) rfl rfl hl.1 rfl (lv_room (Nat.le_of_ble_eq_true rfl)) dX12_isRest_33 ⟨(Nat.le_of_ble_eq_true rfl), (Nat.le_of_ble_eq_true rfl)⟩) (fun r_10 H locs hB hj hS => ?_)
        obtain ⟨hres, hP1, hD1⟩ := hB
        subst hres
        obtain ⟨hP, hD⟩ := hj _ hP1 hD1
        have hP : va_P D vwCl [] H := hP
        have hD : va_D A [] := hD
        refine lv_iload_n hx hb dX12_isRest_36 rfl (lv_at hl 1 rfl) ?_
        refine lv_iload_n hx hb dX12_isRest_37 rfl (lv_at hl 2 rfl) ?_
        refine lv_iload_n hx hb dX12_isRest_38 rfl (lv_at hl 4 rfl) ?_
        refine lv_iload_n hx hb dX12_isRest_39 rfl (lv_at hl 3 rfl) ?_
        refine x_i (wr := []) hP hD hS hA [] [] rfl rfl (by decide) (by decide) (va_runS (As := [.int a0, .int a1, .int a3, .int a2]) (rest := [.int (gg 2 a2 a0 a1)]) ⟨hx, hb, hml, hown, hts⟩ (c_X12_gets l D cy a0 a1 a3 a2 H.size) (va_cwS 4 hts (gS km_X12_516 kt_X12_gets kn_X12 kc_X12_gets) rfl rfl rfl (by decide +kernel) ⟨(Nat.le_of_ble_eq_true rfl), (Nat.le_of_ble_eq_true rfl)⟩) (preS hG hP hD [] rfl (by decide)) rfl rfl hl.1 rfl (lv_room (Nat.le_of_ble_eq_true rfl)) dX12_isRest_40 ⟨(Nat.le_of_ble_eq_true rfl), (Nat.le_of_ble_eq_true rfl)⟩) (fun r_11 H locs hB hj hS => ?_)
        obtain ⟨hres, hP1, hD1⟩ := hB
        subst hres
        obtain ⟨hP, hD⟩ := hj _ hP1 hD1
        have hP : va_P D vwCl [] H := hP
        have hD : va_D A [] := hD
        refine lv_icmp_le (tgt := 48) hx hb dX12_isRest_43 (by decide) (fun c_12 => ?_) (fun c_12 => ?_)
        · refine lv_iinc (v := 3) (lv' := [(4, .int 3), (0, .int a0), (1, .int a1), (2, .int a2), (3, .int a3)]) hx hb dX12_isRest_48 hl (k := 0) rfl (by decide) (by decide) rfl (fun ls hl => ?_)
          refine lv_goto (tgt := 3) hx hb dX12_isRest_51 (by decide) ?_
          refine lv_iload hx hb dX12_isRest_3 (lv_at hl 0 rfl) ?_
          refine lv_bipush (v := 6) hx hb dX12_isRest_5 (by decide) ?_
          refine lv_icmp_ge (tgt := 54) hx hb dX12_isRest_7 (by decide) (fun c_ => absurd c_ (by decide)) (fun _ => ?_)
          refine lv_iload_n hx hb dX12_isRest_10 rfl (lv_at hl 1 rfl) ?_
          refine lv_iload_n hx hb dX12_isRest_11 rfl (lv_at hl 2 rfl) ?_
          refine lv_iload hx hb dX12_isRest_12 (lv_at hl 0 rfl) ?_
          refine lv_iload_n hx hb dX12_isRest_14 rfl (lv_at hl 4 rfl) ?_
          refine x_i (wr := []) hP hD hS hA [] [] rfl rfl (by decide) (by decide) (va_runS (As := [.int a0, .int a1, .int 3, .int a3]) (rest := []) ⟨hx, hb, hml, hown, hts⟩ (c_X12_gets l D cy a0 a1 3 a3 H.size) (va_cwS 4 hts (gS km_X12_516 kt_X12_gets kn_X12 kc_X12_gets) rfl rfl rfl (by decide +kernel) ⟨(Nat.le_of_ble_eq_true rfl), (Nat.le_of_ble_eq_true rfl)⟩) (preS hG hP hD [] rfl (by decide)) rfl rfl hl.1 rfl (lv_room (Nat.le_of_ble_eq_true rfl)) dX12_isRest_15 ⟨(Nat.le_of_ble_eq_true rfl), (Nat.le_of_ble_eq_true rfl)⟩) (fun r_13 H locs hB hj hS => ?_)
          obtain ⟨hres, hP1, hD1⟩ := hB
          subst hres
          obtain ⟨hP, hD⟩ := hj _ hP1 hD1
          have hP : va_P D vwCl [] H := hP
          have hD : va_D A [] := hD
          refine lv_iload_n hx hb dX12_isRest_18 rfl (lv_at hl 1 rfl) ?_
          refine lv_iload_n hx hb dX12_isRest_19 rfl (lv_at hl 2 rfl) ?_
          refine lv_iload_n hx hb dX12_isRest_20 rfl (lv_at hl 3 rfl) ?_
          refine lv_iload_n hx hb dX12_isRest_21 rfl (lv_at hl 4 rfl) ?_
          refine x_i (wr := []) hP hD hS hA [] [] rfl rfl (by decide) (by decide) (va_runS (As := [.int a0, .int a1, .int a2, .int a3]) (rest := [.int (gg 3 a3 a0 a1)]) ⟨hx, hb, hml, hown, hts⟩ (c_X12_gets l D cy a0 a1 a2 a3 H.size) (va_cwS 4 hts (gS km_X12_516 kt_X12_gets kn_X12 kc_X12_gets) rfl rfl rfl (by decide +kernel) ⟨(Nat.le_of_ble_eq_true rfl), (Nat.le_of_ble_eq_true rfl)⟩) (preS hG hP hD [] rfl (by decide)) rfl rfl hl.1 rfl (lv_room (Nat.le_of_ble_eq_true rfl)) dX12_isRest_22 ⟨(Nat.le_of_ble_eq_true rfl), (Nat.le_of_ble_eq_true rfl)⟩) (fun r_14 H locs hB hj hS => ?_)
          obtain ⟨hres, hP1, hD1⟩ := hB
          subst hres
          obtain ⟨hP, hD⟩ := hj _ hP1 hD1
          have hP : va_P D vwCl [] H := hP
          have hD : va_D A [] := hD
          refine lv_icmp_gt (tgt := 46) hx hb dX12_isRest_25 (by decide) (fun c_15 => ?_) (fun c_15 => ?_)
          · refine lv_iconst (v := 0) hx hb dX12_isRest_46 (by decide) ?_
            have hP9 := hP.sub (ws' := []) [] rfl
            have hD9 := hD.sub (ws' := []) [] (by decide) rfl
            subst hQ
            exact W.zret (v := 0) hx hb hr rfl (fun t ht hW => qi_mk (by rw [ht]; exact ⟨(rst_0a (fun q => absurd c_15 (le_nlt (((bs_iff _ _ _ _).mp q).2.2.1)))).symm, hP9, hD9⟩) (hS.F ht)) hS.2.2 dX12_isRest_47
          · refine lv_iload_n hx hb dX12_isRest_28 rfl (lv_at hl 1 rfl) ?_
            refine lv_iload_n hx hb dX12_isRest_29 rfl (lv_at hl 2 rfl) ?_
            refine lv_iload hx hb dX12_isRest_30 (lv_at hl 0 rfl) ?_
            refine lv_iload_n hx hb dX12_isRest_32 rfl (lv_at hl 3 rfl) ?_
            refine x_i (wr := []) hP hD hS hA [] [] rfl rfl (by decide) (by decide) (va_runS (As := [.int a0, .int a1, .int 3, .int a2]) (rest := []) ⟨hx, hb, hml, hown, hts⟩ (c_X12_gets l D cy a0 a1 3 a2 H.size) (va_cwS 4 hts (gS km_X12_516 kt_X12_gets kn_X12 kc_X12_gets) rfl rfl rfl (by decide +kernel) ⟨(Nat.le_of_ble_eq_true rfl), (Nat.le_of_ble_eq_true rfl)⟩) (preS hG hP hD [] rfl (by decide)) rfl rfl hl.1 rfl (lv_room (Nat.le_of_ble_eq_true rfl)) dX12_isRest_33 ⟨(Nat.le_of_ble_eq_true rfl), (Nat.le_of_ble_eq_true rfl)⟩) (fun r_16 H locs hB hj hS => ?_)
            obtain ⟨hres, hP1, hD1⟩ := hB
            subst hres
            obtain ⟨hP, hD⟩ := hj _ hP1 hD1
            have hP : va_P D vwCl [] H := hP
            have hD : va_D A [] := hD
            refine lv_iload_n hx hb dX12_isRest_36 rfl (lv_at hl 1 rfl) ?_
            refine lv_iload_n hx hb dX12_isRest_37 rfl (lv_at hl 2 rfl) ?_
            refine lv_iload_n hx hb dX12_isRest_38 rfl (lv_at hl 4 rfl) ?_
            refine lv_iload_n hx hb dX12_isRest_39 rfl (lv_at hl 3 rfl) ?_
            refine x_i (wr := []) hP hD hS hA [] [] rfl rfl (by decide) (by decide) (va_runS (As := [.int a0, .int a1, .int a3, .int a2]) (rest := [.int (gg 3 a2 a0 a1)]) ⟨hx, hb, hml, hown, hts⟩ (c_X12_gets l D cy a0 a1 a3 a2 H.size) (va_cwS 4 hts (gS km_X12_516 kt_X12_gets kn_X12 kc_X12_gets) rfl rfl rfl (by decide +kernel) ⟨(Nat.le_of_ble_eq_true rfl), (Nat.le_of_ble_eq_true rfl)⟩) (preS hG hP hD [] rfl (by decide)) rfl rfl hl.1 rfl (lv_room (Nat.le_of_ble_eq_true rfl)) dX12_isRest_40 ⟨(Nat.le_of_ble_eq_true rfl), (Nat.le_of_ble_eq_true rfl)⟩) (fun r_17 H locs hB hj hS => ?_)
            obtain ⟨hres, hP1, hD1⟩ := hB
            subst hres
            obtain ⟨hP, hD⟩ := hj _ hP1 hD1
            have hP : va_P D vwCl [] H := hP
            have hD : va_D A [] := hD
            refine lv_icmp_le (tgt := 48) hx hb dX12_isRest_43 (by decide) (fun c_18 => ?_) (fun c_18 => ?_)
            · refine lv_iinc (v := 4) (lv' := [(4, .int 4), (0, .int a0), (1, .int a1), (2, .int a2), (3, .int a3)]) hx hb dX12_isRest_48 hl (k := 0) rfl (by decide) (by decide) rfl (fun ls hl => ?_)
              refine lv_goto (tgt := 3) hx hb dX12_isRest_51 (by decide) ?_
              refine lv_iload hx hb dX12_isRest_3 (lv_at hl 0 rfl) ?_
              refine lv_bipush (v := 6) hx hb dX12_isRest_5 (by decide) ?_
              refine lv_icmp_ge (tgt := 54) hx hb dX12_isRest_7 (by decide) (fun c_ => absurd c_ (by decide)) (fun _ => ?_)
              refine lv_iload_n hx hb dX12_isRest_10 rfl (lv_at hl 1 rfl) ?_
              refine lv_iload_n hx hb dX12_isRest_11 rfl (lv_at hl 2 rfl) ?_
              refine lv_iload hx hb dX12_isRest_12 (lv_at hl 0 rfl) ?_
              refine lv_iload_n hx hb dX12_isRest_14 rfl (lv_at hl 4 rfl) ?_
              refine x_i (wr := []) hP hD hS hA [] [] rfl rfl (by decide) (by decide) (va_runS (As := [.int a0, .int a1, .int 4, .int a3]) (rest := []) ⟨hx, hb, hml, hown, hts⟩ (c_X12_gets l D cy a0 a1 4 a3 H.size) (va_cwS 4 hts (gS km_X12_516 kt_X12_gets kn_X12 kc_X12_gets) rfl rfl rfl (by decide +kernel) ⟨(Nat.le_of_ble_eq_true rfl), (Nat.le_of_ble_eq_true rfl)⟩) (preS hG hP hD [] rfl (by decide)) rfl rfl hl.1 rfl (lv_room (Nat.le_of_ble_eq_true rfl)) dX12_isRest_15 ⟨(Nat.le_of_ble_eq_true rfl), (Nat.le_of_ble_eq_true rfl)⟩) (fun r_19 H locs hB hj hS => ?_)
              obtain ⟨hres, hP1, hD1⟩ := hB
              subst hres
              obtain ⟨hP, hD⟩ := hj _ hP1 hD1
              have hP : va_P D vwCl [] H := hP
              have hD : va_D A [] := hD
              refine lv_iload_n hx hb dX12_isRest_18 rfl (lv_at hl 1 rfl) ?_
              refine lv_iload_n hx hb dX12_isRest_19 rfl (lv_at hl 2 rfl) ?_
              refine lv_iload_n hx hb dX12_isRest_20 rfl (lv_at hl 3 rfl) ?_
              refine lv_iload_n hx hb dX12_isRest_21 rfl (lv_at hl 4 rfl) ?_
              refine x_i (wr := []) hP hD hS hA [] [] rfl rfl (by decide) (by decide) (va_runS (As := [.int a0, .int a1, .int a2, .int a3]) (rest := [.int (gg 4 a3 a0 a1)]) ⟨hx, hb, hml, hown, hts⟩ (c_X12_gets l D cy a0 a1 a2 a3 H.size) (va_cwS 4 hts (gS km_X12_516 kt_X12_gets kn_X12 kc_X12_gets) rfl rfl rfl (by decide +kernel) ⟨(Nat.le_of_ble_eq_true rfl), (Nat.le_of_ble_eq_true rfl)⟩) (preS hG hP hD [] rfl (by decide)) rfl rfl hl.1 rfl (lv_room (Nat.le_of_ble_eq_true rfl)) dX12_isRest_22 ⟨(Nat.le_of_ble_eq_true rfl), (Nat.le_of_ble_eq_true rfl)⟩) (fun r_20 H locs hB hj hS => ?_)
              obtain ⟨hres, hP1, hD1⟩ := hB
              subst hres
              obtain ⟨hP, hD⟩ := hj _ hP1 hD1
              have hP : va_P D vwCl [] H := hP
              have hD : va_D A [] := hD
              refine lv_icmp_gt (tgt := 46) hx hb dX12_isRest_25 (by decide) (fun c_21 => ?_) (fun c_21 => ?_)
              · refine lv_iconst (v := 0) hx hb dX12_isRest_46 (by decide) ?_
                have hP9 := hP.sub (ws' := []) [] rfl
                have hD9 := hD.sub (ws' := []) [] (by decide) rfl
                subst hQ
                exact W.zret (v := 0) hx hb hr rfl (fun t ht hW => qi_mk (by rw [ht]; exact ⟨(rst_0a (fun q => absurd c_21 (le_nlt (((bs_iff _ _ _ _).mp q).2.2.2.1)))).symm, hP9, hD9⟩) (hS.F ht)) hS.2.2 dX12_isRest_47
              · refine lv_iload_n hx hb dX12_isRest_28 rfl (lv_at hl 1 rfl) ?_
                refine lv_iload_n hx hb dX12_isRest_29 rfl (lv_at hl 2 rfl) ?_
                refine lv_iload hx hb dX12_isRest_30 (lv_at hl 0 rfl) ?_
                refine lv_iload_n hx hb dX12_isRest_32 rfl (lv_at hl 3 rfl) ?_
                refine x_i (wr := []) hP hD hS hA [] [] rfl rfl (by decide) (by decide) (va_runS (As := [.int a0, .int a1, .int 4, .int a2]) (rest := []) ⟨hx, hb, hml, hown, hts⟩ (c_X12_gets l D cy a0 a1 4 a2 H.size) (va_cwS 4 hts (gS km_X12_516 kt_X12_gets kn_X12 kc_X12_gets) rfl rfl rfl (by decide +kernel) ⟨(Nat.le_of_ble_eq_true rfl), (Nat.le_of_ble_eq_true rfl)⟩) (preS hG hP hD [] rfl (by decide)) rfl rfl hl.1 rfl (lv_room (Nat.le_of_ble_eq_true rfl)) dX12_isRest_33 ⟨(Nat.le_of_ble_eq_true rfl), (Nat.le_of_ble_eq_true rfl)⟩) (fun r_22 H locs hB hj hS => ?_)
                obtain ⟨hres, hP1, hD1⟩ := hB
                subst hres
                obtain ⟨hP, hD⟩ := hj _ hP1 hD1
                have hP : va_P D vwCl [] H := hP
                have hD : va_D A [] := hD
                refine lv_iload_n hx hb dX12_isRest_36 rfl (lv_at hl 1 rfl) ?_
                refine lv_iload_n hx hb dX12_isRest_37 rfl (lv_at hl 2 rfl) ?_
                refine lv_iload_n hx hb dX12_isRest_38 rfl (lv_at hl 4 rfl) ?_
                refine lv_iload_n hx hb dX12_isRest_39 rfl (lv_at hl 3 rfl) ?_
                refine x_i (wr := []) hP hD hS hA [] [] rfl rfl (by decide) (by decide) (va_runS (As := [.int a0, .int a1, .int a3, .int a2]) (rest := [.int (gg 4 a2 a0 a1)]) ⟨hx, hb, hml, hown, hts⟩ (c_X12_gets l D cy a0 a1 a3 a2 H.size) (va_cwS 4 hts (gS km_X12_516 kt_X12_gets kn_X12 kc_X12_gets) rfl rfl rfl (by decide +kernel) ⟨(Nat.le_of_ble_eq_true rfl), (Nat.le_of_ble_eq_true rfl)⟩) (preS hG hP hD [] rfl (by decide)) rfl rfl hl.1 rfl (lv_room (Nat.le_of_ble_eq_true rfl)) dX12_isRest_40 ⟨(Nat.le_of_ble_eq_true rfl), (Nat.le_of_ble_eq_true rfl)⟩) (fun r_23 H locs hB hj hS => ?_)
                obtain ⟨hres, hP1, hD1⟩ := hB
                subst hres
                obtain ⟨hP, hD⟩ := hj _ hP1 hD1
                have hP : va_P D vwCl [] H := hP
                have hD : va_D A [] := hD
                refine lv_icmp_le (tgt := 48) hx hb dX12_isRest_43 (by decide) (fun c_24 => ?_) (fun c_24 => ?_)
                · refine lv_iinc (v := 5) (lv' := [(4, .int 5), (0, .int a0), (1, .int a1), (2, .int a2), (3, .int a3)]) hx hb dX12_isRest_48 hl (k := 0) rfl (by decide) (by decide) rfl (fun ls hl => ?_)
                  refine lv_goto (tgt := 3) hx hb dX12_isRest_51 (by decide) ?_
                  refine lv_iload hx hb dX12_isRest_3 (lv_at hl 0 rfl) ?_
                  refine lv_bipush (v := 6) hx hb dX12_isRest_5 (by decide) ?_
                  refine lv_icmp_ge (tgt := 54) hx hb dX12_isRest_7 (by decide) (fun c_ => absurd c_ (by decide)) (fun _ => ?_)
                  refine lv_iload_n hx hb dX12_isRest_10 rfl (lv_at hl 1 rfl) ?_
                  refine lv_iload_n hx hb dX12_isRest_11 rfl (lv_at hl 2 rfl) ?_
                  refine lv_iload hx hb dX12_isRest_12 (lv_at hl 0 rfl) ?_
                  refine lv_iload_n hx hb dX12_isRest_14 rfl (lv_at hl 4 rfl) ?_
                  refine x_i (wr := []) hP hD hS hA [] [] rfl rfl (by decide) (by decide) (va_runS (As := [.int a0, .int a1, .int 5, .int a3]) (rest := []) ⟨hx, hb, hml, hown, hts⟩ (c_X12_gets l D cy a0 a1 5 a3 H.size) (va_cwS 4 hts (gS km_X12_516 kt_X12_gets kn_X12 kc_X12_gets) rfl rfl rfl (by decide +kernel) ⟨(Nat.le_of_ble_eq_true rfl), (Nat.le_of_ble_eq_true rfl)⟩) (preS hG hP hD [] rfl (by decide)) rfl rfl hl.1 rfl (lv_room (Nat.le_of_ble_eq_true rfl)) dX12_isRest_15 ⟨(Nat.le_of_ble_eq_true rfl), (Nat.le_of_ble_eq_true rfl)⟩) (fun r_25 H locs hB hj hS => ?_)
                  obtain ⟨hres, hP1, hD1⟩ := hB
                  subst hres
                  obtain ⟨hP, hD⟩ := hj _ hP1 hD1
                  have hP : va_P D vwCl [] H := hP
                  have hD : va_D A [] := hD
                  refine lv_iload_n hx hb dX12_isRest_18 rfl (lv_at hl 1 rfl) ?_
                  refine lv_iload_n hx hb dX12_isRest_19 rfl (lv_at hl 2 rfl) ?_
                  refine lv_iload_n hx hb dX12_isRest_20 rfl (lv_at hl 3 rfl) ?_
                  refine lv_iload_n hx hb dX12_isRest_21 rfl (lv_at hl 4 rfl) ?_
                  refine x_i (wr := []) hP hD hS hA [] [] rfl rfl (by decide) (by decide) (va_runS (As := [.int a0, .int a1, .int a2, .int a3]) (rest := [.int (gg 5 a3 a0 a1)]) ⟨hx, hb, hml, hown, hts⟩ (c_X12_gets l D cy a0 a1 a2 a3 H.size) (va_cwS 4 hts (gS km_X12_516 kt_X12_gets kn_X12 kc_X12_gets) rfl rfl rfl (by decide +kernel) ⟨(Nat.le_of_ble_eq_true rfl), (Nat.le_of_ble_eq_true rfl)⟩) (preS hG hP hD [] rfl (by decide)) rfl rfl hl.1 rfl (lv_room (Nat.le_of_ble_eq_true rfl)) dX12_isRest_22 ⟨(Nat.le_of_ble_eq_true rfl), (Nat.le_of_ble_eq_true rfl)⟩) (fun r_26 H locs hB hj hS => ?_)
                  obtain ⟨hres, hP1, hD1⟩ := hB
                  subst hres
                  obtain ⟨hP, hD⟩ := hj _ hP1 hD1
                  have hP : va_P D vwCl [] H := hP
                  have hD : va_D A [] := hD
                  refine lv_icmp_gt (tgt := 46) hx hb dX12_isRest_25 (by decide) (fun c_27 => ?_) (fun c_27 => ?_)
                  · refine lv_iconst (v := 0) hx hb dX12_isRest_46 (by decide) ?_
                    have hP9 := hP.sub (ws' := []) [] rfl
                    have hD9 := hD.sub (ws' := []) [] (by decide) rfl
                    subst hQ
                    exact W.zret (v := 0) hx hb hr rfl (fun t ht hW => qi_mk (by rw [ht]; exact ⟨(rst_0a (fun q => absurd c_27 (le_nlt (((bs_iff _ _ _ _).mp q).2.2.2.2)))).symm, hP9, hD9⟩) (hS.F ht)) hS.2.2 dX12_isRest_47
                  · refine lv_iload_n hx hb dX12_isRest_28 rfl (lv_at hl 1 rfl) ?_
                    refine lv_iload_n hx hb dX12_isRest_29 rfl (lv_at hl 2 rfl) ?_
                    refine lv_iload hx hb dX12_isRest_30 (lv_at hl 0 rfl) ?_
                    refine lv_iload_n hx hb dX12_isRest_32 rfl (lv_at hl 3 rfl) ?_
                    refine x_i (wr := []) hP hD hS hA [] [] rfl rfl (by decide) (by decide) (va_runS (As := [.int a0, .int a1, .int 5, .int a2]) (rest := []) ⟨hx, hb, hml, hown, hts⟩ (c_X12_gets l D cy a0 a1 5 a2 H.size) (va_cwS 4 hts (gS km_X12_516 kt_X12_gets kn_X12 kc_X12_gets) rfl rfl rfl (by decide +kernel) ⟨(Nat.le_of_ble_eq_true rfl), (Nat.le_of_ble_eq_true rfl)⟩) (preS hG hP hD [] rfl (by decide)) rfl rfl hl.1 rfl (lv_room (Nat.le_of_ble_eq_true rfl)) dX12_isRest_33 ⟨(Nat.le_of_ble_eq_true rfl), (Nat.le_of_ble_eq_true rfl)⟩) (fun r_28 H locs hB hj hS => ?_)
                    obtain ⟨hres, hP1, hD1⟩ := hB
                    subst hres
                    obtain ⟨hP, hD⟩ := hj _ hP1 hD1
                    have hP : va_P D vwCl [] H := hP
                    have hD : va_D A [] := hD
                    refine lv_iload_n hx hb dX12_isRest_36 rfl (lv_at hl 1 rfl) ?_
                    refine lv_iload_n hx hb dX12_isRest_37 rfl (lv_at hl 2 rfl) ?_
                    refine lv_iload_n hx hb dX12_isRest_38 rfl (lv_at hl 4 rfl) ?_
                    refine lv_iload_n hx hb dX12_isRest_39 rfl (lv_at hl 3 rfl) ?_
                    refine x_i (wr := []) hP hD hS hA [] [] rfl rfl (by decide) (by decide) (va_runS (As := [.int a0, .int a1, .int a3, .int a2]) (rest := [.int (gg 5 a2 a0 a1)]) ⟨hx, hb, hml, hown, hts⟩ (c_X12_gets l D cy a0 a1 a3 a2 H.size) (va_cwS 4 hts (gS km_X12_516 kt_X12_gets kn_X12 kc_X12_gets) rfl rfl rfl (by decide +kernel) ⟨(Nat.le_of_ble_eq_true rfl), (Nat.le_of_ble_eq_true rfl)⟩) (preS hG hP hD [] rfl (by decide)) rfl rfl hl.1 rfl (lv_room (Nat.le_of_ble_eq_true rfl)) dX12_isRest_40 ⟨(Nat.le_of_ble_eq_true rfl), (Nat.le_of_ble_eq_true rfl)⟩) (fun r_29 H locs hB hj hS => ?_)
                    obtain ⟨hres, hP1, hD1⟩ := hB
                    subst hres
                    obtain ⟨hP, hD⟩ := hj _ hP1 hD1
                    have hP : va_P D vwCl [] H := hP
                    have hD : va_D A [] := hD
                    refine lv_icmp_le (tgt := 48) hx hb dX12_isRest_43 (by decide) (fun c_30 => ?_) (fun c_30 => ?_)
                    · refine lv_iinc (v := 6) (lv' := [(4, .int 6), (0, .int a0), (1, .int a1), (2, .int a2), (3, .int a3)]) hx hb dX12_isRest_48 hl (k := 0) rfl (by decide) (by decide) rfl (fun ls hl => ?_)
                      refine lv_goto (tgt := 3) hx hb dX12_isRest_51 (by decide) ?_
                      refine lv_iload hx hb dX12_isRest_3 (lv_at hl 0 rfl) ?_
                      refine lv_bipush (v := 6) hx hb dX12_isRest_5 (by decide) ?_
                      refine lv_icmp_ge (tgt := 54) hx hb dX12_isRest_7 (by decide) (fun _ => ?_) (fun c_ => absurd (by decide) c_)
                      refine lv_iconst (v := 1) hx hb dX12_isRest_54 (by decide) ?_
                      have hP9 := hP.sub (ws' := []) [] rfl
                      have hD9 := hD.sub (ws' := []) [] (by decide) rfl
                      subst hQ
                      exact W.zret (v := 1) hx hb hr rfl (fun t ht hW => qi_mk (by rw [ht]; exact ⟨(rst_1 ((bs_iff _ _ _ _).mpr ⟨nlt_le c_3, nlt_le c_9, nlt_le c_15, nlt_le c_21, nlt_le c_27⟩) ((bs_iff _ _ _ _).mpr ⟨c_6, c_12, c_18, c_24, c_30⟩)).symm, hP9, hD9⟩) (hS.F ht)) hS.2.2 dX12_isRest_55
                    · refine lv_iconst (v := 0) hx hb dX12_isRest_46 (by decide) ?_
                      have hP9 := hP.sub (ws' := []) [] rfl
                      have hD9 := hD.sub (ws' := []) [] (by decide) rfl
                      subst hQ
                      exact W.zret (v := 0) hx hb hr rfl (fun t ht hW => qi_mk (by rw [ht]; exact ⟨(rst_0b (fun q => absurd (((bs_iff _ _ _ _).mp q).2.2.2.2) c_30)).symm, hP9, hD9⟩) (hS.F ht)) hS.2.2 dX12_isRest_47
                · refine lv_iconst (v := 0) hx hb dX12_isRest_46 (by decide) ?_
                  have hP9 := hP.sub (ws' := []) [] rfl
                  have hD9 := hD.sub (ws' := []) [] (by decide) rfl
                  subst hQ
                  exact W.zret (v := 0) hx hb hr rfl (fun t ht hW => qi_mk (by rw [ht]; exact ⟨(rst_0b (fun q => absurd (((bs_iff _ _ _ _).mp q).2.2.2.1) c_24)).symm, hP9, hD9⟩) (hS.F ht)) hS.2.2 dX12_isRest_47
            · refine lv_iconst (v := 0) hx hb dX12_isRest_46 (by decide) ?_
              have hP9 := hP.sub (ws' := []) [] rfl
              have hD9 := hD.sub (ws' := []) [] (by decide) rfl
              subst hQ
              exact W.zret (v := 0) hx hb hr rfl (fun t ht hW => qi_mk (by rw [ht]; exact ⟨(rst_0b (fun q => absurd (((bs_iff _ _ _ _).mp q).2.2.1) c_18)).symm, hP9, hD9⟩) (hS.F ht)) hS.2.2 dX12_isRest_47
        · refine lv_iconst (v := 0) hx hb dX12_isRest_46 (by decide) ?_
          have hP9 := hP.sub (ws' := []) [] rfl
          have hD9 := hD.sub (ws' := []) [] (by decide) rfl
          subst hQ
          exact W.zret (v := 0) hx hb hr rfl (fun t ht hW => qi_mk (by rw [ht]; exact ⟨(rst_0b (fun q => absurd (((bs_iff _ _ _ _).mp q).2.1) c_12)).symm, hP9, hD9⟩) (hS.F ht)) hS.2.2 dX12_isRest_47
    · refine lv_iconst (v := 0) hx hb dX12_isRest_46 (by decide) ?_
      have hP9 := hP.sub (ws' := []) [] rfl
      have hD9 := hD.sub (ws' := []) [] (by decide) rfl
      subst hQ
      exact W.zret (v := 0) hx hb hr rfl (fun t ht hW => qi_mk (by rw [ht]; exact ⟨(rst_0b (fun q => absurd (((bs_iff _ _ _ _).mp q).1) c_6)).symm, hP9, hD9⟩) (hS.F ht)) hS.2.2 dX12_isRest_47
set_option maxHeartbeats 4000000 in
set_option maxRecDepth 100000 in
theorem c_X11_findRests (l : Launch) (D : va_G) (cy : Nat → ClassId) (h0 : Nat) (n_1 : Int32) (n_2 : Int32) (q_1 : Nat) (q_3 : Nat) (q_4 : Nat) (q_25 : Nat) (q_46 : Nat) (q_50 : Nat) (q_54 : Nat) (q_58 : Nat) (q_62 : Nat) (q_63 : Nat) (q_64 : Nat) (q_67 : Nat) (q_85 : Nat) (q_90 : Nat) (q_93 : Nat) (f0 : Nat → Int32) (a1 : Int32) (a2 : Int32) (sz : Nat) : Met l yX11_findRests (Cond.code yX11_findRests cX11_findRests 6 (some .int) :: bigG) ({ frames := 3, cells := 0, slots := 0, locals := 69 }) (pre D cy [.ref h0, .int a1, .int a2] sz [(h0, .inr (11, [.ref q_1, .ref q_3, .ref q_4, .ref q_25, .ref q_46, .ref q_50, .ref q_54, .ref q_58, .ref q_62, .int n_1, .int n_2, .ref q_63, .ref q_64, .ref q_67, .ref q_85, .ref q_90, .ref q_93])), (q_93, .inl (cy 1, 25, .inl f0))]) (qi (fun r h => ∃ (g : Nat → Int32), r = nI (outr a1 a2 5).length ∧ hold g (outr a1 a2 5) ∧ va_P D vwCl [(h0, .inr (11, [.ref q_1, .ref q_3, .ref q_4, .ref q_25, .ref q_46, .ref q_50, .ref q_54, .ref q_58, .ref q_62, .int n_1, .int n_2, .ref q_63, .ref q_64, .ref q_67, .ref q_85, .ref q_90, .ref q_93])), (q_93, .inl (cy 1, 25, .inl g))] h ∧ va_D (va_A [(h0, .inr (11, [.ref q_1, .ref q_3, .ref q_4, .ref q_25, .ref q_46, .ref q_50, .ref q_54, .ref q_58, .ref q_62, .int n_1, .int n_2, .ref q_63, .ref q_64, .ref q_67, .ref q_85, .ref q_90, .ref q_93])), (q_93, .inl (cy 1, 25, .inl f0))] sz) [(h0, .inr (11, [.ref q_1, .ref q_3, .ref q_4, .ref q_25, .ref q_46, .ref q_50, .ref q_54, .ref q_58, .ref q_62, .int n_1, .int n_2, .ref q_63, .ref q_64, .ref q_67, .ref q_85, .ref q_90, .ref q_93])), (q_93, .inl (cy 1, 25, .inl g))]) (va_A [(h0, .inr (11, [.ref q_1, .ref q_3, .ref q_4, .ref q_25, .ref q_46, .ref q_50, .ref q_54, .ref q_58, .ref q_62, .int n_1, .int n_2, .ref q_63, .ref q_64, .ref q_67, .ref q_85, .ref q_90, .ref q_93])), (q_93, .inl (cy 1, 25, .inl f0))] sz)) 0 0 (va_A [(h0, .inr (11, [.ref q_1, .ref q_3, .ref q_4, .ref q_25, .ref q_46, .ref q_50, .ref q_54, .ref q_58, .ref q_62, .int n_1, .int n_2, .ref q_63, .ref q_64, .ref q_67, .ref q_85, .ref q_90, .ref q_93])), (q_93, .inl (cy 1, 25, .inl f0))] sz) := by
  refine Met.ofW (cc := cX11_findRests) (maxL := 6) (ret := (some .int)) (by decide) rfl ?_
  intro p e s m args below meth c s₁ B hml hv
  obtain ⟨rfl, hsz, hP, hG, hD0⟩ := hv
  have hx := B.exec
  have hb := B.bytes
  have hr := B.returns
  have hts := atoms_spec (ws := (Cond.code yX11_findRests cX11_findRests 6 (some .int) :: bigG)) B.pre
  have hg : ∀ w ∈ bigG, w.before ([.ref h0, .int a1, .int a2] : List Value).toArray s = true := fun w h => hts w (List.mem_cons_of_mem _ h)
  have hown : s.vm.findClass RX11 = some m.cls := findClass_of_methodNamed B.named
  have hlocks := B.notSynchronized
  subst hsz
  have hD := hD0.self (sz := s.heap.size)
  generalize hAe : va_A [(h0, .inr (11, [.ref q_1, .ref q_3, .ref q_4, .ref q_25, .ref q_46, .ref q_50, .ref q_54, .ref q_58, .ref q_62, .int n_1, .int n_2, .ref q_63, .ref q_64, .ref q_67, .ref q_85, .ref q_90, .ref q_93])), (q_93, .inl (cy 1, 25, .inl f0))] s.heap.size = A at hD ⊢
  have hA : ∀ q : Nat, s.heap.size ≤ q → A q := fun q h => by rw [← hAe]; exact Or.inr h
  have hS : va_S A s.heap s.heap [] := va_S.rf
  have hP : va_P D vwCl [(h0, .inr (11, [.ref q_1, .ref q_3, .ref q_4, .ref q_25, .ref q_46, .ref q_50, .ref q_54, .ref q_58, .ref q_62, .int n_1, .int n_2, .ref q_63, .ref q_64, .ref q_67, .ref q_85, .ref q_90, .ref q_93])), (q_93, .inl (cy 1, 25, .inl f0))] s.heap := hP
  have hl := lv_entry ([.ref h0, .int a1, .int a2]) (n := 6) (Nat.le_of_ble_eq_true rfl)
  rw [lg_entry_eq]
  generalize (lg_sl ([.ref h0, .int a1, .int a2]) ++ List.replicate (6 - (lg_sl ([.ref h0, .int a1, .int a2])).length) Slot.unset).toArray = ls at hl ⊢
  have hl : lv_has ls 6 [(0, .ref h0), (1, .int a1), (2, .int a2)] := hl
  refine w_nm (fun Q hQ => ?_)
  refine lv_iconst (v := 0) hx hb dX11_findRests_0 (by decide) ?_
  refine lv_istore_n (lv' := [(3, .int 0), (0, .ref h0), (1, .int a1), (2, .int a2)]) hx hb dX11_findRests_1 rfl hl (by decide) rfl (fun ls hl => ?_)
  refine lv_iconst (v := 1) hx hb dX11_findRests_2 (by decide) ?_
  refine lv_istore (lv' := [(4, .int 1), (3, .int 0), (0, .ref h0), (1, .int a1), (2, .int a2)]) hx hb dX11_findRests_3 hl (by decide) rfl (fun ls hl => ?_)
  have LP_1 : ∀ (n_ : Nat) (n : Nat) (x4 : Int32) (x3 : Int32) (f : Nat → Int32), 5 - n < n_ → n ≤ 5 → x4 = nI (n + 1) → x3 = nI (outr a1 a2 n).length → hold f (outr a1 a2 n) → ∀ (H : Heap) (locs : List Loc), va_P D vwCl [(h0, .inr (11, [.ref q_1, .ref q_3, .ref q_4, .ref q_25, .ref q_46, .ref q_50, .ref q_54, .ref q_58, .ref q_62, .int n_1, .int n_2, .ref q_63, .ref q_64, .ref q_67, .ref q_85, .ref q_90, .ref q_93])), (q_93, .inl (cy 1, 25, .inl f))] H → va_D A [(h0, .inr (11, [.ref q_1, .ref q_3, .ref q_4, .ref q_25, .ref q_46, .ref q_50, .ref q_54, .ref q_58, .ref q_62, .int n_1, .int n_2, .ref q_63, .ref q_64, .ref q_67, .ref q_85, .ref q_90, .ref q_93])), (q_93, .inl (cy 1, 25, .inl f))] → va_S A s.heap H locs → ∀ (ls : Array Slot), lv_has ls 6 [(0, .ref h0), (1, .int a1), (2, .int a2), (3, .int x3), (4, .int x4)] → W p l e (headSpec (Cond.code yX11_findRests cX11_findRests 6 (some .int) :: bigG) { frames := 3, cells := 0, slots := 0, locals := 69 }).room s m ([.ref h0, .int a1, .int a2] : List Value).toArray below meth c H locs 0 0 Q (F0 m 5 ls []) := by
    intro n_
    induction n_ with
    | zero => intro n x4 x3 f hm_; exact absurd hm_ (Nat.not_lt_zero _)
    | succ n_ ih =>
      intro n x4 x3 f hm_ hn ex4 ex3 hf H locs hP hD hS ls hl
      refine lv_iload hx hb dX11_findRests_5 (lv_at hl 4 rfl) ?_
      refine lv_iconst (v := 5) hx hb dX11_findRests_7 (by decide) ?_
      refine lv_icmp_gt (tgt := 73) hx hb dX11_findRests_8 (by decide) (fun c_2 => ?_) (fun c_2 => ?_)
      · have hn5 : n = 5 := Nat.le_antisymm hn (Nat.le_of_not_lt fun q => absurd c_2 (by rw [ex4]; exact nI_nlt (a := 5) (by omega) (by decide)))
        refine lv_iload_n hx hb dX11_findRests_73 rfl (lv_at hl 3 rfl) ?_
        have hP9 := hP.sub (ws' := [(h0, .inr (11, [.ref q_1, .ref q_3, .ref q_4, .ref q_25, .ref q_46, .ref q_50, .ref q_54, .ref q_58, .ref q_62, .int n_1, .int n_2, .ref q_63, .ref q_64, .ref q_67, .ref q_85, .ref q_90, .ref q_93])), (q_93, .inl (cy 1, 25, .inl f))]) [0, 1] rfl
        have hD9 := hD.sub (ws' := [(h0, .inr (11, [.ref q_1, .ref q_3, .ref q_4, .ref q_25, .ref q_46, .ref q_50, .ref q_54, .ref q_58, .ref q_62, .int n_1, .int n_2, .ref q_63, .ref q_64, .ref q_67, .ref q_85, .ref q_90, .ref q_93])), (q_93, .inl (cy 1, 25, .inl f))]) [0, 1] (by decide) rfl
        subst hQ
        exact W.iret (v := x3) hx hb hr (fun t ht hW => qi_mk (by rw [ht]; exact ⟨f, (by rw [ex3, hn5]), (by rw [← hn5]; exact hf), hP9, hD9⟩) (hS.F ht)) hS.2.2 dX11_findRests_74
      · have hlt5 : n < 5 := Nat.lt_of_not_le fun q => c_2 (by rw [ex4, show n = 5 from Nat.le_antisymm hn q]; decide)
        refine lv_iconst (v := 1) hx hb dX11_findRests_11 (by decide) ?_
        refine lv_istore (lv' := [(5, .int 1), (0, .ref h0), (1, .int a1), (2, .int a2), (3, .int x3), (4, .int x4)]) hx hb dX11_findRests_12 hl (by decide) rfl (fun ls hl => ?_)
        have LP_3 : ∀ (n_ : Nat) (k : Nat) (y5 : Int32) (z3 : Int32) (g : Nat → Int32), 5 - k < n_ → k ≤ 5 → y5 = nI (k + 1) → z3 = nI (rl a1 a2 n k).length → hold g (rl a1 a2 n k) → ∀ (H : Heap) (locs : List Loc), va_P D vwCl [(h0, .inr (11, [.ref q_1, .ref q_3, .ref q_4, .ref q_25, .ref q_46, .ref q_50, .ref q_54, .ref q_58, .ref q_62, .int n_1, .int n_2, .ref q_63, .ref q_64, .ref q_67, .ref q_85, .ref q_90, .ref q_93])), (q_93, .inl (cy 1, 25, .inl g))] H → va_D A [(h0, .inr (11, [.ref q_1, .ref q_3, .ref q_4, .ref q_25, .ref q_46, .ref q_50, .ref q_54, .ref q_58, .ref q_62, .int n_1, .int n_2, .ref q_63, .ref q_64, .ref q_67, .ref q_85, .ref q_90, .ref q_93])), (q_93, .inl (cy 1, 25, .inl g))] → va_S A s.heap H locs → ∀ (ls : Array Slot), lv_has ls 6 [(0, .ref h0), (1, .int a1), (2, .int a2), (3, .int z3), (4, .int x4), (5, .int y5)] → W p l e (headSpec (Cond.code yX11_findRests cX11_findRests 6 (some .int) :: bigG) { frames := 3, cells := 0, slots := 0, locals := 69 }).room s m ([.ref h0, .int a1, .int a2] : List Value).toArray below meth c H locs 0 0 Q (F0 m 14 ls []) := by
          intro n_
          induction n_ with
          | zero => intro k y5 z3 g hm_; exact absurd hm_ (Nat.not_lt_zero _)
          | succ n_ ih14 =>
            intro k y5 z3 g hm14_ hk ey5 ez3 hg_ H locs hP hD hS ls hl
            refine lv_iload hx hb dX11_findRests_14 (lv_at hl 5 rfl) ?_
            refine lv_iconst (v := 5) hx hb dX11_findRests_16 (by decide) ?_
            refine lv_icmp_gt (tgt := 67) hx hb dX11_findRests_17 (by decide) (fun c_4 => ?_) (fun c_4 => ?_)
            · have hk5 : k = 5 := Nat.le_antisymm hk (Nat.le_of_not_lt fun q => absurd c_4 (by rw [ey5]; exact nI_nlt (a := 5) (by omega) (by decide)))
              obtain ⟨x4_5, ex4_5⟩ : ∃ y : Int32, y = x4 + 1 := ⟨_, rfl⟩
              refine lv_iinc (v := x4_5) (lv' := [(4, .int x4_5), (0, .ref h0), (1, .int a1), (2, .int a2), (3, .int z3), (5, .int y5)]) hx hb dX11_findRests_67 hl (k := 4) rfl (by rw [ex4_5]; rfl) (by decide) rfl (fun ls hl => ?_)
              refine lv_goto (tgt := 5) hx hb dX11_findRests_70 (by decide) ?_
              exact ih (n + 1) x4_5 z3 g (by omega) hlt5 (by rw [ex4_5, ex4]; exact nI_1 (n + 1)) (by rw [ez3, hk5]; rfl) (by have q := hg_; rw [hk5] at q; exact q) _ _ (hP.sub [0, 1] rfl) (hD.sub [0, 1] (by decide) rfl) hS ls (lv_sub hl [1, 2, 3, 4, 0] rfl)
            · have hk4 : k < 5 := Nat.lt_of_not_le fun q => c_4 (by rw [ey5, show k = 5 from Nat.le_antisymm hk q]; decide)
              refine lv_iload hx hb dX11_findRests_20 (lv_at hl 4 rfl) ?_
              refine lv_iload hx hb dX11_findRests_22 (lv_at hl 5 rfl) ?_
              refine lv_iload_n hx hb dX11_findRests_24 rfl (lv_at hl 1 rfl) ?_
              refine lv_iload_n hx hb dX11_findRests_25 rfl (lv_at hl 2 rfl) ?_
              refine x_i (wr := [(h0, .inr (11, [.ref q_1, .ref q_3, .ref q_4, .ref q_25, .ref q_46, .ref q_50, .ref q_54, .ref q_58, .ref q_62, .int n_1, .int n_2, .ref q_63, .ref q_64, .ref q_67, .ref q_85, .ref q_90, .ref q_93])), (q_93, .inl (cy 1, 25, .inl g))]) hP hD hS hA [] [0, 1] rfl rfl (by decide) (by decide) (va_runS (As := [.int x4, .int y5, .int a1, .int a2]) (rest := []) ⟨hx, hb, hml, hown, hts⟩ (c_X11_isBestFor l D cy x4 y5 a1 a2 H.size) (va_cwS 4 hts (gS km_X11_346 kt_X11_isBestFor kn_X11 kc_X11_isBestFor) rfl rfl rfl (by decide +kernel) ⟨(Nat.le_of_ble_eq_true rfl), (Nat.le_of_ble_eq_true rfl)⟩) (preS hG hP hD [] rfl (by decide)) rfl rfl hl.1 rfl (lv_room (Nat.le_of_ble_eq_true rfl)) dX11_findRests_26 ⟨(Nat.le_of_ble_eq_true rfl), (Nat.le_of_ble_eq_true rfl)⟩) (fun r_6 H locs hB hj hS => ?_)
              obtain ⟨hres, hP1, hD1⟩ := hB
              subst hres
              obtain ⟨hP, hD⟩ := hj _ hP1 hD1
              have hP : va_P D vwCl [(h0, .inr (11, [.ref q_1, .ref q_3, .ref q_4, .ref q_25, .ref q_46, .ref q_50, .ref q_54, .ref q_58, .ref q_62, .int n_1, .int n_2, .ref q_63, .ref q_64, .ref q_67, .ref q_85, .ref q_90, .ref q_93])), (q_93, .inl (cy 1, 25, .inl g))] H := hP
              have hD : va_D A [(h0, .inr (11, [.ref q_1, .ref q_3, .ref q_4, .ref q_25, .ref q_46, .ref q_50, .ref q_54, .ref q_58, .ref q_62, .int n_1, .int n_2, .ref q_63, .ref q_64, .ref q_67, .ref q_85, .ref q_90, .ref q_93])), (q_93, .inl (cy 1, 25, .inl g))] := hD
              refine lv_if_eq (tgt := 61) hx hb dX11_findRests_29 (by decide) (fun c_7 => ?_) (fun c_7 => ?_)
              · obtain ⟨x5_8, ex5_8⟩ : ∃ y : Int32, y = y5 + 1 := ⟨_, rfl⟩
                refine lv_iinc (v := x5_8) (lv' := [(5, .int x5_8), (0, .ref h0), (1, .int a1), (2, .int a2), (3, .int z3), (4, .int x4)]) hx hb dX11_findRests_61 hl (k := 5) rfl (by rw [ex5_8]; rfl) (by decide) rfl (fun ls hl => ?_)
                refine lv_goto (tgt := 14) hx hb dX11_findRests_64 (by decide) ?_
                have hr_ : rl a1 a2 n (k + 1) = rl a1 a2 n k := rl_no (by rw [← ex4, ← ey5]; exact (okb_no1 c_7))
                exact ih14 (k + 1) x5_8 z3 g (by omega) hk4 (by rw [ex5_8, ey5]; exact nI_1 (k + 1)) (by rw [hr_]; exact ez3) (by rw [hr_]; exact hg_) _ _ (hP.sub [0, 1] rfl) (hD.sub [0, 1] (by decide) rfl) hS ls (lv_sub hl [1, 2, 3, 4, 5, 0] rfl)
              · refine lv_iload hx hb dX11_findRests_32 (lv_at hl 5 rfl) ?_
                refine lv_iload hx hb dX11_findRests_34 (lv_at hl 4 rfl) ?_
                refine lv_iload_n hx hb dX11_findRests_36 rfl (lv_at hl 1 rfl) ?_
                refine lv_iload_n hx hb dX11_findRests_37 rfl (lv_at hl 2 rfl) ?_
                refine x_i (wr := [(h0, .inr (11, [.ref q_1, .ref q_3, .ref q_4, .ref q_25, .ref q_46, .ref q_50, .ref q_54, .ref q_58, .ref q_62, .int n_1, .int n_2, .ref q_63, .ref q_64, .ref q_67, .ref q_85, .ref q_90, .ref q_93])), (q_93, .inl (cy 1, 25, .inl g))]) hP hD hS hA [] [0, 1] rfl rfl (by decide) (by decide) (va_runS (As := [.int y5, .int x4, .int a1, .int a2]) (rest := []) ⟨hx, hb, hml, hown, hts⟩ (c_X11_isBestFor l D cy y5 x4 a1 a2 H.size) (va_cwS 4 hts (gS km_X11_346 kt_X11_isBestFor kn_X11 kc_X11_isBestFor) rfl rfl rfl (by decide +kernel) ⟨(Nat.le_of_ble_eq_true rfl), (Nat.le_of_ble_eq_true rfl)⟩) (preS hG hP hD [] rfl (by decide)) rfl rfl hl.1 rfl (lv_room (Nat.le_of_ble_eq_true rfl)) dX11_findRests_38 ⟨(Nat.le_of_ble_eq_true rfl), (Nat.le_of_ble_eq_true rfl)⟩) (fun r_9 H locs hB hj hS => ?_)
                obtain ⟨hres, hP1, hD1⟩ := hB
                subst hres
                obtain ⟨hP, hD⟩ := hj _ hP1 hD1
                have hP : va_P D vwCl [(h0, .inr (11, [.ref q_1, .ref q_3, .ref q_4, .ref q_25, .ref q_46, .ref q_50, .ref q_54, .ref q_58, .ref q_62, .int n_1, .int n_2, .ref q_63, .ref q_64, .ref q_67, .ref q_85, .ref q_90, .ref q_93])), (q_93, .inl (cy 1, 25, .inl g))] H := hP
                have hD : va_D A [(h0, .inr (11, [.ref q_1, .ref q_3, .ref q_4, .ref q_25, .ref q_46, .ref q_50, .ref q_54, .ref q_58, .ref q_62, .int n_1, .int n_2, .ref q_63, .ref q_64, .ref q_67, .ref q_85, .ref q_90, .ref q_93])), (q_93, .inl (cy 1, 25, .inl g))] := hD
                refine lv_if_eq (tgt := 61) hx hb dX11_findRests_41 (by decide) (fun c_10 => ?_) (fun c_10 => ?_)
                · obtain ⟨x5_11, ex5_11⟩ : ∃ y : Int32, y = y5 + 1 := ⟨_, rfl⟩
                  refine lv_iinc (v := x5_11) (lv' := [(5, .int x5_11), (0, .ref h0), (1, .int a1), (2, .int a2), (3, .int z3), (4, .int x4)]) hx hb dX11_findRests_61 hl (k := 5) rfl (by rw [ex5_11]; rfl) (by decide) rfl (fun ls hl => ?_)
                  refine lv_goto (tgt := 14) hx hb dX11_findRests_64 (by decide) ?_
                  have hr_ : rl a1 a2 n (k + 1) = rl a1 a2 n k := rl_no (by rw [← ex4, ← ey5]; exact (okb_no2 c_10))
                  exact ih14 (k + 1) x5_11 z3 g (by omega) hk4 (by rw [ex5_11, ey5]; exact nI_1 (k + 1)) (by rw [hr_]; exact ez3) (by rw [hr_]; exact hg_) _ _ (hP.sub [0, 1] rfl) (hD.sub [0, 1] (by decide) rfl) hS ls (lv_sub hl [1, 2, 3, 4, 5, 0] rfl)
                · refine lv_aload_n hx hb dX11_findRests_44 rfl (lv_at hl 0 rfl) ?_
                  refine va_get (D := D) (ci := 11) (v := .ref q_93) (C := RX11) (T := TX11) (N := 17) hx hb hts (inC ibX11) hown hG.1 hP 0 rfl rfl 16 (by decide) (hg _ k_436) (fun _ h9 => h9) rfl dX11_findRests_45 ?_
                  refine lv_iload_n hx hb dX11_findRests_48 rfl (lv_at hl 3 rfl) ?_
                  refine lv_bipush (v := 10) hx hb dX11_findRests_49 (by decide) ?_
                  refine lv_iload hx hb dX11_findRests_51 (lv_at hl 4 rfl) ?_
                  refine m_imul (v := (10 * x4)) hx hb dX11_findRests_53 rfl ?_
                  refine lv_iload hx hb dX11_findRests_54 (lv_at hl 5 rfl) ?_
                  refine m_iadd (v := ((10 * x4) + y5)) hx hb dX11_findRests_56 rfl ?_
                  refine m_iast (g := upd g z3.toNatClampNeg ((10 * x4) + y5)) hx hb hG hP hD hS 1 rfl (by rw [ez3]; exact vp_in_nI (by have := rl_len a1 a2 n k; omega) (by decide)) dX11_findRests_57 rfl (fun H locs hP hD hS => ?_)
                  have hP : va_P D vwCl [(h0, .inr (11, [.ref q_1, .ref q_3, .ref q_4, .ref q_25, .ref q_46, .ref q_50, .ref q_54, .ref q_58, .ref q_62, .int n_1, .int n_2, .ref q_63, .ref q_64, .ref q_67, .ref q_85, .ref q_90, .ref q_93])), (q_93, .inl (cy 1, 25, .inl (upd g z3.toNatClampNeg ((10 * x4) + y5))))] H := hP
                  have hD : va_D A [(h0, .inr (11, [.ref q_1, .ref q_3, .ref q_4, .ref q_25, .ref q_46, .ref q_50, .ref q_54, .ref q_58, .ref q_62, .int n_1, .int n_2, .ref q_63, .ref q_64, .ref q_67, .ref q_85, .ref q_90, .ref q_93])), (q_93, .inl (cy 1, 25, .inl (upd g z3.toNatClampNeg ((10 * x4) + y5))))] := hD
                  obtain ⟨x3_12, ex3_12⟩ : ∃ y : Int32, y = z3 + 1 := ⟨_, rfl⟩
                  refine lv_iinc (v := x3_12) (lv' := [(3, .int x3_12), (0, .ref h0), (1, .int a1), (2, .int a2), (4, .int x4), (5, .int y5)]) hx hb dX11_findRests_58 hl (k := 3) rfl (by rw [ex3_12]; rfl) (by decide) rfl (fun ls hl => ?_)
                  obtain ⟨x5_13, ex5_13⟩ : ∃ y : Int32, y = y5 + 1 := ⟨_, rfl⟩
                  refine lv_iinc (v := x5_13) (lv' := [(5, .int x5_13), (3, .int x3_12), (0, .ref h0), (1, .int a1), (2, .int a2), (4, .int x4)]) hx hb dX11_findRests_61 hl (k := 5) rfl (by rw [ex5_13]; rfl) (by decide) rfl (fun ls hl => ?_)
                  refine lv_goto (tgt := 14) hx hb dX11_findRests_64 (by decide) ?_
                  have hr_ : rl a1 a2 n (k + 1) = rl a1 a2 n k ++ [nI (10 * (n + 1) + (k + 1))] := rl_yes (by rw [← ex4, ← ey5]; exact okb_yes c_7 c_10)
                  exact ih14 (k + 1) x5_13 x3_12 (upd g z3.toNatClampNeg ((10 * x4) + y5)) (by omega) hk4 (by rw [ex5_13, ey5]; exact nI_1 (k + 1)) (by rw [ex3_12, ez3, hr_, List.length_append]; exact nI_1 _) (by rw [hr_, ez3, nI_clamp (by have := rl_len a1 a2 n k; omega), ex4, ey5, nI_code]; exact hold_app hg_) _ _ (hP.sub [0, 1] rfl) (hD.sub [0, 1] (by decide) rfl) hS ls (lv_sub hl [2, 3, 4, 1, 5, 0] rfl)
        exact LP_3 _ 0 1 x3 f (Nat.lt_succ_self _) (by decide) rfl ex3 hf _ _ (hP.sub [0, 1] rfl) (hD.sub [0, 1] (by decide) rfl) hS ls (lv_sub hl [1, 2, 3, 4, 5, 0] rfl)
  exact LP_1 _ 0 1 0 f0 (Nat.lt_succ_self _) (by decide) rfl rfl hold_0 _ _ (hP.sub [0, 1] rfl) (hD.sub [0, 1] (by decide) rfl) hS ls (lv_sub hl [2, 3, 4, 1, 0] rfl)
