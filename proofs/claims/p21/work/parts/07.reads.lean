def sickv (sf st : Nat → Int32) (p : Nat) (dy : Int32) : Int32 := if sf p = (-1) then 0 else if dy < sf p then 0 else if st p < dy then 0 else 1
theorem sickv_01 (sf st : Nat → Int32) (p : Nat) (dy : Int32) : sickv sf st p dy = 0 ∨ sickv sf st p dy = 1 := by
  by_cases h1 : sf p = (-1) <;> by_cases h2 : dy < sf p <;> by_cases h3 : st p < dy <;> simp [sickv, h1, h2, h3]
def sitv (sf st : Nat → Int32) (p : Nat) (dy : Int32) : Int32 := if sickv sf st p dy = 0 then 1 else 0
def costv (ki co : Nat → Int32) (e d : Nat) : Int32 := if ki e = 1 then 2 * co d else co d
def illv (ae : Nat → Int32) (dy cr : Int32) (e : Nat) : Int32 := if ae e = (-1) then 0 else if cr < dy - ae e then 0 else 1
def gix (e d : Nat) (sl : Int32) : Nat := ((e * 5 + d) * 2 + (if sl = 0 then 1 else 0)) * 6
theorem gix_lt {e d p : Nat} {sl : Int32} (he : e < 6) (hd : d < 5) (hp : p < 6) : gix e d sl + p < 360 := by
  unfold gix
  split <;> omega
def canv (sf st ki co : Nat → Int32) (e d : Nat) (dy so : Int32) : Int32 := if sitv sf st e dy = 0 then 0 else if so < costv ki co e d then 0 else 1
def gainv (sf st ae gi : Nat → Int32) (dy cr : Int32) (e d : Nat) (sl : Int32) (p : Nat) : Int32 := if illv ae dy cr e = 0 then (if sitv sf st p dy = 0 then 0 else gi (gix e d sl + p)) else 0
set_option maxHeartbeats 4000000 in
set_option maxRecDepth 100000 in
theorem c_X0_isSick (l : Launch) (D : va_G) (cy : Nat → ClassId) (hc : Nat) (cpn : Nat) (cki : Nat) (chu : Nat) (cta : Nat) (cvo : Nat) (csf : Nat) (cst : Nat) (ccw : Nat) (cdn : Nat) (cbi : Nat) (csa : Nat) (cco : Nat) (clw : Nat) (cgi : Nat) (cga : Nat) (cbe : Nat) (np : Nat) (nd : Nat) (cs : Int32) (cr : Int32) (pe : Nat) (dy : Int32) (sf : Nat → Int32) (st : Nat → Int32) (sz : Nat) (hp : pe < 6) : Met l yX0_isSick (Cond.code yX0_isSick cX0_isSick 3 (some .boolean) :: bigG) ({ frames := 0, cells := 0, slots := 0, locals := 0 }) (pre D cy [.ref hc, .int (nI pe), .int dy] sz [(hc, .inr (0, [.ref cpn, .ref cki, .ref chu, .ref cta, .ref cvo, .ref csf, .ref cst, .ref ccw, .ref cdn, .ref cbi, .ref csa, .ref cco, .ref clw, .int (nI np), .int (nI nd), .int cs, .int cr, .ref cgi, .ref cga, .ref cbe])), (csf, .inl (cy 1, 6, .inl sf)), (cst, .inl (cy 1, 6, .inl st))]) (qi (fun r h => r = sickv sf st pe dy ∧ va_P D vwCl [(hc, .inr (0, [.ref cpn, .ref cki, .ref chu, .ref cta, .ref cvo, .ref csf, .ref cst, .ref ccw, .ref cdn, .ref cbi, .ref csa, .ref cco, .ref clw, .int (nI np), .int (nI nd), .int cs, .int cr, .ref cgi, .ref cga, .ref cbe])), (csf, .inl (cy 1, 6, .inl sf)), (cst, .inl (cy 1, 6, .inl st))] h ∧ va_D (va_A [(hc, .inr (0, [.ref cpn, .ref cki, .ref chu, .ref cta, .ref cvo, .ref csf, .ref cst, .ref ccw, .ref cdn, .ref cbi, .ref csa, .ref cco, .ref clw, .int (nI np), .int (nI nd), .int cs, .int cr, .ref cgi, .ref cga, .ref cbe])), (csf, .inl (cy 1, 6, .inl sf)), (cst, .inl (cy 1, 6, .inl st))] sz) [(hc, .inr (0, [.ref cpn, .ref cki, .ref chu, .ref cta, .ref cvo, .ref csf, .ref cst, .ref ccw, .ref cdn, .ref cbi, .ref csa, .ref cco, .ref clw, .int (nI np), .int (nI nd), .int cs, .int cr, .ref cgi, .ref cga, .ref cbe])), (csf, .inl (cy 1, 6, .inl sf)), (cst, .inl (cy 1, 6, .inl st))]) (va_A [(hc, .inr (0, [.ref cpn, .ref cki, .ref chu, .ref cta, .ref cvo, .ref csf, .ref cst, .ref ccw, .ref cdn, .ref cbi, .ref csa, .ref cco, .ref clw, .int (nI np), .int (nI nd), .int cs, .int cr, .ref cgi, .ref cga, .ref cbe])), (csf, .inl (cy 1, 6, .inl sf)), (cst, .inl (cy 1, 6, .inl st))] sz)) 0 0 (va_A [(hc, .inr (0, [.ref cpn, .ref cki, .ref chu, .ref cta, .ref cvo, .ref csf, .ref cst, .ref ccw, .ref cdn, .ref cbi, .ref csa, .ref cco, .ref clw, .int (nI np), .int (nI nd), .int cs, .int cr, .ref cgi, .ref cga, .ref cbe])), (csf, .inl (cy 1, 6, .inl sf)), (cst, .inl (cy 1, 6, .inl st))] sz) := by
  refine Met.ofW (cc := cX0_isSick) (maxL := 3) (ret := (some .boolean)) (by decide) rfl ?_
  intro p e s m args below meth c s₁ B hml hv
  obtain ⟨rfl, hsz, hP, hG, hD0⟩ := hv
  have hx := B.exec
  have hb := B.bytes
  have hr := B.returns
  have hts := atoms_spec (ws := (Cond.code yX0_isSick cX0_isSick 3 (some .boolean) :: bigG)) B.pre
  have hg : ∀ w ∈ bigG, w.before ([.ref hc, .int (nI pe), .int dy] : List Value).toArray s = true := fun w h => hts w (List.mem_cons_of_mem _ h)
  have hown : s.vm.findClass RX0 = some m.cls := findClass_of_methodNamed B.named
  have hlocks := B.notSynchronized
  subst hsz
  have hD := hD0.self (sz := s.heap.size)
  generalize hAe : va_A [(hc, .inr (0, [.ref cpn, .ref cki, .ref chu, .ref cta, .ref cvo, .ref csf, .ref cst, .ref ccw, .ref cdn, .ref cbi, .ref csa, .ref cco, .ref clw, .int (nI np), .int (nI nd), .int cs, .int cr, .ref cgi, .ref cga, .ref cbe])), (csf, .inl (cy 1, 6, .inl sf)), (cst, .inl (cy 1, 6, .inl st))] s.heap.size = A at hD ⊢
  have hA : ∀ q : Nat, s.heap.size ≤ q → A q := fun q h => by rw [← hAe]; exact Or.inr h
  have hS : va_S A s.heap s.heap [] := va_S.rf
  have hP : va_P D vwCl [(hc, .inr (0, [.ref cpn, .ref cki, .ref chu, .ref cta, .ref cvo, .ref csf, .ref cst, .ref ccw, .ref cdn, .ref cbi, .ref csa, .ref cco, .ref clw, .int (nI np), .int (nI nd), .int cs, .int cr, .ref cgi, .ref cga, .ref cbe])), (csf, .inl (cy 1, 6, .inl sf)), (cst, .inl (cy 1, 6, .inl st))] s.heap := hP
  have hl := lv_entry ([.ref hc, .int (nI pe), .int dy]) (n := 3) (Nat.le_of_ble_eq_true rfl)
  rw [lg_entry_eq]
  generalize (lg_sl ([.ref hc, .int (nI pe), .int dy]) ++ List.replicate (3 - (lg_sl ([.ref hc, .int (nI pe), .int dy])).length) Slot.unset).toArray = ls at hl ⊢
  have hl : lv_has ls 3 [(0, .ref hc), (1, .int (nI pe)), (2, .int dy)] := hl
  refine w_nm (fun Q hQ => ?_)
  refine lv_aload_n hx hb dX0_isSick_0 rfl (lv_at hl 0 rfl) ?_
  refine va_get (D := D) (ci := 0) (v := .ref csf) (C := RX0) (T := TX0) (N := 20) hx hb hts (inC ibX0) hown hG.1 hP 0 rfl rfl 5 (by decide) (hg _ k_152) (fun _ h9 => h9) rfl dX0_isSick_1 ?_
  refine lv_iload_n hx hb dX0_isSick_4 rfl (lv_at hl 1 rfl) ?_
  refine m_iald (v := sf pe) hx hb hG hP 1 rfl (vp_in_nI (by omega) (by omega)) dX0_isSick_5 (by rw [nI_clamp (by omega)]) ?_
  refine lv_iconst (v := (-1)) hx hb dX0_isSick_6 (by decide) ?_
  refine lv_icmp_eq (tgt := 34) hx hb dX0_isSick_7 (by decide) (fun c_1 => ?_) (fun c_1 => ?_)
  · refine lv_iconst (v := 0) hx hb dX0_isSick_34 (by decide) ?_
    have hP9 := hP.sub (ws' := [(hc, .inr (0, [.ref cpn, .ref cki, .ref chu, .ref cta, .ref cvo, .ref csf, .ref cst, .ref ccw, .ref cdn, .ref cbi, .ref csa, .ref cco, .ref clw, .int (nI np), .int (nI nd), .int cs, .int cr, .ref cgi, .ref cga, .ref cbe])), (csf, .inl (cy 1, 6, .inl sf)), (cst, .inl (cy 1, 6, .inl st))]) [0, 1, 2] rfl
    have hD9 := hD.sub (ws' := [(hc, .inr (0, [.ref cpn, .ref cki, .ref chu, .ref cta, .ref cvo, .ref csf, .ref cst, .ref ccw, .ref cdn, .ref cbi, .ref csa, .ref cco, .ref clw, .int (nI np), .int (nI nd), .int cs, .int cr, .ref cgi, .ref cga, .ref cbe])), (csf, .inl (cy 1, 6, .inl sf)), (cst, .inl (cy 1, 6, .inl st))]) [0, 1, 2] (by decide) rfl
    subst hQ
    exact W.zret (v := 0) hx hb hr rfl (fun t ht hW => qi_mk (by rw [ht]; exact ⟨(by rw [sickv, if_pos c_1]), hP9, hD9⟩) (hS.F ht)) hS.2.2 dX0_isSick_35
  · refine lv_aload_n hx hb dX0_isSick_10 rfl (lv_at hl 0 rfl) ?_
    refine va_get (D := D) (ci := 0) (v := .ref csf) (C := RX0) (T := TX0) (N := 20) hx hb hts (inC ibX0) hown hG.1 hP 0 rfl rfl 5 (by decide) (hg _ k_152) (fun _ h9 => h9) rfl dX0_isSick_11 ?_
    refine lv_iload_n hx hb dX0_isSick_14 rfl (lv_at hl 1 rfl) ?_
    refine m_iald (v := sf pe) hx hb hG hP 1 rfl (vp_in_nI (by omega) (by omega)) dX0_isSick_15 (by rw [nI_clamp (by omega)]) ?_
    refine lv_iload_n hx hb dX0_isSick_16 rfl (lv_at hl 2 rfl) ?_
    refine lv_icmp_gt (tgt := 34) hx hb dX0_isSick_17 (by decide) (fun c_2 => ?_) (fun c_2 => ?_)
    · refine lv_iconst (v := 0) hx hb dX0_isSick_34 (by decide) ?_
      have hP9 := hP.sub (ws' := [(hc, .inr (0, [.ref cpn, .ref cki, .ref chu, .ref cta, .ref cvo, .ref csf, .ref cst, .ref ccw, .ref cdn, .ref cbi, .ref csa, .ref cco, .ref clw, .int (nI np), .int (nI nd), .int cs, .int cr, .ref cgi, .ref cga, .ref cbe])), (csf, .inl (cy 1, 6, .inl sf)), (cst, .inl (cy 1, 6, .inl st))]) [0, 1, 2] rfl
      have hD9 := hD.sub (ws' := [(hc, .inr (0, [.ref cpn, .ref cki, .ref chu, .ref cta, .ref cvo, .ref csf, .ref cst, .ref ccw, .ref cdn, .ref cbi, .ref csa, .ref cco, .ref clw, .int (nI np), .int (nI nd), .int cs, .int cr, .ref cgi, .ref cga, .ref cbe])), (csf, .inl (cy 1, 6, .inl sf)), (cst, .inl (cy 1, 6, .inl st))]) [0, 1, 2] (by decide) rfl
      subst hQ
      exact W.zret (v := 0) hx hb hr rfl (fun t ht hW => qi_mk (by rw [ht]; exact ⟨(by rw [sickv, if_neg c_1, if_pos c_2]), hP9, hD9⟩) (hS.F ht)) hS.2.2 dX0_isSick_35
    · refine lv_iload_n hx hb dX0_isSick_20 rfl (lv_at hl 2 rfl) ?_
      refine lv_aload_n hx hb dX0_isSick_21 rfl (lv_at hl 0 rfl) ?_
      refine va_get (D := D) (ci := 0) (v := .ref cst) (C := RX0) (T := TX0) (N := 20) hx hb hts (inC ibX0) hown hG.1 hP 0 rfl rfl 6 (by decide) (hg _ k_154) (fun _ h9 => h9) rfl dX0_isSick_22 ?_
      refine lv_iload_n hx hb dX0_isSick_25 rfl (lv_at hl 1 rfl) ?_
      refine m_iald (v := st pe) hx hb hG hP 2 rfl (vp_in_nI (by omega) (by omega)) dX0_isSick_26 (by rw [nI_clamp (by omega)]) ?_
      refine lv_icmp_gt (tgt := 34) hx hb dX0_isSick_27 (by decide) (fun c_3 => ?_) (fun c_3 => ?_)
      · refine lv_iconst (v := 0) hx hb dX0_isSick_34 (by decide) ?_
        have hP9 := hP.sub (ws' := [(hc, .inr (0, [.ref cpn, .ref cki, .ref chu, .ref cta, .ref cvo, .ref csf, .ref cst, .ref ccw, .ref cdn, .ref cbi, .ref csa, .ref cco, .ref clw, .int (nI np), .int (nI nd), .int cs, .int cr, .ref cgi, .ref cga, .ref cbe])), (csf, .inl (cy 1, 6, .inl sf)), (cst, .inl (cy 1, 6, .inl st))]) [0, 1, 2] rfl
        have hD9 := hD.sub (ws' := [(hc, .inr (0, [.ref cpn, .ref cki, .ref chu, .ref cta, .ref cvo, .ref csf, .ref cst, .ref ccw, .ref cdn, .ref cbi, .ref csa, .ref cco, .ref clw, .int (nI np), .int (nI nd), .int cs, .int cr, .ref cgi, .ref cga, .ref cbe])), (csf, .inl (cy 1, 6, .inl sf)), (cst, .inl (cy 1, 6, .inl st))]) [0, 1, 2] (by decide) rfl
        subst hQ
        exact W.zret (v := 0) hx hb hr rfl (fun t ht hW => qi_mk (by rw [ht]; exact ⟨(by rw [sickv, if_neg c_1, if_neg c_2, if_pos c_3]), hP9, hD9⟩) (hS.F ht)) hS.2.2 dX0_isSick_35
      · refine lv_iconst (v := 1) hx hb dX0_isSick_30 (by decide) ?_
        refine lv_goto (tgt := 35) hx hb dX0_isSick_31 (by decide) ?_
        have hP9 := hP.sub (ws' := [(hc, .inr (0, [.ref cpn, .ref cki, .ref chu, .ref cta, .ref cvo, .ref csf, .ref cst, .ref ccw, .ref cdn, .ref cbi, .ref csa, .ref cco, .ref clw, .int (nI np), .int (nI nd), .int cs, .int cr, .ref cgi, .ref cga, .ref cbe])), (csf, .inl (cy 1, 6, .inl sf)), (cst, .inl (cy 1, 6, .inl st))]) [0, 1, 2] rfl
        have hD9 := hD.sub (ws' := [(hc, .inr (0, [.ref cpn, .ref cki, .ref chu, .ref cta, .ref cvo, .ref csf, .ref cst, .ref ccw, .ref cdn, .ref cbi, .ref csa, .ref cco, .ref clw, .int (nI np), .int (nI nd), .int cs, .int cr, .ref cgi, .ref cga, .ref cbe])), (csf, .inl (cy 1, 6, .inl sf)), (cst, .inl (cy 1, 6, .inl st))]) [0, 1, 2] (by decide) rfl
        subst hQ
        exact W.zret (v := 1) hx hb hr rfl (fun t ht hW => qi_mk (by rw [ht]; exact ⟨(by rw [sickv, if_neg c_1, if_neg c_2, if_neg c_3]), hP9, hD9⟩) (hS.F ht)) hS.2.2 dX0_isSick_35
set_option maxHeartbeats 4000000 in
set_option maxRecDepth 100000 in
theorem c_X0_costBy (l : Launch) (D : va_G) (cy : Nat → ClassId) (hc : Nat) (cpn : Nat) (cki : Nat) (chu : Nat) (cta : Nat) (cvo : Nat) (csf : Nat) (cst : Nat) (ccw : Nat) (cdn : Nat) (cbi : Nat) (csa : Nat) (cco : Nat) (clw : Nat) (cgi : Nat) (cga : Nat) (cbe : Nat) (np : Nat) (nd : Nat) (cs : Int32) (cr : Int32) (ea : Nat) (di : Nat) (ki : Nat → Int32) (co : Nat → Int32) (sz : Nat) (he : ea < 6) (hd : di < 5) : Met l yX0_costBy (Cond.code yX0_costBy cX0_costBy 3 (some .int) :: bigG) ({ frames := 0, cells := 0, slots := 0, locals := 0 }) (pre D cy [.ref hc, .int (nI ea), .int (nI di)] sz [(hc, .inr (0, [.ref cpn, .ref cki, .ref chu, .ref cta, .ref cvo, .ref csf, .ref cst, .ref ccw, .ref cdn, .ref cbi, .ref csa, .ref cco, .ref clw, .int (nI np), .int (nI nd), .int cs, .int cr, .ref cgi, .ref cga, .ref cbe])), (cki, .inl (cy 1, 6, .inl ki)), (cco, .inl (cy 1, 5, .inl co))]) (qi (fun r h => r = costv ki co ea di ∧ va_P D vwCl [(hc, .inr (0, [.ref cpn, .ref cki, .ref chu, .ref cta, .ref cvo, .ref csf, .ref cst, .ref ccw, .ref cdn, .ref cbi, .ref csa, .ref cco, .ref clw, .int (nI np), .int (nI nd), .int cs, .int cr, .ref cgi, .ref cga, .ref cbe])), (cki, .inl (cy 1, 6, .inl ki)), (cco, .inl (cy 1, 5, .inl co))] h ∧ va_D (va_A [(hc, .inr (0, [.ref cpn, .ref cki, .ref chu, .ref cta, .ref cvo, .ref csf, .ref cst, .ref ccw, .ref cdn, .ref cbi, .ref csa, .ref cco, .ref clw, .int (nI np), .int (nI nd), .int cs, .int cr, .ref cgi, .ref cga, .ref cbe])), (cki, .inl (cy 1, 6, .inl ki)), (cco, .inl (cy 1, 5, .inl co))] sz) [(hc, .inr (0, [.ref cpn, .ref cki, .ref chu, .ref cta, .ref cvo, .ref csf, .ref cst, .ref ccw, .ref cdn, .ref cbi, .ref csa, .ref cco, .ref clw, .int (nI np), .int (nI nd), .int cs, .int cr, .ref cgi, .ref cga, .ref cbe])), (cki, .inl (cy 1, 6, .inl ki)), (cco, .inl (cy 1, 5, .inl co))]) (va_A [(hc, .inr (0, [.ref cpn, .ref cki, .ref chu, .ref cta, .ref cvo, .ref csf, .ref cst, .ref ccw, .ref cdn, .ref cbi, .ref csa, .ref cco, .ref clw, .int (nI np), .int (nI nd), .int cs, .int cr, .ref cgi, .ref cga, .ref cbe])), (cki, .inl (cy 1, 6, .inl ki)), (cco, .inl (cy 1, 5, .inl co))] sz)) 0 0 (va_A [(hc, .inr (0, [.ref cpn, .ref cki, .ref chu, .ref cta, .ref cvo, .ref csf, .ref cst, .ref ccw, .ref cdn, .ref cbi, .ref csa, .ref cco, .ref clw, .int (nI np), .int (nI nd), .int cs, .int cr, .ref cgi, .ref cga, .ref cbe])), (cki, .inl (cy 1, 6, .inl ki)), (cco, .inl (cy 1, 5, .inl co))] sz) := by
  refine Met.ofW (cc := cX0_costBy) (maxL := 3) (ret := (some .int)) (by decide) rfl ?_
  intro p e s m args below meth c s₁ B hml hv
  obtain ⟨rfl, hsz, hP, hG, hD0⟩ := hv
  have hx := B.exec
  have hb := B.bytes
  have hr := B.returns
  have hts := atoms_spec (ws := (Cond.code yX0_costBy cX0_costBy 3 (some .int) :: bigG)) B.pre
  have hg : ∀ w ∈ bigG, w.before ([.ref hc, .int (nI ea), .int (nI di)] : List Value).toArray s = true := fun w h => hts w (List.mem_cons_of_mem _ h)
  have hown : s.vm.findClass RX0 = some m.cls := findClass_of_methodNamed B.named
  have hlocks := B.notSynchronized
  subst hsz
  have hD := hD0.self (sz := s.heap.size)
  generalize hAe : va_A [(hc, .inr (0, [.ref cpn, .ref cki, .ref chu, .ref cta, .ref cvo, .ref csf, .ref cst, .ref ccw, .ref cdn, .ref cbi, .ref csa, .ref cco, .ref clw, .int (nI np), .int (nI nd), .int cs, .int cr, .ref cgi, .ref cga, .ref cbe])), (cki, .inl (cy 1, 6, .inl ki)), (cco, .inl (cy 1, 5, .inl co))] s.heap.size = A at hD ⊢
  have hA : ∀ q : Nat, s.heap.size ≤ q → A q := fun q h => by rw [← hAe]; exact Or.inr h
  have hS : va_S A s.heap s.heap [] := va_S.rf
  have hP : va_P D vwCl [(hc, .inr (0, [.ref cpn, .ref cki, .ref chu, .ref cta, .ref cvo, .ref csf, .ref cst, .ref ccw, .ref cdn, .ref cbi, .ref csa, .ref cco, .ref clw, .int (nI np), .int (nI nd), .int cs, .int cr, .ref cgi, .ref cga, .ref cbe])), (cki, .inl (cy 1, 6, .inl ki)), (cco, .inl (cy 1, 5, .inl co))] s.heap := hP
  have hl := lv_entry ([.ref hc, .int (nI ea), .int (nI di)]) (n := 3) (Nat.le_of_ble_eq_true rfl)
  rw [lg_entry_eq]
  generalize (lg_sl ([.ref hc, .int (nI ea), .int (nI di)]) ++ List.replicate (3 - (lg_sl ([.ref hc, .int (nI ea), .int (nI di)])).length) Slot.unset).toArray = ls at hl ⊢
  have hl : lv_has ls 3 [(0, .ref hc), (1, .int (nI ea)), (2, .int (nI di))] := hl
  refine w_nm (fun Q hQ => ?_)
  refine lv_aload_n hx hb dX0_costBy_0 rfl (lv_at hl 0 rfl) ?_
  refine va_get (D := D) (ci := 0) (v := .ref cki) (C := RX0) (T := TX0) (N := 20) hx hb hts (inC ibX0) hown hG.1 hP 0 rfl rfl 1 (by decide) (hg _ k_137) (fun _ h9 => h9) rfl dX0_costBy_1 ?_
  refine lv_iload_n hx hb dX0_costBy_4 rfl (lv_at hl 1 rfl) ?_
  refine m_iald (v := ki ea) hx hb hG hP 1 rfl (vp_in_nI (by omega) (by omega)) dX0_costBy_5 (by rw [nI_clamp (by omega)]) ?_
  refine lv_iconst (v := 1) hx hb dX0_costBy_6 (by decide) ?_
  refine lv_icmp_ne (tgt := 21) hx hb dX0_costBy_7 (by decide) (fun c_1 => ?_) (fun c_1 => ?_)
  · refine lv_aload_n hx hb dX0_costBy_21 rfl (lv_at hl 0 rfl) ?_
    refine va_get (D := D) (ci := 0) (v := .ref cco) (C := RX0) (T := TX0) (N := 20) hx hb hts (inC ibX0) hown hG.1 hP 0 rfl rfl 11 (by decide) (hg _ k_166) (fun _ h9 => h9) rfl dX0_costBy_22 ?_
    refine lv_iload_n hx hb dX0_costBy_25 rfl (lv_at hl 2 rfl) ?_
    refine m_iald (v := co di) hx hb hG hP 2 rfl (vp_in_nI (by omega) (by omega)) dX0_costBy_26 (by rw [nI_clamp (by omega)]) ?_
    have hP9 := hP.sub (ws' := [(hc, .inr (0, [.ref cpn, .ref cki, .ref chu, .ref cta, .ref cvo, .ref csf, .ref cst, .ref ccw, .ref cdn, .ref cbi, .ref csa, .ref cco, .ref clw, .int (nI np), .int (nI nd), .int cs, .int cr, .ref cgi, .ref cga, .ref cbe])), (cki, .inl (cy 1, 6, .inl ki)), (cco, .inl (cy 1, 5, .inl co))]) [0, 1, 2] rfl
    have hD9 := hD.sub (ws' := [(hc, .inr (0, [.ref cpn, .ref cki, .ref chu, .ref cta, .ref cvo, .ref csf, .ref cst, .ref ccw, .ref cdn, .ref cbi, .ref csa, .ref cco, .ref clw, .int (nI np), .int (nI nd), .int cs, .int cr, .ref cgi, .ref cga, .ref cbe])), (cki, .inl (cy 1, 6, .inl ki)), (cco, .inl (cy 1, 5, .inl co))]) [0, 1, 2] (by decide) rfl
    subst hQ
    exact W.iret (v := co di) hx hb hr (fun t ht hW => qi_mk (by rw [ht]; exact ⟨(by rw [costv, if_neg c_1]), hP9, hD9⟩) (hS.F ht)) hS.2.2 dX0_costBy_27
  · refine lv_iconst (v := 2) hx hb dX0_costBy_10 (by decide) ?_
    refine lv_aload_n hx hb dX0_costBy_11 rfl (lv_at hl 0 rfl) ?_
    refine va_get (D := D) (ci := 0) (v := .ref cco) (C := RX0) (T := TX0) (N := 20) hx hb hts (inC ibX0) hown hG.1 hP 0 rfl rfl 11 (by decide) (hg _ k_166) (fun _ h9 => h9) rfl dX0_costBy_12 ?_
    refine lv_iload_n hx hb dX0_costBy_15 rfl (lv_at hl 2 rfl) ?_
    refine m_iald (v := co di) hx hb hG hP 2 rfl (vp_in_nI (by omega) (by omega)) dX0_costBy_16 (by rw [nI_clamp (by omega)]) ?_
    refine m_imul (v := (2 * (co di))) hx hb dX0_costBy_17 rfl ?_
    refine lv_goto (tgt := 27) hx hb dX0_costBy_18 (by decide) ?_
    have hP9 := hP.sub (ws' := [(hc, .inr (0, [.ref cpn, .ref cki, .ref chu, .ref cta, .ref cvo, .ref csf, .ref cst, .ref ccw, .ref cdn, .ref cbi, .ref csa, .ref cco, .ref clw, .int (nI np), .int (nI nd), .int cs, .int cr, .ref cgi, .ref cga, .ref cbe])), (cki, .inl (cy 1, 6, .inl ki)), (cco, .inl (cy 1, 5, .inl co))]) [0, 1, 2] rfl
    have hD9 := hD.sub (ws' := [(hc, .inr (0, [.ref cpn, .ref cki, .ref chu, .ref cta, .ref cvo, .ref csf, .ref cst, .ref ccw, .ref cdn, .ref cbi, .ref csa, .ref cco, .ref clw, .int (nI np), .int (nI nd), .int cs, .int cr, .ref cgi, .ref cga, .ref cbe])), (cki, .inl (cy 1, 6, .inl ki)), (cco, .inl (cy 1, 5, .inl co))]) [0, 1, 2] (by decide) rfl
    subst hQ
    exact W.iret (v := (2 * (co di))) hx hb hr (fun t ht hW => qi_mk (by rw [ht]; exact ⟨(by rw [costv, if_pos c_1]), hP9, hD9⟩) (hS.F ht)) hS.2.2 dX0_costBy_27
set_option maxHeartbeats 4000000 in
set_option maxRecDepth 100000 in
theorem c_X0_giftAt (l : Launch) (D : va_G) (cy : Nat → ClassId) (ea : Nat) (di : Nat) (sl : Int32) (sz : Nat) (he : ea < 6) (hd : di < 5) : Met l yX0_giftAt (Cond.code yX0_giftAt cX0_giftAt 3 (some .int) :: bigG) ({ frames := 0, cells := 0, slots := 0, locals := 0 }) (pre D cy [.int (nI ea), .int (nI di), .int sl] sz []) (qi (fun r h => r = nI (gix ea di sl) ∧ va_P D vwCl [] h ∧ va_D (va_A [] sz) []) (va_A [] sz)) 0 0 (va_A [] sz) := by
  refine Met.ofW (cc := cX0_giftAt) (maxL := 3) (ret := (some .int)) (by decide) rfl ?_
  intro p e s m args below meth c s₁ B hml hv
  obtain ⟨rfl, hsz, hP, hG, hD0⟩ := hv
  have hx := B.exec
  have hb := B.bytes
  have hr := B.returns
  have hts := atoms_spec (ws := (Cond.code yX0_giftAt cX0_giftAt 3 (some .int) :: bigG)) B.pre
  have hg : ∀ w ∈ bigG, w.before ([.int (nI ea), .int (nI di), .int sl] : List Value).toArray s = true := fun w h => hts w (List.mem_cons_of_mem _ h)
  have hown : s.vm.findClass RX0 = some m.cls := findClass_of_methodNamed B.named
  have hlocks := B.notSynchronized
  subst hsz
  have hD := hD0.self (sz := s.heap.size)
  generalize hAe : va_A [] s.heap.size = A at hD ⊢
  have hA : ∀ q : Nat, s.heap.size ≤ q → A q := fun q h => by rw [← hAe]; exact Or.inr h
  have hS : va_S A s.heap s.heap [] := va_S.rf
  have hP : va_P D vwCl [] s.heap := hP
  have hl := lv_entry ([.int (nI ea), .int (nI di), .int sl]) (n := 3) (Nat.le_of_ble_eq_true rfl)
  rw [lg_entry_eq]
  generalize (lg_sl ([.int (nI ea), .int (nI di), .int sl]) ++ List.replicate (3 - (lg_sl ([.int (nI ea), .int (nI di), .int sl])).length) Slot.unset).toArray = ls at hl ⊢
  have hl : lv_has ls 3 [(0, .int (nI ea)), (1, .int (nI di)), (2, .int sl)] := hl
  refine w_nm (fun Q hQ => ?_)
  refine lv_iload_n hx hb dX0_giftAt_0 rfl (lv_at hl 0 rfl) ?_
  refine lv_iconst (v := 5) hx hb dX0_giftAt_1 (by decide) ?_
  refine m_imul (v := nI (ea * 5)) hx hb dX0_giftAt_2 (by show nI ea * nI 5 = _; exact pk_mul _ _) ?_
  refine lv_iload_n hx hb dX0_giftAt_3 rfl (lv_at hl 1 rfl) ?_
  refine m_iadd (v := nI ((ea * 5) + di)) hx hb dX0_giftAt_4 (by show nI (ea * 5) + nI di = _; exact nI_add _ _) ?_
  refine lv_iconst (v := 2) hx hb dX0_giftAt_5 (by decide) ?_
  refine m_imul (v := nI (((ea * 5) + di) * 2)) hx hb dX0_giftAt_6 (by show nI ((ea * 5) + di) * nI 2 = _; exact pk_mul _ _) ?_
  refine lv_iload_n hx hb dX0_giftAt_7 rfl (lv_at hl 2 rfl) ?_
  refine lv_if_eq (tgt := 15) hx hb dX0_giftAt_8 (by decide) (fun c_1 => ?_) (fun c_1 => ?_)
  · refine lv_iconst (v := 1) hx hb dX0_giftAt_15 (by decide) ?_
    refine m_iadd (v := nI ((((ea * 5) + di) * 2) + 1)) hx hb dX0_giftAt_16 (by show nI (((ea * 5) + di) * 2) + nI 1 = _; exact nI_add _ _) ?_
    refine lv_bipush (v := 6) hx hb dX0_giftAt_17 (by decide) ?_
    refine m_imul (v := nI (((((ea * 5) + di) * 2) + 1) * 6)) hx hb dX0_giftAt_19 (by show nI ((((ea * 5) + di) * 2) + 1) * nI 6 = _; exact pk_mul _ _) ?_
    have hP9 := hP.sub (ws' := []) [] rfl
    have hD9 := hD.sub (ws' := []) [] (by decide) rfl
    subst hQ
    exact W.iret (v := nI (((((ea * 5) + di) * 2) + 1) * 6)) hx hb hr (fun t ht hW => qi_mk (by rw [ht]; exact ⟨(by rw [gix, if_pos c_1]), hP9, hD9⟩) (hS.F ht)) hS.2.2 dX0_giftAt_20
  · refine lv_iconst (v := 0) hx hb dX0_giftAt_11 (by decide) ?_
    refine lv_goto (tgt := 16) hx hb dX0_giftAt_12 (by decide) ?_
    refine m_iadd (v := nI ((((ea * 5) + di) * 2) + 0)) hx hb dX0_giftAt_16 (by show nI (((ea * 5) + di) * 2) + nI 0 = _; exact nI_add _ _) ?_
    refine lv_bipush (v := 6) hx hb dX0_giftAt_17 (by decide) ?_
    refine m_imul (v := nI (((((ea * 5) + di) * 2) + 0) * 6)) hx hb dX0_giftAt_19 (by show nI ((((ea * 5) + di) * 2) + 0) * nI 6 = _; exact pk_mul _ _) ?_
    have hP9 := hP.sub (ws' := []) [] rfl
    have hD9 := hD.sub (ws' := []) [] (by decide) rfl
    subst hQ
    exact W.iret (v := nI (((((ea * 5) + di) * 2) + 0) * 6)) hx hb hr (fun t ht hW => qi_mk (by rw [ht]; exact ⟨(by rw [gix, if_neg c_1]), hP9, hD9⟩) (hS.F ht)) hS.2.2 dX0_giftAt_20
set_option maxHeartbeats 4000000 in
set_option maxRecDepth 100000 in
theorem c_X0_gift (l : Launch) (D : va_G) (cy : Nat → ClassId) (hc : Nat) (cpn : Nat) (cki : Nat) (chu : Nat) (cta : Nat) (cvo : Nat) (csf : Nat) (cst : Nat) (ccw : Nat) (cdn : Nat) (cbi : Nat) (csa : Nat) (cco : Nat) (clw : Nat) (cgi : Nat) (cga : Nat) (cbe : Nat) (np : Nat) (nd : Nat) (cs : Int32) (cr : Int32) (ea : Nat) (di : Nat) (sl : Int32) (pe : Nat) (gi : Nat → Int32) (sz : Nat) (he : ea < 6) (hd : di < 5) (hp : pe < 6) : Met l yX0_gift (Cond.code yX0_gift cX0_gift 5 (some .int) :: bigG) ({ frames := 1, cells := 0, slots := 0, locals := 22 }) (pre D cy [.ref hc, .int (nI ea), .int (nI di), .int sl, .int (nI pe)] sz [(hc, .inr (0, [.ref cpn, .ref cki, .ref chu, .ref cta, .ref cvo, .ref csf, .ref cst, .ref ccw, .ref cdn, .ref cbi, .ref csa, .ref cco, .ref clw, .int (nI np), .int (nI nd), .int cs, .int cr, .ref cgi, .ref cga, .ref cbe])), (cgi, .inl (cy 1, 360, .inl gi))]) (qi (fun r h => r = gi (gix ea di sl + pe) ∧ va_P D vwCl [(hc, .inr (0, [.ref cpn, .ref cki, .ref chu, .ref cta, .ref cvo, .ref csf, .ref cst, .ref ccw, .ref cdn, .ref cbi, .ref csa, .ref cco, .ref clw, .int (nI np), .int (nI nd), .int cs, .int cr, .ref cgi, .ref cga, .ref cbe])), (cgi, .inl (cy 1, 360, .inl gi))] h ∧ va_D (va_A [(hc, .inr (0, [.ref cpn, .ref cki, .ref chu, .ref cta, .ref cvo, .ref csf, .ref cst, .ref ccw, .ref cdn, .ref cbi, .ref csa, .ref cco, .ref clw, .int (nI np), .int (nI nd), .int cs, .int cr, .ref cgi, .ref cga, .ref cbe])), (cgi, .inl (cy 1, 360, .inl gi))] sz) [(hc, .inr (0, [.ref cpn, .ref cki, .ref chu, .ref cta, .ref cvo, .ref csf, .ref cst, .ref ccw, .ref cdn, .ref cbi, .ref csa, .ref cco, .ref clw, .int (nI np), .int (nI nd), .int cs, .int cr, .ref cgi, .ref cga, .ref cbe])), (cgi, .inl (cy 1, 360, .inl gi))]) (va_A [(hc, .inr (0, [.ref cpn, .ref cki, .ref chu, .ref cta, .ref cvo, .ref csf, .ref cst, .ref ccw, .ref cdn, .ref cbi, .ref csa, .ref cco, .ref clw, .int (nI np), .int (nI nd), .int cs, .int cr, .ref cgi, .ref cga, .ref cbe])), (cgi, .inl (cy 1, 360, .inl gi))] sz)) 0 0 (va_A [(hc, .inr (0, [.ref cpn, .ref cki, .ref chu, .ref cta, .ref cvo, .ref csf, .ref cst, .ref ccw, .ref cdn, .ref cbi, .ref csa, .ref cco, .ref clw, .int (nI np), .int (nI nd), .int cs, .int cr, .ref cgi, .ref cga, .ref cbe])), (cgi, .inl (cy 1, 360, .inl gi))] sz) := by
  refine Met.ofW (cc := cX0_gift) (maxL := 5) (ret := (some .int)) (by decide) rfl ?_
  intro p e s m args below meth c s₁ B hml hv
  obtain ⟨rfl, hsz, hP, hG, hD0⟩ := hv
  have hx := B.exec
  have hb := B.bytes
  have hr := B.returns
  have hts := atoms_spec (ws := (Cond.code yX0_gift cX0_gift 5 (some .int) :: bigG)) B.pre
  have hg : ∀ w ∈ bigG, w.before ([.ref hc, .int (nI ea), .int (nI di), .int sl, .int (nI pe)] : List Value).toArray s = true := fun w h => hts w (List.mem_cons_of_mem _ h)
  have hown : s.vm.findClass RX0 = some m.cls := findClass_of_methodNamed B.named
  have hlocks := B.notSynchronized
  subst hsz
  have hD := hD0.self (sz := s.heap.size)
  generalize hAe : va_A [(hc, .inr (0, [.ref cpn, .ref cki, .ref chu, .ref cta, .ref cvo, .ref csf, .ref cst, .ref ccw, .ref cdn, .ref cbi, .ref csa, .ref cco, .ref clw, .int (nI np), .int (nI nd), .int cs, .int cr, .ref cgi, .ref cga, .ref cbe])), (cgi, .inl (cy 1, 360, .inl gi))] s.heap.size = A at hD ⊢
  have hA : ∀ q : Nat, s.heap.size ≤ q → A q := fun q h => by rw [← hAe]; exact Or.inr h
  have hS : va_S A s.heap s.heap [] := va_S.rf
  have hP : va_P D vwCl [(hc, .inr (0, [.ref cpn, .ref cki, .ref chu, .ref cta, .ref cvo, .ref csf, .ref cst, .ref ccw, .ref cdn, .ref cbi, .ref csa, .ref cco, .ref clw, .int (nI np), .int (nI nd), .int cs, .int cr, .ref cgi, .ref cga, .ref cbe])), (cgi, .inl (cy 1, 360, .inl gi))] s.heap := hP
  have hl := lv_entry ([.ref hc, .int (nI ea), .int (nI di), .int sl, .int (nI pe)]) (n := 5) (Nat.le_of_ble_eq_true rfl)
  rw [lg_entry_eq]
  generalize (lg_sl ([.ref hc, .int (nI ea), .int (nI di), .int sl, .int (nI pe)]) ++ List.replicate (5 - (lg_sl ([.ref hc, .int (nI ea), .int (nI di), .int sl, .int (nI pe)])).length) Slot.unset).toArray = ls at hl ⊢
  have hl : lv_has ls 5 [(0, .ref hc), (1, .int (nI ea)), (2, .int (nI di)), (3, .int sl), (4, .int (nI pe))] := hl
  refine w_nm (fun Q hQ => ?_)
  refine lv_aload_n hx hb dX0_gift_0 rfl (lv_at hl 0 rfl) ?_
  refine va_get (D := D) (ci := 0) (v := .ref cgi) (C := RX0) (T := TX0) (N := 20) hx hb hts (inC ibX0) hown hG.1 hP 0 rfl rfl 17 (by decide) (hg _ k_188) (fun _ h9 => h9) rfl dX0_gift_1 ?_
  refine lv_iload_n hx hb dX0_gift_4 rfl (lv_at hl 1 rfl) ?_
  refine lv_iload_n hx hb dX0_gift_5 rfl (lv_at hl 2 rfl) ?_
  refine lv_iload_n hx hb dX0_gift_6 rfl (lv_at hl 3 rfl) ?_
  refine x_i (wr := [(hc, .inr (0, [.ref cpn, .ref cki, .ref chu, .ref cta, .ref cvo, .ref csf, .ref cst, .ref ccw, .ref cdn, .ref cbi, .ref csa, .ref cco, .ref clw, .int (nI np), .int (nI nd), .int cs, .int cr, .ref cgi, .ref cga, .ref cbe])), (cgi, .inl (cy 1, 360, .inl gi))]) hP hD hS hA [] [0, 1] rfl rfl (by decide) (by decide) (va_runS (As := [.int (nI ea), .int (nI di), .int sl]) (rest := [.ref cgi]) ⟨hx, hb, hml, hown, hts⟩ (c_X0_giftAt l D cy ea di sl s.heap.size he hd) (va_cwS 3 hts (gS km_X0_88 kt_X0_giftAt kn_X0 kc_X0_giftAt) rfl rfl rfl (by decide +kernel) ⟨(Nat.le_of_ble_eq_true rfl), (Nat.le_of_ble_eq_true rfl)⟩) (preS hG hP hD [] rfl (by decide)) rfl rfl hl.1 rfl (lv_room (Nat.le_of_ble_eq_true rfl)) dX0_gift_7 ⟨(Nat.le_of_ble_eq_true rfl), (Nat.le_of_ble_eq_true rfl)⟩) (fun r_1 H locs hB hj hS => ?_)
  obtain ⟨hres, hP1, hD1⟩ := hB
  subst hres
  obtain ⟨hP, hD⟩ := hj _ hP1 hD1
  have hP : va_P D vwCl [(hc, .inr (0, [.ref cpn, .ref cki, .ref chu, .ref cta, .ref cvo, .ref csf, .ref cst, .ref ccw, .ref cdn, .ref cbi, .ref csa, .ref cco, .ref clw, .int (nI np), .int (nI nd), .int cs, .int cr, .ref cgi, .ref cga, .ref cbe])), (cgi, .inl (cy 1, 360, .inl gi))] H := hP
  have hD : va_D A [(hc, .inr (0, [.ref cpn, .ref cki, .ref chu, .ref cta, .ref cvo, .ref csf, .ref cst, .ref ccw, .ref cdn, .ref cbi, .ref csa, .ref cco, .ref clw, .int (nI np), .int (nI nd), .int cs, .int cr, .ref cgi, .ref cga, .ref cbe])), (cgi, .inl (cy 1, 360, .inl gi))] := hD
  refine lv_iload hx hb dX0_gift_10 (lv_at hl 4 rfl) ?_
  refine m_iadd (v := nI ((gix ea di sl) + pe)) hx hb dX0_gift_12 (by show nI (gix ea di sl) + nI pe = _; exact nI_add _ _) ?_
  refine m_iald (v := gi (gix ea di sl + pe)) hx hb hG hP 1 rfl (vp_in_nI (gix_lt he hd hp) (by decide)) dX0_gift_13 (by rw [nI_clamp (Nat.lt_trans (gix_lt he hd hp) (by decide))]) ?_
  have hP9 := hP.sub (ws' := [(hc, .inr (0, [.ref cpn, .ref cki, .ref chu, .ref cta, .ref cvo, .ref csf, .ref cst, .ref ccw, .ref cdn, .ref cbi, .ref csa, .ref cco, .ref clw, .int (nI np), .int (nI nd), .int cs, .int cr, .ref cgi, .ref cga, .ref cbe])), (cgi, .inl (cy 1, 360, .inl gi))]) [0, 1] rfl
  have hD9 := hD.sub (ws' := [(hc, .inr (0, [.ref cpn, .ref cki, .ref chu, .ref cta, .ref cvo, .ref csf, .ref cst, .ref ccw, .ref cdn, .ref cbi, .ref csa, .ref cco, .ref clw, .int (nI np), .int (nI nd), .int cs, .int cr, .ref cgi, .ref cga, .ref cbe])), (cgi, .inl (cy 1, 360, .inl gi))]) [0, 1] (by decide) rfl
  subst hQ
  exact W.iret (v := gi (gix ea di sl + pe)) hx hb hr (fun t ht hW => qi_mk (by rw [ht]; exact ⟨rfl, hP9, hD9⟩) (hS.F ht)) hS.2.2 dX0_gift_14
set_option maxHeartbeats 4000000 in
set_option maxRecDepth 100000 in
theorem c_X0_giftAbroad (l : Launch) (D : va_G) (cy : Nat → ClassId) (hc : Nat) (cpn : Nat) (cki : Nat) (chu : Nat) (cta : Nat) (cvo : Nat) (csf : Nat) (cst : Nat) (ccw : Nat) (cdn : Nat) (cbi : Nat) (csa : Nat) (cco : Nat) (clw : Nat) (cgi : Nat) (cga : Nat) (cbe : Nat) (np : Nat) (nd : Nat) (cs : Int32) (cr : Int32) (pe : Nat) (di : Nat) (ga : Nat → Int32) (sz : Nat) (hp : pe < 6) (hd : di < 5) : Met l yX0_giftAbroad (Cond.code yX0_giftAbroad cX0_giftAbroad 3 (some .int) :: bigG) ({ frames := 0, cells := 0, slots := 0, locals := 0 }) (pre D cy [.ref hc, .int (nI pe), .int (nI di)] sz [(hc, .inr (0, [.ref cpn, .ref cki, .ref chu, .ref cta, .ref cvo, .ref csf, .ref cst, .ref ccw, .ref cdn, .ref cbi, .ref csa, .ref cco, .ref clw, .int (nI np), .int (nI nd), .int cs, .int cr, .ref cgi, .ref cga, .ref cbe])), (cga, .inl (cy 1, 30, .inl ga))]) (qi (fun r h => r = ga (pe * 5 + di) ∧ va_P D vwCl [(hc, .inr (0, [.ref cpn, .ref cki, .ref chu, .ref cta, .ref cvo, .ref csf, .ref cst, .ref ccw, .ref cdn, .ref cbi, .ref csa, .ref cco, .ref clw, .int (nI np), .int (nI nd), .int cs, .int cr, .ref cgi, .ref cga, .ref cbe])), (cga, .inl (cy 1, 30, .inl ga))] h ∧ va_D (va_A [(hc, .inr (0, [.ref cpn, .ref cki, .ref chu, .ref cta, .ref cvo, .ref csf, .ref cst, .ref ccw, .ref cdn, .ref cbi, .ref csa, .ref cco, .ref clw, .int (nI np), .int (nI nd), .int cs, .int cr, .ref cgi, .ref cga, .ref cbe])), (cga, .inl (cy 1, 30, .inl ga))] sz) [(hc, .inr (0, [.ref cpn, .ref cki, .ref chu, .ref cta, .ref cvo, .ref csf, .ref cst, .ref ccw, .ref cdn, .ref cbi, .ref csa, .ref cco, .ref clw, .int (nI np), .int (nI nd), .int cs, .int cr, .ref cgi, .ref cga, .ref cbe])), (cga, .inl (cy 1, 30, .inl ga))]) (va_A [(hc, .inr (0, [.ref cpn, .ref cki, .ref chu, .ref cta, .ref cvo, .ref csf, .ref cst, .ref ccw, .ref cdn, .ref cbi, .ref csa, .ref cco, .ref clw, .int (nI np), .int (nI nd), .int cs, .int cr, .ref cgi, .ref cga, .ref cbe])), (cga, .inl (cy 1, 30, .inl ga))] sz)) 0 0 (va_A [(hc, .inr (0, [.ref cpn, .ref cki, .ref chu, .ref cta, .ref cvo, .ref csf, .ref cst, .ref ccw, .ref cdn, .ref cbi, .ref csa, .ref cco, .ref clw, .int (nI np), .int (nI nd), .int cs, .int cr, .ref cgi, .ref cga, .ref cbe])), (cga, .inl (cy 1, 30, .inl ga))] sz) := by
  refine Met.ofW (cc := cX0_giftAbroad) (maxL := 3) (ret := (some .int)) (by decide) rfl ?_
  intro p e s m args below meth c s₁ B hml hv
  obtain ⟨rfl, hsz, hP, hG, hD0⟩ := hv
  have hx := B.exec
  have hb := B.bytes
  have hr := B.returns
  have hts := atoms_spec (ws := (Cond.code yX0_giftAbroad cX0_giftAbroad 3 (some .int) :: bigG)) B.pre
  have hg : ∀ w ∈ bigG, w.before ([.ref hc, .int (nI pe), .int (nI di)] : List Value).toArray s = true := fun w h => hts w (List.mem_cons_of_mem _ h)
  have hown : s.vm.findClass RX0 = some m.cls := findClass_of_methodNamed B.named
  have hlocks := B.notSynchronized
  subst hsz
  have hD := hD0.self (sz := s.heap.size)
  generalize hAe : va_A [(hc, .inr (0, [.ref cpn, .ref cki, .ref chu, .ref cta, .ref cvo, .ref csf, .ref cst, .ref ccw, .ref cdn, .ref cbi, .ref csa, .ref cco, .ref clw, .int (nI np), .int (nI nd), .int cs, .int cr, .ref cgi, .ref cga, .ref cbe])), (cga, .inl (cy 1, 30, .inl ga))] s.heap.size = A at hD ⊢
  have hA : ∀ q : Nat, s.heap.size ≤ q → A q := fun q h => by rw [← hAe]; exact Or.inr h
  have hS : va_S A s.heap s.heap [] := va_S.rf
  have hP : va_P D vwCl [(hc, .inr (0, [.ref cpn, .ref cki, .ref chu, .ref cta, .ref cvo, .ref csf, .ref cst, .ref ccw, .ref cdn, .ref cbi, .ref csa, .ref cco, .ref clw, .int (nI np), .int (nI nd), .int cs, .int cr, .ref cgi, .ref cga, .ref cbe])), (cga, .inl (cy 1, 30, .inl ga))] s.heap := hP
  have hl := lv_entry ([.ref hc, .int (nI pe), .int (nI di)]) (n := 3) (Nat.le_of_ble_eq_true rfl)
  rw [lg_entry_eq]
  generalize (lg_sl ([.ref hc, .int (nI pe), .int (nI di)]) ++ List.replicate (3 - (lg_sl ([.ref hc, .int (nI pe), .int (nI di)])).length) Slot.unset).toArray = ls at hl ⊢
  have hl : lv_has ls 3 [(0, .ref hc), (1, .int (nI pe)), (2, .int (nI di))] := hl
  refine w_nm (fun Q hQ => ?_)
  refine lv_aload_n hx hb dX0_giftAbroad_0 rfl (lv_at hl 0 rfl) ?_
  refine va_get (D := D) (ci := 0) (v := .ref cga) (C := RX0) (T := TX0) (N := 20) hx hb hts (inC ibX0) hown hG.1 hP 0 rfl rfl 18 (by decide) (hg _ k_189) (fun _ h9 => h9) rfl dX0_giftAbroad_1 ?_
  refine lv_iload_n hx hb dX0_giftAbroad_4 rfl (lv_at hl 1 rfl) ?_
  refine lv_iconst (v := 5) hx hb dX0_giftAbroad_5 (by decide) ?_
  refine m_imul (v := nI (pe * 5)) hx hb dX0_giftAbroad_6 (by show nI pe * nI 5 = _; exact pk_mul _ _) ?_
  refine lv_iload_n hx hb dX0_giftAbroad_7 rfl (lv_at hl 2 rfl) ?_
  refine m_iadd (v := nI ((pe * 5) + di)) hx hb dX0_giftAbroad_8 (by show nI (pe * 5) + nI di = _; exact nI_add _ _) ?_
  refine m_iald (v := ga ((pe * 5) + di)) hx hb hG hP 1 rfl (vp_in_nI (by omega) (by omega)) dX0_giftAbroad_9 (by rw [nI_clamp (by omega)]) ?_
  have hP9 := hP.sub (ws' := [(hc, .inr (0, [.ref cpn, .ref cki, .ref chu, .ref cta, .ref cvo, .ref csf, .ref cst, .ref ccw, .ref cdn, .ref cbi, .ref csa, .ref cco, .ref clw, .int (nI np), .int (nI nd), .int cs, .int cr, .ref cgi, .ref cga, .ref cbe])), (cga, .inl (cy 1, 30, .inl ga))]) [0, 1] rfl
  have hD9 := hD.sub (ws' := [(hc, .inr (0, [.ref cpn, .ref cki, .ref chu, .ref cta, .ref cvo, .ref csf, .ref cst, .ref ccw, .ref cdn, .ref cbi, .ref csa, .ref cco, .ref clw, .int (nI np), .int (nI nd), .int cs, .int cr, .ref cgi, .ref cga, .ref cbe])), (cga, .inl (cy 1, 30, .inl ga))]) [0, 1] (by decide) rfl
  subst hQ
  exact W.iret (v := ga ((pe * 5) + di)) hx hb hr (fun t ht hW => qi_mk (by rw [ht]; exact ⟨rfl, hP9, hD9⟩) (hS.F ht)) hS.2.2 dX0_giftAbroad_10
set_option maxHeartbeats 4000000 in
set_option maxRecDepth 100000 in
theorem c_X8_sits (l : Launch) (D : va_G) (cy : Nat → ClassId) (h0 : Nat) (q1 : Nat) (q2 : Nat) (q3 : Nat) (dy : Int32) (so : Int32) (il : Int32) (hc : Nat) (cpn : Nat) (cki : Nat) (chu : Nat) (cta : Nat) (cvo : Nat) (csf : Nat) (cst : Nat) (ccw : Nat) (cdn : Nat) (cbi : Nat) (csa : Nat) (cco : Nat) (clw : Nat) (cgi : Nat) (cga : Nat) (cbe : Nat) (np : Nat) (nd : Nat) (cs : Int32) (cr : Int32) (pe : Nat) (sf : Nat → Int32) (st : Nat → Int32) (sz : Nat) (hp : pe < 6) : Met l yX8_sits (Cond.code yX8_sits cX8_sits 3 (some .boolean) :: bigG) ({ frames := 1, cells := 0, slots := 0, locals := 22 }) (pre D cy [.ref h0, .ref hc, .int (nI pe)] sz [(h0, .inr (8, [.int dy, .int so, .int il, .ref q1, .ref q2, .ref q3])), (hc, .inr (0, [.ref cpn, .ref cki, .ref chu, .ref cta, .ref cvo, .ref csf, .ref cst, .ref ccw, .ref cdn, .ref cbi, .ref csa, .ref cco, .ref clw, .int (nI np), .int (nI nd), .int cs, .int cr, .ref cgi, .ref cga, .ref cbe])), (csf, .inl (cy 1, 6, .inl sf)), (cst, .inl (cy 1, 6, .inl st))]) (qi (fun r h => r = sitv sf st pe dy ∧ va_P D vwCl [(h0, .inr (8, [.int dy, .int so, .int il, .ref q1, .ref q2, .ref q3])), (hc, .inr (0, [.ref cpn, .ref cki, .ref chu, .ref cta, .ref cvo, .ref csf, .ref cst, .ref ccw, .ref cdn, .ref cbi, .ref csa, .ref cco, .ref clw, .int (nI np), .int (nI nd), .int cs, .int cr, .ref cgi, .ref cga, .ref cbe])), (csf, .inl (cy 1, 6, .inl sf)), (cst, .inl (cy 1, 6, .inl st))] h ∧ va_D (va_A [(h0, .inr (8, [.int dy, .int so, .int il, .ref q1, .ref q2, .ref q3])), (hc, .inr (0, [.ref cpn, .ref cki, .ref chu, .ref cta, .ref cvo, .ref csf, .ref cst, .ref ccw, .ref cdn, .ref cbi, .ref csa, .ref cco, .ref clw, .int (nI np), .int (nI nd), .int cs, .int cr, .ref cgi, .ref cga, .ref cbe])), (csf, .inl (cy 1, 6, .inl sf)), (cst, .inl (cy 1, 6, .inl st))] sz) [(h0, .inr (8, [.int dy, .int so, .int il, .ref q1, .ref q2, .ref q3])), (hc, .inr (0, [.ref cpn, .ref cki, .ref chu, .ref cta, .ref cvo, .ref csf, .ref cst, .ref ccw, .ref cdn, .ref cbi, .ref csa, .ref cco, .ref clw, .int (nI np), .int (nI nd), .int cs, .int cr, .ref cgi, .ref cga, .ref cbe])), (csf, .inl (cy 1, 6, .inl sf)), (cst, .inl (cy 1, 6, .inl st))]) (va_A [(h0, .inr (8, [.int dy, .int so, .int il, .ref q1, .ref q2, .ref q3])), (hc, .inr (0, [.ref cpn, .ref cki, .ref chu, .ref cta, .ref cvo, .ref csf, .ref cst, .ref ccw, .ref cdn, .ref cbi, .ref csa, .ref cco, .ref clw, .int (nI np), .int (nI nd), .int cs, .int cr, .ref cgi, .ref cga, .ref cbe])), (csf, .inl (cy 1, 6, .inl sf)), (cst, .inl (cy 1, 6, .inl st))] sz)) 0 0 (va_A [(h0, .inr (8, [.int dy, .int so, .int il, .ref q1, .ref q2, .ref q3])), (hc, .inr (0, [.ref cpn, .ref cki, .ref chu, .ref cta, .ref cvo, .ref csf, .ref cst, .ref ccw, .ref cdn, .ref cbi, .ref csa, .ref cco, .ref clw, .int (nI np), .int (nI nd), .int cs, .int cr, .ref cgi, .ref cga, .ref cbe])), (csf, .inl (cy 1, 6, .inl sf)), (cst, .inl (cy 1, 6, .inl st))] sz) := by
  refine Met.ofW (cc := cX8_sits) (maxL := 3) (ret := (some .boolean)) (by decide) rfl ?_
  intro p e s m args below meth c s₁ B hml hv
  obtain ⟨rfl, hsz, hP, hG, hD0⟩ := hv
  have hx := B.exec
  have hb := B.bytes
  have hr := B.returns
  have hts := atoms_spec (ws := (Cond.code yX8_sits cX8_sits 3 (some .boolean) :: bigG)) B.pre
  have hg : ∀ w ∈ bigG, w.before ([.ref h0, .ref hc, .int (nI pe)] : List Value).toArray s = true := fun w h => hts w (List.mem_cons_of_mem _ h)
  have hown : s.vm.findClass RX8 = some m.cls := findClass_of_methodNamed B.named
  have hlocks := B.notSynchronized
  subst hsz
  have hD := hD0.self (sz := s.heap.size)
  generalize hAe : va_A [(h0, .inr (8, [.int dy, .int so, .int il, .ref q1, .ref q2, .ref q3])), (hc, .inr (0, [.ref cpn, .ref cki, .ref chu, .ref cta, .ref cvo, .ref csf, .ref cst, .ref ccw, .ref cdn, .ref cbi, .ref csa, .ref cco, .ref clw, .int (nI np), .int (nI nd), .int cs, .int cr, .ref cgi, .ref cga, .ref cbe])), (csf, .inl (cy 1, 6, .inl sf)), (cst, .inl (cy 1, 6, .inl st))] s.heap.size = A at hD ⊢
  have hA : ∀ q : Nat, s.heap.size ≤ q → A q := fun q h => by rw [← hAe]; exact Or.inr h
  have hS : va_S A s.heap s.heap [] := va_S.rf
  have hP : va_P D vwCl [(h0, .inr (8, [.int dy, .int so, .int il, .ref q1, .ref q2, .ref q3])), (hc, .inr (0, [.ref cpn, .ref cki, .ref chu, .ref cta, .ref cvo, .ref csf, .ref cst, .ref ccw, .ref cdn, .ref cbi, .ref csa, .ref cco, .ref clw, .int (nI np), .int (nI nd), .int cs, .int cr, .ref cgi, .ref cga, .ref cbe])), (csf, .inl (cy 1, 6, .inl sf)), (cst, .inl (cy 1, 6, .inl st))] s.heap := hP
  have hl := lv_entry ([.ref h0, .ref hc, .int (nI pe)]) (n := 3) (Nat.le_of_ble_eq_true rfl)
  rw [lg_entry_eq]
  generalize (lg_sl ([.ref h0, .ref hc, .int (nI pe)]) ++ List.replicate (3 - (lg_sl ([.ref h0, .ref hc, .int (nI pe)])).length) Slot.unset).toArray = ls at hl ⊢
  have hl : lv_has ls 3 [(0, .ref h0), (1, .ref hc), (2, .int (nI pe))] := hl
  refine w_nm (fun Q hQ => ?_)
  refine lv_aload_n hx hb dX8_sits_0 rfl (lv_at hl 1 rfl) ?_
  refine lv_iload_n hx hb dX8_sits_1 rfl (lv_at hl 2 rfl) ?_
  refine lv_aload_n hx hb dX8_sits_2 rfl (lv_at hl 0 rfl) ?_
  refine va_get (D := D) (ci := 8) (v := .int dy) (C := RX8) (T := TX8) (N := 6) hx hb hts (inC ibX8) hown hG.1 hP 0 rfl rfl 0 (by decide) (hg _ k_260) (fun _ h9 => h9) rfl dX8_sits_3 ?_
  refine x_i (wr := [(h0, .inr (8, [.int dy, .int so, .int il, .ref q1, .ref q2, .ref q3]))]) hP hD hS hA [1, 2, 3] [0] rfl rfl (by decide) (by decide) (va_runV (As := [.int (nI pe), .int dy]) (rest := []) ⟨hx, hb, hml, hown, hts⟩ (c_X0_isSick l D cy hc cpn cki chu cta cvo csf cst ccw cdn cbi csa cco clw cgi cga cbe np nd cs cr pe dy sf st s.heap.size hp) (cwV 2 hts (gV km_X8_50 ki_X0_isSick kz_X0_isSick kn_X0 kc_X0_isSick) rfl rfl rfl (by decide +kernel) ⟨(Nat.le_of_ble_eq_true rfl), (Nat.le_of_ble_eq_true rfl)⟩) (preV hG hP hD [1, 2, 3] rfl (by decide) 0 1 rfl rfl) rfl rfl hl.1 rfl (lv_room (Nat.le_of_ble_eq_true rfl)) dX8_sits_6 ⟨(Nat.le_of_ble_eq_true rfl), (Nat.le_of_ble_eq_true rfl)⟩) (fun r_1 H locs hB hj hS => ?_)
  obtain ⟨hres, hP1, hD1⟩ := hB
  subst hres
  obtain ⟨hP, hD⟩ := hj _ hP1 hD1
  have hP : va_P D vwCl [(h0, .inr (8, [.int dy, .int so, .int il, .ref q1, .ref q2, .ref q3])), (hc, .inr (0, [.ref cpn, .ref cki, .ref chu, .ref cta, .ref cvo, .ref csf, .ref cst, .ref ccw, .ref cdn, .ref cbi, .ref csa, .ref cco, .ref clw, .int (nI np), .int (nI nd), .int cs, .int cr, .ref cgi, .ref cga, .ref cbe])), (csf, .inl (cy 1, 6, .inl sf)), (cst, .inl (cy 1, 6, .inl st))] H := hP
  have hD : va_D A [(h0, .inr (8, [.int dy, .int so, .int il, .ref q1, .ref q2, .ref q3])), (hc, .inr (0, [.ref cpn, .ref cki, .ref chu, .ref cta, .ref cvo, .ref csf, .ref cst, .ref ccw, .ref cdn, .ref cbi, .ref csa, .ref cco, .ref clw, .int (nI np), .int (nI nd), .int cs, .int cr, .ref cgi, .ref cga, .ref cbe])), (csf, .inl (cy 1, 6, .inl sf)), (cst, .inl (cy 1, 6, .inl st))] := hD
  refine lv_if_ne (tgt := 16) hx hb dX8_sits_9 (by decide) (fun c_2 => ?_) (fun c_2 => ?_)
  · refine lv_iconst (v := 0) hx hb dX8_sits_16 (by decide) ?_
    have hP9 := hP.sub (ws' := [(h0, .inr (8, [.int dy, .int so, .int il, .ref q1, .ref q2, .ref q3])), (hc, .inr (0, [.ref cpn, .ref cki, .ref chu, .ref cta, .ref cvo, .ref csf, .ref cst, .ref ccw, .ref cdn, .ref cbi, .ref csa, .ref cco, .ref clw, .int (nI np), .int (nI nd), .int cs, .int cr, .ref cgi, .ref cga, .ref cbe])), (csf, .inl (cy 1, 6, .inl sf)), (cst, .inl (cy 1, 6, .inl st))]) [0, 1, 2, 3] rfl
    have hD9 := hD.sub (ws' := [(h0, .inr (8, [.int dy, .int so, .int il, .ref q1, .ref q2, .ref q3])), (hc, .inr (0, [.ref cpn, .ref cki, .ref chu, .ref cta, .ref cvo, .ref csf, .ref cst, .ref ccw, .ref cdn, .ref cbi, .ref csa, .ref cco, .ref clw, .int (nI np), .int (nI nd), .int cs, .int cr, .ref cgi, .ref cga, .ref cbe])), (csf, .inl (cy 1, 6, .inl sf)), (cst, .inl (cy 1, 6, .inl st))]) [0, 1, 2, 3] (by decide) rfl
    subst hQ
    exact W.zret (v := 0) hx hb hr rfl (fun t ht hW => qi_mk (by rw [ht]; exact ⟨(by rw [sitv, if_neg c_2]), hP9, hD9⟩) (hS.F ht)) hS.2.2 dX8_sits_17
  · refine lv_iconst (v := 1) hx hb dX8_sits_12 (by decide) ?_
    refine lv_goto (tgt := 17) hx hb dX8_sits_13 (by decide) ?_
    have hP9 := hP.sub (ws' := [(h0, .inr (8, [.int dy, .int so, .int il, .ref q1, .ref q2, .ref q3])), (hc, .inr (0, [.ref cpn, .ref cki, .ref chu, .ref cta, .ref cvo, .ref csf, .ref cst, .ref ccw, .ref cdn, .ref cbi, .ref csa, .ref cco, .ref clw, .int (nI np), .int (nI nd), .int cs, .int cr, .ref cgi, .ref cga, .ref cbe])), (csf, .inl (cy 1, 6, .inl sf)), (cst, .inl (cy 1, 6, .inl st))]) [0, 1, 2, 3] rfl
    have hD9 := hD.sub (ws' := [(h0, .inr (8, [.int dy, .int so, .int il, .ref q1, .ref q2, .ref q3])), (hc, .inr (0, [.ref cpn, .ref cki, .ref chu, .ref cta, .ref cvo, .ref csf, .ref cst, .ref ccw, .ref cdn, .ref cbi, .ref csa, .ref cco, .ref clw, .int (nI np), .int (nI nd), .int cs, .int cr, .ref cgi, .ref cga, .ref cbe])), (csf, .inl (cy 1, 6, .inl sf)), (cst, .inl (cy 1, 6, .inl st))]) [0, 1, 2, 3] (by decide) rfl
    subst hQ
    exact W.zret (v := 1) hx hb hr rfl (fun t ht hW => qi_mk (by rw [ht]; exact ⟨(by rw [sitv, if_pos c_2]), hP9, hD9⟩) (hS.F ht)) hS.2.2 dX8_sits_17
set_option maxHeartbeats 4000000 in
set_option maxRecDepth 100000 in
theorem c_X8_wouldBeIll (l : Launch) (D : va_G) (cy : Nat → ClassId) (h0 : Nat) (q1 : Nat) (q2 : Nat) (q3 : Nat) (dy : Int32) (so : Int32) (il : Int32) (hc : Nat) (cpn : Nat) (cki : Nat) (chu : Nat) (cta : Nat) (cvo : Nat) (csf : Nat) (cst : Nat) (ccw : Nat) (cdn : Nat) (cbi : Nat) (csa : Nat) (cco : Nat) (clw : Nat) (cgi : Nat) (cga : Nat) (cbe : Nat) (np : Nat) (nd : Nat) (cs : Int32) (cr : Int32) (ea : Nat) (ae : Nat → Int32) (sz : Nat) (he : ea < 6) : Met l yX8_wouldBeIll (Cond.code yX8_wouldBeIll cX8_wouldBeIll 3 (some .boolean) :: bigG) ({ frames := 0, cells := 0, slots := 0, locals := 0 }) (pre D cy [.ref h0, .ref hc, .int (nI ea)] sz [(h0, .inr (8, [.int dy, .int so, .int il, .ref q1, .ref q2, .ref q3])), (hc, .inr (0, [.ref cpn, .ref cki, .ref chu, .ref cta, .ref cvo, .ref csf, .ref cst, .ref ccw, .ref cdn, .ref cbi, .ref csa, .ref cco, .ref clw, .int (nI np), .int (nI nd), .int cs, .int cr, .ref cgi, .ref cga, .ref cbe])), (q2, .inl (cy 1, 6, .inl ae))]) (qi (fun r h => r = illv ae dy cr ea ∧ va_P D vwCl [(h0, .inr (8, [.int dy, .int so, .int il, .ref q1, .ref q2, .ref q3])), (hc, .inr (0, [.ref cpn, .ref cki, .ref chu, .ref cta, .ref cvo, .ref csf, .ref cst, .ref ccw, .ref cdn, .ref cbi, .ref csa, .ref cco, .ref clw, .int (nI np), .int (nI nd), .int cs, .int cr, .ref cgi, .ref cga, .ref cbe])), (q2, .inl (cy 1, 6, .inl ae))] h ∧ va_D (va_A [(h0, .inr (8, [.int dy, .int so, .int il, .ref q1, .ref q2, .ref q3])), (hc, .inr (0, [.ref cpn, .ref cki, .ref chu, .ref cta, .ref cvo, .ref csf, .ref cst, .ref ccw, .ref cdn, .ref cbi, .ref csa, .ref cco, .ref clw, .int (nI np), .int (nI nd), .int cs, .int cr, .ref cgi, .ref cga, .ref cbe])), (q2, .inl (cy 1, 6, .inl ae))] sz) [(h0, .inr (8, [.int dy, .int so, .int il, .ref q1, .ref q2, .ref q3])), (hc, .inr (0, [.ref cpn, .ref cki, .ref chu, .ref cta, .ref cvo, .ref csf, .ref cst, .ref ccw, .ref cdn, .ref cbi, .ref csa, .ref cco, .ref clw, .int (nI np), .int (nI nd), .int cs, .int cr, .ref cgi, .ref cga, .ref cbe])), (q2, .inl (cy 1, 6, .inl ae))]) (va_A [(h0, .inr (8, [.int dy, .int so, .int il, .ref q1, .ref q2, .ref q3])), (hc, .inr (0, [.ref cpn, .ref cki, .ref chu, .ref cta, .ref cvo, .ref csf, .ref cst, .ref ccw, .ref cdn, .ref cbi, .ref csa, .ref cco, .ref clw, .int (nI np), .int (nI nd), .int cs, .int cr, .ref cgi, .ref cga, .ref cbe])), (q2, .inl (cy 1, 6, .inl ae))] sz)) 0 0 (va_A [(h0, .inr (8, [.int dy, .int so, .int il, .ref q1, .ref q2, .ref q3])), (hc, .inr (0, [.ref cpn, .ref cki, .ref chu, .ref cta, .ref cvo, .ref csf, .ref cst, .ref ccw, .ref cdn, .ref cbi, .ref csa, .ref cco, .ref clw, .int (nI np), .int (nI nd), .int cs, .int cr, .ref cgi, .ref cga, .ref cbe])), (q2, .inl (cy 1, 6, .inl ae))] sz) := by
  refine Met.ofW (cc := cX8_wouldBeIll) (maxL := 3) (ret := (some .boolean)) (by decide) rfl ?_
  intro p e s m args below meth c s₁ B hml hv
  obtain ⟨rfl, hsz, hP, hG, hD0⟩ := hv
  have hx := B.exec
  have hb := B.bytes
  have hr := B.returns
  have hts := atoms_spec (ws := (Cond.code yX8_wouldBeIll cX8_wouldBeIll 3 (some .boolean) :: bigG)) B.pre
  have hg : ∀ w ∈ bigG, w.before ([.ref h0, .ref hc, .int (nI ea)] : List Value).toArray s = true := fun w h => hts w (List.mem_cons_of_mem _ h)
  have hown : s.vm.findClass RX8 = some m.cls := findClass_of_methodNamed B.named
  have hlocks := B.notSynchronized
  subst hsz
  have hD := hD0.self (sz := s.heap.size)
  generalize hAe : va_A [(h0, .inr (8, [.int dy, .int so, .int il, .ref q1, .ref q2, .ref q3])), (hc, .inr (0, [.ref cpn, .ref cki, .ref chu, .ref cta, .ref cvo, .ref csf, .ref cst, .ref ccw, .ref cdn, .ref cbi, .ref csa, .ref cco, .ref clw, .int (nI np), .int (nI nd), .int cs, .int cr, .ref cgi, .ref cga, .ref cbe])), (q2, .inl (cy 1, 6, .inl ae))] s.heap.size = A at hD ⊢
  have hA : ∀ q : Nat, s.heap.size ≤ q → A q := fun q h => by rw [← hAe]; exact Or.inr h
  have hS : va_S A s.heap s.heap [] := va_S.rf
  have hP : va_P D vwCl [(h0, .inr (8, [.int dy, .int so, .int il, .ref q1, .ref q2, .ref q3])), (hc, .inr (0, [.ref cpn, .ref cki, .ref chu, .ref cta, .ref cvo, .ref csf, .ref cst, .ref ccw, .ref cdn, .ref cbi, .ref csa, .ref cco, .ref clw, .int (nI np), .int (nI nd), .int cs, .int cr, .ref cgi, .ref cga, .ref cbe])), (q2, .inl (cy 1, 6, .inl ae))] s.heap := hP
  have hl := lv_entry ([.ref h0, .ref hc, .int (nI ea)]) (n := 3) (Nat.le_of_ble_eq_true rfl)
  rw [lg_entry_eq]
  generalize (lg_sl ([.ref h0, .ref hc, .int (nI ea)]) ++ List.replicate (3 - (lg_sl ([.ref h0, .ref hc, .int (nI ea)])).length) Slot.unset).toArray = ls at hl ⊢
  have hl : lv_has ls 3 [(0, .ref h0), (1, .ref hc), (2, .int (nI ea))] := hl
  refine w_nm (fun Q hQ => ?_)
  refine lv_aload_n hx hb dX8_wouldBeIll_0 rfl (lv_at hl 0 rfl) ?_
  refine va_get (D := D) (ci := 8) (v := .ref q2) (C := RX8) (T := TX8) (N := 6) hx hb hts (inC ibX8) hown hG.1 hP 0 rfl rfl 4 (by decide) (hg _ k_270) (fun _ h9 => h9) rfl dX8_wouldBeIll_1 ?_
  refine lv_iload_n hx hb dX8_wouldBeIll_4 rfl (lv_at hl 2 rfl) ?_
  refine m_iald (v := ae ea) hx hb hG hP 2 rfl (vp_in_nI (by omega) (by omega)) dX8_wouldBeIll_5 (by rw [nI_clamp (by omega)]) ?_
  refine lv_iconst (v := (-1)) hx hb dX8_wouldBeIll_6 (by decide) ?_
  refine lv_icmp_eq (tgt := 32) hx hb dX8_wouldBeIll_7 (by decide) (fun c_1 => ?_) (fun c_1 => ?_)
  · refine lv_iconst (v := 0) hx hb dX8_wouldBeIll_32 (by decide) ?_
    have hP9 := hP.sub (ws' := [(h0, .inr (8, [.int dy, .int so, .int il, .ref q1, .ref q2, .ref q3])), (hc, .inr (0, [.ref cpn, .ref cki, .ref chu, .ref cta, .ref cvo, .ref csf, .ref cst, .ref ccw, .ref cdn, .ref cbi, .ref csa, .ref cco, .ref clw, .int (nI np), .int (nI nd), .int cs, .int cr, .ref cgi, .ref cga, .ref cbe])), (q2, .inl (cy 1, 6, .inl ae))]) [0, 1, 2] rfl
    have hD9 := hD.sub (ws' := [(h0, .inr (8, [.int dy, .int so, .int il, .ref q1, .ref q2, .ref q3])), (hc, .inr (0, [.ref cpn, .ref cki, .ref chu, .ref cta, .ref cvo, .ref csf, .ref cst, .ref ccw, .ref cdn, .ref cbi, .ref csa, .ref cco, .ref clw, .int (nI np), .int (nI nd), .int cs, .int cr, .ref cgi, .ref cga, .ref cbe])), (q2, .inl (cy 1, 6, .inl ae))]) [0, 1, 2] (by decide) rfl
    subst hQ
    exact W.zret (v := 0) hx hb hr rfl (fun t ht hW => qi_mk (by rw [ht]; exact ⟨(by rw [illv, if_pos c_1]), hP9, hD9⟩) (hS.F ht)) hS.2.2 dX8_wouldBeIll_33
  · refine lv_aload_n hx hb dX8_wouldBeIll_10 rfl (lv_at hl 0 rfl) ?_
    refine va_get (D := D) (ci := 8) (v := .int dy) (C := RX8) (T := TX8) (N := 6) hx hb hts (inC ibX8) hown hG.1 hP 0 rfl rfl 0 (by decide) (hg _ k_260) (fun _ h9 => h9) rfl dX8_wouldBeIll_11 ?_
    refine lv_aload_n hx hb dX8_wouldBeIll_14 rfl (lv_at hl 0 rfl) ?_
    refine va_get (D := D) (ci := 8) (v := .ref q2) (C := RX8) (T := TX8) (N := 6) hx hb hts (inC ibX8) hown hG.1 hP 0 rfl rfl 4 (by decide) (hg _ k_270) (fun _ h9 => h9) rfl dX8_wouldBeIll_15 ?_
    refine lv_iload_n hx hb dX8_wouldBeIll_18 rfl (lv_at hl 2 rfl) ?_
    refine m_iald (v := ae ea) hx hb hG hP 2 rfl (vp_in_nI (by omega) (by omega)) dX8_wouldBeIll_19 (by rw [nI_clamp (by omega)]) ?_
    refine m_isub (v := (dy - (ae ea))) hx hb dX8_wouldBeIll_20 rfl ?_
    refine lv_aload_n hx hb dX8_wouldBeIll_21 rfl (lv_at hl 1 rfl) ?_
    refine va_get (D := D) (ci := 0) (v := .int cr) (C := RX0) (T := TX0) (N := 20) hx hb hts (inC ibX0) hown hG.1 hP 1 rfl rfl 16 (by decide) (hg _ k_186) (fun _ h9 => h9) rfl dX8_wouldBeIll_22 ?_
    refine lv_icmp_gt (tgt := 32) hx hb dX8_wouldBeIll_25 (by decide) (fun c_2 => ?_) (fun c_2 => ?_)
    · refine lv_iconst (v := 0) hx hb dX8_wouldBeIll_32 (by decide) ?_
      have hP9 := hP.sub (ws' := [(h0, .inr (8, [.int dy, .int so, .int il, .ref q1, .ref q2, .ref q3])), (hc, .inr (0, [.ref cpn, .ref cki, .ref chu, .ref cta, .ref cvo, .ref csf, .ref cst, .ref ccw, .ref cdn, .ref cbi, .ref csa, .ref cco, .ref clw, .int (nI np), .int (nI nd), .int cs, .int cr, .ref cgi, .ref cga, .ref cbe])), (q2, .inl (cy 1, 6, .inl ae))]) [0, 1, 2] rfl
      have hD9 := hD.sub (ws' := [(h0, .inr (8, [.int dy, .int so, .int il, .ref q1, .ref q2, .ref q3])), (hc, .inr (0, [.ref cpn, .ref cki, .ref chu, .ref cta, .ref cvo, .ref csf, .ref cst, .ref ccw, .ref cdn, .ref cbi, .ref csa, .ref cco, .ref clw, .int (nI np), .int (nI nd), .int cs, .int cr, .ref cgi, .ref cga, .ref cbe])), (q2, .inl (cy 1, 6, .inl ae))]) [0, 1, 2] (by decide) rfl
      subst hQ
      exact W.zret (v := 0) hx hb hr rfl (fun t ht hW => qi_mk (by rw [ht]; exact ⟨(by rw [illv, if_neg c_1, if_pos c_2]), hP9, hD9⟩) (hS.F ht)) hS.2.2 dX8_wouldBeIll_33
    · refine lv_iconst (v := 1) hx hb dX8_wouldBeIll_28 (by decide) ?_
      refine lv_goto (tgt := 33) hx hb dX8_wouldBeIll_29 (by decide) ?_
      have hP9 := hP.sub (ws' := [(h0, .inr (8, [.int dy, .int so, .int il, .ref q1, .ref q2, .ref q3])), (hc, .inr (0, [.ref cpn, .ref cki, .ref chu, .ref cta, .ref cvo, .ref csf, .ref cst, .ref ccw, .ref cdn, .ref cbi, .ref csa, .ref cco, .ref clw, .int (nI np), .int (nI nd), .int cs, .int cr, .ref cgi, .ref cga, .ref cbe])), (q2, .inl (cy 1, 6, .inl ae))]) [0, 1, 2] rfl
      have hD9 := hD.sub (ws' := [(h0, .inr (8, [.int dy, .int so, .int il, .ref q1, .ref q2, .ref q3])), (hc, .inr (0, [.ref cpn, .ref cki, .ref chu, .ref cta, .ref cvo, .ref csf, .ref cst, .ref ccw, .ref cdn, .ref cbi, .ref csa, .ref cco, .ref clw, .int (nI np), .int (nI nd), .int cs, .int cr, .ref cgi, .ref cga, .ref cbe])), (q2, .inl (cy 1, 6, .inl ae))]) [0, 1, 2] (by decide) rfl
      subst hQ
      exact W.zret (v := 1) hx hb hr rfl (fun t ht hW => qi_mk (by rw [ht]; exact ⟨(by rw [illv, if_neg c_1, if_neg c_2]), hP9, hD9⟩) (hS.F ht)) hS.2.2 dX8_wouldBeIll_33
set_option maxHeartbeats 4000000 in
set_option maxRecDepth 100000 in
theorem c_X8_canEat (l : Launch) (D : va_G) (cy : Nat → ClassId) (h0 : Nat) (q1 : Nat) (q2 : Nat) (q3 : Nat) (dy : Int32) (so : Int32) (il : Int32) (hc : Nat) (cpn : Nat) (cki : Nat) (chu : Nat) (cta : Nat) (cvo : Nat) (csf : Nat) (cst : Nat) (ccw : Nat) (cdn : Nat) (cbi : Nat) (csa : Nat) (cco : Nat) (clw : Nat) (cgi : Nat) (cga : Nat) (cbe : Nat) (np : Nat) (nd : Nat) (cs : Int32) (cr : Int32) (ea : Nat) (di : Nat) (sf : Nat → Int32) (st : Nat → Int32) (ki : Nat → Int32) (co : Nat → Int32) (sz : Nat) (he : ea < 6) (hd : di < 5) : Met l yX8_canEat (Cond.code yX8_canEat cX8_canEat 4 (some .boolean) :: bigG) ({ frames := 2, cells := 0, slots := 0, locals := 44 }) (pre D cy [.ref h0, .ref hc, .int (nI ea), .int (nI di)] sz [(h0, .inr (8, [.int dy, .int so, .int il, .ref q1, .ref q2, .ref q3])), (hc, .inr (0, [.ref cpn, .ref cki, .ref chu, .ref cta, .ref cvo, .ref csf, .ref cst, .ref ccw, .ref cdn, .ref cbi, .ref csa, .ref cco, .ref clw, .int (nI np), .int (nI nd), .int cs, .int cr, .ref cgi, .ref cga, .ref cbe])), (csf, .inl (cy 1, 6, .inl sf)), (cst, .inl (cy 1, 6, .inl st)), (cki, .inl (cy 1, 6, .inl ki)), (cco, .inl (cy 1, 5, .inl co))]) (qi (fun r h => r = canv sf st ki co ea di dy so ∧ va_P D vwCl [(h0, .inr (8, [.int dy, .int so, .int il, .ref q1, .ref q2, .ref q3])), (hc, .inr (0, [.ref cpn, .ref cki, .ref chu, .ref cta, .ref cvo, .ref csf, .ref cst, .ref ccw, .ref cdn, .ref cbi, .ref csa, .ref cco, .ref clw, .int (nI np), .int (nI nd), .int cs, .int cr, .ref cgi, .ref cga, .ref cbe])), (csf, .inl (cy 1, 6, .inl sf)), (cst, .inl (cy 1, 6, .inl st)), (cki, .inl (cy 1, 6, .inl ki)), (cco, .inl (cy 1, 5, .inl co))] h ∧ va_D (va_A [(h0, .inr (8, [.int dy, .int so, .int il, .ref q1, .ref q2, .ref q3])), (hc, .inr (0, [.ref cpn, .ref cki, .ref chu, .ref cta, .ref cvo, .ref csf, .ref cst, .ref ccw, .ref cdn, .ref cbi, .ref csa, .ref cco, .ref clw, .int (nI np), .int (nI nd), .int cs, .int cr, .ref cgi, .ref cga, .ref cbe])), (csf, .inl (cy 1, 6, .inl sf)), (cst, .inl (cy 1, 6, .inl st)), (cki, .inl (cy 1, 6, .inl ki)), (cco, .inl (cy 1, 5, .inl co))] sz) [(h0, .inr (8, [.int dy, .int so, .int il, .ref q1, .ref q2, .ref q3])), (hc, .inr (0, [.ref cpn, .ref cki, .ref chu, .ref cta, .ref cvo, .ref csf, .ref cst, .ref ccw, .ref cdn, .ref cbi, .ref csa, .ref cco, .ref clw, .int (nI np), .int (nI nd), .int cs, .int cr, .ref cgi, .ref cga, .ref cbe])), (csf, .inl (cy 1, 6, .inl sf)), (cst, .inl (cy 1, 6, .inl st)), (cki, .inl (cy 1, 6, .inl ki)), (cco, .inl (cy 1, 5, .inl co))]) (va_A [(h0, .inr (8, [.int dy, .int so, .int il, .ref q1, .ref q2, .ref q3])), (hc, .inr (0, [.ref cpn, .ref cki, .ref chu, .ref cta, .ref cvo, .ref csf, .ref cst, .ref ccw, .ref cdn, .ref cbi, .ref csa, .ref cco, .ref clw, .int (nI np), .int (nI nd), .int cs, .int cr, .ref cgi, .ref cga, .ref cbe])), (csf, .inl (cy 1, 6, .inl sf)), (cst, .inl (cy 1, 6, .inl st)), (cki, .inl (cy 1, 6, .inl ki)), (cco, .inl (cy 1, 5, .inl co))] sz)) 0 0 (va_A [(h0, .inr (8, [.int dy, .int so, .int il, .ref q1, .ref q2, .ref q3])), (hc, .inr (0, [.ref cpn, .ref cki, .ref chu, .ref cta, .ref cvo, .ref csf, .ref cst, .ref ccw, .ref cdn, .ref cbi, .ref csa, .ref cco, .ref clw, .int (nI np), .int (nI nd), .int cs, .int cr, .ref cgi, .ref cga, .ref cbe])), (csf, .inl (cy 1, 6, .inl sf)), (cst, .inl (cy 1, 6, .inl st)), (cki, .inl (cy 1, 6, .inl ki)), (cco, .inl (cy 1, 5, .inl co))] sz) := by
  refine Met.ofW (cc := cX8_canEat) (maxL := 4) (ret := (some .boolean)) (by decide) rfl ?_
  intro p e s m args below meth c s₁ B hml hv
  obtain ⟨rfl, hsz, hP, hG, hD0⟩ := hv
  have hx := B.exec
  have hb := B.bytes
  have hr := B.returns
  have hts := atoms_spec (ws := (Cond.code yX8_canEat cX8_canEat 4 (some .boolean) :: bigG)) B.pre
  have hg : ∀ w ∈ bigG, w.before ([.ref h0, .ref hc, .int (nI ea), .int (nI di)] : List Value).toArray s = true := fun w h => hts w (List.mem_cons_of_mem _ h)
  have hown : s.vm.findClass RX8 = some m.cls := findClass_of_methodNamed B.named
  have hlocks := B.notSynchronized
  subst hsz
  have hD := hD0.self (sz := s.heap.size)
  generalize hAe : va_A [(h0, .inr (8, [.int dy, .int so, .int il, .ref q1, .ref q2, .ref q3])), (hc, .inr (0, [.ref cpn, .ref cki, .ref chu, .ref cta, .ref cvo, .ref csf, .ref cst, .ref ccw, .ref cdn, .ref cbi, .ref csa, .ref cco, .ref clw, .int (nI np), .int (nI nd), .int cs, .int cr, .ref cgi, .ref cga, .ref cbe])), (csf, .inl (cy 1, 6, .inl sf)), (cst, .inl (cy 1, 6, .inl st)), (cki, .inl (cy 1, 6, .inl ki)), (cco, .inl (cy 1, 5, .inl co))] s.heap.size = A at hD ⊢
  have hA : ∀ q : Nat, s.heap.size ≤ q → A q := fun q h => by rw [← hAe]; exact Or.inr h
  have hS : va_S A s.heap s.heap [] := va_S.rf
  have hP : va_P D vwCl [(h0, .inr (8, [.int dy, .int so, .int il, .ref q1, .ref q2, .ref q3])), (hc, .inr (0, [.ref cpn, .ref cki, .ref chu, .ref cta, .ref cvo, .ref csf, .ref cst, .ref ccw, .ref cdn, .ref cbi, .ref csa, .ref cco, .ref clw, .int (nI np), .int (nI nd), .int cs, .int cr, .ref cgi, .ref cga, .ref cbe])), (csf, .inl (cy 1, 6, .inl sf)), (cst, .inl (cy 1, 6, .inl st)), (cki, .inl (cy 1, 6, .inl ki)), (cco, .inl (cy 1, 5, .inl co))] s.heap := hP
  have hl := lv_entry ([.ref h0, .ref hc, .int (nI ea), .int (nI di)]) (n := 4) (Nat.le_of_ble_eq_true rfl)
  rw [lg_entry_eq]
  generalize (lg_sl ([.ref h0, .ref hc, .int (nI ea), .int (nI di)]) ++ List.replicate (4 - (lg_sl ([.ref h0, .ref hc, .int (nI ea), .int (nI di)])).length) Slot.unset).toArray = ls at hl ⊢
  have hl : lv_has ls 4 [(0, .ref h0), (1, .ref hc), (2, .int (nI ea)), (3, .int (nI di))] := hl
  refine w_nm (fun Q hQ => ?_)
  refine lv_aload_n hx hb dX8_canEat_0 rfl (lv_at hl 0 rfl) ?_
  refine lv_aload_n hx hb dX8_canEat_1 rfl (lv_at hl 1 rfl) ?_
  refine lv_iload_n hx hb dX8_canEat_2 rfl (lv_at hl 2 rfl) ?_
  refine x_i (wr := [(cki, .inl (cy 1, 6, .inl ki)), (cco, .inl (cy 1, 5, .inl co))]) hP hD hS hA [0, 1, 2, 3] [4, 5] rfl rfl (by decide) (by decide) (va_runV (As := [.ref hc, .int (nI ea)]) (rest := []) ⟨hx, hb, hml, hown, hts⟩ (c_X8_sits l D cy h0 q1 q2 q3 dy so il hc cpn cki chu cta cvo csf cst ccw cdn cbi csa cco clw cgi cga cbe np nd cs cr ea sf st s.heap.size he) (cwV 2 hts (gV km_X8_57 ki_X8_sits kz_X8_sits kn_X8 kc_X8_sits) rfl rfl rfl (by decide +kernel) ⟨(Nat.le_of_ble_eq_true rfl), (Nat.le_of_ble_eq_true rfl)⟩) (preV hG hP hD [0, 1, 2, 3] rfl (by decide) 8 0 rfl rfl) rfl rfl hl.1 rfl (lv_room (Nat.le_of_ble_eq_true rfl)) dX8_canEat_3 ⟨(Nat.le_of_ble_eq_true rfl), (Nat.le_of_ble_eq_true rfl)⟩) (fun r_1 H locs hB hj hS => ?_)
  obtain ⟨hres, hP1, hD1⟩ := hB
  subst hres
  obtain ⟨hP, hD⟩ := hj _ hP1 hD1
  have hP : va_P D vwCl [(cki, .inl (cy 1, 6, .inl ki)), (cco, .inl (cy 1, 5, .inl co)), (h0, .inr (8, [.int dy, .int so, .int il, .ref q1, .ref q2, .ref q3])), (hc, .inr (0, [.ref cpn, .ref cki, .ref chu, .ref cta, .ref cvo, .ref csf, .ref cst, .ref ccw, .ref cdn, .ref cbi, .ref csa, .ref cco, .ref clw, .int (nI np), .int (nI nd), .int cs, .int cr, .ref cgi, .ref cga, .ref cbe])), (csf, .inl (cy 1, 6, .inl sf)), (cst, .inl (cy 1, 6, .inl st))] H := hP
  have hD : va_D A [(cki, .inl (cy 1, 6, .inl ki)), (cco, .inl (cy 1, 5, .inl co)), (h0, .inr (8, [.int dy, .int so, .int il, .ref q1, .ref q2, .ref q3])), (hc, .inr (0, [.ref cpn, .ref cki, .ref chu, .ref cta, .ref cvo, .ref csf, .ref cst, .ref ccw, .ref cdn, .ref cbi, .ref csa, .ref cco, .ref clw, .int (nI np), .int (nI nd), .int cs, .int cr, .ref cgi, .ref cga, .ref cbe])), (csf, .inl (cy 1, 6, .inl sf)), (cst, .inl (cy 1, 6, .inl st))] := hD
  refine lv_if_eq (tgt := 26) hx hb dX8_canEat_6 (by decide) (fun c_2 => ?_) (fun c_2 => ?_)
  · refine lv_iconst (v := 0) hx hb dX8_canEat_26 (by decide) ?_
    have hP9 := hP.sub (ws' := [(h0, .inr (8, [.int dy, .int so, .int il, .ref q1, .ref q2, .ref q3])), (hc, .inr (0, [.ref cpn, .ref cki, .ref chu, .ref cta, .ref cvo, .ref csf, .ref cst, .ref ccw, .ref cdn, .ref cbi, .ref csa, .ref cco, .ref clw, .int (nI np), .int (nI nd), .int cs, .int cr, .ref cgi, .ref cga, .ref cbe])), (csf, .inl (cy 1, 6, .inl sf)), (cst, .inl (cy 1, 6, .inl st)), (cki, .inl (cy 1, 6, .inl ki)), (cco, .inl (cy 1, 5, .inl co))]) [2, 3, 4, 5, 0, 1] rfl
    have hD9 := hD.sub (ws' := [(h0, .inr (8, [.int dy, .int so, .int il, .ref q1, .ref q2, .ref q3])), (hc, .inr (0, [.ref cpn, .ref cki, .ref chu, .ref cta, .ref cvo, .ref csf, .ref cst, .ref ccw, .ref cdn, .ref cbi, .ref csa, .ref cco, .ref clw, .int (nI np), .int (nI nd), .int cs, .int cr, .ref cgi, .ref cga, .ref cbe])), (csf, .inl (cy 1, 6, .inl sf)), (cst, .inl (cy 1, 6, .inl st)), (cki, .inl (cy 1, 6, .inl ki)), (cco, .inl (cy 1, 5, .inl co))]) [2, 3, 4, 5, 0, 1] (by decide) rfl
    subst hQ
    exact W.zret (v := 0) hx hb hr rfl (fun t ht hW => qi_mk (by rw [ht]; exact ⟨(by rw [canv, if_pos c_2]), hP9, hD9⟩) (hS.F ht)) hS.2.2 dX8_canEat_27
  · refine lv_aload_n hx hb dX8_canEat_9 rfl (lv_at hl 1 rfl) ?_
    refine lv_iload_n hx hb dX8_canEat_10 rfl (lv_at hl 2 rfl) ?_
    refine lv_iload_n hx hb dX8_canEat_11 rfl (lv_at hl 3 rfl) ?_
    refine x_i (wr := [(h0, .inr (8, [.int dy, .int so, .int il, .ref q1, .ref q2, .ref q3])), (csf, .inl (cy 1, 6, .inl sf)), (cst, .inl (cy 1, 6, .inl st))]) hP hD hS hA [3, 0, 1] [2, 4, 5] rfl rfl (by decide) (by decide) (va_runV (As := [.int (nI ea), .int (nI di)]) (rest := []) ⟨hx, hb, hml, hown, hts⟩ (c_X0_costBy l D cy hc cpn cki chu cta cvo csf cst ccw cdn cbi csa cco clw cgi cga cbe np nd cs cr ea di ki co H.size he hd) (cwV 2 hts (gV km_X8_61 ki_X0_costBy kz_X0_costBy kn_X0 kc_X0_costBy) rfl rfl rfl (by decide +kernel) ⟨(Nat.le_of_ble_eq_true rfl), (Nat.le_of_ble_eq_true rfl)⟩) (preV hG hP hD [3, 0, 1] rfl (by decide) 0 3 rfl rfl) rfl rfl hl.1 rfl (lv_room (Nat.le_of_ble_eq_true rfl)) dX8_canEat_12 ⟨(Nat.le_of_ble_eq_true rfl), (Nat.le_of_ble_eq_true rfl)⟩) (fun r_3 H locs hB hj hS => ?_)
    obtain ⟨hres, hP1, hD1⟩ := hB
    subst hres
    obtain ⟨hP, hD⟩ := hj _ hP1 hD1
    have hP : va_P D vwCl [(h0, .inr (8, [.int dy, .int so, .int il, .ref q1, .ref q2, .ref q3])), (csf, .inl (cy 1, 6, .inl sf)), (cst, .inl (cy 1, 6, .inl st)), (hc, .inr (0, [.ref cpn, .ref cki, .ref chu, .ref cta, .ref cvo, .ref csf, .ref cst, .ref ccw, .ref cdn, .ref cbi, .ref csa, .ref cco, .ref clw, .int (nI np), .int (nI nd), .int cs, .int cr, .ref cgi, .ref cga, .ref cbe])), (cki, .inl (cy 1, 6, .inl ki)), (cco, .inl (cy 1, 5, .inl co))] H := hP
    have hD : va_D A [(h0, .inr (8, [.int dy, .int so, .int il, .ref q1, .ref q2, .ref q3])), (csf, .inl (cy 1, 6, .inl sf)), (cst, .inl (cy 1, 6, .inl st)), (hc, .inr (0, [.ref cpn, .ref cki, .ref chu, .ref cta, .ref cvo, .ref csf, .ref cst, .ref ccw, .ref cdn, .ref cbi, .ref csa, .ref cco, .ref clw, .int (nI np), .int (nI nd), .int cs, .int cr, .ref cgi, .ref cga, .ref cbe])), (cki, .inl (cy 1, 6, .inl ki)), (cco, .inl (cy 1, 5, .inl co))] := hD
    refine lv_aload_n hx hb dX8_canEat_15 rfl (lv_at hl 0 rfl) ?_
    refine va_get (D := D) (ci := 8) (v := .int so) (C := RX8) (T := TX8) (N := 6) hx hb hts (inC ibX8) hown hG.1 hP 0 rfl rfl 1 (by decide) (hg _ k_262) (fun _ h9 => h9) rfl dX8_canEat_16 ?_
    refine lv_icmp_gt (tgt := 26) hx hb dX8_canEat_19 (by decide) (fun c_4 => ?_) (fun c_4 => ?_)
    · refine lv_iconst (v := 0) hx hb dX8_canEat_26 (by decide) ?_
      have hP9 := hP.sub (ws' := [(h0, .inr (8, [.int dy, .int so, .int il, .ref q1, .ref q2, .ref q3])), (hc, .inr (0, [.ref cpn, .ref cki, .ref chu, .ref cta, .ref cvo, .ref csf, .ref cst, .ref ccw, .ref cdn, .ref cbi, .ref csa, .ref cco, .ref clw, .int (nI np), .int (nI nd), .int cs, .int cr, .ref cgi, .ref cga, .ref cbe])), (csf, .inl (cy 1, 6, .inl sf)), (cst, .inl (cy 1, 6, .inl st)), (cki, .inl (cy 1, 6, .inl ki)), (cco, .inl (cy 1, 5, .inl co))]) [0, 3, 1, 2, 4, 5] rfl
      have hD9 := hD.sub (ws' := [(h0, .inr (8, [.int dy, .int so, .int il, .ref q1, .ref q2, .ref q3])), (hc, .inr (0, [.ref cpn, .ref cki, .ref chu, .ref cta, .ref cvo, .ref csf, .ref cst, .ref ccw, .ref cdn, .ref cbi, .ref csa, .ref cco, .ref clw, .int (nI np), .int (nI nd), .int cs, .int cr, .ref cgi, .ref cga, .ref cbe])), (csf, .inl (cy 1, 6, .inl sf)), (cst, .inl (cy 1, 6, .inl st)), (cki, .inl (cy 1, 6, .inl ki)), (cco, .inl (cy 1, 5, .inl co))]) [0, 3, 1, 2, 4, 5] (by decide) rfl
      subst hQ
      exact W.zret (v := 0) hx hb hr rfl (fun t ht hW => qi_mk (by rw [ht]; exact ⟨(by rw [canv, if_neg c_2, if_pos c_4]), hP9, hD9⟩) (hS.F ht)) hS.2.2 dX8_canEat_27
    · refine lv_iconst (v := 1) hx hb dX8_canEat_22 (by decide) ?_
      refine lv_goto (tgt := 27) hx hb dX8_canEat_23 (by decide) ?_
      have hP9 := hP.sub (ws' := [(h0, .inr (8, [.int dy, .int so, .int il, .ref q1, .ref q2, .ref q3])), (hc, .inr (0, [.ref cpn, .ref cki, .ref chu, .ref cta, .ref cvo, .ref csf, .ref cst, .ref ccw, .ref cdn, .ref cbi, .ref csa, .ref cco, .ref clw, .int (nI np), .int (nI nd), .int cs, .int cr, .ref cgi, .ref cga, .ref cbe])), (csf, .inl (cy 1, 6, .inl sf)), (cst, .inl (cy 1, 6, .inl st)), (cki, .inl (cy 1, 6, .inl ki)), (cco, .inl (cy 1, 5, .inl co))]) [0, 3, 1, 2, 4, 5] rfl
      have hD9 := hD.sub (ws' := [(h0, .inr (8, [.int dy, .int so, .int il, .ref q1, .ref q2, .ref q3])), (hc, .inr (0, [.ref cpn, .ref cki, .ref chu, .ref cta, .ref cvo, .ref csf, .ref cst, .ref ccw, .ref cdn, .ref cbi, .ref csa, .ref cco, .ref clw, .int (nI np), .int (nI nd), .int cs, .int cr, .ref cgi, .ref cga, .ref cbe])), (csf, .inl (cy 1, 6, .inl sf)), (cst, .inl (cy 1, 6, .inl st)), (cki, .inl (cy 1, 6, .inl ki)), (cco, .inl (cy 1, 5, .inl co))]) [0, 3, 1, 2, 4, 5] (by decide) rfl
      subst hQ
      exact W.zret (v := 1) hx hb hr rfl (fun t ht hW => qi_mk (by rw [ht]; exact ⟨(by rw [canv, if_neg c_2, if_neg c_4]), hP9, hD9⟩) (hS.F ht)) hS.2.2 dX8_canEat_27
set_option maxHeartbeats 4000000 in
set_option maxRecDepth 100000 in
theorem c_X8_gain (l : Launch) (D : va_G) (cy : Nat → ClassId) (h0 : Nat) (q1 : Nat) (q2 : Nat) (q3 : Nat) (dy : Int32) (so : Int32) (il : Int32) (hc : Nat) (cpn : Nat) (cki : Nat) (chu : Nat) (cta : Nat) (cvo : Nat) (csf : Nat) (cst : Nat) (ccw : Nat) (cdn : Nat) (cbi : Nat) (csa : Nat) (cco : Nat) (clw : Nat) (cgi : Nat) (cga : Nat) (cbe : Nat) (np : Nat) (nd : Nat) (cs : Int32) (cr : Int32) (ea : Nat) (di : Nat) (sl : Int32) (pe : Nat) (sf : Nat → Int32) (st : Nat → Int32) (ae : Nat → Int32) (gi : Nat → Int32) (sz : Nat) (he : ea < 6) (hd : di < 5) (hp : pe < 6) : Met l yX8_gain (Cond.code yX8_gain cX8_gain 6 (some .int) :: bigG) ({ frames := 2, cells := 0, slots := 0, locals := 46 }) (pre D cy [.ref h0, .ref hc, .int (nI ea), .int (nI di), .int sl, .int (nI pe)] sz [(h0, .inr (8, [.int dy, .int so, .int il, .ref q1, .ref q2, .ref q3])), (hc, .inr (0, [.ref cpn, .ref cki, .ref chu, .ref cta, .ref cvo, .ref csf, .ref cst, .ref ccw, .ref cdn, .ref cbi, .ref csa, .ref cco, .ref clw, .int (nI np), .int (nI nd), .int cs, .int cr, .ref cgi, .ref cga, .ref cbe])), (csf, .inl (cy 1, 6, .inl sf)), (cst, .inl (cy 1, 6, .inl st)), (q2, .inl (cy 1, 6, .inl ae)), (cgi, .inl (cy 1, 360, .inl gi))]) (qi (fun r h => r = gainv sf st ae gi dy cr ea di sl pe ∧ va_P D vwCl [(h0, .inr (8, [.int dy, .int so, .int il, .ref q1, .ref q2, .ref q3])), (hc, .inr (0, [.ref cpn, .ref cki, .ref chu, .ref cta, .ref cvo, .ref csf, .ref cst, .ref ccw, .ref cdn, .ref cbi, .ref csa, .ref cco, .ref clw, .int (nI np), .int (nI nd), .int cs, .int cr, .ref cgi, .ref cga, .ref cbe])), (csf, .inl (cy 1, 6, .inl sf)), (cst, .inl (cy 1, 6, .inl st)), (q2, .inl (cy 1, 6, .inl ae)), (cgi, .inl (cy 1, 360, .inl gi))] h ∧ va_D (va_A [(h0, .inr (8, [.int dy, .int so, .int il, .ref q1, .ref q2, .ref q3])), (hc, .inr (0, [.ref cpn, .ref cki, .ref chu, .ref cta, .ref cvo, .ref csf, .ref cst, .ref ccw, .ref cdn, .ref cbi, .ref csa, .ref cco, .ref clw, .int (nI np), .int (nI nd), .int cs, .int cr, .ref cgi, .ref cga, .ref cbe])), (csf, .inl (cy 1, 6, .inl sf)), (cst, .inl (cy 1, 6, .inl st)), (q2, .inl (cy 1, 6, .inl ae)), (cgi, .inl (cy 1, 360, .inl gi))] sz) [(h0, .inr (8, [.int dy, .int so, .int il, .ref q1, .ref q2, .ref q3])), (hc, .inr (0, [.ref cpn, .ref cki, .ref chu, .ref cta, .ref cvo, .ref csf, .ref cst, .ref ccw, .ref cdn, .ref cbi, .ref csa, .ref cco, .ref clw, .int (nI np), .int (nI nd), .int cs, .int cr, .ref cgi, .ref cga, .ref cbe])), (csf, .inl (cy 1, 6, .inl sf)), (cst, .inl (cy 1, 6, .inl st)), (q2, .inl (cy 1, 6, .inl ae)), (cgi, .inl (cy 1, 360, .inl gi))]) (va_A [(h0, .inr (8, [.int dy, .int so, .int il, .ref q1, .ref q2, .ref q3])), (hc, .inr (0, [.ref cpn, .ref cki, .ref chu, .ref cta, .ref cvo, .ref csf, .ref cst, .ref ccw, .ref cdn, .ref cbi, .ref csa, .ref cco, .ref clw, .int (nI np), .int (nI nd), .int cs, .int cr, .ref cgi, .ref cga, .ref cbe])), (csf, .inl (cy 1, 6, .inl sf)), (cst, .inl (cy 1, 6, .inl st)), (q2, .inl (cy 1, 6, .inl ae)), (cgi, .inl (cy 1, 360, .inl gi))] sz)) 0 0 (va_A [(h0, .inr (8, [.int dy, .int so, .int il, .ref q1, .ref q2, .ref q3])), (hc, .inr (0, [.ref cpn, .ref cki, .ref chu, .ref cta, .ref cvo, .ref csf, .ref cst, .ref ccw, .ref cdn, .ref cbi, .ref csa, .ref cco, .ref clw, .int (nI np), .int (nI nd), .int cs, .int cr, .ref cgi, .ref cga, .ref cbe])), (csf, .inl (cy 1, 6, .inl sf)), (cst, .inl (cy 1, 6, .inl st)), (q2, .inl (cy 1, 6, .inl ae)), (cgi, .inl (cy 1, 360, .inl gi))] sz) := by
  refine Met.ofW (cc := cX8_gain) (maxL := 6) (ret := (some .int)) (by decide) rfl ?_
  intro p e s m args below meth c s₁ B hml hv
  obtain ⟨rfl, hsz, hP, hG, hD0⟩ := hv
  have hx := B.exec
  have hb := B.bytes
  have hr := B.returns
  have hts := atoms_spec (ws := (Cond.code yX8_gain cX8_gain 6 (some .int) :: bigG)) B.pre
  have hg : ∀ w ∈ bigG, w.before ([.ref h0, .ref hc, .int (nI ea), .int (nI di), .int sl, .int (nI pe)] : List Value).toArray s = true := fun w h => hts w (List.mem_cons_of_mem _ h)
  have hown : s.vm.findClass RX8 = some m.cls := findClass_of_methodNamed B.named
  have hlocks := B.notSynchronized
  subst hsz
  have hD := hD0.self (sz := s.heap.size)
  generalize hAe : va_A [(h0, .inr (8, [.int dy, .int so, .int il, .ref q1, .ref q2, .ref q3])), (hc, .inr (0, [.ref cpn, .ref cki, .ref chu, .ref cta, .ref cvo, .ref csf, .ref cst, .ref ccw, .ref cdn, .ref cbi, .ref csa, .ref cco, .ref clw, .int (nI np), .int (nI nd), .int cs, .int cr, .ref cgi, .ref cga, .ref cbe])), (csf, .inl (cy 1, 6, .inl sf)), (cst, .inl (cy 1, 6, .inl st)), (q2, .inl (cy 1, 6, .inl ae)), (cgi, .inl (cy 1, 360, .inl gi))] s.heap.size = A at hD ⊢
  have hA : ∀ q : Nat, s.heap.size ≤ q → A q := fun q h => by rw [← hAe]; exact Or.inr h
  have hS : va_S A s.heap s.heap [] := va_S.rf
  have hP : va_P D vwCl [(h0, .inr (8, [.int dy, .int so, .int il, .ref q1, .ref q2, .ref q3])), (hc, .inr (0, [.ref cpn, .ref cki, .ref chu, .ref cta, .ref cvo, .ref csf, .ref cst, .ref ccw, .ref cdn, .ref cbi, .ref csa, .ref cco, .ref clw, .int (nI np), .int (nI nd), .int cs, .int cr, .ref cgi, .ref cga, .ref cbe])), (csf, .inl (cy 1, 6, .inl sf)), (cst, .inl (cy 1, 6, .inl st)), (q2, .inl (cy 1, 6, .inl ae)), (cgi, .inl (cy 1, 360, .inl gi))] s.heap := hP
  have hl := lv_entry ([.ref h0, .ref hc, .int (nI ea), .int (nI di), .int sl, .int (nI pe)]) (n := 6) (Nat.le_of_ble_eq_true rfl)
  rw [lg_entry_eq]
  generalize (lg_sl ([.ref h0, .ref hc, .int (nI ea), .int (nI di), .int sl, .int (nI pe)]) ++ List.replicate (6 - (lg_sl ([.ref h0, .ref hc, .int (nI ea), .int (nI di), .int sl, .int (nI pe)])).length) Slot.unset).toArray = ls at hl ⊢
  have hl : lv_has ls 6 [(0, .ref h0), (1, .ref hc), (2, .int (nI ea)), (3, .int (nI di)), (4, .int sl), (5, .int (nI pe))] := hl
  refine w_nm (fun Q hQ => ?_)
  refine lv_aload_n hx hb dX8_gain_0 rfl (lv_at hl 0 rfl) ?_
  refine lv_aload_n hx hb dX8_gain_1 rfl (lv_at hl 1 rfl) ?_
  refine lv_iload_n hx hb dX8_gain_2 rfl (lv_at hl 2 rfl) ?_
  refine x_i (wr := [(csf, .inl (cy 1, 6, .inl sf)), (cst, .inl (cy 1, 6, .inl st)), (cgi, .inl (cy 1, 360, .inl gi))]) hP hD hS hA [0, 1, 4] [2, 3, 5] rfl rfl (by decide) (by decide) (va_runV (As := [.ref hc, .int (nI ea)]) (rest := []) ⟨hx, hb, hml, hown, hts⟩ (c_X8_wouldBeIll l D cy h0 q1 q2 q3 dy so il hc cpn cki chu cta cvo csf cst ccw cdn cbi csa cco clw cgi cga cbe np nd cs cr ea ae s.heap.size he) (cwV 2 hts (gV km_X8_68 ki_X8_wouldBeIll kz_X8_wouldBeIll kn_X8 kc_X8_wouldBeIll) rfl rfl rfl (by decide +kernel) ⟨(Nat.le_of_ble_eq_true rfl), (Nat.le_of_ble_eq_true rfl)⟩) (preV hG hP hD [0, 1, 4] rfl (by decide) 8 0 rfl rfl) rfl rfl hl.1 rfl (lv_room (Nat.le_of_ble_eq_true rfl)) dX8_gain_3 ⟨(Nat.le_of_ble_eq_true rfl), (Nat.le_of_ble_eq_true rfl)⟩) (fun r_1 H locs hB hj hS => ?_)
  obtain ⟨hres, hP1, hD1⟩ := hB
  subst hres
  obtain ⟨hP, hD⟩ := hj _ hP1 hD1
  have hP : va_P D vwCl [(csf, .inl (cy 1, 6, .inl sf)), (cst, .inl (cy 1, 6, .inl st)), (cgi, .inl (cy 1, 360, .inl gi)), (h0, .inr (8, [.int dy, .int so, .int il, .ref q1, .ref q2, .ref q3])), (hc, .inr (0, [.ref cpn, .ref cki, .ref chu, .ref cta, .ref cvo, .ref csf, .ref cst, .ref ccw, .ref cdn, .ref cbi, .ref csa, .ref cco, .ref clw, .int (nI np), .int (nI nd), .int cs, .int cr, .ref cgi, .ref cga, .ref cbe])), (q2, .inl (cy 1, 6, .inl ae))] H := hP
  have hD : va_D A [(csf, .inl (cy 1, 6, .inl sf)), (cst, .inl (cy 1, 6, .inl st)), (cgi, .inl (cy 1, 360, .inl gi)), (h0, .inr (8, [.int dy, .int so, .int il, .ref q1, .ref q2, .ref q3])), (hc, .inr (0, [.ref cpn, .ref cki, .ref chu, .ref cta, .ref cvo, .ref csf, .ref cst, .ref ccw, .ref cdn, .ref cbi, .ref csa, .ref cco, .ref clw, .int (nI np), .int (nI nd), .int cs, .int cr, .ref cgi, .ref cga, .ref cbe])), (q2, .inl (cy 1, 6, .inl ae))] := hD
  refine lv_if_ne (tgt := 19) hx hb dX8_gain_6 (by decide) (fun c_2 => ?_) (fun c_2 => ?_)
  · refine lv_iconst (v := 0) hx hb dX8_gain_19 (by decide) ?_
    have hP9 := hP.sub (ws' := [(h0, .inr (8, [.int dy, .int so, .int il, .ref q1, .ref q2, .ref q3])), (hc, .inr (0, [.ref cpn, .ref cki, .ref chu, .ref cta, .ref cvo, .ref csf, .ref cst, .ref ccw, .ref cdn, .ref cbi, .ref csa, .ref cco, .ref clw, .int (nI np), .int (nI nd), .int cs, .int cr, .ref cgi, .ref cga, .ref cbe])), (csf, .inl (cy 1, 6, .inl sf)), (cst, .inl (cy 1, 6, .inl st)), (q2, .inl (cy 1, 6, .inl ae)), (cgi, .inl (cy 1, 360, .inl gi))]) [3, 4, 0, 1, 5, 2] rfl
    have hD9 := hD.sub (ws' := [(h0, .inr (8, [.int dy, .int so, .int il, .ref q1, .ref q2, .ref q3])), (hc, .inr (0, [.ref cpn, .ref cki, .ref chu, .ref cta, .ref cvo, .ref csf, .ref cst, .ref ccw, .ref cdn, .ref cbi, .ref csa, .ref cco, .ref clw, .int (nI np), .int (nI nd), .int cs, .int cr, .ref cgi, .ref cga, .ref cbe])), (csf, .inl (cy 1, 6, .inl sf)), (cst, .inl (cy 1, 6, .inl st)), (q2, .inl (cy 1, 6, .inl ae)), (cgi, .inl (cy 1, 360, .inl gi))]) [3, 4, 0, 1, 5, 2] (by decide) rfl
    subst hQ
    exact W.iret (v := 0) hx hb hr (fun t ht hW => qi_mk (by rw [ht]; exact ⟨(by rw [gainv, if_neg c_2]), hP9, hD9⟩) (hS.F ht)) hS.2.2 dX8_gain_20
  · refine lv_aload_n hx hb dX8_gain_9 rfl (lv_at hl 0 rfl) ?_
    refine lv_aload_n hx hb dX8_gain_10 rfl (lv_at hl 1 rfl) ?_
    refine lv_iload hx hb dX8_gain_11 (lv_at hl 5 rfl) ?_
    refine x_i (wr := [(cgi, .inl (cy 1, 360, .inl gi)), (q2, .inl (cy 1, 6, .inl ae))]) hP hD hS hA [3, 4, 0, 1] [2, 5] rfl rfl (by decide) (by decide) (va_runV (As := [.ref hc, .int (nI pe)]) (rest := []) ⟨hx, hb, hml, hown, hts⟩ (c_X8_sits l D cy h0 q1 q2 q3 dy so il hc cpn cki chu cta cvo csf cst ccw cdn cbi csa cco clw cgi cga cbe np nd cs cr pe sf st H.size hp) (cwV 2 hts (gV km_X8_57 ki_X8_sits kz_X8_sits kn_X8 kc_X8_sits) rfl rfl rfl (by decide +kernel) ⟨(Nat.le_of_ble_eq_true rfl), (Nat.le_of_ble_eq_true rfl)⟩) (preV hG hP hD [3, 4, 0, 1] rfl (by decide) 8 3 rfl rfl) rfl rfl hl.1 rfl (lv_room (Nat.le_of_ble_eq_true rfl)) dX8_gain_13 ⟨(Nat.le_of_ble_eq_true rfl), (Nat.le_of_ble_eq_true rfl)⟩) (fun r_3 H locs hB hj hS => ?_)
    obtain ⟨hres, hP1, hD1⟩ := hB
    subst hres
    obtain ⟨hP, hD⟩ := hj _ hP1 hD1
    have hP : va_P D vwCl [(cgi, .inl (cy 1, 360, .inl gi)), (q2, .inl (cy 1, 6, .inl ae)), (h0, .inr (8, [.int dy, .int so, .int il, .ref q1, .ref q2, .ref q3])), (hc, .inr (0, [.ref cpn, .ref cki, .ref chu, .ref cta, .ref cvo, .ref csf, .ref cst, .ref ccw, .ref cdn, .ref cbi, .ref csa, .ref cco, .ref clw, .int (nI np), .int (nI nd), .int cs, .int cr, .ref cgi, .ref cga, .ref cbe])), (csf, .inl (cy 1, 6, .inl sf)), (cst, .inl (cy 1, 6, .inl st))] H := hP
    have hD : va_D A [(cgi, .inl (cy 1, 360, .inl gi)), (q2, .inl (cy 1, 6, .inl ae)), (h0, .inr (8, [.int dy, .int so, .int il, .ref q1, .ref q2, .ref q3])), (hc, .inr (0, [.ref cpn, .ref cki, .ref chu, .ref cta, .ref cvo, .ref csf, .ref cst, .ref ccw, .ref cdn, .ref cbi, .ref csa, .ref cco, .ref clw, .int (nI np), .int (nI nd), .int cs, .int cr, .ref cgi, .ref cga, .ref cbe])), (csf, .inl (cy 1, 6, .inl sf)), (cst, .inl (cy 1, 6, .inl st))] := hD
    refine lv_if_ne (tgt := 21) hx hb dX8_gain_16 (by decide) (fun c_4 => ?_) (fun c_4 => ?_)
    · refine lv_aload_n hx hb dX8_gain_21 rfl (lv_at hl 1 rfl) ?_
      refine lv_iload_n hx hb dX8_gain_22 rfl (lv_at hl 2 rfl) ?_
      refine lv_iload_n hx hb dX8_gain_23 rfl (lv_at hl 3 rfl) ?_
      refine lv_iload hx hb dX8_gain_24 (lv_at hl 4 rfl) ?_
      refine lv_iload hx hb dX8_gain_26 (lv_at hl 5 rfl) ?_
      refine x_i (wr := [(q2, .inl (cy 1, 6, .inl ae)), (h0, .inr (8, [.int dy, .int so, .int il, .ref q1, .ref q2, .ref q3])), (csf, .inl (cy 1, 6, .inl sf)), (cst, .inl (cy 1, 6, .inl st))]) hP hD hS hA [3, 0] [1, 2, 4, 5] rfl rfl (by decide) (by decide) (va_runV (As := [.int (nI ea), .int (nI di), .int sl, .int (nI pe)]) (rest := []) ⟨hx, hb, hml, hown, hts⟩ (c_X0_gift l D cy hc cpn cki chu cta cvo csf cst ccw cdn cbi csa cco clw cgi cga cbe np nd cs cr ea di sl pe gi H.size he hd hp) (cwV 4 hts (gV km_X8_71 ki_X0_gift kz_X0_gift kn_X0 kc_X0_gift) rfl rfl rfl (by decide +kernel) ⟨(Nat.le_of_ble_eq_true rfl), (Nat.le_of_ble_eq_true rfl)⟩) (preV hG hP hD [3, 0] rfl (by decide) 0 3 rfl rfl) rfl rfl hl.1 rfl (lv_room (Nat.le_of_ble_eq_true rfl)) dX8_gain_28 ⟨(Nat.le_of_ble_eq_true rfl), (Nat.le_of_ble_eq_true rfl)⟩) (fun r_5 H locs hB hj hS => ?_)
      obtain ⟨hres, hP1, hD1⟩ := hB
      subst hres
      obtain ⟨hP, hD⟩ := hj _ hP1 hD1
      have hP : va_P D vwCl [(q2, .inl (cy 1, 6, .inl ae)), (h0, .inr (8, [.int dy, .int so, .int il, .ref q1, .ref q2, .ref q3])), (csf, .inl (cy 1, 6, .inl sf)), (cst, .inl (cy 1, 6, .inl st)), (hc, .inr (0, [.ref cpn, .ref cki, .ref chu, .ref cta, .ref cvo, .ref csf, .ref cst, .ref ccw, .ref cdn, .ref cbi, .ref csa, .ref cco, .ref clw, .int (nI np), .int (nI nd), .int cs, .int cr, .ref cgi, .ref cga, .ref cbe])), (cgi, .inl (cy 1, 360, .inl gi))] H := hP
      have hD : va_D A [(q2, .inl (cy 1, 6, .inl ae)), (h0, .inr (8, [.int dy, .int so, .int il, .ref q1, .ref q2, .ref q3])), (csf, .inl (cy 1, 6, .inl sf)), (cst, .inl (cy 1, 6, .inl st)), (hc, .inr (0, [.ref cpn, .ref cki, .ref chu, .ref cta, .ref cvo, .ref csf, .ref cst, .ref ccw, .ref cdn, .ref cbi, .ref csa, .ref cco, .ref clw, .int (nI np), .int (nI nd), .int cs, .int cr, .ref cgi, .ref cga, .ref cbe])), (cgi, .inl (cy 1, 360, .inl gi))] := hD
      have hP9 := hP.sub (ws' := [(h0, .inr (8, [.int dy, .int so, .int il, .ref q1, .ref q2, .ref q3])), (hc, .inr (0, [.ref cpn, .ref cki, .ref chu, .ref cta, .ref cvo, .ref csf, .ref cst, .ref ccw, .ref cdn, .ref cbi, .ref csa, .ref cco, .ref clw, .int (nI np), .int (nI nd), .int cs, .int cr, .ref cgi, .ref cga, .ref cbe])), (csf, .inl (cy 1, 6, .inl sf)), (cst, .inl (cy 1, 6, .inl st)), (q2, .inl (cy 1, 6, .inl ae)), (cgi, .inl (cy 1, 360, .inl gi))]) [1, 4, 2, 3, 0, 5] rfl
      have hD9 := hD.sub (ws' := [(h0, .inr (8, [.int dy, .int so, .int il, .ref q1, .ref q2, .ref q3])), (hc, .inr (0, [.ref cpn, .ref cki, .ref chu, .ref cta, .ref cvo, .ref csf, .ref cst, .ref ccw, .ref cdn, .ref cbi, .ref csa, .ref cco, .ref clw, .int (nI np), .int (nI nd), .int cs, .int cr, .ref cgi, .ref cga, .ref cbe])), (csf, .inl (cy 1, 6, .inl sf)), (cst, .inl (cy 1, 6, .inl st)), (q2, .inl (cy 1, 6, .inl ae)), (cgi, .inl (cy 1, 360, .inl gi))]) [1, 4, 2, 3, 0, 5] (by decide) rfl
      subst hQ
      exact W.iret (v := gi (gix ea di sl + pe)) hx hb hr (fun t ht hW => qi_mk (by rw [ht]; exact ⟨(by rw [gainv, if_pos c_2, if_neg c_4]), hP9, hD9⟩) (hS.F ht)) hS.2.2 dX8_gain_31
    · refine lv_iconst (v := 0) hx hb dX8_gain_19 (by decide) ?_
      have hP9 := hP.sub (ws' := [(h0, .inr (8, [.int dy, .int so, .int il, .ref q1, .ref q2, .ref q3])), (hc, .inr (0, [.ref cpn, .ref cki, .ref chu, .ref cta, .ref cvo, .ref csf, .ref cst, .ref ccw, .ref cdn, .ref cbi, .ref csa, .ref cco, .ref clw, .int (nI np), .int (nI nd), .int cs, .int cr, .ref cgi, .ref cga, .ref cbe])), (csf, .inl (cy 1, 6, .inl sf)), (cst, .inl (cy 1, 6, .inl st)), (q2, .inl (cy 1, 6, .inl ae)), (cgi, .inl (cy 1, 360, .inl gi))]) [2, 3, 4, 5, 1, 0] rfl
      have hD9 := hD.sub (ws' := [(h0, .inr (8, [.int dy, .int so, .int il, .ref q1, .ref q2, .ref q3])), (hc, .inr (0, [.ref cpn, .ref cki, .ref chu, .ref cta, .ref cvo, .ref csf, .ref cst, .ref ccw, .ref cdn, .ref cbi, .ref csa, .ref cco, .ref clw, .int (nI np), .int (nI nd), .int cs, .int cr, .ref cgi, .ref cga, .ref cbe])), (csf, .inl (cy 1, 6, .inl sf)), (cst, .inl (cy 1, 6, .inl st)), (q2, .inl (cy 1, 6, .inl ae)), (cgi, .inl (cy 1, 360, .inl gi))]) [2, 3, 4, 5, 1, 0] (by decide) rfl
      subst hQ
      exact W.iret (v := 0) hx hb hr (fun t ht hW => qi_mk (by rw [ht]; exact ⟨(by rw [gainv, if_pos c_2, if_pos c_4]), hP9, hD9⟩) (hS.F ht)) hS.2.2 dX8_gain_20
