def eF (hn fu : Nat → Int32) : Nat → Nat → Int32
  | 0 => fu
  | i + 1 => upd (eF hn fu i) i (if eF hn fu i i < hn i then 0 else eF hn fu i i - hn i)
def eH (hn fu hu : Nat → Int32) : Nat → Nat → Int32
  | 0 => hu
  | i + 1 => if eF hn fu i i < hn i then upd (eH hn fu hu i) i (eH hn fu hu i i + 1) else eH hn fu hu i
def eM (hn fu : Nat → Int32) : Nat → Int32
  | 0 => 0
  | i + 1 => if eF hn fu i i < hn i then eM hn fu i + 1 else eM hn fu i
def whoS (sf st : Nat → Int32) (dy : Int32) : Nat → Int32
  | 0 => 0
  | i + 1 => if sitv sf st i dy = 0 then whoS sf st dy i else whoS sf st dy i ||| ((1 : Int32) <<< (nI i &&& 31))
def mnv (x y : Int32) : Int32 := if y < x then y else x
def tmF (sf st ae gi : Nat → Int32) (dy cr : Int32) (e d : Nat) (sl : Int32) (fu : Nat → Int32) : Nat → Nat → Int32
  | 0 => fu
  | i + 1 => upd (tmF sf st ae gi dy cr e d sl fu i) i (mnv 99 (tmF sf st ae gi dy cr e d sl fu i i + gainv sf st ae gi dy cr e d sl i))
set_option maxHeartbeats 4000000 in
set_option maxRecDepth 100000 in
theorem c_X8_fill_f (l : Launch) (D : va_G) (cy : Nat → ClassId) (h0 : Nat) (q1 : Nat) (q2 : Nat) (q3 : Nat) (dy : Int32) (so : Int32) (il : Int32) (fu : Nat → Int32) (at_ : Nat → Int32) (hu : Nat → Int32) (pe : Nat) (ga : Int32) (sz : Nat) (hp : pe < 6) : Met l yX8_fill (Cond.code yX8_fill cX8_fill 3 none :: bigG) ({ frames := 1, cells := 0, slots := 0, locals := 21 }) (pre D cy [.ref h0, .int (nI pe), .int ga] sz [(h0, .inr (8, [.int dy, .int so, .int il, .ref q1, .ref q2, .ref q3])), (q1, .inl (cy 1, 6, .inl fu)), (q2, .inl (cy 1, 6, .inl at_)), (q3, .inl (cy 1, 6, .inl hu))]) (qv (fun h => va_P D vwCl [(h0, .inr (8, [.int dy, .int so, .int il, .ref q1, .ref q2, .ref q3])), (q1, .inl (cy 1, 6, .inl (upd fu pe (mnv 99 (fu pe + ga))))), (q2, .inl (cy 1, 6, .inl at_)), (q3, .inl (cy 1, 6, .inl hu))] h ∧ va_D (va_A [(h0, .inr (8, [.int dy, .int so, .int il, .ref q1, .ref q2, .ref q3])), (q1, .inl (cy 1, 6, .inl fu)), (q2, .inl (cy 1, 6, .inl at_)), (q3, .inl (cy 1, 6, .inl hu))] sz) [(h0, .inr (8, [.int dy, .int so, .int il, .ref q1, .ref q2, .ref q3])), (q1, .inl (cy 1, 6, .inl (upd fu pe (mnv 99 (fu pe + ga))))), (q2, .inl (cy 1, 6, .inl at_)), (q3, .inl (cy 1, 6, .inl hu))]) (va_A [(h0, .inr (8, [.int dy, .int so, .int il, .ref q1, .ref q2, .ref q3])), (q1, .inl (cy 1, 6, .inl fu)), (q2, .inl (cy 1, 6, .inl at_)), (q3, .inl (cy 1, 6, .inl hu))] sz)) 0 0 (va_A [(h0, .inr (8, [.int dy, .int so, .int il, .ref q1, .ref q2, .ref q3])), (q1, .inl (cy 1, 6, .inl fu)), (q2, .inl (cy 1, 6, .inl at_)), (q3, .inl (cy 1, 6, .inl hu))] sz) := by
  refine Met.ofW (cc := cX8_fill) (maxL := 3) (ret := none) (by decide) rfl ?_
  intro p e s m args below meth c s₁ B hml hv
  obtain ⟨rfl, hsz, hP, hG, hD0⟩ := hv
  have hx := B.exec
  have hb := B.bytes
  have hr := B.returns
  have hts := atoms_spec (ws := (Cond.code yX8_fill cX8_fill 3 none :: bigG)) B.pre
  have hg : ∀ w ∈ bigG, w.before ([.ref h0, .int (nI pe), .int ga] : List Value).toArray s = true := fun w h => hts w (List.mem_cons_of_mem _ h)
  have hown : s.vm.findClass RX8 = some m.cls := findClass_of_methodNamed B.named
  have hlocks := B.notSynchronized
  subst hsz
  have hD := hD0.self (sz := s.heap.size)
  generalize hAe : va_A [(h0, .inr (8, [.int dy, .int so, .int il, .ref q1, .ref q2, .ref q3])), (q1, .inl (cy 1, 6, .inl fu)), (q2, .inl (cy 1, 6, .inl at_)), (q3, .inl (cy 1, 6, .inl hu))] s.heap.size = A at hD ⊢
  have hA : ∀ q : Nat, s.heap.size ≤ q → A q := fun q h => by rw [← hAe]; exact Or.inr h
  have hS : va_S A s.heap s.heap [] := va_S.rf
  have hP : va_P D vwCl [(h0, .inr (8, [.int dy, .int so, .int il, .ref q1, .ref q2, .ref q3])), (q1, .inl (cy 1, 6, .inl fu)), (q2, .inl (cy 1, 6, .inl at_)), (q3, .inl (cy 1, 6, .inl hu))] s.heap := hP
  have hl := lv_entry ([.ref h0, .int (nI pe), .int ga]) (n := 3) (Nat.le_of_ble_eq_true rfl)
  rw [lg_entry_eq]
  generalize (lg_sl ([.ref h0, .int (nI pe), .int ga]) ++ List.replicate (3 - (lg_sl ([.ref h0, .int (nI pe), .int ga])).length) Slot.unset).toArray = ls at hl ⊢
  have hl : lv_has ls 3 [(0, .ref h0), (1, .int (nI pe)), (2, .int ga)] := hl
  refine w_nm (fun Q hQ => ?_)
  refine lv_aload_n hx hb dX8_fill_0 rfl (lv_at hl 0 rfl) ?_
  refine va_get (D := D) (ci := 8) (v := .ref q1) (C := RX8) (T := TX8) (N := 6) hx hb hts (inC ibX8) hown hG.1 hP 0 rfl rfl 3 (by decide) (hg _ k_266) (fun _ h9 => h9) rfl dX8_fill_1 ?_
  refine lv_iload_n hx hb dX8_fill_4 rfl (lv_at hl 1 rfl) ?_
  refine lv_bipush (v := 99) hx hb dX8_fill_5 (by decide) ?_
  refine lv_aload_n hx hb dX8_fill_7 rfl (lv_at hl 0 rfl) ?_
  refine va_get (D := D) (ci := 8) (v := .ref q1) (C := RX8) (T := TX8) (N := 6) hx hb hts (inC ibX8) hown hG.1 hP 0 rfl rfl 3 (by decide) (hg _ k_266) (fun _ h9 => h9) rfl dX8_fill_8 ?_
  refine lv_iload_n hx hb dX8_fill_11 rfl (lv_at hl 1 rfl) ?_
  refine m_iald (v := fu pe) hx hb hG hP 1 rfl (vp_in_nI (by omega) (by omega)) dX8_fill_12 (by rw [nI_clamp (by omega)]) ?_
  refine lv_iload_n hx hb dX8_fill_13 rfl (lv_at hl 2 rfl) ?_
  refine m_iadd (v := ((fu pe) + ga)) hx hb dX8_fill_14 rfl ?_
  refine va_mmin hx hb (hml.trans hl.1.symm) hown (hg _ k_972) (hg _ k_564) (hg _ k_17) (hg _ k_565) (Nat.le_of_ble_eq_true rfl) (Nat.le_of_ble_eq_true rfl) (Nat.le_of_ble_eq_true rfl) (Nat.le_of_ble_eq_true rfl) dX8_fill_15 ?_
  refine lv_topi (fun mm_1 emm_1 => ?_)
  refine m_iast (g := upd fu pe (mnv 99 (fu pe + ga))) hx hb hG hP hD hS 1 rfl (vp_in_nI (by omega) (by omega)) dX8_fill_18 (by rw [nI_clamp (by omega), emm_1]; rfl) (fun H locs hP hD hS => ?_)
  have hP : va_P D vwCl [(h0, .inr (8, [.int dy, .int so, .int il, .ref q1, .ref q2, .ref q3])), (q1, .inl (cy 1, 6, .inl (upd fu pe (mnv 99 (fu pe + ga))))), (q2, .inl (cy 1, 6, .inl at_)), (q3, .inl (cy 1, 6, .inl hu))] H := hP
  have hD : va_D A [(h0, .inr (8, [.int dy, .int so, .int il, .ref q1, .ref q2, .ref q3])), (q1, .inl (cy 1, 6, .inl (upd fu pe (mnv 99 (fu pe + ga))))), (q2, .inl (cy 1, 6, .inl at_)), (q3, .inl (cy 1, 6, .inl hu))] := hD
  have hP9 := hP.sub (ws' := [(h0, .inr (8, [.int dy, .int so, .int il, .ref q1, .ref q2, .ref q3])), (q1, .inl (cy 1, 6, .inl (upd fu pe (mnv 99 (fu pe + ga))))), (q2, .inl (cy 1, 6, .inl at_)), (q3, .inl (cy 1, 6, .inl hu))]) [0, 1, 2, 3] rfl
  have hD9 := hD.sub (ws' := [(h0, .inr (8, [.int dy, .int so, .int il, .ref q1, .ref q2, .ref q3])), (q1, .inl (cy 1, 6, .inl (upd fu pe (mnv 99 (fu pe + ga))))), (q2, .inl (cy 1, 6, .inl at_)), (q3, .inl (cy 1, 6, .inl hu))]) [0, 1, 2, 3] (by decide) rfl
  subst hQ
  exact W.vret hx hb hr (fun t ht hW => qv_mk (by rw [ht]; exact ⟨hP9, hD9⟩) (hS.F ht)) hS.2.2 dX8_fill_19
set_option maxHeartbeats 4000000 in
set_option maxRecDepth 100000 in
theorem c_X8_endsDay (l : Launch) (D : va_G) (cy : Nat → ClassId) (h0 : Nat) (q1 : Nat) (q2 : Nat) (q3 : Nat) (dy : Int32) (so : Int32) (il : Int32) (fu : Nat → Int32) (at_ : Nat → Int32) (hu : Nat → Int32) (hc : Nat) (cpn : Nat) (cki : Nat) (chu : Nat) (cta : Nat) (cvo : Nat) (csf : Nat) (cst : Nat) (ccw : Nat) (cdn : Nat) (cbi : Nat) (csa : Nat) (cco : Nat) (clw : Nat) (cgi : Nat) (cga : Nat) (cbe : Nat) (np : Nat) (nd : Nat) (cs : Int32) (cr : Int32) (hn : Nat → Int32) (sz : Nat) (hn6 : np ≤ 6) : Met l yX8_endsDay (Cond.code yX8_endsDay cX8_endsDay 4 (some .int) :: bigG) ({ frames := 0, cells := 0, slots := 0, locals := 0 }) (pre D cy [.ref h0, .ref hc] sz [(h0, .inr (8, [.int dy, .int so, .int il, .ref q1, .ref q2, .ref q3])), (q1, .inl (cy 1, 6, .inl fu)), (q2, .inl (cy 1, 6, .inl at_)), (q3, .inl (cy 1, 6, .inl hu)), (hc, .inr (0, [.ref cpn, .ref cki, .ref chu, .ref cta, .ref cvo, .ref csf, .ref cst, .ref ccw, .ref cdn, .ref cbi, .ref csa, .ref cco, .ref clw, .int (nI np), .int (nI nd), .int cs, .int cr, .ref cgi, .ref cga, .ref cbe])), (chu, .inl (cy 1, 6, .inl hn))]) (qi (fun r h => r = eM hn fu np ∧ va_P D vwCl [(h0, .inr (8, [.int (dy + 1), .int so, .int il, .ref q1, .ref q2, .ref q3])), (q1, .inl (cy 1, 6, .inl (eF hn fu np))), (q2, .inl (cy 1, 6, .inl at_)), (q3, .inl (cy 1, 6, .inl (eH hn fu hu np))), (hc, .inr (0, [.ref cpn, .ref cki, .ref chu, .ref cta, .ref cvo, .ref csf, .ref cst, .ref ccw, .ref cdn, .ref cbi, .ref csa, .ref cco, .ref clw, .int (nI np), .int (nI nd), .int cs, .int cr, .ref cgi, .ref cga, .ref cbe])), (chu, .inl (cy 1, 6, .inl hn))] h ∧ va_D (va_A [(h0, .inr (8, [.int dy, .int so, .int il, .ref q1, .ref q2, .ref q3])), (q1, .inl (cy 1, 6, .inl fu)), (q2, .inl (cy 1, 6, .inl at_)), (q3, .inl (cy 1, 6, .inl hu)), (hc, .inr (0, [.ref cpn, .ref cki, .ref chu, .ref cta, .ref cvo, .ref csf, .ref cst, .ref ccw, .ref cdn, .ref cbi, .ref csa, .ref cco, .ref clw, .int (nI np), .int (nI nd), .int cs, .int cr, .ref cgi, .ref cga, .ref cbe])), (chu, .inl (cy 1, 6, .inl hn))] sz) [(h0, .inr (8, [.int (dy + 1), .int so, .int il, .ref q1, .ref q2, .ref q3])), (q1, .inl (cy 1, 6, .inl (eF hn fu np))), (q2, .inl (cy 1, 6, .inl at_)), (q3, .inl (cy 1, 6, .inl (eH hn fu hu np))), (hc, .inr (0, [.ref cpn, .ref cki, .ref chu, .ref cta, .ref cvo, .ref csf, .ref cst, .ref ccw, .ref cdn, .ref cbi, .ref csa, .ref cco, .ref clw, .int (nI np), .int (nI nd), .int cs, .int cr, .ref cgi, .ref cga, .ref cbe])), (chu, .inl (cy 1, 6, .inl hn))]) (va_A [(h0, .inr (8, [.int dy, .int so, .int il, .ref q1, .ref q2, .ref q3])), (q1, .inl (cy 1, 6, .inl fu)), (q2, .inl (cy 1, 6, .inl at_)), (q3, .inl (cy 1, 6, .inl hu)), (hc, .inr (0, [.ref cpn, .ref cki, .ref chu, .ref cta, .ref cvo, .ref csf, .ref cst, .ref ccw, .ref cdn, .ref cbi, .ref csa, .ref cco, .ref clw, .int (nI np), .int (nI nd), .int cs, .int cr, .ref cgi, .ref cga, .ref cbe])), (chu, .inl (cy 1, 6, .inl hn))] sz)) 0 0 (va_A [(h0, .inr (8, [.int dy, .int so, .int il, .ref q1, .ref q2, .ref q3])), (q1, .inl (cy 1, 6, .inl fu)), (q2, .inl (cy 1, 6, .inl at_)), (q3, .inl (cy 1, 6, .inl hu)), (hc, .inr (0, [.ref cpn, .ref cki, .ref chu, .ref cta, .ref cvo, .ref csf, .ref cst, .ref ccw, .ref cdn, .ref cbi, .ref csa, .ref cco, .ref clw, .int (nI np), .int (nI nd), .int cs, .int cr, .ref cgi, .ref cga, .ref cbe])), (chu, .inl (cy 1, 6, .inl hn))] sz) := by
  refine Met.ofW (cc := cX8_endsDay) (maxL := 4) (ret := (some .int)) (by decide) rfl ?_
  intro p e s m args below meth c s₁ B hml hv
  obtain ⟨rfl, hsz, hP, hG, hD0⟩ := hv
  have hx := B.exec
  have hb := B.bytes
  have hr := B.returns
  have hts := atoms_spec (ws := (Cond.code yX8_endsDay cX8_endsDay 4 (some .int) :: bigG)) B.pre
  have hg : ∀ w ∈ bigG, w.before ([.ref h0, .ref hc] : List Value).toArray s = true := fun w h => hts w (List.mem_cons_of_mem _ h)
  have hown : s.vm.findClass RX8 = some m.cls := findClass_of_methodNamed B.named
  have hlocks := B.notSynchronized
  subst hsz
  have hD := hD0.self (sz := s.heap.size)
  generalize hAe : va_A [(h0, .inr (8, [.int dy, .int so, .int il, .ref q1, .ref q2, .ref q3])), (q1, .inl (cy 1, 6, .inl fu)), (q2, .inl (cy 1, 6, .inl at_)), (q3, .inl (cy 1, 6, .inl hu)), (hc, .inr (0, [.ref cpn, .ref cki, .ref chu, .ref cta, .ref cvo, .ref csf, .ref cst, .ref ccw, .ref cdn, .ref cbi, .ref csa, .ref cco, .ref clw, .int (nI np), .int (nI nd), .int cs, .int cr, .ref cgi, .ref cga, .ref cbe])), (chu, .inl (cy 1, 6, .inl hn))] s.heap.size = A at hD ⊢
  have hA : ∀ q : Nat, s.heap.size ≤ q → A q := fun q h => by rw [← hAe]; exact Or.inr h
  have hS : va_S A s.heap s.heap [] := va_S.rf
  have hP : va_P D vwCl [(h0, .inr (8, [.int dy, .int so, .int il, .ref q1, .ref q2, .ref q3])), (q1, .inl (cy 1, 6, .inl fu)), (q2, .inl (cy 1, 6, .inl at_)), (q3, .inl (cy 1, 6, .inl hu)), (hc, .inr (0, [.ref cpn, .ref cki, .ref chu, .ref cta, .ref cvo, .ref csf, .ref cst, .ref ccw, .ref cdn, .ref cbi, .ref csa, .ref cco, .ref clw, .int (nI np), .int (nI nd), .int cs, .int cr, .ref cgi, .ref cga, .ref cbe])), (chu, .inl (cy 1, 6, .inl hn))] s.heap := hP
  have hl := lv_entry ([.ref h0, .ref hc]) (n := 4) (Nat.le_of_ble_eq_true rfl)
  rw [lg_entry_eq]
  generalize (lg_sl ([.ref h0, .ref hc]) ++ List.replicate (4 - (lg_sl ([.ref h0, .ref hc])).length) Slot.unset).toArray = ls at hl ⊢
  have hl : lv_has ls 4 [(0, .ref h0), (1, .ref hc)] := hl
  refine w_nm (fun Q hQ => ?_)
  refine lv_iconst (v := 0) hx hb dX8_endsDay_0 (by decide) ?_
  refine lv_istore_n (lv' := [(2, .int 0), (0, .ref h0), (1, .ref hc)]) hx hb dX8_endsDay_1 rfl hl (by decide) rfl (fun ls hl => ?_)
  refine lv_iconst (v := 0) hx hb dX8_endsDay_2 (by decide) ?_
  refine lv_istore_n (lv' := [(3, .int 0), (2, .int 0), (0, .ref h0), (1, .ref hc)]) hx hb dX8_endsDay_3 rfl hl (by decide) rfl (fun ls hl => ?_)
  have LP_1 : ∀ (n_ : Nat) (i4 : Nat), np + 1 - i4 < n_ → i4 ≤ np → ∀ (H : Heap) (locs : List Loc), va_P D vwCl [(h0, .inr (8, [.int dy, .int so, .int il, .ref q1, .ref q2, .ref q3])), (q1, .inl (cy 1, 6, .inl (eF hn fu i4))), (q2, .inl (cy 1, 6, .inl at_)), (q3, .inl (cy 1, 6, .inl (eH hn fu hu i4))), (hc, .inr (0, [.ref cpn, .ref cki, .ref chu, .ref cta, .ref cvo, .ref csf, .ref cst, .ref ccw, .ref cdn, .ref cbi, .ref csa, .ref cco, .ref clw, .int (nI np), .int (nI nd), .int cs, .int cr, .ref cgi, .ref cga, .ref cbe])), (chu, .inl (cy 1, 6, .inl hn))] H → va_D A [(h0, .inr (8, [.int dy, .int so, .int il, .ref q1, .ref q2, .ref q3])), (q1, .inl (cy 1, 6, .inl (eF hn fu i4))), (q2, .inl (cy 1, 6, .inl at_)), (q3, .inl (cy 1, 6, .inl (eH hn fu hu i4))), (hc, .inr (0, [.ref cpn, .ref cki, .ref chu, .ref cta, .ref cvo, .ref csf, .ref cst, .ref ccw, .ref cdn, .ref cbi, .ref csa, .ref cco, .ref clw, .int (nI np), .int (nI nd), .int cs, .int cr, .ref cgi, .ref cga, .ref cbe])), (chu, .inl (cy 1, 6, .inl hn))] → va_S A s.heap H locs → ∀ (ls : Array Slot), lv_has ls 4 [(3, .int (nI i4)), (2, .int (eM hn fu i4)), (0, .ref h0), (1, .ref hc)] → W p l e (headSpec (Cond.code yX8_endsDay cX8_endsDay 4 (some .int) :: bigG) { frames := 0, cells := 0, slots := 0, locals := 0 }).room s m ([.ref h0, .ref hc] : List Value).toArray below meth c H locs 0 0 Q (F0 m 4 ls []) := by
    intro n_
    induction n_ with
    | zero => intro i4 hm_; exact absurd hm_ (Nat.not_lt_zero _)
    | succ n_ ih =>
      intro i4 hm_ hi4 H locs hP hD hS ls hl
      refine lv_iload_n hx hb dX8_endsDay_4 rfl (lv_at hl 0 rfl) ?_
      refine lv_aload_n hx hb dX8_endsDay_5 rfl (lv_at hl 3 rfl) ?_
      refine va_get (D := D) (ci := 0) (v := .int (nI np)) (C := RX0) (T := TX0) (N := 20) hx hb hts (inC ibX0) hown hG.1 hP 4 rfl rfl 13 (by decide) (hg _ k_175) (fun _ h9 => h9) rfl dX8_endsDay_6 ?_
      refine lv_icmp_ge (tgt := 71) hx hb dX8_endsDay_9 (by decide) (fun c_2 => ?_) (fun c_2 => ?_)
      · have nc_2 : np ≤ i4 := (nI_leI (a := np) (b := i4) (by omega) (by omega)).mp c_2
        have hie : i4 = np := by omega
        rw [hie] at hP hD hl
        refine lv_aload_n hx hb dX8_endsDay_71 rfl (lv_at hl 2 rfl) ?_
        refine lv_dup hx hb dX8_endsDay_72 rfl ?_
        refine va_get (D := D) (ci := 8) (v := .int dy) (C := RX8) (T := TX8) (N := 6) hx hb hts (inC ibX8) hown hG.1 hP 0 rfl rfl 0 (by decide) (hg _ k_260) (fun _ h9 => h9) rfl dX8_endsDay_73 ?_
        refine lv_iconst (v := 1) hx hb dX8_endsDay_76 (by decide) ?_
        refine m_iadd (v := (dy + 1)) hx hb dX8_endsDay_77 rfl ?_
        refine lv_topi (fun f_3 ef_3 => ?_)
        refine va_put (D := D) (ci := 8) (v := .int f_3) (ty := .int) (C := RX8) (T := TX8) (N := 6) hx hb hts (inC ibX8) tyX8 tyX8_ok nmX8 hown hG.1 hP hD hS 0 rfl rfl 0 (by decide) (hg _ k_260) (fun _ h9 => h9) rfl (by decide +kernel) rfl rfl (Nat.le_of_ble_eq_true rfl) dX8_endsDay_78 (fun H locs hP hD hS => ?_)
        have hP : va_P D vwCl [(h0, .inr (8, [.int f_3, .int so, .int il, .ref q1, .ref q2, .ref q3])), (q1, .inl (cy 1, 6, .inl (eF hn fu np))), (q2, .inl (cy 1, 6, .inl at_)), (q3, .inl (cy 1, 6, .inl (eH hn fu hu np))), (hc, .inr (0, [.ref cpn, .ref cki, .ref chu, .ref cta, .ref cvo, .ref csf, .ref cst, .ref ccw, .ref cdn, .ref cbi, .ref csa, .ref cco, .ref clw, .int (nI np), .int (nI nd), .int cs, .int cr, .ref cgi, .ref cga, .ref cbe])), (chu, .inl (cy 1, 6, .inl hn))] H := hP
        have hD : va_D A [(h0, .inr (8, [.int f_3, .int so, .int il, .ref q1, .ref q2, .ref q3])), (q1, .inl (cy 1, 6, .inl (eF hn fu np))), (q2, .inl (cy 1, 6, .inl at_)), (q3, .inl (cy 1, 6, .inl (eH hn fu hu np))), (hc, .inr (0, [.ref cpn, .ref cki, .ref chu, .ref cta, .ref cvo, .ref csf, .ref cst, .ref ccw, .ref cdn, .ref cbi, .ref csa, .ref cco, .ref clw, .int (nI np), .int (nI nd), .int cs, .int cr, .ref cgi, .ref cga, .ref cbe])), (chu, .inl (cy 1, 6, .inl hn))] := hD
        refine lv_iload_n hx hb dX8_endsDay_81 rfl (lv_at hl 1 rfl) ?_
        subst ef_3
        have hP9 := hP.sub (ws' := [(h0, .inr (8, [.int (dy + 1), .int so, .int il, .ref q1, .ref q2, .ref q3])), (q1, .inl (cy 1, 6, .inl (eF hn fu np))), (q2, .inl (cy 1, 6, .inl at_)), (q3, .inl (cy 1, 6, .inl (eH hn fu hu np))), (hc, .inr (0, [.ref cpn, .ref cki, .ref chu, .ref cta, .ref cvo, .ref csf, .ref cst, .ref ccw, .ref cdn, .ref cbi, .ref csa, .ref cco, .ref clw, .int (nI np), .int (nI nd), .int cs, .int cr, .ref cgi, .ref cga, .ref cbe])), (chu, .inl (cy 1, 6, .inl hn))]) [0, 1, 2, 3, 4, 5] rfl
        have hD9 := hD.sub (ws' := [(h0, .inr (8, [.int (dy + 1), .int so, .int il, .ref q1, .ref q2, .ref q3])), (q1, .inl (cy 1, 6, .inl (eF hn fu np))), (q2, .inl (cy 1, 6, .inl at_)), (q3, .inl (cy 1, 6, .inl (eH hn fu hu np))), (hc, .inr (0, [.ref cpn, .ref cki, .ref chu, .ref cta, .ref cvo, .ref csf, .ref cst, .ref ccw, .ref cdn, .ref cbi, .ref csa, .ref cco, .ref clw, .int (nI np), .int (nI nd), .int cs, .int cr, .ref cgi, .ref cga, .ref cbe])), (chu, .inl (cy 1, 6, .inl hn))]) [0, 1, 2, 3, 4, 5] (by decide) rfl
        subst hQ
        exact W.iret (v := eM hn fu np) hx hb hr (fun t ht hW => qi_mk (by rw [ht]; exact ⟨rfl, hP9, hD9⟩) (hS.F ht)) hS.2.2 dX8_endsDay_82
      · have nc_2 : ¬ (np ≤ i4) := fun h => c_2 ((nI_leI (a := np) (b := i4) (by omega) (by omega)).mpr h)
        refine lv_aload_n hx hb dX8_endsDay_12 rfl (lv_at hl 2 rfl) ?_
        refine va_get (D := D) (ci := 8) (v := .ref q1) (C := RX8) (T := TX8) (N := 6) hx hb hts (inC ibX8) hown hG.1 hP 0 rfl rfl 3 (by decide) (hg _ k_266) (fun _ h9 => h9) rfl dX8_endsDay_13 ?_
        refine lv_iload_n hx hb dX8_endsDay_16 rfl (lv_at hl 0 rfl) ?_
        refine m_iald (v := (eF hn fu i4) i4) hx hb hG hP 1 rfl (vp_in_nI (by omega) (by omega)) dX8_endsDay_17 (by rw [nI_clamp (by omega)]) ?_
        refine lv_aload_n hx hb dX8_endsDay_18 rfl (lv_at hl 3 rfl) ?_
        refine va_get (D := D) (ci := 0) (v := .ref chu) (C := RX0) (T := TX0) (N := 20) hx hb hts (inC ibX0) hown hG.1 hP 4 rfl rfl 2 (by decide) (hg _ k_144) (fun _ h9 => h9) rfl dX8_endsDay_19 ?_
        refine lv_iload_n hx hb dX8_endsDay_22 rfl (lv_at hl 0 rfl) ?_
        refine m_iald (v := hn i4) hx hb hG hP 5 rfl (vp_in_nI (by omega) (by omega)) dX8_endsDay_23 (by rw [nI_clamp (by omega)]) ?_
        refine lv_icmp_ge (tgt := 50) hx hb dX8_endsDay_24 (by decide) (fun c_4 => ?_) (fun c_4 => ?_)
        · refine lv_aload_n hx hb dX8_endsDay_50 rfl (lv_at hl 2 rfl) ?_
          refine va_get (D := D) (ci := 8) (v := .ref q1) (C := RX8) (T := TX8) (N := 6) hx hb hts (inC ibX8) hown hG.1 hP 0 rfl rfl 3 (by decide) (hg _ k_266) (fun _ h9 => h9) rfl dX8_endsDay_51 ?_
          refine lv_iload_n hx hb dX8_endsDay_54 rfl (lv_at hl 0 rfl) ?_
          refine lv_dup2_11 hx hb dX8_endsDay_55 rfl rfl ?_
          refine m_iald (v := (eF hn fu i4) i4) hx hb hG hP 1 rfl (vp_in_nI (by omega) (by omega)) dX8_endsDay_56 (by rw [nI_clamp (by omega)]) ?_
          refine lv_aload_n hx hb dX8_endsDay_57 rfl (lv_at hl 3 rfl) ?_
          refine va_get (D := D) (ci := 0) (v := .ref chu) (C := RX0) (T := TX0) (N := 20) hx hb hts (inC ibX0) hown hG.1 hP 4 rfl rfl 2 (by decide) (hg _ k_144) (fun _ h9 => h9) rfl dX8_endsDay_58 ?_
          refine lv_iload_n hx hb dX8_endsDay_61 rfl (lv_at hl 0 rfl) ?_
          refine m_iald (v := hn i4) hx hb hG hP 5 rfl (vp_in_nI (by omega) (by omega)) dX8_endsDay_62 (by rw [nI_clamp (by omega)]) ?_
          refine m_isub (v := (((eF hn fu i4) i4) - (hn i4))) hx hb dX8_endsDay_63 rfl ?_
          refine m_iast (g := upd (eF hn fu i4) i4 (((eF hn fu i4) i4) - (hn i4))) hx hb hG hP hD hS 1 rfl (vp_in_nI (by omega) (by omega)) dX8_endsDay_64 (by rw [nI_clamp (by omega)]) (fun H locs hP hD hS => ?_)
          have hP : va_P D vwCl [(h0, .inr (8, [.int dy, .int so, .int il, .ref q1, .ref q2, .ref q3])), (q1, .inl (cy 1, 6, .inl (upd (eF hn fu i4) i4 (((eF hn fu i4) i4) - (hn i4))))), (q2, .inl (cy 1, 6, .inl at_)), (q3, .inl (cy 1, 6, .inl (eH hn fu hu i4))), (hc, .inr (0, [.ref cpn, .ref cki, .ref chu, .ref cta, .ref cvo, .ref csf, .ref cst, .ref ccw, .ref cdn, .ref cbi, .ref csa, .ref cco, .ref clw, .int (nI np), .int (nI nd), .int cs, .int cr, .ref cgi, .ref cga, .ref cbe])), (chu, .inl (cy 1, 6, .inl hn))] H := hP
          have hD : va_D A [(h0, .inr (8, [.int dy, .int so, .int il, .ref q1, .ref q2, .ref q3])), (q1, .inl (cy 1, 6, .inl (upd (eF hn fu i4) i4 (((eF hn fu i4) i4) - (hn i4))))), (q2, .inl (cy 1, 6, .inl at_)), (q3, .inl (cy 1, 6, .inl (eH hn fu hu i4))), (hc, .inr (0, [.ref cpn, .ref cki, .ref chu, .ref cta, .ref cvo, .ref csf, .ref cst, .ref ccw, .ref cdn, .ref cbi, .ref csa, .ref cco, .ref clw, .int (nI np), .int (nI nd), .int cs, .int cr, .ref cgi, .ref cga, .ref cbe])), (chu, .inl (cy 1, 6, .inl hn))] := hD
          refine lv_iinc (v := nI (i4 + 1)) (lv' := [(3, .int (nI (i4 + 1))), (2, .int (eM hn fu i4)), (0, .ref h0), (1, .ref hc)]) hx hb dX8_endsDay_65 hl (k := 0) rfl (by show nI i4 + nI 1 = _; exact nI_add _ _) (by decide) rfl (fun ls hl => ?_)
          refine lv_goto (tgt := 4) hx hb dX8_endsDay_68 (by decide) ?_
          have e1 : upd (eF hn fu i4) i4 (((eF hn fu i4) i4) - (hn i4)) = eF hn fu (i4 + 1) := by show _ = upd _ _ (if _ then _ else _); rw [if_neg (le_nlt c_4)]
          rw [e1] at hP hD
          have e2 : eH hn fu hu i4 = eH hn fu hu (i4 + 1) := (if_neg (le_nlt c_4)).symm
          have e3 : eM hn fu i4 = eM hn fu (i4 + 1) := (if_neg (le_nlt c_4)).symm
          rw [e2] at hP hD
          rw [e3] at hl
          exact ih (i4 + 1) (by omega) (by omega) _ _ (hP.sub [0, 1, 2, 3, 4, 5] rfl) (hD.sub [0, 1, 2, 3, 4, 5] (by decide) rfl) hS ls (lv_sub hl [0, 1, 2, 3] rfl)
        · refine lv_aload_n hx hb dX8_endsDay_27 rfl (lv_at hl 2 rfl) ?_
          refine va_get (D := D) (ci := 8) (v := .ref q1) (C := RX8) (T := TX8) (N := 6) hx hb hts (inC ibX8) hown hG.1 hP 0 rfl rfl 3 (by decide) (hg _ k_266) (fun _ h9 => h9) rfl dX8_endsDay_28 ?_
          refine lv_iload_n hx hb dX8_endsDay_31 rfl (lv_at hl 0 rfl) ?_
          refine lv_iconst (v := 0) hx hb dX8_endsDay_32 (by decide) ?_
          refine m_iast (g := upd (eF hn fu i4) i4 0) hx hb hG hP hD hS 1 rfl (vp_in_nI (by omega) (by omega)) dX8_endsDay_33 (by rw [nI_clamp (by omega)]) (fun H locs hP hD hS => ?_)
          have hP : va_P D vwCl [(h0, .inr (8, [.int dy, .int so, .int il, .ref q1, .ref q2, .ref q3])), (q1, .inl (cy 1, 6, .inl (upd (eF hn fu i4) i4 0))), (q2, .inl (cy 1, 6, .inl at_)), (q3, .inl (cy 1, 6, .inl (eH hn fu hu i4))), (hc, .inr (0, [.ref cpn, .ref cki, .ref chu, .ref cta, .ref cvo, .ref csf, .ref cst, .ref ccw, .ref cdn, .ref cbi, .ref csa, .ref cco, .ref clw, .int (nI np), .int (nI nd), .int cs, .int cr, .ref cgi, .ref cga, .ref cbe])), (chu, .inl (cy 1, 6, .inl hn))] H := hP
          have hD : va_D A [(h0, .inr (8, [.int dy, .int so, .int il, .ref q1, .ref q2, .ref q3])), (q1, .inl (cy 1, 6, .inl (upd (eF hn fu i4) i4 0))), (q2, .inl (cy 1, 6, .inl at_)), (q3, .inl (cy 1, 6, .inl (eH hn fu hu i4))), (hc, .inr (0, [.ref cpn, .ref cki, .ref chu, .ref cta, .ref cvo, .ref csf, .ref cst, .ref ccw, .ref cdn, .ref cbi, .ref csa, .ref cco, .ref clw, .int (nI np), .int (nI nd), .int cs, .int cr, .ref cgi, .ref cga, .ref cbe])), (chu, .inl (cy 1, 6, .inl hn))] := hD
          refine lv_aload_n hx hb dX8_endsDay_34 rfl (lv_at hl 2 rfl) ?_
          refine va_get (D := D) (ci := 8) (v := .ref q3) (C := RX8) (T := TX8) (N := 6) hx hb hts (inC ibX8) hown hG.1 hP 0 rfl rfl 5 (by decide) (hg _ k_272) (fun _ h9 => h9) rfl dX8_endsDay_35 ?_
          refine lv_iload_n hx hb dX8_endsDay_38 rfl (lv_at hl 0 rfl) ?_
          refine lv_dup2_11 hx hb dX8_endsDay_39 rfl rfl ?_
          refine m_iald (v := (eH hn fu hu i4) i4) hx hb hG hP 3 rfl (vp_in_nI (by omega) (by omega)) dX8_endsDay_40 (by rw [nI_clamp (by omega)]) ?_
          refine lv_iconst (v := 1) hx hb dX8_endsDay_41 (by decide) ?_
          refine m_iadd (v := (((eH hn fu hu i4) i4) + 1)) hx hb dX8_endsDay_42 rfl ?_
          refine m_iast (g := upd (eH hn fu hu i4) i4 (((eH hn fu hu i4) i4) + 1)) hx hb hG hP hD hS 3 rfl (vp_in_nI (by omega) (by omega)) dX8_endsDay_43 (by rw [nI_clamp (by omega)]) (fun H locs hP hD hS => ?_)
          have hP : va_P D vwCl [(h0, .inr (8, [.int dy, .int so, .int il, .ref q1, .ref q2, .ref q3])), (q1, .inl (cy 1, 6, .inl (upd (eF hn fu i4) i4 0))), (q2, .inl (cy 1, 6, .inl at_)), (q3, .inl (cy 1, 6, .inl (upd (eH hn fu hu i4) i4 (((eH hn fu hu i4) i4) + 1)))), (hc, .inr (0, [.ref cpn, .ref cki, .ref chu, .ref cta, .ref cvo, .ref csf, .ref cst, .ref ccw, .ref cdn, .ref cbi, .ref csa, .ref cco, .ref clw, .int (nI np), .int (nI nd), .int cs, .int cr, .ref cgi, .ref cga, .ref cbe])), (chu, .inl (cy 1, 6, .inl hn))] H := hP
          have hD : va_D A [(h0, .inr (8, [.int dy, .int so, .int il, .ref q1, .ref q2, .ref q3])), (q1, .inl (cy 1, 6, .inl (upd (eF hn fu i4) i4 0))), (q2, .inl (cy 1, 6, .inl at_)), (q3, .inl (cy 1, 6, .inl (upd (eH hn fu hu i4) i4 (((eH hn fu hu i4) i4) + 1)))), (hc, .inr (0, [.ref cpn, .ref cki, .ref chu, .ref cta, .ref cvo, .ref csf, .ref cst, .ref ccw, .ref cdn, .ref cbi, .ref csa, .ref cco, .ref clw, .int (nI np), .int (nI nd), .int cs, .int cr, .ref cgi, .ref cga, .ref cbe])), (chu, .inl (cy 1, 6, .inl hn))] := hD
          obtain ⟨x2_5, ex2_5⟩ : ∃ y : Int32, y = (eM hn fu i4) + 1 := ⟨_, rfl⟩
          refine lv_iinc (v := x2_5) (lv' := [(2, .int x2_5), (3, .int (nI i4)), (0, .ref h0), (1, .ref hc)]) hx hb dX8_endsDay_44 hl (k := 1) rfl (by rw [ex2_5]; rfl) (by decide) rfl (fun ls hl => ?_)
          refine lv_goto (tgt := 65) hx hb dX8_endsDay_47 (by decide) ?_
          refine lv_iinc (v := nI (i4 + 1)) (lv' := [(3, .int (nI (i4 + 1))), (2, .int x2_5), (0, .ref h0), (1, .ref hc)]) hx hb dX8_endsDay_65 hl (k := 1) rfl (by show nI i4 + nI 1 = _; exact nI_add _ _) (by decide) rfl (fun ls hl => ?_)
          refine lv_goto (tgt := 4) hx hb dX8_endsDay_68 (by decide) ?_
          have e1 : upd (eF hn fu i4) i4 0 = eF hn fu (i4 + 1) := by show _ = upd _ _ (if _ then _ else _); rw [if_pos (nle_lt c_4)]
          rw [e1] at hP hD
          have e2 : upd (eH hn fu hu i4) i4 (((eH hn fu hu i4) i4) + 1) = eH hn fu hu (i4 + 1) := (if_pos (nle_lt c_4)).symm
          have e3 : x2_5 = eM hn fu (i4 + 1) := ex2_5.trans (if_pos (nle_lt c_4)).symm
          rw [e2] at hP hD
          rw [e3] at hl
          exact ih (i4 + 1) (by omega) (by omega) _ _ (hP.sub [0, 1, 2, 3, 4, 5] rfl) (hD.sub [0, 1, 2, 3, 4, 5] (by decide) rfl) hS ls (lv_sub hl [0, 1, 2, 3] rfl)
  exact LP_1 _ 0 (Nat.lt_succ_self _) (by omega) _ _ (hP.sub [0, 1, 2, 3, 4, 5] rfl) (hD.sub [0, 1, 2, 3, 4, 5] (by decide) rfl) hS ls (lv_sub hl [0, 1, 2, 3] rfl)
set_option maxHeartbeats 4000000 in
set_option maxRecDepth 100000 in
theorem c_X8_whoSits (l : Launch) (D : va_G) (cy : Nat → ClassId) (h0 : Nat) (q1 : Nat) (q2 : Nat) (q3 : Nat) (dy : Int32) (so : Int32) (il : Int32) (hc : Nat) (cpn : Nat) (cki : Nat) (chu : Nat) (cta : Nat) (cvo : Nat) (csf : Nat) (cst : Nat) (ccw : Nat) (cdn : Nat) (cbi : Nat) (csa : Nat) (cco : Nat) (clw : Nat) (cgi : Nat) (cga : Nat) (cbe : Nat) (np : Nat) (nd : Nat) (cs : Int32) (cr : Int32) (sf : Nat → Int32) (st : Nat → Int32) (sz : Nat) (hn6 : np ≤ 6) : Met l yX8_whoSits (Cond.code yX8_whoSits cX8_whoSits 4 (some .int) :: bigG) ({ frames := 2, cells := 0, slots := 0, locals := 44 }) (pre D cy [.ref h0, .ref hc] sz [(h0, .inr (8, [.int dy, .int so, .int il, .ref q1, .ref q2, .ref q3])), (hc, .inr (0, [.ref cpn, .ref cki, .ref chu, .ref cta, .ref cvo, .ref csf, .ref cst, .ref ccw, .ref cdn, .ref cbi, .ref csa, .ref cco, .ref clw, .int (nI np), .int (nI nd), .int cs, .int cr, .ref cgi, .ref cga, .ref cbe])), (csf, .inl (cy 1, 6, .inl sf)), (cst, .inl (cy 1, 6, .inl st))]) (qi (fun r h => r = whoS sf st dy np ∧ va_P D vwCl [(h0, .inr (8, [.int dy, .int so, .int il, .ref q1, .ref q2, .ref q3])), (hc, .inr (0, [.ref cpn, .ref cki, .ref chu, .ref cta, .ref cvo, .ref csf, .ref cst, .ref ccw, .ref cdn, .ref cbi, .ref csa, .ref cco, .ref clw, .int (nI np), .int (nI nd), .int cs, .int cr, .ref cgi, .ref cga, .ref cbe])), (csf, .inl (cy 1, 6, .inl sf)), (cst, .inl (cy 1, 6, .inl st))] h ∧ va_D (va_A [(h0, .inr (8, [.int dy, .int so, .int il, .ref q1, .ref q2, .ref q3])), (hc, .inr (0, [.ref cpn, .ref cki, .ref chu, .ref cta, .ref cvo, .ref csf, .ref cst, .ref ccw, .ref cdn, .ref cbi, .ref csa, .ref cco, .ref clw, .int (nI np), .int (nI nd), .int cs, .int cr, .ref cgi, .ref cga, .ref cbe])), (csf, .inl (cy 1, 6, .inl sf)), (cst, .inl (cy 1, 6, .inl st))] sz) [(h0, .inr (8, [.int dy, .int so, .int il, .ref q1, .ref q2, .ref q3])), (hc, .inr (0, [.ref cpn, .ref cki, .ref chu, .ref cta, .ref cvo, .ref csf, .ref cst, .ref ccw, .ref cdn, .ref cbi, .ref csa, .ref cco, .ref clw, .int (nI np), .int (nI nd), .int cs, .int cr, .ref cgi, .ref cga, .ref cbe])), (csf, .inl (cy 1, 6, .inl sf)), (cst, .inl (cy 1, 6, .inl st))]) (va_A [(h0, .inr (8, [.int dy, .int so, .int il, .ref q1, .ref q2, .ref q3])), (hc, .inr (0, [.ref cpn, .ref cki, .ref chu, .ref cta, .ref cvo, .ref csf, .ref cst, .ref ccw, .ref cdn, .ref cbi, .ref csa, .ref cco, .ref clw, .int (nI np), .int (nI nd), .int cs, .int cr, .ref cgi, .ref cga, .ref cbe])), (csf, .inl (cy 1, 6, .inl sf)), (cst, .inl (cy 1, 6, .inl st))] sz)) 0 0 (va_A [(h0, .inr (8, [.int dy, .int so, .int il, .ref q1, .ref q2, .ref q3])), (hc, .inr (0, [.ref cpn, .ref cki, .ref chu, .ref cta, .ref cvo, .ref csf, .ref cst, .ref ccw, .ref cdn, .ref cbi, .ref csa, .ref cco, .ref clw, .int (nI np), .int (nI nd), .int cs, .int cr, .ref cgi, .ref cga, .ref cbe])), (csf, .inl (cy 1, 6, .inl sf)), (cst, .inl (cy 1, 6, .inl st))] sz) := by
  refine Met.ofW (cc := cX8_whoSits) (maxL := 4) (ret := (some .int)) (by decide) rfl ?_
  intro p e s m args below meth c s₁ B hml hv
  obtain ⟨rfl, hsz, hP, hG, hD0⟩ := hv
  have hx := B.exec
  have hb := B.bytes
  have hr := B.returns
  have hts := atoms_spec (ws := (Cond.code yX8_whoSits cX8_whoSits 4 (some .int) :: bigG)) B.pre
  have hg : ∀ w ∈ bigG, w.before ([.ref h0, .ref hc] : List Value).toArray s = true := fun w h => hts w (List.mem_cons_of_mem _ h)
  have hown : s.vm.findClass RX8 = some m.cls := findClass_of_methodNamed B.named
  have hlocks := B.notSynchronized
  subst hsz
  have hD := hD0.self (sz := s.heap.size)
  generalize hAe : va_A [(h0, .inr (8, [.int dy, .int so, .int il, .ref q1, .ref q2, .ref q3])), (hc, .inr (0, [.ref cpn, .ref cki, .ref chu, .ref cta, .ref cvo, .ref csf, .ref cst, .ref ccw, .ref cdn, .ref cbi, .ref csa, .ref cco, .ref clw, .int (nI np), .int (nI nd), .int cs, .int cr, .ref cgi, .ref cga, .ref cbe])), (csf, .inl (cy 1, 6, .inl sf)), (cst, .inl (cy 1, 6, .inl st))] s.heap.size = A at hD ⊢
  have hA : ∀ q : Nat, s.heap.size ≤ q → A q := fun q h => by rw [← hAe]; exact Or.inr h
  have hS : va_S A s.heap s.heap [] := va_S.rf
  have hP : va_P D vwCl [(h0, .inr (8, [.int dy, .int so, .int il, .ref q1, .ref q2, .ref q3])), (hc, .inr (0, [.ref cpn, .ref cki, .ref chu, .ref cta, .ref cvo, .ref csf, .ref cst, .ref ccw, .ref cdn, .ref cbi, .ref csa, .ref cco, .ref clw, .int (nI np), .int (nI nd), .int cs, .int cr, .ref cgi, .ref cga, .ref cbe])), (csf, .inl (cy 1, 6, .inl sf)), (cst, .inl (cy 1, 6, .inl st))] s.heap := hP
  have hl := lv_entry ([.ref h0, .ref hc]) (n := 4) (Nat.le_of_ble_eq_true rfl)
  rw [lg_entry_eq]
  generalize (lg_sl ([.ref h0, .ref hc]) ++ List.replicate (4 - (lg_sl ([.ref h0, .ref hc])).length) Slot.unset).toArray = ls at hl ⊢
  have hl : lv_has ls 4 [(0, .ref h0), (1, .ref hc)] := hl
  refine w_nm (fun Q hQ => ?_)
  refine lv_iconst (v := 0) hx hb dX8_whoSits_0 (by decide) ?_
  refine lv_istore_n (lv' := [(2, .int 0), (0, .ref h0), (1, .ref hc)]) hx hb dX8_whoSits_1 rfl hl (by decide) rfl (fun ls hl => ?_)
  refine lv_iconst (v := 0) hx hb dX8_whoSits_2 (by decide) ?_
  refine lv_istore_n (lv' := [(3, .int 0), (2, .int 0), (0, .ref h0), (1, .ref hc)]) hx hb dX8_whoSits_3 rfl hl (by decide) rfl (fun ls hl => ?_)
  have LP_1 : ∀ (n_ : Nat) (i4 : Nat), np + 1 - i4 < n_ → i4 ≤ np → ∀ (H : Heap) (locs : List Loc), va_P D vwCl [(h0, .inr (8, [.int dy, .int so, .int il, .ref q1, .ref q2, .ref q3])), (hc, .inr (0, [.ref cpn, .ref cki, .ref chu, .ref cta, .ref cvo, .ref csf, .ref cst, .ref ccw, .ref cdn, .ref cbi, .ref csa, .ref cco, .ref clw, .int (nI np), .int (nI nd), .int cs, .int cr, .ref cgi, .ref cga, .ref cbe])), (csf, .inl (cy 1, 6, .inl sf)), (cst, .inl (cy 1, 6, .inl st))] H → va_D A [(h0, .inr (8, [.int dy, .int so, .int il, .ref q1, .ref q2, .ref q3])), (hc, .inr (0, [.ref cpn, .ref cki, .ref chu, .ref cta, .ref cvo, .ref csf, .ref cst, .ref ccw, .ref cdn, .ref cbi, .ref csa, .ref cco, .ref clw, .int (nI np), .int (nI nd), .int cs, .int cr, .ref cgi, .ref cga, .ref cbe])), (csf, .inl (cy 1, 6, .inl sf)), (cst, .inl (cy 1, 6, .inl st))] → va_S A s.heap H locs → ∀ (ls : Array Slot), lv_has ls 4 [(3, .int (nI i4)), (2, .int (whoS sf st dy i4)), (0, .ref h0), (1, .ref hc)] → W p l e (headSpec (Cond.code yX8_whoSits cX8_whoSits 4 (some .int) :: bigG) { frames := 2, cells := 0, slots := 0, locals := 44 }).room s m ([.ref h0, .ref hc] : List Value).toArray below meth c H locs 0 0 Q (F0 m 4 ls []) := by
    intro n_
    induction n_ with
    | zero => intro i4 hm_; exact absurd hm_ (Nat.not_lt_zero _)
    | succ n_ ih =>
      intro i4 hm_ hi4 H locs hP hD hS ls hl
      refine lv_iload_n hx hb dX8_whoSits_4 rfl (lv_at hl 0 rfl) ?_
      refine lv_aload_n hx hb dX8_whoSits_5 rfl (lv_at hl 3 rfl) ?_
      refine va_get (D := D) (ci := 0) (v := .int (nI np)) (C := RX0) (T := TX0) (N := 20) hx hb hts (inC ibX0) hown hG.1 hP 1 rfl rfl 13 (by decide) (hg _ k_175) (fun _ h9 => h9) rfl dX8_whoSits_6 ?_
      refine lv_icmp_ge (tgt := 33) hx hb dX8_whoSits_9 (by decide) (fun c_2 => ?_) (fun c_2 => ?_)
      · have nc_2 : np ≤ i4 := (nI_leI (a := np) (b := i4) (by omega) (by omega)).mp c_2
        have hie : i4 = np := by omega
        rw [hie] at hl
        refine lv_iload_n hx hb dX8_whoSits_33 rfl (lv_at hl 1 rfl) ?_
        have hP9 := hP.sub (ws' := [(h0, .inr (8, [.int dy, .int so, .int il, .ref q1, .ref q2, .ref q3])), (hc, .inr (0, [.ref cpn, .ref cki, .ref chu, .ref cta, .ref cvo, .ref csf, .ref cst, .ref ccw, .ref cdn, .ref cbi, .ref csa, .ref cco, .ref clw, .int (nI np), .int (nI nd), .int cs, .int cr, .ref cgi, .ref cga, .ref cbe])), (csf, .inl (cy 1, 6, .inl sf)), (cst, .inl (cy 1, 6, .inl st))]) [0, 1, 2, 3] rfl
        have hD9 := hD.sub (ws' := [(h0, .inr (8, [.int dy, .int so, .int il, .ref q1, .ref q2, .ref q3])), (hc, .inr (0, [.ref cpn, .ref cki, .ref chu, .ref cta, .ref cvo, .ref csf, .ref cst, .ref ccw, .ref cdn, .ref cbi, .ref csa, .ref cco, .ref clw, .int (nI np), .int (nI nd), .int cs, .int cr, .ref cgi, .ref cga, .ref cbe])), (csf, .inl (cy 1, 6, .inl sf)), (cst, .inl (cy 1, 6, .inl st))]) [0, 1, 2, 3] (by decide) rfl
        subst hQ
        exact W.iret (v := whoS sf st dy np) hx hb hr (fun t ht hW => qi_mk (by rw [ht]; exact ⟨rfl, hP9, hD9⟩) (hS.F ht)) hS.2.2 dX8_whoSits_34
      · have nc_2 : ¬ (np ≤ i4) := fun h => c_2 ((nI_leI (a := np) (b := i4) (by omega) (by omega)).mpr h)
        refine lv_aload_n hx hb dX8_whoSits_12 rfl (lv_at hl 2 rfl) ?_
        refine lv_aload_n hx hb dX8_whoSits_13 rfl (lv_at hl 3 rfl) ?_
        refine lv_iload_n hx hb dX8_whoSits_14 rfl (lv_at hl 0 rfl) ?_
        refine x_i (wr := []) hP hD hS hA [0, 1, 2, 3] [] rfl rfl (by decide) (by decide) (va_runV (As := [.ref hc, .int (nI i4)]) (rest := []) ⟨hx, hb, hml, hown, hts⟩ (c_X8_sits l D cy h0 q1 q2 q3 dy so il hc cpn cki chu cta cvo csf cst ccw cdn cbi csa cco clw cgi cga cbe np nd cs cr i4 sf st H.size (by omega)) (cwV 2 hts (gV km_X8_57 ki_X8_sits kz_X8_sits kn_X8 kc_X8_sits) rfl rfl rfl (by decide +kernel) ⟨(Nat.le_of_ble_eq_true rfl), (Nat.le_of_ble_eq_true rfl)⟩) (preV hG hP hD [0, 1, 2, 3] rfl (by decide) 8 0 rfl rfl) rfl rfl hl.1 rfl (lv_room (Nat.le_of_ble_eq_true rfl)) dX8_whoSits_15 ⟨(Nat.le_of_ble_eq_true rfl), (Nat.le_of_ble_eq_true rfl)⟩) (fun r_3 H locs hB hj hS => ?_)
        obtain ⟨hres, hP1, hD1⟩ := hB
        subst hres
        obtain ⟨hP, hD⟩ := hj _ hP1 hD1
        have hP : va_P D vwCl [(h0, .inr (8, [.int dy, .int so, .int il, .ref q1, .ref q2, .ref q3])), (hc, .inr (0, [.ref cpn, .ref cki, .ref chu, .ref cta, .ref cvo, .ref csf, .ref cst, .ref ccw, .ref cdn, .ref cbi, .ref csa, .ref cco, .ref clw, .int (nI np), .int (nI nd), .int cs, .int cr, .ref cgi, .ref cga, .ref cbe])), (csf, .inl (cy 1, 6, .inl sf)), (cst, .inl (cy 1, 6, .inl st))] H := hP
        have hD : va_D A [(h0, .inr (8, [.int dy, .int so, .int il, .ref q1, .ref q2, .ref q3])), (hc, .inr (0, [.ref cpn, .ref cki, .ref chu, .ref cta, .ref cvo, .ref csf, .ref cst, .ref ccw, .ref cdn, .ref cbi, .ref csa, .ref cco, .ref clw, .int (nI np), .int (nI nd), .int cs, .int cr, .ref cgi, .ref cga, .ref cbe])), (csf, .inl (cy 1, 6, .inl sf)), (cst, .inl (cy 1, 6, .inl st))] := hD
        refine lv_if_eq (tgt := 27) hx hb dX8_whoSits_18 (by decide) (fun c_4 => ?_) (fun c_4 => ?_)
        · refine lv_iinc (v := nI (i4 + 1)) (lv' := [(3, .int (nI (i4 + 1))), (2, .int (whoS sf st dy i4)), (0, .ref h0), (1, .ref hc)]) hx hb dX8_whoSits_27 hl (k := 0) rfl (by show nI i4 + nI 1 = _; exact nI_add _ _) (by decide) rfl (fun ls hl => ?_)
          refine lv_goto (tgt := 4) hx hb dX8_whoSits_30 (by decide) ?_
          have e3 : whoS sf st dy i4 = whoS sf st dy (i4 + 1) := (if_pos c_4).symm
          rw [e3] at hl
          exact ih (i4 + 1) (by omega) (by omega) _ _ (hP.sub [0, 1, 2, 3] rfl) (hD.sub [0, 1, 2, 3] (by decide) rfl) hS ls (lv_sub hl [0, 1, 2, 3] rfl)
        · refine lv_iload_n hx hb dX8_whoSits_21 rfl (lv_at hl 1 rfl) ?_
          refine lv_iconst (v := 1) hx hb dX8_whoSits_22 (by decide) ?_
          refine lv_iload_n hx hb dX8_whoSits_23 rfl (lv_at hl 0 rfl) ?_
          refine m_ishl (v := (1 <<< ((nI i4) &&& 31))) hx hb dX8_whoSits_24 rfl ?_
          refine m_ior (v := ((whoS sf st dy i4) ||| (1 <<< ((nI i4) &&& 31)))) hx hb dX8_whoSits_25 rfl ?_
          refine lv_topi (fun x2_5 ex2_5 => ?_)
          refine lv_istore_n (lv' := [(2, .int x2_5), (3, .int (nI i4)), (0, .ref h0), (1, .ref hc)]) hx hb dX8_whoSits_26 rfl hl (by decide) rfl (fun ls hl => ?_)
          refine lv_iinc (v := nI (i4 + 1)) (lv' := [(3, .int (nI (i4 + 1))), (2, .int x2_5), (0, .ref h0), (1, .ref hc)]) hx hb dX8_whoSits_27 hl (k := 1) rfl (by show nI i4 + nI 1 = _; exact nI_add _ _) (by decide) rfl (fun ls hl => ?_)
          refine lv_goto (tgt := 4) hx hb dX8_whoSits_30 (by decide) ?_
          have e3 : x2_5 = whoS sf st dy (i4 + 1) := ex2_5.trans (if_neg c_4).symm
          rw [e3] at hl
          exact ih (i4 + 1) (by omega) (by omega) _ _ (hP.sub [0, 1, 2, 3] rfl) (hD.sub [0, 1, 2, 3] (by decide) rfl) hS ls (lv_sub hl [0, 1, 2, 3] rfl)
  exact LP_1 _ 0 (Nat.lt_succ_self _) (by omega) _ _ (hP.sub [0, 1, 2, 3] rfl) (hD.sub [0, 1, 2, 3] (by decide) rfl) hS ls (lv_sub hl [0, 1, 2, 3] rfl)
set_option maxHeartbeats 4000000 in
set_option maxRecDepth 100000 in
theorem c_X8_eatsAbroad (l : Launch) (D : va_G) (cy : Nat → ClassId) (h0 : Nat) (q1 : Nat) (q2 : Nat) (q3 : Nat) (dy : Int32) (so : Int32) (il : Int32) (fu : Nat → Int32) (at_ : Nat → Int32) (hu : Nat → Int32) (hc : Nat) (cpn : Nat) (cki : Nat) (chu : Nat) (cta : Nat) (cvo : Nat) (csf : Nat) (cst : Nat) (ccw : Nat) (cdn : Nat) (cbi : Nat) (csa : Nat) (cco : Nat) (clw : Nat) (cgi : Nat) (cga : Nat) (cbe : Nat) (np : Nat) (nd : Nat) (cs : Int32) (cr : Int32) (pe : Nat) (di : Nat) (ga : Nat → Int32) (sz : Nat) (hp : pe < 6) (hd : di < 5) : Met l yX8_eatsAbroad (Cond.code yX8_eatsAbroad cX8_eatsAbroad 4 none :: bigG) ({ frames := 2, cells := 0, slots := 0, locals := 43 }) (pre D cy [.ref h0, .ref hc, .int (nI pe), .int (nI di)] sz [(h0, .inr (8, [.int dy, .int so, .int il, .ref q1, .ref q2, .ref q3])), (q1, .inl (cy 1, 6, .inl fu)), (q2, .inl (cy 1, 6, .inl at_)), (q3, .inl (cy 1, 6, .inl hu)), (hc, .inr (0, [.ref cpn, .ref cki, .ref chu, .ref cta, .ref cvo, .ref csf, .ref cst, .ref ccw, .ref cdn, .ref cbi, .ref csa, .ref cco, .ref clw, .int (nI np), .int (nI nd), .int cs, .int cr, .ref cgi, .ref cga, .ref cbe])), (cga, .inl (cy 1, 30, .inl ga))]) (qv (fun h => va_P D vwCl [(h0, .inr (8, [.int dy, .int so, .int il, .ref q1, .ref q2, .ref q3])), (q1, .inl (cy 1, 6, .inl (upd fu pe (mnv 99 (fu pe + (ga (pe * 5 + di))))))), (q2, .inl (cy 1, 6, .inl at_)), (q3, .inl (cy 1, 6, .inl hu)), (hc, .inr (0, [.ref cpn, .ref cki, .ref chu, .ref cta, .ref cvo, .ref csf, .ref cst, .ref ccw, .ref cdn, .ref cbi, .ref csa, .ref cco, .ref clw, .int (nI np), .int (nI nd), .int cs, .int cr, .ref cgi, .ref cga, .ref cbe])), (cga, .inl (cy 1, 30, .inl ga))] h ∧ va_D (va_A [(h0, .inr (8, [.int dy, .int so, .int il, .ref q1, .ref q2, .ref q3])), (q1, .inl (cy 1, 6, .inl fu)), (q2, .inl (cy 1, 6, .inl at_)), (q3, .inl (cy 1, 6, .inl hu)), (hc, .inr (0, [.ref cpn, .ref cki, .ref chu, .ref cta, .ref cvo, .ref csf, .ref cst, .ref ccw, .ref cdn, .ref cbi, .ref csa, .ref cco, .ref clw, .int (nI np), .int (nI nd), .int cs, .int cr, .ref cgi, .ref cga, .ref cbe])), (cga, .inl (cy 1, 30, .inl ga))] sz) [(h0, .inr (8, [.int dy, .int so, .int il, .ref q1, .ref q2, .ref q3])), (q1, .inl (cy 1, 6, .inl (upd fu pe (mnv 99 (fu pe + (ga (pe * 5 + di))))))), (q2, .inl (cy 1, 6, .inl at_)), (q3, .inl (cy 1, 6, .inl hu)), (hc, .inr (0, [.ref cpn, .ref cki, .ref chu, .ref cta, .ref cvo, .ref csf, .ref cst, .ref ccw, .ref cdn, .ref cbi, .ref csa, .ref cco, .ref clw, .int (nI np), .int (nI nd), .int cs, .int cr, .ref cgi, .ref cga, .ref cbe])), (cga, .inl (cy 1, 30, .inl ga))]) (va_A [(h0, .inr (8, [.int dy, .int so, .int il, .ref q1, .ref q2, .ref q3])), (q1, .inl (cy 1, 6, .inl fu)), (q2, .inl (cy 1, 6, .inl at_)), (q3, .inl (cy 1, 6, .inl hu)), (hc, .inr (0, [.ref cpn, .ref cki, .ref chu, .ref cta, .ref cvo, .ref csf, .ref cst, .ref ccw, .ref cdn, .ref cbi, .ref csa, .ref cco, .ref clw, .int (nI np), .int (nI nd), .int cs, .int cr, .ref cgi, .ref cga, .ref cbe])), (cga, .inl (cy 1, 30, .inl ga))] sz)) 0 0 (va_A [(h0, .inr (8, [.int dy, .int so, .int il, .ref q1, .ref q2, .ref q3])), (q1, .inl (cy 1, 6, .inl fu)), (q2, .inl (cy 1, 6, .inl at_)), (q3, .inl (cy 1, 6, .inl hu)), (hc, .inr (0, [.ref cpn, .ref cki, .ref chu, .ref cta, .ref cvo, .ref csf, .ref cst, .ref ccw, .ref cdn, .ref cbi, .ref csa, .ref cco, .ref clw, .int (nI np), .int (nI nd), .int cs, .int cr, .ref cgi, .ref cga, .ref cbe])), (cga, .inl (cy 1, 30, .inl ga))] sz) := by
  refine Met.ofW (cc := cX8_eatsAbroad) (maxL := 4) (ret := none) (by decide) rfl ?_
  intro p e s m args below meth c s₁ B hml hv
  obtain ⟨rfl, hsz, hP, hG, hD0⟩ := hv
  have hx := B.exec
  have hb := B.bytes
  have hr := B.returns
  have hts := atoms_spec (ws := (Cond.code yX8_eatsAbroad cX8_eatsAbroad 4 none :: bigG)) B.pre
  have hg : ∀ w ∈ bigG, w.before ([.ref h0, .ref hc, .int (nI pe), .int (nI di)] : List Value).toArray s = true := fun w h => hts w (List.mem_cons_of_mem _ h)
  have hown : s.vm.findClass RX8 = some m.cls := findClass_of_methodNamed B.named
  have hlocks := B.notSynchronized
  subst hsz
  have hD := hD0.self (sz := s.heap.size)
  generalize hAe : va_A [(h0, .inr (8, [.int dy, .int so, .int il, .ref q1, .ref q2, .ref q3])), (q1, .inl (cy 1, 6, .inl fu)), (q2, .inl (cy 1, 6, .inl at_)), (q3, .inl (cy 1, 6, .inl hu)), (hc, .inr (0, [.ref cpn, .ref cki, .ref chu, .ref cta, .ref cvo, .ref csf, .ref cst, .ref ccw, .ref cdn, .ref cbi, .ref csa, .ref cco, .ref clw, .int (nI np), .int (nI nd), .int cs, .int cr, .ref cgi, .ref cga, .ref cbe])), (cga, .inl (cy 1, 30, .inl ga))] s.heap.size = A at hD ⊢
  have hA : ∀ q : Nat, s.heap.size ≤ q → A q := fun q h => by rw [← hAe]; exact Or.inr h
  have hS : va_S A s.heap s.heap [] := va_S.rf
  have hP : va_P D vwCl [(h0, .inr (8, [.int dy, .int so, .int il, .ref q1, .ref q2, .ref q3])), (q1, .inl (cy 1, 6, .inl fu)), (q2, .inl (cy 1, 6, .inl at_)), (q3, .inl (cy 1, 6, .inl hu)), (hc, .inr (0, [.ref cpn, .ref cki, .ref chu, .ref cta, .ref cvo, .ref csf, .ref cst, .ref ccw, .ref cdn, .ref cbi, .ref csa, .ref cco, .ref clw, .int (nI np), .int (nI nd), .int cs, .int cr, .ref cgi, .ref cga, .ref cbe])), (cga, .inl (cy 1, 30, .inl ga))] s.heap := hP
  have hl := lv_entry ([.ref h0, .ref hc, .int (nI pe), .int (nI di)]) (n := 4) (Nat.le_of_ble_eq_true rfl)
  rw [lg_entry_eq]
  generalize (lg_sl ([.ref h0, .ref hc, .int (nI pe), .int (nI di)]) ++ List.replicate (4 - (lg_sl ([.ref h0, .ref hc, .int (nI pe), .int (nI di)])).length) Slot.unset).toArray = ls at hl ⊢
  have hl : lv_has ls 4 [(0, .ref h0), (1, .ref hc), (2, .int (nI pe)), (3, .int (nI di))] := hl
  refine w_nm (fun Q hQ => ?_)
  refine lv_aload_n hx hb dX8_eatsAbroad_0 rfl (lv_at hl 0 rfl) ?_
  refine lv_iload_n hx hb dX8_eatsAbroad_1 rfl (lv_at hl 2 rfl) ?_
  refine lv_aload_n hx hb dX8_eatsAbroad_2 rfl (lv_at hl 1 rfl) ?_
  refine lv_iload_n hx hb dX8_eatsAbroad_3 rfl (lv_at hl 2 rfl) ?_
  refine lv_iload_n hx hb dX8_eatsAbroad_4 rfl (lv_at hl 3 rfl) ?_
  refine x_i (wr := [(h0, .inr (8, [.int dy, .int so, .int il, .ref q1, .ref q2, .ref q3])), (q1, .inl (cy 1, 6, .inl fu)), (q2, .inl (cy 1, 6, .inl at_)), (q3, .inl (cy 1, 6, .inl hu))]) hP hD hS hA [4, 5] [0, 1, 2, 3] rfl rfl (by decide) (by decide) (va_runV (As := [.int (nI pe), .int (nI di)]) (rest := [.int (nI pe), .ref h0]) ⟨hx, hb, hml, hown, hts⟩ (c_X0_giftAbroad l D cy hc cpn cki chu cta cvo csf cst ccw cdn cbi csa cco clw cgi cga cbe np nd cs cr pe di ga s.heap.size hp hd) (cwV 2 hts (gV km_X8_82 ki_X0_giftAbroad kz_X0_giftAbroad kn_X0 kc_X0_giftAbroad) rfl rfl rfl (by decide +kernel) ⟨(Nat.le_of_ble_eq_true rfl), (Nat.le_of_ble_eq_true rfl)⟩) (preV hG hP hD [4, 5] rfl (by decide) 0 4 rfl rfl) rfl rfl hl.1 rfl (lv_room (Nat.le_of_ble_eq_true rfl)) dX8_eatsAbroad_5 ⟨(Nat.le_of_ble_eq_true rfl), (Nat.le_of_ble_eq_true rfl)⟩) (fun r_1 H locs hB hj hS => ?_)
  obtain ⟨hres, hP1, hD1⟩ := hB
  subst hres
  obtain ⟨hP, hD⟩ := hj _ hP1 hD1
  have hP : va_P D vwCl [(h0, .inr (8, [.int dy, .int so, .int il, .ref q1, .ref q2, .ref q3])), (q1, .inl (cy 1, 6, .inl fu)), (q2, .inl (cy 1, 6, .inl at_)), (q3, .inl (cy 1, 6, .inl hu)), (hc, .inr (0, [.ref cpn, .ref cki, .ref chu, .ref cta, .ref cvo, .ref csf, .ref cst, .ref ccw, .ref cdn, .ref cbi, .ref csa, .ref cco, .ref clw, .int (nI np), .int (nI nd), .int cs, .int cr, .ref cgi, .ref cga, .ref cbe])), (cga, .inl (cy 1, 30, .inl ga))] H := hP
  have hD : va_D A [(h0, .inr (8, [.int dy, .int so, .int il, .ref q1, .ref q2, .ref q3])), (q1, .inl (cy 1, 6, .inl fu)), (q2, .inl (cy 1, 6, .inl at_)), (q3, .inl (cy 1, 6, .inl hu)), (hc, .inr (0, [.ref cpn, .ref cki, .ref chu, .ref cta, .ref cvo, .ref csf, .ref cst, .ref ccw, .ref cdn, .ref cbi, .ref csa, .ref cco, .ref clw, .int (nI np), .int (nI nd), .int cs, .int cr, .ref cgi, .ref cga, .ref cbe])), (cga, .inl (cy 1, 30, .inl ga))] := hD
  refine x_v (wr := [(hc, .inr (0, [.ref cpn, .ref cki, .ref chu, .ref cta, .ref cvo, .ref csf, .ref cst, .ref ccw, .ref cdn, .ref cbi, .ref csa, .ref cco, .ref clw, .int (nI np), .int (nI nd), .int cs, .int cr, .ref cgi, .ref cga, .ref cbe])), (cga, .inl (cy 1, 30, .inl ga))]) hP hD hS hA [0, 1, 2, 3] [4, 5] rfl rfl (by decide) (by decide) (va_runV (As := [.int (nI pe), .int (ga (pe * 5 + di))]) (rest := []) ⟨hx, hb, hml, hown, hts⟩ (c_X8_fill_f l D cy h0 q1 q2 q3 dy so il fu at_ hu pe (ga (pe * 5 + di)) H.size hp) (cwV 2 hts (gV km_X8_79 ki_X8_fill kz_X8_fill kn_X8 kc_X8_fill) rfl rfl rfl (by decide +kernel) ⟨(Nat.le_of_ble_eq_true rfl), (Nat.le_of_ble_eq_true rfl)⟩) (preV hG hP hD [0, 1, 2, 3] rfl (by decide) 8 0 rfl rfl) rfl rfl hl.1 rfl (lv_room (Nat.le_of_ble_eq_true rfl)) dX8_eatsAbroad_8 ⟨(Nat.le_of_ble_eq_true rfl), (Nat.le_of_ble_eq_true rfl)⟩) (fun H locs hB hj hS => ?_)
  obtain ⟨hP1, hD1⟩ := hB
  obtain ⟨hP, hD⟩ := hj _ hP1 hD1
  have hP : va_P D vwCl [(hc, .inr (0, [.ref cpn, .ref cki, .ref chu, .ref cta, .ref cvo, .ref csf, .ref cst, .ref ccw, .ref cdn, .ref cbi, .ref csa, .ref cco, .ref clw, .int (nI np), .int (nI nd), .int cs, .int cr, .ref cgi, .ref cga, .ref cbe])), (cga, .inl (cy 1, 30, .inl ga)), (h0, .inr (8, [.int dy, .int so, .int il, .ref q1, .ref q2, .ref q3])), (q1, .inl (cy 1, 6, .inl (upd fu pe (mnv 99 (fu pe + (ga (pe * 5 + di))))))), (q2, .inl (cy 1, 6, .inl at_)), (q3, .inl (cy 1, 6, .inl hu))] H := hP
  have hD : va_D A [(hc, .inr (0, [.ref cpn, .ref cki, .ref chu, .ref cta, .ref cvo, .ref csf, .ref cst, .ref ccw, .ref cdn, .ref cbi, .ref csa, .ref cco, .ref clw, .int (nI np), .int (nI nd), .int cs, .int cr, .ref cgi, .ref cga, .ref cbe])), (cga, .inl (cy 1, 30, .inl ga)), (h0, .inr (8, [.int dy, .int so, .int il, .ref q1, .ref q2, .ref q3])), (q1, .inl (cy 1, 6, .inl (upd fu pe (mnv 99 (fu pe + (ga (pe * 5 + di))))))), (q2, .inl (cy 1, 6, .inl at_)), (q3, .inl (cy 1, 6, .inl hu))] := hD
  have hP9 := hP.sub (ws' := [(h0, .inr (8, [.int dy, .int so, .int il, .ref q1, .ref q2, .ref q3])), (q1, .inl (cy 1, 6, .inl (upd fu pe (mnv 99 (fu pe + (ga (pe * 5 + di))))))), (q2, .inl (cy 1, 6, .inl at_)), (q3, .inl (cy 1, 6, .inl hu)), (hc, .inr (0, [.ref cpn, .ref cki, .ref chu, .ref cta, .ref cvo, .ref csf, .ref cst, .ref ccw, .ref cdn, .ref cbi, .ref csa, .ref cco, .ref clw, .int (nI np), .int (nI nd), .int cs, .int cr, .ref cgi, .ref cga, .ref cbe])), (cga, .inl (cy 1, 30, .inl ga))]) [2, 3, 4, 5, 0, 1] rfl
  have hD9 := hD.sub (ws' := [(h0, .inr (8, [.int dy, .int so, .int il, .ref q1, .ref q2, .ref q3])), (q1, .inl (cy 1, 6, .inl (upd fu pe (mnv 99 (fu pe + (ga (pe * 5 + di))))))), (q2, .inl (cy 1, 6, .inl at_)), (q3, .inl (cy 1, 6, .inl hu)), (hc, .inr (0, [.ref cpn, .ref cki, .ref chu, .ref cta, .ref cvo, .ref csf, .ref cst, .ref ccw, .ref cdn, .ref cbi, .ref csa, .ref cco, .ref clw, .int (nI np), .int (nI nd), .int cs, .int cr, .ref cgi, .ref cga, .ref cbe])), (cga, .inl (cy 1, 30, .inl ga))]) [2, 3, 4, 5, 0, 1] (by decide) rfl
  subst hQ
  exact W.vret hx hb hr (fun t ht hW => qv_mk (by rw [ht]; exact ⟨hP9, hD9⟩) (hS.F ht)) hS.2.2 dX8_eatsAbroad_11
