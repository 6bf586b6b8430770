def NSE : String := "java/util/NoSuchElementException"
def xA : List Cond := vn_at RX11 279 NSE "java/lang/RuntimeException" ["java/lang/Exception"]
theorem xA_good : ∀ w ∈ xA.filter goodWord, w ∈ bigG := by decide +kernel
def xB : List Cond := [Cond.castable NSE NSE, Cond.declares ⟨"java/lang/RuntimeException", "<init>", "(Ljava/lang/String;)V"⟩, Cond.declares ⟨"java/lang/Exception", "<init>", "(Ljava/lang/String;)V"⟩, Cond.declares ⟨"java/lang/Throwable", "<init>", "(Ljava/lang/String;)V"⟩]
theorem xB_is : ∀ w ∈ xA.filter (fun w => !goodWord w), w ∈ xB := by decide +kernel
theorem xB_in : ∀ w ∈ xB, w ∈ lw_tbl := by decide +kernel
theorem xB_form : ∀ w ∈ xB, (∃ C T : String, w = Cond.castable C T) ∨ ∃ y : MethodName, w = Cond.declares y := by
  intro w hw
  simp only [xB, List.mem_cons, List.not_mem_nil, or_false] at hw
  rcases hw with rfl | rfl | rfl | rfl
  · exact Or.inl ⟨_, _, rfl⟩
  · exact Or.inr ⟨_, rfl⟩
  · exact Or.inr ⟨_, rfl⟩
  · exact Or.inr ⟨_, rfl⟩
theorem xB_tab : ∀ w ∈ xB, w.onTables = true := by
  intro w hw
  rcases xB_form w hw with ⟨C, T, rfl⟩ | ⟨y, rfl⟩ <;> rfl
theorem xB_warm {s U : State} (hW : s.WarmedH U.vm) (w : Cond) (hw : w ∈ xB) (h : va_Nw w s) : va_Nw w U := by
  rcases xB_form w hw with ⟨C, T, rfl⟩ | ⟨y, rfl⟩
  · exact va_Nw.warmC hW h
  · exact va_tabs rfl (rfl : (s.setVm U.vm).vm = U.vm) (by rw [Cond.declares_setVm hW.alike]; exact h)
theorem xA_ot : ∀ w ∈ Cond.classLink RX11 275 NSE :: Cond.initialized NSE :: xA, vx_ot w = true := by decide +kernel
def zx (A : Nat → Prop) (U : State) : Prop := vx_Zq Bundle.tN "UNASSIGNED_STACK" Bundle.steD A U U.heap ∧ vx_Zq Bundle.tN "SUPPRESSED_SENTINEL" Bundle.listD A U U.heap ∧ (∃ sa, vk_R RX11 277 "no such bites or loss" sa U) ∧ (∃ sa, vk_R RX11 285 "no such rest" sa U) ∧ ∀ w ∈ xB, va_Nw w U
theorem zx_call {A : Nat → Prop} {U : State} {g : JFrame} {mk : MethodId} {a : Array Value} (h : zx A U) : zx A (U.calling g mk a) := by
  obtain ⟨h1, h2, ⟨sa, h3⟩, ⟨sb, h4⟩, h5⟩ := h
  exact ⟨vx_Zq.moved (u := U) (U := U.calling g mk a) (Vm.Alike.refl U.vm) h1, vx_Zq.moved (u := U) (U := U.calling g mk a) (Vm.Alike.refl U.vm) h2, ⟨sa, vk_R.same rfl h3⟩, ⟨sb, vk_R.same rfl h4⟩, fun w hw => va_Nw.same (u := U) (U := U.calling g mk a) (xB_tab w hw) rfl (h5 w hw)⟩
theorem zx_go {A B : Nat → Prop} {s : State} {H : Heap} {locs : List Loc} (h : zx A s) (hS : va_S A s.heap H locs) (hF : ∀ q, B q → A q) : ∀ U : State, U.heap = H → s.WarmedH U.vm → zx B U := by
  intro U hU hW
  obtain ⟨h1, h2, ⟨sa, h3⟩, ⟨sb, h4⟩, h5⟩ := h
  refine ⟨?_, ?_, ⟨sa, vk_R.warm hW h3⟩, ⟨sb, vk_R.warm hW h4⟩, fun w hw => xB_warm hW w hw (h5 w hw)⟩
  · rw [hU]
    exact (vx_Zq.moved hW.alike (h1.kept hS.2.1)).narrow hF
  · rw [hU]
    exact (vx_Zq.moved hW.alike (h2.kept hS.2.1)).narrow hF
def prex (D : va_G) (cy : Nat → ClassId) (av : List Value) (sz : Nat) (ws : va_W) : Array Value → State → Prop := va_Pc av (fun U => U.heap.size = sz ∧ va_P D vwCl ws U.heap ∧ gk D cy U ∧ va_D (fun _ => True) ws ∧ zx (va_A ws sz) U)
theorem prex_blind {D : va_G} {cy : Nat → ClassId} {av : List Value} {sz : Nat} {ws : va_W} : FrameBlind (prex D cy av sz ws) := fun _ _ _ _ q => by
  obtain ⟨q0, q1, qP, qK, qD, qZ⟩ := q
  exact ⟨q0, q1, qP, gk_call qK, qD, zx_call qZ⟩
theorem prex_go {D : va_G} {cy : Nat → ClassId} {av : List Value} {ws wc : va_W} {A : Nat → Prop} {s : State} {H : Heap} {locs : List Loc} (hG : gk D cy s) (hP : va_P D vwCl ws H) (hD : va_D A ws) (hS : va_S A s.heap H locs) (hA : ∀ q, s.heap.size ≤ q → A q) (hZ : zx A s) (isC : List Nat) (hC : isC.map (fun i => ws[i]?) = wc.map some) (hn : va_nd isC = true) : ∀ U : State, U.heap = H → s.WarmedH U.vm → prex D cy av H.size wc av.toArray U := fun U hU hW =>
  ⟨rfl, by rw [hU], by rw [hU]; exact hP.sub isC (fm_of hC), gk_warm hW hG, (hD.sub isC hn hC).weaken (fun _ _ _ _ => trivial), zx_go hZ hS (va_free hD hS hA isC hC) U hU hW⟩
theorem prexV {D : va_G} {cy : Nat → ClassId} {As : List Value} {ws wc : va_W} {A : Nat → Prop} {s : State} {H : Heap} {locs : List Loc} {b : Nat} {q : vw_C} (hG : gk D cy s) (hP : va_P D vwCl ws H) (hD : va_D A ws) (hS : va_S A s.heap H locs) (hA : ∀ q, s.heap.size ≤ q → A q) (hZ : zx A s) (isC : List Nat) (hC : isC.map (fun i => ws[i]?) = wc.map some) (hn : va_nd isC = true) (ci qb : Nat) {fs : List Value} (he : ws[qb]? = some (b, .inr (ci, fs))) (hc : vwCl[ci]? = some q) : PreV s H q.1 b (prex D cy (.ref b :: As) H.size wc) As :=
  ⟨prex_blind, va_recv hG.1 hP hc he, prex_go hG hP hD hS hA hZ isC hC hn⟩
theorem prexS {D : va_G} {cy : Nat → ClassId} {As : List Value} {ws wc : va_W} {A : Nat → Prop} {s : State} {H : Heap} {locs : List Loc} (hG : gk D cy s) (hP : va_P D vwCl ws H) (hD : va_D A ws) (hS : va_S A s.heap H locs) (hA : ∀ q, s.heap.size ≤ q → A q) (hZ : zx A s) (isC : List Nat) (hC : isC.map (fun i => ws[i]?) = wc.map some) (hn : va_nd isC = true) : PreS s H (prex D cy As H.size wc) As :=
  ⟨prex_blind, prex_go hG hP hD hS hA hZ isC hC hn⟩
set_option maxRecDepth 100000 in
theorem kw_rests : Cond.codeWith yL_rests cL_rests 6 (some .int) [(0, 12, 15, 13)] ∈ bigG := mg 1222 rfl rfl
theorem kls_rests : Cond.static yL_rests ∈ bigG := k_1221
theorem kll_rests : Cond.methodLink RL 105 yL_rests ∈ bigG := k_1220
theorem kli_rests : Cond.initialized RL ∈ bigG := k_0
theorem gLrests : GoodIn bigG (va_wsS RL 105 yL_rests (Cond.codeWith yL_rests cL_rests 6 (some .int) [(0, 12, 15, 13)] :: bigG)) := by
  refine gApp (fun w hw => ?_) (gB0 kw_rests)
  have hw : w ∈ bigG := by
    rcases List.mem_cons.mp hw with rfl | hw
    · exact kll_rests
    rcases List.mem_cons.mp hw with rfl | hw
    · exact kls_rests
    rcases List.mem_cons.mp hw with rfl | hw
    · exact kli_rests
    exact absurd hw List.not_mem_nil
  exact ⟨hw, bigG_good hw⟩
theorem no_t {a3 : Int32} {F : List Int32} (hF : F.length < 2 ^ 31) (h0 : ¬ a3 < 0) (h1 : a3 < nI F.length) (h : ∀ t, t < F.length → ¬ a3 = nI t) : False := by
  obtain ⟨j, hj, e⟩ := nI_of h0
  rw [e] at h1
  exact h j ((nI_ltI hj hF).mp h1) e
theorem okt {a3 : Int32} {F : List Int32} (hok : a3 = (-1) ∨ ∃ t, t < F.length ∧ a3 = nI t) (hne : ¬ a3 = (-1)) : ∃ t, t < F.length ∧ a3 = nI t := hok.resolve_left hne
theorem F_len (B L : Int32) : (outr B L 5).length ≤ 25 := outr_len B L 5
theorem okt_pos {a3 B L : Int32} (hok : a3 = (-1) ∨ ∃ t, t < (outr B L 5).length ∧ a3 = nI t) (hne : ¬ a3 = (-1)) : ¬ a3 < 0 := by
  obtain ⟨t, ht, e⟩ := okt hok hne
  have := F_len B L
  rw [e]
  exact nI_pos (by omega)
theorem okt_lt {a3 B L : Int32} (hok : a3 = (-1) ∨ ∃ t, t < (outr B L 5).length ∧ a3 = nI t) (hne : ¬ a3 = (-1)) : a3 < nI (outr B L 5).length := by
  obtain ⟨t, ht, e⟩ := okt hok hne
  have := F_len B L
  rw [e]
  exact nI_lt ht (by omega)
theorem okt_in {a3 B L : Int32} (hok : a3 = (-1) ∨ ∃ t, t < (outr B L 5).length ∧ a3 = nI t) (hne : ¬ a3 = (-1)) : vp_in a3 25 := by
  obtain ⟨t, ht, e⟩ := okt hok hne
  have := F_len B L
  rw [e]
  exact vp_in_nI (by omega) (by decide)
theorem okt_val {a3 B L : Int32} {g : Nat → Int32} (hg : hold g (outr B L 5)) (hok : a3 = (-1) ∨ ∃ t, t < (outr B L 5).length ∧ a3 = nI t) (hne : ¬ a3 = (-1)) : ∃ t, t < (outr B L 5).length ∧ a3 = nI t ∧ g a3.toNatClampNeg = (outr B L 5).getD t 0 := by
  obtain ⟨t, ht, e⟩ := okt hok hne
  have := F_len B L
  refine ⟨t, ht, e, ?_⟩
  rw [e, nI_clamp (by omega)]
  exact hg t ht
set_option maxHeartbeats 4000000 in
set_option maxRecDepth 100000 in
theorem c_X11_rests_ok (l : Launch) (D : va_G) (cy : Nat → ClassId) (h0 : Nat) (n_1 : Int32) (n_2 : Int32) (q_1 : Nat) (q_3 : Nat) (q_4 : Nat) (q_25 : Nat) (q_46 : Nat) (q_50 : Nat) (q_54 : Nat) (q_58 : Nat) (q_62 : Nat) (q_63 : Nat) (q_64 : Nat) (q_67 : Nat) (q_85 : Nat) (q_90 : Nat) (q_93 : Nat) (f0 : Nat → Int32) (a1 : Int32) (a2 : Int32) (a3 : Int32) (sz : Nat) (hb0 : ¬ a1 < 0) (hb1 : ¬ 20 < a1) (hl0 : ¬ a2 < 0) (hl1 : ¬ 9 < a2) (hok : a3 = (-1) ∨ ∃ t, t < (outr a1 a2 5).length ∧ a3 = nI t) : Met l yX11_rests (Cond.code yX11_rests cX11_rests 5 (some .int) :: bigG) ({ frames := 4, cells := 0, slots := 0, locals := 94 }) (pre D cy [.ref h0, .int a1, .int a2, .int a3] sz [(h0, .inr (11, [.ref q_1, .ref q_3, .ref q_4, .ref q_25, .ref q_46, .ref q_50, .ref q_54, .ref q_58, .ref q_62, .int n_1, .int n_2, .ref q_63, .ref q_64, .ref q_67, .ref q_85, .ref q_90, .ref q_93])), (q_93, .inl (cy 1, 25, .inl f0))]) (qi (fun r h => ∃ g : Nat → Int32, ((a3 = (-1) ∧ r = nI (outr a1 a2 5).length) ∨ (∃ t, t < (outr a1 a2 5).length ∧ a3 = nI t ∧ r = (outr a1 a2 5).getD t 0)) ∧ va_P D vwCl [(h0, .inr (11, [.ref q_1, .ref q_3, .ref q_4, .ref q_25, .ref q_46, .ref q_50, .ref q_54, .ref q_58, .ref q_62, .int n_1, .int n_2, .ref q_63, .ref q_64, .ref q_67, .ref q_85, .ref q_90, .ref q_93])), (q_93, .inl (cy 1, 25, .inl g))] h ∧ va_D (va_A [(h0, .inr (11, [.ref q_1, .ref q_3, .ref q_4, .ref q_25, .ref q_46, .ref q_50, .ref q_54, .ref q_58, .ref q_62, .int n_1, .int n_2, .ref q_63, .ref q_64, .ref q_67, .ref q_85, .ref q_90, .ref q_93])), (q_93, .inl (cy 1, 25, .inl f0))] sz) [(h0, .inr (11, [.ref q_1, .ref q_3, .ref q_4, .ref q_25, .ref q_46, .ref q_50, .ref q_54, .ref q_58, .ref q_62, .int n_1, .int n_2, .ref q_63, .ref q_64, .ref q_67, .ref q_85, .ref q_90, .ref q_93])), (q_93, .inl (cy 1, 25, .inl g))]) (va_A [(h0, .inr (11, [.ref q_1, .ref q_3, .ref q_4, .ref q_25, .ref q_46, .ref q_50, .ref q_54, .ref q_58, .ref q_62, .int n_1, .int n_2, .ref q_63, .ref q_64, .ref q_67, .ref q_85, .ref q_90, .ref q_93])), (q_93, .inl (cy 1, 25, .inl f0))] sz)) 0 0 (va_A [(h0, .inr (11, [.ref q_1, .ref q_3, .ref q_4, .ref q_25, .ref q_46, .ref q_50, .ref q_54, .ref q_58, .ref q_62, .int n_1, .int n_2, .ref q_63, .ref q_64, .ref q_67, .ref q_85, .ref q_90, .ref q_93])), (q_93, .inl (cy 1, 25, .inl f0))] sz) := by
  refine Met.ofW (cc := cX11_rests) (maxL := 5) (ret := (some .int)) (by decide) rfl ?_
  intro p e s m args below meth c s₁ B hml hv
  obtain ⟨rfl, hsz, hP, hG, hD0⟩ := hv
  have hx := B.exec
  have hb := B.bytes
  have hr := B.returns
  have hts := atoms_spec (ws := (Cond.code yX11_rests cX11_rests 5 (some .int) :: bigG)) B.pre
  have hg : ∀ w ∈ bigG, w.before ([.ref h0, .int a1, .int a2, .int a3] : List Value).toArray s = true := fun w h => hts w (List.mem_cons_of_mem _ h)
  have hown : s.vm.findClass RX11 = some m.cls := findClass_of_methodNamed B.named
  have hlocks := B.notSynchronized
  subst hsz
  have hD := hD0.self (sz := s.heap.size)
  generalize hAe : va_A [(h0, .inr (11, [.ref q_1, .ref q_3, .ref q_4, .ref q_25, .ref q_46, .ref q_50, .ref q_54, .ref q_58, .ref q_62, .int n_1, .int n_2, .ref q_63, .ref q_64, .ref q_67, .ref q_85, .ref q_90, .ref q_93])), (q_93, .inl (cy 1, 25, .inl f0))] s.heap.size = A at hD ⊢
  have hA : ∀ q : Nat, s.heap.size ≤ q → A q := fun q h => by rw [← hAe]; exact Or.inr h
  have hS : va_S A s.heap s.heap [] := va_S.rf
  have hP : va_P D vwCl [(h0, .inr (11, [.ref q_1, .ref q_3, .ref q_4, .ref q_25, .ref q_46, .ref q_50, .ref q_54, .ref q_58, .ref q_62, .int n_1, .int n_2, .ref q_63, .ref q_64, .ref q_67, .ref q_85, .ref q_90, .ref q_93])), (q_93, .inl (cy 1, 25, .inl f0))] s.heap := hP
  have hl := lv_entry ([.ref h0, .int a1, .int a2, .int a3]) (n := 5) (Nat.le_of_ble_eq_true rfl)
  rw [lg_entry_eq]
  generalize (lg_sl ([.ref h0, .int a1, .int a2, .int a3]) ++ List.replicate (5 - (lg_sl ([.ref h0, .int a1, .int a2, .int a3])).length) Slot.unset).toArray = ls at hl ⊢
  have hl : lv_has ls 5 [(0, .ref h0), (1, .int a1), (2, .int a2), (3, .int a3)] := hl
  refine w_nm (fun Q hQ => ?_)
  refine lv_iload_n hx hb dX11_rests_0 rfl (lv_at hl 1 rfl) ?_
  refine lv_if_lt (tgt := 20) hx hb dX11_rests_1 (by decide) (fun c_ => absurd c_ hb0) (fun _ => ?_)
  refine lv_iload_n hx hb dX11_rests_4 rfl (lv_at hl 1 rfl) ?_
  refine lv_bipush (v := 20) hx hb dX11_rests_5 (by decide) ?_
  refine lv_icmp_gt (tgt := 20) hx hb dX11_rests_7 (by decide) (fun c_ => absurd c_ hb1) (fun _ => ?_)
  refine lv_iload_n hx hb dX11_rests_10 rfl (lv_at hl 2 rfl) ?_
  refine lv_if_lt (tgt := 20) hx hb dX11_rests_11 (by decide) (fun c_ => absurd c_ hl0) (fun _ => ?_)
  refine lv_iload_n hx hb dX11_rests_14 rfl (lv_at hl 2 rfl) ?_
  refine lv_bipush (v := 9) hx hb dX11_rests_15 (by decide) ?_
  refine lv_icmp_le (tgt := 31) hx hb dX11_rests_17 (by decide) (fun _ => ?_) (fun c_ => absurd (by have q0 := hl0; have q1 := hl1; simp only [lt_ti, le_ti, eq_ti, ti_0, ti_9] at q0 q1 ⊢; omega) c_)
  refine lv_aload_n hx hb dX11_rests_31 rfl (lv_at hl 0 rfl) ?_
  refine lv_iload_n hx hb dX11_rests_32 rfl (lv_at hl 1 rfl) ?_
  refine lv_iload_n hx hb dX11_rests_33 rfl (lv_at hl 2 rfl) ?_
  refine x_i (wr := []) hP hD hS hA [0, 1] [] rfl rfl (by decide) (by decide) (va_runV (As := [.int a1, .int a2]) (rest := []) ⟨hx, hb, hml, hown, hts⟩ (c_X11_findRests l D cy h0 n_1 n_2 q_1 q_3 q_4 q_25 q_46 q_50 q_54 q_58 q_62 q_63 q_64 q_67 q_85 q_90 q_93 f0 a1 a2 s.heap.size) (cwV 2 hts (gV km_X11_282 ki_X11_findRests kz_X11_findRests kn_X11 kc_X11_findRests) rfl rfl rfl (by decide +kernel) ⟨(Nat.le_of_ble_eq_true rfl), (Nat.le_of_ble_eq_true rfl)⟩) (preV hG hP hD [0, 1] rfl (by decide) 11 0 rfl rfl) rfl rfl hl.1 rfl (lv_room (Nat.le_of_ble_eq_true rfl)) dX11_rests_34 ⟨(Nat.le_of_ble_eq_true rfl), (Nat.le_of_ble_eq_true rfl)⟩) (fun r_1 H locs hB hj hS => ?_)
  obtain ⟨g_2, hres, hp_3, hP1, hD1⟩ := hB
  subst hres
  obtain ⟨hP, hD⟩ := hj _ hP1 hD1
  have hP : va_P D vwCl [(h0, .inr (11, [.ref q_1, .ref q_3, .ref q_4, .ref q_25, .ref q_46, .ref q_50, .ref q_54, .ref q_58, .ref q_62, .int n_1, .int n_2, .ref q_63, .ref q_64, .ref q_67, .ref q_85, .ref q_90, .ref q_93])), (q_93, .inl (cy 1, 25, .inl g_2))] H := hP
  have hD : va_D A [(h0, .inr (11, [.ref q_1, .ref q_3, .ref q_4, .ref q_25, .ref q_46, .ref q_50, .ref q_54, .ref q_58, .ref q_62, .int n_1, .int n_2, .ref q_63, .ref q_64, .ref q_67, .ref q_85, .ref q_90, .ref q_93])), (q_93, .inl (cy 1, 25, .inl g_2))] := hD
  refine lv_topi (fun x4_4 ex4_4 => ?_)
  refine lv_istore (lv' := [(4, .int x4_4), (0, .ref h0), (1, .int a1), (2, .int a2), (3, .int a3)]) hx hb dX11_rests_37 hl (by decide) rfl (fun ls hl => ?_)
  refine lv_iload_n hx hb dX11_rests_39 rfl (lv_at hl 4 rfl) ?_
  refine lv_iconst (v := (-1)) hx hb dX11_rests_40 (by decide) ?_
  refine lv_icmp_ne (tgt := 47) hx hb dX11_rests_41 (by decide) (fun c_5 => ?_) (fun c_5 => ?_)
  · refine lv_iload_n hx hb dX11_rests_47 rfl (lv_at hl 4 rfl) ?_
    refine lv_if_lt (tgt := 57) hx hb dX11_rests_48 (by decide) (fun c_ => absurd c_ (okt_pos hok c_5)) (fun _ => ?_)
    refine lv_iload_n hx hb dX11_rests_51 rfl (lv_at hl 4 rfl) ?_
    refine lv_iload hx hb dX11_rests_52 (lv_at hl 0 rfl) ?_
    refine lv_icmp_lt (tgt := 68) hx hb dX11_rests_54 (by decide) (fun _ => ?_) (fun c_ => absurd (by rw [ex4_4]; exact okt_lt hok c_5) c_)
    refine lv_aload_n hx hb dX11_rests_68 rfl (lv_at hl 1 rfl) ?_
    refine va_get (D := D) (ci := 11) (v := .ref q_93) (C := RX11) (T := TX11) (N := 17) hx hb hts (inC ibX11) hown hG.1 hP 0 rfl rfl 16 (by decide) (hg _ k_436) (fun _ h9 => h9) rfl dX11_rests_69 ?_
    refine lv_iload_n hx hb dX11_rests_72 rfl (lv_at hl 4 rfl) ?_
    refine m_iald (v := g_2 a3.toNatClampNeg) hx hb hG hP 1 rfl (okt_in hok c_5) dX11_rests_73 rfl ?_
    have hP9 := hP.sub (ws' := [(h0, .inr (11, [.ref q_1, .ref q_3, .ref q_4, .ref q_25, .ref q_46, .ref q_50, .ref q_54, .ref q_58, .ref q_62, .int n_1, .int n_2, .ref q_63, .ref q_64, .ref q_67, .ref q_85, .ref q_90, .ref q_93])), (q_93, .inl (cy 1, 25, .inl g_2))]) [0, 1] rfl
    have hD9 := hD.sub (ws' := [(h0, .inr (11, [.ref q_1, .ref q_3, .ref q_4, .ref q_25, .ref q_46, .ref q_50, .ref q_54, .ref q_58, .ref q_62, .int n_1, .int n_2, .ref q_63, .ref q_64, .ref q_67, .ref q_85, .ref q_90, .ref q_93])), (q_93, .inl (cy 1, 25, .inl g_2))]) [0, 1] (by decide) rfl
    subst hQ
    exact W.iret (v := g_2 a3.toNatClampNeg) hx hb hr (fun t ht hW => qi_mk (by rw [ht]; exact ⟨g_2, (Or.inr (okt_val hp_3 hok c_5)), hP9, hD9⟩) (hS.F ht)) hS.2.2 dX11_rests_74
  · refine lv_iload hx hb dX11_rests_44 (lv_at hl 0 rfl) ?_
    have hP9 := hP.sub (ws' := [(h0, .inr (11, [.ref q_1, .ref q_3, .ref q_4, .ref q_25, .ref q_46, .ref q_50, .ref q_54, .ref q_58, .ref q_62, .int n_1, .int n_2, .ref q_63, .ref q_64, .ref q_67, .ref q_85, .ref q_90, .ref q_93])), (q_93, .inl (cy 1, 25, .inl g_2))]) [0, 1] rfl
    have hD9 := hD.sub (ws' := [(h0, .inr (11, [.ref q_1, .ref q_3, .ref q_4, .ref q_25, .ref q_46, .ref q_50, .ref q_54, .ref q_58, .ref q_62, .int n_1, .int n_2, .ref q_63, .ref q_64, .ref q_67, .ref q_85, .ref q_90, .ref q_93])), (q_93, .inl (cy 1, 25, .inl g_2))]) [0, 1] (by decide) rfl
    subst hQ
    exact W.iret (v := x4_4) hx hb hr (fun t ht hW => qi_mk (by rw [ht]; exact ⟨g_2, (Or.inl ⟨c_5, by rw [ex4_4]⟩), hP9, hD9⟩) (hS.F ht)) hS.2.2 dX11_rests_46
set_option maxHeartbeats 4000000 in
set_option maxRecDepth 100000 in
theorem cx_X11_rests (l : Launch) (hlt : l.stackTraces = false) (D : va_G) (cy : Nat → ClassId) (h0 : Nat) (n_1 : Int32) (n_2 : Int32) (q_1 : Nat) (q_3 : Nat) (q_4 : Nat) (q_25 : Nat) (q_46 : Nat) (q_50 : Nat) (q_54 : Nat) (q_58 : Nat) (q_62 : Nat) (q_63 : Nat) (q_64 : Nat) (q_67 : Nat) (q_85 : Nat) (q_90 : Nat) (q_93 : Nat) (f0 : Nat → Int32) (a1 : Int32) (a2 : Int32) (a3 : Int32) (sz : Nat) (hthrow : a1 < 0 ∨ 20 < a1 ∨ a2 < 0 ∨ 9 < a2 ∨ (¬ a3 = (-1) ∧ ∀ t, t < (outr a1 a2 5).length → ¬ a3 = nI t)) : vx_Met l yX11_rests (Cond.code yX11_rests cX11_rests 5 (some .int) :: bigG) ({ frames := 7, cells := 1, slots := 6, locals := 120 }) (prex D cy [.ref h0, .int a1, .int a2, .int a3] sz [(h0, .inr (11, [.ref q_1, .ref q_3, .ref q_4, .ref q_25, .ref q_46, .ref q_50, .ref q_54, .ref q_58, .ref q_62, .int n_1, .int n_2, .ref q_63, .ref q_64, .ref q_67, .ref q_85, .ref q_90, .ref q_93])), (q_93, .inl (cy 1, 25, .inl f0))]) (va_Qi (S := Int32) (fun _ _ => False) (fun _ _ => True) (va_A [(h0, .inr (11, [.ref q_1, .ref q_3, .ref q_4, .ref q_25, .ref q_46, .ref q_50, .ref q_54, .ref q_58, .ref q_62, .int n_1, .int n_2, .ref q_63, .ref q_64, .ref q_67, .ref q_85, .ref q_90, .ref q_93])), (q_93, .inl (cy 1, 25, .inl f0))] sz)) (vx_X (S := Unit) (fun _ => True) (fun E _ t => E = NSE ∧ ∃ g : Nat → Int32, va_P D vwCl [(h0, .inr (11, [.ref q_1, .ref q_3, .ref q_4, .ref q_25, .ref q_46, .ref q_50, .ref q_54, .ref q_58, .ref q_62, .int n_1, .int n_2, .ref q_63, .ref q_64, .ref q_67, .ref q_85, .ref q_90, .ref q_93])), (q_93, .inl (cy 1, 25, .inl g))] t.heap) (va_A [(h0, .inr (11, [.ref q_1, .ref q_3, .ref q_4, .ref q_25, .ref q_46, .ref q_50, .ref q_54, .ref q_58, .ref q_62, .int n_1, .int n_2, .ref q_63, .ref q_64, .ref q_67, .ref q_85, .ref q_90, .ref q_93])), (q_93, .inl (cy 1, 25, .inl f0))] sz)) 1 6 (va_A [(h0, .inr (11, [.ref q_1, .ref q_3, .ref q_4, .ref q_25, .ref q_46, .ref q_50, .ref q_54, .ref q_58, .ref q_62, .int n_1, .int n_2, .ref q_63, .ref q_64, .ref q_67, .ref q_85, .ref q_90, .ref q_93])), (q_93, .inl (cy 1, 25, .inl f0))] sz) := by
  refine vx_ofW (cc := cX11_rests) (maxL := 5) (ret := (some .int)) (by decide) rfl ?_
  intro p e s m args below meth c s₁ B hml htab hv
  obtain ⟨rfl, hsz, hP, hG, hD0, hZ⟩ := hv
  have hx := B.exec
  have hb := B.bytes
  have hr := B.returns
  have hts := atoms_spec (ws := (Cond.code yX11_rests cX11_rests 5 (some .int) :: bigG)) B.pre
  have hg : ∀ w ∈ bigG, w.before ([.ref h0, .int a1, .int a2, .int a3] : List Value).toArray s = true := fun w h => hts w (List.mem_cons_of_mem _ h)
  have hown : s.vm.findClass RX11 = some m.cls := findClass_of_methodNamed B.named
  have hlocks := B.notSynchronized
  subst hsz
  have hD := hD0.self (sz := s.heap.size)
  generalize hAe : va_A [(h0, .inr (11, [.ref q_1, .ref q_3, .ref q_4, .ref q_25, .ref q_46, .ref q_50, .ref q_54, .ref q_58, .ref q_62, .int n_1, .int n_2, .ref q_63, .ref q_64, .ref q_67, .ref q_85, .ref q_90, .ref q_93])), (q_93, .inl (cy 1, 25, .inl f0))] s.heap.size = A at hD hZ ⊢
  have hA : ∀ q : Nat, s.heap.size ≤ q → A q := fun q h => by rw [← hAe]; exact Or.inr h
  have hS : va_S A s.heap s.heap [] := va_S.rf
  have hP : va_P D vwCl [(h0, .inr (11, [.ref q_1, .ref q_3, .ref q_4, .ref q_25, .ref q_46, .ref q_50, .ref q_54, .ref q_58, .ref q_62, .int n_1, .int n_2, .ref q_63, .ref q_64, .ref q_67, .ref q_85, .ref q_90, .ref q_93])), (q_93, .inl (cy 1, 25, .inl f0))] s.heap := hP
  have hl := lv_entry ([.ref h0, .int a1, .int a2, .int a3]) (n := 5) (Nat.le_of_ble_eq_true rfl)
  rw [lg_entry_eq]
  generalize (lg_sl ([.ref h0, .int a1, .int a2, .int a3]) ++ List.replicate (5 - (lg_sl ([.ref h0, .int a1, .int a2, .int a3])).length) Slot.unset).toArray = ls at hl ⊢
  have hl : lv_has ls 5 [(0, .ref h0), (1, .int a1), (2, .int a2), (3, .int a3)] := hl
  refine w_nm (fun Q hQ => ?_)
  refine lv_iload_n hx hb dX11_rests_0 rfl (lv_at hl 1 rfl) ?_
  refine lv_if_lt (tgt := 20) hx hb dX11_rests_1 (by decide) (fun c_1 => ?_) (fun c_1 => ?_)
  · obtain ⟨sa, hstr⟩ := hZ.2.2.1
    subst hQ
    exact vn_throwSW (own := RX11) (cls := NSE) (YY := "java/lang/RuntimeException") (text := "no such bites or loss") (names := ["java/lang/Exception"]) (A := A) hx hb hlt hown (by decide +kernel) (by decide +kernel) (by decide +kernel) (hg _ k_1228) (hg _ k_26) hstr (vx_hat (fun w h => hg w (xA_good w h)) xB_is (fun w h => va_Nw.use (xB_tab w h) (hZ.2.2.2.2 w h))) xA_ot hZ.1 hZ.2.1 hS (hl.1.trans hml.symm) dX11_rests_20 dX11_rests_23 dX11_rests_24 dX11_rests_27 dX11_rests_30 (fun x h => (htab x h).elim) (Nat.le_of_ble_eq_true rfl) (Nat.le_of_ble_eq_true rfl) (Nat.le_of_ble_eq_true rfl) (Nat.le_of_ble_eq_true rfl) hlocks (fun t ha h1 h2 => ⟨(), trivial, ⟨rfl, _, hP.kept (fun k q hk => h2 q.1 (hP k q hk).lt)⟩, Nat.le_trans hS.1 h1, fun q hq hn => (h2 q (Nat.lt_of_lt_of_le hq hS.1)).trans (hS.2.1 q hq hn)⟩) hS.2.2 (Nat.le_of_ble_eq_true rfl) (Nat.le_of_ble_eq_true rfl)
  · refine lv_iload_n hx hb dX11_rests_4 rfl (lv_at hl 1 rfl) ?_
    refine lv_bipush (v := 20) hx hb dX11_rests_5 (by decide) ?_
    refine lv_icmp_gt (tgt := 20) hx hb dX11_rests_7 (by decide) (fun c_2 => ?_) (fun c_2 => ?_)
    · obtain ⟨sa, hstr⟩ := hZ.2.2.1
      subst hQ
      exact vn_throwSW (own := RX11) (cls := NSE) (YY := "java/lang/RuntimeException") (text := "no such bites or loss") (names := ["java/lang/Exception"]) (A := A) hx hb hlt hown (by decide +kernel) (by decide +kernel) (by decide +kernel) (hg _ k_1228) (hg _ k_26) hstr (vx_hat (fun w h => hg w (xA_good w h)) xB_is (fun w h => va_Nw.use (xB_tab w h) (hZ.2.2.2.2 w h))) xA_ot hZ.1 hZ.2.1 hS (hl.1.trans hml.symm) dX11_rests_20 dX11_rests_23 dX11_rests_24 dX11_rests_27 dX11_rests_30 (fun x h => (htab x h).elim) (Nat.le_of_ble_eq_true rfl) (Nat.le_of_ble_eq_true rfl) (Nat.le_of_ble_eq_true rfl) (Nat.le_of_ble_eq_true rfl) hlocks (fun t ha h1 h2 => ⟨(), trivial, ⟨rfl, _, hP.kept (fun k q hk => h2 q.1 (hP k q hk).lt)⟩, Nat.le_trans hS.1 h1, fun q hq hn => (h2 q (Nat.lt_of_lt_of_le hq hS.1)).trans (hS.2.1 q hq hn)⟩) hS.2.2 (Nat.le_of_ble_eq_true rfl) (Nat.le_of_ble_eq_true rfl)
    · refine lv_iload_n hx hb dX11_rests_10 rfl (lv_at hl 2 rfl) ?_
      refine lv_if_lt (tgt := 20) hx hb dX11_rests_11 (by decide) (fun c_3 => ?_) (fun c_3 => ?_)
      · obtain ⟨sa, hstr⟩ := hZ.2.2.1
        subst hQ
        exact vn_throwSW (own := RX11) (cls := NSE) (YY := "java/lang/RuntimeException") (text := "no such bites or loss") (names := ["java/lang/Exception"]) (A := A) hx hb hlt hown (by decide +kernel) (by decide +kernel) (by decide +kernel) (hg _ k_1228) (hg _ k_26) hstr (vx_hat (fun w h => hg w (xA_good w h)) xB_is (fun w h => va_Nw.use (xB_tab w h) (hZ.2.2.2.2 w h))) xA_ot hZ.1 hZ.2.1 hS (hl.1.trans hml.symm) dX11_rests_20 dX11_rests_23 dX11_rests_24 dX11_rests_27 dX11_rests_30 (fun x h => (htab x h).elim) (Nat.le_of_ble_eq_true rfl) (Nat.le_of_ble_eq_true rfl) (Nat.le_of_ble_eq_true rfl) (Nat.le_of_ble_eq_true rfl) hlocks (fun t ha h1 h2 => ⟨(), trivial, ⟨rfl, _, hP.kept (fun k q hk => h2 q.1 (hP k q hk).lt)⟩, Nat.le_trans hS.1 h1, fun q hq hn => (h2 q (Nat.lt_of_lt_of_le hq hS.1)).trans (hS.2.1 q hq hn)⟩) hS.2.2 (Nat.le_of_ble_eq_true rfl) (Nat.le_of_ble_eq_true rfl)
      · refine lv_iload_n hx hb dX11_rests_14 rfl (lv_at hl 2 rfl) ?_
        refine lv_bipush (v := 9) hx hb dX11_rests_15 (by decide) ?_
        refine lv_icmp_le (tgt := 31) hx hb dX11_rests_17 (by decide) (fun c_4 => ?_) (fun c_4 => ?_)
        · refine lv_aload_n hx hb dX11_rests_31 rfl (lv_at hl 0 rfl) ?_
          refine lv_iload_n hx hb dX11_rests_32 rfl (lv_at hl 1 rfl) ?_
          refine lv_iload_n hx hb dX11_rests_33 rfl (lv_at hl 2 rfl) ?_
          refine x_i (wr := []) hP hD hS hA [0, 1] [] rfl rfl (by decide) (by decide) (va_runV (As := [.int a1, .int a2]) (rest := []) ⟨hx, hb, hml, hown, hts⟩ (c_X11_findRests l D cy h0 n_1 n_2 q_1 q_3 q_4 q_25 q_46 q_50 q_54 q_58 q_62 q_63 q_64 q_67 q_85 q_90 q_93 f0 a1 a2 s.heap.size) (cwV 2 hts (gV km_X11_282 ki_X11_findRests kz_X11_findRests kn_X11 kc_X11_findRests) rfl rfl rfl (by decide +kernel) ⟨(Nat.le_of_ble_eq_true rfl), (Nat.le_of_ble_eq_true rfl)⟩) (preV hG hP hD [0, 1] rfl (by decide) 11 0 rfl rfl) rfl rfl hl.1 rfl (lv_room (Nat.le_of_ble_eq_true rfl)) dX11_rests_34 ⟨(Nat.le_of_ble_eq_true rfl), (Nat.le_of_ble_eq_true rfl)⟩) (fun r_5 H locs hB hj hS => ?_)
          obtain ⟨g_6, hres, hp_7, hP1, hD1⟩ := hB
          subst hres
          obtain ⟨hP, hD⟩ := hj _ hP1 hD1
          have hP : va_P D vwCl [(h0, .inr (11, [.ref q_1, .ref q_3, .ref q_4, .ref q_25, .ref q_46, .ref q_50, .ref q_54, .ref q_58, .ref q_62, .int n_1, .int n_2, .ref q_63, .ref q_64, .ref q_67, .ref q_85, .ref q_90, .ref q_93])), (q_93, .inl (cy 1, 25, .inl g_6))] H := hP
          have hD : va_D A [(h0, .inr (11, [.ref q_1, .ref q_3, .ref q_4, .ref q_25, .ref q_46, .ref q_50, .ref q_54, .ref q_58, .ref q_62, .int n_1, .int n_2, .ref q_63, .ref q_64, .ref q_67, .ref q_85, .ref q_90, .ref q_93])), (q_93, .inl (cy 1, 25, .inl g_6))] := hD
          refine lv_topi (fun x4_8 ex4_8 => ?_)
          refine lv_istore (lv' := [(4, .int x4_8), (0, .ref h0), (1, .int a1), (2, .int a2), (3, .int a3)]) hx hb dX11_rests_37 hl (by decide) rfl (fun ls hl => ?_)
          refine lv_iload_n hx hb dX11_rests_39 rfl (lv_at hl 4 rfl) ?_
          refine lv_iconst (v := (-1)) hx hb dX11_rests_40 (by decide) ?_
          refine lv_icmp_ne (tgt := 47) hx hb dX11_rests_41 (by decide) (fun c_9 => ?_) (fun c_9 => ?_)
          · refine lv_iload_n hx hb dX11_rests_47 rfl (lv_at hl 4 rfl) ?_
            refine lv_if_lt (tgt := 57) hx hb dX11_rests_48 (by decide) (fun c_10 => ?_) (fun c_10 => ?_)
            · obtain ⟨sa, hstr⟩ := hZ.2.2.2.1
              subst hQ
              exact vn_throwSW (own := RX11) (cls := NSE) (YY := "java/lang/RuntimeException") (text := "no such rest") (names := ["java/lang/Exception"]) (A := A) hx hb hlt hown (by decide +kernel) (by decide +kernel) (by decide +kernel) (hg _ k_1228) (hg _ k_26) hstr (vx_hat (fun w h => hg w (xA_good w h)) xB_is (fun w h => va_Nw.use (xB_tab w h) (hZ.2.2.2.2 w h))) xA_ot hZ.1 hZ.2.1 hS (hl.1.trans hml.symm) dX11_rests_57 dX11_rests_60 dX11_rests_61 dX11_rests_64 dX11_rests_67 (fun x h => (htab x h).elim) (Nat.le_of_ble_eq_true rfl) (Nat.le_of_ble_eq_true rfl) (Nat.le_of_ble_eq_true rfl) (Nat.le_of_ble_eq_true rfl) hlocks (fun t ha h1 h2 => ⟨(), trivial, ⟨rfl, _, hP.kept (fun k q hk => h2 q.1 (hP k q hk).lt)⟩, Nat.le_trans hS.1 h1, fun q hq hn => (h2 q (Nat.lt_of_lt_of_le hq hS.1)).trans (hS.2.1 q hq hn)⟩) hS.2.2 (Nat.le_of_ble_eq_true rfl) (Nat.le_of_ble_eq_true rfl)
            · refine lv_iload_n hx hb dX11_rests_51 rfl (lv_at hl 4 rfl) ?_
              refine lv_iload hx hb dX11_rests_52 (lv_at hl 0 rfl) ?_
              refine lv_icmp_lt (tgt := 68) hx hb dX11_rests_54 (by decide) (fun c_11 => ?_) (fun c_11 => ?_)
              · exact absurd (show False from hthrow.elim c_1 (fun h => h.elim c_2 (fun h => h.elim c_3 (fun h => h.elim (le_nlt c_4) (fun h => no_t (by have := F_len a1 a2; omega) c_10 (by rw [← ex4_8]; exact c_11) h.2))))) id
              · obtain ⟨sa, hstr⟩ := hZ.2.2.2.1
                subst hQ
                exact vn_throwSW (own := RX11) (cls := NSE) (YY := "java/lang/RuntimeException") (text := "no such rest") (names := ["java/lang/Exception"]) (A := A) hx hb hlt hown (by decide +kernel) (by decide +kernel) (by decide +kernel) (hg _ k_1228) (hg _ k_26) hstr (vx_hat (fun w h => hg w (xA_good w h)) xB_is (fun w h => va_Nw.use (xB_tab w h) (hZ.2.2.2.2 w h))) xA_ot hZ.1 hZ.2.1 hS (hl.1.trans hml.symm) dX11_rests_57 dX11_rests_60 dX11_rests_61 dX11_rests_64 dX11_rests_67 (fun x h => (htab x h).elim) (Nat.le_of_ble_eq_true rfl) (Nat.le_of_ble_eq_true rfl) (Nat.le_of_ble_eq_true rfl) (Nat.le_of_ble_eq_true rfl) hlocks (fun t ha h1 h2 => ⟨(), trivial, ⟨rfl, _, hP.kept (fun k q hk => h2 q.1 (hP k q hk).lt)⟩, Nat.le_trans hS.1 h1, fun q hq hn => (h2 q (Nat.lt_of_lt_of_le hq hS.1)).trans (hS.2.1 q hq hn)⟩) hS.2.2 (Nat.le_of_ble_eq_true rfl) (Nat.le_of_ble_eq_true rfl)
          · exact absurd (show False from hthrow.elim c_1 (fun h => h.elim c_2 (fun h => h.elim c_3 (fun h => h.elim (le_nlt c_4) (fun h => h.1 c_9))))) id
        · obtain ⟨sa, hstr⟩ := hZ.2.2.1
          subst hQ
          exact vn_throwSW (own := RX11) (cls := NSE) (YY := "java/lang/RuntimeException") (text := "no such bites or loss") (names := ["java/lang/Exception"]) (A := A) hx hb hlt hown (by decide +kernel) (by decide +kernel) (by decide +kernel) (hg _ k_1228) (hg _ k_26) hstr (vx_hat (fun w h => hg w (xA_good w h)) xB_is (fun w h => va_Nw.use (xB_tab w h) (hZ.2.2.2.2 w h))) xA_ot hZ.1 hZ.2.1 hS (hl.1.trans hml.symm) dX11_rests_20 dX11_rests_23 dX11_rests_24 dX11_rests_27 dX11_rests_30 (fun x h => (htab x h).elim) (Nat.le_of_ble_eq_true rfl) (Nat.le_of_ble_eq_true rfl) (Nat.le_of_ble_eq_true rfl) (Nat.le_of_ble_eq_true rfl) hlocks (fun t ha h1 h2 => ⟨(), trivial, ⟨rfl, _, hP.kept (fun k q hk => h2 q.1 (hP k q hk).lt)⟩, Nat.le_trans hS.1 h1, fun q hq hn => (h2 q (Nat.lt_of_lt_of_le hq hS.1)).trans (hS.2.1 q hq hn)⟩) hS.2.2 (Nat.le_of_ble_eq_true rfl) (Nat.le_of_ble_eq_true rfl)
set_option maxHeartbeats 4000000 in
set_option maxRecDepth 100000 in
theorem c_L_rests_ok (l : Launch) (D : va_G) (cy : Nat → ClassId) (h0 : Nat) (n_1 : Int32) (n_2 : Int32) (q_1 : Nat) (q_3 : Nat) (q_4 : Nat) (q_25 : Nat) (q_46 : Nat) (q_50 : Nat) (q_54 : Nat) (q_58 : Nat) (q_62 : Nat) (q_63 : Nat) (q_64 : Nat) (q_67 : Nat) (q_85 : Nat) (q_90 : Nat) (q_93 : Nat) (q_800 : Nat) (f0 : Nat → Int32) (o0 : Nat → Int64) (a1 : Int32) (a2 : Int32) (a3 : Int32) (sz : Nat) (hb0 : ¬ a1 < 0) (hb1 : ¬ 20 < a1) (hl0 : ¬ a2 < 0) (hl1 : ¬ 9 < a2) (hok : a3 = (-1) ∨ ∃ t, t < (outr a1 a2 5).length ∧ a3 = nI t) : Met l yL_rests (Cond.codeWith yL_rests cL_rests 6 (some .int) [(0, 12, 15, 13)] :: bigG) ({ frames := 5, cells := 0, slots := 0, locals := 118 }) (pre D cy [.ref h0, .int a1, .int a2, .int a3, .ref q_800] sz [(h0, .inr (11, [.ref q_1, .ref q_3, .ref q_4, .ref q_25, .ref q_46, .ref q_50, .ref q_54, .ref q_58, .ref q_62, .int n_1, .int n_2, .ref q_63, .ref q_64, .ref q_67, .ref q_85, .ref q_90, .ref q_93])), (q_93, .inl (cy 1, 25, .inl f0)), (q_800, .inl (cy 2, 1, .inr (.inl o0)))]) (qi (fun r h => ∃ (v : Int32) (g : Nat → Int32), r = 0 ∧ ((a3 = (-1) ∧ v = nI (outr a1 a2 5).length) ∨ (∃ t, t < (outr a1 a2 5).length ∧ a3 = nI t ∧ v = (outr a1 a2 5).getD t 0)) ∧ va_P D vwCl [(h0, .inr (11, [.ref q_1, .ref q_3, .ref q_4, .ref q_25, .ref q_46, .ref q_50, .ref q_54, .ref q_58, .ref q_62, .int n_1, .int n_2, .ref q_63, .ref q_64, .ref q_67, .ref q_85, .ref q_90, .ref q_93])), (q_93, .inl (cy 1, 25, .inl g)), (q_800, .inl (cy 2, 1, .inr (.inl (vp_updL o0 0 v.toInt64))))] h ∧ va_D (va_A [(h0, .inr (11, [.ref q_1, .ref q_3, .ref q_4, .ref q_25, .ref q_46, .ref q_50, .ref q_54, .ref q_58, .ref q_62, .int n_1, .int n_2, .ref q_63, .ref q_64, .ref q_67, .ref q_85, .ref q_90, .ref q_93])), (q_93, .inl (cy 1, 25, .inl f0)), (q_800, .inl (cy 2, 1, .inr (.inl o0)))] sz) [(h0, .inr (11, [.ref q_1, .ref q_3, .ref q_4, .ref q_25, .ref q_46, .ref q_50, .ref q_54, .ref q_58, .ref q_62, .int n_1, .int n_2, .ref q_63, .ref q_64, .ref q_67, .ref q_85, .ref q_90, .ref q_93])), (q_93, .inl (cy 1, 25, .inl g)), (q_800, .inl (cy 2, 1, .inr (.inl (vp_updL o0 0 v.toInt64))))]) (va_A [(h0, .inr (11, [.ref q_1, .ref q_3, .ref q_4, .ref q_25, .ref q_46, .ref q_50, .ref q_54, .ref q_58, .ref q_62, .int n_1, .int n_2, .ref q_63, .ref q_64, .ref q_67, .ref q_85, .ref q_90, .ref q_93])), (q_93, .inl (cy 1, 25, .inl f0)), (q_800, .inl (cy 2, 1, .inr (.inl o0)))] sz)) 0 0 (va_A [(h0, .inr (11, [.ref q_1, .ref q_3, .ref q_4, .ref q_25, .ref q_46, .ref q_50, .ref q_54, .ref q_58, .ref q_62, .int n_1, .int n_2, .ref q_63, .ref q_64, .ref q_67, .ref q_85, .ref q_90, .ref q_93])), (q_93, .inl (cy 1, 25, .inl f0)), (q_800, .inl (cy 2, 1, .inr (.inl o0)))] sz) := by
  refine va_MetW (hh := [(0, 12, 15, 13)]) (cc := cL_rests) (maxL := 6) (ret := (some .int)) (by decide) rfl ?_
  intro p e s m args below meth c s₁ B hml hv
  obtain ⟨rfl, hsz, hP, hG, hD0⟩ := hv
  have hx := B.exec
  have hb := B.bytes
  have hr := B.returns
  have hts := atoms_spec (ws := (Cond.codeWith yL_rests cL_rests 6 (some .int) [(0, 12, 15, 13)] :: bigG)) B.pre
  have hg : ∀ w ∈ bigG, w.before ([.ref h0, .int a1, .int a2, .int a3, .ref q_800] : List Value).toArray s = true := fun w h => hts w (List.mem_cons_of_mem _ h)
  have hown : s.vm.findClass RL = some m.cls := findClass_of_methodNamed B.named
  have hlocks := B.notSynchronized
  subst hsz
  have hD := hD0.self (sz := s.heap.size)
  generalize hAe : va_A [(h0, .inr (11, [.ref q_1, .ref q_3, .ref q_4, .ref q_25, .ref q_46, .ref q_50, .ref q_54, .ref q_58, .ref q_62, .int n_1, .int n_2, .ref q_63, .ref q_64, .ref q_67, .ref q_85, .ref q_90, .ref q_93])), (q_93, .inl (cy 1, 25, .inl f0)), (q_800, .inl (cy 2, 1, .inr (.inl o0)))] s.heap.size = A at hD ⊢
  have hA : ∀ q : Nat, s.heap.size ≤ q → A q := fun q h => by rw [← hAe]; exact Or.inr h
  have hS : va_S A s.heap s.heap [] := va_S.rf
  have hP : va_P D vwCl [(h0, .inr (11, [.ref q_1, .ref q_3, .ref q_4, .ref q_25, .ref q_46, .ref q_50, .ref q_54, .ref q_58, .ref q_62, .int n_1, .int n_2, .ref q_63, .ref q_64, .ref q_67, .ref q_85, .ref q_90, .ref q_93])), (q_93, .inl (cy 1, 25, .inl f0)), (q_800, .inl (cy 2, 1, .inr (.inl o0)))] s.heap := hP
  have hl := lv_entry ([.ref h0, .int a1, .int a2, .int a3, .ref q_800]) (n := 6) (Nat.le_of_ble_eq_true rfl)
  rw [lg_entry_eq]
  generalize (lg_sl ([.ref h0, .int a1, .int a2, .int a3, .ref q_800]) ++ List.replicate (6 - (lg_sl ([.ref h0, .int a1, .int a2, .int a3, .ref q_800])).length) Slot.unset).toArray = ls at hl ⊢
  have hl : lv_has ls 6 [(0, .ref h0), (1, .int a1), (2, .int a2), (3, .int a3), (4, .ref q_800)] := hl
  refine w_nm (fun Q hQ => ?_)
  refine lv_aload hx hb dL_rests_0 (lv_at hl 4 rfl) ?_
  refine lv_iconst (v := 0) hx hb dL_rests_2 (by decide) ?_
  refine lv_aload_n hx hb dL_rests_3 rfl (lv_at hl 0 rfl) ?_
  refine lv_iload_n hx hb dL_rests_4 rfl (lv_at hl 1 rfl) ?_
  refine lv_iload_n hx hb dL_rests_5 rfl (lv_at hl 2 rfl) ?_
  refine lv_iload_n hx hb dL_rests_6 rfl (lv_at hl 3 rfl) ?_
  refine x_i (wr := [(q_800, .inl (cy 2, 1, .inr (.inl o0)))]) hP hD hS hA [0, 1] [2] rfl rfl (by decide) (by decide) (va_runV (As := [.int a1, .int a2, .int a3]) (rest := [.int 0, .ref q_800]) ⟨hx, hb, hml, hown, hts⟩ (c_X11_rests_ok l D cy h0 n_1 n_2 q_1 q_3 q_4 q_25 q_46 q_50 q_54 q_58 q_62 q_63 q_64 q_67 q_85 q_90 q_93 f0 a1 a2 a3 s.heap.size hb0 hb1 hl0 hl1 hok) (cwV 3 hts (gV km_L_7 ki_X11_rests kz_X11_rests kn_X11 kc_X11_rests) rfl rfl rfl (by decide +kernel) ⟨(Nat.le_of_ble_eq_true rfl), (Nat.le_of_ble_eq_true rfl)⟩) (preV hG hP hD [0, 1] rfl (by decide) 11 0 rfl rfl) rfl rfl hl.1 rfl (lv_room (Nat.le_of_ble_eq_true rfl)) dL_rests_7 ⟨(Nat.le_of_ble_eq_true rfl), (Nat.le_of_ble_eq_true rfl)⟩) (fun r_1 H locs hB hj hS => ?_)
  obtain ⟨g_2, hp_2, hP1, hD1⟩ := hB
  obtain ⟨hP, hD⟩ := hj _ hP1 hD1
  have hP : va_P D vwCl [(q_800, .inl (cy 2, 1, .inr (.inl o0))), (h0, .inr (11, [.ref q_1, .ref q_3, .ref q_4, .ref q_25, .ref q_46, .ref q_50, .ref q_54, .ref q_58, .ref q_62, .int n_1, .int n_2, .ref q_63, .ref q_64, .ref q_67, .ref q_85, .ref q_90, .ref q_93])), (q_93, .inl (cy 1, 25, .inl g_2))] H := hP
  have hD : va_D A [(q_800, .inl (cy 2, 1, .inr (.inl o0))), (h0, .inr (11, [.ref q_1, .ref q_3, .ref q_4, .ref q_25, .ref q_46, .ref q_50, .ref q_54, .ref q_58, .ref q_62, .int n_1, .int n_2, .ref q_63, .ref q_64, .ref q_67, .ref q_85, .ref q_90, .ref q_93])), (q_93, .inl (cy 1, 25, .inl g_2))] := hD
  refine lv_i2l (v := r_1.toInt64) hx hb dL_rests_10 rfl ?_
  refine m_last (g := vp_updL o0 0 r_1.toInt64) hx hb hG hP hD hS 0 rfl (vin (by decide)) dL_rests_11 rfl (fun H locs hP hD hS => ?_)
  have hP : va_P D vwCl [(q_800, .inl (cy 2, 1, .inr (.inl (vp_updL o0 0 r_1.toInt64)))), (h0, .inr (11, [.ref q_1, .ref q_3, .ref q_4, .ref q_25, .ref q_46, .ref q_50, .ref q_54, .ref q_58, .ref q_62, .int n_1, .int n_2, .ref q_63, .ref q_64, .ref q_67, .ref q_85, .ref q_90, .ref q_93])), (q_93, .inl (cy 1, 25, .inl g_2))] H := hP
  have hD : va_D A [(q_800, .inl (cy 2, 1, .inr (.inl (vp_updL o0 0 r_1.toInt64)))), (h0, .inr (11, [.ref q_1, .ref q_3, .ref q_4, .ref q_25, .ref q_46, .ref q_50, .ref q_54, .ref q_58, .ref q_62, .int n_1, .int n_2, .ref q_63, .ref q_64, .ref q_67, .ref q_85, .ref q_90, .ref q_93])), (q_93, .inl (cy 1, 25, .inl g_2))] := hD
  refine lv_goto (tgt := 19) hx hb dL_rests_12 (by decide) ?_
  refine lv_iconst (v := 0) hx hb dL_rests_19 (by decide) ?_
  have hP9 := hP.sub (ws' := [(h0, .inr (11, [.ref q_1, .ref q_3, .ref q_4, .ref q_25, .ref q_46, .ref q_50, .ref q_54, .ref q_58, .ref q_62, .int n_1, .int n_2, .ref q_63, .ref q_64, .ref q_67, .ref q_85, .ref q_90, .ref q_93])), (q_93, .inl (cy 1, 25, .inl g_2)), (q_800, .inl (cy 2, 1, .inr (.inl (vp_updL o0 0 r_1.toInt64))))]) [1, 2, 0] rfl
  have hD9 := hD.sub (ws' := [(h0, .inr (11, [.ref q_1, .ref q_3, .ref q_4, .ref q_25, .ref q_46, .ref q_50, .ref q_54, .ref q_58, .ref q_62, .int n_1, .int n_2, .ref q_63, .ref q_64, .ref q_67, .ref q_85, .ref q_90, .ref q_93])), (q_93, .inl (cy 1, 25, .inl g_2)), (q_800, .inl (cy 2, 1, .inr (.inl (vp_updL o0 0 r_1.toInt64))))]) [1, 2, 0] (by decide) rfl
  subst hQ
  exact W.iret (v := 0) hx hb hr (fun t ht hW => qi_mk (by rw [ht]; exact ⟨r_1, g_2, rfl, hp_2, hP9, hD9⟩) (hS.F ht)) hS.2.2 dL_rests_20
set_option maxHeartbeats 4000000 in
set_option maxRecDepth 100000 in
theorem c_L_rests_th (l : Launch) (hlt : l.stackTraces = false) (D : va_G) (cy : Nat → ClassId) (h0 : Nat) (n_1 : Int32) (n_2 : Int32) (q_1 : Nat) (q_3 : Nat) (q_4 : Nat) (q_25 : Nat) (q_46 : Nat) (q_50 : Nat) (q_54 : Nat) (q_58 : Nat) (q_62 : Nat) (q_63 : Nat) (q_64 : Nat) (q_67 : Nat) (q_85 : Nat) (q_90 : Nat) (q_93 : Nat) (q_800 : Nat) (f0 : Nat → Int32) (a1 : Int32) (a2 : Int32) (a3 : Int32) (sz : Nat) (hthrow : a1 < 0 ∨ 20 < a1 ∨ a2 < 0 ∨ 9 < a2 ∨ (¬ a3 = (-1) ∧ ∀ t, t < (outr a1 a2 5).length → ¬ a3 = nI t)) : Met l yL_rests (Cond.codeWith yL_rests cL_rests 6 (some .int) [(0, 12, 15, 13)] :: bigG) ({ frames := 8, cells := 1, slots := 6, locals := 144 }) (prex D cy [.ref h0, .int a1, .int a2, .int a3, .ref q_800] sz [(h0, .inr (11, [.ref q_1, .ref q_3, .ref q_4, .ref q_25, .ref q_46, .ref q_50, .ref q_54, .ref q_58, .ref q_62, .int n_1, .int n_2, .ref q_63, .ref q_64, .ref q_67, .ref q_85, .ref q_90, .ref q_93])), (q_93, .inl (cy 1, 25, .inl f0))]) (qi (fun r h => ∃ g : Nat → Int32, r = 1 ∧ va_P D vwCl [(h0, .inr (11, [.ref q_1, .ref q_3, .ref q_4, .ref q_25, .ref q_46, .ref q_50, .ref q_54, .ref q_58, .ref q_62, .int n_1, .int n_2, .ref q_63, .ref q_64, .ref q_67, .ref q_85, .ref q_90, .ref q_93])), (q_93, .inl (cy 1, 25, .inl g))] h ∧ va_D (va_A [(h0, .inr (11, [.ref q_1, .ref q_3, .ref q_4, .ref q_25, .ref q_46, .ref q_50, .ref q_54, .ref q_58, .ref q_62, .int n_1, .int n_2, .ref q_63, .ref q_64, .ref q_67, .ref q_85, .ref q_90, .ref q_93])), (q_93, .inl (cy 1, 25, .inl f0))] sz) [(h0, .inr (11, [.ref q_1, .ref q_3, .ref q_4, .ref q_25, .ref q_46, .ref q_50, .ref q_54, .ref q_58, .ref q_62, .int n_1, .int n_2, .ref q_63, .ref q_64, .ref q_67, .ref q_85, .ref q_90, .ref q_93])), (q_93, .inl (cy 1, 25, .inl g))]) (va_A [(h0, .inr (11, [.ref q_1, .ref q_3, .ref q_4, .ref q_25, .ref q_46, .ref q_50, .ref q_54, .ref q_58, .ref q_62, .int n_1, .int n_2, .ref q_63, .ref q_64, .ref q_67, .ref q_85, .ref q_90, .ref q_93])), (q_93, .inl (cy 1, 25, .inl f0))] sz)) 1 6 (va_A [(h0, .inr (11, [.ref q_1, .ref q_3, .ref q_4, .ref q_25, .ref q_46, .ref q_50, .ref q_54, .ref q_58, .ref q_62, .int n_1, .int n_2, .ref q_63, .ref q_64, .ref q_67, .ref q_85, .ref q_90, .ref q_93])), (q_93, .inl (cy 1, 25, .inl f0))] sz) := by
  refine va_MetW (hh := [(0, 12, 15, 13)]) (cc := cL_rests) (maxL := 6) (ret := (some .int)) (by decide) rfl ?_
  intro p e s m args below meth c s₁ B hml hv
  obtain ⟨rfl, hsz, hP, hG, hD0, hZ⟩ := hv
  have hx := B.exec
  have hb := B.bytes
  have hr := B.returns
  have hts := atoms_spec (ws := (Cond.codeWith yL_rests cL_rests 6 (some .int) [(0, 12, 15, 13)] :: bigG)) B.pre
  have hg : ∀ w ∈ bigG, w.before ([.ref h0, .int a1, .int a2, .int a3, .ref q_800] : List Value).toArray s = true := fun w h => hts w (List.mem_cons_of_mem _ h)
  have hown : s.vm.findClass RL = some m.cls := findClass_of_methodNamed B.named
  have hlocks := B.notSynchronized
  have htab : c.exceptionTable.toList = tableOf [(0, 12, 15, 13)] := vx_table (x := yL_rests) B (hts _ List.mem_cons_self)
  subst hsz
  have hD := hD0.self (sz := s.heap.size)
  generalize hAe : va_A [(h0, .inr (11, [.ref q_1, .ref q_3, .ref q_4, .ref q_25, .ref q_46, .ref q_50, .ref q_54, .ref q_58, .ref q_62, .int n_1, .int n_2, .ref q_63, .ref q_64, .ref q_67, .ref q_85, .ref q_90, .ref q_93])), (q_93, .inl (cy 1, 25, .inl f0))] s.heap.size = A at hD hZ ⊢
  have hA : ∀ q : Nat, s.heap.size ≤ q → A q := fun q h => by rw [← hAe]; exact Or.inr h
  have hS : va_S A s.heap s.heap [] := va_S.rf
  have hP : va_P D vwCl [(h0, .inr (11, [.ref q_1, .ref q_3, .ref q_4, .ref q_25, .ref q_46, .ref q_50, .ref q_54, .ref q_58, .ref q_62, .int n_1, .int n_2, .ref q_63, .ref q_64, .ref q_67, .ref q_85, .ref q_90, .ref q_93])), (q_93, .inl (cy 1, 25, .inl f0))] s.heap := hP
  have hl := lv_entry ([.ref h0, .int a1, .int a2, .int a3, .ref q_800]) (n := 6) (Nat.le_of_ble_eq_true rfl)
  rw [lg_entry_eq]
  generalize (lg_sl ([.ref h0, .int a1, .int a2, .int a3, .ref q_800]) ++ List.replicate (6 - (lg_sl ([.ref h0, .int a1, .int a2, .int a3, .ref q_800])).length) Slot.unset).toArray = ls at hl ⊢
  have hl : lv_has ls 6 [(0, .ref h0), (1, .int a1), (2, .int a2), (3, .int a3), (4, .ref q_800)] := hl
  refine w_nm (fun Q hQ => ?_)
  refine lv_aload hx hb dL_rests_0 (lv_at hl 4 rfl) ?_
  refine lv_iconst (v := 0) hx hb dL_rests_2 (by decide) ?_
  refine lv_aload_n hx hb dL_rests_3 rfl (lv_at hl 0 rfl) ?_
  refine lv_iload_n hx hb dL_rests_4 rfl (lv_at hl 1 rfl) ?_
  refine lv_iload_n hx hb dL_rests_5 rfl (lv_at hl 2 rfl) ?_
  refine lv_iload_n hx hb dL_rests_6 rfl (lv_at hl 3 rfl) ?_
  have hF := va_free (wc := [(h0, .inr (11, [.ref q_1, .ref q_3, .ref q_4, .ref q_25, .ref q_46, .ref q_50, .ref q_54, .ref q_58, .ref q_62, .int n_1, .int n_2, .ref q_63, .ref q_64, .ref q_67, .ref q_85, .ref q_90, .ref q_93])), (q_93, .inl (cy 1, 25, .inl f0))]) hD hS hA [0, 1] rfl
  refine vx_calli (vx_runV (As := [.int a1, .int a2, .int a3]) (rest := [.int 0, .ref q_800]) ⟨hx, hb, hml, hown, hts⟩ (cx_X11_rests l hlt D cy h0 n_1 n_2 q_1 q_3 q_4 q_25 q_46 q_50 q_54 q_58 q_62 q_63 q_64 q_67 q_85 q_90 q_93 f0 a1 a2 a3 s.heap.size hthrow) (cwV 3 hts (gV km_L_7 ki_X11_rests kz_X11_rests kn_X11 kc_X11_rests) rfl rfl rfl (by decide +kernel) ⟨(Nat.le_of_ble_eq_true rfl), (Nat.le_of_ble_eq_true rfl)⟩) (prexV hG hP hD hS hA hZ [0, 1] rfl (by decide) 11 0 rfl rfl) rfl rfl hl.1 rfl (lv_room (Nat.le_of_ble_eq_true rfl)) dL_rests_7 ⟨(Nat.le_of_ble_eq_true rfl), (Nat.le_of_ble_eq_true rfl)⟩) hS (fun q _ h => hF q h) hF (fun q _ h => hF q h) (fun E ce q9 u t H locs ht hvm hpx hBX hz hk hS hc1 hc2 hc3 => ?_) (fun r u t H locs ht hvm hw hB hz hk hS => hw.elim)
  obtain ⟨hBX, g_2, hP⟩ := hBX
  subst hBX
  have hP : va_P D vwCl [(h0, .inr (11, [.ref q_1, .ref q_3, .ref q_4, .ref q_25, .ref q_46, .ref q_50, .ref q_54, .ref q_58, .ref q_62, .int n_1, .int n_2, .ref q_63, .ref q_64, .ref q_67, .ref q_85, .ref q_90, .ref q_93])), (q_93, .inl (cy 1, 25, .inl g_2))] H := by rw [← ht]; exact hP
  refine vx_catch hown { startPc := 0, endPc := 12, handlerPc := 15, catchType := 13 } [] (by rw [htab]; rfl) (by decide) (by decide) (name := NSE) (hg _ k_1223) (va_Nw.use rfl (hZ.2.2.2.2 _ List.mem_cons_self)) hc1 hc2 hc3 ?_
  refine W.widen (k := 1) (n := 6) (Nat.le_of_ble_eq_true rfl) (Nat.le_of_ble_eq_true rfl) ?_
  have hD : va_D A [(h0, .inr (11, [.ref q_1, .ref q_3, .ref q_4, .ref q_25, .ref q_46, .ref q_50, .ref q_54, .ref q_58, .ref q_62, .int n_1, .int n_2, .ref q_63, .ref q_64, .ref q_67, .ref q_85, .ref q_90, .ref q_93])), (q_93, .inl (cy 1, 25, .inl g_2))] := hD.set (p := 1) rfl
  refine lv_astore (lv' := [(5, .ref q9), (0, .ref h0), (1, .int a1), (2, .int a2), (3, .int a3), (4, .ref q_800)]) hx hb dL_rests_15 hl (by decide) rfl (fun ls hl => ?_)
  refine lv_iconst (v := 1) hx hb dL_rests_17 (by decide) ?_
  have hP9 := hP.sub (ws' := [(h0, .inr (11, [.ref q_1, .ref q_3, .ref q_4, .ref q_25, .ref q_46, .ref q_50, .ref q_54, .ref q_58, .ref q_62, .int n_1, .int n_2, .ref q_63, .ref q_64, .ref q_67, .ref q_85, .ref q_90, .ref q_93])), (q_93, .inl (cy 1, 25, .inl g_2))]) [0, 1] rfl
  have hD9 := hD.sub (ws' := [(h0, .inr (11, [.ref q_1, .ref q_3, .ref q_4, .ref q_25, .ref q_46, .ref q_50, .ref q_54, .ref q_58, .ref q_62, .int n_1, .int n_2, .ref q_63, .ref q_64, .ref q_67, .ref q_85, .ref q_90, .ref q_93])), (q_93, .inl (cy 1, 25, .inl g_2))]) [0, 1] (by decide) rfl
  subst hQ
  exact W.iret (v := 1) hx hb hr (fun t ht hW => qi_mk (by rw [ht]; exact ⟨g_2, rfl, hP9, hD9⟩) (hS.F ht)) hS.2.2 dL_rests_18
