def F_X11_nextDraw (dw : Int64) : Int64 := (((dw * 1103515245) + 12345) - ((dw * 1103515245) + 12345) / 2147483648 * 2147483648)
set_option maxHeartbeats 4000000 in
set_option maxRecDepth 100000 in
theorem e_X11_nextDraw (l : Launch) (dw : Int64) : ex_M l yX11_nextDraw cX11_nextDraw 2 (some .long) 0 0 [ex_j dw] [] (fun zcs zr => zcs = [] ∧ zr = some (ex_j (F_X11_nextDraw dw))) := by
  refine X_meth (by decide) (Nat.le_of_ble_eq_true rfl) ?_
  generalize hV : F_X11_nextDraw dw = V0
  have hV := hV.symm
  unfold F_X11_nextDraw at hV
  try dsimp only at hV
  refine X_lload_n (j := 0) dX11_nextDraw_0 rfl rfl ?_
  refine X_ldc2_w (v := 1103515245) k_1174 dX11_nextDraw_1 ?_
  refine X_lmul (v := (dw * 1103515245)) dX11_nextDraw_4 rfl ?_
  refine X_ldc2_w (v := 12345) k_1175 dX11_nextDraw_5 ?_
  refine X_ladd (v := ((dw * 1103515245) + 12345)) dX11_nextDraw_8 rfl ?_
  refine X_ldc2_w (v := 2147483648) k_1176 dX11_nextDraw_9 ?_
  refine X_lrem (v := (((dw * 1103515245) + 12345) - ((dw * 1103515245) + 12345) / 2147483648 * 2147483648)) dX11_nextDraw_12 (by decide) rfl ?_
  try dsimp only at hV
  exact X_lret dX11_nextDraw_13 (by (repeat refine ex_kc ?_) <;> rfl) (by subst hV; exact ⟨rfl, rfl⟩)

theorem l_ne0 {b : Nat} (hb : b ≤ 100) (h : ¬ nI b ≤ 0) : ¬ (nI b).toInt64 = 0 := fun q => by
  have e := congrArg Int64.toInt q
  rw [Int32.toInt_toInt64, nI_toInt (by omega)] at e
  have e0 : (0 : Int64).toInt = 0 := by decide
  have h0 := nI_gt (a := 0) (by decide) h
  omega

def F_X11_drawBelow (dw : Int64) (b : Nat) : Int32 := (if (nI b) ≤ 0 then 0 else (((dw / 65536) - (dw / 65536) / ((nI b).toInt64) * ((nI b).toInt64)).toInt32))
set_option maxHeartbeats 4000000 in
set_option maxRecDepth 100000 in
theorem e_X11_drawBelow (l : Launch) (dw : Int64) (b : Nat) (hb : b ≤ 100) : ex_M l yX11_drawBelow cX11_drawBelow 3 (some .int) 0 0 [ex_j dw, ex_i (nI b)] [] (fun zcs zr => zcs = [] ∧ zr = some (ex_i (F_X11_drawBelow dw b))) := by
  refine X_meth (by decide) (Nat.le_of_ble_eq_true rfl) ?_
  generalize hV : F_X11_drawBelow dw b = V0
  have hV := hV.symm
  unfold F_X11_drawBelow at hV
  try dsimp only at hV
  refine X_iload_n (j := 1) dX11_drawBelow_0 rfl rfl ?_
  refine X_if_le (tgt := 16) dX11_drawBelow_1 (by decide) (fun c_1 => ?_) (fun c_1 => ?_)
  · have hV := hV.trans (if_pos c_1)
    refine X_iconst (v := 0) dX11_drawBelow_16 (by decide) ?_
    try dsimp only at hV
    exact X_iret ex_nI rfl dX11_drawBelow_17 (by (repeat refine ex_kc ?_) <;> rfl) (by subst hV; exact ⟨rfl, rfl⟩)
  · have hV := hV.trans (if_neg c_1)
    refine X_lload_n (j := 0) dX11_drawBelow_4 rfl rfl ?_
    refine X_ldc2_w (v := 65536) k_1180 dX11_drawBelow_5 ?_
    refine X_ldiv (v := (dw / 65536)) dX11_drawBelow_8 (by decide) rfl ?_
    refine X_iload_n (j := 1) dX11_drawBelow_9 rfl rfl ?_
    refine X_i2l (v := (nI b).toInt64) dX11_drawBelow_10 rfl ?_
    refine X_lrem (v := ((dw / 65536) - (dw / 65536) / ((nI b).toInt64) * ((nI b).toInt64))) dX11_drawBelow_11 (l_ne0 hb c_1) rfl ?_
    refine X_l2i (v := ((dw / 65536) - (dw / 65536) / ((nI b).toInt64) * ((nI b).toInt64)).toInt32) dX11_drawBelow_12 rfl ?_
    refine X_goto (tgt := 17) dX11_drawBelow_13 (by decide) ?_
    try dsimp only at hV
    exact X_iret ex_nI rfl dX11_drawBelow_17 (by (repeat refine ex_kc ?_) <;> rfl) (by subst hV; exact ⟨rfl, rfl⟩)

def dOK (d : Int64) : Prop := 0 ≤ d.toInt ∧ d.toInt < 2147483648
theorem nd_ok {d : Int64} (h : dOK d) : dOK (F_X11_nextDraw d) := by
  obtain ⟨h0, h1⟩ := h
  unfold F_X11_nextDraw
  have e1 : (1103515245 : Int64).toInt = 1103515245 := by decide +kernel
  have e2 : (12345 : Int64).toInt = 12345 := by decide +kernel
  have e3 : (2147483648 : Int64).toInt = 2147483648 := by decide +kernel
  have a1 : (d * 1103515245).toInt = d.toInt * 1103515245 := by
    rw [Int64.toInt_mul, e1]
    exact Int.bmod_eq_of_le (by omega) (by omega)
  have a2 : (d * 1103515245 + 12345).toInt = d.toInt * 1103515245 + 12345 := by
    rw [Int64.toInt_add, a1, e2]
    exact Int.bmod_eq_of_le (by omega) (by omega)
  generalize d * 1103515245 + 12345 = z at a2
  have b1 : (z / 2147483648).toInt = z.toInt / 2147483648 := by
    rw [Int64.toInt_div_of_ne_right _ _ (by decide), e3, Int.tdiv_eq_ediv_of_nonneg (by omega)]
  have b2 : (z / 2147483648 * 2147483648).toInt = z.toInt / 2147483648 * 2147483648 := by
    rw [Int64.toInt_mul, b1, e3]
    exact Int.bmod_eq_of_le (by omega) (by omega)
  have b3 : (z - z / 2147483648 * 2147483648).toInt = z.toInt - z.toInt / 2147483648 * 2147483648 := by
    rw [Int64.toInt_sub, b2]
    exact Int.bmod_eq_of_le (by omega) (by omega)
  unfold dOK
  rw [b3]
  omega
theorem db_in {d : Int64} {b : Nat} (h : dOK d) (hb0 : 0 < b) (hb : b ≤ 100) : vp_in (F_X11_drawBelow d b) b := by
  obtain ⟨h0, h1⟩ := h
  unfold F_X11_drawBelow
  rw [if_neg (nI_nle hb0 (by omega))]
  have e1 : (65536 : Int64).toInt = 65536 := by decide +kernel
  have eb : (nI b).toInt64.toInt = (b : Int) := by rw [Int32.toInt_toInt64, nI_toInt (by omega)]
  have a1 : (d / 65536).toInt = d.toInt / 65536 := by
    rw [Int64.toInt_div_of_ne_right _ _ (by decide), e1, Int.tdiv_eq_ediv_of_nonneg h0]
  generalize d / 65536 = z at a1
  have hz : 0 ≤ z.toInt ∧ z.toInt < 32768 := by omega
  have hne : (nI b).toInt64 ≠ -1 := fun q => by
    have := congrArg Int64.toInt q
    rw [eb] at this
    have e : (-1 : Int64).toInt = -1 := by decide +kernel
    omega
  have b1 : (z / (nI b).toInt64).toInt = z.toInt / (b : Int) := by
    rw [Int64.toInt_div_of_ne_right _ _ hne, eb, Int.tdiv_eq_ediv_of_nonneg hz.1]
  have hd := Int.emod_nonneg z.toInt (show (b : Int) ≠ 0 by omega)
  have hd2 := Int.emod_lt_of_pos z.toInt (show (0 : Int) < b by omega)
  have hda := Int.mul_ediv_add_emod z.toInt b
  have hq0 : 0 ≤ z.toInt / (b : Int) := Int.ediv_nonneg hz.1 (by omega)
  have b2 : (z / (nI b).toInt64 * (nI b).toInt64).toInt = (b : Int) * (z.toInt / (b : Int)) := by
    rw [Int64.toInt_mul, b1, eb, Int.mul_comm]
    exact Int.bmod_eq_of_le (by omega) (by omega)
  have b3 : (z - z / (nI b).toInt64 * (nI b).toInt64).toInt = z.toInt % (b : Int) := by
    rw [Int64.toInt_sub, b2, show z.toInt - (b : Int) * (z.toInt / (b : Int)) = z.toInt % (b : Int) by omega]
    exact Int.bmod_eq_of_le (by omega) (by omega)
  rw [vp_in_iff, Int64.toInt_toInt32, b3, Int.bmod_eq_of_le (by omega) (by omega)]
  omega

theorem lt1 {x : Int32} (h : ¬ x < 1) : ¬ x < 0 := fun q => h (by
  rw [Int32.lt_iff_toInt_lt] at q ⊢
  have e0 : (0 : Int32).toInt = 0 := rfl
  have e1 : (1 : Int32).toInt = 1 := rfl
  omega)
theorem seed_ok {x : Int32} (h : ¬ x < 0) (c : ¬ 9999 < x) : dOK x.toInt64 := by
  have e := nI_ofle (n := 9999) h (by decide) c
  rw [nI_ofc h]
  unfold dOK
  rw [Int32.toInt_toInt64, nI_toInt (by omega)]
  omega

def F_X11_drawsMeal (dw : Int64) (rdy : Int32) (rsr : Int32) (ril : Int32) (rfu : Nat → Int32) (rae : Nat → Int32) (np : Nat) (nd : Nat) (res : Int32) (kd : Nat → Int32) (sf : Nat → Int32) (st : Nat → Int32) (co : Nat → Int32) (gf : Nat → Int32) : Int32 × Int32 × (Nat → Int32) × (Nat → Int32) × Int64 := ((fun (w_1 : Int64) => ((fun (w_2 : Int32) => ((fun (w_3 : Int64) => ((fun (w_4 : Int32) => ((fun (w_5 : Int64) => ((fun (w_6 : Int32) => (if w_6 = 0 then (if (F_X8_canEat w_2.toNatClampNeg w_4.toNatClampNeg rdy rsr kd sf st co) = 0 then (rsr, ril, rfu, rae, w_5) else ((fun (w_11 : Int32 × Int32 × (Nat → Int32) × (Nat → Int32) × Int32) => (w_11.1, w_11.2.1, w_11.2.2.1, w_11.2.2.2.1, w_5)) (F_X8_takesMeal w_2.toNatClampNeg w_4.toNatClampNeg 1 rdy rsr ril rfu rae np res kd sf st co gf))) else (if (F_X8_canEat w_2.toNatClampNeg w_4.toNatClampNeg rdy rsr kd sf st co) = 0 then (rsr, ril, rfu, rae, w_5) else ((fun (w_9 : Int32 × Int32 × (Nat → Int32) × (Nat → Int32) × Int32) => (w_9.1, w_9.2.1, w_9.2.2.1, w_9.2.2.2.1, w_5)) (F_X8_takesMeal w_2.toNatClampNeg w_4.toNatClampNeg 0 rdy rsr ril rfu rae np res kd sf st co gf))))) (F_X11_drawBelow w_5 2))) (F_X11_nextDraw w_3))) (F_X11_drawBelow w_3 nd))) (F_X11_nextDraw w_1))) (F_X11_drawBelow w_1 np))) (F_X11_nextDraw dw))
set_option maxHeartbeats 4000000 in
set_option maxRecDepth 100000 in
theorem e_X11_drawsMeal (l : Launch) (x : Nat) (dw : Int64) (t : Nat) (rd : Nat) (c : Nat) (kq : Nat) (w : Nat) (v : Nat) (n : Nat) (tl : Nat) (pa : Nat) (pnx : Nat) (pln : Nat) (ma : Nat) (hs : Nat) (pp : Nat) (pt : Nat) (pg : Nat) (kr : Nat) (rdy : Int32) (rsr : Int32) (ril : Int32) (tlf : Nat) (tla : Nat) (tlh : Nat) (rfu : Nat → Int32) (rae : Nat → Int32) (c0 : Nat) (c1 : Nat) (c2 : Nat) (c3 : Nat) (c4 : Nat) (c5 : Nat) (c6 : Nat) (c7 : Nat) (c8 : Nat) (c9 : Nat) (c10 : Nat) (c11 : Nat) (c12 : Nat) (np : Nat) (nd : Nat) (sto : Int32) (res : Int32) (c17 : Nat) (c18 : Nat) (c19 : Nat) (kd : Nat → Int32) (sf : Nat → Int32) (st : Nat → Int32) (co : Nat → Int32) (gf : Nat → Int32) (hnp : np ≤ 6) (hnd : nd ≤ 5) (h0p : 0 < np) (h0d : 0 < nd) (hdw : dOK dw) : ex_M l yX11_drawsMeal cX11_drawsMeal 8 (some .long) 4 97 [ex_r x, ex_j dw] [(x, ex_o 11 [ex_r t, ex_r rd, ex_r c, ex_r kq, ex_r w, ex_r v, ex_r n, ex_r tl, ex_r pa, ex_i (nI pnx), ex_i (nI pln), ex_r ma, ex_r hs, ex_r pp, ex_r pt, ex_r pg, ex_r kr]), (tl, ex_o 8 [ex_i rdy, ex_i rsr, ex_i ril, ex_r tlf, ex_r tla, ex_r tlh]), (tlf, ex_a 1 6 rfu), (tla, ex_a 1 6 rae), (c, ex_o 0 [ex_r c0, ex_r c1, ex_r c2, ex_r c3, ex_r c4, ex_r c5, ex_r c6, ex_r c7, ex_r c8, ex_r c9, ex_r c10, ex_r c11, ex_r c12, ex_i (nI np), ex_i (nI nd), ex_i sto, ex_i res, ex_r c17, ex_r c18, ex_r c19]), (c1, ex_a 1 6 kd), (c5, ex_a 1 6 sf), (c6, ex_a 1 6 st), (c11, ex_a 1 5 co), (c17, ex_a 1 360 gf)] (fun zcs zr => zcs = [(x, ex_o 11 [ex_r t, ex_r rd, ex_r c, ex_r kq, ex_r w, ex_r v, ex_r n, ex_r tl, ex_r pa, ex_i (nI pnx), ex_i (nI pln), ex_r ma, ex_r hs, ex_r pp, ex_r pt, ex_r pg, ex_r kr]), (tl, ex_o 8 [ex_i rdy, ex_i ((F_X11_drawsMeal dw rdy rsr ril rfu rae np nd res kd sf st co gf).1), ex_i ((F_X11_drawsMeal dw rdy rsr ril rfu rae np nd res kd sf st co gf).2.1), ex_r tlf, ex_r tla, ex_r tlh]), (tlf, ex_a 1 6 ((F_X11_drawsMeal dw rdy rsr ril rfu rae np nd res kd sf st co gf).2.2.1)), (tla, ex_a 1 6 ((F_X11_drawsMeal dw rdy rsr ril rfu rae np nd res kd sf st co gf).2.2.2.1)), (c, ex_o 0 [ex_r c0, ex_r c1, ex_r c2, ex_r c3, ex_r c4, ex_r c5, ex_r c6, ex_r c7, ex_r c8, ex_r c9, ex_r c10, ex_r c11, ex_r c12, ex_i (nI np), ex_i (nI nd), ex_i sto, ex_i res, ex_r c17, ex_r c18, ex_r c19]), (c1, ex_a 1 6 kd), (c5, ex_a 1 6 sf), (c6, ex_a 1 6 st), (c11, ex_a 1 5 co), (c17, ex_a 1 360 gf)] ∧ zr = some (ex_j (F_X11_drawsMeal dw rdy rsr ril rfu rae np nd res kd sf st co gf).2.2.2.2) ∧ (dOK ((F_X11_drawsMeal dw rdy rsr ril rfu rae np nd res kd sf st co gf)).2.2.2.2)) := by
  refine X_meth (by decide) (Nat.le_of_ble_eq_true rfl) ?_
  generalize hV : F_X11_drawsMeal dw rdy rsr ril rfu rae np nd res kd sf st co gf = V0
  have hV := hV.symm
  unfold F_X11_drawsMeal at hV
  try dsimp only at hV
  refine X_lload_n (j := 1) dX11_drawsMeal_0 rfl rfl ?_
  refine X_callS (rest := [(x, ex_o 11 [ex_r t, ex_r rd, ex_r c, ex_r kq, ex_r w, ex_r v, ex_r n, ex_r tl, ex_r pa, ex_i (nI pnx), ex_i (nI pln), ex_r ma, ex_r hs, ex_r pp, ex_r pt, ex_r pg, ex_r kr]), (tl, ex_o 8 [ex_i rdy, ex_i rsr, ex_i ril, ex_r tlf, ex_r tla, ex_r tlh]), (tlf, ex_a 1 6 rfu), (tla, ex_a 1 6 rae), (c, ex_o 0 [ex_r c0, ex_r c1, ex_r c2, ex_r c3, ex_r c4, ex_r c5, ex_r c6, ex_r c7, ex_r c8, ex_r c9, ex_r c10, ex_r c11, ex_r c12, ex_i (nI np), ex_i (nI nd), ex_i sto, ex_i res, ex_r c17, ex_r c18, ex_r c19]), (c1, ex_a 1 6 kd), (c5, ex_a 1 6 sf), (c6, ex_a 1 6 st), (c11, ex_a 1 5 co), (c17, ex_a 1 360 gf)]) (stk := []) co_X11_290 rfl ⟨(Nat.le_of_ble_eq_true rfl), (Nat.le_of_ble_eq_true rfl)⟩ (e_X11_nextDraw l dw) dX11_drawsMeal_1 [0, 1, 2, 3, 4, 5, 6, 7, 8, 9] (show List.Perm [0, 1, 2, 3, 4, 5, 6, 7, 8, 9] (List.range 10) from by decide) rfl rfl rfl (Nat.le_of_ble_eq_true rfl) (fun zc1 zr hq hk => ?_)
  obtain ⟨rfl, rfl⟩ := hq
  try dsimp only at hV
  generalize hq_w_1 : F_X11_nextDraw dw = w_1 at hV ⊢
  try dsimp only at hV
  have hdo_w_1 : dOK w_1 := by rw [← hq_w_1]; exact nd_ok hdw
  refine X_lstore_n (lv' := [(3, ex_j w_1), (0, ex_r x), (1, ex_j dw)]) dX11_drawsMeal_4 rfl (Nat.le_of_ble_eq_true rfl) rfl ?_
  refine X_lload_n (j := 0) dX11_drawsMeal_5 rfl rfl ?_
  refine X_aload_n (j := 1) dX11_drawsMeal_6 rfl rfl ?_
  refine X_get (j := 0) fo_X11_26 dX11_drawsMeal_7 rfl rfl ?_
  refine X_get (j := 4) fo_X11_298 dX11_drawsMeal_10 rfl rfl ?_
  refine X_callS (rest := [(x, ex_o 11 [ex_r t, ex_r rd, ex_r c, ex_r kq, ex_r w, ex_r v, ex_r n, ex_r tl, ex_r pa, ex_i (nI pnx), ex_i (nI pln), ex_r ma, ex_r hs, ex_r pp, ex_r pt, ex_r pg, ex_r kr]), (tl, ex_o 8 [ex_i rdy, ex_i rsr, ex_i ril, ex_r tlf, ex_r tla, ex_r tlh]), (tlf, ex_a 1 6 rfu), (tla, ex_a 1 6 rae), (c, ex_o 0 [ex_r c0, ex_r c1, ex_r c2, ex_r c3, ex_r c4, ex_r c5, ex_r c6, ex_r c7, ex_r c8, ex_r c9, ex_r c10, ex_r c11, ex_r c12, ex_i (nI np), ex_i (nI nd), ex_i sto, ex_i res, ex_r c17, ex_r c18, ex_r c19]), (c1, ex_a 1 6 kd), (c5, ex_a 1 6 sf), (c6, ex_a 1 6 st), (c11, ex_a 1 5 co), (c17, ex_a 1 360 gf)]) (stk := []) co_X11_294 rfl ⟨(Nat.le_of_ble_eq_true rfl), (Nat.le_of_ble_eq_true rfl)⟩ (e_X11_drawBelow l w_1 np (by omega)) dX11_drawsMeal_13 [0, 1, 2, 3, 4, 5, 6, 7, 8, 9] (show List.Perm [0, 1, 2, 3, 4, 5, 6, 7, 8, 9] (List.range 10) from by decide) rfl rfl rfl (Nat.le_of_ble_eq_true rfl) (fun zc1 zr hq hk => ?_)
  obtain ⟨rfl, rfl⟩ := hq
  try dsimp only at hV
  generalize hq_w_2 : F_X11_drawBelow w_1 np = w_2 at hV ⊢
  try dsimp only at hV
  refine X_istore (lv' := [(5, ex_i w_2), (3, ex_j w_1), (0, ex_r x), (1, ex_j dw)]) dX11_drawsMeal_16 (Nat.le_of_ble_eq_true rfl) rfl ?_
  have hx5z := nI_ofv (x := w_2) (n := np) (by rw [← hq_w_2]; exact db_in (b := np) hdo_w_1 h0p (by omega)) (by omega)
  have hx5 := hx5z.1
  have hl5 := hx5z.2
  refine X_eq (cs' := [(x, ex_o 11 [ex_r t, ex_r rd, ex_r c, ex_r kq, ex_r w, ex_r v, ex_r n, ex_r tl, ex_r pa, ex_i (nI pnx), ex_i (nI pln), ex_r ma, ex_r hs, ex_r pp, ex_r pt, ex_r pg, ex_r kr]), (tl, ex_o 8 [ex_i rdy, ex_i rsr, ex_i ril, ex_r tlf, ex_r tla, ex_r tlh]), (tlf, ex_a 1 6 rfu), (tla, ex_a 1 6 rae), (c, ex_o 0 [ex_r c0, ex_r c1, ex_r c2, ex_r c3, ex_r c4, ex_r c5, ex_r c6, ex_r c7, ex_r c8, ex_r c9, ex_r c10, ex_r c11, ex_r c12, ex_i (nI np), ex_i (nI nd), ex_i sto, ex_i res, ex_r c17, ex_r c18, ex_r c19]), (c1, ex_a 1 6 kd), (c5, ex_a 1 6 sf), (c6, ex_a 1 6 st), (c11, ex_a 1 5 co), (c17, ex_a 1 360 gf)]) (lv' := [(5, ex_i (nI w_2.toNatClampNeg)), (3, ex_j w_1), (0, ex_r x), (1, ex_j dw)]) rfl (by rw [← hx5] <;> rfl) ?_
  refine X_lload_n (j := 1) dX11_drawsMeal_18 rfl rfl ?_
  refine X_callS (rest := [(x, ex_o 11 [ex_r t, ex_r rd, ex_r c, ex_r kq, ex_r w, ex_r v, ex_r n, ex_r tl, ex_r pa, ex_i (nI pnx), ex_i (nI pln), ex_r ma, ex_r hs, ex_r pp, ex_r pt, ex_r pg, ex_r kr]), (tl, ex_o 8 [ex_i rdy, ex_i rsr, ex_i ril, ex_r tlf, ex_r tla, ex_r tlh]), (tlf, ex_a 1 6 rfu), (tla, ex_a 1 6 rae), (c, ex_o 0 [ex_r c0, ex_r c1, ex_r c2, ex_r c3, ex_r c4, ex_r c5, ex_r c6, ex_r c7, ex_r c8, ex_r c9, ex_r c10, ex_r c11, ex_r c12, ex_i (nI np), ex_i (nI nd), ex_i sto, ex_i res, ex_r c17, ex_r c18, ex_r c19]), (c1, ex_a 1 6 kd), (c5, ex_a 1 6 sf), (c6, ex_a 1 6 st), (c11, ex_a 1 5 co), (c17, ex_a 1 360 gf)]) (stk := []) co_X11_290 rfl ⟨(Nat.le_of_ble_eq_true rfl), (Nat.le_of_ble_eq_true rfl)⟩ (e_X11_nextDraw l w_1) dX11_drawsMeal_19 [0, 1, 2, 3, 4, 5, 6, 7, 8, 9] (show List.Perm [0, 1, 2, 3, 4, 5, 6, 7, 8, 9] (List.range 10) from by decide) rfl rfl rfl (Nat.le_of_ble_eq_true rfl) (fun zc1 zr hq hk => ?_)
  obtain ⟨rfl, rfl⟩ := hq
  try dsimp only at hV
  generalize hq_w_3 : F_X11_nextDraw w_1 = w_3 at hV ⊢
  try dsimp only at hV
  have hdo_w_3 : dOK w_3 := by rw [← hq_w_3]; exact nd_ok hdo_w_1
  refine X_lstore_n (lv' := [(3, ex_j w_3), (5, ex_i (nI w_2.toNatClampNeg)), (0, ex_r x), (1, ex_j dw)]) dX11_drawsMeal_22 rfl (Nat.le_of_ble_eq_true rfl) rfl ?_
  refine X_lload_n (j := 0) dX11_drawsMeal_23 rfl rfl ?_
  refine X_aload_n (j := 2) dX11_drawsMeal_24 rfl rfl ?_
  refine X_get (j := 0) fo_X11_26 dX11_drawsMeal_25 rfl rfl ?_
  refine X_get (j := 4) fo_X11_301 dX11_drawsMeal_28 rfl rfl ?_
  refine X_callS (rest := [(x, ex_o 11 [ex_r t, ex_r rd, ex_r c, ex_r kq, ex_r w, ex_r v, ex_r n, ex_r tl, ex_r pa, ex_i (nI pnx), ex_i (nI pln), ex_r ma, ex_r hs, ex_r pp, ex_r pt, ex_r pg, ex_r kr]), (tl, ex_o 8 [ex_i rdy, ex_i rsr, ex_i ril, ex_r tlf, ex_r tla, ex_r tlh]), (tlf, ex_a 1 6 rfu), (tla, ex_a 1 6 rae), (c, ex_o 0 [ex_r c0, ex_r c1, ex_r c2, ex_r c3, ex_r c4, ex_r c5, ex_r c6, ex_r c7, ex_r c8, ex_r c9, ex_r c10, ex_r c11, ex_r c12, ex_i (nI np), ex_i (nI nd), ex_i sto, ex_i res, ex_r c17, ex_r c18, ex_r c19]), (c1, ex_a 1 6 kd), (c5, ex_a 1 6 sf), (c6, ex_a 1 6 st), (c11, ex_a 1 5 co), (c17, ex_a 1 360 gf)]) (stk := []) co_X11_294 rfl ⟨(Nat.le_of_ble_eq_true rfl), (Nat.le_of_ble_eq_true rfl)⟩ (e_X11_drawBelow l w_3 nd (by omega)) dX11_drawsMeal_31 [0, 1, 2, 3, 4, 5, 6, 7, 8, 9] (show List.Perm [0, 1, 2, 3, 4, 5, 6, 7, 8, 9] (List.range 10) from by decide) rfl rfl rfl (Nat.le_of_ble_eq_true rfl) (fun zc1 zr hq hk => ?_)
  obtain ⟨rfl, rfl⟩ := hq
  try dsimp only at hV
  generalize hq_w_4 : F_X11_drawBelow w_3 nd = w_4 at hV ⊢
  try dsimp only at hV
  refine X_istore (lv' := [(6, ex_i w_4), (3, ex_j w_3), (5, ex_i (nI w_2.toNatClampNeg)), (0, ex_r x), (1, ex_j dw)]) dX11_drawsMeal_34 (Nat.le_of_ble_eq_true rfl) rfl ?_
  have hx6z := nI_ofv (x := w_4) (n := nd) (by rw [← hq_w_4]; exact db_in (b := nd) hdo_w_3 h0d (by omega)) (by omega)
  have hx6 := hx6z.1
  have hl6 := hx6z.2
  refine X_eq (cs' := [(x, ex_o 11 [ex_r t, ex_r rd, ex_r c, ex_r kq, ex_r w, ex_r v, ex_r n, ex_r tl, ex_r pa, ex_i (nI pnx), ex_i (nI pln), ex_r ma, ex_r hs, ex_r pp, ex_r pt, ex_r pg, ex_r kr]), (tl, ex_o 8 [ex_i rdy, ex_i rsr, ex_i ril, ex_r tlf, ex_r tla, ex_r tlh]), (tlf, ex_a 1 6 rfu), (tla, ex_a 1 6 rae), (c, ex_o 0 [ex_r c0, ex_r c1, ex_r c2, ex_r c3, ex_r c4, ex_r c5, ex_r c6, ex_r c7, ex_r c8, ex_r c9, ex_r c10, ex_r c11, ex_r c12, ex_i (nI np), ex_i (nI nd), ex_i sto, ex_i res, ex_r c17, ex_r c18, ex_r c19]), (c1, ex_a 1 6 kd), (c5, ex_a 1 6 sf), (c6, ex_a 1 6 st), (c11, ex_a 1 5 co), (c17, ex_a 1 360 gf)]) (lv' := [(6, ex_i (nI w_4.toNatClampNeg)), (3, ex_j w_3), (5, ex_i (nI w_2.toNatClampNeg)), (0, ex_r x), (1, ex_j dw)]) rfl (by rw [← hx6] <;> rfl) ?_
  refine X_lload_n (j := 1) dX11_drawsMeal_36 rfl rfl ?_
  refine X_callS (rest := [(x, ex_o 11 [ex_r t, ex_r rd, ex_r c, ex_r kq, ex_r w, ex_r v, ex_r n, ex_r tl, ex_r pa, ex_i (nI pnx), ex_i (nI pln), ex_r ma, ex_r hs, ex_r pp, ex_r pt, ex_r pg, ex_r kr]), (tl, ex_o 8 [ex_i rdy, ex_i rsr, ex_i ril, ex_r tlf, ex_r tla, ex_r tlh]), (tlf, ex_a 1 6 rfu), (tla, ex_a 1 6 rae), (c, ex_o 0 [ex_r c0, ex_r c1, ex_r c2, ex_r c3, ex_r c4, ex_r c5, ex_r c6, ex_r c7, ex_r c8, ex_r c9, ex_r c10, ex_r c11, ex_r c12, ex_i (nI np), ex_i (nI nd), ex_i sto, ex_i res, ex_r c17, ex_r c18, ex_r c19]), (c1, ex_a 1 6 kd), (c5, ex_a 1 6 sf), (c6, ex_a 1 6 st), (c11, ex_a 1 5 co), (c17, ex_a 1 360 gf)]) (stk := []) co_X11_290 rfl ⟨(Nat.le_of_ble_eq_true rfl), (Nat.le_of_ble_eq_true rfl)⟩ (e_X11_nextDraw l w_3) dX11_drawsMeal_37 [0, 1, 2, 3, 4, 5, 6, 7, 8, 9] (show List.Perm [0, 1, 2, 3, 4, 5, 6, 7, 8, 9] (List.range 10) from by decide) rfl rfl rfl (Nat.le_of_ble_eq_true rfl) (fun zc1 zr hq hk => ?_)
  obtain ⟨rfl, rfl⟩ := hq
  try dsimp only at hV
  generalize hq_w_5 : F_X11_nextDraw w_3 = w_5 at hV ⊢
  try dsimp only at hV
  have hdo_w_5 : dOK w_5 := by rw [← hq_w_5]; exact nd_ok hdo_w_3
  refine X_lstore_n (lv' := [(3, ex_j w_5), (6, ex_i (nI w_4.toNatClampNeg)), (5, ex_i (nI w_2.toNatClampNeg)), (0, ex_r x), (1, ex_j dw)]) dX11_drawsMeal_40 rfl (Nat.le_of_ble_eq_true rfl) rfl ?_
  refine X_lload_n (j := 0) dX11_drawsMeal_41 rfl rfl ?_
  refine X_iconst (v := 2) dX11_drawsMeal_42 (by decide) ?_
  refine X_callS (rest := [(x, ex_o 11 [ex_r t, ex_r rd, ex_r c, ex_r kq, ex_r w, ex_r v, ex_r n, ex_r tl, ex_r pa, ex_i (nI pnx), ex_i (nI pln), ex_r ma, ex_r hs, ex_r pp, ex_r pt, ex_r pg, ex_r kr]), (tl, ex_o 8 [ex_i rdy, ex_i rsr, ex_i ril, ex_r tlf, ex_r tla, ex_r tlh]), (tlf, ex_a 1 6 rfu), (tla, ex_a 1 6 rae), (c, ex_o 0 [ex_r c0, ex_r c1, ex_r c2, ex_r c3, ex_r c4, ex_r c5, ex_r c6, ex_r c7, ex_r c8, ex_r c9, ex_r c10, ex_r c11, ex_r c12, ex_i (nI np), ex_i (nI nd), ex_i sto, ex_i res, ex_r c17, ex_r c18, ex_r c19]), (c1, ex_a 1 6 kd), (c5, ex_a 1 6 sf), (c6, ex_a 1 6 st), (c11, ex_a 1 5 co), (c17, ex_a 1 360 gf)]) (stk := []) co_X11_294 rfl ⟨(Nat.le_of_ble_eq_true rfl), (Nat.le_of_ble_eq_true rfl)⟩ (e_X11_drawBelow l w_5 2 (by omega)) dX11_drawsMeal_43 [0, 1, 2, 3, 4, 5, 6, 7, 8, 9] (show List.Perm [0, 1, 2, 3, 4, 5, 6, 7, 8, 9] (List.range 10) from by decide) rfl rfl rfl (Nat.le_of_ble_eq_true rfl) (fun zc1 zr hq hk => ?_)
  obtain ⟨rfl, rfl⟩ := hq
  try dsimp only at hV
  generalize hq_w_6 : F_X11_drawBelow w_5 2 = w_6 at hV ⊢
  try dsimp only at hV
  refine X_if_ne (tgt := 53) dX11_drawsMeal_46 (by decide) (fun c_7 => ?_) (fun c_7 => ?_)
  · have hV := hV.trans (if_neg c_7)
    refine X_iconst (v := 0) dX11_drawsMeal_53 (by decide) ?_
    refine X_istore (lv' := [(7, ex_i 0), (3, ex_j w_5), (6, ex_i (nI w_4.toNatClampNeg)), (5, ex_i (nI w_2.toNatClampNeg)), (0, ex_r x), (1, ex_j dw)]) dX11_drawsMeal_54 (Nat.le_of_ble_eq_true rfl) rfl ?_
    refine X_aload_n (j := 4) dX11_drawsMeal_56 rfl rfl ?_
    refine X_get (j := 0) fo_X11_50 dX11_drawsMeal_57 rfl rfl ?_
    refine X_aload_n (j := 4) dX11_drawsMeal_60 rfl rfl ?_
    refine X_get (j := 0) fo_X11_26 dX11_drawsMeal_61 rfl rfl ?_
    refine X_iload (j := 3) dX11_drawsMeal_64 rfl ?_
    refine X_iload (j := 2) dX11_drawsMeal_66 rfl ?_
    refine X_callV (j0 := 0) (rest := [(x, ex_o 11 [ex_r t, ex_r rd, ex_r c, ex_r kq, ex_r w, ex_r v, ex_r n, ex_r tl, ex_r pa, ex_i (nI pnx), ex_i (nI pln), ex_r ma, ex_r hs, ex_r pp, ex_r pt, ex_r pg, ex_r kr]), (tlf, ex_a 1 6 rfu), (tla, ex_a 1 6 rae), (c17, ex_a 1 360 gf)]) (stk := []) co_X11_328 rfl ⟨(Nat.le_of_ble_eq_true rfl), (Nat.le_of_ble_eq_true rfl)⟩ (e_X8_canEat l tl c w_2.toNatClampNeg w_4.toNatClampNeg rdy rsr ril tlf tla tlh c0 c1 c2 c3 c4 c5 c6 c7 c8 c9 c10 c11 c12 np nd sto res c17 c18 c19 kd sf st co (Nat.lt_of_lt_of_le hl5 hnp) (Nat.lt_of_lt_of_le hl6 hnd)) dX11_drawsMeal_68 [1, 4, 5, 6, 7, 8, 0, 2, 3, 9] (show List.Perm [1, 4, 5, 6, 7, 8, 0, 2, 3, 9] (List.range 10) from by decide) rfl rfl rfl rfl (Nat.le_of_ble_eq_true rfl) (fun zc1 zr hq hk => ?_)
    obtain ⟨rfl, rfl⟩ := hq
    refine X_if_eq (tgt := 92) dX11_drawsMeal_71 (by decide) (fun c_8 => ?_) (fun c_8 => ?_)
    · have hV := hV.trans (if_pos c_8)
      refine X_lload_n (j := 1) dX11_drawsMeal_92 rfl rfl ?_
      try dsimp only at hV
      refine X_re (cs' := [(x, ex_o 11 [ex_r t, ex_r rd, ex_r c, ex_r kq, ex_r w, ex_r v, ex_r n, ex_r tl, ex_r pa, ex_i (nI pnx), ex_i (nI pln), ex_r ma, ex_r hs, ex_r pp, ex_r pt, ex_r pg, ex_r kr]), (tl, ex_o 8 [ex_i rdy, ex_i rsr, ex_i ril, ex_r tlf, ex_r tla, ex_r tlh]), (tlf, ex_a 1 6 rfu), (tla, ex_a 1 6 rae), (c, ex_o 0 [ex_r c0, ex_r c1, ex_r c2, ex_r c3, ex_r c4, ex_r c5, ex_r c6, ex_r c7, ex_r c8, ex_r c9, ex_r c10, ex_r c11, ex_r c12, ex_i (nI np), ex_i (nI nd), ex_i sto, ex_i res, ex_r c17, ex_r c18, ex_r c19]), (c1, ex_a 1 6 kd), (c5, ex_a 1 6 sf), (c6, ex_a 1 6 st), (c11, ex_a 1 5 co), (c17, ex_a 1 360 gf)]) [6, 0, 7, 8, 1, 2, 3, 4, 5, 9] (show List.Perm [6, 0, 7, 8, 1, 2, 3, 4, 5, 9] (List.range 10) from by decide) rfl ?_
      exact X_lret dX11_drawsMeal_93 (by (repeat refine ex_kc ?_) <;> rfl) (by subst hV; exact ⟨rfl, rfl, hdo_w_5⟩)
    · have hV := hV.trans (if_neg c_8)
      refine X_aload_n (j := 4) dX11_drawsMeal_74 rfl rfl ?_
      refine X_get (j := 6) fo_X11_50 dX11_drawsMeal_75 rfl rfl ?_
      refine X_aload_n (j := 4) dX11_drawsMeal_78 rfl rfl ?_
      refine X_get (j := 6) fo_X11_26 dX11_drawsMeal_79 rfl rfl ?_
      refine X_iload (j := 3) dX11_drawsMeal_82 rfl ?_
      refine X_iload (j := 2) dX11_drawsMeal_84 rfl ?_
      refine X_iload (j := 0) dX11_drawsMeal_86 rfl ?_
      refine X_callV (j0 := 0) (rest := [(x, ex_o 11 [ex_r t, ex_r rd, ex_r c, ex_r kq, ex_r w, ex_r v, ex_r n, ex_r tl, ex_r pa, ex_i (nI pnx), ex_i (nI pln), ex_r ma, ex_r hs, ex_r pp, ex_r pt, ex_r pg, ex_r kr])]) (stk := []) co_X11_176 rfl ⟨(Nat.le_of_ble_eq_true rfl), (Nat.le_of_ble_eq_true rfl)⟩ (e_X8_takesMeal l tl c w_2.toNatClampNeg w_4.toNatClampNeg 0 rdy rsr ril tlf tla tlh rfu rae c0 c1 c2 c3 c4 c5 c6 c7 c8 c9 c10 c11 c12 np nd sto res c17 c18 c19 kd sf st co gf (Nat.lt_of_lt_of_le hl5 hnp) (Nat.lt_of_lt_of_le hl6 hnd) hnp) dX11_drawsMeal_88 [0, 7, 8, 1, 2, 3, 4, 5, 9, 6] (show List.Perm [0, 7, 8, 1, 2, 3, 4, 5, 9, 6] (List.range 10) from by decide) rfl rfl rfl rfl (Nat.le_of_ble_eq_true rfl) (fun zc1 zr hq hk => ?_)
      obtain ⟨rfl, rfl⟩ := hq
      try dsimp only at hV
      generalize hq_w_9 : F_X8_takesMeal w_2.toNatClampNeg w_4.toNatClampNeg 0 rdy rsr ril rfu rae np res kd sf st co gf = w_9 at hV ⊢
      try dsimp only at hV
      refine X_pop dX11_drawsMeal_91 rfl ?_
      refine X_lload_n (j := 1) dX11_drawsMeal_92 rfl rfl ?_
      try dsimp only at hV
      refine X_re (cs' := [(x, ex_o 11 [ex_r t, ex_r rd, ex_r c, ex_r kq, ex_r w, ex_r v, ex_r n, ex_r tl, ex_r pa, ex_i (nI pnx), ex_i (nI pln), ex_r ma, ex_r hs, ex_r pp, ex_r pt, ex_r pg, ex_r kr]), (tl, ex_o 8 [ex_i rdy, ex_i w_9.1, ex_i w_9.2.1, ex_r tlf, ex_r tla, ex_r tlh]), (tlf, ex_a 1 6 w_9.2.2.1), (tla, ex_a 1 6 w_9.2.2.2.1), (c, ex_o 0 [ex_r c0, ex_r c1, ex_r c2, ex_r c3, ex_r c4, ex_r c5, ex_r c6, ex_r c7, ex_r c8, ex_r c9, ex_r c10, ex_r c11, ex_r c12, ex_i (nI np), ex_i (nI nd), ex_i sto, ex_i res, ex_r c17, ex_r c18, ex_r c19]), (c1, ex_a 1 6 kd), (c5, ex_a 1 6 sf), (c6, ex_a 1 6 st), (c11, ex_a 1 5 co), (c17, ex_a 1 360 gf)]) [9, 0, 1, 2, 3, 4, 5, 6, 7, 8] (show List.Perm [9, 0, 1, 2, 3, 4, 5, 6, 7, 8] (List.range 10) from by decide) rfl ?_
      exact X_lret dX11_drawsMeal_93 (by (repeat refine ex_kc ?_) <;> rfl) (by subst hV; exact ⟨rfl, rfl, hdo_w_5⟩)
  · have hV := hV.trans (if_pos c_7)
    refine X_iconst (v := 1) dX11_drawsMeal_49 (by decide) ?_
    refine X_goto (tgt := 54) dX11_drawsMeal_50 (by decide) ?_
    refine X_istore (lv' := [(7, ex_i 1), (3, ex_j w_5), (6, ex_i (nI w_4.toNatClampNeg)), (5, ex_i (nI w_2.toNatClampNeg)), (0, ex_r x), (1, ex_j dw)]) dX11_drawsMeal_54 (Nat.le_of_ble_eq_true rfl) rfl ?_
    refine X_aload_n (j := 4) dX11_drawsMeal_56 rfl rfl ?_
    refine X_get (j := 0) fo_X11_50 dX11_drawsMeal_57 rfl rfl ?_
    refine X_aload_n (j := 4) dX11_drawsMeal_60 rfl rfl ?_
    refine X_get (j := 0) fo_X11_26 dX11_drawsMeal_61 rfl rfl ?_
    refine X_iload (j := 3) dX11_drawsMeal_64 rfl ?_
    refine X_iload (j := 2) dX11_drawsMeal_66 rfl ?_
    refine X_callV (j0 := 0) (rest := [(x, ex_o 11 [ex_r t, ex_r rd, ex_r c, ex_r kq, ex_r w, ex_r v, ex_r n, ex_r tl, ex_r pa, ex_i (nI pnx), ex_i (nI pln), ex_r ma, ex_r hs, ex_r pp, ex_r pt, ex_r pg, ex_r kr]), (tlf, ex_a 1 6 rfu), (tla, ex_a 1 6 rae), (c17, ex_a 1 360 gf)]) (stk := []) co_X11_328 rfl ⟨(Nat.le_of_ble_eq_true rfl), (Nat.le_of_ble_eq_true rfl)⟩ (e_X8_canEat l tl c w_2.toNatClampNeg w_4.toNatClampNeg rdy rsr ril tlf tla tlh c0 c1 c2 c3 c4 c5 c6 c7 c8 c9 c10 c11 c12 np nd sto res c17 c18 c19 kd sf st co (Nat.lt_of_lt_of_le hl5 hnp) (Nat.lt_of_lt_of_le hl6 hnd)) dX11_drawsMeal_68 [1, 4, 5, 6, 7, 8, 0, 2, 3, 9] (show List.Perm [1, 4, 5, 6, 7, 8, 0, 2, 3, 9] (List.range 10) from by decide) rfl rfl rfl rfl (Nat.le_of_ble_eq_true rfl) (fun zc1 zr hq hk => ?_)
    obtain ⟨rfl, rfl⟩ := hq
    refine X_if_eq (tgt := 92) dX11_drawsMeal_71 (by decide) (fun c_10 => ?_) (fun c_10 => ?_)
    · have hV := hV.trans (if_pos c_10)
      refine X_lload_n (j := 1) dX11_drawsMeal_92 rfl rfl ?_
      try dsimp only at hV
      refine X_re (cs' := [(x, ex_o 11 [ex_r t, ex_r rd, ex_r c, ex_r kq, ex_r w, ex_r v, ex_r n, ex_r tl, ex_r pa, ex_i (nI pnx), ex_i (nI pln), ex_r ma, ex_r hs, ex_r pp, ex_r pt, ex_r pg, ex_r kr]), (tl, ex_o 8 [ex_i rdy, ex_i rsr, ex_i ril, ex_r tlf, ex_r tla, ex_r tlh]), (tlf, ex_a 1 6 rfu), (tla, ex_a 1 6 rae), (c, ex_o 0 [ex_r c0, ex_r c1, ex_r c2, ex_r c3, ex_r c4, ex_r c5, ex_r c6, ex_r c7, ex_r c8, ex_r c9, ex_r c10, ex_r c11, ex_r c12, ex_i (nI np), ex_i (nI nd), ex_i sto, ex_i res, ex_r c17, ex_r c18, ex_r c19]), (c1, ex_a 1 6 kd), (c5, ex_a 1 6 sf), (c6, ex_a 1 6 st), (c11, ex_a 1 5 co), (c17, ex_a 1 360 gf)]) [6, 0, 7, 8, 1, 2, 3, 4, 5, 9] (show List.Perm [6, 0, 7, 8, 1, 2, 3, 4, 5, 9] (List.range 10) from by decide) rfl ?_
      exact X_lret dX11_drawsMeal_93 (by (repeat refine ex_kc ?_) <;> rfl) (by subst hV; exact ⟨rfl, rfl, hdo_w_5⟩)
    · have hV := hV.trans (if_neg c_10)
      refine X_aload_n (j := 4) dX11_drawsMeal_74 rfl rfl ?_
      refine X_get (j := 6) fo_X11_50 dX11_drawsMeal_75 rfl rfl ?_
      refine X_aload_n (j := 4) dX11_drawsMeal_78 rfl rfl ?_
      refine X_get (j := 6) fo_X11_26 dX11_drawsMeal_79 rfl rfl ?_
      refine X_iload (j := 3) dX11_drawsMeal_82 rfl ?_
      refine X_iload (j := 2) dX11_drawsMeal_84 rfl ?_
      refine X_iload (j := 0) dX11_drawsMeal_86 rfl ?_
      refine X_callV (j0 := 0) (rest := [(x, ex_o 11 [ex_r t, ex_r rd, ex_r c, ex_r kq, ex_r w, ex_r v, ex_r n, ex_r tl, ex_r pa, ex_i (nI pnx), ex_i (nI pln), ex_r ma, ex_r hs, ex_r pp, ex_r pt, ex_r pg, ex_r kr])]) (stk := []) co_X11_176 rfl ⟨(Nat.le_of_ble_eq_true rfl), (Nat.le_of_ble_eq_true rfl)⟩ (e_X8_takesMeal l tl c w_2.toNatClampNeg w_4.toNatClampNeg 1 rdy rsr ril tlf tla tlh rfu rae c0 c1 c2 c3 c4 c5 c6 c7 c8 c9 c10 c11 c12 np nd sto res c17 c18 c19 kd sf st co gf (Nat.lt_of_lt_of_le hl5 hnp) (Nat.lt_of_lt_of_le hl6 hnd) hnp) dX11_drawsMeal_88 [0, 7, 8, 1, 2, 3, 4, 5, 9, 6] (show List.Perm [0, 7, 8, 1, 2, 3, 4, 5, 9, 6] (List.range 10) from by decide) rfl rfl rfl rfl (Nat.le_of_ble_eq_true rfl) (fun zc1 zr hq hk => ?_)
      obtain ⟨rfl, rfl⟩ := hq
      try dsimp only at hV
      generalize hq_w_11 : F_X8_takesMeal w_2.toNatClampNeg w_4.toNatClampNeg 1 rdy rsr ril rfu rae np res kd sf st co gf = w_11 at hV ⊢
      try dsimp only at hV
      refine X_pop dX11_drawsMeal_91 rfl ?_
      refine X_lload_n (j := 1) dX11_drawsMeal_92 rfl rfl ?_
      try dsimp only at hV
      refine X_re (cs' := [(x, ex_o 11 [ex_r t, ex_r rd, ex_r c, ex_r kq, ex_r w, ex_r v, ex_r n, ex_r tl, ex_r pa, ex_i (nI pnx), ex_i (nI pln), ex_r ma, ex_r hs, ex_r pp, ex_r pt, ex_r pg, ex_r kr]), (tl, ex_o 8 [ex_i rdy, ex_i w_11.1, ex_i w_11.2.1, ex_r tlf, ex_r tla, ex_r tlh]), (tlf, ex_a 1 6 w_11.2.2.1), (tla, ex_a 1 6 w_11.2.2.2.1), (c, ex_o 0 [ex_r c0, ex_r c1, ex_r c2, ex_r c3, ex_r c4, ex_r c5, ex_r c6, ex_r c7, ex_r c8, ex_r c9, ex_r c10, ex_r c11, ex_r c12, ex_i (nI np), ex_i (nI nd), ex_i sto, ex_i res, ex_r c17, ex_r c18, ex_r c19]), (c1, ex_a 1 6 kd), (c5, ex_a 1 6 sf), (c6, ex_a 1 6 st), (c11, ex_a 1 5 co), (c17, ex_a 1 360 gf)]) [9, 0, 1, 2, 3, 4, 5, 6, 7, 8] (show List.Perm [9, 0, 1, 2, 3, 4, 5, 6, 7, 8] (List.range 10) from by decide) rfl ?_
      exact X_lret dX11_drawsMeal_93 (by (repeat refine ex_kc ?_) <;> rfl) (by subst hV; exact ⟨rfl, rfl, hdo_w_5⟩)

def F_X11_years_L62 (np : Nat) (nd : Nat) (res : Int32) (kd : Nat → Int32) (hg : Nat → Int32) (sf : Nat → Int32) (st : Nat → Int32) (co : Nat → Int32) (gf : Nat → Int32) : Nat → Nat → Int64 → Int32 → Int32 → (Nat → Int32) → (Nat → Int32) → Int32 → Int32 → (Nat → Int32) → Int64 × Int32 × Int32 × (Nat → Int32) × (Nat → Int32) × Int32 × Int32 × (Nat → Int32)
  | 0, k62, dr, s62_1, s62_2, s62_3, s62_4, s62_5, s62_6, s62_7 => (dr, s62_1, s62_2, s62_3, s62_4, s62_5, s62_6, s62_7)
  | zn + 1, k62, dr, s62_1, s62_2, s62_3, s62_4, s62_5, s62_6, s62_7 => ((fun (w_10 : Int64) => ((fun (w_11 : Int32) => (if w_11 = 0 then (if (nI np) ≤ 0 then ((fun (w_21 : Int32 × (Nat → Int32) × (Nat → Int32) × Int32) => F_X11_years_L62 np nd res kd hg sf st co gf zn (k62 + 1) w_10 (s62_1 + w_21.2.2.2) w_21.1 w_21.2.1 w_21.2.2.1 (s62_5 - (s62_5 / 2)) s62_6 s62_7) (F_X8_endsDay s62_2 s62_3 s62_4 np hg)) else (if (nI nd) ≤ 0 then ((fun (w_23 : Int32 × (Nat → Int32) × (Nat → Int32) × Int32) => F_X11_years_L62 np nd res kd hg sf st co gf zn (k62 + 1) w_10 (s62_1 + w_23.2.2.2) w_23.1 w_23.2.1 w_23.2.2.1 (s62_5 - (s62_5 / 2)) s62_6 s62_7) (F_X8_endsDay s62_2 s62_3 s62_4 np hg)) else ((fun (w_25 : Int32 × Int32 × (Nat → Int32) × (Nat → Int32) × Int64) => ((fun (w_26 : Int32 × (Nat → Int32) × (Nat → Int32) × Int32) => F_X11_years_L62 np nd res kd hg sf st co gf zn (k62 + 1) w_25.2.2.2.2 (s62_1 + w_26.2.2.2) w_26.1 w_26.2.1 w_26.2.2.1 w_25.1 w_25.2.1 w_25.2.2.2.1) (F_X8_endsDay s62_2 w_25.2.2.1 s62_4 np hg))) (F_X11_drawsMeal w_10 s62_2 (s62_5 - (s62_5 / 2)) s62_6 s62_3 s62_7 np nd res kd sf st co gf)))) else (if (nI np) ≤ 0 then ((fun (w_14 : Int32 × (Nat → Int32) × (Nat → Int32) × Int32) => F_X11_years_L62 np nd res kd hg sf st co gf zn (k62 + 1) w_10 (s62_1 + w_14.2.2.2) w_14.1 w_14.2.1 w_14.2.2.1 s62_5 s62_6 s62_7) (F_X8_endsDay s62_2 s62_3 s62_4 np hg)) else (if (nI nd) ≤ 0 then ((fun (w_16 : Int32 × (Nat → Int32) × (Nat → Int32) × Int32) => F_X11_years_L62 np nd res kd hg sf st co gf zn (k62 + 1) w_10 (s62_1 + w_16.2.2.2) w_16.1 w_16.2.1 w_16.2.2.1 s62_5 s62_6 s62_7) (F_X8_endsDay s62_2 s62_3 s62_4 np hg)) else ((fun (w_18 : Int32 × Int32 × (Nat → Int32) × (Nat → Int32) × Int64) => ((fun (w_19 : Int32 × (Nat → Int32) × (Nat → Int32) × Int32) => F_X11_years_L62 np nd res kd hg sf st co gf zn (k62 + 1) w_18.2.2.2.2 (s62_1 + w_19.2.2.2) w_19.1 w_19.2.1 w_19.2.2.1 w_18.1 w_18.2.1 w_18.2.2.2.1) (F_X8_endsDay s62_2 w_18.2.2.1 s62_4 np hg))) (F_X11_drawsMeal w_10 s62_2 s62_5 s62_6 s62_3 s62_7 np nd res kd sf st co gf)))))) (F_X11_drawBelow w_10 10))) (F_X11_nextDraw dr))
theorem F_X11_years_L62_z (np : Nat) (nd : Nat) (res : Int32) (kd : Nat → Int32) (hg : Nat → Int32) (sf : Nat → Int32) (st : Nat → Int32) (co : Nat → Int32) (gf : Nat → Int32) (k62 : Nat) (dr : Int64) (s62_1 : Int32) (s62_2 : Int32) (s62_3 : Nat → Int32) (s62_4 : Nat → Int32) (s62_5 : Int32) (s62_6 : Int32) (s62_7 : Nat → Int32) : F_X11_years_L62 np nd res kd hg sf st co gf 0 k62 dr s62_1 s62_2 s62_3 s62_4 s62_5 s62_6 s62_7 = (dr, s62_1, s62_2, s62_3, s62_4, s62_5, s62_6, s62_7) := rfl
theorem F_X11_years_L62_s (np : Nat) (nd : Nat) (res : Int32) (kd : Nat → Int32) (hg : Nat → Int32) (sf : Nat → Int32) (st : Nat → Int32) (co : Nat → Int32) (gf : Nat → Int32) (k62 : Nat) (dr : Int64) (s62_1 : Int32) (s62_2 : Int32) (s62_3 : Nat → Int32) (s62_4 : Nat → Int32) (s62_5 : Int32) (s62_6 : Int32) (s62_7 : Nat → Int32) (zn : Nat) : F_X11_years_L62 np nd res kd hg sf st co gf (zn + 1) k62 dr s62_1 s62_2 s62_3 s62_4 s62_5 s62_6 s62_7 = ((fun (w_10 : Int64) => ((fun (w_11 : Int32) => (if w_11 = 0 then (if (nI np) ≤ 0 then ((fun (w_21 : Int32 × (Nat → Int32) × (Nat → Int32) × Int32) => F_X11_years_L62 np nd res kd hg sf st co gf zn (k62 + 1) w_10 (s62_1 + w_21.2.2.2) w_21.1 w_21.2.1 w_21.2.2.1 (s62_5 - (s62_5 / 2)) s62_6 s62_7) (F_X8_endsDay s62_2 s62_3 s62_4 np hg)) else (if (nI nd) ≤ 0 then ((fun (w_23 : Int32 × (Nat → Int32) × (Nat → Int32) × Int32) => F_X11_years_L62 np nd res kd hg sf st co gf zn (k62 + 1) w_10 (s62_1 + w_23.2.2.2) w_23.1 w_23.2.1 w_23.2.2.1 (s62_5 - (s62_5 / 2)) s62_6 s62_7) (F_X8_endsDay s62_2 s62_3 s62_4 np hg)) else ((fun (w_25 : Int32 × Int32 × (Nat → Int32) × (Nat → Int32) × Int64) => ((fun (w_26 : Int32 × (Nat → Int32) × (Nat → Int32) × Int32) => F_X11_years_L62 np nd res kd hg sf st co gf zn (k62 + 1) w_25.2.2.2.2 (s62_1 + w_26.2.2.2) w_26.1 w_26.2.1 w_26.2.2.1 w_25.1 w_25.2.1 w_25.2.2.2.1) (F_X8_endsDay s62_2 w_25.2.2.1 s62_4 np hg))) (F_X11_drawsMeal w_10 s62_2 (s62_5 - (s62_5 / 2)) s62_6 s62_3 s62_7 np nd res kd sf st co gf)))) else (if (nI np) ≤ 0 then ((fun (w_14 : Int32 × (Nat → Int32) × (Nat → Int32) × Int32) => F_X11_years_L62 np nd res kd hg sf st co gf zn (k62 + 1) w_10 (s62_1 + w_14.2.2.2) w_14.1 w_14.2.1 w_14.2.2.1 s62_5 s62_6 s62_7) (F_X8_endsDay s62_2 s62_3 s62_4 np hg)) else (if (nI nd) ≤ 0 then ((fun (w_16 : Int32 × (Nat → Int32) × (Nat → Int32) × Int32) => F_X11_years_L62 np nd res kd hg sf st co gf zn (k62 + 1) w_10 (s62_1 + w_16.2.2.2) w_16.1 w_16.2.1 w_16.2.2.1 s62_5 s62_6 s62_7) (F_X8_endsDay s62_2 s62_3 s62_4 np hg)) else ((fun (w_18 : Int32 × Int32 × (Nat → Int32) × (Nat → Int32) × Int64) => ((fun (w_19 : Int32 × (Nat → Int32) × (Nat → Int32) × Int32) => F_X11_years_L62 np nd res kd hg sf st co gf zn (k62 + 1) w_18.2.2.2.2 (s62_1 + w_19.2.2.2) w_19.1 w_19.2.1 w_19.2.2.1 w_18.1 w_18.2.1 w_18.2.2.2.1) (F_X8_endsDay s62_2 w_18.2.2.1 s62_4 np hg))) (F_X11_drawsMeal w_10 s62_2 s62_5 s62_6 s62_3 s62_7 np nd res kd sf st co gf)))))) (F_X11_drawBelow w_10 10))) (F_X11_nextDraw dr)) := rfl
def F_X11_years (se : Int32) (dz : Int32) (wt : Int32) (rdy : Int32) (rsr : Int32) (ril : Int32) (rfu : Nat → Int32) (rae : Nat → Int32) (rhu : Nat → Int32) (dy : Int32) (sr : Int32) (il : Int32) (fu : Nat → Int32) (ae : Nat → Int32) (hu : Nat → Int32) (np : Nat) (nd : Nat) (res : Int32) (kd : Nat → Int32) (hg : Nat → Int32) (sf : Nat → Int32) (st : Nat → Int32) (co : Nat → Int32) (gf : Nat → Int32) : Int32 × Int32 × Int32 × (Nat → Int32) × (Nat → Int32) × (Nat → Int32) × Int32 := (if se < 0 then (rdy, rsr, ril, rfu, rae, rhu, (-1)) else (if 9999 < se then (rdy, rsr, ril, rfu, rae, rhu, (-1)) else (if dz < 1 then (rdy, rsr, ril, rfu, rae, rhu, (-1)) else (if 100 < dz then (rdy, rsr, ril, rfu, rae, rhu, (-1)) else (if wt < 0 then (rdy, rsr, ril, rfu, rae, rhu, (-1)) else (if wt ≤ 2 then ((fun (w_7 : Int32 × Int32 × Int32 × (Nat → Int32) × (Nat → Int32) × (Nat → Int32)) => ((fun (v_8 : Int64 × Int32 × Int32 × (Nat → Int32) × (Nat → Int32) × Int32 × Int32 × (Nat → Int32)) => (if wt = 0 then (v_8.2.2.1, v_8.2.2.2.2.2.1, v_8.2.2.2.2.2.2.1, v_8.2.2.2.1, v_8.2.2.2.2.2.2.2, v_8.2.2.2.2.1, v_8.2.1) else (if wt = 1 then (v_8.2.2.1, v_8.2.2.2.2.2.1, v_8.2.2.2.2.2.2.1, v_8.2.2.2.1, v_8.2.2.2.2.2.2.2, v_8.2.2.2.2.1, v_8.2.2.2.2.2.2.1) else (v_8.2.2.1, v_8.2.2.2.2.2.1, v_8.2.2.2.2.2.2.1, v_8.2.2.2.1, v_8.2.2.2.2.2.2.2, v_8.2.2.2.2.1, v_8.2.2.2.2.2.1)))) (F_X11_years_L62 np nd res kd hg sf st co gf (dz.toNatClampNeg - 0) 0 se.toInt64 0 w_7.1 w_7.2.2.2.1 w_7.2.2.2.2.2 w_7.2.1 0 w_7.2.2.2.2.1))) (F_X8_copies rfu rae rhu dy sr il fu ae hu)) else (rdy, rsr, ril, rfu, rae, rhu, (-1))))))))
set_option maxHeartbeats 4000000 in
set_option maxRecDepth 100000 in
theorem e_X11_years (l : Launch) (x : Nat) (se : Int32) (dz : Int32) (wt : Int32) (t : Nat) (rd : Nat) (c : Nat) (kq : Nat) (w : Nat) (v : Nat) (n : Nat) (tl : Nat) (pa : Nat) (pnx : Nat) (pln : Nat) (ma : Nat) (hs : Nat) (pp : Nat) (pt : Nat) (pg : Nat) (kr : Nat) (rdy : Int32) (rsr : Int32) (ril : Int32) (tlf : Nat) (tla : Nat) (tlh : Nat) (rfu : Nat → Int32) (rae : Nat → Int32) (rhu : Nat → Int32) (dy : Int32) (sr : Int32) (il : Int32) (nf : Nat) (na : Nat) (nh : Nat) (fu : Nat → Int32) (ae : Nat → Int32) (hu : Nat → Int32) (c0 : Nat) (c1 : Nat) (c2 : Nat) (c3 : Nat) (c4 : Nat) (c5 : Nat) (c6 : Nat) (c7 : Nat) (c8 : Nat) (c9 : Nat) (c10 : Nat) (c11 : Nat) (c12 : Nat) (np : Nat) (nd : Nat) (sto : Int32) (res : Int32) (c17 : Nat) (c18 : Nat) (c19 : Nat) (kd : Nat → Int32) (hg : Nat → Int32) (sf : Nat → Int32) (st : Nat → Int32) (co : Nat → Int32) (gf : Nat → Int32) (hnp : np ≤ 6) (hnd : nd ≤ 5) : ex_M l yX11_years cX11_years 8 (some .int) 5 124 [ex_r x, ex_i se, ex_i dz, ex_i wt] [(x, ex_o 11 [ex_r t, ex_r rd, ex_r c, ex_r kq, ex_r w, ex_r v, ex_r n, ex_r tl, ex_r pa, ex_i (nI pnx), ex_i (nI pln), ex_r ma, ex_r hs, ex_r pp, ex_r pt, ex_r pg, ex_r kr]), (tl, ex_o 8 [ex_i rdy, ex_i rsr, ex_i ril, ex_r tlf, ex_r tla, ex_r tlh]), (tlf, ex_a 1 6 rfu), (tla, ex_a 1 6 rae), (tlh, ex_a 1 6 rhu), (n, ex_o 8 [ex_i dy, ex_i sr, ex_i il, ex_r nf, ex_r na, ex_r nh]), (nf, ex_a 1 6 fu), (na, ex_a 1 6 ae), (nh, ex_a 1 6 hu), (c, ex_o 0 [ex_r c0, ex_r c1, ex_r c2, ex_r c3, ex_r c4, ex_r c5, ex_r c6, ex_r c7, ex_r c8, ex_r c9, ex_r c10, ex_r c11, ex_r c12, ex_i (nI np), ex_i (nI nd), ex_i sto, ex_i res, ex_r c17, ex_r c18, ex_r c19]), (c1, ex_a 1 6 kd), (c2, ex_a 1 6 hg), (c5, ex_a 1 6 sf), (c6, ex_a 1 6 st), (c11, ex_a 1 5 co), (c17, ex_a 1 360 gf)] (fun zcs zr => zcs = [(x, ex_o 11 [ex_r t, ex_r rd, ex_r c, ex_r kq, ex_r w, ex_r v, ex_r n, ex_r tl, ex_r pa, ex_i (nI pnx), ex_i (nI pln), ex_r ma, ex_r hs, ex_r pp, ex_r pt, ex_r pg, ex_r kr]), (tl, ex_o 8 [ex_i ((F_X11_years se dz wt rdy rsr ril rfu rae rhu dy sr il fu ae hu np nd res kd hg sf st co gf).1), ex_i ((F_X11_years se dz wt rdy rsr ril rfu rae rhu dy sr il fu ae hu np nd res kd hg sf st co gf).2.1), ex_i ((F_X11_years se dz wt rdy rsr ril rfu rae rhu dy sr il fu ae hu np nd res kd hg sf st co gf).2.2.1), ex_r tlf, ex_r tla, ex_r tlh]), (tlf, ex_a 1 6 ((F_X11_years se dz wt rdy rsr ril rfu rae rhu dy sr il fu ae hu np nd res kd hg sf st co gf).2.2.2.1)), (tla, ex_a 1 6 ((F_X11_years se dz wt rdy rsr ril rfu rae rhu dy sr il fu ae hu np nd res kd hg sf st co gf).2.2.2.2.1)), (tlh, ex_a 1 6 ((F_X11_years se dz wt rdy rsr ril rfu rae rhu dy sr il fu ae hu np nd res kd hg sf st co gf).2.2.2.2.2.1)), (n, ex_o 8 [ex_i dy, ex_i sr, ex_i il, ex_r nf, ex_r na, ex_r nh]), (nf, ex_a 1 6 fu), (na, ex_a 1 6 ae), (nh, ex_a 1 6 hu), (c, ex_o 0 [ex_r c0, ex_r c1, ex_r c2, ex_r c3, ex_r c4, ex_r c5, ex_r c6, ex_r c7, ex_r c8, ex_r c9, ex_r c10, ex_r c11, ex_r c12, ex_i (nI np), ex_i (nI nd), ex_i sto, ex_i res, ex_r c17, ex_r c18, ex_r c19]), (c1, ex_a 1 6 kd), (c2, ex_a 1 6 hg), (c5, ex_a 1 6 sf), (c6, ex_a 1 6 st), (c11, ex_a 1 5 co), (c17, ex_a 1 360 gf)] ∧ zr = some (ex_i (F_X11_years se dz wt rdy rsr ril rfu rae rhu dy sr il fu ae hu np nd res kd hg sf st co gf).2.2.2.2.2.2)) := by
  refine X_meth (by decide) (Nat.le_of_ble_eq_true rfl) ?_
  generalize hV : F_X11_years se dz wt rdy rsr ril rfu rae rhu dy sr il fu ae hu np nd res kd hg sf st co gf = V0
  have hV := hV.symm
  unfold F_X11_years at hV
  try dsimp only at hV
  refine X_iload_n (j := 1) dX11_years_0 rfl rfl ?_
  refine X_if_lt (tgt := 31) dX11_years_1 (by decide) (fun c_1 => ?_) (fun c_1 => ?_)
  · have hV := hV.trans (if_pos c_1)
    refine X_iconst (v := (-1)) dX11_years_31 (by decide) ?_
    try dsimp only at hV
    exact X_iret ex_nI rfl dX11_years_32 (by (repeat refine ex_kc ?_) <;> rfl) (by subst hV; exact ⟨rfl, rfl⟩)
  · have hV := hV.trans (if_neg c_1)
    refine X_iload_n (j := 1) dX11_years_4 rfl rfl ?_
    refine X_sipush (v := 9999) dX11_years_5 (by decide) ?_
    refine X_icmp_gt (tgt := 31) dX11_years_8 (by decide) (fun c_2 => ?_) (fun c_2 => ?_)
    · have hV := hV.trans (if_pos c_2)
      refine X_iconst (v := (-1)) dX11_years_31 (by decide) ?_
      try dsimp only at hV
      exact X_iret ex_nI rfl dX11_years_32 (by (repeat refine ex_kc ?_) <;> rfl) (by subst hV; exact ⟨rfl, rfl⟩)
    · have hV := hV.trans (if_neg c_2)
      refine X_iload_n (j := 2) dX11_years_11 rfl rfl ?_
      refine X_iconst (v := 1) dX11_years_12 (by decide) ?_
      refine X_icmp_lt (tgt := 31) dX11_years_13 (by decide) (fun c_3 => ?_) (fun c_3 => ?_)
      · have hV := hV.trans (if_pos c_3)
        refine X_iconst (v := (-1)) dX11_years_31 (by decide) ?_
        try dsimp only at hV
        exact X_iret ex_nI rfl dX11_years_32 (by (repeat refine ex_kc ?_) <;> rfl) (by subst hV; exact ⟨rfl, rfl⟩)
      · have hV := hV.trans (if_neg c_3)
        refine X_iload_n (j := 2) dX11_years_16 rfl rfl ?_
        refine X_bipush (v := 100) dX11_years_17 (by decide) ?_
        refine X_icmp_gt (tgt := 31) dX11_years_19 (by decide) (fun c_4 => ?_) (fun c_4 => ?_)
        · have hV := hV.trans (if_pos c_4)
          refine X_iconst (v := (-1)) dX11_years_31 (by decide) ?_
          try dsimp only at hV
          exact X_iret ex_nI rfl dX11_years_32 (by (repeat refine ex_kc ?_) <;> rfl) (by subst hV; exact ⟨rfl, rfl⟩)
        · have hV := hV.trans (if_neg c_4)
          refine X_iload_n (j := 3) dX11_years_22 rfl rfl ?_
          refine X_if_lt (tgt := 31) dX11_years_23 (by decide) (fun c_5 => ?_) (fun c_5 => ?_)
          · have hV := hV.trans (if_pos c_5)
            refine X_iconst (v := (-1)) dX11_years_31 (by decide) ?_
            try dsimp only at hV
            exact X_iret ex_nI rfl dX11_years_32 (by (repeat refine ex_kc ?_) <;> rfl) (by subst hV; exact ⟨rfl, rfl⟩)
          · have hV := hV.trans (if_neg c_5)
            refine X_iload_n (j := 3) dX11_years_26 rfl rfl ?_
            refine X_iconst (v := 2) dX11_years_27 (by decide) ?_
            refine X_icmp_le (tgt := 33) dX11_years_28 (by decide) (fun c_6 => ?_) (fun c_6 => ?_)
            · have hV := hV.trans (if_pos c_6)
              have hx2 := nI_ofc (lt1 c_3)
              have hl2 := nI_ofle (n := 100) (lt1 c_3) (by decide) c_4
              refine X_eq (cs' := [(x, ex_o 11 [ex_r t, ex_r rd, ex_r c, ex_r kq, ex_r w, ex_r v, ex_r n, ex_r tl, ex_r pa, ex_i (nI pnx), ex_i (nI pln), ex_r ma, ex_r hs, ex_r pp, ex_r pt, ex_r pg, ex_r kr]), (tl, ex_o 8 [ex_i rdy, ex_i rsr, ex_i ril, ex_r tlf, ex_r tla, ex_r tlh]), (tlf, ex_a 1 6 rfu), (tla, ex_a 1 6 rae), (tlh, ex_a 1 6 rhu), (n, ex_o 8 [ex_i dy, ex_i sr, ex_i il, ex_r nf, ex_r na, ex_r nh]), (nf, ex_a 1 6 fu), (na, ex_a 1 6 ae), (nh, ex_a 1 6 hu), (c, ex_o 0 [ex_r c0, ex_r c1, ex_r c2, ex_r c3, ex_r c4, ex_r c5, ex_r c6, ex_r c7, ex_r c8, ex_r c9, ex_r c10, ex_r c11, ex_r c12, ex_i (nI np), ex_i (nI nd), ex_i sto, ex_i res, ex_r c17, ex_r c18, ex_r c19]), (c1, ex_a 1 6 kd), (c2, ex_a 1 6 hg), (c5, ex_a 1 6 sf), (c6, ex_a 1 6 st), (c11, ex_a 1 5 co), (c17, ex_a 1 360 gf)]) (lv' := [(0, ex_r x), (1, ex_i se), (2, ex_i (nI dz.toNatClampNeg)), (3, ex_i wt)]) rfl (by rw [← hx2] <;> rfl) ?_
              have hds : dOK se.toInt64 := seed_ok c_1 c_2
              refine X_aload_n (j := 0) dX11_years_33 rfl rfl ?_
              refine X_get (j := 0) fo_X11_50 dX11_years_34 rfl rfl ?_
              refine X_aload_n (j := 0) dX11_years_37 rfl rfl ?_
              refine X_get (j := 0) fo_X11_46 dX11_years_38 rfl rfl ?_
              refine X_callV (j0 := 0) (rest := [(x, ex_o 11 [ex_r t, ex_r rd, ex_r c, ex_r kq, ex_r w, ex_r v, ex_r n, ex_r tl, ex_r pa, ex_i (nI pnx), ex_i (nI pln), ex_r ma, ex_r hs, ex_r pp, ex_r pt, ex_r pg, ex_r kr]), (c, ex_o 0 [ex_r c0, ex_r c1, ex_r c2, ex_r c3, ex_r c4, ex_r c5, ex_r c6, ex_r c7, ex_r c8, ex_r c9, ex_r c10, ex_r c11, ex_r c12, ex_i (nI np), ex_i (nI nd), ex_i sto, ex_i res, ex_r c17, ex_r c18, ex_r c19]), (c1, ex_a 1 6 kd), (c2, ex_a 1 6 hg), (c5, ex_a 1 6 sf), (c6, ex_a 1 6 st), (c11, ex_a 1 5 co), (c17, ex_a 1 360 gf)]) (stk := []) co_X11_191 rfl ⟨(Nat.le_of_ble_eq_true rfl), (Nat.le_of_ble_eq_true rfl)⟩ (e_X8_copies l tl n rdy rsr ril tlf tla tlh rfu rae rhu dy sr il nf na nh fu ae hu) dX11_years_41 [1, 2, 3, 4, 5, 6, 7, 8, 0, 9, 10, 11, 12, 13, 14, 15] (show List.Perm [1, 2, 3, 4, 5, 6, 7, 8, 0, 9, 10, 11, 12, 13, 14, 15] (List.range 16) from by decide) rfl rfl rfl rfl (Nat.le_of_ble_eq_true rfl) (fun zc1 zr hq hk => ?_)
              obtain ⟨rfl, rfl⟩ := hq
              try dsimp only at hV
              generalize hq_w_7 : F_X8_copies rfu rae rhu dy sr il fu ae hu = w_7 at hV ⊢
              try dsimp only at hV
              refine X_aload_n (j := 0) dX11_years_44 rfl rfl ?_
              refine X_get (j := 8) fo_X11_50 dX11_years_45 rfl rfl ?_
              refine X_iconst (v := 0) dX11_years_48 (by decide) ?_
              refine X_put (j := 0) (cs' := [(tl, ex_o 8 [ex_i w_7.1, ex_i w_7.2.1, ex_i 0, ex_r tlf, ex_r tla, ex_r tlh]), (tlf, ex_a 1 6 w_7.2.2.2.1), (tla, ex_a 1 6 w_7.2.2.2.2.1), (tlh, ex_a 1 6 w_7.2.2.2.2.2), (n, ex_o 8 [ex_i dy, ex_i sr, ex_i il, ex_r nf, ex_r na, ex_r nh]), (nf, ex_a 1 6 fu), (na, ex_a 1 6 ae), (nh, ex_a 1 6 hu), (x, ex_o 11 [ex_r t, ex_r rd, ex_r c, ex_r kq, ex_r w, ex_r v, ex_r n, ex_r tl, ex_r pa, ex_i (nI pnx), ex_i (nI pln), ex_r ma, ex_r hs, ex_r pp, ex_r pt, ex_r pg, ex_r kr]), (c, ex_o 0 [ex_r c0, ex_r c1, ex_r c2, ex_r c3, ex_r c4, ex_r c5, ex_r c6, ex_r c7, ex_r c8, ex_r c9, ex_r c10, ex_r c11, ex_r c12, ex_i (nI np), ex_i (nI nd), ex_i sto, ex_i res, ex_r c17, ex_r c18, ex_r c19]), (c1, ex_a 1 6 kd), (c2, ex_a 1 6 hg), (c5, ex_a 1 6 sf), (c6, ex_a 1 6 st), (c11, ex_a 1 5 co), (c17, ex_a 1 360 gf)]) fo_X11_287 (by decide) dX11_years_49 rfl (Nat.le_of_ble_eq_true rfl) trivial rfl ?_
              refine X_iconst (v := 0) dX11_years_52 (by decide) ?_
              refine X_istore (lv' := [(4, ex_i 0), (0, ex_r x), (1, ex_i se), (2, ex_i (nI dz.toNatClampNeg)), (3, ex_i wt)]) dX11_years_53 (Nat.le_of_ble_eq_true rfl) rfl ?_
              refine X_iload_n (j := 2) dX11_years_55 rfl rfl ?_
              refine X_i2l (v := se.toInt64) dX11_years_56 rfl ?_
              refine X_lstore (lv' := [(5, ex_j se.toInt64), (4, ex_i 0), (0, ex_r x), (1, ex_i se), (2, ex_i (nI dz.toNatClampNeg)), (3, ex_i wt)]) dX11_years_57 (Nat.le_of_ble_eq_true rfl) rfl ?_
              refine X_iconst (v := 0) dX11_years_59 (by decide) ?_
              refine X_istore (lv' := [(7, ex_i 0), (5, ex_j se.toInt64), (4, ex_i 0), (0, ex_r x), (1, ex_i se), (2, ex_i (nI dz.toNatClampNeg)), (3, ex_i wt)]) dX11_years_60 (Nat.le_of_ble_eq_true rfl) rfl ?_
              -- loop at 62
              try dsimp only at hV
              generalize hq_v_8 : F_X11_years_L62 np nd res kd hg sf st co gf (dz.toNatClampNeg - 0) 0 se.toInt64 0 w_7.1 w_7.2.2.2.1 w_7.2.2.2.2.2 w_7.2.1 0 w_7.2.2.2.2.1 = v_8 at hV
              try dsimp only at hV
              refine X_cut (P := True) (csE := [(tl, ex_o 8 [ex_i v_8.2.2.1, ex_i v_8.2.2.2.2.2.1, ex_i v_8.2.2.2.2.2.2.1, ex_r tlf, ex_r tla, ex_r tlh]), (tlf, ex_a 1 6 v_8.2.2.2.1), (tla, ex_a 1 6 v_8.2.2.2.2.2.2.2), (tlh, ex_a 1 6 v_8.2.2.2.2.1), (n, ex_o 8 [ex_i dy, ex_i sr, ex_i il, ex_r nf, ex_r na, ex_r nh]), (nf, ex_a 1 6 fu), (na, ex_a 1 6 ae), (nh, ex_a 1 6 hu), (x, ex_o 11 [ex_r t, ex_r rd, ex_r c, ex_r kq, ex_r w, ex_r v, ex_r n, ex_r tl, ex_r pa, ex_i (nI pnx), ex_i (nI pln), ex_r ma, ex_r hs, ex_r pp, ex_r pt, ex_r pg, ex_r kr]), (c, ex_o 0 [ex_r c0, ex_r c1, ex_r c2, ex_r c3, ex_r c4, ex_r c5, ex_r c6, ex_r c7, ex_r c8, ex_r c9, ex_r c10, ex_r c11, ex_r c12, ex_i (nI np), ex_i (nI nd), ex_i sto, ex_i res, ex_r c17, ex_r c18, ex_r c19]), (c1, ex_a 1 6 kd), (c2, ex_a 1 6 hg), (c5, ex_a 1 6 sf), (c6, ex_a 1 6 st), (c11, ex_a 1 5 co), (c17, ex_a 1 360 gf)]) (lvE := [(5, ex_j v_8.1), (4, ex_i v_8.2.1), (0, ex_r x), (1, ex_i se), (2, ex_i (nI dz.toNatClampNeg)), (3, ex_i wt)]) (E := 156) (fun hrest62 => ?_) (fun hPX62 => ?_)
              · have hL62 := hq_v_8.symm
                refine X_ind (fun (a62 : Nat × Int64 × Int32 × Int32 × (Nat → Int32) × (Nat → Int32) × Int32 × Int32 × (Nat → Int32)) => v_8 = F_X11_years_L62 np nd res kd hg sf st co gf (dz.toNatClampNeg - a62.1) a62.1 a62.2.1 a62.2.2.1 a62.2.2.2.1 a62.2.2.2.2.1 a62.2.2.2.2.2.1 a62.2.2.2.2.2.2.1 a62.2.2.2.2.2.2.2.1 a62.2.2.2.2.2.2.2.2 ∧ a62.1 ≤ dz.toNatClampNeg ∧ dOK a62.2.1) (fun (a62 : Nat × Int64 × Int32 × Int32 × (Nat → Int32) × (Nat → Int32) × Int32 × Int32 × (Nat → Int32)) => dz.toNatClampNeg - a62.1) (fun (a62 : Nat × Int64 × Int32 × Int32 × (Nat → Int32) × (Nat → Int32) × Int32 × Int32 × (Nat → Int32)) => [(tl, ex_o 8 [ex_i a62.2.2.2.1, ex_i a62.2.2.2.2.2.2.1, ex_i a62.2.2.2.2.2.2.2.1, ex_r tlf, ex_r tla, ex_r tlh]), (tlf, ex_a 1 6 a62.2.2.2.2.1), (tla, ex_a 1 6 a62.2.2.2.2.2.2.2.2), (tlh, ex_a 1 6 a62.2.2.2.2.2.1), (n, ex_o 8 [ex_i dy, ex_i sr, ex_i il, ex_r nf, ex_r na, ex_r nh]), (nf, ex_a 1 6 fu), (na, ex_a 1 6 ae), (nh, ex_a 1 6 hu), (x, ex_o 11 [ex_r t, ex_r rd, ex_r c, ex_r kq, ex_r w, ex_r v, ex_r n, ex_r tl, ex_r pa, ex_i (nI pnx), ex_i (nI pln), ex_r ma, ex_r hs, ex_r pp, ex_r pt, ex_r pg, ex_r kr]), (c, ex_o 0 [ex_r c0, ex_r c1, ex_r c2, ex_r c3, ex_r c4, ex_r c5, ex_r c6, ex_r c7, ex_r c8, ex_r c9, ex_r c10, ex_r c11, ex_r c12, ex_i (nI np), ex_i (nI nd), ex_i sto, ex_i res, ex_r c17, ex_r c18, ex_r c19]), (c1, ex_a 1 6 kd), (c2, ex_a 1 6 hg), (c5, ex_a 1 6 sf), (c6, ex_a 1 6 st), (c11, ex_a 1 5 co), (c17, ex_a 1 360 gf)]) (fun (a62 : Nat × Int64 × Int32 × Int32 × (Nat → Int32) × (Nat → Int32) × Int32 × Int32 × (Nat → Int32)) => [(7, ex_i (nI a62.1)), (5, ex_j a62.2.1), (4, ex_i a62.2.2.1), (0, ex_r x), (1, ex_i se), (2, ex_i (nI dz.toNatClampNeg)), (3, ex_i wt)]) (fun ⟨k62, dr, s62_1, s62_2, s62_3, s62_4, s62_5, s62_6, s62_7⟩ hI62 ih62 => ?_) (0, se.toInt64, 0, w_7.1, w_7.2.2.2.1, w_7.2.2.2.2.2, w_7.2.1, 0, w_7.2.2.2.2.1) ⟨hL62, (by omega), hds⟩
                try dsimp only at hI62 ih62 ⊢
                have ihc62 : ∀ (k62_ : Nat) (dr_ : Int64) (s62_1_ : Int32) (s62_2_ : Int32) (s62_3_ : Nat → Int32) (s62_4_ : Nat → Int32) (s62_5_ : Int32) (s62_6_ : Int32) (s62_7_ : Nat → Int32), (v_8 = F_X11_years_L62 np nd res kd hg sf st co gf (dz.toNatClampNeg - k62_) k62_ dr_ s62_1_ s62_2_ s62_3_ s62_4_ s62_5_ s62_6_ s62_7_ ∧ k62_ ≤ dz.toNatClampNeg ∧ dOK dr_) → (dz.toNatClampNeg - k62_) < (dz.toNatClampNeg - k62) → ex_O _ _ _ _ _ _ _ _ _ [(tl, ex_o 8 [ex_i s62_2_, ex_i s62_5_, ex_i s62_6_, ex_r tlf, ex_r tla, ex_r tlh]), (tlf, ex_a 1 6 s62_3_), (tla, ex_a 1 6 s62_7_), (tlh, ex_a 1 6 s62_4_), (n, ex_o 8 [ex_i dy, ex_i sr, ex_i il, ex_r nf, ex_r na, ex_r nh]), (nf, ex_a 1 6 fu), (na, ex_a 1 6 ae), (nh, ex_a 1 6 hu), (x, ex_o 11 [ex_r t, ex_r rd, ex_r c, ex_r kq, ex_r w, ex_r v, ex_r n, ex_r tl, ex_r pa, ex_i (nI pnx), ex_i (nI pln), ex_r ma, ex_r hs, ex_r pp, ex_r pt, ex_r pg, ex_r kr]), (c, ex_o 0 [ex_r c0, ex_r c1, ex_r c2, ex_r c3, ex_r c4, ex_r c5, ex_r c6, ex_r c7, ex_r c8, ex_r c9, ex_r c10, ex_r c11, ex_r c12, ex_i (nI np), ex_i (nI nd), ex_i sto, ex_i res, ex_r c17, ex_r c18, ex_r c19]), (c1, ex_a 1 6 kd), (c2, ex_a 1 6 hg), (c5, ex_a 1 6 sf), (c6, ex_a 1 6 st), (c11, ex_a 1 5 co), (c17, ex_a 1 360 gf)] [(7, ex_i (nI k62_)), (5, ex_j dr_), (4, ex_i s62_1_), (0, ex_r x), (1, ex_i se), (2, ex_i (nI dz.toNatClampNeg)), (3, ex_i wt)] _ _ := fun k62_ dr_ s62_1_ s62_2_ s62_3_ s62_4_ s62_5_ s62_6_ s62_7_ hi_ hm_ => ih62 (k62_, dr_, s62_1_, s62_2_, s62_3_, s62_4_, s62_5_, s62_6_, s62_7_) hi_ hm_
                have hL62 := hI62.1
                have hb62 := hI62.2.1
                have hdr := hI62.2.2
                refine X_iload (j := 0) dX11_years_62 rfl ?_
                refine X_iload_n (j := 5) dX11_years_64 rfl rfl ?_
                refine X_icmp_ge (tgt := 156) dX11_years_65 (by decide) (fun c_9 => ?_) (fun c_9 => ?_)
                · have hlt62 : k62 = dz.toNatClampNeg := nlex (L := dz.toNatClampNeg) (by omega) hb62 c_9
                  rw [show dz.toNatClampNeg - k62 = 0 by omega] at hL62
                  have hL62 := hL62.trans (F_X11_years_L62_z ..)
                  try dsimp only at hL62
                  refine X_lv (lv' := [(5, ex_j dr), (4, ex_i s62_1), (0, ex_r x), (1, ex_i se), (2, ex_i (nI dz.toNatClampNeg)), (3, ex_i wt)]) [1, 2, 3, 4, 5, 6] rfl ?_
                  refine X_eq (cs' := [(tl, ex_o 8 [ex_i v_8.2.2.1, ex_i v_8.2.2.2.2.2.1, ex_i v_8.2.2.2.2.2.2.1, ex_r tlf, ex_r tla, ex_r tlh]), (tlf, ex_a 1 6 v_8.2.2.2.1), (tla, ex_a 1 6 v_8.2.2.2.2.2.2.2), (tlh, ex_a 1 6 v_8.2.2.2.2.1), (n, ex_o 8 [ex_i dy, ex_i sr, ex_i il, ex_r nf, ex_r na, ex_r nh]), (nf, ex_a 1 6 fu), (na, ex_a 1 6 ae), (nh, ex_a 1 6 hu), (x, ex_o 11 [ex_r t, ex_r rd, ex_r c, ex_r kq, ex_r w, ex_r v, ex_r n, ex_r tl, ex_r pa, ex_i (nI pnx), ex_i (nI pln), ex_r ma, ex_r hs, ex_r pp, ex_r pt, ex_r pg, ex_r kr]), (c, ex_o 0 [ex_r c0, ex_r c1, ex_r c2, ex_r c3, ex_r c4, ex_r c5, ex_r c6, ex_r c7, ex_r c8, ex_r c9, ex_r c10, ex_r c11, ex_r c12, ex_i (nI np), ex_i (nI nd), ex_i sto, ex_i res, ex_r c17, ex_r c18, ex_r c19]), (c1, ex_a 1 6 kd), (c2, ex_a 1 6 hg), (c5, ex_a 1 6 sf), (c6, ex_a 1 6 st), (c11, ex_a 1 5 co), (c17, ex_a 1 360 gf)]) (lv' := [(5, ex_j v_8.1), (4, ex_i v_8.2.1), (0, ex_r x), (1, ex_i se), (2, ex_i (nI dz.toNatClampNeg)), (3, ex_i wt)]) (by subst hL62; rfl) (by subst hL62; rfl) ?_
                  exact hrest62 trivial
                · have hlt62 : k62 < dz.toNatClampNeg := nlen (L := dz.toNatClampNeg) (by omega) hb62 c_9
                  rw [show dz.toNatClampNeg - k62 = (dz.toNatClampNeg - (k62 + 1)) + 1 by omega] at hL62
                  have hL62 := hL62.trans (F_X11_years_L62_s ..)
                  refine X_lload (j := 1) dX11_years_68 rfl ?_
                  refine X_callS (rest := [(tl, ex_o 8 [ex_i s62_2, ex_i s62_5, ex_i s62_6, ex_r tlf, ex_r tla, ex_r tlh]), (tlf, ex_a 1 6 s62_3), (tla, ex_a 1 6 s62_7), (tlh, ex_a 1 6 s62_4), (n, ex_o 8 [ex_i dy, ex_i sr, ex_i il, ex_r nf, ex_r na, ex_r nh]), (nf, ex_a 1 6 fu), (na, ex_a 1 6 ae), (nh, ex_a 1 6 hu), (x, ex_o 11 [ex_r t, ex_r rd, ex_r c, ex_r kq, ex_r w, ex_r v, ex_r n, ex_r tl, ex_r pa, ex_i (nI pnx), ex_i (nI pln), ex_r ma, ex_r hs, ex_r pp, ex_r pt, ex_r pg, ex_r kr]), (c, ex_o 0 [ex_r c0, ex_r c1, ex_r c2, ex_r c3, ex_r c4, ex_r c5, ex_r c6, ex_r c7, ex_r c8, ex_r c9, ex_r c10, ex_r c11, ex_r c12, ex_i (nI np), ex_i (nI nd), ex_i sto, ex_i res, ex_r c17, ex_r c18, ex_r c19]), (c1, ex_a 1 6 kd), (c2, ex_a 1 6 hg), (c5, ex_a 1 6 sf), (c6, ex_a 1 6 st), (c11, ex_a 1 5 co), (c17, ex_a 1 360 gf)]) (stk := []) co_X11_290 rfl ⟨(Nat.le_of_ble_eq_true rfl), (Nat.le_of_ble_eq_true rfl)⟩ (e_X11_nextDraw l dr) dX11_years_70 [0, 1, 2, 3, 4, 5, 6, 7, 8, 9, 10, 11, 12, 13, 14, 15] (show List.Perm [0, 1, 2, 3, 4, 5, 6, 7, 8, 9, 10, 11, 12, 13, 14, 15] (List.range 16) from by decide) rfl rfl rfl (Nat.le_of_ble_eq_true rfl) (fun zc1 zr hq hk => ?_)
                  obtain ⟨rfl, rfl⟩ := hq
                  try dsimp only at hL62
                  generalize hq_w_10 : F_X11_nextDraw dr = w_10 at hL62 ⊢
                  try dsimp only at hL62
                  have hdo_w_10 : dOK w_10 := by rw [← hq_w_10]; exact nd_ok hdr
                  refine X_lstore (lv' := [(5, ex_j w_10), (7, ex_i (nI k62)), (4, ex_i s62_1), (0, ex_r x), (1, ex_i se), (2, ex_i (nI dz.toNatClampNeg)), (3, ex_i wt)]) dX11_years_73 (Nat.le_of_ble_eq_true rfl) rfl ?_
                  refine X_lload (j := 0) dX11_years_75 rfl ?_
                  refine X_bipush (v := 10) dX11_years_77 (by decide) ?_
                  refine X_callS (rest := [(tl, ex_o 8 [ex_i s62_2, ex_i s62_5, ex_i s62_6, ex_r tlf, ex_r tla, ex_r tlh]), (tlf, ex_a 1 6 s62_3), (tla, ex_a 1 6 s62_7), (tlh, ex_a 1 6 s62_4), (n, ex_o 8 [ex_i dy, ex_i sr, ex_i il, ex_r nf, ex_r na, ex_r nh]), (nf, ex_a 1 6 fu), (na, ex_a 1 6 ae), (nh, ex_a 1 6 hu), (x, ex_o 11 [ex_r t, ex_r rd, ex_r c, ex_r kq, ex_r w, ex_r v, ex_r n, ex_r tl, ex_r pa, ex_i (nI pnx), ex_i (nI pln), ex_r ma, ex_r hs, ex_r pp, ex_r pt, ex_r pg, ex_r kr]), (c, ex_o 0 [ex_r c0, ex_r c1, ex_r c2, ex_r c3, ex_r c4, ex_r c5, ex_r c6, ex_r c7, ex_r c8, ex_r c9, ex_r c10, ex_r c11, ex_r c12, ex_i (nI np), ex_i (nI nd), ex_i sto, ex_i res, ex_r c17, ex_r c18, ex_r c19]), (c1, ex_a 1 6 kd), (c2, ex_a 1 6 hg), (c5, ex_a 1 6 sf), (c6, ex_a 1 6 st), (c11, ex_a 1 5 co), (c17, ex_a 1 360 gf)]) (stk := []) co_X11_294 rfl ⟨(Nat.le_of_ble_eq_true rfl), (Nat.le_of_ble_eq_true rfl)⟩ (e_X11_drawBelow l w_10 10 (by first | assumption | omega)) dX11_years_79 [0, 1, 2, 3, 4, 5, 6, 7, 8, 9, 10, 11, 12, 13, 14, 15] (show List.Perm [0, 1, 2, 3, 4, 5, 6, 7, 8, 9, 10, 11, 12, 13, 14, 15] (List.range 16) from by decide) rfl rfl rfl (Nat.le_of_ble_eq_true rfl) (fun zc1 zr hq hk => ?_)
                  obtain ⟨rfl, rfl⟩ := hq
                  try dsimp only at hL62
                  generalize hq_w_11 : F_X11_drawBelow w_10 10 = w_11 at hL62 ⊢
                  try dsimp only at hL62
                  refine X_if_ne (tgt := 106) dX11_years_82 (by decide) (fun c_12 => ?_) (fun c_12 => ?_)
                  · have hL62 := hL62.trans (if_neg c_12)
                    refine X_aload_n (j := 3) dX11_years_106 rfl rfl ?_
                    refine X_get (j := 8) fo_X11_26 dX11_years_107 rfl rfl ?_
                    refine X_get (j := 9) fo_X11_298 dX11_years_110 rfl rfl ?_
                    refine X_if_le (tgt := 134) dX11_years_113 (by decide) (fun c_13 => ?_) (fun c_13 => ?_)
                    · have hL62 := hL62.trans (if_pos c_13)
                      refine X_iload (j := 2) dX11_years_134 rfl ?_
                      refine X_aload_n (j := 3) dX11_years_136 rfl rfl ?_
                      refine X_get (j := 8) fo_X11_50 dX11_years_137 rfl rfl ?_
                      refine X_aload_n (j := 3) dX11_years_140 rfl rfl ?_
                      refine X_get (j := 8) fo_X11_26 dX11_years_141 rfl rfl ?_
                      refine X_callV (j0 := 0) (rest := [(tla, ex_a 1 6 s62_7), (n, ex_o 8 [ex_i dy, ex_i sr, ex_i il, ex_r nf, ex_r na, ex_r nh]), (nf, ex_a 1 6 fu), (na, ex_a 1 6 ae), (nh, ex_a 1 6 hu), (x, ex_o 11 [ex_r t, ex_r rd, ex_r c, ex_r kq, ex_r w, ex_r v, ex_r n, ex_r tl, ex_r pa, ex_i (nI pnx), ex_i (nI pln), ex_r ma, ex_r hs, ex_r pp, ex_r pt, ex_r pg, ex_r kr]), (c1, ex_a 1 6 kd), (c5, ex_a 1 6 sf), (c6, ex_a 1 6 st), (c11, ex_a 1 5 co), (c17, ex_a 1 360 gf)]) (stk := [ex_i s62_1]) co_X11_180 rfl ⟨(Nat.le_of_ble_eq_true rfl), (Nat.le_of_ble_eq_true rfl)⟩ (e_X8_endsDay l tl c s62_2 s62_5 s62_6 tlf tla tlh s62_3 s62_4 c0 c1 c2 c3 c4 c5 c6 c7 c8 c9 c10 c11 c12 np nd sto res c17 c18 c19 hg (by first | assumption | omega)) dX11_years_144 [0, 1, 3, 9, 11, 2, 4, 5, 6, 7, 8, 10, 12, 13, 14, 15] (show List.Perm [0, 1, 3, 9, 11, 2, 4, 5, 6, 7, 8, 10, 12, 13, 14, 15] (List.range 16) from by decide) rfl rfl rfl rfl (Nat.le_of_ble_eq_true rfl) (fun zc1 zr hq hk => ?_)
                      obtain ⟨rfl, rfl⟩ := hq
                      try dsimp only at hL62
                      generalize hq_w_14 : F_X8_endsDay s62_2 s62_3 s62_4 np hg = w_14 at hL62 ⊢
                      try dsimp only at hL62
                      refine X_iadd (v := (s62_1 + w_14.2.2.2)) dX11_years_147 rfl ?_
                      refine X_istore (lv' := [(4, ex_i (s62_1 + w_14.2.2.2)), (5, ex_j w_10), (7, ex_i (nI k62)), (0, ex_r x), (1, ex_i se), (2, ex_i (nI dz.toNatClampNeg)), (3, ex_i wt)]) dX11_years_148 (Nat.le_of_ble_eq_true rfl) rfl ?_
                      refine X_iinc (v := nI (k62 + 1)) (j := 2) (lv' := [(7, ex_i (nI (k62 + 1))), (4, ex_i (s62_1 + w_14.2.2.2)), (5, ex_j w_10), (0, ex_r x), (1, ex_i se), (2, ex_i (nI dz.toNatClampNeg)), (3, ex_i wt)]) dX11_years_150 rfl (nI_add k62 1) (Nat.le_of_ble_eq_true rfl) rfl ?_
                      refine X_goto (tgt := 62) dX11_years_153 (by decide) ?_
                      try dsimp only at hL62
                      refine X_re (cs' := [(tl, ex_o 8 [ex_i w_14.1, ex_i s62_5, ex_i s62_6, ex_r tlf, ex_r tla, ex_r tlh]), (tlf, ex_a 1 6 w_14.2.1), (tla, ex_a 1 6 s62_7), (tlh, ex_a 1 6 w_14.2.2.1), (n, ex_o 8 [ex_i dy, ex_i sr, ex_i il, ex_r nf, ex_r na, ex_r nh]), (nf, ex_a 1 6 fu), (na, ex_a 1 6 ae), (nh, ex_a 1 6 hu), (x, ex_o 11 [ex_r t, ex_r rd, ex_r c, ex_r kq, ex_r w, ex_r v, ex_r n, ex_r tl, ex_r pa, ex_i (nI pnx), ex_i (nI pln), ex_r ma, ex_r hs, ex_r pp, ex_r pt, ex_r pg, ex_r kr]), (c, ex_o 0 [ex_r c0, ex_r c1, ex_r c2, ex_r c3, ex_r c4, ex_r c5, ex_r c6, ex_r c7, ex_r c8, ex_r c9, ex_r c10, ex_r c11, ex_r c12, ex_i (nI np), ex_i (nI nd), ex_i sto, ex_i res, ex_r c17, ex_r c18, ex_r c19]), (c1, ex_a 1 6 kd), (c2, ex_a 1 6 hg), (c5, ex_a 1 6 sf), (c6, ex_a 1 6 st), (c11, ex_a 1 5 co), (c17, ex_a 1 360 gf)]) [0, 1, 5, 2, 6, 7, 8, 9, 10, 3, 11, 4, 12, 13, 14, 15] (show List.Perm [0, 1, 5, 2, 6, 7, 8, 9, 10, 3, 11, 4, 12, 13, 14, 15] (List.range 16) from by decide) rfl ?_
                      refine X_lv (lv' := [(7, ex_i (nI (k62 + 1))), (5, ex_j w_10), (4, ex_i (s62_1 + w_14.2.2.2)), (0, ex_r x), (1, ex_i se), (2, ex_i (nI dz.toNatClampNeg)), (3, ex_i wt)]) [0, 2, 1, 3, 4, 5, 6] rfl ?_
                      exact ihc62 (k62 + 1) w_10 (s62_1 + w_14.2.2.2) w_14.1 w_14.2.1 w_14.2.2.1 s62_5 s62_6 s62_7 ⟨hL62, (show (k62 + 1) ≤ dz.toNatClampNeg by omega), hdo_w_10⟩ (show dz.toNatClampNeg - (k62 + 1) < dz.toNatClampNeg - k62 by omega)
                    · have hL62 := hL62.trans (if_neg c_13)
                      refine X_aload_n (j := 3) dX11_years_116 rfl rfl ?_
                      refine X_get (j := 8) fo_X11_26 dX11_years_117 rfl rfl ?_
                      refine X_get (j := 9) fo_X11_301 dX11_years_120 rfl rfl ?_
                      refine X_if_le (tgt := 134) dX11_years_123 (by decide) (fun c_15 => ?_) (fun c_15 => ?_)
                      · have hL62 := hL62.trans (if_pos c_15)
                        refine X_iload (j := 2) dX11_years_134 rfl ?_
                        refine X_aload_n (j := 3) dX11_years_136 rfl rfl ?_
                        refine X_get (j := 8) fo_X11_50 dX11_years_137 rfl rfl ?_
                        refine X_aload_n (j := 3) dX11_years_140 rfl rfl ?_
                        refine X_get (j := 8) fo_X11_26 dX11_years_141 rfl rfl ?_
                        refine X_callV (j0 := 0) (rest := [(tla, ex_a 1 6 s62_7), (n, ex_o 8 [ex_i dy, ex_i sr, ex_i il, ex_r nf, ex_r na, ex_r nh]), (nf, ex_a 1 6 fu), (na, ex_a 1 6 ae), (nh, ex_a 1 6 hu), (x, ex_o 11 [ex_r t, ex_r rd, ex_r c, ex_r kq, ex_r w, ex_r v, ex_r n, ex_r tl, ex_r pa, ex_i (nI pnx), ex_i (nI pln), ex_r ma, ex_r hs, ex_r pp, ex_r pt, ex_r pg, ex_r kr]), (c1, ex_a 1 6 kd), (c5, ex_a 1 6 sf), (c6, ex_a 1 6 st), (c11, ex_a 1 5 co), (c17, ex_a 1 360 gf)]) (stk := [ex_i s62_1]) co_X11_180 rfl ⟨(Nat.le_of_ble_eq_true rfl), (Nat.le_of_ble_eq_true rfl)⟩ (e_X8_endsDay l tl c s62_2 s62_5 s62_6 tlf tla tlh s62_3 s62_4 c0 c1 c2 c3 c4 c5 c6 c7 c8 c9 c10 c11 c12 np nd sto res c17 c18 c19 hg (by first | assumption | omega)) dX11_years_144 [0, 1, 3, 9, 11, 2, 4, 5, 6, 7, 8, 10, 12, 13, 14, 15] (show List.Perm [0, 1, 3, 9, 11, 2, 4, 5, 6, 7, 8, 10, 12, 13, 14, 15] (List.range 16) from by decide) rfl rfl rfl rfl (Nat.le_of_ble_eq_true rfl) (fun zc1 zr hq hk => ?_)
                        obtain ⟨rfl, rfl⟩ := hq
                        try dsimp only at hL62
                        generalize hq_w_16 : F_X8_endsDay s62_2 s62_3 s62_4 np hg = w_16 at hL62 ⊢
                        try dsimp only at hL62
                        refine X_iadd (v := (s62_1 + w_16.2.2.2)) dX11_years_147 rfl ?_
                        refine X_istore (lv' := [(4, ex_i (s62_1 + w_16.2.2.2)), (5, ex_j w_10), (7, ex_i (nI k62)), (0, ex_r x), (1, ex_i se), (2, ex_i (nI dz.toNatClampNeg)), (3, ex_i wt)]) dX11_years_148 (Nat.le_of_ble_eq_true rfl) rfl ?_
                        refine X_iinc (v := nI (k62 + 1)) (j := 2) (lv' := [(7, ex_i (nI (k62 + 1))), (4, ex_i (s62_1 + w_16.2.2.2)), (5, ex_j w_10), (0, ex_r x), (1, ex_i se), (2, ex_i (nI dz.toNatClampNeg)), (3, ex_i wt)]) dX11_years_150 rfl (nI_add k62 1) (Nat.le_of_ble_eq_true rfl) rfl ?_
                        refine X_goto (tgt := 62) dX11_years_153 (by decide) ?_
                        try dsimp only at hL62
                        refine X_re (cs' := [(tl, ex_o 8 [ex_i w_16.1, ex_i s62_5, ex_i s62_6, ex_r tlf, ex_r tla, ex_r tlh]), (tlf, ex_a 1 6 w_16.2.1), (tla, ex_a 1 6 s62_7), (tlh, ex_a 1 6 w_16.2.2.1), (n, ex_o 8 [ex_i dy, ex_i sr, ex_i il, ex_r nf, ex_r na, ex_r nh]), (nf, ex_a 1 6 fu), (na, ex_a 1 6 ae), (nh, ex_a 1 6 hu), (x, ex_o 11 [ex_r t, ex_r rd, ex_r c, ex_r kq, ex_r w, ex_r v, ex_r n, ex_r tl, ex_r pa, ex_i (nI pnx), ex_i (nI pln), ex_r ma, ex_r hs, ex_r pp, ex_r pt, ex_r pg, ex_r kr]), (c, ex_o 0 [ex_r c0, ex_r c1, ex_r c2, ex_r c3, ex_r c4, ex_r c5, ex_r c6, ex_r c7, ex_r c8, ex_r c9, ex_r c10, ex_r c11, ex_r c12, ex_i (nI np), ex_i (nI nd), ex_i sto, ex_i res, ex_r c17, ex_r c18, ex_r c19]), (c1, ex_a 1 6 kd), (c2, ex_a 1 6 hg), (c5, ex_a 1 6 sf), (c6, ex_a 1 6 st), (c11, ex_a 1 5 co), (c17, ex_a 1 360 gf)]) [0, 1, 5, 2, 6, 7, 8, 9, 10, 3, 11, 4, 12, 13, 14, 15] (show List.Perm [0, 1, 5, 2, 6, 7, 8, 9, 10, 3, 11, 4, 12, 13, 14, 15] (List.range 16) from by decide) rfl ?_
                        refine X_lv (lv' := [(7, ex_i (nI (k62 + 1))), (5, ex_j w_10), (4, ex_i (s62_1 + w_16.2.2.2)), (0, ex_r x), (1, ex_i se), (2, ex_i (nI dz.toNatClampNeg)), (3, ex_i wt)]) [0, 2, 1, 3, 4, 5, 6] rfl ?_
                        exact ihc62 (k62 + 1) w_10 (s62_1 + w_16.2.2.2) w_16.1 w_16.2.1 w_16.2.2.1 s62_5 s62_6 s62_7 ⟨hL62, (show (k62 + 1) ≤ dz.toNatClampNeg by omega), hdo_w_10⟩ (show dz.toNatClampNeg - (k62 + 1) < dz.toNatClampNeg - k62 by omega)
                      · have hL62 := hL62.trans (if_neg c_15)
                        have h0p : 0 < np := nI_gt (a := 0) (by decide) c_13
                        have h0d : 0 < nd := nI_gt (a := 0) (by decide) c_15
                        refine X_aload_n (j := 3) dX11_years_126 rfl rfl ?_
                        refine X_lload (j := 0) dX11_years_127 rfl ?_
                        refine X_callV (j0 := 0) (rest := [(tlh, ex_a 1 6 s62_4), (n, ex_o 8 [ex_i dy, ex_i sr, ex_i il, ex_r nf, ex_r na, ex_r nh]), (nf, ex_a 1 6 fu), (na, ex_a 1 6 ae), (nh, ex_a 1 6 hu), (c2, ex_a 1 6 hg)]) (stk := []) co_X11_304 rfl ⟨(Nat.le_of_ble_eq_true rfl), (Nat.le_of_ble_eq_true rfl)⟩ (e_X11_drawsMeal l x w_10 t rd c kq w v n tl pa pnx pln ma hs pp pt pg kr s62_2 s62_5 s62_6 tlf tla tlh s62_3 s62_7 c0 c1 c2 c3 c4 c5 c6 c7 c8 c9 c10 c11 c12 np nd sto res c17 c18 c19 kd sf st co gf (by first | assumption | omega) (by first | assumption | omega) (by first | assumption | omega) (by first | assumption | omega) hdo_w_10) dX11_years_129 [8, 0, 1, 2, 9, 10, 12, 13, 14, 15, 3, 4, 5, 6, 7, 11] (show List.Perm [8, 0, 1, 2, 9, 10, 12, 13, 14, 15, 3, 4, 5, 6, 7, 11] (List.range 16) from by decide) rfl rfl rfl rfl (Nat.le_of_ble_eq_true rfl) (fun zc1 zr hq hk => ?_)
                        obtain ⟨rfl, rfl, he0_e_17⟩ := hq
                        try dsimp only at hL62
                        generalize hq_w_18 : F_X11_drawsMeal w_10 s62_2 s62_5 s62_6 s62_3 s62_7 np nd res kd sf st co gf = w_18 at hL62 he0_e_17 ⊢
                        try dsimp only at hL62
                        refine X_lstore (lv' := [(5, ex_j w_18.2.2.2.2), (7, ex_i (nI k62)), (4, ex_i s62_1), (0, ex_r x), (1, ex_i se), (2, ex_i (nI dz.toNatClampNeg)), (3, ex_i wt)]) dX11_years_132 (Nat.le_of_ble_eq_true rfl) rfl ?_
                        refine X_iload (j := 2) dX11_years_134 rfl ?_
                        refine X_aload_n (j := 3) dX11_years_136 rfl rfl ?_
                        refine X_get (j := 0) fo_X11_50 dX11_years_137 rfl rfl ?_
                        refine X_aload_n (j := 3) dX11_years_140 rfl rfl ?_
                        refine X_get (j := 0) fo_X11_26 dX11_years_141 rfl rfl ?_
                        refine X_callV (j0 := 0) (rest := [(x, ex_o 11 [ex_r t, ex_r rd, ex_r c, ex_r kq, ex_r w, ex_r v, ex_r n, ex_r tl, ex_r pa, ex_i (nI pnx), ex_i (nI pln), ex_r ma, ex_r hs, ex_r pp, ex_r pt, ex_r pg, ex_r kr]), (tla, ex_a 1 6 w_18.2.2.2.1), (c1, ex_a 1 6 kd), (c5, ex_a 1 6 sf), (c6, ex_a 1 6 st), (c11, ex_a 1 5 co), (c17, ex_a 1 360 gf), (n, ex_o 8 [ex_i dy, ex_i sr, ex_i il, ex_r nf, ex_r na, ex_r nh]), (nf, ex_a 1 6 fu), (na, ex_a 1 6 ae), (nh, ex_a 1 6 hu)]) (stk := [ex_i s62_1]) co_X11_180 rfl ⟨(Nat.le_of_ble_eq_true rfl), (Nat.le_of_ble_eq_true rfl)⟩ (e_X8_endsDay l tl c s62_2 w_18.1 w_18.2.1 tlf tla tlh w_18.2.2.1 s62_4 c0 c1 c2 c3 c4 c5 c6 c7 c8 c9 c10 c11 c12 np nd sto res c17 c18 c19 hg (by first | assumption | omega)) dX11_years_144 [1, 2, 10, 4, 15, 0, 3, 5, 6, 7, 8, 9, 11, 12, 13, 14] (show List.Perm [1, 2, 10, 4, 15, 0, 3, 5, 6, 7, 8, 9, 11, 12, 13, 14] (List.range 16) from by decide) rfl rfl rfl rfl (Nat.le_of_ble_eq_true rfl) (fun zc1 zr hq hk => ?_)
                        obtain ⟨rfl, rfl⟩ := hq
                        try dsimp only at hL62
                        generalize hq_w_19 : F_X8_endsDay s62_2 w_18.2.2.1 s62_4 np hg = w_19 at hL62 ⊢
                        try dsimp only at hL62
                        refine X_iadd (v := (s62_1 + w_19.2.2.2)) dX11_years_147 rfl ?_
                        refine X_istore (lv' := [(4, ex_i (s62_1 + w_19.2.2.2)), (5, ex_j w_18.2.2.2.2), (7, ex_i (nI k62)), (0, ex_r x), (1, ex_i se), (2, ex_i (nI dz.toNatClampNeg)), (3, ex_i wt)]) dX11_years_148 (Nat.le_of_ble_eq_true rfl) rfl ?_
                        refine X_iinc (v := nI (k62 + 1)) (j := 2) (lv' := [(7, ex_i (nI (k62 + 1))), (4, ex_i (s62_1 + w_19.2.2.2)), (5, ex_j w_18.2.2.2.2), (0, ex_r x), (1, ex_i se), (2, ex_i (nI dz.toNatClampNeg)), (3, ex_i wt)]) dX11_years_150 rfl (nI_add k62 1) (Nat.le_of_ble_eq_true rfl) rfl ?_
                        refine X_goto (tgt := 62) dX11_years_153 (by decide) ?_
                        try dsimp only at hL62
                        refine X_re (cs' := [(tl, ex_o 8 [ex_i w_19.1, ex_i w_18.1, ex_i w_18.2.1, ex_r tlf, ex_r tla, ex_r tlh]), (tlf, ex_a 1 6 w_19.2.1), (tla, ex_a 1 6 w_18.2.2.2.1), (tlh, ex_a 1 6 w_19.2.2.1), (n, ex_o 8 [ex_i dy, ex_i sr, ex_i il, ex_r nf, ex_r na, ex_r nh]), (nf, ex_a 1 6 fu), (na, ex_a 1 6 ae), (nh, ex_a 1 6 hu), (x, ex_o 11 [ex_r t, ex_r rd, ex_r c, ex_r kq, ex_r w, ex_r v, ex_r n, ex_r tl, ex_r pa, ex_i (nI pnx), ex_i (nI pln), ex_r ma, ex_r hs, ex_r pp, ex_r pt, ex_r pg, ex_r kr]), (c, ex_o 0 [ex_r c0, ex_r c1, ex_r c2, ex_r c3, ex_r c4, ex_r c5, ex_r c6, ex_r c7, ex_r c8, ex_r c9, ex_r c10, ex_r c11, ex_r c12, ex_i (nI np), ex_i (nI nd), ex_i sto, ex_i res, ex_r c17, ex_r c18, ex_r c19]), (c1, ex_a 1 6 kd), (c2, ex_a 1 6 hg), (c5, ex_a 1 6 sf), (c6, ex_a 1 6 st), (c11, ex_a 1 5 co), (c17, ex_a 1 360 gf)]) [0, 1, 6, 2, 12, 13, 14, 15, 5, 3, 7, 4, 8, 9, 10, 11] (show List.Perm [0, 1, 6, 2, 12, 13, 14, 15, 5, 3, 7, 4, 8, 9, 10, 11] (List.range 16) from by decide) rfl ?_
                        refine X_lv (lv' := [(7, ex_i (nI (k62 + 1))), (5, ex_j w_18.2.2.2.2), (4, ex_i (s62_1 + w_19.2.2.2)), (0, ex_r x), (1, ex_i se), (2, ex_i (nI dz.toNatClampNeg)), (3, ex_i wt)]) [0, 2, 1, 3, 4, 5, 6] rfl ?_
                        exact ihc62 (k62 + 1) w_18.2.2.2.2 (s62_1 + w_19.2.2.2) w_19.1 w_19.2.1 w_19.2.2.1 w_18.1 w_18.2.1 w_18.2.2.2.1 ⟨hL62, (show (k62 + 1) ≤ dz.toNatClampNeg by omega), he0_e_17⟩ (show dz.toNatClampNeg - (k62 + 1) < dz.toNatClampNeg - k62 by omega)
                  · have hL62 := hL62.trans (if_pos c_12)
                    refine X_aload_n (j := 3) dX11_years_85 rfl rfl ?_
                    refine X_get (j := 8) fo_X11_50 dX11_years_86 rfl rfl ?_
                    refine X_dup dX11_years_89 rfl ?_
                    refine X_get (j := 0) fo_X11_204 dX11_years_90 rfl rfl ?_
                    refine X_aload_n (j := 3) dX11_years_93 rfl rfl ?_
                    refine X_get (j := 8) fo_X11_50 dX11_years_94 rfl rfl ?_
                    refine X_get (j := 0) fo_X11_204 dX11_years_97 rfl rfl ?_
                    refine X_iconst (v := 2) dX11_years_100 (by decide) ?_
                    refine X_idiv (v := (s62_5 / 2)) dX11_years_101 (by decide) rfl ?_
                    refine X_isub (v := (s62_5 - (s62_5 / 2))) dX11_years_102 rfl ?_
                    refine X_put (j := 0) (cs' := [(tl, ex_o 8 [ex_i s62_2, ex_i (s62_5 - (s62_5 / 2)), ex_i s62_6, ex_r tlf, ex_r tla, ex_r tlh]), (tlf, ex_a 1 6 s62_3), (tla, ex_a 1 6 s62_7), (tlh, ex_a 1 6 s62_4), (n, ex_o 8 [ex_i dy, ex_i sr, ex_i il, ex_r nf, ex_r na, ex_r nh]), (nf, ex_a 1 6 fu), (na, ex_a 1 6 ae), (nh, ex_a 1 6 hu), (x, ex_o 11 [ex_r t, ex_r rd, ex_r c, ex_r kq, ex_r w, ex_r v, ex_r n, ex_r tl, ex_r pa, ex_i (nI pnx), ex_i (nI pln), ex_r ma, ex_r hs, ex_r pp, ex_r pt, ex_r pg, ex_r kr]), (c, ex_o 0 [ex_r c0, ex_r c1, ex_r c2, ex_r c3, ex_r c4, ex_r c5, ex_r c6, ex_r c7, ex_r c8, ex_r c9, ex_r c10, ex_r c11, ex_r c12, ex_i (nI np), ex_i (nI nd), ex_i sto, ex_i res, ex_r c17, ex_r c18, ex_r c19]), (c1, ex_a 1 6 kd), (c2, ex_a 1 6 hg), (c5, ex_a 1 6 sf), (c6, ex_a 1 6 st), (c11, ex_a 1 5 co), (c17, ex_a 1 360 gf)]) fo_X11_204 (by decide) dX11_years_103 rfl (Nat.le_of_ble_eq_true rfl) trivial rfl ?_
                    refine X_aload_n (j := 3) dX11_years_106 rfl rfl ?_
                    refine X_get (j := 8) fo_X11_26 dX11_years_107 rfl rfl ?_
                    refine X_get (j := 9) fo_X11_298 dX11_years_110 rfl rfl ?_
                    refine X_if_le (tgt := 134) dX11_years_113 (by decide) (fun c_20 => ?_) (fun c_20 => ?_)
                    · have hL62 := hL62.trans (if_pos c_20)
                      refine X_iload (j := 2) dX11_years_134 rfl ?_
                      refine X_aload_n (j := 3) dX11_years_136 rfl rfl ?_
                      refine X_get (j := 8) fo_X11_50 dX11_years_137 rfl rfl ?_
                      refine X_aload_n (j := 3) dX11_years_140 rfl rfl ?_
                      refine X_get (j := 8) fo_X11_26 dX11_years_141 rfl rfl ?_
                      refine X_callV (j0 := 0) (rest := [(tla, ex_a 1 6 s62_7), (n, ex_o 8 [ex_i dy, ex_i sr, ex_i il, ex_r nf, ex_r na, ex_r nh]), (nf, ex_a 1 6 fu), (na, ex_a 1 6 ae), (nh, ex_a 1 6 hu), (x, ex_o 11 [ex_r t, ex_r rd, ex_r c, ex_r kq, ex_r w, ex_r v, ex_r n, ex_r tl, ex_r pa, ex_i (nI pnx), ex_i (nI pln), ex_r ma, ex_r hs, ex_r pp, ex_r pt, ex_r pg, ex_r kr]), (c1, ex_a 1 6 kd), (c5, ex_a 1 6 sf), (c6, ex_a 1 6 st), (c11, ex_a 1 5 co), (c17, ex_a 1 360 gf)]) (stk := [ex_i s62_1]) co_X11_180 rfl ⟨(Nat.le_of_ble_eq_true rfl), (Nat.le_of_ble_eq_true rfl)⟩ (e_X8_endsDay l tl c s62_2 (s62_5 - (s62_5 / 2)) s62_6 tlf tla tlh s62_3 s62_4 c0 c1 c2 c3 c4 c5 c6 c7 c8 c9 c10 c11 c12 np nd sto res c17 c18 c19 hg (by first | assumption | omega)) dX11_years_144 [0, 1, 3, 9, 11, 2, 4, 5, 6, 7, 8, 10, 12, 13, 14, 15] (show List.Perm [0, 1, 3, 9, 11, 2, 4, 5, 6, 7, 8, 10, 12, 13, 14, 15] (List.range 16) from by decide) rfl rfl rfl rfl (Nat.le_of_ble_eq_true rfl) (fun zc1 zr hq hk => ?_)
                      obtain ⟨rfl, rfl⟩ := hq
                      try dsimp only at hL62
                      generalize hq_w_21 : F_X8_endsDay s62_2 s62_3 s62_4 np hg = w_21 at hL62 ⊢
                      try dsimp only at hL62
                      refine X_iadd (v := (s62_1 + w_21.2.2.2)) dX11_years_147 rfl ?_
                      refine X_istore (lv' := [(4, ex_i (s62_1 + w_21.2.2.2)), (5, ex_j w_10), (7, ex_i (nI k62)), (0, ex_r x), (1, ex_i se), (2, ex_i (nI dz.toNatClampNeg)), (3, ex_i wt)]) dX11_years_148 (Nat.le_of_ble_eq_true rfl) rfl ?_
                      refine X_iinc (v := nI (k62 + 1)) (j := 2) (lv' := [(7, ex_i (nI (k62 + 1))), (4, ex_i (s62_1 + w_21.2.2.2)), (5, ex_j w_10), (0, ex_r x), (1, ex_i se), (2, ex_i (nI dz.toNatClampNeg)), (3, ex_i wt)]) dX11_years_150 rfl (nI_add k62 1) (Nat.le_of_ble_eq_true rfl) rfl ?_
                      refine X_goto (tgt := 62) dX11_years_153 (by decide) ?_
                      try dsimp only at hL62
                      refine X_re (cs' := [(tl, ex_o 8 [ex_i w_21.1, ex_i (s62_5 - (s62_5 / 2)), ex_i s62_6, ex_r tlf, ex_r tla, ex_r tlh]), (tlf, ex_a 1 6 w_21.2.1), (tla, ex_a 1 6 s62_7), (tlh, ex_a 1 6 w_21.2.2.1), (n, ex_o 8 [ex_i dy, ex_i sr, ex_i il, ex_r nf, ex_r na, ex_r nh]), (nf, ex_a 1 6 fu), (na, ex_a 1 6 ae), (nh, ex_a 1 6 hu), (x, ex_o 11 [ex_r t, ex_r rd, ex_r c, ex_r kq, ex_r w, ex_r v, ex_r n, ex_r tl, ex_r pa, ex_i (nI pnx), ex_i (nI pln), ex_r ma, ex_r hs, ex_r pp, ex_r pt, ex_r pg, ex_r kr]), (c, ex_o 0 [ex_r c0, ex_r c1, ex_r c2, ex_r c3, ex_r c4, ex_r c5, ex_r c6, ex_r c7, ex_r c8, ex_r c9, ex_r c10, ex_r c11, ex_r c12, ex_i (nI np), ex_i (nI nd), ex_i sto, ex_i res, ex_r c17, ex_r c18, ex_r c19]), (c1, ex_a 1 6 kd), (c2, ex_a 1 6 hg), (c5, ex_a 1 6 sf), (c6, ex_a 1 6 st), (c11, ex_a 1 5 co), (c17, ex_a 1 360 gf)]) [0, 1, 5, 2, 6, 7, 8, 9, 10, 3, 11, 4, 12, 13, 14, 15] (show List.Perm [0, 1, 5, 2, 6, 7, 8, 9, 10, 3, 11, 4, 12, 13, 14, 15] (List.range 16) from by decide) rfl ?_
                      refine X_lv (lv' := [(7, ex_i (nI (k62 + 1))), (5, ex_j w_10), (4, ex_i (s62_1 + w_21.2.2.2)), (0, ex_r x), (1, ex_i se), (2, ex_i (nI dz.toNatClampNeg)), (3, ex_i wt)]) [0, 2, 1, 3, 4, 5, 6] rfl ?_
                      exact ihc62 (k62 + 1) w_10 (s62_1 + w_21.2.2.2) w_21.1 w_21.2.1 w_21.2.2.1 (s62_5 - (s62_5 / 2)) s62_6 s62_7 ⟨hL62, (show (k62 + 1) ≤ dz.toNatClampNeg by omega), hdo_w_10⟩ (show dz.toNatClampNeg - (k62 + 1) < dz.toNatClampNeg - k62 by omega)
                    · have hL62 := hL62.trans (if_neg c_20)
                      refine X_aload_n (j := 3) dX11_years_116 rfl rfl ?_
                      refine X_get (j := 8) fo_X11_26 dX11_years_117 rfl rfl ?_
                      refine X_get (j := 9) fo_X11_301 dX11_years_120 rfl rfl ?_
                      refine X_if_le (tgt := 134) dX11_years_123 (by decide) (fun c_22 => ?_) (fun c_22 => ?_)
                      · have hL62 := hL62.trans (if_pos c_22)
                        refine X_iload (j := 2) dX11_years_134 rfl ?_
                        refine X_aload_n (j := 3) dX11_years_136 rfl rfl ?_
                        refine X_get (j := 8) fo_X11_50 dX11_years_137 rfl rfl ?_
                        refine X_aload_n (j := 3) dX11_years_140 rfl rfl ?_
                        refine X_get (j := 8) fo_X11_26 dX11_years_141 rfl rfl ?_
                        refine X_callV (j0 := 0) (rest := [(tla, ex_a 1 6 s62_7), (n, ex_o 8 [ex_i dy, ex_i sr, ex_i il, ex_r nf, ex_r na, ex_r nh]), (nf, ex_a 1 6 fu), (na, ex_a 1 6 ae), (nh, ex_a 1 6 hu), (x, ex_o 11 [ex_r t, ex_r rd, ex_r c, ex_r kq, ex_r w, ex_r v, ex_r n, ex_r tl, ex_r pa, ex_i (nI pnx), ex_i (nI pln), ex_r ma, ex_r hs, ex_r pp, ex_r pt, ex_r pg, ex_r kr]), (c1, ex_a 1 6 kd), (c5, ex_a 1 6 sf), (c6, ex_a 1 6 st), (c11, ex_a 1 5 co), (c17, ex_a 1 360 gf)]) (stk := [ex_i s62_1]) co_X11_180 rfl ⟨(Nat.le_of_ble_eq_true rfl), (Nat.le_of_ble_eq_true rfl)⟩ (e_X8_endsDay l tl c s62_2 (s62_5 - (s62_5 / 2)) s62_6 tlf tla tlh s62_3 s62_4 c0 c1 c2 c3 c4 c5 c6 c7 c8 c9 c10 c11 c12 np nd sto res c17 c18 c19 hg (by first | assumption | omega)) dX11_years_144 [0, 1, 3, 9, 11, 2, 4, 5, 6, 7, 8, 10, 12, 13, 14, 15] (show List.Perm [0, 1, 3, 9, 11, 2, 4, 5, 6, 7, 8, 10, 12, 13, 14, 15] (List.range 16) from by decide) rfl rfl rfl rfl (Nat.le_of_ble_eq_true rfl) (fun zc1 zr hq hk => ?_)
                        obtain ⟨rfl, rfl⟩ := hq
                        try dsimp only at hL62
                        generalize hq_w_23 : F_X8_endsDay s62_2 s62_3 s62_4 np hg = w_23 at hL62 ⊢
                        try dsimp only at hL62
                        refine X_iadd (v := (s62_1 + w_23.2.2.2)) dX11_years_147 rfl ?_
                        refine X_istore (lv' := [(4, ex_i (s62_1 + w_23.2.2.2)), (5, ex_j w_10), (7, ex_i (nI k62)), (0, ex_r x), (1, ex_i se), (2, ex_i (nI dz.toNatClampNeg)), (3, ex_i wt)]) dX11_years_148 (Nat.le_of_ble_eq_true rfl) rfl ?_
                        refine X_iinc (v := nI (k62 + 1)) (j := 2) (lv' := [(7, ex_i (nI (k62 + 1))), (4, ex_i (s62_1 + w_23.2.2.2)), (5, ex_j w_10), (0, ex_r x), (1, ex_i se), (2, ex_i (nI dz.toNatClampNeg)), (3, ex_i wt)]) dX11_years_150 rfl (nI_add k62 1) (Nat.le_of_ble_eq_true rfl) rfl ?_
                        refine X_goto (tgt := 62) dX11_years_153 (by decide) ?_
                        try dsimp only at hL62
                        refine X_re (cs' := [(tl, ex_o 8 [ex_i w_23.1, ex_i (s62_5 - (s62_5 / 2)), ex_i s62_6, ex_r tlf, ex_r tla, ex_r tlh]), (tlf, ex_a 1 6 w_23.2.1), (tla, ex_a 1 6 s62_7), (tlh, ex_a 1 6 w_23.2.2.1), (n, ex_o 8 [ex_i dy, ex_i sr, ex_i il, ex_r nf, ex_r na, ex_r nh]), (nf, ex_a 1 6 fu), (na, ex_a 1 6 ae), (nh, ex_a 1 6 hu), (x, ex_o 11 [ex_r t, ex_r rd, ex_r c, ex_r kq, ex_r w, ex_r v, ex_r n, ex_r tl, ex_r pa, ex_i (nI pnx), ex_i (nI pln), ex_r ma, ex_r hs, ex_r pp, ex_r pt, ex_r pg, ex_r kr]), (c, ex_o 0 [ex_r c0, ex_r c1, ex_r c2, ex_r c3, ex_r c4, ex_r c5, ex_r c6, ex_r c7, ex_r c8, ex_r c9, ex_r c10, ex_r c11, ex_r c12, ex_i (nI np), ex_i (nI nd), ex_i sto, ex_i res, ex_r c17, ex_r c18, ex_r c19]), (c1, ex_a 1 6 kd), (c2, ex_a 1 6 hg), (c5, ex_a 1 6 sf), (c6, ex_a 1 6 st), (c11, ex_a 1 5 co), (c17, ex_a 1 360 gf)]) [0, 1, 5, 2, 6, 7, 8, 9, 10, 3, 11, 4, 12, 13, 14, 15] (show List.Perm [0, 1, 5, 2, 6, 7, 8, 9, 10, 3, 11, 4, 12, 13, 14, 15] (List.range 16) from by decide) rfl ?_
                        refine X_lv (lv' := [(7, ex_i (nI (k62 + 1))), (5, ex_j w_10), (4, ex_i (s62_1 + w_23.2.2.2)), (0, ex_r x), (1, ex_i se), (2, ex_i (nI dz.toNatClampNeg)), (3, ex_i wt)]) [0, 2, 1, 3, 4, 5, 6] rfl ?_
                        exact ihc62 (k62 + 1) w_10 (s62_1 + w_23.2.2.2) w_23.1 w_23.2.1 w_23.2.2.1 (s62_5 - (s62_5 / 2)) s62_6 s62_7 ⟨hL62, (show (k62 + 1) ≤ dz.toNatClampNeg by omega), hdo_w_10⟩ (show dz.toNatClampNeg - (k62 + 1) < dz.toNatClampNeg - k62 by omega)
                      · have hL62 := hL62.trans (if_neg c_22)
                        have h0p : 0 < np := nI_gt (a := 0) (by decide) c_20
                        have h0d : 0 < nd := nI_gt (a := 0) (by decide) c_22
                        refine X_aload_n (j := 3) dX11_years_126 rfl rfl ?_
                        refine X_lload (j := 0) dX11_years_127 rfl ?_
                        refine X_callV (j0 := 0) (rest := [(tlh, ex_a 1 6 s62_4), (n, ex_o 8 [ex_i dy, ex_i sr, ex_i il, ex_r nf, ex_r na, ex_r nh]), (nf, ex_a 1 6 fu), (na, ex_a 1 6 ae), (nh, ex_a 1 6 hu), (c2, ex_a 1 6 hg)]) (stk := []) co_X11_304 rfl ⟨(Nat.le_of_ble_eq_true rfl), (Nat.le_of_ble_eq_true rfl)⟩ (e_X11_drawsMeal l x w_10 t rd c kq w v n tl pa pnx pln ma hs pp pt pg kr s62_2 (s62_5 - (s62_5 / 2)) s62_6 tlf tla tlh s62_3 s62_7 c0 c1 c2 c3 c4 c5 c6 c7 c8 c9 c10 c11 c12 np nd sto res c17 c18 c19 kd sf st co gf (by first | assumption | omega) (by first | assumption | omega) (by first | assumption | omega) (by first | assumption | omega) hdo_w_10) dX11_years_129 [8, 0, 1, 2, 9, 10, 12, 13, 14, 15, 3, 4, 5, 6, 7, 11] (show List.Perm [8, 0, 1, 2, 9, 10, 12, 13, 14, 15, 3, 4, 5, 6, 7, 11] (List.range 16) from by decide) rfl rfl rfl rfl (Nat.le_of_ble_eq_true rfl) (fun zc1 zr hq hk => ?_)
                        obtain ⟨rfl, rfl, he0_e_24⟩ := hq
                        try dsimp only at hL62
                        generalize hq_w_25 : F_X11_drawsMeal w_10 s62_2 (s62_5 - (s62_5 / 2)) s62_6 s62_3 s62_7 np nd res kd sf st co gf = w_25 at hL62 he0_e_24 ⊢
                        try dsimp only at hL62
                        refine X_lstore (lv' := [(5, ex_j w_25.2.2.2.2), (7, ex_i (nI k62)), (4, ex_i s62_1), (0, ex_r x), (1, ex_i se), (2, ex_i (nI dz.toNatClampNeg)), (3, ex_i wt)]) dX11_years_132 (Nat.le_of_ble_eq_true rfl) rfl ?_
                        refine X_iload (j := 2) dX11_years_134 rfl ?_
                        refine X_aload_n (j := 3) dX11_years_136 rfl rfl ?_
                        refine X_get (j := 0) fo_X11_50 dX11_years_137 rfl rfl ?_
                        refine X_aload_n (j := 3) dX11_years_140 rfl rfl ?_
                        refine X_get (j := 0) fo_X11_26 dX11_years_141 rfl rfl ?_
                        refine X_callV (j0 := 0) (rest := [(x, ex_o 11 [ex_r t, ex_r rd, ex_r c, ex_r kq, ex_r w, ex_r v, ex_r n, ex_r tl, ex_r pa, ex_i (nI pnx), ex_i (nI pln), ex_r ma, ex_r hs, ex_r pp, ex_r pt, ex_r pg, ex_r kr]), (tla, ex_a 1 6 w_25.2.2.2.1), (c1, ex_a 1 6 kd), (c5, ex_a 1 6 sf), (c6, ex_a 1 6 st), (c11, ex_a 1 5 co), (c17, ex_a 1 360 gf), (n, ex_o 8 [ex_i dy, ex_i sr, ex_i il, ex_r nf, ex_r na, ex_r nh]), (nf, ex_a 1 6 fu), (na, ex_a 1 6 ae), (nh, ex_a 1 6 hu)]) (stk := [ex_i s62_1]) co_X11_180 rfl ⟨(Nat.le_of_ble_eq_true rfl), (Nat.le_of_ble_eq_true rfl)⟩ (e_X8_endsDay l tl c s62_2 w_25.1 w_25.2.1 tlf tla tlh w_25.2.2.1 s62_4 c0 c1 c2 c3 c4 c5 c6 c7 c8 c9 c10 c11 c12 np nd sto res c17 c18 c19 hg (by first | assumption | omega)) dX11_years_144 [1, 2, 10, 4, 15, 0, 3, 5, 6, 7, 8, 9, 11, 12, 13, 14] (show List.Perm [1, 2, 10, 4, 15, 0, 3, 5, 6, 7, 8, 9, 11, 12, 13, 14] (List.range 16) from by decide) rfl rfl rfl rfl (Nat.le_of_ble_eq_true rfl) (fun zc1 zr hq hk => ?_)
                        obtain ⟨rfl, rfl⟩ := hq
                        try dsimp only at hL62
                        generalize hq_w_26 : F_X8_endsDay s62_2 w_25.2.2.1 s62_4 np hg = w_26 at hL62 ⊢
                        try dsimp only at hL62
                        refine X_iadd (v := (s62_1 + w_26.2.2.2)) dX11_years_147 rfl ?_
                        refine X_istore (lv' := [(4, ex_i (s62_1 + w_26.2.2.2)), (5, ex_j w_25.2.2.2.2), (7, ex_i (nI k62)), (0, ex_r x), (1, ex_i se), (2, ex_i (nI dz.toNatClampNeg)), (3, ex_i wt)]) dX11_years_148 (Nat.le_of_ble_eq_true rfl) rfl ?_
                        refine X_iinc (v := nI (k62 + 1)) (j := 2) (lv' := [(7, ex_i (nI (k62 + 1))), (4, ex_i (s62_1 + w_26.2.2.2)), (5, ex_j w_25.2.2.2.2), (0, ex_r x), (1, ex_i se), (2, ex_i (nI dz.toNatClampNeg)), (3, ex_i wt)]) dX11_years_150 rfl (nI_add k62 1) (Nat.le_of_ble_eq_true rfl) rfl ?_
                        refine X_goto (tgt := 62) dX11_years_153 (by decide) ?_
                        try dsimp only at hL62
                        refine X_re (cs' := [(tl, ex_o 8 [ex_i w_26.1, ex_i w_25.1, ex_i w_25.2.1, ex_r tlf, ex_r tla, ex_r tlh]), (tlf, ex_a 1 6 w_26.2.1), (tla, ex_a 1 6 w_25.2.2.2.1), (tlh, ex_a 1 6 w_26.2.2.1), (n, ex_o 8 [ex_i dy, ex_i sr, ex_i il, ex_r nf, ex_r na, ex_r nh]), (nf, ex_a 1 6 fu), (na, ex_a 1 6 ae), (nh, ex_a 1 6 hu), (x, ex_o 11 [ex_r t, ex_r rd, ex_r c, ex_r kq, ex_r w, ex_r v, ex_r n, ex_r tl, ex_r pa, ex_i (nI pnx), ex_i (nI pln), ex_r ma, ex_r hs, ex_r pp, ex_r pt, ex_r pg, ex_r kr]), (c, ex_o 0 [ex_r c0, ex_r c1, ex_r c2, ex_r c3, ex_r c4, ex_r c5, ex_r c6, ex_r c7, ex_r c8, ex_r c9, ex_r c10, ex_r c11, ex_r c12, ex_i (nI np), ex_i (nI nd), ex_i sto, ex_i res, ex_r c17, ex_r c18, ex_r c19]), (c1, ex_a 1 6 kd), (c2, ex_a 1 6 hg), (c5, ex_a 1 6 sf), (c6, ex_a 1 6 st), (c11, ex_a 1 5 co), (c17, ex_a 1 360 gf)]) [0, 1, 6, 2, 12, 13, 14, 15, 5, 3, 7, 4, 8, 9, 10, 11] (show List.Perm [0, 1, 6, 2, 12, 13, 14, 15, 5, 3, 7, 4, 8, 9, 10, 11] (List.range 16) from by decide) rfl ?_
                        refine X_lv (lv' := [(7, ex_i (nI (k62 + 1))), (5, ex_j w_25.2.2.2.2), (4, ex_i (s62_1 + w_26.2.2.2)), (0, ex_r x), (1, ex_i se), (2, ex_i (nI dz.toNatClampNeg)), (3, ex_i wt)]) [0, 2, 1, 3, 4, 5, 6] rfl ?_
                        exact ihc62 (k62 + 1) w_25.2.2.2.2 (s62_1 + w_26.2.2.2) w_26.1 w_26.2.1 w_26.2.2.1 w_25.1 w_25.2.1 w_25.2.2.2.1 ⟨hL62, (show (k62 + 1) ≤ dz.toNatClampNeg by omega), he0_e_24⟩ (show dz.toNatClampNeg - (k62 + 1) < dz.toNatClampNeg - k62 by omega)
              refine X_iload_n (j := 5) dX11_years_156 rfl rfl ?_
              refine X_if_ne (tgt := 163) dX11_years_157 (by decide) (fun c_27 => ?_) (fun c_27 => ?_)
              · have hV := hV.trans (if_neg c_27)
                refine X_iload_n (j := 5) dX11_years_163 rfl rfl ?_
                refine X_iconst (v := 1) dX11_years_164 (by decide) ?_
                refine X_icmp_ne (tgt := 178) dX11_years_165 (by decide) (fun c_28 => ?_) (fun c_28 => ?_)
                · have hV := hV.trans (if_neg c_28)
                  refine X_aload_n (j := 2) dX11_years_178 rfl rfl ?_
                  refine X_get (j := 8) fo_X11_50 dX11_years_179 rfl rfl ?_
                  refine X_get (j := 0) fo_X11_204 dX11_years_182 rfl rfl ?_
                  try dsimp only at hV
                  refine X_re (cs' := [(x, ex_o 11 [ex_r t, ex_r rd, ex_r c, ex_r kq, ex_r w, ex_r v, ex_r n, ex_r tl, ex_r pa, ex_i (nI pnx), ex_i (nI pln), ex_r ma, ex_r hs, ex_r pp, ex_r pt, ex_r pg, ex_r kr]), (tl, ex_o 8 [ex_i v_8.2.2.1, ex_i v_8.2.2.2.2.2.1, ex_i v_8.2.2.2.2.2.2.1, ex_r tlf, ex_r tla, ex_r tlh]), (tlf, ex_a 1 6 v_8.2.2.2.1), (tla, ex_a 1 6 v_8.2.2.2.2.2.2.2), (tlh, ex_a 1 6 v_8.2.2.2.2.1), (n, ex_o 8 [ex_i dy, ex_i sr, ex_i il, ex_r nf, ex_r na, ex_r nh]), (nf, ex_a 1 6 fu), (na, ex_a 1 6 ae), (nh, ex_a 1 6 hu), (c, ex_o 0 [ex_r c0, ex_r c1, ex_r c2, ex_r c3, ex_r c4, ex_r c5, ex_r c6, ex_r c7, ex_r c8, ex_r c9, ex_r c10, ex_r c11, ex_r c12, ex_i (nI np), ex_i (nI nd), ex_i sto, ex_i res, ex_r c17, ex_r c18, ex_r c19]), (c1, ex_a 1 6 kd), (c2, ex_a 1 6 hg), (c5, ex_a 1 6 sf), (c6, ex_a 1 6 st), (c11, ex_a 1 5 co), (c17, ex_a 1 360 gf)]) [8, 0, 1, 2, 3, 4, 5, 6, 7, 9, 10, 11, 12, 13, 14, 15] (show List.Perm [8, 0, 1, 2, 3, 4, 5, 6, 7, 9, 10, 11, 12, 13, 14, 15] (List.range 16) from by decide) rfl ?_
                  exact X_iret ex_nI rfl dX11_years_185 (by (repeat refine ex_kc ?_) <;> rfl) (by subst hV; exact ⟨rfl, rfl⟩)
                · have hV := hV.trans (if_pos c_28)
                  refine X_aload_n (j := 2) dX11_years_168 rfl rfl ?_
                  refine X_get (j := 8) fo_X11_50 dX11_years_169 rfl rfl ?_
                  refine X_get (j := 0) fo_X11_287 dX11_years_172 rfl rfl ?_
                  refine X_goto (tgt := 185) dX11_years_175 (by decide) ?_
                  try dsimp only at hV
                  refine X_re (cs' := [(x, ex_o 11 [ex_r t, ex_r rd, ex_r c, ex_r kq, ex_r w, ex_r v, ex_r n, ex_r tl, ex_r pa, ex_i (nI pnx), ex_i (nI pln), ex_r ma, ex_r hs, ex_r pp, ex_r pt, ex_r pg, ex_r kr]), (tl, ex_o 8 [ex_i v_8.2.2.1, ex_i v_8.2.2.2.2.2.1, ex_i v_8.2.2.2.2.2.2.1, ex_r tlf, ex_r tla, ex_r tlh]), (tlf, ex_a 1 6 v_8.2.2.2.1), (tla, ex_a 1 6 v_8.2.2.2.2.2.2.2), (tlh, ex_a 1 6 v_8.2.2.2.2.1), (n, ex_o 8 [ex_i dy, ex_i sr, ex_i il, ex_r nf, ex_r na, ex_r nh]), (nf, ex_a 1 6 fu), (na, ex_a 1 6 ae), (nh, ex_a 1 6 hu), (c, ex_o 0 [ex_r c0, ex_r c1, ex_r c2, ex_r c3, ex_r c4, ex_r c5, ex_r c6, ex_r c7, ex_r c8, ex_r c9, ex_r c10, ex_r c11, ex_r c12, ex_i (nI np), ex_i (nI nd), ex_i sto, ex_i res, ex_r c17, ex_r c18, ex_r c19]), (c1, ex_a 1 6 kd), (c2, ex_a 1 6 hg), (c5, ex_a 1 6 sf), (c6, ex_a 1 6 st), (c11, ex_a 1 5 co), (c17, ex_a 1 360 gf)]) [8, 0, 1, 2, 3, 4, 5, 6, 7, 9, 10, 11, 12, 13, 14, 15] (show List.Perm [8, 0, 1, 2, 3, 4, 5, 6, 7, 9, 10, 11, 12, 13, 14, 15] (List.range 16) from by decide) rfl ?_
                  exact X_iret ex_nI rfl dX11_years_185 (by (repeat refine ex_kc ?_) <;> rfl) (by subst hV; exact ⟨rfl, rfl⟩)
              · have hV := hV.trans (if_pos c_27)
                refine X_iload (j := 1) dX11_years_160 rfl ?_
                try dsimp only at hV
                refine X_re (cs' := [(x, ex_o 11 [ex_r t, ex_r rd, ex_r c, ex_r kq, ex_r w, ex_r v, ex_r n, ex_r tl, ex_r pa, ex_i (nI pnx), ex_i (nI pln), ex_r ma, ex_r hs, ex_r pp, ex_r pt, ex_r pg, ex_r kr]), (tl, ex_o 8 [ex_i v_8.2.2.1, ex_i v_8.2.2.2.2.2.1, ex_i v_8.2.2.2.2.2.2.1, ex_r tlf, ex_r tla, ex_r tlh]), (tlf, ex_a 1 6 v_8.2.2.2.1), (tla, ex_a 1 6 v_8.2.2.2.2.2.2.2), (tlh, ex_a 1 6 v_8.2.2.2.2.1), (n, ex_o 8 [ex_i dy, ex_i sr, ex_i il, ex_r nf, ex_r na, ex_r nh]), (nf, ex_a 1 6 fu), (na, ex_a 1 6 ae), (nh, ex_a 1 6 hu), (c, ex_o 0 [ex_r c0, ex_r c1, ex_r c2, ex_r c3, ex_r c4, ex_r c5, ex_r c6, ex_r c7, ex_r c8, ex_r c9, ex_r c10, ex_r c11, ex_r c12, ex_i (nI np), ex_i (nI nd), ex_i sto, ex_i res, ex_r c17, ex_r c18, ex_r c19]), (c1, ex_a 1 6 kd), (c2, ex_a 1 6 hg), (c5, ex_a 1 6 sf), (c6, ex_a 1 6 st), (c11, ex_a 1 5 co), (c17, ex_a 1 360 gf)]) [8, 0, 1, 2, 3, 4, 5, 6, 7, 9, 10, 11, 12, 13, 14, 15] (show List.Perm [8, 0, 1, 2, 3, 4, 5, 6, 7, 9, 10, 11, 12, 13, 14, 15] (List.range 16) from by decide) rfl ?_
                exact X_iret ex_nI rfl dX11_years_162 (by (repeat refine ex_kc ?_) <;> rfl) (by subst hV; exact ⟨rfl, rfl⟩)
            · have hV := hV.trans (if_neg c_6)
              refine X_iconst (v := (-1)) dX11_years_31 (by decide) ?_
              try dsimp only at hV
              exact X_iret ex_nI rfl dX11_years_32 (by (repeat refine ex_kc ?_) <;> rfl) (by subst hV; exact ⟨rfl, rfl⟩)
