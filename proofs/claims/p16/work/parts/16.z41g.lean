theorem vp_any {x : Int32} (b : Int32) (h : vp_in x 64) : vp_in (x &&& b) 64 := by
  obtain ⟨j, hj, rfl⟩ := vp_in_of h (by decide)
  have e : nI j = nI j &&& 63 := (by decide +kernel : ∀ j, j < 64 → nI j = nI j &&& 63) j hj
  have e2 : nI j &&& b = (nI j &&& b) &&& 63 := by
    rw [Int32.and_assoc, Int32.and_comm b 63, ← Int32.and_assoc, ← e]
  rw [e2]
  exact pk_andIn (m := 63) _ 6 (by decide) (by decide)

def F_X11_stop_L64 (px : Int32) (dy : Int32) (np : Nat) (sf : Nat → Int32) (st : Nat → Int32) (cu : Nat → Int32) : Nat → Nat → Int32 → Int32
  | 0, k64, s64_0 => s64_0
  | zn + 1, k64, s64_0 => (if s64_0 = (-1) then (if ((nI k64) &&& ((nI ((F_X8_whoSits dy np sf st) &&& ((1 <<< ((nI px.toNatClampNeg) &&& 31)) ^^^ (-1))).toNatClampNeg) ^^^ (-1))) = 0 then (if (((F_X0_reached ((nI (F_X0_everybody np)) &&& ((F_X8_whoSits dy np sf st) ^^^ (-1))) (nI k64) np cu) >>> ((nI px.toNatClampNeg) &&& 31)) &&& 1) = 0 then F_X11_stop_L64 px dy np sf st cu zn (k64 + 1) (nI k64) else F_X11_stop_L64 px dy np sf st cu zn (k64 + 1) s64_0) else F_X11_stop_L64 px dy np sf st cu zn (k64 + 1) s64_0) else (if (F_J6_bitCount_0f7a4 s64_0) ≤ (F_J6_bitCount_0f7a4 (nI k64)) then (if ((nI k64) &&& ((nI ((F_X8_whoSits dy np sf st) &&& ((1 <<< ((nI px.toNatClampNeg) &&& 31)) ^^^ (-1))).toNatClampNeg) ^^^ (-1))) = 0 then F_X11_stop_L64 px dy np sf st cu zn (k64 + 1) s64_0 else F_X11_stop_L64 px dy np sf st cu zn (k64 + 1) s64_0) else (if ((nI k64) &&& ((nI ((F_X8_whoSits dy np sf st) &&& ((1 <<< ((nI px.toNatClampNeg) &&& 31)) ^^^ (-1))).toNatClampNeg) ^^^ (-1))) = 0 then (if (((F_X0_reached ((nI (F_X0_everybody np)) &&& ((F_X8_whoSits dy np sf st) ^^^ (-1))) (nI k64) np cu) >>> ((nI px.toNatClampNeg) &&& 31)) &&& 1) = 0 then F_X11_stop_L64 px dy np sf st cu zn (k64 + 1) (nI k64) else F_X11_stop_L64 px dy np sf st cu zn (k64 + 1) s64_0) else F_X11_stop_L64 px dy np sf st cu zn (k64 + 1) s64_0)))
theorem F_X11_stop_L64_z (px : Int32) (dy : Int32) (np : Nat) (sf : Nat → Int32) (st : Nat → Int32) (cu : Nat → Int32) (k64 : Nat) (s64_0 : Int32) : F_X11_stop_L64 px dy np sf st cu 0 k64 s64_0 = s64_0 := rfl
theorem F_X11_stop_L64_s (px : Int32) (dy : Int32) (np : Nat) (sf : Nat → Int32) (st : Nat → Int32) (cu : Nat → Int32) (k64 : Nat) (s64_0 : Int32) (zn : Nat) : F_X11_stop_L64 px dy np sf st cu (zn + 1) k64 s64_0 = (if s64_0 = (-1) then (if ((nI k64) &&& ((nI ((F_X8_whoSits dy np sf st) &&& ((1 <<< ((nI px.toNatClampNeg) &&& 31)) ^^^ (-1))).toNatClampNeg) ^^^ (-1))) = 0 then (if (((F_X0_reached ((nI (F_X0_everybody np)) &&& ((F_X8_whoSits dy np sf st) ^^^ (-1))) (nI k64) np cu) >>> ((nI px.toNatClampNeg) &&& 31)) &&& 1) = 0 then F_X11_stop_L64 px dy np sf st cu zn (k64 + 1) (nI k64) else F_X11_stop_L64 px dy np sf st cu zn (k64 + 1) s64_0) else F_X11_stop_L64 px dy np sf st cu zn (k64 + 1) s64_0) else (if (F_J6_bitCount_0f7a4 s64_0) ≤ (F_J6_bitCount_0f7a4 (nI k64)) then (if ((nI k64) &&& ((nI ((F_X8_whoSits dy np sf st) &&& ((1 <<< ((nI px.toNatClampNeg) &&& 31)) ^^^ (-1))).toNatClampNeg) ^^^ (-1))) = 0 then F_X11_stop_L64 px dy np sf st cu zn (k64 + 1) s64_0 else F_X11_stop_L64 px dy np sf st cu zn (k64 + 1) s64_0) else (if ((nI k64) &&& ((nI ((F_X8_whoSits dy np sf st) &&& ((1 <<< ((nI px.toNatClampNeg) &&& 31)) ^^^ (-1))).toNatClampNeg) ^^^ (-1))) = 0 then (if (((F_X0_reached ((nI (F_X0_everybody np)) &&& ((F_X8_whoSits dy np sf st) ^^^ (-1))) (nI k64) np cu) >>> ((nI px.toNatClampNeg) &&& 31)) &&& 1) = 0 then F_X11_stop_L64 px dy np sf st cu zn (k64 + 1) (nI k64) else F_X11_stop_L64 px dy np sf st cu zn (k64 + 1) s64_0) else F_X11_stop_L64 px dy np sf st cu zn (k64 + 1) s64_0))) := rfl
def F_X11_stop (px : Int32) (dy : Int32) (np : Nat) (sf : Nat → Int32) (st : Nat → Int32) (cu : Nat → Int32) : Int32 := (if (F_X11_isPerson px np) = 0 then (-1) else (if (F_X8_sits px.toNatClampNeg dy sf st) = 0 then (-1) else ((fun (v_3 : Int32) => v_3) (F_X11_stop_L64 px dy np sf st cu (((((F_X8_whoSits dy np sf st) &&& ((1 <<< ((nI px.toNatClampNeg) &&& 31)) ^^^ (-1))).toNatClampNeg) + 1) - 0) 0 (-1)))))
set_option maxHeartbeats 4000000 in
set_option maxRecDepth 100000 in
theorem e_X11_stop (l : Launch) (x : Nat) (px : Int32) (t : Nat) (rd : Nat) (c : Nat) (kq : Nat) (w : Nat) (v : Nat) (n : Nat) (tl : Nat) (pa : Nat) (pnx : Nat) (pln : Nat) (ma : Nat) (hs : Nat) (pp : Nat) (pt : Nat) (pg : Nat) (kr : Nat) (dy : Int32) (sr : Int32) (il : Int32) (nf : Nat) (na : Nat) (nh : Nat) (c0 : Nat) (c1 : Nat) (c2 : Nat) (c3 : Nat) (c4 : Nat) (c5 : Nat) (c6 : Nat) (c7 : Nat) (c8 : Nat) (c9 : Nat) (c10 : Nat) (c11 : Nat) (c12 : Nat) (np : Nat) (nd : Nat) (sto : Int32) (res : Int32) (c17 : Nat) (c18 : Nat) (c19 : Nat) (sf : Nat → Int32) (st : Nat → Int32) (cu : Nat → Int32) (hnp : np ≤ 6) : ex_M l yX11_stop cX11_stop 8 (some .int) 3 67 [ex_r x, ex_i px] [(x, ex_o 11 [ex_r t, ex_r rd, ex_r c, ex_r kq, ex_r w, ex_r v, ex_r n, ex_r tl, ex_r pa, ex_i (nI pnx), ex_i (nI pln), ex_r ma, ex_r hs, ex_r pp, ex_r pt, ex_r pg, ex_r kr]), (n, ex_o 8 [ex_i dy, ex_i sr, ex_i il, ex_r nf, ex_r na, ex_r nh]), (c, ex_o 0 [ex_r c0, ex_r c1, ex_r c2, ex_r c3, ex_r c4, ex_r c5, ex_r c6, ex_r c7, ex_r c8, ex_r c9, ex_r c10, ex_r c11, ex_r c12, ex_i (nI np), ex_i (nI nd), ex_i sto, ex_i res, ex_r c17, ex_r c18, ex_r c19]), (c5, ex_a 1 6 sf), (c6, ex_a 1 6 st), (c7, ex_a 1 6 cu)] (fun zcs zr => zcs = [(x, ex_o 11 [ex_r t, ex_r rd, ex_r c, ex_r kq, ex_r w, ex_r v, ex_r n, ex_r tl, ex_r pa, ex_i (nI pnx), ex_i (nI pln), ex_r ma, ex_r hs, ex_r pp, ex_r pt, ex_r pg, ex_r kr]), (n, ex_o 8 [ex_i dy, ex_i sr, ex_i il, ex_r nf, ex_r na, ex_r nh]), (c, ex_o 0 [ex_r c0, ex_r c1, ex_r c2, ex_r c3, ex_r c4, ex_r c5, ex_r c6, ex_r c7, ex_r c8, ex_r c9, ex_r c10, ex_r c11, ex_r c12, ex_i (nI np), ex_i (nI nd), ex_i sto, ex_i res, ex_r c17, ex_r c18, ex_r c19]), (c5, ex_a 1 6 sf), (c6, ex_a 1 6 st), (c7, ex_a 1 6 cu)] ∧ zr = some (ex_i (F_X11_stop px dy np sf st cu))) := by
  refine X_meth (by decide) (Nat.le_of_ble_eq_true rfl) ?_
  generalize hV : F_X11_stop px dy np sf st cu = V0
  have hV := hV.symm
  unfold F_X11_stop at hV
  try dsimp only at hV
  refine X_aload_n (j := 0) dX11_stop_0 rfl rfl ?_
  refine X_iload_n (j := 1) dX11_stop_1 rfl rfl ?_
  refine X_callV (j0 := 0) (rest := [(n, ex_o 8 [ex_i dy, ex_i sr, ex_i il, ex_r nf, ex_r na, ex_r nh]), (c5, ex_a 1 6 sf), (c6, ex_a 1 6 st), (c7, ex_a 1 6 cu)]) (stk := []) co_X11_124 rfl ⟨(Nat.le_of_ble_eq_true rfl), (Nat.le_of_ble_eq_true rfl)⟩ (e_X11_isPerson l x px t rd c kq w v n tl pa pnx pln ma hs pp pt pg kr c0 c1 c2 c3 c4 c5 c6 c7 c8 c9 c10 c11 c12 np nd sto res c17 c18 c19) dX11_stop_2 [0, 2, 1, 3, 4, 5] (show List.Perm [0, 2, 1, 3, 4, 5] (List.range 6) from by decide) rfl rfl rfl rfl (Nat.le_of_ble_eq_true rfl) (fun zc1 zr hq hk => ?_)
  obtain ⟨rfl, rfl⟩ := hq
  refine X_if_eq (tgt := 23) dX11_stop_5 (by decide) (fun c_1 => ?_) (fun c_1 => ?_)
  · have hV := hV.trans (if_pos c_1)
    refine X_iconst (v := (-1)) dX11_stop_23 (by decide) ?_
    try dsimp only at hV
    refine X_re (cs' := [(x, ex_o 11 [ex_r t, ex_r rd, ex_r c, ex_r kq, ex_r w, ex_r v, ex_r n, ex_r tl, ex_r pa, ex_i (nI pnx), ex_i (nI pln), ex_r ma, ex_r hs, ex_r pp, ex_r pt, ex_r pg, ex_r kr]), (n, ex_o 8 [ex_i dy, ex_i sr, ex_i il, ex_r nf, ex_r na, ex_r nh]), (c, ex_o 0 [ex_r c0, ex_r c1, ex_r c2, ex_r c3, ex_r c4, ex_r c5, ex_r c6, ex_r c7, ex_r c8, ex_r c9, ex_r c10, ex_r c11, ex_r c12, ex_i (nI np), ex_i (nI nd), ex_i sto, ex_i res, ex_r c17, ex_r c18, ex_r c19]), (c5, ex_a 1 6 sf), (c6, ex_a 1 6 st), (c7, ex_a 1 6 cu)]) [0, 2, 1, 3, 4, 5] (show List.Perm [0, 2, 1, 3, 4, 5] (List.range 6) from by decide) rfl ?_
    exact X_iret ex_nI rfl dX11_stop_24 (by (repeat refine ex_kc ?_) <;> rfl) (by subst hV; exact ⟨rfl, rfl⟩)
  · have hV := hV.trans (if_neg c_1)
    have hz1 := isPe_of c_1 hnp
    have hx1 := hz1.1
    have hl1 := hz1.2
    refine X_eq (cs' := [(x, ex_o 11 [ex_r t, ex_r rd, ex_r c, ex_r kq, ex_r w, ex_r v, ex_r n, ex_r tl, ex_r pa, ex_i (nI pnx), ex_i (nI pln), ex_r ma, ex_r hs, ex_r pp, ex_r pt, ex_r pg, ex_r kr]), (c, ex_o 0 [ex_r c0, ex_r c1, ex_r c2, ex_r c3, ex_r c4, ex_r c5, ex_r c6, ex_r c7, ex_r c8, ex_r c9, ex_r c10, ex_r c11, ex_r c12, ex_i (nI np), ex_i (nI nd), ex_i sto, ex_i res, ex_r c17, ex_r c18, ex_r c19]), (n, ex_o 8 [ex_i dy, ex_i sr, ex_i il, ex_r nf, ex_r na, ex_r nh]), (c5, ex_a 1 6 sf), (c6, ex_a 1 6 st), (c7, ex_a 1 6 cu)]) (lv' := [(0, ex_r x), (1, ex_i (nI px.toNatClampNeg))]) rfl (by rw [← hx1] <;> rfl) ?_
    refine X_aload_n (j := 0) dX11_stop_8 rfl rfl ?_
    refine X_get (j := 0) fo_X11_46 dX11_stop_9 rfl rfl ?_
    refine X_aload_n (j := 0) dX11_stop_12 rfl rfl ?_
    refine X_get (j := 0) fo_X11_26 dX11_stop_13 rfl rfl ?_
    refine X_iload_n (j := 1) dX11_stop_16 rfl rfl ?_
    refine X_callV (j0 := 0) (rest := [(x, ex_o 11 [ex_r t, ex_r rd, ex_r c, ex_r kq, ex_r w, ex_r v, ex_r n, ex_r tl, ex_r pa, ex_i (nI pnx), ex_i (nI pln), ex_r ma, ex_r hs, ex_r pp, ex_r pt, ex_r pg, ex_r kr]), (c7, ex_a 1 6 cu)]) (stk := []) co_X11_143 rfl ⟨(Nat.le_of_ble_eq_true rfl), (Nat.le_of_ble_eq_true rfl)⟩ (e_X8_sits l n c px.toNatClampNeg dy sr il nf na nh c0 c1 c2 c3 c4 c5 c6 c7 c8 c9 c10 c11 c12 np nd sto res c17 c18 c19 sf st (by first | assumption | omega)) dX11_stop_17 [2, 1, 3, 4, 0, 5] (show List.Perm [2, 1, 3, 4, 0, 5] (List.range 6) from by decide) rfl rfl rfl rfl (Nat.le_of_ble_eq_true rfl) (fun zc1 zr hq hk => ?_)
    obtain ⟨rfl, rfl⟩ := hq
    refine X_if_ne (tgt := 25) dX11_stop_20 (by decide) (fun c_2 => ?_) (fun c_2 => ?_)
    · have hV := hV.trans (if_neg c_2)
      refine X_aload_n (j := 0) dX11_stop_25 rfl rfl ?_
      refine X_get (j := 4) fo_X11_46 dX11_stop_26 rfl rfl ?_
      refine X_aload_n (j := 0) dX11_stop_29 rfl rfl ?_
      refine X_get (j := 4) fo_X11_26 dX11_stop_30 rfl rfl ?_
      refine X_callV (j0 := 0) (rest := [(x, ex_o 11 [ex_r t, ex_r rd, ex_r c, ex_r kq, ex_r w, ex_r v, ex_r n, ex_r tl, ex_r pa, ex_i (nI pnx), ex_i (nI pln), ex_r ma, ex_r hs, ex_r pp, ex_r pt, ex_r pg, ex_r kr]), (c7, ex_a 1 6 cu)]) (stk := []) co_X11_217 rfl ⟨(Nat.le_of_ble_eq_true rfl), (Nat.le_of_ble_eq_true rfl)⟩ (e_X8_whoSits l n c dy sr il nf na nh c0 c1 c2 c3 c4 c5 c6 c7 c8 c9 c10 c11 c12 np nd sto res c17 c18 c19 sf st (by first | assumption | omega)) dX11_stop_33 [0, 1, 2, 3, 4, 5] (show List.Perm [0, 1, 2, 3, 4, 5] (List.range 6) from by decide) rfl rfl rfl rfl (Nat.le_of_ble_eq_true rfl) (fun zc1 zr hq hk => ?_)
      obtain ⟨rfl, rfl⟩ := hq
      refine X_istore_n (lv' := [(2, ex_i (F_X8_whoSits dy np sf st)), (0, ex_r x), (1, ex_i (nI px.toNatClampNeg))]) dX11_stop_36 rfl (Nat.le_of_ble_eq_true rfl) rfl ?_
      refine X_aload_n (j := 1) dX11_stop_37 rfl rfl ?_
      refine X_get (j := 4) fo_X11_26 dX11_stop_38 rfl rfl ?_
      refine X_callV (j0 := 0) (rest := [(n, ex_o 8 [ex_i dy, ex_i sr, ex_i il, ex_r nf, ex_r na, ex_r nh]), (c5, ex_a 1 6 sf), (c6, ex_a 1 6 st), (x, ex_o 11 [ex_r t, ex_r rd, ex_r c, ex_r kq, ex_r w, ex_r v, ex_r n, ex_r tl, ex_r pa, ex_i (nI pnx), ex_i (nI pln), ex_r ma, ex_r hs, ex_r pp, ex_r pt, ex_r pg, ex_r kr]), (c7, ex_a 1 6 cu)]) (stk := []) co_X11_253 rfl ⟨(Nat.le_of_ble_eq_true rfl), (Nat.le_of_ble_eq_true rfl)⟩ (e_X0_everybody l c c0 c1 c2 c3 c4 c5 c6 c7 c8 c9 c10 c11 c12 np nd sto res c17 c18 c19 (by first | assumption | omega)) dX11_stop_41 [1, 0, 2, 3, 4, 5] (show List.Perm [1, 0, 2, 3, 4, 5] (List.range 6) from by decide) rfl rfl rfl rfl (Nat.le_of_ble_eq_true rfl) (fun zc1 zr hq hk => ?_)
      obtain ⟨rfl, rfl⟩ := hq
      refine X_iload_n (j := 0) dX11_stop_44 rfl rfl ?_
      refine X_iconst (v := (-1)) dX11_stop_45 (by decide) ?_
      refine X_ixor (v := ((F_X8_whoSits dy np sf st) ^^^ (-1))) dX11_stop_46 rfl ?_
      refine X_iand (v := ((nI (F_X0_everybody np)) &&& ((F_X8_whoSits dy np sf st) ^^^ (-1)))) dX11_stop_47 rfl ?_
      refine X_istore_n (lv' := [(3, ex_i ((nI (F_X0_everybody np)) &&& ((F_X8_whoSits dy np sf st) ^^^ (-1)))), (2, ex_i (F_X8_whoSits dy np sf st)), (0, ex_r x), (1, ex_i (nI px.toNatClampNeg))]) dX11_stop_48 rfl (Nat.le_of_ble_eq_true rfl) rfl ?_
      refine X_iload_n (j := 1) dX11_stop_49 rfl rfl ?_
      refine X_iconst (v := 1) dX11_stop_50 (by decide) ?_
      refine X_iload_n (j := 3) dX11_stop_51 rfl rfl ?_
      refine X_ishl (v := (1 <<< ((nI px.toNatClampNeg) &&& 31))) dX11_stop_52 rfl ?_
      refine X_iconst (v := (-1)) dX11_stop_53 (by decide) ?_
      refine X_ixor (v := ((1 <<< ((nI px.toNatClampNeg) &&& 31)) ^^^ (-1))) dX11_stop_54 rfl ?_
      refine X_iand (v := ((F_X8_whoSits dy np sf st) &&& ((1 <<< ((nI px.toNatClampNeg) &&& 31)) ^^^ (-1)))) dX11_stop_55 rfl ?_
      refine X_istore (lv' := [(4, ex_i ((F_X8_whoSits dy np sf st) &&& ((1 <<< ((nI px.toNatClampNeg) &&& 31)) ^^^ (-1)))), (3, ex_i ((nI (F_X0_everybody np)) &&& ((F_X8_whoSits dy np sf st) ^^^ (-1)))), (2, ex_i (F_X8_whoSits dy np sf st)), (0, ex_r x), (1, ex_i (nI px.toNatClampNeg))]) dX11_stop_56 (Nat.le_of_ble_eq_true rfl) rfl ?_
      have hx4z := nI_ofv (vp_any ((1 <<< ((nI px.toNatClampNeg) &&& 31)) ^^^ (-1)) (who_in (dy := dy) (sf := sf) (st := st) hnp)) (by decide)
      have hx4 := hx4z.1
      have hl4 := hx4z.2
      refine X_eq (cs' := [(c, ex_o 0 [ex_r c0, ex_r c1, ex_r c2, ex_r c3, ex_r c4, ex_r c5, ex_r c6, ex_r c7, ex_r c8, ex_r c9, ex_r c10, ex_r c11, ex_r c12, ex_i (nI np), ex_i (nI nd), ex_i sto, ex_i res, ex_r c17, ex_r c18, ex_r c19]), (n, ex_o 8 [ex_i dy, ex_i sr, ex_i il, ex_r nf, ex_r na, ex_r nh]), (c5, ex_a 1 6 sf), (c6, ex_a 1 6 st), (x, ex_o 11 [ex_r t, ex_r rd, ex_r c, ex_r kq, ex_r w, ex_r v, ex_r n, ex_r tl, ex_r pa, ex_i (nI pnx), ex_i (nI pln), ex_r ma, ex_r hs, ex_r pp, ex_r pt, ex_r pg, ex_r kr]), (c7, ex_a 1 6 cu)]) (lv' := [(4, ex_i (nI ((F_X8_whoSits dy np sf st) &&& ((1 <<< ((nI px.toNatClampNeg) &&& 31)) ^^^ (-1))).toNatClampNeg)), (3, ex_i ((nI (F_X0_everybody np)) &&& ((F_X8_whoSits dy np sf st) ^^^ (-1)))), (2, ex_i (F_X8_whoSits dy np sf st)), (0, ex_r x), (1, ex_i (nI px.toNatClampNeg))]) rfl (by rw [← hx4] <;> rfl) ?_
      refine X_iconst (v := (-1)) dX11_stop_58 (by decide) ?_
      refine X_istore (lv' := [(5, ex_i (-1)), (4, ex_i (nI ((F_X8_whoSits dy np sf st) &&& ((1 <<< ((nI px.toNatClampNeg) &&& 31)) ^^^ (-1))).toNatClampNeg)), (3, ex_i ((nI (F_X0_everybody np)) &&& ((F_X8_whoSits dy np sf st) ^^^ (-1)))), (2, ex_i (F_X8_whoSits dy np sf st)), (0, ex_r x), (1, ex_i (nI px.toNatClampNeg))]) dX11_stop_59 (Nat.le_of_ble_eq_true rfl) rfl ?_
      refine X_iconst (v := 0) dX11_stop_61 (by decide) ?_
      refine X_istore (lv' := [(6, ex_i 0), (5, ex_i (-1)), (4, ex_i (nI ((F_X8_whoSits dy np sf st) &&& ((1 <<< ((nI px.toNatClampNeg) &&& 31)) ^^^ (-1))).toNatClampNeg)), (3, ex_i ((nI (F_X0_everybody np)) &&& ((F_X8_whoSits dy np sf st) ^^^ (-1)))), (2, ex_i (F_X8_whoSits dy np sf st)), (0, ex_r x), (1, ex_i (nI px.toNatClampNeg))]) dX11_stop_62 (Nat.le_of_ble_eq_true rfl) rfl ?_
      -- loop at 64
      try dsimp only at hV
      generalize hq_v_3 : F_X11_stop_L64 px dy np sf st cu (((((F_X8_whoSits dy np sf st) &&& ((1 <<< ((nI px.toNatClampNeg) &&& 31)) ^^^ (-1))).toNatClampNeg) + 1) - 0) 0 (-1) = v_3 at hV
      try dsimp only at hV
      refine X_cut (P := True) (csE := [(c, ex_o 0 [ex_r c0, ex_r c1, ex_r c2, ex_r c3, ex_r c4, ex_r c5, ex_r c6, ex_r c7, ex_r c8, ex_r c9, ex_r c10, ex_r c11, ex_r c12, ex_i (nI np), ex_i (nI nd), ex_i sto, ex_i res, ex_r c17, ex_r c18, ex_r c19]), (n, ex_o 8 [ex_i dy, ex_i sr, ex_i il, ex_r nf, ex_r na, ex_r nh]), (c5, ex_a 1 6 sf), (c6, ex_a 1 6 st), (x, ex_o 11 [ex_r t, ex_r rd, ex_r c, ex_r kq, ex_r w, ex_r v, ex_r n, ex_r tl, ex_r pa, ex_i (nI pnx), ex_i (nI pln), ex_r ma, ex_r hs, ex_r pp, ex_r pt, ex_r pg, ex_r kr]), (c7, ex_a 1 6 cu)]) (lvE := [(5, ex_i v_3), (4, ex_i (nI ((F_X8_whoSits dy np sf st) &&& ((1 <<< ((nI px.toNatClampNeg) &&& 31)) ^^^ (-1))).toNatClampNeg)), (3, ex_i ((nI (F_X0_everybody np)) &&& ((F_X8_whoSits dy np sf st) ^^^ (-1)))), (2, ex_i (F_X8_whoSits dy np sf st)), (0, ex_r x), (1, ex_i (nI px.toNatClampNeg))]) (E := 139) (fun hrest64 => ?_) (fun hPX64 => ?_)
      · have hL64 := hq_v_3.symm
        refine X_ind (fun (a64 : Nat × Int32) => v_3 = F_X11_stop_L64 px dy np sf st cu (((((F_X8_whoSits dy np sf st) &&& ((1 <<< ((nI px.toNatClampNeg) &&& 31)) ^^^ (-1))).toNatClampNeg) + 1) - a64.1) a64.1 a64.2 ∧ a64.1 ≤ ((((F_X8_whoSits dy np sf st) &&& ((1 <<< ((nI px.toNatClampNeg) &&& 31)) ^^^ (-1))).toNatClampNeg) + 1)) (fun (a64 : Nat × Int32) => ((((F_X8_whoSits dy np sf st) &&& ((1 <<< ((nI px.toNatClampNeg) &&& 31)) ^^^ (-1))).toNatClampNeg) + 1) - a64.1) (fun (a64 : Nat × Int32) => [(c, ex_o 0 [ex_r c0, ex_r c1, ex_r c2, ex_r c3, ex_r c4, ex_r c5, ex_r c6, ex_r c7, ex_r c8, ex_r c9, ex_r c10, ex_r c11, ex_r c12, ex_i (nI np), ex_i (nI nd), ex_i sto, ex_i res, ex_r c17, ex_r c18, ex_r c19]), (n, ex_o 8 [ex_i dy, ex_i sr, ex_i il, ex_r nf, ex_r na, ex_r nh]), (c5, ex_a 1 6 sf), (c6, ex_a 1 6 st), (x, ex_o 11 [ex_r t, ex_r rd, ex_r c, ex_r kq, ex_r w, ex_r v, ex_r n, ex_r tl, ex_r pa, ex_i (nI pnx), ex_i (nI pln), ex_r ma, ex_r hs, ex_r pp, ex_r pt, ex_r pg, ex_r kr]), (c7, ex_a 1 6 cu)]) (fun (a64 : Nat × Int32) => [(6, ex_i (nI a64.1)), (5, ex_i a64.2), (4, ex_i (nI ((F_X8_whoSits dy np sf st) &&& ((1 <<< ((nI px.toNatClampNeg) &&& 31)) ^^^ (-1))).toNatClampNeg)), (3, ex_i ((nI (F_X0_everybody np)) &&& ((F_X8_whoSits dy np sf st) ^^^ (-1)))), (2, ex_i (F_X8_whoSits dy np sf st)), (0, ex_r x), (1, ex_i (nI px.toNatClampNeg))]) (fun ⟨k64, s64_0⟩ hI64 ih64 => ?_) (0, (-1)) ⟨hL64, (by omega)⟩
        try dsimp only at hI64 ih64 ⊢
        have ihc64 : ∀ (k64_ : Nat) (s64_0_ : Int32), (v_3 = F_X11_stop_L64 px dy np sf st cu (((((F_X8_whoSits dy np sf st) &&& ((1 <<< ((nI px.toNatClampNeg) &&& 31)) ^^^ (-1))).toNatClampNeg) + 1) - k64_) k64_ s64_0_ ∧ k64_ ≤ ((((F_X8_whoSits dy np sf st) &&& ((1 <<< ((nI px.toNatClampNeg) &&& 31)) ^^^ (-1))).toNatClampNeg) + 1)) → (((((F_X8_whoSits dy np sf st) &&& ((1 <<< ((nI px.toNatClampNeg) &&& 31)) ^^^ (-1))).toNatClampNeg) + 1) - k64_) < (((((F_X8_whoSits dy np sf st) &&& ((1 <<< ((nI px.toNatClampNeg) &&& 31)) ^^^ (-1))).toNatClampNeg) + 1) - k64) → ex_O _ _ _ _ _ _ _ _ _ [(c, ex_o 0 [ex_r c0, ex_r c1, ex_r c2, ex_r c3, ex_r c4, ex_r c5, ex_r c6, ex_r c7, ex_r c8, ex_r c9, ex_r c10, ex_r c11, ex_r c12, ex_i (nI np), ex_i (nI nd), ex_i sto, ex_i res, ex_r c17, ex_r c18, ex_r c19]), (n, ex_o 8 [ex_i dy, ex_i sr, ex_i il, ex_r nf, ex_r na, ex_r nh]), (c5, ex_a 1 6 sf), (c6, ex_a 1 6 st), (x, ex_o 11 [ex_r t, ex_r rd, ex_r c, ex_r kq, ex_r w, ex_r v, ex_r n, ex_r tl, ex_r pa, ex_i (nI pnx), ex_i (nI pln), ex_r ma, ex_r hs, ex_r pp, ex_r pt, ex_r pg, ex_r kr]), (c7, ex_a 1 6 cu)] [(6, ex_i (nI k64_)), (5, ex_i s64_0_), (4, ex_i (nI ((F_X8_whoSits dy np sf st) &&& ((1 <<< ((nI px.toNatClampNeg) &&& 31)) ^^^ (-1))).toNatClampNeg)), (3, ex_i ((nI (F_X0_everybody np)) &&& ((F_X8_whoSits dy np sf st) ^^^ (-1)))), (2, ex_i (F_X8_whoSits dy np sf st)), (0, ex_r x), (1, ex_i (nI px.toNatClampNeg))] _ _ := fun k64_ s64_0_ hi_ hm_ => ih64 (k64_, s64_0_) hi_ hm_
        have hL64 := hI64.1
        have hb64 := hI64.2
        refine X_iload (j := 0) dX11_stop_64 rfl ?_
        refine X_iload (j := 2) dX11_stop_66 rfl ?_
        refine X_icmp_gt (tgt := 139) dX11_stop_68 (by decide) (fun c_4 => ?_) (fun c_4 => ?_)
        · have hlt64 : k64 = ((((F_X8_whoSits dy np sf st) &&& ((1 <<< ((nI px.toNatClampNeg) &&& 31)) ^^^ (-1))).toNatClampNeg) + 1) := ngtx (L := ((((F_X8_whoSits dy np sf st) &&& ((1 <<< ((nI px.toNatClampNeg) &&& 31)) ^^^ (-1))).toNatClampNeg) + 1)) (by omega) hb64 c_4
          rw [show ((((F_X8_whoSits dy np sf st) &&& ((1 <<< ((nI px.toNatClampNeg) &&& 31)) ^^^ (-1))).toNatClampNeg) + 1) - k64 = 0 by omega] at hL64
          have hL64 := hL64.trans (F_X11_stop_L64_z ..)
          try dsimp only at hL64
          refine X_lv (lv' := [(5, ex_i s64_0), (4, ex_i (nI ((F_X8_whoSits dy np sf st) &&& ((1 <<< ((nI px.toNatClampNeg) &&& 31)) ^^^ (-1))).toNatClampNeg)), (3, ex_i ((nI (F_X0_everybody np)) &&& ((F_X8_whoSits dy np sf st) ^^^ (-1)))), (2, ex_i (F_X8_whoSits dy np sf st)), (0, ex_r x), (1, ex_i (nI px.toNatClampNeg))]) [1, 2, 3, 4, 5, 6] rfl ?_
          refine X_eq (cs' := [(c, ex_o 0 [ex_r c0, ex_r c1, ex_r c2, ex_r c3, ex_r c4, ex_r c5, ex_r c6, ex_r c7, ex_r c8, ex_r c9, ex_r c10, ex_r c11, ex_r c12, ex_i (nI np), ex_i (nI nd), ex_i sto, ex_i res, ex_r c17, ex_r c18, ex_r c19]), (n, ex_o 8 [ex_i dy, ex_i sr, ex_i il, ex_r nf, ex_r na, ex_r nh]), (c5, ex_a 1 6 sf), (c6, ex_a 1 6 st), (x, ex_o 11 [ex_r t, ex_r rd, ex_r c, ex_r kq, ex_r w, ex_r v, ex_r n, ex_r tl, ex_r pa, ex_i (nI pnx), ex_i (nI pln), ex_r ma, ex_r hs, ex_r pp, ex_r pt, ex_r pg, ex_r kr]), (c7, ex_a 1 6 cu)]) (lv' := [(5, ex_i v_3), (4, ex_i (nI ((F_X8_whoSits dy np sf st) &&& ((1 <<< ((nI px.toNatClampNeg) &&& 31)) ^^^ (-1))).toNatClampNeg)), (3, ex_i ((nI (F_X0_everybody np)) &&& ((F_X8_whoSits dy np sf st) ^^^ (-1)))), (2, ex_i (F_X8_whoSits dy np sf st)), (0, ex_r x), (1, ex_i (nI px.toNatClampNeg))]) (by subst hL64; rfl) (by subst hL64; rfl) ?_
          exact hrest64 trivial
        · have hlt64 : k64 < ((((F_X8_whoSits dy np sf st) &&& ((1 <<< ((nI px.toNatClampNeg) &&& 31)) ^^^ (-1))).toNatClampNeg) + 1) := ngti (L := ((((F_X8_whoSits dy np sf st) &&& ((1 <<< ((nI px.toNatClampNeg) &&& 31)) ^^^ (-1))).toNatClampNeg) + 1)) (by omega) hb64 c_4
          rw [show ((((F_X8_whoSits dy np sf st) &&& ((1 <<< ((nI px.toNatClampNeg) &&& 31)) ^^^ (-1))).toNatClampNeg) + 1) - k64 = (((((F_X8_whoSits dy np sf st) &&& ((1 <<< ((nI px.toNatClampNeg) &&& 31)) ^^^ (-1))).toNatClampNeg) + 1) - (k64 + 1)) + 1 by omega] at hL64
          have hL64 := hL64.trans (F_X11_stop_L64_s ..)
          refine X_iload (j := 1) dX11_stop_71 rfl ?_
          refine X_iconst (v := (-1)) dX11_stop_73 (by decide) ?_
          refine X_icmp_eq (tgt := 90) dX11_stop_74 (by decide) (fun c_5 => ?_) (fun c_5 => ?_)
          · have hL64 := hL64.trans (if_pos c_5)
            refine X_iconst (v := 1) dX11_stop_90 (by decide) ?_
            refine X_goto (tgt := 95) dX11_stop_91 (by decide) ?_
            refine X_istore (lv' := [(7, ex_i 1), (6, ex_i (nI k64)), (5, ex_i s64_0), (4, ex_i (nI ((F_X8_whoSits dy np sf st) &&& ((1 <<< ((nI px.toNatClampNeg) &&& 31)) ^^^ (-1))).toNatClampNeg)), (3, ex_i ((nI (F_X0_everybody np)) &&& ((F_X8_whoSits dy np sf st) ^^^ (-1)))), (2, ex_i (F_X8_whoSits dy np sf st)), (0, ex_r x), (1, ex_i (nI px.toNatClampNeg))]) dX11_stop_95 (Nat.le_of_ble_eq_true rfl) rfl ?_
            refine X_iload (j := 1) dX11_stop_97 rfl ?_
            refine X_iload (j := 3) dX11_stop_99 rfl ?_
            refine X_iconst (v := (-1)) dX11_stop_101 (by decide) ?_
            refine X_ixor (v := ((nI ((F_X8_whoSits dy np sf st) &&& ((1 <<< ((nI px.toNatClampNeg) &&& 31)) ^^^ (-1))).toNatClampNeg) ^^^ (-1))) dX11_stop_102 rfl ?_
            refine X_iand (v := ((nI k64) &&& ((nI ((F_X8_whoSits dy np sf st) &&& ((1 <<< ((nI px.toNatClampNeg) &&& 31)) ^^^ (-1))).toNatClampNeg) ^^^ (-1)))) dX11_stop_103 rfl ?_
            refine X_if_ne (tgt := 133) dX11_stop_104 (by decide) (fun c_6 => ?_) (fun c_6 => ?_)
            · have hL64 := hL64.trans (if_neg c_6)
              refine X_iinc (v := nI (k64 + 1)) (j := 1) (lv' := [(6, ex_i (nI (k64 + 1))), (7, ex_i 1), (5, ex_i s64_0), (4, ex_i (nI ((F_X8_whoSits dy np sf st) &&& ((1 <<< ((nI px.toNatClampNeg) &&& 31)) ^^^ (-1))).toNatClampNeg)), (3, ex_i ((nI (F_X0_everybody np)) &&& ((F_X8_whoSits dy np sf st) ^^^ (-1)))), (2, ex_i (F_X8_whoSits dy np sf st)), (0, ex_r x), (1, ex_i (nI px.toNatClampNeg))]) dX11_stop_133 rfl (nI_add k64 1) (Nat.le_of_ble_eq_true rfl) rfl ?_
              refine X_goto (tgt := 64) dX11_stop_136 (by decide) ?_
              try dsimp only at hL64
              refine X_lv (lv' := [(6, ex_i (nI (k64 + 1))), (5, ex_i s64_0), (4, ex_i (nI ((F_X8_whoSits dy np sf st) &&& ((1 <<< ((nI px.toNatClampNeg) &&& 31)) ^^^ (-1))).toNatClampNeg)), (3, ex_i ((nI (F_X0_everybody np)) &&& ((F_X8_whoSits dy np sf st) ^^^ (-1)))), (2, ex_i (F_X8_whoSits dy np sf st)), (0, ex_r x), (1, ex_i (nI px.toNatClampNeg))]) [0, 2, 3, 4, 5, 6, 7] rfl ?_
              exact ihc64 (k64 + 1) s64_0 ⟨hL64, (show (k64 + 1) ≤ ((((F_X8_whoSits dy np sf st) &&& ((1 <<< ((nI px.toNatClampNeg) &&& 31)) ^^^ (-1))).toNatClampNeg) + 1) by omega)⟩ (show ((((F_X8_whoSits dy np sf st) &&& ((1 <<< ((nI px.toNatClampNeg) &&& 31)) ^^^ (-1))).toNatClampNeg) + 1) - (k64 + 1) < ((((F_X8_whoSits dy np sf st) &&& ((1 <<< ((nI px.toNatClampNeg) &&& 31)) ^^^ (-1))).toNatClampNeg) + 1) - k64 by omega)
            · have hL64 := hL64.trans (if_pos c_6)
              refine X_iload (j := 0) dX11_stop_107 rfl ?_
              refine X_if_eq (tgt := 133) dX11_stop_109 (by decide) (fun c_ => absurd c_ (by decide)) (fun _ => ?_)
              refine X_aload_n (j := 6) dX11_stop_112 rfl rfl ?_
              refine X_get (j := 4) fo_X11_26 dX11_stop_113 rfl rfl ?_
              refine X_iload_n (j := 4) dX11_stop_116 rfl rfl ?_
              refine X_iload (j := 1) dX11_stop_117 rfl ?_
              refine X_callV (j0 := 0) (rest := [(n, ex_o 8 [ex_i dy, ex_i sr, ex_i il, ex_r nf, ex_r na, ex_r nh]), (c5, ex_a 1 6 sf), (c6, ex_a 1 6 st), (x, ex_o 11 [ex_r t, ex_r rd, ex_r c, ex_r kq, ex_r w, ex_r v, ex_r n, ex_r tl, ex_r pa, ex_i (nI pnx), ex_i (nI pln), ex_r ma, ex_r hs, ex_r pp, ex_r pt, ex_r pg, ex_r kr])]) (stk := []) co_X11_263 rfl ⟨(Nat.le_of_ble_eq_true rfl), (Nat.le_of_ble_eq_true rfl)⟩ (e_X0_reached l c ((nI (F_X0_everybody np)) &&& ((F_X8_whoSits dy np sf st) ^^^ (-1))) (nI k64) c0 c1 c2 c3 c4 c5 c6 c7 c8 c9 c10 c11 c12 np nd sto res c17 c18 c19 cu (by first | assumption | omega)) dX11_stop_119 [0, 5, 1, 2, 3, 4] (show List.Perm [0, 5, 1, 2, 3, 4] (List.range 6) from by decide) rfl rfl rfl rfl (Nat.le_of_ble_eq_true rfl) (fun zc1 zr hq hk => ?_)
              obtain ⟨rfl, rfl⟩ := hq
              refine X_iload_n (j := 7) dX11_stop_122 rfl rfl ?_
              refine X_ishr (v := ((F_X0_reached ((nI (F_X0_everybody np)) &&& ((F_X8_whoSits dy np sf st) ^^^ (-1))) (nI k64) np cu) >>> ((nI px.toNatClampNeg) &&& 31))) dX11_stop_123 rfl ?_
              refine X_iconst (v := 1) dX11_stop_124 (by decide) ?_
              refine X_iand (v := (((F_X0_reached ((nI (F_X0_everybody np)) &&& ((F_X8_whoSits dy np sf st) ^^^ (-1))) (nI k64) np cu) >>> ((nI px.toNatClampNeg) &&& 31)) &&& 1)) dX11_stop_125 rfl ?_
              refine X_if_ne (tgt := 133) dX11_stop_126 (by decide) (fun c_7 => ?_) (fun c_7 => ?_)
              · have hL64 := hL64.trans (if_neg c_7)
                refine X_iinc (v := nI (k64 + 1)) (j := 1) (lv' := [(6, ex_i (nI (k64 + 1))), (7, ex_i 1), (5, ex_i s64_0), (4, ex_i (nI ((F_X8_whoSits dy np sf st) &&& ((1 <<< ((nI px.toNatClampNeg) &&& 31)) ^^^ (-1))).toNatClampNeg)), (3, ex_i ((nI (F_X0_everybody np)) &&& ((F_X8_whoSits dy np sf st) ^^^ (-1)))), (2, ex_i (F_X8_whoSits dy np sf st)), (0, ex_r x), (1, ex_i (nI px.toNatClampNeg))]) dX11_stop_133 rfl (nI_add k64 1) (Nat.le_of_ble_eq_true rfl) rfl ?_
                refine X_goto (tgt := 64) dX11_stop_136 (by decide) ?_
                try dsimp only at hL64
                refine X_re (cs' := [(c, ex_o 0 [ex_r c0, ex_r c1, ex_r c2, ex_r c3, ex_r c4, ex_r c5, ex_r c6, ex_r c7, ex_r c8, ex_r c9, ex_r c10, ex_r c11, ex_r c12, ex_i (nI np), ex_i (nI nd), ex_i sto, ex_i res, ex_r c17, ex_r c18, ex_r c19]), (n, ex_o 8 [ex_i dy, ex_i sr, ex_i il, ex_r nf, ex_r na, ex_r nh]), (c5, ex_a 1 6 sf), (c6, ex_a 1 6 st), (x, ex_o 11 [ex_r t, ex_r rd, ex_r c, ex_r kq, ex_r w, ex_r v, ex_r n, ex_r tl, ex_r pa, ex_i (nI pnx), ex_i (nI pln), ex_r ma, ex_r hs, ex_r pp, ex_r pt, ex_r pg, ex_r kr]), (c7, ex_a 1 6 cu)]) [0, 2, 3, 4, 5, 1] (show List.Perm [0, 2, 3, 4, 5, 1] (List.range 6) from by decide) rfl ?_
                refine X_lv (lv' := [(6, ex_i (nI (k64 + 1))), (5, ex_i s64_0), (4, ex_i (nI ((F_X8_whoSits dy np sf st) &&& ((1 <<< ((nI px.toNatClampNeg) &&& 31)) ^^^ (-1))).toNatClampNeg)), (3, ex_i ((nI (F_X0_everybody np)) &&& ((F_X8_whoSits dy np sf st) ^^^ (-1)))), (2, ex_i (F_X8_whoSits dy np sf st)), (0, ex_r x), (1, ex_i (nI px.toNatClampNeg))]) [0, 2, 3, 4, 5, 6, 7] rfl ?_
                exact ihc64 (k64 + 1) s64_0 ⟨hL64, (show (k64 + 1) ≤ ((((F_X8_whoSits dy np sf st) &&& ((1 <<< ((nI px.toNatClampNeg) &&& 31)) ^^^ (-1))).toNatClampNeg) + 1) by omega)⟩ (show ((((F_X8_whoSits dy np sf st) &&& ((1 <<< ((nI px.toNatClampNeg) &&& 31)) ^^^ (-1))).toNatClampNeg) + 1) - (k64 + 1) < ((((F_X8_whoSits dy np sf st) &&& ((1 <<< ((nI px.toNatClampNeg) &&& 31)) ^^^ (-1))).toNatClampNeg) + 1) - k64 by omega)
              · have hL64 := hL64.trans (if_pos c_7)
                refine X_iload (j := 1) dX11_stop_129 rfl ?_
                refine X_istore (lv' := [(5, ex_i (nI k64)), (7, ex_i 1), (6, ex_i (nI k64)), (4, ex_i (nI ((F_X8_whoSits dy np sf st) &&& ((1 <<< ((nI px.toNatClampNeg) &&& 31)) ^^^ (-1))).toNatClampNeg)), (3, ex_i ((nI (F_X0_everybody np)) &&& ((F_X8_whoSits dy np sf st) ^^^ (-1)))), (2, ex_i (F_X8_whoSits dy np sf st)), (0, ex_r x), (1, ex_i (nI px.toNatClampNeg))]) dX11_stop_131 (Nat.le_of_ble_eq_true rfl) rfl ?_
                refine X_iinc (v := nI (k64 + 1)) (j := 2) (lv' := [(6, ex_i (nI (k64 + 1))), (5, ex_i (nI k64)), (7, ex_i 1), (4, ex_i (nI ((F_X8_whoSits dy np sf st) &&& ((1 <<< ((nI px.toNatClampNeg) &&& 31)) ^^^ (-1))).toNatClampNeg)), (3, ex_i ((nI (F_X0_everybody np)) &&& ((F_X8_whoSits dy np sf st) ^^^ (-1)))), (2, ex_i (F_X8_whoSits dy np sf st)), (0, ex_r x), (1, ex_i (nI px.toNatClampNeg))]) dX11_stop_133 rfl (nI_add k64 1) (Nat.le_of_ble_eq_true rfl) rfl ?_
                refine X_goto (tgt := 64) dX11_stop_136 (by decide) ?_
                try dsimp only at hL64
                refine X_re (cs' := [(c, ex_o 0 [ex_r c0, ex_r c1, ex_r c2, ex_r c3, ex_r c4, ex_r c5, ex_r c6, ex_r c7, ex_r c8, ex_r c9, ex_r c10, ex_r c11, ex_r c12, ex_i (nI np), ex_i (nI nd), ex_i sto, ex_i res, ex_r c17, ex_r c18, ex_r c19]), (n, ex_o 8 [ex_i dy, ex_i sr, ex_i il, ex_r nf, ex_r na, ex_r nh]), (c5, ex_a 1 6 sf), (c6, ex_a 1 6 st), (x, ex_o 11 [ex_r t, ex_r rd, ex_r c, ex_r kq, ex_r w, ex_r v, ex_r n, ex_r tl, ex_r pa, ex_i (nI pnx), ex_i (nI pln), ex_r ma, ex_r hs, ex_r pp, ex_r pt, ex_r pg, ex_r kr]), (c7, ex_a 1 6 cu)]) [0, 2, 3, 4, 5, 1] (show List.Perm [0, 2, 3, 4, 5, 1] (List.range 6) from by decide) rfl ?_
                refine X_lv (lv' := [(6, ex_i (nI (k64 + 1))), (5, ex_i (nI k64)), (4, ex_i (nI ((F_X8_whoSits dy np sf st) &&& ((1 <<< ((nI px.toNatClampNeg) &&& 31)) ^^^ (-1))).toNatClampNeg)), (3, ex_i ((nI (F_X0_everybody np)) &&& ((F_X8_whoSits dy np sf st) ^^^ (-1)))), (2, ex_i (F_X8_whoSits dy np sf st)), (0, ex_r x), (1, ex_i (nI px.toNatClampNeg))]) [0, 1, 3, 4, 5, 6, 7] rfl ?_
                exact ihc64 (k64 + 1) (nI k64) ⟨hL64, (show (k64 + 1) ≤ ((((F_X8_whoSits dy np sf st) &&& ((1 <<< ((nI px.toNatClampNeg) &&& 31)) ^^^ (-1))).toNatClampNeg) + 1) by omega)⟩ (show ((((F_X8_whoSits dy np sf st) &&& ((1 <<< ((nI px.toNatClampNeg) &&& 31)) ^^^ (-1))).toNatClampNeg) + 1) - (k64 + 1) < ((((F_X8_whoSits dy np sf st) &&& ((1 <<< ((nI px.toNatClampNeg) &&& 31)) ^^^ (-1))).toNatClampNeg) + 1) - k64 by omega)
          · have hL64 := hL64.trans (if_neg c_5)
            refine X_iload (j := 0) dX11_stop_77 rfl ?_
            refine X_callS (rest := [(c, ex_o 0 [ex_r c0, ex_r c1, ex_r c2, ex_r c3, ex_r c4, ex_r c5, ex_r c6, ex_r c7, ex_r c8, ex_r c9, ex_r c10, ex_r c11, ex_r c12, ex_i (nI np), ex_i (nI nd), ex_i sto, ex_i res, ex_r c17, ex_r c18, ex_r c19]), (n, ex_o 8 [ex_i dy, ex_i sr, ex_i il, ex_r nf, ex_r na, ex_r nh]), (c5, ex_a 1 6 sf), (c6, ex_a 1 6 st), (x, ex_o 11 [ex_r t, ex_r rd, ex_r c, ex_r kq, ex_r w, ex_r v, ex_r n, ex_r tl, ex_r pa, ex_i (nI pnx), ex_i (nI pln), ex_r ma, ex_r hs, ex_r pp, ex_r pt, ex_r pg, ex_r kr]), (c7, ex_a 1 6 cu)]) (stk := []) co_X11_257 rfl ⟨(Nat.le_of_ble_eq_true rfl), (Nat.le_of_ble_eq_true rfl)⟩ (e_J6_bitCount_0f7a4 l (nI k64)) dX11_stop_79 [0, 1, 2, 3, 4, 5] (show List.Perm [0, 1, 2, 3, 4, 5] (List.range 6) from by decide) rfl rfl rfl (Nat.le_of_ble_eq_true rfl) (fun zc1 zr hq hk => ?_)
            obtain ⟨rfl, rfl⟩ := hq
            refine X_iload (j := 1) dX11_stop_82 rfl ?_
            refine X_callS (rest := [(c, ex_o 0 [ex_r c0, ex_r c1, ex_r c2, ex_r c3, ex_r c4, ex_r c5, ex_r c6, ex_r c7, ex_r c8, ex_r c9, ex_r c10, ex_r c11, ex_r c12, ex_i (nI np), ex_i (nI nd), ex_i sto, ex_i res, ex_r c17, ex_r c18, ex_r c19]), (n, ex_o 8 [ex_i dy, ex_i sr, ex_i il, ex_r nf, ex_r na, ex_r nh]), (c5, ex_a 1 6 sf), (c6, ex_a 1 6 st), (x, ex_o 11 [ex_r t, ex_r rd, ex_r c, ex_r kq, ex_r w, ex_r v, ex_r n, ex_r tl, ex_r pa, ex_i (nI pnx), ex_i (nI pln), ex_r ma, ex_r hs, ex_r pp, ex_r pt, ex_r pg, ex_r kr]), (c7, ex_a 1 6 cu)]) (stk := [ex_i (F_J6_bitCount_0f7a4 (nI k64))]) co_X11_257 rfl ⟨(Nat.le_of_ble_eq_true rfl), (Nat.le_of_ble_eq_true rfl)⟩ (e_J6_bitCount_0f7a4 l s64_0) dX11_stop_84 [0, 1, 2, 3, 4, 5] (show List.Perm [0, 1, 2, 3, 4, 5] (List.range 6) from by decide) rfl rfl rfl (Nat.le_of_ble_eq_true rfl) (fun zc1 zr hq hk => ?_)
            obtain ⟨rfl, rfl⟩ := hq
            refine X_icmp_ge (tgt := 94) dX11_stop_87 (by decide) (fun c_8 => ?_) (fun c_8 => ?_)
            · have hL64 := hL64.trans (if_pos c_8)
              refine X_iconst (v := 0) dX11_stop_94 (by decide) ?_
              refine X_istore (lv' := [(7, ex_i 0), (6, ex_i (nI k64)), (5, ex_i s64_0), (4, ex_i (nI ((F_X8_whoSits dy np sf st) &&& ((1 <<< ((nI px.toNatClampNeg) &&& 31)) ^^^ (-1))).toNatClampNeg)), (3, ex_i ((nI (F_X0_everybody np)) &&& ((F_X8_whoSits dy np sf st) ^^^ (-1)))), (2, ex_i (F_X8_whoSits dy np sf st)), (0, ex_r x), (1, ex_i (nI px.toNatClampNeg))]) dX11_stop_95 (Nat.le_of_ble_eq_true rfl) rfl ?_
              refine X_iload (j := 1) dX11_stop_97 rfl ?_
              refine X_iload (j := 3) dX11_stop_99 rfl ?_
              refine X_iconst (v := (-1)) dX11_stop_101 (by decide) ?_
              refine X_ixor (v := ((nI ((F_X8_whoSits dy np sf st) &&& ((1 <<< ((nI px.toNatClampNeg) &&& 31)) ^^^ (-1))).toNatClampNeg) ^^^ (-1))) dX11_stop_102 rfl ?_
              refine X_iand (v := ((nI k64) &&& ((nI ((F_X8_whoSits dy np sf st) &&& ((1 <<< ((nI px.toNatClampNeg) &&& 31)) ^^^ (-1))).toNatClampNeg) ^^^ (-1)))) dX11_stop_103 rfl ?_
              refine X_if_ne (tgt := 133) dX11_stop_104 (by decide) (fun c_9 => ?_) (fun c_9 => ?_)
              · have hL64 := hL64.trans (if_neg c_9)
                refine X_iinc (v := nI (k64 + 1)) (j := 1) (lv' := [(6, ex_i (nI (k64 + 1))), (7, ex_i 0), (5, ex_i s64_0), (4, ex_i (nI ((F_X8_whoSits dy np sf st) &&& ((1 <<< ((nI px.toNatClampNeg) &&& 31)) ^^^ (-1))).toNatClampNeg)), (3, ex_i ((nI (F_X0_everybody np)) &&& ((F_X8_whoSits dy np sf st) ^^^ (-1)))), (2, ex_i (F_X8_whoSits dy np sf st)), (0, ex_r x), (1, ex_i (nI px.toNatClampNeg))]) dX11_stop_133 rfl (nI_add k64 1) (Nat.le_of_ble_eq_true rfl) rfl ?_
                refine X_goto (tgt := 64) dX11_stop_136 (by decide) ?_
                try dsimp only at hL64
                refine X_lv (lv' := [(6, ex_i (nI (k64 + 1))), (5, ex_i s64_0), (4, ex_i (nI ((F_X8_whoSits dy np sf st) &&& ((1 <<< ((nI px.toNatClampNeg) &&& 31)) ^^^ (-1))).toNatClampNeg)), (3, ex_i ((nI (F_X0_everybody np)) &&& ((F_X8_whoSits dy np sf st) ^^^ (-1)))), (2, ex_i (F_X8_whoSits dy np sf st)), (0, ex_r x), (1, ex_i (nI px.toNatClampNeg))]) [0, 2, 3, 4, 5, 6, 7] rfl ?_
                exact ihc64 (k64 + 1) s64_0 ⟨hL64, (show (k64 + 1) ≤ ((((F_X8_whoSits dy np sf st) &&& ((1 <<< ((nI px.toNatClampNeg) &&& 31)) ^^^ (-1))).toNatClampNeg) + 1) by omega)⟩ (show ((((F_X8_whoSits dy np sf st) &&& ((1 <<< ((nI px.toNatClampNeg) &&& 31)) ^^^ (-1))).toNatClampNeg) + 1) - (k64 + 1) < ((((F_X8_whoSits dy np sf st) &&& ((1 <<< ((nI px.toNatClampNeg) &&& 31)) ^^^ (-1))).toNatClampNeg) + 1) - k64 by omega)
              · have hL64 := hL64.trans (if_pos c_9)
                refine X_iload (j := 0) dX11_stop_107 rfl ?_
                refine X_if_eq (tgt := 133) dX11_stop_109 (by decide) (fun _ => ?_) (fun c_ => absurd rfl c_)
                refine X_iinc (v := nI (k64 + 1)) (j := 1) (lv' := [(6, ex_i (nI (k64 + 1))), (7, ex_i 0), (5, ex_i s64_0), (4, ex_i (nI ((F_X8_whoSits dy np sf st) &&& ((1 <<< ((nI px.toNatClampNeg) &&& 31)) ^^^ (-1))).toNatClampNeg)), (3, ex_i ((nI (F_X0_everybody np)) &&& ((F_X8_whoSits dy np sf st) ^^^ (-1)))), (2, ex_i (F_X8_whoSits dy np sf st)), (0, ex_r x), (1, ex_i (nI px.toNatClampNeg))]) dX11_stop_133 rfl (nI_add k64 1) (Nat.le_of_ble_eq_true rfl) rfl ?_
                refine X_goto (tgt := 64) dX11_stop_136 (by decide) ?_
                try dsimp only at hL64
                refine X_lv (lv' := [(6, ex_i (nI (k64 + 1))), (5, ex_i s64_0), (4, ex_i (nI ((F_X8_whoSits dy np sf st) &&& ((1 <<< ((nI px.toNatClampNeg) &&& 31)) ^^^ (-1))).toNatClampNeg)), (3, ex_i ((nI (F_X0_everybody np)) &&& ((F_X8_whoSits dy np sf st) ^^^ (-1)))), (2, ex_i (F_X8_whoSits dy np sf st)), (0, ex_r x), (1, ex_i (nI px.toNatClampNeg))]) [0, 2, 3, 4, 5, 6, 7] rfl ?_
                exact ihc64 (k64 + 1) s64_0 ⟨hL64, (show (k64 + 1) ≤ ((((F_X8_whoSits dy np sf st) &&& ((1 <<< ((nI px.toNatClampNeg) &&& 31)) ^^^ (-1))).toNatClampNeg) + 1) by omega)⟩ (show ((((F_X8_whoSits dy np sf st) &&& ((1 <<< ((nI px.toNatClampNeg) &&& 31)) ^^^ (-1))).toNatClampNeg) + 1) - (k64 + 1) < ((((F_X8_whoSits dy np sf st) &&& ((1 <<< ((nI px.toNatClampNeg) &&& 31)) ^^^ (-1))).toNatClampNeg) + 1) - k64 by omega)
            · have hL64 := hL64.trans (if_neg c_8)
              refine X_iconst (v := 1) dX11_stop_90 (by decide) ?_
              refine X_goto (tgt := 95) dX11_stop_91 (by decide) ?_
              refine X_istore (lv' := [(7, ex_i 1), (6, ex_i (nI k64)), (5, ex_i s64_0), (4, ex_i (nI ((F_X8_whoSits dy np sf st) &&& ((1 <<< ((nI px.toNatClampNeg) &&& 31)) ^^^ (-1))).toNatClampNeg)), (3, ex_i ((nI (F_X0_everybody np)) &&& ((F_X8_whoSits dy np sf st) ^^^ (-1)))), (2, ex_i (F_X8_whoSits dy np sf st)), (0, ex_r x), (1, ex_i (nI px.toNatClampNeg))]) dX11_stop_95 (Nat.le_of_ble_eq_true rfl) rfl ?_
              refine X_iload (j := 1) dX11_stop_97 rfl ?_
              refine X_iload (j := 3) dX11_stop_99 rfl ?_
              refine X_iconst (v := (-1)) dX11_stop_101 (by decide) ?_
              refine X_ixor (v := ((nI ((F_X8_whoSits dy np sf st) &&& ((1 <<< ((nI px.toNatClampNeg) &&& 31)) ^^^ (-1))).toNatClampNeg) ^^^ (-1))) dX11_stop_102 rfl ?_
              refine X_iand (v := ((nI k64) &&& ((nI ((F_X8_whoSits dy np sf st) &&& ((1 <<< ((nI px.toNatClampNeg) &&& 31)) ^^^ (-1))).toNatClampNeg) ^^^ (-1)))) dX11_stop_103 rfl ?_
              refine X_if_ne (tgt := 133) dX11_stop_104 (by decide) (fun c_10 => ?_) (fun c_10 => ?_)
              · have hL64 := hL64.trans (if_neg c_10)
                refine X_iinc (v := nI (k64 + 1)) (j := 1) (lv' := [(6, ex_i (nI (k64 + 1))), (7, ex_i 1), (5, ex_i s64_0), (4, ex_i (nI ((F_X8_whoSits dy np sf st) &&& ((1 <<< ((nI px.toNatClampNeg) &&& 31)) ^^^ (-1))).toNatClampNeg)), (3, ex_i ((nI (F_X0_everybody np)) &&& ((F_X8_whoSits dy np sf st) ^^^ (-1)))), (2, ex_i (F_X8_whoSits dy np sf st)), (0, ex_r x), (1, ex_i (nI px.toNatClampNeg))]) dX11_stop_133 rfl (nI_add k64 1) (Nat.le_of_ble_eq_true rfl) rfl ?_
                refine X_goto (tgt := 64) dX11_stop_136 (by decide) ?_
                try dsimp only at hL64
                refine X_lv (lv' := [(6, ex_i (nI (k64 + 1))), (5, ex_i s64_0), (4, ex_i (nI ((F_X8_whoSits dy np sf st) &&& ((1 <<< ((nI px.toNatClampNeg) &&& 31)) ^^^ (-1))).toNatClampNeg)), (3, ex_i ((nI (F_X0_everybody np)) &&& ((F_X8_whoSits dy np sf st) ^^^ (-1)))), (2, ex_i (F_X8_whoSits dy np sf st)), (0, ex_r x), (1, ex_i (nI px.toNatClampNeg))]) [0, 2, 3, 4, 5, 6, 7] rfl ?_
                exact ihc64 (k64 + 1) s64_0 ⟨hL64, (show (k64 + 1) ≤ ((((F_X8_whoSits dy np sf st) &&& ((1 <<< ((nI px.toNatClampNeg) &&& 31)) ^^^ (-1))).toNatClampNeg) + 1) by omega)⟩ (show ((((F_X8_whoSits dy np sf st) &&& ((1 <<< ((nI px.toNatClampNeg) &&& 31)) ^^^ (-1))).toNatClampNeg) + 1) - (k64 + 1) < ((((F_X8_whoSits dy np sf st) &&& ((1 <<< ((nI px.toNatClampNeg) &&& 31)) ^^^ (-1))).toNatClampNeg) + 1) - k64 by omega)
              · have hL64 := hL64.trans (if_pos c_10)
                refine X_iload (j := 0) dX11_stop_107 rfl ?_
                refine X_if_eq (tgt := 133) dX11_stop_109 (by decide) (fun c_ => absurd c_ (by decide)) (fun _ => ?_)
                refine X_aload_n (j := 6) dX11_stop_112 rfl rfl ?_
                refine X_get (j := 4) fo_X11_26 dX11_stop_113 rfl rfl ?_
                refine X_iload_n (j := 4) dX11_stop_116 rfl rfl ?_
                refine X_iload (j := 1) dX11_stop_117 rfl ?_
                refine X_callV (j0 := 0) (rest := [(n, ex_o 8 [ex_i dy, ex_i sr, ex_i il, ex_r nf, ex_r na, ex_r nh]), (c5, ex_a 1 6 sf), (c6, ex_a 1 6 st), (x, ex_o 11 [ex_r t, ex_r rd, ex_r c, ex_r kq, ex_r w, ex_r v, ex_r n, ex_r tl, ex_r pa, ex_i (nI pnx), ex_i (nI pln), ex_r ma, ex_r hs, ex_r pp, ex_r pt, ex_r pg, ex_r kr])]) (stk := []) co_X11_263 rfl ⟨(Nat.le_of_ble_eq_true rfl), (Nat.le_of_ble_eq_true rfl)⟩ (e_X0_reached l c ((nI (F_X0_everybody np)) &&& ((F_X8_whoSits dy np sf st) ^^^ (-1))) (nI k64) c0 c1 c2 c3 c4 c5 c6 c7 c8 c9 c10 c11 c12 np nd sto res c17 c18 c19 cu (by first | assumption | omega)) dX11_stop_119 [0, 5, 1, 2, 3, 4] (show List.Perm [0, 5, 1, 2, 3, 4] (List.range 6) from by decide) rfl rfl rfl rfl (Nat.le_of_ble_eq_true rfl) (fun zc1 zr hq hk => ?_)
                obtain ⟨rfl, rfl⟩ := hq
                refine X_iload_n (j := 7) dX11_stop_122 rfl rfl ?_
                refine X_ishr (v := ((F_X0_reached ((nI (F_X0_everybody np)) &&& ((F_X8_whoSits dy np sf st) ^^^ (-1))) (nI k64) np cu) >>> ((nI px.toNatClampNeg) &&& 31))) dX11_stop_123 rfl ?_
                refine X_iconst (v := 1) dX11_stop_124 (by decide) ?_
                refine X_iand (v := (((F_X0_reached ((nI (F_X0_everybody np)) &&& ((F_X8_whoSits dy np sf st) ^^^ (-1))) (nI k64) np cu) >>> ((nI px.toNatClampNeg) &&& 31)) &&& 1)) dX11_stop_125 rfl ?_
                refine X_if_ne (tgt := 133) dX11_stop_126 (by decide) (fun c_11 => ?_) (fun c_11 => ?_)
                · have hL64 := hL64.trans (if_neg c_11)
                  refine X_iinc (v := nI (k64 + 1)) (j := 1) (lv' := [(6, ex_i (nI (k64 + 1))), (7, ex_i 1), (5, ex_i s64_0), (4, ex_i (nI ((F_X8_whoSits dy np sf st) &&& ((1 <<< ((nI px.toNatClampNeg) &&& 31)) ^^^ (-1))).toNatClampNeg)), (3, ex_i ((nI (F_X0_everybody np)) &&& ((F_X8_whoSits dy np sf st) ^^^ (-1)))), (2, ex_i (F_X8_whoSits dy np sf st)), (0, ex_r x), (1, ex_i (nI px.toNatClampNeg))]) dX11_stop_133 rfl (nI_add k64 1) (Nat.le_of_ble_eq_true rfl) rfl ?_
                  refine X_goto (tgt := 64) dX11_stop_136 (by decide) ?_
                  try dsimp only at hL64
                  refine X_re (cs' := [(c, ex_o 0 [ex_r c0, ex_r c1, ex_r c2, ex_r c3, ex_r c4, ex_r c5, ex_r c6, ex_r c7, ex_r c8, ex_r c9, ex_r c10, ex_r c11, ex_r c12, ex_i (nI np), ex_i (nI nd), ex_i sto, ex_i res, ex_r c17, ex_r c18, ex_r c19]), (n, ex_o 8 [ex_i dy, ex_i sr, ex_i il, ex_r nf, ex_r na, ex_r nh]), (c5, ex_a 1 6 sf), (c6, ex_a 1 6 st), (x, ex_o 11 [ex_r t, ex_r rd, ex_r c, ex_r kq, ex_r w, ex_r v, ex_r n, ex_r tl, ex_r pa, ex_i (nI pnx), ex_i (nI pln), ex_r ma, ex_r hs, ex_r pp, ex_r pt, ex_r pg, ex_r kr]), (c7, ex_a 1 6 cu)]) [0, 2, 3, 4, 5, 1] (show List.Perm [0, 2, 3, 4, 5, 1] (List.range 6) from by decide) rfl ?_
                  refine X_lv (lv' := [(6, ex_i (nI (k64 + 1))), (5, ex_i s64_0), (4, ex_i (nI ((F_X8_whoSits dy np sf st) &&& ((1 <<< ((nI px.toNatClampNeg) &&& 31)) ^^^ (-1))).toNatClampNeg)), (3, ex_i ((nI (F_X0_everybody np)) &&& ((F_X8_whoSits dy np sf st) ^^^ (-1)))), (2, ex_i (F_X8_whoSits dy np sf st)), (0, ex_r x), (1, ex_i (nI px.toNatClampNeg))]) [0, 2, 3, 4, 5, 6, 7] rfl ?_
                  exact ihc64 (k64 + 1) s64_0 ⟨hL64, (show (k64 + 1) ≤ ((((F_X8_whoSits dy np sf st) &&& ((1 <<< ((nI px.toNatClampNeg) &&& 31)) ^^^ (-1))).toNatClampNeg) + 1) by omega)⟩ (show ((((F_X8_whoSits dy np sf st) &&& ((1 <<< ((nI px.toNatClampNeg) &&& 31)) ^^^ (-1))).toNatClampNeg) + 1) - (k64 + 1) < ((((F_X8_whoSits dy np sf st) &&& ((1 <<< ((nI px.toNatClampNeg) &&& 31)) ^^^ (-1))).toNatClampNeg) + 1) - k64 by omega)
                · have hL64 := hL64.trans (if_pos c_11)
                  refine X_iload (j := 1) dX11_stop_129 rfl ?_
                  refine X_istore (lv' := [(5, ex_i (nI k64)), (7, ex_i 1), (6, ex_i (nI k64)), (4, ex_i (nI ((F_X8_whoSits dy np sf st) &&& ((1 <<< ((nI px.toNatClampNeg) &&& 31)) ^^^ (-1))).toNatClampNeg)), (3, ex_i ((nI (F_X0_everybody np)) &&& ((F_X8_whoSits dy np sf st) ^^^ (-1)))), (2, ex_i (F_X8_whoSits dy np sf st)), (0, ex_r x), (1, ex_i (nI px.toNatClampNeg))]) dX11_stop_131 (Nat.le_of_ble_eq_true rfl) rfl ?_
                  refine X_iinc (v := nI (k64 + 1)) (j := 2) (lv' := [(6, ex_i (nI (k64 + 1))), (5, ex_i (nI k64)), (7, ex_i 1), (4, ex_i (nI ((F_X8_whoSits dy np sf st) &&& ((1 <<< ((nI px.toNatClampNeg) &&& 31)) ^^^ (-1))).toNatClampNeg)), (3, ex_i ((nI (F_X0_everybody np)) &&& ((F_X8_whoSits dy np sf st) ^^^ (-1)))), (2, ex_i (F_X8_whoSits dy np sf st)), (0, ex_r x), (1, ex_i (nI px.toNatClampNeg))]) dX11_stop_133 rfl (nI_add k64 1) (Nat.le_of_ble_eq_true rfl) rfl ?_
                  refine X_goto (tgt := 64) dX11_stop_136 (by decide) ?_
                  try dsimp only at hL64
                  refine X_re (cs' := [(c, ex_o 0 [ex_r c0, ex_r c1, ex_r c2, ex_r c3, ex_r c4, ex_r c5, ex_r c6, ex_r c7, ex_r c8, ex_r c9, ex_r c10, ex_r c11, ex_r c12, ex_i (nI np), ex_i (nI nd), ex_i sto, ex_i res, ex_r c17, ex_r c18, ex_r c19]), (n, ex_o 8 [ex_i dy, ex_i sr, ex_i il, ex_r nf, ex_r na, ex_r nh]), (c5, ex_a 1 6 sf), (c6, ex_a 1 6 st), (x, ex_o 11 [ex_r t, ex_r rd, ex_r c, ex_r kq, ex_r w, ex_r v, ex_r n, ex_r tl, ex_r pa, ex_i (nI pnx), ex_i (nI pln), ex_r ma, ex_r hs, ex_r pp, ex_r pt, ex_r pg, ex_r kr]), (c7, ex_a 1 6 cu)]) [0, 2, 3, 4, 5, 1] (show List.Perm [0, 2, 3, 4, 5, 1] (List.range 6) from by decide) rfl ?_
                  refine X_lv (lv' := [(6, ex_i (nI (k64 + 1))), (5, ex_i (nI k64)), (4, ex_i (nI ((F_X8_whoSits dy np sf st) &&& ((1 <<< ((nI px.toNatClampNeg) &&& 31)) ^^^ (-1))).toNatClampNeg)), (3, ex_i ((nI (F_X0_everybody np)) &&& ((F_X8_whoSits dy np sf st) ^^^ (-1)))), (2, ex_i (F_X8_whoSits dy np sf st)), (0, ex_r x), (1, ex_i (nI px.toNatClampNeg))]) [0, 1, 3, 4, 5, 6, 7] rfl ?_
                  exact ihc64 (k64 + 1) (nI k64) ⟨hL64, (show (k64 + 1) ≤ ((((F_X8_whoSits dy np sf st) &&& ((1 <<< ((nI px.toNatClampNeg) &&& 31)) ^^^ (-1))).toNatClampNeg) + 1) by omega)⟩ (show ((((F_X8_whoSits dy np sf st) &&& ((1 <<< ((nI px.toNatClampNeg) &&& 31)) ^^^ (-1))).toNatClampNeg) + 1) - (k64 + 1) < ((((F_X8_whoSits dy np sf st) &&& ((1 <<< ((nI px.toNatClampNeg) &&& 31)) ^^^ (-1))).toNatClampNeg) + 1) - k64 by omega)
      refine X_iload (j := 0) dX11_stop_139 rfl ?_
      try dsimp only at hV
      refine X_re (cs' := [(x, ex_o 11 [ex_r t, ex_r rd, ex_r c, ex_r kq, ex_r w, ex_r v, ex_r n, ex_r tl, ex_r pa, ex_i (nI pnx), ex_i (nI pln), ex_r ma, ex_r hs, ex_r pp, ex_r pt, ex_r pg, ex_r kr]), (n, ex_o 8 [ex_i dy, ex_i sr, ex_i il, ex_r nf, ex_r na, ex_r nh]), (c, ex_o 0 [ex_r c0, ex_r c1, ex_r c2, ex_r c3, ex_r c4, ex_r c5, ex_r c6, ex_r c7, ex_r c8, ex_r c9, ex_r c10, ex_r c11, ex_r c12, ex_i (nI np), ex_i (nI nd), ex_i sto, ex_i res, ex_r c17, ex_r c18, ex_r c19]), (c5, ex_a 1 6 sf), (c6, ex_a 1 6 st), (c7, ex_a 1 6 cu)]) [4, 1, 0, 2, 3, 5] (show List.Perm [4, 1, 0, 2, 3, 5] (List.range 6) from by decide) rfl ?_
      exact X_iret ex_nI rfl dX11_stop_141 (by (repeat refine ex_kc ?_) <;> rfl) (by subst hV; exact ⟨rfl, rfl⟩)
    · have hV := hV.trans (if_pos c_2)
      refine X_iconst (v := (-1)) dX11_stop_23 (by decide) ?_
      try dsimp only at hV
      refine X_re (cs' := [(x, ex_o 11 [ex_r t, ex_r rd, ex_r c, ex_r kq, ex_r w, ex_r v, ex_r n, ex_r tl, ex_r pa, ex_i (nI pnx), ex_i (nI pln), ex_r ma, ex_r hs, ex_r pp, ex_r pt, ex_r pg, ex_r kr]), (n, ex_o 8 [ex_i dy, ex_i sr, ex_i il, ex_r nf, ex_r na, ex_r nh]), (c, ex_o 0 [ex_r c0, ex_r c1, ex_r c2, ex_r c3, ex_r c4, ex_r c5, ex_r c6, ex_r c7, ex_r c8, ex_r c9, ex_r c10, ex_r c11, ex_r c12, ex_i (nI np), ex_i (nI nd), ex_i sto, ex_i res, ex_r c17, ex_r c18, ex_r c19]), (c5, ex_a 1 6 sf), (c6, ex_a 1 6 st), (c7, ex_a 1 6 cu)]) [4, 0, 1, 2, 3, 5] (show List.Perm [4, 0, 1, 2, 3, 5] (List.range 6) from by decide) rfl ?_
      exact X_iret ex_nI rfl dX11_stop_24 (by (repeat refine ex_kc ?_) <;> rfl) (by subst hV; exact ⟨rfl, rfl⟩)

def F_X11_power_L26 (px : Int32) (qz : Int32) (np : Nat) (vo : Nat → Int32) : Nat → Nat → Int32 → Int32
  | 0, k26, s26_0 => s26_0
  | zn + 1, k26, s26_0 => (if (((nI k26) >>> ((nI px.toNatClampNeg) &&& 31)) &&& 1) = 0 then (if qz ≤ (F_X0_votesOf (nI k26) np vo) then F_X11_power_L26 px qz np vo zn (k26 + 1) s26_0 else (if ((F_X0_votesOf (nI k26) np vo) + (vo px.toNatClampNeg)) < qz then F_X11_power_L26 px qz np vo zn (k26 + 1) s26_0 else F_X11_power_L26 px qz np vo zn (k26 + 1) (s26_0 + 1))) else F_X11_power_L26 px qz np vo zn (k26 + 1) s26_0)
theorem F_X11_power_L26_z (px : Int32) (qz : Int32) (np : Nat) (vo : Nat → Int32) (k26 : Nat) (s26_0 : Int32) : F_X11_power_L26 px qz np vo 0 k26 s26_0 = s26_0 := rfl
theorem F_X11_power_L26_s (px : Int32) (qz : Int32) (np : Nat) (vo : Nat → Int32) (k26 : Nat) (s26_0 : Int32) (zn : Nat) : F_X11_power_L26 px qz np vo (zn + 1) k26 s26_0 = (if (((nI k26) >>> ((nI px.toNatClampNeg) &&& 31)) &&& 1) = 0 then (if qz ≤ (F_X0_votesOf (nI k26) np vo) then F_X11_power_L26 px qz np vo zn (k26 + 1) s26_0 else (if ((F_X0_votesOf (nI k26) np vo) + (vo px.toNatClampNeg)) < qz then F_X11_power_L26 px qz np vo zn (k26 + 1) s26_0 else F_X11_power_L26 px qz np vo zn (k26 + 1) (s26_0 + 1))) else F_X11_power_L26 px qz np vo zn (k26 + 1) s26_0) := rfl
def F_X11_power (px : Int32) (qz : Int32) (np : Nat) (vo : Nat → Int32) : Int32 := (if (F_X11_isPerson px np) = 0 then (-1) else (if qz < 0 then (-1) else (if qz ≤ 999 then ((fun (v_4 : Int32) => v_4) (F_X11_power_L26 px qz np vo (((F_X0_everybody np) + 1) - 0) 0 0)) else (-1))))
set_option maxHeartbeats 4000000 in
set_option maxRecDepth 100000 in
theorem e_X11_power (l : Launch) (x : Nat) (px : Int32) (qz : Int32) (t : Nat) (rd : Nat) (c : Nat) (kq : Nat) (w : Nat) (v : Nat) (n : Nat) (tl : Nat) (pa : Nat) (pnx : Nat) (pln : Nat) (ma : Nat) (hs : Nat) (pp : Nat) (pt : Nat) (pg : Nat) (kr : Nat) (c0 : Nat) (c1 : Nat) (c2 : Nat) (c3 : Nat) (c4 : Nat) (c5 : Nat) (c6 : Nat) (c7 : Nat) (c8 : Nat) (c9 : Nat) (c10 : Nat) (c11 : Nat) (c12 : Nat) (np : Nat) (nd : Nat) (sto : Int32) (res : Int32) (c17 : Nat) (c18 : Nat) (c19 : Nat) (vo : Nat → Int32) (hnp : np ≤ 6) : ex_M l yX11_power cX11_power 7 (some .int) 1 23 [ex_r x, ex_i px, ex_i qz] [(x, ex_o 11 [ex_r t, ex_r rd, ex_r c, ex_r kq, ex_r w, ex_r v, ex_r n, ex_r tl, ex_r pa, ex_i (nI pnx), ex_i (nI pln), ex_r ma, ex_r hs, ex_r pp, ex_r pt, ex_r pg, ex_r kr]), (c, ex_o 0 [ex_r c0, ex_r c1, ex_r c2, ex_r c3, ex_r c4, ex_r c5, ex_r c6, ex_r c7, ex_r c8, ex_r c9, ex_r c10, ex_r c11, ex_r c12, ex_i (nI np), ex_i (nI nd), ex_i sto, ex_i res, ex_r c17, ex_r c18, ex_r c19]), (c4, ex_a 1 6 vo)] (fun zcs zr => zcs = [(x, ex_o 11 [ex_r t, ex_r rd, ex_r c, ex_r kq, ex_r w, ex_r v, ex_r n, ex_r tl, ex_r pa, ex_i (nI pnx), ex_i (nI pln), ex_r ma, ex_r hs, ex_r pp, ex_r pt, ex_r pg, ex_r kr]), (c, ex_o 0 [ex_r c0, ex_r c1, ex_r c2, ex_r c3, ex_r c4, ex_r c5, ex_r c6, ex_r c7, ex_r c8, ex_r c9, ex_r c10, ex_r c11, ex_r c12, ex_i (nI np), ex_i (nI nd), ex_i sto, ex_i res, ex_r c17, ex_r c18, ex_r c19]), (c4, ex_a 1 6 vo)] ∧ zr = some (ex_i (F_X11_power px qz np vo))) := by
  refine X_meth (by decide) (Nat.le_of_ble_eq_true rfl) ?_
  generalize hV : F_X11_power px qz np vo = V0
  have hV := hV.symm
  unfold F_X11_power at hV
  try dsimp only at hV
  refine X_aload_n (j := 0) dX11_power_0 rfl rfl ?_
  refine X_iload_n (j := 1) dX11_power_1 rfl rfl ?_
  refine X_callV (j0 := 0) (rest := [(c4, ex_a 1 6 vo)]) (stk := []) co_X11_124 rfl ⟨(Nat.le_of_ble_eq_true rfl), (Nat.le_of_ble_eq_true rfl)⟩ (e_X11_isPerson l x px t rd c kq w v n tl pa pnx pln ma hs pp pt pg kr c0 c1 c2 c3 c4 c5 c6 c7 c8 c9 c10 c11 c12 np nd sto res c17 c18 c19) dX11_power_2 [0, 1, 2] (show List.Perm [0, 1, 2] (List.range 3) from by decide) rfl rfl rfl rfl (Nat.le_of_ble_eq_true rfl) (fun zc1 zr hq hk => ?_)
  obtain ⟨rfl, rfl⟩ := hq
  refine X_if_eq (tgt := 19) dX11_power_5 (by decide) (fun c_1 => ?_) (fun c_1 => ?_)
  · have hV := hV.trans (if_pos c_1)
    refine X_iconst (v := (-1)) dX11_power_19 (by decide) ?_
    try dsimp only at hV
    exact X_iret ex_nI rfl dX11_power_20 (by (repeat refine ex_kc ?_) <;> rfl) (by subst hV; exact ⟨rfl, rfl⟩)
  · have hV := hV.trans (if_neg c_1)
    refine X_iload_n (j := 2) dX11_power_8 rfl rfl ?_
    refine X_if_lt (tgt := 19) dX11_power_9 (by decide) (fun c_2 => ?_) (fun c_2 => ?_)
    · have hV := hV.trans (if_pos c_2)
      refine X_iconst (v := (-1)) dX11_power_19 (by decide) ?_
      try dsimp only at hV
      exact X_iret ex_nI rfl dX11_power_20 (by (repeat refine ex_kc ?_) <;> rfl) (by subst hV; exact ⟨rfl, rfl⟩)
    · have hV := hV.trans (if_neg c_2)
      refine X_iload_n (j := 2) dX11_power_12 rfl rfl ?_
      refine X_sipush (v := 999) dX11_power_13 (by decide) ?_
      refine X_icmp_le (tgt := 21) dX11_power_16 (by decide) (fun c_3 => ?_) (fun c_3 => ?_)
      · have hV := hV.trans (if_pos c_3)
        have hz1 := isPe_of c_1 hnp
        have hx1 := hz1.1
        have hl1 := hz1.2
        refine X_eq (cs' := [(x, ex_o 11 [ex_r t, ex_r rd, ex_r c, ex_r kq, ex_r w, ex_r v, ex_r n, ex_r tl, ex_r pa, ex_i (nI pnx), ex_i (nI pln), ex_r ma, ex_r hs, ex_r pp, ex_r pt, ex_r pg, ex_r kr]), (c, ex_o 0 [ex_r c0, ex_r c1, ex_r c2, ex_r c3, ex_r c4, ex_r c5, ex_r c6, ex_r c7, ex_r c8, ex_r c9, ex_r c10, ex_r c11, ex_r c12, ex_i (nI np), ex_i (nI nd), ex_i sto, ex_i res, ex_r c17, ex_r c18, ex_r c19]), (c4, ex_a 1 6 vo)]) (lv' := [(0, ex_r x), (1, ex_i (nI px.toNatClampNeg)), (2, ex_i qz)]) rfl (by rw [← hx1] <;> rfl) ?_
        have hpw : F_X0_everybody np ≤ 63 := eb_le hnp
        refine X_iconst (v := 0) dX11_power_21 (by decide) ?_
        refine X_istore_n (lv' := [(3, ex_i 0), (0, ex_r x), (1, ex_i (nI px.toNatClampNeg)), (2, ex_i qz)]) dX11_power_22 rfl (Nat.le_of_ble_eq_true rfl) rfl ?_
        refine X_iconst (v := 0) dX11_power_23 (by decide) ?_
        refine X_istore (lv' := [(4, ex_i 0), (3, ex_i 0), (0, ex_r x), (1, ex_i (nI px.toNatClampNeg)), (2, ex_i qz)]) dX11_power_24 (Nat.le_of_ble_eq_true rfl) rfl ?_
        -- loop at 26
        try dsimp only at hV
        generalize hq_v_4 : F_X11_power_L26 px qz np vo (((F_X0_everybody np) + 1) - 0) 0 0 = v_4 at hV
        try dsimp only at hV
        refine X_cut (P := True) (csE := [(x, ex_o 11 [ex_r t, ex_r rd, ex_r c, ex_r kq, ex_r w, ex_r v, ex_r n, ex_r tl, ex_r pa, ex_i (nI pnx), ex_i (nI pln), ex_r ma, ex_r hs, ex_r pp, ex_r pt, ex_r pg, ex_r kr]), (c, ex_o 0 [ex_r c0, ex_r c1, ex_r c2, ex_r c3, ex_r c4, ex_r c5, ex_r c6, ex_r c7, ex_r c8, ex_r c9, ex_r c10, ex_r c11, ex_r c12, ex_i (nI np), ex_i (nI nd), ex_i sto, ex_i res, ex_r c17, ex_r c18, ex_r c19]), (c4, ex_a 1 6 vo)]) (lvE := [(3, ex_i v_4), (0, ex_r x), (1, ex_i (nI px.toNatClampNeg)), (2, ex_i qz)]) (E := 101) (fun hrest26 => ?_) (fun hPX26 => ?_)
        · have hL26 := hq_v_4.symm
          refine X_ind (fun (a26 : Nat × Int32) => v_4 = F_X11_power_L26 px qz np vo (((F_X0_everybody np) + 1) - a26.1) a26.1 a26.2 ∧ a26.1 ≤ ((F_X0_everybody np) + 1)) (fun (a26 : Nat × Int32) => ((F_X0_everybody np) + 1) - a26.1) (fun (a26 : Nat × Int32) => [(x, ex_o 11 [ex_r t, ex_r rd, ex_r c, ex_r kq, ex_r w, ex_r v, ex_r n, ex_r tl, ex_r pa, ex_i (nI pnx), ex_i (nI pln), ex_r ma, ex_r hs, ex_r pp, ex_r pt, ex_r pg, ex_r kr]), (c, ex_o 0 [ex_r c0, ex_r c1, ex_r c2, ex_r c3, ex_r c4, ex_r c5, ex_r c6, ex_r c7, ex_r c8, ex_r c9, ex_r c10, ex_r c11, ex_r c12, ex_i (nI np), ex_i (nI nd), ex_i sto, ex_i res, ex_r c17, ex_r c18, ex_r c19]), (c4, ex_a 1 6 vo)]) (fun (a26 : Nat × Int32) => [(4, ex_i (nI a26.1)), (3, ex_i a26.2), (0, ex_r x), (1, ex_i (nI px.toNatClampNeg)), (2, ex_i qz)]) (fun ⟨k26, s26_0⟩ hI26 ih26 => ?_) (0, 0) ⟨hL26, (by omega)⟩
          try dsimp only at hI26 ih26 ⊢
          have ihc26 : ∀ (k26_ : Nat) (s26_0_ : Int32), (v_4 = F_X11_power_L26 px qz np vo (((F_X0_everybody np) + 1) - k26_) k26_ s26_0_ ∧ k26_ ≤ ((F_X0_everybody np) + 1)) → (((F_X0_everybody np) + 1) - k26_) < (((F_X0_everybody np) + 1) - k26) → ex_O _ _ _ _ _ _ _ _ _ [(x, ex_o 11 [ex_r t, ex_r rd, ex_r c, ex_r kq, ex_r w, ex_r v, ex_r n, ex_r tl, ex_r pa, ex_i (nI pnx), ex_i (nI pln), ex_r ma, ex_r hs, ex_r pp, ex_r pt, ex_r pg, ex_r kr]), (c, ex_o 0 [ex_r c0, ex_r c1, ex_r c2, ex_r c3, ex_r c4, ex_r c5, ex_r c6, ex_r c7, ex_r c8, ex_r c9, ex_r c10, ex_r c11, ex_r c12, ex_i (nI np), ex_i (nI nd), ex_i sto, ex_i res, ex_r c17, ex_r c18, ex_r c19]), (c4, ex_a 1 6 vo)] [(4, ex_i (nI k26_)), (3, ex_i s26_0_), (0, ex_r x), (1, ex_i (nI px.toNatClampNeg)), (2, ex_i qz)] _ _ := fun k26_ s26_0_ hi_ hm_ => ih26 (k26_, s26_0_) hi_ hm_
          have hL26 := hI26.1
          have hb26 := hI26.2
          refine X_iload (j := 0) dX11_power_26 rfl ?_
          refine X_aload_n (j := 2) dX11_power_28 rfl rfl ?_
          refine X_get (j := 0) fo_X11_26 dX11_power_29 rfl rfl ?_
          refine X_callV (j0 := 0) (rest := [(x, ex_o 11 [ex_r t, ex_r rd, ex_r c, ex_r kq, ex_r w, ex_r v, ex_r n, ex_r tl, ex_r pa, ex_i (nI pnx), ex_i (nI pln), ex_r ma, ex_r hs, ex_r pp, ex_r pt, ex_r pg, ex_r kr]), (c4, ex_a 1 6 vo)]) (stk := [ex_i (nI k26)]) co_X11_253 rfl ⟨(Nat.le_of_ble_eq_true rfl), (Nat.le_of_ble_eq_true rfl)⟩ (e_X0_everybody l c c0 c1 c2 c3 c4 c5 c6 c7 c8 c9 c10 c11 c12 np nd sto res c17 c18 c19 (by first | assumption | omega)) dX11_power_32 [1, 0, 2] (show List.Perm [1, 0, 2] (List.range 3) from by decide) rfl rfl rfl rfl (Nat.le_of_ble_eq_true rfl) (fun zc1 zr hq hk => ?_)
          obtain ⟨rfl, rfl⟩ := hq
          refine X_icmp_gt (tgt := 101) dX11_power_35 (by decide) (fun c_5 => ?_) (fun c_5 => ?_)
          · have hlt26 : k26 = ((F_X0_everybody np) + 1) := ngtx (L := ((F_X0_everybody np) + 1)) (by omega) hb26 c_5
            rw [show ((F_X0_everybody np) + 1) - k26 = 0 by omega] at hL26
            have hL26 := hL26.trans (F_X11_power_L26_z ..)
            try dsimp only at hL26
            refine X_re (cs' := [(x, ex_o 11 [ex_r t, ex_r rd, ex_r c, ex_r kq, ex_r w, ex_r v, ex_r n, ex_r tl, ex_r pa, ex_i (nI pnx), ex_i (nI pln), ex_r ma, ex_r hs, ex_r pp, ex_r pt, ex_r pg, ex_r kr]), (c, ex_o 0 [ex_r c0, ex_r c1, ex_r c2, ex_r c3, ex_r c4, ex_r c5, ex_r c6, ex_r c7, ex_r c8, ex_r c9, ex_r c10, ex_r c11, ex_r c12, ex_i (nI np), ex_i (nI nd), ex_i sto, ex_i res, ex_r c17, ex_r c18, ex_r c19]), (c4, ex_a 1 6 vo)]) [1, 0, 2] (show List.Perm [1, 0, 2] (List.range 3) from by decide) rfl ?_
            refine X_lv (lv' := [(3, ex_i s26_0), (0, ex_r x), (1, ex_i (nI px.toNatClampNeg)), (2, ex_i qz)]) [1, 2, 3, 4] rfl ?_
            refine X_eq (cs' := [(x, ex_o 11 [ex_r t, ex_r rd, ex_r c, ex_r kq, ex_r w, ex_r v, ex_r n, ex_r tl, ex_r pa, ex_i (nI pnx), ex_i (nI pln), ex_r ma, ex_r hs, ex_r pp, ex_r pt, ex_r pg, ex_r kr]), (c, ex_o 0 [ex_r c0, ex_r c1, ex_r c2, ex_r c3, ex_r c4, ex_r c5, ex_r c6, ex_r c7, ex_r c8, ex_r c9, ex_r c10, ex_r c11, ex_r c12, ex_i (nI np), ex_i (nI nd), ex_i sto, ex_i res, ex_r c17, ex_r c18, ex_r c19]), (c4, ex_a 1 6 vo)]) (lv' := [(3, ex_i v_4), (0, ex_r x), (1, ex_i (nI px.toNatClampNeg)), (2, ex_i qz)]) (by subst hL26; rfl) (by subst hL26; rfl) ?_
            exact hrest26 trivial
          · have hlt26 : k26 < ((F_X0_everybody np) + 1) := ngti (L := ((F_X0_everybody np) + 1)) (by omega) hb26 c_5
            rw [show ((F_X0_everybody np) + 1) - k26 = (((F_X0_everybody np) + 1) - (k26 + 1)) + 1 by omega] at hL26
            have hL26 := hL26.trans (F_X11_power_L26_s ..)
            refine X_aload_n (j := 2) dX11_power_38 rfl rfl ?_
            refine X_get (j := 1) fo_X11_26 dX11_power_39 rfl rfl ?_
            refine X_iload (j := 0) dX11_power_42 rfl ?_
            refine X_callV (j0 := 0) (rest := [(x, ex_o 11 [ex_r t, ex_r rd, ex_r c, ex_r kq, ex_r w, ex_r v, ex_r n, ex_r tl, ex_r pa, ex_i (nI pnx), ex_i (nI pln), ex_r ma, ex_r hs, ex_r pp, ex_r pt, ex_r pg, ex_r kr])]) (stk := []) co_X11_266 rfl ⟨(Nat.le_of_ble_eq_true rfl), (Nat.le_of_ble_eq_true rfl)⟩ (e_X0_votesOf l c (nI k26) c0 c1 c2 c3 c4 c5 c6 c7 c8 c9 c10 c11 c12 np nd sto res c17 c18 c19 vo (by first | assumption | omega)) dX11_power_44 [0, 2, 1] (show List.Perm [0, 2, 1] (List.range 3) from by decide) rfl rfl rfl rfl (Nat.le_of_ble_eq_true rfl) (fun zc1 zr hq hk => ?_)
            obtain ⟨rfl, rfl⟩ := hq
            refine X_istore (lv' := [(5, ex_i (F_X0_votesOf (nI k26) np vo)), (4, ex_i (nI k26)), (3, ex_i s26_0), (0, ex_r x), (1, ex_i (nI px.toNatClampNeg)), (2, ex_i qz)]) dX11_power_47 (Nat.le_of_ble_eq_true rfl) rfl ?_
            refine X_iload (j := 1) dX11_power_49 rfl ?_
            refine X_iload_n (j := 4) dX11_power_51 rfl rfl ?_
            refine X_ishr (v := ((nI k26) >>> ((nI px.toNatClampNeg) &&& 31))) dX11_power_52 rfl ?_
            refine X_iconst (v := 1) dX11_power_53 (by decide) ?_
            refine X_iand (v := (((nI k26) >>> ((nI px.toNatClampNeg) &&& 31)) &&& 1)) dX11_power_54 rfl ?_
            refine X_if_ne (tgt := 62) dX11_power_55 (by decide) (fun c_6 => ?_) (fun c_6 => ?_)
            · have hL26 := hL26.trans (if_neg c_6)
              refine X_iconst (v := 0) dX11_power_62 (by decide) ?_
              refine X_istore (lv' := [(6, ex_i 0), (5, ex_i (F_X0_votesOf (nI k26) np vo)), (4, ex_i (nI k26)), (3, ex_i s26_0), (0, ex_r x), (1, ex_i (nI px.toNatClampNeg)), (2, ex_i qz)]) dX11_power_63 (Nat.le_of_ble_eq_true rfl) rfl ?_
              refine X_iload (j := 0) dX11_power_65 rfl ?_
              refine X_if_eq (tgt := 95) dX11_power_67 (by decide) (fun _ => ?_) (fun c_ => absurd rfl c_)
              refine X_iinc (v := nI (k26 + 1)) (j := 2) (lv' := [(4, ex_i (nI (k26 + 1))), (6, ex_i 0), (5, ex_i (F_X0_votesOf (nI k26) np vo)), (3, ex_i s26_0), (0, ex_r x), (1, ex_i (nI px.toNatClampNeg)), (2, ex_i qz)]) dX11_power_95 rfl (nI_add k26 1) (Nat.le_of_ble_eq_true rfl) rfl ?_
              refine X_goto (tgt := 26) dX11_power_98 (by decide) ?_
              try dsimp only at hL26
              refine X_re (cs' := [(x, ex_o 11 [ex_r t, ex_r rd, ex_r c, ex_r kq, ex_r w, ex_r v, ex_r n, ex_r tl, ex_r pa, ex_i (nI pnx), ex_i (nI pln), ex_r ma, ex_r hs, ex_r pp, ex_r pt, ex_r pg, ex_r kr]), (c, ex_o 0 [ex_r c0, ex_r c1, ex_r c2, ex_r c3, ex_r c4, ex_r c5, ex_r c6, ex_r c7, ex_r c8, ex_r c9, ex_r c10, ex_r c11, ex_r c12, ex_i (nI np), ex_i (nI nd), ex_i sto, ex_i res, ex_r c17, ex_r c18, ex_r c19]), (c4, ex_a 1 6 vo)]) [2, 0, 1] (show List.Perm [2, 0, 1] (List.range 3) from by decide) rfl ?_
              refine X_lv (lv' := [(4, ex_i (nI (k26 + 1))), (3, ex_i s26_0), (0, ex_r x), (1, ex_i (nI px.toNatClampNeg)), (2, ex_i qz)]) [0, 3, 4, 5, 6] rfl ?_
              exact ihc26 (k26 + 1) s26_0 ⟨hL26, (show (k26 + 1) ≤ ((F_X0_everybody np) + 1) by omega)⟩ (show ((F_X0_everybody np) + 1) - (k26 + 1) < ((F_X0_everybody np) + 1) - k26 by omega)
            · have hL26 := hL26.trans (if_pos c_6)
              refine X_iconst (v := 1) dX11_power_58 (by decide) ?_
              refine X_goto (tgt := 63) dX11_power_59 (by decide) ?_
              refine X_istore (lv' := [(6, ex_i 1), (5, ex_i (F_X0_votesOf (nI k26) np vo)), (4, ex_i (nI k26)), (3, ex_i s26_0), (0, ex_r x), (1, ex_i (nI px.toNatClampNeg)), (2, ex_i qz)]) dX11_power_63 (Nat.le_of_ble_eq_true rfl) rfl ?_
              refine X_iload (j := 0) dX11_power_65 rfl ?_
              refine X_if_eq (tgt := 95) dX11_power_67 (by decide) (fun c_ => absurd c_ (by decide)) (fun _ => ?_)
              refine X_iload (j := 1) dX11_power_70 rfl ?_
              refine X_iload_n (j := 6) dX11_power_72 rfl rfl ?_
              refine X_icmp_ge (tgt := 95) dX11_power_73 (by decide) (fun c_7 => ?_) (fun c_7 => ?_)
              · have hL26 := hL26.trans (if_pos c_7)
                refine X_iinc (v := nI (k26 + 1)) (j := 2) (lv' := [(4, ex_i (nI (k26 + 1))), (6, ex_i 1), (5, ex_i (F_X0_votesOf (nI k26) np vo)), (3, ex_i s26_0), (0, ex_r x), (1, ex_i (nI px.toNatClampNeg)), (2, ex_i qz)]) dX11_power_95 rfl (nI_add k26 1) (Nat.le_of_ble_eq_true rfl) rfl ?_
                refine X_goto (tgt := 26) dX11_power_98 (by decide) ?_
                try dsimp only at hL26
                refine X_re (cs' := [(x, ex_o 11 [ex_r t, ex_r rd, ex_r c, ex_r kq, ex_r w, ex_r v, ex_r n, ex_r tl, ex_r pa, ex_i (nI pnx), ex_i (nI pln), ex_r ma, ex_r hs, ex_r pp, ex_r pt, ex_r pg, ex_r kr]), (c, ex_o 0 [ex_r c0, ex_r c1, ex_r c2, ex_r c3, ex_r c4, ex_r c5, ex_r c6, ex_r c7, ex_r c8, ex_r c9, ex_r c10, ex_r c11, ex_r c12, ex_i (nI np), ex_i (nI nd), ex_i sto, ex_i res, ex_r c17, ex_r c18, ex_r c19]), (c4, ex_a 1 6 vo)]) [2, 0, 1] (show List.Perm [2, 0, 1] (List.range 3) from by decide) rfl ?_
                refine X_lv (lv' := [(4, ex_i (nI (k26 + 1))), (3, ex_i s26_0), (0, ex_r x), (1, ex_i (nI px.toNatClampNeg)), (2, ex_i qz)]) [0, 3, 4, 5, 6] rfl ?_
                exact ihc26 (k26 + 1) s26_0 ⟨hL26, (show (k26 + 1) ≤ ((F_X0_everybody np) + 1) by omega)⟩ (show ((F_X0_everybody np) + 1) - (k26 + 1) < ((F_X0_everybody np) + 1) - k26 by omega)
              · have hL26 := hL26.trans (if_neg c_7)
                refine X_iload (j := 1) dX11_power_76 rfl ?_
                refine X_aload_n (j := 4) dX11_power_78 rfl rfl ?_
                refine X_get (j := 2) fo_X11_26 dX11_power_79 rfl rfl ?_
                refine X_get (j := 0) fo_X11_137 dX11_power_82 rfl rfl ?_
                refine X_iload_n (j := 5) dX11_power_85 rfl rfl ?_
                refine X_iald (j := 1) (v := (vo px.toNatClampNeg)) dX11_power_86 rfl (vp_in_nI (show px.toNatClampNeg < 6 by omega) (by decide)) (by rw [nI_clamp (by omega)]) ?_
                refine X_iadd (v := ((F_X0_votesOf (nI k26) np vo) + (vo px.toNatClampNeg))) dX11_power_87 rfl ?_
                refine X_iload_n (j := 6) dX11_power_88 rfl rfl ?_
                refine X_icmp_lt (tgt := 95) dX11_power_89 (by decide) (fun c_8 => ?_) (fun c_8 => ?_)
                · have hL26 := hL26.trans (if_pos c_8)
                  refine X_iinc (v := nI (k26 + 1)) (j := 2) (lv' := [(4, ex_i (nI (k26 + 1))), (6, ex_i 1), (5, ex_i (F_X0_votesOf (nI k26) np vo)), (3, ex_i s26_0), (0, ex_r x), (1, ex_i (nI px.toNatClampNeg)), (2, ex_i qz)]) dX11_power_95 rfl (nI_add k26 1) (Nat.le_of_ble_eq_true rfl) rfl ?_
                  refine X_goto (tgt := 26) dX11_power_98 (by decide) ?_
                  try dsimp only at hL26
                  refine X_re (cs' := [(x, ex_o 11 [ex_r t, ex_r rd, ex_r c, ex_r kq, ex_r w, ex_r v, ex_r n, ex_r tl, ex_r pa, ex_i (nI pnx), ex_i (nI pln), ex_r ma, ex_r hs, ex_r pp, ex_r pt, ex_r pg, ex_r kr]), (c, ex_o 0 [ex_r c0, ex_r c1, ex_r c2, ex_r c3, ex_r c4, ex_r c5, ex_r c6, ex_r c7, ex_r c8, ex_r c9, ex_r c10, ex_r c11, ex_r c12, ex_i (nI np), ex_i (nI nd), ex_i sto, ex_i res, ex_r c17, ex_r c18, ex_r c19]), (c4, ex_a 1 6 vo)]) [2, 0, 1] (show List.Perm [2, 0, 1] (List.range 3) from by decide) rfl ?_
                  refine X_lv (lv' := [(4, ex_i (nI (k26 + 1))), (3, ex_i s26_0), (0, ex_r x), (1, ex_i (nI px.toNatClampNeg)), (2, ex_i qz)]) [0, 3, 4, 5, 6] rfl ?_
                  exact ihc26 (k26 + 1) s26_0 ⟨hL26, (show (k26 + 1) ≤ ((F_X0_everybody np) + 1) by omega)⟩ (show ((F_X0_everybody np) + 1) - (k26 + 1) < ((F_X0_everybody np) + 1) - k26 by omega)
                · have hL26 := hL26.trans (if_neg c_8)
                  refine X_iinc (v := (s26_0 + 1)) (j := 3) (lv' := [(3, ex_i (s26_0 + 1)), (6, ex_i 1), (5, ex_i (F_X0_votesOf (nI k26) np vo)), (4, ex_i (nI k26)), (0, ex_r x), (1, ex_i (nI px.toNatClampNeg)), (2, ex_i qz)]) dX11_power_92 rfl rfl (Nat.le_of_ble_eq_true rfl) rfl ?_
                  refine X_iinc (v := nI (k26 + 1)) (j := 3) (lv' := [(4, ex_i (nI (k26 + 1))), (3, ex_i (s26_0 + 1)), (6, ex_i 1), (5, ex_i (F_X0_votesOf (nI k26) np vo)), (0, ex_r x), (1, ex_i (nI px.toNatClampNeg)), (2, ex_i qz)]) dX11_power_95 rfl (nI_add k26 1) (Nat.le_of_ble_eq_true rfl) rfl ?_
                  refine X_goto (tgt := 26) dX11_power_98 (by decide) ?_
                  try dsimp only at hL26
                  refine X_re (cs' := [(x, ex_o 11 [ex_r t, ex_r rd, ex_r c, ex_r kq, ex_r w, ex_r v, ex_r n, ex_r tl, ex_r pa, ex_i (nI pnx), ex_i (nI pln), ex_r ma, ex_r hs, ex_r pp, ex_r pt, ex_r pg, ex_r kr]), (c, ex_o 0 [ex_r c0, ex_r c1, ex_r c2, ex_r c3, ex_r c4, ex_r c5, ex_r c6, ex_r c7, ex_r c8, ex_r c9, ex_r c10, ex_r c11, ex_r c12, ex_i (nI np), ex_i (nI nd), ex_i sto, ex_i res, ex_r c17, ex_r c18, ex_r c19]), (c4, ex_a 1 6 vo)]) [2, 0, 1] (show List.Perm [2, 0, 1] (List.range 3) from by decide) rfl ?_
                  refine X_lv (lv' := [(4, ex_i (nI (k26 + 1))), (3, ex_i (s26_0 + 1)), (0, ex_r x), (1, ex_i (nI px.toNatClampNeg)), (2, ex_i qz)]) [0, 1, 4, 5, 6] rfl ?_
                  exact ihc26 (k26 + 1) (s26_0 + 1) ⟨hL26, (show (k26 + 1) ≤ ((F_X0_everybody np) + 1) by omega)⟩ (show ((F_X0_everybody np) + 1) - (k26 + 1) < ((F_X0_everybody np) + 1) - k26 by omega)
        refine X_iload_n (j := 0) dX11_power_101 rfl rfl ?_
        try dsimp only at hV
        exact X_iret ex_nI rfl dX11_power_102 (by (repeat refine ex_kc ?_) <;> rfl) (by subst hV; exact ⟨rfl, rfl⟩)
      · have hV := hV.trans (if_neg c_3)
        refine X_iconst (v := (-1)) dX11_power_19 (by decide) ?_
        try dsimp only at hV
        exact X_iret ex_nI rfl dX11_power_20 (by (repeat refine ex_kc ?_) <;> rfl) (by subst hV; exact ⟨rfl, rfl⟩)

def F_X11_couples (px : Int32) (dy : Int32) (gl : Int32) (gb : Nat → Int32) (gr : Nat → Int32) (np : Nat) (ta : Nat → Int32) (sf : Nat → Int32) (st : Nat → Int32) : Int32 × (Nat → Int32) × (Nat → Int32) × Int32 := (if px = (-1) then ((fun (w_2 : Int32 × (Nat → Int32) × (Nat → Int32)) => (w_2.1, w_2.2.1, w_2.2.2, w_2.1)) (F_X5_pairs ((F_X8_whoSits dy np sf st).toNatClampNeg) gb gr ta)) else (if (F_X11_isPerson px np) = 0 then (gl, gb, gr, (-2)) else ((fun (w_4 : Int32 × (Nat → Int32) × (Nat → Int32)) => (w_4.1, w_4.2.1, w_4.2.2, w_4.2.1 px.toNatClampNeg)) (F_X5_pairs ((F_X8_whoSits dy np sf st).toNatClampNeg) gb gr ta))))
set_option maxHeartbeats 4000000 in
set_option maxRecDepth 100000 in
theorem e_X11_couples (l : Launch) (x : Nat) (px : Int32) (t : Nat) (rd : Nat) (c : Nat) (kq : Nat) (w : Nat) (v : Nat) (n : Nat) (tl : Nat) (pa : Nat) (pnx : Nat) (pln : Nat) (ma : Nat) (hs : Nat) (pp : Nat) (pt : Nat) (pg : Nat) (kr : Nat) (dy : Int32) (sr : Int32) (il : Int32) (nf : Nat) (na : Nat) (nh : Nat) (gl : Int32) (g1 : Nat) (g2 : Nat) (gb : Nat → Int32) (gr : Nat → Int32) (c0 : Nat) (c1 : Nat) (c2 : Nat) (c3 : Nat) (c4 : Nat) (c5 : Nat) (c6 : Nat) (c7 : Nat) (c8 : Nat) (c9 : Nat) (c10 : Nat) (c11 : Nat) (c12 : Nat) (np : Nat) (nd : Nat) (sto : Int32) (res : Int32) (c17 : Nat) (c18 : Nat) (c19 : Nat) (ta : Nat → Int32) (sf : Nat → Int32) (st : Nat → Int32) (hnp : np ≤ 6) : ex_M l yX11_couples cX11_couples 2 (some .int) 9 258 [ex_r x, ex_i px] [(x, ex_o 11 [ex_r t, ex_r rd, ex_r c, ex_r kq, ex_r w, ex_r v, ex_r n, ex_r tl, ex_r pa, ex_i (nI pnx), ex_i (nI pln), ex_r ma, ex_r hs, ex_r pp, ex_r pt, ex_r pg, ex_r kr]), (n, ex_o 8 [ex_i dy, ex_i sr, ex_i il, ex_r nf, ex_r na, ex_r nh]), (pg, ex_o 5 [ex_i gl, ex_r g1, ex_r g2]), (g1, ex_a 1 6 gb), (g2, ex_a 1 6 gr), (c, ex_o 0 [ex_r c0, ex_r c1, ex_r c2, ex_r c3, ex_r c4, ex_r c5, ex_r c6, ex_r c7, ex_r c8, ex_r c9, ex_r c10, ex_r c11, ex_r c12, ex_i (nI np), ex_i (nI nd), ex_i sto, ex_i res, ex_r c17, ex_r c18, ex_r c19]), (c3, ex_a 1 6 ta), (c5, ex_a 1 6 sf), (c6, ex_a 1 6 st)] (fun zcs zr => zcs = [(x, ex_o 11 [ex_r t, ex_r rd, ex_r c, ex_r kq, ex_r w, ex_r v, ex_r n, ex_r tl, ex_r pa, ex_i (nI pnx), ex_i (nI pln), ex_r ma, ex_r hs, ex_r pp, ex_r pt, ex_r pg, ex_r kr]), (n, ex_o 8 [ex_i dy, ex_i sr, ex_i il, ex_r nf, ex_r na, ex_r nh]), (pg, ex_o 5 [ex_i ((F_X11_couples px dy gl gb gr np ta sf st).1), ex_r g1, ex_r g2]), (g1, ex_a 1 6 ((F_X11_couples px dy gl gb gr np ta sf st).2.1)), (g2, ex_a 1 6 ((F_X11_couples px dy gl gb gr np ta sf st).2.2.1)), (c, ex_o 0 [ex_r c0, ex_r c1, ex_r c2, ex_r c3, ex_r c4, ex_r c5, ex_r c6, ex_r c7, ex_r c8, ex_r c9, ex_r c10, ex_r c11, ex_r c12, ex_i (nI np), ex_i (nI nd), ex_i sto, ex_i res, ex_r c17, ex_r c18, ex_r c19]), (c3, ex_a 1 6 ta), (c5, ex_a 1 6 sf), (c6, ex_a 1 6 st)] ∧ zr = some (ex_i (F_X11_couples px dy gl gb gr np ta sf st).2.2.2)) := by
  refine X_meth (by decide) (Nat.le_of_ble_eq_true rfl) ?_
  generalize hV : F_X11_couples px dy gl gb gr np ta sf st = V0
  have hV := hV.symm
  unfold F_X11_couples at hV
  try dsimp only at hV
  refine X_iload_n (j := 1) dX11_couples_0 rfl rfl ?_
  refine X_iconst (v := (-1)) dX11_couples_1 (by decide) ?_
  refine X_icmp_eq (tgt := 16) dX11_couples_2 (by decide) (fun c_1 => ?_) (fun c_1 => ?_)
  · have hV := hV.trans (if_pos c_1)
    refine X_aload_n (j := 0) dX11_couples_16 rfl rfl ?_
    refine X_get (j := 0) fo_X11_94 dX11_couples_17 rfl rfl ?_
    refine X_aload_n (j := 0) dX11_couples_20 rfl rfl ?_
    refine X_get (j := 0) fo_X11_26 dX11_couples_21 rfl rfl ?_
    refine X_aload_n (j := 0) dX11_couples_24 rfl rfl ?_
    refine X_get (j := 0) fo_X11_46 dX11_couples_25 rfl rfl ?_
    refine X_aload_n (j := 0) dX11_couples_28 rfl rfl ?_
    refine X_get (j := 0) fo_X11_26 dX11_couples_29 rfl rfl ?_
    refine X_callV (j0 := 0) (rest := [(x, ex_o 11 [ex_r t, ex_r rd, ex_r c, ex_r kq, ex_r w, ex_r v, ex_r n, ex_r tl, ex_r pa, ex_i (nI pnx), ex_i (nI pln), ex_r ma, ex_r hs, ex_r pp, ex_r pt, ex_r pg, ex_r kr]), (pg, ex_o 5 [ex_i gl, ex_r g1, ex_r g2]), (g1, ex_a 1 6 gb), (g2, ex_a 1 6 gr), (c3, ex_a 1 6 ta)]) (stk := [ex_r c, ex_r pg]) co_X11_217 rfl ⟨(Nat.le_of_ble_eq_true rfl), (Nat.le_of_ble_eq_true rfl)⟩ (e_X8_whoSits l n c dy sr il nf na nh c0 c1 c2 c3 c4 c5 c6 c7 c8 c9 c10 c11 c12 np nd sto res c17 c18 c19 sf st (by first | assumption | omega)) dX11_couples_32 [1, 5, 7, 8, 0, 2, 3, 4, 6] (show List.Perm [1, 5, 7, 8, 0, 2, 3, 4, 6] (List.range 9) from by decide) rfl rfl rfl rfl (Nat.le_of_ble_eq_true rfl) (fun zc1 zr hq hk => ?_)
    obtain ⟨rfl, rfl⟩ := hq
    have hws := nI_ofv (who_in (dy := dy) (sf := sf) (st := st) hnp) (by decide)
    refine X_eqs (stk' := [ex_i (nI (F_X8_whoSits dy np sf st).toNatClampNeg), ex_r c, ex_r pg]) (by rw [← hws.1] <;> rfl) ?_
    refine X_callV (j0 := 0) (rest := [(n, ex_o 8 [ex_i dy, ex_i sr, ex_i il, ex_r nf, ex_r na, ex_r nh]), (c5, ex_a 1 6 sf), (c6, ex_a 1 6 st), (x, ex_o 11 [ex_r t, ex_r rd, ex_r c, ex_r kq, ex_r w, ex_r v, ex_r n, ex_r tl, ex_r pa, ex_i (nI pnx), ex_i (nI pln), ex_r ma, ex_r hs, ex_r pp, ex_r pt, ex_r pg, ex_r kr])]) (stk := []) co_X11_269 rfl ⟨(Nat.le_of_ble_eq_true rfl), (Nat.le_of_ble_eq_true rfl)⟩ (e_X5_pairs l pg c ((F_X8_whoSits dy np sf st).toNatClampNeg) gl g1 g2 gb gr c0 c1 c2 c3 c4 c5 c6 c7 c8 c9 c10 c11 c12 np nd sto res c17 c18 c19 ta hws.2) dX11_couples_35 [5, 6, 7, 1, 8, 0, 2, 3, 4] (show List.Perm [5, 6, 7, 1, 8, 0, 2, 3, 4] (List.range 9) from by decide) rfl rfl rfl rfl (Nat.le_of_ble_eq_true rfl) (fun zc1 zr hq hk => ?_)
    obtain ⟨rfl, rfl⟩ := hq
    try dsimp only at hV
    generalize hq_w_2 : F_X5_pairs ((F_X8_whoSits dy np sf st).toNatClampNeg) gb gr ta = w_2 at hV ⊢
    try dsimp only at hV
    refine X_iload_n (j := 1) dX11_couples_38 rfl rfl ?_
    refine X_iconst (v := (-1)) dX11_couples_39 (by decide) ?_
    refine X_icmp_ne (tgt := 53) dX11_couples_40 (by decide) (fun c_ => absurd c_1 c_) (fun _ => ?_)
    refine X_aload_n (j := 0) dX11_couples_43 rfl rfl ?_
    refine X_get (j := 8) fo_X11_94 dX11_couples_44 rfl rfl ?_
    refine X_get (j := 0) fo_X11_273 dX11_couples_47 rfl rfl ?_
    refine X_goto (tgt := 62) dX11_couples_50 (by decide) ?_
    try dsimp only at hV
    refine X_re (cs' := [(x, ex_o 11 [ex_r t, ex_r rd, ex_r c, ex_r kq, ex_r w, ex_r v, ex_r n, ex_r tl, ex_r pa, ex_i (nI pnx), ex_i (nI pln), ex_r ma, ex_r hs, ex_r pp, ex_r pt, ex_r pg, ex_r kr]), (n, ex_o 8 [ex_i dy, ex_i sr, ex_i il, ex_r nf, ex_r na, ex_r nh]), (pg, ex_o 5 [ex_i w_2.1, ex_r g1, ex_r g2]), (g1, ex_a 1 6 w_2.2.1), (g2, ex_a 1 6 w_2.2.2), (c, ex_o 0 [ex_r c0, ex_r c1, ex_r c2, ex_r c3, ex_r c4, ex_r c5, ex_r c6, ex_r c7, ex_r c8, ex_r c9, ex_r c10, ex_r c11, ex_r c12, ex_i (nI np), ex_i (nI nd), ex_i sto, ex_i res, ex_r c17, ex_r c18, ex_r c19]), (c3, ex_a 1 6 ta), (c5, ex_a 1 6 sf), (c6, ex_a 1 6 st)]) [8, 5, 0, 1, 2, 3, 4, 6, 7] (show List.Perm [8, 5, 0, 1, 2, 3, 4, 6, 7] (List.range 9) from by decide) rfl ?_
    exact X_iret ex_nI rfl dX11_couples_62 (by (repeat refine ex_kc ?_) <;> rfl) (by subst hV; exact ⟨rfl, rfl⟩)
  · have hV := hV.trans (if_neg c_1)
    refine X_aload_n (j := 0) dX11_couples_5 rfl rfl ?_
    refine X_iload_n (j := 1) dX11_couples_6 rfl rfl ?_
    refine X_callV (j0 := 0) (rest := [(n, ex_o 8 [ex_i dy, ex_i sr, ex_i il, ex_r nf, ex_r na, ex_r nh]), (pg, ex_o 5 [ex_i gl, ex_r g1, ex_r g2]), (g1, ex_a 1 6 gb), (g2, ex_a 1 6 gr), (c3, ex_a 1 6 ta), (c5, ex_a 1 6 sf), (c6, ex_a 1 6 st)]) (stk := []) co_X11_124 rfl ⟨(Nat.le_of_ble_eq_true rfl), (Nat.le_of_ble_eq_true rfl)⟩ (e_X11_isPerson l x px t rd c kq w v n tl pa pnx pln ma hs pp pt pg kr c0 c1 c2 c3 c4 c5 c6 c7 c8 c9 c10 c11 c12 np nd sto res c17 c18 c19) dX11_couples_7 [0, 5, 1, 2, 3, 4, 6, 7, 8] (show List.Perm [0, 5, 1, 2, 3, 4, 6, 7, 8] (List.range 9) from by decide) rfl rfl rfl rfl (Nat.le_of_ble_eq_true rfl) (fun zc1 zr hq hk => ?_)
    obtain ⟨rfl, rfl⟩ := hq
    refine X_if_ne (tgt := 16) dX11_couples_10 (by decide) (fun c_3 => ?_) (fun c_3 => ?_)
    · have hV := hV.trans (if_neg c_3)
      refine X_aload_n (j := 0) dX11_couples_16 rfl rfl ?_
      refine X_get (j := 0) fo_X11_94 dX11_couples_17 rfl rfl ?_
      refine X_aload_n (j := 0) dX11_couples_20 rfl rfl ?_
      refine X_get (j := 0) fo_X11_26 dX11_couples_21 rfl rfl ?_
      refine X_aload_n (j := 0) dX11_couples_24 rfl rfl ?_
      refine X_get (j := 0) fo_X11_46 dX11_couples_25 rfl rfl ?_
      refine X_aload_n (j := 0) dX11_couples_28 rfl rfl ?_
      refine X_get (j := 0) fo_X11_26 dX11_couples_29 rfl rfl ?_
      refine X_callV (j0 := 0) (rest := [(x, ex_o 11 [ex_r t, ex_r rd, ex_r c, ex_r kq, ex_r w, ex_r v, ex_r n, ex_r tl, ex_r pa, ex_i (nI pnx), ex_i (nI pln), ex_r ma, ex_r hs, ex_r pp, ex_r pt, ex_r pg, ex_r kr]), (pg, ex_o 5 [ex_i gl, ex_r g1, ex_r g2]), (g1, ex_a 1 6 gb), (g2, ex_a 1 6 gr), (c3, ex_a 1 6 ta)]) (stk := [ex_r c, ex_r pg]) co_X11_217 rfl ⟨(Nat.le_of_ble_eq_true rfl), (Nat.le_of_ble_eq_true rfl)⟩ (e_X8_whoSits l n c dy sr il nf na nh c0 c1 c2 c3 c4 c5 c6 c7 c8 c9 c10 c11 c12 np nd sto res c17 c18 c19 sf st (by first | assumption | omega)) dX11_couples_32 [2, 1, 7, 8, 0, 3, 4, 5, 6] (show List.Perm [2, 1, 7, 8, 0, 3, 4, 5, 6] (List.range 9) from by decide) rfl rfl rfl rfl (Nat.le_of_ble_eq_true rfl) (fun zc1 zr hq hk => ?_)
      obtain ⟨rfl, rfl⟩ := hq
      have hws := nI_ofv (who_in (dy := dy) (sf := sf) (st := st) hnp) (by decide)
      refine X_eqs (stk' := [ex_i (nI (F_X8_whoSits dy np sf st).toNatClampNeg), ex_r c, ex_r pg]) (by rw [← hws.1] <;> rfl) ?_
      refine X_callV (j0 := 0) (rest := [(n, ex_o 8 [ex_i dy, ex_i sr, ex_i il, ex_r nf, ex_r na, ex_r nh]), (c5, ex_a 1 6 sf), (c6, ex_a 1 6 st), (x, ex_o 11 [ex_r t, ex_r rd, ex_r c, ex_r kq, ex_r w, ex_r v, ex_r n, ex_r tl, ex_r pa, ex_i (nI pnx), ex_i (nI pln), ex_r ma, ex_r hs, ex_r pp, ex_r pt, ex_r pg, ex_r kr])]) (stk := []) co_X11_269 rfl ⟨(Nat.le_of_ble_eq_true rfl), (Nat.le_of_ble_eq_true rfl)⟩ (e_X5_pairs l pg c ((F_X8_whoSits dy np sf st).toNatClampNeg) gl g1 g2 gb gr c0 c1 c2 c3 c4 c5 c6 c7 c8 c9 c10 c11 c12 np nd sto res c17 c18 c19 ta hws.2) dX11_couples_35 [5, 6, 7, 1, 8, 0, 2, 3, 4] (show List.Perm [5, 6, 7, 1, 8, 0, 2, 3, 4] (List.range 9) from by decide) rfl rfl rfl rfl (Nat.le_of_ble_eq_true rfl) (fun zc1 zr hq hk => ?_)
      obtain ⟨rfl, rfl⟩ := hq
      try dsimp only at hV
      generalize hq_w_4 : F_X5_pairs ((F_X8_whoSits dy np sf st).toNatClampNeg) gb gr ta = w_4 at hV ⊢
      try dsimp only at hV
      refine X_iload_n (j := 1) dX11_couples_38 rfl rfl ?_
      refine X_iconst (v := (-1)) dX11_couples_39 (by decide) ?_
      refine X_icmp_ne (tgt := 53) dX11_couples_40 (by decide) (fun _ => ?_) (fun c_ => absurd c_ c_1)
      have hz1 := isPe_of c_3 hnp
      have hx1 := hz1.1
      have hl1 := hz1.2
      refine X_eq (cs' := [(pg, ex_o 5 [ex_i w_4.1, ex_r g1, ex_r g2]), (g1, ex_a 1 6 w_4.2.1), (g2, ex_a 1 6 w_4.2.2), (c, ex_o 0 [ex_r c0, ex_r c1, ex_r c2, ex_r c3, ex_r c4, ex_r c5, ex_r c6, ex_r c7, ex_r c8, ex_r c9, ex_r c10, ex_r c11, ex_r c12, ex_i (nI np), ex_i (nI nd), ex_i sto, ex_i res, ex_r c17, ex_r c18, ex_r c19]), (c3, ex_a 1 6 ta), (n, ex_o 8 [ex_i dy, ex_i sr, ex_i il, ex_r nf, ex_r na, ex_r nh]), (c5, ex_a 1 6 sf), (c6, ex_a 1 6 st), (x, ex_o 11 [ex_r t, ex_r rd, ex_r c, ex_r kq, ex_r w, ex_r v, ex_r n, ex_r tl, ex_r pa, ex_i (nI pnx), ex_i (nI pln), ex_r ma, ex_r hs, ex_r pp, ex_r pt, ex_r pg, ex_r kr])]) (lv' := [(0, ex_r x), (1, ex_i (nI px.toNatClampNeg))]) rfl (by rw [← hx1] <;> rfl) ?_
      refine X_aload_n (j := 0) dX11_couples_53 rfl rfl ?_
      refine X_get (j := 8) fo_X11_94 dX11_couples_54 rfl rfl ?_
      refine X_get (j := 0) fo_X11_274 dX11_couples_57 rfl rfl ?_
      refine X_iload_n (j := 1) dX11_couples_60 rfl rfl ?_
      refine X_iald (j := 1) (v := (w_4.2.1 px.toNatClampNeg)) dX11_couples_61 rfl (vp_in_nI (show px.toNatClampNeg < 6 by omega) (by decide)) (by rw [nI_clamp (by omega)]) ?_
      try dsimp only at hV
      refine X_re (cs' := [(x, ex_o 11 [ex_r t, ex_r rd, ex_r c, ex_r kq, ex_r w, ex_r v, ex_r n, ex_r tl, ex_r pa, ex_i (nI pnx), ex_i (nI pln), ex_r ma, ex_r hs, ex_r pp, ex_r pt, ex_r pg, ex_r kr]), (n, ex_o 8 [ex_i dy, ex_i sr, ex_i il, ex_r nf, ex_r na, ex_r nh]), (pg, ex_o 5 [ex_i w_4.1, ex_r g1, ex_r g2]), (g1, ex_a 1 6 w_4.2.1), (g2, ex_a 1 6 w_4.2.2), (c, ex_o 0 [ex_r c0, ex_r c1, ex_r c2, ex_r c3, ex_r c4, ex_r c5, ex_r c6, ex_r c7, ex_r c8, ex_r c9, ex_r c10, ex_r c11, ex_r c12, ex_i (nI np), ex_i (nI nd), ex_i sto, ex_i res, ex_r c17, ex_r c18, ex_r c19]), (c3, ex_a 1 6 ta), (c5, ex_a 1 6 sf), (c6, ex_a 1 6 st)]) [8, 5, 0, 1, 2, 3, 4, 6, 7] (show List.Perm [8, 5, 0, 1, 2, 3, 4, 6, 7] (List.range 9) from by decide) rfl ?_
      exact X_iret ex_nI rfl dX11_couples_62 (by (repeat refine ex_kc ?_) <;> rfl) (by subst hV; exact ⟨rfl, rfl⟩)
    · have hV := hV.trans (if_pos c_3)
      refine X_bipush (v := (-2)) dX11_couples_13 (by decide) ?_
      try dsimp only at hV
      refine X_re (cs' := [(x, ex_o 11 [ex_r t, ex_r rd, ex_r c, ex_r kq, ex_r w, ex_r v, ex_r n, ex_r tl, ex_r pa, ex_i (nI pnx), ex_i (nI pln), ex_r ma, ex_r hs, ex_r pp, ex_r pt, ex_r pg, ex_r kr]), (n, ex_o 8 [ex_i dy, ex_i sr, ex_i il, ex_r nf, ex_r na, ex_r nh]), (pg, ex_o 5 [ex_i gl, ex_r g1, ex_r g2]), (g1, ex_a 1 6 gb), (g2, ex_a 1 6 gr), (c, ex_o 0 [ex_r c0, ex_r c1, ex_r c2, ex_r c3, ex_r c4, ex_r c5, ex_r c6, ex_r c7, ex_r c8, ex_r c9, ex_r c10, ex_r c11, ex_r c12, ex_i (nI np), ex_i (nI nd), ex_i sto, ex_i res, ex_r c17, ex_r c18, ex_r c19]), (c3, ex_a 1 6 ta), (c5, ex_a 1 6 sf), (c6, ex_a 1 6 st)]) [0, 2, 3, 4, 5, 1, 6, 7, 8] (show List.Perm [0, 2, 3, 4, 5, 1, 6, 7, 8] (List.range 9) from by decide) rfl ?_
      exact X_iret ex_nI rfl dX11_couples_15 (by (repeat refine ex_kc ?_) <;> rfl) (by subst hV; exact ⟨rfl, rfl⟩)
