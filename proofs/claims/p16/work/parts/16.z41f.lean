def F_X11_nextWell_L2 (tu : Nat) (d : Nat) (rdy : Int32) (rsr : Int32) (rae : Nat → Int32) (np : Nat) (res : Int32) (kd : Nat → Int32) (sf : Nat → Int32) (st : Nat → Int32) (co : Nat → Int32) : Nat → Nat → Int32
  | 0, k2 => (-1)
  | zn + 1, k2 => (if (F_X8_canEat ((tu + k2) % np) d rdy rsr kd sf st co) = 0 then F_X11_nextWell_L2 tu d rdy rsr rae np res kd sf st co zn (k2 + 1) else (if (F_X8_wouldBeIll ((tu + k2) % np) rdy rae res) = 0 then (nI ((tu + k2) % np)) else F_X11_nextWell_L2 tu d rdy rsr rae np res kd sf st co zn (k2 + 1)))
theorem F_X11_nextWell_L2_z (tu : Nat) (d : Nat) (rdy : Int32) (rsr : Int32) (rae : Nat → Int32) (np : Nat) (res : Int32) (kd : Nat → Int32) (sf : Nat → Int32) (st : Nat → Int32) (co : Nat → Int32) (k2 : Nat) : F_X11_nextWell_L2 tu d rdy rsr rae np res kd sf st co 0 k2 = (-1) := rfl
theorem F_X11_nextWell_L2_s (tu : Nat) (d : Nat) (rdy : Int32) (rsr : Int32) (rae : Nat → Int32) (np : Nat) (res : Int32) (kd : Nat → Int32) (sf : Nat → Int32) (st : Nat → Int32) (co : Nat → Int32) (k2 : Nat) (zn : Nat) : F_X11_nextWell_L2 tu d rdy rsr rae np res kd sf st co (zn + 1) k2 = (if (F_X8_canEat ((tu + k2) % np) d rdy rsr kd sf st co) = 0 then F_X11_nextWell_L2 tu d rdy rsr rae np res kd sf st co zn (k2 + 1) else (if (F_X8_wouldBeIll ((tu + k2) % np) rdy rae res) = 0 then (nI ((tu + k2) % np)) else F_X11_nextWell_L2 tu d rdy rsr rae np res kd sf st co zn (k2 + 1))) := rfl
def F_X11_nextWell (tu : Nat) (d : Nat) (rdy : Int32) (rsr : Int32) (rae : Nat → Int32) (np : Nat) (res : Int32) (kd : Nat → Int32) (sf : Nat → Int32) (st : Nat → Int32) (co : Nat → Int32) : Int32 := F_X11_nextWell_L2 tu d rdy rsr rae np res kd sf st co (np - 0) 0
set_option maxHeartbeats 4000000 in
set_option maxRecDepth 100000 in
theorem e_X11_nextWell (l : Launch) (x : Nat) (tu : Nat) (d : Nat) (t : Nat) (rd : Nat) (c : Nat) (kq : Nat) (w : Nat) (v : Nat) (n : Nat) (tl : Nat) (pa : Nat) (pnx : Nat) (pln : Nat) (ma : Nat) (hs : Nat) (pp : Nat) (pt : Nat) (pg : Nat) (kr : Nat) (rdy : Int32) (rsr : Int32) (ril : Int32) (tlf : Nat) (tla : Nat) (tlh : Nat) (rae : Nat → Int32) (c0 : Nat) (c1 : Nat) (c2 : Nat) (c3 : Nat) (c4 : Nat) (c5 : Nat) (c6 : Nat) (c7 : Nat) (c8 : Nat) (c9 : Nat) (c10 : Nat) (c11 : Nat) (c12 : Nat) (np : Nat) (nd : Nat) (sto : Int32) (res : Int32) (c17 : Nat) (c18 : Nat) (c19 : Nat) (kd : Nat → Int32) (sf : Nat → Int32) (st : Nat → Int32) (co : Nat → Int32) (hnp : np ≤ 6) (hd : d < 5) (htu : tu ≤ 6) : ex_M l yX11_nextWell cX11_nextWell 5 (some .int) 3 67 [ex_r x, ex_i (nI tu), ex_i (nI d)] [(x, ex_o 11 [ex_r t, ex_r rd, ex_r c, ex_r kq, ex_r w, ex_r v, ex_r n, ex_r tl, ex_r pa, ex_i (nI pnx), ex_i (nI pln), ex_r ma, ex_r hs, ex_r pp, ex_r pt, ex_r pg, ex_r kr]), (tl, ex_o 8 [ex_i rdy, ex_i rsr, ex_i ril, ex_r tlf, ex_r tla, ex_r tlh]), (tla, ex_a 1 6 rae), (c, ex_o 0 [ex_r c0, ex_r c1, ex_r c2, ex_r c3, ex_r c4, ex_r c5, ex_r c6, ex_r c7, ex_r c8, ex_r c9, ex_r c10, ex_r c11, ex_r c12, ex_i (nI np), ex_i (nI nd), ex_i sto, ex_i res, ex_r c17, ex_r c18, ex_r c19]), (c1, ex_a 1 6 kd), (c5, ex_a 1 6 sf), (c6, ex_a 1 6 st), (c11, ex_a 1 5 co)] (fun zcs zr => zcs = [(x, ex_o 11 [ex_r t, ex_r rd, ex_r c, ex_r kq, ex_r w, ex_r v, ex_r n, ex_r tl, ex_r pa, ex_i (nI pnx), ex_i (nI pln), ex_r ma, ex_r hs, ex_r pp, ex_r pt, ex_r pg, ex_r kr]), (tl, ex_o 8 [ex_i rdy, ex_i rsr, ex_i ril, ex_r tlf, ex_r tla, ex_r tlh]), (tla, ex_a 1 6 rae), (c, ex_o 0 [ex_r c0, ex_r c1, ex_r c2, ex_r c3, ex_r c4, ex_r c5, ex_r c6, ex_r c7, ex_r c8, ex_r c9, ex_r c10, ex_r c11, ex_r c12, ex_i (nI np), ex_i (nI nd), ex_i sto, ex_i res, ex_r c17, ex_r c18, ex_r c19]), (c1, ex_a 1 6 kd), (c5, ex_a 1 6 sf), (c6, ex_a 1 6 st), (c11, ex_a 1 5 co)] ∧ zr = some (ex_i (F_X11_nextWell tu d rdy rsr rae np res kd sf st co))) := by
  refine X_meth (by decide) (Nat.le_of_ble_eq_true rfl) ?_
  generalize hV : F_X11_nextWell tu d rdy rsr rae np res kd sf st co = V0
  have hV := hV.symm
  unfold F_X11_nextWell at hV
  try dsimp only at hV
  refine X_iconst (v := 0) dX11_nextWell_0 (by decide) ?_
  refine X_istore_n (lv' := [(3, ex_i 0), (0, ex_r x), (1, ex_i (nI tu)), (2, ex_i (nI d))]) dX11_nextWell_1 rfl (Nat.le_of_ble_eq_true rfl) rfl ?_
  -- loop at 2
  have hL2 := hV
  try dsimp only at hL2
  refine X_ind (fun (a2 : Nat) => V0 = F_X11_nextWell_L2 tu d rdy rsr rae np res kd sf st co (np - a2) a2 ∧ a2 ≤ np) (fun (a2 : Nat) => np - a2) (fun (a2 : Nat) => [(x, ex_o 11 [ex_r t, ex_r rd, ex_r c, ex_r kq, ex_r w, ex_r v, ex_r n, ex_r tl, ex_r pa, ex_i (nI pnx), ex_i (nI pln), ex_r ma, ex_r hs, ex_r pp, ex_r pt, ex_r pg, ex_r kr]), (tl, ex_o 8 [ex_i rdy, ex_i rsr, ex_i ril, ex_r tlf, ex_r tla, ex_r tlh]), (tla, ex_a 1 6 rae), (c, ex_o 0 [ex_r c0, ex_r c1, ex_r c2, ex_r c3, ex_r c4, ex_r c5, ex_r c6, ex_r c7, ex_r c8, ex_r c9, ex_r c10, ex_r c11, ex_r c12, ex_i (nI np), ex_i (nI nd), ex_i sto, ex_i res, ex_r c17, ex_r c18, ex_r c19]), (c1, ex_a 1 6 kd), (c5, ex_a 1 6 sf), (c6, ex_a 1 6 st), (c11, ex_a 1 5 co)]) (fun (a2 : Nat) => [(3, ex_i (nI a2)), (0, ex_r x), (1, ex_i (nI tu)), (2, ex_i (nI d))]) (fun k2 hI2 ih2 => ?_) 0 ⟨hL2, (by omega)⟩
  try dsimp only at hI2 ih2 ⊢
  have ihc2 : ∀ (k2_ : Nat), (V0 = F_X11_nextWell_L2 tu d rdy rsr rae np res kd sf st co (np - k2_) k2_ ∧ k2_ ≤ np) → (np - k2_) < (np - k2) → ex_O _ _ _ _ _ _ _ _ _ [(x, ex_o 11 [ex_r t, ex_r rd, ex_r c, ex_r kq, ex_r w, ex_r v, ex_r n, ex_r tl, ex_r pa, ex_i (nI pnx), ex_i (nI pln), ex_r ma, ex_r hs, ex_r pp, ex_r pt, ex_r pg, ex_r kr]), (tl, ex_o 8 [ex_i rdy, ex_i rsr, ex_i ril, ex_r tlf, ex_r tla, ex_r tlh]), (tla, ex_a 1 6 rae), (c, ex_o 0 [ex_r c0, ex_r c1, ex_r c2, ex_r c3, ex_r c4, ex_r c5, ex_r c6, ex_r c7, ex_r c8, ex_r c9, ex_r c10, ex_r c11, ex_r c12, ex_i (nI np), ex_i (nI nd), ex_i sto, ex_i res, ex_r c17, ex_r c18, ex_r c19]), (c1, ex_a 1 6 kd), (c5, ex_a 1 6 sf), (c6, ex_a 1 6 st), (c11, ex_a 1 5 co)] [(3, ex_i (nI k2_)), (0, ex_r x), (1, ex_i (nI tu)), (2, ex_i (nI d))] _ _ := fun k2_ hi_ hm_ => ih2 k2_ hi_ hm_
  have hL2 := hI2.1
  have hb2 := hI2.2
  refine X_iload_n (j := 0) dX11_nextWell_2 rfl rfl ?_
  refine X_aload_n (j := 1) dX11_nextWell_3 rfl rfl ?_
  refine X_get (j := 0) fo_X11_26 dX11_nextWell_4 rfl rfl ?_
  refine X_get (j := 3) fo_X11_298 dX11_nextWell_7 rfl rfl ?_
  refine X_icmp_ge (tgt := 68) dX11_nextWell_10 (by decide) (fun c_1 => ?_) (fun c_1 => ?_)
  · have hlt2 : k2 = np := nlex (L := np) (by omega) hb2 c_1
    rw [show np - k2 = 0 by omega] at hL2
    have hL2 := hL2.trans (F_X11_nextWell_L2_z ..)
    refine X_iconst (v := (-1)) dX11_nextWell_68 (by decide) ?_
    try dsimp only at hL2
    exact X_iret ex_nI rfl dX11_nextWell_69 (by (repeat refine ex_kc ?_) <;> rfl) (by subst hL2; exact ⟨rfl, rfl⟩)
  · have hlt2 : k2 < np := nlen (L := np) (by omega) hb2 c_1
    rw [show np - k2 = (np - (k2 + 1)) + 1 by omega] at hL2
    have hL2 := hL2.trans (F_X11_nextWell_L2_s ..)
    refine X_iload_n (j := 2) dX11_nextWell_13 rfl rfl ?_
    refine X_iload_n (j := 0) dX11_nextWell_14 rfl rfl ?_
    have hmd : (tu + k2) % np < np := Nat.mod_lt _ (by omega)
    refine X_iadd (v := nI (tu + k2)) dX11_nextWell_15 (nI_add tu k2) ?_
    refine X_aload_n (j := 1) dX11_nextWell_16 rfl rfl ?_
    refine X_get (j := 0) fo_X11_26 dX11_nextWell_17 rfl rfl ?_
    refine X_get (j := 3) fo_X11_298 dX11_nextWell_20 rfl rfl ?_
    refine X_irem (v := nI ((tu + k2) % np)) dX11_nextWell_23 (nI_ne0 (show 0 < np by omega) (by omega)) (nI_rm (a := tu + k2) (b := np) (by omega) (by omega)) ?_
    refine X_istore (lv' := [(4, ex_i (nI ((tu + k2) % np))), (3, ex_i (nI k2)), (0, ex_r x), (1, ex_i (nI tu)), (2, ex_i (nI d))]) dX11_nextWell_24 (Nat.le_of_ble_eq_true rfl) rfl ?_
    refine X_aload_n (j := 2) dX11_nextWell_26 rfl rfl ?_
    refine X_get (j := 0) fo_X11_50 dX11_nextWell_27 rfl rfl ?_
    refine X_aload_n (j := 2) dX11_nextWell_30 rfl rfl ?_
    refine X_get (j := 0) fo_X11_26 dX11_nextWell_31 rfl rfl ?_
    refine X_iload (j := 0) dX11_nextWell_34 rfl ?_
    refine X_iload_n (j := 4) dX11_nextWell_36 rfl rfl ?_
    refine X_callV (j0 := 0) (rest := [(x, ex_o 11 [ex_r t, ex_r rd, ex_r c, ex_r kq, ex_r w, ex_r v, ex_r n, ex_r tl, ex_r pa, ex_i (nI pnx), ex_i (nI pln), ex_r ma, ex_r hs, ex_r pp, ex_r pt, ex_r pg, ex_r kr]), (tla, ex_a 1 6 rae)]) (stk := []) co_X11_328 rfl ⟨(Nat.le_of_ble_eq_true rfl), (Nat.le_of_ble_eq_true rfl)⟩ (e_X8_canEat l tl c ((tu + k2) % np) d rdy rsr ril tlf tla tlh c0 c1 c2 c3 c4 c5 c6 c7 c8 c9 c10 c11 c12 np nd sto res c17 c18 c19 kd sf st co (by first | assumption | omega) (by first | assumption | omega)) dX11_nextWell_37 [1, 3, 4, 5, 6, 7, 0, 2] (show List.Perm [1, 3, 4, 5, 6, 7, 0, 2] (List.range 8) from by decide) rfl rfl rfl rfl (Nat.le_of_ble_eq_true rfl) (fun zc1 zr hq hk => ?_)
    obtain ⟨rfl, rfl⟩ := hq
    refine X_if_eq (tgt := 62) dX11_nextWell_40 (by decide) (fun c_2 => ?_) (fun c_2 => ?_)
    · have hL2 := hL2.trans (if_pos c_2)
      refine X_iinc (v := nI (k2 + 1)) (j := 1) (lv' := [(3, ex_i (nI (k2 + 1))), (4, ex_i (nI ((tu + k2) % np))), (0, ex_r x), (1, ex_i (nI tu)), (2, ex_i (nI d))]) dX11_nextWell_62 rfl (nI_add k2 1) (Nat.le_of_ble_eq_true rfl) rfl ?_
      refine X_goto (tgt := 2) dX11_nextWell_65 (by decide) ?_
      try dsimp only at hL2
      refine X_re (cs' := [(x, ex_o 11 [ex_r t, ex_r rd, ex_r c, ex_r kq, ex_r w, ex_r v, ex_r n, ex_r tl, ex_r pa, ex_i (nI pnx), ex_i (nI pln), ex_r ma, ex_r hs, ex_r pp, ex_r pt, ex_r pg, ex_r kr]), (tl, ex_o 8 [ex_i rdy, ex_i rsr, ex_i ril, ex_r tlf, ex_r tla, ex_r tlh]), (tla, ex_a 1 6 rae), (c, ex_o 0 [ex_r c0, ex_r c1, ex_r c2, ex_r c3, ex_r c4, ex_r c5, ex_r c6, ex_r c7, ex_r c8, ex_r c9, ex_r c10, ex_r c11, ex_r c12, ex_i (nI np), ex_i (nI nd), ex_i sto, ex_i res, ex_r c17, ex_r c18, ex_r c19]), (c1, ex_a 1 6 kd), (c5, ex_a 1 6 sf), (c6, ex_a 1 6 st), (c11, ex_a 1 5 co)]) [6, 0, 7, 1, 2, 3, 4, 5] (show List.Perm [6, 0, 7, 1, 2, 3, 4, 5] (List.range 8) from by decide) rfl ?_
      refine X_lv (lv' := [(3, ex_i (nI (k2 + 1))), (0, ex_r x), (1, ex_i (nI tu)), (2, ex_i (nI d))]) [0, 2, 3, 4] rfl ?_
      exact ihc2 (k2 + 1) ⟨hL2, (show (k2 + 1) ≤ np by omega)⟩ (show np - (k2 + 1) < np - k2 by omega)
    · have hL2 := hL2.trans (if_neg c_2)
      refine X_aload_n (j := 2) dX11_nextWell_43 rfl rfl ?_
      refine X_get (j := 6) fo_X11_50 dX11_nextWell_44 rfl rfl ?_
      refine X_aload_n (j := 2) dX11_nextWell_47 rfl rfl ?_
      refine X_get (j := 6) fo_X11_26 dX11_nextWell_48 rfl rfl ?_
      refine X_iload (j := 0) dX11_nextWell_51 rfl ?_
      refine X_callV (j0 := 0) (rest := [(c1, ex_a 1 6 kd), (c5, ex_a 1 6 sf), (c6, ex_a 1 6 st), (c11, ex_a 1 5 co), (x, ex_o 11 [ex_r t, ex_r rd, ex_r c, ex_r kq, ex_r w, ex_r v, ex_r n, ex_r tl, ex_r pa, ex_i (nI pnx), ex_i (nI pln), ex_r ma, ex_r hs, ex_r pp, ex_r pt, ex_r pg, ex_r kr])]) (stk := []) co_X11_343 rfl ⟨(Nat.le_of_ble_eq_true rfl), (Nat.le_of_ble_eq_true rfl)⟩ (e_X8_wouldBeIll l tl c ((tu + k2) % np) rdy rsr ril tlf tla tlh rae c0 c1 c2 c3 c4 c5 c6 c7 c8 c9 c10 c11 c12 np nd sto res c17 c18 c19 (by first | assumption | omega)) dX11_nextWell_53 [0, 7, 1, 2, 3, 4, 5, 6] (show List.Perm [0, 7, 1, 2, 3, 4, 5, 6] (List.range 8) from by decide) rfl rfl rfl rfl (Nat.le_of_ble_eq_true rfl) (fun zc1 zr hq hk => ?_)
      obtain ⟨rfl, rfl⟩ := hq
      refine X_if_ne (tgt := 62) dX11_nextWell_56 (by decide) (fun c_3 => ?_) (fun c_3 => ?_)
      · have hL2 := hL2.trans (if_neg c_3)
        refine X_iinc (v := nI (k2 + 1)) (j := 1) (lv' := [(3, ex_i (nI (k2 + 1))), (4, ex_i (nI ((tu + k2) % np))), (0, ex_r x), (1, ex_i (nI tu)), (2, ex_i (nI d))]) dX11_nextWell_62 rfl (nI_add k2 1) (Nat.le_of_ble_eq_true rfl) rfl ?_
        refine X_goto (tgt := 2) dX11_nextWell_65 (by decide) ?_
        try dsimp only at hL2
        refine X_re (cs' := [(x, ex_o 11 [ex_r t, ex_r rd, ex_r c, ex_r kq, ex_r w, ex_r v, ex_r n, ex_r tl, ex_r pa, ex_i (nI pnx), ex_i (nI pln), ex_r ma, ex_r hs, ex_r pp, ex_r pt, ex_r pg, ex_r kr]), (tl, ex_o 8 [ex_i rdy, ex_i rsr, ex_i ril, ex_r tlf, ex_r tla, ex_r tlh]), (tla, ex_a 1 6 rae), (c, ex_o 0 [ex_r c0, ex_r c1, ex_r c2, ex_r c3, ex_r c4, ex_r c5, ex_r c6, ex_r c7, ex_r c8, ex_r c9, ex_r c10, ex_r c11, ex_r c12, ex_i (nI np), ex_i (nI nd), ex_i sto, ex_i res, ex_r c17, ex_r c18, ex_r c19]), (c1, ex_a 1 6 kd), (c5, ex_a 1 6 sf), (c6, ex_a 1 6 st), (c11, ex_a 1 5 co)]) [7, 0, 1, 2, 3, 4, 5, 6] (show List.Perm [7, 0, 1, 2, 3, 4, 5, 6] (List.range 8) from by decide) rfl ?_
        refine X_lv (lv' := [(3, ex_i (nI (k2 + 1))), (0, ex_r x), (1, ex_i (nI tu)), (2, ex_i (nI d))]) [0, 2, 3, 4] rfl ?_
        exact ihc2 (k2 + 1) ⟨hL2, (show (k2 + 1) ≤ np by omega)⟩ (show np - (k2 + 1) < np - k2 by omega)
      · have hL2 := hL2.trans (if_pos c_3)
        refine X_iload (j := 0) dX11_nextWell_59 rfl ?_
        try dsimp only at hL2
        refine X_re (cs' := [(x, ex_o 11 [ex_r t, ex_r rd, ex_r c, ex_r kq, ex_r w, ex_r v, ex_r n, ex_r tl, ex_r pa, ex_i (nI pnx), ex_i (nI pln), ex_r ma, ex_r hs, ex_r pp, ex_r pt, ex_r pg, ex_r kr]), (tl, ex_o 8 [ex_i rdy, ex_i rsr, ex_i ril, ex_r tlf, ex_r tla, ex_r tlh]), (tla, ex_a 1 6 rae), (c, ex_o 0 [ex_r c0, ex_r c1, ex_r c2, ex_r c3, ex_r c4, ex_r c5, ex_r c6, ex_r c7, ex_r c8, ex_r c9, ex_r c10, ex_r c11, ex_r c12, ex_i (nI np), ex_i (nI nd), ex_i sto, ex_i res, ex_r c17, ex_r c18, ex_r c19]), (c1, ex_a 1 6 kd), (c5, ex_a 1 6 sf), (c6, ex_a 1 6 st), (c11, ex_a 1 5 co)]) [7, 0, 1, 2, 3, 4, 5, 6] (show List.Perm [7, 0, 1, 2, 3, 4, 5, 6] (List.range 8) from by decide) rfl ?_
        exact X_iret ex_nI rfl dX11_nextWell_61 (by (repeat refine ex_kc ?_) <;> rfl) (by subst hL2; exact ⟨rfl, rfl⟩)

theorem nW_L {tu d np : Nat} {rdy rsr res : Int32} {rae kd sf st co : Nat → Int32} (hn : np ≤ 6) : ∀ (n k : Nat), k + n = np → ∀ v, v = F_X11_nextWell_L2 tu d rdy rsr rae np res kd sf st co n k → v = -1 ∨ (v = nI v.toNatClampNeg ∧ v.toNatClampNeg < np)
  | 0, _, _, v, h => Or.inl h
  | n + 1, k, hk, v, h => by
    rw [F_X11_nextWell_L2_s] at h
    have hm : (tu + k) % np < np := Nat.mod_lt _ (by omega)
    split at h
    · exact nW_L hn n (k + 1) (by omega) v h
    · split at h
      · refine Or.inr ?_
        rw [h, nI_clamp (by omega)]
        exact ⟨rfl, hm⟩
      · exact nW_L hn n (k + 1) (by omega) v h
theorem nW_of {tu d np : Nat} {rdy rsr res : Int32} {rae kd sf st co : Nat → Int32} (hn : np ≤ 6) (h : ¬ F_X11_nextWell tu d rdy rsr rae np res kd sf st co = -1) : F_X11_nextWell tu d rdy rsr rae np res kd sf st co = nI (F_X11_nextWell tu d rdy rsr rae np res kd sf st co).toNatClampNeg ∧ (F_X11_nextWell tu d rdy rsr rae np res kd sf st co).toNatClampNeg < np := (nW_L hn (np - 0) 0 (by omega) _ rfl).resolve_left h

def F_X11_last_L25 (dx : Int32) (np : Nat) (res : Int32) (kd : Nat → Int32) (hg : Nat → Int32) (sf : Nat → Int32) (st : Nat → Int32) (co : Nat → Int32) (gf : Nat → Int32) : Nat → Nat → Nat → Int32 → Int32 → Int32 → (Nat → Int32) → (Nat → Int32) → (Nat → Int32) → Int32 × Int32 × Int32 × (Nat → Int32) × (Nat → Int32) × (Nat → Int32) × Int32
  | 0, k25, tu, s25_1, s25_2, s25_3, s25_4, s25_5, s25_6 => (s25_1, s25_2, s25_3, s25_4, s25_5, s25_6, 60)
  | zn + 1, k25, tu, s25_1, s25_2, s25_3, s25_4, s25_5, s25_6 => (if (F_X11_nextWell tu dx.toNatClampNeg s25_1 s25_2 s25_5 np res kd sf st co) = (-1) then (s25_1, s25_2, s25_3, s25_4, s25_5, s25_6, nI k25) else ((fun (w_5 : Int32 × Int32 × (Nat → Int32) × (Nat → Int32) × Int32) => ((fun (w_6 : Int32 × (Nat → Int32) × (Nat → Int32) × Int32) => (if w_6.2.2.2 ≤ 0 then F_X11_last_L25 dx np res kd hg sf st co gf zn (k25 + 1) (((F_X11_nextWell tu dx.toNatClampNeg s25_1 s25_2 s25_5 np res kd sf st co).toNatClampNeg) + 1) w_6.1 w_5.1 w_5.2.1 w_6.2.1 w_5.2.2.2.1 w_6.2.2.1 else (w_6.1, w_5.1, w_5.2.1, w_6.2.1, w_5.2.2.2.1, w_6.2.2.1, nI k25))) (F_X8_endsDay s25_1 w_5.2.2.1 s25_6 np hg))) (F_X8_takesMeal ((F_X11_nextWell tu dx.toNatClampNeg s25_1 s25_2 s25_5 np res kd sf st co).toNatClampNeg) dx.toNatClampNeg 1 s25_1 s25_2 s25_3 s25_4 s25_5 np res kd sf st co gf)))
theorem F_X11_last_L25_z (dx : Int32) (np : Nat) (res : Int32) (kd : Nat → Int32) (hg : Nat → Int32) (sf : Nat → Int32) (st : Nat → Int32) (co : Nat → Int32) (gf : Nat → Int32) (k25 : Nat) (tu : Nat) (s25_1 : Int32) (s25_2 : Int32) (s25_3 : Int32) (s25_4 : Nat → Int32) (s25_5 : Nat → Int32) (s25_6 : Nat → Int32) : F_X11_last_L25 dx np res kd hg sf st co gf 0 k25 tu s25_1 s25_2 s25_3 s25_4 s25_5 s25_6 = (s25_1, s25_2, s25_3, s25_4, s25_5, s25_6, 60) := rfl
theorem F_X11_last_L25_s (dx : Int32) (np : Nat) (res : Int32) (kd : Nat → Int32) (hg : Nat → Int32) (sf : Nat → Int32) (st : Nat → Int32) (co : Nat → Int32) (gf : Nat → Int32) (k25 : Nat) (tu : Nat) (s25_1 : Int32) (s25_2 : Int32) (s25_3 : Int32) (s25_4 : Nat → Int32) (s25_5 : Nat → Int32) (s25_6 : Nat → Int32) (zn : Nat) : F_X11_last_L25 dx np res kd hg sf st co gf (zn + 1) k25 tu s25_1 s25_2 s25_3 s25_4 s25_5 s25_6 = (if (F_X11_nextWell tu dx.toNatClampNeg s25_1 s25_2 s25_5 np res kd sf st co) = (-1) then (s25_1, s25_2, s25_3, s25_4, s25_5, s25_6, nI k25) else ((fun (w_5 : Int32 × Int32 × (Nat → Int32) × (Nat → Int32) × Int32) => ((fun (w_6 : Int32 × (Nat → Int32) × (Nat → Int32) × Int32) => (if w_6.2.2.2 ≤ 0 then F_X11_last_L25 dx np res kd hg sf st co gf zn (k25 + 1) (((F_X11_nextWell tu dx.toNatClampNeg s25_1 s25_2 s25_5 np res kd sf st co).toNatClampNeg) + 1) w_6.1 w_5.1 w_5.2.1 w_6.2.1 w_5.2.2.2.1 w_6.2.2.1 else (w_6.1, w_5.1, w_5.2.1, w_6.2.1, w_5.2.2.2.1, w_6.2.2.1, nI k25))) (F_X8_endsDay s25_1 w_5.2.2.1 s25_6 np hg))) (F_X8_takesMeal ((F_X11_nextWell tu dx.toNatClampNeg s25_1 s25_2 s25_5 np res kd sf st co).toNatClampNeg) dx.toNatClampNeg 1 s25_1 s25_2 s25_3 s25_4 s25_5 np res kd sf st co gf))) := rfl
def F_X11_last (dx : Int32) (rdy : Int32) (rsr : Int32) (ril : Int32) (rfu : Nat → Int32) (rae : Nat → Int32) (rhu : Nat → Int32) (dy : Int32) (sr : Int32) (il : Int32) (fu : Nat → Int32) (ae : Nat → Int32) (hu : Nat → Int32) (np : Nat) (nd : Nat) (res : Int32) (kd : Nat → Int32) (hg : Nat → Int32) (sf : Nat → Int32) (st : Nat → Int32) (co : Nat → Int32) (gf : Nat → Int32) : Int32 × Int32 × Int32 × (Nat → Int32) × (Nat → Int32) × (Nat → Int32) × Int32 := (if (F_X11_isDish dx nd) = 0 then (rdy, rsr, ril, rfu, rae, rhu, (-1)) else ((fun (w_2 : Int32 × Int32 × Int32 × (Nat → Int32) × (Nat → Int32) × (Nat → Int32)) => F_X11_last_L25 dx np res kd hg sf st co gf (60 - 0) 0 0 w_2.1 w_2.2.1 w_2.2.2.1 w_2.2.2.2.1 w_2.2.2.2.2.1 w_2.2.2.2.2.2) (F_X8_copies rfu rae rhu dy sr il fu ae hu)))
set_option maxHeartbeats 4000000 in
set_option maxRecDepth 100000 in
theorem e_X11_last (l : Launch) (x : Nat) (dx : Int32) (t : Nat) (rd : Nat) (c : Nat) (kq : Nat) (w : Nat) (v : Nat) (n : Nat) (tl : Nat) (pa : Nat) (pnx : Nat) (pln : Nat) (ma : Nat) (hs : Nat) (pp : Nat) (pt : Nat) (pg : Nat) (kr : Nat) (rdy : Int32) (rsr : Int32) (ril : Int32) (tlf : Nat) (tla : Nat) (tlh : Nat) (rfu : Nat → Int32) (rae : Nat → Int32) (rhu : Nat → Int32) (dy : Int32) (sr : Int32) (il : Int32) (nf : Nat) (na : Nat) (nh : Nat) (fu : Nat → Int32) (ae : Nat → Int32) (hu : Nat → Int32) (c0 : Nat) (c1 : Nat) (c2 : Nat) (c3 : Nat) (c4 : Nat) (c5 : Nat) (c6 : Nat) (c7 : Nat) (c8 : Nat) (c9 : Nat) (c10 : Nat) (c11 : Nat) (c12 : Nat) (np : Nat) (nd : Nat) (sto : Int32) (res : Int32) (c17 : Nat) (c18 : Nat) (c19 : Nat) (kd : Nat → Int32) (hg : Nat → Int32) (sf : Nat → Int32) (st : Nat → Int32) (co : Nat → Int32) (gf : Nat → Int32) (hnp : np ≤ 6) (hnd : nd ≤ 5) : ex_M l yX11_last cX11_last 5 (some .int) 4 97 [ex_r x, ex_i dx] [(x, ex_o 11 [ex_r t, ex_r rd, ex_r c, ex_r kq, ex_r w, ex_r v, ex_r n, ex_r tl, ex_r pa, ex_i (nI pnx), ex_i (nI pln), ex_r ma, ex_r hs, ex_r pp, ex_r pt, ex_r pg, ex_r kr]), (tl, ex_o 8 [ex_i rdy, ex_i rsr, ex_i ril, ex_r tlf, ex_r tla, ex_r tlh]), (tlf, ex_a 1 6 rfu), (tla, ex_a 1 6 rae), (tlh, ex_a 1 6 rhu), (n, ex_o 8 [ex_i dy, ex_i sr, ex_i il, ex_r nf, ex_r na, ex_r nh]), (nf, ex_a 1 6 fu), (na, ex_a 1 6 ae), (nh, ex_a 1 6 hu), (c, ex_o 0 [ex_r c0, ex_r c1, ex_r c2, ex_r c3, ex_r c4, ex_r c5, ex_r c6, ex_r c7, ex_r c8, ex_r c9, ex_r c10, ex_r c11, ex_r c12, ex_i (nI np), ex_i (nI nd), ex_i sto, ex_i res, ex_r c17, ex_r c18, ex_r c19]), (c1, ex_a 1 6 kd), (c2, ex_a 1 6 hg), (c5, ex_a 1 6 sf), (c6, ex_a 1 6 st), (c11, ex_a 1 5 co), (c17, ex_a 1 360 gf)] (fun zcs zr => zcs = [(x, ex_o 11 [ex_r t, ex_r rd, ex_r c, ex_r kq, ex_r w, ex_r v, ex_r n, ex_r tl, ex_r pa, ex_i (nI pnx), ex_i (nI pln), ex_r ma, ex_r hs, ex_r pp, ex_r pt, ex_r pg, ex_r kr]), (tl, ex_o 8 [ex_i ((F_X11_last dx rdy rsr ril rfu rae rhu dy sr il fu ae hu np nd res kd hg sf st co gf).1), ex_i ((F_X11_last dx rdy rsr ril rfu rae rhu dy sr il fu ae hu np nd res kd hg sf st co gf).2.1), ex_i ((F_X11_last dx rdy rsr ril rfu rae rhu dy sr il fu ae hu np nd res kd hg sf st co gf).2.2.1), ex_r tlf, ex_r tla, ex_r tlh]), (tlf, ex_a 1 6 ((F_X11_last dx rdy rsr ril rfu rae rhu dy sr il fu ae hu np nd res kd hg sf st co gf).2.2.2.1)), (tla, ex_a 1 6 ((F_X11_last dx rdy rsr ril rfu rae rhu dy sr il fu ae hu np nd res kd hg sf st co gf).2.2.2.2.1)), (tlh, ex_a 1 6 ((F_X11_last dx rdy rsr ril rfu rae rhu dy sr il fu ae hu np nd res kd hg sf st co gf).2.2.2.2.2.1)), (n, ex_o 8 [ex_i dy, ex_i sr, ex_i il, ex_r nf, ex_r na, ex_r nh]), (nf, ex_a 1 6 fu), (na, ex_a 1 6 ae), (nh, ex_a 1 6 hu), (c, ex_o 0 [ex_r c0, ex_r c1, ex_r c2, ex_r c3, ex_r c4, ex_r c5, ex_r c6, ex_r c7, ex_r c8, ex_r c9, ex_r c10, ex_r c11, ex_r c12, ex_i (nI np), ex_i (nI nd), ex_i sto, ex_i res, ex_r c17, ex_r c18, ex_r c19]), (c1, ex_a 1 6 kd), (c2, ex_a 1 6 hg), (c5, ex_a 1 6 sf), (c6, ex_a 1 6 st), (c11, ex_a 1 5 co), (c17, ex_a 1 360 gf)] ∧ zr = some (ex_i (F_X11_last dx rdy rsr ril rfu rae rhu dy sr il fu ae hu np nd res kd hg sf st co gf).2.2.2.2.2.2)) := by
  refine X_meth (by decide) (Nat.le_of_ble_eq_true rfl) ?_
  generalize hV : F_X11_last dx rdy rsr ril rfu rae rhu dy sr il fu ae hu np nd res kd hg sf st co gf = V0
  have hV := hV.symm
  unfold F_X11_last at hV
  try dsimp only at hV
  refine X_aload_n (j := 0) dX11_last_0 rfl rfl ?_
  refine X_iload_n (j := 1) dX11_last_1 rfl rfl ?_
  refine X_callV (j0 := 0) (rest := [(tl, ex_o 8 [ex_i rdy, ex_i rsr, ex_i ril, ex_r tlf, ex_r tla, ex_r tlh]), (tlf, ex_a 1 6 rfu), (tla, ex_a 1 6 rae), (tlh, ex_a 1 6 rhu), (n, ex_o 8 [ex_i dy, ex_i sr, ex_i il, ex_r nf, ex_r na, ex_r nh]), (nf, ex_a 1 6 fu), (na, ex_a 1 6 ae), (nh, ex_a 1 6 hu), (c1, ex_a 1 6 kd), (c2, ex_a 1 6 hg), (c5, ex_a 1 6 sf), (c6, ex_a 1 6 st), (c11, ex_a 1 5 co), (c17, ex_a 1 360 gf)]) (stk := []) co_X11_153 rfl ⟨(Nat.le_of_ble_eq_true rfl), (Nat.le_of_ble_eq_true rfl)⟩ (e_X11_isDish l x dx t rd c kq w v n tl pa pnx pln ma hs pp pt pg kr c0 c1 c2 c3 c4 c5 c6 c7 c8 c9 c10 c11 c12 np nd sto res c17 c18 c19) dX11_last_2 [0, 9, 1, 2, 3, 4, 5, 6, 7, 8, 10, 11, 12, 13, 14, 15] (show List.Perm [0, 9, 1, 2, 3, 4, 5, 6, 7, 8, 10, 11, 12, 13, 14, 15] (List.range 16) from by decide) rfl rfl rfl rfl (Nat.le_of_ble_eq_true rfl) (fun zc1 zr hq hk => ?_)
  obtain ⟨rfl, rfl⟩ := hq
  refine X_if_ne (tgt := 10) dX11_last_5 (by decide) (fun c_1 => ?_) (fun c_1 => ?_)
  · have hV := hV.trans (if_neg c_1)
    have hz1 := isDi_of c_1 hnd
    have hx1 := hz1.1
    have hl1 := hz1.2
    refine X_eq (cs' := [(x, ex_o 11 [ex_r t, ex_r rd, ex_r c, ex_r kq, ex_r w, ex_r v, ex_r n, ex_r tl, ex_r pa, ex_i (nI pnx), ex_i (nI pln), ex_r ma, ex_r hs, ex_r pp, ex_r pt, ex_r pg, ex_r kr]), (c, ex_o 0 [ex_r c0, ex_r c1, ex_r c2, ex_r c3, ex_r c4, ex_r c5, ex_r c6, ex_r c7, ex_r c8, ex_r c9, ex_r c10, ex_r c11, ex_r c12, ex_i (nI np), ex_i (nI nd), ex_i sto, ex_i res, ex_r c17, ex_r c18, ex_r c19]), (tl, ex_o 8 [ex_i rdy, ex_i rsr, ex_i ril, ex_r tlf, ex_r tla, ex_r tlh]), (tlf, ex_a 1 6 rfu), (tla, ex_a 1 6 rae), (tlh, ex_a 1 6 rhu), (n, ex_o 8 [ex_i dy, ex_i sr, ex_i il, ex_r nf, ex_r na, ex_r nh]), (nf, ex_a 1 6 fu), (na, ex_a 1 6 ae), (nh, ex_a 1 6 hu), (c1, ex_a 1 6 kd), (c2, ex_a 1 6 hg), (c5, ex_a 1 6 sf), (c6, ex_a 1 6 st), (c11, ex_a 1 5 co), (c17, ex_a 1 360 gf)]) (lv' := [(0, ex_r x), (1, ex_i (nI dx.toNatClampNeg))]) rfl (by rw [← hx1] <;> rfl) ?_
    refine X_aload_n (j := 0) dX11_last_10 rfl rfl ?_
    refine X_get (j := 0) fo_X11_50 dX11_last_11 rfl rfl ?_
    refine X_aload_n (j := 0) dX11_last_14 rfl rfl ?_
    refine X_get (j := 0) fo_X11_46 dX11_last_15 rfl rfl ?_
    refine X_callV (j0 := 0) (rest := [(x, ex_o 11 [ex_r t, ex_r rd, ex_r c, ex_r kq, ex_r w, ex_r v, ex_r n, ex_r tl, ex_r pa, ex_i (nI pnx), ex_i (nI pln), ex_r ma, ex_r hs, ex_r pp, ex_r pt, ex_r pg, ex_r kr]), (c, ex_o 0 [ex_r c0, ex_r c1, ex_r c2, ex_r c3, ex_r c4, ex_r c5, ex_r c6, ex_r c7, ex_r c8, ex_r c9, ex_r c10, ex_r c11, ex_r c12, ex_i (nI np), ex_i (nI nd), ex_i sto, ex_i res, ex_r c17, ex_r c18, ex_r c19]), (c1, ex_a 1 6 kd), (c2, ex_a 1 6 hg), (c5, ex_a 1 6 sf), (c6, ex_a 1 6 st), (c11, ex_a 1 5 co), (c17, ex_a 1 360 gf)]) (stk := []) co_X11_191 rfl ⟨(Nat.le_of_ble_eq_true rfl), (Nat.le_of_ble_eq_true rfl)⟩ (e_X8_copies l tl n rdy rsr ril tlf tla tlh rfu rae rhu dy sr il nf na nh fu ae hu) dX11_last_18 [2, 3, 4, 5, 6, 7, 8, 9, 0, 1, 10, 11, 12, 13, 14, 15] (show List.Perm [2, 3, 4, 5, 6, 7, 8, 9, 0, 1, 10, 11, 12, 13, 14, 15] (List.range 16) from by decide) rfl rfl rfl rfl (Nat.le_of_ble_eq_true rfl) (fun zc1 zr hq hk => ?_)
    obtain ⟨rfl, rfl⟩ := hq
    try dsimp only at hV
    generalize hq_w_2 : F_X8_copies rfu rae rhu dy sr il fu ae hu = w_2 at hV ⊢
    try dsimp only at hV
    refine X_iconst (v := 0) dX11_last_21 (by decide) ?_
    refine X_istore_n (lv' := [(2, ex_i 0), (0, ex_r x), (1, ex_i (nI dx.toNatClampNeg))]) dX11_last_22 rfl (Nat.le_of_ble_eq_true rfl) rfl ?_
    refine X_iconst (v := 0) dX11_last_23 (by decide) ?_
    refine X_istore_n (lv' := [(3, ex_i 0), (2, ex_i 0), (0, ex_r x), (1, ex_i (nI dx.toNatClampNeg))]) dX11_last_24 rfl (Nat.le_of_ble_eq_true rfl) rfl ?_
    -- loop at 25
    have hL25 := hV
    try dsimp only at hL25
    refine X_ind (fun (a25 : Nat × Nat × Int32 × Int32 × Int32 × (Nat → Int32) × (Nat → Int32) × (Nat → Int32)) => V0 = F_X11_last_L25 dx np res kd hg sf st co gf (60 - a25.1) a25.1 a25.2.1 a25.2.2.1 a25.2.2.2.1 a25.2.2.2.2.1 a25.2.2.2.2.2.1 a25.2.2.2.2.2.2.1 a25.2.2.2.2.2.2.2 ∧ a25.1 ≤ 60 ∧ a25.2.1 ≤ 6) (fun (a25 : Nat × Nat × Int32 × Int32 × Int32 × (Nat → Int32) × (Nat → Int32) × (Nat → Int32)) => 60 - a25.1) (fun (a25 : Nat × Nat × Int32 × Int32 × Int32 × (Nat → Int32) × (Nat → Int32) × (Nat → Int32)) => [(tl, ex_o 8 [ex_i a25.2.2.1, ex_i a25.2.2.2.1, ex_i a25.2.2.2.2.1, ex_r tlf, ex_r tla, ex_r tlh]), (tlf, ex_a 1 6 a25.2.2.2.2.2.1), (tla, ex_a 1 6 a25.2.2.2.2.2.2.1), (tlh, ex_a 1 6 a25.2.2.2.2.2.2.2), (n, ex_o 8 [ex_i dy, ex_i sr, ex_i il, ex_r nf, ex_r na, ex_r nh]), (nf, ex_a 1 6 fu), (na, ex_a 1 6 ae), (nh, ex_a 1 6 hu), (x, ex_o 11 [ex_r t, ex_r rd, ex_r c, ex_r kq, ex_r w, ex_r v, ex_r n, ex_r tl, ex_r pa, ex_i (nI pnx), ex_i (nI pln), ex_r ma, ex_r hs, ex_r pp, ex_r pt, ex_r pg, ex_r kr]), (c, ex_o 0 [ex_r c0, ex_r c1, ex_r c2, ex_r c3, ex_r c4, ex_r c5, ex_r c6, ex_r c7, ex_r c8, ex_r c9, ex_r c10, ex_r c11, ex_r c12, ex_i (nI np), ex_i (nI nd), ex_i sto, ex_i res, ex_r c17, ex_r c18, ex_r c19]), (c1, ex_a 1 6 kd), (c2, ex_a 1 6 hg), (c5, ex_a 1 6 sf), (c6, ex_a 1 6 st), (c11, ex_a 1 5 co), (c17, ex_a 1 360 gf)]) (fun (a25 : Nat × Nat × Int32 × Int32 × Int32 × (Nat → Int32) × (Nat → Int32) × (Nat → Int32)) => [(3, ex_i (nI a25.1)), (2, ex_i (nI a25.2.1)), (0, ex_r x), (1, ex_i (nI dx.toNatClampNeg))]) (fun ⟨k25, tu, s25_1, s25_2, s25_3, s25_4, s25_5, s25_6⟩ hI25 ih25 => ?_) (0, 0, w_2.1, w_2.2.1, w_2.2.2.1, w_2.2.2.2.1, w_2.2.2.2.2.1, w_2.2.2.2.2.2) ⟨hL25, (by omega), (Nat.zero_le _)⟩
    try dsimp only at hI25 ih25 ⊢
    have ihc25 : ∀ (k25_ : Nat) (tu_ : Nat) (s25_1_ : Int32) (s25_2_ : Int32) (s25_3_ : Int32) (s25_4_ : Nat → Int32) (s25_5_ : Nat → Int32) (s25_6_ : Nat → Int32), (V0 = F_X11_last_L25 dx np res kd hg sf st co gf (60 - k25_) k25_ tu_ s25_1_ s25_2_ s25_3_ s25_4_ s25_5_ s25_6_ ∧ k25_ ≤ 60 ∧ tu_ ≤ 6) → (60 - k25_) < (60 - k25) → ex_O _ _ _ _ _ _ _ _ _ [(tl, ex_o 8 [ex_i s25_1_, ex_i s25_2_, ex_i s25_3_, ex_r tlf, ex_r tla, ex_r tlh]), (tlf, ex_a 1 6 s25_4_), (tla, ex_a 1 6 s25_5_), (tlh, ex_a 1 6 s25_6_), (n, ex_o 8 [ex_i dy, ex_i sr, ex_i il, ex_r nf, ex_r na, ex_r nh]), (nf, ex_a 1 6 fu), (na, ex_a 1 6 ae), (nh, ex_a 1 6 hu), (x, ex_o 11 [ex_r t, ex_r rd, ex_r c, ex_r kq, ex_r w, ex_r v, ex_r n, ex_r tl, ex_r pa, ex_i (nI pnx), ex_i (nI pln), ex_r ma, ex_r hs, ex_r pp, ex_r pt, ex_r pg, ex_r kr]), (c, ex_o 0 [ex_r c0, ex_r c1, ex_r c2, ex_r c3, ex_r c4, ex_r c5, ex_r c6, ex_r c7, ex_r c8, ex_r c9, ex_r c10, ex_r c11, ex_r c12, ex_i (nI np), ex_i (nI nd), ex_i sto, ex_i res, ex_r c17, ex_r c18, ex_r c19]), (c1, ex_a 1 6 kd), (c2, ex_a 1 6 hg), (c5, ex_a 1 6 sf), (c6, ex_a 1 6 st), (c11, ex_a 1 5 co), (c17, ex_a 1 360 gf)] [(3, ex_i (nI k25_)), (2, ex_i (nI tu_)), (0, ex_r x), (1, ex_i (nI dx.toNatClampNeg))] _ _ := fun k25_ tu_ s25_1_ s25_2_ s25_3_ s25_4_ s25_5_ s25_6_ hi_ hm_ => ih25 (k25_, tu_, s25_1_, s25_2_, s25_3_, s25_4_, s25_5_, s25_6_) hi_ hm_
    have hL25 := hI25.1
    have hb25 := hI25.2.1
    have htu := hI25.2.2
    refine X_iload_n (j := 0) dX11_last_25 rfl rfl ?_
    refine X_bipush (v := 60) dX11_last_26 (by decide) ?_
    refine X_icmp_ge (tgt := 90) dX11_last_28 (by decide) (fun c_3 => ?_) (fun c_3 => ?_)
    · have hlt25 : k25 = 60 := nlex (L := 60) (by omega) hb25 c_3
      rw [show 60 - k25 = 0 by omega] at hL25
      have hL25 := hL25.trans (F_X11_last_L25_z ..)
      refine X_bipush (v := 60) dX11_last_90 (by decide) ?_
      try dsimp only at hL25
      refine X_re (cs' := [(x, ex_o 11 [ex_r t, ex_r rd, ex_r c, ex_r kq, ex_r w, ex_r v, ex_r n, ex_r tl, ex_r pa, ex_i (nI pnx), ex_i (nI pln), ex_r ma, ex_r hs, ex_r pp, ex_r pt, ex_r pg, ex_r kr]), (tl, ex_o 8 [ex_i s25_1, ex_i s25_2, ex_i s25_3, ex_r tlf, ex_r tla, ex_r tlh]), (tlf, ex_a 1 6 s25_4), (tla, ex_a 1 6 s25_5), (tlh, ex_a 1 6 s25_6), (n, ex_o 8 [ex_i dy, ex_i sr, ex_i il, ex_r nf, ex_r na, ex_r nh]), (nf, ex_a 1 6 fu), (na, ex_a 1 6 ae), (nh, ex_a 1 6 hu), (c, ex_o 0 [ex_r c0, ex_r c1, ex_r c2, ex_r c3, ex_r c4, ex_r c5, ex_r c6, ex_r c7, ex_r c8, ex_r c9, ex_r c10, ex_r c11, ex_r c12, ex_i (nI np), ex_i (nI nd), ex_i sto, ex_i res, ex_r c17, ex_r c18, ex_r c19]), (c1, ex_a 1 6 kd), (c2, ex_a 1 6 hg), (c5, ex_a 1 6 sf), (c6, ex_a 1 6 st), (c11, ex_a 1 5 co), (c17, ex_a 1 360 gf)]) [8, 0, 1, 2, 3, 4, 5, 6, 7, 9, 10, 11, 12, 13, 14, 15] (show List.Perm [8, 0, 1, 2, 3, 4, 5, 6, 7, 9, 10, 11, 12, 13, 14, 15] (List.range 16) from by decide) rfl ?_
      exact X_iret ex_nI rfl dX11_last_92 (by (repeat refine ex_kc ?_) <;> rfl) (by subst hL25; exact ⟨rfl, rfl⟩)
    · have hlt25 : k25 < 60 := nlen (L := 60) (by omega) hb25 c_3
      rw [show 60 - k25 = (60 - (k25 + 1)) + 1 by omega] at hL25
      have hL25 := hL25.trans (F_X11_last_L25_s ..)
      refine X_aload_n (j := 2) dX11_last_31 rfl rfl ?_
      refine X_iload_n (j := 1) dX11_last_32 rfl rfl ?_
      refine X_iload_n (j := 3) dX11_last_33 rfl rfl ?_
      refine X_callV (j0 := 0) (rest := [(tlf, ex_a 1 6 s25_4), (tlh, ex_a 1 6 s25_6), (n, ex_o 8 [ex_i dy, ex_i sr, ex_i il, ex_r nf, ex_r na, ex_r nh]), (nf, ex_a 1 6 fu), (na, ex_a 1 6 ae), (nh, ex_a 1 6 hu), (c2, ex_a 1 6 hg), (c17, ex_a 1 360 gf)]) (stk := []) co_X11_229 rfl ⟨(Nat.le_of_ble_eq_true rfl), (Nat.le_of_ble_eq_true rfl)⟩ (e_X11_nextWell l x tu dx.toNatClampNeg t rd c kq w v n tl pa pnx pln ma hs pp pt pg kr s25_1 s25_2 s25_3 tlf tla tlh s25_5 c0 c1 c2 c3 c4 c5 c6 c7 c8 c9 c10 c11 c12 np nd sto res c17 c18 c19 kd sf st co (by first | assumption | omega) (by first | assumption | omega) (by first | assumption | omega)) dX11_last_34 [8, 0, 2, 9, 10, 12, 13, 14, 1, 3, 4, 5, 6, 7, 11, 15] (show List.Perm [8, 0, 2, 9, 10, 12, 13, 14, 1, 3, 4, 5, 6, 7, 11, 15] (List.range 16) from by decide) rfl rfl rfl rfl (Nat.le_of_ble_eq_true rfl) (fun zc1 zr hq hk => ?_)
      obtain ⟨rfl, rfl⟩ := hq
      refine X_istore (lv' := [(4, ex_i (F_X11_nextWell tu dx.toNatClampNeg s25_1 s25_2 s25_5 np res kd sf st co)), (3, ex_i (nI k25)), (2, ex_i (nI tu)), (0, ex_r x), (1, ex_i (nI dx.toNatClampNeg))]) dX11_last_37 (Nat.le_of_ble_eq_true rfl) rfl ?_
      refine X_iload (j := 0) dX11_last_39 rfl ?_
      refine X_iconst (v := (-1)) dX11_last_41 (by decide) ?_
      refine X_icmp_ne (tgt := 47) dX11_last_42 (by decide) (fun c_4 => ?_) (fun c_4 => ?_)
      · have hL25 := hL25.trans (if_neg c_4)
        have hz4 := nW_of hnp c_4
        have hx4 := hz4.1
        have hl4 := hz4.2
        refine X_eq (cs' := [(x, ex_o 11 [ex_r t, ex_r rd, ex_r c, ex_r kq, ex_r w, ex_r v, ex_r n, ex_r tl, ex_r pa, ex_i (nI pnx), ex_i (nI pln), ex_r ma, ex_r hs, ex_r pp, ex_r pt, ex_r pg, ex_r kr]), (tl, ex_o 8 [ex_i s25_1, ex_i s25_2, ex_i s25_3, ex_r tlf, ex_r tla, ex_r tlh]), (tla, ex_a 1 6 s25_5), (c, ex_o 0 [ex_r c0, ex_r c1, ex_r c2, ex_r c3, ex_r c4, ex_r c5, ex_r c6, ex_r c7, ex_r c8, ex_r c9, ex_r c10, ex_r c11, ex_r c12, ex_i (nI np), ex_i (nI nd), ex_i sto, ex_i res, ex_r c17, ex_r c18, ex_r c19]), (c1, ex_a 1 6 kd), (c5, ex_a 1 6 sf), (c6, ex_a 1 6 st), (c11, ex_a 1 5 co), (tlf, ex_a 1 6 s25_4), (tlh, ex_a 1 6 s25_6), (n, ex_o 8 [ex_i dy, ex_i sr, ex_i il, ex_r nf, ex_r na, ex_r nh]), (nf, ex_a 1 6 fu), (na, ex_a 1 6 ae), (nh, ex_a 1 6 hu), (c2, ex_a 1 6 hg), (c17, ex_a 1 360 gf)]) (lv' := [(4, ex_i (nI (F_X11_nextWell tu dx.toNatClampNeg s25_1 s25_2 s25_5 np res kd sf st co).toNatClampNeg)), (3, ex_i (nI k25)), (2, ex_i (nI tu)), (0, ex_r x), (1, ex_i (nI dx.toNatClampNeg))]) rfl (by rw [← hx4] <;> rfl) ?_
        refine X_aload_n (j := 3) dX11_last_47 rfl rfl ?_
        refine X_get (j := 0) fo_X11_50 dX11_last_48 rfl rfl ?_
        refine X_aload_n (j := 3) dX11_last_51 rfl rfl ?_
        refine X_get (j := 0) fo_X11_26 dX11_last_52 rfl rfl ?_
        refine X_iload (j := 0) dX11_last_55 rfl ?_
        refine X_iload_n (j := 4) dX11_last_57 rfl rfl ?_
        refine X_iconst (v := 1) dX11_last_58 (by decide) ?_
        refine X_callV (j0 := 0) (rest := [(x, ex_o 11 [ex_r t, ex_r rd, ex_r c, ex_r kq, ex_r w, ex_r v, ex_r n, ex_r tl, ex_r pa, ex_i (nI pnx), ex_i (nI pln), ex_r ma, ex_r hs, ex_r pp, ex_r pt, ex_r pg, ex_r kr]), (tlh, ex_a 1 6 s25_6), (n, ex_o 8 [ex_i dy, ex_i sr, ex_i il, ex_r nf, ex_r na, ex_r nh]), (nf, ex_a 1 6 fu), (na, ex_a 1 6 ae), (nh, ex_a 1 6 hu), (c2, ex_a 1 6 hg)]) (stk := []) co_X11_176 rfl ⟨(Nat.le_of_ble_eq_true rfl), (Nat.le_of_ble_eq_true rfl)⟩ (e_X8_takesMeal l tl c ((F_X11_nextWell tu dx.toNatClampNeg s25_1 s25_2 s25_5 np res kd sf st co).toNatClampNeg) dx.toNatClampNeg 1 s25_1 s25_2 s25_3 tlf tla tlh s25_4 s25_5 c0 c1 c2 c3 c4 c5 c6 c7 c8 c9 c10 c11 c12 np nd sto res c17 c18 c19 kd sf st co gf (by first | assumption | omega) (by first | assumption | omega) (by first | assumption | omega)) dX11_last_59 [1, 8, 2, 3, 4, 5, 6, 7, 15, 0, 9, 10, 11, 12, 13, 14] (show List.Perm [1, 8, 2, 3, 4, 5, 6, 7, 15, 0, 9, 10, 11, 12, 13, 14] (List.range 16) from by decide) rfl rfl rfl rfl (Nat.le_of_ble_eq_true rfl) (fun zc1 zr hq hk => ?_)
        obtain ⟨rfl, rfl⟩ := hq
        try dsimp only at hL25
        generalize hq_w_5 : F_X8_takesMeal ((F_X11_nextWell tu dx.toNatClampNeg s25_1 s25_2 s25_5 np res kd sf st co).toNatClampNeg) dx.toNatClampNeg 1 s25_1 s25_2 s25_3 s25_4 s25_5 np res kd sf st co gf = w_5 at hL25 ⊢
        try dsimp only at hL25
        refine X_pop dX11_last_62 rfl ?_
        refine X_aload_n (j := 3) dX11_last_63 rfl rfl ?_
        refine X_get (j := 9) fo_X11_50 dX11_last_64 rfl rfl ?_
        refine X_aload_n (j := 3) dX11_last_67 rfl rfl ?_
        refine X_get (j := 9) fo_X11_26 dX11_last_68 rfl rfl ?_
        refine X_callV (j0 := 0) (rest := [(tla, ex_a 1 6 w_5.2.2.2.1), (c1, ex_a 1 6 kd), (c5, ex_a 1 6 sf), (c6, ex_a 1 6 st), (c11, ex_a 1 5 co), (c17, ex_a 1 360 gf), (x, ex_o 11 [ex_r t, ex_r rd, ex_r c, ex_r kq, ex_r w, ex_r v, ex_r n, ex_r tl, ex_r pa, ex_i (nI pnx), ex_i (nI pln), ex_r ma, ex_r hs, ex_r pp, ex_r pt, ex_r pg, ex_r kr]), (n, ex_o 8 [ex_i dy, ex_i sr, ex_i il, ex_r nf, ex_r na, ex_r nh]), (nf, ex_a 1 6 fu), (na, ex_a 1 6 ae), (nh, ex_a 1 6 hu)]) (stk := []) co_X11_180 rfl ⟨(Nat.le_of_ble_eq_true rfl), (Nat.le_of_ble_eq_true rfl)⟩ (e_X8_endsDay l tl c s25_1 w_5.1 w_5.2.1 tlf tla tlh w_5.2.2.1 s25_6 c0 c1 c2 c3 c4 c5 c6 c7 c8 c9 c10 c11 c12 np nd sto res c17 c18 c19 hg (by first | assumption | omega)) dX11_last_71 [0, 1, 10, 3, 15, 2, 4, 5, 6, 7, 8, 9, 11, 12, 13, 14] (show List.Perm [0, 1, 10, 3, 15, 2, 4, 5, 6, 7, 8, 9, 11, 12, 13, 14] (List.range 16) from by decide) rfl rfl rfl rfl (Nat.le_of_ble_eq_true rfl) (fun zc1 zr hq hk => ?_)
        obtain ⟨rfl, rfl⟩ := hq
        try dsimp only at hL25
        generalize hq_w_6 : F_X8_endsDay s25_1 w_5.2.2.1 s25_6 np hg = w_6 at hL25 ⊢
        try dsimp only at hL25
        refine X_if_le (tgt := 79) dX11_last_74 (by decide) (fun c_7 => ?_) (fun c_7 => ?_)
        · have hL25 := hL25.trans (if_pos c_7)
          refine X_iload (j := 0) dX11_last_79 rfl ?_
          refine X_iconst (v := 1) dX11_last_81 (by decide) ?_
          refine X_iadd (v := nI (((F_X11_nextWell tu dx.toNatClampNeg s25_1 s25_2 s25_5 np res kd sf st co).toNatClampNeg) + 1)) dX11_last_82 (nI_add ((F_X11_nextWell tu dx.toNatClampNeg s25_1 s25_2 s25_5 np res kd sf st co).toNatClampNeg) 1) ?_
          refine X_istore_n (lv' := [(2, ex_i (nI (((F_X11_nextWell tu dx.toNatClampNeg s25_1 s25_2 s25_5 np res kd sf st co).toNatClampNeg) + 1))), (4, ex_i (nI (F_X11_nextWell tu dx.toNatClampNeg s25_1 s25_2 s25_5 np res kd sf st co).toNatClampNeg)), (3, ex_i (nI k25)), (0, ex_r x), (1, ex_i (nI dx.toNatClampNeg))]) dX11_last_83 rfl (Nat.le_of_ble_eq_true rfl) rfl ?_
          refine X_iinc (v := nI (k25 + 1)) (j := 2) (lv' := [(3, ex_i (nI (k25 + 1))), (2, ex_i (nI (((F_X11_nextWell tu dx.toNatClampNeg s25_1 s25_2 s25_5 np res kd sf st co).toNatClampNeg) + 1))), (4, ex_i (nI (F_X11_nextWell tu dx.toNatClampNeg s25_1 s25_2 s25_5 np res kd sf st co).toNatClampNeg)), (0, ex_r x), (1, ex_i (nI dx.toNatClampNeg))]) dX11_last_84 rfl (nI_add k25 1) (Nat.le_of_ble_eq_true rfl) rfl ?_
          refine X_goto (tgt := 25) dX11_last_87 (by decide) ?_
          try dsimp only at hL25
          refine X_re (cs' := [(tl, ex_o 8 [ex_i w_6.1, ex_i w_5.1, ex_i w_5.2.1, ex_r tlf, ex_r tla, ex_r tlh]), (tlf, ex_a 1 6 w_6.2.1), (tla, ex_a 1 6 w_5.2.2.2.1), (tlh, ex_a 1 6 w_6.2.2.1), (n, ex_o 8 [ex_i dy, ex_i sr, ex_i il, ex_r nf, ex_r na, ex_r nh]), (nf, ex_a 1 6 fu), (na, ex_a 1 6 ae), (nh, ex_a 1 6 hu), (x, ex_o 11 [ex_r t, ex_r rd, ex_r c, ex_r kq, ex_r w, ex_r v, ex_r n, ex_r tl, ex_r pa, ex_i (nI pnx), ex_i (nI pln), ex_r ma, ex_r hs, ex_r pp, ex_r pt, ex_r pg, ex_r kr]), (c, ex_o 0 [ex_r c0, ex_r c1, ex_r c2, ex_r c3, ex_r c4, ex_r c5, ex_r c6, ex_r c7, ex_r c8, ex_r c9, ex_r c10, ex_r c11, ex_r c12, ex_i (nI np), ex_i (nI nd), ex_i sto, ex_i res, ex_r c17, ex_r c18, ex_r c19]), (c1, ex_a 1 6 kd), (c2, ex_a 1 6 hg), (c5, ex_a 1 6 sf), (c6, ex_a 1 6 st), (c11, ex_a 1 5 co), (c17, ex_a 1 360 gf)]) [0, 1, 5, 2, 12, 13, 14, 15, 11, 3, 6, 4, 7, 8, 9, 10] (show List.Perm [0, 1, 5, 2, 12, 13, 14, 15, 11, 3, 6, 4, 7, 8, 9, 10] (List.range 16) from by decide) rfl ?_
          refine X_lv (lv' := [(3, ex_i (nI (k25 + 1))), (2, ex_i (nI (((F_X11_nextWell tu dx.toNatClampNeg s25_1 s25_2 s25_5 np res kd sf st co).toNatClampNeg) + 1))), (0, ex_r x), (1, ex_i (nI dx.toNatClampNeg))]) [0, 1, 3, 4] rfl ?_
          exact ihc25 (k25 + 1) (((F_X11_nextWell tu dx.toNatClampNeg s25_1 s25_2 s25_5 np res kd sf st co).toNatClampNeg) + 1) w_6.1 w_5.1 w_5.2.1 w_6.2.1 w_5.2.2.2.1 w_6.2.2.1 ⟨hL25, (show (k25 + 1) ≤ 60 by omega), (show (((F_X11_nextWell tu dx.toNatClampNeg s25_1 s25_2 s25_5 np res kd sf st co).toNatClampNeg) + 1) ≤ 6 by omega)⟩ (show 60 - (k25 + 1) < 60 - k25 by omega)
        · have hL25 := hL25.trans (if_neg c_7)
          refine X_iload_n (j := 1) dX11_last_77 rfl rfl ?_
          try dsimp only at hL25
          refine X_re (cs' := [(x, ex_o 11 [ex_r t, ex_r rd, ex_r c, ex_r kq, ex_r w, ex_r v, ex_r n, ex_r tl, ex_r pa, ex_i (nI pnx), ex_i (nI pln), ex_r ma, ex_r hs, ex_r pp, ex_r pt, ex_r pg, ex_r kr]), (tl, ex_o 8 [ex_i w_6.1, ex_i w_5.1, ex_i w_5.2.1, ex_r tlf, ex_r tla, ex_r tlh]), (tlf, ex_a 1 6 w_6.2.1), (tla, ex_a 1 6 w_5.2.2.2.1), (tlh, ex_a 1 6 w_6.2.2.1), (n, ex_o 8 [ex_i dy, ex_i sr, ex_i il, ex_r nf, ex_r na, ex_r nh]), (nf, ex_a 1 6 fu), (na, ex_a 1 6 ae), (nh, ex_a 1 6 hu), (c, ex_o 0 [ex_r c0, ex_r c1, ex_r c2, ex_r c3, ex_r c4, ex_r c5, ex_r c6, ex_r c7, ex_r c8, ex_r c9, ex_r c10, ex_r c11, ex_r c12, ex_i (nI np), ex_i (nI nd), ex_i sto, ex_i res, ex_r c17, ex_r c18, ex_r c19]), (c1, ex_a 1 6 kd), (c2, ex_a 1 6 hg), (c5, ex_a 1 6 sf), (c6, ex_a 1 6 st), (c11, ex_a 1 5 co), (c17, ex_a 1 360 gf)]) [11, 0, 1, 5, 2, 12, 13, 14, 15, 3, 6, 4, 7, 8, 9, 10] (show List.Perm [11, 0, 1, 5, 2, 12, 13, 14, 15, 3, 6, 4, 7, 8, 9, 10] (List.range 16) from by decide) rfl ?_
          exact X_iret ex_nI rfl dX11_last_78 (by (repeat refine ex_kc ?_) <;> rfl) (by subst hL25; exact ⟨rfl, rfl⟩)
      · have hL25 := hL25.trans (if_pos c_4)
        refine X_iload_n (j := 1) dX11_last_45 rfl rfl ?_
        try dsimp only at hL25
        refine X_re (cs' := [(x, ex_o 11 [ex_r t, ex_r rd, ex_r c, ex_r kq, ex_r w, ex_r v, ex_r n, ex_r tl, ex_r pa, ex_i (nI pnx), ex_i (nI pln), ex_r ma, ex_r hs, ex_r pp, ex_r pt, ex_r pg, ex_r kr]), (tl, ex_o 8 [ex_i s25_1, ex_i s25_2, ex_i s25_3, ex_r tlf, ex_r tla, ex_r tlh]), (tlf, ex_a 1 6 s25_4), (tla, ex_a 1 6 s25_5), (tlh, ex_a 1 6 s25_6), (n, ex_o 8 [ex_i dy, ex_i sr, ex_i il, ex_r nf, ex_r na, ex_r nh]), (nf, ex_a 1 6 fu), (na, ex_a 1 6 ae), (nh, ex_a 1 6 hu), (c, ex_o 0 [ex_r c0, ex_r c1, ex_r c2, ex_r c3, ex_r c4, ex_r c5, ex_r c6, ex_r c7, ex_r c8, ex_r c9, ex_r c10, ex_r c11, ex_r c12, ex_i (nI np), ex_i (nI nd), ex_i sto, ex_i res, ex_r c17, ex_r c18, ex_r c19]), (c1, ex_a 1 6 kd), (c2, ex_a 1 6 hg), (c5, ex_a 1 6 sf), (c6, ex_a 1 6 st), (c11, ex_a 1 5 co), (c17, ex_a 1 360 gf)]) [0, 1, 8, 2, 9, 10, 11, 12, 13, 3, 4, 14, 5, 6, 7, 15] (show List.Perm [0, 1, 8, 2, 9, 10, 11, 12, 13, 3, 4, 14, 5, 6, 7, 15] (List.range 16) from by decide) rfl ?_
        exact X_iret ex_nI rfl dX11_last_46 (by (repeat refine ex_kc ?_) <;> rfl) (by subst hL25; exact ⟨rfl, rfl⟩)
  · have hV := hV.trans (if_pos c_1)
    refine X_iconst (v := (-1)) dX11_last_8 (by decide) ?_
    try dsimp only at hV
    refine X_re (cs' := [(x, ex_o 11 [ex_r t, ex_r rd, ex_r c, ex_r kq, ex_r w, ex_r v, ex_r n, ex_r tl, ex_r pa, ex_i (nI pnx), ex_i (nI pln), ex_r ma, ex_r hs, ex_r pp, ex_r pt, ex_r pg, ex_r kr]), (tl, ex_o 8 [ex_i rdy, ex_i rsr, ex_i ril, ex_r tlf, ex_r tla, ex_r tlh]), (tlf, ex_a 1 6 rfu), (tla, ex_a 1 6 rae), (tlh, ex_a 1 6 rhu), (n, ex_o 8 [ex_i dy, ex_i sr, ex_i il, ex_r nf, ex_r na, ex_r nh]), (nf, ex_a 1 6 fu), (na, ex_a 1 6 ae), (nh, ex_a 1 6 hu), (c, ex_o 0 [ex_r c0, ex_r c1, ex_r c2, ex_r c3, ex_r c4, ex_r c5, ex_r c6, ex_r c7, ex_r c8, ex_r c9, ex_r c10, ex_r c11, ex_r c12, ex_i (nI np), ex_i (nI nd), ex_i sto, ex_i res, ex_r c17, ex_r c18, ex_r c19]), (c1, ex_a 1 6 kd), (c2, ex_a 1 6 hg), (c5, ex_a 1 6 sf), (c6, ex_a 1 6 st), (c11, ex_a 1 5 co), (c17, ex_a 1 360 gf)]) [0, 2, 3, 4, 5, 6, 7, 8, 9, 1, 10, 11, 12, 13, 14, 15] (show List.Perm [0, 2, 3, 4, 5, 6, 7, 8, 9, 1, 10, 11, 12, 13, 14, 15] (List.range 16) from by decide) rfl ?_
    exact X_iret ex_nI rfl dX11_last_9 (by (repeat refine ex_kc ?_) <;> rfl) (by subst hV; exact ⟨rfl, rfl⟩)

def F_X11_tell (px : Int32) (fz : Int32) (np : Nat) (to : Nat → Int32) : (Nat → Int32) × Int32 := (if (F_X11_isPerson px np) = 0 then (to, 0) else (if fz < 0 then (to, 0) else (if fz ≤ 99 then (upd to px.toNatClampNeg fz, 1) else (to, 0))))
set_option maxHeartbeats 4000000 in
set_option maxRecDepth 100000 in
theorem e_X11_tell (l : Launch) (x : Nat) (px : Int32) (fz : Int32) (t : Nat) (rd : Nat) (c : Nat) (kq : Nat) (w : Nat) (v : Nat) (n : Nat) (tl : Nat) (pa : Nat) (pnx : Nat) (pln : Nat) (ma : Nat) (hs : Nat) (pp : Nat) (pt : Nat) (pg : Nat) (kr : Nat) (c0 : Nat) (c1 : Nat) (c2 : Nat) (c3 : Nat) (c4 : Nat) (c5 : Nat) (c6 : Nat) (c7 : Nat) (c8 : Nat) (c9 : Nat) (c10 : Nat) (c11 : Nat) (c12 : Nat) (np : Nat) (nd : Nat) (sto : Int32) (res : Int32) (c17 : Nat) (c18 : Nat) (c19 : Nat) (h0 : Nat) (hm : Int32) (hia : Int32) (hso : Int32) (h4 : Nat) (to : Nat → Int32) (hnp : np ≤ 6) : ex_M l yX11_tell cX11_tell 3 (some .boolean) 1 21 [ex_r x, ex_i px, ex_i fz] [(x, ex_o 11 [ex_r t, ex_r rd, ex_r c, ex_r kq, ex_r w, ex_r v, ex_r n, ex_r tl, ex_r pa, ex_i (nI pnx), ex_i (nI pln), ex_r ma, ex_r hs, ex_r pp, ex_r pt, ex_r pg, ex_r kr]), (c, ex_o 0 [ex_r c0, ex_r c1, ex_r c2, ex_r c3, ex_r c4, ex_r c5, ex_r c6, ex_r c7, ex_r c8, ex_r c9, ex_r c10, ex_r c11, ex_r c12, ex_i (nI np), ex_i (nI nd), ex_i sto, ex_i res, ex_r c17, ex_r c18, ex_r c19]), (hs, ex_o 2 [ex_r h0, ex_i hm, ex_i hia, ex_i hso, ex_r h4]), (h0, ex_a 1 6 to)] (fun zcs zr => zcs = [(x, ex_o 11 [ex_r t, ex_r rd, ex_r c, ex_r kq, ex_r w, ex_r v, ex_r n, ex_r tl, ex_r pa, ex_i (nI pnx), ex_i (nI pln), ex_r ma, ex_r hs, ex_r pp, ex_r pt, ex_r pg, ex_r kr]), (c, ex_o 0 [ex_r c0, ex_r c1, ex_r c2, ex_r c3, ex_r c4, ex_r c5, ex_r c6, ex_r c7, ex_r c8, ex_r c9, ex_r c10, ex_r c11, ex_r c12, ex_i (nI np), ex_i (nI nd), ex_i sto, ex_i res, ex_r c17, ex_r c18, ex_r c19]), (hs, ex_o 2 [ex_r h0, ex_i hm, ex_i hia, ex_i hso, ex_r h4]), (h0, ex_a 1 6 ((F_X11_tell px fz np to).1))] ∧ zr = some (ex_i (F_X11_tell px fz np to).2)) := by
  refine X_meth (by decide) (Nat.le_of_ble_eq_true rfl) ?_
  generalize hV : F_X11_tell px fz np to = V0
  have hV := hV.symm
  unfold F_X11_tell at hV
  try dsimp only at hV
  refine X_aload_n (j := 0) dX11_tell_0 rfl rfl ?_
  refine X_iload_n (j := 1) dX11_tell_1 rfl rfl ?_
  refine X_callV (j0 := 0) (rest := [(hs, ex_o 2 [ex_r h0, ex_i hm, ex_i hia, ex_i hso, ex_r h4]), (h0, ex_a 1 6 to)]) (stk := []) co_X11_124 rfl ⟨(Nat.le_of_ble_eq_true rfl), (Nat.le_of_ble_eq_true rfl)⟩ (e_X11_isPerson l x px t rd c kq w v n tl pa pnx pln ma hs pp pt pg kr c0 c1 c2 c3 c4 c5 c6 c7 c8 c9 c10 c11 c12 np nd sto res c17 c18 c19) dX11_tell_2 [0, 1, 2, 3] (show List.Perm [0, 1, 2, 3] (List.range 4) from by decide) rfl rfl rfl rfl (Nat.le_of_ble_eq_true rfl) (fun zc1 zr hq hk => ?_)
  obtain ⟨rfl, rfl⟩ := hq
  refine X_if_eq (tgt := 18) dX11_tell_5 (by decide) (fun c_1 => ?_) (fun c_1 => ?_)
  · have hV := hV.trans (if_pos c_1)
    refine X_iconst (v := 0) dX11_tell_18 (by decide) ?_
    try dsimp only at hV
    exact X_iret ex_nZ rfl dX11_tell_19 (by (repeat refine ex_kc ?_) <;> rfl) (by subst hV; exact ⟨rfl, rfl⟩)
  · have hV := hV.trans (if_neg c_1)
    refine X_iload_n (j := 2) dX11_tell_8 rfl rfl ?_
    refine X_if_lt (tgt := 18) dX11_tell_9 (by decide) (fun c_2 => ?_) (fun c_2 => ?_)
    · have hV := hV.trans (if_pos c_2)
      refine X_iconst (v := 0) dX11_tell_18 (by decide) ?_
      try dsimp only at hV
      exact X_iret ex_nZ rfl dX11_tell_19 (by (repeat refine ex_kc ?_) <;> rfl) (by subst hV; exact ⟨rfl, rfl⟩)
    · have hV := hV.trans (if_neg c_2)
      refine X_iload_n (j := 2) dX11_tell_12 rfl rfl ?_
      refine X_bipush (v := 99) dX11_tell_13 (by decide) ?_
      refine X_icmp_le (tgt := 20) dX11_tell_15 (by decide) (fun c_3 => ?_) (fun c_3 => ?_)
      · have hV := hV.trans (if_pos c_3)
        have hz1 := isPe_of c_1 hnp
        have hx1 := hz1.1
        have hl1 := hz1.2
        refine X_eq (cs' := [(x, ex_o 11 [ex_r t, ex_r rd, ex_r c, ex_r kq, ex_r w, ex_r v, ex_r n, ex_r tl, ex_r pa, ex_i (nI pnx), ex_i (nI pln), ex_r ma, ex_r hs, ex_r pp, ex_r pt, ex_r pg, ex_r kr]), (c, ex_o 0 [ex_r c0, ex_r c1, ex_r c2, ex_r c3, ex_r c4, ex_r c5, ex_r c6, ex_r c7, ex_r c8, ex_r c9, ex_r c10, ex_r c11, ex_r c12, ex_i (nI np), ex_i (nI nd), ex_i sto, ex_i res, ex_r c17, ex_r c18, ex_r c19]), (hs, ex_o 2 [ex_r h0, ex_i hm, ex_i hia, ex_i hso, ex_r h4]), (h0, ex_a 1 6 to)]) (lv' := [(0, ex_r x), (1, ex_i (nI px.toNatClampNeg)), (2, ex_i fz)]) rfl (by rw [← hx1] <;> rfl) ?_
        refine X_aload_n (j := 0) dX11_tell_20 rfl rfl ?_
        refine X_get (j := 0) fo_X11_73 dX11_tell_21 rfl rfl ?_
        refine X_get (j := 2) fo_X11_233 dX11_tell_24 rfl rfl ?_
        refine X_iload_n (j := 1) dX11_tell_27 rfl rfl ?_
        refine X_iload_n (j := 2) dX11_tell_28 rfl rfl ?_
        refine X_iast (j := 3) (g := upd to px.toNatClampNeg fz) (cs' := [(x, ex_o 11 [ex_r t, ex_r rd, ex_r c, ex_r kq, ex_r w, ex_r v, ex_r n, ex_r tl, ex_r pa, ex_i (nI pnx), ex_i (nI pln), ex_r ma, ex_r hs, ex_r pp, ex_r pt, ex_r pg, ex_r kr]), (c, ex_o 0 [ex_r c0, ex_r c1, ex_r c2, ex_r c3, ex_r c4, ex_r c5, ex_r c6, ex_r c7, ex_r c8, ex_r c9, ex_r c10, ex_r c11, ex_r c12, ex_i (nI np), ex_i (nI nd), ex_i sto, ex_i res, ex_r c17, ex_r c18, ex_r c19]), (hs, ex_o 2 [ex_r h0, ex_i hm, ex_i hia, ex_i hso, ex_r h4]), (h0, ex_a 1 6 (upd to px.toNatClampNeg fz))]) dX11_tell_29 rfl (vp_in_nI (show px.toNatClampNeg < 6 by omega) (by decide)) (by rw [nI_clamp (by omega)]) rfl ?_
        refine X_iconst (v := 1) dX11_tell_30 (by decide) ?_
        try dsimp only at hV
        exact X_iret ex_nZ rfl dX11_tell_31 (by (repeat refine ex_kc ?_) <;> rfl) (by subst hV; exact ⟨rfl, rfl⟩)
      · have hV := hV.trans (if_neg c_3)
        refine X_iconst (v := 0) dX11_tell_18 (by decide) ?_
        try dsimp only at hV
        exact X_iret ex_nZ rfl dX11_tell_19 (by (repeat refine ex_kc ?_) <;> rfl) (by subst hV; exact ⟨rfl, rfl⟩)

def F_X11_sets (dx : Int32) (wt : Int32) (hm : Int32) (hia : Int32) (hso : Int32) (to : Nat → Int32) (sw : Nat → Int32) (fu : Nat → Int32) (np : Nat) (nd : Nat) (ga : Nat → Int32) : Int32 × Int32 × Int32 × (Nat → Int32) × Int32 := (if (F_X11_isDish dx nd) = 0 then (hm, hia, hso, sw, (-1)) else (if wt < 0 then (hm, hia, hso, sw, (-1)) else (if wt ≤ 3 then ((fun (w_4 : Int32 × Int32 × Int32 × (Nat → Int32)) => (if wt = 0 then (w_4.1, w_4.2.1, w_4.2.2.1, w_4.2.2.2, w_4.1) else (if w_4.1 = 0 then (w_4.1, w_4.2.1, w_4.2.2.1, w_4.2.2.2, (-1)) else (if wt = 3 then (w_4.1, w_4.2.1, w_4.2.2.1, w_4.2.2.2, F_X2_whomToAsk dx.toNatClampNeg w_4.1 to w_4.2.2.2 fu np ga) else (if wt = 1 then (w_4.1, w_4.2.1, w_4.2.2.1, w_4.2.2.2, w_4.2.1) else (w_4.1, w_4.2.1, w_4.2.2.1, w_4.2.2.2, w_4.2.2.1)))))) (F_X2_weighs dx.toNatClampNeg to sw fu np ga)) else (hm, hia, hso, sw, (-1)))))
set_option maxHeartbeats 4000000 in
set_option maxRecDepth 100000 in
theorem e_X11_sets (l : Launch) (x : Nat) (dx : Int32) (wt : Int32) (t : Nat) (rd : Nat) (c : Nat) (kq : Nat) (w : Nat) (v : Nat) (n : Nat) (tl : Nat) (pa : Nat) (pnx : Nat) (pln : Nat) (ma : Nat) (hs : Nat) (pp : Nat) (pt : Nat) (pg : Nat) (kr : Nat) (h0 : Nat) (hm : Int32) (hia : Int32) (hso : Int32) (h4 : Nat) (to : Nat → Int32) (sw : Nat → Int32) (dy : Int32) (sr : Int32) (il : Int32) (nf : Nat) (na : Nat) (nh : Nat) (fu : Nat → Int32) (c0 : Nat) (c1 : Nat) (c2 : Nat) (c3 : Nat) (c4 : Nat) (c5 : Nat) (c6 : Nat) (c7 : Nat) (c8 : Nat) (c9 : Nat) (c10 : Nat) (c11 : Nat) (c12 : Nat) (np : Nat) (nd : Nat) (sto : Int32) (res : Int32) (c17 : Nat) (c18 : Nat) (c19 : Nat) (ga : Nat → Int32) (hnp : np ≤ 6) (hnd : nd ≤ 5) : ex_M l yX11_sets cX11_sets 3 (some .int) 4 115 [ex_r x, ex_i dx, ex_i wt] [(x, ex_o 11 [ex_r t, ex_r rd, ex_r c, ex_r kq, ex_r w, ex_r v, ex_r n, ex_r tl, ex_r pa, ex_i (nI pnx), ex_i (nI pln), ex_r ma, ex_r hs, ex_r pp, ex_r pt, ex_r pg, ex_r kr]), (hs, ex_o 2 [ex_r h0, ex_i hm, ex_i hia, ex_i hso, ex_r h4]), (h0, ex_a 1 6 to), (h4, ex_a 1 6 sw), (n, ex_o 8 [ex_i dy, ex_i sr, ex_i il, ex_r nf, ex_r na, ex_r nh]), (nf, ex_a 1 6 fu), (c, ex_o 0 [ex_r c0, ex_r c1, ex_r c2, ex_r c3, ex_r c4, ex_r c5, ex_r c6, ex_r c7, ex_r c8, ex_r c9, ex_r c10, ex_r c11, ex_r c12, ex_i (nI np), ex_i (nI nd), ex_i sto, ex_i res, ex_r c17, ex_r c18, ex_r c19]), (c18, ex_a 1 30 ga)] (fun zcs zr => zcs = [(x, ex_o 11 [ex_r t, ex_r rd, ex_r c, ex_r kq, ex_r w, ex_r v, ex_r n, ex_r tl, ex_r pa, ex_i (nI pnx), ex_i (nI pln), ex_r ma, ex_r hs, ex_r pp, ex_r pt, ex_r pg, ex_r kr]), (hs, ex_o 2 [ex_r h0, ex_i ((F_X11_sets dx wt hm hia hso to sw fu np nd ga).1), ex_i ((F_X11_sets dx wt hm hia hso to sw fu np nd ga).2.1), ex_i ((F_X11_sets dx wt hm hia hso to sw fu np nd ga).2.2.1), ex_r h4]), (h0, ex_a 1 6 to), (h4, ex_a 1 6 ((F_X11_sets dx wt hm hia hso to sw fu np nd ga).2.2.2.1)), (n, ex_o 8 [ex_i dy, ex_i sr, ex_i il, ex_r nf, ex_r na, ex_r nh]), (nf, ex_a 1 6 fu), (c, ex_o 0 [ex_r c0, ex_r c1, ex_r c2, ex_r c3, ex_r c4, ex_r c5, ex_r c6, ex_r c7, ex_r c8, ex_r c9, ex_r c10, ex_r c11, ex_r c12, ex_i (nI np), ex_i (nI nd), ex_i sto, ex_i res, ex_r c17, ex_r c18, ex_r c19]), (c18, ex_a 1 30 ga)] ∧ zr = some (ex_i (F_X11_sets dx wt hm hia hso to sw fu np nd ga).2.2.2.2)) := by
  refine X_meth (by decide) (Nat.le_of_ble_eq_true rfl) ?_
  generalize hV : F_X11_sets dx wt hm hia hso to sw fu np nd ga = V0
  have hV := hV.symm
  unfold F_X11_sets at hV
  try dsimp only at hV
  refine X_aload_n (j := 0) dX11_sets_0 rfl rfl ?_
  refine X_iload_n (j := 1) dX11_sets_1 rfl rfl ?_
  refine X_callV (j0 := 0) (rest := [(hs, ex_o 2 [ex_r h0, ex_i hm, ex_i hia, ex_i hso, ex_r h4]), (h0, ex_a 1 6 to), (h4, ex_a 1 6 sw), (n, ex_o 8 [ex_i dy, ex_i sr, ex_i il, ex_r nf, ex_r na, ex_r nh]), (nf, ex_a 1 6 fu), (c18, ex_a 1 30 ga)]) (stk := []) co_X11_153 rfl ⟨(Nat.le_of_ble_eq_true rfl), (Nat.le_of_ble_eq_true rfl)⟩ (e_X11_isDish l x dx t rd c kq w v n tl pa pnx pln ma hs pp pt pg kr c0 c1 c2 c3 c4 c5 c6 c7 c8 c9 c10 c11 c12 np nd sto res c17 c18 c19) dX11_sets_2 [0, 6, 1, 2, 3, 4, 5, 7] (show List.Perm [0, 6, 1, 2, 3, 4, 5, 7] (List.range 8) from by decide) rfl rfl rfl rfl (Nat.le_of_ble_eq_true rfl) (fun zc1 zr hq hk => ?_)
  obtain ⟨rfl, rfl⟩ := hq
  refine X_if_eq (tgt := 17) dX11_sets_5 (by decide) (fun c_1 => ?_) (fun c_1 => ?_)
  · have hV := hV.trans (if_pos c_1)
    refine X_iconst (v := (-1)) dX11_sets_17 (by decide) ?_
    try dsimp only at hV
    refine X_re (cs' := [(x, ex_o 11 [ex_r t, ex_r rd, ex_r c, ex_r kq, ex_r w, ex_r v, ex_r n, ex_r tl, ex_r pa, ex_i (nI pnx), ex_i (nI pln), ex_r ma, ex_r hs, ex_r pp, ex_r pt, ex_r pg, ex_r kr]), (hs, ex_o 2 [ex_r h0, ex_i hm, ex_i hia, ex_i hso, ex_r h4]), (h0, ex_a 1 6 to), (h4, ex_a 1 6 sw), (n, ex_o 8 [ex_i dy, ex_i sr, ex_i il, ex_r nf, ex_r na, ex_r nh]), (nf, ex_a 1 6 fu), (c, ex_o 0 [ex_r c0, ex_r c1, ex_r c2, ex_r c3, ex_r c4, ex_r c5, ex_r c6, ex_r c7, ex_r c8, ex_r c9, ex_r c10, ex_r c11, ex_r c12, ex_i (nI np), ex_i (nI nd), ex_i sto, ex_i res, ex_r c17, ex_r c18, ex_r c19]), (c18, ex_a 1 30 ga)]) [0, 2, 3, 4, 5, 6, 1, 7] (show List.Perm [0, 2, 3, 4, 5, 6, 1, 7] (List.range 8) from by decide) rfl ?_
    exact X_iret ex_nI rfl dX11_sets_18 (by (repeat refine ex_kc ?_) <;> rfl) (by subst hV; exact ⟨rfl, rfl⟩)
  · have hV := hV.trans (if_neg c_1)
    refine X_iload_n (j := 2) dX11_sets_8 rfl rfl ?_
    refine X_if_lt (tgt := 17) dX11_sets_9 (by decide) (fun c_2 => ?_) (fun c_2 => ?_)
    · have hV := hV.trans (if_pos c_2)
      refine X_iconst (v := (-1)) dX11_sets_17 (by decide) ?_
      try dsimp only at hV
      refine X_re (cs' := [(x, ex_o 11 [ex_r t, ex_r rd, ex_r c, ex_r kq, ex_r w, ex_r v, ex_r n, ex_r tl, ex_r pa, ex_i (nI pnx), ex_i (nI pln), ex_r ma, ex_r hs, ex_r pp, ex_r pt, ex_r pg, ex_r kr]), (hs, ex_o 2 [ex_r h0, ex_i hm, ex_i hia, ex_i hso, ex_r h4]), (h0, ex_a 1 6 to), (h4, ex_a 1 6 sw), (n, ex_o 8 [ex_i dy, ex_i sr, ex_i il, ex_r nf, ex_r na, ex_r nh]), (nf, ex_a 1 6 fu), (c, ex_o 0 [ex_r c0, ex_r c1, ex_r c2, ex_r c3, ex_r c4, ex_r c5, ex_r c6, ex_r c7, ex_r c8, ex_r c9, ex_r c10, ex_r c11, ex_r c12, ex_i (nI np), ex_i (nI nd), ex_i sto, ex_i res, ex_r c17, ex_r c18, ex_r c19]), (c18, ex_a 1 30 ga)]) [0, 2, 3, 4, 5, 6, 1, 7] (show List.Perm [0, 2, 3, 4, 5, 6, 1, 7] (List.range 8) from by decide) rfl ?_
      exact X_iret ex_nI rfl dX11_sets_18 (by (repeat refine ex_kc ?_) <;> rfl) (by subst hV; exact ⟨rfl, rfl⟩)
    · have hV := hV.trans (if_neg c_2)
      refine X_iload_n (j := 2) dX11_sets_12 rfl rfl ?_
      refine X_iconst (v := 3) dX11_sets_13 (by decide) ?_
      refine X_icmp_le (tgt := 19) dX11_sets_14 (by decide) (fun c_3 => ?_) (fun c_3 => ?_)
      · have hV := hV.trans (if_pos c_3)
        have hz1 := isDi_of c_1 hnd
        have hx1 := hz1.1
        have hl1 := hz1.2
        refine X_eq (cs' := [(x, ex_o 11 [ex_r t, ex_r rd, ex_r c, ex_r kq, ex_r w, ex_r v, ex_r n, ex_r tl, ex_r pa, ex_i (nI pnx), ex_i (nI pln), ex_r ma, ex_r hs, ex_r pp, ex_r pt, ex_r pg, ex_r kr]), (c, ex_o 0 [ex_r c0, ex_r c1, ex_r c2, ex_r c3, ex_r c4, ex_r c5, ex_r c6, ex_r c7, ex_r c8, ex_r c9, ex_r c10, ex_r c11, ex_r c12, ex_i (nI np), ex_i (nI nd), ex_i sto, ex_i res, ex_r c17, ex_r c18, ex_r c19]), (hs, ex_o 2 [ex_r h0, ex_i hm, ex_i hia, ex_i hso, ex_r h4]), (h0, ex_a 1 6 to), (h4, ex_a 1 6 sw), (n, ex_o 8 [ex_i dy, ex_i sr, ex_i il, ex_r nf, ex_r na, ex_r nh]), (nf, ex_a 1 6 fu), (c18, ex_a 1 30 ga)]) (lv' := [(0, ex_r x), (1, ex_i (nI dx.toNatClampNeg)), (2, ex_i wt)]) rfl (by rw [← hx1] <;> rfl) ?_
        refine X_aload_n (j := 0) dX11_sets_19 rfl rfl ?_
        refine X_get (j := 0) fo_X11_73 dX11_sets_20 rfl rfl ?_
        refine X_aload_n (j := 0) dX11_sets_23 rfl rfl ?_
        refine X_get (j := 0) fo_X11_26 dX11_sets_24 rfl rfl ?_
        refine X_aload_n (j := 0) dX11_sets_27 rfl rfl ?_
        refine X_get (j := 0) fo_X11_46 dX11_sets_28 rfl rfl ?_
        refine X_iload_n (j := 1) dX11_sets_31 rfl rfl ?_
        refine X_callV (j0 := 0) (rest := [(x, ex_o 11 [ex_r t, ex_r rd, ex_r c, ex_r kq, ex_r w, ex_r v, ex_r n, ex_r tl, ex_r pa, ex_i (nI pnx), ex_i (nI pln), ex_r ma, ex_r hs, ex_r pp, ex_r pt, ex_r pg, ex_r kr])]) (stk := []) co_X11_236 rfl ⟨(Nat.le_of_ble_eq_true rfl), (Nat.le_of_ble_eq_true rfl)⟩ (e_X2_weighs l hs c n dx.toNatClampNeg h0 hm hia hso h4 to sw dy sr il nf na nh fu c0 c1 c2 c3 c4 c5 c6 c7 c8 c9 c10 c11 c12 np nd sto res c17 c18 c19 ga (by first | assumption | omega) (by first | assumption | omega)) dX11_sets_32 [2, 3, 4, 5, 6, 1, 7, 0] (show List.Perm [2, 3, 4, 5, 6, 1, 7, 0] (List.range 8) from by decide) rfl rfl rfl rfl (Nat.le_of_ble_eq_true rfl) (fun zc1 zr hq hk => ?_)
        obtain ⟨rfl, rfl⟩ := hq
        try dsimp only at hV
        generalize hq_w_4 : F_X2_weighs dx.toNatClampNeg to sw fu np ga = w_4 at hV ⊢
        try dsimp only at hV
        refine X_iload_n (j := 2) dX11_sets_35 rfl rfl ?_
        refine X_if_ne (tgt := 47) dX11_sets_36 (by decide) (fun c_5 => ?_) (fun c_5 => ?_)
        · have hV := hV.trans (if_neg c_5)
          refine X_aload_n (j := 0) dX11_sets_47 rfl rfl ?_
          refine X_get (j := 7) fo_X11_73 dX11_sets_48 rfl rfl ?_
          refine X_get (j := 0) fo_X11_240 dX11_sets_51 rfl rfl ?_
          refine X_if_ne (tgt := 59) dX11_sets_54 (by decide) (fun c_6 => ?_) (fun c_6 => ?_)
          · have hV := hV.trans (if_neg c_6)
            refine X_iload_n (j := 2) dX11_sets_59 rfl rfl ?_
            refine X_iconst (v := 3) dX11_sets_60 (by decide) ?_
            refine X_icmp_ne (tgt := 81) dX11_sets_61 (by decide) (fun c_7 => ?_) (fun c_7 => ?_)
            · have hV := hV.trans (if_neg c_7)
              refine X_iload_n (j := 2) dX11_sets_81 rfl rfl ?_
              refine X_iconst (v := 1) dX11_sets_82 (by decide) ?_
              refine X_icmp_ne (tgt := 96) dX11_sets_83 (by decide) (fun c_8 => ?_) (fun c_8 => ?_)
              · have hV := hV.trans (if_neg c_8)
                refine X_aload_n (j := 0) dX11_sets_96 rfl rfl ?_
                refine X_get (j := 7) fo_X11_73 dX11_sets_97 rfl rfl ?_
                refine X_get (j := 0) fo_X11_250 dX11_sets_100 rfl rfl ?_
                try dsimp only at hV
                refine X_re (cs' := [(x, ex_o 11 [ex_r t, ex_r rd, ex_r c, ex_r kq, ex_r w, ex_r v, ex_r n, ex_r tl, ex_r pa, ex_i (nI pnx), ex_i (nI pln), ex_r ma, ex_r hs, ex_r pp, ex_r pt, ex_r pg, ex_r kr]), (hs, ex_o 2 [ex_r h0, ex_i w_4.1, ex_i w_4.2.1, ex_i w_4.2.2.1, ex_r h4]), (h0, ex_a 1 6 to), (h4, ex_a 1 6 w_4.2.2.2), (n, ex_o 8 [ex_i dy, ex_i sr, ex_i il, ex_r nf, ex_r na, ex_r nh]), (nf, ex_a 1 6 fu), (c, ex_o 0 [ex_r c0, ex_r c1, ex_r c2, ex_r c3, ex_r c4, ex_r c5, ex_r c6, ex_r c7, ex_r c8, ex_r c9, ex_r c10, ex_r c11, ex_r c12, ex_i (nI np), ex_i (nI nd), ex_i sto, ex_i res, ex_r c17, ex_r c18, ex_r c19]), (c18, ex_a 1 30 ga)]) [7, 0, 1, 2, 3, 4, 5, 6] (show List.Perm [7, 0, 1, 2, 3, 4, 5, 6] (List.range 8) from by decide) rfl ?_
                exact X_iret ex_nI rfl dX11_sets_103 (by (repeat refine ex_kc ?_) <;> rfl) (by subst hV; exact ⟨rfl, rfl⟩)
              · have hV := hV.trans (if_pos c_8)
                refine X_aload_n (j := 0) dX11_sets_86 rfl rfl ?_
                refine X_get (j := 7) fo_X11_73 dX11_sets_87 rfl rfl ?_
                refine X_get (j := 0) fo_X11_247 dX11_sets_90 rfl rfl ?_
                refine X_goto (tgt := 103) dX11_sets_93 (by decide) ?_
                try dsimp only at hV
                refine X_re (cs' := [(x, ex_o 11 [ex_r t, ex_r rd, ex_r c, ex_r kq, ex_r w, ex_r v, ex_r n, ex_r tl, ex_r pa, ex_i (nI pnx), ex_i (nI pln), ex_r ma, ex_r hs, ex_r pp, ex_r pt, ex_r pg, ex_r kr]), (hs, ex_o 2 [ex_r h0, ex_i w_4.1, ex_i w_4.2.1, ex_i w_4.2.2.1, ex_r h4]), (h0, ex_a 1 6 to), (h4, ex_a 1 6 w_4.2.2.2), (n, ex_o 8 [ex_i dy, ex_i sr, ex_i il, ex_r nf, ex_r na, ex_r nh]), (nf, ex_a 1 6 fu), (c, ex_o 0 [ex_r c0, ex_r c1, ex_r c2, ex_r c3, ex_r c4, ex_r c5, ex_r c6, ex_r c7, ex_r c8, ex_r c9, ex_r c10, ex_r c11, ex_r c12, ex_i (nI np), ex_i (nI nd), ex_i sto, ex_i res, ex_r c17, ex_r c18, ex_r c19]), (c18, ex_a 1 30 ga)]) [7, 0, 1, 2, 3, 4, 5, 6] (show List.Perm [7, 0, 1, 2, 3, 4, 5, 6] (List.range 8) from by decide) rfl ?_
                exact X_iret ex_nI rfl dX11_sets_103 (by (repeat refine ex_kc ?_) <;> rfl) (by subst hV; exact ⟨rfl, rfl⟩)
            · have hV := hV.trans (if_pos c_7)
              refine X_aload_n (j := 0) dX11_sets_64 rfl rfl ?_
              refine X_get (j := 7) fo_X11_73 dX11_sets_65 rfl rfl ?_
              refine X_aload_n (j := 0) dX11_sets_68 rfl rfl ?_
              refine X_get (j := 7) fo_X11_26 dX11_sets_69 rfl rfl ?_
              refine X_aload_n (j := 0) dX11_sets_72 rfl rfl ?_
              refine X_get (j := 7) fo_X11_46 dX11_sets_73 rfl rfl ?_
              refine X_iload_n (j := 1) dX11_sets_76 rfl rfl ?_
              refine X_callV (j0 := 0) (rest := [(x, ex_o 11 [ex_r t, ex_r rd, ex_r c, ex_r kq, ex_r w, ex_r v, ex_r n, ex_r tl, ex_r pa, ex_i (nI pnx), ex_i (nI pln), ex_r ma, ex_r hs, ex_r pp, ex_r pt, ex_r pg, ex_r kr])]) (stk := []) co_X11_243 rfl ⟨(Nat.le_of_ble_eq_true rfl), (Nat.le_of_ble_eq_true rfl)⟩ (e_X2_whomToAsk l hs c n dx.toNatClampNeg h0 w_4.1 w_4.2.1 w_4.2.2.1 h4 to w_4.2.2.2 dy sr il nf na nh fu c0 c1 c2 c3 c4 c5 c6 c7 c8 c9 c10 c11 c12 np nd sto res c17 c18 c19 ga (by first | assumption | omega) (by first | assumption | omega)) dX11_sets_77 [0, 1, 2, 3, 4, 5, 6, 7] (show List.Perm [0, 1, 2, 3, 4, 5, 6, 7] (List.range 8) from by decide) rfl rfl rfl rfl (Nat.le_of_ble_eq_true rfl) (fun zc1 zr hq hk => ?_)
              obtain ⟨rfl, rfl⟩ := hq
              try dsimp only at hV
              refine X_re (cs' := [(x, ex_o 11 [ex_r t, ex_r rd, ex_r c, ex_r kq, ex_r w, ex_r v, ex_r n, ex_r tl, ex_r pa, ex_i (nI pnx), ex_i (nI pln), ex_r ma, ex_r hs, ex_r pp, ex_r pt, ex_r pg, ex_r kr]), (hs, ex_o 2 [ex_r h0, ex_i w_4.1, ex_i w_4.2.1, ex_i w_4.2.2.1, ex_r h4]), (h0, ex_a 1 6 to), (h4, ex_a 1 6 w_4.2.2.2), (n, ex_o 8 [ex_i dy, ex_i sr, ex_i il, ex_r nf, ex_r na, ex_r nh]), (nf, ex_a 1 6 fu), (c, ex_o 0 [ex_r c0, ex_r c1, ex_r c2, ex_r c3, ex_r c4, ex_r c5, ex_r c6, ex_r c7, ex_r c8, ex_r c9, ex_r c10, ex_r c11, ex_r c12, ex_i (nI np), ex_i (nI nd), ex_i sto, ex_i res, ex_r c17, ex_r c18, ex_r c19]), (c18, ex_a 1 30 ga)]) [7, 0, 1, 2, 3, 4, 5, 6] (show List.Perm [7, 0, 1, 2, 3, 4, 5, 6] (List.range 8) from by decide) rfl ?_
              exact X_iret ex_nI rfl dX11_sets_80 (by (repeat refine ex_kc ?_) <;> rfl) (by subst hV; exact ⟨rfl, rfl⟩)
          · have hV := hV.trans (if_pos c_6)
            refine X_iconst (v := (-1)) dX11_sets_57 (by decide) ?_
            try dsimp only at hV
            refine X_re (cs' := [(x, ex_o 11 [ex_r t, ex_r rd, ex_r c, ex_r kq, ex_r w, ex_r v, ex_r n, ex_r tl, ex_r pa, ex_i (nI pnx), ex_i (nI pln), ex_r ma, ex_r hs, ex_r pp, ex_r pt, ex_r pg, ex_r kr]), (hs, ex_o 2 [ex_r h0, ex_i w_4.1, ex_i w_4.2.1, ex_i w_4.2.2.1, ex_r h4]), (h0, ex_a 1 6 to), (h4, ex_a 1 6 w_4.2.2.2), (n, ex_o 8 [ex_i dy, ex_i sr, ex_i il, ex_r nf, ex_r na, ex_r nh]), (nf, ex_a 1 6 fu), (c, ex_o 0 [ex_r c0, ex_r c1, ex_r c2, ex_r c3, ex_r c4, ex_r c5, ex_r c6, ex_r c7, ex_r c8, ex_r c9, ex_r c10, ex_r c11, ex_r c12, ex_i (nI np), ex_i (nI nd), ex_i sto, ex_i res, ex_r c17, ex_r c18, ex_r c19]), (c18, ex_a 1 30 ga)]) [7, 0, 1, 2, 3, 4, 5, 6] (show List.Perm [7, 0, 1, 2, 3, 4, 5, 6] (List.range 8) from by decide) rfl ?_
            exact X_iret ex_nI rfl dX11_sets_58 (by (repeat refine ex_kc ?_) <;> rfl) (by subst hV; exact ⟨rfl, rfl⟩)
        · have hV := hV.trans (if_pos c_5)
          refine X_aload_n (j := 0) dX11_sets_39 rfl rfl ?_
          refine X_get (j := 7) fo_X11_73 dX11_sets_40 rfl rfl ?_
          refine X_get (j := 0) fo_X11_240 dX11_sets_43 rfl rfl ?_
          try dsimp only at hV
          refine X_re (cs' := [(x, ex_o 11 [ex_r t, ex_r rd, ex_r c, ex_r kq, ex_r w, ex_r v, ex_r n, ex_r tl, ex_r pa, ex_i (nI pnx), ex_i (nI pln), ex_r ma, ex_r hs, ex_r pp, ex_r pt, ex_r pg, ex_r kr]), (hs, ex_o 2 [ex_r h0, ex_i w_4.1, ex_i w_4.2.1, ex_i w_4.2.2.1, ex_r h4]), (h0, ex_a 1 6 to), (h4, ex_a 1 6 w_4.2.2.2), (n, ex_o 8 [ex_i dy, ex_i sr, ex_i il, ex_r nf, ex_r na, ex_r nh]), (nf, ex_a 1 6 fu), (c, ex_o 0 [ex_r c0, ex_r c1, ex_r c2, ex_r c3, ex_r c4, ex_r c5, ex_r c6, ex_r c7, ex_r c8, ex_r c9, ex_r c10, ex_r c11, ex_r c12, ex_i (nI np), ex_i (nI nd), ex_i sto, ex_i res, ex_r c17, ex_r c18, ex_r c19]), (c18, ex_a 1 30 ga)]) [7, 0, 1, 2, 3, 4, 5, 6] (show List.Perm [7, 0, 1, 2, 3, 4, 5, 6] (List.range 8) from by decide) rfl ?_
          exact X_iret ex_nI rfl dX11_sets_46 (by (repeat refine ex_kc ?_) <;> rfl) (by subst hV; exact ⟨rfl, rfl⟩)
      · have hV := hV.trans (if_neg c_3)
        refine X_iconst (v := (-1)) dX11_sets_17 (by decide) ?_
        try dsimp only at hV
        refine X_re (cs' := [(x, ex_o 11 [ex_r t, ex_r rd, ex_r c, ex_r kq, ex_r w, ex_r v, ex_r n, ex_r tl, ex_r pa, ex_i (nI pnx), ex_i (nI pln), ex_r ma, ex_r hs, ex_r pp, ex_r pt, ex_r pg, ex_r kr]), (hs, ex_o 2 [ex_r h0, ex_i hm, ex_i hia, ex_i hso, ex_r h4]), (h0, ex_a 1 6 to), (h4, ex_a 1 6 sw), (n, ex_o 8 [ex_i dy, ex_i sr, ex_i il, ex_r nf, ex_r na, ex_r nh]), (nf, ex_a 1 6 fu), (c, ex_o 0 [ex_r c0, ex_r c1, ex_r c2, ex_r c3, ex_r c4, ex_r c5, ex_r c6, ex_r c7, ex_r c8, ex_r c9, ex_r c10, ex_r c11, ex_r c12, ex_i (nI np), ex_i (nI nd), ex_i sto, ex_i res, ex_r c17, ex_r c18, ex_r c19]), (c18, ex_a 1 30 ga)]) [0, 2, 3, 4, 5, 6, 1, 7] (show List.Perm [0, 2, 3, 4, 5, 6, 1, 7] (List.range 8) from by decide) rfl ?_
        exact X_iret ex_nI rfl dX11_sets_18 (by (repeat refine ex_kc ?_) <;> rfl) (by subst hV; exact ⟨rfl, rfl⟩)
