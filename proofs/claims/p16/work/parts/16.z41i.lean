def F_X11_sum_L4 (fz : Nat → Int32) : Nat → Nat → Int32 → Int32
  | 0, k4, s4_0 => s4_0
  | zn + 1, k4, s4_0 => F_X11_sum_L4 fz zn (k4 + 1) (s4_0 + (fz k4))
theorem F_X11_sum_L4_z (fz : Nat → Int32) (k4 : Nat) (s4_0 : Int32) : F_X11_sum_L4 fz 0 k4 s4_0 = s4_0 := rfl
theorem F_X11_sum_L4_s (fz : Nat → Int32) (k4 : Nat) (s4_0 : Int32) (zn : Nat) : F_X11_sum_L4 fz (zn + 1) k4 s4_0 = F_X11_sum_L4 fz zn (k4 + 1) (s4_0 + (fz k4)) := rfl
def F_X11_sum (b : Nat) (fz : Nat → Int32) : Int32 := ((fun (v_1 : Int32) => v_1) (F_X11_sum_L4 fz (b - 0) 0 0))
set_option maxHeartbeats 4000000 in
set_option maxRecDepth 100000 in
theorem e_X11_sum (l : Launch) (ar : Nat) (b : Nat) (fz : Nat → Int32) (hb : b ≤ 6) : ex_M l yX11_sum cX11_sum 4 (some .int) 0 0 [ex_r ar, ex_i (nI b)] [(ar, ex_a 1 6 fz)] (fun zcs zr => zcs = [(ar, ex_a 1 6 fz)] ∧ zr = some (ex_i (F_X11_sum b fz))) := by
  refine X_meth (by decide) (Nat.le_of_ble_eq_true rfl) ?_
  generalize hV : F_X11_sum b fz = V0
  have hV := hV.symm
  unfold F_X11_sum at hV
  try dsimp only at hV
  refine X_iconst (v := 0) dX11_sum_0 (by decide) ?_
  refine X_istore_n (lv' := [(2, ex_i 0), (0, ex_r ar), (1, ex_i (nI b))]) dX11_sum_1 rfl (Nat.le_of_ble_eq_true rfl) rfl ?_
  refine X_iconst (v := 0) dX11_sum_2 (by decide) ?_
  refine X_istore_n (lv' := [(3, ex_i 0), (2, ex_i 0), (0, ex_r ar), (1, ex_i (nI b))]) dX11_sum_3 rfl (Nat.le_of_ble_eq_true rfl) rfl ?_
  -- loop at 4
  try dsimp only at hV
  generalize hq_v_1 : F_X11_sum_L4 fz (b - 0) 0 0 = v_1 at hV
  try dsimp only at hV
  refine X_cut (P := True) (csE := [(ar, ex_a 1 6 fz)]) (lvE := [(2, ex_i v_1), (0, ex_r ar), (1, ex_i (nI b))]) (E := 27) (fun hrest4 => ?_) (fun hPX4 => ?_)
  · have hL4 := hq_v_1.symm
    refine X_ind (fun (a4 : Nat × Int32) => v_1 = F_X11_sum_L4 fz (b - a4.1) a4.1 a4.2 ∧ a4.1 ≤ b) (fun (a4 : Nat × Int32) => b - a4.1) (fun (a4 : Nat × Int32) => [(ar, ex_a 1 6 fz)]) (fun (a4 : Nat × Int32) => [(3, ex_i (nI a4.1)), (2, ex_i a4.2), (0, ex_r ar), (1, ex_i (nI b))]) (fun ⟨k4, s4_0⟩ hI4 ih4 => ?_) (0, 0) ⟨hL4, (by omega)⟩
    try dsimp only at hI4 ih4 ⊢
    have ihc4 : ∀ (k4_ : Nat) (s4_0_ : Int32), (v_1 = F_X11_sum_L4 fz (b - k4_) k4_ s4_0_ ∧ k4_ ≤ b) → (b - k4_) < (b - k4) → ex_O _ _ _ _ _ _ _ _ _ [(ar, ex_a 1 6 fz)] [(3, ex_i (nI k4_)), (2, ex_i s4_0_), (0, ex_r ar), (1, ex_i (nI b))] _ _ := fun k4_ s4_0_ hi_ hm_ => ih4 (k4_, s4_0_) hi_ hm_
    have hL4 := hI4.1
    have hb4 := hI4.2
    refine X_iload_n (j := 0) dX11_sum_4 rfl rfl ?_
    refine X_iload_n (j := 3) dX11_sum_5 rfl rfl ?_
    refine X_icmp_ge (tgt := 27) dX11_sum_6 (by decide) (fun c_2 => ?_) (fun c_2 => ?_)
    · have hlt4 : k4 = b := nlex (L := b) (by omega) hb4 c_2
      rw [show b - k4 = 0 by omega] at hL4
      have hL4 := hL4.trans (F_X11_sum_L4_z ..)
      try dsimp only at hL4
      refine X_lv (lv' := [(2, ex_i s4_0), (0, ex_r ar), (1, ex_i (nI b))]) [1, 2, 3] rfl ?_
      refine X_eq (cs' := [(ar, ex_a 1 6 fz)]) (lv' := [(2, ex_i v_1), (0, ex_r ar), (1, ex_i (nI b))]) (by subst hL4; rfl) (by subst hL4; rfl) ?_
      exact hrest4 trivial
    · have hlt4 : k4 < b := nlen (L := b) (by omega) hb4 c_2
      rw [show b - k4 = (b - (k4 + 1)) + 1 by omega] at hL4
      have hL4 := hL4.trans (F_X11_sum_L4_s ..)
      refine X_iload_n (j := 0) dX11_sum_9 rfl rfl ?_
      refine X_aload_n (j := 2) dX11_sum_10 rfl rfl ?_
      refine X_len (j := 0) (v := 6) dX11_sum_11 rfl (by decide) (by decide) ?_
      refine X_icmp_ge (tgt := 27) dX11_sum_12 (by decide) (fun c_ => absurd c_ (nI_ge (a := k4) (b := 6) (by omega) (by decide))) (fun _ => ?_)
      refine X_iload_n (j := 1) dX11_sum_15 rfl rfl ?_
      refine X_aload_n (j := 2) dX11_sum_16 rfl rfl ?_
      refine X_iload_n (j := 0) dX11_sum_17 rfl rfl ?_
      refine X_iald (j := 0) (v := (fz k4)) dX11_sum_18 rfl (vp_in_nI (show k4 < 6 by omega) (by decide)) (by rw [nI_clamp (by omega)]) ?_
      refine X_iadd (v := (s4_0 + (fz k4))) dX11_sum_19 rfl ?_
      refine X_istore_n (lv' := [(2, ex_i (s4_0 + (fz k4))), (3, ex_i (nI k4)), (0, ex_r ar), (1, ex_i (nI b))]) dX11_sum_20 rfl (Nat.le_of_ble_eq_true rfl) rfl ?_
      refine X_iinc (v := nI (k4 + 1)) (j := 1) (lv' := [(3, ex_i (nI (k4 + 1))), (2, ex_i (s4_0 + (fz k4))), (0, ex_r ar), (1, ex_i (nI b))]) dX11_sum_21 rfl (nI_add k4 1) (Nat.le_of_ble_eq_true rfl) rfl ?_
      refine X_goto (tgt := 4) dX11_sum_24 (by decide) ?_
      try dsimp only at hL4
      exact ihc4 (k4 + 1) (s4_0 + (fz k4)) ⟨hL4, (show (k4 + 1) ≤ b by omega)⟩ (show b - (k4 + 1) < b - k4 by omega)
  refine X_iload_n (j := 0) dX11_sum_27 rfl rfl ?_
  try dsimp only at hV
  exact X_iret ex_nI rfl dX11_sum_28 (by (repeat refine ex_kc ?_) <;> rfl) (by subst hV; exact ⟨rfl, rfl⟩)

def F_X11_count (wt : Int32) (pln : Nat) (L : Nat) (dy : Int32) (sr : Int32) (il : Int32) (fu : Nat → Int32) (hu : Nat → Int32) (wl : Nat) (to : Nat → Int32) (np : Nat) (nd : Nat) (sf : Nat → Int32) (st : Nat → Int32) (cu : Nat → Int32) : Int32 := (if wt = 0 then (nI np) else (if wt = 1 then (nI nd) else (if wt = 2 then (F_X0_cupsInAll np cu) else (if wt = 3 then dy else (if wt = 4 then sr else (if wt = 5 then (F_X8_whoSits dy np sf st) else (if wt = 6 then (F_X11_sum np hu) else (if wt = 7 then il else (if wt = 8 then (nI wl) else (if wt = 9 then (F_X2_howManyTold to) else (if wt = 10 then (nI pln) else (if wt = 11 then (nI L) else (if wt = 12 then (F_X11_sum np fu) else (-1))))))))))))))
set_option maxHeartbeats 4000000 in
set_option maxRecDepth 100000 in
theorem e_X11_count (l : Launch) (x : Nat) (wt : Int32) (t : Nat) (rd : Nat) (c : Nat) (kq : Nat) (w : Nat) (v : Nat) (n : Nat) (tl : Nat) (pa : Nat) (pnx : Nat) (pln : Nat) (ma : Nat) (hs : Nat) (pp : Nat) (pt : Nat) (pg : Nat) (kr : Nat) (g : Nat) (L : Nat) (fa : Int32) (ki : Int32) (nu : Int32) (sg : Int32) (wo : Int64) (ne : Int32) (pl : Int32) (dy : Int32) (sr : Int32) (il : Int32) (nf : Nat) (na : Nat) (nh : Nat) (fu : Nat → Int32) (ae : Nat → Int32) (hu : Nat → Int32) (w_h : Nat) (w_w : Nat) (w_d : Nat) (wl : Nat) (h0 : Nat) (hm : Int32) (hia : Int32) (hso : Int32) (h4 : Nat) (to : Nat → Int32) (c0 : Nat) (c1 : Nat) (c2 : Nat) (c3 : Nat) (c4 : Nat) (c5 : Nat) (c6 : Nat) (c7 : Nat) (c8 : Nat) (c9 : Nat) (c10 : Nat) (c11 : Nat) (c12 : Nat) (np : Nat) (nd : Nat) (sto : Int32) (res : Int32) (c17 : Nat) (c18 : Nat) (c19 : Nat) (sf : Nat → Int32) (st : Nat → Int32) (cu : Nat → Int32) (hnp : np ≤ 6) : ex_M l yX11_count cX11_count 2 (some .int) 3 67 [ex_r x, ex_i wt] [(x, ex_o 11 [ex_r t, ex_r rd, ex_r c, ex_r kq, ex_r w, ex_r v, ex_r n, ex_r tl, ex_r pa, ex_i (nI pnx), ex_i (nI pln), ex_r ma, ex_r hs, ex_r pp, ex_r pt, ex_r pg, ex_r kr]), (t, ex_o 9 [ex_r g, ex_i (nI L), ex_i fa, ex_i ki, ex_i nu, ex_i sg, ex_j wo, ex_i ne, ex_i pl]), (n, ex_o 8 [ex_i dy, ex_i sr, ex_i il, ex_r nf, ex_r na, ex_r nh]), (nf, ex_a 1 6 fu), (na, ex_a 1 6 ae), (nh, ex_a 1 6 hu), (w, ex_o 10 [ex_r w_h, ex_r w_w, ex_r w_d, ex_i (nI wl)]), (hs, ex_o 2 [ex_r h0, ex_i hm, ex_i hia, ex_i hso, ex_r h4]), (h0, ex_a 1 6 to), (c, ex_o 0 [ex_r c0, ex_r c1, ex_r c2, ex_r c3, ex_r c4, ex_r c5, ex_r c6, ex_r c7, ex_r c8, ex_r c9, ex_r c10, ex_r c11, ex_r c12, ex_i (nI np), ex_i (nI nd), ex_i sto, ex_i res, ex_r c17, ex_r c18, ex_r c19]), (c5, ex_a 1 6 sf), (c6, ex_a 1 6 st), (c7, ex_a 1 6 cu)] (fun zcs zr => zcs = [(x, ex_o 11 [ex_r t, ex_r rd, ex_r c, ex_r kq, ex_r w, ex_r v, ex_r n, ex_r tl, ex_r pa, ex_i (nI pnx), ex_i (nI pln), ex_r ma, ex_r hs, ex_r pp, ex_r pt, ex_r pg, ex_r kr]), (t, ex_o 9 [ex_r g, ex_i (nI L), ex_i fa, ex_i ki, ex_i nu, ex_i sg, ex_j wo, ex_i ne, ex_i pl]), (n, ex_o 8 [ex_i dy, ex_i sr, ex_i il, ex_r nf, ex_r na, ex_r nh]), (nf, ex_a 1 6 fu), (na, ex_a 1 6 ae), (nh, ex_a 1 6 hu), (w, ex_o 10 [ex_r w_h, ex_r w_w, ex_r w_d, ex_i (nI wl)]), (hs, ex_o 2 [ex_r h0, ex_i hm, ex_i hia, ex_i hso, ex_r h4]), (h0, ex_a 1 6 to), (c, ex_o 0 [ex_r c0, ex_r c1, ex_r c2, ex_r c3, ex_r c4, ex_r c5, ex_r c6, ex_r c7, ex_r c8, ex_r c9, ex_r c10, ex_r c11, ex_r c12, ex_i (nI np), ex_i (nI nd), ex_i sto, ex_i res, ex_r c17, ex_r c18, ex_r c19]), (c5, ex_a 1 6 sf), (c6, ex_a 1 6 st), (c7, ex_a 1 6 cu)] ∧ zr = some (ex_i (F_X11_count wt pln L dy sr il fu hu wl to np nd sf st cu))) := by
  refine X_meth (by decide) (Nat.le_of_ble_eq_true rfl) ?_
  generalize hV : F_X11_count wt pln L dy sr il fu hu wl to np nd sf st cu = V0
  have hV := hV.symm
  unfold F_X11_count at hV
  try dsimp only at hV
  refine X_iload_n (j := 1) dX11_count_0 rfl rfl ?_
  by_cases hw_1 : wt = 0
  · have hV := hV.trans (if_pos hw_1)
    refine X_tabIn (off := 67) (tgt := 68) dX11_count_1 (by rw [hw_1]; decide) (by rw [hw_1]; decide) (by rw [hw_1]; decide) (by decide) ?_
    refine X_aload_n (j := 0) dX11_count_68 rfl rfl ?_
    refine X_get (j := 0) fo_X11_26 dX11_count_69 rfl rfl ?_
    refine X_get (j := 9) fo_X11_298 dX11_count_72 rfl rfl ?_
    try dsimp only at hV
    exact X_iret ex_nI rfl dX11_count_75 (by (repeat refine ex_kc ?_) <;> rfl) (by subst hV; exact ⟨rfl, rfl⟩)
  have hV := hV.trans (if_neg hw_1)
  by_cases hw_2 : wt = 1
  · have hV := hV.trans (if_pos hw_2)
    refine X_tabIn (off := 75) (tgt := 76) dX11_count_1 (by rw [hw_2]; decide) (by rw [hw_2]; decide) (by rw [hw_2]; decide) (by decide) ?_
    refine X_aload_n (j := 0) dX11_count_76 rfl rfl ?_
    refine X_get (j := 0) fo_X11_26 dX11_count_77 rfl rfl ?_
    refine X_get (j := 9) fo_X11_301 dX11_count_80 rfl rfl ?_
    try dsimp only at hV
    exact X_iret ex_nI rfl dX11_count_83 (by (repeat refine ex_kc ?_) <;> rfl) (by subst hV; exact ⟨rfl, rfl⟩)
  have hV := hV.trans (if_neg hw_2)
  by_cases hw_3 : wt = 2
  · have hV := hV.trans (if_pos hw_3)
    refine X_tabIn (off := 83) (tgt := 84) dX11_count_1 (by rw [hw_3]; decide) (by rw [hw_3]; decide) (by rw [hw_3]; decide) (by decide) ?_
    refine X_aload_n (j := 0) dX11_count_84 rfl rfl ?_
    refine X_get (j := 0) fo_X11_26 dX11_count_85 rfl rfl ?_
    refine X_callV (j0 := 0) (rest := [(x, ex_o 11 [ex_r t, ex_r rd, ex_r c, ex_r kq, ex_r w, ex_r v, ex_r n, ex_r tl, ex_r pa, ex_i (nI pnx), ex_i (nI pln), ex_r ma, ex_r hs, ex_r pp, ex_r pt, ex_r pg, ex_r kr]), (t, ex_o 9 [ex_r g, ex_i (nI L), ex_i fa, ex_i ki, ex_i nu, ex_i sg, ex_j wo, ex_i ne, ex_i pl]), (n, ex_o 8 [ex_i dy, ex_i sr, ex_i il, ex_r nf, ex_r na, ex_r nh]), (nf, ex_a 1 6 fu), (na, ex_a 1 6 ae), (nh, ex_a 1 6 hu), (w, ex_o 10 [ex_r w_h, ex_r w_w, ex_r w_d, ex_i (nI wl)]), (hs, ex_o 2 [ex_r h0, ex_i hm, ex_i hia, ex_i hso, ex_r h4]), (h0, ex_a 1 6 to), (c5, ex_a 1 6 sf), (c6, ex_a 1 6 st)]) (stk := []) co_X11_318 rfl ⟨(Nat.le_of_ble_eq_true rfl), (Nat.le_of_ble_eq_true rfl)⟩ (e_X0_cupsInAll l c c0 c1 c2 c3 c4 c5 c6 c7 c8 c9 c10 c11 c12 np nd sto res c17 c18 c19 cu (by first | assumption | omega)) dX11_count_88 [9, 12, 0, 1, 2, 3, 4, 5, 6, 7, 8, 10, 11] (show List.Perm [9, 12, 0, 1, 2, 3, 4, 5, 6, 7, 8, 10, 11] (List.range 13) from by decide) rfl rfl rfl rfl (Nat.le_of_ble_eq_true rfl) (fun zc1 zr hq hk => ?_)
    obtain ⟨rfl, rfl⟩ := hq
    try dsimp only at hV
    refine X_re (cs' := [(x, ex_o 11 [ex_r t, ex_r rd, ex_r c, ex_r kq, ex_r w, ex_r v, ex_r n, ex_r tl, ex_r pa, ex_i (nI pnx), ex_i (nI pln), ex_r ma, ex_r hs, ex_r pp, ex_r pt, ex_r pg, ex_r kr]), (t, ex_o 9 [ex_r g, ex_i (nI L), ex_i fa, ex_i ki, ex_i nu, ex_i sg, ex_j wo, ex_i ne, ex_i pl]), (n, ex_o 8 [ex_i dy, ex_i sr, ex_i il, ex_r nf, ex_r na, ex_r nh]), (nf, ex_a 1 6 fu), (na, ex_a 1 6 ae), (nh, ex_a 1 6 hu), (w, ex_o 10 [ex_r w_h, ex_r w_w, ex_r w_d, ex_i (nI wl)]), (hs, ex_o 2 [ex_r h0, ex_i hm, ex_i hia, ex_i hso, ex_r h4]), (h0, ex_a 1 6 to), (c, ex_o 0 [ex_r c0, ex_r c1, ex_r c2, ex_r c3, ex_r c4, ex_r c5, ex_r c6, ex_r c7, ex_r c8, ex_r c9, ex_r c10, ex_r c11, ex_r c12, ex_i (nI np), ex_i (nI nd), ex_i sto, ex_i res, ex_r c17, ex_r c18, ex_r c19]), (c5, ex_a 1 6 sf), (c6, ex_a 1 6 st), (c7, ex_a 1 6 cu)]) [2, 3, 4, 5, 6, 7, 8, 9, 10, 0, 11, 12, 1] (show List.Perm [2, 3, 4, 5, 6, 7, 8, 9, 10, 0, 11, 12, 1] (List.range 13) from by decide) rfl ?_
    exact X_iret ex_nI rfl dX11_count_91 (by (repeat refine ex_kc ?_) <;> rfl) (by subst hV; exact ⟨rfl, rfl⟩)
  have hV := hV.trans (if_neg hw_3)
  by_cases hw_4 : wt = 3
  · have hV := hV.trans (if_pos hw_4)
    refine X_tabIn (off := 91) (tgt := 92) dX11_count_1 (by rw [hw_4]; decide) (by rw [hw_4]; decide) (by rw [hw_4]; decide) (by decide) ?_
    refine X_aload_n (j := 0) dX11_count_92 rfl rfl ?_
    refine X_get (j := 0) fo_X11_46 dX11_count_93 rfl rfl ?_
    refine X_get (j := 2) fo_X11_188 dX11_count_96 rfl rfl ?_
    try dsimp only at hV
    exact X_iret ex_nI rfl dX11_count_99 (by (repeat refine ex_kc ?_) <;> rfl) (by subst hV; exact ⟨rfl, rfl⟩)
  have hV := hV.trans (if_neg hw_4)
  by_cases hw_5 : wt = 4
  · have hV := hV.trans (if_pos hw_5)
    refine X_tabIn (off := 99) (tgt := 100) dX11_count_1 (by rw [hw_5]; decide) (by rw [hw_5]; decide) (by rw [hw_5]; decide) (by decide) ?_
    refine X_aload_n (j := 0) dX11_count_100 rfl rfl ?_
    refine X_get (j := 0) fo_X11_46 dX11_count_101 rfl rfl ?_
    refine X_get (j := 2) fo_X11_204 dX11_count_104 rfl rfl ?_
    try dsimp only at hV
    exact X_iret ex_nI rfl dX11_count_107 (by (repeat refine ex_kc ?_) <;> rfl) (by subst hV; exact ⟨rfl, rfl⟩)
  have hV := hV.trans (if_neg hw_5)
  by_cases hw_6 : wt = 5
  · have hV := hV.trans (if_pos hw_6)
    refine X_tabIn (off := 107) (tgt := 108) dX11_count_1 (by rw [hw_6]; decide) (by rw [hw_6]; decide) (by rw [hw_6]; decide) (by decide) ?_
    refine X_aload_n (j := 0) dX11_count_108 rfl rfl ?_
    refine X_get (j := 0) fo_X11_46 dX11_count_109 rfl rfl ?_
    refine X_aload_n (j := 0) dX11_count_112 rfl rfl ?_
    refine X_get (j := 0) fo_X11_26 dX11_count_113 rfl rfl ?_
    refine X_callV (j0 := 0) (rest := [(x, ex_o 11 [ex_r t, ex_r rd, ex_r c, ex_r kq, ex_r w, ex_r v, ex_r n, ex_r tl, ex_r pa, ex_i (nI pnx), ex_i (nI pln), ex_r ma, ex_r hs, ex_r pp, ex_r pt, ex_r pg, ex_r kr]), (t, ex_o 9 [ex_r g, ex_i (nI L), ex_i fa, ex_i ki, ex_i nu, ex_i sg, ex_j wo, ex_i ne, ex_i pl]), (nf, ex_a 1 6 fu), (na, ex_a 1 6 ae), (nh, ex_a 1 6 hu), (w, ex_o 10 [ex_r w_h, ex_r w_w, ex_r w_d, ex_i (nI wl)]), (hs, ex_o 2 [ex_r h0, ex_i hm, ex_i hia, ex_i hso, ex_r h4]), (h0, ex_a 1 6 to), (c7, ex_a 1 6 cu)]) (stk := []) co_X11_217 rfl ⟨(Nat.le_of_ble_eq_true rfl), (Nat.le_of_ble_eq_true rfl)⟩ (e_X8_whoSits l n c dy sr il nf na nh c0 c1 c2 c3 c4 c5 c6 c7 c8 c9 c10 c11 c12 np nd sto res c17 c18 c19 sf st (by first | assumption | omega)) dX11_count_116 [2, 9, 10, 11, 0, 1, 3, 4, 5, 6, 7, 8, 12] (show List.Perm [2, 9, 10, 11, 0, 1, 3, 4, 5, 6, 7, 8, 12] (List.range 13) from by decide) rfl rfl rfl rfl (Nat.le_of_ble_eq_true rfl) (fun zc1 zr hq hk => ?_)
    obtain ⟨rfl, rfl⟩ := hq
    try dsimp only at hV
    refine X_re (cs' := [(x, ex_o 11 [ex_r t, ex_r rd, ex_r c, ex_r kq, ex_r w, ex_r v, ex_r n, ex_r tl, ex_r pa, ex_i (nI pnx), ex_i (nI pln), ex_r ma, ex_r hs, ex_r pp, ex_r pt, ex_r pg, ex_r kr]), (t, ex_o 9 [ex_r g, ex_i (nI L), ex_i fa, ex_i ki, ex_i nu, ex_i sg, ex_j wo, ex_i ne, ex_i pl]), (n, ex_o 8 [ex_i dy, ex_i sr, ex_i il, ex_r nf, ex_r na, ex_r nh]), (nf, ex_a 1 6 fu), (na, ex_a 1 6 ae), (nh, ex_a 1 6 hu), (w, ex_o 10 [ex_r w_h, ex_r w_w, ex_r w_d, ex_i (nI wl)]), (hs, ex_o 2 [ex_r h0, ex_i hm, ex_i hia, ex_i hso, ex_r h4]), (h0, ex_a 1 6 to), (c, ex_o 0 [ex_r c0, ex_r c1, ex_r c2, ex_r c3, ex_r c4, ex_r c5, ex_r c6, ex_r c7, ex_r c8, ex_r c9, ex_r c10, ex_r c11, ex_r c12, ex_i (nI np), ex_i (nI nd), ex_i sto, ex_i res, ex_r c17, ex_r c18, ex_r c19]), (c5, ex_a 1 6 sf), (c6, ex_a 1 6 st), (c7, ex_a 1 6 cu)]) [4, 5, 0, 6, 7, 8, 9, 10, 11, 1, 2, 3, 12] (show List.Perm [4, 5, 0, 6, 7, 8, 9, 10, 11, 1, 2, 3, 12] (List.range 13) from by decide) rfl ?_
    exact X_iret ex_nI rfl dX11_count_119 (by (repeat refine ex_kc ?_) <;> rfl) (by subst hV; exact ⟨rfl, rfl⟩)
  have hV := hV.trans (if_neg hw_6)
  by_cases hw_7 : wt = 6
  · have hV := hV.trans (if_pos hw_7)
    refine X_tabIn (off := 119) (tgt := 120) dX11_count_1 (by rw [hw_7]; decide) (by rw [hw_7]; decide) (by rw [hw_7]; decide) (by decide) ?_
    refine X_aload_n (j := 0) dX11_count_120 rfl rfl ?_
    refine X_get (j := 0) fo_X11_46 dX11_count_121 rfl rfl ?_
    refine X_get (j := 2) fo_X11_150 dX11_count_124 rfl rfl ?_
    refine X_aload_n (j := 0) dX11_count_127 rfl rfl ?_
    refine X_get (j := 0) fo_X11_26 dX11_count_128 rfl rfl ?_
    refine X_get (j := 9) fo_X11_298 dX11_count_131 rfl rfl ?_
    refine X_callS (rest := [(x, ex_o 11 [ex_r t, ex_r rd, ex_r c, ex_r kq, ex_r w, ex_r v, ex_r n, ex_r tl, ex_r pa, ex_i (nI pnx), ex_i (nI pln), ex_r ma, ex_r hs, ex_r pp, ex_r pt, ex_r pg, ex_r kr]), (t, ex_o 9 [ex_r g, ex_i (nI L), ex_i fa, ex_i ki, ex_i nu, ex_i sg, ex_j wo, ex_i ne, ex_i pl]), (n, ex_o 8 [ex_i dy, ex_i sr, ex_i il, ex_r nf, ex_r na, ex_r nh]), (nf, ex_a 1 6 fu), (na, ex_a 1 6 ae), (w, ex_o 10 [ex_r w_h, ex_r w_w, ex_r w_d, ex_i (nI wl)]), (hs, ex_o 2 [ex_r h0, ex_i hm, ex_i hia, ex_i hso, ex_r h4]), (h0, ex_a 1 6 to), (c, ex_o 0 [ex_r c0, ex_r c1, ex_r c2, ex_r c3, ex_r c4, ex_r c5, ex_r c6, ex_r c7, ex_r c8, ex_r c9, ex_r c10, ex_r c11, ex_r c12, ex_i (nI np), ex_i (nI nd), ex_i sto, ex_i res, ex_r c17, ex_r c18, ex_r c19]), (c5, ex_a 1 6 sf), (c6, ex_a 1 6 st), (c7, ex_a 1 6 cu)]) (stk := []) co_X11_321 rfl ⟨(Nat.le_of_ble_eq_true rfl), (Nat.le_of_ble_eq_true rfl)⟩ (e_X11_sum l nh np hu (by first | assumption | omega)) dX11_count_134 [5, 0, 1, 2, 3, 4, 6, 7, 8, 9, 10, 11, 12] (show List.Perm [5, 0, 1, 2, 3, 4, 6, 7, 8, 9, 10, 11, 12] (List.range 13) from by decide) rfl rfl rfl (Nat.le_of_ble_eq_true rfl) (fun zc1 zr hq hk => ?_)
    obtain ⟨rfl, rfl⟩ := hq
    try dsimp only at hV
    refine X_re (cs' := [(x, ex_o 11 [ex_r t, ex_r rd, ex_r c, ex_r kq, ex_r w, ex_r v, ex_r n, ex_r tl, ex_r pa, ex_i (nI pnx), ex_i (nI pln), ex_r ma, ex_r hs, ex_r pp, ex_r pt, ex_r pg, ex_r kr]), (t, ex_o 9 [ex_r g, ex_i (nI L), ex_i fa, ex_i ki, ex_i nu, ex_i sg, ex_j wo, ex_i ne, ex_i pl]), (n, ex_o 8 [ex_i dy, ex_i sr, ex_i il, ex_r nf, ex_r na, ex_r nh]), (nf, ex_a 1 6 fu), (na, ex_a 1 6 ae), (nh, ex_a 1 6 hu), (w, ex_o 10 [ex_r w_h, ex_r w_w, ex_r w_d, ex_i (nI wl)]), (hs, ex_o 2 [ex_r h0, ex_i hm, ex_i hia, ex_i hso, ex_r h4]), (h0, ex_a 1 6 to), (c, ex_o 0 [ex_r c0, ex_r c1, ex_r c2, ex_r c3, ex_r c4, ex_r c5, ex_r c6, ex_r c7, ex_r c8, ex_r c9, ex_r c10, ex_r c11, ex_r c12, ex_i (nI np), ex_i (nI nd), ex_i sto, ex_i res, ex_r c17, ex_r c18, ex_r c19]), (c5, ex_a 1 6 sf), (c6, ex_a 1 6 st), (c7, ex_a 1 6 cu)]) [1, 2, 3, 4, 5, 0, 6, 7, 8, 9, 10, 11, 12] (show List.Perm [1, 2, 3, 4, 5, 0, 6, 7, 8, 9, 10, 11, 12] (List.range 13) from by decide) rfl ?_
    exact X_iret ex_nI rfl dX11_count_137 (by (repeat refine ex_kc ?_) <;> rfl) (by subst hV; exact ⟨rfl, rfl⟩)
  have hV := hV.trans (if_neg hw_7)
  by_cases hw_8 : wt = 7
  · have hV := hV.trans (if_pos hw_8)
    refine X_tabIn (off := 137) (tgt := 138) dX11_count_1 (by rw [hw_8]; decide) (by rw [hw_8]; decide) (by rw [hw_8]; decide) (by decide) ?_
    refine X_aload_n (j := 0) dX11_count_138 rfl rfl ?_
    refine X_get (j := 0) fo_X11_46 dX11_count_139 rfl rfl ?_
    refine X_get (j := 2) fo_X11_287 dX11_count_142 rfl rfl ?_
    try dsimp only at hV
    exact X_iret ex_nI rfl dX11_count_145 (by (repeat refine ex_kc ?_) <;> rfl) (by subst hV; exact ⟨rfl, rfl⟩)
  have hV := hV.trans (if_neg hw_8)
  by_cases hw_9 : wt = 8
  · have hV := hV.trans (if_pos hw_9)
    refine X_tabIn (off := 145) (tgt := 146) dX11_count_1 (by rw [hw_9]; decide) (by rw [hw_9]; decide) (by rw [hw_9]; decide) (by decide) ?_
    refine X_aload_n (j := 0) dX11_count_146 rfl rfl ?_
    refine X_get (j := 0) fo_X11_36 dX11_count_147 rfl rfl ?_
    refine X_get (j := 6) fo_X11_199 dX11_count_150 rfl rfl ?_
    try dsimp only at hV
    exact X_iret ex_nI rfl dX11_count_153 (by (repeat refine ex_kc ?_) <;> rfl) (by subst hV; exact ⟨rfl, rfl⟩)
  have hV := hV.trans (if_neg hw_9)
  by_cases hw_10 : wt = 9
  · have hV := hV.trans (if_pos hw_10)
    refine X_tabIn (off := 153) (tgt := 154) dX11_count_1 (by rw [hw_10]; decide) (by rw [hw_10]; decide) (by rw [hw_10]; decide) (by decide) ?_
    refine X_aload_n (j := 0) dX11_count_154 rfl rfl ?_
    refine X_get (j := 0) fo_X11_73 dX11_count_155 rfl rfl ?_
    refine X_callV (j0 := 0) (rest := [(x, ex_o 11 [ex_r t, ex_r rd, ex_r c, ex_r kq, ex_r w, ex_r v, ex_r n, ex_r tl, ex_r pa, ex_i (nI pnx), ex_i (nI pln), ex_r ma, ex_r hs, ex_r pp, ex_r pt, ex_r pg, ex_r kr]), (t, ex_o 9 [ex_r g, ex_i (nI L), ex_i fa, ex_i ki, ex_i nu, ex_i sg, ex_j wo, ex_i ne, ex_i pl]), (n, ex_o 8 [ex_i dy, ex_i sr, ex_i il, ex_r nf, ex_r na, ex_r nh]), (nf, ex_a 1 6 fu), (na, ex_a 1 6 ae), (nh, ex_a 1 6 hu), (w, ex_o 10 [ex_r w_h, ex_r w_w, ex_r w_d, ex_i (nI wl)]), (c, ex_o 0 [ex_r c0, ex_r c1, ex_r c2, ex_r c3, ex_r c4, ex_r c5, ex_r c6, ex_r c7, ex_r c8, ex_r c9, ex_r c10, ex_r c11, ex_r c12, ex_i (nI np), ex_i (nI nd), ex_i sto, ex_i res, ex_r c17, ex_r c18, ex_r c19]), (c5, ex_a 1 6 sf), (c6, ex_a 1 6 st), (c7, ex_a 1 6 cu)]) (stk := []) co_X11_325 rfl ⟨(Nat.le_of_ble_eq_true rfl), (Nat.le_of_ble_eq_true rfl)⟩ (e_X2_howManyTold l hs h0 hm hia hso h4 to) dX11_count_158 [7, 8, 0, 1, 2, 3, 4, 5, 6, 9, 10, 11, 12] (show List.Perm [7, 8, 0, 1, 2, 3, 4, 5, 6, 9, 10, 11, 12] (List.range 13) from by decide) rfl rfl rfl rfl (Nat.le_of_ble_eq_true rfl) (fun zc1 zr hq hk => ?_)
    obtain ⟨rfl, rfl⟩ := hq
    try dsimp only at hV
    refine X_re (cs' := [(x, ex_o 11 [ex_r t, ex_r rd, ex_r c, ex_r kq, ex_r w, ex_r v, ex_r n, ex_r tl, ex_r pa, ex_i (nI pnx), ex_i (nI pln), ex_r ma, ex_r hs, ex_r pp, ex_r pt, ex_r pg, ex_r kr]), (t, ex_o 9 [ex_r g, ex_i (nI L), ex_i fa, ex_i ki, ex_i nu, ex_i sg, ex_j wo, ex_i ne, ex_i pl]), (n, ex_o 8 [ex_i dy, ex_i sr, ex_i il, ex_r nf, ex_r na, ex_r nh]), (nf, ex_a 1 6 fu), (na, ex_a 1 6 ae), (nh, ex_a 1 6 hu), (w, ex_o 10 [ex_r w_h, ex_r w_w, ex_r w_d, ex_i (nI wl)]), (hs, ex_o 2 [ex_r h0, ex_i hm, ex_i hia, ex_i hso, ex_r h4]), (h0, ex_a 1 6 to), (c, ex_o 0 [ex_r c0, ex_r c1, ex_r c2, ex_r c3, ex_r c4, ex_r c5, ex_r c6, ex_r c7, ex_r c8, ex_r c9, ex_r c10, ex_r c11, ex_r c12, ex_i (nI np), ex_i (nI nd), ex_i sto, ex_i res, ex_r c17, ex_r c18, ex_r c19]), (c5, ex_a 1 6 sf), (c6, ex_a 1 6 st), (c7, ex_a 1 6 cu)]) [2, 3, 4, 5, 6, 7, 8, 0, 1, 9, 10, 11, 12] (show List.Perm [2, 3, 4, 5, 6, 7, 8, 0, 1, 9, 10, 11, 12] (List.range 13) from by decide) rfl ?_
    exact X_iret ex_nI rfl dX11_count_161 (by (repeat refine ex_kc ?_) <;> rfl) (by subst hV; exact ⟨rfl, rfl⟩)
  have hV := hV.trans (if_neg hw_10)
  by_cases hw_11 : wt = 10
  · have hV := hV.trans (if_pos hw_11)
    refine X_tabIn (off := 161) (tgt := 162) dX11_count_1 (by rw [hw_11]; decide) (by rw [hw_11]; decide) (by rw [hw_11]; decide) (by decide) ?_
    refine X_aload_n (j := 0) dX11_count_162 rfl rfl ?_
    refine X_get (j := 0) fo_X11_61 dX11_count_163 rfl rfl ?_
    try dsimp only at hV
    exact X_iret ex_nI rfl dX11_count_166 (by (repeat refine ex_kc ?_) <;> rfl) (by subst hV; exact ⟨rfl, rfl⟩)
  have hV := hV.trans (if_neg hw_11)
  by_cases hw_12 : wt = 11
  · have hV := hV.trans (if_pos hw_12)
    refine X_tabIn (off := 166) (tgt := 167) dX11_count_1 (by rw [hw_12]; decide) (by rw [hw_12]; decide) (by rw [hw_12]; decide) (by decide) ?_
    refine X_aload_n (j := 0) dX11_count_167 rfl rfl ?_
    refine X_get (j := 0) fo_X11_10 dX11_count_168 rfl rfl ?_
    refine X_get (j := 1) fo_X11_107 dX11_count_171 rfl rfl ?_
    try dsimp only at hV
    exact X_iret ex_nI rfl dX11_count_174 (by (repeat refine ex_kc ?_) <;> rfl) (by subst hV; exact ⟨rfl, rfl⟩)
  have hV := hV.trans (if_neg hw_12)
  by_cases hw_13 : wt = 12
  · have hV := hV.trans (if_pos hw_13)
    refine X_tabIn (off := 174) (tgt := 175) dX11_count_1 (by rw [hw_13]; decide) (by rw [hw_13]; decide) (by rw [hw_13]; decide) (by decide) ?_
    refine X_aload_n (j := 0) dX11_count_175 rfl rfl ?_
    refine X_get (j := 0) fo_X11_46 dX11_count_176 rfl rfl ?_
    refine X_get (j := 2) fo_X11_140 dX11_count_179 rfl rfl ?_
    refine X_aload_n (j := 0) dX11_count_182 rfl rfl ?_
    refine X_get (j := 0) fo_X11_26 dX11_count_183 rfl rfl ?_
    refine X_get (j := 9) fo_X11_298 dX11_count_186 rfl rfl ?_
    refine X_callS (rest := [(x, ex_o 11 [ex_r t, ex_r rd, ex_r c, ex_r kq, ex_r w, ex_r v, ex_r n, ex_r tl, ex_r pa, ex_i (nI pnx), ex_i (nI pln), ex_r ma, ex_r hs, ex_r pp, ex_r pt, ex_r pg, ex_r kr]), (t, ex_o 9 [ex_r g, ex_i (nI L), ex_i fa, ex_i ki, ex_i nu, ex_i sg, ex_j wo, ex_i ne, ex_i pl]), (n, ex_o 8 [ex_i dy, ex_i sr, ex_i il, ex_r nf, ex_r na, ex_r nh]), (na, ex_a 1 6 ae), (nh, ex_a 1 6 hu), (w, ex_o 10 [ex_r w_h, ex_r w_w, ex_r w_d, ex_i (nI wl)]), (hs, ex_o 2 [ex_r h0, ex_i hm, ex_i hia, ex_i hso, ex_r h4]), (h0, ex_a 1 6 to), (c, ex_o 0 [ex_r c0, ex_r c1, ex_r c2, ex_r c3, ex_r c4, ex_r c5, ex_r c6, ex_r c7, ex_r c8, ex_r c9, ex_r c10, ex_r c11, ex_r c12, ex_i (nI np), ex_i (nI nd), ex_i sto, ex_i res, ex_r c17, ex_r c18, ex_r c19]), (c5, ex_a 1 6 sf), (c6, ex_a 1 6 st), (c7, ex_a 1 6 cu)]) (stk := []) co_X11_321 rfl ⟨(Nat.le_of_ble_eq_true rfl), (Nat.le_of_ble_eq_true rfl)⟩ (e_X11_sum l nf np fu (by first | assumption | omega)) dX11_count_189 [3, 0, 1, 2, 4, 5, 6, 7, 8, 9, 10, 11, 12] (show List.Perm [3, 0, 1, 2, 4, 5, 6, 7, 8, 9, 10, 11, 12] (List.range 13) from by decide) rfl rfl rfl (Nat.le_of_ble_eq_true rfl) (fun zc1 zr hq hk => ?_)
    obtain ⟨rfl, rfl⟩ := hq
    try dsimp only at hV
    refine X_re (cs' := [(x, ex_o 11 [ex_r t, ex_r rd, ex_r c, ex_r kq, ex_r w, ex_r v, ex_r n, ex_r tl, ex_r pa, ex_i (nI pnx), ex_i (nI pln), ex_r ma, ex_r hs, ex_r pp, ex_r pt, ex_r pg, ex_r kr]), (t, ex_o 9 [ex_r g, ex_i (nI L), ex_i fa, ex_i ki, ex_i nu, ex_i sg, ex_j wo, ex_i ne, ex_i pl]), (n, ex_o 8 [ex_i dy, ex_i sr, ex_i il, ex_r nf, ex_r na, ex_r nh]), (nf, ex_a 1 6 fu), (na, ex_a 1 6 ae), (nh, ex_a 1 6 hu), (w, ex_o 10 [ex_r w_h, ex_r w_w, ex_r w_d, ex_i (nI wl)]), (hs, ex_o 2 [ex_r h0, ex_i hm, ex_i hia, ex_i hso, ex_r h4]), (h0, ex_a 1 6 to), (c, ex_o 0 [ex_r c0, ex_r c1, ex_r c2, ex_r c3, ex_r c4, ex_r c5, ex_r c6, ex_r c7, ex_r c8, ex_r c9, ex_r c10, ex_r c11, ex_r c12, ex_i (nI np), ex_i (nI nd), ex_i sto, ex_i res, ex_r c17, ex_r c18, ex_r c19]), (c5, ex_a 1 6 sf), (c6, ex_a 1 6 st), (c7, ex_a 1 6 cu)]) [1, 2, 3, 0, 4, 5, 6, 7, 8, 9, 10, 11, 12] (show List.Perm [1, 2, 3, 0, 4, 5, 6, 7, 8, 9, 10, 11, 12] (List.range 13) from by decide) rfl ?_
    exact X_iret ex_nI rfl dX11_count_192 (by (repeat refine ex_kc ?_) <;> rfl) (by subst hV; exact ⟨rfl, rfl⟩)
  have hV := hV.trans (if_neg hw_13)
  refine X_tabOut (tgt := 193) dX11_count_1 (by have n0 : wt.toInt ≠ 0 := fun q => hw_1 (Int32.toInt_inj.mp (q.trans (by decide))); have n1 : wt.toInt ≠ 1 := fun q => hw_2 (Int32.toInt_inj.mp (q.trans (by decide))); have n2 : wt.toInt ≠ 2 := fun q => hw_3 (Int32.toInt_inj.mp (q.trans (by decide))); have n3 : wt.toInt ≠ 3 := fun q => hw_4 (Int32.toInt_inj.mp (q.trans (by decide))); have n4 : wt.toInt ≠ 4 := fun q => hw_5 (Int32.toInt_inj.mp (q.trans (by decide))); have n5 : wt.toInt ≠ 5 := fun q => hw_6 (Int32.toInt_inj.mp (q.trans (by decide))); have n6 : wt.toInt ≠ 6 := fun q => hw_7 (Int32.toInt_inj.mp (q.trans (by decide))); have n7 : wt.toInt ≠ 7 := fun q => hw_8 (Int32.toInt_inj.mp (q.trans (by decide))); have n8 : wt.toInt ≠ 8 := fun q => hw_9 (Int32.toInt_inj.mp (q.trans (by decide))); have n9 : wt.toInt ≠ 9 := fun q => hw_10 (Int32.toInt_inj.mp (q.trans (by decide))); have n10 : wt.toInt ≠ 10 := fun q => hw_11 (Int32.toInt_inj.mp (q.trans (by decide))); have n11 : wt.toInt ≠ 11 := fun q => hw_12 (Int32.toInt_inj.mp (q.trans (by decide))); have n12 : wt.toInt ≠ 12 := fun q => hw_13 (Int32.toInt_inj.mp (q.trans (by decide))); omega) (by decide) ?_
  refine X_iconst (v := (-1)) dX11_count_193 (by decide) ?_
  try dsimp only at hV
  exact X_iret ex_nI rfl dX11_count_194 (by (repeat refine ex_kc ?_) <;> rfl) (by subst hV; exact ⟨rfl, rfl⟩)
