set_option maxHeartbeats 4000000 in
set_option maxRecDepth 100000 in
theorem e_X11_feed (l : Launch) (L : Nat) (a1 : Int64) (a2 : Int64) (a3 : Int64) (x : Nat) (t : Nat) (rd : Nat) (c : Nat) (kq : Nat) (w : Nat) (v : Nat) (n : Nat) (tl : Nat) (pa : Nat) (pnx : Nat) (pln : Nat) (ma : Nat) (hs : Nat) (pp : Nat) (pt : Nat) (pg : Nat) (kr : Nat) (g : Nat) (fa : Int32) (ki : Int32) (nu : Int32) (sg : Int32) (wo : Int64) (ne : Int32) (pl : Int32) (f : Nat → Int32) (hL : L ≤ 1000) : ex_M l yX11_feed cX11_feed 7 (some .int) 1 25 [ex_r x, ex_j a1, ex_j a2, ex_j a3] [(x, ex_o 11 [ex_r t, ex_r rd, ex_r c, ex_r kq, ex_r w, ex_r v, ex_r n, ex_r tl, ex_r pa, ex_i (nI pnx), ex_i (nI pln), ex_r ma, ex_r hs, ex_r pp, ex_r pt, ex_r pg, ex_r kr]), (t, ex_o 9 [ex_r g, ex_i (nI L), ex_i fa, ex_i ki, ex_i nu, ex_i sg, ex_j wo, ex_i ne, ex_i pl]), (g, ex_a 0 1000 f)] (fun cs r => (cs = [(x, ex_o 11 [ex_r t, ex_r rd, ex_r c, ex_r kq, ex_r w, ex_r v, ex_r n, ex_r tl, ex_r pa, ex_i (nI pnx), ex_i (nI pln), ex_r ma, ex_r hs, ex_r pp, ex_r pt, ex_r pg, ex_r kr]), (t, ex_o 9 [ex_r g, ex_i (nI (cb (cb (cb L a1 8) a2 8) a3 8)), ex_i fa, ex_i ki, ex_i nu, ex_i sg, ex_j wo, ex_i ne, ex_i pl]), (g, ex_a 0 1000 (fb (fb (fb f L a1 8) (cb L a1 8) a2 8) (cb (cb L a1 8) a2 8) a3 8))] ∧ r = some (ex_i (nI (cb (cb (cb L a1 8) a2 8) a3 8))))) := by
  refine X_meth (by decide) (Nat.le_of_ble_eq_true rfl) ?_
  refine X_aload_n (j := 0) dX11_feed_0 rfl rfl ?_
  refine X_get (j := 0) fo_X11_10 dX11_feed_1 rfl rfl ?_
  refine X_lload_n (j := 1) dX11_feed_4 rfl rfl ?_
  refine X_callV (j0 := 0) (rest := [(x, ex_o 11 [ex_r t, ex_r rd, ex_r c, ex_r kq, ex_r w, ex_r v, ex_r n, ex_r tl, ex_r pa, ex_i (nI pnx), ex_i (nI pln), ex_r ma, ex_r hs, ex_r pp, ex_r pt, ex_r pg, ex_r kr])]) (stk := []) co_X11_103 rfl ⟨(Nat.le_of_ble_eq_true rfl), (Nat.le_of_ble_eq_true rfl)⟩ (e_X9_addBytes l t g L fa ki nu sg wo ne pl f a1 hL) dX11_feed_5 [1, 2, 0] (show List.Perm [1, 2, 0] (List.range 3) from by decide) rfl rfl rfl rfl (Nat.le_of_ble_eq_true rfl) (fun cs1 r hq hk => ?_)
  rcases hq with ⟨rfl, rfl⟩
  refine X_aload_n (j := 0) dX11_feed_8 rfl rfl ?_
  refine X_get (j := 2) fo_X11_10 dX11_feed_9 rfl rfl ?_
  refine X_lload_n (j := 2) dX11_feed_12 rfl rfl ?_
  refine X_callV (j0 := 0) (rest := [(x, ex_o 11 [ex_r t, ex_r rd, ex_r c, ex_r kq, ex_r w, ex_r v, ex_r n, ex_r tl, ex_r pa, ex_i (nI pnx), ex_i (nI pln), ex_r ma, ex_r hs, ex_r pp, ex_r pt, ex_r pg, ex_r kr])]) (stk := []) co_X11_103 rfl ⟨(Nat.le_of_ble_eq_true rfl), (Nat.le_of_ble_eq_true rfl)⟩ (e_X9_addBytes l t g (cb L a1 8) fa ki nu sg wo ne pl (fb f L a1 8) a2 (cb_le a1 hL 8)) dX11_feed_13 [0, 1, 2] (show List.Perm [0, 1, 2] (List.range 3) from by decide) rfl rfl rfl rfl (Nat.le_of_ble_eq_true rfl) (fun cs1 r hq hk => ?_)
  rcases hq with ⟨rfl, rfl⟩
  refine X_aload_n (j := 0) dX11_feed_16 rfl rfl ?_
  refine X_get (j := 2) fo_X11_10 dX11_feed_17 rfl rfl ?_
  refine X_lload (j := 3) dX11_feed_20 rfl ?_
  refine X_callV (j0 := 0) (rest := [(x, ex_o 11 [ex_r t, ex_r rd, ex_r c, ex_r kq, ex_r w, ex_r v, ex_r n, ex_r tl, ex_r pa, ex_i (nI pnx), ex_i (nI pln), ex_r ma, ex_r hs, ex_r pp, ex_r pt, ex_r pg, ex_r kr])]) (stk := []) co_X11_103 rfl ⟨(Nat.le_of_ble_eq_true rfl), (Nat.le_of_ble_eq_true rfl)⟩ (e_X9_addBytes l t g (cb (cb L a1 8) a2 8) fa ki nu sg wo ne pl (fb (fb f L a1 8) (cb L a1 8) a2 8) a3 (cb_le a2 (cb_le a1 hL 8) 8)) dX11_feed_22 [0, 1, 2] (show List.Perm [0, 1, 2] (List.range 3) from by decide) rfl rfl rfl rfl (Nat.le_of_ble_eq_true rfl) (fun cs1 r hq hk => ?_)
  rcases hq with ⟨rfl, rfl⟩
  refine X_aload_n (j := 0) dX11_feed_25 rfl rfl ?_
  refine X_get (j := 2) fo_X11_10 dX11_feed_26 rfl rfl ?_
  refine X_get (j := 0) fo_X11_107 dX11_feed_29 rfl rfl ?_
  refine X_re (cs' := [(x, ex_o 11 [ex_r t, ex_r rd, ex_r c, ex_r kq, ex_r w, ex_r v, ex_r n, ex_r tl, ex_r pa, ex_i (nI pnx), ex_i (nI pln), ex_r ma, ex_r hs, ex_r pp, ex_r pt, ex_r pg, ex_r kr]), (t, ex_o 9 [ex_r g, ex_i (nI (cb (cb (cb L a1 8) a2 8) a3 8)), ex_i fa, ex_i ki, ex_i nu, ex_i sg, ex_j wo, ex_i ne, ex_i pl]), (g, ex_a 0 1000 (fb (fb (fb f L a1 8) (cb L a1 8) a2 8) (cb (cb L a1 8) a2 8) a3 8))]) [2, 0, 1] (show List.Perm [2, 0, 1] (List.range 3) from by decide) rfl ?_
  exact X_iret ex_nI rfl dX11_feed_32 (by (repeat refine ex_kc ?_) <;> rfl) (⟨rfl, rfl⟩)
