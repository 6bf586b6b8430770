def upN {α : Type} (f : Nat → α) (q : Nat) (x : α) : Nat → α := fun j => if j = q then x else f j
def pastW (pk : Nat → Nat → Nat) (pd : Nat → Int32) (ps : Nat → Int32) (pi : Nat → Int32) (pf : Nat → Nat → Int32) (pe : Nat → Nat → Int32) (ph : Nat → Nat → Int32) : EW := [((pk 0 0), ex_o 8 [ex_i (pd 0), ex_i (ps 0), ex_i (pi 0), ex_r (pk 0 1), ex_r (pk 0 2), ex_r (pk 0 3)]), ((pk 0 1), ex_a 1 6 (pf 0)), ((pk 0 2), ex_a 1 6 (pe 0)), ((pk 0 3), ex_a 1 6 (ph 0)), ((pk 1 0), ex_o 8 [ex_i (pd 1), ex_i (ps 1), ex_i (pi 1), ex_r (pk 1 1), ex_r (pk 1 2), ex_r (pk 1 3)]), ((pk 1 1), ex_a 1 6 (pf 1)), ((pk 1 2), ex_a 1 6 (pe 1)), ((pk 1 3), ex_a 1 6 (ph 1)), ((pk 2 0), ex_o 8 [ex_i (pd 2), ex_i (ps 2), ex_i (pi 2), ex_r (pk 2 1), ex_r (pk 2 2), ex_r (pk 2 3)]), ((pk 2 1), ex_a 1 6 (pf 2)), ((pk 2 2), ex_a 1 6 (pe 2)), ((pk 2 3), ex_a 1 6 (ph 2)), ((pk 3 0), ex_o 8 [ex_i (pd 3), ex_i (ps 3), ex_i (pi 3), ex_r (pk 3 1), ex_r (pk 3 2), ex_r (pk 3 3)]), ((pk 3 1), ex_a 1 6 (pf 3)), ((pk 3 2), ex_a 1 6 (pe 3)), ((pk 3 3), ex_a 1 6 (ph 3)), ((pk 4 0), ex_o 8 [ex_i (pd 4), ex_i (ps 4), ex_i (pi 4), ex_r (pk 4 1), ex_r (pk 4 2), ex_r (pk 4 3)]), ((pk 4 1), ex_a 1 6 (pf 4)), ((pk 4 2), ex_a 1 6 (pe 4)), ((pk 4 3), ex_a 1 6 (ph 4)), ((pk 5 0), ex_o 8 [ex_i (pd 5), ex_i (ps 5), ex_i (pi 5), ex_r (pk 5 1), ex_r (pk 5 2), ex_r (pk 5 3)]), ((pk 5 1), ex_a 1 6 (pf 5)), ((pk 5 2), ex_a 1 6 (pe 5)), ((pk 5 3), ex_a 1 6 (ph 5)), ((pk 6 0), ex_o 8 [ex_i (pd 6), ex_i (ps 6), ex_i (pi 6), ex_r (pk 6 1), ex_r (pk 6 2), ex_r (pk 6 3)]), ((pk 6 1), ex_a 1 6 (pf 6)), ((pk 6 2), ex_a 1 6 (pe 6)), ((pk 6 3), ex_a 1 6 (ph 6)), ((pk 7 0), ex_o 8 [ex_i (pd 7), ex_i (ps 7), ex_i (pi 7), ex_r (pk 7 1), ex_r (pk 7 2), ex_r (pk 7 3)]), ((pk 7 1), ex_a 1 6 (pf 7)), ((pk 7 2), ex_a 1 6 (pe 7)), ((pk 7 3), ex_a 1 6 (ph 7)), ((pk 8 0), ex_o 8 [ex_i (pd 8), ex_i (ps 8), ex_i (pi 8), ex_r (pk 8 1), ex_r (pk 8 2), ex_r (pk 8 3)]), ((pk 8 1), ex_a 1 6 (pf 8)), ((pk 8 2), ex_a 1 6 (pe 8)), ((pk 8 3), ex_a 1 6 (ph 8)), ((pk 9 0), ex_o 8 [ex_i (pd 9), ex_i (ps 9), ex_i (pi 9), ex_r (pk 9 1), ex_r (pk 9 2), ex_r (pk 9 3)]), ((pk 9 1), ex_a 1 6 (pf 9)), ((pk 9 2), ex_a 1 6 (pe 9)), ((pk 9 3), ex_a 1 6 (ph 9)), ((pk 10 0), ex_o 8 [ex_i (pd 10), ex_i (ps 10), ex_i (pi 10), ex_r (pk 10 1), ex_r (pk 10 2), ex_r (pk 10 3)]), ((pk 10 1), ex_a 1 6 (pf 10)), ((pk 10 2), ex_a 1 6 (pe 10)), ((pk 10 3), ex_a 1 6 (ph 10)), ((pk 11 0), ex_o 8 [ex_i (pd 11), ex_i (ps 11), ex_i (pi 11), ex_r (pk 11 1), ex_r (pk 11 2), ex_r (pk 11 3)]), ((pk 11 1), ex_a 1 6 (pf 11)), ((pk 11 2), ex_a 1 6 (pe 11)), ((pk 11 3), ex_a 1 6 (ph 11)), ((pk 12 0), ex_o 8 [ex_i (pd 12), ex_i (ps 12), ex_i (pi 12), ex_r (pk 12 1), ex_r (pk 12 2), ex_r (pk 12 3)]), ((pk 12 1), ex_a 1 6 (pf 12)), ((pk 12 2), ex_a 1 6 (pe 12)), ((pk 12 3), ex_a 1 6 (ph 12)), ((pk 13 0), ex_o 8 [ex_i (pd 13), ex_i (ps 13), ex_i (pi 13), ex_r (pk 13 1), ex_r (pk 13 2), ex_r (pk 13 3)]), ((pk 13 1), ex_a 1 6 (pf 13)), ((pk 13 2), ex_a 1 6 (pe 13)), ((pk 13 3), ex_a 1 6 (ph 13)), ((pk 14 0), ex_o 8 [ex_i (pd 14), ex_i (ps 14), ex_i (pi 14), ex_r (pk 14 1), ex_r (pk 14 2), ex_r (pk 14 3)]), ((pk 14 1), ex_a 1 6 (pf 14)), ((pk 14 2), ex_a 1 6 (pe 14)), ((pk 14 3), ex_a 1 6 (ph 14)), ((pk 15 0), ex_o 8 [ex_i (pd 15), ex_i (ps 15), ex_i (pi 15), ex_r (pk 15 1), ex_r (pk 15 2), ex_r (pk 15 3)]), ((pk 15 1), ex_a 1 6 (pf 15)), ((pk 15 2), ex_a 1 6 (pe 15)), ((pk 15 3), ex_a 1 6 (ph 15))]
theorem nI_ofle {x : Int32} {n : Nat} (h : ¬ x < 0) (hn : n < 2 ^ 31) (c : ¬ nI n < x) : x.toNatClampNeg ≤ n := by
  obtain ⟨j, hj, rfl⟩ := nI_of h
  rw [nI_clamp hj]
  exact Nat.le_of_not_lt fun q => c (nI_lt q hj)
theorem nI_ofv {x : Int32} {n : Nat} (h : vp_in x n) (hn : n < 2 ^ 31) : x = nI x.toNatClampNeg ∧ x.toNatClampNeg < n := by
  obtain ⟨j, hj, rfl⟩ := vp_in_of h hn
  rw [nI_clamp (by omega)]
  exact ⟨rfl, hj⟩
theorem nI_mi16 {a : Nat} (ha : a < 2 ^ 31) : (if 16 < nI a then 16 else nI a) = nI (min a 16) := by
  show (if nI 16 < nI a then nI 16 else nI a) = _
  rcases Nat.lt_or_ge 16 a with h | h
  · rw [if_pos (nI_lt (a := 16) h ha), Nat.min_eq_right (Nat.le_of_lt h)]
  · rw [if_neg (nI_nlt (b := a) (a := 16) h (by decide)), Nat.min_eq_left h]

def F_X11_isPerson (p : Int32) (np : Nat) : Int32 := (if p < 0 then 0 else (if (nI np) ≤ p then 0 else 1))
set_option maxHeartbeats 4000000 in
set_option maxRecDepth 100000 in
theorem e_X11_isPerson (l : Launch) (x : Nat) (p : Int32) (t : Nat) (rd : Nat) (c : Nat) (kq : Nat) (w : Nat) (v : Nat) (n : Nat) (tl : Nat) (pa : Nat) (pnx : Nat) (pln : Nat) (ma : Nat) (hs : Nat) (pp : Nat) (pt : Nat) (pg : Nat) (kr : Nat) (c0 : Nat) (c1 : Nat) (c2 : Nat) (c3 : Nat) (c4 : Nat) (c5 : Nat) (c6 : Nat) (c7 : Nat) (c8 : Nat) (c9 : Nat) (c10 : Nat) (c11 : Nat) (c12 : Nat) (np : Nat) (nd : Nat) (sto : Int32) (res : Int32) (c17 : Nat) (c18 : Nat) (c19 : Nat) : ex_M l yX11_isPerson cX11_isPerson 2 (some .boolean) 0 0 [ex_r x, ex_i p] [(x, ex_o 11 [ex_r t, ex_r rd, ex_r c, ex_r kq, ex_r w, ex_r v, ex_r n, ex_r tl, ex_r pa, ex_i (nI pnx), ex_i (nI pln), ex_r ma, ex_r hs, ex_r pp, ex_r pt, ex_r pg, ex_r kr]), (c, ex_o 0 [ex_r c0, ex_r c1, ex_r c2, ex_r c3, ex_r c4, ex_r c5, ex_r c6, ex_r c7, ex_r c8, ex_r c9, ex_r c10, ex_r c11, ex_r c12, ex_i (nI np), ex_i (nI nd), ex_i sto, ex_i res, ex_r c17, ex_r c18, ex_r c19])] (fun zcs zr => zcs = [(x, ex_o 11 [ex_r t, ex_r rd, ex_r c, ex_r kq, ex_r w, ex_r v, ex_r n, ex_r tl, ex_r pa, ex_i (nI pnx), ex_i (nI pln), ex_r ma, ex_r hs, ex_r pp, ex_r pt, ex_r pg, ex_r kr]), (c, ex_o 0 [ex_r c0, ex_r c1, ex_r c2, ex_r c3, ex_r c4, ex_r c5, ex_r c6, ex_r c7, ex_r c8, ex_r c9, ex_r c10, ex_r c11, ex_r c12, ex_i (nI np), ex_i (nI nd), ex_i sto, ex_i res, ex_r c17, ex_r c18, ex_r c19])] ∧ zr = some (ex_i (F_X11_isPerson p np))) := by
  refine X_meth (by decide) (Nat.le_of_ble_eq_true rfl) ?_
  generalize hV : F_X11_isPerson p np = V0
  have hV := hV.symm
  unfold F_X11_isPerson at hV
  try dsimp only at hV
  refine X_iload_n (j := 1) dX11_isPerson_0 rfl rfl ?_
  refine X_if_lt (tgt := 19) dX11_isPerson_1 (by decide) (fun c_1 => ?_) (fun c_1 => ?_)
  · have hV := hV.trans (if_pos c_1)
    refine X_iconst (v := 0) dX11_isPerson_19 (by decide) ?_
    try dsimp only at hV
    exact X_iret ex_nZ rfl dX11_isPerson_20 (by (repeat refine ex_kc ?_) <;> rfl) (by subst hV; exact ⟨rfl, rfl⟩)
  · have hV := hV.trans (if_neg c_1)
    refine X_iload_n (j := 1) dX11_isPerson_4 rfl rfl ?_
    refine X_aload_n (j := 0) dX11_isPerson_5 rfl rfl ?_
    refine X_get (j := 0) fo_X11_26 dX11_isPerson_6 rfl rfl ?_
    refine X_get (j := 1) fo_X11_298 dX11_isPerson_9 rfl rfl ?_
    refine X_icmp_ge (tgt := 19) dX11_isPerson_12 (by decide) (fun c_2 => ?_) (fun c_2 => ?_)
    · have hV := hV.trans (if_pos c_2)
      refine X_iconst (v := 0) dX11_isPerson_19 (by decide) ?_
      try dsimp only at hV
      exact X_iret ex_nZ rfl dX11_isPerson_20 (by (repeat refine ex_kc ?_) <;> rfl) (by subst hV; exact ⟨rfl, rfl⟩)
    · have hV := hV.trans (if_neg c_2)
      refine X_iconst (v := 1) dX11_isPerson_15 (by decide) ?_
      refine X_goto (tgt := 20) dX11_isPerson_16 (by decide) ?_
      try dsimp only at hV
      exact X_iret ex_nZ rfl dX11_isPerson_20 (by (repeat refine ex_kc ?_) <;> rfl) (by subst hV; exact ⟨rfl, rfl⟩)
theorem F_X11_isPerson_b (p : Int32) (np : Nat) : F_X11_isPerson p np = 0 ∨ F_X11_isPerson p np = 1 := by
  unfold F_X11_isPerson
  repeat' split
  all_goals first | exact Or.inl rfl | exact Or.inr rfl

def F_X11_isDish (p : Int32) (nd : Nat) : Int32 := (if p < 0 then 0 else (if (nI nd) ≤ p then 0 else 1))
set_option maxHeartbeats 4000000 in
set_option maxRecDepth 100000 in
theorem e_X11_isDish (l : Launch) (x : Nat) (p : Int32) (t : Nat) (rd : Nat) (c : Nat) (kq : Nat) (w : Nat) (v : Nat) (n : Nat) (tl : Nat) (pa : Nat) (pnx : Nat) (pln : Nat) (ma : Nat) (hs : Nat) (pp : Nat) (pt : Nat) (pg : Nat) (kr : Nat) (c0 : Nat) (c1 : Nat) (c2 : Nat) (c3 : Nat) (c4 : Nat) (c5 : Nat) (c6 : Nat) (c7 : Nat) (c8 : Nat) (c9 : Nat) (c10 : Nat) (c11 : Nat) (c12 : Nat) (np : Nat) (nd : Nat) (sto : Int32) (res : Int32) (c17 : Nat) (c18 : Nat) (c19 : Nat) : ex_M l yX11_isDish cX11_isDish 2 (some .boolean) 0 0 [ex_r x, ex_i p] [(x, ex_o 11 [ex_r t, ex_r rd, ex_r c, ex_r kq, ex_r w, ex_r v, ex_r n, ex_r tl, ex_r pa, ex_i (nI pnx), ex_i (nI pln), ex_r ma, ex_r hs, ex_r pp, ex_r pt, ex_r pg, ex_r kr]), (c, ex_o 0 [ex_r c0, ex_r c1, ex_r c2, ex_r c3, ex_r c4, ex_r c5, ex_r c6, ex_r c7, ex_r c8, ex_r c9, ex_r c10, ex_r c11, ex_r c12, ex_i (nI np), ex_i (nI nd), ex_i sto, ex_i res, ex_r c17, ex_r c18, ex_r c19])] (fun zcs zr => zcs = [(x, ex_o 11 [ex_r t, ex_r rd, ex_r c, ex_r kq, ex_r w, ex_r v, ex_r n, ex_r tl, ex_r pa, ex_i (nI pnx), ex_i (nI pln), ex_r ma, ex_r hs, ex_r pp, ex_r pt, ex_r pg, ex_r kr]), (c, ex_o 0 [ex_r c0, ex_r c1, ex_r c2, ex_r c3, ex_r c4, ex_r c5, ex_r c6, ex_r c7, ex_r c8, ex_r c9, ex_r c10, ex_r c11, ex_r c12, ex_i (nI np), ex_i (nI nd), ex_i sto, ex_i res, ex_r c17, ex_r c18, ex_r c19])] ∧ zr = some (ex_i (F_X11_isDish p nd))) := by
  refine X_meth (by decide) (Nat.le_of_ble_eq_true rfl) ?_
  generalize hV : F_X11_isDish p nd = V0
  have hV := hV.symm
  unfold F_X11_isDish at hV
  try dsimp only at hV
  refine X_iload_n (j := 1) dX11_isDish_0 rfl rfl ?_
  refine X_if_lt (tgt := 19) dX11_isDish_1 (by decide) (fun c_1 => ?_) (fun c_1 => ?_)
  · have hV := hV.trans (if_pos c_1)
    refine X_iconst (v := 0) dX11_isDish_19 (by decide) ?_
    try dsimp only at hV
    exact X_iret ex_nZ rfl dX11_isDish_20 (by (repeat refine ex_kc ?_) <;> rfl) (by subst hV; exact ⟨rfl, rfl⟩)
  · have hV := hV.trans (if_neg c_1)
    refine X_iload_n (j := 1) dX11_isDish_4 rfl rfl ?_
    refine X_aload_n (j := 0) dX11_isDish_5 rfl rfl ?_
    refine X_get (j := 0) fo_X11_26 dX11_isDish_6 rfl rfl ?_
    refine X_get (j := 1) fo_X11_301 dX11_isDish_9 rfl rfl ?_
    refine X_icmp_ge (tgt := 19) dX11_isDish_12 (by decide) (fun c_2 => ?_) (fun c_2 => ?_)
    · have hV := hV.trans (if_pos c_2)
      refine X_iconst (v := 0) dX11_isDish_19 (by decide) ?_
      try dsimp only at hV
      exact X_iret ex_nZ rfl dX11_isDish_20 (by (repeat refine ex_kc ?_) <;> rfl) (by subst hV; exact ⟨rfl, rfl⟩)
    · have hV := hV.trans (if_neg c_2)
      refine X_iconst (v := 1) dX11_isDish_15 (by decide) ?_
      refine X_goto (tgt := 20) dX11_isDish_16 (by decide) ?_
      try dsimp only at hV
      exact X_iret ex_nZ rfl dX11_isDish_20 (by (repeat refine ex_kc ?_) <;> rfl) (by subst hV; exact ⟨rfl, rfl⟩)
theorem F_X11_isDish_b (p : Int32) (nd : Nat) : F_X11_isDish p nd = 0 ∨ F_X11_isDish p nd = 1 := by
  unfold F_X11_isDish
  repeat' split
  all_goals first | exact Or.inl rfl | exact Or.inr rfl

theorem isPe_of {p : Int32} {np : Nat} (h : ¬ F_X11_isPerson p np = 0) (hn : np ≤ 6) : p = nI p.toNatClampNeg ∧ p.toNatClampNeg < np := by
  unfold F_X11_isPerson at h
  by_cases c : p < 0
  · rw [if_pos c] at h
    exact absurd rfl h
  · rw [if_neg c] at h
    by_cases c2 : nI np ≤ p
    · rw [if_pos c2] at h
      exact absurd rfl h
    · exact ⟨nI_ofc c, nI_ofl c (by omega) c2⟩
theorem isDi_of {p : Int32} {nd : Nat} (h : ¬ F_X11_isDish p nd = 0) (hn : nd ≤ 5) : p = nI p.toNatClampNeg ∧ p.toNatClampNeg < nd := isPe_of (np := nd) h (by omega)

def F_X11_dish (dx : Int32) (wt : Int32) (nd : Nat) (bi : Nat → Int32) (sa : Nat → Int32) (co : Nat → Int32) : Int32 := (if (F_X11_isDish dx nd) = 0 then (-1) else (if wt = 0 then (bi dx.toNatClampNeg) else (if wt = 1 then (sa dx.toNatClampNeg) else (if wt = 2 then (co dx.toNatClampNeg) else (-1)))))
set_option maxHeartbeats 4000000 in
set_option maxRecDepth 100000 in
theorem e_X11_dish (l : Launch) (x : Nat) (dx : Int32) (wt : Int32) (t : Nat) (rd : Nat) (c : Nat) (kq : Nat) (w : Nat) (v : Nat) (n : Nat) (tl : Nat) (pa : Nat) (pnx : Nat) (pln : Nat) (ma : Nat) (hs : Nat) (pp : Nat) (pt : Nat) (pg : Nat) (kr : Nat) (c0 : Nat) (c1 : Nat) (c2 : Nat) (c3 : Nat) (c4 : Nat) (c5 : Nat) (c6 : Nat) (c7 : Nat) (c8 : Nat) (c9 : Nat) (c10 : Nat) (c11 : Nat) (c12 : Nat) (np : Nat) (nd : Nat) (sto : Int32) (res : Int32) (c17 : Nat) (c18 : Nat) (c19 : Nat) (bi : Nat → Int32) (sa : Nat → Int32) (co : Nat → Int32) (hnd : nd ≤ 5) : ex_M l yX11_dish cX11_dish 3 (some .int) 1 21 [ex_r x, ex_i dx, ex_i wt] [(x, ex_o 11 [ex_r t, ex_r rd, ex_r c, ex_r kq, ex_r w, ex_r v, ex_r n, ex_r tl, ex_r pa, ex_i (nI pnx), ex_i (nI pln), ex_r ma, ex_r hs, ex_r pp, ex_r pt, ex_r pg, ex_r kr]), (c, ex_o 0 [ex_r c0, ex_r c1, ex_r c2, ex_r c3, ex_r c4, ex_r c5, ex_r c6, ex_r c7, ex_r c8, ex_r c9, ex_r c10, ex_r c11, ex_r c12, ex_i (nI np), ex_i (nI nd), ex_i sto, ex_i res, ex_r c17, ex_r c18, ex_r c19]), (c9, ex_a 1 5 bi), (c10, ex_a 1 5 sa), (c11, ex_a 1 5 co)] (fun zcs zr => zcs = [(x, ex_o 11 [ex_r t, ex_r rd, ex_r c, ex_r kq, ex_r w, ex_r v, ex_r n, ex_r tl, ex_r pa, ex_i (nI pnx), ex_i (nI pln), ex_r ma, ex_r hs, ex_r pp, ex_r pt, ex_r pg, ex_r kr]), (c, ex_o 0 [ex_r c0, ex_r c1, ex_r c2, ex_r c3, ex_r c4, ex_r c5, ex_r c6, ex_r c7, ex_r c8, ex_r c9, ex_r c10, ex_r c11, ex_r c12, ex_i (nI np), ex_i (nI nd), ex_i sto, ex_i res, ex_r c17, ex_r c18, ex_r c19]), (c9, ex_a 1 5 bi), (c10, ex_a 1 5 sa), (c11, ex_a 1 5 co)] ∧ zr = some (ex_i (F_X11_dish dx wt nd bi sa co))) := by
  refine X_meth (by decide) (Nat.le_of_ble_eq_true rfl) ?_
  generalize hV : F_X11_dish dx wt nd bi sa co = V0
  have hV := hV.symm
  unfold F_X11_dish at hV
  try dsimp only at hV
  refine X_aload_n (j := 0) dX11_dish_0 rfl rfl ?_
  refine X_iload_n (j := 1) dX11_dish_1 rfl rfl ?_
  refine X_callV (j0 := 0) (rest := [(c9, ex_a 1 5 bi), (c10, ex_a 1 5 sa), (c11, ex_a 1 5 co)]) (stk := []) co_X11_153 rfl ⟨(Nat.le_of_ble_eq_true rfl), (Nat.le_of_ble_eq_true rfl)⟩ (e_X11_isDish l x dx t rd c kq w v n tl pa pnx pln ma hs pp pt pg kr c0 c1 c2 c3 c4 c5 c6 c7 c8 c9 c10 c11 c12 np nd sto res c17 c18 c19) dX11_dish_2 [0, 1, 2, 3, 4] (show List.Perm [0, 1, 2, 3, 4] (List.range 5) from by decide) rfl rfl rfl rfl (Nat.le_of_ble_eq_true rfl) (fun zc1 zr hq hk => ?_)
  obtain ⟨rfl, rfl⟩ := hq
  refine X_if_ne (tgt := 10) dX11_dish_5 (by decide) (fun c_1 => ?_) (fun c_1 => ?_)
  · have hV := hV.trans (if_neg c_1)
    have hz1 := isDi_of c_1 hnd
    have hx1 := hz1.1
    have hl1 := hz1.2
    refine X_eq (cs' := [(x, ex_o 11 [ex_r t, ex_r rd, ex_r c, ex_r kq, ex_r w, ex_r v, ex_r n, ex_r tl, ex_r pa, ex_i (nI pnx), ex_i (nI pln), ex_r ma, ex_r hs, ex_r pp, ex_r pt, ex_r pg, ex_r kr]), (c, ex_o 0 [ex_r c0, ex_r c1, ex_r c2, ex_r c3, ex_r c4, ex_r c5, ex_r c6, ex_r c7, ex_r c8, ex_r c9, ex_r c10, ex_r c11, ex_r c12, ex_i (nI np), ex_i (nI nd), ex_i sto, ex_i res, ex_r c17, ex_r c18, ex_r c19]), (c9, ex_a 1 5 bi), (c10, ex_a 1 5 sa), (c11, ex_a 1 5 co)]) (lv' := [(0, ex_r x), (1, ex_i (nI dx.toNatClampNeg)), (2, ex_i wt)]) rfl (by rw [← hx1] <;> rfl) ?_
    refine X_iload_n (j := 2) dX11_dish_10 rfl rfl ?_
    by_cases hw_2 : wt = 0
    · have hV := hV.trans (if_pos hw_2)
      refine X_tabIn (off := 25) (tgt := 36) dX11_dish_11 (by rw [hw_2]; decide) (by rw [hw_2]; decide) (by rw [hw_2]; decide) (by decide) ?_
      refine X_aload_n (j := 0) dX11_dish_36 rfl rfl ?_
      refine X_get (j := 0) fo_X11_26 dX11_dish_37 rfl rfl ?_
      refine X_get (j := 1) fo_X11_156 dX11_dish_40 rfl rfl ?_
      refine X_iload_n (j := 1) dX11_dish_43 rfl rfl ?_
      refine X_iald (j := 2) (v := (bi dx.toNatClampNeg)) dX11_dish_44 rfl (vp_in_nI (show dx.toNatClampNeg < 5 by omega) (by decide)) (by rw [nI_clamp (by omega)]) ?_
      try dsimp only at hV
      exact X_iret ex_nI rfl dX11_dish_45 (by (repeat refine ex_kc ?_) <;> rfl) (by subst hV; exact ⟨rfl, rfl⟩)
    have hV := hV.trans (if_neg hw_2)
    by_cases hw_3 : wt = 1
    · have hV := hV.trans (if_pos hw_3)
      refine X_tabIn (off := 35) (tgt := 46) dX11_dish_11 (by rw [hw_3]; decide) (by rw [hw_3]; decide) (by rw [hw_3]; decide) (by decide) ?_
      refine X_aload_n (j := 0) dX11_dish_46 rfl rfl ?_
      refine X_get (j := 0) fo_X11_26 dX11_dish_47 rfl rfl ?_
      refine X_get (j := 1) fo_X11_159 dX11_dish_50 rfl rfl ?_
      refine X_iload_n (j := 1) dX11_dish_53 rfl rfl ?_
      refine X_iald (j := 3) (v := (sa dx.toNatClampNeg)) dX11_dish_54 rfl (vp_in_nI (show dx.toNatClampNeg < 5 by omega) (by decide)) (by rw [nI_clamp (by omega)]) ?_
      try dsimp only at hV
      exact X_iret ex_nI rfl dX11_dish_55 (by (repeat refine ex_kc ?_) <;> rfl) (by subst hV; exact ⟨rfl, rfl⟩)
    have hV := hV.trans (if_neg hw_3)
    by_cases hw_4 : wt = 2
    · have hV := hV.trans (if_pos hw_4)
      refine X_tabIn (off := 45) (tgt := 56) dX11_dish_11 (by rw [hw_4]; decide) (by rw [hw_4]; decide) (by rw [hw_4]; decide) (by decide) ?_
      refine X_aload_n (j := 0) dX11_dish_56 rfl rfl ?_
      refine X_get (j := 0) fo_X11_26 dX11_dish_57 rfl rfl ?_
      refine X_get (j := 1) fo_X11_162 dX11_dish_60 rfl rfl ?_
      refine X_iload_n (j := 1) dX11_dish_63 rfl rfl ?_
      refine X_iald (j := 4) (v := (co dx.toNatClampNeg)) dX11_dish_64 rfl (vp_in_nI (show dx.toNatClampNeg < 5 by omega) (by decide)) (by rw [nI_clamp (by omega)]) ?_
      try dsimp only at hV
      exact X_iret ex_nI rfl dX11_dish_65 (by (repeat refine ex_kc ?_) <;> rfl) (by subst hV; exact ⟨rfl, rfl⟩)
    have hV := hV.trans (if_neg hw_4)
    refine X_tabOut (tgt := 66) dX11_dish_11 (by have n0 : wt.toInt ≠ 0 := fun q => hw_2 (Int32.toInt_inj.mp (q.trans (by decide))); have n1 : wt.toInt ≠ 1 := fun q => hw_3 (Int32.toInt_inj.mp (q.trans (by decide))); have n2 : wt.toInt ≠ 2 := fun q => hw_4 (Int32.toInt_inj.mp (q.trans (by decide))); omega) (by decide) ?_
    refine X_iconst (v := (-1)) dX11_dish_66 (by decide) ?_
    try dsimp only at hV
    exact X_iret ex_nI rfl dX11_dish_67 (by (repeat refine ex_kc ?_) <;> rfl) (by subst hV; exact ⟨rfl, rfl⟩)
  · have hV := hV.trans (if_pos c_1)
    refine X_iconst (v := (-1)) dX11_dish_8 (by decide) ?_
    try dsimp only at hV
    exact X_iret ex_nI rfl dX11_dish_9 (by (repeat refine ex_kc ?_) <;> rfl) (by subst hV; exact ⟨rfl, rfl⟩)

def F_X11_person (px : Int32) (wt : Int32) (np : Nat) (kd : Nat → Int32) (hg : Nat → Int32) (ta : Nat → Int32) (vo : Nat → Int32) (sf : Nat → Int32) (st : Nat → Int32) (dy : Int32) (fu : Nat → Int32) (ae : Nat → Int32) (hu : Nat → Int32) : Int32 := (if (F_X11_isPerson px np) = 0 then (-1) else (if wt = 0 then (kd px.toNatClampNeg) else (if wt = 1 then (hg px.toNatClampNeg) else (if wt = 2 then (ta px.toNatClampNeg) else (if wt = 3 then (vo px.toNatClampNeg) else (if wt = 4 then (fu px.toNatClampNeg) else (if wt = 5 then (if (F_X8_sits px.toNatClampNeg dy sf st) = 0 then 0 else 1) else (if wt = 6 then (ae px.toNatClampNeg) else (if wt = 7 then (hu px.toNatClampNeg) else (-1))))))))))
set_option maxHeartbeats 4000000 in
set_option maxRecDepth 100000 in
theorem e_X11_person (l : Launch) (x : Nat) (px : Int32) (wt : Int32) (t : Nat) (rd : Nat) (c : Nat) (kq : Nat) (w : Nat) (v : Nat) (n : Nat) (tl : Nat) (pa : Nat) (pnx : Nat) (pln : Nat) (ma : Nat) (hs : Nat) (pp : Nat) (pt : Nat) (pg : Nat) (kr : Nat) (c0 : Nat) (c1 : Nat) (c2 : Nat) (c3 : Nat) (c4 : Nat) (c5 : Nat) (c6 : Nat) (c7 : Nat) (c8 : Nat) (c9 : Nat) (c10 : Nat) (c11 : Nat) (c12 : Nat) (np : Nat) (nd : Nat) (sto : Int32) (res : Int32) (c17 : Nat) (c18 : Nat) (c19 : Nat) (kd : Nat → Int32) (hg : Nat → Int32) (ta : Nat → Int32) (vo : Nat → Int32) (sf : Nat → Int32) (st : Nat → Int32) (dy : Int32) (sr : Int32) (il : Int32) (nf : Nat) (na : Nat) (nh : Nat) (fu : Nat → Int32) (ae : Nat → Int32) (hu : Nat → Int32) (hnp : np ≤ 6) : ex_M l yX11_person cX11_person 3 (some .int) 2 44 [ex_r x, ex_i px, ex_i wt] [(x, ex_o 11 [ex_r t, ex_r rd, ex_r c, ex_r kq, ex_r w, ex_r v, ex_r n, ex_r tl, ex_r pa, ex_i (nI pnx), ex_i (nI pln), ex_r ma, ex_r hs, ex_r pp, ex_r pt, ex_r pg, ex_r kr]), (c, ex_o 0 [ex_r c0, ex_r c1, ex_r c2, ex_r c3, ex_r c4, ex_r c5, ex_r c6, ex_r c7, ex_r c8, ex_r c9, ex_r c10, ex_r c11, ex_r c12, ex_i (nI np), ex_i (nI nd), ex_i sto, ex_i res, ex_r c17, ex_r c18, ex_r c19]), (c1, ex_a 1 6 kd), (c2, ex_a 1 6 hg), (c3, ex_a 1 6 ta), (c4, ex_a 1 6 vo), (c5, ex_a 1 6 sf), (c6, ex_a 1 6 st), (n, ex_o 8 [ex_i dy, ex_i sr, ex_i il, ex_r nf, ex_r na, ex_r nh]), (nf, ex_a 1 6 fu), (na, ex_a 1 6 ae), (nh, ex_a 1 6 hu)] (fun zcs zr => zcs = [(x, ex_o 11 [ex_r t, ex_r rd, ex_r c, ex_r kq, ex_r w, ex_r v, ex_r n, ex_r tl, ex_r pa, ex_i (nI pnx), ex_i (nI pln), ex_r ma, ex_r hs, ex_r pp, ex_r pt, ex_r pg, ex_r kr]), (c, ex_o 0 [ex_r c0, ex_r c1, ex_r c2, ex_r c3, ex_r c4, ex_r c5, ex_r c6, ex_r c7, ex_r c8, ex_r c9, ex_r c10, ex_r c11, ex_r c12, ex_i (nI np), ex_i (nI nd), ex_i sto, ex_i res, ex_r c17, ex_r c18, ex_r c19]), (c1, ex_a 1 6 kd), (c2, ex_a 1 6 hg), (c3, ex_a 1 6 ta), (c4, ex_a 1 6 vo), (c5, ex_a 1 6 sf), (c6, ex_a 1 6 st), (n, ex_o 8 [ex_i dy, ex_i sr, ex_i il, ex_r nf, ex_r na, ex_r nh]), (nf, ex_a 1 6 fu), (na, ex_a 1 6 ae), (nh, ex_a 1 6 hu)] ∧ zr = some (ex_i (F_X11_person px wt np kd hg ta vo sf st dy fu ae hu))) := by
  refine X_meth (by decide) (Nat.le_of_ble_eq_true rfl) ?_
  generalize hV : F_X11_person px wt np kd hg ta vo sf st dy fu ae hu = V0
  have hV := hV.symm
  unfold F_X11_person at hV
  try dsimp only at hV
  refine X_aload_n (j := 0) dX11_person_0 rfl rfl ?_
  refine X_iload_n (j := 1) dX11_person_1 rfl rfl ?_
  refine X_callV (j0 := 0) (rest := [(c1, ex_a 1 6 kd), (c2, ex_a 1 6 hg), (c3, ex_a 1 6 ta), (c4, ex_a 1 6 vo), (c5, ex_a 1 6 sf), (c6, ex_a 1 6 st), (n, ex_o 8 [ex_i dy, ex_i sr, ex_i il, ex_r nf, ex_r na, ex_r nh]), (nf, ex_a 1 6 fu), (na, ex_a 1 6 ae), (nh, ex_a 1 6 hu)]) (stk := []) co_X11_124 rfl ⟨(Nat.le_of_ble_eq_true rfl), (Nat.le_of_ble_eq_true rfl)⟩ (e_X11_isPerson l x px t rd c kq w v n tl pa pnx pln ma hs pp pt pg kr c0 c1 c2 c3 c4 c5 c6 c7 c8 c9 c10 c11 c12 np nd sto res c17 c18 c19) dX11_person_2 [0, 1, 2, 3, 4, 5, 6, 7, 8, 9, 10, 11] (show List.Perm [0, 1, 2, 3, 4, 5, 6, 7, 8, 9, 10, 11] (List.range 12) from by decide) rfl rfl rfl rfl (Nat.le_of_ble_eq_true rfl) (fun zc1 zr hq hk => ?_)
  obtain ⟨rfl, rfl⟩ := hq
  refine X_if_ne (tgt := 10) dX11_person_5 (by decide) (fun c_1 => ?_) (fun c_1 => ?_)
  · have hV := hV.trans (if_neg c_1)
    have hz1 := isPe_of c_1 hnp
    have hx1 := hz1.1
    have hl1 := hz1.2
    refine X_eq (cs' := [(x, ex_o 11 [ex_r t, ex_r rd, ex_r c, ex_r kq, ex_r w, ex_r v, ex_r n, ex_r tl, ex_r pa, ex_i (nI pnx), ex_i (nI pln), ex_r ma, ex_r hs, ex_r pp, ex_r pt, ex_r pg, ex_r kr]), (c, ex_o 0 [ex_r c0, ex_r c1, ex_r c2, ex_r c3, ex_r c4, ex_r c5, ex_r c6, ex_r c7, ex_r c8, ex_r c9, ex_r c10, ex_r c11, ex_r c12, ex_i (nI np), ex_i (nI nd), ex_i sto, ex_i res, ex_r c17, ex_r c18, ex_r c19]), (c1, ex_a 1 6 kd), (c2, ex_a 1 6 hg), (c3, ex_a 1 6 ta), (c4, ex_a 1 6 vo), (c5, ex_a 1 6 sf), (c6, ex_a 1 6 st), (n, ex_o 8 [ex_i dy, ex_i sr, ex_i il, ex_r nf, ex_r na, ex_r nh]), (nf, ex_a 1 6 fu), (na, ex_a 1 6 ae), (nh, ex_a 1 6 hu)]) (lv' := [(0, ex_r x), (1, ex_i (nI px.toNatClampNeg)), (2, ex_i wt)]) rfl (by rw [← hx1] <;> rfl) ?_
    refine X_iload_n (j := 2) dX11_person_10 rfl rfl ?_
    by_cases hw_2 : wt = 0
    · have hV := hV.trans (if_pos hw_2)
      refine X_tabIn (off := 45) (tgt := 56) dX11_person_11 (by rw [hw_2]; decide) (by rw [hw_2]; decide) (by rw [hw_2]; decide) (by decide) ?_
      refine X_aload_n (j := 0) dX11_person_56 rfl rfl ?_
      refine X_get (j := 0) fo_X11_26 dX11_person_57 rfl rfl ?_
      refine X_get (j := 1) fo_X11_128 dX11_person_60 rfl rfl ?_
      refine X_iload_n (j := 1) dX11_person_63 rfl rfl ?_
      refine X_iald (j := 2) (v := (kd px.toNatClampNeg)) dX11_person_64 rfl (vp_in_nI (show px.toNatClampNeg < 6 by omega) (by decide)) (by rw [nI_clamp (by omega)]) ?_
      try dsimp only at hV
      exact X_iret ex_nI rfl dX11_person_65 (by (repeat refine ex_kc ?_) <;> rfl) (by subst hV; exact ⟨rfl, rfl⟩)
    have hV := hV.trans (if_neg hw_2)
    by_cases hw_3 : wt = 1
    · have hV := hV.trans (if_pos hw_3)
      refine X_tabIn (off := 55) (tgt := 66) dX11_person_11 (by rw [hw_3]; decide) (by rw [hw_3]; decide) (by rw [hw_3]; decide) (by decide) ?_
      refine X_aload_n (j := 0) dX11_person_66 rfl rfl ?_
      refine X_get (j := 0) fo_X11_26 dX11_person_67 rfl rfl ?_
      refine X_get (j := 1) fo_X11_131 dX11_person_70 rfl rfl ?_
      refine X_iload_n (j := 1) dX11_person_73 rfl rfl ?_
      refine X_iald (j := 3) (v := (hg px.toNatClampNeg)) dX11_person_74 rfl (vp_in_nI (show px.toNatClampNeg < 6 by omega) (by decide)) (by rw [nI_clamp (by omega)]) ?_
      try dsimp only at hV
      exact X_iret ex_nI rfl dX11_person_75 (by (repeat refine ex_kc ?_) <;> rfl) (by subst hV; exact ⟨rfl, rfl⟩)
    have hV := hV.trans (if_neg hw_3)
    by_cases hw_4 : wt = 2
    · have hV := hV.trans (if_pos hw_4)
      refine X_tabIn (off := 65) (tgt := 76) dX11_person_11 (by rw [hw_4]; decide) (by rw [hw_4]; decide) (by rw [hw_4]; decide) (by decide) ?_
      refine X_aload_n (j := 0) dX11_person_76 rfl rfl ?_
      refine X_get (j := 0) fo_X11_26 dX11_person_77 rfl rfl ?_
      refine X_get (j := 1) fo_X11_134 dX11_person_80 rfl rfl ?_
      refine X_iload_n (j := 1) dX11_person_83 rfl rfl ?_
      refine X_iald (j := 4) (v := (ta px.toNatClampNeg)) dX11_person_84 rfl (vp_in_nI (show px.toNatClampNeg < 6 by omega) (by decide)) (by rw [nI_clamp (by omega)]) ?_
      try dsimp only at hV
      exact X_iret ex_nI rfl dX11_person_85 (by (repeat refine ex_kc ?_) <;> rfl) (by subst hV; exact ⟨rfl, rfl⟩)
    have hV := hV.trans (if_neg hw_4)
    by_cases hw_5 : wt = 3
    · have hV := hV.trans (if_pos hw_5)
      refine X_tabIn (off := 75) (tgt := 86) dX11_person_11 (by rw [hw_5]; decide) (by rw [hw_5]; decide) (by rw [hw_5]; decide) (by decide) ?_
      refine X_aload_n (j := 0) dX11_person_86 rfl rfl ?_
      refine X_get (j := 0) fo_X11_26 dX11_person_87 rfl rfl ?_
      refine X_get (j := 1) fo_X11_137 dX11_person_90 rfl rfl ?_
      refine X_iload_n (j := 1) dX11_person_93 rfl rfl ?_
      refine X_iald (j := 5) (v := (vo px.toNatClampNeg)) dX11_person_94 rfl (vp_in_nI (show px.toNatClampNeg < 6 by omega) (by decide)) (by rw [nI_clamp (by omega)]) ?_
      try dsimp only at hV
      exact X_iret ex_nI rfl dX11_person_95 (by (repeat refine ex_kc ?_) <;> rfl) (by subst hV; exact ⟨rfl, rfl⟩)
    have hV := hV.trans (if_neg hw_5)
    by_cases hw_6 : wt = 4
    · have hV := hV.trans (if_pos hw_6)
      refine X_tabIn (off := 85) (tgt := 96) dX11_person_11 (by rw [hw_6]; decide) (by rw [hw_6]; decide) (by rw [hw_6]; decide) (by decide) ?_
      refine X_aload_n (j := 0) dX11_person_96 rfl rfl ?_
      refine X_get (j := 0) fo_X11_46 dX11_person_97 rfl rfl ?_
      refine X_get (j := 8) fo_X11_140 dX11_person_100 rfl rfl ?_
      refine X_iload_n (j := 1) dX11_person_103 rfl rfl ?_
      refine X_iald (j := 9) (v := (fu px.toNatClampNeg)) dX11_person_104 rfl (vp_in_nI (show px.toNatClampNeg < 6 by omega) (by decide)) (by rw [nI_clamp (by omega)]) ?_
      try dsimp only at hV
      exact X_iret ex_nI rfl dX11_person_105 (by (repeat refine ex_kc ?_) <;> rfl) (by subst hV; exact ⟨rfl, rfl⟩)
    have hV := hV.trans (if_neg hw_6)
    by_cases hw_7 : wt = 5
    · have hV := hV.trans (if_pos hw_7)
      refine X_tabIn (off := 95) (tgt := 106) dX11_person_11 (by rw [hw_7]; decide) (by rw [hw_7]; decide) (by rw [hw_7]; decide) (by decide) ?_
      refine X_aload_n (j := 0) dX11_person_106 rfl rfl ?_
      refine X_get (j := 0) fo_X11_46 dX11_person_107 rfl rfl ?_
      refine X_aload_n (j := 0) dX11_person_110 rfl rfl ?_
      refine X_get (j := 0) fo_X11_26 dX11_person_111 rfl rfl ?_
      refine X_iload_n (j := 1) dX11_person_114 rfl rfl ?_
      refine X_callV (j0 := 0) (rest := [(x, ex_o 11 [ex_r t, ex_r rd, ex_r c, ex_r kq, ex_r w, ex_r v, ex_r n, ex_r tl, ex_r pa, ex_i (nI pnx), ex_i (nI pln), ex_r ma, ex_r hs, ex_r pp, ex_r pt, ex_r pg, ex_r kr]), (c1, ex_a 1 6 kd), (c2, ex_a 1 6 hg), (c3, ex_a 1 6 ta), (c4, ex_a 1 6 vo), (nf, ex_a 1 6 fu), (na, ex_a 1 6 ae), (nh, ex_a 1 6 hu)]) (stk := []) co_X11_143 rfl ⟨(Nat.le_of_ble_eq_true rfl), (Nat.le_of_ble_eq_true rfl)⟩ (e_X8_sits l n c px.toNatClampNeg dy sr il nf na nh c0 c1 c2 c3 c4 c5 c6 c7 c8 c9 c10 c11 c12 np nd sto res c17 c18 c19 sf st (by first | assumption | omega)) dX11_person_115 [8, 1, 6, 7, 0, 2, 3, 4, 5, 9, 10, 11] (show List.Perm [8, 1, 6, 7, 0, 2, 3, 4, 5, 9, 10, 11] (List.range 12) from by decide) rfl rfl rfl rfl (Nat.le_of_ble_eq_true rfl) (fun zc1 zr hq hk => ?_)
      obtain ⟨rfl, rfl⟩ := hq
      refine X_if_eq (tgt := 125) dX11_person_118 (by decide) (fun c_8 => ?_) (fun c_8 => ?_)
      · have hV := hV.trans (if_pos c_8)
        refine X_iconst (v := 0) dX11_person_125 (by decide) ?_
        try dsimp only at hV
        refine X_re (cs' := [(x, ex_o 11 [ex_r t, ex_r rd, ex_r c, ex_r kq, ex_r w, ex_r v, ex_r n, ex_r tl, ex_r pa, ex_i (nI pnx), ex_i (nI pln), ex_r ma, ex_r hs, ex_r pp, ex_r pt, ex_r pg, ex_r kr]), (c, ex_o 0 [ex_r c0, ex_r c1, ex_r c2, ex_r c3, ex_r c4, ex_r c5, ex_r c6, ex_r c7, ex_r c8, ex_r c9, ex_r c10, ex_r c11, ex_r c12, ex_i (nI np), ex_i (nI nd), ex_i sto, ex_i res, ex_r c17, ex_r c18, ex_r c19]), (c1, ex_a 1 6 kd), (c2, ex_a 1 6 hg), (c3, ex_a 1 6 ta), (c4, ex_a 1 6 vo), (c5, ex_a 1 6 sf), (c6, ex_a 1 6 st), (n, ex_o 8 [ex_i dy, ex_i sr, ex_i il, ex_r nf, ex_r na, ex_r nh]), (nf, ex_a 1 6 fu), (na, ex_a 1 6 ae), (nh, ex_a 1 6 hu)]) [4, 1, 5, 6, 7, 8, 2, 3, 0, 9, 10, 11] (show List.Perm [4, 1, 5, 6, 7, 8, 2, 3, 0, 9, 10, 11] (List.range 12) from by decide) rfl ?_
        exact X_iret ex_nI rfl dX11_person_126 (by (repeat refine ex_kc ?_) <;> rfl) (by subst hV; exact ⟨rfl, rfl⟩)
      · have hV := hV.trans (if_neg c_8)
        refine X_iconst (v := 1) dX11_person_121 (by decide) ?_
        refine X_goto (tgt := 126) dX11_person_122 (by decide) ?_
        try dsimp only at hV
        refine X_re (cs' := [(x, ex_o 11 [ex_r t, ex_r rd, ex_r c, ex_r kq, ex_r w, ex_r v, ex_r n, ex_r tl, ex_r pa, ex_i (nI pnx), ex_i (nI pln), ex_r ma, ex_r hs, ex_r pp, ex_r pt, ex_r pg, ex_r kr]), (c, ex_o 0 [ex_r c0, ex_r c1, ex_r c2, ex_r c3, ex_r c4, ex_r c5, ex_r c6, ex_r c7, ex_r c8, ex_r c9, ex_r c10, ex_r c11, ex_r c12, ex_i (nI np), ex_i (nI nd), ex_i sto, ex_i res, ex_r c17, ex_r c18, ex_r c19]), (c1, ex_a 1 6 kd), (c2, ex_a 1 6 hg), (c3, ex_a 1 6 ta), (c4, ex_a 1 6 vo), (c5, ex_a 1 6 sf), (c6, ex_a 1 6 st), (n, ex_o 8 [ex_i dy, ex_i sr, ex_i il, ex_r nf, ex_r na, ex_r nh]), (nf, ex_a 1 6 fu), (na, ex_a 1 6 ae), (nh, ex_a 1 6 hu)]) [4, 1, 5, 6, 7, 8, 2, 3, 0, 9, 10, 11] (show List.Perm [4, 1, 5, 6, 7, 8, 2, 3, 0, 9, 10, 11] (List.range 12) from by decide) rfl ?_
        exact X_iret ex_nI rfl dX11_person_126 (by (repeat refine ex_kc ?_) <;> rfl) (by subst hV; exact ⟨rfl, rfl⟩)
    have hV := hV.trans (if_neg hw_7)
    by_cases hw_9 : wt = 6
    · have hV := hV.trans (if_pos hw_9)
      refine X_tabIn (off := 116) (tgt := 127) dX11_person_11 (by rw [hw_9]; decide) (by rw [hw_9]; decide) (by rw [hw_9]; decide) (by decide) ?_
      refine X_aload_n (j := 0) dX11_person_127 rfl rfl ?_
      refine X_get (j := 0) fo_X11_46 dX11_person_128 rfl rfl ?_
      refine X_get (j := 8) fo_X11_147 dX11_person_131 rfl rfl ?_
      refine X_iload_n (j := 1) dX11_person_134 rfl rfl ?_
      refine X_iald (j := 10) (v := (ae px.toNatClampNeg)) dX11_person_135 rfl (vp_in_nI (show px.toNatClampNeg < 6 by omega) (by decide)) (by rw [nI_clamp (by omega)]) ?_
      try dsimp only at hV
      exact X_iret ex_nI rfl dX11_person_136 (by (repeat refine ex_kc ?_) <;> rfl) (by subst hV; exact ⟨rfl, rfl⟩)
    have hV := hV.trans (if_neg hw_9)
    by_cases hw_10 : wt = 7
    · have hV := hV.trans (if_pos hw_10)
      refine X_tabIn (off := 126) (tgt := 137) dX11_person_11 (by rw [hw_10]; decide) (by rw [hw_10]; decide) (by rw [hw_10]; decide) (by decide) ?_
      refine X_aload_n (j := 0) dX11_person_137 rfl rfl ?_
      refine X_get (j := 0) fo_X11_46 dX11_person_138 rfl rfl ?_
      refine X_get (j := 8) fo_X11_150 dX11_person_141 rfl rfl ?_
      refine X_iload_n (j := 1) dX11_person_144 rfl rfl ?_
      refine X_iald (j := 11) (v := (hu px.toNatClampNeg)) dX11_person_145 rfl (vp_in_nI (show px.toNatClampNeg < 6 by omega) (by decide)) (by rw [nI_clamp (by omega)]) ?_
      try dsimp only at hV
      exact X_iret ex_nI rfl dX11_person_146 (by (repeat refine ex_kc ?_) <;> rfl) (by subst hV; exact ⟨rfl, rfl⟩)
    have hV := hV.trans (if_neg hw_10)
    refine X_tabOut (tgt := 147) dX11_person_11 (by have n0 : wt.toInt ≠ 0 := fun q => hw_2 (Int32.toInt_inj.mp (q.trans (by decide))); have n1 : wt.toInt ≠ 1 := fun q => hw_3 (Int32.toInt_inj.mp (q.trans (by decide))); have n2 : wt.toInt ≠ 2 := fun q => hw_4 (Int32.toInt_inj.mp (q.trans (by decide))); have n3 : wt.toInt ≠ 3 := fun q => hw_5 (Int32.toInt_inj.mp (q.trans (by decide))); have n4 : wt.toInt ≠ 4 := fun q => hw_6 (Int32.toInt_inj.mp (q.trans (by decide))); have n5 : wt.toInt ≠ 5 := fun q => hw_7 (Int32.toInt_inj.mp (q.trans (by decide))); have n6 : wt.toInt ≠ 6 := fun q => hw_9 (Int32.toInt_inj.mp (q.trans (by decide))); have n7 : wt.toInt ≠ 7 := fun q => hw_10 (Int32.toInt_inj.mp (q.trans (by decide))); omega) (by decide) ?_
    refine X_iconst (v := (-1)) dX11_person_147 (by decide) ?_
    try dsimp only at hV
    exact X_iret ex_nI rfl dX11_person_148 (by (repeat refine ex_kc ?_) <;> rfl) (by subst hV; exact ⟨rfl, rfl⟩)
  · have hV := hV.trans (if_pos c_1)
    refine X_iconst (v := (-1)) dX11_person_8 (by decide) ?_
    try dsimp only at hV
    exact X_iret ex_nI rfl dX11_person_9 (by (repeat refine ex_kc ?_) <;> rfl) (by subst hV; exact ⟨rfl, rfl⟩)

def F_X11_canBeMeal (ex : Int32) (dx : Int32) (dy : Int32) (sr : Int32) (np : Nat) (nd : Nat) (kd : Nat → Int32) (sf : Nat → Int32) (st : Nat → Int32) (co : Nat → Int32) : Int32 := (if (F_X11_isPerson ex np) = 0 then 0 else (if (F_X11_isDish dx nd) = 0 then 0 else (if (F_X8_canEat ex.toNatClampNeg dx.toNatClampNeg dy sr kd sf st co) = 0 then 0 else 1)))
set_option maxHeartbeats 4000000 in
set_option maxRecDepth 100000 in
theorem e_X11_canBeMeal (l : Launch) (x : Nat) (ex : Int32) (dx : Int32) (t : Nat) (rd : Nat) (c : Nat) (kq : Nat) (w : Nat) (v : Nat) (n : Nat) (tl : Nat) (pa : Nat) (pnx : Nat) (pln : Nat) (ma : Nat) (hs : Nat) (pp : Nat) (pt : Nat) (pg : Nat) (kr : Nat) (dy : Int32) (sr : Int32) (il : Int32) (nf : Nat) (na : Nat) (nh : Nat) (c0 : Nat) (c1 : Nat) (c2 : Nat) (c3 : Nat) (c4 : Nat) (c5 : Nat) (c6 : Nat) (c7 : Nat) (c8 : Nat) (c9 : Nat) (c10 : Nat) (c11 : Nat) (c12 : Nat) (np : Nat) (nd : Nat) (sto : Int32) (res : Int32) (c17 : Nat) (c18 : Nat) (c19 : Nat) (kd : Nat → Int32) (sf : Nat → Int32) (st : Nat → Int32) (co : Nat → Int32) (hnp : np ≤ 6) (hnd : nd ≤ 5) : ex_M l yX11_canBeMeal cX11_canBeMeal 3 (some .boolean) 3 67 [ex_r x, ex_i ex, ex_i dx] [(x, ex_o 11 [ex_r t, ex_r rd, ex_r c, ex_r kq, ex_r w, ex_r v, ex_r n, ex_r tl, ex_r pa, ex_i (nI pnx), ex_i (nI pln), ex_r ma, ex_r hs, ex_r pp, ex_r pt, ex_r pg, ex_r kr]), (n, ex_o 8 [ex_i dy, ex_i sr, ex_i il, ex_r nf, ex_r na, ex_r nh]), (c, ex_o 0 [ex_r c0, ex_r c1, ex_r c2, ex_r c3, ex_r c4, ex_r c5, ex_r c6, ex_r c7, ex_r c8, ex_r c9, ex_r c10, ex_r c11, ex_r c12, ex_i (nI np), ex_i (nI nd), ex_i sto, ex_i res, ex_r c17, ex_r c18, ex_r c19]), (c1, ex_a 1 6 kd), (c5, ex_a 1 6 sf), (c6, ex_a 1 6 st), (c11, ex_a 1 5 co)] (fun zcs zr => zcs = [(x, ex_o 11 [ex_r t, ex_r rd, ex_r c, ex_r kq, ex_r w, ex_r v, ex_r n, ex_r tl, ex_r pa, ex_i (nI pnx), ex_i (nI pln), ex_r ma, ex_r hs, ex_r pp, ex_r pt, ex_r pg, ex_r kr]), (n, ex_o 8 [ex_i dy, ex_i sr, ex_i il, ex_r nf, ex_r na, ex_r nh]), (c, ex_o 0 [ex_r c0, ex_r c1, ex_r c2, ex_r c3, ex_r c4, ex_r c5, ex_r c6, ex_r c7, ex_r c8, ex_r c9, ex_r c10, ex_r c11, ex_r c12, ex_i (nI np), ex_i (nI nd), ex_i sto, ex_i res, ex_r c17, ex_r c18, ex_r c19]), (c1, ex_a 1 6 kd), (c5, ex_a 1 6 sf), (c6, ex_a 1 6 st), (c11, ex_a 1 5 co)] ∧ zr = some (ex_i (F_X11_canBeMeal ex dx dy sr np nd kd sf st co))) := by
  refine X_meth (by decide) (Nat.le_of_ble_eq_true rfl) ?_
  generalize hV : F_X11_canBeMeal ex dx dy sr np nd kd sf st co = V0
  have hV := hV.symm
  unfold F_X11_canBeMeal at hV
  try dsimp only at hV
  refine X_aload_n (j := 0) dX11_canBeMeal_0 rfl rfl ?_
  refine X_iload_n (j := 1) dX11_canBeMeal_1 rfl rfl ?_
  refine X_callV (j0 := 0) (rest := [(n, ex_o 8 [ex_i dy, ex_i sr, ex_i il, ex_r nf, ex_r na, ex_r nh]), (c1, ex_a 1 6 kd), (c5, ex_a 1 6 sf), (c6, ex_a 1 6 st), (c11, ex_a 1 5 co)]) (stk := []) co_X11_124 rfl ⟨(Nat.le_of_ble_eq_true rfl), (Nat.le_of_ble_eq_true rfl)⟩ (e_X11_isPerson l x ex t rd c kq w v n tl pa pnx pln ma hs pp pt pg kr c0 c1 c2 c3 c4 c5 c6 c7 c8 c9 c10 c11 c12 np nd sto res c17 c18 c19) dX11_canBeMeal_2 [0, 2, 1, 3, 4, 5, 6] (show List.Perm [0, 2, 1, 3, 4, 5, 6] (List.range 7) from by decide) rfl rfl rfl rfl (Nat.le_of_ble_eq_true rfl) (fun zc1 zr hq hk => ?_)
  obtain ⟨rfl, rfl⟩ := hq
  refine X_if_eq (tgt := 36) dX11_canBeMeal_5 (by decide) (fun c_1 => ?_) (fun c_1 => ?_)
  · have hV := hV.trans (if_pos c_1)
    refine X_iconst (v := 0) dX11_canBeMeal_36 (by decide) ?_
    try dsimp only at hV
    refine X_re (cs' := [(x, ex_o 11 [ex_r t, ex_r rd, ex_r c, ex_r kq, ex_r w, ex_r v, ex_r n, ex_r tl, ex_r pa, ex_i (nI pnx), ex_i (nI pln), ex_r ma, ex_r hs, ex_r pp, ex_r pt, ex_r pg, ex_r kr]), (n, ex_o 8 [ex_i dy, ex_i sr, ex_i il, ex_r nf, ex_r na, ex_r nh]), (c, ex_o 0 [ex_r c0, ex_r c1, ex_r c2, ex_r c3, ex_r c4, ex_r c5, ex_r c6, ex_r c7, ex_r c8, ex_r c9, ex_r c10, ex_r c11, ex_r c12, ex_i (nI np), ex_i (nI nd), ex_i sto, ex_i res, ex_r c17, ex_r c18, ex_r c19]), (c1, ex_a 1 6 kd), (c5, ex_a 1 6 sf), (c6, ex_a 1 6 st), (c11, ex_a 1 5 co)]) [0, 2, 1, 3, 4, 5, 6] (show List.Perm [0, 2, 1, 3, 4, 5, 6] (List.range 7) from by decide) rfl ?_
    exact X_iret ex_nZ rfl dX11_canBeMeal_37 (by (repeat refine ex_kc ?_) <;> rfl) (by subst hV; exact ⟨rfl, rfl⟩)
  · have hV := hV.trans (if_neg c_1)
    refine X_aload_n (j := 0) dX11_canBeMeal_8 rfl rfl ?_
    refine X_iload_n (j := 2) dX11_canBeMeal_9 rfl rfl ?_
    refine X_callV (j0 := 0) (rest := [(n, ex_o 8 [ex_i dy, ex_i sr, ex_i il, ex_r nf, ex_r na, ex_r nh]), (c1, ex_a 1 6 kd), (c5, ex_a 1 6 sf), (c6, ex_a 1 6 st), (c11, ex_a 1 5 co)]) (stk := []) co_X11_153 rfl ⟨(Nat.le_of_ble_eq_true rfl), (Nat.le_of_ble_eq_true rfl)⟩ (e_X11_isDish l x dx t rd c kq w v n tl pa pnx pln ma hs pp pt pg kr c0 c1 c2 c3 c4 c5 c6 c7 c8 c9 c10 c11 c12 np nd sto res c17 c18 c19) dX11_canBeMeal_10 [0, 1, 2, 3, 4, 5, 6] (show List.Perm [0, 1, 2, 3, 4, 5, 6] (List.range 7) from by decide) rfl rfl rfl rfl (Nat.le_of_ble_eq_true rfl) (fun zc1 zr hq hk => ?_)
    obtain ⟨rfl, rfl⟩ := hq
    refine X_if_eq (tgt := 36) dX11_canBeMeal_13 (by decide) (fun c_2 => ?_) (fun c_2 => ?_)
    · have hV := hV.trans (if_pos c_2)
      refine X_iconst (v := 0) dX11_canBeMeal_36 (by decide) ?_
      try dsimp only at hV
      refine X_re (cs' := [(x, ex_o 11 [ex_r t, ex_r rd, ex_r c, ex_r kq, ex_r w, ex_r v, ex_r n, ex_r tl, ex_r pa, ex_i (nI pnx), ex_i (nI pln), ex_r ma, ex_r hs, ex_r pp, ex_r pt, ex_r pg, ex_r kr]), (n, ex_o 8 [ex_i dy, ex_i sr, ex_i il, ex_r nf, ex_r na, ex_r nh]), (c, ex_o 0 [ex_r c0, ex_r c1, ex_r c2, ex_r c3, ex_r c4, ex_r c5, ex_r c6, ex_r c7, ex_r c8, ex_r c9, ex_r c10, ex_r c11, ex_r c12, ex_i (nI np), ex_i (nI nd), ex_i sto, ex_i res, ex_r c17, ex_r c18, ex_r c19]), (c1, ex_a 1 6 kd), (c5, ex_a 1 6 sf), (c6, ex_a 1 6 st), (c11, ex_a 1 5 co)]) [0, 2, 1, 3, 4, 5, 6] (show List.Perm [0, 2, 1, 3, 4, 5, 6] (List.range 7) from by decide) rfl ?_
      exact X_iret ex_nZ rfl dX11_canBeMeal_37 (by (repeat refine ex_kc ?_) <;> rfl) (by subst hV; exact ⟨rfl, rfl⟩)
    · have hV := hV.trans (if_neg c_2)
      have hz1 := isPe_of c_1 hnp
      have hx1 := hz1.1
      have hl1 := hz1.2
      refine X_eq (cs' := [(x, ex_o 11 [ex_r t, ex_r rd, ex_r c, ex_r kq, ex_r w, ex_r v, ex_r n, ex_r tl, ex_r pa, ex_i (nI pnx), ex_i (nI pln), ex_r ma, ex_r hs, ex_r pp, ex_r pt, ex_r pg, ex_r kr]), (c, ex_o 0 [ex_r c0, ex_r c1, ex_r c2, ex_r c3, ex_r c4, ex_r c5, ex_r c6, ex_r c7, ex_r c8, ex_r c9, ex_r c10, ex_r c11, ex_r c12, ex_i (nI np), ex_i (nI nd), ex_i sto, ex_i res, ex_r c17, ex_r c18, ex_r c19]), (n, ex_o 8 [ex_i dy, ex_i sr, ex_i il, ex_r nf, ex_r na, ex_r nh]), (c1, ex_a 1 6 kd), (c5, ex_a 1 6 sf), (c6, ex_a 1 6 st), (c11, ex_a 1 5 co)]) (lv' := [(0, ex_r x), (1, ex_i (nI ex.toNatClampNeg)), (2, ex_i dx)]) rfl (by rw [← hx1] <;> rfl) ?_
      have hz2 := isDi_of c_2 hnd
      have hx2 := hz2.1
      have hl2 := hz2.2
      refine X_eq (cs' := [(x, ex_o 11 [ex_r t, ex_r rd, ex_r c, ex_r kq, ex_r w, ex_r v, ex_r n, ex_r tl, ex_r pa, ex_i (nI pnx), ex_i (nI pln), ex_r ma, ex_r hs, ex_r pp, ex_r pt, ex_r pg, ex_r kr]), (c, ex_o 0 [ex_r c0, ex_r c1, ex_r c2, ex_r c3, ex_r c4, ex_r c5, ex_r c6, ex_r c7, ex_r c8, ex_r c9, ex_r c10, ex_r c11, ex_r c12, ex_i (nI np), ex_i (nI nd), ex_i sto, ex_i res, ex_r c17, ex_r c18, ex_r c19]), (n, ex_o 8 [ex_i dy, ex_i sr, ex_i il, ex_r nf, ex_r na, ex_r nh]), (c1, ex_a 1 6 kd), (c5, ex_a 1 6 sf), (c6, ex_a 1 6 st), (c11, ex_a 1 5 co)]) (lv' := [(0, ex_r x), (1, ex_i (nI ex.toNatClampNeg)), (2, ex_i (nI dx.toNatClampNeg))]) rfl (by rw [← hx2] <;> rfl) ?_
      refine X_aload_n (j := 0) dX11_canBeMeal_16 rfl rfl ?_
      refine X_get (j := 0) fo_X11_46 dX11_canBeMeal_17 rfl rfl ?_
      refine X_aload_n (j := 0) dX11_canBeMeal_20 rfl rfl ?_
      refine X_get (j := 0) fo_X11_26 dX11_canBeMeal_21 rfl rfl ?_
      refine X_iload_n (j := 1) dX11_canBeMeal_24 rfl rfl ?_
      refine X_iload_n (j := 2) dX11_canBeMeal_25 rfl rfl ?_
      refine X_callV (j0 := 0) (rest := [(x, ex_o 11 [ex_r t, ex_r rd, ex_r c, ex_r kq, ex_r w, ex_r v, ex_r n, ex_r tl, ex_r pa, ex_i (nI pnx), ex_i (nI pln), ex_r ma, ex_r hs, ex_r pp, ex_r pt, ex_r pg, ex_r kr])]) (stk := []) co_X11_328 rfl ⟨(Nat.le_of_ble_eq_true rfl), (Nat.le_of_ble_eq_true rfl)⟩ (e_X8_canEat l n c ex.toNatClampNeg dx.toNatClampNeg dy sr il nf na nh c0 c1 c2 c3 c4 c5 c6 c7 c8 c9 c10 c11 c12 np nd sto res c17 c18 c19 kd sf st co (by first | assumption | omega) (by first | assumption | omega)) dX11_canBeMeal_26 [2, 1, 3, 4, 5, 6, 0] (show List.Perm [2, 1, 3, 4, 5, 6, 0] (List.range 7) from by decide) rfl rfl rfl rfl (Nat.le_of_ble_eq_true rfl) (fun zc1 zr hq hk => ?_)
      obtain ⟨rfl, rfl⟩ := hq
      refine X_if_eq (tgt := 36) dX11_canBeMeal_29 (by decide) (fun c_3 => ?_) (fun c_3 => ?_)
      · have hV := hV.trans (if_pos c_3)
        refine X_iconst (v := 0) dX11_canBeMeal_36 (by decide) ?_
        try dsimp only at hV
        refine X_re (cs' := [(x, ex_o 11 [ex_r t, ex_r rd, ex_r c, ex_r kq, ex_r w, ex_r v, ex_r n, ex_r tl, ex_r pa, ex_i (nI pnx), ex_i (nI pln), ex_r ma, ex_r hs, ex_r pp, ex_r pt, ex_r pg, ex_r kr]), (n, ex_o 8 [ex_i dy, ex_i sr, ex_i il, ex_r nf, ex_r na, ex_r nh]), (c, ex_o 0 [ex_r c0, ex_r c1, ex_r c2, ex_r c3, ex_r c4, ex_r c5, ex_r c6, ex_r c7, ex_r c8, ex_r c9, ex_r c10, ex_r c11, ex_r c12, ex_i (nI np), ex_i (nI nd), ex_i sto, ex_i res, ex_r c17, ex_r c18, ex_r c19]), (c1, ex_a 1 6 kd), (c5, ex_a 1 6 sf), (c6, ex_a 1 6 st), (c11, ex_a 1 5 co)]) [6, 0, 1, 2, 3, 4, 5] (show List.Perm [6, 0, 1, 2, 3, 4, 5] (List.range 7) from by decide) rfl ?_
        exact X_iret ex_nZ rfl dX11_canBeMeal_37 (by (repeat refine ex_kc ?_) <;> rfl) (by subst hV; exact ⟨rfl, rfl⟩)
      · have hV := hV.trans (if_neg c_3)
        refine X_iconst (v := 1) dX11_canBeMeal_32 (by decide) ?_
        refine X_goto (tgt := 37) dX11_canBeMeal_33 (by decide) ?_
        try dsimp only at hV
        refine X_re (cs' := [(x, ex_o 11 [ex_r t, ex_r rd, ex_r c, ex_r kq, ex_r w, ex_r v, ex_r n, ex_r tl, ex_r pa, ex_i (nI pnx), ex_i (nI pln), ex_r ma, ex_r hs, ex_r pp, ex_r pt, ex_r pg, ex_r kr]), (n, ex_o 8 [ex_i dy, ex_i sr, ex_i il, ex_r nf, ex_r na, ex_r nh]), (c, ex_o 0 [ex_r c0, ex_r c1, ex_r c2, ex_r c3, ex_r c4, ex_r c5, ex_r c6, ex_r c7, ex_r c8, ex_r c9, ex_r c10, ex_r c11, ex_r c12, ex_i (nI np), ex_i (nI nd), ex_i sto, ex_i res, ex_r c17, ex_r c18, ex_r c19]), (c1, ex_a 1 6 kd), (c5, ex_a 1 6 sf), (c6, ex_a 1 6 st), (c11, ex_a 1 5 co)]) [6, 0, 1, 2, 3, 4, 5] (show List.Perm [6, 0, 1, 2, 3, 4, 5] (List.range 7) from by decide) rfl ?_
        exact X_iret ex_nZ rfl dX11_canBeMeal_37 (by (repeat refine ex_kc ?_) <;> rfl) (by subst hV; exact ⟨rfl, rfl⟩)
theorem F_X11_canBeMeal_b (ex : Int32) (dx : Int32) (dy : Int32) (sr : Int32) (np : Nat) (nd : Nat) (kd : Nat → Int32) (sf : Nat → Int32) (st : Nat → Int32) (co : Nat → Int32) : F_X11_canBeMeal ex dx dy sr np nd kd sf st co = 0 ∨ F_X11_canBeMeal ex dx dy sr np nd kd sf st co = 1 := by
  unfold F_X11_canBeMeal
  repeat' split
  all_goals first | exact Or.inl rfl | exact Or.inr rfl

theorem canB_of {e d dy sr : Int32} {kd sf st co : Nat → Int32} {np nd : Nat} (h : ¬ F_X11_canBeMeal e d dy sr np nd kd sf st co = 0) (hn : np ≤ 6) (hn5 : nd ≤ 5) : (e = nI e.toNatClampNeg ∧ e.toNatClampNeg < np) ∧ (d = nI d.toNatClampNeg ∧ d.toNatClampNeg < nd) := by
  unfold F_X11_canBeMeal at h
  by_cases c : F_X11_isPerson e np = 0
  · rw [if_pos c] at h
    exact absurd rfl h
  · rw [if_neg c] at h
    by_cases c2 : F_X11_isDish d nd = 0
    · rw [if_pos c2] at h
      exact absurd rfl h
    · exact ⟨isPe_of c hn, isDi_of c2 hn5⟩

def F_X11_would (ex : Int32) (dx : Int32) (slow : Int32) (px : Int32) (dy : Int32) (sr : Int32) (ae : Nat → Int32) (np : Nat) (nd : Nat) (res : Int32) (kd : Nat → Int32) (sf : Nat → Int32) (st : Nat → Int32) (co : Nat → Int32) (gf : Nat → Int32) : Int32 := (if (F_X11_canBeMeal ex dx dy sr np nd kd sf st co) = 0 then (-1) else (if (F_X11_isPerson px np) = 0 then (-1) else (F_X8_gain ex.toNatClampNeg dx.toNatClampNeg slow px.toNatClampNeg dy ae res sf st gf)))
set_option maxHeartbeats 4000000 in
set_option maxRecDepth 100000 in
theorem e_X11_would (l : Launch) (x : Nat) (ex : Int32) (dx : Int32) (slow : Int32) (px : Int32) (t : Nat) (rd : Nat) (c : Nat) (kq : Nat) (w : Nat) (v : Nat) (n : Nat) (tl : Nat) (pa : Nat) (pnx : Nat) (pln : Nat) (ma : Nat) (hs : Nat) (pp : Nat) (pt : Nat) (pg : Nat) (kr : Nat) (dy : Int32) (sr : Int32) (il : Int32) (nf : Nat) (na : Nat) (nh : Nat) (ae : Nat → Int32) (c0 : Nat) (c1 : Nat) (c2 : Nat) (c3 : Nat) (c4 : Nat) (c5 : Nat) (c6 : Nat) (c7 : Nat) (c8 : Nat) (c9 : Nat) (c10 : Nat) (c11 : Nat) (c12 : Nat) (np : Nat) (nd : Nat) (sto : Int32) (res : Int32) (c17 : Nat) (c18 : Nat) (c19 : Nat) (kd : Nat → Int32) (sf : Nat → Int32) (st : Nat → Int32) (co : Nat → Int32) (gf : Nat → Int32) (hnp : np ≤ 6) (hnd : nd ≤ 5) : ex_M l yX11_would cX11_would 5 (some .int) 4 89 [ex_r x, ex_i ex, ex_i dx, ex_i slow, ex_i px] [(x, ex_o 11 [ex_r t, ex_r rd, ex_r c, ex_r kq, ex_r w, ex_r v, ex_r n, ex_r tl, ex_r pa, ex_i (nI pnx), ex_i (nI pln), ex_r ma, ex_r hs, ex_r pp, ex_r pt, ex_r pg, ex_r kr]), (n, ex_o 8 [ex_i dy, ex_i sr, ex_i il, ex_r nf, ex_r na, ex_r nh]), (na, ex_a 1 6 ae), (c, ex_o 0 [ex_r c0, ex_r c1, ex_r c2, ex_r c3, ex_r c4, ex_r c5, ex_r c6, ex_r c7, ex_r c8, ex_r c9, ex_r c10, ex_r c11, ex_r c12, ex_i (nI np), ex_i (nI nd), ex_i sto, ex_i res, ex_r c17, ex_r c18, ex_r c19]), (c1, ex_a 1 6 kd), (c5, ex_a 1 6 sf), (c6, ex_a 1 6 st), (c11, ex_a 1 5 co), (c17, ex_a 1 360 gf)] (fun zcs zr => zcs = [(x, ex_o 11 [ex_r t, ex_r rd, ex_r c, ex_r kq, ex_r w, ex_r v, ex_r n, ex_r tl, ex_r pa, ex_i (nI pnx), ex_i (nI pln), ex_r ma, ex_r hs, ex_r pp, ex_r pt, ex_r pg, ex_r kr]), (n, ex_o 8 [ex_i dy, ex_i sr, ex_i il, ex_r nf, ex_r na, ex_r nh]), (na, ex_a 1 6 ae), (c, ex_o 0 [ex_r c0, ex_r c1, ex_r c2, ex_r c3, ex_r c4, ex_r c5, ex_r c6, ex_r c7, ex_r c8, ex_r c9, ex_r c10, ex_r c11, ex_r c12, ex_i (nI np), ex_i (nI nd), ex_i sto, ex_i res, ex_r c17, ex_r c18, ex_r c19]), (c1, ex_a 1 6 kd), (c5, ex_a 1 6 sf), (c6, ex_a 1 6 st), (c11, ex_a 1 5 co), (c17, ex_a 1 360 gf)] ∧ zr = some (ex_i (F_X11_would ex dx slow px dy sr ae np nd res kd sf st co gf))) := by
  refine X_meth (by decide) (Nat.le_of_ble_eq_true rfl) ?_
  generalize hV : F_X11_would ex dx slow px dy sr ae np nd res kd sf st co gf = V0
  have hV := hV.symm
  unfold F_X11_would at hV
  try dsimp only at hV
  refine X_aload_n (j := 0) dX11_would_0 rfl rfl ?_
  refine X_iload_n (j := 1) dX11_would_1 rfl rfl ?_
  refine X_iload_n (j := 2) dX11_would_2 rfl rfl ?_
  refine X_callV (j0 := 0) (rest := [(na, ex_a 1 6 ae), (c17, ex_a 1 360 gf)]) (stk := []) co_X11_165 rfl ⟨(Nat.le_of_ble_eq_true rfl), (Nat.le_of_ble_eq_true rfl)⟩ (e_X11_canBeMeal l x ex dx t rd c kq w v n tl pa pnx pln ma hs pp pt pg kr dy sr il nf na nh c0 c1 c2 c3 c4 c5 c6 c7 c8 c9 c10 c11 c12 np nd sto res c17 c18 c19 kd sf st co (by first | assumption | omega) (by first | assumption | omega)) dX11_would_3 [0, 1, 3, 4, 5, 6, 7, 2, 8] (show List.Perm [0, 1, 3, 4, 5, 6, 7, 2, 8] (List.range 9) from by decide) rfl rfl rfl rfl (Nat.le_of_ble_eq_true rfl) (fun zc1 zr hq hk => ?_)
  obtain ⟨rfl, rfl⟩ := hq
  refine X_if_eq (tgt := 18) dX11_would_6 (by decide) (fun c_1 => ?_) (fun c_1 => ?_)
  · have hV := hV.trans (if_pos c_1)
    refine X_iconst (v := (-1)) dX11_would_18 (by decide) ?_
    try dsimp only at hV
    refine X_re (cs' := [(x, ex_o 11 [ex_r t, ex_r rd, ex_r c, ex_r kq, ex_r w, ex_r v, ex_r n, ex_r tl, ex_r pa, ex_i (nI pnx), ex_i (nI pln), ex_r ma, ex_r hs, ex_r pp, ex_r pt, ex_r pg, ex_r kr]), (n, ex_o 8 [ex_i dy, ex_i sr, ex_i il, ex_r nf, ex_r na, ex_r nh]), (na, ex_a 1 6 ae), (c, ex_o 0 [ex_r c0, ex_r c1, ex_r c2, ex_r c3, ex_r c4, ex_r c5, ex_r c6, ex_r c7, ex_r c8, ex_r c9, ex_r c10, ex_r c11, ex_r c12, ex_i (nI np), ex_i (nI nd), ex_i sto, ex_i res, ex_r c17, ex_r c18, ex_r c19]), (c1, ex_a 1 6 kd), (c5, ex_a 1 6 sf), (c6, ex_a 1 6 st), (c11, ex_a 1 5 co), (c17, ex_a 1 360 gf)]) [0, 1, 7, 2, 3, 4, 5, 6, 8] (show List.Perm [0, 1, 7, 2, 3, 4, 5, 6, 8] (List.range 9) from by decide) rfl ?_
    exact X_iret ex_nI rfl dX11_would_19 (by (repeat refine ex_kc ?_) <;> rfl) (by subst hV; exact ⟨rfl, rfl⟩)
  · have hV := hV.trans (if_neg c_1)
    refine X_aload_n (j := 0) dX11_would_9 rfl rfl ?_
    refine X_iload (j := 4) dX11_would_10 rfl ?_
    refine X_callV (j0 := 0) (rest := [(n, ex_o 8 [ex_i dy, ex_i sr, ex_i il, ex_r nf, ex_r na, ex_r nh]), (c1, ex_a 1 6 kd), (c5, ex_a 1 6 sf), (c6, ex_a 1 6 st), (c11, ex_a 1 5 co), (na, ex_a 1 6 ae), (c17, ex_a 1 360 gf)]) (stk := []) co_X11_124 rfl ⟨(Nat.le_of_ble_eq_true rfl), (Nat.le_of_ble_eq_true rfl)⟩ (e_X11_isPerson l x px t rd c kq w v n tl pa pnx pln ma hs pp pt pg kr c0 c1 c2 c3 c4 c5 c6 c7 c8 c9 c10 c11 c12 np nd sto res c17 c18 c19) dX11_would_12 [0, 2, 1, 3, 4, 5, 6, 7, 8] (show List.Perm [0, 2, 1, 3, 4, 5, 6, 7, 8] (List.range 9) from by decide) rfl rfl rfl rfl (Nat.le_of_ble_eq_true rfl) (fun zc1 zr hq hk => ?_)
    obtain ⟨rfl, rfl⟩ := hq
    refine X_if_ne (tgt := 20) dX11_would_15 (by decide) (fun c_2 => ?_) (fun c_2 => ?_)
    · have hV := hV.trans (if_neg c_2)
      have hcb := canB_of c_1 hnp hnd
      have hx1 := hcb.1.1
      have hl1 := hcb.1.2
      have hx2 := hcb.2.1
      have hl2 := hcb.2.2
      refine X_eq (cs' := [(x, ex_o 11 [ex_r t, ex_r rd, ex_r c, ex_r kq, ex_r w, ex_r v, ex_r n, ex_r tl, ex_r pa, ex_i (nI pnx), ex_i (nI pln), ex_r ma, ex_r hs, ex_r pp, ex_r pt, ex_r pg, ex_r kr]), (c, ex_o 0 [ex_r c0, ex_r c1, ex_r c2, ex_r c3, ex_r c4, ex_r c5, ex_r c6, ex_r c7, ex_r c8, ex_r c9, ex_r c10, ex_r c11, ex_r c12, ex_i (nI np), ex_i (nI nd), ex_i sto, ex_i res, ex_r c17, ex_r c18, ex_r c19]), (n, ex_o 8 [ex_i dy, ex_i sr, ex_i il, ex_r nf, ex_r na, ex_r nh]), (c1, ex_a 1 6 kd), (c5, ex_a 1 6 sf), (c6, ex_a 1 6 st), (c11, ex_a 1 5 co), (na, ex_a 1 6 ae), (c17, ex_a 1 360 gf)]) (lv' := [(0, ex_r x), (1, ex_i (nI ex.toNatClampNeg)), (2, ex_i dx), (3, ex_i slow), (4, ex_i px)]) rfl (by rw [← hx1] <;> rfl) ?_
      refine X_eq (cs' := [(x, ex_o 11 [ex_r t, ex_r rd, ex_r c, ex_r kq, ex_r w, ex_r v, ex_r n, ex_r tl, ex_r pa, ex_i (nI pnx), ex_i (nI pln), ex_r ma, ex_r hs, ex_r pp, ex_r pt, ex_r pg, ex_r kr]), (c, ex_o 0 [ex_r c0, ex_r c1, ex_r c2, ex_r c3, ex_r c4, ex_r c5, ex_r c6, ex_r c7, ex_r c8, ex_r c9, ex_r c10, ex_r c11, ex_r c12, ex_i (nI np), ex_i (nI nd), ex_i sto, ex_i res, ex_r c17, ex_r c18, ex_r c19]), (n, ex_o 8 [ex_i dy, ex_i sr, ex_i il, ex_r nf, ex_r na, ex_r nh]), (c1, ex_a 1 6 kd), (c5, ex_a 1 6 sf), (c6, ex_a 1 6 st), (c11, ex_a 1 5 co), (na, ex_a 1 6 ae), (c17, ex_a 1 360 gf)]) (lv' := [(0, ex_r x), (1, ex_i (nI ex.toNatClampNeg)), (2, ex_i (nI dx.toNatClampNeg)), (3, ex_i slow), (4, ex_i px)]) rfl (by rw [← hx2] <;> rfl) ?_
      have hz4 := isPe_of c_2 hnp
      have hx4 := hz4.1
      have hl4 := hz4.2
      refine X_eq (cs' := [(x, ex_o 11 [ex_r t, ex_r rd, ex_r c, ex_r kq, ex_r w, ex_r v, ex_r n, ex_r tl, ex_r pa, ex_i (nI pnx), ex_i (nI pln), ex_r ma, ex_r hs, ex_r pp, ex_r pt, ex_r pg, ex_r kr]), (c, ex_o 0 [ex_r c0, ex_r c1, ex_r c2, ex_r c3, ex_r c4, ex_r c5, ex_r c6, ex_r c7, ex_r c8, ex_r c9, ex_r c10, ex_r c11, ex_r c12, ex_i (nI np), ex_i (nI nd), ex_i sto, ex_i res, ex_r c17, ex_r c18, ex_r c19]), (n, ex_o 8 [ex_i dy, ex_i sr, ex_i il, ex_r nf, ex_r na, ex_r nh]), (c1, ex_a 1 6 kd), (c5, ex_a 1 6 sf), (c6, ex_a 1 6 st), (c11, ex_a 1 5 co), (na, ex_a 1 6 ae), (c17, ex_a 1 360 gf)]) (lv' := [(0, ex_r x), (1, ex_i (nI ex.toNatClampNeg)), (2, ex_i (nI dx.toNatClampNeg)), (3, ex_i slow), (4, ex_i (nI px.toNatClampNeg))]) rfl (by rw [← hx4] <;> rfl) ?_
      refine X_aload_n (j := 0) dX11_would_20 rfl rfl ?_
      refine X_get (j := 0) fo_X11_46 dX11_would_21 rfl rfl ?_
      refine X_aload_n (j := 0) dX11_would_24 rfl rfl ?_
      refine X_get (j := 0) fo_X11_26 dX11_would_25 rfl rfl ?_
      refine X_iload_n (j := 1) dX11_would_28 rfl rfl ?_
      refine X_iload_n (j := 2) dX11_would_29 rfl rfl ?_
      refine X_iload_n (j := 3) dX11_would_30 rfl rfl ?_
      refine X_iload (j := 4) dX11_would_31 rfl ?_
      refine X_callV (j0 := 0) (rest := [(x, ex_o 11 [ex_r t, ex_r rd, ex_r c, ex_r kq, ex_r w, ex_r v, ex_r n, ex_r tl, ex_r pa, ex_i (nI pnx), ex_i (nI pln), ex_r ma, ex_r hs, ex_r pp, ex_r pt, ex_r pg, ex_r kr]), (c1, ex_a 1 6 kd), (c11, ex_a 1 5 co)]) (stk := []) co_X11_169 rfl ⟨(Nat.le_of_ble_eq_true rfl), (Nat.le_of_ble_eq_true rfl)⟩ (e_X8_gain l n c ex.toNatClampNeg dx.toNatClampNeg slow px.toNatClampNeg dy sr il nf na nh ae c0 c1 c2 c3 c4 c5 c6 c7 c8 c9 c10 c11 c12 np nd sto res c17 c18 c19 sf st gf (by first | assumption | omega) (by first | assumption | omega) (by first | assumption | omega)) dX11_would_33 [2, 7, 1, 4, 5, 8, 0, 3, 6] (show List.Perm [2, 7, 1, 4, 5, 8, 0, 3, 6] (List.range 9) from by decide) rfl rfl rfl rfl (Nat.le_of_ble_eq_true rfl) (fun zc1 zr hq hk => ?_)
      obtain ⟨rfl, rfl⟩ := hq
      try dsimp only at hV
      refine X_re (cs' := [(x, ex_o 11 [ex_r t, ex_r rd, ex_r c, ex_r kq, ex_r w, ex_r v, ex_r n, ex_r tl, ex_r pa, ex_i (nI pnx), ex_i (nI pln), ex_r ma, ex_r hs, ex_r pp, ex_r pt, ex_r pg, ex_r kr]), (n, ex_o 8 [ex_i dy, ex_i sr, ex_i il, ex_r nf, ex_r na, ex_r nh]), (na, ex_a 1 6 ae), (c, ex_o 0 [ex_r c0, ex_r c1, ex_r c2, ex_r c3, ex_r c4, ex_r c5, ex_r c6, ex_r c7, ex_r c8, ex_r c9, ex_r c10, ex_r c11, ex_r c12, ex_i (nI np), ex_i (nI nd), ex_i sto, ex_i res, ex_r c17, ex_r c18, ex_r c19]), (c1, ex_a 1 6 kd), (c5, ex_a 1 6 sf), (c6, ex_a 1 6 st), (c11, ex_a 1 5 co), (c17, ex_a 1 360 gf)]) [6, 0, 1, 2, 7, 3, 4, 8, 5] (show List.Perm [6, 0, 1, 2, 7, 3, 4, 8, 5] (List.range 9) from by decide) rfl ?_
      exact X_iret ex_nI rfl dX11_would_36 (by (repeat refine ex_kc ?_) <;> rfl) (by subst hV; exact ⟨rfl, rfl⟩)
    · have hV := hV.trans (if_pos c_2)
      refine X_iconst (v := (-1)) dX11_would_18 (by decide) ?_
      try dsimp only at hV
      refine X_re (cs' := [(x, ex_o 11 [ex_r t, ex_r rd, ex_r c, ex_r kq, ex_r w, ex_r v, ex_r n, ex_r tl, ex_r pa, ex_i (nI pnx), ex_i (nI pln), ex_r ma, ex_r hs, ex_r pp, ex_r pt, ex_r pg, ex_r kr]), (n, ex_o 8 [ex_i dy, ex_i sr, ex_i il, ex_r nf, ex_r na, ex_r nh]), (na, ex_a 1 6 ae), (c, ex_o 0 [ex_r c0, ex_r c1, ex_r c2, ex_r c3, ex_r c4, ex_r c5, ex_r c6, ex_r c7, ex_r c8, ex_r c9, ex_r c10, ex_r c11, ex_r c12, ex_i (nI np), ex_i (nI nd), ex_i sto, ex_i res, ex_r c17, ex_r c18, ex_r c19]), (c1, ex_a 1 6 kd), (c5, ex_a 1 6 sf), (c6, ex_a 1 6 st), (c11, ex_a 1 5 co), (c17, ex_a 1 360 gf)]) [0, 2, 7, 1, 3, 4, 5, 6, 8] (show List.Perm [0, 2, 7, 1, 3, 4, 5, 6, 8] (List.range 9) from by decide) rfl ?_
      exact X_iret ex_nI rfl dX11_would_19 (by (repeat refine ex_kc ?_) <;> rfl) (by subst hV; exact ⟨rfl, rfl⟩)
