/-! the FAULT of a commune, by the signs alone: below the length; of no row that was there before; own -/
section FC
variable {f g : Nat → Int32} {L : Nat} (h : ∀ j, j < L → f j = g j)
theorem fc_skf (h : ∀ j, j < L → f j = g j) (p : Int32 → Bool) : ∀ k n : Nat, skf p f L k n = skf p g L k n
  | 0, _ => rfl
  | k + 1, n => by
    unfold skf
    by_cases q : n < L
    · rw [h n q, fc_skf h p k (n + 1)]
    · rw [if_neg (fun z => q z.1), if_neg (fun z => q z.1)]
theorem fc_sk (h : ∀ j, j < L → f j = g j) (p : Int32 → Bool) : sk p f L = sk p g L := by
  funext n
  exact fc_skf h p _ n
theorem fc_P (h : ∀ j, j < L → f j = g j) : tP f L = tP g L := by
  funext n
  unfold tP
  rw [fc_sk h]
theorem fc_N (h : ∀ j, j < L → f j = g j) : tN f L = tN g L := by
  funext n
  unfold tN
  rw [fc_P h]
  by_cases q : tP g L n < L
  · rw [if_pos q, if_pos q, h _ q, fc_sk h, fc_sk h]
  · rw [if_neg q, if_neg q]
theorem fc_K (h : ∀ j, j < L → f j = g j) : tK f L = tK g L := by
  funext n
  unfold tK
  rw [fc_P h]
  by_cases q : tP g L n < L
  · rw [if_pos q, if_pos q, h _ q, fc_sk h, fc_sk h]
  · rw [if_neg q, if_neg q]
theorem fc_w3 (h : ∀ j, j < L → f j = g j) (a : Nat) : ∀ k : Nat, a + k ≤ L → w3 f a k = w3 g a k
  | 0, _ => rfl
  | k + 1, hk => by
    show w3 f a k * 32 + (f (a + k) - 97 + 1).toInt64 = w3 g a k * 32 + (g (a + k) - 97 + 1).toInt64
    rw [fc_w3 h a k (by omega), h (a + k) (by omega)]
theorem fc_dg (h : ∀ j, j < L → f j = g j) (a : Nat) : ∀ k : Nat, a + k ≤ L → dg f a k = dg g a k
  | 0, _ => rfl
  | k + 1, hk => by
    show dg f a k * 10 + f (a + k) - 48 = dg g a k * 10 + g (a + k) - 48
    rw [fc_dg h a k (by omega), h (a + k) (by omega)]
theorem fc_len (g : Nat → Int32) (L n : Nat) : tP g L n + (tN g L n - tP g L n) ≤ L ∨ tN g L n - tP g L n = 0 := by
  by_cases hn : n ≤ L
  · have h1 := tN_le (f := g) hn
    have h2 := tN_ge (f := g) (L := L) (n := n)
    exact Or.inl (by omega)
  · have h3 := tP_ge (f := g) (L := L) (n := n)
    have h4 := (tK_0 (f := g) (L := L) (n := n) (by omega)).2
    exact Or.inr (by omega)
theorem fc_W (h : ∀ j, j < L → f j = g j) : tW f L = tW g L := by
  funext n
  unfold tW
  rw [fc_P h, fc_N h]
  rcases fc_len g L n with q | q
  · exact fc_w3 h _ _ q
  · rw [q]
    rfl
theorem fc_V (h : ∀ j, j < L → f j = g j) : tV f L = tV g L := by
  funext n
  unfold tV
  rw [fc_P h, fc_N h]
  rcases fc_len g L n with q | q
  · exact fc_dg h _ _ q
  · rw [q]
    rfl
theorem fc_s (h : ∀ j, j < L → f j = g j) {n : Nat} {c : Int32} : (tK f L n = 3 ∧ f (tP f L n) = c) ↔ (tK g L n = 3 ∧ g (tP g L n) = c) := by
  rw [fc_K h, fc_P h]
  constructor
  · rintro ⟨q1, q2⟩
    exact ⟨q1, by rw [← h _ (tK3_lt q1)]; exact q2⟩
  · rintro ⟨q1, q2⟩
    exact ⟨q1, by rw [h _ (tK3_lt q1)]; exact q2⟩
theorem fc_end (h : ∀ j, j < L → f j = g j) : sEnd f L = sEnd g L := by
  funext n
  unfold sEnd
  by_cases q : tK f L n = 3 ∧ f (tP f L n) = 59
  · rw [if_pos q, if_pos ((fc_s h).mp q), fc_N h]
  · rw [if_neg q, if_neg (fun z => q ((fc_s h).mpr z)), fc_P h]
theorem fc_pt (h : ∀ j, j < L → f j = g j) : pt f L = pt g L := by
  funext n
  unfold pt
  by_cases q2 : tK f L n = 2
  · rw [if_pos q2, if_pos (by rw [← fc_K h]; exact q2), fc_V h]
  · rw [if_neg q2, if_neg (c := tK g L n = 2) (by rw [← fc_K h]; exact q2)]
    by_cases q : tK f L n = 3 ∧ f (tP f L n) = 40
    · rw [if_pos q, if_pos ((fc_s h).mp q)]
    · rw [if_neg q, if_neg (c := tK g L n = 3 ∧ g (tP g L n) = 40) (fun z => q ((fc_s h).mpr z)), fc_K h, fc_W h]
theorem fc_jt (h : ∀ j, j < L → f j = g j) : jt f L = jt g L := by
  funext n
  by_cases q : tK g L n = 3
  · have q' : tK f L n = 3 := by rw [fc_K h]; exact q
    rw [jt_s q, jt_s q', fc_P h, h _ (tK3_lt q)]
  · have q' : ¬ tK f L n = 3 := by rw [fc_K h]; exact q
    unfold jt
    rw [if_neg q, if_neg q', fc_K h, fc_W h]
theorem fc_eR (h : ∀ j, j < L → f j = g j) : ∀ k : Nat, eR f L k = eR g L k
  | 0 => by
    funext wa n wt wn dp op
    rfl
  | k + 1 => by
    funext wa n wt wn dp op
    rw [eR, eR, fc_eR h k, fc_K h, fc_P h, fc_N h, fc_jt h, fc_pt h]
    by_cases q : tK g L n = 3
    · rw [h _ (tK3_lt q)]
    · simp only [q, false_and]
theorem fc_sWord (h : ∀ j, j < L → f j = g j) : sWord f L = sWord g L := by
  funext w n
  unfold sWord
  rw [fc_K h, fc_P h, fc_N h, fc_W h]
theorem fc_sNum (h : ∀ j, j < L → f j = g j) : sNum f L = sNum g L := by
  funext lo hi n
  unfold sNum
  rw [fc_K h, fc_P h, fc_N h, fc_V h]
theorem fc_sBoth (h : ∀ j, j < L → f j = g j) : sBoth f L = sBoth g L := by
  funext w hi n
  unfold sBoth
  rw [fc_sWord h, fc_sNum h]
theorem fc_sName (h : ∀ j, j < L → f j = g j) : sName f L = sName g L := by
  funext bs n
  unfold sName
  rw [fc_K h, fc_P h, fc_N h, fc_W h]
theorem fc_sPers (h : ∀ j, j < L → f j = g j) : sPers f L = sPers g L := by
  funext bs F np n
  unfold sPers
  rw [fc_sName h, fc_P h]
theorem fc_sNew (h : ∀ j, j < L → f j = g j) : sNew f L = sNew g L := by
  funext bs pn dn np nd n
  unfold sNew
  rw [fc_sName h, fc_P h]
theorem fc_sKind (h : ∀ j, j < L → f j = g j) : sKind f L = sKind g L := by
  funext n
  unfold sKind
  rw [fc_K h, fc_P h, fc_N h, fc_W h]
theorem fc_sPe (h : ∀ j, j < L → f j = g j) : sPe f L = sPe g L := by
  funext bs pn dn np nd pl n
  unfold sPe
  rw [fc_sNew h, fc_sKind h, fc_sBoth h, fc_end h]
theorem fc_sDi (h : ∀ j, j < L → f j = g j) : sDi f L = sDi g L := by
  funext bs pn dn np nd pl n
  unfold sDi
  rw [fc_sNew h, fc_sBoth h, fc_end h]
theorem fc_sOne (h : ∀ j, j < L → f j = g j) : sOne f L = sOne g L := by
  funext was hi pl n
  unfold sOne
  rw [fc_sNum h, fc_end h]
theorem fc_sCup (h : ∀ j, j < L → f j = g j) : sCup f L = sCup g L := by
  funext bs pn np cu n
  unfold sCup
  rw [fc_sPers h, fc_P h, fc_end h]
theorem fc_sSick (h : ∀ j, j < L → f j = g j) : sSick f L = sSick g L := by
  funext bs pn np sf n
  unfold sSick
  rw [fc_sPers h, fc_P h, fc_sBoth h, fc_sWord h, fc_sNum h, fc_end h]
theorem fc_sSha (h : ∀ j, j < L → f j = g j) : sSha f L = sSha g L := by
  funext was pl wt n
  unfold sSha
  rw [fc_eR h]
theorem fc_cL (h : ∀ j, j < L → f j = g j) : cL f L = cL g L := by
  funext bs wt np nd pn dn kd hg ta vo sf st cu bi sa co so re s r h0 n
  unfold cL
  rw [fc_K h, fc_P h, fc_N h, fc_W h, fc_sPe h, fc_sDi h, fc_sCup h, fc_sSick h, fc_sOne h, fc_sSha h]
theorem fc_run (h : ∀ j, j < L → f j = g j) (bs : List Int32) (wt : Nat → Int32) : ∀ k : Nat, cRun f L bs wt k = cRun g L bs wt k
  | 0 => by
    funext D n
    rfl
  | k + 1 => by
    funext D n
    rw [cRun, cRun, fc_run h bs wt k, fc_K h, fc_cL h]
end FC
theorem pnG_c {F G : Nat → Int64} {w : Int64} : ∀ m i : Nat, (∀ j, j < i + m → F j = G j) → pnG F w i m = pnG G w i m
  | 0, _, _ => rfl
  | m + 1, i, h => by
    have e := h i (by omega)
    by_cases q : F i = w
    · rw [pnG_y q, pnG_y (e.symm.trans q)]
    · rw [pnG_n q, pnG_n (fun z => q (e.trans z))]
      exact pnG_c m (i + 1) (fun j hj => h j (by omega))
theorem pnF_c {F G : Nat → Int64} {m : Nat} (h : ∀ j, j < m → F j = G j) : pnF F m = pnF G m := by
  funext w
  exact pnG_c m 0 (fun j hj => h j (by omega))
section IND
variable {f : Nat → Int32} {L : Nat} {bs : List Int32} {pn pn' dn dn' : Nat → Int64} {np nd n : Nat}
theorem sPers_c (h : ∀ j, j < np → pn j = pn' j) : sPers f L bs pn np = sPers f L bs pn' np := by
  funext n
  unfold sPers
  rw [pnF_c h]
theorem sNew_c (h : ∀ j, j < np → pn j = pn' j) (h' : ∀ j, j < nd → dn j = dn' j) : sNew f L bs pn dn np nd = sNew f L bs pn' dn' np nd := by
  funext n
  unfold sNew
  rw [pnF_c h, pnF_c h']
theorem sPe_c {pl : Int32} (h : ∀ j, j < np → pn j = pn' j) (h' : ∀ j, j < nd → dn j = dn' j) : sPe f L bs pn dn np nd pl n = sPe f L bs pn' dn' np nd pl n := by
  unfold sPe
  rw [sNew_c h h']
theorem sDi_c {pl : Int32} (h : ∀ j, j < np → pn j = pn' j) (h' : ∀ j, j < nd → dn j = dn' j) : sDi f L bs pn dn np nd pl n = sDi f L bs pn' dn' np nd pl n := by
  unfold sDi
  rw [sNew_c h h']
theorem sPers_ix {F : Nat → Int64} {m : Nat} {w : Int64} (hn : np ≤ 1000) (e : sPers f L bs F np n = .inr (m, w)) : (pnF F np w).toNatClampNeg < np := by
  unfold sPers at e
  cases e1 : sName f L bs n with
  | inl x => rw [e1] at e; cases e
  | inr x =>
    obtain ⟨n1, w1⟩ := x
    rw [e1] at e
    dsimp only at e
    split at e
    · cases e
    · rename_i q
      cases e
      obtain ⟨j, h1, h2⟩ := pnF_ix q
      rw [h2, nI_clamp (by omega)]
      exact h1
theorem sCup_c {cu cu' : Nat → Int32} (hn : np ≤ 1000) (h : ∀ j, j < np → pn j = pn' j) (hc : ∀ j, j < np → cu j = cu' j) : sCup f L bs pn np cu n = sCup f L bs pn' np cu' n := by
  unfold sCup
  rw [sPers_c h, pnF_c h]
  cases e1 : sPers f L bs pn' np n with
  | inl x => rfl
  | inr x =>
    obtain ⟨n1, w1⟩ := x
    have hi := hc _ (sPers_ix hn e1)
    dsimp only
    cases e2 : sPers f L bs pn' np n1 with
    | inl y => rfl
    | inr y =>
      obtain ⟨n2, w2⟩ := y
      dsimp only
      rw [hi]
theorem sSick_c {sf sf' : Nat → Int32} (hn : np ≤ 1000) (h : ∀ j, j < np → pn j = pn' j) (hs : ∀ j, j < np → sf j = sf' j) : sSick f L bs pn np sf n = sSick f L bs pn' np sf' n := by
  unfold sSick
  rw [sPers_c h, pnF_c h]
  cases e1 : sPers f L bs pn' np n with
  | inl x => rfl
  | inr x =>
    obtain ⟨n1, w1⟩ := x
    have hi := hs _ (sPers_ix hn e1)
    dsimp only
    rw [hi]
theorem sSha_c {was pl : Int32} {wt wt' : Nat → Int32} : sSha f L was pl wt n = sSha f L was pl wt' n := by
  unfold sSha
  rw [← es_E_eR (f := f) (L := L) (k := 1001) (n := n) (wt := wt) (opn := fun _ => 0) (cmp := fun _ => 0), ← es_E_eR (f := f) (L := L) (k := 1001) (n := n) (wt := wt') (opn := fun _ => 0) (cmp := fun _ => 0)]
theorem upL_c {w : Int64} (h : ∀ j, j < np → pn j = pn' j) : ∀ j, j < np + 1 → vp_updL pn np w j = vp_updL pn' np w j := by
  intro j hj
  by_cases e : j = np
  · rw [e, upL_s, upL_s]
  · rw [upL_n e, upL_n e]
    exact h j (by omega)
theorem up_c {F G : Nat → Int32} {m a : Nat} {x y : Int32} (h : ∀ j, j < m → F j = G j) (hx : a < m → x = y) : ∀ j, j < m → upd F a x j = upd G a y j := by
  intro j hj
  by_cases e : j = a
  · subst e
    rw [pk_us, pk_us]
    exact hx hj
  · rw [pk_un e, pk_un e]
    exact h j hj
theorem cupU_c {F G : Nat → Int32} {m a b : Nat} (h : ∀ j, j < m → F j = G j) : ∀ j, j < m → cupU F a b j = cupU G a b j := by
  unfold cupU
  have h1 := up_c (a := a) (x := F a ||| (1 <<< (nI b &&& 31))) (y := G a ||| (1 <<< (nI b &&& 31))) h (fun q => by rw [h a q])
  exact up_c h1 (fun q => by rw [h1 b q])
end IND
def fl_f (p : PR CD) : Int32 := match p with
  | .inl e => e
  | .inr _ => 0
theorem in_run {f : Nat → Int32} {L : Nat} {bs : List Int32} {wt wt' : Nat → Int32} : ∀ (k n np nd : Nat) (pn pn' : Nat → Int64) (dn dn' : Nat → Int64) (kd kd' : Nat → Int32) (hg hg' : Nat → Int32) (ta ta' : Nat → Int32) (vo vo' : Nat → Int32) (sf sf' : Nat → Int32) (st st' : Nat → Int32) (cu cu' : Nat → Int32) (bi bi' : Nat → Int32) (sa sa' : Nat → Int32) (co co' : Nat → Int32) (so so' : Int32) (re re' : Int32) (s r hh : Int32), np ≤ 6 → (∀ j, j < np → pn j = pn' j) → (∀ j, j < nd → dn j = dn' j) → (∀ j, j < 6 → sf j = sf' j) → (∀ j, j < 6 → cu j = cu' j) → fl_f (cRun f L bs wt k (np, nd, pn, dn, kd, hg, ta, vo, sf, st, cu, bi, sa, co, so, re, s, r, hh) n) = fl_f (cRun f L bs wt' k (np, nd, pn', dn', kd', hg', ta', vo', sf', st', cu', bi', sa', co', so', re', s, r, hh) n)
  | 0, _, _, _, _, _, _, _, _, _, _, _, _, _, _, _, _, _, _, _, _, _, _, _, _, _, _, _, _, _, _, _, _, _, _, _, _, _, _, _ => rfl
  | k + 1, n, np, nd, pn, pn', dn, dn', kd, kd', hg, hg', ta, ta', vo, vo', sf, sf', st, st', cu, cu', bi, bi', sa, sa', co, co', so, so', re, re', s, r, hh, hn, hp, hd, hs, hc => by
    by_cases h0 : tK f L n = 0
    · rw [cR_e h0, cR_e h0]
      rfl
    · have hq0 : True := trivial
      by_cases q0 : tK f L n = 1 ∧ tW f L n = bw (zl 2)
      · have e : sPe f L bs pn dn np nd (nI (tP f L n)) (tN f L n) = sPe f L bs pn' dn' np nd (nI (tP f L n)) (tN f L n) := sPe_c hp hd
        cases e1 : sPe f L bs pn' dn' np nd (nI (tP f L n)) (tN f L n) with
        | inl x =>
          rw [cR_f h0 (cL_pf q0 (e.trans e1)), cR_f h0 (cL_pf q0 e1)]
        | inr y =>
          obtain ⟨n2, w, x1, x2, x3, x4⟩ := y
          rw [cR_s h0 (cL_p q0 (e.trans e1)), cR_s h0 (cL_p q0 e1)]
          exact in_run k n2 _ _ _ _ _ _ _ _ _ _ _ _ _ _ _ _ _ _ _ _ _ _ _ _ _ _ _ _ _ _ _ _ _ (by have := (sPe_ge e1).2; omega) (upL_c hp) (hd) (hs) (hc)
      · skip
        by_cases q1 : tK f L n = 1 ∧ tW f L n = bw (zl 3)
        · have e : sDi f L bs pn dn np nd (nI (tP f L n)) (tN f L n) = sDi f L bs pn' dn' np nd (nI (tP f L n)) (tN f L n) := sDi_c hp hd
          cases e1 : sDi f L bs pn' dn' np nd (nI (tP f L n)) (tN f L n) with
          | inl x =>
            rw [cR_f h0 (cL_df q0 q1 (e.trans e1)), cR_f h0 (cL_df q0 q1 e1)]
          | inr y =>
            obtain ⟨n2, w, x1, x2, x3⟩ := y
            rw [cR_s h0 (cL_d q0 q1 (e.trans e1)), cR_s h0 (cL_d q0 q1 e1)]
            exact in_run k n2 _ _ _ _ _ _ _ _ _ _ _ _ _ _ _ _ _ _ _ _ _ _ _ _ _ _ _ _ _ _ _ _ _ (hn) (hp) (upL_c hd) (hs) (hc)
        · skip
          by_cases q2 : tK f L n = 1 ∧ tW f L n = bw (zl 4)
          · have e : sCup f L bs pn np cu (tN f L n) = sCup f L bs pn' np cu' (tN f L n) := sCup_c (by omega) hp (fun j hj => hc j (by omega))
            cases e1 : sCup f L bs pn' np cu' (tN f L n) with
            | inl x =>
              rw [cR_f h0 (cL_cf q0 q1 q2 (e.trans e1)), cR_f h0 (cL_cf q0 q1 q2 e1)]
            | inr y =>
              obtain ⟨n2, a, b⟩ := y
              rw [cR_s h0 (cL_c q0 q1 q2 (e.trans e1)), cR_s h0 (cL_c q0 q1 q2 e1)]
              exact in_run k n2 _ _ _ _ _ _ _ _ _ _ _ _ _ _ _ _ _ _ _ _ _ _ _ _ _ _ _ _ _ _ _ _ _ (hn) (hp) (hd) (hs) (cupU_c hc)
          · skip
            by_cases q3 : tK f L n = 1 ∧ tW f L n = bw (zl 5)
            · have e : sSick f L bs pn np sf (tN f L n) = sSick f L bs pn' np sf' (tN f L n) := sSick_c (by omega) hp (fun j hj => hs j (by omega))
              cases e1 : sSick f L bs pn' np sf' (tN f L n) with
              | inl x =>
                rw [cR_f h0 (cL_sf q0 q1 q2 q3 (e.trans e1)), cR_f h0 (cL_sf q0 q1 q2 q3 e1)]
              | inr y =>
                obtain ⟨n2, a, p, q⟩ := y
                rw [cR_s h0 (cL_s q0 q1 q2 q3 (e.trans e1)), cR_s h0 (cL_s q0 q1 q2 q3 e1)]
                exact in_run k n2 _ _ _ _ _ _ _ _ _ _ _ _ _ _ _ _ _ _ _ _ _ _ _ _ _ _ _ _ _ _ _ _ _ (hn) (hp) (hd) (up_c hs (fun _ => rfl)) (hc)
            · skip
              by_cases q4 : tK f L n = 1 ∧ tW f L n = bw (zl 6)
              · have e : sOne f L s 999 (nI (tP f L n)) (tN f L n) = sOne f L s 999 (nI (tP f L n)) (tN f L n) := rfl
                cases e1 : sOne f L s 999 (nI (tP f L n)) (tN f L n) with
                | inl x =>
                  rw [cR_f h0 (cL_of q0 q1 q2 q3 q4 (e.trans e1)), cR_f h0 (cL_of q0 q1 q2 q3 q4 e1)]
                | inr y =>
                  obtain ⟨n2, v⟩ := y
                  rw [cR_s h0 (cL_o q0 q1 q2 q3 q4 (e.trans e1)), cR_s h0 (cL_o q0 q1 q2 q3 q4 e1)]
                  exact in_run k n2 _ _ _ _ _ _ _ _ _ _ _ _ _ _ _ _ _ _ _ _ _ _ _ _ _ _ _ _ _ _ _ _ _ (hn) (hp) (hd) (hs) (hc)
              · skip
                by_cases q5 : tK f L n = 1 ∧ tW f L n = bw (zl 7)
                · have e : sOne f L r 7 (nI (tP f L n)) (tN f L n) = sOne f L r 7 (nI (tP f L n)) (tN f L n) := rfl
                  cases e1 : sOne f L r 7 (nI (tP f L n)) (tN f L n) with
                  | inl x =>
                    rw [cR_f h0 (cL_rf q0 q1 q2 q3 q4 q5 (e.trans e1)), cR_f h0 (cL_rf q0 q1 q2 q3 q4 q5 e1)]
                  | inr y =>
                    obtain ⟨n2, v⟩ := y
                    rw [cR_s h0 (cL_r q0 q1 q2 q3 q4 q5 (e.trans e1)), cR_s h0 (cL_r q0 q1 q2 q3 q4 q5 e1)]
                    exact in_run k n2 _ _ _ _ _ _ _ _ _ _ _ _ _ _ _ _ _ _ _ _ _ _ _ _ _ _ _ _ _ _ _ _ _ (hn) (hp) (hd) (hs) (hc)
                · skip
                  by_cases q6 : tK f L n = 1 ∧ tW f L n = bw (zl 8)
                  · have e : sSha f L hh (nI (tP f L n)) wt (tN f L n) = sSha f L hh (nI (tP f L n)) wt' (tN f L n) := sSha_c
                    cases e1 : sSha f L hh (nI (tP f L n)) wt' (tN f L n) with
                    | inl x =>
                      rw [cR_f h0 (cL_hf q0 q1 q2 q3 q4 q5 q6 (e.trans e1)), cR_f h0 (cL_hf q0 q1 q2 q3 q4 q5 q6 e1)]
                    | inr y =>
                      rw [cR_s h0 (cL_h q0 q1 q2 q3 q4 q5 q6 (e.trans e1)), cR_s h0 (cL_h q0 q1 q2 q3 q4 q5 q6 e1)]
                      exact in_run k y _ _ _ _ _ _ _ _ _ _ _ _ _ _ _ _ _ _ _ _ _ _ _ _ _ _ _ _ _ _ _ _ _ (hn) (hp) (hd) (hs) (hc)
                  · rw [cR_f h0 (cL_z q0 q1 q2 q3 q4 q5 q6), cR_f h0 (cL_z q0 q1 q2 q3 q4 q5 q6)]
def fault (f : Nat → Int32) (L : Nat) : Int32 := fl_f (cRun f L rz.2.2.2 (fun _ => 0) 1001 (0, 0, fun _ => 0, fun _ => 0, fun _ => 0, fun _ => 0, fun _ => 0, fun _ => 0, fil 6 (-1) (fun _ => 0), fil 6 (-1) (fun _ => 0), fil 6 0 (fun _ => 0), fun _ => 0, fun _ => 0, fun _ => 0, 0, 2, 0, 0, 0) 0)
theorem fault_of {f : Nat → Int32} {L : Nat} {wt : Nat → Int32} {pn : Nat → Int64} {dn : Nat → Int64} {kd : Nat → Int32} {hg : Nat → Int32} {ta : Nat → Int32} {vo : Nat → Int32} {sf : Nat → Int32} {st : Nat → Int32} {cu : Nat → Int32} {bi : Nat → Int32} {sa : Nat → Int32} {co : Nat → Int32} : fl_f (cRun f L rz.2.2.2 wt 1001 (0, 0, pn, dn, kd, hg, ta, vo, (fil 6 (-1) sf), (fil 6 (-1) st), (fil 6 0 cu), bi, sa, co, 0, 2, 0, 0, 0) 0) = fault f L :=
  in_run 1001 0 0 0 _ _ _ _ _ _ _ _ _ _ _ _ _ _ _ _ _ _ _ _ _ _ _ _ _ _ _ _ 0 0 0 (by decide) (fun j hj => absurd hj (Nat.not_lt_zero j)) (fun j hj => absurd hj (Nat.not_lt_zero j)) (fun j hj => (fil_lt hj).trans (fil_lt hj).symm) (fun j hj => (fil_lt hj).trans (fil_lt hj).symm)
theorem fault_c {f g : Nat → Int32} {L : Nat} (h : ∀ j, j < L → f j = g j) : fault f L = fault g L := by
  unfold fault
  rw [fc_run h]
theorem fault_i {f : Nat → Int32} {L : Nat} {wt : Nat → Int32} {pn : Nat → Int64} {dn : Nat → Int64} {kd : Nat → Int32} {hg : Nat → Int32} {ta : Nat → Int32} {vo : Nat → Int32} {sf : Nat → Int32} {st : Nat → Int32} {cu : Nat → Int32} {bi : Nat → Int32} {sa : Nat → Int32} {co : Nat → Int32} {e : Int32} (q : cRun f L rz.2.2.2 wt 1001 (0, 0, pn, dn, kd, hg, ta, vo, (fil 6 (-1) sf), (fil 6 (-1) st), (fil 6 0 cu), bi, sa, co, 0, 2, 0, 0, 0) 0 = .inl e) : fault f L = e := by
  rw [← fault_of (f := f) (L := L) (wt := wt) (pn := pn) (dn := dn) (kd := kd) (hg := hg) (ta := ta) (vo := vo) (sf := sf) (st := st) (cu := cu) (bi := bi) (sa := sa) (co := co), q]
  rfl
theorem fault_r {f : Nat → Int32} {L : Nat} {wt : Nat → Int32} {pn : Nat → Int64} {dn : Nat → Int64} {kd : Nat → Int32} {hg : Nat → Int32} {ta : Nat → Int32} {vo : Nat → Int32} {sf : Nat → Int32} {st : Nat → Int32} {cu : Nat → Int32} {bi : Nat → Int32} {sa : Nat → Int32} {co : Nat → Int32} {D : CD} (q : cRun f L rz.2.2.2 wt 1001 (0, 0, pn, dn, kd, hg, ta, vo, (fil 6 (-1) sf), (fil 6 (-1) st), (fil 6 0 cu), bi, sa, co, 0, 2, 0, 0, 0) 0 = .inr D) : fault f L = 0 := by
  rw [← fault_of (f := f) (L := L) (wt := wt) (pn := pn) (dn := dn) (kd := kd) (hg := hg) (ta := ta) (vo := vo) (sf := sf) (st := st) (cu := cu) (bi := bi) (sa := sa) (co := co), q]
  rfl
