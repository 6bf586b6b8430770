theorem ly_0 {ho : Nat → Int32} {zp : Nat → Int64} {zq : Nat → Int64} {zk : Nat → Int32} {zh : Nat → Int32} {zt : Nat → Int32} {zv : Nat → Int32} {zf : Nat → Int32} {ze : Nat → Int32} {zb : Nat → Int32} {za : Nat → Int32} {zo : Nat → Int32} {zu : Nat → Int32} {lf : Nat → Int32} {lt : Nat → Int32} {cd : Nat → Int32} : (F_X12_lays ho zp zq zk zh zt zv zf ze zb za zo zu lf lt cd).1 = F_X12_moves 5 ho := by
  unfold F_X12_lays
  rfl
theorem ly_1 {ho : Nat → Int32} {zp : Nat → Int64} {zq : Nat → Int64} {zk : Nat → Int32} {zh : Nat → Int32} {zt : Nat → Int32} {zv : Nat → Int32} {zf : Nat → Int32} {ze : Nat → Int32} {zb : Nat → Int32} {za : Nat → Int32} {zo : Nat → Int32} {zu : Nat → Int32} {lf : Nat → Int32} {lt : Nat → Int32} {cd : Nat → Int32} : (F_X12_lays ho zp zq zk zh zt zv zf ze zb za zo zu lf lt cd).2.1 = F_X12_movesNames 6 zp := by
  unfold F_X12_lays
  rfl
theorem ly_2 {ho : Nat → Int32} {zp : Nat → Int64} {zq : Nat → Int64} {zk : Nat → Int32} {zh : Nat → Int32} {zt : Nat → Int32} {zv : Nat → Int32} {zf : Nat → Int32} {ze : Nat → Int32} {zb : Nat → Int32} {za : Nat → Int32} {zo : Nat → Int32} {zu : Nat → Int32} {lf : Nat → Int32} {lt : Nat → Int32} {cd : Nat → Int32} : (F_X12_lays ho zp zq zk zh zt zv zf ze zb za zo zu lf lt cd).2.2.1 = F_X12_movesNames 5 zq := by
  unfold F_X12_lays
  rfl
theorem ly_3 {ho : Nat → Int32} {zp : Nat → Int64} {zq : Nat → Int64} {zk : Nat → Int32} {zh : Nat → Int32} {zt : Nat → Int32} {zv : Nat → Int32} {zf : Nat → Int32} {ze : Nat → Int32} {zb : Nat → Int32} {za : Nat → Int32} {zo : Nat → Int32} {zu : Nat → Int32} {lf : Nat → Int32} {lt : Nat → Int32} {cd : Nat → Int32} : (F_X12_lays ho zp zq zk zh zt zv zf ze zb za zo zu lf lt cd).2.2.2.1 = F_X12_moves 6 zk := by
  unfold F_X12_lays
  rfl
theorem ly_4 {ho : Nat → Int32} {zp : Nat → Int64} {zq : Nat → Int64} {zk : Nat → Int32} {zh : Nat → Int32} {zt : Nat → Int32} {zv : Nat → Int32} {zf : Nat → Int32} {ze : Nat → Int32} {zb : Nat → Int32} {za : Nat → Int32} {zo : Nat → Int32} {zu : Nat → Int32} {lf : Nat → Int32} {lt : Nat → Int32} {cd : Nat → Int32} : (F_X12_lays ho zp zq zk zh zt zv zf ze zb za zo zu lf lt cd).2.2.2.2.1 = F_X12_moves 6 zh := by
  unfold F_X12_lays
  rfl
theorem ly_5 {ho : Nat → Int32} {zp : Nat → Int64} {zq : Nat → Int64} {zk : Nat → Int32} {zh : Nat → Int32} {zt : Nat → Int32} {zv : Nat → Int32} {zf : Nat → Int32} {ze : Nat → Int32} {zb : Nat → Int32} {za : Nat → Int32} {zo : Nat → Int32} {zu : Nat → Int32} {lf : Nat → Int32} {lt : Nat → Int32} {cd : Nat → Int32} : (F_X12_lays ho zp zq zk zh zt zv zf ze zb za zo zu lf lt cd).2.2.2.2.2.1 = F_X12_moves 6 zt := by
  unfold F_X12_lays
  rfl
theorem ly_6 {ho : Nat → Int32} {zp : Nat → Int64} {zq : Nat → Int64} {zk : Nat → Int32} {zh : Nat → Int32} {zt : Nat → Int32} {zv : Nat → Int32} {zf : Nat → Int32} {ze : Nat → Int32} {zb : Nat → Int32} {za : Nat → Int32} {zo : Nat → Int32} {zu : Nat → Int32} {lf : Nat → Int32} {lt : Nat → Int32} {cd : Nat → Int32} : (F_X12_lays ho zp zq zk zh zt zv zf ze zb za zo zu lf lt cd).2.2.2.2.2.2.1 = F_X12_moves 6 zv := by
  unfold F_X12_lays
  rfl
theorem ly_7 {ho : Nat → Int32} {zp : Nat → Int64} {zq : Nat → Int64} {zk : Nat → Int32} {zh : Nat → Int32} {zt : Nat → Int32} {zv : Nat → Int32} {zf : Nat → Int32} {ze : Nat → Int32} {zb : Nat → Int32} {za : Nat → Int32} {zo : Nat → Int32} {zu : Nat → Int32} {lf : Nat → Int32} {lt : Nat → Int32} {cd : Nat → Int32} : (F_X12_lays ho zp zq zk zh zt zv zf ze zb za zo zu lf lt cd).2.2.2.2.2.2.2.1 = F_X12_moves 6 zf := by
  unfold F_X12_lays
  rfl
theorem ly_8 {ho : Nat → Int32} {zp : Nat → Int64} {zq : Nat → Int64} {zk : Nat → Int32} {zh : Nat → Int32} {zt : Nat → Int32} {zv : Nat → Int32} {zf : Nat → Int32} {ze : Nat → Int32} {zb : Nat → Int32} {za : Nat → Int32} {zo : Nat → Int32} {zu : Nat → Int32} {lf : Nat → Int32} {lt : Nat → Int32} {cd : Nat → Int32} : (F_X12_lays ho zp zq zk zh zt zv zf ze zb za zo zu lf lt cd).2.2.2.2.2.2.2.2.1 = F_X12_moves 6 ze := by
  unfold F_X12_lays
  rfl
theorem ly_9 {ho : Nat → Int32} {zp : Nat → Int64} {zq : Nat → Int64} {zk : Nat → Int32} {zh : Nat → Int32} {zt : Nat → Int32} {zv : Nat → Int32} {zf : Nat → Int32} {ze : Nat → Int32} {zb : Nat → Int32} {za : Nat → Int32} {zo : Nat → Int32} {zu : Nat → Int32} {lf : Nat → Int32} {lt : Nat → Int32} {cd : Nat → Int32} : (F_X12_lays ho zp zq zk zh zt zv zf ze zb za zo zu lf lt cd).2.2.2.2.2.2.2.2.2.1 = F_X12_moves 5 zb := by
  unfold F_X12_lays
  rfl
theorem ly_10 {ho : Nat → Int32} {zp : Nat → Int64} {zq : Nat → Int64} {zk : Nat → Int32} {zh : Nat → Int32} {zt : Nat → Int32} {zv : Nat → Int32} {zf : Nat → Int32} {ze : Nat → Int32} {zb : Nat → Int32} {za : Nat → Int32} {zo : Nat → Int32} {zu : Nat → Int32} {lf : Nat → Int32} {lt : Nat → Int32} {cd : Nat → Int32} : (F_X12_lays ho zp zq zk zh zt zv zf ze zb za zo zu lf lt cd).2.2.2.2.2.2.2.2.2.2.1 = F_X12_moves 5 za := by
  unfold F_X12_lays
  rfl
theorem ly_11 {ho : Nat → Int32} {zp : Nat → Int64} {zq : Nat → Int64} {zk : Nat → Int32} {zh : Nat → Int32} {zt : Nat → Int32} {zv : Nat → Int32} {zf : Nat → Int32} {ze : Nat → Int32} {zb : Nat → Int32} {za : Nat → Int32} {zo : Nat → Int32} {zu : Nat → Int32} {lf : Nat → Int32} {lt : Nat → Int32} {cd : Nat → Int32} : (F_X12_lays ho zp zq zk zh zt zv zf ze zb za zo zu lf lt cd).2.2.2.2.2.2.2.2.2.2.2.1 = F_X12_moves 5 zo := by
  unfold F_X12_lays
  rfl
theorem ly_12 {ho : Nat → Int32} {zp : Nat → Int64} {zq : Nat → Int64} {zk : Nat → Int32} {zh : Nat → Int32} {zt : Nat → Int32} {zv : Nat → Int32} {zf : Nat → Int32} {ze : Nat → Int32} {zb : Nat → Int32} {za : Nat → Int32} {zo : Nat → Int32} {zu : Nat → Int32} {lf : Nat → Int32} {lt : Nat → Int32} {cd : Nat → Int32} : (F_X12_lays ho zp zq zk zh zt zv zf ze zb za zo zu lf lt cd).2.2.2.2.2.2.2.2.2.2.2.2.1 = F_X12_moves 6 zu := by
  unfold F_X12_lays
  rfl
theorem ly_13 {ho : Nat → Int32} {zp : Nat → Int64} {zq : Nat → Int64} {zk : Nat → Int32} {zh : Nat → Int32} {zt : Nat → Int32} {zv : Nat → Int32} {zf : Nat → Int32} {ze : Nat → Int32} {zb : Nat → Int32} {za : Nat → Int32} {zo : Nat → Int32} {zu : Nat → Int32} {lf : Nat → Int32} {lt : Nat → Int32} {cd : Nat → Int32} : (F_X12_lays ho zp zq zk zh zt zv zf ze zb za zo zu lf lt cd).2.2.2.2.2.2.2.2.2.2.2.2.2.1 = upd lf 0 (lf 1 - 1000) := by
  unfold F_X12_lays
  rfl
theorem ly_14 {ho : Nat → Int32} {zp : Nat → Int64} {zq : Nat → Int64} {zk : Nat → Int32} {zh : Nat → Int32} {zt : Nat → Int32} {zv : Nat → Int32} {zf : Nat → Int32} {ze : Nat → Int32} {zb : Nat → Int32} {za : Nat → Int32} {zo : Nat → Int32} {zu : Nat → Int32} {lf : Nat → Int32} {lt : Nat → Int32} {cd : Nat → Int32} : (F_X12_lays ho zp zq zk zh zt zv zf ze zb za zo zu lf lt cd).2.2.2.2.2.2.2.2.2.2.2.2.2.2.1 = upd lt 0 (lt 1 - 1000) := by
  unfold F_X12_lays
  rfl
theorem ly_15 {ho : Nat → Int32} {zp : Nat → Int64} {zq : Nat → Int64} {zk : Nat → Int32} {zh : Nat → Int32} {zt : Nat → Int32} {zv : Nat → Int32} {zf : Nat → Int32} {ze : Nat → Int32} {zb : Nat → Int32} {za : Nat → Int32} {zo : Nat → Int32} {zu : Nat → Int32} {lf : Nat → Int32} {lt : Nat → Int32} {cd : Nat → Int32} : (F_X12_lays ho zp zq zk zh zt zv zf ze zb za zo zu lf lt cd).2.2.2.2.2.2.2.2.2.2.2.2.2.2.2 = F_X12_moves 1000 cd := by
  unfold F_X12_lays
  dsimp only
theorem ly_ho {np k : Nat} {ho : Nat → Int32} {zp : Nat → Int64} {zq : Nat → Int64} {zk : Nat → Int32} {zh : Nat → Int32} {zt : Nat → Int32} {zv : Nat → Int32} {zf : Nat → Int32} {ze : Nat → Int32} {zb : Nat → Int32} {za : Nat → Int32} {zo : Nat → Int32} {zu : Nat → Int32} {lf : Nat → Int32} {lt : Nat → Int32} {cd : Nat → Int32} (hk : k < 5) (h : ho (5 + k) = nI np) : (F_X12_lays ho zp zq zk zh zt zv zf ze zb za zo zu lf lt cd).1 k = nI np := by
  rw [ly_0, mv_y hk]
  exact h
theorem ly_nm {pn : Nat → Int64} {np : Nat} {ho : Nat → Int32} {zp : Nat → Int64} {zq : Nat → Int64} {zk : Nat → Int32} {zh : Nat → Int32} {zt : Nat → Int32} {zv : Nat → Int32} {zf : Nat → Int32} {ze : Nat → Int32} {zb : Nat → Int32} {za : Nat → Int32} {zo : Nat → Int32} {zu : Nat → Int32} {lf : Nat → Int32} {lt : Nat → Int32} {cd : Nat → Int32} (hn : np ≤ 6) (h : nmRel pn zp 6 np) : nmRel pn (F_X12_lays ho zp zq zk zh zt zv zf ze zb za zo zu lf lt cd).2.1 0 np := by
  intro q hq
  rw [ly_1, Nat.zero_add, mvL_y (by omega)]
  exact h q hq
theorem ly_nd {dn : Nat → Int64} {nd : Nat} {ho : Nat → Int32} {zp : Nat → Int64} {zq : Nat → Int64} {zk : Nat → Int32} {zh : Nat → Int32} {zt : Nat → Int32} {zv : Nat → Int32} {zf : Nat → Int32} {ze : Nat → Int32} {zb : Nat → Int32} {za : Nat → Int32} {zo : Nat → Int32} {zu : Nat → Int32} {lf : Nat → Int32} {lt : Nat → Int32} {cd : Nat → Int32} (hn : nd ≤ 5) (h : nmRel dn zq 5 nd) : nmRel dn (F_X12_lays ho zp zq zk zh zt zv zf ze zb za zo zu lf lt cd).2.2.1 0 nd := by
  intro q hq
  rw [ly_2, Nat.zero_add, mvL_y (by omega)]
  exact h q hq
theorem dAt_mv {cd cd' b : Nat → Int32} (h : ∀ k, k < 1000 → cd' k = cd (1000 + k)) : ∀ n, n ≤ 1000 → dAt cd' 0 b n = dAt cd 1000 b n
  | 0, _ => rfl
  | n + 1, hn => by
    show dStep (cd' (0 + n)) (dAt cd' 0 b n) = dStep (cd (1000 + n)) (dAt cd 1000 b n)
    rw [dAt_mv h n (by omega), Nat.zero_add, h n (by omega)]
theorem dWF_mv {cd cd' : Nat → Int32} {c2 : Nat} (h : ∀ k, k < 1000 → cd' k = cd (1000 + k)) (h2 : c2 ≤ 2000) (hw : dWF cd 1000 c2) : dWF cd' 0 (c2 - 1000) := by
  intro b k h1 h3
  have h4 := hw b (1000 + k) (by omega) (by omega)
  rw [show 1000 + k - 1000 = k by omega] at h4
  rw [Nat.sub_zero, dAt_mv h k (by omega), h k (by omega)]
  exact h4
theorem ly_law {ho : Nat → Int32} {zp : Nat → Int64} {zq : Nat → Int64} {zk : Nat → Int32} {zh : Nat → Int32} {zt : Nat → Int32} {zv : Nat → Int32} {zf : Nat → Int32} {ze : Nat → Int32} {zb : Nat → Int32} {za : Nat → Int32} {zo : Nat → Int32} {zu : Nat → Int32} {lf : Nat → Int32} {lt : Nat → Int32} {cd : Nat → Int32} (h : eLaw lf lt cd) : ∃ c2 : Nat, c2 ≤ 1000 ∧ (F_X12_lays ho zp zq zk zh zt zv zf ze zb za zo zu lf lt cd).2.2.2.2.2.2.2.2.2.2.2.2.2.1 0 = nI 0 ∧ (F_X12_lays ho zp zq zk zh zt zv zf ze zb za zo zu lf lt cd).2.2.2.2.2.2.2.2.2.2.2.2.2.2.1 0 = nI c2 ∧ dWF (F_X12_lays ho zp zq zk zh zt zv zf ze zb za zo zu lf lt cd).2.2.2.2.2.2.2.2.2.2.2.2.2.2.2 0 c2 := by
  obtain ⟨c2, h1, h2, h3, h4, h5⟩ := h
  refine ⟨c2 - 1000, by omega, ?_, ?_, ?_⟩
  · rw [ly_13, pk_us, h3]
    rfl
  · rw [ly_14, pk_us, h4]
    exact nI_su (a := c2) (b := 1000) h1
  · rw [ly_15]
    exact dWF_mv (fun k hk => mv_y hk) h2 h5
theorem mv_all {b : Nat} {a : Nat → Int32} {P : Int32 → Prop} (h : ∀ j, P (a j)) : ∀ j, P (F_X12_moves b a j) := by
  intro j
  rcases Nat.lt_or_ge j b with q | q
  · rw [mv_y q]
    exact h _
  · rw [mv_n q]
    exact h _
theorem ly_nn {ho : Nat → Int32} {zp : Nat → Int64} {zq : Nat → Int64} {zk : Nat → Int32} {zh : Nat → Int32} {zt : Nat → Int32} {zv : Nat → Int32} {zf : Nat → Int32} {ze : Nat → Int32} {zb : Nat → Int32} {za : Nat → Int32} {zo : Nat → Int32} {zu : Nat → Int32} {lf : Nat → Int32} {lt : Nat → Int32} {cd : Nat → Int32} (h : eNN cd) : eNN (F_X12_lays ho zp zq zk zh zt zv zf ze zb za zo zu lf lt cd).2.2.2.2.2.2.2.2.2.2.2.2.2.2.2 := by
  rw [ly_15]
  exact mv_all (P := fun x => 0 ≤ x.toInt) h
theorem ly_cu {ho : Nat → Int32} {zp : Nat → Int64} {zq : Nat → Int64} {zk : Nat → Int32} {zh : Nat → Int32} {zt : Nat → Int32} {zv : Nat → Int32} {zf : Nat → Int32} {ze : Nat → Int32} {zb : Nat → Int32} {za : Nat → Int32} {zo : Nat → Int32} {zu : Nat → Int32} {lf : Nat → Int32} {lt : Nat → Int32} {cd : Nat → Int32} (h : cuOK zu) : cuOK (F_X12_lays ho zp zq zk zh zt zv zf ze zb za zo zu lf lt cd).2.2.2.2.2.2.2.2.2.2.2.2.1 := by
  intro j hj
  rw [ly_12]
  rcases Nat.lt_or_ge j 6 with q | q
  · rw [mv_y q]
    exact h _ (by omega)
  · rw [mv_n q]
    exact h _ hj
theorem li_0 {li : Nat → Int32} (h : liOK li) : liOK (upd li 0 0) := by
  intro j hj
  by_cases q : j = 0
  · rw [q, pk_us]
    exact vin (by decide)
  · rw [pk_un q]
    exact h j hj
theorem hwo_le {ww wd : Nat → Int32} {wl : Nat} (h : wOK ww wd) (hl : wl ≤ 40) : ∀ j, j < wl → vp_in (ww j) 6 ∧ vp_in (wd j) 5 := fun j hj => h j (by omega)
theorem hlo_le {lx ly : Nat → Int32} {wl : Nat} (h : lOK lx ly) (hl : wl ≤ 40) : ∀ j, j < wl → vp_in (lx j) 6 ∧ vp_in (ly j) 5 := fun j hj => h j (by omega)
theorem li_nat {li : Nat → Int32} (h : liOK li) {k : Nat} (hk : k < 5) : li k = nI (li k).toNatClampNeg ∧ (li k).toNatClampNeg ≤ 40 := by
  have h1 := nI_ofv (h k hk) (by decide)
  exact ⟨h1.1, by omega⟩
theorem li_w {li li2 : Nat → Int32} {wl : Nat} (h : liOK li) (h0 : li2 0 = nI wl) (hl : wl ≤ 40) (h5 : ∀ k, 0 < k → k < 5 → li2 k = li k) : liOK li2 := by
  intro j hj
  rcases Nat.lt_or_ge j 1 with q | q
  · rw [show j = 0 by omega, h0]
    exact vp_in_nI (by omega) (by decide)
  · rw [h5 j q hj]
    exact h j hj
theorem li_w2 {li li2 : Nat → Int32} (h : liOK li) (h5 : ∀ k, k < 5 → li2 k = li k) : liOK li2 := by
  intro j hj
  rw [h5 j hj]
  exact h j hj
theorem nm_k {pn rp rp2 : Nat → Int64} {np h : Nat} (hn : np ≤ h) (hk : kpL h rp rp2) (h1 : nmRel pn rp 0 np) : nmRel pn rp2 0 np := by
  intro q hq
  rw [Nat.zero_add, hk q (by omega)]
  have h2 := h1 q hq
  rw [Nat.zero_add] at h2
  exact h2
theorem dWF_k {cd cd2 : Nat → Int32} {cf ct : Nat} (hct : ct ≤ 1000) (hk : kpA 1000 cd cd2) (h : dWF cd cf ct) : dWF cd2 cf ct := by
  have e : ∀ (b : Nat → Int32) n, cf + n ≤ ct → dAt cd2 cf b n = dAt cd cf b n := by
    intro b n
    induction n with
    | zero => intro _; rfl
    | succ n ih =>
      intro hn
      show dStep (cd2 (cf + n)) (dAt cd2 cf b n) = dStep (cd (cf + n)) (dAt cd cf b n)
      rw [ih (by omega), hk (cf + n) (by omega)]
  intro b k h1 h2
  have h3 := h b k h1 h2
  rw [e b (k - cf) (by omega), hk k (by omega)]
  exact h3
theorem plan_cs (a : Int32) : a = 0 ∨ a = 1 ∨ a = 2 ∨ a = 3 ∨ (a < 0 ∨ 3 < a) := by
  by_cases h : a < 0
  · exact Or.inr (Or.inr (Or.inr (Or.inr (Or.inl h))))
  · by_cases h2 : 3 < a
    · exact Or.inr (Or.inr (Or.inr (Or.inr (Or.inr h2))))
    · have h3 := nI_ofle (n := 3) h (by decide) h2
      rw [nI_ofc h]
      rcases (show a.toNatClampNeg = 0 ∨ a.toNatClampNeg = 1 ∨ a.toNatClampNeg = 2 ∨ a.toNatClampNeg = 3 by omega) with q | q | q | q <;> rw [q] <;> decide
theorem mark_cs (a : Int32) : a < 0 ∨ (¬ a < 0 ∧ 4 ≤ a) ∨ ∃ q, q < 4 ∧ a = nI q := by
  by_cases h : a < 0
  · exact Or.inl h
  · by_cases h2 : 4 ≤ a
    · exact Or.inr (Or.inl ⟨h, h2⟩)
    · exact Or.inr (Or.inr ⟨a.toNatClampNeg, nI_ofl (n := 4) h (by decide) h2, nI_ofc h⟩)
