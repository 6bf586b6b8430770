/-! the law's part of rests, over any world -/
section XT
variable {p : Program} {l : Launch} {e : Env} {R : Room} {s : State} {m : MethodId} {args : Array Value} {below : List Frame} {meth : Method} {c : Code} {H : Heap} {locs : List Loc} {cells slots mc ms : Nat} {Q : State → Prop} {pc : Nat} {ls : Array Slot} {rest : List Value} {D : va_G} {A : Nat → Prop} {C T wc wr : va_W} {H0 : Heap} {st0 : List Value} {av : Array Value}
theorem xt_i {B : Int32 → Heap → Prop} (hP : va_P D vwCl (C ++ T) H) (hD : va_D A (C ++ T)) (hS : va_S A H0 H locs) (hA : ∀ q, H0.size ≤ q → A q) (isC isR : List Nat) (hC : isC.map (fun i => (C ++ T)[i]?) = wc.map some) (hR : isR.map (fun i => (C ++ T)[i]?) = wr.map some) (hn : va_nd isR = true) (hdis : ∀ i ∈ isR, i ∉ isC) {n : Nat} (hCl : C.length = n) (hc : ∀ i ∈ isC, i < n) (hrl : ∀ i ∈ isR, i < n)
    (hr : va_Run p l e R s m args below meth c H locs cells slots mc ms (F0 m pc ls st0) rest (qi B (va_A wc H.size) av) (va_A wc H.size))
    (kk : ∀ (r : Int32) (H1 : Heap) (locs1 : List Loc), B r H1 → (∀ w1 : va_W, va_P D vwCl w1 H1 → va_D (va_A wc H.size) w1 → va_P D vwCl ((wr ++ w1) ++ T) H1 ∧ va_D A ((wr ++ w1) ++ T)) → va_S A H0 H1 locs1 → W p l e R s m args below meth c H1 locs1 (cells + mc) (slots + ms) Q (F0 m (pc + 3) ls (.int r :: rest))) : W p l e R s m args below meth c H locs cells slots Q (F0 m pc ls st0) := by
  subst hCl
  have hF := va_free (wc := wc) hD hS hA isC hC
  refine va_calli hr hS (fun q _ h => hF q h) hF (fun r u t H1 locs1 ht hvm hw hB hz1 hk1 hS1 => ?_)
  subst hw
  rw [ht] at hB
  refine kk r H1 locs1 hB (fun w1 h1 h2 => ?_) hS1
  have hT : ∀ (k : Nat) (q : Nat × va_E), T[k]? = some q → (C ++ T)[C.length + k]? = some q := by
    intro k q hk
    rw [List.getElem?_append_right (by omega)]
    rw [show C.length + k - C.length = k by omega]
    exact hk
  have hj := va_join hP hD isC isR hC hR hn hdis hk1 hF h1 h2
  have gt : ∀ {is : List Nat} {w : va_W}, is.map (fun i => (C ++ T)[i]?) = w.map some → ∀ (k : Nat) (q : Nat × va_E), w[k]? = some q → ∃ i ∈ is, (C ++ T)[i]? = some q := by
    intro is w hs k q hq
    have h3 : (is.map (fun i => (C ++ T)[i]?))[k]? = some (some q) := by rw [hs, List.getElem?_map, hq]; rfl
    rw [List.getElem?_map] at h3
    cases hi : is[k]? with
    | none => rw [hi] at h3; cases h3
    | some i => rw [hi] at h3; exact ⟨i, List.mem_of_getElem? hi, Option.some.inj h3⟩
  have hPT : va_P D vwCl T H1 := fun k q hk => va_rest hP hD isC hC hk1 (C.length + k) q (hT k q hk) (fun hm => by have := hc _ hm; omega)
  have hDT : va_D A T := by
    refine ⟨fun i j p q hi hj he => ?_, fun k q hk => hD.2 _ q (hT k q hk)⟩
    have := hD.1 _ _ p q (hT i p hi) (hT j q hj) he
    omega
  refine ⟨hj.1.app hPT, va_D.app hj.2 hDT ?_⟩
  intro i j p q hi hj' he
  have hq := hT j q hj'
  have hlt := (hP _ q hq).lt
  by_cases hw : i < wr.length
  · rw [List.getElem?_append_left hw] at hi
    obtain ⟨z, z1, z2⟩ := gt hR i p hi
    have := hD.1 _ _ p q z2 hq he
    have := hrl z z1
    omega
  · rw [List.getElem?_append_right (by omega)] at hi
    rcases h2.2 _ p hi with ⟨k2, en, h⟩ | h
    · obtain ⟨z, z1, z2⟩ := gt hC k2 _ h
      have := hD.1 _ _ (p.1, en) q z2 hq he
      have := hc z z1
      omega
    · omega
end XT
theorem ix_in {i : Int32} {L : Nat} {k : Nat} (h0 : 0 ≤ i.toInt) (h7 : i.toInt + 7 ≤ (L : Int)) (hL : L ≤ 3584) (hk : k ≤ 6) : vp_in (i + nI k) L := by
  have e1 : (i + nI k).toInt = i.toInt + k := by
    rw [Int32.toInt_add, nI_toInt (by omega)]
    rw [Int.bmod_eq_of_le (by omega) (by omega)]
  intro h
  rcases h with h | h
  · rw [Int32.lt_iff_toInt_lt] at h
    have e0 : (0 : Int32).toInt = 0 := rfl
    omega
  · have e2 : (i + nI k).toNatClampNeg = (i + nI k).toInt.toNat := rfl
    omega
theorem ww_mono {p : Program} {l : Launch} {e : Env} {R : Room} {s : State} {m : MethodId} {args : Array Value} {below : List Frame} {meth : Method} {c : Code} {H : Heap} {locs : List Loc} {k n k' n' : Nat} {Q : State → Prop} {g : JFrame} (h1 : k' ≤ k) (h2 : n' ≤ n) (kk : W p l e R s m args below meth c H locs k n Q g) : W p l e R s m args below meth c H locs k' n' Q g := W.widen (k := k) (n := n) h1 h2 kk
set_option maxHeartbeats 4000000 in
set_option maxRecDepth 100000 in
theorem rests_go (l : Launch) {p : Program} {e : Env} {s : State} {m : MethodId} {below : List Frame} {meth : Method} {c : Code} {Q : State → Prop} {b L : Nat} {xs : Nat → Int32} {args : Array Value} (hlt : l.stackTraces = false) {D : va_G} {cy : Nat → ClassId} {A : Nat → Prop} {w0 : Cond} (hX0 : CTX p s m args c code 7 RL w0 D cy A) (hX : va_X b L xs s s.heap) (hbl : b < s.heap.size) (hbA : ¬ A b) (hL : L ≤ 3584) (hZ : zx A s) (n_1 n_2 : Int32) (h_1 q_1 q_3 q_4 q_25 q_46 q_50 q_54 q_58 q_62 q_63 q_64 q_67 q_85 q_90 q_93 h_2 q_800 : Nat) (th0 : Int32) (F : List Value) (f0 : Nat → Int32) (o0 : Nat → Int64) (i a1 a2 a3 : Int32) (hi0 : 0 ≤ i.toInt) (hi7 : i.toInt + 7 ≤ (L : Int)) (e1 : xs (i + nI 1).toNatClampNeg = a1) (e2 : xs (i + nI 2).toNatClampNeg = a2) (e3 : xs (i + nI 3).toNatClampNeg = a3) {T : va_W} {H : Heap} {locs : List Loc} (hP : va_P D vwCl ([(h_1, .inr (11, [.ref q_1, .ref q_3, .ref q_4, .ref q_25, .ref q_46, .ref q_50, .ref q_54, .ref q_58, .ref q_62, .int n_1, .int n_2, .ref q_63, .ref q_64, .ref q_67, .ref q_85, .ref q_90, .ref q_93])), (q_93, .inl (cy 1, 25, .inl f0)), (h_2, .inr (12, .int th0 :: F)), (q_800, .inl (cy 2, 1, .inr (.inl o0)))] ++ T) H) (hD : va_D A ([(h_1, .inr (11, [.ref q_1, .ref q_3, .ref q_4, .ref q_25, .ref q_46, .ref q_50, .ref q_54, .ref q_58, .ref q_62, .int n_1, .int n_2, .ref q_63, .ref q_64, .ref q_67, .ref q_85, .ref q_90, .ref q_93])), (q_93, .inl (cy 1, 25, .inl f0)), (h_2, .inr (12, .int th0 :: F)), (q_800, .inl (cy 2, 1, .inr (.inl o0)))] ++ T)) (hS : va_S A s.heap H locs) {ls : Array Slot} {nc ns : Nat} (hl : lv_has ls 7 [(4, .int i), (3, .ref q_800), (2, .ref h_2), (1, .ref h_1), (0, .ref b)]) (hRc : nc + 1 ≤ room_1.cells ∧ ns + 6 ≤ room_1.slots)
    (kk : ∀ (th : Int32) (g : Nat → Int32) (o1 : Nat → Int64) (H1 : Heap) (locs1 : List Loc) (ls1 : Array Slot), (th = 0 ∨ th = 1) → va_P D vwCl ([(h_1, .inr (11, [.ref q_1, .ref q_3, .ref q_4, .ref q_25, .ref q_46, .ref q_50, .ref q_54, .ref q_58, .ref q_62, .int n_1, .int n_2, .ref q_63, .ref q_64, .ref q_67, .ref q_85, .ref q_90, .ref q_93])), (q_93, .inl (cy 1, 25, .inl g)), (h_2, .inr (12, .int th :: F)), (q_800, .inl (cy 2, 1, .inr (.inl o1)))] ++ T) H1 → va_S A s.heap H1 locs1 → lv_has ls1 7 [(4, .int i), (3, .ref q_800), (2, .ref h_2), (1, .ref h_1), (0, .ref b)] → W p l e room_1 s m args below meth c H1 locs1 (nc + 1) (ns + 6) Q (F0 m 1064 ls1 [])) :
    W p l e room_1 s m args below meth c H locs nc ns Q (F0 m 885 ls []) := by
  obtain ⟨hx, hb, hml, hown, hts0, hG, hA⟩ := hX0
  have hts : ∀ w ∈ bigG, w.before args s = true := fun w h => hts0 w (List.mem_cons_of_mem _ h)
  have j1 : vp_in (i + 1) L := ix_in (k := 1) hi0 hi7 hL (by decide)
  have j2 : vp_in (i + 2) L := ix_in (k := 2) hi0 hi7 hL (by decide)
  have j3 : vp_in (i + 3) L := ix_in (k := 3) hi0 hi7 hL (by decide)
  have hc0 : nc + 0 ≤ room_1.cells ∧ ns + 0 ≤ room_1.slots := ⟨by omega, by omega⟩
  have hc1 : nc + 1 + 0 ≤ room_1.cells ∧ ns + 6 + 0 ≤ room_1.slots := ⟨by omega, by omega⟩
  by_cases g1 : a1 < 0
  · refine lv_aload_n hx hb dL_law_885 rfl (lv_at hl 3 rfl) ?_
    refine lv_aload_n hx hb dL_law_886 rfl (lv_at hl 4 rfl) ?_
    refine lv_iload hx hb dL_law_887 (lv_at hl 0 rfl) ?_
    refine lv_iconst (v := 1) hx hb dL_law_889 (by decide) ?_
    refine m_iadd (v := i + 1) hx hb dL_law_890 rfl ?_
    refine va_sld hx hb hX hbl hbA hS j1 dL_law_891 ?_
    refine m_as (v := a1) e1 ?_
    refine lv_aload_n hx hb dL_law_892 rfl (lv_at hl 4 rfl) ?_
    refine lv_iload hx hb dL_law_893 (lv_at hl 0 rfl) ?_
    refine lv_iconst (v := 2) hx hb dL_law_895 (by decide) ?_
    refine m_iadd (v := i + 2) hx hb dL_law_896 rfl ?_
    refine va_sld hx hb hX hbl hbA hS j2 dL_law_897 ?_
    refine m_as (v := a2) e2 ?_
    refine lv_aload_n hx hb dL_law_898 rfl (lv_at hl 4 rfl) ?_
    refine lv_iload hx hb dL_law_899 (lv_at hl 0 rfl) ?_
    refine lv_iconst (v := 3) hx hb dL_law_901 (by decide) ?_
    refine m_iadd (v := i + 3) hx hb dL_law_902 rfl ?_
    refine va_sld hx hb hX hbl hbA hS j3 dL_law_903 ?_
    refine m_as (v := a3) e3 ?_
    refine lv_aload_n hx hb dL_law_904 rfl (lv_at hl 1 rfl) ?_
    refine xt_i (C := [(h_1, .inr (11, [.ref q_1, .ref q_3, .ref q_4, .ref q_25, .ref q_46, .ref q_50, .ref q_54, .ref q_58, .ref q_62, .int n_1, .int n_2, .ref q_63, .ref q_64, .ref q_67, .ref q_85, .ref q_90, .ref q_93])), (q_93, .inl (cy 1, 25, .inl f0)), (h_2, .inr (12, .int th0 :: F)), (q_800, .inl (cy 2, 1, .inr (.inl o0)))]) (wr := [(h_2, .inr (12, .int th0 :: F)), (q_800, .inl (cy 2, 1, .inr (.inl o0)))]) hP hD hS hA [0, 1] [2, 3] rfl rfl (by decide) (by decide) (n := 4) rfl (by decide) (by decide) (vx_runSW (hh := [(0, 12, 15, 13)]) (As := [.ref h_1, .int a1, .int a2, .int a3, .ref q_800]) (rest := []) ⟨hx, hb, hml, hown, hts⟩ (c_L_rests_th l hlt D cy h_1 n_1 n_2 q_1 q_3 q_4 q_25 q_46 q_50 q_54 q_58 q_62 q_63 q_64 q_67 q_85 q_90 q_93 q_800 f0 a1 a2 a3 H.size (Or.inl g1)) (vx_cwSW 5 hts gLrests rfl rfl rfl (by decide +kernel) ⟨(Nat.le_of_ble_eq_true rfl), (Nat.le_of_ble_eq_true rfl)⟩) (prexS hG hP hD hS hA hZ [0, 1] rfl (by decide)) rfl rfl hl.1 rfl (lv_room (Nat.le_of_ble_eq_true rfl)) dL_law_905 hRc) (fun r_1 H locs hB hj hS => ?_)
    obtain ⟨g_1, hres, hP1, hD1⟩ := hB
    subst hres
    obtain ⟨hP, hD⟩ := hj _ hP1 hD1
    have hP : va_P D vwCl ([(h_2, .inr (12, .int th0 :: F)), (q_800, .inl (cy 2, 1, .inr (.inl o0))), (h_1, .inr (11, [.ref q_1, .ref q_3, .ref q_4, .ref q_25, .ref q_46, .ref q_50, .ref q_54, .ref q_58, .ref q_62, .int n_1, .int n_2, .ref q_63, .ref q_64, .ref q_67, .ref q_85, .ref q_90, .ref q_93])), (q_93, .inl (cy 1, 25, .inl g_1))] ++ T) H := hP
    have hD : va_D A ([(h_2, .inr (12, .int th0 :: F)), (q_800, .inl (cy 2, 1, .inr (.inl o0))), (h_1, .inr (11, [.ref q_1, .ref q_3, .ref q_4, .ref q_25, .ref q_46, .ref q_50, .ref q_54, .ref q_58, .ref q_62, .int n_1, .int n_2, .ref q_63, .ref q_64, .ref q_67, .ref q_85, .ref q_90, .ref q_93])), (q_93, .inl (cy 1, 25, .inl g_1))] ++ T) := hD
    refine lv_istore (lv' := [(5, .int 1), (4, .int i), (3, .ref q_800), (2, .ref h_2), (1, .ref h_1), (0, .ref b)]) hx hb dL_law_908 hl (by decide) rfl (fun ls hl => ?_)
    refine lv_aload_n hx hb dL_law_910 rfl (lv_at hl 3 rfl) ?_
    refine lv_aload_n hx hb dL_law_911 rfl (lv_at hl 5 rfl) ?_
    refine lv_iload hx hb dL_law_912 (lv_at hl 1 rfl) ?_
    refine lv_iconst (v := 1) hx hb dL_law_914 (by decide) ?_
    refine m_iadd (v := i + 1) hx hb dL_law_915 rfl ?_
    refine va_sld hx hb hX hbl hbA hS j1 dL_law_916 ?_
    refine m_as (v := a1) e1 ?_
    refine lv_aload_n hx hb dL_law_917 rfl (lv_at hl 5 rfl) ?_
    refine lv_iload hx hb dL_law_918 (lv_at hl 1 rfl) ?_
    refine lv_iconst (v := 2) hx hb dL_law_920 (by decide) ?_
    refine m_iadd (v := i + 2) hx hb dL_law_921 rfl ?_
    refine va_sld hx hb hX hbl hbA hS j2 dL_law_922 ?_
    refine m_as (v := a2) e2 ?_
    refine lv_aload_n hx hb dL_law_923 rfl (lv_at hl 5 rfl) ?_
    refine lv_iload hx hb dL_law_924 (lv_at hl 1 rfl) ?_
    refine lv_iconst (v := 3) hx hb dL_law_926 (by decide) ?_
    refine m_iadd (v := i + 3) hx hb dL_law_927 rfl ?_
    refine va_sld hx hb hX hbl hbA hS j3 dL_law_928 ?_
    refine m_as (v := a3) e3 ?_
    refine xt_i (C := [(h_2, .inr (12, .int th0 :: F)), (q_800, .inl (cy 2, 1, .inr (.inl o0))), (h_1, .inr (11, [.ref q_1, .ref q_3, .ref q_4, .ref q_25, .ref q_46, .ref q_50, .ref q_54, .ref q_58, .ref q_62, .int n_1, .int n_2, .ref q_63, .ref q_64, .ref q_67, .ref q_85, .ref q_90, .ref q_93])), (q_93, .inl (cy 1, 25, .inl g_1))]) (wr := [(q_800, .inl (cy 2, 1, .inr (.inl o0))), (h_1, .inr (11, [.ref q_1, .ref q_3, .ref q_4, .ref q_25, .ref q_46, .ref q_50, .ref q_54, .ref q_58, .ref q_62, .int n_1, .int n_2, .ref q_63, .ref q_64, .ref q_67, .ref q_85, .ref q_90, .ref q_93])), (q_93, .inl (cy 1, 25, .inl g_1))]) hP hD hS hA [0] [1, 2, 3] rfl rfl (by decide) (by decide) (n := 4) rfl (by decide) (by decide) (va_runV (As := [.int a1, .int a2, .int a3]) (rest := []) ⟨hx, hb, hml, hown, hts⟩ (c_X12_rests_1 l D cy h_2 th0 F a1 a2 a3 H.size g1) (cwV 3 hts (gV0 km_L_110 ki_X12_rests kz_X12_rests kn_X12 kc_X12_rests) rfl rfl rfl (by decide +kernel) ⟨(Nat.le_of_ble_eq_true rfl), (Nat.le_of_ble_eq_true rfl)⟩) (preV hG hP hD [0] rfl (by decide) 12 0 rfl rfl) rfl rfl hl.1 rfl (lv_room (Nat.le_of_ble_eq_true rfl)) dL_law_929 hc1) (fun r_2 H locs hB hj hS => ?_)
    obtain ⟨hres, hP1, hD1⟩ := hB
    subst hres
    obtain ⟨hP, hD⟩ := hj _ hP1 hD1
    have hP : va_P D vwCl ([(q_800, .inl (cy 2, 1, .inr (.inl o0))), (h_1, .inr (11, [.ref q_1, .ref q_3, .ref q_4, .ref q_25, .ref q_46, .ref q_50, .ref q_54, .ref q_58, .ref q_62, .int n_1, .int n_2, .ref q_63, .ref q_64, .ref q_67, .ref q_85, .ref q_90, .ref q_93])), (q_93, .inl (cy 1, 25, .inl g_1)), (h_2, .inr (12, .int 1 :: F))] ++ T) H := hP
    have hD : va_D A ([(q_800, .inl (cy 2, 1, .inr (.inl o0))), (h_1, .inr (11, [.ref q_1, .ref q_3, .ref q_4, .ref q_25, .ref q_46, .ref q_50, .ref q_54, .ref q_58, .ref q_62, .int n_1, .int n_2, .ref q_63, .ref q_64, .ref q_67, .ref q_85, .ref q_90, .ref q_93])), (q_93, .inl (cy 1, 25, .inl g_1)), (h_2, .inr (12, .int 1 :: F))] ++ T) := hD
    refine lv_istore (lv' := [(6, .int 0), (5, .int 1), (4, .int i), (3, .ref q_800), (2, .ref h_2), (1, .ref h_1), (0, .ref b)]) hx hb dL_law_932 hl (by decide) rfl (fun ls hl => ?_)
    refine lv_goto (tgt := 1064) hx hb dL_law_934 (by decide) ?_
    exact kk 1 g_1 o0 _ _ _ (Or.inr rfl) (hP.part [1, 2, 3, 0] rfl) hS (lv_sub hl [2, 3, 4, 5, 6] rfl)
  by_cases g2 : 20 < a1
  · refine lv_aload_n hx hb dL_law_885 rfl (lv_at hl 3 rfl) ?_
    refine lv_aload_n hx hb dL_law_886 rfl (lv_at hl 4 rfl) ?_
    refine lv_iload hx hb dL_law_887 (lv_at hl 0 rfl) ?_
    refine lv_iconst (v := 1) hx hb dL_law_889 (by decide) ?_
    refine m_iadd (v := i + 1) hx hb dL_law_890 rfl ?_
    refine va_sld hx hb hX hbl hbA hS j1 dL_law_891 ?_
    refine m_as (v := a1) e1 ?_
    refine lv_aload_n hx hb dL_law_892 rfl (lv_at hl 4 rfl) ?_
    refine lv_iload hx hb dL_law_893 (lv_at hl 0 rfl) ?_
    refine lv_iconst (v := 2) hx hb dL_law_895 (by decide) ?_
    refine m_iadd (v := i + 2) hx hb dL_law_896 rfl ?_
    refine va_sld hx hb hX hbl hbA hS j2 dL_law_897 ?_
    refine m_as (v := a2) e2 ?_
    refine lv_aload_n hx hb dL_law_898 rfl (lv_at hl 4 rfl) ?_
    refine lv_iload hx hb dL_law_899 (lv_at hl 0 rfl) ?_
    refine lv_iconst (v := 3) hx hb dL_law_901 (by decide) ?_
    refine m_iadd (v := i + 3) hx hb dL_law_902 rfl ?_
    refine va_sld hx hb hX hbl hbA hS j3 dL_law_903 ?_
    refine m_as (v := a3) e3 ?_
    refine lv_aload_n hx hb dL_law_904 rfl (lv_at hl 1 rfl) ?_
    refine xt_i (C := [(h_1, .inr (11, [.ref q_1, .ref q_3, .ref q_4, .ref q_25, .ref q_46, .ref q_50, .ref q_54, .ref q_58, .ref q_62, .int n_1, .int n_2, .ref q_63, .ref q_64, .ref q_67, .ref q_85, .ref q_90, .ref q_93])), (q_93, .inl (cy 1, 25, .inl f0)), (h_2, .inr (12, .int th0 :: F)), (q_800, .inl (cy 2, 1, .inr (.inl o0)))]) (wr := [(h_2, .inr (12, .int th0 :: F)), (q_800, .inl (cy 2, 1, .inr (.inl o0)))]) hP hD hS hA [0, 1] [2, 3] rfl rfl (by decide) (by decide) (n := 4) rfl (by decide) (by decide) (vx_runSW (hh := [(0, 12, 15, 13)]) (As := [.ref h_1, .int a1, .int a2, .int a3, .ref q_800]) (rest := []) ⟨hx, hb, hml, hown, hts⟩ (c_L_rests_th l hlt D cy h_1 n_1 n_2 q_1 q_3 q_4 q_25 q_46 q_50 q_54 q_58 q_62 q_63 q_64 q_67 q_85 q_90 q_93 q_800 f0 a1 a2 a3 H.size (Or.inr (Or.inl g2))) (vx_cwSW 5 hts gLrests rfl rfl rfl (by decide +kernel) ⟨(Nat.le_of_ble_eq_true rfl), (Nat.le_of_ble_eq_true rfl)⟩) (prexS hG hP hD hS hA hZ [0, 1] rfl (by decide)) rfl rfl hl.1 rfl (lv_room (Nat.le_of_ble_eq_true rfl)) dL_law_905 hRc) (fun r_1 H locs hB hj hS => ?_)
    obtain ⟨g_1, hres, hP1, hD1⟩ := hB
    subst hres
    obtain ⟨hP, hD⟩ := hj _ hP1 hD1
    have hP : va_P D vwCl ([(h_2, .inr (12, .int th0 :: F)), (q_800, .inl (cy 2, 1, .inr (.inl o0))), (h_1, .inr (11, [.ref q_1, .ref q_3, .ref q_4, .ref q_25, .ref q_46, .ref q_50, .ref q_54, .ref q_58, .ref q_62, .int n_1, .int n_2, .ref q_63, .ref q_64, .ref q_67, .ref q_85, .ref q_90, .ref q_93])), (q_93, .inl (cy 1, 25, .inl g_1))] ++ T) H := hP
    have hD : va_D A ([(h_2, .inr (12, .int th0 :: F)), (q_800, .inl (cy 2, 1, .inr (.inl o0))), (h_1, .inr (11, [.ref q_1, .ref q_3, .ref q_4, .ref q_25, .ref q_46, .ref q_50, .ref q_54, .ref q_58, .ref q_62, .int n_1, .int n_2, .ref q_63, .ref q_64, .ref q_67, .ref q_85, .ref q_90, .ref q_93])), (q_93, .inl (cy 1, 25, .inl g_1))] ++ T) := hD
    refine lv_istore (lv' := [(5, .int 1), (4, .int i), (3, .ref q_800), (2, .ref h_2), (1, .ref h_1), (0, .ref b)]) hx hb dL_law_908 hl (by decide) rfl (fun ls hl => ?_)
    refine lv_aload_n hx hb dL_law_910 rfl (lv_at hl 3 rfl) ?_
    refine lv_aload_n hx hb dL_law_911 rfl (lv_at hl 5 rfl) ?_
    refine lv_iload hx hb dL_law_912 (lv_at hl 1 rfl) ?_
    refine lv_iconst (v := 1) hx hb dL_law_914 (by decide) ?_
    refine m_iadd (v := i + 1) hx hb dL_law_915 rfl ?_
    refine va_sld hx hb hX hbl hbA hS j1 dL_law_916 ?_
    refine m_as (v := a1) e1 ?_
    refine lv_aload_n hx hb dL_law_917 rfl (lv_at hl 5 rfl) ?_
    refine lv_iload hx hb dL_law_918 (lv_at hl 1 rfl) ?_
    refine lv_iconst (v := 2) hx hb dL_law_920 (by decide) ?_
    refine m_iadd (v := i + 2) hx hb dL_law_921 rfl ?_
    refine va_sld hx hb hX hbl hbA hS j2 dL_law_922 ?_
    refine m_as (v := a2) e2 ?_
    refine lv_aload_n hx hb dL_law_923 rfl (lv_at hl 5 rfl) ?_
    refine lv_iload hx hb dL_law_924 (lv_at hl 1 rfl) ?_
    refine lv_iconst (v := 3) hx hb dL_law_926 (by decide) ?_
    refine m_iadd (v := i + 3) hx hb dL_law_927 rfl ?_
    refine va_sld hx hb hX hbl hbA hS j3 dL_law_928 ?_
    refine m_as (v := a3) e3 ?_
    refine xt_i (C := [(h_2, .inr (12, .int th0 :: F)), (q_800, .inl (cy 2, 1, .inr (.inl o0))), (h_1, .inr (11, [.ref q_1, .ref q_3, .ref q_4, .ref q_25, .ref q_46, .ref q_50, .ref q_54, .ref q_58, .ref q_62, .int n_1, .int n_2, .ref q_63, .ref q_64, .ref q_67, .ref q_85, .ref q_90, .ref q_93])), (q_93, .inl (cy 1, 25, .inl g_1))]) (wr := [(q_800, .inl (cy 2, 1, .inr (.inl o0))), (h_1, .inr (11, [.ref q_1, .ref q_3, .ref q_4, .ref q_25, .ref q_46, .ref q_50, .ref q_54, .ref q_58, .ref q_62, .int n_1, .int n_2, .ref q_63, .ref q_64, .ref q_67, .ref q_85, .ref q_90, .ref q_93])), (q_93, .inl (cy 1, 25, .inl g_1))]) hP hD hS hA [0] [1, 2, 3] rfl rfl (by decide) (by decide) (n := 4) rfl (by decide) (by decide) (va_runV (As := [.int a1, .int a2, .int a3]) (rest := []) ⟨hx, hb, hml, hown, hts⟩ (c_X12_rests_2 l D cy h_2 th0 F a1 a2 a3 H.size g1 g2) (cwV 3 hts (gV0 km_L_110 ki_X12_rests kz_X12_rests kn_X12 kc_X12_rests) rfl rfl rfl (by decide +kernel) ⟨(Nat.le_of_ble_eq_true rfl), (Nat.le_of_ble_eq_true rfl)⟩) (preV hG hP hD [0] rfl (by decide) 12 0 rfl rfl) rfl rfl hl.1 rfl (lv_room (Nat.le_of_ble_eq_true rfl)) dL_law_929 hc1) (fun r_2 H locs hB hj hS => ?_)
    obtain ⟨hres, hP1, hD1⟩ := hB
    subst hres
    obtain ⟨hP, hD⟩ := hj _ hP1 hD1
    have hP : va_P D vwCl ([(q_800, .inl (cy 2, 1, .inr (.inl o0))), (h_1, .inr (11, [.ref q_1, .ref q_3, .ref q_4, .ref q_25, .ref q_46, .ref q_50, .ref q_54, .ref q_58, .ref q_62, .int n_1, .int n_2, .ref q_63, .ref q_64, .ref q_67, .ref q_85, .ref q_90, .ref q_93])), (q_93, .inl (cy 1, 25, .inl g_1)), (h_2, .inr (12, .int 1 :: F))] ++ T) H := hP
    have hD : va_D A ([(q_800, .inl (cy 2, 1, .inr (.inl o0))), (h_1, .inr (11, [.ref q_1, .ref q_3, .ref q_4, .ref q_25, .ref q_46, .ref q_50, .ref q_54, .ref q_58, .ref q_62, .int n_1, .int n_2, .ref q_63, .ref q_64, .ref q_67, .ref q_85, .ref q_90, .ref q_93])), (q_93, .inl (cy 1, 25, .inl g_1)), (h_2, .inr (12, .int 1 :: F))] ++ T) := hD
    refine lv_istore (lv' := [(6, .int 0), (5, .int 1), (4, .int i), (3, .ref q_800), (2, .ref h_2), (1, .ref h_1), (0, .ref b)]) hx hb dL_law_932 hl (by decide) rfl (fun ls hl => ?_)
    refine lv_goto (tgt := 1064) hx hb dL_law_934 (by decide) ?_
    exact kk 1 g_1 o0 _ _ _ (Or.inr rfl) (hP.part [1, 2, 3, 0] rfl) hS (lv_sub hl [2, 3, 4, 5, 6] rfl)
  by_cases g3 : a2 < 0
  · refine lv_aload_n hx hb dL_law_885 rfl (lv_at hl 3 rfl) ?_
    refine lv_aload_n hx hb dL_law_886 rfl (lv_at hl 4 rfl) ?_
    refine lv_iload hx hb dL_law_887 (lv_at hl 0 rfl) ?_
    refine lv_iconst (v := 1) hx hb dL_law_889 (by decide) ?_
    refine m_iadd (v := i + 1) hx hb dL_law_890 rfl ?_
    refine va_sld hx hb hX hbl hbA hS j1 dL_law_891 ?_
    refine m_as (v := a1) e1 ?_
    refine lv_aload_n hx hb dL_law_892 rfl (lv_at hl 4 rfl) ?_
    refine lv_iload hx hb dL_law_893 (lv_at hl 0 rfl) ?_
    refine lv_iconst (v := 2) hx hb dL_law_895 (by decide) ?_
    refine m_iadd (v := i + 2) hx hb dL_law_896 rfl ?_
    refine va_sld hx hb hX hbl hbA hS j2 dL_law_897 ?_
    refine m_as (v := a2) e2 ?_
    refine lv_aload_n hx hb dL_law_898 rfl (lv_at hl 4 rfl) ?_
    refine lv_iload hx hb dL_law_899 (lv_at hl 0 rfl) ?_
    refine lv_iconst (v := 3) hx hb dL_law_901 (by decide) ?_
    refine m_iadd (v := i + 3) hx hb dL_law_902 rfl ?_
    refine va_sld hx hb hX hbl hbA hS j3 dL_law_903 ?_
    refine m_as (v := a3) e3 ?_
    refine lv_aload_n hx hb dL_law_904 rfl (lv_at hl 1 rfl) ?_
    refine xt_i (C := [(h_1, .inr (11, [.ref q_1, .ref q_3, .ref q_4, .ref q_25, .ref q_46, .ref q_50, .ref q_54, .ref q_58, .ref q_62, .int n_1, .int n_2, .ref q_63, .ref q_64, .ref q_67, .ref q_85, .ref q_90, .ref q_93])), (q_93, .inl (cy 1, 25, .inl f0)), (h_2, .inr (12, .int th0 :: F)), (q_800, .inl (cy 2, 1, .inr (.inl o0)))]) (wr := [(h_2, .inr (12, .int th0 :: F)), (q_800, .inl (cy 2, 1, .inr (.inl o0)))]) hP hD hS hA [0, 1] [2, 3] rfl rfl (by decide) (by decide) (n := 4) rfl (by decide) (by decide) (vx_runSW (hh := [(0, 12, 15, 13)]) (As := [.ref h_1, .int a1, .int a2, .int a3, .ref q_800]) (rest := []) ⟨hx, hb, hml, hown, hts⟩ (c_L_rests_th l hlt D cy h_1 n_1 n_2 q_1 q_3 q_4 q_25 q_46 q_50 q_54 q_58 q_62 q_63 q_64 q_67 q_85 q_90 q_93 q_800 f0 a1 a2 a3 H.size (Or.inr (Or.inr (Or.inl g3)))) (vx_cwSW 5 hts gLrests rfl rfl rfl (by decide +kernel) ⟨(Nat.le_of_ble_eq_true rfl), (Nat.le_of_ble_eq_true rfl)⟩) (prexS hG hP hD hS hA hZ [0, 1] rfl (by decide)) rfl rfl hl.1 rfl (lv_room (Nat.le_of_ble_eq_true rfl)) dL_law_905 hRc) (fun r_1 H locs hB hj hS => ?_)
    obtain ⟨g_1, hres, hP1, hD1⟩ := hB
    subst hres
    obtain ⟨hP, hD⟩ := hj _ hP1 hD1
    have hP : va_P D vwCl ([(h_2, .inr (12, .int th0 :: F)), (q_800, .inl (cy 2, 1, .inr (.inl o0))), (h_1, .inr (11, [.ref q_1, .ref q_3, .ref q_4, .ref q_25, .ref q_46, .ref q_50, .ref q_54, .ref q_58, .ref q_62, .int n_1, .int n_2, .ref q_63, .ref q_64, .ref q_67, .ref q_85, .ref q_90, .ref q_93])), (q_93, .inl (cy 1, 25, .inl g_1))] ++ T) H := hP
    have hD : va_D A ([(h_2, .inr (12, .int th0 :: F)), (q_800, .inl (cy 2, 1, .inr (.inl o0))), (h_1, .inr (11, [.ref q_1, .ref q_3, .ref q_4, .ref q_25, .ref q_46, .ref q_50, .ref q_54, .ref q_58, .ref q_62, .int n_1, .int n_2, .ref q_63, .ref q_64, .ref q_67, .ref q_85, .ref q_90, .ref q_93])), (q_93, .inl (cy 1, 25, .inl g_1))] ++ T) := hD
    refine lv_istore (lv' := [(5, .int 1), (4, .int i), (3, .ref q_800), (2, .ref h_2), (1, .ref h_1), (0, .ref b)]) hx hb dL_law_908 hl (by decide) rfl (fun ls hl => ?_)
    refine lv_aload_n hx hb dL_law_910 rfl (lv_at hl 3 rfl) ?_
    refine lv_aload_n hx hb dL_law_911 rfl (lv_at hl 5 rfl) ?_
    refine lv_iload hx hb dL_law_912 (lv_at hl 1 rfl) ?_
    refine lv_iconst (v := 1) hx hb dL_law_914 (by decide) ?_
    refine m_iadd (v := i + 1) hx hb dL_law_915 rfl ?_
    refine va_sld hx hb hX hbl hbA hS j1 dL_law_916 ?_
    refine m_as (v := a1) e1 ?_
    refine lv_aload_n hx hb dL_law_917 rfl (lv_at hl 5 rfl) ?_
    refine lv_iload hx hb dL_law_918 (lv_at hl 1 rfl) ?_
    refine lv_iconst (v := 2) hx hb dL_law_920 (by decide) ?_
    refine m_iadd (v := i + 2) hx hb dL_law_921 rfl ?_
    refine va_sld hx hb hX hbl hbA hS j2 dL_law_922 ?_
    refine m_as (v := a2) e2 ?_
    refine lv_aload_n hx hb dL_law_923 rfl (lv_at hl 5 rfl) ?_
    refine lv_iload hx hb dL_law_924 (lv_at hl 1 rfl) ?_
    refine lv_iconst (v := 3) hx hb dL_law_926 (by decide) ?_
    refine m_iadd (v := i + 3) hx hb dL_law_927 rfl ?_
    refine va_sld hx hb hX hbl hbA hS j3 dL_law_928 ?_
    refine m_as (v := a3) e3 ?_
    refine xt_i (C := [(h_2, .inr (12, .int th0 :: F)), (q_800, .inl (cy 2, 1, .inr (.inl o0))), (h_1, .inr (11, [.ref q_1, .ref q_3, .ref q_4, .ref q_25, .ref q_46, .ref q_50, .ref q_54, .ref q_58, .ref q_62, .int n_1, .int n_2, .ref q_63, .ref q_64, .ref q_67, .ref q_85, .ref q_90, .ref q_93])), (q_93, .inl (cy 1, 25, .inl g_1))]) (wr := [(q_800, .inl (cy 2, 1, .inr (.inl o0))), (h_1, .inr (11, [.ref q_1, .ref q_3, .ref q_4, .ref q_25, .ref q_46, .ref q_50, .ref q_54, .ref q_58, .ref q_62, .int n_1, .int n_2, .ref q_63, .ref q_64, .ref q_67, .ref q_85, .ref q_90, .ref q_93])), (q_93, .inl (cy 1, 25, .inl g_1))]) hP hD hS hA [0] [1, 2, 3] rfl rfl (by decide) (by decide) (n := 4) rfl (by decide) (by decide) (va_runV (As := [.int a1, .int a2, .int a3]) (rest := []) ⟨hx, hb, hml, hown, hts⟩ (c_X12_rests_3 l D cy h_2 th0 F a1 a2 a3 H.size g1 g2 g3) (cwV 3 hts (gV0 km_L_110 ki_X12_rests kz_X12_rests kn_X12 kc_X12_rests) rfl rfl rfl (by decide +kernel) ⟨(Nat.le_of_ble_eq_true rfl), (Nat.le_of_ble_eq_true rfl)⟩) (preV hG hP hD [0] rfl (by decide) 12 0 rfl rfl) rfl rfl hl.1 rfl (lv_room (Nat.le_of_ble_eq_true rfl)) dL_law_929 hc1) (fun r_2 H locs hB hj hS => ?_)
    obtain ⟨hres, hP1, hD1⟩ := hB
    subst hres
    obtain ⟨hP, hD⟩ := hj _ hP1 hD1
    have hP : va_P D vwCl ([(q_800, .inl (cy 2, 1, .inr (.inl o0))), (h_1, .inr (11, [.ref q_1, .ref q_3, .ref q_4, .ref q_25, .ref q_46, .ref q_50, .ref q_54, .ref q_58, .ref q_62, .int n_1, .int n_2, .ref q_63, .ref q_64, .ref q_67, .ref q_85, .ref q_90, .ref q_93])), (q_93, .inl (cy 1, 25, .inl g_1)), (h_2, .inr (12, .int 1 :: F))] ++ T) H := hP
    have hD : va_D A ([(q_800, .inl (cy 2, 1, .inr (.inl o0))), (h_1, .inr (11, [.ref q_1, .ref q_3, .ref q_4, .ref q_25, .ref q_46, .ref q_50, .ref q_54, .ref q_58, .ref q_62, .int n_1, .int n_2, .ref q_63, .ref q_64, .ref q_67, .ref q_85, .ref q_90, .ref q_93])), (q_93, .inl (cy 1, 25, .inl g_1)), (h_2, .inr (12, .int 1 :: F))] ++ T) := hD
    refine lv_istore (lv' := [(6, .int 0), (5, .int 1), (4, .int i), (3, .ref q_800), (2, .ref h_2), (1, .ref h_1), (0, .ref b)]) hx hb dL_law_932 hl (by decide) rfl (fun ls hl => ?_)
    refine lv_goto (tgt := 1064) hx hb dL_law_934 (by decide) ?_
    exact kk 1 g_1 o0 _ _ _ (Or.inr rfl) (hP.part [1, 2, 3, 0] rfl) hS (lv_sub hl [2, 3, 4, 5, 6] rfl)
  by_cases g4 : 9 < a2
  · refine lv_aload_n hx hb dL_law_885 rfl (lv_at hl 3 rfl) ?_
    refine lv_aload_n hx hb dL_law_886 rfl (lv_at hl 4 rfl) ?_
    refine lv_iload hx hb dL_law_887 (lv_at hl 0 rfl) ?_
    refine lv_iconst (v := 1) hx hb dL_law_889 (by decide) ?_
    refine m_iadd (v := i + 1) hx hb dL_law_890 rfl ?_
    refine va_sld hx hb hX hbl hbA hS j1 dL_law_891 ?_
    refine m_as (v := a1) e1 ?_
    refine lv_aload_n hx hb dL_law_892 rfl (lv_at hl 4 rfl) ?_
    refine lv_iload hx hb dL_law_893 (lv_at hl 0 rfl) ?_
    refine lv_iconst (v := 2) hx hb dL_law_895 (by decide) ?_
    refine m_iadd (v := i + 2) hx hb dL_law_896 rfl ?_
    refine va_sld hx hb hX hbl hbA hS j2 dL_law_897 ?_
    refine m_as (v := a2) e2 ?_
    refine lv_aload_n hx hb dL_law_898 rfl (lv_at hl 4 rfl) ?_
    refine lv_iload hx hb dL_law_899 (lv_at hl 0 rfl) ?_
    refine lv_iconst (v := 3) hx hb dL_law_901 (by decide) ?_
    refine m_iadd (v := i + 3) hx hb dL_law_902 rfl ?_
    refine va_sld hx hb hX hbl hbA hS j3 dL_law_903 ?_
    refine m_as (v := a3) e3 ?_
    refine lv_aload_n hx hb dL_law_904 rfl (lv_at hl 1 rfl) ?_
    refine xt_i (C := [(h_1, .inr (11, [.ref q_1, .ref q_3, .ref q_4, .ref q_25, .ref q_46, .ref q_50, .ref q_54, .ref q_58, .ref q_62, .int n_1, .int n_2, .ref q_63, .ref q_64, .ref q_67, .ref q_85, .ref q_90, .ref q_93])), (q_93, .inl (cy 1, 25, .inl f0)), (h_2, .inr (12, .int th0 :: F)), (q_800, .inl (cy 2, 1, .inr (.inl o0)))]) (wr := [(h_2, .inr (12, .int th0 :: F)), (q_800, .inl (cy 2, 1, .inr (.inl o0)))]) hP hD hS hA [0, 1] [2, 3] rfl rfl (by decide) (by decide) (n := 4) rfl (by decide) (by decide) (vx_runSW (hh := [(0, 12, 15, 13)]) (As := [.ref h_1, .int a1, .int a2, .int a3, .ref q_800]) (rest := []) ⟨hx, hb, hml, hown, hts⟩ (c_L_rests_th l hlt D cy h_1 n_1 n_2 q_1 q_3 q_4 q_25 q_46 q_50 q_54 q_58 q_62 q_63 q_64 q_67 q_85 q_90 q_93 q_800 f0 a1 a2 a3 H.size (Or.inr (Or.inr (Or.inr (Or.inl g4))))) (vx_cwSW 5 hts gLrests rfl rfl rfl (by decide +kernel) ⟨(Nat.le_of_ble_eq_true rfl), (Nat.le_of_ble_eq_true rfl)⟩) (prexS hG hP hD hS hA hZ [0, 1] rfl (by decide)) rfl rfl hl.1 rfl (lv_room (Nat.le_of_ble_eq_true rfl)) dL_law_905 hRc) (fun r_1 H locs hB hj hS => ?_)
    obtain ⟨g_1, hres, hP1, hD1⟩ := hB
    subst hres
    obtain ⟨hP, hD⟩ := hj _ hP1 hD1
    have hP : va_P D vwCl ([(h_2, .inr (12, .int th0 :: F)), (q_800, .inl (cy 2, 1, .inr (.inl o0))), (h_1, .inr (11, [.ref q_1, .ref q_3, .ref q_4, .ref q_25, .ref q_46, .ref q_50, .ref q_54, .ref q_58, .ref q_62, .int n_1, .int n_2, .ref q_63, .ref q_64, .ref q_67, .ref q_85, .ref q_90, .ref q_93])), (q_93, .inl (cy 1, 25, .inl g_1))] ++ T) H := hP
    have hD : va_D A ([(h_2, .inr (12, .int th0 :: F)), (q_800, .inl (cy 2, 1, .inr (.inl o0))), (h_1, .inr (11, [.ref q_1, .ref q_3, .ref q_4, .ref q_25, .ref q_46, .ref q_50, .ref q_54, .ref q_58, .ref q_62, .int n_1, .int n_2, .ref q_63, .ref q_64, .ref q_67, .ref q_85, .ref q_90, .ref q_93])), (q_93, .inl (cy 1, 25, .inl g_1))] ++ T) := hD
    refine lv_istore (lv' := [(5, .int 1), (4, .int i), (3, .ref q_800), (2, .ref h_2), (1, .ref h_1), (0, .ref b)]) hx hb dL_law_908 hl (by decide) rfl (fun ls hl => ?_)
    refine lv_aload_n hx hb dL_law_910 rfl (lv_at hl 3 rfl) ?_
    refine lv_aload_n hx hb dL_law_911 rfl (lv_at hl 5 rfl) ?_
    refine lv_iload hx hb dL_law_912 (lv_at hl 1 rfl) ?_
    refine lv_iconst (v := 1) hx hb dL_law_914 (by decide) ?_
    refine m_iadd (v := i + 1) hx hb dL_law_915 rfl ?_
    refine va_sld hx hb hX hbl hbA hS j1 dL_law_916 ?_
    refine m_as (v := a1) e1 ?_
    refine lv_aload_n hx hb dL_law_917 rfl (lv_at hl 5 rfl) ?_
    refine lv_iload hx hb dL_law_918 (lv_at hl 1 rfl) ?_
    refine lv_iconst (v := 2) hx hb dL_law_920 (by decide) ?_
    refine m_iadd (v := i + 2) hx hb dL_law_921 rfl ?_
    refine va_sld hx hb hX hbl hbA hS j2 dL_law_922 ?_
    refine m_as (v := a2) e2 ?_
    refine lv_aload_n hx hb dL_law_923 rfl (lv_at hl 5 rfl) ?_
    refine lv_iload hx hb dL_law_924 (lv_at hl 1 rfl) ?_
    refine lv_iconst (v := 3) hx hb dL_law_926 (by decide) ?_
    refine m_iadd (v := i + 3) hx hb dL_law_927 rfl ?_
    refine va_sld hx hb hX hbl hbA hS j3 dL_law_928 ?_
    refine m_as (v := a3) e3 ?_
    refine xt_i (C := [(h_2, .inr (12, .int th0 :: F)), (q_800, .inl (cy 2, 1, .inr (.inl o0))), (h_1, .inr (11, [.ref q_1, .ref q_3, .ref q_4, .ref q_25, .ref q_46, .ref q_50, .ref q_54, .ref q_58, .ref q_62, .int n_1, .int n_2, .ref q_63, .ref q_64, .ref q_67, .ref q_85, .ref q_90, .ref q_93])), (q_93, .inl (cy 1, 25, .inl g_1))]) (wr := [(q_800, .inl (cy 2, 1, .inr (.inl o0))), (h_1, .inr (11, [.ref q_1, .ref q_3, .ref q_4, .ref q_25, .ref q_46, .ref q_50, .ref q_54, .ref q_58, .ref q_62, .int n_1, .int n_2, .ref q_63, .ref q_64, .ref q_67, .ref q_85, .ref q_90, .ref q_93])), (q_93, .inl (cy 1, 25, .inl g_1))]) hP hD hS hA [0] [1, 2, 3] rfl rfl (by decide) (by decide) (n := 4) rfl (by decide) (by decide) (va_runV (As := [.int a1, .int a2, .int a3]) (rest := []) ⟨hx, hb, hml, hown, hts⟩ (c_X12_rests_4 l D cy h_2 th0 F a1 a2 a3 H.size g1 g2 g3 g4) (cwV 3 hts (gV0 km_L_110 ki_X12_rests kz_X12_rests kn_X12 kc_X12_rests) rfl rfl rfl (by decide +kernel) ⟨(Nat.le_of_ble_eq_true rfl), (Nat.le_of_ble_eq_true rfl)⟩) (preV hG hP hD [0] rfl (by decide) 12 0 rfl rfl) rfl rfl hl.1 rfl (lv_room (Nat.le_of_ble_eq_true rfl)) dL_law_929 hc1) (fun r_2 H locs hB hj hS => ?_)
    obtain ⟨hres, hP1, hD1⟩ := hB
    subst hres
    obtain ⟨hP, hD⟩ := hj _ hP1 hD1
    have hP : va_P D vwCl ([(q_800, .inl (cy 2, 1, .inr (.inl o0))), (h_1, .inr (11, [.ref q_1, .ref q_3, .ref q_4, .ref q_25, .ref q_46, .ref q_50, .ref q_54, .ref q_58, .ref q_62, .int n_1, .int n_2, .ref q_63, .ref q_64, .ref q_67, .ref q_85, .ref q_90, .ref q_93])), (q_93, .inl (cy 1, 25, .inl g_1)), (h_2, .inr (12, .int 1 :: F))] ++ T) H := hP
    have hD : va_D A ([(q_800, .inl (cy 2, 1, .inr (.inl o0))), (h_1, .inr (11, [.ref q_1, .ref q_3, .ref q_4, .ref q_25, .ref q_46, .ref q_50, .ref q_54, .ref q_58, .ref q_62, .int n_1, .int n_2, .ref q_63, .ref q_64, .ref q_67, .ref q_85, .ref q_90, .ref q_93])), (q_93, .inl (cy 1, 25, .inl g_1)), (h_2, .inr (12, .int 1 :: F))] ++ T) := hD
    refine lv_istore (lv' := [(6, .int 0), (5, .int 1), (4, .int i), (3, .ref q_800), (2, .ref h_2), (1, .ref h_1), (0, .ref b)]) hx hb dL_law_932 hl (by decide) rfl (fun ls hl => ?_)
    refine lv_goto (tgt := 1064) hx hb dL_law_934 (by decide) ?_
    exact kk 1 g_1 o0 _ _ _ (Or.inr rfl) (hP.part [1, 2, 3, 0] rfl) hS (lv_sub hl [2, 3, 4, 5, 6] rfl)
  by_cases g5 : a3 = (-1) ∨ ∃ t, t < (outr a1 a2 5).length ∧ a3 = nI t
  · have hw : ¬ a3 < (-1) := by
      rcases g5 with g5 | g5
      · rw [g5]; decide
      · exact okt_ge g5
    refine lv_aload_n hx hb dL_law_885 rfl (lv_at hl 3 rfl) ?_
    refine lv_aload_n hx hb dL_law_886 rfl (lv_at hl 4 rfl) ?_
    refine lv_iload hx hb dL_law_887 (lv_at hl 0 rfl) ?_
    refine lv_iconst (v := 1) hx hb dL_law_889 (by decide) ?_
    refine m_iadd (v := i + 1) hx hb dL_law_890 rfl ?_
    refine va_sld hx hb hX hbl hbA hS j1 dL_law_891 ?_
    refine m_as (v := a1) e1 ?_
    refine lv_aload_n hx hb dL_law_892 rfl (lv_at hl 4 rfl) ?_
    refine lv_iload hx hb dL_law_893 (lv_at hl 0 rfl) ?_
    refine lv_iconst (v := 2) hx hb dL_law_895 (by decide) ?_
    refine m_iadd (v := i + 2) hx hb dL_law_896 rfl ?_
    refine va_sld hx hb hX hbl hbA hS j2 dL_law_897 ?_
    refine m_as (v := a2) e2 ?_
    refine lv_aload_n hx hb dL_law_898 rfl (lv_at hl 4 rfl) ?_
    refine lv_iload hx hb dL_law_899 (lv_at hl 0 rfl) ?_
    refine lv_iconst (v := 3) hx hb dL_law_901 (by decide) ?_
    refine m_iadd (v := i + 3) hx hb dL_law_902 rfl ?_
    refine va_sld hx hb hX hbl hbA hS j3 dL_law_903 ?_
    refine m_as (v := a3) e3 ?_
    refine lv_aload_n hx hb dL_law_904 rfl (lv_at hl 1 rfl) ?_
    refine xt_i (C := [(h_1, .inr (11, [.ref q_1, .ref q_3, .ref q_4, .ref q_25, .ref q_46, .ref q_50, .ref q_54, .ref q_58, .ref q_62, .int n_1, .int n_2, .ref q_63, .ref q_64, .ref q_67, .ref q_85, .ref q_90, .ref q_93])), (q_93, .inl (cy 1, 25, .inl f0)), (h_2, .inr (12, .int th0 :: F)), (q_800, .inl (cy 2, 1, .inr (.inl o0)))]) (wr := [(h_2, .inr (12, .int th0 :: F))]) hP hD hS hA [0, 1, 3] [2] rfl rfl (by decide) (by decide) (n := 4) rfl (by decide) (by decide) (vx_runSW (hh := [(0, 12, 15, 13)]) (As := [.ref h_1, .int a1, .int a2, .int a3, .ref q_800]) (rest := []) ⟨hx, hb, hml, hown, hts⟩ (c_L_rests_ok l D cy h_1 n_1 n_2 q_1 q_3 q_4 q_25 q_46 q_50 q_54 q_58 q_62 q_63 q_64 q_67 q_85 q_90 q_93 q_800 f0 o0 a1 a2 a3 H.size g1 g2 g3 g4 g5) (vx_cwSW 5 hts gLrests rfl rfl rfl (by decide +kernel) ⟨(Nat.le_of_ble_eq_true rfl), (Nat.le_of_ble_eq_true rfl)⟩) (preS hG hP hD [0, 1, 3] rfl (by decide)) rfl rfl hl.1 rfl (lv_room (Nat.le_of_ble_eq_true rfl)) dL_law_905 hc0) (fun r_1 H locs hB hj hS => ?_)
    obtain ⟨v_1, g_1, hres, hp_1, hP1, hD1⟩ := hB
    subst hres
    obtain ⟨hP, hD⟩ := hj _ hP1 hD1
    have hP : va_P D vwCl ([(h_2, .inr (12, .int th0 :: F)), (h_1, .inr (11, [.ref q_1, .ref q_3, .ref q_4, .ref q_25, .ref q_46, .ref q_50, .ref q_54, .ref q_58, .ref q_62, .int n_1, .int n_2, .ref q_63, .ref q_64, .ref q_67, .ref q_85, .ref q_90, .ref q_93])), (q_93, .inl (cy 1, 25, .inl g_1)), (q_800, .inl (cy 2, 1, .inr (.inl (vp_updL o0 0 v_1.toInt64))))] ++ T) H := hP
    have hD : va_D A ([(h_2, .inr (12, .int th0 :: F)), (h_1, .inr (11, [.ref q_1, .ref q_3, .ref q_4, .ref q_25, .ref q_46, .ref q_50, .ref q_54, .ref q_58, .ref q_62, .int n_1, .int n_2, .ref q_63, .ref q_64, .ref q_67, .ref q_85, .ref q_90, .ref q_93])), (q_93, .inl (cy 1, 25, .inl g_1)), (q_800, .inl (cy 2, 1, .inr (.inl (vp_updL o0 0 v_1.toInt64))))] ++ T) := hD
    refine ww_mono (k := nc + 1) (n := ns + 6) (by omega) (by omega) ?_
    refine lv_istore (lv' := [(5, .int 0), (4, .int i), (3, .ref q_800), (2, .ref h_2), (1, .ref h_1), (0, .ref b)]) hx hb dL_law_908 hl (by decide) rfl (fun ls hl => ?_)
    refine lv_aload_n hx hb dL_law_910 rfl (lv_at hl 3 rfl) ?_
    refine lv_aload_n hx hb dL_law_911 rfl (lv_at hl 5 rfl) ?_
    refine lv_iload hx hb dL_law_912 (lv_at hl 1 rfl) ?_
    refine lv_iconst (v := 1) hx hb dL_law_914 (by decide) ?_
    refine m_iadd (v := i + 1) hx hb dL_law_915 rfl ?_
    refine va_sld hx hb hX hbl hbA hS j1 dL_law_916 ?_
    refine m_as (v := a1) e1 ?_
    refine lv_aload_n hx hb dL_law_917 rfl (lv_at hl 5 rfl) ?_
    refine lv_iload hx hb dL_law_918 (lv_at hl 1 rfl) ?_
    refine lv_iconst (v := 2) hx hb dL_law_920 (by decide) ?_
    refine m_iadd (v := i + 2) hx hb dL_law_921 rfl ?_
    refine va_sld hx hb hX hbl hbA hS j2 dL_law_922 ?_
    refine m_as (v := a2) e2 ?_
    refine lv_aload_n hx hb dL_law_923 rfl (lv_at hl 5 rfl) ?_
    refine lv_iload hx hb dL_law_924 (lv_at hl 1 rfl) ?_
    refine lv_iconst (v := 3) hx hb dL_law_926 (by decide) ?_
    refine m_iadd (v := i + 3) hx hb dL_law_927 rfl ?_
    refine va_sld hx hb hX hbl hbA hS j3 dL_law_928 ?_
    refine m_as (v := a3) e3 ?_
    refine xt_i (C := [(h_2, .inr (12, .int th0 :: F)), (h_1, .inr (11, [.ref q_1, .ref q_3, .ref q_4, .ref q_25, .ref q_46, .ref q_50, .ref q_54, .ref q_58, .ref q_62, .int n_1, .int n_2, .ref q_63, .ref q_64, .ref q_67, .ref q_85, .ref q_90, .ref q_93])), (q_93, .inl (cy 1, 25, .inl g_1)), (q_800, .inl (cy 2, 1, .inr (.inl (vp_updL o0 0 v_1.toInt64))))]) (wr := [(h_1, .inr (11, [.ref q_1, .ref q_3, .ref q_4, .ref q_25, .ref q_46, .ref q_50, .ref q_54, .ref q_58, .ref q_62, .int n_1, .int n_2, .ref q_63, .ref q_64, .ref q_67, .ref q_85, .ref q_90, .ref q_93])), (q_93, .inl (cy 1, 25, .inl g_1)), (q_800, .inl (cy 2, 1, .inr (.inl (vp_updL o0 0 v_1.toInt64))))]) hP hD hS hA [0] [1, 2, 3] rfl rfl (by decide) (by decide) (n := 4) rfl (by decide) (by decide) (va_runV (As := [.int a1, .int a2, .int a3]) (rest := []) ⟨hx, hb, hml, hown, hts⟩ (c_X12_rests l D cy h_2 th0 F a1 a2 a3 H.size g1 g2 g3 g4 hw) (cwV 3 hts (gV0 km_L_110 ki_X12_rests kz_X12_rests kn_X12 kc_X12_rests) rfl rfl rfl (by decide +kernel) ⟨(Nat.le_of_ble_eq_true rfl), (Nat.le_of_ble_eq_true rfl)⟩) (preV hG hP hD [0] rfl (by decide) 12 0 rfl rfl) rfl rfl hl.1 rfl (lv_room (Nat.le_of_ble_eq_true rfl)) dL_law_929 hc1) (fun r_2 H locs hB hj hS => ?_)
    obtain ⟨th_1, hp_2, hP1, hD1⟩ := hB
    obtain ⟨eth, er⟩ := rs_ok hp_2 hp_1
    subst eth
    subst er
    obtain ⟨hP, hD⟩ := hj _ hP1 hD1
    have hP : va_P D vwCl ([(h_1, .inr (11, [.ref q_1, .ref q_3, .ref q_4, .ref q_25, .ref q_46, .ref q_50, .ref q_54, .ref q_58, .ref q_62, .int n_1, .int n_2, .ref q_63, .ref q_64, .ref q_67, .ref q_85, .ref q_90, .ref q_93])), (q_93, .inl (cy 1, 25, .inl g_1)), (q_800, .inl (cy 2, 1, .inr (.inl (vp_updL o0 0 v_1.toInt64)))), (h_2, .inr (12, .int 0 :: F))] ++ T) H := hP
    have hD : va_D A ([(h_1, .inr (11, [.ref q_1, .ref q_3, .ref q_4, .ref q_25, .ref q_46, .ref q_50, .ref q_54, .ref q_58, .ref q_62, .int n_1, .int n_2, .ref q_63, .ref q_64, .ref q_67, .ref q_85, .ref q_90, .ref q_93])), (q_93, .inl (cy 1, 25, .inl g_1)), (q_800, .inl (cy 2, 1, .inr (.inl (vp_updL o0 0 v_1.toInt64)))), (h_2, .inr (12, .int 0 :: F))] ++ T) := hD
    refine lv_istore (lv' := [(6, .int v_1), (5, .int 0), (4, .int i), (3, .ref q_800), (2, .ref h_2), (1, .ref h_1), (0, .ref b)]) hx hb dL_law_932 hl (by decide) rfl (fun ls hl => ?_)
    refine lv_goto (tgt := 1064) hx hb dL_law_934 (by decide) ?_
    exact kk 0 g_1 (vp_updL o0 0 v_1.toInt64) _ _ _ (Or.inl rfl) (hP.part [0, 1, 3, 2] rfl) hS (lv_sub hl [2, 3, 4, 5, 6] rfl)
  have hno : ¬ a3 = (-1) ∧ ∀ t, t < (outr a1 a2 5).length → ¬ a3 = nI t := ⟨fun h => g5 (Or.inl h), no_ex (fun h => g5 (Or.inr h))⟩
  by_cases g6 : a3 < (-1)
  · refine lv_aload_n hx hb dL_law_885 rfl (lv_at hl 3 rfl) ?_
    refine lv_aload_n hx hb dL_law_886 rfl (lv_at hl 4 rfl) ?_
    refine lv_iload hx hb dL_law_887 (lv_at hl 0 rfl) ?_
    refine lv_iconst (v := 1) hx hb dL_law_889 (by decide) ?_
    refine m_iadd (v := i + 1) hx hb dL_law_890 rfl ?_
    refine va_sld hx hb hX hbl hbA hS j1 dL_law_891 ?_
    refine m_as (v := a1) e1 ?_
    refine lv_aload_n hx hb dL_law_892 rfl (lv_at hl 4 rfl) ?_
    refine lv_iload hx hb dL_law_893 (lv_at hl 0 rfl) ?_
    refine lv_iconst (v := 2) hx hb dL_law_895 (by decide) ?_
    refine m_iadd (v := i + 2) hx hb dL_law_896 rfl ?_
    refine va_sld hx hb hX hbl hbA hS j2 dL_law_897 ?_
    refine m_as (v := a2) e2 ?_
    refine lv_aload_n hx hb dL_law_898 rfl (lv_at hl 4 rfl) ?_
    refine lv_iload hx hb dL_law_899 (lv_at hl 0 rfl) ?_
    refine lv_iconst (v := 3) hx hb dL_law_901 (by decide) ?_
    refine m_iadd (v := i + 3) hx hb dL_law_902 rfl ?_
    refine va_sld hx hb hX hbl hbA hS j3 dL_law_903 ?_
    refine m_as (v := a3) e3 ?_
    refine lv_aload_n hx hb dL_law_904 rfl (lv_at hl 1 rfl) ?_
    refine xt_i (C := [(h_1, .inr (11, [.ref q_1, .ref q_3, .ref q_4, .ref q_25, .ref q_46, .ref q_50, .ref q_54, .ref q_58, .ref q_62, .int n_1, .int n_2, .ref q_63, .ref q_64, .ref q_67, .ref q_85, .ref q_90, .ref q_93])), (q_93, .inl (cy 1, 25, .inl f0)), (h_2, .inr (12, .int th0 :: F)), (q_800, .inl (cy 2, 1, .inr (.inl o0)))]) (wr := [(h_2, .inr (12, .int th0 :: F)), (q_800, .inl (cy 2, 1, .inr (.inl o0)))]) hP hD hS hA [0, 1] [2, 3] rfl rfl (by decide) (by decide) (n := 4) rfl (by decide) (by decide) (vx_runSW (hh := [(0, 12, 15, 13)]) (As := [.ref h_1, .int a1, .int a2, .int a3, .ref q_800]) (rest := []) ⟨hx, hb, hml, hown, hts⟩ (c_L_rests_th l hlt D cy h_1 n_1 n_2 q_1 q_3 q_4 q_25 q_46 q_50 q_54 q_58 q_62 q_63 q_64 q_67 q_85 q_90 q_93 q_800 f0 a1 a2 a3 H.size (Or.inr (Or.inr (Or.inr (Or.inr hno))))) (vx_cwSW 5 hts gLrests rfl rfl rfl (by decide +kernel) ⟨(Nat.le_of_ble_eq_true rfl), (Nat.le_of_ble_eq_true rfl)⟩) (prexS hG hP hD hS hA hZ [0, 1] rfl (by decide)) rfl rfl hl.1 rfl (lv_room (Nat.le_of_ble_eq_true rfl)) dL_law_905 hRc) (fun r_1 H locs hB hj hS => ?_)
    obtain ⟨g_1, hres, hP1, hD1⟩ := hB
    subst hres
    obtain ⟨hP, hD⟩ := hj _ hP1 hD1
    have hP : va_P D vwCl ([(h_2, .inr (12, .int th0 :: F)), (q_800, .inl (cy 2, 1, .inr (.inl o0))), (h_1, .inr (11, [.ref q_1, .ref q_3, .ref q_4, .ref q_25, .ref q_46, .ref q_50, .ref q_54, .ref q_58, .ref q_62, .int n_1, .int n_2, .ref q_63, .ref q_64, .ref q_67, .ref q_85, .ref q_90, .ref q_93])), (q_93, .inl (cy 1, 25, .inl g_1))] ++ T) H := hP
    have hD : va_D A ([(h_2, .inr (12, .int th0 :: F)), (q_800, .inl (cy 2, 1, .inr (.inl o0))), (h_1, .inr (11, [.ref q_1, .ref q_3, .ref q_4, .ref q_25, .ref q_46, .ref q_50, .ref q_54, .ref q_58, .ref q_62, .int n_1, .int n_2, .ref q_63, .ref q_64, .ref q_67, .ref q_85, .ref q_90, .ref q_93])), (q_93, .inl (cy 1, 25, .inl g_1))] ++ T) := hD
    refine lv_istore (lv' := [(5, .int 1), (4, .int i), (3, .ref q_800), (2, .ref h_2), (1, .ref h_1), (0, .ref b)]) hx hb dL_law_908 hl (by decide) rfl (fun ls hl => ?_)
    refine lv_aload_n hx hb dL_law_910 rfl (lv_at hl 3 rfl) ?_
    refine lv_aload_n hx hb dL_law_911 rfl (lv_at hl 5 rfl) ?_
    refine lv_iload hx hb dL_law_912 (lv_at hl 1 rfl) ?_
    refine lv_iconst (v := 1) hx hb dL_law_914 (by decide) ?_
    refine m_iadd (v := i + 1) hx hb dL_law_915 rfl ?_
    refine va_sld hx hb hX hbl hbA hS j1 dL_law_916 ?_
    refine m_as (v := a1) e1 ?_
    refine lv_aload_n hx hb dL_law_917 rfl (lv_at hl 5 rfl) ?_
    refine lv_iload hx hb dL_law_918 (lv_at hl 1 rfl) ?_
    refine lv_iconst (v := 2) hx hb dL_law_920 (by decide) ?_
    refine m_iadd (v := i + 2) hx hb dL_law_921 rfl ?_
    refine va_sld hx hb hX hbl hbA hS j2 dL_law_922 ?_
    refine m_as (v := a2) e2 ?_
    refine lv_aload_n hx hb dL_law_923 rfl (lv_at hl 5 rfl) ?_
    refine lv_iload hx hb dL_law_924 (lv_at hl 1 rfl) ?_
    refine lv_iconst (v := 3) hx hb dL_law_926 (by decide) ?_
    refine m_iadd (v := i + 3) hx hb dL_law_927 rfl ?_
    refine va_sld hx hb hX hbl hbA hS j3 dL_law_928 ?_
    refine m_as (v := a3) e3 ?_
    refine xt_i (C := [(h_2, .inr (12, .int th0 :: F)), (q_800, .inl (cy 2, 1, .inr (.inl o0))), (h_1, .inr (11, [.ref q_1, .ref q_3, .ref q_4, .ref q_25, .ref q_46, .ref q_50, .ref q_54, .ref q_58, .ref q_62, .int n_1, .int n_2, .ref q_63, .ref q_64, .ref q_67, .ref q_85, .ref q_90, .ref q_93])), (q_93, .inl (cy 1, 25, .inl g_1))]) (wr := [(q_800, .inl (cy 2, 1, .inr (.inl o0))), (h_1, .inr (11, [.ref q_1, .ref q_3, .ref q_4, .ref q_25, .ref q_46, .ref q_50, .ref q_54, .ref q_58, .ref q_62, .int n_1, .int n_2, .ref q_63, .ref q_64, .ref q_67, .ref q_85, .ref q_90, .ref q_93])), (q_93, .inl (cy 1, 25, .inl g_1))]) hP hD hS hA [0] [1, 2, 3] rfl rfl (by decide) (by decide) (n := 4) rfl (by decide) (by decide) (va_runV (As := [.int a1, .int a2, .int a3]) (rest := []) ⟨hx, hb, hml, hown, hts⟩ (c_X12_rests_5 l D cy h_2 th0 F a1 a2 a3 H.size g1 g2 g3 g4 hno.1 g6) (cwV 3 hts (gV0 km_L_110 ki_X12_rests kz_X12_rests kn_X12 kc_X12_rests) rfl rfl rfl (by decide +kernel) ⟨(Nat.le_of_ble_eq_true rfl), (Nat.le_of_ble_eq_true rfl)⟩) (preV hG hP hD [0] rfl (by decide) 12 0 rfl rfl) rfl rfl hl.1 rfl (lv_room (Nat.le_of_ble_eq_true rfl)) dL_law_929 hc1) (fun r_2 H locs hB hj hS => ?_)
    obtain ⟨hres, hP1, hD1⟩ := hB
    subst hres
    obtain ⟨hP, hD⟩ := hj _ hP1 hD1
    have hP : va_P D vwCl ([(q_800, .inl (cy 2, 1, .inr (.inl o0))), (h_1, .inr (11, [.ref q_1, .ref q_3, .ref q_4, .ref q_25, .ref q_46, .ref q_50, .ref q_54, .ref q_58, .ref q_62, .int n_1, .int n_2, .ref q_63, .ref q_64, .ref q_67, .ref q_85, .ref q_90, .ref q_93])), (q_93, .inl (cy 1, 25, .inl g_1)), (h_2, .inr (12, .int 1 :: F))] ++ T) H := hP
    have hD : va_D A ([(q_800, .inl (cy 2, 1, .inr (.inl o0))), (h_1, .inr (11, [.ref q_1, .ref q_3, .ref q_4, .ref q_25, .ref q_46, .ref q_50, .ref q_54, .ref q_58, .ref q_62, .int n_1, .int n_2, .ref q_63, .ref q_64, .ref q_67, .ref q_85, .ref q_90, .ref q_93])), (q_93, .inl (cy 1, 25, .inl g_1)), (h_2, .inr (12, .int 1 :: F))] ++ T) := hD
    refine lv_istore (lv' := [(6, .int 0), (5, .int 1), (4, .int i), (3, .ref q_800), (2, .ref h_2), (1, .ref h_1), (0, .ref b)]) hx hb dL_law_932 hl (by decide) rfl (fun ls hl => ?_)
    refine lv_goto (tgt := 1064) hx hb dL_law_934 (by decide) ?_
    exact kk 1 g_1 o0 _ _ _ (Or.inr rfl) (hP.part [1, 2, 3, 0] rfl) hS (lv_sub hl [2, 3, 4, 5, 6] rfl)
  · refine lv_aload_n hx hb dL_law_885 rfl (lv_at hl 3 rfl) ?_
    refine lv_aload_n hx hb dL_law_886 rfl (lv_at hl 4 rfl) ?_
    refine lv_iload hx hb dL_law_887 (lv_at hl 0 rfl) ?_
    refine lv_iconst (v := 1) hx hb dL_law_889 (by decide) ?_
    refine m_iadd (v := i + 1) hx hb dL_law_890 rfl ?_
    refine va_sld hx hb hX hbl hbA hS j1 dL_law_891 ?_
    refine m_as (v := a1) e1 ?_
    refine lv_aload_n hx hb dL_law_892 rfl (lv_at hl 4 rfl) ?_
    refine lv_iload hx hb dL_law_893 (lv_at hl 0 rfl) ?_
    refine lv_iconst (v := 2) hx hb dL_law_895 (by decide) ?_
    refine m_iadd (v := i + 2) hx hb dL_law_896 rfl ?_
    refine va_sld hx hb hX hbl hbA hS j2 dL_law_897 ?_
    refine m_as (v := a2) e2 ?_
    refine lv_aload_n hx hb dL_law_898 rfl (lv_at hl 4 rfl) ?_
    refine lv_iload hx hb dL_law_899 (lv_at hl 0 rfl) ?_
    refine lv_iconst (v := 3) hx hb dL_law_901 (by decide) ?_
    refine m_iadd (v := i + 3) hx hb dL_law_902 rfl ?_
    refine va_sld hx hb hX hbl hbA hS j3 dL_law_903 ?_
    refine m_as (v := a3) e3 ?_
    refine lv_aload_n hx hb dL_law_904 rfl (lv_at hl 1 rfl) ?_
    refine xt_i (C := [(h_1, .inr (11, [.ref q_1, .ref q_3, .ref q_4, .ref q_25, .ref q_46, .ref q_50, .ref q_54, .ref q_58, .ref q_62, .int n_1, .int n_2, .ref q_63, .ref q_64, .ref q_67, .ref q_85, .ref q_90, .ref q_93])), (q_93, .inl (cy 1, 25, .inl f0)), (h_2, .inr (12, .int th0 :: F)), (q_800, .inl (cy 2, 1, .inr (.inl o0)))]) (wr := [(h_2, .inr (12, .int th0 :: F)), (q_800, .inl (cy 2, 1, .inr (.inl o0)))]) hP hD hS hA [0, 1] [2, 3] rfl rfl (by decide) (by decide) (n := 4) rfl (by decide) (by decide) (vx_runSW (hh := [(0, 12, 15, 13)]) (As := [.ref h_1, .int a1, .int a2, .int a3, .ref q_800]) (rest := []) ⟨hx, hb, hml, hown, hts⟩ (c_L_rests_th l hlt D cy h_1 n_1 n_2 q_1 q_3 q_4 q_25 q_46 q_50 q_54 q_58 q_62 q_63 q_64 q_67 q_85 q_90 q_93 q_800 f0 a1 a2 a3 H.size (Or.inr (Or.inr (Or.inr (Or.inr hno))))) (vx_cwSW 5 hts gLrests rfl rfl rfl (by decide +kernel) ⟨(Nat.le_of_ble_eq_true rfl), (Nat.le_of_ble_eq_true rfl)⟩) (prexS hG hP hD hS hA hZ [0, 1] rfl (by decide)) rfl rfl hl.1 rfl (lv_room (Nat.le_of_ble_eq_true rfl)) dL_law_905 hRc) (fun r_1 H locs hB hj hS => ?_)
    obtain ⟨g_1, hres, hP1, hD1⟩ := hB
    subst hres
    obtain ⟨hP, hD⟩ := hj _ hP1 hD1
    have hP : va_P D vwCl ([(h_2, .inr (12, .int th0 :: F)), (q_800, .inl (cy 2, 1, .inr (.inl o0))), (h_1, .inr (11, [.ref q_1, .ref q_3, .ref q_4, .ref q_25, .ref q_46, .ref q_50, .ref q_54, .ref q_58, .ref q_62, .int n_1, .int n_2, .ref q_63, .ref q_64, .ref q_67, .ref q_85, .ref q_90, .ref q_93])), (q_93, .inl (cy 1, 25, .inl g_1))] ++ T) H := hP
    have hD : va_D A ([(h_2, .inr (12, .int th0 :: F)), (q_800, .inl (cy 2, 1, .inr (.inl o0))), (h_1, .inr (11, [.ref q_1, .ref q_3, .ref q_4, .ref q_25, .ref q_46, .ref q_50, .ref q_54, .ref q_58, .ref q_62, .int n_1, .int n_2, .ref q_63, .ref q_64, .ref q_67, .ref q_85, .ref q_90, .ref q_93])), (q_93, .inl (cy 1, 25, .inl g_1))] ++ T) := hD
    refine lv_istore (lv' := [(5, .int 1), (4, .int i), (3, .ref q_800), (2, .ref h_2), (1, .ref h_1), (0, .ref b)]) hx hb dL_law_908 hl (by decide) rfl (fun ls hl => ?_)
    refine lv_aload_n hx hb dL_law_910 rfl (lv_at hl 3 rfl) ?_
    refine lv_aload_n hx hb dL_law_911 rfl (lv_at hl 5 rfl) ?_
    refine lv_iload hx hb dL_law_912 (lv_at hl 1 rfl) ?_
    refine lv_iconst (v := 1) hx hb dL_law_914 (by decide) ?_
    refine m_iadd (v := i + 1) hx hb dL_law_915 rfl ?_
    refine va_sld hx hb hX hbl hbA hS j1 dL_law_916 ?_
    refine m_as (v := a1) e1 ?_
    refine lv_aload_n hx hb dL_law_917 rfl (lv_at hl 5 rfl) ?_
    refine lv_iload hx hb dL_law_918 (lv_at hl 1 rfl) ?_
    refine lv_iconst (v := 2) hx hb dL_law_920 (by decide) ?_
    refine m_iadd (v := i + 2) hx hb dL_law_921 rfl ?_
    refine va_sld hx hb hX hbl hbA hS j2 dL_law_922 ?_
    refine m_as (v := a2) e2 ?_
    refine lv_aload_n hx hb dL_law_923 rfl (lv_at hl 5 rfl) ?_
    refine lv_iload hx hb dL_law_924 (lv_at hl 1 rfl) ?_
    refine lv_iconst (v := 3) hx hb dL_law_926 (by decide) ?_
    refine m_iadd (v := i + 3) hx hb dL_law_927 rfl ?_
    refine va_sld hx hb hX hbl hbA hS j3 dL_law_928 ?_
    refine m_as (v := a3) e3 ?_
    refine xt_i (C := [(h_2, .inr (12, .int th0 :: F)), (q_800, .inl (cy 2, 1, .inr (.inl o0))), (h_1, .inr (11, [.ref q_1, .ref q_3, .ref q_4, .ref q_25, .ref q_46, .ref q_50, .ref q_54, .ref q_58, .ref q_62, .int n_1, .int n_2, .ref q_63, .ref q_64, .ref q_67, .ref q_85, .ref q_90, .ref q_93])), (q_93, .inl (cy 1, 25, .inl g_1))]) (wr := [(q_800, .inl (cy 2, 1, .inr (.inl o0))), (h_1, .inr (11, [.ref q_1, .ref q_3, .ref q_4, .ref q_25, .ref q_46, .ref q_50, .ref q_54, .ref q_58, .ref q_62, .int n_1, .int n_2, .ref q_63, .ref q_64, .ref q_67, .ref q_85, .ref q_90, .ref q_93])), (q_93, .inl (cy 1, 25, .inl g_1))]) hP hD hS hA [0] [1, 2, 3] rfl rfl (by decide) (by decide) (n := 4) rfl (by decide) (by decide) (va_runV (As := [.int a1, .int a2, .int a3]) (rest := []) ⟨hx, hb, hml, hown, hts⟩ (c_X12_rests l D cy h_2 th0 F a1 a2 a3 H.size g1 g2 g3 g4 g6) (cwV 3 hts (gV0 km_L_110 ki_X12_rests kz_X12_rests kn_X12 kc_X12_rests) rfl rfl rfl (by decide +kernel) ⟨(Nat.le_of_ble_eq_true rfl), (Nat.le_of_ble_eq_true rfl)⟩) (preV hG hP hD [0] rfl (by decide) 12 0 rfl rfl) rfl rfl hl.1 rfl (lv_room (Nat.le_of_ble_eq_true rfl)) dL_law_929 hc1) (fun r_2 H locs hB hj hS => ?_)
    obtain ⟨th_1, hp_2, hP1, hD1⟩ := hB
    have eth := rs_th hp_2 hno.1 hno.2
    subst eth
    obtain ⟨hP, hD⟩ := hj _ hP1 hD1
    have hP : va_P D vwCl ([(q_800, .inl (cy 2, 1, .inr (.inl o0))), (h_1, .inr (11, [.ref q_1, .ref q_3, .ref q_4, .ref q_25, .ref q_46, .ref q_50, .ref q_54, .ref q_58, .ref q_62, .int n_1, .int n_2, .ref q_63, .ref q_64, .ref q_67, .ref q_85, .ref q_90, .ref q_93])), (q_93, .inl (cy 1, 25, .inl g_1)), (h_2, .inr (12, .int 1 :: F))] ++ T) H := hP
    have hD : va_D A ([(q_800, .inl (cy 2, 1, .inr (.inl o0))), (h_1, .inr (11, [.ref q_1, .ref q_3, .ref q_4, .ref q_25, .ref q_46, .ref q_50, .ref q_54, .ref q_58, .ref q_62, .int n_1, .int n_2, .ref q_63, .ref q_64, .ref q_67, .ref q_85, .ref q_90, .ref q_93])), (q_93, .inl (cy 1, 25, .inl g_1)), (h_2, .inr (12, .int 1 :: F))] ++ T) := hD
    refine lv_istore (lv' := [(6, .int r_2), (5, .int 1), (4, .int i), (3, .ref q_800), (2, .ref h_2), (1, .ref h_1), (0, .ref b)]) hx hb dL_law_932 hl (by decide) rfl (fun ls hl => ?_)
    refine lv_goto (tgt := 1064) hx hb dL_law_934 (by decide) ?_
    exact kk 1 g_1 o0 _ _ _ (Or.inr rfl) (hP.part [1, 2, 3, 0] rfl) hS (lv_sub hl [2, 3, 4, 5, 6] rfl)
