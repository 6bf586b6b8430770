/-! the law's part of feed, over any world -/
set_option maxHeartbeats 4000000 in
set_option maxRecDepth 100000 in
theorem feed_go (l : Launch) {p : Program} {e : Env} {s : State} {m : MethodId} {below : List Frame} {meth : Method} {c : Code} {Q : State → Prop} {b L : Nat} {xs : Nat → Int32} {args : Array Value} {D : va_G} {cy : Nat → ClassId} {A : Nat → Prop} {w0 : Cond} (hX0 : CTX p s m args c code 7 RL w0 D cy A) (hX : va_X b L xs s s.heap) (hbl : b < s.heap.size) (hbA : ¬ A b) (hL : L ≤ 3584) (n_1 n_2 : Int32) (h_1 q_1 q_3 q_4 q_25 q_46 q_50 q_54 q_58 q_62 q_63 q_64 q_67 q_85 q_90 q_93 q_2 h_2 q_5 q_800 : Nat) (th0 fa ki nu sg : Int32) (wo : Int64) (ne pl : Int32) (F : List Value) (L0 : Nat) (f0 f1 : Nat → Int32) (i a1 a2 a3 a4 a5 a6 : Int32) (hL0 : L0 ≤ 1000) (hf0 : bS f0) (hal : ∀ j, j < L0 → f0 j = f1 j) (hi0 : 0 ≤ i.toInt) (hi7 : i.toInt + 7 ≤ (L : Int)) (e1 : xs (i + nI 1).toNatClampNeg = a1) (e2 : xs (i + nI 2).toNatClampNeg = a2) (e3 : xs (i + nI 3).toNatClampNeg = a3) (e4 : xs (i + nI 4).toNatClampNeg = a4) (e5 : xs (i + nI 5).toNatClampNeg = a5) (e6 : xs (i + nI 6).toNatClampNeg = a6) {T : va_W} {H : Heap} {locs : List Loc} (hP : va_P D vwCl ([(h_1, .inr (11, [.ref q_1, .ref q_3, .ref q_4, .ref q_25, .ref q_46, .ref q_50, .ref q_54, .ref q_58, .ref q_62, .int n_1, .int n_2, .ref q_63, .ref q_64, .ref q_67, .ref q_85, .ref q_90, .ref q_93])), (q_1, .inr (9, [.ref q_2, .int (nI L0), .int fa, .int ki, .int nu, .int sg, .long wo, .int ne, .int pl])), (q_2, .inl (cy 0, 1000, .inl f0)), (h_2, .inr (12, .int th0 :: .int (nI L0) :: .ref q_5 :: F)), (q_5, .inl (cy 1, 1000, .inl f1))] ++ T) H) (hD : va_D A ([(h_1, .inr (11, [.ref q_1, .ref q_3, .ref q_4, .ref q_25, .ref q_46, .ref q_50, .ref q_54, .ref q_58, .ref q_62, .int n_1, .int n_2, .ref q_63, .ref q_64, .ref q_67, .ref q_85, .ref q_90, .ref q_93])), (q_1, .inr (9, [.ref q_2, .int (nI L0), .int fa, .int ki, .int nu, .int sg, .long wo, .int ne, .int pl])), (q_2, .inl (cy 0, 1000, .inl f0)), (h_2, .inr (12, .int th0 :: .int (nI L0) :: .ref q_5 :: F)), (q_5, .inl (cy 1, 1000, .inl f1))] ++ T)) (hS : va_S A s.heap H locs) {ls : Array Slot} {nc ns : Nat} (hl : lv_has ls 7 [(4, .int i), (3, .ref q_800), (2, .ref h_2), (1, .ref h_1), (0, .ref b)]) (hRc : nc ≤ room_1.cells ∧ ns ≤ room_1.slots)
    (kk : ∀ (N : Nat) (g g1 : Nat → Int32) (H1 : Heap) (locs1 : List Loc) (ls1 : Array Slot), N ≤ 1000 → bS g → (∀ j, j < N → g j = g1 j) → va_P D vwCl ([(h_1, .inr (11, [.ref q_1, .ref q_3, .ref q_4, .ref q_25, .ref q_46, .ref q_50, .ref q_54, .ref q_58, .ref q_62, .int n_1, .int n_2, .ref q_63, .ref q_64, .ref q_67, .ref q_85, .ref q_90, .ref q_93])), (q_1, .inr (9, [.ref q_2, .int (nI N), .int fa, .int ki, .int nu, .int sg, .long wo, .int ne, .int pl])), (q_2, .inl (cy 0, 1000, .inl g)), (h_2, .inr (12, .int 0 :: .int (nI N) :: .ref q_5 :: F)), (q_5, .inl (cy 1, 1000, .inl g1))] ++ T) H1 → va_S A s.heap H1 locs1 → lv_has ls1 7 [(4, .int i), (3, .ref q_800), (2, .ref h_2), (1, .ref h_1), (0, .ref b)] → W p l e room_1 s m args below meth c H1 locs1 nc ns Q (F0 m 1064 ls1 [])) :
    W p l e room_1 s m args below meth c H locs nc ns Q (F0 m 148 ls []) := by
  obtain ⟨hx, hb, hml, hown, hts0, hG, hA⟩ := hX0
  have hts : ∀ w ∈ bigG, w.before args s = true := fun w h => hts0 w (List.mem_cons_of_mem _ h)
  have j1 : vp_in (i + 1) L := ix_in (k := 1) hi0 hi7 hL (by decide)
  have j2 : vp_in (i + 2) L := ix_in (k := 2) hi0 hi7 hL (by decide)
  have j3 : vp_in (i + 3) L := ix_in (k := 3) hi0 hi7 hL (by decide)
  have j4 : vp_in (i + 4) L := ix_in (k := 4) hi0 hi7 hL (by decide)
  have j5 : vp_in (i + 5) L := ix_in (k := 5) hi0 hi7 hL (by decide)
  have j6 : vp_in (i + 6) L := ix_in (k := 6) hi0 hi7 hL (by decide)
  have hc0 : nc + 0 ≤ room_1.cells ∧ ns + 0 ≤ room_1.slots := ⟨by omega, by omega⟩
  have hN1 : cb L0 ((a1.toInt64 <<< ((32 : Int32).toInt64 &&& 63)) ||| (a2.toInt64 &&& 4294967295)) 8 ≤ 1000 := cb_le _ hL0 8
  have hN2 : cb (cb L0 ((a1.toInt64 <<< ((32 : Int32).toInt64 &&& 63)) ||| (a2.toInt64 &&& 4294967295)) 8) ((a3.toInt64 <<< ((32 : Int32).toInt64 &&& 63)) ||| (a4.toInt64 &&& 4294967295)) 8 ≤ 1000 := cb_le _ hN1 8
  have hN3 : (cb (cb (cb L0 ((a1.toInt64 <<< ((32 : Int32).toInt64 &&& 63)) ||| (a2.toInt64 &&& 4294967295)) 8) ((a3.toInt64 <<< ((32 : Int32).toInt64 &&& 63)) ||| (a4.toInt64 &&& 4294967295)) 8) ((a5.toInt64 <<< ((32 : Int32).toInt64 &&& 63)) ||| (a6.toInt64 &&& 4294967295)) 8) ≤ 1000 := cb_le _ hN2 8
  refine lv_aload_n hx hb dL_law_148 rfl (lv_at hl 3 rfl) ?_
  refine lv_aload_n hx hb dL_law_149 rfl (lv_at hl 4 rfl) ?_
  refine lv_iload hx hb dL_law_150 (lv_at hl 0 rfl) ?_
  refine lv_iconst (v := 1) hx hb dL_law_152 (by decide) ?_
  refine m_iadd (v := i + 1) hx hb dL_law_153 rfl ?_
  refine va_sld hx hb hX hbl hbA hS j1 dL_law_154 ?_
  refine m_as (v := a1) e1 ?_
  refine lv_i2l (v := a1.toInt64) hx hb dL_law_155 rfl ?_
  refine lv_bipush (v := 32) hx hb dL_law_156 (by decide) ?_
  refine lv_lshl (v := (a1.toInt64 <<< ((32 : Int32).toInt64 &&& 63))) hx hb dL_law_158 rfl ?_
  refine lv_aload_n hx hb dL_law_159 rfl (lv_at hl 4 rfl) ?_
  refine lv_iload hx hb dL_law_160 (lv_at hl 0 rfl) ?_
  refine lv_iconst (v := 2) hx hb dL_law_162 (by decide) ?_
  refine m_iadd (v := i + 2) hx hb dL_law_163 rfl ?_
  refine va_sld hx hb hX hbl hbA hS j2 dL_law_164 ?_
  refine m_as (v := a2) e2 ?_
  refine lv_i2l (v := a2.toInt64) hx hb dL_law_165 rfl ?_
  refine lv_ldc2 (v := 4294967295) hx hb hown (hts _ k_1944) dL_law_166 ?_
  refine m_land (v := (a2.toInt64 &&& 4294967295)) hx hb dL_law_169 rfl ?_
  refine m_lor (v := ((a1.toInt64 <<< ((32 : Int32).toInt64 &&& 63)) ||| (a2.toInt64 &&& 4294967295))) hx hb dL_law_170 rfl ?_
  refine lv_aload_n hx hb dL_law_171 rfl (lv_at hl 4 rfl) ?_
  refine lv_iload hx hb dL_law_172 (lv_at hl 0 rfl) ?_
  refine lv_iconst (v := 3) hx hb dL_law_174 (by decide) ?_
  refine m_iadd (v := i + 3) hx hb dL_law_175 rfl ?_
  refine va_sld hx hb hX hbl hbA hS j3 dL_law_176 ?_
  refine m_as (v := a3) e3 ?_
  refine lv_i2l (v := a3.toInt64) hx hb dL_law_177 rfl ?_
  refine lv_bipush (v := 32) hx hb dL_law_178 (by decide) ?_
  refine lv_lshl (v := (a3.toInt64 <<< ((32 : Int32).toInt64 &&& 63))) hx hb dL_law_180 rfl ?_
  refine lv_aload_n hx hb dL_law_181 rfl (lv_at hl 4 rfl) ?_
  refine lv_iload hx hb dL_law_182 (lv_at hl 0 rfl) ?_
  refine lv_iconst (v := 4) hx hb dL_law_184 (by decide) ?_
  refine m_iadd (v := i + 4) hx hb dL_law_185 rfl ?_
  refine va_sld hx hb hX hbl hbA hS j4 dL_law_186 ?_
  refine m_as (v := a4) e4 ?_
  refine lv_i2l (v := a4.toInt64) hx hb dL_law_187 rfl ?_
  refine lv_ldc2 (v := 4294967295) hx hb hown (hts _ k_1944) dL_law_188 ?_
  refine m_land (v := (a4.toInt64 &&& 4294967295)) hx hb dL_law_191 rfl ?_
  refine m_lor (v := ((a3.toInt64 <<< ((32 : Int32).toInt64 &&& 63)) ||| (a4.toInt64 &&& 4294967295))) hx hb dL_law_192 rfl ?_
  refine lv_aload_n hx hb dL_law_193 rfl (lv_at hl 4 rfl) ?_
  refine lv_iload hx hb dL_law_194 (lv_at hl 0 rfl) ?_
  refine lv_iconst (v := 5) hx hb dL_law_196 (by decide) ?_
  refine m_iadd (v := i + 5) hx hb dL_law_197 rfl ?_
  refine va_sld hx hb hX hbl hbA hS j5 dL_law_198 ?_
  refine m_as (v := a5) e5 ?_
  refine lv_i2l (v := a5.toInt64) hx hb dL_law_199 rfl ?_
  refine lv_bipush (v := 32) hx hb dL_law_200 (by decide) ?_
  refine lv_lshl (v := (a5.toInt64 <<< ((32 : Int32).toInt64 &&& 63))) hx hb dL_law_202 rfl ?_
  refine lv_aload_n hx hb dL_law_203 rfl (lv_at hl 4 rfl) ?_
  refine lv_iload hx hb dL_law_204 (lv_at hl 0 rfl) ?_
  refine lv_bipush (v := 6) hx hb dL_law_206 (by decide) ?_
  refine m_iadd (v := i + 6) hx hb dL_law_208 rfl ?_
  refine va_sld hx hb hX hbl hbA hS j6 dL_law_209 ?_
  refine m_as (v := a6) e6 ?_
  refine lv_i2l (v := a6.toInt64) hx hb dL_law_210 rfl ?_
  refine lv_ldc2 (v := 4294967295) hx hb hown (hts _ k_1944) dL_law_211 ?_
  refine m_land (v := (a6.toInt64 &&& 4294967295)) hx hb dL_law_214 rfl ?_
  refine m_lor (v := ((a5.toInt64 <<< ((32 : Int32).toInt64 &&& 63)) ||| (a6.toInt64 &&& 4294967295))) hx hb dL_law_215 rfl ?_
  refine xt_i (C := [(h_1, .inr (11, [.ref q_1, .ref q_3, .ref q_4, .ref q_25, .ref q_46, .ref q_50, .ref q_54, .ref q_58, .ref q_62, .int n_1, .int n_2, .ref q_63, .ref q_64, .ref q_67, .ref q_85, .ref q_90, .ref q_93])), (q_1, .inr (9, [.ref q_2, .int (nI L0), .int fa, .int ki, .int nu, .int sg, .long wo, .int ne, .int pl])), (q_2, .inl (cy 0, 1000, .inl f0)), (h_2, .inr (12, .int th0 :: .int (nI L0) :: .ref q_5 :: F)), (q_5, .inl (cy 1, 1000, .inl f1))]) (wr := [(h_2, .inr (12, .int th0 :: .int (nI L0) :: .ref q_5 :: F)), (q_5, .inl (cy 1, 1000, .inl f1))]) hP hD hS hA [0, 1, 2] [3, 4] rfl rfl (by decide) (by decide) (n := 5) rfl (by decide) (by decide) (va_runV (As := [.long ((a1.toInt64 <<< ((32 : Int32).toInt64 &&& 63)) ||| (a2.toInt64 &&& 4294967295)), .long ((a3.toInt64 <<< ((32 : Int32).toInt64 &&& 63)) ||| (a4.toInt64 &&& 4294967295)), .long ((a5.toInt64 <<< ((32 : Int32).toInt64 &&& 63)) ||| (a6.toInt64 &&& 4294967295))]) (rest := []) ⟨hx, hb, hml, hown, hts⟩ (c_X11_feed l D cy h_1 q_1 q_3 q_4 q_25 q_46 q_50 q_54 q_58 q_62 q_63 q_64 q_67 q_85 q_90 q_93 n_1 n_2 q_2 L0 fa ki nu sg wo ne pl f0 ((a1.toInt64 <<< ((32 : Int32).toInt64 &&& 63)) ||| (a2.toInt64 &&& 4294967295)) ((a3.toInt64 <<< ((32 : Int32).toInt64 &&& 63)) ||| (a4.toInt64 &&& 4294967295)) ((a5.toInt64 <<< ((32 : Int32).toInt64 &&& 63)) ||| (a6.toInt64 &&& 4294967295)) H.size hL0) (cwV 3 hts (gV0 km_L_21 ki_X11_feed kz_X11_feed kn_X11 kc_X11_feed) rfl rfl rfl (by decide +kernel) ⟨(Nat.le_of_ble_eq_true rfl), (Nat.le_of_ble_eq_true rfl)⟩) (preV hG hP hD [0, 1, 2] rfl (by decide) 11 0 rfl rfl) rfl rfl hl.1 rfl (lv_room (Nat.le_of_ble_eq_true rfl)) dL_law_216 hc0) (fun r_1 H locs hB hj hS => ?_)
  obtain ⟨hres, hP1, hD1⟩ := hB
  subst hres
  obtain ⟨hP, hD⟩ := hj _ hP1 hD1
  have hP : va_P D vwCl ([(h_2, .inr (12, .int th0 :: .int (nI L0) :: .ref q_5 :: F)), (q_5, .inl (cy 1, 1000, .inl f1)), (h_1, .inr (11, [.ref q_1, .ref q_3, .ref q_4, .ref q_25, .ref q_46, .ref q_50, .ref q_54, .ref q_58, .ref q_62, .int n_1, .int n_2, .ref q_63, .ref q_64, .ref q_67, .ref q_85, .ref q_90, .ref q_93])), (q_1, .inr (9, [.ref q_2, .int (nI (cb (cb (cb L0 ((a1.toInt64 <<< ((32 : Int32).toInt64 &&& 63)) ||| (a2.toInt64 &&& 4294967295)) 8) ((a3.toInt64 <<< ((32 : Int32).toInt64 &&& 63)) ||| (a4.toInt64 &&& 4294967295)) 8) ((a5.toInt64 <<< ((32 : Int32).toInt64 &&& 63)) ||| (a6.toInt64 &&& 4294967295)) 8)), .int fa, .int ki, .int nu, .int sg, .long wo, .int ne, .int pl])), (q_2, .inl (cy 0, 1000, .inl (fb (fb (fb f0 L0 ((a1.toInt64 <<< ((32 : Int32).toInt64 &&& 63)) ||| (a2.toInt64 &&& 4294967295)) 8) (cb L0 ((a1.toInt64 <<< ((32 : Int32).toInt64 &&& 63)) ||| (a2.toInt64 &&& 4294967295)) 8) ((a3.toInt64 <<< ((32 : Int32).toInt64 &&& 63)) ||| (a4.toInt64 &&& 4294967295)) 8) (cb (cb L0 ((a1.toInt64 <<< ((32 : Int32).toInt64 &&& 63)) ||| (a2.toInt64 &&& 4294967295)) 8) ((a3.toInt64 <<< ((32 : Int32).toInt64 &&& 63)) ||| (a4.toInt64 &&& 4294967295)) 8) ((a5.toInt64 <<< ((32 : Int32).toInt64 &&& 63)) ||| (a6.toInt64 &&& 4294967295)) 8)))] ++ T) H := hP
  have hD : va_D A ([(h_2, .inr (12, .int th0 :: .int (nI L0) :: .ref q_5 :: F)), (q_5, .inl (cy 1, 1000, .inl f1)), (h_1, .inr (11, [.ref q_1, .ref q_3, .ref q_4, .ref q_25, .ref q_46, .ref q_50, .ref q_54, .ref q_58, .ref q_62, .int n_1, .int n_2, .ref q_63, .ref q_64, .ref q_67, .ref q_85, .ref q_90, .ref q_93])), (q_1, .inr (9, [.ref q_2, .int (nI (cb (cb (cb L0 ((a1.toInt64 <<< ((32 : Int32).toInt64 &&& 63)) ||| (a2.toInt64 &&& 4294967295)) 8) ((a3.toInt64 <<< ((32 : Int32).toInt64 &&& 63)) ||| (a4.toInt64 &&& 4294967295)) 8) ((a5.toInt64 <<< ((32 : Int32).toInt64 &&& 63)) ||| (a6.toInt64 &&& 4294967295)) 8)), .int fa, .int ki, .int nu, .int sg, .long wo, .int ne, .int pl])), (q_2, .inl (cy 0, 1000, .inl (fb (fb (fb f0 L0 ((a1.toInt64 <<< ((32 : Int32).toInt64 &&& 63)) ||| (a2.toInt64 &&& 4294967295)) 8) (cb L0 ((a1.toInt64 <<< ((32 : Int32).toInt64 &&& 63)) ||| (a2.toInt64 &&& 4294967295)) 8) ((a3.toInt64 <<< ((32 : Int32).toInt64 &&& 63)) ||| (a4.toInt64 &&& 4294967295)) 8) (cb (cb L0 ((a1.toInt64 <<< ((32 : Int32).toInt64 &&& 63)) ||| (a2.toInt64 &&& 4294967295)) 8) ((a3.toInt64 <<< ((32 : Int32).toInt64 &&& 63)) ||| (a4.toInt64 &&& 4294967295)) 8) ((a5.toInt64 <<< ((32 : Int32).toInt64 &&& 63)) ||| (a6.toInt64 &&& 4294967295)) 8)))] ++ T) := hD
  refine lv_pop hx hb dL_law_219 rfl ?_
  refine lv_aload_n hx hb dL_law_220 rfl (lv_at hl 2 rfl) ?_
  refine lv_aload_n hx hb dL_law_221 rfl (lv_at hl 4 rfl) ?_
  refine lv_iload hx hb dL_law_222 (lv_at hl 0 rfl) ?_
  refine lv_iconst (v := 1) hx hb dL_law_224 (by decide) ?_
  refine m_iadd (v := i + 1) hx hb dL_law_225 rfl ?_
  refine va_sld hx hb hX hbl hbA hS j1 dL_law_226 ?_
  refine m_as (v := a1) e1 ?_
  refine lv_i2l (v := a1.toInt64) hx hb dL_law_227 rfl ?_
  refine lv_bipush (v := 32) hx hb dL_law_228 (by decide) ?_
  refine lv_lshl (v := (a1.toInt64 <<< ((32 : Int32).toInt64 &&& 63))) hx hb dL_law_230 rfl ?_
  refine lv_aload_n hx hb dL_law_231 rfl (lv_at hl 4 rfl) ?_
  refine lv_iload hx hb dL_law_232 (lv_at hl 0 rfl) ?_
  refine lv_iconst (v := 2) hx hb dL_law_234 (by decide) ?_
  refine m_iadd (v := i + 2) hx hb dL_law_235 rfl ?_
  refine va_sld hx hb hX hbl hbA hS j2 dL_law_236 ?_
  refine m_as (v := a2) e2 ?_
  refine lv_i2l (v := a2.toInt64) hx hb dL_law_237 rfl ?_
  refine lv_ldc2 (v := 4294967295) hx hb hown (hts _ k_1944) dL_law_238 ?_
  refine m_land (v := (a2.toInt64 &&& 4294967295)) hx hb dL_law_241 rfl ?_
  refine m_lor (v := ((a1.toInt64 <<< ((32 : Int32).toInt64 &&& 63)) ||| (a2.toInt64 &&& 4294967295))) hx hb dL_law_242 rfl ?_
  refine lv_aload_n hx hb dL_law_243 rfl (lv_at hl 4 rfl) ?_
  refine lv_iload hx hb dL_law_244 (lv_at hl 0 rfl) ?_
  refine lv_iconst (v := 3) hx hb dL_law_246 (by decide) ?_
  refine m_iadd (v := i + 3) hx hb dL_law_247 rfl ?_
  refine va_sld hx hb hX hbl hbA hS j3 dL_law_248 ?_
  refine m_as (v := a3) e3 ?_
  refine lv_i2l (v := a3.toInt64) hx hb dL_law_249 rfl ?_
  refine lv_bipush (v := 32) hx hb dL_law_250 (by decide) ?_
  refine lv_lshl (v := (a3.toInt64 <<< ((32 : Int32).toInt64 &&& 63))) hx hb dL_law_252 rfl ?_
  refine lv_aload_n hx hb dL_law_253 rfl (lv_at hl 4 rfl) ?_
  refine lv_iload hx hb dL_law_254 (lv_at hl 0 rfl) ?_
  refine lv_iconst (v := 4) hx hb dL_law_256 (by decide) ?_
  refine m_iadd (v := i + 4) hx hb dL_law_257 rfl ?_
  refine va_sld hx hb hX hbl hbA hS j4 dL_law_258 ?_
  refine m_as (v := a4) e4 ?_
  refine lv_i2l (v := a4.toInt64) hx hb dL_law_259 rfl ?_
  refine lv_ldc2 (v := 4294967295) hx hb hown (hts _ k_1944) dL_law_260 ?_
  refine m_land (v := (a4.toInt64 &&& 4294967295)) hx hb dL_law_263 rfl ?_
  refine m_lor (v := ((a3.toInt64 <<< ((32 : Int32).toInt64 &&& 63)) ||| (a4.toInt64 &&& 4294967295))) hx hb dL_law_264 rfl ?_
  refine lv_aload_n hx hb dL_law_265 rfl (lv_at hl 4 rfl) ?_
  refine lv_iload hx hb dL_law_266 (lv_at hl 0 rfl) ?_
  refine lv_iconst (v := 5) hx hb dL_law_268 (by decide) ?_
  refine m_iadd (v := i + 5) hx hb dL_law_269 rfl ?_
  refine va_sld hx hb hX hbl hbA hS j5 dL_law_270 ?_
  refine m_as (v := a5) e5 ?_
  refine lv_i2l (v := a5.toInt64) hx hb dL_law_271 rfl ?_
  refine lv_bipush (v := 32) hx hb dL_law_272 (by decide) ?_
  refine lv_lshl (v := (a5.toInt64 <<< ((32 : Int32).toInt64 &&& 63))) hx hb dL_law_274 rfl ?_
  refine lv_aload_n hx hb dL_law_275 rfl (lv_at hl 4 rfl) ?_
  refine lv_iload hx hb dL_law_276 (lv_at hl 0 rfl) ?_
  refine lv_bipush (v := 6) hx hb dL_law_278 (by decide) ?_
  refine m_iadd (v := i + 6) hx hb dL_law_280 rfl ?_
  refine va_sld hx hb hX hbl hbA hS j6 dL_law_281 ?_
  refine m_as (v := a6) e6 ?_
  refine lv_i2l (v := a6.toInt64) hx hb dL_law_282 rfl ?_
  refine lv_ldc2 (v := 4294967295) hx hb hown (hts _ k_1944) dL_law_283 ?_
  refine m_land (v := (a6.toInt64 &&& 4294967295)) hx hb dL_law_286 rfl ?_
  refine m_lor (v := ((a5.toInt64 <<< ((32 : Int32).toInt64 &&& 63)) ||| (a6.toInt64 &&& 4294967295))) hx hb dL_law_287 rfl ?_
  refine xt_i (C := [(h_2, .inr (12, .int th0 :: .int (nI L0) :: .ref q_5 :: F)), (q_5, .inl (cy 1, 1000, .inl f1)), (h_1, .inr (11, [.ref q_1, .ref q_3, .ref q_4, .ref q_25, .ref q_46, .ref q_50, .ref q_54, .ref q_58, .ref q_62, .int n_1, .int n_2, .ref q_63, .ref q_64, .ref q_67, .ref q_85, .ref q_90, .ref q_93])), (q_1, .inr (9, [.ref q_2, .int (nI (cb (cb (cb L0 ((a1.toInt64 <<< ((32 : Int32).toInt64 &&& 63)) ||| (a2.toInt64 &&& 4294967295)) 8) ((a3.toInt64 <<< ((32 : Int32).toInt64 &&& 63)) ||| (a4.toInt64 &&& 4294967295)) 8) ((a5.toInt64 <<< ((32 : Int32).toInt64 &&& 63)) ||| (a6.toInt64 &&& 4294967295)) 8)), .int fa, .int ki, .int nu, .int sg, .long wo, .int ne, .int pl])), (q_2, .inl (cy 0, 1000, .inl (fb (fb (fb f0 L0 ((a1.toInt64 <<< ((32 : Int32).toInt64 &&& 63)) ||| (a2.toInt64 &&& 4294967295)) 8) (cb L0 ((a1.toInt64 <<< ((32 : Int32).toInt64 &&& 63)) ||| (a2.toInt64 &&& 4294967295)) 8) ((a3.toInt64 <<< ((32 : Int32).toInt64 &&& 63)) ||| (a4.toInt64 &&& 4294967295)) 8) (cb (cb L0 ((a1.toInt64 <<< ((32 : Int32).toInt64 &&& 63)) ||| (a2.toInt64 &&& 4294967295)) 8) ((a3.toInt64 <<< ((32 : Int32).toInt64 &&& 63)) ||| (a4.toInt64 &&& 4294967295)) 8) ((a5.toInt64 <<< ((32 : Int32).toInt64 &&& 63)) ||| (a6.toInt64 &&& 4294967295)) 8)))]) (wr := [(h_1, .inr (11, [.ref q_1, .ref q_3, .ref q_4, .ref q_25, .ref q_46, .ref q_50, .ref q_54, .ref q_58, .ref q_62, .int n_1, .int n_2, .ref q_63, .ref q_64, .ref q_67, .ref q_85, .ref q_90, .ref q_93])), (q_1, .inr (9, [.ref q_2, .int (nI (cb (cb (cb L0 ((a1.toInt64 <<< ((32 : Int32).toInt64 &&& 63)) ||| (a2.toInt64 &&& 4294967295)) 8) ((a3.toInt64 <<< ((32 : Int32).toInt64 &&& 63)) ||| (a4.toInt64 &&& 4294967295)) 8) ((a5.toInt64 <<< ((32 : Int32).toInt64 &&& 63)) ||| (a6.toInt64 &&& 4294967295)) 8)), .int fa, .int ki, .int nu, .int sg, .long wo, .int ne, .int pl])), (q_2, .inl (cy 0, 1000, .inl (fb (fb (fb f0 L0 ((a1.toInt64 <<< ((32 : Int32).toInt64 &&& 63)) ||| (a2.toInt64 &&& 4294967295)) 8) (cb L0 ((a1.toInt64 <<< ((32 : Int32).toInt64 &&& 63)) ||| (a2.toInt64 &&& 4294967295)) 8) ((a3.toInt64 <<< ((32 : Int32).toInt64 &&& 63)) ||| (a4.toInt64 &&& 4294967295)) 8) (cb (cb L0 ((a1.toInt64 <<< ((32 : Int32).toInt64 &&& 63)) ||| (a2.toInt64 &&& 4294967295)) 8) ((a3.toInt64 <<< ((32 : Int32).toInt64 &&& 63)) ||| (a4.toInt64 &&& 4294967295)) 8) ((a5.toInt64 <<< ((32 : Int32).toInt64 &&& 63)) ||| (a6.toInt64 &&& 4294967295)) 8)))]) hP hD hS hA [0, 1] [2, 3, 4] rfl rfl (by decide) (by decide) (n := 5) rfl (by decide) (by decide) (va_runV (As := [.long ((a1.toInt64 <<< ((32 : Int32).toInt64 &&& 63)) ||| (a2.toInt64 &&& 4294967295)), .long ((a3.toInt64 <<< ((32 : Int32).toInt64 &&& 63)) ||| (a4.toInt64 &&& 4294967295)), .long ((a5.toInt64 <<< ((32 : Int32).toInt64 &&& 63)) ||| (a6.toInt64 &&& 4294967295))]) (rest := []) ⟨hx, hb, hml, hown, hts⟩ (c_X12_feed l D cy h_2 q_5 th0 F L0 f1 ((a1.toInt64 <<< ((32 : Int32).toInt64 &&& 63)) ||| (a2.toInt64 &&& 4294967295)) ((a3.toInt64 <<< ((32 : Int32).toInt64 &&& 63)) ||| (a4.toInt64 &&& 4294967295)) ((a5.toInt64 <<< ((32 : Int32).toInt64 &&& 63)) ||| (a6.toInt64 &&& 4294967295)) H.size hL0) (cwV 3 hts (gV0 km_L_25 ki_X12_feed kz_X12_feed kn_X12 kc_X12_feed) rfl rfl rfl (by decide +kernel) ⟨(Nat.le_of_ble_eq_true rfl), (Nat.le_of_ble_eq_true rfl)⟩) (preV hG hP hD [0, 1] rfl (by decide) 12 0 rfl rfl) rfl rfl hl.1 rfl (lv_room (Nat.le_of_ble_eq_true rfl)) dL_law_288 hc0) (fun r_2 H locs hB hj hS => ?_)
  obtain ⟨hres, hP1, hD1⟩ := hB
  subst hres
  obtain ⟨hP, hD⟩ := hj _ hP1 hD1
  have hP : va_P D vwCl ([(h_1, .inr (11, [.ref q_1, .ref q_3, .ref q_4, .ref q_25, .ref q_46, .ref q_50, .ref q_54, .ref q_58, .ref q_62, .int n_1, .int n_2, .ref q_63, .ref q_64, .ref q_67, .ref q_85, .ref q_90, .ref q_93])), (q_1, .inr (9, [.ref q_2, .int (nI (cb (cb (cb L0 ((a1.toInt64 <<< ((32 : Int32).toInt64 &&& 63)) ||| (a2.toInt64 &&& 4294967295)) 8) ((a3.toInt64 <<< ((32 : Int32).toInt64 &&& 63)) ||| (a4.toInt64 &&& 4294967295)) 8) ((a5.toInt64 <<< ((32 : Int32).toInt64 &&& 63)) ||| (a6.toInt64 &&& 4294967295)) 8)), .int fa, .int ki, .int nu, .int sg, .long wo, .int ne, .int pl])), (q_2, .inl (cy 0, 1000, .inl (fb (fb (fb f0 L0 ((a1.toInt64 <<< ((32 : Int32).toInt64 &&& 63)) ||| (a2.toInt64 &&& 4294967295)) 8) (cb L0 ((a1.toInt64 <<< ((32 : Int32).toInt64 &&& 63)) ||| (a2.toInt64 &&& 4294967295)) 8) ((a3.toInt64 <<< ((32 : Int32).toInt64 &&& 63)) ||| (a4.toInt64 &&& 4294967295)) 8) (cb (cb L0 ((a1.toInt64 <<< ((32 : Int32).toInt64 &&& 63)) ||| (a2.toInt64 &&& 4294967295)) 8) ((a3.toInt64 <<< ((32 : Int32).toInt64 &&& 63)) ||| (a4.toInt64 &&& 4294967295)) 8) ((a5.toInt64 <<< ((32 : Int32).toInt64 &&& 63)) ||| (a6.toInt64 &&& 4294967295)) 8))), (h_2, .inr (12, .int 0 :: .int (nI (cb (cb (cb L0 ((a1.toInt64 <<< ((32 : Int32).toInt64 &&& 63)) ||| (a2.toInt64 &&& 4294967295)) 8) ((a3.toInt64 <<< ((32 : Int32).toInt64 &&& 63)) ||| (a4.toInt64 &&& 4294967295)) 8) ((a5.toInt64 <<< ((32 : Int32).toInt64 &&& 63)) ||| (a6.toInt64 &&& 4294967295)) 8)) :: .ref q_5 :: F)), (q_5, .inl (cy 1, 1000, .inl (fb (fb (fb f1 L0 ((a1.toInt64 <<< ((32 : Int32).toInt64 &&& 63)) ||| (a2.toInt64 &&& 4294967295)) 8) (cb L0 ((a1.toInt64 <<< ((32 : Int32).toInt64 &&& 63)) ||| (a2.toInt64 &&& 4294967295)) 8) ((a3.toInt64 <<< ((32 : Int32).toInt64 &&& 63)) ||| (a4.toInt64 &&& 4294967295)) 8) (cb (cb L0 ((a1.toInt64 <<< ((32 : Int32).toInt64 &&& 63)) ||| (a2.toInt64 &&& 4294967295)) 8) ((a3.toInt64 <<< ((32 : Int32).toInt64 &&& 63)) ||| (a4.toInt64 &&& 4294967295)) 8) ((a5.toInt64 <<< ((32 : Int32).toInt64 &&& 63)) ||| (a6.toInt64 &&& 4294967295)) 8)))] ++ T) H := hP
  refine lv_pop hx hb dL_law_291 rfl ?_
  refine lv_goto (tgt := 1064) hx hb dL_law_292 (by decide) ?_
  exact kk (cb (cb (cb L0 ((a1.toInt64 <<< ((32 : Int32).toInt64 &&& 63)) ||| (a2.toInt64 &&& 4294967295)) 8) ((a3.toInt64 <<< ((32 : Int32).toInt64 &&& 63)) ||| (a4.toInt64 &&& 4294967295)) 8) ((a5.toInt64 <<< ((32 : Int32).toInt64 &&& 63)) ||| (a6.toInt64 &&& 4294967295)) 8) (fb (fb (fb f0 L0 ((a1.toInt64 <<< ((32 : Int32).toInt64 &&& 63)) ||| (a2.toInt64 &&& 4294967295)) 8) (cb L0 ((a1.toInt64 <<< ((32 : Int32).toInt64 &&& 63)) ||| (a2.toInt64 &&& 4294967295)) 8) ((a3.toInt64 <<< ((32 : Int32).toInt64 &&& 63)) ||| (a4.toInt64 &&& 4294967295)) 8) (cb (cb L0 ((a1.toInt64 <<< ((32 : Int32).toInt64 &&& 63)) ||| (a2.toInt64 &&& 4294967295)) 8) ((a3.toInt64 <<< ((32 : Int32).toInt64 &&& 63)) ||| (a4.toInt64 &&& 4294967295)) 8) ((a5.toInt64 <<< ((32 : Int32).toInt64 &&& 63)) ||| (a6.toInt64 &&& 4294967295)) 8) (fb (fb (fb f1 L0 ((a1.toInt64 <<< ((32 : Int32).toInt64 &&& 63)) ||| (a2.toInt64 &&& 4294967295)) 8) (cb L0 ((a1.toInt64 <<< ((32 : Int32).toInt64 &&& 63)) ||| (a2.toInt64 &&& 4294967295)) 8) ((a3.toInt64 <<< ((32 : Int32).toInt64 &&& 63)) ||| (a4.toInt64 &&& 4294967295)) 8) (cb (cb L0 ((a1.toInt64 <<< ((32 : Int32).toInt64 &&& 63)) ||| (a2.toInt64 &&& 4294967295)) 8) ((a3.toInt64 <<< ((32 : Int32).toInt64 &&& 63)) ||| (a4.toInt64 &&& 4294967295)) 8) ((a5.toInt64 <<< ((32 : Int32).toInt64 &&& 63)) ||| (a6.toInt64 &&& 4294967295)) 8) _ _ _ hN3 (fb_S (fb_S (fb_S hf0 8) 8) 8) (fb_al (fb_al (fb_al hal 8) 8) 8) hP hS hl
