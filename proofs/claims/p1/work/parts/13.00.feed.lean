set_option maxHeartbeats 4000000 in
set_option maxRecDepth 100000 in
theorem law_feed (l : Launch) {p : Program} {e : Env} {s : State} {m : MethodId} {below : List Frame} {meth : Method} {c : Code} {b : Nat} {xs : Nat → Int32} (C0 : lw_At p s m meth c b 7 xs) {D : va_G} {cy : Nat → ClassId} (hG : gk D cy s) {A : Nat → Prop} (hAd : A = fun q => s.heap.size ≤ q) (h_1 q_1 q_3 q_4 q_25 q_46 q_50 q_54 q_58 q_62 q_63 q_64 q_67 q_85 q_90 q_93 q1_2 q_700_1 h_2 q_700_2 q_700_3 q_700_4 q_700_5 q_700_6 q_700_7 q_700_8 q_700_9 q_700_10 q_700_11 q_700_12 q_700_13 q_700_14 q_700_15 q_700_16 q_700_17 q_700_18 q_700_19 q_700_20 q_700_21 q_700_22 q_700_23 q_700_24 q_700_25 q_700_26 q_700_27 q_700_28 q_700_29 q_700_30 q_700_31 q_700_32 q_700_33 q_700_34 q_700_35 q_700_36 q_700_37 q_700_38 q_700_39 q_700_40 q_700_41 q_700_42 q_700_43 q_700_44 q_700_45 q_700_46 q_700_47 q_800 : Nat) {H : Heap} {locs : List Loc} (hP : va_P D vwCl [(h_1, .inr (11, [.ref q_1, .ref q_3, .ref q_4, .ref q_25, .ref q_46, .ref q_50, .ref q_54, .ref q_58, .ref q_62, .int 0, .int 0, .ref q_63, .ref q_64, .ref q_67, .ref q_85, .ref q_90, .ref q_93])), (q_1, .inr (9, [.ref q1_2, .int 0, .int 0, .int 0, .int 0, .int 32, .long 0, .int 0, .int 0])), (q1_2, .inl (cy 0, 1000, .inl (fun _ => 0))), (q_700_1, .inl (cy 1, 1000, .inl (fun _ => 0))), (h_2, .inr (12, [.int 0, .int 0, .ref q_700_1, .int 0, .int 0, .int 0, .int 0, .long 0, .int 0, .int 0, .ref q_700_2, .ref q_700_3, .ref q_700_4, .ref q_700_5, .ref q_700_6, .ref q_700_7, .ref q_700_8, .ref q_700_9, .ref q_700_10, .ref q_700_11, .ref q_700_12, .ref q_700_13, .ref q_700_14, .ref q_700_15, .ref q_700_16, .ref q_700_17, .int 0, .int 0, .ref q_700_18, .ref q_700_19, .ref q_700_20, .ref q_700_21, .ref q_700_22, .ref q_700_23, .ref q_700_24, .ref q_700_25, .ref q_700_26, .ref q_700_27, .ref q_700_28, .ref q_700_29, .int 0, .long 0, .ref q_700_30, .ref q_700_31, .ref q_700_32, .ref q_700_33, .ref q_700_34, .ref q_700_35, .ref q_700_36, .ref q_700_37, .ref q_700_38, .ref q_700_39, .ref q_700_40, .ref q_700_41, .int 0, .int 0, .int 0, .int 0, .ref q_700_42, .ref q_700_43, .ref q_700_44, .ref q_700_45, .int 0, .ref q_700_46, .ref q_700_47, .int 0, .long 0]))] H) (hD : va_D A [(h_1, .inr (11, [.ref q_1, .ref q_3, .ref q_4, .ref q_25, .ref q_46, .ref q_50, .ref q_54, .ref q_58, .ref q_62, .int 0, .int 0, .ref q_63, .ref q_64, .ref q_67, .ref q_85, .ref q_90, .ref q_93])), (q_1, .inr (9, [.ref q1_2, .int 0, .int 0, .int 0, .int 0, .int 32, .long 0, .int 0, .int 0])), (q1_2, .inl (cy 0, 1000, .inl (fun _ => 0))), (q_700_1, .inl (cy 1, 1000, .inl (fun _ => 0))), (h_2, .inr (12, [.int 0, .int 0, .ref q_700_1, .int 0, .int 0, .int 0, .int 0, .long 0, .int 0, .int 0, .ref q_700_2, .ref q_700_3, .ref q_700_4, .ref q_700_5, .ref q_700_6, .ref q_700_7, .ref q_700_8, .ref q_700_9, .ref q_700_10, .ref q_700_11, .ref q_700_12, .ref q_700_13, .ref q_700_14, .ref q_700_15, .ref q_700_16, .ref q_700_17, .int 0, .int 0, .ref q_700_18, .ref q_700_19, .ref q_700_20, .ref q_700_21, .ref q_700_22, .ref q_700_23, .ref q_700_24, .ref q_700_25, .ref q_700_26, .ref q_700_27, .ref q_700_28, .ref q_700_29, .int 0, .long 0, .ref q_700_30, .ref q_700_31, .ref q_700_32, .ref q_700_33, .ref q_700_34, .ref q_700_35, .ref q_700_36, .ref q_700_37, .ref q_700_38, .ref q_700_39, .ref q_700_40, .ref q_700_41, .int 0, .int 0, .int 0, .int 0, .ref q_700_42, .ref q_700_43, .ref q_700_44, .ref q_700_45, .int 0, .ref q_700_46, .ref q_700_47, .int 0, .long 0]))]) (hS : va_S A s.heap H locs) {ls : Array Slot} (hl : lv_has ls 7 [(4, .int 0), (3, .ref q_800), (2, .ref h_2), (1, .ref h_1), (0, .ref b)]) : W p l e room_1 s m #[Value.ref b] below meth c H locs 247 10830 (lw_Z below #[Value.ref b] s) (F0 m 148 ls []) := by
  obtain ⟨hx, hb, hr, hml, hown, hts0, hX, hbl, hlocks, hgv⟩ := C0
  have hts : ∀ w ∈ bigG, w.before #[Value.ref b] s = true := fun w h => hts0 w (bigG_in h)
  have hg := hts
  have hown : s.vm.findClass RL = some m.cls := hown
  have hA : ∀ q : Nat, s.heap.size ≤ q → A q := fun q h => by rw [hAd]; exact h
  have hbA : ¬ A b := by rw [hAd]; exact Nat.not_le.mpr hbl
  refine lv_aload_n hx hb dL_law_148 rfl (lv_at hl 3 rfl) ?_
  refine lv_aload_n hx hb dL_law_149 rfl (lv_at hl 4 rfl) ?_
  refine lv_iload hx hb dL_law_150 (lv_at hl 0 rfl) ?_
  refine lv_iconst (v := 1) hx hb dL_law_152 (by decide) ?_
  refine m_iadd (v := 1) hx hb dL_law_153 (by decide) ?_
  refine va_sld hx hb hX hbl hbA hS (vin (by decide)) dL_law_154 ?_
  refine m_as (v := xs 1) rfl ?_
  refine lv_i2l (v := (xs 1).toInt64) hx hb dL_law_155 rfl ?_
  refine lv_bipush (v := 32) hx hb dL_law_156 (by decide) ?_
  refine lv_lshl (v := (((xs 1).toInt64) <<< ((32 : Int32).toInt64 &&& 63))) hx hb dL_law_158 rfl ?_
  refine lv_aload_n hx hb dL_law_159 rfl (lv_at hl 4 rfl) ?_
  refine lv_iload hx hb dL_law_160 (lv_at hl 0 rfl) ?_
  refine lv_iconst (v := 2) hx hb dL_law_162 (by decide) ?_
  refine m_iadd (v := 2) hx hb dL_law_163 (by decide) ?_
  refine va_sld hx hb hX hbl hbA hS (vin (by decide)) dL_law_164 ?_
  refine m_as (v := xs 2) rfl ?_
  refine lv_i2l (v := (xs 2).toInt64) hx hb dL_law_165 rfl ?_
  refine lv_ldc2 (v := 4294967295) hx hb hown (hg _ k_1944) dL_law_166 ?_
  refine m_land (v := (((xs 2).toInt64) &&& 4294967295)) hx hb dL_law_169 rfl ?_
  refine m_lor (v := ((((xs 1).toInt64) <<< ((32 : Int32).toInt64 &&& 63)) ||| (((xs 2).toInt64) &&& 4294967295))) hx hb dL_law_170 rfl ?_
  refine lv_aload_n hx hb dL_law_171 rfl (lv_at hl 4 rfl) ?_
  refine lv_iload hx hb dL_law_172 (lv_at hl 0 rfl) ?_
  refine lv_iconst (v := 3) hx hb dL_law_174 (by decide) ?_
  refine m_iadd (v := 3) hx hb dL_law_175 (by decide) ?_
  refine va_sld hx hb hX hbl hbA hS (vin (by decide)) dL_law_176 ?_
  refine m_as (v := xs 3) rfl ?_
  refine lv_i2l (v := (xs 3).toInt64) hx hb dL_law_177 rfl ?_
  refine lv_bipush (v := 32) hx hb dL_law_178 (by decide) ?_
  refine lv_lshl (v := (((xs 3).toInt64) <<< ((32 : Int32).toInt64 &&& 63))) hx hb dL_law_180 rfl ?_
  refine lv_aload_n hx hb dL_law_181 rfl (lv_at hl 4 rfl) ?_
  refine lv_iload hx hb dL_law_182 (lv_at hl 0 rfl) ?_
  refine lv_iconst (v := 4) hx hb dL_law_184 (by decide) ?_
  refine m_iadd (v := 4) hx hb dL_law_185 (by decide) ?_
  refine va_sld hx hb hX hbl hbA hS (vin (by decide)) dL_law_186 ?_
  refine m_as (v := xs 4) rfl ?_
  refine lv_i2l (v := (xs 4).toInt64) hx hb dL_law_187 rfl ?_
  refine lv_ldc2 (v := 4294967295) hx hb hown (hg _ k_1944) dL_law_188 ?_
  refine m_land (v := (((xs 4).toInt64) &&& 4294967295)) hx hb dL_law_191 rfl ?_
  refine m_lor (v := ((((xs 3).toInt64) <<< ((32 : Int32).toInt64 &&& 63)) ||| (((xs 4).toInt64) &&& 4294967295))) hx hb dL_law_192 rfl ?_
  refine lv_aload_n hx hb dL_law_193 rfl (lv_at hl 4 rfl) ?_
  refine lv_iload hx hb dL_law_194 (lv_at hl 0 rfl) ?_
  refine lv_iconst (v := 5) hx hb dL_law_196 (by decide) ?_
  refine m_iadd (v := 5) hx hb dL_law_197 (by decide) ?_
  refine va_sld hx hb hX hbl hbA hS (vin (by decide)) dL_law_198 ?_
  refine m_as (v := xs 5) rfl ?_
  refine lv_i2l (v := (xs 5).toInt64) hx hb dL_law_199 rfl ?_
  refine lv_bipush (v := 32) hx hb dL_law_200 (by decide) ?_
  refine lv_lshl (v := (((xs 5).toInt64) <<< ((32 : Int32).toInt64 &&& 63))) hx hb dL_law_202 rfl ?_
  refine lv_aload_n hx hb dL_law_203 rfl (lv_at hl 4 rfl) ?_
  refine lv_iload hx hb dL_law_204 (lv_at hl 0 rfl) ?_
  refine lv_bipush (v := 6) hx hb dL_law_206 (by decide) ?_
  refine m_iadd (v := 6) hx hb dL_law_208 (by decide) ?_
  refine va_sld hx hb hX hbl hbA hS (vin (by decide)) dL_law_209 ?_
  refine m_as (v := xs 6) rfl ?_
  refine lv_i2l (v := (xs 6).toInt64) hx hb dL_law_210 rfl ?_
  refine lv_ldc2 (v := 4294967295) hx hb hown (hg _ k_1944) dL_law_211 ?_
  refine m_land (v := (((xs 6).toInt64) &&& 4294967295)) hx hb dL_law_214 rfl ?_
  refine m_lor (v := ((((xs 5).toInt64) <<< ((32 : Int32).toInt64 &&& 63)) ||| (((xs 6).toInt64) &&& 4294967295))) hx hb dL_law_215 rfl ?_
  refine x_i (wr := [(q_700_1, .inl (cy 1, 1000, .inl (fun _ => 0))), (h_2, .inr (12, [.int 0, .int 0, .ref q_700_1, .int 0, .int 0, .int 0, .int 0, .long 0, .int 0, .int 0, .ref q_700_2, .ref q_700_3, .ref q_700_4, .ref q_700_5, .ref q_700_6, .ref q_700_7, .ref q_700_8, .ref q_700_9, .ref q_700_10, .ref q_700_11, .ref q_700_12, .ref q_700_13, .ref q_700_14, .ref q_700_15, .ref q_700_16, .ref q_700_17, .int 0, .int 0, .ref q_700_18, .ref q_700_19, .ref q_700_20, .ref q_700_21, .ref q_700_22, .ref q_700_23, .ref q_700_24, .ref q_700_25, .ref q_700_26, .ref q_700_27, .ref q_700_28, .ref q_700_29, .int 0, .long 0, .ref q_700_30, .ref q_700_31, .ref q_700_32, .ref q_700_33, .ref q_700_34, .ref q_700_35, .ref q_700_36, .ref q_700_37, .ref q_700_38, .ref q_700_39, .ref q_700_40, .ref q_700_41, .int 0, .int 0, .int 0, .int 0, .ref q_700_42, .ref q_700_43, .ref q_700_44, .ref q_700_45, .int 0, .ref q_700_46, .ref q_700_47, .int 0, .long 0]))]) hP hD hS hA [0, 1, 2] [3, 4] rfl rfl (by decide) (by decide) (va_runV (As := [.long ((((xs 1).toInt64) <<< ((32 : Int32).toInt64 &&& 63)) ||| (((xs 2).toInt64) &&& 4294967295)), .long ((((xs 3).toInt64) <<< ((32 : Int32).toInt64 &&& 63)) ||| (((xs 4).toInt64) &&& 4294967295)), .long ((((xs 5).toInt64) <<< ((32 : Int32).toInt64 &&& 63)) ||| (((xs 6).toInt64) &&& 4294967295))]) (rest := []) ⟨hx, hb, hml, hown, hts⟩ (c_X11_feed l D cy h_1 q_1 q_3 q_4 q_25 q_46 q_50 q_54 q_58 q_62 q_63 q_64 q_67 q_85 q_90 q_93 q1_2 0 (fun _ => 0) ((((xs 1).toInt64) <<< ((32 : Int32).toInt64 &&& 63)) ||| (((xs 2).toInt64) &&& 4294967295)) ((((xs 3).toInt64) <<< ((32 : Int32).toInt64 &&& 63)) ||| (((xs 4).toInt64) &&& 4294967295)) ((((xs 5).toInt64) <<< ((32 : Int32).toInt64 &&& 63)) ||| (((xs 6).toInt64) &&& 4294967295)) H.size (by decide)) (cwV 3 hts (gV0 km_L_21 ki_X11_feed kz_X11_feed kn_X11 kc_X11_feed) rfl rfl rfl (by decide +kernel) ⟨(Nat.le_of_ble_eq_true rfl), (Nat.le_of_ble_eq_true rfl)⟩) (preV hG hP hD [0, 1, 2] rfl (by decide) 11 0 rfl rfl) rfl rfl hl.1 rfl (lv_room (Nat.le_of_ble_eq_true rfl)) dL_law_216 ⟨(Nat.le_of_ble_eq_true rfl), (Nat.le_of_ble_eq_true rfl)⟩) (fun r_1 H locs hB hj hS => ?_)
  obtain ⟨hres, hP1, hD1⟩ := hB
  subst hres
  obtain ⟨hP, hD⟩ := hj _ hP1 hD1
  have hP : va_P D vwCl [(q_700_1, .inl (cy 1, 1000, .inl (fun _ => 0))), (h_2, .inr (12, [.int 0, .int 0, .ref q_700_1, .int 0, .int 0, .int 0, .int 0, .long 0, .int 0, .int 0, .ref q_700_2, .ref q_700_3, .ref q_700_4, .ref q_700_5, .ref q_700_6, .ref q_700_7, .ref q_700_8, .ref q_700_9, .ref q_700_10, .ref q_700_11, .ref q_700_12, .ref q_700_13, .ref q_700_14, .ref q_700_15, .ref q_700_16, .ref q_700_17, .int 0, .int 0, .ref q_700_18, .ref q_700_19, .ref q_700_20, .ref q_700_21, .ref q_700_22, .ref q_700_23, .ref q_700_24, .ref q_700_25, .ref q_700_26, .ref q_700_27, .ref q_700_28, .ref q_700_29, .int 0, .long 0, .ref q_700_30, .ref q_700_31, .ref q_700_32, .ref q_700_33, .ref q_700_34, .ref q_700_35, .ref q_700_36, .ref q_700_37, .ref q_700_38, .ref q_700_39, .ref q_700_40, .ref q_700_41, .int 0, .int 0, .int 0, .int 0, .ref q_700_42, .ref q_700_43, .ref q_700_44, .ref q_700_45, .int 0, .ref q_700_46, .ref q_700_47, .int 0, .long 0]))] H := hP
  have hD : va_D A [(q_700_1, .inl (cy 1, 1000, .inl (fun _ => 0))), (h_2, .inr (12, [.int 0, .int 0, .ref q_700_1, .int 0, .int 0, .int 0, .int 0, .long 0, .int 0, .int 0, .ref q_700_2, .ref q_700_3, .ref q_700_4, .ref q_700_5, .ref q_700_6, .ref q_700_7, .ref q_700_8, .ref q_700_9, .ref q_700_10, .ref q_700_11, .ref q_700_12, .ref q_700_13, .ref q_700_14, .ref q_700_15, .ref q_700_16, .ref q_700_17, .int 0, .int 0, .ref q_700_18, .ref q_700_19, .ref q_700_20, .ref q_700_21, .ref q_700_22, .ref q_700_23, .ref q_700_24, .ref q_700_25, .ref q_700_26, .ref q_700_27, .ref q_700_28, .ref q_700_29, .int 0, .long 0, .ref q_700_30, .ref q_700_31, .ref q_700_32, .ref q_700_33, .ref q_700_34, .ref q_700_35, .ref q_700_36, .ref q_700_37, .ref q_700_38, .ref q_700_39, .ref q_700_40, .ref q_700_41, .int 0, .int 0, .int 0, .int 0, .ref q_700_42, .ref q_700_43, .ref q_700_44, .ref q_700_45, .int 0, .ref q_700_46, .ref q_700_47, .int 0, .long 0]))] := hD
  refine lv_aload_n hx hb dL_law_219 rfl (lv_at hl 2 rfl) ?_
  refine lv_aload_n hx hb dL_law_220 rfl (lv_at hl 4 rfl) ?_
  refine lv_iload hx hb dL_law_221 (lv_at hl 0 rfl) ?_
  refine lv_iconst (v := 1) hx hb dL_law_223 (by decide) ?_
  refine m_iadd (v := 1) hx hb dL_law_224 (by decide) ?_
  refine va_sld hx hb hX hbl hbA hS (vin (by decide)) dL_law_225 ?_
  refine m_as (v := xs 1) rfl ?_
  refine lv_i2l (v := (xs 1).toInt64) hx hb dL_law_226 rfl ?_
  refine lv_bipush (v := 32) hx hb dL_law_227 (by decide) ?_
  refine lv_lshl (v := (((xs 1).toInt64) <<< ((32 : Int32).toInt64 &&& 63))) hx hb dL_law_229 rfl ?_
  refine lv_aload_n hx hb dL_law_230 rfl (lv_at hl 4 rfl) ?_
  refine lv_iload hx hb dL_law_231 (lv_at hl 0 rfl) ?_
  refine lv_iconst (v := 2) hx hb dL_law_233 (by decide) ?_
  refine m_iadd (v := 2) hx hb dL_law_234 (by decide) ?_
  refine va_sld hx hb hX hbl hbA hS (vin (by decide)) dL_law_235 ?_
  refine m_as (v := xs 2) rfl ?_
  refine lv_i2l (v := (xs 2).toInt64) hx hb dL_law_236 rfl ?_
  refine lv_ldc2 (v := 4294967295) hx hb hown (hg _ k_1944) dL_law_237 ?_
  refine m_land (v := (((xs 2).toInt64) &&& 4294967295)) hx hb dL_law_240 rfl ?_
  refine m_lor (v := ((((xs 1).toInt64) <<< ((32 : Int32).toInt64 &&& 63)) ||| (((xs 2).toInt64) &&& 4294967295))) hx hb dL_law_241 rfl ?_
  refine lv_aload_n hx hb dL_law_242 rfl (lv_at hl 4 rfl) ?_
  refine lv_iload hx hb dL_law_243 (lv_at hl 0 rfl) ?_
  refine lv_iconst (v := 3) hx hb dL_law_245 (by decide) ?_
  refine m_iadd (v := 3) hx hb dL_law_246 (by decide) ?_
  refine va_sld hx hb hX hbl hbA hS (vin (by decide)) dL_law_247 ?_
  refine m_as (v := xs 3) rfl ?_
  refine lv_i2l (v := (xs 3).toInt64) hx hb dL_law_248 rfl ?_
  refine lv_bipush (v := 32) hx hb dL_law_249 (by decide) ?_
  refine lv_lshl (v := (((xs 3).toInt64) <<< ((32 : Int32).toInt64 &&& 63))) hx hb dL_law_251 rfl ?_
  refine lv_aload_n hx hb dL_law_252 rfl (lv_at hl 4 rfl) ?_
  refine lv_iload hx hb dL_law_253 (lv_at hl 0 rfl) ?_
  refine lv_iconst (v := 4) hx hb dL_law_255 (by decide) ?_
  refine m_iadd (v := 4) hx hb dL_law_256 (by decide) ?_
  refine va_sld hx hb hX hbl hbA hS (vin (by decide)) dL_law_257 ?_
  refine m_as (v := xs 4) rfl ?_
  refine lv_i2l (v := (xs 4).toInt64) hx hb dL_law_258 rfl ?_
  refine lv_ldc2 (v := 4294967295) hx hb hown (hg _ k_1944) dL_law_259 ?_
  refine m_land (v := (((xs 4).toInt64) &&& 4294967295)) hx hb dL_law_262 rfl ?_
  refine m_lor (v := ((((xs 3).toInt64) <<< ((32 : Int32).toInt64 &&& 63)) ||| (((xs 4).toInt64) &&& 4294967295))) hx hb dL_law_263 rfl ?_
  refine lv_aload_n hx hb dL_law_264 rfl (lv_at hl 4 rfl) ?_
  refine lv_iload hx hb dL_law_265 (lv_at hl 0 rfl) ?_
  refine lv_iconst (v := 5) hx hb dL_law_267 (by decide) ?_
  refine m_iadd (v := 5) hx hb dL_law_268 (by decide) ?_
  refine va_sld hx hb hX hbl hbA hS (vin (by decide)) dL_law_269 ?_
  refine m_as (v := xs 5) rfl ?_
  refine lv_i2l (v := (xs 5).toInt64) hx hb dL_law_270 rfl ?_
  refine lv_bipush (v := 32) hx hb dL_law_271 (by decide) ?_
  refine lv_lshl (v := (((xs 5).toInt64) <<< ((32 : Int32).toInt64 &&& 63))) hx hb dL_law_273 rfl ?_
  refine lv_aload_n hx hb dL_law_274 rfl (lv_at hl 4 rfl) ?_
  refine lv_iload hx hb dL_law_275 (lv_at hl 0 rfl) ?_
  refine lv_bipush (v := 6) hx hb dL_law_277 (by decide) ?_
  refine m_iadd (v := 6) hx hb dL_law_279 (by decide) ?_
  refine va_sld hx hb hX hbl hbA hS (vin (by decide)) dL_law_280 ?_
  refine m_as (v := xs 6) rfl ?_
  refine lv_i2l (v := (xs 6).toInt64) hx hb dL_law_281 rfl ?_
  refine lv_ldc2 (v := 4294967295) hx hb hown (hg _ k_1944) dL_law_282 ?_
  refine m_land (v := (((xs 6).toInt64) &&& 4294967295)) hx hb dL_law_285 rfl ?_
  refine m_lor (v := ((((xs 5).toInt64) <<< ((32 : Int32).toInt64 &&& 63)) ||| (((xs 6).toInt64) &&& 4294967295))) hx hb dL_law_286 rfl ?_
  refine x_i (wr := []) hP hD hS hA [1, 0] [] rfl rfl (by decide) (by decide) (va_runV (As := [.long ((((xs 1).toInt64) <<< ((32 : Int32).toInt64 &&& 63)) ||| (((xs 2).toInt64) &&& 4294967295)), .long ((((xs 3).toInt64) <<< ((32 : Int32).toInt64 &&& 63)) ||| (((xs 4).toInt64) &&& 4294967295)), .long ((((xs 5).toInt64) <<< ((32 : Int32).toInt64 &&& 63)) ||| (((xs 6).toInt64) &&& 4294967295))]) (rest := [.int (nI (cb (cb (cb 0 ((((xs 1).toInt64) <<< ((32 : Int32).toInt64 &&& 63)) ||| (((xs 2).toInt64) &&& 4294967295)) 8) ((((xs 3).toInt64) <<< ((32 : Int32).toInt64 &&& 63)) ||| (((xs 4).toInt64) &&& 4294967295)) 8) ((((xs 5).toInt64) <<< ((32 : Int32).toInt64 &&& 63)) ||| (((xs 6).toInt64) &&& 4294967295)) 8))]) ⟨hx, hb, hml, hown, hts⟩ (c_X12_feed l D cy h_2 q_700_1 q_700_2 q_700_3 q_700_4 q_700_5 q_700_6 q_700_7 q_700_8 q_700_9 q_700_10 q_700_11 q_700_12 q_700_13 q_700_14 q_700_15 q_700_16 q_700_17 q_700_18 q_700_19 q_700_20 q_700_21 q_700_22 q_700_23 q_700_24 q_700_25 q_700_26 q_700_27 q_700_28 q_700_29 q_700_30 q_700_31 q_700_32 q_700_33 q_700_34 q_700_35 q_700_36 q_700_37 q_700_38 q_700_39 q_700_40 q_700_41 q_700_42 q_700_43 q_700_44 q_700_45 q_700_46 q_700_47 0 (fun _ => 0) ((((xs 1).toInt64) <<< ((32 : Int32).toInt64 &&& 63)) ||| (((xs 2).toInt64) &&& 4294967295)) ((((xs 3).toInt64) <<< ((32 : Int32).toInt64 &&& 63)) ||| (((xs 4).toInt64) &&& 4294967295)) ((((xs 5).toInt64) <<< ((32 : Int32).toInt64 &&& 63)) ||| (((xs 6).toInt64) &&& 4294967295)) H.size (by decide)) (cwV 3 hts (gV0 km_L_25 ki_X12_feed kz_X12_feed kn_X12 kc_X12_feed) rfl rfl rfl (by decide +kernel) ⟨(Nat.le_of_ble_eq_true rfl), (Nat.le_of_ble_eq_true rfl)⟩) (preV hG hP hD [1, 0] rfl (by decide) 12 1 rfl rfl) rfl rfl hl.1 rfl (lv_room (Nat.le_of_ble_eq_true rfl)) dL_law_287 ⟨(Nat.le_of_ble_eq_true rfl), (Nat.le_of_ble_eq_true rfl)⟩) (fun r_2 H locs hB hj hS => ?_)
  obtain ⟨hres, hP1, hD1⟩ := hB
  subst hres
  obtain ⟨hP, hD⟩ := hj _ hP1 hD1
  have hP : va_P D vwCl [] H := hP
  have hD : va_D A [] := hD
  refine lv_icmp_eq (tgt := 1092) hx hb dL_law_290 (by decide) (fun _ => ?_) (fun c_ => absurd rfl c_)
  refine lv_iinc (v := 7) (lv' := [(4, .int 7), (3, .ref q_800), (2, .ref h_2), (1, .ref h_1), (0, .ref b)]) hx hb dL_law_1092 hl (k := 0) rfl (by decide) (by decide) rfl (fun ls hl => ?_)
  refine lv_goto (tgt := 23) hx hb dL_law_1095 (by decide) ?_
  refine lv_iload hx hb dL_law_23 (lv_at hl 0 rfl) ?_
  refine lv_aload_n hx hb dL_law_25 rfl (lv_at hl 4 rfl) ?_
  refine va_slen hx hb hX hbl hbA hS dL_law_26 ?_
  refine m_as (v := 7) rfl ?_
  refine lv_bipush (v := 7) hx hb dL_law_27 (by decide) ?_
  refine m_isub (v := 0) hx hb dL_law_29 (by decide) ?_
  refine lv_icmp_gt (tgt := 1098) hx hb dL_law_30 (by decide) (fun _ => ?_) (fun c_ => absurd (by decide) c_)
  refine lv_iconst (v := 1) hx hb dL_law_1098 (by decide) ?_
  exact lw_end hx hb hr hlocks hAd hS (Nat.le_of_ble_eq_true rfl) (Nat.le_of_ble_eq_true rfl) dL_law_1099
