set_option maxHeartbeats 4000000 in
set_option maxRecDepth 100000 in
theorem whole_start {p : Program} {e : Env} {s : State} {m : MethodId} {below : List Frame} {meth : Method} {c : Code} (l : Launch) (hlt : l.stackTraces = false) {b L : Nat} {xs : Nat → Int32} (hL : L ≤ 3584) (C0 : lw_At p s m meth c b L xs) : W p l e room_1 s m #[Value.ref b] below meth c s.heap [] 0 0 (lw_Z below #[Value.ref b] s) (entryFrame m ([Value.ref b] : List Value).toArray 7) := by
  obtain ⟨hx, hb, hr, hml, hown, hts0, hX, hbl, hlocks, hgv⟩ := id C0
  have hts : ∀ w ∈ bigG, w.before #[Value.ref b] s = true := fun w h => hts0 w (bigG_in h)
  have hg := hts
  have hown : s.vm.findClass RL = some m.cls := hown
  obtain ⟨c0_, iS0_, hKn0_⟩ := u_known (C := RX0) (T := TX0) (N := 20) (n := 20) hts ibX0 (hts _ k_97)
  obtain ⟨c1_, iS1_, hKn1_⟩ := u_known (C := RX1) (T := TX1) (N := 3) (n := 3) hts ibX1 (hts _ k_81)
  obtain ⟨c2_, iS2_, hKn2_⟩ := u_known (C := RX2) (T := TX2) (N := 5) (n := 5) hts ibX2 (hts _ k_291)
  obtain ⟨c3_, iS3_, hKn3_⟩ := u_known (C := RX3) (T := TX3) (N := 8) (n := 8) hts ibX3 (hts _ k_103)
  obtain ⟨c4_, iS4_, hKn4_⟩ := u_known (C := RX4) (T := TX4) (N := 4) (n := 4) hts ibX4 (hts _ k_397)
  obtain ⟨c5_, iS5_, hKn5_⟩ := u_known (C := RX5) (T := TX5) (N := 3) (n := 3) hts ibX5 (hts _ k_380)
  obtain ⟨c6_, iS6_, hKn6_⟩ := u_known (C := RX6) (T := TX6) (N := 7) (n := 7) hts ibX6 (hts _ k_350)
  obtain ⟨c7_, iS7_, hKn7_⟩ := u_known (C := RX7) (T := TX7) (N := 6) (n := 6) hts ibX7 (hts _ k_321)
  obtain ⟨c8_, iS8_, hKn8_⟩ := u_known (C := RX8) (T := TX8) (N := 6) (n := 6) hts ibX8 (hts _ k_255)
  obtain ⟨c9_, iS9_, hKn9_⟩ := u_known (C := RX9) (T := TX9) (N := 9) (n := 9) hts ibX9 (hts _ k_36)
  obtain ⟨c10_, iS10_, hKn10_⟩ := u_known (C := RX10) (T := TX10) (N := 4) (n := 4) hts ibX10 (hts _ k_235)
  obtain ⟨c11_, iS11_, hKn11_⟩ := u_known (C := RX11) (T := TX11) (N := 17) (n := 17) hts ibX11 (hts _ k_28)
  obtain ⟨c12_, iS12_, hKn12_⟩ := u_known (C := RX12) (T := TX12) (N := 67) (n := 67) hts ibX12 (hts _ k_1306)
  obtain ⟨D, hKc⟩ : ∃ D : va_G, ∀ (k : Nat) (q : vw_C), vwCl[k]? = some q → u_Kn s q.1 q.2.1 q.2.2 (D.1 k) (D.2 k) := by
    refine ⟨(fun k => match k with | 0 => c0_ | 1 => c1_ | 2 => c2_ | 3 => c3_ | 4 => c4_ | 5 => c5_ | 6 => c6_ | 7 => c7_ | 8 => c8_ | 9 => c9_ | 10 => c10_ | 11 => c11_ | _ => c12_, fun k => match k with | 0 => iS0_ | 1 => iS1_ | 2 => iS2_ | 3 => iS3_ | 4 => iS4_ | 5 => iS5_ | 6 => iS6_ | 7 => iS7_ | 8 => iS8_ | 9 => iS9_ | 10 => iS10_ | 11 => iS11_ | _ => iS12_), ?_⟩
    intro k q hq
    match k, hq with
    | 0, hq => cases hq; exact hKn0_
    | 1, hq => cases hq; exact hKn1_
    | 2, hq => cases hq; exact hKn2_
    | 3, hq => cases hq; exact hKn3_
    | 4, hq => cases hq; exact hKn4_
    | 5, hq => cases hq; exact hKn5_
    | 6, hq => cases hq; exact hKn6_
    | 7, hq => cases hq; exact hKn7_
    | 8, hq => cases hq; exact hKn8_
    | 9, hq => cases hq; exact hKn9_
    | 10, hq => cases hq; exact hKn10_
    | 11, hq => cases hq; exact hKn11_
    | 12, hq => cases hq; exact hKn12_
    | k + 13, hq => simp [vwCl] at hq
  obtain ⟨cy, hG⟩ := gk_of (D := D) hts0 hKc
  obtain ⟨A, hAd⟩ : ∃ A : Nat → Prop, A = fun q => s.heap.size ≤ q := ⟨_, rfl⟩
  have hA : ∀ q : Nat, s.heap.size ≤ q → A q := fun q h => by rw [hAd]; exact h
  have hbA : ¬ A b := by rw [hAd]; exact Nat.not_le.mpr hbl
  have hAn : ∀ a : Nat, a < s.heap.size → ¬ A a := fun a h => by rw [hAd]; exact Nat.not_le.mpr h
  have hZ : zx A s := zx_of hts0 hgv hAn
  have hS : va_S A s.heap s.heap [] := va_S.rf
  have hP : va_P D vwCl [] s.heap := fun k q h => by simp at h
  have hD : va_D A [] := ⟨fun i j p q h => by simp at h, fun k q h => by simp at h⟩
  have hl := lv_entry ([.ref b]) (n := 7) (Nat.le_of_ble_eq_true rfl)
  rw [lg_entry_eq]
  generalize (lg_sl ([.ref b]) ++ List.replicate (7 - (lg_sl ([.ref b])).length) Slot.unset).toArray = ls at hl ⊢
  have hl : lv_has ls 7 [(0, .ref b)] := hl
  refine va_new (ci := 11) (fs := [.null, .null, .null, .null, .null, .null, .null, .null, .null, .int 0, .int 0, .null, .null, .null, .null, .null, .null]) (C := RX11) (T := TX11) (N := 17) hx hb hts ibX11 tyX11 tyX11_ok hown (hg _ k_27) (hg _ k_28) (hg _ k_1) hG.1 hP hD hS hA rfl dfX11 (Nat.le_of_ble_eq_true rfl) (Nat.le_of_ble_eq_true rfl) dL_law_0 (fun q_1 H hP hD hS => ?_)
  have hP : va_P D vwCl [(q_1, .inr (11, [.null, .null, .null, .null, .null, .null, .null, .null, .null, .int 0, .int 0, .null, .null, .null, .null, .null, .null]))] H := hP
  have hD : va_D A [(q_1, .inr (11, [.null, .null, .null, .null, .null, .null, .null, .null, .null, .int 0, .int 0, .null, .null, .null, .null, .null, .null]))] := hD
  refine W.widen (k := 1) (n := 17) (Nat.le_of_ble_eq_true rfl) (Nat.le_of_ble_eq_true rfl) ?_
  refine lv_dup hx hb dL_law_3 rfl ?_
  refine x_v (wr := []) hP hD hS hA [0] [] rfl rfl (by decide) (by decide) (va_runI (As := []) (rest := [.ref q_1]) ⟨hx, hb, hml, hown, hts⟩ (c_X11_init_1 l D cy q_1 H.size) (cwI 0 hts (gB0 kc_X11_init) rfl rfl rfl (hg _ kn_X11) (hg _ km_L_15) (hg _ ki_X11_init) rfl (by decide +kernel) ⟨(Nat.le_of_ble_eq_true rfl), (Nat.le_of_ble_eq_true rfl)⟩) (preS hG hP hD [0] rfl (by decide)) rfl rfl hl.1 rfl (lv_room (Nat.le_of_ble_eq_true rfl)) dL_law_4 ⟨(Nat.le_of_ble_eq_true rfl), (Nat.le_of_ble_eq_true rfl)⟩) (fun H locs hB hj hS => ?_)
  obtain ⟨q1, q2, q3, q4, q5, q6, q7, q8, q9, q12, q13, q14, q15, q16, q17, s0, s1, s2, s3, s4, s5, s6, s7, s8, s9, s10, s11, s12, s13, s14, s15, k0, k1, k2, k3, w1, w2, w3, w4, w5, w6, w7, w8, w13, w14, w15, w16, ws0, ws1, ws2, ws3, ws4, ws5, ws6, ws7, ws8, ws9, ws10, ws11, ws12, ws13, ws14, ws15, wk0, wk1, wk2, wk3, g1, g2, g3, g4, g5, g6, g7, g8, g13, g14, g15, g16, gs0, gs1, gs2, gs3, gs4, gs5, gs6, gs7, gs8, gs9, gs10, gs11, gs12, gs13, gs14, gs15, gk0, gk1, gk2, gk3, hP1, hD1⟩ := hB
  obtain ⟨hP, hD⟩ := hj _ hP1 hD1
  have hP : va_P D vwCl ((q_1, .inr (11, [.ref q1, .ref q2, .ref q3, .ref q4, .ref q5, .ref q6, .ref q7, .ref q8, .ref q9, .int 0, .int 0, .ref q12, .ref q13, .ref q14, .ref q15, .ref q16, .ref q17])) :: (q9, .inl (cy 5, 16, .inr (.inr (.inr (.inr (va_up (va_up (va_up (va_up (va_up (va_up (va_up (va_up (va_up (va_up (va_up (va_up (va_up (va_up (va_up (va_up (fun _ => none) 0 (some s0)) 1 (some s1)) 2 (some s2)) 3 (some s3)) 4 (some s4)) 5 (some s5)) 6 (some s6)) 7 (some s7)) 8 (some s8)) 9 (some s9)) 10 (some s10)) 11 (some s11)) 12 (some s12)) 13 (some s13)) 14 (some s14)) 15 (some s15))))))) :: (q12, .inl (cy 4, 4, .inr (.inr (.inr (.inr (va_up (va_up (va_up (va_up (fun _ => none) 0 (some k0)) 1 (some k1)) 2 (some k2)) 3 (some k3))))))) :: (((w1 ++ (w2 ++ (w3 ++ (w4 ++ (w5 ++ (w6 ++ (w7 ++ w8))))))) ++ (w13 ++ (w14 ++ (w15 ++ (w16 ++ [(q17, .inl (cy 1, 25, .inl (fun _ => 0)))]))))) ++ ((ws0 ++ (ws1 ++ (ws2 ++ (ws3 ++ (ws4 ++ (ws5 ++ (ws6 ++ (ws7 ++ (ws8 ++ (ws9 ++ (ws10 ++ (ws11 ++ (ws12 ++ (ws13 ++ (ws14 ++ ws15))))))))))))))) ++ (wk0 ++ (wk1 ++ (wk2 ++ wk3)))))) H := hP
  have hD : va_D A ((q_1, .inr (11, [.ref q1, .ref q2, .ref q3, .ref q4, .ref q5, .ref q6, .ref q7, .ref q8, .ref q9, .int 0, .int 0, .ref q12, .ref q13, .ref q14, .ref q15, .ref q16, .ref q17])) :: (q9, .inl (cy 5, 16, .inr (.inr (.inr (.inr (va_up (va_up (va_up (va_up (va_up (va_up (va_up (va_up (va_up (va_up (va_up (va_up (va_up (va_up (va_up (va_up (fun _ => none) 0 (some s0)) 1 (some s1)) 2 (some s2)) 3 (some s3)) 4 (some s4)) 5 (some s5)) 6 (some s6)) 7 (some s7)) 8 (some s8)) 9 (some s9)) 10 (some s10)) 11 (some s11)) 12 (some s12)) 13 (some s13)) 14 (some s14)) 15 (some s15))))))) :: (q12, .inl (cy 4, 4, .inr (.inr (.inr (.inr (va_up (va_up (va_up (va_up (fun _ => none) 0 (some k0)) 1 (some k1)) 2 (some k2)) 3 (some k3))))))) :: (((w1 ++ (w2 ++ (w3 ++ (w4 ++ (w5 ++ (w6 ++ (w7 ++ w8))))))) ++ (w13 ++ (w14 ++ (w15 ++ (w16 ++ [(q17, .inl (cy 1, 25, .inl (fun _ => 0)))]))))) ++ ((ws0 ++ (ws1 ++ (ws2 ++ (ws3 ++ (ws4 ++ (ws5 ++ (ws6 ++ (ws7 ++ (ws8 ++ (ws9 ++ (ws10 ++ (ws11 ++ (ws12 ++ (ws13 ++ (ws14 ++ ws15))))))))))))))) ++ (wk0 ++ (wk1 ++ (wk2 ++ wk3)))))) := hD
  refine W.widen (k := 198) (n := 5875) (Nat.le_of_ble_eq_true rfl) (Nat.le_of_ble_eq_true rfl) ?_
  refine lv_astore_n (lv' := [(1, .ref q_1), (0, .ref b)]) hx hb dL_law_7 rfl hl (by decide) rfl (fun ls hl => ?_)
  refine va_new (ci := 12) (fs := [.int 0, .int 0, .null, .int 0, .int 0, .int 0, .int 0, .long 0, .int 0, .int 0, .null, .null, .null, .null, .null, .null, .null, .null, .null, .null, .null, .null, .null, .null, .null, .null, .int 0, .int 0, .null, .null, .null, .null, .null, .null, .null, .null, .null, .null, .null, .null, .int 0, .long 0, .null, .null, .null, .null, .null, .null, .null, .null, .null, .null, .null, .null, .int 0, .int 0, .int 0, .int 0, .null, .null, .null, .null, .int 0, .null, .null, .int 0, .long 0]) (C := RX12) (T := TX12) (N := 67) hx hb hts ibX12 tyX12 tyX12_ok hown (hg _ k_1305) (hg _ k_1306) (hg _ k_14) hG.1 hP hD hS hA rfl dfX12 (Nat.le_of_ble_eq_true rfl) (Nat.le_of_ble_eq_true rfl) dL_law_8 (fun q_199 H hP hD hS => ?_)
  refine W.widen (k := 199) (n := 5942) (Nat.le_of_ble_eq_true rfl) (Nat.le_of_ble_eq_true rfl) ?_
  refine lv_dup hx hb dL_law_11 rfl ?_
  refine x_vL (wr := ((q_1, .inr (11, [.ref q1, .ref q2, .ref q3, .ref q4, .ref q5, .ref q6, .ref q7, .ref q8, .ref q9, .int 0, .int 0, .ref q12, .ref q13, .ref q14, .ref q15, .ref q16, .ref q17])) :: (q9, .inl (cy 5, 16, .inr (.inr (.inr (.inr (va_up (va_up (va_up (va_up (va_up (va_up (va_up (va_up (va_up (va_up (va_up (va_up (va_up (va_up (va_up (va_up (fun _ => none) 0 (some s0)) 1 (some s1)) 2 (some s2)) 3 (some s3)) 4 (some s4)) 5 (some s5)) 6 (some s6)) 7 (some s7)) 8 (some s8)) 9 (some s9)) 10 (some s10)) 11 (some s11)) 12 (some s12)) 13 (some s13)) 14 (some s14)) 15 (some s15))))))) :: (q12, .inl (cy 4, 4, .inr (.inr (.inr (.inr (va_up (va_up (va_up (va_up (fun _ => none) 0 (some k0)) 1 (some k1)) 2 (some k2)) 3 (some k3))))))) :: (((w1 ++ (w2 ++ (w3 ++ (w4 ++ (w5 ++ (w6 ++ (w7 ++ w8))))))) ++ (w13 ++ (w14 ++ (w15 ++ (w16 ++ [(q17, .inl (cy 1, 25, .inl (fun _ => 0)))]))))) ++ ((ws0 ++ (ws1 ++ (ws2 ++ (ws3 ++ (ws4 ++ (ws5 ++ (ws6 ++ (ws7 ++ (ws8 ++ (ws9 ++ (ws10 ++ (ws11 ++ (ws12 ++ (ws13 ++ (ws14 ++ ws15))))))))))))))) ++ (wk0 ++ (wk1 ++ (wk2 ++ wk3))))))) hP hD hS hA (va_runI (As := []) (rest := [.ref q_199]) ⟨hx, hb, hml, hown, hts⟩ (c_X12_init_1 l D cy q_199 H.size) (cwI 0 hts (gB0 kc_X12_init) rfl rfl rfl (hg _ kn_X12) (hg _ km_L_18) (hg _ ki_X12_init) rfl (by decide +kernel) ⟨(Nat.le_of_ble_eq_true rfl), (Nat.le_of_ble_eq_true rfl)⟩) (preL (wr := ((q_1, .inr (11, [.ref q1, .ref q2, .ref q3, .ref q4, .ref q5, .ref q6, .ref q7, .ref q8, .ref q9, .int 0, .int 0, .ref q12, .ref q13, .ref q14, .ref q15, .ref q16, .ref q17])) :: (q9, .inl (cy 5, 16, .inr (.inr (.inr (.inr (va_up (va_up (va_up (va_up (va_up (va_up (va_up (va_up (va_up (va_up (va_up (va_up (va_up (va_up (va_up (va_up (fun _ => none) 0 (some s0)) 1 (some s1)) 2 (some s2)) 3 (some s3)) 4 (some s4)) 5 (some s5)) 6 (some s6)) 7 (some s7)) 8 (some s8)) 9 (some s9)) 10 (some s10)) 11 (some s11)) 12 (some s12)) 13 (some s13)) 14 (some s14)) 15 (some s15))))))) :: (q12, .inl (cy 4, 4, .inr (.inr (.inr (.inr (va_up (va_up (va_up (va_up (fun _ => none) 0 (some k0)) 1 (some k1)) 2 (some k2)) 3 (some k3))))))) :: (((w1 ++ (w2 ++ (w3 ++ (w4 ++ (w5 ++ (w6 ++ (w7 ++ w8))))))) ++ (w13 ++ (w14 ++ (w15 ++ (w16 ++ [(q17, .inl (cy 1, 25, .inl (fun _ => 0)))]))))) ++ ((ws0 ++ (ws1 ++ (ws2 ++ (ws3 ++ (ws4 ++ (ws5 ++ (ws6 ++ (ws7 ++ (ws8 ++ (ws9 ++ (ws10 ++ (ws11 ++ (ws12 ++ (ws13 ++ (ws14 ++ ws15))))))))))))))) ++ (wk0 ++ (wk1 ++ (wk2 ++ wk3))))))) hG hP hD) rfl rfl hl.1 rfl (lv_room (Nat.le_of_ble_eq_true rfl)) dL_law_12 ⟨(Nat.le_of_ble_eq_true rfl), (Nat.le_of_ble_eq_true rfl)⟩) (fun H locs hB hj hS => ?_)
  refine Exists.elim hB fun q_1_200 hB => ?_
  refine Exists.elim hB fun q_3_201 hB => ?_
  refine Exists.elim hB fun q_4_202 hB => ?_
  refine Exists.elim hB fun q_5_203 hB => ?_
  refine Exists.elim hB fun q_6_204 hB => ?_
  refine Exists.elim hB fun q_7_205 hB => ?_
  refine Exists.elim hB fun q_8_206 hB => ?_
  refine Exists.elim hB fun q_9_207 hB => ?_
  refine Exists.elim hB fun q_10_208 hB => ?_
  refine Exists.elim hB fun q_11_209 hB => ?_
  refine Exists.elim hB fun q_12_210 hB => ?_
  refine Exists.elim hB fun q_13_211 hB => ?_
  refine Exists.elim hB fun q_14_212 hB => ?_
  refine Exists.elim hB fun q_15_213 hB => ?_
  refine Exists.elim hB fun q_16_214 hB => ?_
  refine Exists.elim hB fun q_17_215 hB => ?_
  refine Exists.elim hB fun q_18_216 hB => ?_
  refine Exists.elim hB fun q_19_217 hB => ?_
  refine Exists.elim hB fun q_20_218 hB => ?_
  refine Exists.elim hB fun q_21_219 hB => ?_
  refine Exists.elim hB fun q_22_220 hB => ?_
  refine Exists.elim hB fun q_23_221 hB => ?_
  refine Exists.elim hB fun q_24_222 hB => ?_
  refine Exists.elim hB fun q_25_223 hB => ?_
  refine Exists.elim hB fun q_26_224 hB => ?_
  refine Exists.elim hB fun q_27_225 hB => ?_
  refine Exists.elim hB fun q_28_226 hB => ?_
  refine Exists.elim hB fun q_29_227 hB => ?_
  refine Exists.elim hB fun q_30_228 hB => ?_
  refine Exists.elim hB fun q_31_229 hB => ?_
  refine Exists.elim hB fun q_32_230 hB => ?_
  refine Exists.elim hB fun q_33_231 hB => ?_
  refine Exists.elim hB fun q_34_232 hB => ?_
  refine Exists.elim hB fun q_35_233 hB => ?_
  refine Exists.elim hB fun q_37_234 hB => ?_
  refine Exists.elim hB fun q_38_235 hB => ?_
  refine Exists.elim hB fun q_39_236 hB => ?_
  refine Exists.elim hB fun q_40_237 hB => ?_
  refine Exists.elim hB fun q_41_238 hB => ?_
  refine Exists.elim hB fun q_42_239 hB => ?_
  refine Exists.elim hB fun q_43_240 hB => ?_
  refine Exists.elim hB fun q_44_241 hB => ?_
  refine Exists.elim hB fun q_45_242 hB => ?_
  refine Exists.elim hB fun q_46_243 hB => ?_
  refine Exists.elim hB fun q_47_244 hB => ?_
  refine Exists.elim hB fun q_2_245 hB => ?_
  refine Exists.elim hB fun q_36_246 hB => ?_
  obtain ⟨hP1, hD1⟩ := hB
  have hP1 := hP1.sub (ws' := [(q_199, .inr (12, [.int 0, .int 0, .ref q_1_200, .int 0, .int 0, .int 0, .int 0, .long 0, .int 0, .int 0, .ref q_2_245, .ref q_3_201, .ref q_4_202, .ref q_5_203, .ref q_6_204, .ref q_7_205, .ref q_8_206, .ref q_9_207, .ref q_10_208, .ref q_11_209, .ref q_12_210, .ref q_13_211, .ref q_14_212, .ref q_15_213, .ref q_16_214, .ref q_17_215, .int 0, .int 0, .ref q_18_216, .ref q_19_217, .ref q_20_218, .ref q_21_219, .ref q_22_220, .ref q_23_221, .ref q_24_222, .ref q_25_223, .ref q_26_224, .ref q_27_225, .ref q_28_226, .ref q_29_227, .int 0, .long 0, .ref q_30_228, .ref q_31_229, .ref q_32_230, .ref q_33_231, .ref q_34_232, .ref q_35_233, .ref q_36_246, .ref q_37_234, .ref q_38_235, .ref q_39_236, .ref q_40_237, .ref q_41_238, .int 0, .int 0, .int 0, .int 0, .ref q_42_239, .ref q_43_240, .ref q_44_241, .ref q_45_242, .int 0, .ref q_46_243, .ref q_47_244, .int 0, .long 0])), (q_1_200, .inl (cy 1, 1000, .inl (fun _ => 0))), (q_2_245, .inl (cy 1, 10, .inl (upd (fun _ => 0) 4 2))), (q_3_201, .inl (cy 2, 12, .inr (.inl (fun _ => 0)))), (q_4_202, .inl (cy 2, 10, .inr (.inl (fun _ => 0)))), (q_5_203, .inl (cy 1, 12, .inl (fun _ => 0))), (q_6_204, .inl (cy 1, 12, .inl (fun _ => 0))), (q_7_205, .inl (cy 1, 12, .inl (fun _ => 0))), (q_8_206, .inl (cy 1, 12, .inl (fun _ => 0))), (q_9_207, .inl (cy 1, 12, .inl (fun _ => 0))), (q_10_208, .inl (cy 1, 12, .inl (fun _ => 0))), (q_11_209, .inl (cy 1, 10, .inl (fun _ => 0))), (q_12_210, .inl (cy 1, 10, .inl (fun _ => 0))), (q_13_211, .inl (cy 1, 10, .inl (fun _ => 0))), (q_14_212, .inl (cy 1, 12, .inl (fun _ => 0))), (q_15_213, .inl (cy 1, 2, .inl (fun _ => 0))), (q_16_214, .inl (cy 1, 2, .inl (fun _ => 0))), (q_17_215, .inl (cy 1, 2000, .inl (fun _ => 0))), (q_18_216, .inl (cy 1, 7, .inl (fun _ => 0))), (q_19_217, .inl (cy 3, 7, .inl (fun _ => 0))), (q_20_218, .inl (cy 1, 7, .inl (fun _ => 0))), (q_21_219, .inl (cy 1, 7, .inl (fun _ => 0))), (q_22_220, .inl (cy 1, 7, .inl (fun _ => 0))), (q_23_221, .inl (cy 1, 7, .inl (fun _ => 0))), (q_24_222, .inl (cy 1, 7, .inl (fun _ => 0))), (q_25_223, .inl (cy 1, 7, .inl (fun _ => 0))), (q_26_224, .inl (cy 1, 7, .inl (fun _ => 0))), (q_27_225, .inl (cy 1, 7, .inl (fun _ => 0))), (q_28_226, .inl (cy 1, 7, .inl (fun _ => 0))), (q_29_227, .inl (cy 1, 20, .inl (fun _ => 0))), (q_30_228, .inl (cy 1, 6, .inl (fun _ => 0))), (q_31_229, .inl (cy 1, 240, .inl (fun _ => 0))), (q_32_230, .inl (cy 1, 240, .inl (fun _ => 0))), (q_33_231, .inl (cy 1, 240, .inl (fun _ => 0))), (q_34_232, .inl (cy 3, 240, .inl (fun _ => 0))), (q_35_233, .inl (cy 1, 30, .inl (fun _ => 0))), (q_36_246, .inl (cy 1, 21, .inl (upd (upd (upd (upd (upd (upd (fun _ => 0) 9 (-1)) 10 (-1)) 11 (-1)) 12 (-1)) 13 (-1)) 14 (-1)))), (q_37_234, .inl (cy 1, 21, .inl (fun _ => 0))), (q_38_235, .inl (cy 1, 84, .inl (fun _ => 0))), (q_39_236, .inl (cy 1, 84, .inl (fun _ => 0))), (q_40_237, .inl (cy 1, 336, .inl (fun _ => 0))), (q_41_238, .inl (cy 3, 4, .inl (fun _ => 0))), (q_42_239, .inl (cy 1, 6, .inl (fun _ => 0))), (q_43_240, .inl (cy 1, 6, .inl (fun _ => 0))), (q_44_241, .inl (cy 1, 6, .inl (fun _ => 0))), (q_45_242, .inl (cy 1, 64, .inl (fun _ => 0))), (q_46_243, .inl (cy 1, 6, .inl (fun _ => 0))), (q_47_244, .inl (cy 1, 6, .inl (fun _ => 0)))]) [45, 0, 46, 1, 2, 3, 4, 5, 6, 7, 8, 9, 10, 11, 12, 13, 14, 15, 16, 17, 18, 19, 20, 21, 22, 23, 24, 25, 26, 27, 28, 29, 30, 31, 32, 33, 47, 34, 35, 36, 37, 38, 39, 40, 41, 42, 43, 44] rfl
  have hD1 := hD1.sub (ws' := [(q_199, .inr (12, [.int 0, .int 0, .ref q_1_200, .int 0, .int 0, .int 0, .int 0, .long 0, .int 0, .int 0, .ref q_2_245, .ref q_3_201, .ref q_4_202, .ref q_5_203, .ref q_6_204, .ref q_7_205, .ref q_8_206, .ref q_9_207, .ref q_10_208, .ref q_11_209, .ref q_12_210, .ref q_13_211, .ref q_14_212, .ref q_15_213, .ref q_16_214, .ref q_17_215, .int 0, .int 0, .ref q_18_216, .ref q_19_217, .ref q_20_218, .ref q_21_219, .ref q_22_220, .ref q_23_221, .ref q_24_222, .ref q_25_223, .ref q_26_224, .ref q_27_225, .ref q_28_226, .ref q_29_227, .int 0, .long 0, .ref q_30_228, .ref q_31_229, .ref q_32_230, .ref q_33_231, .ref q_34_232, .ref q_35_233, .ref q_36_246, .ref q_37_234, .ref q_38_235, .ref q_39_236, .ref q_40_237, .ref q_41_238, .int 0, .int 0, .int 0, .int 0, .ref q_42_239, .ref q_43_240, .ref q_44_241, .ref q_45_242, .int 0, .ref q_46_243, .ref q_47_244, .int 0, .long 0])), (q_1_200, .inl (cy 1, 1000, .inl (fun _ => 0))), (q_2_245, .inl (cy 1, 10, .inl (upd (fun _ => 0) 4 2))), (q_3_201, .inl (cy 2, 12, .inr (.inl (fun _ => 0)))), (q_4_202, .inl (cy 2, 10, .inr (.inl (fun _ => 0)))), (q_5_203, .inl (cy 1, 12, .inl (fun _ => 0))), (q_6_204, .inl (cy 1, 12, .inl (fun _ => 0))), (q_7_205, .inl (cy 1, 12, .inl (fun _ => 0))), (q_8_206, .inl (cy 1, 12, .inl (fun _ => 0))), (q_9_207, .inl (cy 1, 12, .inl (fun _ => 0))), (q_10_208, .inl (cy 1, 12, .inl (fun _ => 0))), (q_11_209, .inl (cy 1, 10, .inl (fun _ => 0))), (q_12_210, .inl (cy 1, 10, .inl (fun _ => 0))), (q_13_211, .inl (cy 1, 10, .inl (fun _ => 0))), (q_14_212, .inl (cy 1, 12, .inl (fun _ => 0))), (q_15_213, .inl (cy 1, 2, .inl (fun _ => 0))), (q_16_214, .inl (cy 1, 2, .inl (fun _ => 0))), (q_17_215, .inl (cy 1, 2000, .inl (fun _ => 0))), (q_18_216, .inl (cy 1, 7, .inl (fun _ => 0))), (q_19_217, .inl (cy 3, 7, .inl (fun _ => 0))), (q_20_218, .inl (cy 1, 7, .inl (fun _ => 0))), (q_21_219, .inl (cy 1, 7, .inl (fun _ => 0))), (q_22_220, .inl (cy 1, 7, .inl (fun _ => 0))), (q_23_221, .inl (cy 1, 7, .inl (fun _ => 0))), (q_24_222, .inl (cy 1, 7, .inl (fun _ => 0))), (q_25_223, .inl (cy 1, 7, .inl (fun _ => 0))), (q_26_224, .inl (cy 1, 7, .inl (fun _ => 0))), (q_27_225, .inl (cy 1, 7, .inl (fun _ => 0))), (q_28_226, .inl (cy 1, 7, .inl (fun _ => 0))), (q_29_227, .inl (cy 1, 20, .inl (fun _ => 0))), (q_30_228, .inl (cy 1, 6, .inl (fun _ => 0))), (q_31_229, .inl (cy 1, 240, .inl (fun _ => 0))), (q_32_230, .inl (cy 1, 240, .inl (fun _ => 0))), (q_33_231, .inl (cy 1, 240, .inl (fun _ => 0))), (q_34_232, .inl (cy 3, 240, .inl (fun _ => 0))), (q_35_233, .inl (cy 1, 30, .inl (fun _ => 0))), (q_36_246, .inl (cy 1, 21, .inl (upd (upd (upd (upd (upd (upd (fun _ => 0) 9 (-1)) 10 (-1)) 11 (-1)) 12 (-1)) 13 (-1)) 14 (-1)))), (q_37_234, .inl (cy 1, 21, .inl (fun _ => 0))), (q_38_235, .inl (cy 1, 84, .inl (fun _ => 0))), (q_39_236, .inl (cy 1, 84, .inl (fun _ => 0))), (q_40_237, .inl (cy 1, 336, .inl (fun _ => 0))), (q_41_238, .inl (cy 3, 4, .inl (fun _ => 0))), (q_42_239, .inl (cy 1, 6, .inl (fun _ => 0))), (q_43_240, .inl (cy 1, 6, .inl (fun _ => 0))), (q_44_241, .inl (cy 1, 6, .inl (fun _ => 0))), (q_45_242, .inl (cy 1, 64, .inl (fun _ => 0))), (q_46_243, .inl (cy 1, 6, .inl (fun _ => 0))), (q_47_244, .inl (cy 1, 6, .inl (fun _ => 0)))]) [45, 0, 46, 1, 2, 3, 4, 5, 6, 7, 8, 9, 10, 11, 12, 13, 14, 15, 16, 17, 18, 19, 20, 21, 22, 23, 24, 25, 26, 27, 28, 29, 30, 31, 32, 33, 47, 34, 35, 36, 37, 38, 39, 40, 41, 42, 43, 44] (by decide +kernel) rfl
  obtain ⟨hP, hD⟩ := hj _ hP1 hD1
  refine W.widen (k := 246) (n := 10829) (Nat.le_of_ble_eq_true rfl) (Nat.le_of_ble_eq_true rfl) ?_
  refine lv_astore_n (lv' := [(2, .ref q_199), (1, .ref q_1), (0, .ref b)]) hx hb dL_law_15 rfl hl (by decide) rfl (fun ls hl => ?_)
  refine lv_iconst (v := 1) hx hb dL_law_16 (by decide) ?_
  refine m_newJ (N' := 1) hx hb (hg _ k_133) hG hP hD hS hA (by decide) (by decide) (Nat.le_of_ble_eq_true rfl) (Nat.le_of_ble_eq_true rfl) (Nat.le_of_ble_eq_true rfl) dL_law_17 (fun q_247 H hP hD hS => ?_)
  refine W.widen (k := 247) (n := 10830) (Nat.le_of_ble_eq_true rfl) (Nat.le_of_ble_eq_true rfl) ?_
  refine lv_astore_n (lv' := [(3, .ref q_247), (2, .ref q_199), (1, .ref q_1), (0, .ref b)]) hx hb dL_law_19 rfl hl (by decide) rfl (fun ls hl => ?_)
  refine lv_iconst (v := 0) hx hb dL_law_20 (by decide) ?_
  refine lv_istore (lv' := [(4, .int 0), (3, .ref q_247), (2, .ref q_199), (1, .ref q_1), (0, .ref b)]) hx hb dL_law_21 hl (by decide) rfl (fun ls hl => ?_)
  have hP := tw_P (tw_pm2 ..) hP
  have hD := tw_D (tw_pm2 ..) hD
  obtain ⟨g1_q1, rfl⟩ := g1
  obtain rfl := g2
  obtain ⟨g3_q1, g3_q2, g3_q3, g3_q4, g3_q5, g3_q6, g3_q7, g3_q8, g3_q9, g3_q10, g3_q11, g3_q12, g3_q13, g3_q18, g3_q19, g3_q20, g3_q114, g3_q215, g3_q316, g3_q417, rfl⟩ := g3
  obtain ⟨g4_q1, g4_q2, g4_q3, g4_q4, g4_q5, g4_q6, g4_q7, g4_q8, g4_q9, g4_q10, g4_q11, g4_q12, g4_q13, g4_q18, g4_q19, g4_q20, g4_q114, g4_q215, g4_q316, g4_q417, rfl⟩ := g4
  obtain ⟨g5_q1, g5_q2, g5_q3, rfl⟩ := g5
  obtain ⟨g6_q1, g6_q2, g6_q3, rfl⟩ := g6
  obtain ⟨g7_q1, g7_q2, g7_q3, rfl⟩ := g7
  obtain ⟨g8_q1, g8_q2, g8_q3, rfl⟩ := g8
  obtain ⟨g13_q1, g13_q2, rfl⟩ := g13
  obtain ⟨g14_q1, g14_q2, g14_q6, g14_q10, g14_q14, g14_q13, g14_q24, g14_q35, g14_q17, g14_q28, g14_q39, g14_q111, g14_q212, g14_q313, g14_q115, g14_q216, g14_q317, rfl⟩ := g14
  obtain ⟨g15_q1, g15_q2, g15_q3, g15_q4, rfl⟩ := g15
  obtain ⟨g16_q1, g16_q2, rfl⟩ := g16
  obtain ⟨gs0_q1, gs0_q2, gs0_q3, rfl⟩ := gs0
  obtain ⟨gs1_q1, gs1_q2, gs1_q3, rfl⟩ := gs1
  obtain ⟨gs2_q1, gs2_q2, gs2_q3, rfl⟩ := gs2
  obtain ⟨gs3_q1, gs3_q2, gs3_q3, rfl⟩ := gs3
  obtain ⟨gs4_q1, gs4_q2, gs4_q3, rfl⟩ := gs4
  obtain ⟨gs5_q1, gs5_q2, gs5_q3, rfl⟩ := gs5
  obtain ⟨gs6_q1, gs6_q2, gs6_q3, rfl⟩ := gs6
  obtain ⟨gs7_q1, gs7_q2, gs7_q3, rfl⟩ := gs7
  obtain ⟨gs8_q1, gs8_q2, gs8_q3, rfl⟩ := gs8
  obtain ⟨gs9_q1, gs9_q2, gs9_q3, rfl⟩ := gs9
  obtain ⟨gs10_q1, gs10_q2, gs10_q3, rfl⟩ := gs10
  obtain ⟨gs11_q1, gs11_q2, gs11_q3, rfl⟩ := gs11
  obtain ⟨gs12_q1, gs12_q2, gs12_q3, rfl⟩ := gs12
  obtain ⟨gs13_q1, gs13_q2, gs13_q3, rfl⟩ := gs13
  obtain ⟨gs14_q1, gs14_q2, gs14_q3, rfl⟩ := gs14
  obtain ⟨gs15_q1, gs15_q2, gs15_q3, rfl⟩ := gs15
  obtain ⟨gk0_q1, gk0_q5, gk0_q9, gk0_q12, gk0_q23, gk0_q34, gk0_q16, gk0_q27, gk0_q38, rfl⟩ := gk0
  obtain ⟨gk1_q1, gk1_q5, gk1_q9, gk1_q12, gk1_q23, gk1_q34, gk1_q16, gk1_q27, gk1_q38, rfl⟩ := gk1
  obtain ⟨gk2_q1, gk2_q5, gk2_q9, gk2_q12, gk2_q23, gk2_q34, gk2_q16, gk2_q27, gk2_q38, rfl⟩ := gk2
  obtain ⟨gk3_q1, gk3_q5, gk3_q9, gk3_q12, gk3_q23, gk3_q34, gk3_q16, gk3_q27, gk3_q38, rfl⟩ := gk3
  exact law_go l hlt hL C0 hG hAd hZ q_1 q1 g1_q1 q2 q3 g3_q1 g3_q2 g3_q3 g3_q4 g3_q5 g3_q6 g3_q7 g3_q8 g3_q9 g3_q10 g3_q11 g3_q12 g3_q13 g3_q114 g3_q215 g3_q316 g3_q417 g3_q18 g3_q19 g3_q20 q4 g4_q1 g4_q2 g4_q3 g4_q4 g4_q5 g4_q6 g4_q7 g4_q8 g4_q9 g4_q10 g4_q11 g4_q12 g4_q13 g4_q114 g4_q215 g4_q316 g4_q417 g4_q18 g4_q19 g4_q20 q5 g5_q1 g5_q2 g5_q3 q6 g6_q1 g6_q2 g6_q3 q7 g7_q1 g7_q2 g7_q3 q8 g8_q1 g8_q2 g8_q3 q9 s0 gs0_q1 gs0_q2 gs0_q3 s1 gs1_q1 gs1_q2 gs1_q3 s2 gs2_q1 gs2_q2 gs2_q3 s3 gs3_q1 gs3_q2 gs3_q3 s4 gs4_q1 gs4_q2 gs4_q3 s5 gs5_q1 gs5_q2 gs5_q3 s6 gs6_q1 gs6_q2 gs6_q3 s7 gs7_q1 gs7_q2 gs7_q3 s8 gs8_q1 gs8_q2 gs8_q3 s9 gs9_q1 gs9_q2 gs9_q3 s10 gs10_q1 gs10_q2 gs10_q3 s11 gs11_q1 gs11_q2 gs11_q3 s12 gs12_q1 gs12_q2 gs12_q3 s13 gs13_q1 gs13_q2 gs13_q3 s14 gs14_q1 gs14_q2 gs14_q3 s15 gs15_q1 gs15_q2 gs15_q3 q12 k0 gk0_q1 gk0_q12 gk0_q23 gk0_q34 gk0_q5 gk0_q16 gk0_q27 gk0_q38 gk0_q9 k1 gk1_q1 gk1_q12 gk1_q23 gk1_q34 gk1_q5 gk1_q16 gk1_q27 gk1_q38 gk1_q9 k2 gk2_q1 gk2_q12 gk2_q23 gk2_q34 gk2_q5 gk2_q16 gk2_q27 gk2_q38 gk2_q9 k3 gk3_q1 gk3_q12 gk3_q23 gk3_q34 gk3_q5 gk3_q16 gk3_q27 gk3_q38 gk3_q9 q13 g13_q1 g13_q2 q14 g14_q1 g14_q2 g14_q13 g14_q24 g14_q35 g14_q6 g14_q17 g14_q28 g14_q39 g14_q10 g14_q111 g14_q212 g14_q313 g14_q14 g14_q115 g14_q216 g14_q317 q15 g15_q1 g15_q2 g15_q3 g15_q4 q16 g16_q1 g16_q2 q17 q_199 q_1_200 q_2_245 q_3_201 q_4_202 q_5_203 q_6_204 q_7_205 q_8_206 q_9_207 q_10_208 q_11_209 q_12_210 q_13_211 q_14_212 q_15_213 q_16_214 q_17_215 q_18_216 q_19_217 q_20_218 q_21_219 q_22_220 q_23_221 q_24_222 q_25_223 q_26_224 q_27_225 q_28_226 q_29_227 q_30_228 q_31_229 q_32_230 q_33_231 q_34_232 q_35_233 q_36_246 q_37_234 q_38_235 q_39_236 q_40_237 q_41_238 q_42_239 q_43_240 q_44_241 q_45_242 q_46_243 q_47_244 q_247 hP hD hS (lv_sub hl [4, 3, 2, 1, 0] rfl)
