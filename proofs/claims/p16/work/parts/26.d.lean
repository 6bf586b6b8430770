set_option maxHeartbeats 4000000 in
set_option maxRecDepth 100000 in
theorem whole_start {p : Program} {e : Env} {s : State} {m : MethodId} {below : List Frame} {meth : Method} {c : Code} (l : Launch) (hlt : l.stackTraces = false) {b L : Nat} {xs : Nat → Int32} (hL : L ≤ 3584) (C0 : lw_At p s m meth c b L xs) : W p l e room_1 s m #[Value.ref b] below meth c s.heap [] 0 0 (lw_Z below #[Value.ref b] s) (entryFrame m ([Value.ref b] : List Value).toArray 7) := by
  obtain ⟨hx, hb, hr, hml, hown, hts0, hX, hbl, hlocks, hgv⟩ := id C0
  have hts : ∀ w ∈ bigG, w.before #[Value.ref b] s = true := fun w h => hts0 w (bigG_in h)
  have hg := hts
  have hown : s.vm.findClass RL = some m.cls := hown
  obtain ⟨c0_, iS0_, hKn0_⟩ := u_known (C := RX0) (T := TX0) (N := 20) (n := 20) hts ibX0 (hts _ k_97)
  obtain ⟨c1_, iS1_, hKn1_⟩ := u_known (C := RX1) (T := TX1) (N := 3) (n := 3) hts ibX1 (hts _ k_81)
  obtain ⟨c2_, iS2_, hKn2_⟩ := u_known (C := RX2) (T := TX2) (N := 5) (n := 5) hts ibX2 (hts _ k_291)
  obtain ⟨c3_, iS3_, hKn3_⟩ := u_known (C := RX3) (T := TX3) (N := 8) (n := 8) hts ibX3 (hts _ k_103)
  obtain ⟨c4_, iS4_, hKn4_⟩ := u_known (C := RX4) (T := TX4) (N := 4) (n := 4) hts ibX4 (hts _ k_397)
  obtain ⟨c5_, iS5_, hKn5_⟩ := u_known (C := RX5) (T := TX5) (N := 3) (n := 3) hts ibX5 (hts _ k_380)
  obtain ⟨c6_, iS6_, hKn6_⟩ := u_known (C := RX6) (T := TX6) (N := 7) (n := 7) hts ibX6 (hts _ k_350)
  obtain ⟨c7_, iS7_, hKn7_⟩ := u_known (C := RX7) (T := TX7) (N := 6) (n := 6) hts ibX7 (hts _ k_321)
  obtain ⟨c8_, iS8_, hKn8_⟩ := u_known (C := RX8) (T := TX8) (N := 6) (n := 6) hts ibX8 (hts _ k_255)
  obtain ⟨c9_, iS9_, hKn9_⟩ := u_known (C := RX9) (T := TX9) (N := 9) (n := 9) hts ibX9 (hts _ k_36)
  obtain ⟨c10_, iS10_, hKn10_⟩ := u_known (C := RX10) (T := TX10) (N := 4) (n := 4) hts ibX10 (hts _ k_235)
  obtain ⟨c11_, iS11_, hKn11_⟩ := u_known (C := RX11) (T := TX11) (N := 17) (n := 17) hts ibX11 (hts _ k_28)
  obtain ⟨c12_, iS12_, hKn12_⟩ := u_known (C := RX12) (T := TX12) (N := 67) (n := 67) hts ibX12 (hts _ k_1306)
  obtain ⟨D, hKc⟩ : ∃ D : va_G, ∀ (k : Nat) (q : vw_C), vwCl[k]? = some q → u_Kn s q.1 q.2.1 q.2.2 (D.1 k) (D.2 k) := by
    refine ⟨(fun k => match k with | 0 => c0_ | 1 => c1_ | 2 => c2_ | 3 => c3_ | 4 => c4_ | 5 => c5_ | 6 => c6_ | 7 => c7_ | 8 => c8_ | 9 => c9_ | 10 => c10_ | 11 => c11_ | _ => c12_, fun k => match k with | 0 => iS0_ | 1 => iS1_ | 2 => iS2_ | 3 => iS3_ | 4 => iS4_ | 5 => iS5_ | 6 => iS6_ | 7 => iS7_ | 8 => iS8_ | 9 => iS9_ | 10 => iS10_ | 11 => iS11_ | _ => iS12_), ?_⟩
    intro k q hq
    match k, hq with
    | 0, hq => cases hq; exact hKn0_
    | 1, hq => cases hq; exact hKn1_
    | 2, hq => cases hq; exact hKn2_
    | 3, hq => cases hq; exact hKn3_
    | 4, hq => cases hq; exact hKn4_
    | 5, hq => cases hq; exact hKn5_
    | 6, hq => cases hq; exact hKn6_
    | 7, hq => cases hq; exact hKn7_
    | 8, hq => cases hq; exact hKn8_
    | 9, hq => cases hq; exact hKn9_
    | 10, hq => cases hq; exact hKn10_
    | 11, hq => cases hq; exact hKn11_
    | 12, hq => cases hq; exact hKn12_
    | k + 13, hq => simp [vwCl] at hq
  obtain ⟨cy, hG⟩ := gk_of (D := D) hts0 hKc
  obtain ⟨A, hAd⟩ : ∃ A : Nat → Prop, A = fun q => s.heap.size ≤ q := ⟨_, rfl⟩
  have hA : ∀ q : Nat, s.heap.size ≤ q → A q := fun q h => by rw [hAd]; exact h
  have hbA : ¬ A b := by rw [hAd]; exact Nat.not_le.mpr hbl
  have hAn : ∀ a : Nat, a < s.heap.size → ¬ A a := fun a h => by rw [hAd]; exact Nat.not_le.mpr h
  have hZ : zx A s := zx_of hts0 hgv hAn
  have hS : va_S A s.heap s.heap [] := va_S.rf
  have hP : va_P D vwCl [] s.heap := fun k q h => by simp at h
  have hD : va_D A [] := ⟨fun i j p q h => by simp at h, fun k q h => by simp at h⟩
  have hl := lv_entry ([.ref b]) (n := 7) (Nat.le_of_ble_eq_true rfl)
  rw [lg_entry_eq]
  generalize (lg_sl ([.ref b]) ++ List.replicate (7 - (lg_sl ([.ref b])).length) Slot.unset).toArray = ls at hl ⊢
  have hl : lv_has ls 7 [(0, .ref b)] := hl
  refine va_new (ci := 11) (fs := [.null, .null, .null, .null, .null, .null, .null, .null, .null, .int 0, .int 0, .null, .null, .null, .null, .null, .null]) (C := RX11) (T := TX11) (N := 17) hx hb hts ibX11 tyX11 tyX11_ok hown (hg _ k_27) (hg _ k_28) (hg _ k_1) hG.1 hP hD hS hA rfl dfX11 (Nat.le_of_ble_eq_true rfl) (Nat.le_of_ble_eq_true rfl) dL_law_0 (fun q_1 H hP hD hS => ?_)
  have hP : va_P D vwCl [(q_1, .inr (11, [.null, .null, .null, .null, .null, .null, .null, .null, .null, .int 0, .int 0, .null, .null, .null, .null, .null, .null]))] H := hP
  have hD : va_D A [(q_1, .inr (11, [.null, .null, .null, .null, .null, .null, .null, .null, .null, .int 0, .int 0, .null, .null, .null, .null, .null, .null]))] := hD
  refine W.widen (k := 1) (n := 17) (Nat.le_of_ble_eq_true rfl) (Nat.le_of_ble_eq_true rfl) ?_
  refine lv_dup hx hb dL_law_3 rfl ?_
  refine x_v (wr := []) hP hD hS hA [0] [] rfl rfl (by decide) (by decide) (va_runI (As := []) (rest := [.ref q_1]) ⟨hx, hb, hml, hown, hts⟩ (c_X11_init_1 l D cy q_1 H.size) (cwI 0 hts (gB0 kc_X11_init) rfl rfl rfl (hg _ kn_X11) (hg _ km_L_15) (hg _ ki_X11_init) rfl (by decide +kernel) ⟨(Nat.le_of_ble_eq_true rfl), (Nat.le_of_ble_eq_true rfl)⟩) (preS hG hP hD [0] rfl (by decide)) rfl rfl hl.1 rfl (lv_room (Nat.le_of_ble_eq_true rfl)) dL_law_4 ⟨(Nat.le_of_ble_eq_true rfl), (Nat.le_of_ble_eq_true rfl)⟩) (fun H locs hB hj hS => ?_)
  refine Exists.elim hB fun q1 hB => ?_
  refine Exists.elim hB fun q2 hB => ?_
  refine Exists.elim hB fun q3 hB => ?_
  refine Exists.elim hB fun q4 hB => ?_
  refine Exists.elim hB fun q5 hB => ?_
  refine Exists.elim hB fun q6 hB => ?_
  refine Exists.elim hB fun q7 hB => ?_
  refine Exists.elim hB fun q8 hB => ?_
  refine Exists.elim hB fun q9 hB => ?_
  refine Exists.elim hB fun q12 hB => ?_
  refine Exists.elim hB fun q13 hB => ?_
  refine Exists.elim hB fun q14 hB => ?_
  refine Exists.elim hB fun q15 hB => ?_
  refine Exists.elim hB fun q16 hB => ?_
  refine Exists.elim hB fun q17 hB => ?_
  refine Exists.elim hB fun s0 hB => ?_
  refine Exists.elim hB fun s1 hB => ?_
  refine Exists.elim hB fun s2 hB => ?_
  refine Exists.elim hB fun s3 hB => ?_
  refine Exists.elim hB fun s4 hB => ?_
  refine Exists.elim hB fun s5 hB => ?_
  refine Exists.elim hB fun s6 hB => ?_
  refine Exists.elim hB fun s7 hB => ?_
  refine Exists.elim hB fun s8 hB => ?_
  refine Exists.elim hB fun s9 hB => ?_
  refine Exists.elim hB fun s10 hB => ?_
  refine Exists.elim hB fun s11 hB => ?_
  refine Exists.elim hB fun s12 hB => ?_
  refine Exists.elim hB fun s13 hB => ?_
  refine Exists.elim hB fun s14 hB => ?_
  refine Exists.elim hB fun s15 hB => ?_
  refine Exists.elim hB fun k0 hB => ?_
  refine Exists.elim hB fun k1 hB => ?_
  refine Exists.elim hB fun k2 hB => ?_
  refine Exists.elim hB fun k3 hB => ?_
  refine Exists.elim hB fun w1 hB => ?_
  refine Exists.elim hB fun w2 hB => ?_
  refine Exists.elim hB fun w3 hB => ?_
  refine Exists.elim hB fun w4 hB => ?_
  refine Exists.elim hB fun w5 hB => ?_
  refine Exists.elim hB fun w6 hB => ?_
  refine Exists.elim hB fun w7 hB => ?_
  refine Exists.elim hB fun w8 hB => ?_
  refine Exists.elim hB fun w13 hB => ?_
  refine Exists.elim hB fun w14 hB => ?_
  refine Exists.elim hB fun w15 hB => ?_
  refine Exists.elim hB fun w16 hB => ?_
  refine Exists.elim hB fun ws0 hB => ?_
  refine Exists.elim hB fun ws1 hB => ?_
  refine Exists.elim hB fun ws2 hB => ?_
  refine Exists.elim hB fun ws3 hB => ?_
  refine Exists.elim hB fun ws4 hB => ?_
  refine Exists.elim hB fun ws5 hB => ?_
  refine Exists.elim hB fun ws6 hB => ?_
  refine Exists.elim hB fun ws7 hB => ?_
  refine Exists.elim hB fun ws8 hB => ?_
  refine Exists.elim hB fun ws9 hB => ?_
  refine Exists.elim hB fun ws10 hB => ?_
  refine Exists.elim hB fun ws11 hB => ?_
  refine Exists.elim hB fun ws12 hB => ?_
  refine Exists.elim hB fun ws13 hB => ?_
  refine Exists.elim hB fun ws14 hB => ?_
  refine Exists.elim hB fun ws15 hB => ?_
  refine Exists.elim hB fun wk0 hB => ?_
  refine Exists.elim hB fun wk1 hB => ?_
  refine Exists.elim hB fun wk2 hB => ?_
  refine Exists.elim hB fun wk3 hB => ?_
  obtain ⟨g1, hB⟩ := hB
  obtain ⟨g2, hB⟩ := hB
  obtain ⟨g3, hB⟩ := hB
  obtain ⟨g4, hB⟩ := hB
  obtain ⟨g5, hB⟩ := hB
  obtain ⟨g6, hB⟩ := hB
  obtain ⟨g7, hB⟩ := hB
  obtain ⟨g8, hB⟩ := hB
  obtain ⟨g13, hB⟩ := hB
  obtain ⟨g14, hB⟩ := hB
  obtain ⟨g15, hB⟩ := hB
  obtain ⟨g16, hB⟩ := hB
  obtain ⟨gs0, hB⟩ := hB
  obtain ⟨gs1, hB⟩ := hB
  obtain ⟨gs2, hB⟩ := hB
  obtain ⟨gs3, hB⟩ := hB
  obtain ⟨gs4, hB⟩ := hB
  obtain ⟨gs5, hB⟩ := hB
  obtain ⟨gs6, hB⟩ := hB
  obtain ⟨gs7, hB⟩ := hB
  obtain ⟨gs8, hB⟩ := hB
  obtain ⟨gs9, hB⟩ := hB
  obtain ⟨gs10, hB⟩ := hB
  obtain ⟨gs11, hB⟩ := hB
  obtain ⟨gs12, hB⟩ := hB
  obtain ⟨gs13, hB⟩ := hB
  obtain ⟨gs14, hB⟩ := hB
  obtain ⟨gs15, hB⟩ := hB
  obtain ⟨gk0, hB⟩ := hB
  obtain ⟨gk1, hB⟩ := hB
  obtain ⟨gk2, hB⟩ := hB
  obtain ⟨gk3, hB⟩ := hB
  obtain ⟨hP1, hD1⟩ := hB
  obtain ⟨hP, hD⟩ := hj _ hP1 hD1
  have hP : va_P D vwCl ((q_1, .inr (11, [.ref q1, .ref q2, .ref q3, .ref q4, .ref q5, .ref q6, .ref q7, .ref q8, .ref q9, .int 0, .int 0, .ref q12, .ref q13, .ref q14, .ref q15, .ref q16, .ref q17])) :: (q9, .inl (cy 5, 16, .inr (.inr (.inr (.inr (va_up (va_up (va_up (va_up (va_up (va_up (va_up (va_up (va_up (va_up (va_up (va_up (va_up (va_up (va_up (va_up (fun _ => none) 0 (some s0)) 1 (some s1)) 2 (some s2)) 3 (some s3)) 4 (some s4)) 5 (some s5)) 6 (some s6)) 7 (some s7)) 8 (some s8)) 9 (some s9)) 10 (some s10)) 11 (some s11)) 12 (some s12)) 13 (some s13)) 14 (some s14)) 15 (some s15))))))) :: (q12, .inl (cy 4, 4, .inr (.inr (.inr (.inr (va_up (va_up (va_up (va_up (fun _ => none) 0 (some k0)) 1 (some k1)) 2 (some k2)) 3 (some k3))))))) :: (((w1 ++ (w2 ++ (w3 ++ (w4 ++ (w5 ++ (w6 ++ (w7 ++ w8))))))) ++ (w13 ++ (w14 ++ (w15 ++ (w16 ++ [(q17, .inl (cy 1, 25, .inl (fun _ => 0)))]))))) ++ ((ws0 ++ (ws1 ++ (ws2 ++ (ws3 ++ (ws4 ++ (ws5 ++ (ws6 ++ (ws7 ++ (ws8 ++ (ws9 ++ (ws10 ++ (ws11 ++ (ws12 ++ (ws13 ++ (ws14 ++ ws15))))))))))))))) ++ (wk0 ++ (wk1 ++ (wk2 ++ wk3)))))) H := hP
  have hD : va_D A ((q_1, .inr (11, [.ref q1, .ref q2, .ref q3, .ref q4, .ref q5, .ref q6, .ref q7, .ref q8, .ref q9, .int 0, .int 0, .ref q12, .ref q13, .ref q14, .ref q15, .ref q16, .ref q17])) :: (q9, .inl (cy 5, 16, .inr (.inr (.inr (.inr (va_up (va_up (va_up (va_up (va_up (va_up (va_up (va_up (va_up (va_up (va_up (va_up (va_up (va_up (va_up (va_up (fun _ => none) 0 (some s0)) 1 (some s1)) 2 (some s2)) 3 (some s3)) 4 (some s4)) 5 (some s5)) 6 (some s6)) 7 (some s7)) 8 (some s8)) 9 (some s9)) 10 (some s10)) 11 (some s11)) 12 (some s12)) 13 (some s13)) 14 (some s14)) 15 (some s15))))))) :: (q12, .inl (cy 4, 4, .inr (.inr (.inr (.inr (va_up (va_up (va_up (va_up (fun _ => none) 0 (some k0)) 1 (some k1)) 2 (some k2)) 3 (some k3))))))) :: (((w1 ++ (w2 ++ (w3 ++ (w4 ++ (w5 ++ (w6 ++ (w7 ++ w8))))))) ++ (w13 ++ (w14 ++ (w15 ++ (w16 ++ [(q17, .inl (cy 1, 25, .inl (fun _ => 0)))]))))) ++ ((ws0 ++ (ws1 ++ (ws2 ++ (ws3 ++ (ws4 ++ (ws5 ++ (ws6 ++ (ws7 ++ (ws8 ++ (ws9 ++ (ws10 ++ (ws11 ++ (ws12 ++ (ws13 ++ (ws14 ++ ws15))))))))))))))) ++ (wk0 ++ (wk1 ++ (wk2 ++ wk3)))))) := hD
  clear hP1 hD1 hj
  refine W.widen (k := 198) (n := 5875) (Nat.le_of_ble_eq_true rfl) (Nat.le_of_ble_eq_true rfl) ?_
  refine lv_astore_n (lv' := [(1, .ref q_1), (0, .ref b)]) hx hb dL_law_7 rfl hl (by decide) rfl (fun ls hl => ?_)
  refine st_mid l hx hb hml hown hts hG hA hP hD hS hl (fun q_199 q_1_200 q_2_245 q_3_201 q_4_202 q_5_203 q_6_204 q_7_205 q_8_206 q_9_207 q_10_208 q_11_209 q_12_210 q_13_211 q_14_212 q_15_213 q_16_214 q_17_215 q_18_216 q_19_217 q_20_218 q_21_219 q_22_220 q_23_221 q_24_222 q_25_223 q_26_224 q_27_225 q_28_226 q_29_227 q_30_228 q_31_229 q_32_230 q_33_231 q_34_232 q_35_233 q_36_246 q_37_234 q_38_235 q_39_236 q_40_237 q_41_238 q_42_239 q_43_240 q_44_241 q_45_242 q_46_243 q_47_244 q_247 H locs hP hD hS ls hl => ?_)
  exact st_end l hlt hL C0 hG hAd hZ g1 g2 g3 g4 g5 g6 g7 g8 g13 g14 g15 g16 gs0 gs1 gs2 gs3 gs4 gs5 gs6 gs7 gs8 gs9 gs10 gs11 gs12 gs13 gs14 gs15 gk0 gk1 gk2 gk3 (tw_P (tw_pm2 ..) hP) (tw_D (tw_pm2 ..) hD) hS hl
