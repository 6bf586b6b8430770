abbrev ttB (D : va_G) (cy : Nat → ClassId) (h0 : Nat) (A : Nat → Prop) (h : Heap) : Prop := ∃ (q1 q2 q3 q4 q5 q6 q7 q8 q9 q12 q13 q14 q15 q16 q17 s0 s1 s2 s3 s4 s5 s6 s7 s8 s9 s10 s11 s12 s13 s14 s15 k0 k1 k2 k3 : Nat) (w1 w2 w3 w4 w5 w6 w7 w8 w13 w14 w15 w16 ws0 ws1 ws2 ws3 ws4 ws5 ws6 ws7 ws8 ws9 ws10 ws11 ws12 ws13 ws14 ws15 wk0 wk1 wk2 wk3 : va_W), gp_X9_init cy q1 w1 ∧ gp_X1_init cy q2 w2 ∧ gp_X0_init cy q3 w3 ∧ gp_X0_init cy q4 w4 ∧ gp_X10_init cy q5 w5 ∧ gp_X10_init cy q6 w6 ∧ gp_X8_init cy q7 w7 ∧ gp_X8_init cy q8 w8 ∧ gp_X2_init cy q13 w13 ∧ gp_X7_init cy q14 w14 ∧ gp_X6_init cy q15 w15 ∧ gp_X5_init cy q16 w16 ∧ gp_X8_init cy s0 ws0 ∧ gp_X8_init cy s1 ws1 ∧ gp_X8_init cy s2 ws2 ∧ gp_X8_init cy s3 ws3 ∧ gp_X8_init cy s4 ws4 ∧ gp_X8_init cy s5 ws5 ∧ gp_X8_init cy s6 ws6 ∧ gp_X8_init cy s7 ws7 ∧ gp_X8_init cy s8 ws8 ∧ gp_X8_init cy s9 ws9 ∧ gp_X8_init cy s10 ws10 ∧ gp_X8_init cy s11 ws11 ∧ gp_X8_init cy s12 ws12 ∧ gp_X8_init cy s13 ws13 ∧ gp_X8_init cy s14 ws14 ∧ gp_X8_init cy s15 ws15 ∧ gp_X4_init cy k0 wk0 ∧ gp_X4_init cy k1 wk1 ∧ gp_X4_init cy k2 wk2 ∧ gp_X4_init cy k3 wk3 ∧ va_P D vwCl ((h0, .inr (11, [.ref q1, .ref q2, .ref q3, .ref q4, .ref q5, .ref q6, .ref q7, .ref q8, .ref q9, .int 0, .int 0, .ref q12, .ref q13, .ref q14, .ref q15, .ref q16, .ref q17])) :: (q9, .inl (cy 5, 16, .inr (.inr (.inr (.inr (va_up (va_up (va_up (va_up (va_up (va_up (va_up (va_up (va_up (va_up (va_up (va_up (va_up (va_up (va_up (va_up (fun _ => none) 0 (some s0)) 1 (some s1)) 2 (some s2)) 3 (some s3)) 4 (some s4)) 5 (some s5)) 6 (some s6)) 7 (some s7)) 8 (some s8)) 9 (some s9)) 10 (some s10)) 11 (some s11)) 12 (some s12)) 13 (some s13)) 14 (some s14)) 15 (some s15))))))) :: (q12, .inl (cy 4, 4, .inr (.inr (.inr (.inr (va_up (va_up (va_up (va_up (fun _ => none) 0 (some k0)) 1 (some k1)) 2 (some k2)) 3 (some k3))))))) :: (((w1 ++ (w2 ++ (w3 ++ (w4 ++ (w5 ++ (w6 ++ (w7 ++ w8))))))) ++ (w13 ++ (w14 ++ (w15 ++ (w16 ++ [(q17, .inl (cy 1, 25, .inl (fun _ => 0)))]))))) ++ ((ws0 ++ (ws1 ++ (ws2 ++ (ws3 ++ (ws4 ++ (ws5 ++ (ws6 ++ (ws7 ++ (ws8 ++ (ws9 ++ (ws10 ++ (ws11 ++ (ws12 ++ (ws13 ++ (ws14 ++ ws15))))))))))))))) ++ (wk0 ++ (wk1 ++ (wk2 ++ wk3)))))) h ∧ va_D A ((h0, .inr (11, [.ref q1, .ref q2, .ref q3, .ref q4, .ref q5, .ref q6, .ref q7, .ref q8, .ref q9, .int 0, .int 0, .ref q12, .ref q13, .ref q14, .ref q15, .ref q16, .ref q17])) :: (q9, .inl (cy 5, 16, .inr (.inr (.inr (.inr (va_up (va_up (va_up (va_up (va_up (va_up (va_up (va_up (va_up (va_up (va_up (va_up (va_up (va_up (va_up (va_up (fun _ => none) 0 (some s0)) 1 (some s1)) 2 (some s2)) 3 (some s3)) 4 (some s4)) 5 (some s5)) 6 (some s6)) 7 (some s7)) 8 (some s8)) 9 (some s9)) 10 (some s10)) 11 (some s11)) 12 (some s12)) 13 (some s13)) 14 (some s14)) 15 (some s15))))))) :: (q12, .inl (cy 4, 4, .inr (.inr (.inr (.inr (va_up (va_up (va_up (va_up (fun _ => none) 0 (some k0)) 1 (some k1)) 2 (some k2)) 3 (some k3))))))) :: (((w1 ++ (w2 ++ (w3 ++ (w4 ++ (w5 ++ (w6 ++ (w7 ++ w8))))))) ++ (w13 ++ (w14 ++ (w15 ++ (w16 ++ [(q17, .inl (cy 1, 25, .inl (fun _ => 0)))]))))) ++ ((ws0 ++ (ws1 ++ (ws2 ++ (ws3 ++ (ws4 ++ (ws5 ++ (ws6 ++ (ws7 ++ (ws8 ++ (ws9 ++ (ws10 ++ (ws11 ++ (ws12 ++ (ws13 ++ (ws14 ++ ws15))))))))))))))) ++ (wk0 ++ (wk1 ++ (wk2 ++ wk3))))))
set_option maxHeartbeats 4000000 in
set_option maxRecDepth 100000 in
theorem c_X11_init_1 (l : Launch) (D : va_G) (cy : Nat → ClassId) (h0 : Nat) (sz : Nat) : Met l yX11_init (Cond.code yX11_init cX11_init 2 none :: bigG) ({ frames := 3, cells := 197, slots := 5858, locals := 61 }) (pre D cy [.ref h0] sz [(h0, .inr (11, [.null, .null, .null, .null, .null, .null, .null, .null, .null, .int 0, .int 0, .null, .null, .null, .null, .null, .null]))]) (qv (fun h => ttB D cy h0 (va_A [(h0, .inr (11, [.null, .null, .null, .null, .null, .null, .null, .null, .null, .int 0, .int 0, .null, .null, .null, .null, .null, .null]))] sz) h) (va_A [(h0, .inr (11, [.null, .null, .null, .null, .null, .null, .null, .null, .null, .int 0, .int 0, .null, .null, .null, .null, .null, .null]))] sz)) 197 5858 (va_A [(h0, .inr (11, [.null, .null, .null, .null, .null, .null, .null, .null, .null, .int 0, .int 0, .null, .null, .null, .null, .null, .null]))] sz) := by
  refine Met.ofW (cc := cX11_init) (maxL := 2) (ret := none) (by decide) rfl ?_
  intro p e s m args below meth c s₁ B hml hv
  obtain ⟨rfl, hsz, hP, hG, hD0⟩ := hv
  have hx := B.exec
  have hb := B.bytes
  have hr := B.returns
  have hts := atoms_spec (ws := (Cond.code yX11_init cX11_init 2 none :: bigG)) B.pre
  have hg : ∀ w ∈ bigG, w.before ([.ref h0] : List Value).toArray s = true := fun w h => hts w (List.mem_cons_of_mem _ h)
  have hown : s.vm.findClass RX11 = some m.cls := findClass_of_methodNamed B.named
  have hlocks := B.notSynchronized
  have hin : meth.name = "<init>" := (name_of_methodNamed B.named B.method).1
  subst hsz
  have hD := hD0.self (sz := s.heap.size)
  generalize hAe : va_A [(h0, .inr (11, [.null, .null, .null, .null, .null, .null, .null, .null, .null, .int 0, .int 0, .null, .null, .null, .null, .null, .null]))] s.heap.size = A at hD ⊢
  have hA : ∀ q : Nat, s.heap.size ≤ q → A q := fun q h => by rw [← hAe]; exact Or.inr h
  have hS : va_S A s.heap s.heap [] := va_S.rf
  have hP : va_P D vwCl [(h0, .inr (11, [.null, .null, .null, .null, .null, .null, .null, .null, .null, .int 0, .int 0, .null, .null, .null, .null, .null, .null]))] s.heap := hP
  have hl := lv_entry ([.ref h0]) (n := 2) (Nat.le_of_ble_eq_true rfl)
  rw [lg_entry_eq]
  generalize (lg_sl ([.ref h0]) ++ List.replicate (2 - (lg_sl ([.ref h0])).length) Slot.unset).toArray = ls at hl ⊢
  have hl : lv_has ls 2 [(0, .ref h0)] := hl
  refine w_nm (fun Q hQ => ?_)
  refine lv_aload_n hx hb dX11_init_0 rfl (lv_at hl 0 rfl) ?_
  refine W.objInit hx hb hown (hg _ k_32) (hg _ k_33) (hg _ kobj) rfl (by rw [hml]; exact hl.1) rfl dX11_init_1 (Nat.le_of_ble_eq_true rfl) (Nat.le_of_ble_eq_true rfl) ?_
  refine W.eq (g2 := F0 m 4 ls []) rfl ?_
  have X : TTX p s m meth c h0 D cy A := ⟨hx, hb, hml, hts, hown, hin, hG, hA⟩
  refine tt_s4 X (by decide) (by decide) hP hD hS hl (fun q1 w1 H locs g1 hP hD hS ls hl => ?_)
  refine tt_s15 X (by decide) (by decide) hP hD hS hl (fun q2 w2 H locs g2 hP hD hS ls hl => ?_)
  refine tt_s26 X (by decide) (by decide) hP hD hS hl (fun q3 w3 H locs g3 hP hD hS ls hl => ?_)
  refine tt_s37 X (by decide) (by decide) hP hD hS hl (fun q4 w4 H locs g4 hP hD hS ls hl => ?_)
  refine tt_s48 X (by decide) (by decide) hP hD hS hl (fun q5 w5 H locs g5 hP hD hS ls hl => ?_)
  refine tt_s59 X (by decide) (by decide) hP hD hS hl (fun q6 w6 H locs g6 hP hD hS ls hl => ?_)
  refine tt_s70 X (by decide) (by decide) hP hD hS hl (fun q7 w7 H locs g7 hP hD hS ls hl => ?_)
  refine tt_s81 X (by decide) (by decide) hP hD hS hl (fun q8 w8 H locs g8 hP hD hS ls hl => ?_)
  refine tt_s92 X (by decide) (by decide) hP hD hS hl (fun q9 H locs hP hD hS ls hl => ?_)
  refine tt_s101 X (by decide) (by decide) hP hD hS hl (fun  H locs hP hD hS ls hl => ?_)
  refine tt_s106 X (by decide) (by decide) hP hD hS hl (fun  H locs hP hD hS ls hl => ?_)
  refine tt_s111 X (by decide) (by decide) hP hD hS hl (fun q12 H locs hP hD hS ls hl => ?_)
  refine tt_s119 X (by decide) (by decide) hP hD hS hl (fun q13 w13 H locs g13 hP hD hS ls hl => ?_)
  refine tt_s130 X (by decide) (by decide) hP hD hS hl (fun q14 w14 H locs g14 hP hD hS ls hl => ?_)
  refine tt_s141 X (by decide) (by decide) hP hD hS hl (fun q15 w15 H locs g15 hP hD hS ls hl => ?_)
  refine tt_s152 X (by decide) (by decide) hP hD hS hl (fun q16 w16 H locs g16 hP hD hS ls hl => ?_)
  refine tt_s163 X (by decide) (by decide) hP hD hS hl (fun q17 H locs hP hD hS ls hl => ?_)
  have hP : va_P D vwCl ((h0, .inr (11, [.ref q1, .ref q2, .ref q3, .ref q4, .ref q5, .ref q6, .ref q7, .ref q8, .ref q9, .int 0, .int 0, .ref q12, .ref q13, .ref q14, .ref q15, .ref q16, .ref q17])) :: ((w1 ++ (w2 ++ (w3 ++ (w4 ++ (w5 ++ (w6 ++ (w7 ++ w8))))))) ++ (q9, .inl (cy 5, 16, .inr (.inr (.inr (.inr (fun _ => none)))))) :: (q12, .inl (cy 4, 4, .inr (.inr (.inr (.inr (fun _ => none)))))) :: (w13 ++ (w14 ++ (w15 ++ (w16 ++ [(q17, .inl (cy 1, 25, .inl (fun _ => 0)))])))))) H := by simpa only [List.nil_append, List.append_assoc, List.cons_append] using hP
  have hD : va_D A ((h0, .inr (11, [.ref q1, .ref q2, .ref q3, .ref q4, .ref q5, .ref q6, .ref q7, .ref q8, .ref q9, .int 0, .int 0, .ref q12, .ref q13, .ref q14, .ref q15, .ref q16, .ref q17])) :: ((w1 ++ (w2 ++ (w3 ++ (w4 ++ (w5 ++ (w6 ++ (w7 ++ w8))))))) ++ (q9, .inl (cy 5, 16, .inr (.inr (.inr (.inr (fun _ => none)))))) :: (q12, .inl (cy 4, 4, .inr (.inr (.inr (.inr (fun _ => none)))))) :: (w13 ++ (w14 ++ (w15 ++ (w16 ++ [(q17, .inl (cy 1, 25, .inl (fun _ => 0)))])))))) := by simpa only [List.nil_append, List.append_assoc, List.cons_append] using hD
  have hP := tw_P (tw_pm1 ..) hP
  have hD := tw_D (tw_pm1 ..) hD
  refine lv_iconst (v := 0) hx hb dX11_init_171 (by decide) ?_
  refine lv_istore_n (lv' := [(1, .int 0), (0, .ref h0)]) hx hb dX11_init_172 rfl hl (by decide) rfl (fun ls hl => ?_)
  refine tt_p0 X (by decide) (by decide) hP hD hS hl (fun s0 ws0 H locs gs0 hP hD hS ls hl => ?_)
  refine tt_p1 X (by decide) (by decide) hP hD hS hl (fun s1 ws1 H locs gs1 hP hD hS ls hl => ?_)
  refine tt_p2 X (by decide) (by decide) hP hD hS hl (fun s2 ws2 H locs gs2 hP hD hS ls hl => ?_)
  refine tt_p3 X (by decide) (by decide) hP hD hS hl (fun s3 ws3 H locs gs3 hP hD hS ls hl => ?_)
  refine tt_p4 X (by decide) (by decide) hP hD hS hl (fun s4 ws4 H locs gs4 hP hD hS ls hl => ?_)
  refine tt_p5 X (by decide) (by decide) hP hD hS hl (fun s5 ws5 H locs gs5 hP hD hS ls hl => ?_)
  refine tt_p6 X (by decide) (by decide) hP hD hS hl (fun s6 ws6 H locs gs6 hP hD hS ls hl => ?_)
  refine tt_p7 X (by decide) (by decide) hP hD hS hl (fun s7 ws7 H locs gs7 hP hD hS ls hl => ?_)
  refine tt_p8 X (by decide) (by decide) hP hD hS hl (fun s8 ws8 H locs gs8 hP hD hS ls hl => ?_)
  refine tt_p9 X (by decide) (by decide) hP hD hS hl (fun s9 ws9 H locs gs9 hP hD hS ls hl => ?_)
  refine tt_p10 X (by decide) (by decide) hP hD hS hl (fun s10 ws10 H locs gs10 hP hD hS ls hl => ?_)
  refine tt_p11 X (by decide) (by decide) hP hD hS hl (fun s11 ws11 H locs gs11 hP hD hS ls hl => ?_)
  refine tt_p12 X (by decide) (by decide) hP hD hS hl (fun s12 ws12 H locs gs12 hP hD hS ls hl => ?_)
  refine tt_p13 X (by decide) (by decide) hP hD hS hl (fun s13 ws13 H locs gs13 hP hD hS ls hl => ?_)
  refine tt_p14 X (by decide) (by decide) hP hD hS hl (fun s14 ws14 H locs gs14 hP hD hS ls hl => ?_)
  refine tt_p15 X (by decide) (by decide) hP hD hS hl (fun s15 ws15 H locs gs15 hP hD hS ls hl => ?_)
  have hP : va_P D vwCl ((h0, .inr (11, [.ref q1, .ref q2, .ref q3, .ref q4, .ref q5, .ref q6, .ref q7, .ref q8, .ref q9, .int 0, .int 0, .ref q12, .ref q13, .ref q14, .ref q15, .ref q16, .ref q17])) :: (q9, .inl (cy 5, 16, .inr (.inr (.inr (.inr (va_up (va_up (va_up (va_up (va_up (va_up (va_up (va_up (va_up (va_up (va_up (va_up (va_up (va_up (va_up (va_up (fun _ => none) 0 (some s0)) 1 (some s1)) 2 (some s2)) 3 (some s3)) 4 (some s4)) 5 (some s5)) 6 (some s6)) 7 (some s7)) 8 (some s8)) 9 (some s9)) 10 (some s10)) 11 (some s11)) 12 (some s12)) 13 (some s13)) 14 (some s14)) 15 (some s15))))))) :: (q12, .inl (cy 4, 4, .inr (.inr (.inr (.inr (fun _ => none)))))) :: (((w1 ++ (w2 ++ (w3 ++ (w4 ++ (w5 ++ (w6 ++ (w7 ++ w8))))))) ++ (w13 ++ (w14 ++ (w15 ++ (w16 ++ [(q17, .inl (cy 1, 25, .inl (fun _ => 0)))]))))) ++ (ws0 ++ (ws1 ++ (ws2 ++ (ws3 ++ (ws4 ++ (ws5 ++ (ws6 ++ (ws7 ++ (ws8 ++ (ws9 ++ (ws10 ++ (ws11 ++ (ws12 ++ (ws13 ++ (ws14 ++ ws15))))))))))))))))) H := by simpa only [List.nil_append, List.append_assoc, List.cons_append] using hP
  have hD : va_D A ((h0, .inr (11, [.ref q1, .ref q2, .ref q3, .ref q4, .ref q5, .ref q6, .ref q7, .ref q8, .ref q9, .int 0, .int 0, .ref q12, .ref q13, .ref q14, .ref q15, .ref q16, .ref q17])) :: (q9, .inl (cy 5, 16, .inr (.inr (.inr (.inr (va_up (va_up (va_up (va_up (va_up (va_up (va_up (va_up (va_up (va_up (va_up (va_up (va_up (va_up (va_up (va_up (fun _ => none) 0 (some s0)) 1 (some s1)) 2 (some s2)) 3 (some s3)) 4 (some s4)) 5 (some s5)) 6 (some s6)) 7 (some s7)) 8 (some s8)) 9 (some s9)) 10 (some s10)) 11 (some s11)) 12 (some s12)) 13 (some s13)) 14 (some s14)) 15 (some s15))))))) :: (q12, .inl (cy 4, 4, .inr (.inr (.inr (.inr (fun _ => none)))))) :: (((w1 ++ (w2 ++ (w3 ++ (w4 ++ (w5 ++ (w6 ++ (w7 ++ w8))))))) ++ (w13 ++ (w14 ++ (w15 ++ (w16 ++ [(q17, .inl (cy 1, 25, .inl (fun _ => 0)))]))))) ++ (ws0 ++ (ws1 ++ (ws2 ++ (ws3 ++ (ws4 ++ (ws5 ++ (ws6 ++ (ws7 ++ (ws8 ++ (ws9 ++ (ws10 ++ (ws11 ++ (ws12 ++ (ws13 ++ (ws14 ++ ws15))))))))))))))))) := by simpa only [List.nil_append, List.append_assoc, List.cons_append] using hD
  refine lv_iload_n hx hb dX11_init_173 rfl (lv_at hl 0 rfl) ?_
  refine lv_bipush (v := 16) hx hb dX11_init_174 (by decide) ?_
  refine lv_icmp_ge (tgt := 198) hx hb dX11_init_176 (by decide) (fun _ => ?_) (fun c_ => absurd (by decide) c_)
  refine lv_iconst (v := 0) hx hb dX11_init_198 (by decide) ?_
  refine lv_istore_n (lv' := [(1, .int 0), (0, .ref h0)]) hx hb dX11_init_199 rfl hl (by decide) rfl (fun ls hl => ?_)
  refine tt_m0 X (by decide) (by decide) hP hD hS hl (fun k0 wk0 H locs gk0 hP hD hS ls hl => ?_)
  refine tt_m1 X (by decide) (by decide) hP hD hS hl (fun k1 wk1 H locs gk1 hP hD hS ls hl => ?_)
  refine tt_m2 X (by decide) (by decide) hP hD hS hl (fun k2 wk2 H locs gk2 hP hD hS ls hl => ?_)
  refine tt_m3 X (by decide) (by decide) hP hD hS hl (fun k3 wk3 H locs gk3 hP hD hS ls hl => ?_)
  have hP : va_P D vwCl ((h0, .inr (11, [.ref q1, .ref q2, .ref q3, .ref q4, .ref q5, .ref q6, .ref q7, .ref q8, .ref q9, .int 0, .int 0, .ref q12, .ref q13, .ref q14, .ref q15, .ref q16, .ref q17])) :: (q9, .inl (cy 5, 16, .inr (.inr (.inr (.inr (va_up (va_up (va_up (va_up (va_up (va_up (va_up (va_up (va_up (va_up (va_up (va_up (va_up (va_up (va_up (va_up (fun _ => none) 0 (some s0)) 1 (some s1)) 2 (some s2)) 3 (some s3)) 4 (some s4)) 5 (some s5)) 6 (some s6)) 7 (some s7)) 8 (some s8)) 9 (some s9)) 10 (some s10)) 11 (some s11)) 12 (some s12)) 13 (some s13)) 14 (some s14)) 15 (some s15))))))) :: (q12, .inl (cy 4, 4, .inr (.inr (.inr (.inr (va_up (va_up (va_up (va_up (fun _ => none) 0 (some k0)) 1 (some k1)) 2 (some k2)) 3 (some k3))))))) :: (((w1 ++ (w2 ++ (w3 ++ (w4 ++ (w5 ++ (w6 ++ (w7 ++ w8))))))) ++ (w13 ++ (w14 ++ (w15 ++ (w16 ++ [(q17, .inl (cy 1, 25, .inl (fun _ => 0)))]))))) ++ ((ws0 ++ (ws1 ++ (ws2 ++ (ws3 ++ (ws4 ++ (ws5 ++ (ws6 ++ (ws7 ++ (ws8 ++ (ws9 ++ (ws10 ++ (ws11 ++ (ws12 ++ (ws13 ++ (ws14 ++ ws15))))))))))))))) ++ (wk0 ++ (wk1 ++ (wk2 ++ wk3)))))) H := by simpa only [List.nil_append, List.append_assoc, List.cons_append] using hP
  have hD : va_D A ((h0, .inr (11, [.ref q1, .ref q2, .ref q3, .ref q4, .ref q5, .ref q6, .ref q7, .ref q8, .ref q9, .int 0, .int 0, .ref q12, .ref q13, .ref q14, .ref q15, .ref q16, .ref q17])) :: (q9, .inl (cy 5, 16, .inr (.inr (.inr (.inr (va_up (va_up (va_up (va_up (va_up (va_up (va_up (va_up (va_up (va_up (va_up (va_up (va_up (va_up (va_up (va_up (fun _ => none) 0 (some s0)) 1 (some s1)) 2 (some s2)) 3 (some s3)) 4 (some s4)) 5 (some s5)) 6 (some s6)) 7 (some s7)) 8 (some s8)) 9 (some s9)) 10 (some s10)) 11 (some s11)) 12 (some s12)) 13 (some s13)) 14 (some s14)) 15 (some s15))))))) :: (q12, .inl (cy 4, 4, .inr (.inr (.inr (.inr (va_up (va_up (va_up (va_up (fun _ => none) 0 (some k0)) 1 (some k1)) 2 (some k2)) 3 (some k3))))))) :: (((w1 ++ (w2 ++ (w3 ++ (w4 ++ (w5 ++ (w6 ++ (w7 ++ w8))))))) ++ (w13 ++ (w14 ++ (w15 ++ (w16 ++ [(q17, .inl (cy 1, 25, .inl (fun _ => 0)))]))))) ++ ((ws0 ++ (ws1 ++ (ws2 ++ (ws3 ++ (ws4 ++ (ws5 ++ (ws6 ++ (ws7 ++ (ws8 ++ (ws9 ++ (ws10 ++ (ws11 ++ (ws12 ++ (ws13 ++ (ws14 ++ ws15))))))))))))))) ++ (wk0 ++ (wk1 ++ (wk2 ++ wk3)))))) := by simpa only [List.nil_append, List.append_assoc, List.cons_append] using hD
  refine lv_iload_n hx hb dX11_init_200 rfl (lv_at hl 0 rfl) ?_
  refine lv_iconst (v := 4) hx hb dX11_init_201 (by decide) ?_
  refine lv_icmp_ge (tgt := 224) hx hb dX11_init_202 (by decide) (fun _ => ?_) (fun c_ => absurd (by decide) c_)
  refine W.widen (k := 197) (n := 5858) (by decide) (by decide) ?_
  subst hQ
  exact W.vret hx hb hr (fun t ht hW => qv_mk (by rw [ht]; exact ⟨q1, q2, q3, q4, q5, q6, q7, q8, q9, q12, q13, q14, q15, q16, q17, s0, s1, s2, s3, s4, s5, s6, s7, s8, s9, s10, s11, s12, s13, s14, s15, k0, k1, k2, k3, w1, w2, w3, w4, w5, w6, w7, w8, w13, w14, w15, w16, ws0, ws1, ws2, ws3, ws4, ws5, ws6, ws7, ws8, ws9, ws10, ws11, ws12, ws13, ws14, ws15, wk0, wk1, wk2, wk3, g1, g2, g3, g4, g5, g6, g7, g8, g13, g14, g15, g16, gs0, gs1, gs2, gs3, gs4, gs5, gs6, gs7, gs8, gs9, gs10, gs11, gs12, gs13, gs14, gs15, gk0, gk1, gk2, gk3, hP, hD⟩) (hS.F ht)) hS.2.2 dX11_init_224
