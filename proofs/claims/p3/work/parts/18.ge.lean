/-! the reference's reader: the fault as a symbol -/
set_option maxHeartbeats 4000000 in
set_option maxRecDepth 100000 in
theorem ok_X12_readsAll_G_of (l : Launch) (hR : ConOK MT l cn_X12_readsAll_W) : ConOK MT l (conG 0 9 41 1 (ca 1 1000 11) cn_X12_readsAll_W) := by
  refine con_G (y := yX12_readsAll) (cc := cX12_readsAll) (nL := 2) 0 12 9 41 1 (ca 1 1000 11) rfl (by decide) rfl rfl (by decide +kernel) (by decide) hR (fun D cy ω ad σ φ av ws hpre => ?_)
  obtain ⟨⟨hB, hF, hC, hW⟩, hAv, hω, hxp⟩ := hpre
  obtain ⟨e0, w0, g0⟩ := hW.2 0 _ rfl
  obtain ⟨vs0, rfl, g0⟩ := g0
  obtain ⟨y0_0, vs0, rfl, d0_0, g0⟩ := P2.cons_inv g0
  obtain ⟨y0_1, vs0, rfl, d0_1, g0⟩ := P2.cons_inv g0
  obtain ⟨y0_2, vs0, rfl, d0_2, g0⟩ := P2.cons_inv g0
  obtain ⟨y0_3, vs0, rfl, d0_3, g0⟩ := P2.cons_inv g0
  obtain ⟨y0_4, vs0, rfl, d0_4, g0⟩ := P2.cons_inv g0
  obtain ⟨y0_5, vs0, rfl, d0_5, g0⟩ := P2.cons_inv g0
  obtain ⟨y0_6, vs0, rfl, d0_6, g0⟩ := P2.cons_inv g0
  obtain ⟨y0_7, vs0, rfl, d0_7, g0⟩ := P2.cons_inv g0
  obtain ⟨y0_8, vs0, rfl, d0_8, g0⟩ := P2.cons_inv g0
  obtain ⟨y0_9, vs0, rfl, d0_9, g0⟩ := P2.cons_inv g0
  obtain ⟨y0_10, vs0, rfl, d0_10, g0⟩ := P2.cons_inv g0
  obtain ⟨y0_11, vs0, rfl, d0_11, g0⟩ := P2.cons_inv g0
  obtain ⟨y0_12, vs0, rfl, d0_12, g0⟩ := P2.cons_inv g0
  obtain ⟨y0_13, vs0, rfl, d0_13, g0⟩ := P2.cons_inv g0
  obtain ⟨y0_14, vs0, rfl, d0_14, g0⟩ := P2.cons_inv g0
  obtain ⟨y0_15, vs0, rfl, d0_15, g0⟩ := P2.cons_inv g0
  obtain ⟨y0_16, vs0, rfl, d0_16, g0⟩ := P2.cons_inv g0
  obtain ⟨y0_17, vs0, rfl, d0_17, g0⟩ := P2.cons_inv g0
  obtain ⟨y0_18, vs0, rfl, d0_18, g0⟩ := P2.cons_inv g0
  obtain ⟨y0_19, vs0, rfl, d0_19, g0⟩ := P2.cons_inv g0
  obtain ⟨y0_20, vs0, rfl, d0_20, g0⟩ := P2.cons_inv g0
  obtain ⟨y0_21, vs0, rfl, d0_21, g0⟩ := P2.cons_inv g0
  obtain ⟨y0_22, vs0, rfl, d0_22, g0⟩ := P2.cons_inv g0
  obtain ⟨y0_23, vs0, rfl, d0_23, g0⟩ := P2.cons_inv g0
  obtain ⟨y0_24, vs0, rfl, d0_24, g0⟩ := P2.cons_inv g0
  obtain ⟨y0_25, vs0, rfl, d0_25, g0⟩ := P2.cons_inv g0
  obtain ⟨y0_26, vs0, rfl, d0_26, g0⟩ := P2.cons_inv g0
  obtain ⟨y0_27, vs0, rfl, d0_27, g0⟩ := P2.cons_inv g0
  obtain ⟨y0_28, vs0, rfl, d0_28, g0⟩ := P2.cons_inv g0
  obtain ⟨y0_29, vs0, rfl, d0_29, g0⟩ := P2.cons_inv g0
  obtain ⟨y0_30, vs0, rfl, d0_30, g0⟩ := P2.cons_inv g0
  obtain ⟨y0_31, vs0, rfl, d0_31, g0⟩ := P2.cons_inv g0
  obtain ⟨y0_32, vs0, rfl, d0_32, g0⟩ := P2.cons_inv g0
  obtain ⟨y0_33, vs0, rfl, d0_33, g0⟩ := P2.cons_inv g0
  obtain ⟨y0_34, vs0, rfl, d0_34, g0⟩ := P2.cons_inv g0
  obtain ⟨y0_35, vs0, rfl, d0_35, g0⟩ := P2.cons_inv g0
  obtain ⟨y0_36, vs0, rfl, d0_36, g0⟩ := P2.cons_inv g0
  obtain ⟨y0_37, vs0, rfl, d0_37, g0⟩ := P2.cons_inv g0
  obtain ⟨y0_38, vs0, rfl, d0_38, g0⟩ := P2.cons_inv g0
  obtain ⟨y0_39, vs0, rfl, d0_39, g0⟩ := P2.cons_inv g0
  obtain ⟨y0_40, vs0, rfl, d0_40, g0⟩ := P2.cons_inv g0
  obtain ⟨y0_41, vs0, rfl, d0_41, g0⟩ := P2.cons_inv g0
  obtain ⟨y0_42, vs0, rfl, d0_42, g0⟩ := P2.cons_inv g0
  obtain ⟨y0_43, vs0, rfl, d0_43, g0⟩ := P2.cons_inv g0
  obtain ⟨y0_44, vs0, rfl, d0_44, g0⟩ := P2.cons_inv g0
  obtain ⟨y0_45, vs0, rfl, d0_45, g0⟩ := P2.cons_inv g0
  obtain ⟨y0_46, vs0, rfl, d0_46, g0⟩ := P2.cons_inv g0
  obtain ⟨y0_47, vs0, rfl, d0_47, g0⟩ := P2.cons_inv g0
  obtain ⟨y0_48, vs0, rfl, d0_48, g0⟩ := P2.cons_inv g0
  obtain ⟨y0_49, vs0, rfl, d0_49, g0⟩ := P2.cons_inv g0
  obtain ⟨y0_50, vs0, rfl, d0_50, g0⟩ := P2.cons_inv g0
  obtain ⟨y0_51, vs0, rfl, d0_51, g0⟩ := P2.cons_inv g0
  obtain ⟨y0_52, vs0, rfl, d0_52, g0⟩ := P2.cons_inv g0
  obtain ⟨y0_53, vs0, rfl, d0_53, g0⟩ := P2.cons_inv g0
  obtain ⟨y0_54, vs0, rfl, d0_54, g0⟩ := P2.cons_inv g0
  obtain ⟨y0_55, vs0, rfl, d0_55, g0⟩ := P2.cons_inv g0
  obtain ⟨y0_56, vs0, rfl, d0_56, g0⟩ := P2.cons_inv g0
  obtain ⟨y0_57, vs0, rfl, d0_57, g0⟩ := P2.cons_inv g0
  obtain ⟨y0_58, vs0, rfl, d0_58, g0⟩ := P2.cons_inv g0
  obtain ⟨y0_59, vs0, rfl, d0_59, g0⟩ := P2.cons_inv g0
  obtain ⟨y0_60, vs0, rfl, d0_60, g0⟩ := P2.cons_inv g0
  obtain ⟨y0_61, vs0, rfl, d0_61, g0⟩ := P2.cons_inv g0
  obtain ⟨y0_62, vs0, rfl, d0_62, g0⟩ := P2.cons_inv g0
  obtain ⟨y0_63, vs0, rfl, d0_63, g0⟩ := P2.cons_inv g0
  obtain ⟨y0_64, vs0, rfl, d0_64, g0⟩ := P2.cons_inv g0
  obtain ⟨y0_65, vs0, rfl, d0_65, g0⟩ := P2.cons_inv g0
  obtain ⟨y0_66, vs0, rfl, d0_66, g0⟩ := P2.cons_inv g0
  cases P2.nil_inv g0
  obtain ⟨z0_1, q0_1, b0_1⟩ := d0_1
  subst q0_1
  obtain ⟨n0_1, hn0_1, hb0_1, hs0_1⟩ := fld_n hB (show _ = some ((0 : Int), (1000 : Int)) from rfl) b0_1 (by decide)
  subst hn0_1
  have d0_2' : y0_2 = .ref (ad 1) := d0_2
  subst d0_2'
  obtain ⟨z0_3, q0_3, b0_3⟩ := d0_3
  subst q0_3
  obtain ⟨z0_4, q0_4, b0_4⟩ := d0_4
  subst q0_4
  obtain ⟨z0_5, q0_5, b0_5⟩ := d0_5
  subst q0_5
  obtain ⟨z0_6, q0_6, b0_6⟩ := d0_6
  subst q0_6
  obtain ⟨z0_7, q0_7, b0_7⟩ := d0_7
  subst q0_7
  obtain ⟨z0_8, q0_8, b0_8⟩ := d0_8
  subst q0_8
  obtain ⟨z0_9, q0_9, b0_9⟩ := d0_9
  subst q0_9
  have d0_10' : y0_10 = .ref (ad 2) := d0_10
  subst d0_10'
  have d0_11' : y0_11 = .ref (ad 3) := d0_11
  subst d0_11'
  have d0_12' : y0_12 = .ref (ad 4) := d0_12
  subst d0_12'
  have d0_13' : y0_13 = .ref (ad 5) := d0_13
  subst d0_13'
  have d0_14' : y0_14 = .ref (ad 6) := d0_14
  subst d0_14'
  have d0_15' : y0_15 = .ref (ad 7) := d0_15
  subst d0_15'
  have d0_16' : y0_16 = .ref (ad 8) := d0_16
  subst d0_16'
  have d0_17' : y0_17 = .ref (ad 9) := d0_17
  subst d0_17'
  have d0_18' : y0_18 = .ref (ad 10) := d0_18
  subst d0_18'
  have d0_19' : y0_19 = .ref (ad 11) := d0_19
  subst d0_19'
  have d0_20' : y0_20 = .ref (ad 12) := d0_20
  subst d0_20'
  have d0_21' : y0_21 = .ref (ad 13) := d0_21
  subst d0_21'
  have d0_22' : y0_22 = .ref (ad 14) := d0_22
  subst d0_22'
  have d0_23' : y0_23 = .ref (ad 15) := d0_23
  subst d0_23'
  have d0_24' : y0_24 = .ref (ad 16) := d0_24
  subst d0_24'
  have d0_25' : y0_25 = .ref (ad 17) := d0_25
  subst d0_25'
  obtain ⟨z0_26, q0_26, b0_26⟩ := d0_26
  subst q0_26
  obtain ⟨z0_27, q0_27, b0_27⟩ := d0_27
  subst q0_27
  have d0_28' : y0_28 = .ref (ad 18) := d0_28
  subst d0_28'
  have d0_29' : y0_29 = .ref (ad 19) := d0_29
  subst d0_29'
  obtain ⟨z0_40, q0_40, b0_40⟩ := d0_40
  subst q0_40
  obtain ⟨z0_41, q0_41, b0_41⟩ := d0_41
  subst q0_41
  obtain ⟨e1, w1, g1⟩ := hW.2 1 _ rfl
  obtain ⟨f1, p1, rfl⟩ := g1
  obtain ⟨e2, w2, g2⟩ := hW.2 2 _ rfl
  obtain ⟨gg2, ho2, -, -⟩ := g2
  unfold OB at ho2
  rw [if_pos (by decide)] at ho2
  obtain ⟨f2, rfl, -⟩ := ho2
  obtain ⟨e3, w3, g3⟩ := hW.2 3 _ rfl
  obtain ⟨f3, rfl⟩ := g3
  obtain ⟨e4, w4, g4⟩ := hW.2 4 _ rfl
  obtain ⟨f4, rfl⟩ := g4
  obtain ⟨e5, w5, g5⟩ := hW.2 5 _ rfl
  obtain ⟨f5, p5, rfl⟩ := g5
  obtain ⟨e6, w6, g6⟩ := hW.2 6 _ rfl
  obtain ⟨f6, p6, rfl⟩ := g6
  obtain ⟨e7, w7, g7⟩ := hW.2 7 _ rfl
  obtain ⟨f7, p7, rfl⟩ := g7
  obtain ⟨e8, w8, g8⟩ := hW.2 8 _ rfl
  obtain ⟨f8, p8, rfl⟩ := g8
  obtain ⟨e9, w9, g9⟩ := hW.2 9 _ rfl
  obtain ⟨f9, p9, rfl⟩ := g9
  obtain ⟨e10, w10, g10⟩ := hW.2 10 _ rfl
  obtain ⟨f10, p10, rfl⟩ := g10
  obtain ⟨e11, w11, g11⟩ := hW.2 11 _ rfl
  obtain ⟨f11, p11, rfl⟩ := g11
  obtain ⟨e12, w12, g12⟩ := hW.2 12 _ rfl
  obtain ⟨f12, p12, rfl⟩ := g12
  obtain ⟨e13, w13, g13⟩ := hW.2 13 _ rfl
  obtain ⟨f13, p13, rfl⟩ := g13
  obtain ⟨e14, w14, g14⟩ := hW.2 14 _ rfl
  obtain ⟨f14, p14, rfl⟩ := g14
  obtain ⟨e15, w15, g15⟩ := hW.2 15 _ rfl
  obtain ⟨gg15, ho15, -, -⟩ := g15
  unfold OB at ho15
  rw [if_pos (by decide)] at ho15
  obtain ⟨f15, rfl, -⟩ := ho15
  obtain ⟨e16, w16, g16⟩ := hW.2 16 _ rfl
  obtain ⟨gg16, ho16, -, -⟩ := g16
  unfold OB at ho16
  rw [if_pos (by decide)] at ho16
  obtain ⟨f16, rfl, -⟩ := ho16
  obtain ⟨e17, w17, g17⟩ := hW.2 17 _ rfl
  obtain ⟨gg17, ho17, -, -⟩ := g17
  unfold OB at ho17
  rw [if_neg (by decide), if_neg (by decide), if_pos rfl] at ho17
  obtain ⟨f17, _, _, rfl, -⟩ := ho17
  obtain ⟨e18, w18, g18⟩ := hW.2 18 _ rfl
  obtain ⟨gg18, ho18, -, -⟩ := g18
  unfold OB at ho18
  rw [if_pos (by decide)] at ho18
  obtain ⟨f18, rfl, -⟩ := ho18
  obtain ⟨e19, w19, g19⟩ := hW.2 19 _ rfl
  obtain ⟨f19, p19, rfl⟩ := g19
  obtain ⟨a0, av, rfl, k0, hAv⟩ := P2.cons_inv hAv
  cases P2.nil_inv hAv
  have k0' : a0 = .ref (ad 0) := k0.1
  subst k0'
  obtain ⟨xs, fs, hx1, hx2, hx3⟩ := hxp 2 (by decide) (by decide)
  obtain ⟨gx, xs, rfl, hx4, hx1⟩ := P2.cons_inv hx1
  obtain ⟨gy, xs, rfl, hx5, hx1⟩ := P2.cons_inv hx1
  cases P2.nil_inv hx1
  obtain ⟨gf, fs, rfl, hx6, hx2⟩ := P2.cons_inv hx2
  cases P2.nil_inv hx2
  obtain ⟨hx7, hx8, hx9, hx10⟩ := hx3
  have hL1 : gx = (n0_1 : Int) := by
    obtain ⟨t1, h1, h2⟩ := hx4
    have h1' : σ[1]? = some t1 := h1
    rw [hs0_1] at h1'
    cases h1'
    have h2' : gx = (n0_1 : Int) + 0 := h2
    omega
  have hg1 : σ[41]? = some gy := by
    obtain ⟨t1, h1, h2⟩ := hx5
    have h2' : gy = t1 + 0 := h2
    have e : gy = t1 := by omega
    rw [e]
    exact h1
  have hf1 : gf = f1 := by
    have h1 : φ[11]? = some gf := hx6
    have h2 : φ[11]? = some f1 := p1
    rw [h2] at h1
    cases h1
    rfl
  subst hf1
  have hf2 : gy = (fault gf n0_1).toInt := by
    rw [hx9, hL1]
    rfl
  refine ⟨[ex_r 0], [(0, ex_o 12 (ex_u y0_0 :: ex_i (nI n0_1) :: ex_r 1 :: ex_i z0_3 :: ex_i z0_4 :: ex_i z0_5 :: ex_i z0_6 :: ex_j z0_7 :: ex_i z0_8 :: ex_i z0_9 :: ex_r 2 :: ex_r 3 :: ex_r 4 :: ex_r 5 :: ex_r 6 :: ex_r 7 :: ex_r 8 :: ex_r 9 :: ex_r 10 :: ex_r 11 :: ex_r 12 :: ex_r 13 :: ex_r 14 :: ex_r 15 :: ex_r 16 :: ex_r 17 :: ex_i z0_26 :: ex_i z0_27 :: ex_r 18 :: ex_r 19 :: ex_u y0_30 :: ex_u y0_31 :: ex_u y0_32 :: ex_u y0_33 :: ex_u y0_34 :: ex_u y0_35 :: ex_u y0_36 :: ex_u y0_37 :: ex_u y0_38 :: ex_u y0_39 :: ex_i z0_40 :: ex_j z0_41 :: [ex_u y0_42, ex_u y0_43, ex_u y0_44, ex_u y0_45, ex_u y0_46, ex_u y0_47, ex_u y0_48, ex_u y0_49, ex_u y0_50, ex_u y0_51, ex_u y0_52, ex_u y0_53, ex_u y0_54, ex_u y0_55, ex_u y0_56, ex_u y0_57, ex_u y0_58, ex_u y0_59, ex_u y0_60, ex_u y0_61, ex_u y0_62, ex_u y0_63, ex_u y0_64, ex_u y0_65, ex_u y0_66])), (1, ex_a 1 1000 gf), (2, ex_a 1 10 f2), (3, ex_b 12 f3), (4, ex_b 10 f4), (5, ex_a 1 12 f5), (6, ex_a 1 12 f6), (7, ex_a 1 12 f7), (8, ex_a 1 12 f8), (9, ex_a 1 12 f9), (10, ex_a 1 12 f10), (14, ex_a 1 12 f14), (11, ex_a 1 10 f11), (12, ex_a 1 10 f12), (13, ex_a 1 10 f13), (15, ex_a 1 2 f15), (16, ex_a 1 2 f16), (17, ex_a 1 2000 f17), (18, ex_a 1 7 f18), (19, ex_a 3 7 f19)], _, rfl, ?_, e_X12_readsAll l 0 y0_0 1 z0_3 z0_4 z0_5 z0_6 z0_7 z0_8 z0_9 2 3 4 5 6 7 8 9 10 11 12 13 14 15 16 17 z0_26 z0_27 18 19 y0_30 y0_31 y0_32 y0_33 y0_34 y0_35 y0_36 y0_37 y0_38 y0_39 z0_40 z0_41 [ex_u y0_42, ex_u y0_43, ex_u y0_44, ex_u y0_45, ex_u y0_46, ex_u y0_47, ex_u y0_48, ex_u y0_49, ex_u y0_50, ex_u y0_51, ex_u y0_52, ex_u y0_53, ex_u y0_54, ex_u y0_55, ex_u y0_56, ex_u y0_57, ex_u y0_58, ex_u y0_59, ex_u y0_60, ex_u y0_61, ex_u y0_62, ex_u y0_63, ex_u y0_64, ex_u y0_65, ex_u y0_66] gf n0_1 f2 f3 f4 f5 f6 f7 f8 f9 f10 f14 f11 f12 f13 f15 f16 f17 f18 f19 (fun _ => 0) (fun _ => 0) (fun _ => 0) (fun _ => 0) (fun _ => 0) (fun _ => 0) (fun _ => 0) (fun _ => 0) (fun _ => 0) (fun _ => 0) (fun _ => 0) (fun _ => 0) (fun _ => 0) (by have := hb0_1; omega), fun v h hex => ?_⟩
  · have hlen : ws.length = 20 := hW.1.symm
    refine pm_pick (js := [0, 1, 2, 3, 4, 5, 6, 7, 8, 9, 10, 14, 11, 12, 13, 15, 16, 17, 18, 19]) (by rw [hlen]; decide) ?_
    simp only [List.filterMap_cons, List.filterMap_nil, w0, w1, w2, w3, w4, w5, w6, w7, w8, w9, w10, w11, w12, w13, w14, w15, w16, w17, w18, w19]
    rfl
  · obtain ⟨cs', r', hq, -, hv, hPe⟩ := hex
    rcases hq with ⟨x_0, x_1, x_2, x_3, x_4, x_5, x_6, x_7, x_8, x_9, x_10, x_11, x_12, x_13, x_14, x_15, x_16, x_17, x_18, x_19, x_20, x_21, x_22, x_23, x_24, x_25, x_26, x_27, x_28, x_29, x_30, x_31, x_32, x_33, x_34, x_35, x_36, x_37, x_38, x_39, x_40, x_41, x_42, x_43, x_44, x_45, x_46, c_0, rfl, rfl⟩ | ⟨x_0, x_1, x_2, x_3, x_4, x_5, x_6, x_7, x_8, x_9, x_10, x_11, x_12, x_13, x_14, x_15, x_16, x_17, x_18, x_19, x_20, x_21, x_22, x_23, x_24, x_25, x_26, x_27, c_0, rfl, rfl⟩
    · refine ⟨⟨_, hPe 1 _ rfl, gf, p1, rfl⟩, ?_⟩
      refine Or.inl ⟨hv, ?_⟩
      rw [hg1, hf2, fault_r c_0]
      rfl
    · refine ⟨⟨_, hPe 1 _ rfl, gf, p1, rfl⟩, ?_⟩
      refine Or.inr ⟨hv, _, _, hPe 0 _ rfl, rfl, ?_⟩
      rw [hg1, hf2, fault_i c_0]

