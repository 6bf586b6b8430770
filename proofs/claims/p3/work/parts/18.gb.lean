/-! the class's reader: the fault as a symbol -/
set_option maxHeartbeats 4000000 in
set_option maxRecDepth 100000 in
theorem ok_X1_reads_G_of (l : Launch) (hR : ConOK MT l cn_X1_reads_R) : ConOK MT l (conG 1 2 26 3 (ca 0 1000 0) cn_X1_reads_R) := by
  refine con_G (y := yX1_reads) (cc := cX1_reads) (nL := 5) 1 9 2 26 3 (ca 0 1000 0) rfl (by decide) rfl rfl (by decide +kernel) (by decide) hR (fun D cy ω ad σ φ av ws hpre => ?_)
  obtain ⟨⟨hB, hF, hC, hW⟩, hAv, hω, hxp⟩ := hpre
  obtain ⟨e0, w0, g0⟩ := hW.2 0 _ rfl
  obtain ⟨vs0, rfl, g0⟩ := g0
  obtain ⟨y0_0, vs0, rfl, d0_0, g0⟩ := P2.cons_inv g0
  obtain ⟨y0_1, vs0, rfl, d0_1, g0⟩ := P2.cons_inv g0
  obtain ⟨y0_2, vs0, rfl, d0_2, g0⟩ := P2.cons_inv g0
  cases P2.nil_inv g0
  obtain ⟨z0_0, q0_0, b0_0⟩ := d0_0
  subst q0_0
  obtain ⟨z0_1, q0_1, b0_1⟩ := d0_1
  subst q0_1
  obtain ⟨z0_2, q0_2, b0_2⟩ := d0_2
  subst q0_2
  obtain ⟨e1, w1, g1⟩ := hW.2 1 _ rfl
  obtain ⟨vs1, rfl, g1⟩ := g1
  obtain ⟨y1_0, vs1, rfl, d1_0, g1⟩ := P2.cons_inv g1
  obtain ⟨y1_1, vs1, rfl, d1_1, g1⟩ := P2.cons_inv g1
  obtain ⟨y1_2, vs1, rfl, d1_2, g1⟩ := P2.cons_inv g1
  obtain ⟨y1_3, vs1, rfl, d1_3, g1⟩ := P2.cons_inv g1
  obtain ⟨y1_4, vs1, rfl, d1_4, g1⟩ := P2.cons_inv g1
  obtain ⟨y1_5, vs1, rfl, d1_5, g1⟩ := P2.cons_inv g1
  obtain ⟨y1_6, vs1, rfl, d1_6, g1⟩ := P2.cons_inv g1
  obtain ⟨y1_7, vs1, rfl, d1_7, g1⟩ := P2.cons_inv g1
  obtain ⟨y1_8, vs1, rfl, d1_8, g1⟩ := P2.cons_inv g1
  cases P2.nil_inv g1
  have d1_0' : y1_0 = .ref (ad 3) := d1_0
  subst d1_0'
  obtain ⟨z1_1, q1_1, b1_1⟩ := d1_1
  subst q1_1
  obtain ⟨n1_1, hn1_1, hb1_1, hs1_1⟩ := fld_n hB (show _ = some ((0 : Int), (1000 : Int)) from rfl) b1_1 (by decide)
  subst hn1_1
  obtain ⟨z1_2, q1_2, b1_2⟩ := d1_2
  subst q1_2
  obtain ⟨z1_3, q1_3, b1_3⟩ := d1_3
  subst q1_3
  obtain ⟨z1_4, q1_4, b1_4⟩ := d1_4
  subst q1_4
  obtain ⟨z1_5, q1_5, b1_5⟩ := d1_5
  subst q1_5
  obtain ⟨z1_6, q1_6, b1_6⟩ := d1_6
  subst q1_6
  obtain ⟨z1_7, q1_7, b1_7⟩ := d1_7
  subst q1_7
  obtain ⟨z1_8, q1_8, b1_8⟩ := d1_8
  subst q1_8
  obtain ⟨e2, w2, g2⟩ := hW.2 2 _ rfl
  obtain ⟨vs2, rfl, g2⟩ := g2
  obtain ⟨y2_0, vs2, rfl, d2_0, g2⟩ := P2.cons_inv g2
  obtain ⟨y2_1, vs2, rfl, d2_1, g2⟩ := P2.cons_inv g2
  obtain ⟨y2_2, vs2, rfl, d2_2, g2⟩ := P2.cons_inv g2
  obtain ⟨y2_3, vs2, rfl, d2_3, g2⟩ := P2.cons_inv g2
  obtain ⟨y2_4, vs2, rfl, d2_4, g2⟩ := P2.cons_inv g2
  obtain ⟨y2_5, vs2, rfl, d2_5, g2⟩ := P2.cons_inv g2
  obtain ⟨y2_6, vs2, rfl, d2_6, g2⟩ := P2.cons_inv g2
  obtain ⟨y2_7, vs2, rfl, d2_7, g2⟩ := P2.cons_inv g2
  obtain ⟨y2_8, vs2, rfl, d2_8, g2⟩ := P2.cons_inv g2
  obtain ⟨y2_9, vs2, rfl, d2_9, g2⟩ := P2.cons_inv g2
  obtain ⟨y2_10, vs2, rfl, d2_10, g2⟩ := P2.cons_inv g2
  obtain ⟨y2_11, vs2, rfl, d2_11, g2⟩ := P2.cons_inv g2
  obtain ⟨y2_12, vs2, rfl, d2_12, g2⟩ := P2.cons_inv g2
  obtain ⟨y2_13, vs2, rfl, d2_13, g2⟩ := P2.cons_inv g2
  obtain ⟨y2_14, vs2, rfl, d2_14, g2⟩ := P2.cons_inv g2
  obtain ⟨y2_15, vs2, rfl, d2_15, g2⟩ := P2.cons_inv g2
  obtain ⟨y2_16, vs2, rfl, d2_16, g2⟩ := P2.cons_inv g2
  obtain ⟨y2_17, vs2, rfl, d2_17, g2⟩ := P2.cons_inv g2
  obtain ⟨y2_18, vs2, rfl, d2_18, g2⟩ := P2.cons_inv g2
  obtain ⟨y2_19, vs2, rfl, d2_19, g2⟩ := P2.cons_inv g2
  cases P2.nil_inv g2
  have d2_0' : y2_0 = .ref (ad 4) := d2_0
  subst d2_0'
  have d2_1' : y2_1 = .ref (ad 5) := d2_1
  subst d2_1'
  have d2_2' : y2_2 = .ref (ad 6) := d2_2
  subst d2_2'
  have d2_3' : y2_3 = .ref (ad 7) := d2_3
  subst d2_3'
  have d2_4' : y2_4 = .ref (ad 8) := d2_4
  subst d2_4'
  have d2_5' : y2_5 = .ref (ad 9) := d2_5
  subst d2_5'
  have d2_6' : y2_6 = .ref (ad 10) := d2_6
  subst d2_6'
  have d2_7' : y2_7 = .ref (ad 11) := d2_7
  subst d2_7'
  have d2_8' : y2_8 = .ref (ad 12) := d2_8
  subst d2_8'
  have d2_9' : y2_9 = .ref (ad 13) := d2_9
  subst d2_9'
  have d2_10' : y2_10 = .ref (ad 14) := d2_10
  subst d2_10'
  have d2_11' : y2_11 = .ref (ad 15) := d2_11
  subst d2_11'
  have d2_12' : y2_12 = .ref (ad 16) := d2_12
  subst d2_12'
  obtain ⟨z2_13, q2_13, b2_13⟩ := d2_13
  subst q2_13
  obtain ⟨n2_13, hn2_13, hb2_13, hs2_13⟩ := fld_n hB (show _ = some ((0 : Int), (6 : Int)) from rfl) b2_13 (by decide)
  subst hn2_13
  obtain ⟨z2_14, q2_14, b2_14⟩ := d2_14
  subst q2_14
  obtain ⟨n2_14, hn2_14, hb2_14, hs2_14⟩ := fld_n hB (show _ = some ((0 : Int), (5 : Int)) from rfl) b2_14 (by decide)
  subst hn2_14
  obtain ⟨z2_15, q2_15, b2_15⟩ := d2_15
  subst q2_15
  obtain ⟨z2_16, q2_16, b2_16⟩ := d2_16
  subst q2_16
  obtain ⟨e3, w3, g3⟩ := hW.2 3 _ rfl
  obtain ⟨f3, p3, rfl⟩ := g3
  obtain ⟨e4, w4, g4⟩ := hW.2 4 _ rfl
  obtain ⟨gg4, ho4, -, -⟩ := g4
  unfold OB at ho4
  rw [if_neg (by decide), if_neg (by decide), if_neg (by decide)] at ho4
  obtain ⟨f4, _, _, rfl, -⟩ := ho4
  obtain ⟨e5, w5, g5⟩ := hW.2 5 _ rfl
  obtain ⟨f5, p5, rfl⟩ := g5
  obtain ⟨e6, w6, g6⟩ := hW.2 6 _ rfl
  obtain ⟨f6, p6, rfl⟩ := g6
  obtain ⟨e7, w7, g7⟩ := hW.2 7 _ rfl
  obtain ⟨f7, p7, rfl⟩ := g7
  obtain ⟨e8, w8, g8⟩ := hW.2 8 _ rfl
  obtain ⟨f8, p8, rfl⟩ := g8
  obtain ⟨e9, w9, g9⟩ := hW.2 9 _ rfl
  obtain ⟨f9, p9, rfl⟩ := g9
  obtain ⟨e10, w10, g10⟩ := hW.2 10 _ rfl
  obtain ⟨f10, p10, rfl⟩ := g10
  obtain ⟨e11, w11, g11⟩ := hW.2 11 _ rfl
  obtain ⟨f11, p11, rfl⟩ := g11
  obtain ⟨e12, w12, g12⟩ := hW.2 12 _ rfl
  obtain ⟨gg12, ho12, -, -⟩ := g12
  unfold OB at ho12
  rw [if_neg (by decide), if_neg (by decide), if_neg (by decide)] at ho12
  obtain ⟨f12, _, _, rfl, -⟩ := ho12
  obtain ⟨e13, w13, g13⟩ := hW.2 13 _ rfl
  obtain ⟨f13, p13, rfl⟩ := g13
  obtain ⟨e14, w14, g14⟩ := hW.2 14 _ rfl
  obtain ⟨f14, p14, rfl⟩ := g14
  obtain ⟨e15, w15, g15⟩ := hW.2 15 _ rfl
  obtain ⟨f15, p15, rfl⟩ := g15
  obtain ⟨e16, w16, g16⟩ := hW.2 16 _ rfl
  obtain ⟨vs16, rfl, g16⟩ := g16
  obtain ⟨y16_0, vs16, rfl, d16_0, g16⟩ := P2.cons_inv g16
  obtain ⟨y16_1, vs16, rfl, d16_1, g16⟩ := P2.cons_inv g16
  obtain ⟨y16_2, vs16, rfl, d16_2, g16⟩ := P2.cons_inv g16
  obtain ⟨y16_3, vs16, rfl, d16_3, g16⟩ := P2.cons_inv g16
  obtain ⟨y16_4, vs16, rfl, d16_4, g16⟩ := P2.cons_inv g16
  obtain ⟨y16_5, vs16, rfl, d16_5, g16⟩ := P2.cons_inv g16
  obtain ⟨y16_6, vs16, rfl, d16_6, g16⟩ := P2.cons_inv g16
  obtain ⟨y16_7, vs16, rfl, d16_7, g16⟩ := P2.cons_inv g16
  cases P2.nil_inv g16
  have d16_0' : y16_0 = .ref (ad 17) := d16_0
  subst d16_0'
  obtain ⟨z16_1, q16_1, b16_1⟩ := d16_1
  subst q16_1
  obtain ⟨n16_1, hn16_1, hb16_1, hs16_1⟩ := fld_n hB (show _ = some ((0 : Int), (1000 : Int)) from rfl) b16_1 (by decide)
  subst hn16_1
  have d16_2' : y16_2 = .ref (ad 18) := d16_2
  subst d16_2'
  obtain ⟨z16_3, q16_3, b16_3⟩ := d16_3
  subst q16_3
  obtain ⟨n16_3, hn16_3, hb16_3, hs16_3⟩ := fld_n hB (show _ = some ((0 : Int), (40 : Int)) from rfl) b16_3 (by decide)
  subst hn16_3
  obtain ⟨z16_4, q16_4, b16_4⟩ := d16_4
  subst q16_4
  obtain ⟨z16_5, q16_5, b16_5⟩ := d16_5
  subst q16_5
  obtain ⟨e17, w17, g17⟩ := hW.2 17 _ rfl
  obtain ⟨f17, p17, rfl⟩ := g17
  obtain ⟨e18, w18, g18⟩ := hW.2 18 _ rfl
  obtain ⟨f18, p18, rfl⟩ := g18
  obtain ⟨a0, av, rfl, k0, hAv⟩ := P2.cons_inv hAv
  obtain ⟨a1, av, rfl, k1, hAv⟩ := P2.cons_inv hAv
  obtain ⟨a2, av, rfl, k2, hAv⟩ := P2.cons_inv hAv
  cases P2.nil_inv hAv
  have k0' : a0 = .ref (ad 0) := k0.1
  subst k0'
  have k1' : a1 = .ref (ad 1) := k1.1
  subst k1'
  have k2' : a2 = .ref (ad 2) := k2.1
  subst k2'
  obtain ⟨xs, fs, hx1, hx2, hx3⟩ := hxp 1 (by decide) (by decide)
  obtain ⟨gx, xs, rfl, hx4, hx1⟩ := P2.cons_inv hx1
  obtain ⟨gy, xs, rfl, hx5, hx1⟩ := P2.cons_inv hx1
  cases P2.nil_inv hx1
  obtain ⟨gf, fs, rfl, hx6, hx2⟩ := P2.cons_inv hx2
  cases P2.nil_inv hx2
  obtain ⟨hx7, hx8, hx9, hx10⟩ := hx3
  have hL1 : gx = (n1_1 : Int) := by
    obtain ⟨t1, h1, h2⟩ := hx4
    have h1' : σ[4]? = some t1 := h1
    rw [hs1_1] at h1'
    cases h1'
    have h2' : gx = (n1_1 : Int) + 0 := h2
    omega
  have hg1 : σ[26]? = some gy := by
    obtain ⟨t1, h1, h2⟩ := hx5
    have h2' : gy = t1 + 0 := h2
    have e : gy = t1 := by omega
    rw [e]
    exact h1
  have hf1 : gf = f3 := by
    have h1 : φ[0]? = some gf := hx6
    have h2 : φ[0]? = some f3 := p3
    rw [h2] at h1
    cases h1
    rfl
  subst hf1
  have hf2 : gy = (fault gf n1_1).toInt := by
    rw [hx9, hL1]
    rfl
  refine ⟨[ex_r 0, ex_r 1, ex_r 2], [(1, ex_o 9 [ex_r 3, ex_i (nI n1_1), ex_i z1_2, ex_i z1_3, ex_i z1_4, ex_i z1_5, ex_j z1_6, ex_i z1_7, ex_i z1_8]), (3, ex_a 0 1000 gf), (2, ex_o 0 [ex_r 4, ex_r 5, ex_r 6, ex_r 7, ex_r 8, ex_r 9, ex_r 10, ex_r 11, ex_r 12, ex_r 13, ex_r 14, ex_r 15, ex_r 16, ex_i (nI n2_13), ex_i (nI n2_14), ex_i z2_15, ex_i z2_16, ex_u y2_17, ex_u y2_18, ex_u y2_19]), (4, ex_b 6 f4), (12, ex_b 5 f12), (5, ex_a 1 6 f5), (6, ex_a 1 6 f6), (7, ex_a 1 6 f7), (8, ex_a 1 6 f8), (9, ex_a 1 6 f9), (10, ex_a 1 6 f10), (11, ex_a 1 6 f11), (13, ex_a 1 5 f13), (14, ex_a 1 5 f14), (15, ex_a 1 5 f15), (0, ex_o 1 [ex_i z0_0, ex_i z0_1, ex_i z0_2]), (16, ex_o 3 [ex_r 17, ex_i (nI n16_1), ex_r 18, ex_i (nI n16_3), ex_i z16_4, ex_i z16_5, ex_u y16_6, ex_u y16_7]), (17, ex_a 1 1000 f17), (18, ex_a 1 40 f18)], _, rfl, ?_, e_X1_reads l 1 3 n1_1 z1_2 z1_3 z1_4 z1_5 z1_6 z1_7 z1_8 gf 2 4 5 6 7 8 9 10 11 12 13 14 15 16 y2_17 y2_18 y2_19 n2_13 n2_14 z2_15 z2_16 0 z0_0 z0_1 z0_2 17 18 y16_6 y16_7 n16_1 n16_3 z16_4 z16_5 f17 f18 f4 f12 f5 f6 f7 f8 f9 f10 f11 f13 f14 f15 (by have := hb1_1; omega) (hx10 rfl) (by have := hb16_1; omega) (by have := hb16_3; omega), fun v h hex => ?_⟩
  · have hlen : ws.length = 19 := hW.1.symm
    refine pm_pick (js := [1, 3, 2, 4, 12, 5, 6, 7, 8, 9, 10, 11, 13, 14, 15, 0, 16, 17, 18]) (by rw [hlen]; decide) ?_
    simp only [List.filterMap_cons, List.filterMap_nil, w0, w1, w2, w3, w4, w5, w6, w7, w8, w9, w10, w11, w12, w13, w14, w15, w16, w17, w18]
    rfl
  · obtain ⟨cs', r', hq, -, hv, hPe⟩ := hex
    rcases hq with ⟨x_0, x_1, x_2, x_3, x_4, x_5, x_6, x_7, x_8, x_9, x_10, x_11, x_12, x_13, x_14, x_15, x_16, x_17, x_18, x_19, x_20, x_21, x_22, x_23, x_24, x_25, x_26, x_27, x_28, x_29, x_30, c_0, c_1, rfl, rfl⟩ | ⟨x_0, x_1, x_2, x_3, x_4, x_5, x_6, x_7, x_8, x_9, x_10, x_11, x_12, x_13, x_14, x_15, x_16, x_17, x_18, x_19, x_20, x_21, x_22, x_23, x_24, x_25, x_26, x_27, x_28, x_29, x_30, x_31, c_0, rfl, rfl⟩
    · refine ⟨⟨_, hPe 1 _ rfl, gf, p3, rfl⟩, ?_⟩
      refine Or.inl ⟨hv, ?_⟩
      rw [hg1, hf2, fault_r c_0]
      rfl
    · refine ⟨⟨_, hPe 1 _ rfl, gf, p3, rfl⟩, ?_⟩
      refine Or.inr ⟨hv, _, _, hPe 0 _ rfl, rfl, ?_⟩
      rw [hg1, hf2, fault_i c_0]

