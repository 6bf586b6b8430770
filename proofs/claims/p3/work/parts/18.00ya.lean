/-! the world at the loop's head, as the cut lJ23_00 has it; own -/
theorem gI {σ : List Int} {ω : List Value} {ad : Nat → Nat} {j : Nat} {x : Int32} {v : Int} (hx : x.toInt = v) (h : σ[j]? = some v) : gv σ ω ad (vi j 0) (.int x) := ⟨x, rfl, v, h, by rw [hx]; exact (Int.add_zero v).symm⟩
theorem gJ {σ : List Int} {ω : List Value} {ad : Nat → Nat} {j : Nat} {x : Int64} {v : Int} (hx : x.toInt = v) (h : σ[j]? = some v) : gv σ ω ad (vL j 0) (.long x) := ⟨x, rfl, v, h, by rw [hx]; exact (Int.add_zero v).symm⟩
theorem gR {σ : List Int} {ω : List Value} {ad : Nat → Nat} {c a : Nat} (h : a = ad c) : gv σ ω ad (vr c) (.ref a) := by
  rw [h]
  rfl
theorem nrun0 (a : Nat) : ∀ n : Nat, nrun (fun _ => 0) a n = some []
  | 0 => rfl
  | n + 1 => by
    show (nrun (fun _ => 0) a n).bind (nst ((0 : Int32)).toInt) = some []
    rw [nrun0 a n]
    show nst ((0 : Int32)).toInt [] = some []
    decide
theorem ext0 (a : Nat) : ext (fun _ => 0) a = 1000 := by
  unfold ext
  rw [show (1000 : Nat) = 999 + 1 from rfl, extN, nrun0]
  rfl
theorem ob_tape {cy : Nat → ClassId} : OB cy 1000 (.inl (cy 1, 1000, .inl (fun _ => 0))) (fun _ => .int 0) := by
  unfold OB
  rw [if_neg (by decide), if_pos rfl]
  exact ⟨_, 0, rfl, by decide, rfl, rfl⟩
def gCod (j : Nat) : Value := if j = 0 then .int (nI 1000) else if j = 1 then .int (nI 1000) else if j = 2 then .int (nI 0) else if j = 3 then .int (nI 0) else .int (nI 1)
theorem ob_cod {cy : Nat → ClassId} : OB cy 2000 (.inl (cy 1, 2000, .inl (fun _ => 0))) gCod := by
  unfold OB
  rw [if_neg (by decide), if_neg (by decide), if_pos rfl]
  exact ⟨_, 0, 0, rfl, Nat.le_refl _, by decide, by rw [ext0]; rfl, by rw [ext0]; rfl, rfl, rfl, rfl⟩
def gNam (j : Nat) : Value := if j = 0 then .int (nI 0) else if j = 1 then .long 0 else .int (-1)
theorem ob_nam {cy : Nat → ClassId} {n : Nat} (h1 : ¬ n < 1000) (h2 : ¬ n = 1000) (h3 : ¬ n = 2000) : OB cy n (.inl (cy 2, n - 1000000, .inr (.inl (fun _ => 0)))) gNam := by
  unfold OB
  rw [if_neg h1, if_neg h2, if_neg h3]
  exact ⟨_, 0, 0, rfl, by decide, rfl, rfl, rfl⟩
def gwl (cy : Nat → ClassId) (σ : List Int) (φ : List (Nat → Int32)) (ad : Nat → Nat) : Nat → List AC → va_W → Prop
  | _, [], [] => True
  | k, c :: cl, q :: ws => (q.1 = ad k ∧ gc cy σ φ [] ad c q.2) ∧ gwl cy σ φ ad (k + 1) cl ws
  | _, _ :: _, [] => False
  | _, [], _ :: _ => False
theorem gwl_ok {cy : Nat → ClassId} {σ : List Int} {φ : List (Nat → Int32)} {ad : Nat → Nat} : ∀ {cl : List AC} {ws : va_W} {k0 : Nat}, gwl cy σ φ ad k0 cl ws → cl.length = ws.length ∧ ∀ (k : Nat) (c : AC), cl[k]? = some c → ∃ e : va_E, ws[k]? = some (ad (k0 + k), e) ∧ gc cy σ φ [] ad c e
  | [], [], k0, _ => ⟨rfl, fun k c h => by simp at h⟩
  | c :: cl, q :: ws, k0, h => by
    obtain ⟨⟨h1, h2⟩, h3⟩ := h
    obtain ⟨i1, i2⟩ := gwl_ok h3
    refine ⟨by simp [i1], fun k c' hk => ?_⟩
    match k, hk with
    | 0, hk =>
      have e : c = c' := Option.some.inj hk
      subst e
      exact ⟨q.2, by show some q = _; rw [show ad (k0 + 0) = q.1 from h1.symm], h2⟩
    | k + 1, hk =>
      obtain ⟨e, j1, j2⟩ := i2 k c' hk
      exact ⟨e, by rw [show k0 + (k + 1) = k0 + 1 + k by omega]; exact j1, j2⟩
  | _ :: _, [], _, h => h.elim
  | [], _ :: _, _, h => h.elim
def zBb : BS → List Int → Bool
  | [], [] => true
  | b :: bs, t :: σ => decide (b.1 ≤ t) && decide (t ≤ b.2) && zBb bs σ
  | _, _ => false
theorem zBb_ok : ∀ {bs : BS} {σ : List Int}, zBb bs σ = true → P2 (fun b t => b.1 ≤ t ∧ t ≤ b.2) bs σ
  | [], [], _ => trivial
  | b :: bs, t :: σ, h => by
    simp only [zBb, Bool.and_eq_true, decide_eq_true_eq] at h
    exact ⟨h.1, zBb_ok h.2⟩
  | _ :: _, [], h => by cases h
  | [], _ :: _, h => by cases h
theorem z0 {b : Int × Int} (h : (decide (b.1 ≤ 0) && decide (0 ≤ b.2)) = true) : ∀ j : Nat, b.1 ≤ ((fun _ => 0 : Nat → Int32) j).toInt ∧ ((fun _ => 0 : Nat → Int32) j).toInt ≤ b.2 := fun j => by
  simp only [Bool.and_eq_true, decide_eq_true_eq] at h
  exact h
theorem zAll (f : Nat → Int32) : ∀ j : Nat, ((-2147483648), 2147483647).1 ≤ (f j).toInt ∧ (f j).toInt ≤ ((-2147483648 : Int), (2147483647 : Int)).2 := fun j => by
  have h1 := (f j).toInt_lt
  have h2 := (f j).le_toInt
  exact ⟨by simpa using h2, by omega⟩
def adH (l : List Nat) (adT : Nat → Nat) : Nat → Nat := fun k => if k < 247 then l.getD k 0 else adT k
set_option maxRecDepth 100000 in
def sg2 : List Int := [0, 0, 0, 0, 0, 32, 0, 0, 0, 0, 0, 0, 0, 0, (-1), 0, 0, (-1), 0, 0, 0, 0, 0, 0, 0, 2, 0, 0, (-1), 0, 0, (-1), 0, 0, 0, 0, 0, 0, 0, 2, 0, 0, 0, 0, 0, 0, 0, 0, 0, 0, 0, 0, 0, 0, 0, 0, 0, 0, 0, 0, 0, 0, 0, 0, 0, 0, 0, 0, 0, 0, 0, 0, 0, 0, 0, 0, 0, 0, 0, 0, 0, 0, 0, 0, 0, 0, 0, 0, 0, 0, 0, 0, 0, 0, 0, 0, 0, 0, 0, 0, 0, 0, 0, 0, 0, 0, 0, 0, 0, 0, 0, 0, 0, 0, 0, 0, 0, 0, 0, 0, 0, 0, (-1), 0, (-1), 0, 0, 0, 0, 0, 0, 0, 0, 0, 0, 0, 0, 0, 0, 0, 0, 0, 0, 0, 0, 0, 0, 0, 0, 0, 0, 0, 0, 0, 0, 0, 0, 2, 0, 0, 0, 0, 0, 0, 0, 0, 0, 1000, 1000, 0, 0, 1, 0, 0, 0, 0, 0, 0, 0, 0, 0, 0, 0, 0, 0, 0, 0, 0, 0, 0, 0, 0, 0, 0, 0, 0, 0, 0, 0, 0, 0, 0, 0]
def sgH (L : Nat) : List Int := 0 :: (L : Int) :: sg2
set_option maxRecDepth 100000 in
def phH : List (Nat → Int32) := [(fun _ => 0), (fun _ => 0), (fun _ => 0), (fun _ => 0), (fun _ => 0), (fun _ => 0), (fun _ => 0), (fun _ => 0), (fun _ => 0), (fun _ => 0), (fun _ => 0), (fun _ => 0), (fun _ => 0), (fun _ => 0), (fun _ => 0), (fun _ => 0), (fun _ => 0), (fun _ => 0), (fun _ => 0), (fun _ => 0), (fun _ => 0), (fun _ => 0), (fun _ => 0), (fun _ => 0), (fun _ => 0), (fun _ => 0), (fun _ => 0), (fun _ => 0), (fun _ => 0), (fun _ => 0), (fun _ => 0), (fun _ => 0), (fun _ => 0), (fun _ => 0), (fun _ => 0), (fun _ => 0), (fun _ => 0), (fun _ => 0), (fun _ => 0), (fun _ => 0), (fun _ => 0), (fun _ => 0), (fun _ => 0), (fun _ => 0), (fun _ => 0), (fun _ => 0), (fun _ => 0), (fun _ => 0), (fun _ => 0), (fun _ => 0), (fun _ => 0), (fun _ => 0), (fun _ => 0), (fun _ => 0), (fun _ => 0), (fun _ => 0), (fun _ => 0), (fun _ => 0), (fun _ => 0), (fun _ => 0), (fun _ => 0), (fun _ => 0), (fun _ => 0), (fun _ => 0), (fun _ => 0), (fun _ => 0), (fun _ => 0), (fun _ => 0), (fun _ => 0), (fun _ => 0), (fun _ => 0), (fun _ => 0), (fun _ => 0), (fun _ => 0), (fun _ => 0), (fun _ => 0), (fun _ => 0), (fun _ => 0), (fun _ => 0), (fun _ => 0), (fun _ => 0), (fun _ => 0), (fun _ => 0), (fun _ => 0), (fun _ => 0), (fun _ => 0), (fun _ => 0), (fun _ => 0), (fun _ => 0), (fun _ => 0), (fun _ => 0), (fun _ => 0), (fun _ => 0), (fun _ => 0), (fun _ => 0), (fun _ => 0), (fun _ => 0), (fun _ => 0), (fun _ => 0), (fun _ => 0), (fun _ => 0), (fun _ => 0), (fun _ => 0), (fun _ => 0), (fun _ => 0), (fun _ => 0), (fun _ => 0), (fun _ => 0), (fun _ => 0), (fun _ => 0), (fun _ => 0), (fun _ => 0), (fun _ => 0), (fun _ => 0), (fun _ => 0), (fun _ => 0), (fun _ => 0), (fun _ => 0), (fun _ => 0), (fun _ => 0), (fun _ => 0), (fun _ => 0), (fun _ => 0), (fl 6 (-1) (fun _ => 0)), (fun _ => 0), (fun _ => 0), (fun _ => 0), (fun _ => 0), (fun _ => 0), (fun _ => 0), (fun _ => 0), (fun _ => 0), (fun _ => 0), (fun _ => 0), (fun _ => 0), (fun _ => 0), (fun _ => 0), (fun _ => 0), (fun _ => 0), (fun _ => 0), (fun _ => 0), (fun _ => 0), (fun _ => 0), (fun _ => 0), (fun _ => 0), (fun _ => 0), (fun _ => 0), (fun _ => 0), (fun _ => 0), (fun _ => 0), (fun _ => 0), (fun _ => 0), (fun _ => 0), (fun _ => 0), (fun _ => 0), (fun _ => 0), (fun _ => 0), (fun _ => 0), (fun _ => 0), (fun _ => 0), (fun _ => 0), (fun _ => 0), (fun _ => 0), (fun _ => 0), (fun _ => 0), (fun _ => 0), (fun _ => 0), (fun _ => 0), (fun _ => 0), (upd (upd (upd (upd (upd (upd (fun _ => 0) 9 (-1)) 10 (-1)) 11 (-1)) 12 (-1)) 13 (-1)) 14 (-1)), (fun _ => 0), (fun _ => 0), (fun _ => 0), (fun _ => 0), (fun _ => 0), (fun _ => 0), (fun _ => 0), (fun _ => 0), (fun _ => 0), (fun _ => 0), (fun _ => 0), (fun _ => 0)]
set_option maxRecDepth 100000 in
theorem sg2_ok : zBb (lbs.drop 2) sg2 = true := by decide +kernel
set_option maxRecDepth 100000 in
theorem phH_ok : zF lfb phH := ⟨z0 rfl, z0 rfl, z0 rfl, z0 rfl, z0 rfl, z0 rfl, z0 rfl, z0 rfl, z0 rfl, z0 rfl, z0 rfl, z0 rfl, z0 rfl, z0 rfl, z0 rfl, z0 rfl, z0 rfl, z0 rfl, z0 rfl, z0 rfl, z0 rfl, z0 rfl, z0 rfl, z0 rfl, z0 rfl, z0 rfl, z0 rfl, z0 rfl, z0 rfl, z0 rfl, z0 rfl, z0 rfl, z0 rfl, z0 rfl, z0 rfl, z0 rfl, z0 rfl, z0 rfl, z0 rfl, z0 rfl, z0 rfl, z0 rfl, z0 rfl, z0 rfl, z0 rfl, z0 rfl, z0 rfl, z0 rfl, z0 rfl, z0 rfl, z0 rfl, z0 rfl, z0 rfl, z0 rfl, z0 rfl, z0 rfl, z0 rfl, z0 rfl, z0 rfl, z0 rfl, z0 rfl, z0 rfl, z0 rfl, z0 rfl, z0 rfl, z0 rfl, z0 rfl, z0 rfl, z0 rfl, z0 rfl, z0 rfl, z0 rfl, z0 rfl, z0 rfl, z0 rfl, z0 rfl, z0 rfl, z0 rfl, z0 rfl, z0 rfl, z0 rfl, z0 rfl, z0 rfl, z0 rfl, z0 rfl, z0 rfl, z0 rfl, z0 rfl, z0 rfl, z0 rfl, z0 rfl, z0 rfl, z0 rfl, z0 rfl, z0 rfl, z0 rfl, z0 rfl, z0 rfl, z0 rfl, z0 rfl, z0 rfl, z0 rfl, z0 rfl, z0 rfl, z0 rfl, z0 rfl, z0 rfl, z0 rfl, z0 rfl, z0 rfl, z0 rfl, z0 rfl, z0 rfl, z0 rfl, z0 rfl, z0 rfl, z0 rfl, z0 rfl, z0 rfl, z0 rfl, z0 rfl, z0 rfl, z0 rfl, zAll _, z0 rfl, z0 rfl, z0 rfl, z0 rfl, z0 rfl, z0 rfl, z0 rfl, z0 rfl, z0 rfl, z0 rfl, z0 rfl, z0 rfl, z0 rfl, z0 rfl, z0 rfl, z0 rfl, z0 rfl, z0 rfl, z0 rfl, z0 rfl, z0 rfl, z0 rfl, z0 rfl, z0 rfl, z0 rfl, z0 rfl, z0 rfl, z0 rfl, z0 rfl, z0 rfl, z0 rfl, z0 rfl, z0 rfl, z0 rfl, z0 rfl, z0 rfl, z0 rfl, z0 rfl, z0 rfl, z0 rfl, z0 rfl, z0 rfl, z0 rfl, z0 rfl, z0 rfl, zAll _, z0 rfl, z0 rfl, z0 rfl, z0 rfl, z0 rfl, z0 rfl, z0 rfl, z0 rfl, z0 rfl, z0 rfl, z0 rfl, z0 rfl, trivial⟩
set_option maxHeartbeats 4000000 in
set_option maxRecDepth 100000 in
theorem head_gw {cy : Nat → ClassId} {adT : Nat → Nat} {L : Nat} (q_1 q_1_2 q1_2_17 q_3_3 q_4_4 q_1_5_18 q_2_6_19 q_3_7_20 q_4_8_21 q_5_9_22 q_6_10_23 q_7_11_24 q_8_12_25 q_9_13_26 q_10_14_27 q_11_15_28 q_12_16_29 q_13_17_30 q1_14_21_34 q2_15_22_35 q3_16_23_36 q4_17_24_37 q_18_18_31 q_19_19_32 q_20_20_33 q_25_5 q_1_26_38 q_2_27_39 q_3_28_40 q_4_29_41 q_5_30_42 q_6_31_43 q_7_32_44 q_8_33_45 q_9_34_46 q_10_35_47 q_11_36_48 q_12_37_49 q_13_38_50 q1_14_42_54 q2_15_43_55 q3_16_44_56 q4_17_45_57 q_18_39_51 q_19_40_52 q_20_41_53 q_46_6 q1_47_58 q2_48_59 q3_49_60 q_50_7 q1_51_61 q2_52_62 q3_53_63 q_54_8 q1_55_64 q2_56_65 q3_57_66 q_58_9 q1_59_67 q2_60_68 q3_61_69 q_62_10 q_94_70 q1_95_115 q2_96_116 q3_97_117 q_98_71 q1_99_118 q2_100_119 q3_101_120 q_102_72 q1_103_121 q2_104_122 q3_105_123 q_106_73 q1_107_124 q2_108_125 q3_109_126 q_110_74 q1_111_127 q2_112_128 q3_113_129 q_114_75 q1_115_130 q2_116_131 q3_117_132 q_118_76 q1_119_133 q2_120_134 q3_121_135 q_122_77 q1_123_136 q2_124_137 q3_125_138 q_126_78 q1_127_139 q2_128_140 q3_129_141 q_130_79 q1_131_142 q2_132_143 q3_133_144 q_134_80 q1_135_145 q2_136_146 q3_137_147 q_138_81 q1_139_148 q2_140_149 q3_141_150 q_142_82 q1_143_151 q2_144_152 q3_145_153 q_146_83 q1_147_154 q2_148_155 q3_149_156 q_150_84 q1_151_157 q2_152_158 q3_153_159 q_154_85 q1_155_160 q2_156_161 q3_157_162 q_63_11 q_158_86 q_1_159_163 q1_2_162_166 q2_3_163_167 q3_4_164_168 q_5_160_164 q1_6_165_169 q2_7_166_170 q3_8_167_171 q_9_161_165 q_168_87 q_1_169_172 q1_2_172_175 q2_3_173_176 q3_4_174_177 q_5_170_173 q1_6_175_178 q2_7_176_179 q3_8_177_180 q_9_171_174 q_178_88 q_1_179_181 q1_2_182_184 q2_3_183_185 q3_4_184_186 q_5_180_182 q1_6_185_187 q2_7_186_188 q3_8_187_189 q_9_181_183 q_188_89 q_1_189_190 q1_2_192_193 q2_3_193_194 q3_4_194_195 q_5_190_191 q1_6_195_196 q2_7_196_197 q3_8_197_198 q_9_191_192 q_64_12 q_1_65_90 q_2_66_91 q_67_13 q_1_68_92 q_2_69_93 q1_3_73_97 q2_4_74_98 q3_5_75_99 q_6_70_94 q1_7_76_100 q2_8_77_101 q3_9_78_102 q_10_71_95 q1_11_79_103 q2_12_80_104 q3_13_81_105 q_14_72_96 q1_15_82_106 q2_16_83_107 q3_17_84_108 q_85_14 q1_86_109 q2_87_110 q3_88_111 q4_89_112 q_90_15 q1_91_113 q2_92_114 q_93_16 q_199 q_1_200 q_2_245 q_3_201 q_4_202 q_5_203 q_6_204 q_7_205 q_8_206 q_9_207 q_10_208 q_11_209 q_12_210 q_13_211 q_14_212 q_15_213 q_16_214 q_17_215 q_18_216 q_19_217 q_20_218 q_21_219 q_22_220 q_23_221 q_24_222 q_25_223 q_26_224 q_27_225 q_28_226 q_29_227 q_30_228 q_31_229 q_32_230 q_33_231 q_34_232 q_35_233 q_36_246 q_37_234 q_38_235 q_39_236 q_40_237 q_41_238 q_42_239 q_43_240 q_44_241 q_45_242 q_46_243 q_47_244 q_247 : Nat) : gwl cy (sgH L) phH (adH [q_1, q_1_2, q1_2_17, q_3_3, q_4_4, q_1_5_18, q_2_6_19, q_3_7_20, q_4_8_21, q_5_9_22, q_6_10_23, q_7_11_24, q_8_12_25, q_9_13_26, q_10_14_27, q_11_15_28, q_12_16_29, q_13_17_30, q1_14_21_34, q2_15_22_35, q3_16_23_36, q4_17_24_37, q_18_18_31, q_19_19_32, q_20_20_33, q_25_5, q_1_26_38, q_2_27_39, q_3_28_40, q_4_29_41, q_5_30_42, q_6_31_43, q_7_32_44, q_8_33_45, q_9_34_46, q_10_35_47, q_11_36_48, q_12_37_49, q_13_38_50, q1_14_42_54, q2_15_43_55, q3_16_44_56, q4_17_45_57, q_18_39_51, q_19_40_52, q_20_41_53, q_46_6, q1_47_58, q2_48_59, q3_49_60, q_50_7, q1_51_61, q2_52_62, q3_53_63, q_54_8, q1_55_64, q2_56_65, q3_57_66, q_58_9, q1_59_67, q2_60_68, q3_61_69, q_62_10, q_94_70, q1_95_115, q2_96_116, q3_97_117, q_98_71, q1_99_118, q2_100_119, q3_101_120, q_102_72, q1_103_121, q2_104_122, q3_105_123, q_106_73, q1_107_124, q2_108_125, q3_109_126, q_110_74, q1_111_127, q2_112_128, q3_113_129, q_114_75, q1_115_130, q2_116_131, q3_117_132, q_118_76, q1_119_133, q2_120_134, q3_121_135, q_122_77, q1_123_136, q2_124_137, q3_125_138, q_126_78, q1_127_139, q2_128_140, q3_129_141, q_130_79, q1_131_142, q2_132_143, q3_133_144, q_134_80, q1_135_145, q2_136_146, q3_137_147, q_138_81, q1_139_148, q2_140_149, q3_141_150, q_142_82, q1_143_151, q2_144_152, q3_145_153, q_146_83, q1_147_154, q2_148_155, q3_149_156, q_150_84, q1_151_157, q2_152_158, q3_153_159, q_154_85, q1_155_160, q2_156_161, q3_157_162, q_63_11, q_158_86, q_1_159_163, q1_2_162_166, q2_3_163_167, q3_4_164_168, q_5_160_164, q1_6_165_169, q2_7_166_170, q3_8_167_171, q_9_161_165, q_168_87, q_1_169_172, q1_2_172_175, q2_3_173_176, q3_4_174_177, q_5_170_173, q1_6_175_178, q2_7_176_179, q3_8_177_180, q_9_171_174, q_178_88, q_1_179_181, q1_2_182_184, q2_3_183_185, q3_4_184_186, q_5_180_182, q1_6_185_187, q2_7_186_188, q3_8_187_189, q_9_181_183, q_188_89, q_1_189_190, q1_2_192_193, q2_3_193_194, q3_4_194_195, q_5_190_191, q1_6_195_196, q2_7_196_197, q3_8_197_198, q_9_191_192, q_64_12, q_1_65_90, q_2_66_91, q_67_13, q_1_68_92, q_2_69_93, q1_3_73_97, q2_4_74_98, q3_5_75_99, q_6_70_94, q1_7_76_100, q2_8_77_101, q3_9_78_102, q_10_71_95, q1_11_79_103, q2_12_80_104, q3_13_81_105, q_14_72_96, q1_15_82_106, q2_16_83_107, q3_17_84_108, q_85_14, q1_86_109, q2_87_110, q3_88_111, q4_89_112, q_90_15, q1_91_113, q2_92_114, q_93_16, q_199, q_1_200, q_2_245, q_3_201, q_4_202, q_5_203, q_6_204, q_7_205, q_8_206, q_9_207, q_10_208, q_11_209, q_12_210, q_13_211, q_14_212, q_15_213, q_16_214, q_17_215, q_18_216, q_19_217, q_20_218, q_21_219, q_22_220, q_23_221, q_24_222, q_25_223, q_26_224, q_27_225, q_28_226, q_29_227, q_30_228, q_31_229, q_32_230, q_33_231, q_34_232, q_35_233, q_36_246, q_37_234, q_38_235, q_39_236, q_40_237, q_41_238, q_42_239, q_43_240, q_44_241, q_45_242, q_46_243, q_47_244, q_247] adT) 0 lcl_00 [(q_1, .inr (11, [.ref q_1_2, .ref q_3_3, .ref q_4_4, .ref q_25_5, .ref q_46_6, .ref q_50_7, .ref q_54_8, .ref q_58_9, .ref q_62_10, .int 0, .int 0, .ref q_63_11, .ref q_64_12, .ref q_67_13, .ref q_85_14, .ref q_90_15, .ref q_93_16])), (q_1_2, .inr (9, [.ref q1_2_17, .int 0, .int 0, .int 0, .int 0, .int 32, .long 0, .int 0, .int 0])), (q1_2_17, .inl (cy 0, 1000, .inl (fun _ => 0))), (q_3_3, .inr (1, [.int 0, .int 0, .int 0])), (q_4_4, .inr (0, [.ref q_1_5_18, .ref q_2_6_19, .ref q_3_7_20, .ref q_4_8_21, .ref q_5_9_22, .ref q_6_10_23, .ref q_7_11_24, .ref q_8_12_25, .ref q_9_13_26, .ref q_10_14_27, .ref q_11_15_28, .ref q_12_16_29, .ref q_13_17_30, .int 0, .int 0, .int 0, .int 2, .ref q_18_18_31, .ref q_19_19_32, .ref q_20_20_33])), (q_1_5_18, .inl (cy 2, 6, .inr (.inl (fun _ => 0)))), (q_2_6_19, .inl (cy 1, 6, .inl (fun _ => 0))), (q_3_7_20, .inl (cy 1, 6, .inl (fun _ => 0))), (q_4_8_21, .inl (cy 1, 6, .inl (fun _ => 0))), (q_5_9_22, .inl (cy 1, 6, .inl (fun _ => 0))), (q_6_10_23, .inl (cy 1, 6, .inl (fun _ => 0))), (q_7_11_24, .inl (cy 1, 6, .inl (fun _ => 0))), (q_8_12_25, .inl (cy 1, 6, .inl (fun _ => 0))), (q_9_13_26, .inl (cy 2, 5, .inr (.inl (fun _ => 0)))), (q_10_14_27, .inl (cy 1, 5, .inl (fun _ => 0))), (q_11_15_28, .inl (cy 1, 5, .inl (fun _ => 0))), (q_12_16_29, .inl (cy 1, 5, .inl (fun _ => 0))), (q_13_17_30, .inr (3, [.ref q1_14_21_34, .int 0, .ref q2_15_22_35, .int 0, .int 0, .int 0, .ref q3_16_23_36, .ref q4_17_24_37])), (q1_14_21_34, .inl (cy 1, 1000, .inl (fun _ => 0))), (q2_15_22_35, .inl (cy 1, 40, .inl (fun _ => 0))), (q3_16_23_36, .inl (cy 1, 40, .inl (fun _ => 0))), (q4_17_24_37, .inl (cy 1, 5, .inl (fun _ => 0))), (q_18_18_31, .inl (cy 1, 360, .inl (fun _ => 0))), (q_19_19_32, .inl (cy 1, 30, .inl (fun _ => 0))), (q_20_20_33, .inl (cy 3, 60, .inl (fun _ => 0))), (q_25_5, .inr (0, [.ref q_1_26_38, .ref q_2_27_39, .ref q_3_28_40, .ref q_4_29_41, .ref q_5_30_42, .ref q_6_31_43, .ref q_7_32_44, .ref q_8_33_45, .ref q_9_34_46, .ref q_10_35_47, .ref q_11_36_48, .ref q_12_37_49, .ref q_13_38_50, .int 0, .int 0, .int 0, .int 2, .ref q_18_39_51, .ref q_19_40_52, .ref q_20_41_53])), (q_1_26_38, .inl (cy 2, 6, .inr (.inl (fun _ => 0)))), (q_2_27_39, .inl (cy 1, 6, .inl (fun _ => 0))), (q_3_28_40, .inl (cy 1, 6, .inl (fun _ => 0))), (q_4_29_41, .inl (cy 1, 6, .inl (fun _ => 0))), (q_5_30_42, .inl (cy 1, 6, .inl (fun _ => 0))), (q_6_31_43, .inl (cy 1, 6, .inl (fun _ => 0))), (q_7_32_44, .inl (cy 1, 6, .inl (fun _ => 0))), (q_8_33_45, .inl (cy 1, 6, .inl (fun _ => 0))), (q_9_34_46, .inl (cy 2, 5, .inr (.inl (fun _ => 0)))), (q_10_35_47, .inl (cy 1, 5, .inl (fun _ => 0))), (q_11_36_48, .inl (cy 1, 5, .inl (fun _ => 0))), (q_12_37_49, .inl (cy 1, 5, .inl (fun _ => 0))), (q_13_38_50, .inr (3, [.ref q1_14_42_54, .int 0, .ref q2_15_43_55, .int 0, .int 0, .int 0, .ref q3_16_44_56, .ref q4_17_45_57])), (q1_14_42_54, .inl (cy 1, 1000, .inl (fun _ => 0))), (q2_15_43_55, .inl (cy 1, 40, .inl (fun _ => 0))), (q3_16_44_56, .inl (cy 1, 40, .inl (fun _ => 0))), (q4_17_45_57, .inl (cy 1, 5, .inl (fun _ => 0))), (q_18_39_51, .inl (cy 1, 360, .inl (fun _ => 0))), (q_19_40_52, .inl (cy 1, 30, .inl (fun _ => 0))), (q_20_41_53, .inl (cy 3, 60, .inl (fun _ => 0))), (q_46_6, .inr (10, [.ref q1_47_58, .ref q2_48_59, .ref q3_49_60, .int 0])), (q1_47_58, .inl (cy 1, 40, .inl (fun _ => 0))), (q2_48_59, .inl (cy 1, 40, .inl (fun _ => 0))), (q3_49_60, .inl (cy 1, 40, .inl (fun _ => 0))), (q_50_7, .inr (10, [.ref q1_51_61, .ref q2_52_62, .ref q3_53_63, .int 0])), (q1_51_61, .inl (cy 1, 40, .inl (fun _ => 0))), (q2_52_62, .inl (cy 1, 40, .inl (fun _ => 0))), (q3_53_63, .inl (cy 1, 40, .inl (fun _ => 0))), (q_54_8, .inr (8, [.int 0, .int 0, .int 0, .ref q1_55_64, .ref q2_56_65, .ref q3_57_66])), (q1_55_64, .inl (cy 1, 6, .inl (fun _ => 0))), (q2_56_65, .inl (cy 1, 6, .inl (fun _ => 0))), (q3_57_66, .inl (cy 1, 6, .inl (fun _ => 0))), (q_58_9, .inr (8, [.int 0, .int 0, .int 0, .ref q1_59_67, .ref q2_60_68, .ref q3_61_69])), (q1_59_67, .inl (cy 1, 6, .inl (fun _ => 0))), (q2_60_68, .inl (cy 1, 6, .inl (fun _ => 0))), (q3_61_69, .inl (cy 1, 6, .inl (fun _ => 0))), (q_62_10, .inl (cy 5, 16, .inr (.inr (.inr (.inr (va_up (va_up (va_up (va_up (va_up (va_up (va_up (va_up (va_up (va_up (va_up (va_up (va_up (va_up (va_up (va_up (fun _ => none) 0 (some q_94_70)) 1 (some q_98_71)) 2 (some q_102_72)) 3 (some q_106_73)) 4 (some q_110_74)) 5 (some q_114_75)) 6 (some q_118_76)) 7 (some q_122_77)) 8 (some q_126_78)) 9 (some q_130_79)) 10 (some q_134_80)) 11 (some q_138_81)) 12 (some q_142_82)) 13 (some q_146_83)) 14 (some q_150_84)) 15 (some q_154_85))))))), (q_94_70, .inr (8, [.int 0, .int 0, .int 0, .ref q1_95_115, .ref q2_96_116, .ref q3_97_117])), (q1_95_115, .inl (cy 1, 6, .inl (fun _ => 0))), (q2_96_116, .inl (cy 1, 6, .inl (fun _ => 0))), (q3_97_117, .inl (cy 1, 6, .inl (fun _ => 0))), (q_98_71, .inr (8, [.int 0, .int 0, .int 0, .ref q1_99_118, .ref q2_100_119, .ref q3_101_120])), (q1_99_118, .inl (cy 1, 6, .inl (fun _ => 0))), (q2_100_119, .inl (cy 1, 6, .inl (fun _ => 0))), (q3_101_120, .inl (cy 1, 6, .inl (fun _ => 0))), (q_102_72, .inr (8, [.int 0, .int 0, .int 0, .ref q1_103_121, .ref q2_104_122, .ref q3_105_123])), (q1_103_121, .inl (cy 1, 6, .inl (fun _ => 0))), (q2_104_122, .inl (cy 1, 6, .inl (fun _ => 0))), (q3_105_123, .inl (cy 1, 6, .inl (fun _ => 0))), (q_106_73, .inr (8, [.int 0, .int 0, .int 0, .ref q1_107_124, .ref q2_108_125, .ref q3_109_126])), (q1_107_124, .inl (cy 1, 6, .inl (fun _ => 0))), (q2_108_125, .inl (cy 1, 6, .inl (fun _ => 0))), (q3_109_126, .inl (cy 1, 6, .inl (fun _ => 0))), (q_110_74, .inr (8, [.int 0, .int 0, .int 0, .ref q1_111_127, .ref q2_112_128, .ref q3_113_129])), (q1_111_127, .inl (cy 1, 6, .inl (fun _ => 0))), (q2_112_128, .inl (cy 1, 6, .inl (fun _ => 0))), (q3_113_129, .inl (cy 1, 6, .inl (fun _ => 0))), (q_114_75, .inr (8, [.int 0, .int 0, .int 0, .ref q1_115_130, .ref q2_116_131, .ref q3_117_132])), (q1_115_130, .inl (cy 1, 6, .inl (fun _ => 0))), (q2_116_131, .inl (cy 1, 6, .inl (fun _ => 0))), (q3_117_132, .inl (cy 1, 6, .inl (fun _ => 0))), (q_118_76, .inr (8, [.int 0, .int 0, .int 0, .ref q1_119_133, .ref q2_120_134, .ref q3_121_135])), (q1_119_133, .inl (cy 1, 6, .inl (fun _ => 0))), (q2_120_134, .inl (cy 1, 6, .inl (fun _ => 0))), (q3_121_135, .inl (cy 1, 6, .inl (fun _ => 0))), (q_122_77, .inr (8, [.int 0, .int 0, .int 0, .ref q1_123_136, .ref q2_124_137, .ref q3_125_138])), (q1_123_136, .inl (cy 1, 6, .inl (fun _ => 0))), (q2_124_137, .inl (cy 1, 6, .inl (fun _ => 0))), (q3_125_138, .inl (cy 1, 6, .inl (fun _ => 0))), (q_126_78, .inr (8, [.int 0, .int 0, .int 0, .ref q1_127_139, .ref q2_128_140, .ref q3_129_141])), (q1_127_139, .inl (cy 1, 6, .inl (fun _ => 0))), (q2_128_140, .inl (cy 1, 6, .inl (fun _ => 0))), (q3_129_141, .inl (cy 1, 6, .inl (fun _ => 0))), (q_130_79, .inr (8, [.int 0, .int 0, .int 0, .ref q1_131_142, .ref q2_132_143, .ref q3_133_144])), (q1_131_142, .inl (cy 1, 6, .inl (fun _ => 0))), (q2_132_143, .inl (cy 1, 6, .inl (fun _ => 0))), (q3_133_144, .inl (cy 1, 6, .inl (fun _ => 0))), (q_134_80, .inr (8, [.int 0, .int 0, .int 0, .ref q1_135_145, .ref q2_136_146, .ref q3_137_147])), (q1_135_145, .inl (cy 1, 6, .inl (fun _ => 0))), (q2_136_146, .inl (cy 1, 6, .inl (fun _ => 0))), (q3_137_147, .inl (cy 1, 6, .inl (fun _ => 0))), (q_138_81, .inr (8, [.int 0, .int 0, .int 0, .ref q1_139_148, .ref q2_140_149, .ref q3_141_150])), (q1_139_148, .inl (cy 1, 6, .inl (fun _ => 0))), (q2_140_149, .inl (cy 1, 6, .inl (fun _ => 0))), (q3_141_150, .inl (cy 1, 6, .inl (fun _ => 0))), (q_142_82, .inr (8, [.int 0, .int 0, .int 0, .ref q1_143_151, .ref q2_144_152, .ref q3_145_153])), (q1_143_151, .inl (cy 1, 6, .inl (fun _ => 0))), (q2_144_152, .inl (cy 1, 6, .inl (fun _ => 0))), (q3_145_153, .inl (cy 1, 6, .inl (fun _ => 0))), (q_146_83, .inr (8, [.int 0, .int 0, .int 0, .ref q1_147_154, .ref q2_148_155, .ref q3_149_156])), (q1_147_154, .inl (cy 1, 6, .inl (fun _ => 0))), (q2_148_155, .inl (cy 1, 6, .inl (fun _ => 0))), (q3_149_156, .inl (cy 1, 6, .inl (fun _ => 0))), (q_150_84, .inr (8, [.int 0, .int 0, .int 0, .ref q1_151_157, .ref q2_152_158, .ref q3_153_159])), (q1_151_157, .inl (cy 1, 6, .inl (fun _ => 0))), (q2_152_158, .inl (cy 1, 6, .inl (fun _ => 0))), (q3_153_159, .inl (cy 1, 6, .inl (fun _ => 0))), (q_154_85, .inr (8, [.int 0, .int 0, .int 0, .ref q1_155_160, .ref q2_156_161, .ref q3_157_162])), (q1_155_160, .inl (cy 1, 6, .inl (fun _ => 0))), (q2_156_161, .inl (cy 1, 6, .inl (fun _ => 0))), (q3_157_162, .inl (cy 1, 6, .inl (fun _ => 0))), (q_63_11, .inl (cy 4, 4, .inr (.inr (.inr (.inr (va_up (va_up (va_up (va_up (fun _ => none) 0 (some q_158_86)) 1 (some q_168_87)) 2 (some q_178_88)) 3 (some q_188_89))))))), (q_158_86, .inr (4, [.int 0, .ref q_1_159_163, .ref q_5_160_164, .ref q_9_161_165])), (q_1_159_163, .inr (8, [.int 0, .int 0, .int 0, .ref q1_2_162_166, .ref q2_3_163_167, .ref q3_4_164_168])), (q1_2_162_166, .inl (cy 1, 6, .inl (fun _ => 0))), (q2_3_163_167, .inl (cy 1, 6, .inl (fun _ => 0))), (q3_4_164_168, .inl (cy 1, 6, .inl (fun _ => 0))), (q_5_160_164, .inr (10, [.ref q1_6_165_169, .ref q2_7_166_170, .ref q3_8_167_171, .int 0])), (q1_6_165_169, .inl (cy 1, 40, .inl (fun _ => 0))), (q2_7_166_170, .inl (cy 1, 40, .inl (fun _ => 0))), (q3_8_167_171, .inl (cy 1, 40, .inl (fun _ => 0))), (q_9_161_165, .inl (cy 1, 6, .inl (fun _ => 0))), (q_168_87, .inr (4, [.int 0, .ref q_1_169_172, .ref q_5_170_173, .ref q_9_171_174])), (q_1_169_172, .inr (8, [.int 0, .int 0, .int 0, .ref q1_2_172_175, .ref q2_3_173_176, .ref q3_4_174_177])), (q1_2_172_175, .inl (cy 1, 6, .inl (fun _ => 0))), (q2_3_173_176, .inl (cy 1, 6, .inl (fun _ => 0))), (q3_4_174_177, .inl (cy 1, 6, .inl (fun _ => 0))), (q_5_170_173, .inr (10, [.ref q1_6_175_178, .ref q2_7_176_179, .ref q3_8_177_180, .int 0])), (q1_6_175_178, .inl (cy 1, 40, .inl (fun _ => 0))), (q2_7_176_179, .inl (cy 1, 40, .inl (fun _ => 0))), (q3_8_177_180, .inl (cy 1, 40, .inl (fun _ => 0))), (q_9_171_174, .inl (cy 1, 6, .inl (fun _ => 0))), (q_178_88, .inr (4, [.int 0, .ref q_1_179_181, .ref q_5_180_182, .ref q_9_181_183])), (q_1_179_181, .inr (8, [.int 0, .int 0, .int 0, .ref q1_2_182_184, .ref q2_3_183_185, .ref q3_4_184_186])), (q1_2_182_184, .inl (cy 1, 6, .inl (fun _ => 0))), (q2_3_183_185, .inl (cy 1, 6, .inl (fun _ => 0))), (q3_4_184_186, .inl (cy 1, 6, .inl (fun _ => 0))), (q_5_180_182, .inr (10, [.ref q1_6_185_187, .ref q2_7_186_188, .ref q3_8_187_189, .int 0])), (q1_6_185_187, .inl (cy 1, 40, .inl (fun _ => 0))), (q2_7_186_188, .inl (cy 1, 40, .inl (fun _ => 0))), (q3_8_187_189, .inl (cy 1, 40, .inl (fun _ => 0))), (q_9_181_183, .inl (cy 1, 6, .inl (fun _ => 0))), (q_188_89, .inr (4, [.int 0, .ref q_1_189_190, .ref q_5_190_191, .ref q_9_191_192])), (q_1_189_190, .inr (8, [.int 0, .int 0, .int 0, .ref q1_2_192_193, .ref q2_3_193_194, .ref q3_4_194_195])), (q1_2_192_193, .inl (cy 1, 6, .inl (fun _ => 0))), (q2_3_193_194, .inl (cy 1, 6, .inl (fun _ => 0))), (q3_4_194_195, .inl (cy 1, 6, .inl (fun _ => 0))), (q_5_190_191, .inr (10, [.ref q1_6_195_196, .ref q2_7_196_197, .ref q3_8_197_198, .int 0])), (q1_6_195_196, .inl (cy 1, 40, .inl (fun _ => 0))), (q2_7_196_197, .inl (cy 1, 40, .inl (fun _ => 0))), (q3_8_197_198, .inl (cy 1, 40, .inl (fun _ => 0))), (q_9_191_192, .inl (cy 1, 6, .inl (fun _ => 0))), (q_64_12, .inr (2, [.ref q_1_65_90, .int 0, .int 0, .int 0, .ref q_2_66_91])), (q_1_65_90, .inl (cy 1, 6, .inl (fl 6 (-1) (fun _ => 0)))), (q_2_66_91, .inl (cy 1, 6, .inl (fun _ => 0))), (q_67_13, .inr (7, [.int 0, .int (-1), .int 0, .int (-1), .int 0, .ref q_1_68_92])), (q_1_68_92, .inl (cy 5, 4, .inr (.inr (.inr (.inr (va_up (va_up (va_up (va_up (fun _ => none) 0 (some q_2_69_93)) 1 (some q_6_70_94)) 2 (some q_10_71_95)) 3 (some q_14_72_96))))))), (q_2_69_93, .inr (8, [.int 0, .int 0, .int 0, .ref q1_3_73_97, .ref q2_4_74_98, .ref q3_5_75_99])), (q1_3_73_97, .inl (cy 1, 6, .inl (fun _ => 0))), (q2_4_74_98, .inl (cy 1, 6, .inl (fun _ => 0))), (q3_5_75_99, .inl (cy 1, 6, .inl (fun _ => 0))), (q_6_70_94, .inr (8, [.int 0, .int 0, .int 0, .ref q1_7_76_100, .ref q2_8_77_101, .ref q3_9_78_102])), (q1_7_76_100, .inl (cy 1, 6, .inl (fun _ => 0))), (q2_8_77_101, .inl (cy 1, 6, .inl (fun _ => 0))), (q3_9_78_102, .inl (cy 1, 6, .inl (fun _ => 0))), (q_10_71_95, .inr (8, [.int 0, .int 0, .int 0, .ref q1_11_79_103, .ref q2_12_80_104, .ref q3_13_81_105])), (q1_11_79_103, .inl (cy 1, 6, .inl (fun _ => 0))), (q2_12_80_104, .inl (cy 1, 6, .inl (fun _ => 0))), (q3_13_81_105, .inl (cy 1, 6, .inl (fun _ => 0))), (q_14_72_96, .inr (8, [.int 0, .int 0, .int 0, .ref q1_15_82_106, .ref q2_16_83_107, .ref q3_17_84_108])), (q1_15_82_106, .inl (cy 1, 6, .inl (fun _ => 0))), (q2_16_83_107, .inl (cy 1, 6, .inl (fun _ => 0))), (q3_17_84_108, .inl (cy 1, 6, .inl (fun _ => 0))), (q_85_14, .inr (6, [.int 0, .ref q1_86_109, .ref q2_87_110, .ref q3_88_111, .ref q4_89_112, .int 0, .int 0])), (q1_86_109, .inl (cy 1, 6, .inl (fun _ => 0))), (q2_87_110, .inl (cy 1, 6, .inl (fun _ => 0))), (q3_88_111, .inl (cy 1, 6, .inl (fun _ => 0))), (q4_89_112, .inl (cy 1, 64, .inl (fun _ => 0))), (q_90_15, .inr (5, [.int 0, .ref q1_91_113, .ref q2_92_114])), (q1_91_113, .inl (cy 1, 6, .inl (fun _ => 0))), (q2_92_114, .inl (cy 1, 6, .inl (fun _ => 0))), (q_93_16, .inl (cy 1, 25, .inl (fun _ => 0))), (q_199, .inr (12, [.int 0, .int 0, .ref q_1_200, .int 0, .int 0, .int 0, .int 0, .long 0, .int 0, .int 0, .ref q_2_245, .ref q_3_201, .ref q_4_202, .ref q_5_203, .ref q_6_204, .ref q_7_205, .ref q_8_206, .ref q_9_207, .ref q_10_208, .ref q_11_209, .ref q_12_210, .ref q_13_211, .ref q_14_212, .ref q_15_213, .ref q_16_214, .ref q_17_215, .int 0, .int 0, .ref q_18_216, .ref q_19_217, .ref q_20_218, .ref q_21_219, .ref q_22_220, .ref q_23_221, .ref q_24_222, .ref q_25_223, .ref q_26_224, .ref q_27_225, .ref q_28_226, .ref q_29_227, .int 0, .long 0, .ref q_30_228, .ref q_31_229, .ref q_32_230, .ref q_33_231, .ref q_34_232, .ref q_35_233, .ref q_36_246, .ref q_37_234, .ref q_38_235, .ref q_39_236, .ref q_40_237, .ref q_41_238, .int 0, .int 0, .int 0, .int 0, .ref q_42_239, .ref q_43_240, .ref q_44_241, .ref q_45_242, .int 0, .ref q_46_243, .ref q_47_244, .int 0, .long 0])), (q_1_200, .inl (cy 1, 1000, .inl (fun _ => 0))), (q_2_245, .inl (cy 1, 10, .inl (upd (fun _ => 0) 4 2))), (q_3_201, .inl (cy 2, 12, .inr (.inl (fun _ => 0)))), (q_4_202, .inl (cy 2, 10, .inr (.inl (fun _ => 0)))), (q_5_203, .inl (cy 1, 12, .inl (fun _ => 0))), (q_6_204, .inl (cy 1, 12, .inl (fun _ => 0))), (q_7_205, .inl (cy 1, 12, .inl (fun _ => 0))), (q_8_206, .inl (cy 1, 12, .inl (fun _ => 0))), (q_9_207, .inl (cy 1, 12, .inl (fun _ => 0))), (q_10_208, .inl (cy 1, 12, .inl (fun _ => 0))), (q_11_209, .inl (cy 1, 10, .inl (fun _ => 0))), (q_12_210, .inl (cy 1, 10, .inl (fun _ => 0))), (q_13_211, .inl (cy 1, 10, .inl (fun _ => 0))), (q_14_212, .inl (cy 1, 12, .inl (fun _ => 0))), (q_15_213, .inl (cy 1, 2, .inl (fun _ => 0))), (q_16_214, .inl (cy 1, 2, .inl (fun _ => 0))), (q_17_215, .inl (cy 1, 2000, .inl (fun _ => 0))), (q_18_216, .inl (cy 1, 7, .inl (fun _ => 0))), (q_19_217, .inl (cy 3, 7, .inl (fun _ => 0))), (q_20_218, .inl (cy 1, 7, .inl (fun _ => 0))), (q_21_219, .inl (cy 1, 7, .inl (fun _ => 0))), (q_22_220, .inl (cy 1, 7, .inl (fun _ => 0))), (q_23_221, .inl (cy 1, 7, .inl (fun _ => 0))), (q_24_222, .inl (cy 1, 7, .inl (fun _ => 0))), (q_25_223, .inl (cy 1, 7, .inl (fun _ => 0))), (q_26_224, .inl (cy 1, 7, .inl (fun _ => 0))), (q_27_225, .inl (cy 1, 7, .inl (fun _ => 0))), (q_28_226, .inl (cy 1, 7, .inl (fun _ => 0))), (q_29_227, .inl (cy 1, 20, .inl (fun _ => 0))), (q_30_228, .inl (cy 1, 6, .inl (fun _ => 0))), (q_31_229, .inl (cy 1, 240, .inl (fun _ => 0))), (q_32_230, .inl (cy 1, 240, .inl (fun _ => 0))), (q_33_231, .inl (cy 1, 240, .inl (fun _ => 0))), (q_34_232, .inl (cy 3, 240, .inl (fun _ => 0))), (q_35_233, .inl (cy 1, 30, .inl (fun _ => 0))), (q_36_246, .inl (cy 1, 21, .inl (upd (upd (upd (upd (upd (upd (fun _ => 0) 9 (-1)) 10 (-1)) 11 (-1)) 12 (-1)) 13 (-1)) 14 (-1)))), (q_37_234, .inl (cy 1, 21, .inl (fun _ => 0))), (q_38_235, .inl (cy 1, 84, .inl (fun _ => 0))), (q_39_236, .inl (cy 1, 84, .inl (fun _ => 0))), (q_40_237, .inl (cy 1, 336, .inl (fun _ => 0))), (q_41_238, .inl (cy 3, 4, .inl (fun _ => 0))), (q_42_239, .inl (cy 1, 6, .inl (fun _ => 0))), (q_43_240, .inl (cy 1, 6, .inl (fun _ => 0))), (q_44_241, .inl (cy 1, 6, .inl (fun _ => 0))), (q_45_242, .inl (cy 1, 64, .inl (fun _ => 0))), (q_46_243, .inl (cy 1, 6, .inl (fun _ => 0))), (q_47_244, .inl (cy 1, 6, .inl (fun _ => 0))), (q_247, .inl (cy 2, 1, .inr (.inl (fun _ => 0))))] := by
  refine ⟨⟨rfl, ?_⟩, ?_⟩
  · exact ⟨_, rfl, gR rfl, gR rfl, gR rfl, gR rfl, gR rfl, gR rfl, gR rfl, gR rfl, gR rfl, gI (v := 0) rfl rfl, gI (v := 0) rfl rfl, gR rfl, gR rfl, gR rfl, gR rfl, gR rfl, gR rfl, trivial⟩
  refine ⟨⟨rfl, ?_⟩, ?_⟩
  · exact ⟨_, rfl, gR rfl, gI (v := 0) rfl rfl, gI (v := 0) rfl rfl, gI (v := 0) rfl rfl, gI (v := 0) rfl rfl, gI (v := 32) rfl rfl, gJ (v := 0) rfl rfl, gI (v := 0) rfl rfl, gI (v := 0) rfl rfl, trivial⟩
  refine ⟨⟨rfl, ?_⟩, ?_⟩
  · exact ⟨_, rfl, rfl⟩
  refine ⟨⟨rfl, ?_⟩, ?_⟩
  · exact ⟨_, rfl, gI (v := 0) rfl rfl, gI (v := 0) rfl rfl, gI (v := 0) rfl rfl, trivial⟩
  refine ⟨⟨rfl, ?_⟩, ?_⟩
  · exact ⟨_, rfl, gR rfl, gR rfl, gR rfl, gR rfl, gR rfl, gR rfl, gR rfl, gR rfl, gR rfl, gR rfl, gR rfl, gR rfl, gR rfl, gI (v := 0) rfl rfl, gI (v := 0) rfl rfl, gI (v := 0) rfl rfl, gI (v := 2) rfl rfl, gR rfl, gR rfl, gR rfl, trivial⟩
  refine ⟨⟨rfl, ?_⟩, ?_⟩
  · exact ⟨_, ob_nam (by decide) (by decide) (by decide), rfl, fun j av hj => by
      match j, hj with
      | 0, hj => obtain rfl : vi 14 0 = av := Option.some.inj hj; exact gI (v := 0) rfl rfl
      | 1, hj => obtain rfl : vL 15 0 = av := Option.some.inj hj; exact gJ (v := 0) rfl rfl
      | 2, hj => obtain rfl : vi 16 0 = av := Option.some.inj hj; exact gI (v := (-1)) rfl rfl
      | j + 3, hj => simp at hj⟩
  refine ⟨⟨rfl, ?_⟩, ?_⟩
  · exact ⟨_, rfl, rfl⟩
  refine ⟨⟨rfl, ?_⟩, ?_⟩
  · exact ⟨_, rfl, rfl⟩
  refine ⟨⟨rfl, ?_⟩, ?_⟩
  · exact ⟨_, rfl, rfl⟩
  refine ⟨⟨rfl, ?_⟩, ?_⟩
  · exact ⟨_, rfl, rfl⟩
  refine ⟨⟨rfl, ?_⟩, ?_⟩
  · exact ⟨_, rfl, rfl⟩
  refine ⟨⟨rfl, ?_⟩, ?_⟩
  · exact ⟨_, rfl, rfl⟩
  refine ⟨⟨rfl, ?_⟩, ?_⟩
  · exact ⟨_, rfl, rfl⟩
  refine ⟨⟨rfl, ?_⟩, ?_⟩
  · exact ⟨_, ob_nam (by decide) (by decide) (by decide), rfl, fun j av hj => by
      match j, hj with
      | 0, hj => obtain rfl : vi 17 0 = av := Option.some.inj hj; exact gI (v := 0) rfl rfl
      | 1, hj => obtain rfl : vL 18 0 = av := Option.some.inj hj; exact gJ (v := 0) rfl rfl
      | 2, hj => obtain rfl : vi 19 0 = av := Option.some.inj hj; exact gI (v := (-1)) rfl rfl
      | j + 3, hj => simp at hj⟩
  refine ⟨⟨rfl, ?_⟩, ?_⟩
  · exact ⟨_, rfl, rfl⟩
  refine ⟨⟨rfl, ?_⟩, ?_⟩
  · exact ⟨_, rfl, rfl⟩
  refine ⟨⟨rfl, ?_⟩, ?_⟩
  · exact ⟨_, rfl, rfl⟩
  refine ⟨⟨rfl, ?_⟩, ?_⟩
  · exact ⟨_, rfl, gR rfl, gI (v := 0) rfl rfl, gR rfl, gI (v := 0) rfl rfl, gI (v := 0) rfl rfl, gI (v := 0) rfl rfl, gR rfl, gR rfl, trivial⟩
  refine ⟨⟨rfl, ?_⟩, ?_⟩
  · exact ⟨_, rfl, rfl⟩
  refine ⟨⟨rfl, ?_⟩, ?_⟩
  · exact ⟨_, rfl, rfl⟩
  refine ⟨⟨rfl, ?_⟩, ?_⟩
  · exact ⟨_, rfl, rfl⟩
  refine ⟨⟨rfl, ?_⟩, ?_⟩
  · exact ⟨_, rfl, rfl⟩
  refine ⟨⟨rfl, ?_⟩, ?_⟩
  · exact ⟨_, rfl, rfl⟩
  refine ⟨⟨rfl, ?_⟩, ?_⟩
  · exact ⟨_, rfl, rfl⟩
  refine ⟨⟨rfl, ?_⟩, ?_⟩
  · exact ⟨_, rfl, rfl⟩
  refine ⟨⟨rfl, ?_⟩, ?_⟩
  · exact ⟨_, rfl, gR rfl, gR rfl, gR rfl, gR rfl, gR rfl, gR rfl, gR rfl, gR rfl, gR rfl, gR rfl, gR rfl, gR rfl, gR rfl, gI (v := 0) rfl rfl, gI (v := 0) rfl rfl, gI (v := 0) rfl rfl, gI (v := 2) rfl rfl, gR rfl, gR rfl, gR rfl, trivial⟩
  refine ⟨⟨rfl, ?_⟩, ?_⟩
  · exact ⟨_, ob_nam (by decide) (by decide) (by decide), rfl, fun j av hj => by
      match j, hj with
      | 0, hj => obtain rfl : vi 28 0 = av := Option.some.inj hj; exact gI (v := 0) rfl rfl
      | 1, hj => obtain rfl : vL 29 0 = av := Option.some.inj hj; exact gJ (v := 0) rfl rfl
      | 2, hj => obtain rfl : vi 30 0 = av := Option.some.inj hj; exact gI (v := (-1)) rfl rfl
      | j + 3, hj => simp at hj⟩
  refine ⟨⟨rfl, ?_⟩, ?_⟩
  · exact ⟨_, rfl, rfl⟩
  refine ⟨⟨rfl, ?_⟩, ?_⟩
  · exact ⟨_, rfl, rfl⟩
  refine ⟨⟨rfl, ?_⟩, ?_⟩
  · exact ⟨_, rfl, rfl⟩
  refine ⟨⟨rfl, ?_⟩, ?_⟩
  · exact ⟨_, rfl, rfl⟩
  refine ⟨⟨rfl, ?_⟩, ?_⟩
  · exact ⟨_, rfl, rfl⟩
  refine ⟨⟨rfl, ?_⟩, ?_⟩
  · exact ⟨_, rfl, rfl⟩
  refine ⟨⟨rfl, ?_⟩, ?_⟩
  · exact ⟨_, rfl, rfl⟩
  refine ⟨⟨rfl, ?_⟩, ?_⟩
  · exact ⟨_, ob_nam (by decide) (by decide) (by decide), rfl, fun j av hj => by
      match j, hj with
      | 0, hj => obtain rfl : vi 31 0 = av := Option.some.inj hj; exact gI (v := 0) rfl rfl
      | 1, hj => obtain rfl : vL 32 0 = av := Option.some.inj hj; exact gJ (v := 0) rfl rfl
      | 2, hj => obtain rfl : vi 33 0 = av := Option.some.inj hj; exact gI (v := (-1)) rfl rfl
      | j + 3, hj => simp at hj⟩
  refine ⟨⟨rfl, ?_⟩, ?_⟩
  · exact ⟨_, rfl, rfl⟩
  refine ⟨⟨rfl, ?_⟩, ?_⟩
  · exact ⟨_, rfl, rfl⟩
  refine ⟨⟨rfl, ?_⟩, ?_⟩
  · exact ⟨_, rfl, rfl⟩
  refine ⟨⟨rfl, ?_⟩, ?_⟩
  · exact ⟨_, rfl, gR rfl, gI (v := 0) rfl rfl, gR rfl, gI (v := 0) rfl rfl, gI (v := 0) rfl rfl, gI (v := 0) rfl rfl, gR rfl, gR rfl, trivial⟩
  refine ⟨⟨rfl, ?_⟩, ?_⟩
  · exact ⟨_, rfl, rfl⟩
  refine ⟨⟨rfl, ?_⟩, ?_⟩
  · exact ⟨_, rfl, rfl⟩
  refine ⟨⟨rfl, ?_⟩, ?_⟩
  · exact ⟨_, rfl, rfl⟩
  refine ⟨⟨rfl, ?_⟩, ?_⟩
  · exact ⟨_, rfl, rfl⟩
  refine ⟨⟨rfl, ?_⟩, ?_⟩
  · exact ⟨_, rfl, rfl⟩
  refine ⟨⟨rfl, ?_⟩, ?_⟩
  · exact ⟨_, rfl, rfl⟩
  refine ⟨⟨rfl, ?_⟩, ?_⟩
  · exact ⟨_, rfl, rfl⟩
  refine ⟨⟨rfl, ?_⟩, ?_⟩
  · exact ⟨_, rfl, gR rfl, gR rfl, gR rfl, gI (v := 0) rfl rfl, trivial⟩
  refine ⟨⟨rfl, ?_⟩, ?_⟩
  · exact ⟨_, rfl, rfl⟩
  refine ⟨⟨rfl, ?_⟩, ?_⟩
  · exact ⟨_, rfl, rfl⟩
  refine ⟨⟨rfl, ?_⟩, ?_⟩
  · exact ⟨_, rfl, rfl⟩
  refine ⟨⟨rfl, ?_⟩, ?_⟩
  · exact ⟨_, rfl, gR rfl, gR rfl, gR rfl, gI (v := 0) rfl rfl, trivial⟩
  refine ⟨⟨rfl, ?_⟩, ?_⟩
  · exact ⟨_, rfl, rfl⟩
  refine ⟨⟨rfl, ?_⟩, ?_⟩
  · exact ⟨_, rfl, rfl⟩
  refine ⟨⟨rfl, ?_⟩, ?_⟩
  · exact ⟨_, rfl, rfl⟩
  refine ⟨⟨rfl, ?_⟩, ?_⟩
  · exact ⟨_, rfl, gI (v := 0) rfl rfl, gI (v := 0) rfl rfl, gI (v := 0) rfl rfl, gR rfl, gR rfl, gR rfl, trivial⟩
  refine ⟨⟨rfl, ?_⟩, ?_⟩
  · exact ⟨_, rfl, rfl⟩
  refine ⟨⟨rfl, ?_⟩, ?_⟩
  · exact ⟨_, rfl, rfl⟩
  refine ⟨⟨rfl, ?_⟩, ?_⟩
  · exact ⟨_, rfl, rfl⟩
  refine ⟨⟨rfl, ?_⟩, ?_⟩
  · exact ⟨_, rfl, gI (v := 0) rfl rfl, gI (v := 0) rfl rfl, gI (v := 0) rfl rfl, gR rfl, gR rfl, gR rfl, trivial⟩
  refine ⟨⟨rfl, ?_⟩, ?_⟩
  · exact ⟨_, rfl, rfl⟩
  refine ⟨⟨rfl, ?_⟩, ?_⟩
  · exact ⟨_, rfl, rfl⟩
  refine ⟨⟨rfl, ?_⟩, ?_⟩
  · exact ⟨_, rfl, rfl⟩
  refine ⟨⟨rfl, ?_⟩, ?_⟩
  · exact ⟨_, rfl, fun j c hj => by
      match j, hj with
      | 0, hj => obtain rfl : 63 = c := Option.some.inj hj; rfl
      | 1, hj => obtain rfl : 67 = c := Option.some.inj hj; rfl
      | 2, hj => obtain rfl : 71 = c := Option.some.inj hj; rfl
      | 3, hj => obtain rfl : 75 = c := Option.some.inj hj; rfl
      | 4, hj => obtain rfl : 79 = c := Option.some.inj hj; rfl
      | 5, hj => obtain rfl : 83 = c := Option.some.inj hj; rfl
      | 6, hj => obtain rfl : 87 = c := Option.some.inj hj; rfl
      | 7, hj => obtain rfl : 91 = c := Option.some.inj hj; rfl
      | 8, hj => obtain rfl : 95 = c := Option.some.inj hj; rfl
      | 9, hj => obtain rfl : 99 = c := Option.some.inj hj; rfl
      | 10, hj => obtain rfl : 103 = c := Option.some.inj hj; rfl
      | 11, hj => obtain rfl : 107 = c := Option.some.inj hj; rfl
      | 12, hj => obtain rfl : 111 = c := Option.some.inj hj; rfl
      | 13, hj => obtain rfl : 115 = c := Option.some.inj hj; rfl
      | 14, hj => obtain rfl : 119 = c := Option.some.inj hj; rfl
      | 15, hj => obtain rfl : 123 = c := Option.some.inj hj; rfl
      | j + 16, hj => simp at hj⟩
  refine ⟨⟨rfl, ?_⟩, ?_⟩
  · exact ⟨_, rfl, gI (v := 0) rfl rfl, gI (v := 0) rfl rfl, gI (v := 0) rfl rfl, gR rfl, gR rfl, gR rfl, trivial⟩
  refine ⟨⟨rfl, ?_⟩, ?_⟩
  · exact ⟨_, rfl, rfl⟩
  refine ⟨⟨rfl, ?_⟩, ?_⟩
  · exact ⟨_, rfl, rfl⟩
  refine ⟨⟨rfl, ?_⟩, ?_⟩
  · exact ⟨_, rfl, rfl⟩
  refine ⟨⟨rfl, ?_⟩, ?_⟩
  · exact ⟨_, rfl, gI (v := 0) rfl rfl, gI (v := 0) rfl rfl, gI (v := 0) rfl rfl, gR rfl, gR rfl, gR rfl, trivial⟩
  refine ⟨⟨rfl, ?_⟩, ?_⟩
  · exact ⟨_, rfl, rfl⟩
  refine ⟨⟨rfl, ?_⟩, ?_⟩
  · exact ⟨_, rfl, rfl⟩
  refine ⟨⟨rfl, ?_⟩, ?_⟩
  · exact ⟨_, rfl, rfl⟩
  refine ⟨⟨rfl, ?_⟩, ?_⟩
  · exact ⟨_, rfl, gI (v := 0) rfl rfl, gI (v := 0) rfl rfl, gI (v := 0) rfl rfl, gR rfl, gR rfl, gR rfl, trivial⟩
  refine ⟨⟨rfl, ?_⟩, ?_⟩
  · exact ⟨_, rfl, rfl⟩
  refine ⟨⟨rfl, ?_⟩, ?_⟩
  · exact ⟨_, rfl, rfl⟩
  refine ⟨⟨rfl, ?_⟩, ?_⟩
  · exact ⟨_, rfl, rfl⟩
  refine ⟨⟨rfl, ?_⟩, ?_⟩
  · exact ⟨_, rfl, gI (v := 0) rfl rfl, gI (v := 0) rfl rfl, gI (v := 0) rfl rfl, gR rfl, gR rfl, gR rfl, trivial⟩
  refine ⟨⟨rfl, ?_⟩, ?_⟩
  · exact ⟨_, rfl, rfl⟩
  refine ⟨⟨rfl, ?_⟩, ?_⟩
  · exact ⟨_, rfl, rfl⟩
  refine ⟨⟨rfl, ?_⟩, ?_⟩
  · exact ⟨_, rfl, rfl⟩
  refine ⟨⟨rfl, ?_⟩, ?_⟩
  · exact ⟨_, rfl, gI (v := 0) rfl rfl, gI (v := 0) rfl rfl, gI (v := 0) rfl rfl, gR rfl, gR rfl, gR rfl, trivial⟩
  refine ⟨⟨rfl, ?_⟩, ?_⟩
  · exact ⟨_, rfl, rfl⟩
  refine ⟨⟨rfl, ?_⟩, ?_⟩
  · exact ⟨_, rfl, rfl⟩
  refine ⟨⟨rfl, ?_⟩, ?_⟩
  · exact ⟨_, rfl, rfl⟩
  refine ⟨⟨rfl, ?_⟩, ?_⟩
  · exact ⟨_, rfl, gI (v := 0) rfl rfl, gI (v := 0) rfl rfl, gI (v := 0) rfl rfl, gR rfl, gR rfl, gR rfl, trivial⟩
  refine ⟨⟨rfl, ?_⟩, ?_⟩
  · exact ⟨_, rfl, rfl⟩
  refine ⟨⟨rfl, ?_⟩, ?_⟩
  · exact ⟨_, rfl, rfl⟩
  refine ⟨⟨rfl, ?_⟩, ?_⟩
  · exact ⟨_, rfl, rfl⟩
  refine ⟨⟨rfl, ?_⟩, ?_⟩
  · exact ⟨_, rfl, gI (v := 0) rfl rfl, gI (v := 0) rfl rfl, gI (v := 0) rfl rfl, gR rfl, gR rfl, gR rfl, trivial⟩
  refine ⟨⟨rfl, ?_⟩, ?_⟩
  · exact ⟨_, rfl, rfl⟩
  refine ⟨⟨rfl, ?_⟩, ?_⟩
  · exact ⟨_, rfl, rfl⟩
  refine ⟨⟨rfl, ?_⟩, ?_⟩
  · exact ⟨_, rfl, rfl⟩
  refine ⟨⟨rfl, ?_⟩, ?_⟩
  · exact ⟨_, rfl, gI (v := 0) rfl rfl, gI (v := 0) rfl rfl, gI (v := 0) rfl rfl, gR rfl, gR rfl, gR rfl, trivial⟩
  refine ⟨⟨rfl, ?_⟩, ?_⟩
  · exact ⟨_, rfl, rfl⟩
  refine ⟨⟨rfl, ?_⟩, ?_⟩
  · exact ⟨_, rfl, rfl⟩
  refine ⟨⟨rfl, ?_⟩, ?_⟩
  · exact ⟨_, rfl, rfl⟩
  refine ⟨⟨rfl, ?_⟩, ?_⟩
  · exact ⟨_, rfl, gI (v := 0) rfl rfl, gI (v := 0) rfl rfl, gI (v := 0) rfl rfl, gR rfl, gR rfl, gR rfl, trivial⟩
  refine ⟨⟨rfl, ?_⟩, ?_⟩
  · exact ⟨_, rfl, rfl⟩
  refine ⟨⟨rfl, ?_⟩, ?_⟩
  · exact ⟨_, rfl, rfl⟩
  refine ⟨⟨rfl, ?_⟩, ?_⟩
  · exact ⟨_, rfl, rfl⟩
  refine ⟨⟨rfl, ?_⟩, ?_⟩
  · exact ⟨_, rfl, gI (v := 0) rfl rfl, gI (v := 0) rfl rfl, gI (v := 0) rfl rfl, gR rfl, gR rfl, gR rfl, trivial⟩
  refine ⟨⟨rfl, ?_⟩, ?_⟩
  · exact ⟨_, rfl, rfl⟩
  refine ⟨⟨rfl, ?_⟩, ?_⟩
  · exact ⟨_, rfl, rfl⟩
  refine ⟨⟨rfl, ?_⟩, ?_⟩
  · exact ⟨_, rfl, rfl⟩
  refine ⟨⟨rfl, ?_⟩, ?_⟩
  · exact ⟨_, rfl, gI (v := 0) rfl rfl, gI (v := 0) rfl rfl, gI (v := 0) rfl rfl, gR rfl, gR rfl, gR rfl, trivial⟩
  refine ⟨⟨rfl, ?_⟩, ?_⟩
  · exact ⟨_, rfl, rfl⟩
  refine ⟨⟨rfl, ?_⟩, ?_⟩
  · exact ⟨_, rfl, rfl⟩
  refine ⟨⟨rfl, ?_⟩, ?_⟩
  · exact ⟨_, rfl, rfl⟩
  refine ⟨⟨rfl, ?_⟩, ?_⟩
  · exact ⟨_, rfl, gI (v := 0) rfl rfl, gI (v := 0) rfl rfl, gI (v := 0) rfl rfl, gR rfl, gR rfl, gR rfl, trivial⟩
  refine ⟨⟨rfl, ?_⟩, ?_⟩
  · exact ⟨_, rfl, rfl⟩
  refine ⟨⟨rfl, ?_⟩, ?_⟩
  · exact ⟨_, rfl, rfl⟩
  refine ⟨⟨rfl, ?_⟩, ?_⟩
  · exact ⟨_, rfl, rfl⟩
  refine ⟨⟨rfl, ?_⟩, ?_⟩
  · exact ⟨_, rfl, gI (v := 0) rfl rfl, gI (v := 0) rfl rfl, gI (v := 0) rfl rfl, gR rfl, gR rfl, gR rfl, trivial⟩
  refine ⟨⟨rfl, ?_⟩, ?_⟩
  · exact ⟨_, rfl, rfl⟩
  refine ⟨⟨rfl, ?_⟩, ?_⟩
  · exact ⟨_, rfl, rfl⟩
  refine ⟨⟨rfl, ?_⟩, ?_⟩
  · exact ⟨_, rfl, rfl⟩
  refine ⟨⟨rfl, ?_⟩, ?_⟩
  · exact ⟨_, rfl, gI (v := 0) rfl rfl, gI (v := 0) rfl rfl, gI (v := 0) rfl rfl, gR rfl, gR rfl, gR rfl, trivial⟩
  refine ⟨⟨rfl, ?_⟩, ?_⟩
  · exact ⟨_, rfl, rfl⟩
  refine ⟨⟨rfl, ?_⟩, ?_⟩
  · exact ⟨_, rfl, rfl⟩
  refine ⟨⟨rfl, ?_⟩, ?_⟩
  · exact ⟨_, rfl, rfl⟩
  refine ⟨⟨rfl, ?_⟩, ?_⟩
  · exact ⟨_, rfl, gI (v := 0) rfl rfl, gI (v := 0) rfl rfl, gI (v := 0) rfl rfl, gR rfl, gR rfl, gR rfl, trivial⟩
  refine ⟨⟨rfl, ?_⟩, ?_⟩
  · exact ⟨_, rfl, rfl⟩
  refine ⟨⟨rfl, ?_⟩, ?_⟩
  · exact ⟨_, rfl, rfl⟩
  refine ⟨⟨rfl, ?_⟩, ?_⟩
  · exact ⟨_, rfl, rfl⟩
  refine ⟨⟨rfl, ?_⟩, ?_⟩
  · exact ⟨_, rfl, gI (v := 0) rfl rfl, gI (v := 0) rfl rfl, gI (v := 0) rfl rfl, gR rfl, gR rfl, gR rfl, trivial⟩
  refine ⟨⟨rfl, ?_⟩, ?_⟩
  · exact ⟨_, rfl, rfl⟩
  refine ⟨⟨rfl, ?_⟩, ?_⟩
  · exact ⟨_, rfl, rfl⟩
  refine ⟨⟨rfl, ?_⟩, ?_⟩
  · exact ⟨_, rfl, rfl⟩
  refine ⟨⟨rfl, ?_⟩, ?_⟩
  · exact ⟨_, rfl, fun j c hj => by
      match j, hj with
      | 0, hj => obtain rfl : 128 = c := Option.some.inj hj; rfl
      | 1, hj => obtain rfl : 138 = c := Option.some.inj hj; rfl
      | 2, hj => obtain rfl : 148 = c := Option.some.inj hj; rfl
      | 3, hj => obtain rfl : 158 = c := Option.some.inj hj; rfl
      | j + 4, hj => simp at hj⟩
  refine ⟨⟨rfl, ?_⟩, ?_⟩
  · exact ⟨_, rfl, gI (v := 0) rfl rfl, gR rfl, gR rfl, gR rfl, trivial⟩
  refine ⟨⟨rfl, ?_⟩, ?_⟩
  · exact ⟨_, rfl, gI (v := 0) rfl rfl, gI (v := 0) rfl rfl, gI (v := 0) rfl rfl, gR rfl, gR rfl, gR rfl, trivial⟩
  refine ⟨⟨rfl, ?_⟩, ?_⟩
  · exact ⟨_, rfl, rfl⟩
  refine ⟨⟨rfl, ?_⟩, ?_⟩
  · exact ⟨_, rfl, rfl⟩
  refine ⟨⟨rfl, ?_⟩, ?_⟩
  · exact ⟨_, rfl, rfl⟩
  refine ⟨⟨rfl, ?_⟩, ?_⟩
  · exact ⟨_, rfl, gR rfl, gR rfl, gR rfl, gI (v := 0) rfl rfl, trivial⟩
  refine ⟨⟨rfl, ?_⟩, ?_⟩
  · exact ⟨_, rfl, rfl⟩
  refine ⟨⟨rfl, ?_⟩, ?_⟩
  · exact ⟨_, rfl, rfl⟩
  refine ⟨⟨rfl, ?_⟩, ?_⟩
  · exact ⟨_, rfl, rfl⟩
  refine ⟨⟨rfl, ?_⟩, ?_⟩
  · exact ⟨_, rfl, rfl⟩
  refine ⟨⟨rfl, ?_⟩, ?_⟩
  · exact ⟨_, rfl, gI (v := 0) rfl rfl, gR rfl, gR rfl, gR rfl, trivial⟩
  refine ⟨⟨rfl, ?_⟩, ?_⟩
  · exact ⟨_, rfl, gI (v := 0) rfl rfl, gI (v := 0) rfl rfl, gI (v := 0) rfl rfl, gR rfl, gR rfl, gR rfl, trivial⟩
  refine ⟨⟨rfl, ?_⟩, ?_⟩
  · exact ⟨_, rfl, rfl⟩
  refine ⟨⟨rfl, ?_⟩, ?_⟩
  · exact ⟨_, rfl, rfl⟩
  refine ⟨⟨rfl, ?_⟩, ?_⟩
  · exact ⟨_, rfl, rfl⟩
  refine ⟨⟨rfl, ?_⟩, ?_⟩
  · exact ⟨_, rfl, gR rfl, gR rfl, gR rfl, gI (v := 0) rfl rfl, trivial⟩
  refine ⟨⟨rfl, ?_⟩, ?_⟩
  · exact ⟨_, rfl, rfl⟩
  refine ⟨⟨rfl, ?_⟩, ?_⟩
  · exact ⟨_, rfl, rfl⟩
  refine ⟨⟨rfl, ?_⟩, ?_⟩
  · exact ⟨_, rfl, rfl⟩
  refine ⟨⟨rfl, ?_⟩, ?_⟩
  · exact ⟨_, rfl, rfl⟩
  refine ⟨⟨rfl, ?_⟩, ?_⟩
  · exact ⟨_, rfl, gI (v := 0) rfl rfl, gR rfl, gR rfl, gR rfl, trivial⟩
  refine ⟨⟨rfl, ?_⟩, ?_⟩
  · exact ⟨_, rfl, gI (v := 0) rfl rfl, gI (v := 0) rfl rfl, gI (v := 0) rfl rfl, gR rfl, gR rfl, gR rfl, trivial⟩
  refine ⟨⟨rfl, ?_⟩, ?_⟩
  · exact ⟨_, rfl, rfl⟩
  refine ⟨⟨rfl, ?_⟩, ?_⟩
  · exact ⟨_, rfl, rfl⟩
  refine ⟨⟨rfl, ?_⟩, ?_⟩
  · exact ⟨_, rfl, rfl⟩
  refine ⟨⟨rfl, ?_⟩, ?_⟩
  · exact ⟨_, rfl, gR rfl, gR rfl, gR rfl, gI (v := 0) rfl rfl, trivial⟩
  refine ⟨⟨rfl, ?_⟩, ?_⟩
  · exact ⟨_, rfl, rfl⟩
  refine ⟨⟨rfl, ?_⟩, ?_⟩
  · exact ⟨_, rfl, rfl⟩
  refine ⟨⟨rfl, ?_⟩, ?_⟩
  · exact ⟨_, rfl, rfl⟩
  refine ⟨⟨rfl, ?_⟩, ?_⟩
  · exact ⟨_, rfl, rfl⟩
  refine ⟨⟨rfl, ?_⟩, ?_⟩
  · exact ⟨_, rfl, gI (v := 0) rfl rfl, gR rfl, gR rfl, gR rfl, trivial⟩
  refine ⟨⟨rfl, ?_⟩, ?_⟩
  · exact ⟨_, rfl, gI (v := 0) rfl rfl, gI (v := 0) rfl rfl, gI (v := 0) rfl rfl, gR rfl, gR rfl, gR rfl, trivial⟩
  refine ⟨⟨rfl, ?_⟩, ?_⟩
  · exact ⟨_, rfl, rfl⟩
  refine ⟨⟨rfl, ?_⟩, ?_⟩
  · exact ⟨_, rfl, rfl⟩
  refine ⟨⟨rfl, ?_⟩, ?_⟩
  · exact ⟨_, rfl, rfl⟩
  refine ⟨⟨rfl, ?_⟩, ?_⟩
  · exact ⟨_, rfl, gR rfl, gR rfl, gR rfl, gI (v := 0) rfl rfl, trivial⟩
  refine ⟨⟨rfl, ?_⟩, ?_⟩
  · exact ⟨_, rfl, rfl⟩
  refine ⟨⟨rfl, ?_⟩, ?_⟩
  · exact ⟨_, rfl, rfl⟩
  refine ⟨⟨rfl, ?_⟩, ?_⟩
  · exact ⟨_, rfl, rfl⟩
  refine ⟨⟨rfl, ?_⟩, ?_⟩
  · exact ⟨_, rfl, rfl⟩
  refine ⟨⟨rfl, ?_⟩, ?_⟩
  · exact ⟨_, rfl, gR rfl, gI (v := 0) rfl rfl, gI (v := 0) rfl rfl, gI (v := 0) rfl rfl, gR rfl, trivial⟩
  refine ⟨⟨rfl, ?_⟩, ?_⟩
  · exact ⟨_, rfl, rfl⟩
  refine ⟨⟨rfl, ?_⟩, ?_⟩
  · exact ⟨_, rfl, rfl⟩
  refine ⟨⟨rfl, ?_⟩, ?_⟩
  · exact ⟨_, rfl, gI (v := 0) rfl rfl, gI (v := (-1)) rfl rfl, gI (v := 0) rfl rfl, gI (v := (-1)) rfl rfl, gI (v := 0) rfl rfl, gR rfl, trivial⟩
  refine ⟨⟨rfl, ?_⟩, ?_⟩
  · exact ⟨_, rfl, fun j c hj => by
      match j, hj with
      | 0, hj => obtain rfl : 173 = c := Option.some.inj hj; rfl
      | 1, hj => obtain rfl : 177 = c := Option.some.inj hj; rfl
      | 2, hj => obtain rfl : 181 = c := Option.some.inj hj; rfl
      | 3, hj => obtain rfl : 185 = c := Option.some.inj hj; rfl
      | j + 4, hj => simp at hj⟩
  refine ⟨⟨rfl, ?_⟩, ?_⟩
  · exact ⟨_, rfl, gI (v := 0) rfl rfl, gI (v := 0) rfl rfl, gI (v := 0) rfl rfl, gR rfl, gR rfl, gR rfl, trivial⟩
  refine ⟨⟨rfl, ?_⟩, ?_⟩
  · exact ⟨_, rfl, rfl⟩
  refine ⟨⟨rfl, ?_⟩, ?_⟩
  · exact ⟨_, rfl, rfl⟩
  refine ⟨⟨rfl, ?_⟩, ?_⟩
  · exact ⟨_, rfl, rfl⟩
  refine ⟨⟨rfl, ?_⟩, ?_⟩
  · exact ⟨_, rfl, gI (v := 0) rfl rfl, gI (v := 0) rfl rfl, gI (v := 0) rfl rfl, gR rfl, gR rfl, gR rfl, trivial⟩
  refine ⟨⟨rfl, ?_⟩, ?_⟩
  · exact ⟨_, rfl, rfl⟩
  refine ⟨⟨rfl, ?_⟩, ?_⟩
  · exact ⟨_, rfl, rfl⟩
  refine ⟨⟨rfl, ?_⟩, ?_⟩
  · exact ⟨_, rfl, rfl⟩
  refine ⟨⟨rfl, ?_⟩, ?_⟩
  · exact ⟨_, rfl, gI (v := 0) rfl rfl, gI (v := 0) rfl rfl, gI (v := 0) rfl rfl, gR rfl, gR rfl, gR rfl, trivial⟩
  refine ⟨⟨rfl, ?_⟩, ?_⟩
  · exact ⟨_, rfl, rfl⟩
  refine ⟨⟨rfl, ?_⟩, ?_⟩
  · exact ⟨_, rfl, rfl⟩
  refine ⟨⟨rfl, ?_⟩, ?_⟩
  · exact ⟨_, rfl, rfl⟩
  refine ⟨⟨rfl, ?_⟩, ?_⟩
  · exact ⟨_, rfl, gI (v := 0) rfl rfl, gI (v := 0) rfl rfl, gI (v := 0) rfl rfl, gR rfl, gR rfl, gR rfl, trivial⟩
  refine ⟨⟨rfl, ?_⟩, ?_⟩
  · exact ⟨_, rfl, rfl⟩
  refine ⟨⟨rfl, ?_⟩, ?_⟩
  · exact ⟨_, rfl, rfl⟩
  refine ⟨⟨rfl, ?_⟩, ?_⟩
  · exact ⟨_, rfl, rfl⟩
  refine ⟨⟨rfl, ?_⟩, ?_⟩
  · exact ⟨_, rfl, gI (v := 0) rfl rfl, gR rfl, gR rfl, gR rfl, gR rfl, gI (v := 0) rfl rfl, gI (v := 0) rfl rfl, trivial⟩
  refine ⟨⟨rfl, ?_⟩, ?_⟩
  · exact ⟨_, rfl, rfl⟩
  refine ⟨⟨rfl, ?_⟩, ?_⟩
  · exact ⟨_, rfl, rfl⟩
  refine ⟨⟨rfl, ?_⟩, ?_⟩
  · exact ⟨_, rfl, rfl⟩
  refine ⟨⟨rfl, ?_⟩, ?_⟩
  · exact ⟨_, rfl, rfl⟩
  refine ⟨⟨rfl, ?_⟩, ?_⟩
  · exact ⟨_, rfl, gI (v := 0) rfl rfl, gR rfl, gR rfl, trivial⟩
  refine ⟨⟨rfl, ?_⟩, ?_⟩
  · exact ⟨_, rfl, rfl⟩
  refine ⟨⟨rfl, ?_⟩, ?_⟩
  · exact ⟨_, rfl, rfl⟩
  refine ⟨⟨rfl, ?_⟩, ?_⟩
  · exact ⟨_, rfl, rfl⟩
  refine ⟨⟨rfl, ?_⟩, ?_⟩
  · exact ⟨_, rfl, gI (v := 0) rfl rfl, gI (v := 0) rfl rfl, gR rfl, gI (v := 0) rfl rfl, gI (v := 0) rfl rfl, gI (v := 0) rfl rfl, gI (v := 0) rfl rfl, gJ (v := 0) rfl rfl, gI (v := 0) rfl rfl, gI (v := 0) rfl rfl, gR rfl, gR rfl, gR rfl, gR rfl, gR rfl, gR rfl, gR rfl, gR rfl, gR rfl, gR rfl, gR rfl, gR rfl, gR rfl, gR rfl, gR rfl, gR rfl, gI (v := 0) rfl rfl, gI (v := 0) rfl rfl, gR rfl, gR rfl, gR rfl, gR rfl, gR rfl, gR rfl, gR rfl, gR rfl, gR rfl, gR rfl, gR rfl, gR rfl, gI (v := 0) rfl rfl, gJ (v := 0) rfl rfl, gR rfl, gR rfl, gR rfl, gR rfl, gR rfl, gR rfl, gR rfl, gR rfl, gR rfl, gR rfl, gR rfl, gR rfl, gI (v := 0) rfl rfl, gI (v := 0) rfl rfl, gI (v := 0) rfl rfl, gI (v := 0) rfl rfl, gR rfl, gR rfl, gR rfl, gR rfl, gI (v := 0) rfl rfl, gR rfl, gR rfl, gI (v := 0) rfl rfl, gJ (v := 0) rfl rfl, trivial⟩
  refine ⟨⟨rfl, ?_⟩, ?_⟩
  · exact ⟨fun _ => 0, rfl, rfl⟩
  refine ⟨⟨rfl, ?_⟩, ?_⟩
  · exact ⟨_, OB_of (by decide), rfl, fun j av hj => by
      match j, hj with
      | 0, hj => obtain rfl : vi 155 0 = av := Option.some.inj hj; exact gI (v := 0) rfl rfl
      | 1, hj => obtain rfl : vi 156 0 = av := Option.some.inj hj; exact gI (v := 0) rfl rfl
      | 2, hj => obtain rfl : vi 157 0 = av := Option.some.inj hj; exact gI (v := 0) rfl rfl
      | 3, hj => obtain rfl : vi 158 0 = av := Option.some.inj hj; exact gI (v := 0) rfl rfl
      | 4, hj => obtain rfl : vi 159 0 = av := Option.some.inj hj; exact gI (v := 2) rfl rfl
      | 5, hj => obtain rfl : vi 160 0 = av := Option.some.inj hj; exact gI (v := 0) rfl rfl
      | 6, hj => obtain rfl : vi 161 0 = av := Option.some.inj hj; exact gI (v := 0) rfl rfl
      | 7, hj => obtain rfl : vi 162 0 = av := Option.some.inj hj; exact gI (v := 0) rfl rfl
      | 8, hj => obtain rfl : vi 163 0 = av := Option.some.inj hj; exact gI (v := 0) rfl rfl
      | 9, hj => obtain rfl : vi 164 0 = av := Option.some.inj hj; exact gI (v := 0) rfl rfl
      | j + 10, hj => simp at hj⟩
  refine ⟨⟨rfl, ?_⟩, ?_⟩
  · exact ⟨_, rfl⟩
  refine ⟨⟨rfl, ?_⟩, ?_⟩
  · exact ⟨_, rfl⟩
  refine ⟨⟨rfl, ?_⟩, ?_⟩
  · exact ⟨_, rfl, rfl⟩
  refine ⟨⟨rfl, ?_⟩, ?_⟩
  · exact ⟨_, rfl, rfl⟩
  refine ⟨⟨rfl, ?_⟩, ?_⟩
  · exact ⟨_, rfl, rfl⟩
  refine ⟨⟨rfl, ?_⟩, ?_⟩
  · exact ⟨_, rfl, rfl⟩
  refine ⟨⟨rfl, ?_⟩, ?_⟩
  · exact ⟨_, rfl, rfl⟩
  refine ⟨⟨rfl, ?_⟩, ?_⟩
  · exact ⟨_, rfl, rfl⟩
  refine ⟨⟨rfl, ?_⟩, ?_⟩
  · exact ⟨_, rfl, rfl⟩
  refine ⟨⟨rfl, ?_⟩, ?_⟩
  · exact ⟨_, rfl, rfl⟩
  refine ⟨⟨rfl, ?_⟩, ?_⟩
  · exact ⟨_, rfl, rfl⟩
  refine ⟨⟨rfl, ?_⟩, ?_⟩
  · exact ⟨_, rfl, rfl⟩
  refine ⟨⟨rfl, ?_⟩, ?_⟩
  · exact ⟨_, OB_of (by decide), rfl, fun j av hj => by
      match j, hj with
      | 0, hj => obtain rfl : vi 165 0 = av := Option.some.inj hj; exact gI (v := 0) rfl rfl
      | 1, hj => obtain rfl : vi 166 0 = av := Option.some.inj hj; exact gI (v := 0) rfl rfl
      | j + 2, hj => simp at hj⟩
  refine ⟨⟨rfl, ?_⟩, ?_⟩
  · exact ⟨_, OB_of (by decide), rfl, fun j av hj => by
      match j, hj with
      | 0, hj => obtain rfl : vi 167 0 = av := Option.some.inj hj; exact gI (v := 0) rfl rfl
      | 1, hj => obtain rfl : vi 168 0 = av := Option.some.inj hj; exact gI (v := 0) rfl rfl
      | j + 2, hj => simp at hj⟩
  refine ⟨⟨rfl, ?_⟩, ?_⟩
  · exact ⟨_, ob_cod, rfl, fun j av hj => by
      match j, hj with
      | 0, hj => obtain rfl : vi 169 0 = av := Option.some.inj hj; exact gI (v := 1000) rfl rfl
      | 1, hj => obtain rfl : vi 170 0 = av := Option.some.inj hj; exact gI (v := 1000) rfl rfl
      | 2, hj => obtain rfl : vi 171 0 = av := Option.some.inj hj; exact gI (v := 0) rfl rfl
      | 3, hj => obtain rfl : vi 172 0 = av := Option.some.inj hj; exact gI (v := 0) rfl rfl
      | 4, hj => obtain rfl : vi 173 0 = av := Option.some.inj hj; exact gI (v := 1) rfl rfl
      | j + 5, hj => simp at hj⟩
  refine ⟨⟨rfl, ?_⟩, ?_⟩
  · exact ⟨_, OB_of (by decide), rfl, fun j av hj => by
      match j, hj with
      | 0, hj => obtain rfl : vi 176 0 = av := Option.some.inj hj; exact gI (v := 0) rfl rfl
      | 1, hj => obtain rfl : vi 177 0 = av := Option.some.inj hj; exact gI (v := 0) rfl rfl
      | 2, hj => obtain rfl : vi 178 0 = av := Option.some.inj hj; exact gI (v := 0) rfl rfl
      | 3, hj => obtain rfl : vi 179 0 = av := Option.some.inj hj; exact gI (v := 0) rfl rfl
      | 4, hj => obtain rfl : vi 180 0 = av := Option.some.inj hj; exact gI (v := 0) rfl rfl
      | 5, hj => obtain rfl : vi 181 0 = av := Option.some.inj hj; exact gI (v := 0) rfl rfl
      | 6, hj => obtain rfl : vi 182 0 = av := Option.some.inj hj; exact gI (v := 0) rfl rfl
      | j + 7, hj => simp at hj⟩
  refine ⟨⟨rfl, ?_⟩, ?_⟩
  · exact ⟨_, rfl, rfl⟩
  refine ⟨⟨rfl, ?_⟩, ?_⟩
  · exact ⟨_, rfl, rfl⟩
  refine ⟨⟨rfl, ?_⟩, ?_⟩
  · exact ⟨_, rfl, rfl⟩
  refine ⟨⟨rfl, ?_⟩, ?_⟩
  · exact ⟨_, rfl, rfl⟩
  refine ⟨⟨rfl, ?_⟩, ?_⟩
  · exact ⟨_, rfl, rfl⟩
  refine ⟨⟨rfl, ?_⟩, ?_⟩
  · exact ⟨_, rfl, rfl⟩
  refine ⟨⟨rfl, ?_⟩, ?_⟩
  · exact ⟨_, rfl, rfl⟩
  refine ⟨⟨rfl, ?_⟩, ?_⟩
  · exact ⟨_, rfl, rfl⟩
  refine ⟨⟨rfl, ?_⟩, ?_⟩
  · exact ⟨_, rfl, rfl⟩
  refine ⟨⟨rfl, ?_⟩, ?_⟩
  · exact ⟨_, OB_of (by decide), rfl, fun j av hj => by
      match j, hj with
      | 0, hj => obtain rfl : vi 183 0 = av := Option.some.inj hj; exact gI (v := 0) rfl rfl
      | 1, hj => obtain rfl : vi 184 0 = av := Option.some.inj hj; exact gI (v := 0) rfl rfl
      | 2, hj => obtain rfl : vi 185 0 = av := Option.some.inj hj; exact gI (v := 0) rfl rfl
      | 3, hj => obtain rfl : vi 186 0 = av := Option.some.inj hj; exact gI (v := 0) rfl rfl
      | 4, hj => obtain rfl : vi 187 0 = av := Option.some.inj hj; exact gI (v := 0) rfl rfl
      | 5, hj => obtain rfl : vi 188 0 = av := Option.some.inj hj; exact gI (v := 0) rfl rfl
      | 6, hj => obtain rfl : vi 189 0 = av := Option.some.inj hj; exact gI (v := 0) rfl rfl
      | j + 7, hj => simp at hj⟩
  refine ⟨⟨rfl, ?_⟩, ?_⟩
  · exact ⟨_, rfl, rfl⟩
  refine ⟨⟨rfl, ?_⟩, ?_⟩
  · exact ⟨_, OB_of (by decide), rfl, fun j av hj => by
      match j, hj with
      | 0, hj => obtain rfl : vi 192 0 = av := Option.some.inj hj; exact gI (v := 0) rfl rfl
      | 1, hj => obtain rfl : vi 193 0 = av := Option.some.inj hj; exact gI (v := 0) rfl rfl
      | 2, hj => obtain rfl : vi 194 0 = av := Option.some.inj hj; exact gI (v := 0) rfl rfl
      | 3, hj => obtain rfl : vi 195 0 = av := Option.some.inj hj; exact gI (v := 0) rfl rfl
      | 4, hj => obtain rfl : vi 196 0 = av := Option.some.inj hj; exact gI (v := 0) rfl rfl
      | 5, hj => obtain rfl : vi 197 0 = av := Option.some.inj hj; exact gI (v := 0) rfl rfl
      | j + 6, hj => simp at hj⟩
  refine ⟨⟨rfl, ?_⟩, ?_⟩
  · exact ⟨_, rfl, rfl⟩
  refine ⟨⟨rfl, ?_⟩, ?_⟩
  · exact ⟨_, rfl, rfl⟩
  refine ⟨⟨rfl, ?_⟩, ?_⟩
  · exact ⟨_, rfl, rfl⟩
  refine ⟨⟨rfl, ?_⟩, ?_⟩
  · exact ⟨_, rfl, rfl⟩
  refine ⟨⟨rfl, ?_⟩, ?_⟩
  · exact ⟨_, rfl, rfl⟩
  refine ⟨⟨rfl, ?_⟩, ?_⟩
  · exact ⟨_, rfl, rfl⟩
  refine ⟨⟨rfl, ?_⟩, ?_⟩
  · exact ⟨_, rfl, rfl⟩
  refine ⟨⟨rfl, ?_⟩, ?_⟩
  · exact ⟨_, rfl, rfl⟩
  refine ⟨⟨rfl, ?_⟩, ?_⟩
  · exact ⟨_, rfl, rfl⟩
  refine ⟨⟨rfl, ?_⟩, ?_⟩
  · exact ⟨_, rfl, rfl⟩
  refine ⟨⟨rfl, ?_⟩, ?_⟩
  · exact ⟨_, rfl, rfl⟩
  refine ⟨⟨rfl, ?_⟩, ?_⟩
  · exact ⟨_, rfl, rfl⟩
  refine ⟨⟨rfl, ?_⟩, ?_⟩
  · exact ⟨_, rfl, rfl⟩
  refine ⟨⟨rfl, ?_⟩, ?_⟩
  · exact ⟨_, rfl, rfl⟩
  refine ⟨⟨rfl, ?_⟩, ?_⟩
  · exact ⟨_, rfl, rfl⟩
  refine ⟨⟨rfl, ?_⟩, ?_⟩
  · exact ⟨_, rfl, rfl⟩
  refine ⟨⟨rfl, ?_⟩, ?_⟩
  · exact ⟨_, rfl, rfl⟩
  refine ⟨⟨rfl, ?_⟩, ?_⟩
  · exact ⟨_, rfl⟩
  trivial
