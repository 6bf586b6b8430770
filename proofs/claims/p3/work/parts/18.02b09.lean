set_option maxRecDepth 100000 in
theorem ck_cn_X12_reads_1_203 : chkI MT cn_X12_reads_1 skX12 ktX12 bcX12_reads ctX12 atX12 (sel cs_cn_X12_reads_1 [0]) (sel iv_cn_X12_reads_1 [94, 95]) 4000 iv_cn_X12_reads_1_203 = true := by decide +kernel
set_option maxRecDepth 100000 in
theorem ck_cn_X12_reads_1_204 : chkI MT cn_X12_reads_1 skX12 ktX12 bcX12_reads ctX12 atX12 (sel cs_cn_X12_reads_1 [143, 144, 260, 261]) (sel iv_cn_X12_reads_1 [236, 203]) 4000 iv_cn_X12_reads_1_204 = true := by decide +kernel
set_option maxRecDepth 100000 in
theorem ck_cn_X12_reads_1_205 : chkI MT cn_X12_reads_1 skX12 ktX12 bcX12_reads ctX12 atX12 (sel cs_cn_X12_reads_1 [225]) (sel iv_cn_X12_reads_1 [237]) 4000 iv_cn_X12_reads_1_205 = true := by decide +kernel
set_option maxRecDepth 100000 in
theorem ck_cn_X12_reads_1_206 : chkI MT cn_X12_reads_1 skX12 ktX12 bcX12_reads ctX12 atX12 (sel cs_cn_X12_reads_1 [145, 146, 267]) (sel iv_cn_X12_reads_1 [8, 238]) 4000 iv_cn_X12_reads_1_206 = true := by decide +kernel
set_option maxRecDepth 100000 in
theorem ck_cn_X12_reads_1_207 : chkI MT cn_X12_reads_1 skX12 ktX12 bcX12_reads ctX12 atX12 (sel cs_cn_X12_reads_1 [225]) (sel iv_cn_X12_reads_1 [239]) 4000 iv_cn_X12_reads_1_207 = true := by decide +kernel
set_option maxRecDepth 100000 in
theorem ck_cn_X12_reads_1_208 : chkI MT cn_X12_reads_1 skX12 ktX12 bcX12_reads ctX12 atX12 (sel cs_cn_X12_reads_1 [147, 148, 267]) (sel iv_cn_X12_reads_1 [21, 240]) 4000 iv_cn_X12_reads_1_208 = true := by decide +kernel
set_option maxRecDepth 100000 in
theorem ck_cn_X12_reads_1_209 : chkI MT cn_X12_reads_1 skX12 ktX12 bcX12_reads ctX12 atX12 (sel cs_cn_X12_reads_1 [225]) (sel iv_cn_X12_reads_1 [241]) 4000 iv_cn_X12_reads_1_209 = true := by decide +kernel
set_option maxRecDepth 100000 in
theorem ck_cn_X12_reads_1_210 : chkI MT cn_X12_reads_1 skX12 ktX12 bcX12_reads ctX12 atX12 (sel cs_cn_X12_reads_1 [149, 150, 267]) (sel iv_cn_X12_reads_1 [34, 242]) 4000 iv_cn_X12_reads_1_210 = true := by decide +kernel
set_option maxRecDepth 100000 in
theorem ck_cn_X12_reads_1_211 : chkI MT cn_X12_reads_1 skX12 ktX12 bcX12_reads ctX12 atX12 (sel cs_cn_X12_reads_1 [225]) (sel iv_cn_X12_reads_1 [243]) 4000 iv_cn_X12_reads_1_211 = true := by decide +kernel
set_option maxRecDepth 100000 in
theorem ck_cn_X12_reads_1_212 : chkI MT cn_X12_reads_1 skX12 ktX12 bcX12_reads ctX12 atX12 (sel cs_cn_X12_reads_1 [151, 152, 267]) (sel iv_cn_X12_reads_1 [47, 244]) 4000 iv_cn_X12_reads_1_212 = true := by decide +kernel
set_option maxRecDepth 100000 in
theorem ck_cn_X12_reads_1_213 : chkI MT cn_X12_reads_1 skX12 ktX12 bcX12_reads ctX12 atX12 (sel cs_cn_X12_reads_1 [225]) (sel iv_cn_X12_reads_1 [245]) 4000 iv_cn_X12_reads_1_213 = true := by decide +kernel
set_option maxRecDepth 100000 in
theorem ck_cn_X12_reads_1_214 : chkI MT cn_X12_reads_1 skX12 ktX12 bcX12_reads ctX12 atX12 (sel cs_cn_X12_reads_1 [153, 154, 267]) (sel iv_cn_X12_reads_1 [60, 246]) 4000 iv_cn_X12_reads_1_214 = true := by decide +kernel
set_option maxRecDepth 100000 in
theorem ck_cn_X12_reads_1_215 : chkI MT cn_X12_reads_1 skX12 ktX12 bcX12_reads ctX12 atX12 (sel cs_cn_X12_reads_1 [225]) (sel iv_cn_X12_reads_1 [247]) 4000 iv_cn_X12_reads_1_215 = true := by decide +kernel
set_option maxRecDepth 100000 in
theorem ck_cn_X12_reads_1_216 : chkI MT cn_X12_reads_1 skX12 ktX12 bcX12_reads ctX12 atX12 (sel cs_cn_X12_reads_1 [155, 156, 267]) (sel iv_cn_X12_reads_1 [73, 248]) 4000 iv_cn_X12_reads_1_216 = true := by decide +kernel
set_option maxRecDepth 100000 in
theorem ck_cn_X12_reads_1_217 : chkI MT cn_X12_reads_1 skX12 ktX12 bcX12_reads ctX12 atX12 (sel cs_cn_X12_reads_1 [225]) (sel iv_cn_X12_reads_1 [249]) 4000 iv_cn_X12_reads_1_217 = true := by decide +kernel
set_option maxRecDepth 100000 in
theorem ck_cn_X12_reads_1_218 : chkI MT cn_X12_reads_1 skX12 ktX12 bcX12_reads ctX12 atX12 (sel cs_cn_X12_reads_1 [157, 158, 267]) (sel iv_cn_X12_reads_1 [86, 250]) 4000 iv_cn_X12_reads_1_218 = true := by decide +kernel
set_option maxRecDepth 100000 in
theorem ck_cn_X12_reads_1_219 : chkI MT cn_X12_reads_1 skX12 ktX12 bcX12_reads ctX12 atX12 (sel cs_cn_X12_reads_1 [225]) (sel iv_cn_X12_reads_1 [251]) 4000 iv_cn_X12_reads_1_219 = true := by decide +kernel
set_option maxRecDepth 100000 in
theorem ck_cn_X12_reads_1_220 : chkI MT cn_X12_reads_1 skX12 ktX12 bcX12_reads ctX12 atX12 (sel cs_cn_X12_reads_1 [159, 160, 267]) (sel iv_cn_X12_reads_1 [99, 252]) 4000 iv_cn_X12_reads_1_220 = true := by decide +kernel
set_option maxRecDepth 100000 in
theorem ck_cn_X12_reads_1_221 : chkI MT cn_X12_reads_1 skX12 ktX12 bcX12_reads ctX12 atX12 (sel cs_cn_X12_reads_1 [225]) (sel iv_cn_X12_reads_1 [253]) 4000 iv_cn_X12_reads_1_221 = true := by decide +kernel
set_option maxRecDepth 100000 in
theorem ck_cn_X12_reads_1_222 : chkI MT cn_X12_reads_1 skX12 ktX12 bcX12_reads ctX12 atX12 (sel cs_cn_X12_reads_1 [161, 162, 267]) (sel iv_cn_X12_reads_1 [112, 254]) 4000 iv_cn_X12_reads_1_222 = true := by decide +kernel
set_option maxRecDepth 100000 in
theorem ck_cn_X12_reads_1_223 : chkI MT cn_X12_reads_1 skX12 ktX12 bcX12_reads ctX12 atX12 (sel cs_cn_X12_reads_1 [225]) (sel iv_cn_X12_reads_1 [255]) 4000 iv_cn_X12_reads_1_223 = true := by decide +kernel
set_option maxRecDepth 100000 in
theorem ck_cn_X12_reads_1_224 : chkI MT cn_X12_reads_1 skX12 ktX12 bcX12_reads ctX12 atX12 (sel cs_cn_X12_reads_1 [163, 164, 267]) (sel iv_cn_X12_reads_1 [125, 256]) 4000 iv_cn_X12_reads_1_224 = true := by decide +kernel
set_option maxRecDepth 100000 in
theorem ck_cn_X12_reads_1_225 : chkI MT cn_X12_reads_1 skX12 ktX12 bcX12_reads ctX12 atX12 (sel cs_cn_X12_reads_1 [225]) (sel iv_cn_X12_reads_1 [257]) 4000 iv_cn_X12_reads_1_225 = true := by decide +kernel
set_option maxRecDepth 100000 in
theorem ck_cn_X12_reads_1_226 : chkI MT cn_X12_reads_1 skX12 ktX12 bcX12_reads ctX12 atX12 (sel cs_cn_X12_reads_1 [165, 166, 267]) (sel iv_cn_X12_reads_1 [138, 258]) 4000 iv_cn_X12_reads_1_226 = true := by decide +kernel
set_option maxRecDepth 100000 in
theorem ck_cn_X12_reads_1_227 : chkI MT cn_X12_reads_1 skX12 ktX12 bcX12_reads ctX12 atX12 (sel cs_cn_X12_reads_1 [225]) (sel iv_cn_X12_reads_1 [259]) 4000 iv_cn_X12_reads_1_227 = true := by decide +kernel
set_option maxRecDepth 100000 in
theorem ck_cn_X12_reads_1_228 : chkI MT cn_X12_reads_1 skX12 ktX12 bcX12_reads ctX12 atX12 (sel cs_cn_X12_reads_1 [167, 168, 267]) (sel iv_cn_X12_reads_1 [151, 260]) 4000 iv_cn_X12_reads_1_228 = true := by decide +kernel
set_option maxRecDepth 100000 in
theorem ck_cn_X12_reads_1_229 : chkI MT cn_X12_reads_1 skX12 ktX12 bcX12_reads ctX12 atX12 (sel cs_cn_X12_reads_1 [225]) (sel iv_cn_X12_reads_1 [261]) 4000 iv_cn_X12_reads_1_229 = true := by decide +kernel
set_option maxRecDepth 100000 in
theorem ck_cn_X12_reads_1_230 : chkI MT cn_X12_reads_1 skX12 ktX12 bcX12_reads ctX12 atX12 (sel cs_cn_X12_reads_1 [169, 170, 267]) (sel iv_cn_X12_reads_1 [164, 262]) 4000 iv_cn_X12_reads_1_230 = true := by decide +kernel
set_option maxRecDepth 100000 in
theorem ck_cn_X12_reads_1_231 : chkI MT cn_X12_reads_1 skX12 ktX12 bcX12_reads ctX12 atX12 (sel cs_cn_X12_reads_1 [225]) (sel iv_cn_X12_reads_1 [263]) 4000 iv_cn_X12_reads_1_231 = true := by decide +kernel
set_option maxRecDepth 100000 in
theorem ck_cn_X12_reads_1_232 : chkI MT cn_X12_reads_1 skX12 ktX12 bcX12_reads ctX12 atX12 (sel cs_cn_X12_reads_1 [171, 172, 267]) (sel iv_cn_X12_reads_1 [177, 264]) 4000 iv_cn_X12_reads_1_232 = true := by decide +kernel
set_option maxRecDepth 100000 in
theorem ck_cn_X12_reads_1_233 : chkI MT cn_X12_reads_1 skX12 ktX12 bcX12_reads ctX12 atX12 (sel cs_cn_X12_reads_1 [225]) (sel iv_cn_X12_reads_1 [265]) 4000 iv_cn_X12_reads_1_233 = true := by decide +kernel
set_option maxRecDepth 100000 in
theorem ck_cn_X12_reads_1_234 : chkI MT cn_X12_reads_1 skX12 ktX12 bcX12_reads ctX12 atX12 (sel cs_cn_X12_reads_1 [173, 174, 267]) (sel iv_cn_X12_reads_1 [190, 266]) 4000 iv_cn_X12_reads_1_234 = true := by decide +kernel
set_option maxRecDepth 100000 in
theorem ck_cn_X12_reads_1_235 : chkI MT cn_X12_reads_1 skX12 ktX12 bcX12_reads ctX12 atX12 (sel cs_cn_X12_reads_1 [225]) (sel iv_cn_X12_reads_1 [267]) 4000 iv_cn_X12_reads_1_235 = true := by decide +kernel
set_option maxRecDepth 100000 in
theorem ck_cn_X12_reads_1_236 : chkI MT cn_X12_reads_1 skX12 ktX12 bcX12_reads ctX12 atX12 (sel cs_cn_X12_reads_1 [175, 176, 267]) (sel iv_cn_X12_reads_1 [203, 268]) 4000 iv_cn_X12_reads_1_236 = true := by decide +kernel
set_option maxRecDepth 100000 in
theorem ck_cn_X12_reads_1_237 : chkI MT cn_X12_reads_1 skX12 ktX12 bcX12_reads ctX12 atX12 (sel cs_cn_X12_reads_1 [2]) (sel iv_cn_X12_reads_1 [269]) 4000 iv_cn_X12_reads_1_237 = true := by decide +kernel
set_option maxRecDepth 100000 in
theorem ck_cn_X12_reads_1_238 : chkI MT cn_X12_reads_1 skX12 ktX12 bcX12_reads ctX12 atX12 (sel cs_cn_X12_reads_1 [259]) (sel iv_cn_X12_reads_1 [270]) 4000 iv_cn_X12_reads_1_238 = true := by decide +kernel
set_option maxRecDepth 100000 in
theorem ck_cn_X12_reads_1_239 : chkI MT cn_X12_reads_1 skX12 ktX12 bcX12_reads ctX12 atX12 (sel cs_cn_X12_reads_1 [2]) (sel iv_cn_X12_reads_1 [271]) 4000 iv_cn_X12_reads_1_239 = true := by decide +kernel
set_option maxRecDepth 100000 in
theorem ck_cn_X12_reads_1_240 : chkI MT cn_X12_reads_1 skX12 ktX12 bcX12_reads ctX12 atX12 (sel cs_cn_X12_reads_1 [177, 259]) (sel iv_cn_X12_reads_1 [272, 273]) 4000 iv_cn_X12_reads_1_240 = true := by decide +kernel
set_option maxRecDepth 100000 in
theorem ck_cn_X12_reads_1_241 : chkI MT cn_X12_reads_1 skX12 ktX12 bcX12_reads ctX12 atX12 (sel cs_cn_X12_reads_1 [2]) (sel iv_cn_X12_reads_1 [274]) 4000 iv_cn_X12_reads_1_241 = true := by decide +kernel

