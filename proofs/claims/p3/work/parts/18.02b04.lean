set_option maxRecDepth 100000 in
theorem ck_cn_X12_reads_1_76 : chkI MT cn_X12_reads_1 skX12 ktX12 bcX12_reads ctX12 atX12 (sel cs_cn_X12_reads_1 [1, 2, 225, 257]) (sel iv_cn_X12_reads_1 []) 4000 iv_cn_X12_reads_1_76 = true := by decide +kernel
set_option maxRecDepth 100000 in
theorem ck_cn_X12_reads_1_77 : chkI MT cn_X12_reads_1 skX12 ktX12 bcX12_reads ctX12 atX12 (sel cs_cn_X12_reads_1 [0, 81, 82, 217, 249, 257, 259, 266, 267]) (sel iv_cn_X12_reads_1 [157, 158, 159, 160, 161, 162]) 4000 iv_cn_X12_reads_1_77 = true := by decide +kernel
set_option maxRecDepth 100000 in
theorem ck_cn_X12_reads_1_78 : chkI MT cn_X12_reads_1 skX12 ktX12 bcX12_reads ctX12 atX12 (sel cs_cn_X12_reads_1 [1, 2, 225, 257]) (sel iv_cn_X12_reads_1 []) 4000 iv_cn_X12_reads_1_78 = true := by decide +kernel
set_option maxRecDepth 100000 in
theorem ck_cn_X12_reads_1_79 : chkI MT cn_X12_reads_1 skX12 ktX12 bcX12_reads ctX12 atX12 (sel cs_cn_X12_reads_1 [0, 83, 84, 218, 250, 257, 259, 266, 267]) (sel iv_cn_X12_reads_1 [166, 167, 168, 169, 83, 84]) 4000 iv_cn_X12_reads_1_79 = true := by decide +kernel
set_option maxRecDepth 100000 in
theorem ck_cn_X12_reads_1_80 : chkI MT cn_X12_reads_1 skX12 ktX12 bcX12_reads ctX12 atX12 (sel cs_cn_X12_reads_1 [1, 2, 225, 257]) (sel iv_cn_X12_reads_1 []) 4000 iv_cn_X12_reads_1_80 = true := by decide +kernel
set_option maxRecDepth 100000 in
theorem ck_cn_X12_reads_1_81 : chkI MT cn_X12_reads_1 skX12 ktX12 bcX12_reads ctX12 atX12 (sel cs_cn_X12_reads_1 [0, 85, 86, 219, 251, 257, 259, 266, 267]) (sel iv_cn_X12_reads_1 [170, 171, 172, 173, 174, 175]) 4000 iv_cn_X12_reads_1_81 = true := by decide +kernel
set_option maxRecDepth 100000 in
theorem ck_cn_X12_reads_1_82 : chkI MT cn_X12_reads_1 skX12 ktX12 bcX12_reads ctX12 atX12 (sel cs_cn_X12_reads_1 [1, 2, 225, 257]) (sel iv_cn_X12_reads_1 []) 4000 iv_cn_X12_reads_1_82 = true := by decide +kernel
set_option maxRecDepth 100000 in
theorem ck_cn_X12_reads_1_83 : chkI MT cn_X12_reads_1 skX12 ktX12 bcX12_reads ctX12 atX12 (sel cs_cn_X12_reads_1 [87, 88, 89, 259]) (sel iv_cn_X12_reads_1 [86, 87]) 4000 iv_cn_X12_reads_1_83 = true := by decide +kernel
set_option maxRecDepth 100000 in
theorem ck_cn_X12_reads_1_84 : chkI MT cn_X12_reads_1 skX12 ktX12 bcX12_reads ctX12 atX12 (sel cs_cn_X12_reads_1 [2]) (sel iv_cn_X12_reads_1 [85]) 4000 iv_cn_X12_reads_1_84 = true := by decide +kernel
set_option maxRecDepth 100000 in
theorem ck_cn_X12_reads_1_85 : chkI MT cn_X12_reads_1 skX12 ktX12 bcX12_reads ctX12 atX12 (sel cs_cn_X12_reads_1 [3, 4]) (sel iv_cn_X12_reads_1 [217]) 4000 iv_cn_X12_reads_1_85 = true := by decide +kernel
set_option maxRecDepth 100000 in
theorem ck_cn_X12_reads_1_86 : chkI MT cn_X12_reads_1 skX12 ktX12 bcX12_reads ctX12 atX12 (sel cs_cn_X12_reads_1 [0]) (sel iv_cn_X12_reads_1 [38, 39]) 4000 iv_cn_X12_reads_1_86 = true := by decide +kernel
set_option maxRecDepth 100000 in
theorem ck_cn_X12_reads_1_87 : chkI MT cn_X12_reads_1 skX12 ktX12 bcX12_reads ctX12 atX12 (sel cs_cn_X12_reads_1 [90, 91, 260, 261]) (sel iv_cn_X12_reads_1 [218, 86]) 4000 iv_cn_X12_reads_1_87 = true := by decide +kernel
set_option maxRecDepth 100000 in
theorem ck_cn_X12_reads_1_88 : chkI MT cn_X12_reads_1 skX12 ktX12 bcX12_reads ctX12 atX12 (sel cs_cn_X12_reads_1 [0, 92, 93, 220, 252, 257, 259, 266, 267]) (sel iv_cn_X12_reads_1 [179, 180, 181, 182, 44, 45]) 4000 iv_cn_X12_reads_1_88 = true := by decide +kernel
set_option maxRecDepth 100000 in
theorem ck_cn_X12_reads_1_89 : chkI MT cn_X12_reads_1 skX12 ktX12 bcX12_reads ctX12 atX12 (sel cs_cn_X12_reads_1 [1, 2, 225, 257]) (sel iv_cn_X12_reads_1 []) 4000 iv_cn_X12_reads_1_89 = true := by decide +kernel
set_option maxRecDepth 100000 in
theorem ck_cn_X12_reads_1_90 : chkI MT cn_X12_reads_1 skX12 ktX12 bcX12_reads ctX12 atX12 (sel cs_cn_X12_reads_1 [0, 94, 95, 221, 253, 257, 259, 266, 267]) (sel iv_cn_X12_reads_1 [183, 184, 185, 186, 187, 188]) 4000 iv_cn_X12_reads_1_90 = true := by decide +kernel
set_option maxRecDepth 100000 in
theorem ck_cn_X12_reads_1_91 : chkI MT cn_X12_reads_1 skX12 ktX12 bcX12_reads ctX12 atX12 (sel cs_cn_X12_reads_1 [1, 2, 225, 257]) (sel iv_cn_X12_reads_1 []) 4000 iv_cn_X12_reads_1_91 = true := by decide +kernel
set_option maxRecDepth 100000 in
theorem ck_cn_X12_reads_1_92 : chkI MT cn_X12_reads_1 skX12 ktX12 bcX12_reads ctX12 atX12 (sel cs_cn_X12_reads_1 [0, 96, 97, 222, 254, 257, 259, 266, 267]) (sel iv_cn_X12_reads_1 [192, 193, 194, 195, 96, 97]) 4000 iv_cn_X12_reads_1_92 = true := by decide +kernel
set_option maxRecDepth 100000 in
theorem ck_cn_X12_reads_1_93 : chkI MT cn_X12_reads_1 skX12 ktX12 bcX12_reads ctX12 atX12 (sel cs_cn_X12_reads_1 [1, 2, 225, 257]) (sel iv_cn_X12_reads_1 []) 4000 iv_cn_X12_reads_1_93 = true := by decide +kernel
set_option maxRecDepth 100000 in
theorem ck_cn_X12_reads_1_94 : chkI MT cn_X12_reads_1 skX12 ktX12 bcX12_reads ctX12 atX12 (sel cs_cn_X12_reads_1 [0, 98, 99, 223, 255, 257, 259, 266, 267]) (sel iv_cn_X12_reads_1 [196, 197, 198, 199, 200, 201]) 4000 iv_cn_X12_reads_1_94 = true := by decide +kernel

