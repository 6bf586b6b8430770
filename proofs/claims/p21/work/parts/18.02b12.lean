set_option maxRecDepth 100000 in
theorem ck_cn_X12_reads_1_132 : chkI MT cn_X12_reads_1 skX12 ktX12 bcX12_reads ctX12 atX12 (sel cs_cn_X12_reads_1 [1, 2, 225, 257]) (sel iv_cn_X12_reads_1 []) 4000 iv_cn_X12_reads_1_132 = true := by decide +kernel
set_option maxRecDepth 100000 in
theorem ck_cn_X12_reads_1_133 : chkI MT cn_X12_reads_1 skX12 ktX12 bcX12_reads ctX12 atX12 (sel cs_cn_X12_reads_1 [257, 258, 259, 266, 267]) (sel iv_cn_X12_reads_1 []) 4000 iv_cn_X12_reads_1_133 = true := by decide +kernel
set_option maxRecDepth 100000 in
theorem ck_cn_X12_reads_1_134 : chkI MT cn_X12_reads_1 skX12 ktX12 bcX12_reads ctX12 atX12 (sel cs_cn_X12_reads_1 [1, 2, 225, 257]) (sel iv_cn_X12_reads_1 []) 4000 iv_cn_X12_reads_1_134 = true := by decide +kernel
set_option maxRecDepth 100000 in
theorem ck_cn_X12_reads_1_135 : chkI MT cn_X12_reads_1 skX12 ktX12 bcX12_reads ctX12 atX12 (sel cs_cn_X12_reads_1 [257, 258, 259, 266, 267]) (sel iv_cn_X12_reads_1 []) 4000 iv_cn_X12_reads_1_135 = true := by decide +kernel
set_option maxRecDepth 100000 in
theorem ck_cn_X12_reads_1_136 : chkI MT cn_X12_reads_1 skX12 ktX12 bcX12_reads ctX12 atX12 (sel cs_cn_X12_reads_1 [1, 2, 225, 257]) (sel iv_cn_X12_reads_1 []) 4000 iv_cn_X12_reads_1_136 = true := by decide +kernel
set_option maxRecDepth 100000 in
theorem ck_cn_X12_reads_1_137 : chkI MT cn_X12_reads_1 skX12 ktX12 bcX12_reads ctX12 atX12 (sel cs_cn_X12_reads_1 [0, 170, 171, 172, 173, 174, 175, 176, 177, 257, 259, 260, 261, 267]) (sel iv_cn_X12_reads_1 [65, 66, 67, 68]) 4000 iv_cn_X12_reads_1_137 = true := by decide +kernel
set_option maxRecDepth 100000 in
theorem ck_cn_X12_reads_1_138 : chkI MT cn_X12_reads_1 skX12 ktX12 bcX12_reads ctX12 atX12 (sel cs_cn_X12_reads_1 [2, 3, 4, 225, 257]) (sel iv_cn_X12_reads_1 []) 4000 iv_cn_X12_reads_1_138 = true := by decide +kernel
set_option maxRecDepth 100000 in
theorem ck_cn_X12_reads_1_139 : chkI MT cn_X12_reads_1 skX12 ktX12 bcX12_reads ctX12 atX12 (sel cs_cn_X12_reads_1 [257, 258, 259, 266, 267]) (sel iv_cn_X12_reads_1 []) 4000 iv_cn_X12_reads_1_139 = true := by decide +kernel
set_option maxRecDepth 100000 in
theorem ck_cn_X12_reads_1_140 : chkI MT cn_X12_reads_1 skX12 ktX12 bcX12_reads ctX12 atX12 (sel cs_cn_X12_reads_1 [1, 2, 225, 257]) (sel iv_cn_X12_reads_1 []) 4000 iv_cn_X12_reads_1_140 = true := by decide +kernel
set_option maxRecDepth 100000 in
theorem ck_cn_X12_reads_1_141 : chkI MT cn_X12_reads_1 skX12 ktX12 bcX12_reads ctX12 atX12 (sel cs_cn_X12_reads_1 [257, 258, 259, 266, 267]) (sel iv_cn_X12_reads_1 []) 4000 iv_cn_X12_reads_1_141 = true := by decide +kernel
set_option maxRecDepth 100000 in
theorem ck_cn_X12_reads_1_142 : chkI MT cn_X12_reads_1 skX12 ktX12 bcX12_reads ctX12 atX12 (sel cs_cn_X12_reads_1 [1, 2, 225, 257]) (sel iv_cn_X12_reads_1 []) 4000 iv_cn_X12_reads_1_142 = true := by decide +kernel
set_option maxRecDepth 100000 in
theorem ck_cn_X12_reads_1_143 : chkI MT cn_X12_reads_1 skX12 ktX12 bcX12_reads ctX12 atX12 (sel cs_cn_X12_reads_1 [257, 258, 259, 266, 267]) (sel iv_cn_X12_reads_1 []) 4000 iv_cn_X12_reads_1_143 = true := by decide +kernel
set_option maxRecDepth 100000 in
theorem ck_cn_X12_reads_1_144 : chkI MT cn_X12_reads_1 skX12 ktX12 bcX12_reads ctX12 atX12 (sel cs_cn_X12_reads_1 [1, 2, 225, 257]) (sel iv_cn_X12_reads_1 []) 4000 iv_cn_X12_reads_1_144 = true := by decide +kernel
set_option maxRecDepth 100000 in
theorem ck_cn_X12_reads_1_145 : chkI MT cn_X12_reads_1 skX12 ktX12 bcX12_reads ctX12 atX12 (sel cs_cn_X12_reads_1 [257, 258, 259, 266, 267]) (sel iv_cn_X12_reads_1 []) 4000 iv_cn_X12_reads_1_145 = true := by decide +kernel
