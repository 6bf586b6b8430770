set_option maxRecDepth 100000 in
theorem ck_cn_X12_reads_1_146 : chkI MT cn_X12_reads_1 skX12 ktX12 bcX12_reads ctX12 atX12 (sel cs_cn_X12_reads_1 [1, 2, 225, 257]) (sel iv_cn_X12_reads_1 []) 4000 iv_cn_X12_reads_1_146 = true := by decide +kernel
set_option maxRecDepth 100000 in
theorem ck_cn_X12_reads_1_147 : chkI MT cn_X12_reads_1 skX12 ktX12 bcX12_reads ctX12 atX12 (sel cs_cn_X12_reads_1 [0, 178, 179, 180, 181, 182, 183, 184, 185, 257, 259, 260, 261, 267]) (sel iv_cn_X12_reads_1 [71, 72, 37, 38]) 4000 iv_cn_X12_reads_1_147 = true := by decide +kernel
set_option maxRecDepth 100000 in
theorem ck_cn_X12_reads_1_148 : chkI MT cn_X12_reads_1 skX12 ktX12 bcX12_reads ctX12 atX12 (sel cs_cn_X12_reads_1 [2, 3, 4, 225, 257]) (sel iv_cn_X12_reads_1 []) 4000 iv_cn_X12_reads_1_148 = true := by decide +kernel
set_option maxRecDepth 100000 in
theorem ck_cn_X12_reads_1_149 : chkI MT cn_X12_reads_1 skX12 ktX12 bcX12_reads ctX12 atX12 (sel cs_cn_X12_reads_1 [257, 258, 259, 266, 267]) (sel iv_cn_X12_reads_1 []) 4000 iv_cn_X12_reads_1_149 = true := by decide +kernel
set_option maxRecDepth 100000 in
theorem ck_cn_X12_reads_1_150 : chkI MT cn_X12_reads_1 skX12 ktX12 bcX12_reads ctX12 atX12 (sel cs_cn_X12_reads_1 [1, 2, 225, 257]) (sel iv_cn_X12_reads_1 []) 4000 iv_cn_X12_reads_1_150 = true := by decide +kernel
set_option maxRecDepth 100000 in
theorem ck_cn_X12_reads_1_151 : chkI MT cn_X12_reads_1 skX12 ktX12 bcX12_reads ctX12 atX12 (sel cs_cn_X12_reads_1 [257, 258, 259, 266, 267]) (sel iv_cn_X12_reads_1 []) 4000 iv_cn_X12_reads_1_151 = true := by decide +kernel
set_option maxRecDepth 100000 in
theorem ck_cn_X12_reads_1_152 : chkI MT cn_X12_reads_1 skX12 ktX12 bcX12_reads ctX12 atX12 (sel cs_cn_X12_reads_1 [1, 2, 225, 257]) (sel iv_cn_X12_reads_1 []) 4000 iv_cn_X12_reads_1_152 = true := by decide +kernel
set_option maxRecDepth 100000 in
theorem ck_cn_X12_reads_1_153 : chkI MT cn_X12_reads_1 skX12 ktX12 bcX12_reads ctX12 atX12 (sel cs_cn_X12_reads_1 [257, 258, 259, 266, 267]) (sel iv_cn_X12_reads_1 []) 4000 iv_cn_X12_reads_1_153 = true := by decide +kernel
set_option maxRecDepth 100000 in
theorem ck_cn_X12_reads_1_154 : chkI MT cn_X12_reads_1 skX12 ktX12 bcX12_reads ctX12 atX12 (sel cs_cn_X12_reads_1 [1, 2, 225, 257]) (sel iv_cn_X12_reads_1 []) 4000 iv_cn_X12_reads_1_154 = true := by decide +kernel
set_option maxRecDepth 100000 in
theorem ck_cn_X12_reads_1_155 : chkI MT cn_X12_reads_1 skX12 ktX12 bcX12_reads ctX12 atX12 (sel cs_cn_X12_reads_1 [257, 258, 259, 266, 267]) (sel iv_cn_X12_reads_1 []) 4000 iv_cn_X12_reads_1_155 = true := by decide +kernel
set_option maxRecDepth 100000 in
theorem ck_cn_X12_reads_1_156 : chkI MT cn_X12_reads_1 skX12 ktX12 bcX12_reads ctX12 atX12 (sel cs_cn_X12_reads_1 [1, 2, 225, 257]) (sel iv_cn_X12_reads_1 []) 4000 iv_cn_X12_reads_1_156 = true := by decide +kernel
set_option maxRecDepth 100000 in
theorem ck_cn_X12_reads_1_157 : chkI MT cn_X12_reads_1 skX12 ktX12 bcX12_reads ctX12 atX12 (sel cs_cn_X12_reads_1 [0, 186, 187, 188, 189, 190, 191, 192, 193, 257, 259, 260, 261, 267]) (sel iv_cn_X12_reads_1 [75, 76, 77, 78]) 4000 iv_cn_X12_reads_1_157 = true := by decide +kernel
