set_option maxRecDepth 100000 in
theorem ck_cn_X12_reads_1_6 : chkI MT cn_X12_reads_1 skX12 ktX12 bcX12_reads ctX12 atX12 (sel cs_cn_X12_reads_1 [2, 3, 4, 225, 257]) (sel iv_cn_X12_reads_1 []) 4000 iv_cn_X12_reads_1_6 = true := by decide +kernel
set_option maxRecDepth 100000 in
theorem ck_cn_X12_reads_1_7 : chkI MT cn_X12_reads_1 skX12 ktX12 bcX12_reads ctX12 atX12 (sel cs_cn_X12_reads_1 [0, 16, 17, 196, 228, 257, 259, 266, 267]) (sel iv_cn_X12_reads_1 [1, 2, 3, 4, 5, 6]) 4000 iv_cn_X12_reads_1_7 = true := by decide +kernel
set_option maxRecDepth 100000 in
theorem ck_cn_X12_reads_1_8 : chkI MT cn_X12_reads_1 skX12 ktX12 bcX12_reads ctX12 atX12 (sel cs_cn_X12_reads_1 [1, 2, 225, 257]) (sel iv_cn_X12_reads_1 []) 4000 iv_cn_X12_reads_1_8 = true := by decide +kernel
set_option maxRecDepth 100000 in
theorem ck_cn_X12_reads_1_9 : chkI MT cn_X12_reads_1 skX12 ktX12 bcX12_reads ctX12 atX12 (sel cs_cn_X12_reads_1 [0, 18, 19, 197, 229, 257, 259, 266, 267]) (sel iv_cn_X12_reads_1 [19, 20, 21, 22, 5, 6]) 4000 iv_cn_X12_reads_1_9 = true := by decide +kernel
set_option maxRecDepth 100000 in
theorem ck_cn_X12_reads_1_10 : chkI MT cn_X12_reads_1 skX12 ktX12 bcX12_reads ctX12 atX12 (sel cs_cn_X12_reads_1 [1, 2, 225, 257]) (sel iv_cn_X12_reads_1 []) 4000 iv_cn_X12_reads_1_10 = true := by decide +kernel
set_option maxRecDepth 100000 in
theorem ck_cn_X12_reads_1_11 : chkI MT cn_X12_reads_1 skX12 ktX12 bcX12_reads ctX12 atX12 (sel cs_cn_X12_reads_1 [0, 20, 21, 198, 230, 257, 259, 266, 267]) (sel iv_cn_X12_reads_1 [23, 24, 25, 26, 27, 28]) 4000 iv_cn_X12_reads_1_11 = true := by decide +kernel
set_option maxRecDepth 100000 in
theorem ck_cn_X12_reads_1_12 : chkI MT cn_X12_reads_1 skX12 ktX12 bcX12_reads ctX12 atX12 (sel cs_cn_X12_reads_1 [1, 2, 225, 257]) (sel iv_cn_X12_reads_1 []) 4000 iv_cn_X12_reads_1_12 = true := by decide +kernel
set_option maxRecDepth 100000 in
theorem ck_cn_X12_reads_1_13 : chkI MT cn_X12_reads_1 skX12 ktX12 bcX12_reads ctX12 atX12 (sel cs_cn_X12_reads_1 [0, 22, 23, 199, 231, 257, 259, 266, 267]) (sel iv_cn_X12_reads_1 [29, 30, 31, 32, 17, 18]) 4000 iv_cn_X12_reads_1_13 = true := by decide +kernel
set_option maxRecDepth 100000 in
theorem ck_cn_X12_reads_1_14 : chkI MT cn_X12_reads_1 skX12 ktX12 bcX12_reads ctX12 atX12 (sel cs_cn_X12_reads_1 [1, 2, 225, 257]) (sel iv_cn_X12_reads_1 []) 4000 iv_cn_X12_reads_1_14 = true := by decide +kernel
set_option maxRecDepth 100000 in
theorem ck_cn_X12_reads_1_15 : chkI MT cn_X12_reads_1 skX12 ktX12 bcX12_reads ctX12 atX12 (sel cs_cn_X12_reads_1 [0, 24, 25, 200, 232, 257, 259, 266, 267]) (sel iv_cn_X12_reads_1 [33, 34, 35, 36, 37, 38]) 4000 iv_cn_X12_reads_1_15 = true := by decide +kernel
set_option maxRecDepth 100000 in
theorem ck_cn_X12_reads_1_16 : chkI MT cn_X12_reads_1 skX12 ktX12 bcX12_reads ctX12 atX12 (sel cs_cn_X12_reads_1 [1, 2, 225, 257]) (sel iv_cn_X12_reads_1 []) 4000 iv_cn_X12_reads_1_16 = true := by decide +kernel
set_option maxRecDepth 100000 in
theorem ck_cn_X12_reads_1_17 : chkI MT cn_X12_reads_1 skX12 ktX12 bcX12_reads ctX12 atX12 (sel cs_cn_X12_reads_1 [0, 26, 27, 28, 29, 30, 31, 32, 33, 257, 259, 260, 261, 267]) (sel iv_cn_X12_reads_1 [3, 4, 5, 6]) 4000 iv_cn_X12_reads_1_17 = true := by decide +kernel
