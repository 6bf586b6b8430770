set_option maxRecDepth 100000 in
theorem ck_cn_X12_reads_1_0 : chkI MT cn_X12_reads_1 skX12 ktX12 bcX12_reads ctX12 atX12 (sel cs_cn_X12_reads_1 [0, 257, 259, 262, 263, 264, 265, 266, 267]) (sel iv_cn_X12_reads_1 [1, 2, 3, 4, 5, 6]) 4000 iv_cn_X12_reads_1_0 = true := by decide +kernel
set_option maxRecDepth 100000 in
theorem ck_cn_X12_reads_1_1 : chkI MT cn_X12_reads_1 skX12 ktX12 bcX12_reads ctX12 atX12 (sel cs_cn_X12_reads_1 [0, 5, 6, 194, 226, 257, 259, 266, 267]) (sel iv_cn_X12_reads_1 [9, 10, 11, 12, 5, 6]) 4000 iv_cn_X12_reads_1_1 = true := by decide +kernel
set_option maxRecDepth 100000 in
theorem ck_cn_X12_reads_1_2 : chkI MT cn_X12_reads_1 skX12 ktX12 bcX12_reads ctX12 atX12 (sel cs_cn_X12_reads_1 [1, 2, 225, 257]) (sel iv_cn_X12_reads_1 []) 4000 iv_cn_X12_reads_1_2 = true := by decide +kernel
set_option maxRecDepth 100000 in
theorem ck_cn_X12_reads_1_3 : chkI MT cn_X12_reads_1 skX12 ktX12 bcX12_reads ctX12 atX12 (sel cs_cn_X12_reads_1 [0, 7, 8, 195, 227, 257, 259, 266, 267]) (sel iv_cn_X12_reads_1 [13, 14, 15, 16, 17, 18]) 4000 iv_cn_X12_reads_1_3 = true := by decide +kernel
set_option maxRecDepth 100000 in
theorem ck_cn_X12_reads_1_4 : chkI MT cn_X12_reads_1 skX12 ktX12 bcX12_reads ctX12 atX12 (sel cs_cn_X12_reads_1 [1, 2, 225, 257]) (sel iv_cn_X12_reads_1 []) 4000 iv_cn_X12_reads_1_4 = true := by decide +kernel
set_option maxRecDepth 100000 in
theorem ck_cn_X12_reads_1_5 : chkI MT cn_X12_reads_1 skX12 ktX12 bcX12_reads ctX12 atX12 (sel cs_cn_X12_reads_1 [0, 9, 10, 11, 12, 13, 14, 15, 257, 259, 260, 261, 267]) (sel iv_cn_X12_reads_1 [7, 8]) 4000 iv_cn_X12_reads_1_5 = true := by decide +kernel
