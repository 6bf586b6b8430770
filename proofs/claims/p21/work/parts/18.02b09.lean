set_option maxRecDepth 100000 in
theorem ck_cn_X12_reads_1_92 : chkI MT cn_X12_reads_1 skX12 ktX12 bcX12_reads ctX12 atX12 (sel cs_cn_X12_reads_1 [1, 2, 225, 257]) (sel iv_cn_X12_reads_1 []) 4000 iv_cn_X12_reads_1_92 = true := by decide +kernel
set_option maxRecDepth 100000 in
theorem ck_cn_X12_reads_1_93 : chkI MT cn_X12_reads_1 skX12 ktX12 bcX12_reads ctX12 atX12 (sel cs_cn_X12_reads_1 [257, 258, 259, 266, 267]) (sel iv_cn_X12_reads_1 []) 4000 iv_cn_X12_reads_1_93 = true := by decide +kernel
set_option maxRecDepth 100000 in
theorem ck_cn_X12_reads_1_94 : chkI MT cn_X12_reads_1 skX12 ktX12 bcX12_reads ctX12 atX12 (sel cs_cn_X12_reads_1 [1, 2, 225, 257]) (sel iv_cn_X12_reads_1 []) 4000 iv_cn_X12_reads_1_94 = true := by decide +kernel
set_option maxRecDepth 100000 in
theorem ck_cn_X12_reads_1_95 : chkI MT cn_X12_reads_1 skX12 ktX12 bcX12_reads ctX12 atX12 (sel cs_cn_X12_reads_1 [257, 258, 259, 266, 267]) (sel iv_cn_X12_reads_1 []) 4000 iv_cn_X12_reads_1_95 = true := by decide +kernel
set_option maxRecDepth 100000 in
theorem ck_cn_X12_reads_1_96 : chkI MT cn_X12_reads_1 skX12 ktX12 bcX12_reads ctX12 atX12 (sel cs_cn_X12_reads_1 [1, 2, 225, 257]) (sel iv_cn_X12_reads_1 []) 4000 iv_cn_X12_reads_1_96 = true := by decide +kernel
set_option maxRecDepth 100000 in
theorem ck_cn_X12_reads_1_97 : chkI MT cn_X12_reads_1 skX12 ktX12 bcX12_reads ctX12 atX12 (sel cs_cn_X12_reads_1 [0, 138, 139, 140, 141, 142, 143, 144, 145, 257, 259, 260, 261, 267]) (sel iv_cn_X12_reads_1 [45, 46, 47, 48]) 4000 iv_cn_X12_reads_1_97 = true := by decide +kernel
set_option maxRecDepth 100000 in
theorem ck_cn_X12_reads_1_98 : chkI MT cn_X12_reads_1 skX12 ktX12 bcX12_reads ctX12 atX12 (sel cs_cn_X12_reads_1 [2, 3, 4, 225, 257]) (sel iv_cn_X12_reads_1 []) 4000 iv_cn_X12_reads_1_98 = true := by decide +kernel
set_option maxRecDepth 100000 in
theorem ck_cn_X12_reads_1_99 : chkI MT cn_X12_reads_1 skX12 ktX12 bcX12_reads ctX12 atX12 (sel cs_cn_X12_reads_1 [257, 258, 259, 266, 267]) (sel iv_cn_X12_reads_1 []) 4000 iv_cn_X12_reads_1_99 = true := by decide +kernel
set_option maxRecDepth 100000 in
theorem ck_cn_X12_reads_1_100 : chkI MT cn_X12_reads_1 skX12 ktX12 bcX12_reads ctX12 atX12 (sel cs_cn_X12_reads_1 [1, 2, 225, 257]) (sel iv_cn_X12_reads_1 []) 4000 iv_cn_X12_reads_1_100 = true := by decide +kernel
set_option maxRecDepth 100000 in
theorem ck_cn_X12_reads_1_101 : chkI MT cn_X12_reads_1 skX12 ktX12 bcX12_reads ctX12 atX12 (sel cs_cn_X12_reads_1 [257, 258, 259, 266, 267]) (sel iv_cn_X12_reads_1 []) 4000 iv_cn_X12_reads_1_101 = true := by decide +kernel
set_option maxRecDepth 100000 in
theorem ck_cn_X12_reads_1_102 : chkI MT cn_X12_reads_1 skX12 ktX12 bcX12_reads ctX12 atX12 (sel cs_cn_X12_reads_1 [1, 2, 225, 257]) (sel iv_cn_X12_reads_1 []) 4000 iv_cn_X12_reads_1_102 = true := by decide +kernel
set_option maxRecDepth 100000 in
theorem ck_cn_X12_reads_1_103 : chkI MT cn_X12_reads_1 skX12 ktX12 bcX12_reads ctX12 atX12 (sel cs_cn_X12_reads_1 [257, 258, 259, 266, 267]) (sel iv_cn_X12_reads_1 []) 4000 iv_cn_X12_reads_1_103 = true := by decide +kernel
set_option maxRecDepth 100000 in
theorem ck_cn_X12_reads_1_104 : chkI MT cn_X12_reads_1 skX12 ktX12 bcX12_reads ctX12 atX12 (sel cs_cn_X12_reads_1 [1, 2, 225, 257]) (sel iv_cn_X12_reads_1 []) 4000 iv_cn_X12_reads_1_104 = true := by decide +kernel
set_option maxRecDepth 100000 in
theorem ck_cn_X12_reads_1_105 : chkI MT cn_X12_reads_1 skX12 ktX12 bcX12_reads ctX12 atX12 (sel cs_cn_X12_reads_1 [257, 258, 259, 266, 267]) (sel iv_cn_X12_reads_1 []) 4000 iv_cn_X12_reads_1_105 = true := by decide +kernel
