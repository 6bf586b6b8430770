set_option maxRecDepth 100000 in
theorem ck_cn_X12_reads_1_96 : chkI MT cn_X12_reads_1 skX12 ktX12 bcX12_reads ctX12 atX12 cs_cn_X12_reads_1 iv_cn_X12_reads_1 4000 iv_cn_X12_reads_1_96 = true := by decide +kernel
set_option maxRecDepth 100000 in
theorem ck_cn_X12_reads_1_97 : chkI MT cn_X12_reads_1 skX12 ktX12 bcX12_reads ctX12 atX12 cs_cn_X12_reads_1 iv_cn_X12_reads_1 4000 iv_cn_X12_reads_1_97 = true := by decide +kernel
set_option maxRecDepth 100000 in
theorem ck_cn_X12_reads_1_98 : chkI MT cn_X12_reads_1 skX12 ktX12 bcX12_reads ctX12 atX12 cs_cn_X12_reads_1 iv_cn_X12_reads_1 4000 iv_cn_X12_reads_1_98 = true := by decide +kernel
set_option maxRecDepth 100000 in
theorem ck_cn_X12_reads_1_99 : chkI MT cn_X12_reads_1 skX12 ktX12 bcX12_reads ctX12 atX12 cs_cn_X12_reads_1 iv_cn_X12_reads_1 4000 iv_cn_X12_reads_1_99 = true := by decide +kernel
set_option maxRecDepth 100000 in
theorem ck_cn_X12_reads_1_100 : chkI MT cn_X12_reads_1 skX12 ktX12 bcX12_reads ctX12 atX12 cs_cn_X12_reads_1 iv_cn_X12_reads_1 4000 iv_cn_X12_reads_1_100 = true := by decide +kernel
set_option maxRecDepth 100000 in
theorem ck_cn_X12_reads_1_101 : chkI MT cn_X12_reads_1 skX12 ktX12 bcX12_reads ctX12 atX12 cs_cn_X12_reads_1 iv_cn_X12_reads_1 4000 iv_cn_X12_reads_1_101 = true := by decide +kernel
set_option maxRecDepth 100000 in
theorem ck_cn_X12_reads_1_102 : chkI MT cn_X12_reads_1 skX12 ktX12 bcX12_reads ctX12 atX12 cs_cn_X12_reads_1 iv_cn_X12_reads_1 4000 iv_cn_X12_reads_1_102 = true := by decide +kernel
set_option maxRecDepth 100000 in
theorem ck_cn_X12_reads_1_103 : chkI MT cn_X12_reads_1 skX12 ktX12 bcX12_reads ctX12 atX12 cs_cn_X12_reads_1 iv_cn_X12_reads_1 4000 iv_cn_X12_reads_1_103 = true := by decide +kernel
