set_option maxRecDepth 100000 in
theorem ck_cn_X12_reads_1_80 : chkI MT cn_X12_reads_1 skX12 ktX12 bcX12_reads ctX12 atX12 cs_cn_X12_reads_1 iv_cn_X12_reads_1 4000 iv_cn_X12_reads_1_80 = true := by decide +kernel
set_option maxRecDepth 100000 in
theorem ck_cn_X12_reads_1_81 : chkI MT cn_X12_reads_1 skX12 ktX12 bcX12_reads ctX12 atX12 cs_cn_X12_reads_1 iv_cn_X12_reads_1 4000 iv_cn_X12_reads_1_81 = true := by decide +kernel
set_option maxRecDepth 100000 in
theorem ck_cn_X12_reads_1_82 : chkI MT cn_X12_reads_1 skX12 ktX12 bcX12_reads ctX12 atX12 cs_cn_X12_reads_1 iv_cn_X12_reads_1 4000 iv_cn_X12_reads_1_82 = true := by decide +kernel
set_option maxRecDepth 100000 in
theorem ck_cn_X12_reads_1_83 : chkI MT cn_X12_reads_1 skX12 ktX12 bcX12_reads ctX12 atX12 cs_cn_X12_reads_1 iv_cn_X12_reads_1 4000 iv_cn_X12_reads_1_83 = true := by decide +kernel
set_option maxRecDepth 100000 in
theorem ck_cn_X12_reads_1_84 : chkI MT cn_X12_reads_1 skX12 ktX12 bcX12_reads ctX12 atX12 cs_cn_X12_reads_1 iv_cn_X12_reads_1 4000 iv_cn_X12_reads_1_84 = true := by decide +kernel
set_option maxRecDepth 100000 in
theorem ck_cn_X12_reads_1_85 : chkI MT cn_X12_reads_1 skX12 ktX12 bcX12_reads ctX12 atX12 cs_cn_X12_reads_1 iv_cn_X12_reads_1 4000 iv_cn_X12_reads_1_85 = true := by decide +kernel
set_option maxRecDepth 100000 in
theorem ck_cn_X12_reads_1_86 : chkI MT cn_X12_reads_1 skX12 ktX12 bcX12_reads ctX12 atX12 cs_cn_X12_reads_1 iv_cn_X12_reads_1 4000 iv_cn_X12_reads_1_86 = true := by decide +kernel
set_option maxRecDepth 100000 in
theorem ck_cn_X12_reads_1_87 : chkI MT cn_X12_reads_1 skX12 ktX12 bcX12_reads ctX12 atX12 cs_cn_X12_reads_1 iv_cn_X12_reads_1 4000 iv_cn_X12_reads_1_87 = true := by decide +kernel
