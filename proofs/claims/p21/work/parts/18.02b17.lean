set_option maxRecDepth 100000 in
theorem ck_cn_X12_reads_1_136 : chkI MT cn_X12_reads_1 skX12 ktX12 bcX12_reads ctX12 atX12 cs_cn_X12_reads_1 iv_cn_X12_reads_1 4000 iv_cn_X12_reads_1_136 = true := by decide +kernel
set_option maxRecDepth 100000 in
theorem ck_cn_X12_reads_1_137 : chkI MT cn_X12_reads_1 skX12 ktX12 bcX12_reads ctX12 atX12 cs_cn_X12_reads_1 iv_cn_X12_reads_1 4000 iv_cn_X12_reads_1_137 = true := by decide +kernel
set_option maxRecDepth 100000 in
theorem ck_cn_X12_reads_1_138 : chkI MT cn_X12_reads_1 skX12 ktX12 bcX12_reads ctX12 atX12 cs_cn_X12_reads_1 iv_cn_X12_reads_1 4000 iv_cn_X12_reads_1_138 = true := by decide +kernel
set_option maxRecDepth 100000 in
theorem ck_cn_X12_reads_1_139 : chkI MT cn_X12_reads_1 skX12 ktX12 bcX12_reads ctX12 atX12 cs_cn_X12_reads_1 iv_cn_X12_reads_1 4000 iv_cn_X12_reads_1_139 = true := by decide +kernel
set_option maxRecDepth 100000 in
theorem ck_cn_X12_reads_1_140 : chkI MT cn_X12_reads_1 skX12 ktX12 bcX12_reads ctX12 atX12 cs_cn_X12_reads_1 iv_cn_X12_reads_1 4000 iv_cn_X12_reads_1_140 = true := by decide +kernel
set_option maxRecDepth 100000 in
theorem ck_cn_X12_reads_1_141 : chkI MT cn_X12_reads_1 skX12 ktX12 bcX12_reads ctX12 atX12 cs_cn_X12_reads_1 iv_cn_X12_reads_1 4000 iv_cn_X12_reads_1_141 = true := by decide +kernel
set_option maxRecDepth 100000 in
theorem ck_cn_X12_reads_1_142 : chkI MT cn_X12_reads_1 skX12 ktX12 bcX12_reads ctX12 atX12 cs_cn_X12_reads_1 iv_cn_X12_reads_1 4000 iv_cn_X12_reads_1_142 = true := by decide +kernel
set_option maxRecDepth 100000 in
theorem ck_cn_X12_reads_1_143 : chkI MT cn_X12_reads_1 skX12 ktX12 bcX12_reads ctX12 atX12 cs_cn_X12_reads_1 iv_cn_X12_reads_1 4000 iv_cn_X12_reads_1_143 = true := by decide +kernel
