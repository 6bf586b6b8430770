set_option maxRecDepth 100000 in
theorem ck_cn_X12_worked_1_12 : chkI MT cn_X12_worked_1 skX12 ktX12 bcX12_worked ctX12 atX12 cs_cn_X12_worked_1 iv_cn_X12_worked_1 4000 iv_cn_X12_worked_1_12 = true := by decide +kernel
set_option maxRecDepth 100000 in
theorem ck_cn_X12_worked_1_13 : chkI MT cn_X12_worked_1 skX12 ktX12 bcX12_worked ctX12 atX12 cs_cn_X12_worked_1 iv_cn_X12_worked_1 4000 iv_cn_X12_worked_1_13 = true := by decide +kernel
set_option maxRecDepth 100000 in
theorem ck_cn_X12_worked_1_14 : chkI MT cn_X12_worked_1 skX12 ktX12 bcX12_worked ctX12 atX12 cs_cn_X12_worked_1 iv_cn_X12_worked_1 4000 iv_cn_X12_worked_1_14 = true := by decide +kernel
set_option maxRecDepth 100000 in
theorem ck_cn_X12_worked_1_15 : chkI MT cn_X12_worked_1 skX12 ktX12 bcX12_worked ctX12 atX12 cs_cn_X12_worked_1 iv_cn_X12_worked_1 4000 iv_cn_X12_worked_1_15 = true := by decide +kernel
set_option maxRecDepth 100000 in
theorem ck_cn_X12_worked_1_16 : chkI MT cn_X12_worked_1 skX12 ktX12 bcX12_worked ctX12 atX12 cs_cn_X12_worked_1 iv_cn_X12_worked_1 4000 iv_cn_X12_worked_1_16 = true := by decide +kernel
set_option maxRecDepth 100000 in
theorem ck_cn_X12_worked_1_17 : chkI MT cn_X12_worked_1 skX12 ktX12 bcX12_worked ctX12 atX12 cs_cn_X12_worked_1 iv_cn_X12_worked_1 4000 iv_cn_X12_worked_1_17 = true := by decide +kernel
