set_option maxRecDepth 100000 in
theorem ck_cn_X12_worked_1_48 : chkI MT cn_X12_worked_1 skX12 ktX12 bcX12_worked ctX12 atX12 cs_cn_X12_worked_1 iv_cn_X12_worked_1 4000 iv_cn_X12_worked_1_48 = true := by decide +kernel
set_option maxRecDepth 100000 in
theorem ck_cn_X12_worked_1_49 : chkI MT cn_X12_worked_1 skX12 ktX12 bcX12_worked ctX12 atX12 cs_cn_X12_worked_1 iv_cn_X12_worked_1 4000 iv_cn_X12_worked_1_49 = true := by decide +kernel
set_option maxRecDepth 100000 in
theorem ck_cn_X12_worked_1_50 : chkI MT cn_X12_worked_1 skX12 ktX12 bcX12_worked ctX12 atX12 cs_cn_X12_worked_1 iv_cn_X12_worked_1 4000 iv_cn_X12_worked_1_50 = true := by decide +kernel
set_option maxRecDepth 100000 in
theorem ck_cn_X12_worked_1_51 : chkI MT cn_X12_worked_1 skX12 ktX12 bcX12_worked ctX12 atX12 cs_cn_X12_worked_1 iv_cn_X12_worked_1 4000 iv_cn_X12_worked_1_51 = true := by decide +kernel
set_option maxRecDepth 100000 in
theorem ck_cn_X12_worked_1_52 : chkI MT cn_X12_worked_1 skX12 ktX12 bcX12_worked ctX12 atX12 cs_cn_X12_worked_1 iv_cn_X12_worked_1 4000 iv_cn_X12_worked_1_52 = true := by decide +kernel
set_option maxRecDepth 100000 in
theorem ck_cn_X12_worked_1_53 : chkI MT cn_X12_worked_1 skX12 ktX12 bcX12_worked ctX12 atX12 cs_cn_X12_worked_1 iv_cn_X12_worked_1 4000 iv_cn_X12_worked_1_53 = true := by decide +kernel
