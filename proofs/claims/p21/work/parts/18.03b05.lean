set_option maxRecDepth 100000 in
theorem ck_cn_X12_worked_1_30 : chkI MT cn_X12_worked_1 skX12 ktX12 bcX12_worked ctX12 atX12 cs_cn_X12_worked_1 iv_cn_X12_worked_1 4000 iv_cn_X12_worked_1_30 = true := by decide +kernel
set_option maxRecDepth 100000 in
theorem ck_cn_X12_worked_1_31 : chkI MT cn_X12_worked_1 skX12 ktX12 bcX12_worked ctX12 atX12 cs_cn_X12_worked_1 iv_cn_X12_worked_1 4000 iv_cn_X12_worked_1_31 = true := by decide +kernel
set_option maxRecDepth 100000 in
theorem ck_cn_X12_worked_1_32 : chkI MT cn_X12_worked_1 skX12 ktX12 bcX12_worked ctX12 atX12 cs_cn_X12_worked_1 iv_cn_X12_worked_1 4000 iv_cn_X12_worked_1_32 = true := by decide +kernel
set_option maxRecDepth 100000 in
theorem ck_cn_X12_worked_1_33 : chkI MT cn_X12_worked_1 skX12 ktX12 bcX12_worked ctX12 atX12 cs_cn_X12_worked_1 iv_cn_X12_worked_1 4000 iv_cn_X12_worked_1_33 = true := by decide +kernel
set_option maxRecDepth 100000 in
theorem ck_cn_X12_worked_1_34 : chkI MT cn_X12_worked_1 skX12 ktX12 bcX12_worked ctX12 atX12 cs_cn_X12_worked_1 iv_cn_X12_worked_1 4000 iv_cn_X12_worked_1_34 = true := by decide +kernel
set_option maxRecDepth 100000 in
theorem ck_cn_X12_worked_1_35 : chkI MT cn_X12_worked_1 skX12 ktX12 bcX12_worked ctX12 atX12 cs_cn_X12_worked_1 iv_cn_X12_worked_1 4000 iv_cn_X12_worked_1_35 = true := by decide +kernel
