set_option maxRecDepth 100000 in
theorem ck_cn_X12_worked_1_54 : chkI MT cn_X12_worked_1 skX12 ktX12 bcX12_worked ctX12 atX12 cs_cn_X12_worked_1 iv_cn_X12_worked_1 4000 iv_cn_X12_worked_1_54 = true := by decide +kernel
set_option maxRecDepth 100000 in
theorem ck_cn_X12_worked_1_55 : chkI MT cn_X12_worked_1 skX12 ktX12 bcX12_worked ctX12 atX12 cs_cn_X12_worked_1 iv_cn_X12_worked_1 4000 iv_cn_X12_worked_1_55 = true := by decide +kernel
set_option maxRecDepth 100000 in
theorem ck_cn_X12_worked_1_56 : chkI MT cn_X12_worked_1 skX12 ktX12 bcX12_worked ctX12 atX12 cs_cn_X12_worked_1 iv_cn_X12_worked_1 4000 iv_cn_X12_worked_1_56 = true := by decide +kernel
set_option maxRecDepth 100000 in
theorem ck_cn_X12_worked_1_57 : chkI MT cn_X12_worked_1 skX12 ktX12 bcX12_worked ctX12 atX12 cs_cn_X12_worked_1 iv_cn_X12_worked_1 4000 iv_cn_X12_worked_1_57 = true := by decide +kernel
set_option maxRecDepth 100000 in
theorem ck_cn_X12_worked_1_58 : chkI MT cn_X12_worked_1 skX12 ktX12 bcX12_worked ctX12 atX12 cs_cn_X12_worked_1 iv_cn_X12_worked_1 4000 iv_cn_X12_worked_1_58 = true := by decide +kernel
set_option maxRecDepth 100000 in
theorem ck_cn_X12_worked_1_59 : chkI MT cn_X12_worked_1 skX12 ktX12 bcX12_worked ctX12 atX12 cs_cn_X12_worked_1 iv_cn_X12_worked_1 4000 iv_cn_X12_worked_1_59 = true := by decide +kernel
