set_option maxRecDepth 100000 in
theorem ck_cn_X12_worked_1_42 : chkI MT cn_X12_worked_1 skX12 ktX12 bcX12_worked ctX12 atX12 cs_cn_X12_worked_1 iv_cn_X12_worked_1 4000 iv_cn_X12_worked_1_42 = true := by decide +kernel
set_option maxRecDepth 100000 in
theorem ck_cn_X12_worked_1_43 : chkI MT cn_X12_worked_1 skX12 ktX12 bcX12_worked ctX12 atX12 cs_cn_X12_worked_1 iv_cn_X12_worked_1 4000 iv_cn_X12_worked_1_43 = true := by decide +kernel
set_option maxRecDepth 100000 in
theorem ck_cn_X12_worked_1_44 : chkI MT cn_X12_worked_1 skX12 ktX12 bcX12_worked ctX12 atX12 cs_cn_X12_worked_1 iv_cn_X12_worked_1 4000 iv_cn_X12_worked_1_44 = true := by decide +kernel
set_option maxRecDepth 100000 in
theorem ck_cn_X12_worked_1_45 : chkI MT cn_X12_worked_1 skX12 ktX12 bcX12_worked ctX12 atX12 cs_cn_X12_worked_1 iv_cn_X12_worked_1 4000 iv_cn_X12_worked_1_45 = true := by decide +kernel
set_option maxRecDepth 100000 in
theorem ck_cn_X12_worked_1_46 : chkI MT cn_X12_worked_1 skX12 ktX12 bcX12_worked ctX12 atX12 cs_cn_X12_worked_1 iv_cn_X12_worked_1 4000 iv_cn_X12_worked_1_46 = true := by decide +kernel
set_option maxRecDepth 100000 in
theorem ck_cn_X12_worked_1_47 : chkI MT cn_X12_worked_1 skX12 ktX12 bcX12_worked ctX12 atX12 cs_cn_X12_worked_1 iv_cn_X12_worked_1 4000 iv_cn_X12_worked_1_47 = true := by decide +kernel
