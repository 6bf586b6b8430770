set_option maxRecDepth 100000 in
theorem ck_cn_X12_worked_1_40 : chkI MT cn_X12_worked_1 skX12 ktX12 bcX12_worked ctX12 atX12 (sel cs_cn_X12_worked_1 [2, 6, 8]) (sel iv_cn_X12_worked_1 [21, 40]) 4000 iv_cn_X12_worked_1_40 = true := by decide +kernel
set_option maxRecDepth 100000 in
theorem ck_cn_X12_worked_1_41 : chkI MT cn_X12_worked_1 skX12 ktX12 bcX12_worked ctX12 atX12 (sel cs_cn_X12_worked_1 [2, 6, 8]) (sel iv_cn_X12_worked_1 [41, 21]) 4000 iv_cn_X12_worked_1_41 = true := by decide +kernel
set_option maxRecDepth 100000 in
theorem ck_cn_X12_worked_1_42 : chkI MT cn_X12_worked_1 skX12 ktX12 bcX12_worked ctX12 atX12 (sel cs_cn_X12_worked_1 [2, 6, 8]) (sel iv_cn_X12_worked_1 [11, 42]) 4000 iv_cn_X12_worked_1_42 = true := by decide +kernel
set_option maxRecDepth 100000 in
theorem ck_cn_X12_worked_1_43 : chkI MT cn_X12_worked_1 skX12 ktX12 bcX12_worked ctX12 atX12 (sel cs_cn_X12_worked_1 [2, 6, 8]) (sel iv_cn_X12_worked_1 [43, 11]) 4000 iv_cn_X12_worked_1_43 = true := by decide +kernel

