set_option maxRecDepth 100000 in
theorem ck_cn_X12_worked_1_32 : chkI MT cn_X12_worked_1 skX12 ktX12 bcX12_worked ctX12 atX12 (sel cs_cn_X12_worked_1 [2, 6, 8]) (sel iv_cn_X12_worked_1 [17, 32]) 4000 iv_cn_X12_worked_1_32 = true := by decide +kernel
set_option maxRecDepth 100000 in
theorem ck_cn_X12_worked_1_33 : chkI MT cn_X12_worked_1 skX12 ktX12 bcX12_worked ctX12 atX12 (sel cs_cn_X12_worked_1 [2, 6, 8]) (sel iv_cn_X12_worked_1 [33, 17]) 4000 iv_cn_X12_worked_1_33 = true := by decide +kernel
set_option maxRecDepth 100000 in
theorem ck_cn_X12_worked_1_34 : chkI MT cn_X12_worked_1 skX12 ktX12 bcX12_worked ctX12 atX12 (sel cs_cn_X12_worked_1 [2, 6, 8]) (sel iv_cn_X12_worked_1 [9, 34]) 4000 iv_cn_X12_worked_1_34 = true := by decide +kernel
set_option maxRecDepth 100000 in
theorem ck_cn_X12_worked_1_35 : chkI MT cn_X12_worked_1 skX12 ktX12 bcX12_worked ctX12 atX12 (sel cs_cn_X12_worked_1 [2, 6, 8]) (sel iv_cn_X12_worked_1 [35, 9]) 4000 iv_cn_X12_worked_1_35 = true := by decide +kernel

