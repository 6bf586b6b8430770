set_option maxRecDepth 100000 in
theorem ck_cn_X12_worked_1_20 : chkI MT cn_X12_worked_1 skX12 ktX12 bcX12_worked ctX12 atX12 (sel cs_cn_X12_worked_1 [1, 5, 6, 7]) (sel iv_cn_X12_worked_1 [11, 20, 42, 43]) 4000 iv_cn_X12_worked_1_20 = true := by decide +kernel
set_option maxRecDepth 100000 in
theorem ck_cn_X12_worked_1_21 : chkI MT cn_X12_worked_1 skX12 ktX12 bcX12_worked ctX12 atX12 (sel cs_cn_X12_worked_1 [1, 5, 6, 7]) (sel iv_cn_X12_worked_1 [21, 11, 40, 41]) 4000 iv_cn_X12_worked_1_21 = true := by decide +kernel
set_option maxRecDepth 100000 in
theorem ck_cn_X12_worked_1_22 : chkI MT cn_X12_worked_1 skX12 ktX12 bcX12_worked ctX12 atX12 (sel cs_cn_X12_worked_1 [1, 5, 6, 7]) (sel iv_cn_X12_worked_1 [3, 22, 46, 47]) 4000 iv_cn_X12_worked_1_22 = true := by decide +kernel
set_option maxRecDepth 100000 in
theorem ck_cn_X12_worked_1_23 : chkI MT cn_X12_worked_1 skX12 ktX12 bcX12_worked ctX12 atX12 (sel cs_cn_X12_worked_1 [1, 5, 6, 7]) (sel iv_cn_X12_worked_1 [23, 3, 44, 45]) 4000 iv_cn_X12_worked_1_23 = true := by decide +kernel

