set_option maxRecDepth 100000 in
theorem ck_cn_X12_worked_1_16 : chkI MT cn_X12_worked_1 skX12 ktX12 bcX12_worked ctX12 atX12 (sel cs_cn_X12_worked_1 [1, 5, 6, 7]) (sel iv_cn_X12_worked_1 [9, 16, 34, 35]) 4000 iv_cn_X12_worked_1_16 = true := by decide +kernel
set_option maxRecDepth 100000 in
theorem ck_cn_X12_worked_1_17 : chkI MT cn_X12_worked_1 skX12 ktX12 bcX12_worked ctX12 atX12 (sel cs_cn_X12_worked_1 [1, 5, 6, 7]) (sel iv_cn_X12_worked_1 [17, 9, 32, 33]) 4000 iv_cn_X12_worked_1_17 = true := by decide +kernel
set_option maxRecDepth 100000 in
theorem ck_cn_X12_worked_1_18 : chkI MT cn_X12_worked_1 skX12 ktX12 bcX12_worked ctX12 atX12 (sel cs_cn_X12_worked_1 [1, 5, 6, 7]) (sel iv_cn_X12_worked_1 [5, 18, 38, 39]) 4000 iv_cn_X12_worked_1_18 = true := by decide +kernel
set_option maxRecDepth 100000 in
theorem ck_cn_X12_worked_1_19 : chkI MT cn_X12_worked_1 skX12 ktX12 bcX12_worked ctX12 atX12 (sel cs_cn_X12_worked_1 [1, 5, 6, 7]) (sel iv_cn_X12_worked_1 [19, 5, 36, 37]) 4000 iv_cn_X12_worked_1_19 = true := by decide +kernel

