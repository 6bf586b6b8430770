set_option maxRecDepth 100000 in
theorem ck_cn_X12_worked_1_8 : chkI MT cn_X12_worked_1 skX12 ktX12 bcX12_worked ctX12 atX12 (sel cs_cn_X12_worked_1 [1, 4, 6, 7]) (sel iv_cn_X12_worked_1 [5, 8, 18, 19]) 4000 iv_cn_X12_worked_1_8 = true := by decide +kernel
set_option maxRecDepth 100000 in
theorem ck_cn_X12_worked_1_9 : chkI MT cn_X12_worked_1 skX12 ktX12 bcX12_worked ctX12 atX12 (sel cs_cn_X12_worked_1 [1, 4, 6, 7]) (sel iv_cn_X12_worked_1 [9, 5, 16, 17]) 4000 iv_cn_X12_worked_1_9 = true := by decide +kernel
set_option maxRecDepth 100000 in
theorem ck_cn_X12_worked_1_10 : chkI MT cn_X12_worked_1 skX12 ktX12 bcX12_worked ctX12 atX12 (sel cs_cn_X12_worked_1 [1, 4, 6, 7]) (sel iv_cn_X12_worked_1 [3, 10, 22, 23]) 4000 iv_cn_X12_worked_1_10 = true := by decide +kernel
set_option maxRecDepth 100000 in
theorem ck_cn_X12_worked_1_11 : chkI MT cn_X12_worked_1 skX12 ktX12 bcX12_worked ctX12 atX12 (sel cs_cn_X12_worked_1 [1, 4, 6, 7]) (sel iv_cn_X12_worked_1 [11, 3, 20, 21]) 4000 iv_cn_X12_worked_1_11 = true := by decide +kernel

