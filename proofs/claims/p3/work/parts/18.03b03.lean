set_option maxRecDepth 100000 in
theorem ck_cn_X12_worked_1_12 : chkI MT cn_X12_worked_1 skX12 ktX12 bcX12_worked ctX12 atX12 (sel cs_cn_X12_worked_1 [1, 4, 6, 7]) (sel iv_cn_X12_worked_1 [7, 12, 26, 27]) 4000 iv_cn_X12_worked_1_12 = true := by decide +kernel
set_option maxRecDepth 100000 in
theorem ck_cn_X12_worked_1_13 : chkI MT cn_X12_worked_1 skX12 ktX12 bcX12_worked ctX12 atX12 (sel cs_cn_X12_worked_1 [1, 4, 6, 7]) (sel iv_cn_X12_worked_1 [13, 7, 24, 25]) 4000 iv_cn_X12_worked_1_13 = true := by decide +kernel
set_option maxRecDepth 100000 in
theorem ck_cn_X12_worked_1_14 : chkI MT cn_X12_worked_1 skX12 ktX12 bcX12_worked ctX12 atX12 (sel cs_cn_X12_worked_1 [1, 4, 6, 7]) (sel iv_cn_X12_worked_1 [1, 14, 30, 31]) 4000 iv_cn_X12_worked_1_14 = true := by decide +kernel
set_option maxRecDepth 100000 in
theorem ck_cn_X12_worked_1_15 : chkI MT cn_X12_worked_1 skX12 ktX12 bcX12_worked ctX12 atX12 (sel cs_cn_X12_worked_1 [1, 4, 6, 7]) (sel iv_cn_X12_worked_1 [15, 1, 28, 29]) 4000 iv_cn_X12_worked_1_15 = true := by decide +kernel

