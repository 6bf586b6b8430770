set_option maxRecDepth 100000 in
theorem ck_cn_X12_worked_1_24 : chkI MT cn_X12_worked_1 skX12 ktX12 bcX12_worked ctX12 atX12 (sel cs_cn_X12_worked_1 [1, 5, 6, 7]) (sel iv_cn_X12_worked_1 [13, 24, 50, 51]) 4000 iv_cn_X12_worked_1_24 = true := by decide +kernel
set_option maxRecDepth 100000 in
theorem ck_cn_X12_worked_1_25 : chkI MT cn_X12_worked_1 skX12 ktX12 bcX12_worked ctX12 atX12 (sel cs_cn_X12_worked_1 [1, 5, 6, 7]) (sel iv_cn_X12_worked_1 [25, 13, 48, 49]) 4000 iv_cn_X12_worked_1_25 = true := by decide +kernel
set_option maxRecDepth 100000 in
theorem ck_cn_X12_worked_1_26 : chkI MT cn_X12_worked_1 skX12 ktX12 bcX12_worked ctX12 atX12 (sel cs_cn_X12_worked_1 [1, 5, 6, 7]) (sel iv_cn_X12_worked_1 [7, 26, 54, 55]) 4000 iv_cn_X12_worked_1_26 = true := by decide +kernel
set_option maxRecDepth 100000 in
theorem ck_cn_X12_worked_1_27 : chkI MT cn_X12_worked_1 skX12 ktX12 bcX12_worked ctX12 atX12 (sel cs_cn_X12_worked_1 [1, 5, 6, 7]) (sel iv_cn_X12_worked_1 [27, 7, 52, 53]) 4000 iv_cn_X12_worked_1_27 = true := by decide +kernel

