set_option maxRecDepth 100000 in
theorem ck_cn_X12_worked_1_28 : chkI MT cn_X12_worked_1 skX12 ktX12 bcX12_worked ctX12 atX12 (sel cs_cn_X12_worked_1 [1, 5, 6, 7]) (sel iv_cn_X12_worked_1 [15, 28, 58, 59]) 4000 iv_cn_X12_worked_1_28 = true := by decide +kernel
set_option maxRecDepth 100000 in
theorem ck_cn_X12_worked_1_29 : chkI MT cn_X12_worked_1 skX12 ktX12 bcX12_worked ctX12 atX12 (sel cs_cn_X12_worked_1 [1, 5, 6, 7]) (sel iv_cn_X12_worked_1 [29, 15, 56, 57]) 4000 iv_cn_X12_worked_1_29 = true := by decide +kernel
set_option maxRecDepth 100000 in
theorem ck_cn_X12_worked_1_30 : chkI MT cn_X12_worked_1 skX12 ktX12 bcX12_worked ctX12 atX12 (sel cs_cn_X12_worked_1 [1, 5, 6, 7]) (sel iv_cn_X12_worked_1 [1, 30, 62, 63]) 4000 iv_cn_X12_worked_1_30 = true := by decide +kernel
set_option maxRecDepth 100000 in
theorem ck_cn_X12_worked_1_31 : chkI MT cn_X12_worked_1 skX12 ktX12 bcX12_worked ctX12 atX12 (sel cs_cn_X12_worked_1 [1, 5, 6, 7]) (sel iv_cn_X12_worked_1 [31, 1, 60, 61]) 4000 iv_cn_X12_worked_1_31 = true := by decide +kernel

