set_option maxRecDepth 100000 in
theorem ck_cn_X12_worked_1_0 : chkI MT cn_X12_worked_1 skX12 ktX12 bcX12_worked ctX12 atX12 (sel cs_cn_X12_worked_1 [0, 3, 6]) (sel iv_cn_X12_worked_1 [1, 2, 3]) 4000 iv_cn_X12_worked_1_0 = true := by decide +kernel
set_option maxRecDepth 100000 in
theorem ck_cn_X12_worked_1_1 : chkI MT cn_X12_worked_1 skX12 ktX12 bcX12_worked ctX12 atX12 (sel cs_cn_X12_worked_1 [0, 3, 6]) (sel iv_cn_X12_worked_1 [1, 2, 3]) 4000 iv_cn_X12_worked_1_1 = true := by decide +kernel
set_option maxRecDepth 100000 in
theorem ck_cn_X12_worked_1_2 : chkI MT cn_X12_worked_1 skX12 ktX12 bcX12_worked ctX12 atX12 (sel cs_cn_X12_worked_1 [0, 4, 6]) (sel iv_cn_X12_worked_1 [1, 2, 6, 7]) 4000 iv_cn_X12_worked_1_2 = true := by decide +kernel
set_option maxRecDepth 100000 in
theorem ck_cn_X12_worked_1_3 : chkI MT cn_X12_worked_1 skX12 ktX12 bcX12_worked ctX12 atX12 (sel cs_cn_X12_worked_1 [0, 4, 6]) (sel iv_cn_X12_worked_1 [3, 1, 4, 5]) 4000 iv_cn_X12_worked_1_3 = true := by decide +kernel

