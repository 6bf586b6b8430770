set_option maxRecDepth 100000 in
theorem ck_cn_X12_worked_1_4 : chkI MT cn_X12_worked_1 skX12 ktX12 bcX12_worked ctX12 atX12 (sel cs_cn_X12_worked_1 [1, 4, 6, 7]) (sel iv_cn_X12_worked_1 [3, 4, 10, 11]) 4000 iv_cn_X12_worked_1_4 = true := by decide +kernel
set_option maxRecDepth 100000 in
theorem ck_cn_X12_worked_1_5 : chkI MT cn_X12_worked_1 skX12 ktX12 bcX12_worked ctX12 atX12 (sel cs_cn_X12_worked_1 [1, 4, 6, 7]) (sel iv_cn_X12_worked_1 [5, 3, 8, 9]) 4000 iv_cn_X12_worked_1_5 = true := by decide +kernel
set_option maxRecDepth 100000 in
theorem ck_cn_X12_worked_1_6 : chkI MT cn_X12_worked_1 skX12 ktX12 bcX12_worked ctX12 atX12 (sel cs_cn_X12_worked_1 [1, 4, 6, 7]) (sel iv_cn_X12_worked_1 [1, 6, 14, 15]) 4000 iv_cn_X12_worked_1_6 = true := by decide +kernel
set_option maxRecDepth 100000 in
theorem ck_cn_X12_worked_1_7 : chkI MT cn_X12_worked_1 skX12 ktX12 bcX12_worked ctX12 atX12 (sel cs_cn_X12_worked_1 [1, 4, 6, 7]) (sel iv_cn_X12_worked_1 [7, 1, 12, 13]) 4000 iv_cn_X12_worked_1_7 = true := by decide +kernel

