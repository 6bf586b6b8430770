set_option maxRecDepth 100000 in
theorem ck_cn_X12_worked_1_44 : chkI MT cn_X12_worked_1 skX12 ktX12 bcX12_worked ctX12 atX12 (sel cs_cn_X12_worked_1 [2, 6, 8]) (sel iv_cn_X12_worked_1 [23, 44]) 4000 iv_cn_X12_worked_1_44 = true := by decide +kernel
set_option maxRecDepth 100000 in
theorem ck_cn_X12_worked_1_45 : chkI MT cn_X12_worked_1 skX12 ktX12 bcX12_worked ctX12 atX12 (sel cs_cn_X12_worked_1 [2, 6, 8]) (sel iv_cn_X12_worked_1 [45, 23]) 4000 iv_cn_X12_worked_1_45 = true := by decide +kernel
set_option maxRecDepth 100000 in
theorem ck_cn_X12_worked_1_46 : chkI MT cn_X12_worked_1 skX12 ktX12 bcX12_worked ctX12 atX12 (sel cs_cn_X12_worked_1 [2, 6, 8]) (sel iv_cn_X12_worked_1 [3, 46]) 4000 iv_cn_X12_worked_1_46 = true := by decide +kernel
set_option maxRecDepth 100000 in
theorem ck_cn_X12_worked_1_47 : chkI MT cn_X12_worked_1 skX12 ktX12 bcX12_worked ctX12 atX12 (sel cs_cn_X12_worked_1 [2, 6, 8]) (sel iv_cn_X12_worked_1 [47, 3]) 4000 iv_cn_X12_worked_1_47 = true := by decide +kernel

