set_option maxRecDepth 100000 in
theorem ck_cn_X12_worked_1_60 : chkI MT cn_X12_worked_1 skX12 ktX12 bcX12_worked ctX12 atX12 (sel cs_cn_X12_worked_1 [2, 6, 8]) (sel iv_cn_X12_worked_1 [31, 60]) 4000 iv_cn_X12_worked_1_60 = true := by decide +kernel
set_option maxRecDepth 100000 in
theorem ck_cn_X12_worked_1_61 : chkI MT cn_X12_worked_1 skX12 ktX12 bcX12_worked ctX12 atX12 (sel cs_cn_X12_worked_1 [2, 6, 8]) (sel iv_cn_X12_worked_1 [61, 31]) 4000 iv_cn_X12_worked_1_61 = true := by decide +kernel
set_option maxRecDepth 100000 in
theorem ck_cn_X12_worked_1_62 : chkI MT cn_X12_worked_1 skX12 ktX12 bcX12_worked ctX12 atX12 (sel cs_cn_X12_worked_1 [2, 6, 8]) (sel iv_cn_X12_worked_1 [1, 62]) 4000 iv_cn_X12_worked_1_62 = true := by decide +kernel
set_option maxRecDepth 100000 in
theorem ck_cn_X12_worked_1_63 : chkI MT cn_X12_worked_1 skX12 ktX12 bcX12_worked ctX12 atX12 (sel cs_cn_X12_worked_1 [2, 6, 8]) (sel iv_cn_X12_worked_1 [63, 1]) 4000 iv_cn_X12_worked_1_63 = true := by decide +kernel

