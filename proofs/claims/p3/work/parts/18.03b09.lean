set_option maxRecDepth 100000 in
theorem ck_cn_X12_worked_1_36 : chkI MT cn_X12_worked_1 skX12 ktX12 bcX12_worked ctX12 atX12 (sel cs_cn_X12_worked_1 [2, 6, 8]) (sel iv_cn_X12_worked_1 [19, 36]) 4000 iv_cn_X12_worked_1_36 = true := by decide +kernel
set_option maxRecDepth 100000 in
theorem ck_cn_X12_worked_1_37 : chkI MT cn_X12_worked_1 skX12 ktX12 bcX12_worked ctX12 atX12 (sel cs_cn_X12_worked_1 [2, 6, 8]) (sel iv_cn_X12_worked_1 [37, 19]) 4000 iv_cn_X12_worked_1_37 = true := by decide +kernel
set_option maxRecDepth 100000 in
theorem ck_cn_X12_worked_1_38 : chkI MT cn_X12_worked_1 skX12 ktX12 bcX12_worked ctX12 atX12 (sel cs_cn_X12_worked_1 [2, 6, 8]) (sel iv_cn_X12_worked_1 [5, 38]) 4000 iv_cn_X12_worked_1_38 = true := by decide +kernel
set_option maxRecDepth 100000 in
theorem ck_cn_X12_worked_1_39 : chkI MT cn_X12_worked_1 skX12 ktX12 bcX12_worked ctX12 atX12 (sel cs_cn_X12_worked_1 [2, 6, 8]) (sel iv_cn_X12_worked_1 [39, 5]) 4000 iv_cn_X12_worked_1_39 = true := by decide +kernel

