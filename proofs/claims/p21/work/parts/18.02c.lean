set_option maxRecDepth 100000 in
theorem ck_cn_X12_reads_1_54 : chkI MT cn_X12_reads_1 skX12 ktX12 bcX12_reads ctX12 atX12 cs_cn_X12_reads_1 iv_cn_X12_reads_1 4000 iv_cn_X12_reads_1_54 = true := by decide +kernel
set_option maxRecDepth 100000 in
theorem ck_cn_X12_reads_1_55 : chkI MT cn_X12_reads_1 skX12 ktX12 bcX12_reads ctX12 atX12 cs_cn_X12_reads_1 iv_cn_X12_reads_1 4000 iv_cn_X12_reads_1_55 = true := by decide +kernel
set_option maxRecDepth 100000 in
theorem ck_cn_X12_reads_1_56 : chkI MT cn_X12_reads_1 skX12 ktX12 bcX12_reads ctX12 atX12 cs_cn_X12_reads_1 iv_cn_X12_reads_1 4000 iv_cn_X12_reads_1_56 = true := by decide +kernel
set_option maxRecDepth 100000 in
theorem ck_cn_X12_reads_1_57 : chkI MT cn_X12_reads_1 skX12 ktX12 bcX12_reads ctX12 atX12 cs_cn_X12_reads_1 iv_cn_X12_reads_1 4000 iv_cn_X12_reads_1_57 = true := by decide +kernel
set_option maxRecDepth 100000 in
theorem ck_cn_X12_reads_1_58 : chkI MT cn_X12_reads_1 skX12 ktX12 bcX12_reads ctX12 atX12 cs_cn_X12_reads_1 iv_cn_X12_reads_1 4000 iv_cn_X12_reads_1_58 = true := by decide +kernel
set_option maxRecDepth 100000 in
theorem ck_cn_X12_reads_1_59 : chkI MT cn_X12_reads_1 skX12 ktX12 bcX12_reads ctX12 atX12 cs_cn_X12_reads_1 iv_cn_X12_reads_1 4000 iv_cn_X12_reads_1_59 = true := by decide +kernel
set_option maxRecDepth 100000 in
theorem ck_cn_X12_reads_1_60 : chkI MT cn_X12_reads_1 skX12 ktX12 bcX12_reads ctX12 atX12 cs_cn_X12_reads_1 iv_cn_X12_reads_1 4000 iv_cn_X12_reads_1_60 = true := by decide +kernel
set_option maxRecDepth 100000 in
theorem ck_cn_X12_reads_1_61 : chkI MT cn_X12_reads_1 skX12 ktX12 bcX12_reads ctX12 atX12 cs_cn_X12_reads_1 iv_cn_X12_reads_1 4000 iv_cn_X12_reads_1_61 = true := by decide +kernel
set_option maxRecDepth 100000 in
theorem ck_cn_X12_reads_1_62 : chkI MT cn_X12_reads_1 skX12 ktX12 bcX12_reads ctX12 atX12 cs_cn_X12_reads_1 iv_cn_X12_reads_1 4000 iv_cn_X12_reads_1_62 = true := by decide +kernel
set_option maxRecDepth 100000 in
theorem ck_cn_X12_reads_1_63 : chkI MT cn_X12_reads_1 skX12 ktX12 bcX12_reads ctX12 atX12 cs_cn_X12_reads_1 iv_cn_X12_reads_1 4000 iv_cn_X12_reads_1_63 = true := by decide +kernel
set_option maxRecDepth 100000 in
theorem ck_cn_X12_reads_1_64 : chkI MT cn_X12_reads_1 skX12 ktX12 bcX12_reads ctX12 atX12 cs_cn_X12_reads_1 iv_cn_X12_reads_1 4000 iv_cn_X12_reads_1_64 = true := by decide +kernel
set_option maxRecDepth 100000 in
theorem ck_cn_X12_reads_1_65 : chkI MT cn_X12_reads_1 skX12 ktX12 bcX12_reads ctX12 atX12 cs_cn_X12_reads_1 iv_cn_X12_reads_1 4000 iv_cn_X12_reads_1_65 = true := by decide +kernel
set_option maxRecDepth 100000 in
theorem ck_cn_X12_reads_1_66 : chkI MT cn_X12_reads_1 skX12 ktX12 bcX12_reads ctX12 atX12 cs_cn_X12_reads_1 iv_cn_X12_reads_1 4000 iv_cn_X12_reads_1_66 = true := by decide +kernel
set_option maxRecDepth 100000 in
theorem ck_cn_X12_reads_1_67 : chkI MT cn_X12_reads_1 skX12 ktX12 bcX12_reads ctX12 atX12 cs_cn_X12_reads_1 iv_cn_X12_reads_1 4000 iv_cn_X12_reads_1_67 = true := by decide +kernel
set_option maxRecDepth 100000 in
theorem ck_cn_X12_reads_1_68 : chkI MT cn_X12_reads_1 skX12 ktX12 bcX12_reads ctX12 atX12 cs_cn_X12_reads_1 iv_cn_X12_reads_1 4000 iv_cn_X12_reads_1_68 = true := by decide +kernel
set_option maxRecDepth 100000 in
theorem ck_cn_X12_reads_1_69 : chkI MT cn_X12_reads_1 skX12 ktX12 bcX12_reads ctX12 atX12 cs_cn_X12_reads_1 iv_cn_X12_reads_1 4000 iv_cn_X12_reads_1_69 = true := by decide +kernel
set_option maxRecDepth 100000 in
theorem ck_cn_X12_reads_1_70 : chkI MT cn_X12_reads_1 skX12 ktX12 bcX12_reads ctX12 atX12 cs_cn_X12_reads_1 iv_cn_X12_reads_1 4000 iv_cn_X12_reads_1_70 = true := by decide +kernel
set_option maxRecDepth 100000 in
theorem ck_cn_X12_reads_1_71 : chkI MT cn_X12_reads_1 skX12 ktX12 bcX12_reads ctX12 atX12 cs_cn_X12_reads_1 iv_cn_X12_reads_1 4000 iv_cn_X12_reads_1_71 = true := by decide +kernel
set_option maxRecDepth 100000 in
theorem ck_cn_X12_reads_1_72 : chkI MT cn_X12_reads_1 skX12 ktX12 bcX12_reads ctX12 atX12 cs_cn_X12_reads_1 iv_cn_X12_reads_1 4000 iv_cn_X12_reads_1_72 = true := by decide +kernel
set_option maxRecDepth 100000 in
theorem ck_cn_X12_reads_1_73 : chkI MT cn_X12_reads_1 skX12 ktX12 bcX12_reads ctX12 atX12 cs_cn_X12_reads_1 iv_cn_X12_reads_1 4000 iv_cn_X12_reads_1_73 = true := by decide +kernel
set_option maxRecDepth 100000 in
theorem ck_cn_X12_reads_1_74 : chkI MT cn_X12_reads_1 skX12 ktX12 bcX12_reads ctX12 atX12 cs_cn_X12_reads_1 iv_cn_X12_reads_1 4000 iv_cn_X12_reads_1_74 = true := by decide +kernel
set_option maxRecDepth 100000 in
theorem ck_cn_X12_reads_1_75 : chkI MT cn_X12_reads_1 skX12 ktX12 bcX12_reads ctX12 atX12 cs_cn_X12_reads_1 iv_cn_X12_reads_1 4000 iv_cn_X12_reads_1_75 = true := by decide +kernel
set_option maxRecDepth 100000 in
theorem ck_cn_X12_reads_1_76 : chkI MT cn_X12_reads_1 skX12 ktX12 bcX12_reads ctX12 atX12 cs_cn_X12_reads_1 iv_cn_X12_reads_1 4000 iv_cn_X12_reads_1_76 = true := by decide +kernel
set_option maxRecDepth 100000 in
theorem ck_cn_X12_reads_1_77 : chkI MT cn_X12_reads_1 skX12 ktX12 bcX12_reads ctX12 atX12 cs_cn_X12_reads_1 iv_cn_X12_reads_1 4000 iv_cn_X12_reads_1_77 = true := by decide +kernel
set_option maxRecDepth 100000 in
theorem ck_cn_X12_reads_1_78 : chkI MT cn_X12_reads_1 skX12 ktX12 bcX12_reads ctX12 atX12 cs_cn_X12_reads_1 iv_cn_X12_reads_1 4000 iv_cn_X12_reads_1_78 = true := by decide +kernel
set_option maxRecDepth 100000 in
theorem ck_cn_X12_reads_1_79 : chkI MT cn_X12_reads_1 skX12 ktX12 bcX12_reads ctX12 atX12 cs_cn_X12_reads_1 iv_cn_X12_reads_1 4000 iv_cn_X12_reads_1_79 = true := by decide +kernel
set_option maxRecDepth 100000 in
theorem ck_cn_X12_reads_1_80 : chkI MT cn_X12_reads_1 skX12 ktX12 bcX12_reads ctX12 atX12 cs_cn_X12_reads_1 iv_cn_X12_reads_1 4000 iv_cn_X12_reads_1_80 = true := by decide +kernel
