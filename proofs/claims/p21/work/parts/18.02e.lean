set_option maxRecDepth 100000 in
theorem ck_cn_X12_reads_1_108 : chkI MT cn_X12_reads_1 skX12 ktX12 bcX12_reads ctX12 atX12 cs_cn_X12_reads_1 iv_cn_X12_reads_1 4000 iv_cn_X12_reads_1_108 = true := by decide +kernel
set_option maxRecDepth 100000 in
theorem ck_cn_X12_reads_1_109 : chkI MT cn_X12_reads_1 skX12 ktX12 bcX12_reads ctX12 atX12 cs_cn_X12_reads_1 iv_cn_X12_reads_1 4000 iv_cn_X12_reads_1_109 = true := by decide +kernel
set_option maxRecDepth 100000 in
theorem ck_cn_X12_reads_1_110 : chkI MT cn_X12_reads_1 skX12 ktX12 bcX12_reads ctX12 atX12 cs_cn_X12_reads_1 iv_cn_X12_reads_1 4000 iv_cn_X12_reads_1_110 = true := by decide +kernel
set_option maxRecDepth 100000 in
theorem ck_cn_X12_reads_1_111 : chkI MT cn_X12_reads_1 skX12 ktX12 bcX12_reads ctX12 atX12 cs_cn_X12_reads_1 iv_cn_X12_reads_1 4000 iv_cn_X12_reads_1_111 = true := by decide +kernel
set_option maxRecDepth 100000 in
theorem ck_cn_X12_reads_1_112 : chkI MT cn_X12_reads_1 skX12 ktX12 bcX12_reads ctX12 atX12 cs_cn_X12_reads_1 iv_cn_X12_reads_1 4000 iv_cn_X12_reads_1_112 = true := by decide +kernel
set_option maxRecDepth 100000 in
theorem ck_cn_X12_reads_1_113 : chkI MT cn_X12_reads_1 skX12 ktX12 bcX12_reads ctX12 atX12 cs_cn_X12_reads_1 iv_cn_X12_reads_1 4000 iv_cn_X12_reads_1_113 = true := by decide +kernel
set_option maxRecDepth 100000 in
theorem ck_cn_X12_reads_1_114 : chkI MT cn_X12_reads_1 skX12 ktX12 bcX12_reads ctX12 atX12 cs_cn_X12_reads_1 iv_cn_X12_reads_1 4000 iv_cn_X12_reads_1_114 = true := by decide +kernel
set_option maxRecDepth 100000 in
theorem ck_cn_X12_reads_1_115 : chkI MT cn_X12_reads_1 skX12 ktX12 bcX12_reads ctX12 atX12 cs_cn_X12_reads_1 iv_cn_X12_reads_1 4000 iv_cn_X12_reads_1_115 = true := by decide +kernel
set_option maxRecDepth 100000 in
theorem ck_cn_X12_reads_1_116 : chkI MT cn_X12_reads_1 skX12 ktX12 bcX12_reads ctX12 atX12 cs_cn_X12_reads_1 iv_cn_X12_reads_1 4000 iv_cn_X12_reads_1_116 = true := by decide +kernel
set_option maxRecDepth 100000 in
theorem ck_cn_X12_reads_1_117 : chkI MT cn_X12_reads_1 skX12 ktX12 bcX12_reads ctX12 atX12 cs_cn_X12_reads_1 iv_cn_X12_reads_1 4000 iv_cn_X12_reads_1_117 = true := by decide +kernel
set_option maxRecDepth 100000 in
theorem ck_cn_X12_reads_1_118 : chkI MT cn_X12_reads_1 skX12 ktX12 bcX12_reads ctX12 atX12 cs_cn_X12_reads_1 iv_cn_X12_reads_1 4000 iv_cn_X12_reads_1_118 = true := by decide +kernel
set_option maxRecDepth 100000 in
theorem ck_cn_X12_reads_1_119 : chkI MT cn_X12_reads_1 skX12 ktX12 bcX12_reads ctX12 atX12 cs_cn_X12_reads_1 iv_cn_X12_reads_1 4000 iv_cn_X12_reads_1_119 = true := by decide +kernel
set_option maxRecDepth 100000 in
theorem ck_cn_X12_reads_1_120 : chkI MT cn_X12_reads_1 skX12 ktX12 bcX12_reads ctX12 atX12 cs_cn_X12_reads_1 iv_cn_X12_reads_1 4000 iv_cn_X12_reads_1_120 = true := by decide +kernel
set_option maxRecDepth 100000 in
theorem ck_cn_X12_reads_1_121 : chkI MT cn_X12_reads_1 skX12 ktX12 bcX12_reads ctX12 atX12 cs_cn_X12_reads_1 iv_cn_X12_reads_1 4000 iv_cn_X12_reads_1_121 = true := by decide +kernel
set_option maxRecDepth 100000 in
theorem ck_cn_X12_reads_1_122 : chkI MT cn_X12_reads_1 skX12 ktX12 bcX12_reads ctX12 atX12 cs_cn_X12_reads_1 iv_cn_X12_reads_1 4000 iv_cn_X12_reads_1_122 = true := by decide +kernel
set_option maxRecDepth 100000 in
theorem ck_cn_X12_reads_1_123 : chkI MT cn_X12_reads_1 skX12 ktX12 bcX12_reads ctX12 atX12 cs_cn_X12_reads_1 iv_cn_X12_reads_1 4000 iv_cn_X12_reads_1_123 = true := by decide +kernel
set_option maxRecDepth 100000 in
theorem ck_cn_X12_reads_1_124 : chkI MT cn_X12_reads_1 skX12 ktX12 bcX12_reads ctX12 atX12 cs_cn_X12_reads_1 iv_cn_X12_reads_1 4000 iv_cn_X12_reads_1_124 = true := by decide +kernel
set_option maxRecDepth 100000 in
theorem ck_cn_X12_reads_1_125 : chkI MT cn_X12_reads_1 skX12 ktX12 bcX12_reads ctX12 atX12 cs_cn_X12_reads_1 iv_cn_X12_reads_1 4000 iv_cn_X12_reads_1_125 = true := by decide +kernel
set_option maxRecDepth 100000 in
theorem ck_cn_X12_reads_1_126 : chkI MT cn_X12_reads_1 skX12 ktX12 bcX12_reads ctX12 atX12 cs_cn_X12_reads_1 iv_cn_X12_reads_1 4000 iv_cn_X12_reads_1_126 = true := by decide +kernel
set_option maxRecDepth 100000 in
theorem ck_cn_X12_reads_1_127 : chkI MT cn_X12_reads_1 skX12 ktX12 bcX12_reads ctX12 atX12 cs_cn_X12_reads_1 iv_cn_X12_reads_1 4000 iv_cn_X12_reads_1_127 = true := by decide +kernel
set_option maxRecDepth 100000 in
theorem ck_cn_X12_reads_1_128 : chkI MT cn_X12_reads_1 skX12 ktX12 bcX12_reads ctX12 atX12 cs_cn_X12_reads_1 iv_cn_X12_reads_1 4000 iv_cn_X12_reads_1_128 = true := by decide +kernel
set_option maxRecDepth 100000 in
theorem ck_cn_X12_reads_1_129 : chkI MT cn_X12_reads_1 skX12 ktX12 bcX12_reads ctX12 atX12 cs_cn_X12_reads_1 iv_cn_X12_reads_1 4000 iv_cn_X12_reads_1_129 = true := by decide +kernel
set_option maxRecDepth 100000 in
theorem ck_cn_X12_reads_1_130 : chkI MT cn_X12_reads_1 skX12 ktX12 bcX12_reads ctX12 atX12 cs_cn_X12_reads_1 iv_cn_X12_reads_1 4000 iv_cn_X12_reads_1_130 = true := by decide +kernel
set_option maxRecDepth 100000 in
theorem ck_cn_X12_reads_1_131 : chkI MT cn_X12_reads_1 skX12 ktX12 bcX12_reads ctX12 atX12 cs_cn_X12_reads_1 iv_cn_X12_reads_1 4000 iv_cn_X12_reads_1_131 = true := by decide +kernel
set_option maxRecDepth 100000 in
theorem ck_cn_X12_reads_1_132 : chkI MT cn_X12_reads_1 skX12 ktX12 bcX12_reads ctX12 atX12 cs_cn_X12_reads_1 iv_cn_X12_reads_1 4000 iv_cn_X12_reads_1_132 = true := by decide +kernel
set_option maxRecDepth 100000 in
theorem ck_cn_X12_reads_1_133 : chkI MT cn_X12_reads_1 skX12 ktX12 bcX12_reads ctX12 atX12 cs_cn_X12_reads_1 iv_cn_X12_reads_1 4000 iv_cn_X12_reads_1_133 = true := by decide +kernel
set_option maxRecDepth 100000 in
theorem ck_cn_X12_reads_1_134 : chkI MT cn_X12_reads_1 skX12 ktX12 bcX12_reads ctX12 atX12 cs_cn_X12_reads_1 iv_cn_X12_reads_1 4000 iv_cn_X12_reads_1_134 = true := by decide +kernel
