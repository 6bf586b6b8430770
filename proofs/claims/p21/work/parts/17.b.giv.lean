theorem ok_cn_X12_nextToken_0 (l : Launch) : ConOK MT l cn_X12_nextToken_0 := sorry
theorem ok_cn_X12_reads_1 (l : Launch) : ConOK MT l cn_X12_reads_1 := sorry
theorem ok_cn_X12_reads_0 (l : Launch) : ConOK MT l cn_X12_reads_0 := sorry
theorem ok_cn_X12_moves_codes (l : Launch) : ConOK MT l cn_X12_moves_codes := sorry
theorem ok_cn_X12_worked_g (l : Launch) : ConOK MT l cn_X12_worked_g := sorry
theorem ok_cn_X10_takesWhoAndWhat_g (l : Launch) : ConOK MT l cn_X10_takesWhoAndWhat_g := sorry
