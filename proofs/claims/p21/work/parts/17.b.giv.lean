theorem ok_cn_X12_moves_codes (l : Launch) : ConOK MT l cn_X12_moves_codes := sorry
theorem ok_cn_X0_personNamed_B (l : Launch) : ConOK MT l cn_X0_personNamed_B := sorry
theorem ok_cn_X0_dishNamed_B (l : Launch) : ConOK MT l cn_X0_dishNamed_B := sorry
theorem ok_cn_X0_personNamed_A (l : Launch) : ConOK MT l cn_X0_personNamed_A := sorry
theorem ok_cn_X0_dishNamed_A (l : Launch) : ConOK MT l cn_X0_dishNamed_A := sorry
