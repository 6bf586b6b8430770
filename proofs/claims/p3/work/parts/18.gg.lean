/-! weeks of the reference, the signs as a row -/
set_option maxRecDepth 100000 in
theorem ok_cn_X12_weeks_R (l : Launch) (hg : GIV l) : ConOK MT l cn_X12_weeks_R := con_ok (SK := skX12) (K := ktX12) (code := bcX12_weeks) (CT := ctX12) (AT := atX12) (cons := [cn_X12_readsLine_1, cn_X12_starts_1, cn_X12_laysLines_1]) (invs := iv_cn_X12_weeks_R) (fuel := 4000) (by decide +kernel) skX12_ok ktX12_ok bcX12_weeks_ok ctX12_ok atX12_ok (all_cons (ok_cn_X12_readsLine_1 l hg) (all_cons (ok_cn_X12_starts_1 l hg) (all_cons (ok_cn_X12_laysLines_1 l hg) all_nil))) ck_cn_X12_weeks_R
set_option maxRecDepth 100000 in
theorem eq_cn_X12_weeks_W : cn_X12_weeks_W = conW 1 4 11 12 cn_X12_weeks_R := eqC_ok (by decide +kernel)
theorem ok_cn_X12_weeks_W (l : Launch) (hg : GIV l) : ConOK MT l cn_X12_weeks_W := by
  rw [eq_cn_X12_weeks_W]
  exact con_W 1 4 11 12 (by decide) rfl rfl rfl (by decide +kernel) (by decide +kernel) (by decide +kernel) (by decide +kernel) (by decide +kernel) (ok_cn_X12_weeks_R l hg)

