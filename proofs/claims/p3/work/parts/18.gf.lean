set_option maxRecDepth 100000 in
theorem ok_cn_X12_readsAll_W (l : Launch) (hg : GIV l) : ConOK MT l cn_X12_readsAll_W := con_W 1 11 13 14 (by decide) rfl rfl rfl (by decide +kernel) (by decide +kernel) (by decide +kernel) (by decide +kernel) (by decide +kernel) (ok_cn_X12_readsAll_R l hg)
set_option maxRecDepth 100000 in
theorem eq_cn_X12_readsAll_G : cn_X12_readsAll_G = conG 0 9 41 1 (ca 1 1000 11) cn_X12_readsAll_W := eqC_ok (by decide +kernel)
theorem ok_cn_X12_readsAll_G (l : Launch) (hg : GIV l) : ConOK MT l cn_X12_readsAll_G := by
  rw [eq_cn_X12_readsAll_G]
  exact ok_X12_readsAll_G_of l (ok_cn_X12_readsAll_W l hg)
set_option maxRecDepth 100000 in
theorem ok_cn_X12_commune_G (l : Launch) (hg : GIV l) : ConOK MT l cn_X12_commune_G := con_ok (SK := skX12) (K := ktX12) (code := bcX12_commune) (CT := ctX12) (AT := atX12) (cons := [cn_X12_readsAll_G, cn_X12_lays_1, cn_X12_forgets_1, cn_X12_fresh_1]) (invs := iv_cn_X12_commune_G) (fuel := 4000) (by decide +kernel) skX12_ok ktX12_ok bcX12_commune_ok ctX12_ok atX12_ok (all_cons (ok_cn_X12_readsAll_G l hg) (all_cons (ok_cn_X12_lays_1 l hg) (all_cons (ok_cn_X12_forgets_1 l hg) (all_cons (ok_cn_X12_fresh_1 l hg) all_nil)))) ck_cn_X12_commune_G
