set_option maxRecDepth 100000 in
theorem eq_cn_X1_reads_G : cn_X1_reads_G = conG 1 2 26 3 (ca 0 1000 0) cn_X1_reads_R := eqC_ok (by decide +kernel)
theorem ok_cn_X1_reads_G (l : Launch) (hg : GIV l) : ConOK MT l cn_X1_reads_G := by
  rw [eq_cn_X1_reads_G]
  exact ok_X1_reads_G_of l (ok_cn_X1_reads_R l hg)
set_option maxRecDepth 100000 in
theorem ok_cn_X11_commune_G (l : Launch) (hg : GIV l) : ConOK MT l cn_X11_commune_G := con_ok (SK := skX11) (K := ktX11) (code := bcX11_commune) (CT := ctX11) (AT := atX11) (cons := [cn_X11_beginAnew_1, cn_X0_settleGifts_1, cn_X1_reads_G]) (invs := iv_cn_X11_commune_G) (fuel := 4000) (by decide +kernel) skX11_ok ktX11_ok bcX11_commune_ok ctX11_ok atX11_ok (all_cons (ok_cn_X11_beginAnew_1 l hg) (all_cons (ok_cn_X0_settleGifts_1 l hg) (all_cons (ok_cn_X1_reads_G l hg) all_nil))) ck_cn_X11_commune_G
