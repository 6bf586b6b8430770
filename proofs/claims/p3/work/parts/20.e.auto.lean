set_option maxRecDepth 100000 in
theorem ck_C_00 : runL MT (owC lJ295_00.2.1) 7 0 2 0 11 279 ktL bcL ctL lcons (lauto ++ lman) (some lJ295_00.2.2) 4000 (extA lJ295_00.2.1) lJ295_00.1 = true := by decide +kernel
set_option maxRecDepth 100000 in
theorem ck_C_01 : runL MT (owC lJ295_01.2.1) 7 0 2 0 11 279 ktL bcL ctL lcons (lauto ++ lman) (some lJ295_01.2.2) 4000 (extA lJ295_01.2.1) lJ295_01.1 = true := by decide +kernel
set_option maxRecDepth 100000 in
theorem ck_C_10 : runL MT (owC lJ295_10.2.1) 7 0 2 0 11 279 ktL bcL ctL lcons (lauto ++ lman) (some lJ295_10.2.2) 4000 (extA lJ295_10.2.1) lJ295_10.1 = true := by decide +kernel
set_option maxRecDepth 100000 in
theorem ck_C_11 : runL MT (owC lJ295_11.2.1) 7 0 2 0 11 279 ktL bcL ctL lcons (lauto ++ lman) (some lJ295_11.2.2) 4000 (extA lJ295_11.2.1) lJ295_11.1 = true := by decide +kernel
theorem ck_auto : (lauto ++ lx).all (fun I => runL MT ow0 7 0 2 0 11 279 ktL bcL ctL lcons lall (some I.2.2) 4000 I.2.1 I.1) = true := List.all_eq_true.mpr (all_cons ck_lJ23_00 (all_cons ck_lJ23_01 (all_cons ck_lJ23_10 (all_cons ck_lJ23_11 (all_cons ck_lJ1064_00 (all_cons ck_lJ1064_01 (all_cons ck_lJ1064_10 (all_cons ck_lJ1064_11 (all_cons ck_lJ1011_00 (all_cons ck_lJ1011_01 (all_cons ck_lJ1011_10 (all_cons ck_lJ1011_11 (all_cons ck_lJ313_00 (all_cons ck_lJ313_01 (all_cons ck_lJ313_10 (all_cons ck_lJ313_11 (all_cons ck_lJ432_00 (all_cons ck_lJ432_01 (all_cons ck_lJ432_10 (all_cons ck_lJ432_11 (all_cons ck_lJ503_00 (all_cons ck_lJ503_01 (all_cons ck_lJ503_10 (all_cons ck_lJ503_11 (all_cons ck_lJ592_00 (all_cons ck_lJ592_01 (all_cons ck_lJ592_10 (all_cons ck_lJ592_11 (all_cons ck_lJ741_00 (all_cons ck_lJ741_01 (all_cons ck_lJ741_10 (all_cons ck_lJ741_11 all_nil))))))))))))))))))))))))))))))))
set_option maxRecDepth 100000 in
theorem ck_lo : lall.all (fun I => match rkLo I.2.1.1.1 I.2.1.1.2.2.1 I.2.2.2 with
      | some z => decide (0 ≤ I.2.2.1 + z)
      | none => false) = true := by decide +kernel
