set_option maxRecDepth 100000 in
theorem ck23_01_14 : pcB (runT 7 ktL bcL lall lstops 4000 lJ23_01.2.1 lJ23_01.1) (lob MT ow0 7 0 2 0 11 279 ktL bcL ctL lcons lall (some lJ23_01.2.2)) 14 = true := by decide +kernel
set_option maxRecDepth 100000 in
theorem ck23_01_15 : pcB (runT 7 ktL bcL lall lstops 4000 lJ23_01.2.1 lJ23_01.1) (lob MT ow0 7 0 2 0 11 279 ktL bcL ctL lcons lall (some lJ23_01.2.2)) 15 = true := by decide +kernel
set_option maxRecDepth 100000 in
theorem ck23_01_16 : pcB (runT 7 ktL bcL lall lstops 4000 lJ23_01.2.1 lJ23_01.1) (lob MT ow0 7 0 2 0 11 279 ktL bcL ctL lcons lall (some lJ23_01.2.2)) 16 = true := by decide +kernel
set_option maxRecDepth 100000 in
theorem ck23_01_17 : pcB (runT 7 ktL bcL lall lstops 4000 lJ23_01.2.1 lJ23_01.1) (lob MT ow0 7 0 2 0 11 279 ktL bcL ctL lcons lall (some lJ23_01.2.2)) 17 = true := by decide +kernel
set_option maxRecDepth 100000 in
theorem ck23_01_18 : pcB (runT 7 ktL bcL lall lstops 4000 lJ23_01.2.1 lJ23_01.1) (lob MT ow0 7 0 2 0 11 279 ktL bcL ctL lcons lall (some lJ23_01.2.2)) 18 = true := by decide +kernel
set_option maxRecDepth 100000 in
theorem ck23_01_19 : pcB (runT 7 ktL bcL lall lstops 4000 lJ23_01.2.1 lJ23_01.1) (lob MT ow0 7 0 2 0 11 279 ktL bcL ctL lcons lall (some lJ23_01.2.2)) 19 = true := by decide +kernel
set_option maxRecDepth 100000 in
theorem ck23_01_20 : pcB (runT 7 ktL bcL lall lstops 4000 lJ23_01.2.1 lJ23_01.1) (lob MT ow0 7 0 2 0 11 279 ktL bcL ctL lcons lall (some lJ23_01.2.2)) 20 = true := by decide +kernel
set_option maxRecDepth 100000 in
theorem ck23_01_21 : pcB (runT 7 ktL bcL lall lstops 4000 lJ23_01.2.1 lJ23_01.1) (lob MT ow0 7 0 2 0 11 279 ktL bcL ctL lcons lall (some lJ23_01.2.2)) 21 = true := by decide +kernel
set_option maxRecDepth 100000 in
theorem ck23_01_22 : pcB (runT 7 ktL bcL lall lstops 4000 lJ23_01.2.1 lJ23_01.1) (lob MT ow0 7 0 2 0 11 279 ktL bcL ctL lcons lall (some lJ23_01.2.2)) 22 = true := by decide +kernel
set_option maxRecDepth 100000 in
theorem ck23_01_23 : pcB (runT 7 ktL bcL lall lstops 4000 lJ23_01.2.1 lJ23_01.1) (lob MT ow0 7 0 2 0 11 279 ktL bcL ctL lcons lall (some lJ23_01.2.2)) 23 = true := by decide +kernel
set_option maxRecDepth 100000 in
theorem ck23_01_24 : pcB (runT 7 ktL bcL lall lstops 4000 lJ23_01.2.1 lJ23_01.1) (lob MT ow0 7 0 2 0 11 279 ktL bcL ctL lcons lall (some lJ23_01.2.2)) 24 = true := by decide +kernel
set_option maxRecDepth 100000 in
theorem ck23_01_25 : pcB (runT 7 ktL bcL lall lstops 4000 lJ23_01.2.1 lJ23_01.1) (lob MT ow0 7 0 2 0 11 279 ktL bcL ctL lcons lall (some lJ23_01.2.2)) 25 = true := by decide +kernel
set_option maxRecDepth 100000 in
theorem ck23_01_26 : pcB (runT 7 ktL bcL lall lstops 4000 lJ23_01.2.1 lJ23_01.1) (lob MT ow0 7 0 2 0 11 279 ktL bcL ctL lcons lall (some lJ23_01.2.2)) 26 = true := by decide +kernel
set_option maxRecDepth 100000 in
theorem ck23_01_27 : pcB (runT 7 ktL bcL lall lstops 4000 lJ23_01.2.1 lJ23_01.1) (lob MT ow0 7 0 2 0 11 279 ktL bcL ctL lcons lall (some lJ23_01.2.2)) 27 = true := by decide +kernel
theorem ck_lJ23_01 : runL MT ow0 7 0 2 0 11 279 ktL bcL ctL lcons lall (some lJ23_01.2.2) 4000 lJ23_01.2.1 lJ23_01.1 = true := by
  have hk : ∀ k, k < 28 → pcB (runT 7 ktL bcL lall lstops 4000 lJ23_01.2.1 lJ23_01.1) (lob MT ow0 7 0 2 0 11 279 ktL bcL ctL lcons lall (some lJ23_01.2.2)) k = true := by
    intro k hk
    match k, hk with
    | 0, _ => exact ck23_01_0
    | 1, _ => exact ck23_01_1
    | 2, _ => exact ck23_01_2
    | 3, _ => exact ck23_01_3
    | 4, _ => exact ck23_01_4
    | 5, _ => exact ck23_01_5
    | 6, _ => exact ck23_01_6
    | 7, _ => exact ck23_01_7
    | 8, _ => exact ck23_01_8
    | 9, _ => exact ck23_01_9
    | 10, _ => exact ck23_01_10
    | 11, _ => exact ck23_01_11
    | 12, _ => exact ck23_01_12
    | 13, _ => exact ck23_01_13
    | 14, _ => exact ck23_01_14
    | 15, _ => exact ck23_01_15
    | 16, _ => exact ck23_01_16
    | 17, _ => exact ck23_01_17
    | 18, _ => exact ck23_01_18
    | 19, _ => exact ck23_01_19
    | 20, _ => exact ck23_01_20
    | 21, _ => exact ck23_01_21
    | 22, _ => exact ck23_01_22
    | 23, _ => exact ck23_01_23
    | 24, _ => exact ck23_01_24
    | 25, _ => exact ck23_01_25
    | 26, _ => exact ck23_01_26
    | 27, _ => exact ck23_01_27
    | k + 28, hk => omega
  obtain ⟨L, h1, h2⟩ := pieces 28 ln23_01 hk
  exact runT_ok _ _ _ L h1 h2
