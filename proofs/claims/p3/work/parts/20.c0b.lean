set_option maxRecDepth 100000 in
theorem ck23_00_14 : pcB (runT 7 ktL bcL lall lstops 4000 lJ23_00.2.1 lJ23_00.1) (lob MT ow0 7 0 2 0 11 279 ktL bcL ctL lcons lall (some lJ23_00.2.2)) 14 = true := by decide +kernel
set_option maxRecDepth 100000 in
theorem ck23_00_15 : pcB (runT 7 ktL bcL lall lstops 4000 lJ23_00.2.1 lJ23_00.1) (lob MT ow0 7 0 2 0 11 279 ktL bcL ctL lcons lall (some lJ23_00.2.2)) 15 = true := by decide +kernel
set_option maxRecDepth 100000 in
theorem ck23_00_16 : pcB (runT 7 ktL bcL lall lstops 4000 lJ23_00.2.1 lJ23_00.1) (lob MT ow0 7 0 2 0 11 279 ktL bcL ctL lcons lall (some lJ23_00.2.2)) 16 = true := by decide +kernel
set_option maxRecDepth 100000 in
theorem ck23_00_17 : pcB (runT 7 ktL bcL lall lstops 4000 lJ23_00.2.1 lJ23_00.1) (lob MT ow0 7 0 2 0 11 279 ktL bcL ctL lcons lall (some lJ23_00.2.2)) 17 = true := by decide +kernel
set_option maxRecDepth 100000 in
theorem ck23_00_18 : pcB (runT 7 ktL bcL lall lstops 4000 lJ23_00.2.1 lJ23_00.1) (lob MT ow0 7 0 2 0 11 279 ktL bcL ctL lcons lall (some lJ23_00.2.2)) 18 = true := by decide +kernel
set_option maxRecDepth 100000 in
theorem ck23_00_19 : pcB (runT 7 ktL bcL lall lstops 4000 lJ23_00.2.1 lJ23_00.1) (lob MT ow0 7 0 2 0 11 279 ktL bcL ctL lcons lall (some lJ23_00.2.2)) 19 = true := by decide +kernel
set_option maxRecDepth 100000 in
theorem ck23_00_20 : pcB (runT 7 ktL bcL lall lstops 4000 lJ23_00.2.1 lJ23_00.1) (lob MT ow0 7 0 2 0 11 279 ktL bcL ctL lcons lall (some lJ23_00.2.2)) 20 = true := by decide +kernel
set_option maxRecDepth 100000 in
theorem ck23_00_21 : pcB (runT 7 ktL bcL lall lstops 4000 lJ23_00.2.1 lJ23_00.1) (lob MT ow0 7 0 2 0 11 279 ktL bcL ctL lcons lall (some lJ23_00.2.2)) 21 = true := by decide +kernel
set_option maxRecDepth 100000 in
theorem ck23_00_22 : pcB (runT 7 ktL bcL lall lstops 4000 lJ23_00.2.1 lJ23_00.1) (lob MT ow0 7 0 2 0 11 279 ktL bcL ctL lcons lall (some lJ23_00.2.2)) 22 = true := by decide +kernel
set_option maxRecDepth 100000 in
theorem ck23_00_23 : pcB (runT 7 ktL bcL lall lstops 4000 lJ23_00.2.1 lJ23_00.1) (lob MT ow0 7 0 2 0 11 279 ktL bcL ctL lcons lall (some lJ23_00.2.2)) 23 = true := by decide +kernel
set_option maxRecDepth 100000 in
theorem ck23_00_24 : pcB (runT 7 ktL bcL lall lstops 4000 lJ23_00.2.1 lJ23_00.1) (lob MT ow0 7 0 2 0 11 279 ktL bcL ctL lcons lall (some lJ23_00.2.2)) 24 = true := by decide +kernel
set_option maxRecDepth 100000 in
theorem ck23_00_25 : pcB (runT 7 ktL bcL lall lstops 4000 lJ23_00.2.1 lJ23_00.1) (lob MT ow0 7 0 2 0 11 279 ktL bcL ctL lcons lall (some lJ23_00.2.2)) 25 = true := by decide +kernel
set_option maxRecDepth 100000 in
theorem ck23_00_26 : pcB (runT 7 ktL bcL lall lstops 4000 lJ23_00.2.1 lJ23_00.1) (lob MT ow0 7 0 2 0 11 279 ktL bcL ctL lcons lall (some lJ23_00.2.2)) 26 = true := by decide +kernel
set_option maxRecDepth 100000 in
theorem ck23_00_27 : pcB (runT 7 ktL bcL lall lstops 4000 lJ23_00.2.1 lJ23_00.1) (lob MT ow0 7 0 2 0 11 279 ktL bcL ctL lcons lall (some lJ23_00.2.2)) 27 = true := by decide +kernel
theorem ck_lJ23_00 : runL MT ow0 7 0 2 0 11 279 ktL bcL ctL lcons lall (some lJ23_00.2.2) 4000 lJ23_00.2.1 lJ23_00.1 = true := by
  have hk : ∀ k, k < 28 → pcB (runT 7 ktL bcL lall lstops 4000 lJ23_00.2.1 lJ23_00.1) (lob MT ow0 7 0 2 0 11 279 ktL bcL ctL lcons lall (some lJ23_00.2.2)) k = true := by
    intro k hk
    match k, hk with
    | 0, _ => exact ck23_00_0
    | 1, _ => exact ck23_00_1
    | 2, _ => exact ck23_00_2
    | 3, _ => exact ck23_00_3
    | 4, _ => exact ck23_00_4
    | 5, _ => exact ck23_00_5
    | 6, _ => exact ck23_00_6
    | 7, _ => exact ck23_00_7
    | 8, _ => exact ck23_00_8
    | 9, _ => exact ck23_00_9
    | 10, _ => exact ck23_00_10
    | 11, _ => exact ck23_00_11
    | 12, _ => exact ck23_00_12
    | 13, _ => exact ck23_00_13
    | 14, _ => exact ck23_00_14
    | 15, _ => exact ck23_00_15
    | 16, _ => exact ck23_00_16
    | 17, _ => exact ck23_00_17
    | 18, _ => exact ck23_00_18
    | 19, _ => exact ck23_00_19
    | 20, _ => exact ck23_00_20
    | 21, _ => exact ck23_00_21
    | 22, _ => exact ck23_00_22
    | 23, _ => exact ck23_00_23
    | 24, _ => exact ck23_00_24
    | 25, _ => exact ck23_00_25
    | 26, _ => exact ck23_00_26
    | 27, _ => exact ck23_00_27
    | k + 28, hk => omega
  obtain ⟨L, h1, h2⟩ := pieces 28 ln23_00 hk
  exact runT_ok _ _ _ L h1 h2
