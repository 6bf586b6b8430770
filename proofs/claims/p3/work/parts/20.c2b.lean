set_option maxRecDepth 100000 in
theorem ck23_10_14 : pcB (runT 7 ktL bcL lall lstops 4000 lJ23_10.2.1 lJ23_10.1) (lob MT ow0 7 0 2 0 11 279 ktL bcL ctL lcons lall (some lJ23_10.2.2)) 14 = true := by decide +kernel
set_option maxRecDepth 100000 in
theorem ck23_10_15 : pcB (runT 7 ktL bcL lall lstops 4000 lJ23_10.2.1 lJ23_10.1) (lob MT ow0 7 0 2 0 11 279 ktL bcL ctL lcons lall (some lJ23_10.2.2)) 15 = true := by decide +kernel
set_option maxRecDepth 100000 in
theorem ck23_10_16 : pcB (runT 7 ktL bcL lall lstops 4000 lJ23_10.2.1 lJ23_10.1) (lob MT ow0 7 0 2 0 11 279 ktL bcL ctL lcons lall (some lJ23_10.2.2)) 16 = true := by decide +kernel
set_option maxRecDepth 100000 in
theorem ck23_10_17 : pcB (runT 7 ktL bcL lall lstops 4000 lJ23_10.2.1 lJ23_10.1) (lob MT ow0 7 0 2 0 11 279 ktL bcL ctL lcons lall (some lJ23_10.2.2)) 17 = true := by decide +kernel
set_option maxRecDepth 100000 in
theorem ck23_10_18 : pcB (runT 7 ktL bcL lall lstops 4000 lJ23_10.2.1 lJ23_10.1) (lob MT ow0 7 0 2 0 11 279 ktL bcL ctL lcons lall (some lJ23_10.2.2)) 18 = true := by decide +kernel
set_option maxRecDepth 100000 in
theorem ck23_10_19 : pcB (runT 7 ktL bcL lall lstops 4000 lJ23_10.2.1 lJ23_10.1) (lob MT ow0 7 0 2 0 11 279 ktL bcL ctL lcons lall (some lJ23_10.2.2)) 19 = true := by decide +kernel
set_option maxRecDepth 100000 in
theorem ck23_10_20 : pcB (runT 7 ktL bcL lall lstops 4000 lJ23_10.2.1 lJ23_10.1) (lob MT ow0 7 0 2 0 11 279 ktL bcL ctL lcons lall (some lJ23_10.2.2)) 20 = true := by decide +kernel
set_option maxRecDepth 100000 in
theorem ck23_10_21 : pcB (runT 7 ktL bcL lall lstops 4000 lJ23_10.2.1 lJ23_10.1) (lob MT ow0 7 0 2 0 11 279 ktL bcL ctL lcons lall (some lJ23_10.2.2)) 21 = true := by decide +kernel
set_option maxRecDepth 100000 in
theorem ck23_10_22 : pcB (runT 7 ktL bcL lall lstops 4000 lJ23_10.2.1 lJ23_10.1) (lob MT ow0 7 0 2 0 11 279 ktL bcL ctL lcons lall (some lJ23_10.2.2)) 22 = true := by decide +kernel
set_option maxRecDepth 100000 in
theorem ck23_10_23 : pcB (runT 7 ktL bcL lall lstops 4000 lJ23_10.2.1 lJ23_10.1) (lob MT ow0 7 0 2 0 11 279 ktL bcL ctL lcons lall (some lJ23_10.2.2)) 23 = true := by decide +kernel
set_option maxRecDepth 100000 in
theorem ck23_10_24 : pcB (runT 7 ktL bcL lall lstops 4000 lJ23_10.2.1 lJ23_10.1) (lob MT ow0 7 0 2 0 11 279 ktL bcL ctL lcons lall (some lJ23_10.2.2)) 24 = true := by decide +kernel
set_option maxRecDepth 100000 in
theorem ck23_10_25 : pcB (runT 7 ktL bcL lall lstops 4000 lJ23_10.2.1 lJ23_10.1) (lob MT ow0 7 0 2 0 11 279 ktL bcL ctL lcons lall (some lJ23_10.2.2)) 25 = true := by decide +kernel
set_option maxRecDepth 100000 in
theorem ck23_10_26 : pcB (runT 7 ktL bcL lall lstops 4000 lJ23_10.2.1 lJ23_10.1) (lob MT ow0 7 0 2 0 11 279 ktL bcL ctL lcons lall (some lJ23_10.2.2)) 26 = true := by decide +kernel
set_option maxRecDepth 100000 in
theorem ck23_10_27 : pcB (runT 7 ktL bcL lall lstops 4000 lJ23_10.2.1 lJ23_10.1) (lob MT ow0 7 0 2 0 11 279 ktL bcL ctL lcons lall (some lJ23_10.2.2)) 27 = true := by decide +kernel
theorem ck_lJ23_10 : runL MT ow0 7 0 2 0 11 279 ktL bcL ctL lcons lall (some lJ23_10.2.2) 4000 lJ23_10.2.1 lJ23_10.1 = true := by
  have hk : ∀ k, k < 28 → pcB (runT 7 ktL bcL lall lstops 4000 lJ23_10.2.1 lJ23_10.1) (lob MT ow0 7 0 2 0 11 279 ktL bcL ctL lcons lall (some lJ23_10.2.2)) k = true := by
    intro k hk
    match k, hk with
    | 0, _ => exact ck23_10_0
    | 1, _ => exact ck23_10_1
    | 2, _ => exact ck23_10_2
    | 3, _ => exact ck23_10_3
    | 4, _ => exact ck23_10_4
    | 5, _ => exact ck23_10_5
    | 6, _ => exact ck23_10_6
    | 7, _ => exact ck23_10_7
    | 8, _ => exact ck23_10_8
    | 9, _ => exact ck23_10_9
    | 10, _ => exact ck23_10_10
    | 11, _ => exact ck23_10_11
    | 12, _ => exact ck23_10_12
    | 13, _ => exact ck23_10_13
    | 14, _ => exact ck23_10_14
    | 15, _ => exact ck23_10_15
    | 16, _ => exact ck23_10_16
    | 17, _ => exact ck23_10_17
    | 18, _ => exact ck23_10_18
    | 19, _ => exact ck23_10_19
    | 20, _ => exact ck23_10_20
    | 21, _ => exact ck23_10_21
    | 22, _ => exact ck23_10_22
    | 23, _ => exact ck23_10_23
    | 24, _ => exact ck23_10_24
    | 25, _ => exact ck23_10_25
    | 26, _ => exact ck23_10_26
    | 27, _ => exact ck23_10_27
    | k + 28, hk => omega
  obtain ⟨L, h1, h2⟩ := pieces 28 ln23_10 hk
  exact runT_ok _ _ _ L h1 h2
