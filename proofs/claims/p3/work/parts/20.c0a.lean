set_option maxRecDepth 100000 in
theorem ck23_00_0 : pcB (runT 7 ktL bcL lall lstops 4000 lJ23_00.2.1 lJ23_00.1) (lob MT ow0 7 0 2 0 11 279 ktL bcL ctL lcons lall (some lJ23_00.2.2)) 0 = true := by decide +kernel
set_option maxRecDepth 100000 in
theorem ck23_00_1 : pcB (runT 7 ktL bcL lall lstops 4000 lJ23_00.2.1 lJ23_00.1) (lob MT ow0 7 0 2 0 11 279 ktL bcL ctL lcons lall (some lJ23_00.2.2)) 1 = true := by decide +kernel
set_option maxRecDepth 100000 in
theorem ck23_00_2 : pcB (runT 7 ktL bcL lall lstops 4000 lJ23_00.2.1 lJ23_00.1) (lob MT ow0 7 0 2 0 11 279 ktL bcL ctL lcons lall (some lJ23_00.2.2)) 2 = true := by decide +kernel
set_option maxRecDepth 100000 in
theorem ck23_00_3 : pcB (runT 7 ktL bcL lall lstops 4000 lJ23_00.2.1 lJ23_00.1) (lob MT ow0 7 0 2 0 11 279 ktL bcL ctL lcons lall (some lJ23_00.2.2)) 3 = true := by decide +kernel
set_option maxRecDepth 100000 in
theorem ck23_00_4 : pcB (runT 7 ktL bcL lall lstops 4000 lJ23_00.2.1 lJ23_00.1) (lob MT ow0 7 0 2 0 11 279 ktL bcL ctL lcons lall (some lJ23_00.2.2)) 4 = true := by decide +kernel
set_option maxRecDepth 100000 in
theorem ck23_00_5 : pcB (runT 7 ktL bcL lall lstops 4000 lJ23_00.2.1 lJ23_00.1) (lob MT ow0 7 0 2 0 11 279 ktL bcL ctL lcons lall (some lJ23_00.2.2)) 5 = true := by decide +kernel
set_option maxRecDepth 100000 in
theorem ck23_00_6 : pcB (runT 7 ktL bcL lall lstops 4000 lJ23_00.2.1 lJ23_00.1) (lob MT ow0 7 0 2 0 11 279 ktL bcL ctL lcons lall (some lJ23_00.2.2)) 6 = true := by decide +kernel
set_option maxRecDepth 100000 in
theorem ck23_00_7 : pcB (runT 7 ktL bcL lall lstops 4000 lJ23_00.2.1 lJ23_00.1) (lob MT ow0 7 0 2 0 11 279 ktL bcL ctL lcons lall (some lJ23_00.2.2)) 7 = true := by decide +kernel
set_option maxRecDepth 100000 in
theorem ck23_00_8 : pcB (runT 7 ktL bcL lall lstops 4000 lJ23_00.2.1 lJ23_00.1) (lob MT ow0 7 0 2 0 11 279 ktL bcL ctL lcons lall (some lJ23_00.2.2)) 8 = true := by decide +kernel
set_option maxRecDepth 100000 in
theorem ck23_00_9 : pcB (runT 7 ktL bcL lall lstops 4000 lJ23_00.2.1 lJ23_00.1) (lob MT ow0 7 0 2 0 11 279 ktL bcL ctL lcons lall (some lJ23_00.2.2)) 9 = true := by decide +kernel
set_option maxRecDepth 100000 in
theorem ck23_00_10 : pcB (runT 7 ktL bcL lall lstops 4000 lJ23_00.2.1 lJ23_00.1) (lob MT ow0 7 0 2 0 11 279 ktL bcL ctL lcons lall (some lJ23_00.2.2)) 10 = true := by decide +kernel
set_option maxRecDepth 100000 in
theorem ck23_00_11 : pcB (runT 7 ktL bcL lall lstops 4000 lJ23_00.2.1 lJ23_00.1) (lob MT ow0 7 0 2 0 11 279 ktL bcL ctL lcons lall (some lJ23_00.2.2)) 11 = true := by decide +kernel
set_option maxRecDepth 100000 in
theorem ck23_00_12 : pcB (runT 7 ktL bcL lall lstops 4000 lJ23_00.2.1 lJ23_00.1) (lob MT ow0 7 0 2 0 11 279 ktL bcL ctL lcons lall (some lJ23_00.2.2)) 12 = true := by decide +kernel
set_option maxRecDepth 100000 in
theorem ck23_00_13 : pcB (runT 7 ktL bcL lall lstops 4000 lJ23_00.2.1 lJ23_00.1) (lob MT ow0 7 0 2 0 11 279 ktL bcL ctL lcons lall (some lJ23_00.2.2)) 13 = true := by decide +kernel
