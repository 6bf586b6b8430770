set_option maxRecDepth 100000 in
theorem ck23_01_0 : pcB (runT 7 ktL bcL lall lstops 4000 lJ23_01.2.1 lJ23_01.1) (lob MT ow0 7 0 2 0 11 279 ktL bcL ctL lcons lall (some lJ23_01.2.2)) 0 = true := by decide +kernel
set_option maxRecDepth 100000 in
theorem ck23_01_1 : pcB (runT 7 ktL bcL lall lstops 4000 lJ23_01.2.1 lJ23_01.1) (lob MT ow0 7 0 2 0 11 279 ktL bcL ctL lcons lall (some lJ23_01.2.2)) 1 = true := by decide +kernel
set_option maxRecDepth 100000 in
theorem ck23_01_2 : pcB (runT 7 ktL bcL lall lstops 4000 lJ23_01.2.1 lJ23_01.1) (lob MT ow0 7 0 2 0 11 279 ktL bcL ctL lcons lall (some lJ23_01.2.2)) 2 = true := by decide +kernel
set_option maxRecDepth 100000 in
theorem ck23_01_3 : pcB (runT 7 ktL bcL lall lstops 4000 lJ23_01.2.1 lJ23_01.1) (lob MT ow0 7 0 2 0 11 279 ktL bcL ctL lcons lall (some lJ23_01.2.2)) 3 = true := by decide +kernel
set_option maxRecDepth 100000 in
theorem ck23_01_4 : pcB (runT 7 ktL bcL lall lstops 4000 lJ23_01.2.1 lJ23_01.1) (lob MT ow0 7 0 2 0 11 279 ktL bcL ctL lcons lall (some lJ23_01.2.2)) 4 = true := by decide +kernel
set_option maxRecDepth 100000 in
theorem ck23_01_5 : pcB (runT 7 ktL bcL lall lstops 4000 lJ23_01.2.1 lJ23_01.1) (lob MT ow0 7 0 2 0 11 279 ktL bcL ctL lcons lall (some lJ23_01.2.2)) 5 = true := by decide +kernel
set_option maxRecDepth 100000 in
theorem ck23_01_6 : pcB (runT 7 ktL bcL lall lstops 4000 lJ23_01.2.1 lJ23_01.1) (lob MT ow0 7 0 2 0 11 279 ktL bcL ctL lcons lall (some lJ23_01.2.2)) 6 = true := by decide +kernel
set_option maxRecDepth 100000 in
theorem ck23_01_7 : pcB (runT 7 ktL bcL lall lstops 4000 lJ23_01.2.1 lJ23_01.1) (lob MT ow0 7 0 2 0 11 279 ktL bcL ctL lcons lall (some lJ23_01.2.2)) 7 = true := by decide +kernel
set_option maxRecDepth 100000 in
theorem ck23_01_8 : pcB (runT 7 ktL bcL lall lstops 4000 lJ23_01.2.1 lJ23_01.1) (lob MT ow0 7 0 2 0 11 279 ktL bcL ctL lcons lall (some lJ23_01.2.2)) 8 = true := by decide +kernel
set_option maxRecDepth 100000 in
theorem ck23_01_9 : pcB (runT 7 ktL bcL lall lstops 4000 lJ23_01.2.1 lJ23_01.1) (lob MT ow0 7 0 2 0 11 279 ktL bcL ctL lcons lall (some lJ23_01.2.2)) 9 = true := by decide +kernel
set_option maxRecDepth 100000 in
theorem ck23_01_10 : pcB (runT 7 ktL bcL lall lstops 4000 lJ23_01.2.1 lJ23_01.1) (lob MT ow0 7 0 2 0 11 279 ktL bcL ctL lcons lall (some lJ23_01.2.2)) 10 = true := by decide +kernel
set_option maxRecDepth 100000 in
theorem ck23_01_11 : pcB (runT 7 ktL bcL lall lstops 4000 lJ23_01.2.1 lJ23_01.1) (lob MT ow0 7 0 2 0 11 279 ktL bcL ctL lcons lall (some lJ23_01.2.2)) 11 = true := by decide +kernel
set_option maxRecDepth 100000 in
theorem ck23_01_12 : pcB (runT 7 ktL bcL lall lstops 4000 lJ23_01.2.1 lJ23_01.1) (lob MT ow0 7 0 2 0 11 279 ktL bcL ctL lcons lall (some lJ23_01.2.2)) 12 = true := by decide +kernel
set_option maxRecDepth 100000 in
theorem ck23_01_13 : pcB (runT 7 ktL bcL lall lstops 4000 lJ23_01.2.1 lJ23_01.1) (lob MT ow0 7 0 2 0 11 279 ktL bcL ctL lcons lall (some lJ23_01.2.2)) 13 = true := by decide +kernel
