set_option maxRecDepth 100000 in
theorem ck23_10_0 : pcB (runT 7 ktL bcL lall lstops 4000 lJ23_10.2.1 lJ23_10.1) (lob MT ow0 7 0 2 0 11 279 ktL bcL ctL lcons lall (some lJ23_10.2.2)) 0 = true := by decide +kernel
set_option maxRecDepth 100000 in
theorem ck23_10_1 : pcB (runT 7 ktL bcL lall lstops 4000 lJ23_10.2.1 lJ23_10.1) (lob MT ow0 7 0 2 0 11 279 ktL bcL ctL lcons lall (some lJ23_10.2.2)) 1 = true := by decide +kernel
set_option maxRecDepth 100000 in
theorem ck23_10_2 : pcB (runT 7 ktL bcL lall lstops 4000 lJ23_10.2.1 lJ23_10.1) (lob MT ow0 7 0 2 0 11 279 ktL bcL ctL lcons lall (some lJ23_10.2.2)) 2 = true := by decide +kernel
set_option maxRecDepth 100000 in
theorem ck23_10_3 : pcB (runT 7 ktL bcL lall lstops 4000 lJ23_10.2.1 lJ23_10.1) (lob MT ow0 7 0 2 0 11 279 ktL bcL ctL lcons lall (some lJ23_10.2.2)) 3 = true := by decide +kernel
set_option maxRecDepth 100000 in
theorem ck23_10_4 : pcB (runT 7 ktL bcL lall lstops 4000 lJ23_10.2.1 lJ23_10.1) (lob MT ow0 7 0 2 0 11 279 ktL bcL ctL lcons lall (some lJ23_10.2.2)) 4 = true := by decide +kernel
set_option maxRecDepth 100000 in
theorem ck23_10_5 : pcB (runT 7 ktL bcL lall lstops 4000 lJ23_10.2.1 lJ23_10.1) (lob MT ow0 7 0 2 0 11 279 ktL bcL ctL lcons lall (some lJ23_10.2.2)) 5 = true := by decide +kernel
set_option maxRecDepth 100000 in
theorem ck23_10_6 : pcB (runT 7 ktL bcL lall lstops 4000 lJ23_10.2.1 lJ23_10.1) (lob MT ow0 7 0 2 0 11 279 ktL bcL ctL lcons lall (some lJ23_10.2.2)) 6 = true := by decide +kernel
set_option maxRecDepth 100000 in
theorem ck23_10_7 : pcB (runT 7 ktL bcL lall lstops 4000 lJ23_10.2.1 lJ23_10.1) (lob MT ow0 7 0 2 0 11 279 ktL bcL ctL lcons lall (some lJ23_10.2.2)) 7 = true := by decide +kernel
set_option maxRecDepth 100000 in
theorem ck23_10_8 : pcB (runT 7 ktL bcL lall lstops 4000 lJ23_10.2.1 lJ23_10.1) (lob MT ow0 7 0 2 0 11 279 ktL bcL ctL lcons lall (some lJ23_10.2.2)) 8 = true := by decide +kernel
set_option maxRecDepth 100000 in
theorem ck23_10_9 : pcB (runT 7 ktL bcL lall lstops 4000 lJ23_10.2.1 lJ23_10.1) (lob MT ow0 7 0 2 0 11 279 ktL bcL ctL lcons lall (some lJ23_10.2.2)) 9 = true := by decide +kernel
set_option maxRecDepth 100000 in
theorem ck23_10_10 : pcB (runT 7 ktL bcL lall lstops 4000 lJ23_10.2.1 lJ23_10.1) (lob MT ow0 7 0 2 0 11 279 ktL bcL ctL lcons lall (some lJ23_10.2.2)) 10 = true := by decide +kernel
set_option maxRecDepth 100000 in
theorem ck23_10_11 : pcB (runT 7 ktL bcL lall lstops 4000 lJ23_10.2.1 lJ23_10.1) (lob MT ow0 7 0 2 0 11 279 ktL bcL ctL lcons lall (some lJ23_10.2.2)) 11 = true := by decide +kernel
set_option maxRecDepth 100000 in
theorem ck23_10_12 : pcB (runT 7 ktL bcL lall lstops 4000 lJ23_10.2.1 lJ23_10.1) (lob MT ow0 7 0 2 0 11 279 ktL bcL ctL lcons lall (some lJ23_10.2.2)) 12 = true := by decide +kernel
set_option maxRecDepth 100000 in
theorem ck23_10_13 : pcB (runT 7 ktL bcL lall lstops 4000 lJ23_10.2.1 lJ23_10.1) (lob MT ow0 7 0 2 0 11 279 ktL bcL ctL lcons lall (some lJ23_10.2.2)) 13 = true := by decide +kernel
