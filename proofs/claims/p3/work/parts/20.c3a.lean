set_option maxRecDepth 100000 in
theorem ck23_11_0 : pcB (runT 7 ktL bcL lall lstops 4000 lJ23_11.2.1 lJ23_11.1) (lob MT ow0 7 0 2 0 11 279 ktL bcL ctL lcons lall (some lJ23_11.2.2)) 0 = true := by decide +kernel
set_option maxRecDepth 100000 in
theorem ck23_11_1 : pcB (runT 7 ktL bcL lall lstops 4000 lJ23_11.2.1 lJ23_11.1) (lob MT ow0 7 0 2 0 11 279 ktL bcL ctL lcons lall (some lJ23_11.2.2)) 1 = true := by decide +kernel
set_option maxRecDepth 100000 in
theorem ck23_11_2 : pcB (runT 7 ktL bcL lall lstops 4000 lJ23_11.2.1 lJ23_11.1) (lob MT ow0 7 0 2 0 11 279 ktL bcL ctL lcons lall (some lJ23_11.2.2)) 2 = true := by decide +kernel
set_option maxRecDepth 100000 in
theorem ck23_11_3 : pcB (runT 7 ktL bcL lall lstops 4000 lJ23_11.2.1 lJ23_11.1) (lob MT ow0 7 0 2 0 11 279 ktL bcL ctL lcons lall (some lJ23_11.2.2)) 3 = true := by decide +kernel
set_option maxRecDepth 100000 in
theorem ck23_11_4 : pcB (runT 7 ktL bcL lall lstops 4000 lJ23_11.2.1 lJ23_11.1) (lob MT ow0 7 0 2 0 11 279 ktL bcL ctL lcons lall (some lJ23_11.2.2)) 4 = true := by decide +kernel
set_option maxRecDepth 100000 in
theorem ck23_11_5 : pcB (runT 7 ktL bcL lall lstops 4000 lJ23_11.2.1 lJ23_11.1) (lob MT ow0 7 0 2 0 11 279 ktL bcL ctL lcons lall (some lJ23_11.2.2)) 5 = true := by decide +kernel
set_option maxRecDepth 100000 in
theorem ck23_11_6 : pcB (runT 7 ktL bcL lall lstops 4000 lJ23_11.2.1 lJ23_11.1) (lob MT ow0 7 0 2 0 11 279 ktL bcL ctL lcons lall (some lJ23_11.2.2)) 6 = true := by decide +kernel
set_option maxRecDepth 100000 in
theorem ck23_11_7 : pcB (runT 7 ktL bcL lall lstops 4000 lJ23_11.2.1 lJ23_11.1) (lob MT ow0 7 0 2 0 11 279 ktL bcL ctL lcons lall (some lJ23_11.2.2)) 7 = true := by decide +kernel
set_option maxRecDepth 100000 in
theorem ck23_11_8 : pcB (runT 7 ktL bcL lall lstops 4000 lJ23_11.2.1 lJ23_11.1) (lob MT ow0 7 0 2 0 11 279 ktL bcL ctL lcons lall (some lJ23_11.2.2)) 8 = true := by decide +kernel
set_option maxRecDepth 100000 in
theorem ck23_11_9 : pcB (runT 7 ktL bcL lall lstops 4000 lJ23_11.2.1 lJ23_11.1) (lob MT ow0 7 0 2 0 11 279 ktL bcL ctL lcons lall (some lJ23_11.2.2)) 9 = true := by decide +kernel
set_option maxRecDepth 100000 in
theorem ck23_11_10 : pcB (runT 7 ktL bcL lall lstops 4000 lJ23_11.2.1 lJ23_11.1) (lob MT ow0 7 0 2 0 11 279 ktL bcL ctL lcons lall (some lJ23_11.2.2)) 10 = true := by decide +kernel
set_option maxRecDepth 100000 in
theorem ck23_11_11 : pcB (runT 7 ktL bcL lall lstops 4000 lJ23_11.2.1 lJ23_11.1) (lob MT ow0 7 0 2 0 11 279 ktL bcL ctL lcons lall (some lJ23_11.2.2)) 11 = true := by decide +kernel
set_option maxRecDepth 100000 in
theorem ck23_11_12 : pcB (runT 7 ktL bcL lall lstops 4000 lJ23_11.2.1 lJ23_11.1) (lob MT ow0 7 0 2 0 11 279 ktL bcL ctL lcons lall (some lJ23_11.2.2)) 12 = true := by decide +kernel
set_option maxRecDepth 100000 in
theorem ck23_11_13 : pcB (runT 7 ktL bcL lall lstops 4000 lJ23_11.2.1 lJ23_11.1) (lob MT ow0 7 0 2 0 11 279 ktL bcL ctL lcons lall (some lJ23_11.2.2)) 13 = true := by decide +kernel
