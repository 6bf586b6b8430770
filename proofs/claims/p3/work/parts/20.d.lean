set_option maxRecDepth 100000 in
theorem ck432_00_0 : pcB (runT 7 ktL bcL lall lst432 4000 lJ432_00.2.1 lJ432_00.1) (lob MT ow0 7 0 2 0 11 279 ktL bcL ctL lcons lall (some lJ432_00.2.2)) 0 = true := by decide +kernel
set_option maxRecDepth 100000 in
theorem ck432_00_1 : pcB (runT 7 ktL bcL lall lst432 4000 lJ432_00.2.1 lJ432_00.1) (lob MT ow0 7 0 2 0 11 279 ktL bcL ctL lcons lall (some lJ432_00.2.2)) 1 = true := by decide +kernel
theorem ck_lJ432_00 : runL MT ow0 7 0 2 0 11 279 ktL bcL ctL lcons lall (some lJ432_00.2.2) 4000 lJ432_00.2.1 lJ432_00.1 = true := by
  have hk : ∀ k, k < 2 → pcB (runT 7 ktL bcL lall lst432 4000 lJ432_00.2.1 lJ432_00.1) (lob MT ow0 7 0 2 0 11 279 ktL bcL ctL lcons lall (some lJ432_00.2.2)) k = true := by
    intro k hk
    match k, hk with
    | 0, _ => exact ck432_00_0
    | 1, _ => exact ck432_00_1
    | k + 2, hk => omega
  obtain ⟨L, h1, h2⟩ := pieces 2 ln432_00 hk
  exact runT_ok _ _ _ L h1 h2
set_option maxRecDepth 100000 in
theorem ck432_01_0 : pcB (runT 7 ktL bcL lall lst432 4000 lJ432_01.2.1 lJ432_01.1) (lob MT ow0 7 0 2 0 11 279 ktL bcL ctL lcons lall (some lJ432_01.2.2)) 0 = true := by decide +kernel
set_option maxRecDepth 100000 in
theorem ck432_01_1 : pcB (runT 7 ktL bcL lall lst432 4000 lJ432_01.2.1 lJ432_01.1) (lob MT ow0 7 0 2 0 11 279 ktL bcL ctL lcons lall (some lJ432_01.2.2)) 1 = true := by decide +kernel
theorem ck_lJ432_01 : runL MT ow0 7 0 2 0 11 279 ktL bcL ctL lcons lall (some lJ432_01.2.2) 4000 lJ432_01.2.1 lJ432_01.1 = true := by
  have hk : ∀ k, k < 2 → pcB (runT 7 ktL bcL lall lst432 4000 lJ432_01.2.1 lJ432_01.1) (lob MT ow0 7 0 2 0 11 279 ktL bcL ctL lcons lall (some lJ432_01.2.2)) k = true := by
    intro k hk
    match k, hk with
    | 0, _ => exact ck432_01_0
    | 1, _ => exact ck432_01_1
    | k + 2, hk => omega
  obtain ⟨L, h1, h2⟩ := pieces 2 ln432_01 hk
  exact runT_ok _ _ _ L h1 h2
set_option maxRecDepth 100000 in
theorem ck432_10_0 : pcB (runT 7 ktL bcL lall lst432 4000 lJ432_10.2.1 lJ432_10.1) (lob MT ow0 7 0 2 0 11 279 ktL bcL ctL lcons lall (some lJ432_10.2.2)) 0 = true := by decide +kernel
set_option maxRecDepth 100000 in
theorem ck432_10_1 : pcB (runT 7 ktL bcL lall lst432 4000 lJ432_10.2.1 lJ432_10.1) (lob MT ow0 7 0 2 0 11 279 ktL bcL ctL lcons lall (some lJ432_10.2.2)) 1 = true := by decide +kernel
theorem ck_lJ432_10 : runL MT ow0 7 0 2 0 11 279 ktL bcL ctL lcons lall (some lJ432_10.2.2) 4000 lJ432_10.2.1 lJ432_10.1 = true := by
  have hk : ∀ k, k < 2 → pcB (runT 7 ktL bcL lall lst432 4000 lJ432_10.2.1 lJ432_10.1) (lob MT ow0 7 0 2 0 11 279 ktL bcL ctL lcons lall (some lJ432_10.2.2)) k = true := by
    intro k hk
    match k, hk with
    | 0, _ => exact ck432_10_0
    | 1, _ => exact ck432_10_1
    | k + 2, hk => omega
  obtain ⟨L, h1, h2⟩ := pieces 2 ln432_10 hk
  exact runT_ok _ _ _ L h1 h2
set_option maxRecDepth 100000 in
theorem ck432_11_0 : pcB (runT 7 ktL bcL lall lst432 4000 lJ432_11.2.1 lJ432_11.1) (lob MT ow0 7 0 2 0 11 279 ktL bcL ctL lcons lall (some lJ432_11.2.2)) 0 = true := by decide +kernel
set_option maxRecDepth 100000 in
theorem ck432_11_1 : pcB (runT 7 ktL bcL lall lst432 4000 lJ432_11.2.1 lJ432_11.1) (lob MT ow0 7 0 2 0 11 279 ktL bcL ctL lcons lall (some lJ432_11.2.2)) 1 = true := by decide +kernel
theorem ck_lJ432_11 : runL MT ow0 7 0 2 0 11 279 ktL bcL ctL lcons lall (some lJ432_11.2.2) 4000 lJ432_11.2.1 lJ432_11.1 = true := by
  have hk : ∀ k, k < 2 → pcB (runT 7 ktL bcL lall lst432 4000 lJ432_11.2.1 lJ432_11.1) (lob MT ow0 7 0 2 0 11 279 ktL bcL ctL lcons lall (some lJ432_11.2.2)) k = true := by
    intro k hk
    match k, hk with
    | 0, _ => exact ck432_11_0
    | 1, _ => exact ck432_11_1
    | k + 2, hk => omega
  obtain ⟨L, h1, h2⟩ := pieces 2 ln432_11 hk
  exact runT_ok _ _ _ L h1 h2
set_option maxRecDepth 100000 in
theorem ck503_00_0 : pcB (runT 7 ktL bcL lall lst503 4000 lJ503_00.2.1 lJ503_00.1) (lob MT ow0 7 0 2 0 11 279 ktL bcL ctL lcons lall (some lJ503_00.2.2)) 0 = true := by decide +kernel
set_option maxRecDepth 100000 in
theorem ck503_00_1 : pcB (runT 7 ktL bcL lall lst503 4000 lJ503_00.2.1 lJ503_00.1) (lob MT ow0 7 0 2 0 11 279 ktL bcL ctL lcons lall (some lJ503_00.2.2)) 1 = true := by decide +kernel
theorem ck_lJ503_00 : runL MT ow0 7 0 2 0 11 279 ktL bcL ctL lcons lall (some lJ503_00.2.2) 4000 lJ503_00.2.1 lJ503_00.1 = true := by
  have hk : ∀ k, k < 2 → pcB (runT 7 ktL bcL lall lst503 4000 lJ503_00.2.1 lJ503_00.1) (lob MT ow0 7 0 2 0 11 279 ktL bcL ctL lcons lall (some lJ503_00.2.2)) k = true := by
    intro k hk
    match k, hk with
    | 0, _ => exact ck503_00_0
    | 1, _ => exact ck503_00_1
    | k + 2, hk => omega
  obtain ⟨L, h1, h2⟩ := pieces 2 ln503_00 hk
  exact runT_ok _ _ _ L h1 h2
set_option maxRecDepth 100000 in
theorem ck503_01_0 : pcB (runT 7 ktL bcL lall lst503 4000 lJ503_01.2.1 lJ503_01.1) (lob MT ow0 7 0 2 0 11 279 ktL bcL ctL lcons lall (some lJ503_01.2.2)) 0 = true := by decide +kernel
set_option maxRecDepth 100000 in
theorem ck503_01_1 : pcB (runT 7 ktL bcL lall lst503 4000 lJ503_01.2.1 lJ503_01.1) (lob MT ow0 7 0 2 0 11 279 ktL bcL ctL lcons lall (some lJ503_01.2.2)) 1 = true := by decide +kernel
theorem ck_lJ503_01 : runL MT ow0 7 0 2 0 11 279 ktL bcL ctL lcons lall (some lJ503_01.2.2) 4000 lJ503_01.2.1 lJ503_01.1 = true := by
  have hk : ∀ k, k < 2 → pcB (runT 7 ktL bcL lall lst503 4000 lJ503_01.2.1 lJ503_01.1) (lob MT ow0 7 0 2 0 11 279 ktL bcL ctL lcons lall (some lJ503_01.2.2)) k = true := by
    intro k hk
    match k, hk with
    | 0, _ => exact ck503_01_0
    | 1, _ => exact ck503_01_1
    | k + 2, hk => omega
  obtain ⟨L, h1, h2⟩ := pieces 2 ln503_01 hk
  exact runT_ok _ _ _ L h1 h2
set_option maxRecDepth 100000 in
theorem ck503_10_0 : pcB (runT 7 ktL bcL lall lst503 4000 lJ503_10.2.1 lJ503_10.1) (lob MT ow0 7 0 2 0 11 279 ktL bcL ctL lcons lall (some lJ503_10.2.2)) 0 = true := by decide +kernel
set_option maxRecDepth 100000 in
theorem ck503_10_1 : pcB (runT 7 ktL bcL lall lst503 4000 lJ503_10.2.1 lJ503_10.1) (lob MT ow0 7 0 2 0 11 279 ktL bcL ctL lcons lall (some lJ503_10.2.2)) 1 = true := by decide +kernel
theorem ck_lJ503_10 : runL MT ow0 7 0 2 0 11 279 ktL bcL ctL lcons lall (some lJ503_10.2.2) 4000 lJ503_10.2.1 lJ503_10.1 = true := by
  have hk : ∀ k, k < 2 → pcB (runT 7 ktL bcL lall lst503 4000 lJ503_10.2.1 lJ503_10.1) (lob MT ow0 7 0 2 0 11 279 ktL bcL ctL lcons lall (some lJ503_10.2.2)) k = true := by
    intro k hk
    match k, hk with
    | 0, _ => exact ck503_10_0
    | 1, _ => exact ck503_10_1
    | k + 2, hk => omega
  obtain ⟨L, h1, h2⟩ := pieces 2 ln503_10 hk
  exact runT_ok _ _ _ L h1 h2
set_option maxRecDepth 100000 in
theorem ck503_11_0 : pcB (runT 7 ktL bcL lall lst503 4000 lJ503_11.2.1 lJ503_11.1) (lob MT ow0 7 0 2 0 11 279 ktL bcL ctL lcons lall (some lJ503_11.2.2)) 0 = true := by decide +kernel
set_option maxRecDepth 100000 in
theorem ck503_11_1 : pcB (runT 7 ktL bcL lall lst503 4000 lJ503_11.2.1 lJ503_11.1) (lob MT ow0 7 0 2 0 11 279 ktL bcL ctL lcons lall (some lJ503_11.2.2)) 1 = true := by decide +kernel
theorem ck_lJ503_11 : runL MT ow0 7 0 2 0 11 279 ktL bcL ctL lcons lall (some lJ503_11.2.2) 4000 lJ503_11.2.1 lJ503_11.1 = true := by
  have hk : ∀ k, k < 2 → pcB (runT 7 ktL bcL lall lst503 4000 lJ503_11.2.1 lJ503_11.1) (lob MT ow0 7 0 2 0 11 279 ktL bcL ctL lcons lall (some lJ503_11.2.2)) k = true := by
    intro k hk
    match k, hk with
    | 0, _ => exact ck503_11_0
    | 1, _ => exact ck503_11_1
    | k + 2, hk => omega
  obtain ⟨L, h1, h2⟩ := pieces 2 ln503_11 hk
  exact runT_ok _ _ _ L h1 h2
set_option maxRecDepth 100000 in
theorem ck1011_00_0 : pcB (runT 7 ktL bcL lall lst1011 4000 lJ1011_00.2.1 lJ1011_00.1) (lob MT ow0 7 0 2 0 11 279 ktL bcL ctL lcons lall (some lJ1011_00.2.2)) 0 = true := by decide +kernel
set_option maxRecDepth 100000 in
theorem ck1011_00_1 : pcB (runT 7 ktL bcL lall lst1011 4000 lJ1011_00.2.1 lJ1011_00.1) (lob MT ow0 7 0 2 0 11 279 ktL bcL ctL lcons lall (some lJ1011_00.2.2)) 1 = true := by decide +kernel
theorem ck_lJ1011_00 : runL MT ow0 7 0 2 0 11 279 ktL bcL ctL lcons lall (some lJ1011_00.2.2) 4000 lJ1011_00.2.1 lJ1011_00.1 = true := by
  have hk : ∀ k, k < 2 → pcB (runT 7 ktL bcL lall lst1011 4000 lJ1011_00.2.1 lJ1011_00.1) (lob MT ow0 7 0 2 0 11 279 ktL bcL ctL lcons lall (some lJ1011_00.2.2)) k = true := by
    intro k hk
    match k, hk with
    | 0, _ => exact ck1011_00_0
    | 1, _ => exact ck1011_00_1
    | k + 2, hk => omega
  obtain ⟨L, h1, h2⟩ := pieces 2 ln1011_00 hk
  exact runT_ok _ _ _ L h1 h2
set_option maxRecDepth 100000 in
theorem ck1011_01_0 : pcB (runT 7 ktL bcL lall lst1011 4000 lJ1011_01.2.1 lJ1011_01.1) (lob MT ow0 7 0 2 0 11 279 ktL bcL ctL lcons lall (some lJ1011_01.2.2)) 0 = true := by decide +kernel
set_option maxRecDepth 100000 in
theorem ck1011_01_1 : pcB (runT 7 ktL bcL lall lst1011 4000 lJ1011_01.2.1 lJ1011_01.1) (lob MT ow0 7 0 2 0 11 279 ktL bcL ctL lcons lall (some lJ1011_01.2.2)) 1 = true := by decide +kernel
theorem ck_lJ1011_01 : runL MT ow0 7 0 2 0 11 279 ktL bcL ctL lcons lall (some lJ1011_01.2.2) 4000 lJ1011_01.2.1 lJ1011_01.1 = true := by
  have hk : ∀ k, k < 2 → pcB (runT 7 ktL bcL lall lst1011 4000 lJ1011_01.2.1 lJ1011_01.1) (lob MT ow0 7 0 2 0 11 279 ktL bcL ctL lcons lall (some lJ1011_01.2.2)) k = true := by
    intro k hk
    match k, hk with
    | 0, _ => exact ck1011_01_0
    | 1, _ => exact ck1011_01_1
    | k + 2, hk => omega
  obtain ⟨L, h1, h2⟩ := pieces 2 ln1011_01 hk
  exact runT_ok _ _ _ L h1 h2
set_option maxRecDepth 100000 in
theorem ck1011_10_0 : pcB (runT 7 ktL bcL lall lst1011 4000 lJ1011_10.2.1 lJ1011_10.1) (lob MT ow0 7 0 2 0 11 279 ktL bcL ctL lcons lall (some lJ1011_10.2.2)) 0 = true := by decide +kernel
set_option maxRecDepth 100000 in
theorem ck1011_10_1 : pcB (runT 7 ktL bcL lall lst1011 4000 lJ1011_10.2.1 lJ1011_10.1) (lob MT ow0 7 0 2 0 11 279 ktL bcL ctL lcons lall (some lJ1011_10.2.2)) 1 = true := by decide +kernel
theorem ck_lJ1011_10 : runL MT ow0 7 0 2 0 11 279 ktL bcL ctL lcons lall (some lJ1011_10.2.2) 4000 lJ1011_10.2.1 lJ1011_10.1 = true := by
  have hk : ∀ k, k < 2 → pcB (runT 7 ktL bcL lall lst1011 4000 lJ1011_10.2.1 lJ1011_10.1) (lob MT ow0 7 0 2 0 11 279 ktL bcL ctL lcons lall (some lJ1011_10.2.2)) k = true := by
    intro k hk
    match k, hk with
    | 0, _ => exact ck1011_10_0
    | 1, _ => exact ck1011_10_1
    | k + 2, hk => omega
  obtain ⟨L, h1, h2⟩ := pieces 2 ln1011_10 hk
  exact runT_ok _ _ _ L h1 h2
set_option maxRecDepth 100000 in
theorem ck1011_11_0 : pcB (runT 7 ktL bcL lall lst1011 4000 lJ1011_11.2.1 lJ1011_11.1) (lob MT ow0 7 0 2 0 11 279 ktL bcL ctL lcons lall (some lJ1011_11.2.2)) 0 = true := by decide +kernel
set_option maxRecDepth 100000 in
theorem ck1011_11_1 : pcB (runT 7 ktL bcL lall lst1011 4000 lJ1011_11.2.1 lJ1011_11.1) (lob MT ow0 7 0 2 0 11 279 ktL bcL ctL lcons lall (some lJ1011_11.2.2)) 1 = true := by decide +kernel
theorem ck_lJ1011_11 : runL MT ow0 7 0 2 0 11 279 ktL bcL ctL lcons lall (some lJ1011_11.2.2) 4000 lJ1011_11.2.1 lJ1011_11.1 = true := by
  have hk : ∀ k, k < 2 → pcB (runT 7 ktL bcL lall lst1011 4000 lJ1011_11.2.1 lJ1011_11.1) (lob MT ow0 7 0 2 0 11 279 ktL bcL ctL lcons lall (some lJ1011_11.2.2)) k = true := by
    intro k hk
    match k, hk with
    | 0, _ => exact ck1011_11_0
    | 1, _ => exact ck1011_11_1
    | k + 2, hk => omega
  obtain ⟨L, h1, h2⟩ := pieces 2 ln1011_11 hk
  exact runT_ok _ _ _ L h1 h2
set_option maxRecDepth 100000 in
theorem ck_lJ313_00 : runL MT ow0 7 0 2 0 11 279 ktL bcL ctL lcons lall (some lJ313_00.2.2) 4000 lJ313_00.2.1 lJ313_00.1 = true := by decide +kernel
set_option maxRecDepth 100000 in
theorem ck_lJ313_01 : runL MT ow0 7 0 2 0 11 279 ktL bcL ctL lcons lall (some lJ313_01.2.2) 4000 lJ313_01.2.1 lJ313_01.1 = true := by decide +kernel
set_option maxRecDepth 100000 in
theorem ck_lJ313_10 : runL MT ow0 7 0 2 0 11 279 ktL bcL ctL lcons lall (some lJ313_10.2.2) 4000 lJ313_10.2.1 lJ313_10.1 = true := by decide +kernel
set_option maxRecDepth 100000 in
theorem ck_lJ313_11 : runL MT ow0 7 0 2 0 11 279 ktL bcL ctL lcons lall (some lJ313_11.2.2) 4000 lJ313_11.2.1 lJ313_11.1 = true := by decide +kernel
set_option maxRecDepth 100000 in
theorem ck_lJ592_00 : runL MT ow0 7 0 2 0 11 279 ktL bcL ctL lcons lall (some lJ592_00.2.2) 4000 lJ592_00.2.1 lJ592_00.1 = true := by decide +kernel
set_option maxRecDepth 100000 in
theorem ck_lJ592_01 : runL MT ow0 7 0 2 0 11 279 ktL bcL ctL lcons lall (some lJ592_01.2.2) 4000 lJ592_01.2.1 lJ592_01.1 = true := by decide +kernel
set_option maxRecDepth 100000 in
theorem ck_lJ592_10 : runL MT ow0 7 0 2 0 11 279 ktL bcL ctL lcons lall (some lJ592_10.2.2) 4000 lJ592_10.2.1 lJ592_10.1 = true := by decide +kernel
set_option maxRecDepth 100000 in
theorem ck_lJ592_11 : runL MT ow0 7 0 2 0 11 279 ktL bcL ctL lcons lall (some lJ592_11.2.2) 4000 lJ592_11.2.1 lJ592_11.1 = true := by decide +kernel
set_option maxRecDepth 100000 in
theorem ck_lJ741_00 : runL MT ow0 7 0 2 0 11 279 ktL bcL ctL lcons lall (some lJ741_00.2.2) 4000 lJ741_00.2.1 lJ741_00.1 = true := by decide +kernel
set_option maxRecDepth 100000 in
theorem ck_lJ741_01 : runL MT ow0 7 0 2 0 11 279 ktL bcL ctL lcons lall (some lJ741_01.2.2) 4000 lJ741_01.2.1 lJ741_01.1 = true := by decide +kernel
set_option maxRecDepth 100000 in
theorem ck_lJ741_10 : runL MT ow0 7 0 2 0 11 279 ktL bcL ctL lcons lall (some lJ741_10.2.2) 4000 lJ741_10.2.1 lJ741_10.1 = true := by decide +kernel
set_option maxRecDepth 100000 in
theorem ck_lJ741_11 : runL MT ow0 7 0 2 0 11 279 ktL bcL ctL lcons lall (some lJ741_11.2.2) 4000 lJ741_11.2.1 lJ741_11.1 = true := by decide +kernel
set_option maxRecDepth 100000 in
theorem ck_lJ1064_00 : runL MT ow0 7 0 2 0 11 279 ktL bcL ctL lcons lall (some lJ1064_00.2.2) 4000 lJ1064_00.2.1 lJ1064_00.1 = true := by decide +kernel
set_option maxRecDepth 100000 in
theorem ck_lJ1064_01 : runL MT ow0 7 0 2 0 11 279 ktL bcL ctL lcons lall (some lJ1064_01.2.2) 4000 lJ1064_01.2.1 lJ1064_01.1 = true := by decide +kernel
set_option maxRecDepth 100000 in
theorem ck_lJ1064_10 : runL MT ow0 7 0 2 0 11 279 ktL bcL ctL lcons lall (some lJ1064_10.2.2) 4000 lJ1064_10.2.1 lJ1064_10.1 = true := by decide +kernel
set_option maxRecDepth 100000 in
theorem ck_lJ1064_11 : runL MT ow0 7 0 2 0 11 279 ktL bcL ctL lcons lall (some lJ1064_11.2.2) 4000 lJ1064_11.2.1 lJ1064_11.1 = true := by decide +kernel
