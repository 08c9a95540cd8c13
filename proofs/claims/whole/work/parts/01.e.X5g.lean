set_option maxRecDepth 20000 in
theorem ggX5_init_X5_begin : GoodIn wsX5_init wsX5_begin := goodIn_r _ [26, 27, 28, 5, 6, 7, 8, 9, 29, 10, 11, 12, 30, 31, 32, 33, 34, 35, 36, 37, 38, 39, 40, 41, 42, 43, 44, 45, 46, 47, 48, 49, 50, 51, 52, 53, 54, 55] (by decide +kernel) (by decide +kernel)
set_option maxRecDepth 20000 in
theorem gX5_init_X5_begin : GoodIn wsX5_init (wsV RX5 61 RX5 yX5_begin wsX5_begin) := goodIn_app (goodIn_of _ (by decide +kernel)) ggX5_init_X5_begin
set_option maxRecDepth 20000 in
theorem ggX5_noAccount_X5_in : GoodIn wsX5_noAccount wsX5_in := goodIn_r _ [5] (by decide +kernel) (by decide +kernel)
set_option maxRecDepth 20000 in
theorem gX5_noAccount_X5_in : GoodIn wsX5_noAccount (va_wsS RX5 83 yX5_in wsX5_in) := goodIn_app (goodIn_of _ (by decide +kernel)) ggX5_noAccount_X5_in
set_option maxRecDepth 20000 in
theorem ggX5_noObject_X5_in : GoodIn wsX5_noObject wsX5_in := goodIn_r _ [5] (by decide +kernel) (by decide +kernel)
set_option maxRecDepth 20000 in
theorem gX5_noObject_X5_in : GoodIn wsX5_noObject (va_wsS RX5 83 yX5_in wsX5_in) := goodIn_app (goodIn_of _ (by decide +kernel)) ggX5_noObject_X5_in
set_option maxRecDepth 20000 in
theorem ggX5_edition_X5_in : GoodIn wsX5_edition wsX5_in := goodIn_r _ [14] (by decide +kernel) (by decide +kernel)
set_option maxRecDepth 20000 in
theorem gX5_edition_X5_in : GoodIn wsX5_edition (va_wsS RX5 83 yX5_in wsX5_in) := goodIn_app (goodIn_of _ (by decide +kernel)) ggX5_edition_X5_in
set_option maxRecDepth 20000 in
theorem ggX5_priceAt_X5_in : GoodIn wsX5_priceAt wsX5_in := goodIn_r _ [10] (by decide +kernel) (by decide +kernel)
set_option maxRecDepth 20000 in
theorem gX5_priceAt_X5_in : GoodIn wsX5_priceAt (va_wsS RX5 83 yX5_in wsX5_in) := goodIn_app (goodIn_of _ (by decide +kernel)) ggX5_priceAt_X5_in
set_option maxRecDepth 20000 in
theorem ggX5_priceAt_X5_editionAt : GoodIn wsX5_priceAt wsX5_editionAt := goodIn_r _ [14, 15, 6, 16, 17, 18, 19, 20, 21, 22, 23, 24, 25, 26, 27, 28, 29, 30, 31, 32, 33, 34, 35, 36, 37, 38] (by decide +kernel) (by decide +kernel)
set_option maxRecDepth 20000 in
theorem gX5_priceAt_X5_editionAt : GoodIn wsX5_priceAt (wsV RX5 97 RX5 yX5_editionAt wsX5_editionAt) := goodIn_app (goodIn_of _ (by decide +kernel)) ggX5_priceAt_X5_editionAt
set_option maxRecDepth 20000 in
theorem ggX5_price_X5_editionAt : GoodIn wsX5_price wsX5_editionAt := goodIn_r _ [7, 8, 9, 10, 11, 12, 13, 14, 15, 16, 17, 18, 19, 20, 21, 22, 23, 24, 25, 26, 27, 28, 29, 30, 31, 32] (by decide +kernel) (by decide +kernel)
set_option maxRecDepth 20000 in
theorem gX5_price_X5_editionAt : GoodIn wsX5_price (wsV RX5 97 RX5 yX5_editionAt wsX5_editionAt) := goodIn_app (goodIn_of _ (by decide +kernel)) ggX5_price_X5_editionAt
set_option maxRecDepth 20000 in
theorem ggX5_rent_X5_editionAt : GoodIn wsX5_rent wsX5_editionAt := goodIn_r _ [7, 8, 9, 10, 11, 12, 13, 14, 15, 16, 17, 18, 19, 20, 21, 22, 23, 24, 25, 26, 27, 28, 29, 30, 31, 32] (by decide +kernel) (by decide +kernel)
set_option maxRecDepth 20000 in
theorem gX5_rent_X5_editionAt : GoodIn wsX5_rent (wsV RX5 97 RX5 yX5_editionAt wsX5_editionAt) := goodIn_app (goodIn_of _ (by decide +kernel)) ggX5_rent_X5_editionAt
set_option maxRecDepth 20000 in
theorem ggX5_charged_X5_editionAt : GoodIn wsX5_charged wsX5_editionAt := goodIn_r _ [7, 8, 9, 10, 11, 12, 13, 14, 15, 16, 17, 18, 19, 20, 21, 22, 23, 24, 25, 26, 27, 28, 29, 30, 31, 32] (by decide +kernel) (by decide +kernel)
set_option maxRecDepth 20000 in
theorem gX5_charged_X5_editionAt : GoodIn wsX5_charged (wsV RX5 97 RX5 yX5_editionAt wsX5_editionAt) := goodIn_app (goodIn_of _ (by decide +kernel)) ggX5_charged_X5_editionAt
set_option maxRecDepth 20000 in
theorem ggX5_cap_X5_noAccount : GoodIn wsX5_cap wsX5_noAccount := goodIn_r _ [7, 8, 9, 10, 6, 11] (by decide +kernel) (by decide +kernel)
set_option maxRecDepth 20000 in
theorem gX5_cap_X5_noAccount : GoodIn wsX5_cap (wsV RX5 101 RX5 yX5_noAccount wsX5_noAccount) := goodIn_app (goodIn_of _ (by decide +kernel)) ggX5_cap_X5_noAccount
set_option maxRecDepth 20000 in
theorem ggX5_cap_X5_in : GoodIn wsX5_cap wsX5_in := goodIn_r _ [11] (by decide +kernel) (by decide +kernel)
set_option maxRecDepth 20000 in
theorem gX5_cap_X5_in : GoodIn wsX5_cap (va_wsS RX5 83 yX5_in wsX5_in) := goodIn_app (goodIn_of _ (by decide +kernel)) ggX5_cap_X5_in
set_option maxRecDepth 20000 in
theorem ggX5_isCapped_X5_liveSizes : GoodIn wsX5_isCapped wsX5_liveSizes := goodIn_r _ [6, 7, 8, 9, 10, 11, 12, 13, 14, 15, 16, 17, 18, 19, 20, 21, 22, 23, 24, 25, 26, 27, 28, 29, 30, 31, 32, 33] (by decide +kernel) (by decide +kernel)
set_option maxRecDepth 20000 in
theorem gX5_isCapped_X5_liveSizes : GoodIn wsX5_isCapped (wsV RX5 107 RX5 yX5_liveSizes wsX5_liveSizes) := goodIn_app (goodIn_of _ (by decide +kernel)) ggX5_isCapped_X5_liveSizes
set_option maxRecDepth 20000 in
theorem ggX5_needsLayer_X5_price : GoodIn wsX5_needsLayer wsX5_price := goodIn_r _ [8, 9, 10, 11, 12, 13, 7, 14, 15, 16, 17, 18, 19, 20, 21, 22, 23, 24, 25, 26, 27, 28, 29, 30, 31, 32, 33, 34, 35, 36, 37, 38, 39] (by decide +kernel) (by decide +kernel)
set_option maxRecDepth 20000 in
theorem gX5_needsLayer_X5_price : GoodIn wsX5_needsLayer (wsV RX5 110 RX5 yX5_price wsX5_price) := goodIn_app (goodIn_of _ (by decide +kernel)) ggX5_needsLayer_X5_price
set_option maxRecDepth 20000 in
theorem ggX5_comes_X5_needsLayer : GoodIn wsX5_comes wsX5_needsLayer := goodIn_r _ [9, 1, 3, 4, 10, 11, 12, 8, 13, 14, 15, 16, 17, 18, 19, 20, 21, 22, 23, 24, 25, 26, 27, 28, 29, 30, 31, 32, 33, 34, 35, 36, 37, 38, 39, 40, 41, 42, 43, 44] (by decide +kernel) (by decide +kernel)
set_option maxRecDepth 20000 in
theorem gX5_comes_X5_needsLayer : GoodIn wsX5_comes (wsV RX5 114 RX5 yX5_needsLayer wsX5_needsLayer) := goodIn_app (goodIn_of _ (by decide +kernel)) ggX5_comes_X5_needsLayer
set_option maxRecDepth 20000 in
theorem ggX5_comes_X5_price : GoodIn wsX5_comes wsX5_price := goodIn_r _ [13, 14, 15, 16, 17, 18, 8, 19, 20, 21, 22, 23, 24, 25, 26, 27, 28, 29, 30, 31, 32, 33, 34, 35, 36, 37, 38, 39, 40, 41, 42, 43, 44] (by decide +kernel) (by decide +kernel)
set_option maxRecDepth 20000 in
theorem gX5_comes_X5_price : GoodIn wsX5_comes (wsV RX5 110 RX5 yX5_price wsX5_price) := goodIn_app (goodIn_of _ (by decide +kernel)) ggX5_comes_X5_price
set_option maxRecDepth 20000 in
theorem ggX5_goes_X5_gives : GoodIn wsX5_goes wsX5_gives := goodIn_r _ [8, 2, 3, 9, 10, 11, 12, 13, 14, 15, 16, 17, 18, 19, 20, 21, 22, 23, 24, 25, 26, 27, 28, 29, 30, 31, 32, 33] (by decide +kernel) (by decide +kernel)
set_option maxRecDepth 20000 in
theorem gX5_goes_X5_gives : GoodIn wsX5_goes (wsV RX5 118 RX5 yX5_gives wsX5_gives) := goodIn_app (goodIn_of _ (by decide +kernel)) ggX5_goes_X5_gives
set_option maxRecDepth 20000 in
theorem ggX5_make_X5_noAccount : GoodIn wsX5_make wsX5_noAccount := goodIn_r _ [17, 18, 19, 20, 16, 21] (by decide +kernel) (by decide +kernel)
set_option maxRecDepth 20000 in
theorem gX5_make_X5_noAccount : GoodIn wsX5_make (wsV RX5 101 RX5 yX5_noAccount wsX5_noAccount) := goodIn_app (goodIn_of _ (by decide +kernel)) ggX5_make_X5_noAccount
set_option maxRecDepth 20000 in
theorem ggX5_make_X5_in : GoodIn wsX5_make wsX5_in := goodIn_r _ [21] (by decide +kernel) (by decide +kernel)
set_option maxRecDepth 20000 in
theorem gX5_make_X5_in : GoodIn wsX5_make (va_wsS RX5 83 yX5_in wsX5_in) := goodIn_app (goodIn_of _ (by decide +kernel)) ggX5_make_X5_in
set_option maxRecDepth 20000 in
theorem ggX5_make_X5_isCapped : GoodIn wsX5_make wsX5_isCapped := goodIn_r _ [25, 26, 27, 28, 29, 16, 30, 4, 10, 5, 6, 63, 64, 65, 66, 67, 68, 69, 70, 71, 72, 73, 74, 75, 76, 77, 78, 79, 80, 81, 82, 83, 84, 85] (by decide +kernel) (by decide +kernel)
set_option maxRecDepth 20000 in
theorem gX5_make_X5_isCapped : GoodIn wsX5_make (wsV RX5 124 RX5 yX5_isCapped wsX5_isCapped) := goodIn_app (goodIn_of _ (by decide +kernel)) ggX5_make_X5_isCapped
set_option maxRecDepth 20000 in
theorem ggX5_make_X5_charged : GoodIn wsX5_make wsX5_charged := goodIn_r _ [34, 35, 9, 36, 37, 38, 16, 39, 40, 41, 63, 64, 65, 66, 67, 68, 69, 70, 71, 72, 73, 74, 75, 76, 77, 78, 79, 80, 81, 82, 83, 84, 85] (by decide +kernel) (by decide +kernel)
set_option maxRecDepth 20000 in
theorem gX5_make_X5_charged : GoodIn wsX5_make (wsV RX5 127 RX5 yX5_charged wsX5_charged) := goodIn_app (goodIn_of _ (by decide +kernel)) ggX5_make_X5_charged
set_option maxRecDepth 20000 in
theorem ggX5_make_X5_rent : GoodIn wsX5_make wsX5_rent := goodIn_r _ [45, 46, 9, 36, 37, 38, 16, 39, 40, 41, 63, 64, 65, 66, 67, 68, 69, 70, 71, 72, 73, 74, 75, 76, 77, 78, 79, 80, 81, 82, 83, 84, 85] (by decide +kernel) (by decide +kernel)
set_option maxRecDepth 20000 in
theorem gX5_make_X5_rent : GoodIn wsX5_make (wsV RX5 130 RX5 yX5_rent wsX5_rent) := goodIn_app (goodIn_of _ (by decide +kernel)) ggX5_make_X5_rent
set_option maxRecDepth 20000 in
theorem ggX5_make_X5_price : GoodIn wsX5_make wsX5_price := goodIn_r _ [50, 51, 9, 36, 37, 38, 16, 39, 40, 41, 63, 64, 65, 66, 67, 68, 69, 70, 71, 72, 73, 74, 75, 76, 77, 78, 79, 80, 81, 82, 83, 84, 85] (by decide +kernel) (by decide +kernel)
set_option maxRecDepth 20000 in
theorem gX5_make_X5_price : GoodIn wsX5_make (wsV RX5 110 RX5 yX5_price wsX5_price) := goodIn_app (goodIn_of _ (by decide +kernel)) ggX5_make_X5_price
set_option maxRecDepth 20000 in
theorem ggX5_make_X5_comes : GoodIn wsX5_make wsX5_comes := goodIn_r _ [55, 11, 56, 57, 58, 59, 60, 61, 16, 62, 47, 48, 49, 50, 51, 9, 36, 37, 38, 39, 40, 41, 63, 64, 65, 66, 67, 68, 69, 70, 71, 72, 73, 74, 75, 76, 77, 78, 79, 80, 81, 82, 83, 84, 85] (by decide +kernel) (by decide +kernel)
set_option maxRecDepth 20000 in
theorem gX5_make_X5_comes : GoodIn wsX5_make (wsV RX5 133 RX5 yX5_comes wsX5_comes) := goodIn_app (goodIn_of _ (by decide +kernel)) ggX5_make_X5_comes
set_option maxRecDepth 20000 in
theorem ggX5_grow_X5_noObject : GoodIn wsX5_grow wsX5_noObject := goodIn_r _ [14, 15, 16, 17, 13, 18, 69, 70, 71, 72, 73, 74, 75, 76, 77, 78, 79, 80, 81, 82, 83, 84, 85, 86, 87, 88, 89, 90, 91] (by decide +kernel) (by decide +kernel)
set_option maxRecDepth 20000 in
theorem gX5_grow_X5_noObject : GoodIn wsX5_grow (wsV RX5 137 RX5 yX5_noObject wsX5_noObject) := goodIn_app (goodIn_of _ (by decide +kernel)) ggX5_grow_X5_noObject
set_option maxRecDepth 20000 in
theorem ggX5_grow_X5_noAccount : GoodIn wsX5_grow wsX5_noAccount := goodIn_r _ [22, 23, 16, 17, 13, 18] (by decide +kernel) (by decide +kernel)
set_option maxRecDepth 20000 in
theorem gX5_grow_X5_noAccount : GoodIn wsX5_grow (wsV RX5 101 RX5 yX5_noAccount wsX5_noAccount) := goodIn_app (goodIn_of _ (by decide +kernel)) ggX5_grow_X5_noAccount
set_option maxRecDepth 20000 in
theorem ggX5_grow_X5_in : GoodIn wsX5_grow wsX5_in := goodIn_r _ [18] (by decide +kernel) (by decide +kernel)
set_option maxRecDepth 20000 in
theorem gX5_grow_X5_in : GoodIn wsX5_grow (va_wsS RX5 83 yX5_in wsX5_in) := goodIn_app (goodIn_of _ (by decide +kernel)) ggX5_grow_X5_in
set_option maxRecDepth 20000 in
theorem ggX5_grow_X5_sizeNow : GoodIn wsX5_grow wsX5_sizeNow := goodIn_r _ [27, 2, 4, 69, 70, 71, 72, 73, 74, 75, 76, 77, 78, 79, 80, 81, 82, 83, 84, 85, 86, 87, 88, 89, 90, 91] (by decide +kernel) (by decide +kernel)
set_option maxRecDepth 20000 in
theorem gX5_grow_X5_sizeNow : GoodIn wsX5_grow (wsV RX5 142 RX5 yX5_sizeNow wsX5_sizeNow) := goodIn_app (goodIn_of _ (by decide +kernel)) ggX5_grow_X5_sizeNow
set_option maxRecDepth 20000 in
theorem ggX5_grow_X5_isCapped : GoodIn wsX5_grow wsX5_isCapped := goodIn_r _ [31, 32, 33, 34, 35, 13, 36, 15, 2, 3, 4, 69, 70, 71, 72, 73, 74, 75, 76, 77, 78, 79, 80, 81, 82, 83, 84, 85, 86, 87, 88, 89, 90, 91] (by decide +kernel) (by decide +kernel)
set_option maxRecDepth 20000 in
theorem gX5_grow_X5_isCapped : GoodIn wsX5_grow (wsV RX5 124 RX5 yX5_isCapped wsX5_isCapped) := goodIn_app (goodIn_of _ (by decide +kernel)) ggX5_grow_X5_isCapped
set_option maxRecDepth 20000 in
theorem ggX5_grow_X5_charged : GoodIn wsX5_grow wsX5_charged := goodIn_r _ [40, 41, 6, 42, 43, 44, 13, 45, 46, 47, 69, 70, 71, 72, 73, 74, 75, 76, 77, 78, 79, 80, 81, 82, 83, 84, 85, 86, 87, 88, 89, 90, 91] (by decide +kernel) (by decide +kernel)
set_option maxRecDepth 20000 in
theorem gX5_grow_X5_charged : GoodIn wsX5_grow (wsV RX5 127 RX5 yX5_charged wsX5_charged) := goodIn_app (goodIn_of _ (by decide +kernel)) ggX5_grow_X5_charged
set_option maxRecDepth 20000 in
theorem ggX5_grow_X5_rent : GoodIn wsX5_grow wsX5_rent := goodIn_r _ [51, 52, 6, 42, 43, 44, 13, 45, 46, 47, 69, 70, 71, 72, 73, 74, 75, 76, 77, 78, 79, 80, 81, 82, 83, 84, 85, 86, 87, 88, 89, 90, 91] (by decide +kernel) (by decide +kernel)
set_option maxRecDepth 20000 in
theorem gX5_grow_X5_rent : GoodIn wsX5_grow (wsV RX5 130 RX5 yX5_rent wsX5_rent) := goodIn_app (goodIn_of _ (by decide +kernel)) ggX5_grow_X5_rent
set_option maxRecDepth 20000 in
theorem ggX5_grow_X5_price : GoodIn wsX5_grow wsX5_price := goodIn_r _ [56, 57, 6, 42, 43, 44, 13, 45, 46, 47, 69, 70, 71, 72, 73, 74, 75, 76, 77, 78, 79, 80, 81, 82, 83, 84, 85, 86, 87, 88, 89, 90, 91] (by decide +kernel) (by decide +kernel)
set_option maxRecDepth 20000 in
theorem gX5_grow_X5_price : GoodIn wsX5_grow (wsV RX5 110 RX5 yX5_price wsX5_price) := goodIn_app (goodIn_of _ (by decide +kernel)) ggX5_grow_X5_price
set_option maxRecDepth 20000 in
theorem ggX5_grow_X5_needsLayer : GoodIn wsX5_grow wsX5_needsLayer := goodIn_r _ [61, 8, 62, 63, 53, 54, 55, 13, 56, 57, 6, 42, 43, 44, 45, 46, 47, 69, 70, 71, 72, 73, 74, 75, 76, 77, 78, 79, 80, 81, 82, 83, 84, 85, 86, 87, 88, 89, 90, 91] (by decide +kernel) (by decide +kernel)
set_option maxRecDepth 20000 in
theorem gX5_grow_X5_needsLayer : GoodIn wsX5_grow (wsV RX5 114 RX5 yX5_needsLayer wsX5_needsLayer) := goodIn_app (goodIn_of _ (by decide +kernel)) ggX5_grow_X5_needsLayer
set_option maxRecDepth 20000 in
theorem ggX5_grow_X5_comes : GoodIn wsX5_grow wsX5_comes := goodIn_r _ [67, 8, 68, 62, 63, 58, 59, 60, 13, 61, 53, 54, 55, 56, 57, 6, 42, 43, 44, 45, 46, 47, 69, 70, 71, 72, 73, 74, 75, 76, 77, 78, 79, 80, 81, 82, 83, 84, 85, 86, 87, 88, 89, 90, 91] (by decide +kernel) (by decide +kernel)
set_option maxRecDepth 20000 in
theorem gX5_grow_X5_comes : GoodIn wsX5_grow (wsV RX5 133 RX5 yX5_comes wsX5_comes) := goodIn_app (goodIn_of _ (by decide +kernel)) ggX5_grow_X5_comes
set_option maxRecDepth 20000 in
theorem ggX5_shrink_X5_noObject : GoodIn wsX5_shrink wsX5_noObject := goodIn_r _ [7, 8, 9, 10, 6, 11, 25, 26, 27, 28, 29, 30, 31, 32, 33, 34, 35, 36, 37, 38, 39, 40, 41, 42, 43, 44, 45, 46, 47] (by decide +kernel) (by decide +kernel)
set_option maxRecDepth 20000 in
theorem gX5_shrink_X5_noObject : GoodIn wsX5_shrink (wsV RX5 137 RX5 yX5_noObject wsX5_noObject) := goodIn_app (goodIn_of _ (by decide +kernel)) ggX5_shrink_X5_noObject
set_option maxRecDepth 20000 in
theorem ggX5_shrink_X5_in : GoodIn wsX5_shrink wsX5_in := goodIn_r _ [11] (by decide +kernel) (by decide +kernel)
set_option maxRecDepth 20000 in
theorem gX5_shrink_X5_in : GoodIn wsX5_shrink (va_wsS RX5 83 yX5_in wsX5_in) := goodIn_app (goodIn_of _ (by decide +kernel)) ggX5_shrink_X5_in
set_option maxRecDepth 20000 in
theorem ggX5_shrink_X5_goes : GoodIn wsX5_shrink wsX5_goes := goodIn_r _ [15, 16, 17, 18, 19, 20, 21, 6, 22, 23, 24, 25, 26, 27, 28, 29, 30, 31, 32, 33, 34, 35, 36, 37, 38, 39, 40, 41, 42, 43, 44, 45, 46, 47] (by decide +kernel) (by decide +kernel)
set_option maxRecDepth 20000 in
theorem gX5_shrink_X5_goes : GoodIn wsX5_shrink (wsV RX5 145 RX5 yX5_goes wsX5_goes) := goodIn_app (goodIn_of _ (by decide +kernel)) ggX5_shrink_X5_goes
set_option maxRecDepth 20000 in
theorem ggX5_pay_X5_noObject : GoodIn wsX5_pay wsX5_noObject := goodIn_r _ [12, 13, 14, 15, 11, 16, 38, 39, 40, 41, 42, 43, 44, 45, 46, 47, 48, 49, 50, 51, 52, 53, 54, 55, 56, 57, 58, 59, 60] (by decide +kernel) (by decide +kernel)
set_option maxRecDepth 20000 in
theorem gX5_pay_X5_noObject : GoodIn wsX5_pay (wsV RX5 137 RX5 yX5_noObject wsX5_noObject) := goodIn_app (goodIn_of _ (by decide +kernel)) ggX5_pay_X5_noObject
set_option maxRecDepth 20000 in
theorem ggX5_pay_X5_noAccount : GoodIn wsX5_pay wsX5_noAccount := goodIn_r _ [20, 21, 14, 15, 11, 16] (by decide +kernel) (by decide +kernel)
set_option maxRecDepth 20000 in
theorem gX5_pay_X5_noAccount : GoodIn wsX5_pay (wsV RX5 101 RX5 yX5_noAccount wsX5_noAccount) := goodIn_app (goodIn_of _ (by decide +kernel)) ggX5_pay_X5_noAccount
set_option maxRecDepth 20000 in
theorem ggX5_pay_X5_in : GoodIn wsX5_pay wsX5_in := goodIn_r _ [16] (by decide +kernel) (by decide +kernel)
set_option maxRecDepth 20000 in
theorem gX5_pay_X5_in : GoodIn wsX5_pay (va_wsS RX5 83 yX5_in wsX5_in) := goodIn_app (goodIn_of _ (by decide +kernel)) ggX5_pay_X5_in
set_option maxRecDepth 20000 in
theorem ggX5_pay_X5_charged : GoodIn wsX5_pay wsX5_charged := goodIn_r _ [25, 26, 4, 27, 28, 29, 11, 30, 31, 32, 38, 39, 40, 41, 42, 43, 44, 45, 46, 47, 48, 49, 50, 51, 52, 53, 54, 55, 56, 57, 58, 59, 60] (by decide +kernel) (by decide +kernel)
set_option maxRecDepth 20000 in
theorem gX5_pay_X5_charged : GoodIn wsX5_pay (wsV RX5 127 RX5 yX5_charged wsX5_charged) := goodIn_app (goodIn_of _ (by decide +kernel)) ggX5_pay_X5_charged
set_option maxRecDepth 20000 in
theorem ggX5_pay_X5_rent : GoodIn wsX5_pay wsX5_rent := goodIn_r _ [36, 37, 4, 27, 28, 29, 11, 30, 31, 32, 38, 39, 40, 41, 42, 43, 44, 45, 46, 47, 48, 49, 50, 51, 52, 53, 54, 55, 56, 57, 58, 59, 60] (by decide +kernel) (by decide +kernel)
set_option maxRecDepth 20000 in
theorem gX5_pay_X5_rent : GoodIn wsX5_pay (wsV RX5 130 RX5 yX5_rent wsX5_rent) := goodIn_app (goodIn_of _ (by decide +kernel)) ggX5_pay_X5_rent
set_option maxRecDepth 20000 in
theorem ggX5_write_X5_noObject : GoodIn wsX5_write wsX5_noObject := goodIn_r _ [8, 9, 10, 11, 7, 12, 13, 14, 15, 16, 17, 18, 19, 20, 21, 22, 23, 24, 25, 26, 27, 28, 29, 30, 31, 32, 33, 34, 35] (by decide +kernel) (by decide +kernel)
set_option maxRecDepth 20000 in
theorem gX5_write_X5_noObject : GoodIn wsX5_write (wsV RX5 137 RX5 yX5_noObject wsX5_noObject) := goodIn_app (goodIn_of _ (by decide +kernel)) ggX5_write_X5_noObject
set_option maxRecDepth 20000 in
theorem ggX5_write_X5_in : GoodIn wsX5_write wsX5_in := goodIn_r _ [12] (by decide +kernel) (by decide +kernel)
set_option maxRecDepth 20000 in
theorem gX5_write_X5_in : GoodIn wsX5_write (va_wsS RX5 83 yX5_in wsX5_in) := goodIn_app (goodIn_of _ (by decide +kernel)) ggX5_write_X5_in
set_option maxRecDepth 20000 in
theorem ggX5_drop_X5_noObject : GoodIn wsX5_drop wsX5_noObject := goodIn_r _ [7, 8, 9, 10, 6, 11, 25, 26, 27, 28, 29, 30, 31, 32, 33, 34, 35, 36, 37, 38, 39, 40, 41, 42, 43, 44, 45, 46, 47] (by decide +kernel) (by decide +kernel)
set_option maxRecDepth 20000 in
theorem gX5_drop_X5_noObject : GoodIn wsX5_drop (wsV RX5 137 RX5 yX5_noObject wsX5_noObject) := goodIn_app (goodIn_of _ (by decide +kernel)) ggX5_drop_X5_noObject
set_option maxRecDepth 20000 in
theorem ggX5_drop_X5_goes : GoodIn wsX5_drop wsX5_goes := goodIn_r _ [15, 16, 17, 18, 19, 20, 21, 6, 22, 23, 24, 25, 26, 27, 28, 29, 30, 31, 32, 33, 34, 35, 36, 37, 38, 39, 40, 41, 42, 43, 44, 45, 46, 47] (by decide +kernel) (by decide +kernel)
set_option maxRecDepth 20000 in
theorem gX5_drop_X5_goes : GoodIn wsX5_drop (wsV RX5 145 RX5 yX5_goes wsX5_goes) := goodIn_app (goodIn_of _ (by decide +kernel)) ggX5_drop_X5_goes
set_option maxRecDepth 20000 in
theorem ggX5_back_X5_noObject : GoodIn wsX5_back wsX5_noObject := goodIn_r _ [13, 14, 15, 16, 12, 17, 53, 54, 55, 56, 57, 58, 59, 60, 61, 62, 63, 64, 65, 66, 67, 68, 69, 70, 71, 72, 73, 74, 75] (by decide +kernel) (by decide +kernel)
set_option maxRecDepth 20000 in
theorem gX5_back_X5_noObject : GoodIn wsX5_back (wsV RX5 137 RX5 yX5_noObject wsX5_noObject) := goodIn_app (goodIn_of _ (by decide +kernel)) ggX5_back_X5_noObject
set_option maxRecDepth 20000 in
theorem ggX5_back_X5_noAccount : GoodIn wsX5_back wsX5_noAccount := goodIn_r _ [21, 22, 15, 16, 12, 17] (by decide +kernel) (by decide +kernel)
set_option maxRecDepth 20000 in
theorem gX5_back_X5_noAccount : GoodIn wsX5_back (wsV RX5 101 RX5 yX5_noAccount wsX5_noAccount) := goodIn_app (goodIn_of _ (by decide +kernel)) ggX5_back_X5_noAccount
set_option maxRecDepth 20000 in
theorem ggX5_back_X5_in : GoodIn wsX5_back wsX5_in := goodIn_r _ [17] (by decide +kernel) (by decide +kernel)
set_option maxRecDepth 20000 in
theorem gX5_back_X5_in : GoodIn wsX5_back (va_wsS RX5 83 yX5_in wsX5_in) := goodIn_app (goodIn_of _ (by decide +kernel)) ggX5_back_X5_in
set_option maxRecDepth 20000 in
theorem ggX5_back_X5_digestOf : GoodIn wsX5_back wsX5_digestOf := goodIn_r _ [26, 4, 27, 53, 54, 55, 56, 57, 58, 59, 60, 61, 62, 63, 64, 65, 66, 67, 68, 69, 70, 71, 72, 73, 74, 75] (by decide +kernel) (by decide +kernel)
set_option maxRecDepth 20000 in
theorem gX5_back_X5_digestOf : GoodIn wsX5_back (wsV RX5 149 RX5 yX5_digestOf wsX5_digestOf) := goodIn_app (goodIn_of _ (by decide +kernel)) ggX5_back_X5_digestOf
set_option maxRecDepth 20000 in
theorem ggX5_back_X5_isCapped : GoodIn wsX5_back wsX5_isCapped := goodIn_r _ [31, 32, 33, 34, 35, 12, 36, 14, 2, 3, 4, 53, 54, 55, 56, 57, 58, 59, 60, 61, 62, 63, 64, 65, 66, 67, 68, 69, 70, 71, 72, 73, 74, 75] (by decide +kernel) (by decide +kernel)
set_option maxRecDepth 20000 in
theorem gX5_back_X5_isCapped : GoodIn wsX5_back (wsV RX5 124 RX5 yX5_isCapped wsX5_isCapped) := goodIn_app (goodIn_of _ (by decide +kernel)) ggX5_back_X5_isCapped
set_option maxRecDepth 20000 in
theorem ggX5_back_X5_charged : GoodIn wsX5_back wsX5_charged := goodIn_r _ [40, 41, 5, 42, 43, 44, 12, 45, 46, 47, 53, 54, 55, 56, 57, 58, 59, 60, 61, 62, 63, 64, 65, 66, 67, 68, 69, 70, 71, 72, 73, 74, 75] (by decide +kernel) (by decide +kernel)
set_option maxRecDepth 20000 in
theorem gX5_back_X5_charged : GoodIn wsX5_back (wsV RX5 127 RX5 yX5_charged wsX5_charged) := goodIn_app (goodIn_of _ (by decide +kernel)) ggX5_back_X5_charged
set_option maxRecDepth 20000 in
theorem ggX5_back_X5_rent : GoodIn wsX5_back wsX5_rent := goodIn_r _ [51, 52, 5, 42, 43, 44, 12, 45, 46, 47, 53, 54, 55, 56, 57, 58, 59, 60, 61, 62, 63, 64, 65, 66, 67, 68, 69, 70, 71, 72, 73, 74, 75] (by decide +kernel) (by decide +kernel)
set_option maxRecDepth 20000 in
theorem gX5_back_X5_rent : GoodIn wsX5_back (wsV RX5 130 RX5 yX5_rent wsX5_rent) := goodIn_app (goodIn_of _ (by decide +kernel)) ggX5_back_X5_rent
set_option maxRecDepth 20000 in
theorem ggX5_digest_X5_noObject : GoodIn wsX5_digest wsX5_noObject := goodIn_r _ [5, 6, 7, 8, 4, 9, 16, 17, 18, 19, 20, 21, 22, 23, 24, 25, 26, 27, 28, 29, 30, 31, 32, 33, 34, 35, 36, 37, 38] (by decide +kernel) (by decide +kernel)
set_option maxRecDepth 20000 in
theorem gX5_digest_X5_noObject : GoodIn wsX5_digest (wsV RX5 137 RX5 yX5_noObject wsX5_noObject) := goodIn_app (goodIn_of _ (by decide +kernel)) ggX5_digest_X5_noObject
set_option maxRecDepth 20000 in
theorem ggX5_digest_X5_digestOf : GoodIn wsX5_digest wsX5_digestOf := goodIn_r _ [13, 14, 15, 16, 17, 18, 19, 20, 21, 22, 23, 24, 25, 26, 27, 28, 29, 30, 31, 32, 33, 34, 35, 36, 37, 38] (by decide +kernel) (by decide +kernel)
set_option maxRecDepth 20000 in
theorem gX5_digest_X5_digestOf : GoodIn wsX5_digest (wsV RX5 149 RX5 yX5_digestOf wsX5_digestOf) := goodIn_app (goodIn_of _ (by decide +kernel)) ggX5_digest_X5_digestOf
set_option maxRecDepth 20000 in
theorem ggX5_share_X5_allWeights : GoodIn wsX5_share wsX5_allWeights := goodIn_r _ [9, 2, 14, 15, 16, 17, 18, 19, 20, 21, 22, 23, 24, 25, 26, 27, 28, 29, 30, 31, 32, 33, 34, 35, 36] (by decide +kernel) (by decide +kernel)
set_option maxRecDepth 20000 in
theorem gX5_share_X5_allWeights : GoodIn wsX5_share (wsV RX5 152 RX5 yX5_allWeights wsX5_allWeights) := goodIn_app (goodIn_of _ (by decide +kernel)) ggX5_share_X5_allWeights
set_option maxRecDepth 20000 in
theorem ggX5_share_X5_rank : GoodIn wsX5_share wsX5_rank := goodIn_r _ [13, 2, 14, 15, 16, 17, 18, 19, 20, 21, 22, 23, 24, 25, 26, 27, 28, 29, 30, 31, 32, 33, 34, 35, 36] (by decide +kernel) (by decide +kernel)
set_option maxRecDepth 20000 in
theorem gX5_share_X5_rank : GoodIn wsX5_share (wsV RX5 155 RX5 yX5_rank wsX5_rank) := goodIn_app (goodIn_of _ (by decide +kernel)) ggX5_share_X5_rank
set_option maxRecDepth 20000 in
theorem ggX5_tick_X5_in : GoodIn wsX5_tick wsX5_in := goodIn_r _ [10] (by decide +kernel) (by decide +kernel)
set_option maxRecDepth 20000 in
theorem gX5_tick_X5_in : GoodIn wsX5_tick (va_wsS RX5 83 yX5_in wsX5_in) := goodIn_app (goodIn_of _ (by decide +kernel)) ggX5_tick_X5_in
set_option maxRecDepth 20000 in
theorem ggX5_tick_X5_share : GoodIn wsX5_tick wsX5_share := goodIn_r _ [14, 15, 16, 17, 18, 19, 20, 21, 9, 22, 23, 24, 25, 26, 27, 28, 29, 30, 31, 32, 33, 34, 35, 36, 37, 38, 39, 40, 41, 42, 43, 44, 45, 46, 47, 48, 49] (by decide +kernel) (by decide +kernel)
set_option maxRecDepth 20000 in
theorem gX5_tick_X5_share : GoodIn wsX5_tick (wsV RX5 158 RX5 yX5_share wsX5_share) := goodIn_app (goodIn_of _ (by decide +kernel)) ggX5_tick_X5_share
set_option maxRecDepth 20000 in
theorem ggX5_weight_X5_in : GoodIn wsX5_weight wsX5_in := goodIn_r _ [7] (by decide +kernel) (by decide +kernel)
set_option maxRecDepth 20000 in
theorem gX5_weight_X5_in : GoodIn wsX5_weight (va_wsS RX5 83 yX5_in wsX5_in) := goodIn_app (goodIn_of _ (by decide +kernel)) ggX5_weight_X5_in
set_option maxRecDepth 20000 in
theorem ggX5_coins_X5_in : GoodIn wsX5_coins wsX5_in := goodIn_r _ [7] (by decide +kernel) (by decide +kernel)
set_option maxRecDepth 20000 in
theorem gX5_coins_X5_in : GoodIn wsX5_coins (va_wsS RX5 83 yX5_in wsX5_in) := goodIn_app (goodIn_of _ (by decide +kernel)) ggX5_coins_X5_in
set_option maxRecDepth 20000 in
theorem ggX5_coins_X5_noAccount : GoodIn wsX5_coins wsX5_noAccount := goodIn_r _ [11, 12, 4, 5, 6, 7] (by decide +kernel) (by decide +kernel)
set_option maxRecDepth 20000 in
theorem gX5_coins_X5_noAccount : GoodIn wsX5_coins (wsV RX5 101 RX5 yX5_noAccount wsX5_noAccount) := goodIn_app (goodIn_of _ (by decide +kernel)) ggX5_coins_X5_noAccount
set_option maxRecDepth 20000 in
theorem ggX5_object_X5_noObject : GoodIn wsX5_object wsX5_noObject := goodIn_r _ [10, 11, 12, 13, 9, 14, 37, 38, 39, 40, 41, 42, 43, 44, 45, 46, 47, 48, 49, 50, 51, 52, 53, 54, 55, 56, 57, 58, 59] (by decide +kernel) (by decide +kernel)
set_option maxRecDepth 20000 in
theorem gX5_object_X5_noObject : GoodIn wsX5_object (wsV RX5 137 RX5 yX5_noObject wsX5_noObject) := goodIn_app (goodIn_of _ (by decide +kernel)) ggX5_object_X5_noObject
set_option maxRecDepth 20000 in
theorem ggX5_object_X5_sizeNow : GoodIn wsX5_object wsX5_sizeNow := goodIn_r _ [18, 3, 5, 37, 38, 39, 40, 41, 42, 43, 44, 45, 46, 47, 48, 49, 50, 51, 52, 53, 54, 55, 56, 57, 58, 59] (by decide +kernel) (by decide +kernel)
set_option maxRecDepth 20000 in
theorem gX5_object_X5_sizeNow : GoodIn wsX5_object (wsV RX5 142 RX5 yX5_sizeNow wsX5_sizeNow) := goodIn_app (goodIn_of _ (by decide +kernel)) ggX5_object_X5_sizeNow
set_option maxRecDepth 20000 in
theorem ggX5_object_X5_heldFor : GoodIn wsX5_object wsX5_heldFor := goodIn_r _ [22, 4, 23, 24, 37, 38, 39, 40, 41, 42, 43, 44, 45, 46, 47, 48, 49, 50, 51, 52, 53, 54, 55, 56, 57, 58, 59] (by decide +kernel) (by decide +kernel)
set_option maxRecDepth 20000 in
theorem gX5_object_X5_heldFor : GoodIn wsX5_object (wsV RX5 163 RX5 yX5_heldFor wsX5_heldFor) := goodIn_app (goodIn_of _ (by decide +kernel)) ggX5_object_X5_heldFor
set_option maxRecDepth 20000 in
theorem ggX5_object_X5_charged : GoodIn wsX5_object wsX5_charged := goodIn_r _ [28, 29, 30, 31, 32, 33, 9, 34, 35, 36, 37, 38, 39, 40, 41, 42, 43, 44, 45, 46, 47, 48, 49, 50, 51, 52, 53, 54, 55, 56, 57, 58, 59] (by decide +kernel) (by decide +kernel)
set_option maxRecDepth 20000 in
theorem gX5_object_X5_charged : GoodIn wsX5_object (wsV RX5 127 RX5 yX5_charged wsX5_charged) := goodIn_app (goodIn_of _ (by decide +kernel)) ggX5_object_X5_charged
set_option maxRecDepth 20000 in
theorem ggX5_layer_X5_noObject : GoodIn wsX5_layer wsX5_noObject := goodIn_r _ [10, 11, 12, 13, 9, 14, 15, 16, 17, 18, 19, 20, 21, 22, 23, 24, 25, 26, 27, 28, 29, 30, 31, 32, 33, 34, 35, 36, 37] (by decide +kernel) (by decide +kernel)
set_option maxRecDepth 20000 in
theorem gX5_layer_X5_noObject : GoodIn wsX5_layer (wsV RX5 137 RX5 yX5_noObject wsX5_noObject) := goodIn_app (goodIn_of _ (by decide +kernel)) ggX5_layer_X5_noObject
set_option maxRecDepth 20000 in
theorem ggX5_layer_X5_in : GoodIn wsX5_layer wsX5_in := goodIn_r _ [14] (by decide +kernel) (by decide +kernel)
set_option maxRecDepth 20000 in
theorem gX5_layer_X5_in : GoodIn wsX5_layer (va_wsS RX5 83 yX5_in wsX5_in) := goodIn_app (goodIn_of _ (by decide +kernel)) ggX5_layer_X5_in
set_option maxRecDepth 20000 in
theorem ggX5_word_X5_noObject : GoodIn wsX5_word wsX5_noObject := goodIn_r _ [8, 9, 10, 11, 7, 12, 13, 14, 15, 16, 17, 18, 19, 20, 21, 22, 23, 24, 25, 26, 27, 28, 29, 30, 31, 32, 33, 34, 35] (by decide +kernel) (by decide +kernel)
set_option maxRecDepth 20000 in
theorem gX5_word_X5_noObject : GoodIn wsX5_word (wsV RX5 137 RX5 yX5_noObject wsX5_noObject) := goodIn_app (goodIn_of _ (by decide +kernel)) ggX5_word_X5_noObject
set_option maxRecDepth 20000 in
theorem ggX5_word_X5_in : GoodIn wsX5_word wsX5_in := goodIn_r _ [12] (by decide +kernel) (by decide +kernel)
set_option maxRecDepth 20000 in
theorem gX5_word_X5_in : GoodIn wsX5_word (va_wsS RX5 83 yX5_in wsX5_in) := goodIn_app (goodIn_of _ (by decide +kernel)) ggX5_word_X5_in
set_option maxRecDepth 20000 in
theorem ggX5_wouldGive_X5_noObject : GoodIn wsX5_wouldGive wsX5_noObject := goodIn_r _ [7, 8, 9, 10, 6, 11, 25, 26, 27, 28, 29, 30, 31, 32, 33, 34, 35, 36, 37, 38, 39, 40, 41, 42, 43, 44, 45, 46, 47] (by decide +kernel) (by decide +kernel)
set_option maxRecDepth 20000 in
theorem gX5_wouldGive_X5_noObject : GoodIn wsX5_wouldGive (wsV RX5 137 RX5 yX5_noObject wsX5_noObject) := goodIn_app (goodIn_of _ (by decide +kernel)) ggX5_wouldGive_X5_noObject
set_option maxRecDepth 20000 in
theorem ggX5_wouldGive_X5_noAccount : GoodIn wsX5_wouldGive wsX5_noAccount := goodIn_r _ [15, 16, 9, 10, 6, 11] (by decide +kernel) (by decide +kernel)
set_option maxRecDepth 20000 in
theorem gX5_wouldGive_X5_noAccount : GoodIn wsX5_wouldGive (wsV RX5 101 RX5 yX5_noAccount wsX5_noAccount) := goodIn_app (goodIn_of _ (by decide +kernel)) ggX5_wouldGive_X5_noAccount
set_option maxRecDepth 20000 in
theorem ggX5_wouldGive_X5_in : GoodIn wsX5_wouldGive wsX5_in := goodIn_r _ [11] (by decide +kernel) (by decide +kernel)
set_option maxRecDepth 20000 in
theorem gX5_wouldGive_X5_in : GoodIn wsX5_wouldGive (va_wsS RX5 83 yX5_in wsX5_in) := goodIn_app (goodIn_of _ (by decide +kernel)) ggX5_wouldGive_X5_in
set_option maxRecDepth 20000 in
theorem ggX5_wouldGive_X5_gives : GoodIn wsX5_wouldGive wsX5_gives := goodIn_r _ [20, 21, 22, 23, 24, 25, 26, 27, 28, 29, 30, 31, 32, 33, 34, 35, 36, 37, 38, 39, 40, 41, 42, 43, 44, 45, 46, 47] (by decide +kernel) (by decide +kernel)
set_option maxRecDepth 20000 in
theorem gX5_wouldGive_X5_gives : GoodIn wsX5_wouldGive (wsV RX5 118 RX5 yX5_gives wsX5_gives) := goodIn_app (goodIn_of _ (by decide +kernel)) ggX5_wouldGive_X5_gives
set_option maxRecDepth 20000 in
theorem ggX5_held_X5_heldFor : GoodIn wsX5_held wsX5_heldFor := goodIn_r _ [6, 7, 8, 9, 10, 11, 12, 13, 14, 15, 16, 17, 18, 19, 20, 21, 22, 23, 24, 25, 26, 27, 28, 29, 30, 31, 32] (by decide +kernel) (by decide +kernel)
set_option maxRecDepth 20000 in
theorem gX5_held_X5_heldFor : GoodIn wsX5_held (wsV RX5 163 RX5 yX5_heldFor wsX5_heldFor) := goodIn_app (goodIn_of _ (by decide +kernel)) ggX5_held_X5_heldFor
set_option maxRecDepth 20000 in
theorem ggX5_allCoins_X5_held : GoodIn wsX5_allCoins wsX5_held := goodIn_r _ [8, 9, 10, 11, 12, 7, 13, 14, 15, 16, 17, 18, 19, 20, 21, 22, 23, 24, 25, 26, 27, 28, 29, 30, 31, 32, 33, 34, 35, 36, 37, 38, 39] (by decide +kernel) (by decide +kernel)
set_option maxRecDepth 20000 in
theorem gX5_allCoins_X5_held : GoodIn wsX5_allCoins (wsV RX5 175 RX5 yX5_held wsX5_held) := goodIn_app (goodIn_of _ (by decide +kernel)) ggX5_allCoins_X5_held
set_option maxRecDepth 20000 in
theorem ggX5_told_X5_manyOf : GoodIn wsX5_told wsX5_manyOf := goodIn_r _ [10, 2, 11, 35, 36, 37, 38, 39, 40, 41, 42, 43, 44, 45, 46, 47, 48, 49, 50, 51, 52, 53, 54, 55, 56, 57] (by decide +kernel) (by decide +kernel)
set_option maxRecDepth 20000 in
theorem gX5_told_X5_manyOf : GoodIn wsX5_told (wsV RX5 178 RX5 yX5_manyOf wsX5_manyOf) := goodIn_app (goodIn_of _ (by decide +kernel)) ggX5_told_X5_manyOf
set_option maxRecDepth 20000 in
theorem ggX5_told_X5_liveSizes : GoodIn wsX5_told wsX5_liveSizes := goodIn_r _ [15, 2, 11, 16, 17, 35, 36, 37, 38, 39, 40, 41, 42, 43, 44, 45, 46, 47, 48, 49, 50, 51, 52, 53, 54, 55, 56, 57] (by decide +kernel) (by decide +kernel)
set_option maxRecDepth 20000 in
theorem gX5_told_X5_liveSizes : GoodIn wsX5_told (wsV RX5 107 RX5 yX5_liveSizes wsX5_liveSizes) := goodIn_app (goodIn_of _ (by decide +kernel)) ggX5_told_X5_liveSizes
set_option maxRecDepth 20000 in
theorem ggX5_told_X5_held : GoodIn wsX5_told wsX5_held := goodIn_r _ [21, 2, 22, 23, 24, 9, 25, 26, 27, 28, 35, 36, 37, 38, 39, 40, 41, 42, 43, 44, 45, 46, 47, 48, 49, 50, 51, 52, 53, 54, 55, 56, 57] (by decide +kernel) (by decide +kernel)
set_option maxRecDepth 20000 in
theorem gX5_told_X5_held : GoodIn wsX5_told (wsV RX5 175 RX5 yX5_held wsX5_held) := goodIn_app (goodIn_of _ (by decide +kernel)) ggX5_told_X5_held
set_option maxRecDepth 20000 in
theorem ggX5_told_X5_allCoins : GoodIn wsX5_told wsX5_allCoins := goodIn_r _ [32, 3, 33, 34, 18, 19, 20, 9, 21, 2, 22, 23, 24, 25, 26, 27, 28, 35, 36, 37, 38, 39, 40, 41, 42, 43, 44, 45, 46, 47, 48, 49, 50, 51, 52, 53, 54, 55, 56, 57] (by decide +kernel) (by decide +kernel)
set_option maxRecDepth 20000 in
theorem gX5_told_X5_allCoins : GoodIn wsX5_told (wsV RX5 181 RX5 yX5_allCoins wsX5_allCoins) := goodIn_app (goodIn_of _ (by decide +kernel)) ggX5_told_X5_allCoins
set_option maxRecDepth 20000 in
theorem ggX5_clear_X5_begin : GoodIn wsX5_clear wsX5_begin := goodIn_r _ [6, 7, 8, 9, 10, 11, 12, 13, 14, 15, 16, 17, 18, 19, 1, 20, 21, 22, 23, 24, 25, 26, 27, 28, 29, 30, 31, 32, 33, 34, 35, 36, 37, 38, 39, 40, 41, 42] (by decide +kernel) (by decide +kernel)
set_option maxRecDepth 20000 in
theorem gX5_clear_X5_begin : GoodIn wsX5_clear (wsV RX5 61 RX5 yX5_begin wsX5_begin) := goodIn_app (goodIn_of _ (by decide +kernel)) ggX5_clear_X5_begin
