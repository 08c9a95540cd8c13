set_option maxRecDepth 20000 in
theorem ggX4_init_X0_init : GoodIn wsX4_init wsX0_init := goodIn_r _ [17, 18, 2, 3, 12, 19, 20, 21, 22, 58, 59, 60, 61, 62] (by decide +kernel) (by decide +kernel)
set_option maxRecDepth 20000 in
theorem gX4_init_X0_init_n9 : GoodIn wsX4_init (wsX0_init) := ggX4_init_X0_init
set_option maxRecDepth 20000 in
theorem ggX4_init_X3_init : GoodIn wsX4_init wsX3_init := goodIn_r _ [24, 25, 2, 3, 12, 26, 27, 28, 69, 70, 71, 72, 73, 74] (by decide +kernel) (by decide +kernel)
set_option maxRecDepth 20000 in
theorem gX4_init_X3_init_n18 : GoodIn wsX4_init (wsX3_init) := ggX4_init_X3_init
set_option maxRecDepth 20000 in
theorem ggX4_init_X4_beginAnew : GoodIn wsX4_init wsX4_beginAnew := goodIn_r _ [33, 7, 11, 13, 34, 35, 36, 37, 38, 6, 39, 40, 41, 42, 43, 44, 19, 20, 21, 22, 45, 46, 47, 10, 48, 26, 49, 27, 28, 50, 51, 52, 53, 54, 55, 56, 57, 63, 64, 65, 66, 67, 68, 58, 59, 60, 61, 62, 69, 70, 71, 72, 73, 74] (by decide +kernel) (by decide +kernel)
set_option maxRecDepth 20000 in
theorem gX4_init_X4_beginAnew : GoodIn wsX4_init (wsV RX4 33 RX4 yX4_beginAnew wsX4_beginAnew) := goodIn_app (goodIn_of _ (by decide +kernel)) ggX4_init_X4_beginAnew
set_option maxRecDepth 20000 in
theorem ggX4_edition_X4_within : GoodIn wsX4_edition wsX4_within := goodIn_r _ [7] (by decide +kernel) (by decide +kernel)
set_option maxRecDepth 20000 in
theorem gX4_edition_X4_within : GoodIn wsX4_edition (va_wsS RX4 37 yX4_within wsX4_within) := goodIn_app (goodIn_of _ (by decide +kernel)) ggX4_edition_X4_within
set_option maxRecDepth 20000 in
theorem ggX4_edition_X0_lastFrom : GoodIn wsX4_edition wsX0_lastFrom := goodIn_r _ [12, 13, 14, 32, 33, 34, 35, 36] (by decide +kernel) (by decide +kernel)
set_option maxRecDepth 20000 in
theorem gX4_edition_X0_lastFrom : GoodIn wsX4_edition (wsV RX4 45 RX0 yX0_lastFrom wsX0_lastFrom) := goodIn_app (goodIn_of _ (by decide +kernel)) ggX4_edition_X0_lastFrom
set_option maxRecDepth 20000 in
theorem ggX4_edition_X0_hasRoom : GoodIn wsX4_edition wsX0_hasRoom := goodIn_r _ [18, 13, 32, 33, 34, 35, 36] (by decide +kernel) (by decide +kernel)
set_option maxRecDepth 20000 in
theorem gX4_edition_X0_hasRoom : GoodIn wsX4_edition (wsV RX4 49 RX0 yX0_hasRoom wsX0_hasRoom) := goodIn_app (goodIn_of _ (by decide +kernel)) ggX4_edition_X0_hasRoom
set_option maxRecDepth 20000 in
theorem ggX4_edition_X0_append : GoodIn wsX4_edition wsX0_append := goodIn_r _ [22, 13, 14, 23, 24, 25, 32, 33, 34, 35, 36] (by decide +kernel) (by decide +kernel)
set_option maxRecDepth 20000 in
theorem gX4_edition_X0_append : GoodIn wsX4_edition (wsV RX4 53 RX0 yX0_append wsX0_append) := goodIn_app (goodIn_of _ (by decide +kernel)) ggX4_edition_X0_append
set_option maxRecDepth 20000 in
theorem ggX4_priceAt_X4_within : GoodIn wsX4_priceAt wsX4_within := goodIn_r _ [6] (by decide +kernel) (by decide +kernel)
set_option maxRecDepth 20000 in
theorem gX4_priceAt_X4_within : GoodIn wsX4_priceAt (va_wsS RX4 37 yX4_within wsX4_within) := goodIn_app (goodIn_of _ (by decide +kernel)) ggX4_priceAt_X4_within
set_option maxRecDepth 20000 in
theorem ggX4_priceAt_X0_priceOn : GoodIn wsX4_priceAt wsX0_priceOn := goodIn_r _ [11, 12, 13, 14, 15, 10, 16, 17, 18, 39, 40, 41, 42, 43] (by decide +kernel) (by decide +kernel)
set_option maxRecDepth 20000 in
theorem gX4_priceAt_X0_priceOn : GoodIn wsX4_priceAt (wsV RX4 60 RX0 yX0_priceOn wsX0_priceOn) := goodIn_app (goodIn_of _ (by decide +kernel)) ggX4_priceAt_X0_priceOn
set_option maxRecDepth 20000 in
theorem ggX4_priceAt_X0_rentOn : GoodIn wsX4_priceAt wsX0_rentOn := goodIn_r _ [22, 23, 13, 14, 15, 10, 16, 17, 18, 39, 40, 41, 42, 43] (by decide +kernel) (by decide +kernel)
set_option maxRecDepth 20000 in
theorem gX4_priceAt_X0_rentOn : GoodIn wsX4_priceAt (wsV RX4 64 RX0 yX0_rentOn wsX0_rentOn) := goodIn_app (goodIn_of _ (by decide +kernel)) ggX4_priceAt_X0_rentOn
set_option maxRecDepth 20000 in
theorem ggX4_priceAt_X0_leastOn : GoodIn wsX4_priceAt wsX0_leastOn := goodIn_r _ [27, 28, 13, 14, 15, 10, 16, 17, 18, 39, 40, 41, 42, 43] (by decide +kernel) (by decide +kernel)
set_option maxRecDepth 20000 in
theorem gX4_priceAt_X0_leastOn : GoodIn wsX4_priceAt (wsV RX4 67 RX0 yX0_leastOn wsX0_leastOn) := goodIn_app (goodIn_of _ (by decide +kernel)) ggX4_priceAt_X0_leastOn
set_option maxRecDepth 20000 in
theorem ggX4_priceAt_X0_fromOn : GoodIn wsX4_priceAt wsX0_fromOn := goodIn_r _ [32, 18, 13, 14, 15, 10, 16, 17, 39, 40, 41, 42, 43] (by decide +kernel) (by decide +kernel)
set_option maxRecDepth 20000 in
theorem gX4_priceAt_X0_fromOn : GoodIn wsX4_priceAt (wsV RX4 70 RX0 yX0_fromOn wsX0_fromOn) := goodIn_app (goodIn_of _ (by decide +kernel)) ggX4_priceAt_X0_fromOn
set_option maxRecDepth 20000 in
theorem ggX4_cap_X4_isAccount : GoodIn wsX4_cap wsX4_isAccount := goodIn_r _ [5, 6, 7, 4, 8] (by decide +kernel) (by decide +kernel)
set_option maxRecDepth 20000 in
theorem gX4_cap_X4_isAccount : GoodIn wsX4_cap (va_wsS RX4 73 yX4_isAccount wsX4_isAccount) := goodIn_app (goodIn_of _ (by decide +kernel)) ggX4_cap_X4_isAccount
set_option maxRecDepth 20000 in
theorem ggX4_cap_X4_within : GoodIn wsX4_cap wsX4_within := goodIn_r _ [8] (by decide +kernel) (by decide +kernel)
set_option maxRecDepth 20000 in
theorem gX4_cap_X4_within : GoodIn wsX4_cap (va_wsS RX4 37 yX4_within wsX4_within) := goodIn_app (goodIn_of _ (by decide +kernel)) ggX4_cap_X4_within
set_option maxRecDepth 20000 in
theorem ggX4_make_X4_isAccount : GoodIn wsX4_make wsX4_isAccount := goodIn_r _ [8, 9, 10, 7, 11] (by decide +kernel) (by decide +kernel)
set_option maxRecDepth 20000 in
theorem gX4_make_X4_isAccount : GoodIn wsX4_make (va_wsS RX4 73 yX4_isAccount wsX4_isAccount) := goodIn_app (goodIn_of _ (by decide +kernel)) ggX4_make_X4_isAccount
set_option maxRecDepth 20000 in
theorem ggX4_make_X4_within : GoodIn wsX4_make wsX4_within := goodIn_r _ [11] (by decide +kernel) (by decide +kernel)
set_option maxRecDepth 20000 in
theorem gX4_make_X4_within : GoodIn wsX4_make (va_wsS RX4 37 yX4_within wsX4_within) := goodIn_app (goodIn_of _ (by decide +kernel)) ggX4_make_X4_within
set_option maxRecDepth 20000 in
theorem ggX4_make_X4_capsAllow : GoodIn wsX4_make wsX4_capsAllow := goodIn_r _ [15, 16, 17, 18, 19, 7, 20, 4, 21, 113, 114, 115, 116, 117, 118, 119, 120, 121, 122, 123, 124] (by decide +kernel) (by decide +kernel)
set_option maxRecDepth 20000 in
theorem gX4_make_X4_capsAllow : GoodIn wsX4_make (wsV RX4 77 RX4 yX4_capsAllow wsX4_capsAllow) := goodIn_app (goodIn_of _ (by decide +kernel)) ggX4_make_X4_capsAllow
set_option maxRecDepth 20000 in
theorem ggX4_make_X0_priceOn : GoodIn wsX4_make wsX0_priceOn := goodIn_r _ [26, 27, 28, 29, 30, 25, 31, 32, 33, 125, 126, 127, 128, 129] (by decide +kernel) (by decide +kernel)
set_option maxRecDepth 20000 in
theorem gX4_make_X0_priceOn : GoodIn wsX4_make (wsV RX4 60 RX0 yX0_priceOn wsX0_priceOn) := goodIn_app (goodIn_of _ (by decide +kernel)) ggX4_make_X0_priceOn
set_option maxRecDepth 20000 in
theorem ggX4_make_X4_chargedSize : GoodIn wsX4_make wsX4_chargedSize := goodIn_r _ [37, 1, 2, 38, 39, 40, 41, 42, 43, 44, 25, 45, 46, 28, 29, 30, 31, 32, 33, 113, 114, 115, 116, 117, 118, 125, 126, 127, 128, 129] (by decide +kernel) (by decide +kernel)
set_option maxRecDepth 20000 in
theorem gX4_make_X4_chargedSize : GoodIn wsX4_make (wsV RX4 81 RX4 yX4_chargedSize wsX4_chargedSize) := goodIn_app (goodIn_of _ (by decide +kernel)) ggX4_make_X4_chargedSize
set_option maxRecDepth 20000 in
theorem ggX4_make_X4_rentOf : GoodIn wsX4_make wsX4_rentOf := goodIn_r _ [50, 1, 2, 51, 52, 53, 25, 54, 55, 28, 29, 30, 31, 32, 33, 113, 114, 115, 116, 117, 118, 125, 126, 127, 128, 129] (by decide +kernel) (by decide +kernel)
set_option maxRecDepth 20000 in
theorem gX4_make_X4_rentOf : GoodIn wsX4_make (wsV RX4 84 RX4 yX4_rentOf wsX4_rentOf) := goodIn_app (goodIn_of _ (by decide +kernel)) ggX4_make_X4_rentOf
set_option maxRecDepth 20000 in
theorem ggX4_make_X3_canPay : GoodIn wsX4_make wsX3_canPay := goodIn_r _ [60, 61, 130, 131, 132, 133, 134, 135] (by decide +kernel) (by decide +kernel)
set_option maxRecDepth 20000 in
theorem gX4_make_X3_canPay : GoodIn wsX4_make (wsV RX4 88 RX3 yX3_canPay wsX3_canPay) := goodIn_app (goodIn_of _ (by decide +kernel)) ggX4_make_X3_canPay
set_option maxRecDepth 20000 in
theorem ggX4_make_X3_takeFrom : GoodIn wsX4_make wsX3_takeFrom := goodIn_r _ [65, 61, 66, 67, 130, 131, 132, 133, 134, 135] (by decide +kernel) (by decide +kernel)
set_option maxRecDepth 20000 in
theorem gX4_make_X3_takeFrom : GoodIn wsX4_make (wsV RX4 95 RX3 yX3_takeFrom wsX3_takeFrom) := goodIn_app (goodIn_of _ (by decide +kernel)) ggX4_make_X3_takeFrom
set_option maxRecDepth 20000 in
theorem ggX4_make_X4_freshItem : GoodIn wsX4_make wsX4_freshItem := goodIn_r _ [71, 21, 4, 72, 73, 74, 75, 76, 77, 78, 79, 80, 81, 82, 83, 84, 85, 86, 87, 88, 89, 90, 91, 113, 114, 115, 116, 117, 118, 119, 120, 121, 122, 123, 124, 136, 137, 138, 139] (by decide +kernel) (by decide +kernel)
set_option maxRecDepth 20000 in
theorem gX4_make_X4_freshItem : GoodIn wsX4_make (wsV RX4 99 RX4 yX4_freshItem wsX4_freshItem) := goodIn_app (goodIn_of _ (by decide +kernel)) ggX4_make_X4_freshItem
set_option maxRecDepth 20000 in
theorem ggX4_make_X1_begin : GoodIn wsX4_make wsX1_begin := goodIn_r _ [95, 96, 97, 98, 99, 81, 85, 100, 101, 102, 103, 119, 120, 121, 122, 123, 124, 136, 137, 138, 139] (by decide +kernel) (by decide +kernel)
set_option maxRecDepth 20000 in
theorem gX4_make_X1_begin : GoodIn wsX4_make (wsV RX4 103 RX1 yX1_begin wsX1_begin) := goodIn_app (goodIn_of _ (by decide +kernel)) ggX4_make_X1_begin
set_option maxRecDepth 20000 in
theorem ggX4_make_X2_put : GoodIn wsX4_make wsX2_put := goodIn_r _ [107, 89, 108, 90, 91, 109, 110, 111, 84, 112, 136, 137, 138, 139] (by decide +kernel) (by decide +kernel)
set_option maxRecDepth 20000 in
theorem gX4_make_X2_put : GoodIn wsX4_make (wsV RX4 111 RX2 yX2_put wsX2_put) := goodIn_app (goodIn_of _ (by decide +kernel)) ggX4_make_X2_put
set_option maxRecDepth 20000 in
theorem ggX4_grow_X4_find : GoodIn wsX4_grow wsX4_find := goodIn_r _ [8, 9, 10, 11, 12, 7, 13, 102, 103, 104, 105, 106, 107] (by decide +kernel) (by decide +kernel)
set_option maxRecDepth 20000 in
theorem gX4_grow_X4_find : GoodIn wsX4_grow (wsV RX4 116 RX4 yX4_find wsX4_find) := goodIn_app (goodIn_of _ (by decide +kernel)) ggX4_grow_X4_find
set_option maxRecDepth 20000 in
theorem ggX4_grow_X4_isAccount : GoodIn wsX4_grow wsX4_isAccount := goodIn_r _ [16, 11, 12, 7, 13] (by decide +kernel) (by decide +kernel)
set_option maxRecDepth 20000 in
theorem gX4_grow_X4_isAccount : GoodIn wsX4_grow (va_wsS RX4 73 yX4_isAccount wsX4_isAccount) := goodIn_app (goodIn_of _ (by decide +kernel)) ggX4_grow_X4_isAccount
set_option maxRecDepth 20000 in
theorem ggX4_grow_X4_within : GoodIn wsX4_grow wsX4_within := goodIn_r _ [13] (by decide +kernel) (by decide +kernel)
set_option maxRecDepth 20000 in
theorem gX4_grow_X4_within : GoodIn wsX4_grow (va_wsS RX4 37 yX4_within wsX4_within) := goodIn_app (goodIn_of _ (by decide +kernel)) ggX4_grow_X4_within
set_option maxRecDepth 20000 in
theorem ggX4_grow_X1_sizeNow : GoodIn wsX4_grow wsX1_sizeNow := goodIn_r _ [21, 22, 23, 96, 97, 98, 99, 100, 101] (by decide +kernel) (by decide +kernel)
set_option maxRecDepth 20000 in
theorem gX4_grow_X1_sizeNow : GoodIn wsX4_grow (wsV RX4 120 RX1 yX1_sizeNow wsX1_sizeNow) := goodIn_app (goodIn_of _ (by decide +kernel)) ggX4_grow_X1_sizeNow
set_option maxRecDepth 20000 in
theorem ggX4_grow_X4_capsAllow : GoodIn wsX4_grow wsX4_capsAllow := goodIn_r _ [27, 28, 29, 30, 31, 7, 32, 9, 10, 102, 103, 104, 105, 106, 107, 96, 97, 98, 99, 100, 101] (by decide +kernel) (by decide +kernel)
set_option maxRecDepth 20000 in
theorem gX4_grow_X4_capsAllow : GoodIn wsX4_grow (wsV RX4 77 RX4 yX4_capsAllow wsX4_capsAllow) := goodIn_app (goodIn_of _ (by decide +kernel)) ggX4_grow_X4_capsAllow
set_option maxRecDepth 20000 in
theorem ggX4_grow_X0_priceOn : GoodIn wsX4_grow wsX0_priceOn := goodIn_r _ [37, 38, 39, 40, 41, 36, 42, 43, 44, 108, 109, 110, 111, 112] (by decide +kernel) (by decide +kernel)
set_option maxRecDepth 20000 in
theorem gX4_grow_X0_priceOn : GoodIn wsX4_grow (wsV RX4 60 RX0 yX0_priceOn wsX0_priceOn) := goodIn_app (goodIn_of _ (by decide +kernel)) ggX4_grow_X0_priceOn
set_option maxRecDepth 20000 in
theorem ggX4_grow_X4_chargedSize : GoodIn wsX4_grow wsX4_chargedSize := goodIn_r _ [48, 1, 2, 49, 50, 51, 52, 53, 54, 55, 36, 56, 57, 39, 40, 41, 42, 43, 44, 102, 103, 104, 105, 106, 107, 108, 109, 110, 111, 112] (by decide +kernel) (by decide +kernel)
set_option maxRecDepth 20000 in
theorem gX4_grow_X4_chargedSize : GoodIn wsX4_grow (wsV RX4 81 RX4 yX4_chargedSize wsX4_chargedSize) := goodIn_app (goodIn_of _ (by decide +kernel)) ggX4_grow_X4_chargedSize
set_option maxRecDepth 20000 in
theorem ggX4_grow_X4_rentOf : GoodIn wsX4_grow wsX4_rentOf := goodIn_r _ [61, 1, 2, 62, 63, 64, 36, 65, 66, 39, 40, 41, 42, 43, 44, 102, 103, 104, 105, 106, 107, 108, 109, 110, 111, 112] (by decide +kernel) (by decide +kernel)
set_option maxRecDepth 20000 in
theorem gX4_grow_X4_rentOf : GoodIn wsX4_grow (wsV RX4 84 RX4 yX4_rentOf wsX4_rentOf) := goodIn_app (goodIn_of _ (by decide +kernel)) ggX4_grow_X4_rentOf
set_option maxRecDepth 20000 in
theorem ggX4_grow_X3_canPay : GoodIn wsX4_grow wsX3_canPay := goodIn_r _ [71, 72, 113, 114, 115, 116, 117, 118] (by decide +kernel) (by decide +kernel)
set_option maxRecDepth 20000 in
theorem gX4_grow_X3_canPay : GoodIn wsX4_grow (wsV RX4 88 RX3 yX3_canPay wsX3_canPay) := goodIn_app (goodIn_of _ (by decide +kernel)) ggX4_grow_X3_canPay
set_option maxRecDepth 20000 in
theorem ggX4_grow_X2_hasRoomFor : GoodIn wsX4_grow wsX2_hasRoomFor := goodIn_r _ [77, 78, 79, 80, 81, 76, 82, 83, 84, 119, 120, 121, 122] (by decide +kernel) (by decide +kernel)
set_option maxRecDepth 20000 in
theorem gX4_grow_X2_hasRoomFor : GoodIn wsX4_grow (wsV RX4 135 RX2 yX2_hasRoomFor wsX2_hasRoomFor) := goodIn_app (goodIn_of _ (by decide +kernel)) ggX4_grow_X2_hasRoomFor
set_option maxRecDepth 20000 in
theorem ggX4_grow_X2_put : GoodIn wsX4_grow wsX2_put := goodIn_r _ [88, 89, 78, 83, 84, 79, 80, 81, 76, 82, 119, 120, 121, 122] (by decide +kernel) (by decide +kernel)
set_option maxRecDepth 20000 in
theorem gX4_grow_X2_put : GoodIn wsX4_grow (wsV RX4 111 RX2 yX2_put wsX2_put) := goodIn_app (goodIn_of _ (by decide +kernel)) ggX4_grow_X2_put
set_option maxRecDepth 20000 in
theorem ggX4_grow_X3_takeFrom : GoodIn wsX4_grow wsX3_takeFrom := goodIn_r _ [93, 72, 94, 95, 113, 114, 115, 116, 117, 118] (by decide +kernel) (by decide +kernel)
set_option maxRecDepth 20000 in
theorem gX4_grow_X3_takeFrom : GoodIn wsX4_grow (wsV RX4 95 RX3 yX3_takeFrom wsX3_takeFrom) := goodIn_app (goodIn_of _ (by decide +kernel)) ggX4_grow_X3_takeFrom
set_option maxRecDepth 20000 in
theorem ggX4_shrink_X4_find : GoodIn wsX4_shrink wsX4_find := goodIn_r _ [5, 6, 7, 8, 9, 4, 10, 49, 50, 51, 52, 53, 54] (by decide +kernel) (by decide +kernel)
set_option maxRecDepth 20000 in
theorem gX4_shrink_X4_find : GoodIn wsX4_shrink (wsV RX4 116 RX4 yX4_find wsX4_find) := goodIn_app (goodIn_of _ (by decide +kernel)) ggX4_shrink_X4_find
set_option maxRecDepth 20000 in
theorem ggX4_shrink_X4_refusalToShrink : GoodIn wsX4_shrink wsX4_refusalToShrink := goodIn_r _ [13, 8, 9, 4, 10, 43, 44, 45, 46, 47, 48] (by decide +kernel) (by decide +kernel)
set_option maxRecDepth 20000 in
theorem gX4_shrink_X4_refusalToShrink : GoodIn wsX4_shrink (va_wsS RX4 138 yX4_refusalToShrink wsX4_refusalToShrink) := goodIn_app (goodIn_of _ (by decide +kernel)) ggX4_shrink_X4_refusalToShrink
set_option maxRecDepth 20000 in
theorem ggX4_shrink_X4_giveBack : GoodIn wsX4_shrink wsX4_giveBack := goodIn_r _ [17, 18, 19, 20, 21, 22, 23, 24, 25, 26, 27, 28, 29, 30, 31, 32, 33, 34, 35, 36, 37, 38, 39, 40, 41, 42, 49, 50, 51, 52, 53, 54, 43, 44, 45, 46, 47, 48, 55, 56, 57, 58, 59, 60, 61, 62, 63, 64] (by decide +kernel) (by decide +kernel)
set_option maxRecDepth 20000 in
theorem gX4_shrink_X4_giveBack : GoodIn wsX4_shrink (wsV RX4 142 RX4 yX4_giveBack wsX4_giveBack) := goodIn_app (goodIn_of _ (by decide +kernel)) ggX4_shrink_X4_giveBack
set_option maxRecDepth 20000 in
theorem ggX4_pay_X4_find : GoodIn wsX4_pay wsX4_find := goodIn_r _ [7, 8, 9, 10, 11, 6, 12, 64, 65, 66, 67, 68, 69] (by decide +kernel) (by decide +kernel)
set_option maxRecDepth 20000 in
theorem gX4_pay_X4_find : GoodIn wsX4_pay (wsV RX4 116 RX4 yX4_find wsX4_find) := goodIn_app (goodIn_of _ (by decide +kernel)) ggX4_pay_X4_find
set_option maxRecDepth 20000 in
theorem ggX4_pay_X4_isAccount : GoodIn wsX4_pay wsX4_isAccount := goodIn_r _ [15, 10, 11, 6, 12] (by decide +kernel) (by decide +kernel)
set_option maxRecDepth 20000 in
theorem gX4_pay_X4_isAccount : GoodIn wsX4_pay (va_wsS RX4 73 yX4_isAccount wsX4_isAccount) := goodIn_app (goodIn_of _ (by decide +kernel)) ggX4_pay_X4_isAccount
set_option maxRecDepth 20000 in
theorem ggX4_pay_X4_within : GoodIn wsX4_pay wsX4_within := goodIn_r _ [12] (by decide +kernel) (by decide +kernel)
set_option maxRecDepth 20000 in
theorem gX4_pay_X4_within : GoodIn wsX4_pay (va_wsS RX4 37 yX4_within wsX4_within) := goodIn_app (goodIn_of _ (by decide +kernel)) ggX4_pay_X4_within
set_option maxRecDepth 20000 in
theorem ggX4_pay_X4_chargedSize : GoodIn wsX4_pay wsX4_chargedSize := goodIn_r _ [19, 20, 1, 21, 22, 23, 24, 25, 26, 27, 28, 29, 30, 31, 32, 33, 34, 35, 36, 64, 65, 66, 67, 68, 69, 70, 71, 72, 73, 74] (by decide +kernel) (by decide +kernel)
set_option maxRecDepth 20000 in
theorem gX4_pay_X4_chargedSize : GoodIn wsX4_pay (wsV RX4 81 RX4 yX4_chargedSize wsX4_chargedSize) := goodIn_app (goodIn_of _ (by decide +kernel)) ggX4_pay_X4_chargedSize
set_option maxRecDepth 20000 in
theorem ggX4_pay_X4_rentOf : GoodIn wsX4_pay wsX4_rentOf := goodIn_r _ [40, 20, 1, 41, 42, 43, 28, 44, 45, 31, 32, 33, 34, 35, 36, 64, 65, 66, 67, 68, 69, 70, 71, 72, 73, 74] (by decide +kernel) (by decide +kernel)
set_option maxRecDepth 20000 in
theorem gX4_pay_X4_rentOf : GoodIn wsX4_pay (wsV RX4 84 RX4 yX4_rentOf wsX4_rentOf) := goodIn_app (goodIn_of _ (by decide +kernel)) ggX4_pay_X4_rentOf
set_option maxRecDepth 20000 in
theorem ggX4_pay_X3_canPay : GoodIn wsX4_pay wsX3_canPay := goodIn_r _ [50, 51, 75, 76, 77, 78, 79, 80] (by decide +kernel) (by decide +kernel)
set_option maxRecDepth 20000 in
theorem gX4_pay_X3_canPay : GoodIn wsX4_pay (wsV RX4 88 RX3 yX3_canPay wsX3_canPay) := goodIn_app (goodIn_of _ (by decide +kernel)) ggX4_pay_X3_canPay
set_option maxRecDepth 20000 in
theorem ggX4_pay_X3_takeFrom : GoodIn wsX4_pay wsX3_takeFrom := goodIn_r _ [55, 51, 56, 57, 75, 76, 77, 78, 79, 80] (by decide +kernel) (by decide +kernel)
set_option maxRecDepth 20000 in
theorem gX4_pay_X3_takeFrom : GoodIn wsX4_pay (wsV RX4 95 RX3 yX3_takeFrom wsX3_takeFrom) := goodIn_app (goodIn_of _ (by decide +kernel)) ggX4_pay_X3_takeFrom
set_option maxRecDepth 20000 in
theorem ggX4_write_X4_find : GoodIn wsX4_write wsX4_find := goodIn_r _ [5, 6, 7, 8, 9, 4, 10, 17, 18, 19, 20, 21, 22] (by decide +kernel) (by decide +kernel)
set_option maxRecDepth 20000 in
theorem gX4_write_X4_find : GoodIn wsX4_write (wsV RX4 116 RX4 yX4_find wsX4_find) := goodIn_app (goodIn_of _ (by decide +kernel)) ggX4_write_X4_find
set_option maxRecDepth 20000 in
theorem ggX4_write_X4_within : GoodIn wsX4_write wsX4_within := goodIn_r _ [10] (by decide +kernel) (by decide +kernel)
set_option maxRecDepth 20000 in
theorem gX4_write_X4_within : GoodIn wsX4_write (va_wsS RX4 37 yX4_within wsX4_within) := goodIn_app (goodIn_of _ (by decide +kernel)) ggX4_write_X4_within
set_option maxRecDepth 20000 in
theorem ggX4_drop_X4_find : GoodIn wsX4_drop wsX4_find := goodIn_r _ [5, 6, 7, 8, 9, 4, 10, 46, 47, 48, 49, 50, 51] (by decide +kernel) (by decide +kernel)
set_option maxRecDepth 20000 in
theorem gX4_drop_X4_find : GoodIn wsX4_drop (wsV RX4 116 RX4 yX4_find wsX4_find) := goodIn_app (goodIn_of _ (by decide +kernel)) ggX4_drop_X4_find
set_option maxRecDepth 20000 in
theorem ggX4_drop_X4_giveBack : GoodIn wsX4_drop wsX4_giveBack := goodIn_r _ [14, 15, 16, 17, 18, 19, 20, 21, 22, 23, 24, 25, 26, 27, 28, 29, 30, 31, 32, 33, 34, 35, 36, 37, 38, 39, 46, 47, 48, 49, 50, 51, 40, 41, 42, 43, 44, 45, 52, 53, 54, 55, 56, 57, 58, 59, 60, 61] (by decide +kernel) (by decide +kernel)
set_option maxRecDepth 20000 in
theorem gX4_drop_X4_giveBack : GoodIn wsX4_drop (wsV RX4 142 RX4 yX4_giveBack wsX4_giveBack) := goodIn_app (goodIn_of _ (by decide +kernel)) ggX4_drop_X4_giveBack
set_option maxRecDepth 20000 in
theorem ggX4_back_X4_find : GoodIn wsX4_back wsX4_find := goodIn_r _ [7, 8, 9, 10, 11, 6, 12, 80, 81, 82, 83, 84, 85] (by decide +kernel) (by decide +kernel)
set_option maxRecDepth 20000 in
theorem gX4_back_X4_find : GoodIn wsX4_back (wsV RX4 116 RX4 yX4_find wsX4_find) := goodIn_app (goodIn_of _ (by decide +kernel)) ggX4_back_X4_find
set_option maxRecDepth 20000 in
theorem ggX4_back_X4_isAccount : GoodIn wsX4_back wsX4_isAccount := goodIn_r _ [15, 10, 11, 6, 12] (by decide +kernel) (by decide +kernel)
set_option maxRecDepth 20000 in
theorem gX4_back_X4_isAccount : GoodIn wsX4_back (va_wsS RX4 73 yX4_isAccount wsX4_isAccount) := goodIn_app (goodIn_of _ (by decide +kernel)) ggX4_back_X4_isAccount
set_option maxRecDepth 20000 in
theorem ggX4_back_X4_within : GoodIn wsX4_back wsX4_within := goodIn_r _ [12] (by decide +kernel) (by decide +kernel)
set_option maxRecDepth 20000 in
theorem gX4_back_X4_within : GoodIn wsX4_back (va_wsS RX4 37 yX4_within wsX4_within) := goodIn_app (goodIn_of _ (by decide +kernel)) ggX4_back_X4_within
set_option maxRecDepth 20000 in
theorem ggX4_back_X1_sumUp : GoodIn wsX4_back wsX1_sumUp := goodIn_r _ [20, 21, 22, 74, 75, 76, 77, 78, 79] (by decide +kernel) (by decide +kernel)
set_option maxRecDepth 20000 in
theorem gX4_back_X1_sumUp : GoodIn wsX4_back (wsV RX4 148 RX1 yX1_sumUp wsX1_sumUp) := goodIn_app (goodIn_of _ (by decide +kernel)) ggX4_back_X1_sumUp
set_option maxRecDepth 20000 in
theorem ggX4_back_X4_capsAllow : GoodIn wsX4_back wsX4_capsAllow := goodIn_r _ [26, 27, 28, 29, 30, 6, 31, 8, 9, 80, 81, 82, 83, 84, 85, 74, 75, 76, 77, 78, 79] (by decide +kernel) (by decide +kernel)
set_option maxRecDepth 20000 in
theorem gX4_back_X4_capsAllow : GoodIn wsX4_back (wsV RX4 77 RX4 yX4_capsAllow wsX4_capsAllow) := goodIn_app (goodIn_of _ (by decide +kernel)) ggX4_back_X4_capsAllow
set_option maxRecDepth 20000 in
theorem ggX4_back_X4_chargedSize : GoodIn wsX4_back wsX4_chargedSize := goodIn_r _ [35, 36, 1, 37, 38, 39, 40, 41, 42, 43, 44, 45, 46, 47, 48, 49, 50, 51, 52, 80, 81, 82, 83, 84, 85, 86, 87, 88, 89, 90] (by decide +kernel) (by decide +kernel)
set_option maxRecDepth 20000 in
theorem gX4_back_X4_chargedSize : GoodIn wsX4_back (wsV RX4 81 RX4 yX4_chargedSize wsX4_chargedSize) := goodIn_app (goodIn_of _ (by decide +kernel)) ggX4_back_X4_chargedSize
set_option maxRecDepth 20000 in
theorem ggX4_back_X4_rentOf : GoodIn wsX4_back wsX4_rentOf := goodIn_r _ [56, 36, 1, 57, 58, 59, 44, 60, 61, 47, 48, 49, 50, 51, 52, 80, 81, 82, 83, 84, 85, 86, 87, 88, 89, 90] (by decide +kernel) (by decide +kernel)
set_option maxRecDepth 20000 in
theorem gX4_back_X4_rentOf : GoodIn wsX4_back (wsV RX4 84 RX4 yX4_rentOf wsX4_rentOf) := goodIn_app (goodIn_of _ (by decide +kernel)) ggX4_back_X4_rentOf
set_option maxRecDepth 20000 in
theorem ggX4_back_X3_canPay : GoodIn wsX4_back wsX3_canPay := goodIn_r _ [66, 67, 91, 92, 93, 94, 95, 96] (by decide +kernel) (by decide +kernel)
set_option maxRecDepth 20000 in
theorem gX4_back_X3_canPay : GoodIn wsX4_back (wsV RX4 88 RX3 yX3_canPay wsX3_canPay) := goodIn_app (goodIn_of _ (by decide +kernel)) ggX4_back_X3_canPay
set_option maxRecDepth 20000 in
theorem ggX4_back_X3_takeFrom : GoodIn wsX4_back wsX3_takeFrom := goodIn_r _ [71, 67, 72, 73, 91, 92, 93, 94, 95, 96] (by decide +kernel) (by decide +kernel)
set_option maxRecDepth 20000 in
theorem gX4_back_X3_takeFrom : GoodIn wsX4_back (wsV RX4 95 RX3 yX3_takeFrom wsX3_takeFrom) := goodIn_app (goodIn_of _ (by decide +kernel)) ggX4_back_X3_takeFrom
set_option maxRecDepth 20000 in
theorem ggX4_digest_X4_find : GoodIn wsX4_digest wsX4_find := goodIn_r _ [5, 6, 7, 8, 9, 4, 10, 18, 19, 20, 21, 22, 23] (by decide +kernel) (by decide +kernel)
set_option maxRecDepth 20000 in
theorem gX4_digest_X4_find : GoodIn wsX4_digest (wsV RX4 116 RX4 yX4_find wsX4_find) := goodIn_app (goodIn_of _ (by decide +kernel)) ggX4_digest_X4_find
set_option maxRecDepth 20000 in
theorem ggX4_digest_X1_sumUp : GoodIn wsX4_digest wsX1_sumUp := goodIn_r _ [15, 16, 17, 24, 25, 26, 27, 28, 29] (by decide +kernel) (by decide +kernel)
set_option maxRecDepth 20000 in
theorem gX4_digest_X1_sumUp : GoodIn wsX4_digest (wsV RX4 148 RX1 yX1_sumUp wsX1_sumUp) := goodIn_app (goodIn_of _ (by decide +kernel)) ggX4_digest_X1_sumUp
set_option maxRecDepth 20000 in
theorem ggX4_tick_X4_within : GoodIn wsX4_tick wsX4_within := goodIn_r _ [7] (by decide +kernel) (by decide +kernel)
set_option maxRecDepth 20000 in
theorem gX4_tick_X4_within : GoodIn wsX4_tick (va_wsS RX4 37 yX4_within wsX4_within) := goodIn_app (goodIn_of _ (by decide +kernel)) ggX4_tick_X4_within
set_option maxRecDepth 20000 in
theorem ggX4_tick_X4_archiveUnpaid : GoodIn wsX4_tick wsX4_archiveUnpaid := goodIn_r _ [11, 12, 13, 1, 34, 35, 36, 37, 38, 39, 40, 41, 42, 43, 44, 45] (by decide +kernel) (by decide +kernel)
set_option maxRecDepth 20000 in
theorem gX4_tick_X4_archiveUnpaid : GoodIn wsX4_tick (wsV RX4 151 RX4 yX4_archiveUnpaid wsX4_archiveUnpaid) := goodIn_app (goodIn_of _ (by decide +kernel)) ggX4_tick_X4_archiveUnpaid
set_option maxRecDepth 20000 in
theorem ggX4_tick_X3_sharePool : GoodIn wsX4_tick wsX3_sharePool := goodIn_r _ [18, 19, 20, 21, 22, 17, 23, 24, 25, 26, 27, 28, 29, 30, 31, 32, 33, 46, 47, 48, 49, 50, 51] (by decide +kernel) (by decide +kernel)
set_option maxRecDepth 20000 in
theorem gX4_tick_X3_sharePool : GoodIn wsX4_tick (wsV RX4 154 RX3 yX3_sharePool wsX3_sharePool) := goodIn_app (goodIn_of _ (by decide +kernel)) ggX4_tick_X3_sharePool
set_option maxRecDepth 20000 in
theorem ggX4_weight_X4_isNode : GoodIn wsX4_weight wsX4_isNode := goodIn_r _ [5, 6, 7, 4, 8] (by decide +kernel) (by decide +kernel)
set_option maxRecDepth 20000 in
theorem gX4_weight_X4_isNode : GoodIn wsX4_weight (va_wsS RX4 157 yX4_isNode wsX4_isNode) := goodIn_app (goodIn_of _ (by decide +kernel)) ggX4_weight_X4_isNode
set_option maxRecDepth 20000 in
theorem ggX4_weight_X4_within : GoodIn wsX4_weight wsX4_within := goodIn_r _ [8] (by decide +kernel) (by decide +kernel)
set_option maxRecDepth 20000 in
theorem gX4_weight_X4_within : GoodIn wsX4_weight (va_wsS RX4 37 yX4_within wsX4_within) := goodIn_app (goodIn_of _ (by decide +kernel)) ggX4_weight_X4_within
set_option maxRecDepth 20000 in
theorem ggX4_coins_X4_isAccount : GoodIn wsX4_coins wsX4_isAccount := goodIn_r _ [5, 6, 7, 4, 8] (by decide +kernel) (by decide +kernel)
set_option maxRecDepth 20000 in
theorem gX4_coins_X4_isAccount : GoodIn wsX4_coins (va_wsS RX4 73 yX4_isAccount wsX4_isAccount) := goodIn_app (goodIn_of _ (by decide +kernel)) ggX4_coins_X4_isAccount
set_option maxRecDepth 20000 in
theorem ggX4_coins_X4_isNode : GoodIn wsX4_coins wsX4_isNode := goodIn_r _ [11, 6, 7, 4, 8] (by decide +kernel) (by decide +kernel)
set_option maxRecDepth 20000 in
theorem gX4_coins_X4_isNode : GoodIn wsX4_coins (va_wsS RX4 157 yX4_isNode wsX4_isNode) := goodIn_app (goodIn_of _ (by decide +kernel)) ggX4_coins_X4_isNode
set_option maxRecDepth 20000 in
theorem ggX4_object_X4_find : GoodIn wsX4_object wsX4_find := goodIn_r _ [5, 6, 7, 8, 9, 4, 10, 58, 59, 60, 61, 62, 63] (by decide +kernel) (by decide +kernel)
set_option maxRecDepth 20000 in
theorem gX4_object_X4_find : GoodIn wsX4_object (wsV RX4 116 RX4 yX4_find wsX4_find) := goodIn_app (goodIn_of _ (by decide +kernel)) ggX4_object_X4_find
set_option maxRecDepth 20000 in
theorem ggX4_object_X1_sizeNow : GoodIn wsX4_object wsX1_sizeNow := goodIn_r _ [15, 16, 17, 48, 49, 50, 51, 52, 53] (by decide +kernel) (by decide +kernel)
set_option maxRecDepth 20000 in
theorem gX4_object_X1_sizeNow : GoodIn wsX4_object (wsV RX4 120 RX1 yX1_sizeNow wsX1_sizeNow) := goodIn_app (goodIn_of _ (by decide +kernel)) ggX4_object_X1_sizeNow
set_option maxRecDepth 20000 in
theorem ggX4_object_X2_worth : GoodIn wsX4_object wsX2_worth := goodIn_r _ [22, 23, 24, 25, 54, 55, 56, 57] (by decide +kernel) (by decide +kernel)
set_option maxRecDepth 20000 in
theorem gX4_object_X2_worth : GoodIn wsX4_object (wsV RX4 170 RX2 yX2_worth wsX2_worth) := goodIn_app (goodIn_of _ (by decide +kernel)) ggX4_object_X2_worth
set_option maxRecDepth 20000 in
theorem ggX4_object_X4_chargedSize : GoodIn wsX4_object wsX4_chargedSize := goodIn_r _ [29, 30, 31, 32, 33, 34, 35, 36, 37, 38, 39, 40, 41, 42, 43, 44, 45, 46, 47, 58, 59, 60, 61, 62, 63, 64, 65, 66, 67, 68] (by decide +kernel) (by decide +kernel)
set_option maxRecDepth 20000 in
theorem gX4_object_X4_chargedSize : GoodIn wsX4_object (wsV RX4 81 RX4 yX4_chargedSize wsX4_chargedSize) := goodIn_app (goodIn_of _ (by decide +kernel)) ggX4_object_X4_chargedSize
set_option maxRecDepth 20000 in
theorem ggX4_layer_X4_find : GoodIn wsX4_layer wsX4_find := goodIn_r _ [5, 6, 7, 8, 9, 4, 10, 27, 28, 29, 30, 31, 32] (by decide +kernel) (by decide +kernel)
set_option maxRecDepth 20000 in
theorem gX4_layer_X4_find : GoodIn wsX4_layer (wsV RX4 116 RX4 yX4_find wsX4_find) := goodIn_app (goodIn_of _ (by decide +kernel)) ggX4_layer_X4_find
set_option maxRecDepth 20000 in
theorem ggX4_layer_X4_within : GoodIn wsX4_layer wsX4_within := goodIn_r _ [10] (by decide +kernel) (by decide +kernel)
set_option maxRecDepth 20000 in
theorem gX4_layer_X4_within : GoodIn wsX4_layer (va_wsS RX4 37 yX4_within wsX4_within) := goodIn_app (goodIn_of _ (by decide +kernel)) ggX4_layer_X4_within
set_option maxRecDepth 20000 in
theorem ggX4_layer_X2_has : GoodIn wsX4_layer wsX2_has := goodIn_r _ [15, 16, 9, 4, 10, 23, 24, 25, 26] (by decide +kernel) (by decide +kernel)
set_option maxRecDepth 20000 in
theorem gX4_layer_X2_has : GoodIn wsX4_layer (wsV RX4 173 RX2 yX2_has wsX2_has) := goodIn_app (goodIn_of _ (by decide +kernel)) ggX4_layer_X2_has
set_option maxRecDepth 20000 in
theorem ggX4_word_X4_find : GoodIn wsX4_word wsX4_find := goodIn_r _ [5, 6, 7, 8, 9, 4, 10, 17, 18, 19, 20, 21, 22] (by decide +kernel) (by decide +kernel)
set_option maxRecDepth 20000 in
theorem gX4_word_X4_find : GoodIn wsX4_word (wsV RX4 116 RX4 yX4_find wsX4_find) := goodIn_app (goodIn_of _ (by decide +kernel)) ggX4_word_X4_find
set_option maxRecDepth 20000 in
theorem ggX4_word_X4_within : GoodIn wsX4_word wsX4_within := goodIn_r _ [10] (by decide +kernel) (by decide +kernel)
set_option maxRecDepth 20000 in
theorem gX4_word_X4_within : GoodIn wsX4_word (va_wsS RX4 37 yX4_within wsX4_within) := goodIn_app (goodIn_of _ (by decide +kernel)) ggX4_word_X4_within
set_option maxRecDepth 20000 in
theorem ggX4_wouldGive_X4_find : GoodIn wsX4_wouldGive wsX4_find := goodIn_r _ [5, 6, 7, 8, 9, 4, 10, 36, 37, 38, 39, 40, 41] (by decide +kernel) (by decide +kernel)
set_option maxRecDepth 20000 in
theorem gX4_wouldGive_X4_find : GoodIn wsX4_wouldGive (wsV RX4 116 RX4 yX4_find wsX4_find) := goodIn_app (goodIn_of _ (by decide +kernel)) ggX4_wouldGive_X4_find
set_option maxRecDepth 20000 in
theorem ggX4_wouldGive_X4_isAccount : GoodIn wsX4_wouldGive wsX4_isAccount := goodIn_r _ [13, 8, 9, 4, 10] (by decide +kernel) (by decide +kernel)
set_option maxRecDepth 20000 in
theorem gX4_wouldGive_X4_isAccount : GoodIn wsX4_wouldGive (va_wsS RX4 73 yX4_isAccount wsX4_isAccount) := goodIn_app (goodIn_of _ (by decide +kernel)) ggX4_wouldGive_X4_isAccount
set_option maxRecDepth 20000 in
theorem ggX4_wouldGive_X4_refusalToShrink : GoodIn wsX4_wouldGive wsX4_refusalToShrink := goodIn_r _ [16, 8, 9, 4, 10, 30, 31, 32, 33, 34, 35] (by decide +kernel) (by decide +kernel)
set_option maxRecDepth 20000 in
theorem gX4_wouldGive_X4_refusalToShrink : GoodIn wsX4_wouldGive (va_wsS RX4 138 yX4_refusalToShrink wsX4_refusalToShrink) := goodIn_app (goodIn_of _ (by decide +kernel)) ggX4_wouldGive_X4_refusalToShrink
set_option maxRecDepth 20000 in
theorem ggX4_wouldGive_X2_worthTo : GoodIn wsX4_wouldGive wsX2_worthTo := goodIn_r _ [21, 22, 23, 24, 25, 26, 27, 28, 29, 42, 43, 44, 45] (by decide +kernel) (by decide +kernel)
set_option maxRecDepth 20000 in
theorem gX4_wouldGive_X2_worthTo : GoodIn wsX4_wouldGive (wsV RX4 185 RX2 yX2_worthTo wsX2_worthTo) := goodIn_app (goodIn_of _ (by decide +kernel)) ggX4_wouldGive_X2_worthTo
set_option maxRecDepth 20000 in
theorem ggX4_told_X4_countOf : GoodIn wsX4_told wsX4_countOf := goodIn_r _ [9, 2, 10, 27, 28, 29, 30, 31, 32, 44, 45, 46, 47, 48, 49] (by decide +kernel) (by decide +kernel)
set_option maxRecDepth 20000 in
theorem gX4_told_X4_countOf : GoodIn wsX4_told (wsV RX4 202 RX4 yX4_countOf wsX4_countOf) := goodIn_app (goodIn_of _ (by decide +kernel)) ggX4_told_X4_countOf
set_option maxRecDepth 20000 in
theorem ggX4_told_X4_liveSizes : GoodIn wsX4_told wsX4_liveSizes := goodIn_r _ [14, 2, 10, 27, 28, 29, 30, 31, 32, 44, 45, 46, 47, 48, 49] (by decide +kernel) (by decide +kernel)
set_option maxRecDepth 20000 in
theorem gX4_told_X4_liveSizes : GoodIn wsX4_told (wsV RX4 205 RX4 yX4_liveSizes wsX4_liveSizes) := goodIn_app (goodIn_of _ (by decide +kernel)) ggX4_told_X4_liveSizes
set_option maxRecDepth 20000 in
theorem ggX4_told_X3_allCoins : GoodIn wsX4_told wsX3_allCoins := goodIn_r _ [19, 20, 21, 22, 23, 24, 25, 18, 26, 33, 34, 35, 36, 37, 38] (by decide +kernel) (by decide +kernel)
set_option maxRecDepth 20000 in
theorem gX4_told_X3_allCoins : GoodIn wsX4_told (wsV RX4 214 RX3 yX3_allCoins wsX3_allCoins) := goodIn_app (goodIn_of _ (by decide +kernel)) ggX4_told_X3_allCoins
set_option maxRecDepth 20000 in
theorem ggX4_clear_X4_beginAnew : GoodIn wsX4_clear wsX4_beginAnew := goodIn_r _ [6, 7, 8, 9, 1, 10, 11, 12, 13, 14, 15, 16, 17, 18, 19, 20, 21, 22, 23, 24, 25, 26, 27, 28, 29, 30, 31, 32, 33, 34, 35, 36, 37, 38, 39, 40, 41, 42, 43, 44, 45, 46, 47, 48, 49, 50, 51, 52, 53, 54, 55, 56, 57, 58] (by decide +kernel) (by decide +kernel)
set_option maxRecDepth 20000 in
theorem gX4_clear_X4_beginAnew : GoodIn wsX4_clear (wsV RX4 33 RX4 yX4_beginAnew wsX4_beginAnew) := goodIn_app (goodIn_of _ (by decide +kernel)) ggX4_clear_X4_beginAnew
set_option maxRecDepth 20000 in
theorem ggX4_beginAnew_X0_reset : GoodIn wsX4_beginAnew wsX0_reset := goodIn_r _ [10, 11, 12, 13, 14, 9, 15, 16, 17, 18, 19, 43, 44, 45, 46, 47] (by decide +kernel) (by decide +kernel)
set_option maxRecDepth 20000 in
theorem gX4_beginAnew_X0_reset : GoodIn wsX4_beginAnew (wsV RX4 220 RX0 yX0_reset wsX0_reset) := goodIn_app (goodIn_of _ (by decide +kernel)) ggX4_beginAnew_X0_reset
set_option maxRecDepth 20000 in
theorem ggX4_beginAnew_X3_reset : GoodIn wsX4_beginAnew wsX3_reset := goodIn_r _ [24, 25, 26, 27, 28, 29, 30, 31, 32, 33, 34, 35, 48, 49, 50, 51, 52, 53] (by decide +kernel) (by decide +kernel)
set_option maxRecDepth 20000 in
theorem gX4_beginAnew_X3_reset : GoodIn wsX4_beginAnew (wsV RX4 223 RX3 yX3_reset wsX3_reset) := goodIn_app (goodIn_of _ (by decide +kernel)) ggX4_beginAnew_X3_reset
set_option maxRecDepth 20000 in
theorem ggX4_beginAnew_J7_fill_53178 : GoodIn wsX4_beginAnew wsJ7_fill_53178 := goodIn_r _ [35] (by decide +kernel) (by decide +kernel)
set_option maxRecDepth 20000 in
theorem gX4_beginAnew_J7_fill_53178 : GoodIn wsX4_beginAnew (va_wsS RX4 224 yJ7_fill_53178 wsJ7_fill_53178) := goodIn_app (goodIn_of _ (by decide +kernel)) ggX4_beginAnew_J7_fill_53178
set_option maxRecDepth 20000 in
theorem ggX4_isAccount_X4_within : GoodIn wsX4_isAccount wsX4_within := goodIn_r _ [4] (by decide +kernel) (by decide +kernel)
set_option maxRecDepth 20000 in
theorem gX4_isAccount_X4_within : GoodIn wsX4_isAccount (va_wsS RX4 37 yX4_within wsX4_within) := goodIn_app (goodIn_of _ (by decide +kernel)) ggX4_isAccount_X4_within
set_option maxRecDepth 20000 in
theorem ggX4_isNode_X4_within : GoodIn wsX4_isNode wsX4_within := goodIn_r _ [4] (by decide +kernel) (by decide +kernel)
set_option maxRecDepth 20000 in
theorem gX4_isNode_X4_within : GoodIn wsX4_isNode (va_wsS RX4 37 yX4_within wsX4_within) := goodIn_app (goodIn_of _ (by decide +kernel)) ggX4_isNode_X4_within
set_option maxRecDepth 20000 in
theorem ggX4_find_X4_within : GoodIn wsX4_find wsX4_within := goodIn_r _ [6] (by decide +kernel) (by decide +kernel)
set_option maxRecDepth 20000 in
theorem gX4_find_X4_within : GoodIn wsX4_find (va_wsS RX4 37 yX4_within wsX4_within) := goodIn_app (goodIn_of _ (by decide +kernel)) ggX4_find_X4_within
set_option maxRecDepth 20000 in
theorem ggX4_freshItem_X1_init : GoodIn wsX4_freshItem wsX1_init := goodIn_r _ [7, 8, 9, 10, 11, 12, 13, 14, 15, 16, 17, 18, 19, 20, 21, 22, 29, 30, 31, 32, 33, 34, 35, 36, 37, 38] (by decide +kernel) (by decide +kernel)
set_option maxRecDepth 20000 in
theorem gX4_freshItem_X1_init_n230 : GoodIn wsX4_freshItem (wsX1_init) := ggX4_freshItem_X1_init
set_option maxRecDepth 20000 in
theorem ggX4_chargedSize_X0_leastOn : GoodIn wsX4_chargedSize wsX0_leastOn := goodIn_r _ [11, 12, 13, 14, 15, 10, 16, 17, 18, 25, 26, 27, 28, 29] (by decide +kernel) (by decide +kernel)
set_option maxRecDepth 20000 in
theorem gX4_chargedSize_X0_leastOn : GoodIn wsX4_chargedSize (wsV RX4 67 RX0 yX0_leastOn wsX0_leastOn) := goodIn_app (goodIn_of _ (by decide +kernel)) ggX4_chargedSize_X0_leastOn
set_option maxRecDepth 20000 in
theorem ggX4_rentOf_X0_rentOn : GoodIn wsX4_rentOf wsX0_rentOn := goodIn_r _ [7, 8, 9, 10, 11, 6, 12, 13, 14, 21, 22, 23, 24, 25] (by decide +kernel) (by decide +kernel)
set_option maxRecDepth 20000 in
theorem gX4_rentOf_X0_rentOn : GoodIn wsX4_rentOf (wsV RX4 64 RX0 yX0_rentOn wsX0_rentOn) := goodIn_app (goodIn_of _ (by decide +kernel)) ggX4_rentOf_X0_rentOn
set_option maxRecDepth 20000 in
theorem ggX4_capsAllow_X4_liveSizes : GoodIn wsX4_capsAllow wsX4_liveSizes := goodIn_r _ [6, 7, 8, 9, 10, 11, 12, 13, 14, 15, 16, 17, 18, 19, 20] (by decide +kernel) (by decide +kernel)
set_option maxRecDepth 20000 in
theorem gX4_capsAllow_X4_liveSizes : GoodIn wsX4_capsAllow (wsV RX4 205 RX4 yX4_liveSizes wsX4_liveSizes) := goodIn_app (goodIn_of _ (by decide +kernel)) ggX4_capsAllow_X4_liveSizes
set_option maxRecDepth 20000 in
theorem ggX4_refusalToShrink_X4_within : GoodIn wsX4_refusalToShrink wsX4_within := goodIn_r _ [4] (by decide +kernel) (by decide +kernel)
set_option maxRecDepth 20000 in
theorem gX4_refusalToShrink_X4_within : GoodIn wsX4_refusalToShrink (va_wsS RX4 37 yX4_within wsX4_within) := goodIn_app (goodIn_of _ (by decide +kernel)) ggX4_refusalToShrink_X4_within
set_option maxRecDepth 20000 in
theorem ggX4_giveBack_X2_worthTo : GoodIn wsX4_giveBack wsX2_worthTo := goodIn_r _ [6, 7, 8, 9, 10, 11, 12, 13, 14, 38, 39, 40, 41] (by decide +kernel) (by decide +kernel)
set_option maxRecDepth 20000 in
theorem gX4_giveBack_X2_worthTo : GoodIn wsX4_giveBack (wsV RX4 185 RX2 yX2_worthTo wsX2_worthTo) := goodIn_app (goodIn_of _ (by decide +kernel)) ggX4_giveBack_X2_worthTo
set_option maxRecDepth 20000 in
theorem ggX4_giveBack_X3_giveTo : GoodIn wsX4_giveBack wsX3_giveTo := goodIn_r _ [19, 20, 21, 42, 43, 44, 45, 46, 47] (by decide +kernel) (by decide +kernel)
set_option maxRecDepth 20000 in
theorem gX4_giveBack_X3_giveTo : GoodIn wsX4_giveBack (wsV RX4 236 RX3 yX3_giveTo wsX3_giveTo) := goodIn_app (goodIn_of _ (by decide +kernel)) ggX4_giveBack_X3_giveTo
set_option maxRecDepth 20000 in
theorem ggX4_giveBack_X2_remove : GoodIn wsX4_giveBack wsX2_remove := goodIn_r _ [25, 7, 8, 9, 10, 11, 12, 38, 39, 40, 41] (by decide +kernel) (by decide +kernel)
set_option maxRecDepth 20000 in
theorem gX4_giveBack_X2_remove : GoodIn wsX4_giveBack (wsV RX4 239 RX2 yX2_remove wsX2_remove) := goodIn_app (goodIn_of _ (by decide +kernel)) ggX4_giveBack_X2_remove
