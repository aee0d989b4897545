set_option maxRecDepth 20000 in
theorem ggX7_init_X7_begins : GoodIn wsX7_init wsX7_begins := goodIn_r _ [19, 20, 21, 22, 18, 23, 5, 24, 25, 26, 27, 28, 29, 30, 31, 32, 33, 34, 35, 36, 37, 38, 39, 40, 41, 42, 43, 44, 45, 46, 47, 48, 49, 50, 51, 52, 53, 54] rfl (by decide +kernel)
set_option maxRecDepth 20000 in
theorem gX7_init_X7_begins : GoodIn wsX7_init (wsV RX7 41 RX7 yX7_begins wsX7_begins) := goodIn_app (goodIn_of _ (by decide +kernel)) ggX7_init_X7_begins
set_option maxRecDepth 20000 in
theorem ggX7_of_X7_get : GoodIn wsX7_of wsX7_get := goodIn_r _ [5, 6, 7, 8, 9, 10, 11, 12, 13, 14, 15, 16, 17, 18, 19, 20, 21, 22, 23, 24, 25, 26, 27, 28, 29, 30, 31, 32, 33] rfl (by decide +kernel)
set_option maxRecDepth 20000 in
theorem gX7_of_X7_get : GoodIn wsX7_of (wsV RX7 50 RX7 yX7_get wsX7_get) := goodIn_app (goodIn_of _ (by decide +kernel)) ggX7_of_X7_get
set_option maxRecDepth 20000 in
theorem ggX7_puts_X7_put : GoodIn wsX7_puts wsX7_put := goodIn_r _ [5, 6, 7, 8, 9, 10, 11, 12, 13, 14, 15, 16, 17, 18, 19, 20, 21, 22, 23, 24, 25, 26, 27, 28, 29, 30, 31, 32, 33] rfl (by decide +kernel)
set_option maxRecDepth 20000 in
theorem gX7_puts_X7_put : GoodIn wsX7_puts (wsV RX7 54 RX7 yX7_put wsX7_put) := goodIn_app (goodIn_of _ (by decide +kernel)) ggX7_puts_X7_put
set_option maxRecDepth 20000 in
theorem ggX7_change_X7_get : GoodIn wsX7_change wsX7_get := goodIn_r _ [8, 2, 1, 9, 10, 11, 12, 13, 14, 15, 16, 17, 18, 19, 20, 21, 22, 23, 24, 25, 26, 27, 28, 29, 30, 31, 32, 33, 34] rfl (by decide +kernel)
set_option maxRecDepth 20000 in
theorem gX7_change_X7_get : GoodIn wsX7_change (wsV RX7 50 RX7 yX7_get wsX7_get) := goodIn_app (goodIn_of _ (by decide +kernel)) ggX7_change_X7_get
set_option maxRecDepth 20000 in
theorem ggX7_begins_X7_put : GoodIn wsX7_begins wsX7_put := goodIn_r _ [5, 6, 7, 12, 13, 14, 15, 16, 17, 18, 19, 20, 21, 22, 23, 24, 25, 26, 27, 28, 29, 30, 31, 32, 33, 34, 35, 36, 37] rfl (by decide +kernel)
set_option maxRecDepth 20000 in
theorem gX7_begins_X7_put : GoodIn wsX7_begins (wsV RX7 54 RX7 yX7_put wsX7_put) := goodIn_app (goodIn_of _ (by decide +kernel)) ggX7_begins_X7_put
set_option maxRecDepth 20000 in
theorem ggX7_begins_X7_puts : GoodIn wsX7_begins wsX7_puts := goodIn_r _ [11, 1, 2, 3, 4, 5, 6, 7, 12, 13, 14, 15, 16, 17, 18, 19, 20, 21, 22, 23, 24, 25, 26, 27, 28, 29, 30, 31, 32, 33, 34, 35, 36, 37] rfl (by decide +kernel)
set_option maxRecDepth 20000 in
theorem gX7_begins_X7_puts : GoodIn wsX7_begins (wsV RX7 61 RX7 yX7_puts wsX7_puts) := goodIn_app (goodIn_of _ (by decide +kernel)) ggX7_begins_X7_puts
set_option maxRecDepth 20000 in
theorem ggX7_versions_X7_get : GoodIn wsX7_versions wsX7_get := goodIn_r _ [5, 6, 7, 8, 9, 10, 11, 12, 13, 14, 15, 16, 17, 18, 19, 20, 21, 22, 23, 24, 25, 26, 27, 28, 29, 30, 31, 32, 33] rfl (by decide +kernel)
set_option maxRecDepth 20000 in
theorem gX7_versions_X7_get : GoodIn wsX7_versions (wsV RX7 50 RX7 yX7_get wsX7_get) := goodIn_app (goodIn_of _ (by decide +kernel)) ggX7_versions_X7_get
set_option maxRecDepth 20000 in
theorem ggX7_isVersion_X7_versions : GoodIn wsX7_isVersion wsX7_versions := goodIn_r _ [5, 6, 7, 8, 4, 9, 10, 11, 15, 16, 17, 18, 19, 20, 21, 22, 23, 24, 25, 26, 27, 28, 29, 30, 31, 32, 33, 34, 35, 36, 37, 38, 39, 40] rfl (by decide +kernel)
set_option maxRecDepth 20000 in
theorem gX7_isVersion_X7_versions : GoodIn wsX7_isVersion (wsV RX7 65 RX7 yX7_versions wsX7_versions) := goodIn_app (goodIn_of _ (by decide +kernel)) ggX7_isVersion_X7_versions
set_option maxRecDepth 20000 in
theorem ggX7_isVersion_X7_isIn : GoodIn wsX7_isVersion wsX7_isIn := goodIn_r _ [14] rfl (by decide +kernel)
set_option maxRecDepth 20000 in
theorem gX7_isVersion_X7_isIn : GoodIn wsX7_isVersion (va_wsS RX7 69 yX7_isIn wsX7_isIn) := goodIn_app (goodIn_of _ (by decide +kernel)) ggX7_isVersion_X7_isIn
set_option maxRecDepth 20000 in
theorem ggX7_isStep_X7_takes : GoodIn wsX7_isStep wsX7_takes := goodIn_r _ [8, 2, 9, 14, 15, 16, 17, 18, 19, 20, 21, 22, 23, 24, 25, 26, 27, 28, 29, 30, 31, 32, 33, 34, 35, 36, 37, 38, 39] rfl (by decide +kernel)
set_option maxRecDepth 20000 in
theorem gX7_isStep_X7_takes : GoodIn wsX7_isStep (wsV RX7 88 RX7 yX7_takes wsX7_takes) := goodIn_app (goodIn_of _ (by decide +kernel)) ggX7_isStep_X7_takes
set_option maxRecDepth 20000 in
theorem ggX7_isStep_X7_ahead : GoodIn wsX7_isStep wsX7_ahead := goodIn_r _ [13, 9, 2, 14, 15, 16, 17, 18, 19, 20, 21, 22, 23, 24, 25, 26, 27, 28, 29, 30, 31, 32, 33, 34, 35, 36, 37, 38, 39] rfl (by decide +kernel)
set_option maxRecDepth 20000 in
theorem gX7_isStep_X7_ahead : GoodIn wsX7_isStep (wsV RX7 91 RX7 yX7_ahead wsX7_ahead) := goodIn_app (goodIn_of _ (by decide +kernel)) ggX7_isStep_X7_ahead
set_option maxRecDepth 20000 in
theorem ggX7_settles_X7_becomes : GoodIn wsX7_settles wsX7_becomes := goodIn_r _ [11, 5, 12, 25, 26, 27, 28, 29, 30, 31, 32, 33, 34, 35, 36, 37, 38, 39, 40, 41, 42, 43, 44, 45, 46, 47, 48, 49, 50] rfl (by decide +kernel)
set_option maxRecDepth 20000 in
theorem gX7_settles_X7_becomes : GoodIn wsX7_settles (wsV RX7 94 RX7 yX7_becomes wsX7_becomes) := goodIn_app (goodIn_of _ (by decide +kernel)) ggX7_settles_X7_becomes
set_option maxRecDepth 20000 in
theorem ggX7_settles_X7_isStep : GoodIn wsX7_settles wsX7_isStep := goodIn_r _ [16, 3, 5, 4, 17, 18, 19, 10, 20, 12, 21, 22, 23, 24, 25, 26, 27, 28, 29, 30, 31, 32, 33, 34, 35, 36, 37, 38, 39, 40, 41, 42, 43, 44, 45, 46, 47, 48, 49, 50] rfl (by decide +kernel)
set_option maxRecDepth 20000 in
theorem gX7_settles_X7_isStep : GoodIn wsX7_settles (wsV RX7 97 RX7 yX7_isStep wsX7_isStep) := goodIn_app (goodIn_of _ (by decide +kernel)) ggX7_settles_X7_isStep
set_option maxRecDepth 20000 in
theorem ggX7_pushes_X7_ahead : GoodIn wsX7_pushes wsX7_ahead := goodIn_r _ [6, 7, 8, 29, 30, 31, 32, 33, 34, 35, 36, 37, 38, 39, 40, 41, 42, 43, 44, 45, 46, 47, 48, 49, 50, 51, 52, 53, 54] rfl (by decide +kernel)
set_option maxRecDepth 20000 in
theorem gX7_pushes_X7_ahead : GoodIn wsX7_pushes (wsV RX7 91 RX7 yX7_ahead wsX7_ahead) := goodIn_app (goodIn_of _ (by decide +kernel)) ggX7_pushes_X7_ahead
set_option maxRecDepth 20000 in
theorem ggX7_pushes_X7_settles : GoodIn wsX7_pushes wsX7_settles := goodIn_r _ [12, 1, 13, 14, 15, 8, 16, 17, 18, 19, 5, 20, 7, 21, 22, 23, 24, 25, 26, 27, 28, 2, 3, 4, 6, 29, 30, 31, 32, 33, 34, 35, 36, 37, 38, 39, 40, 41, 42, 43, 44, 45, 46, 47, 48, 49, 50, 51, 52, 53, 54] rfl (by decide +kernel)
set_option maxRecDepth 20000 in
theorem gX7_pushes_X7_settles : GoodIn wsX7_pushes (wsV RX7 101 RX7 yX7_settles wsX7_settles) := goodIn_app (goodIn_of _ (by decide +kernel)) ggX7_pushes_X7_settles
set_option maxRecDepth 20000 in
theorem ggX7_pops_X7_takes : GoodIn wsX7_pops wsX7_takes := goodIn_r _ [9, 4, 10, 29, 30, 31, 32, 33, 34, 35, 36, 37, 38, 39, 40, 41, 42, 43, 44, 45, 46, 47, 48, 49, 50, 51, 52, 53, 54] rfl (by decide +kernel)
set_option maxRecDepth 20000 in
theorem gX7_pops_X7_takes : GoodIn wsX7_pops (wsV RX7 88 RX7 yX7_takes wsX7_takes) := goodIn_app (goodIn_of _ (by decide +kernel)) ggX7_pops_X7_takes
set_option maxRecDepth 20000 in
theorem ggX7_pops_X7_settles : GoodIn wsX7_pops wsX7_settles := goodIn_r _ [14, 15, 1, 2, 3, 4, 16, 17, 18, 19, 8, 20, 10, 21, 22, 23, 24, 5, 6, 7, 9, 25, 26, 27, 28, 29, 30, 31, 32, 33, 34, 35, 36, 37, 38, 39, 40, 41, 42, 43, 44, 45, 46, 47, 48, 49, 50, 51, 52, 53, 54] rfl (by decide +kernel)
set_option maxRecDepth 20000 in
theorem gX7_pops_X7_settles : GoodIn wsX7_pops (wsV RX7 101 RX7 yX7_settles wsX7_settles) := goodIn_app (goodIn_of _ (by decide +kernel)) ggX7_pops_X7_settles
set_option maxRecDepth 20000 in
theorem ggX7_laysWay_X7_of : GoodIn wsX7_laysWay wsX7_of := goodIn_r _ [7, 8, 9, 10, 6, 11, 12, 13, 14, 15, 16, 17, 18, 19, 20, 21, 22, 23, 24, 25, 26, 27, 28, 29, 30, 31, 32, 33, 34, 35, 36, 37, 38, 39] rfl (by decide +kernel)
set_option maxRecDepth 20000 in
theorem gX7_laysWay_X7_of : GoodIn wsX7_laysWay (wsV RX7 105 RX7 yX7_of wsX7_of) := goodIn_app (goodIn_of _ (by decide +kernel)) ggX7_laysWay_X7_of
set_option maxRecDepth 20000 in
theorem ggX7_lays_X7_laysWay : GoodIn wsX7_lays wsX7_laysWay := goodIn_r _ [7, 1, 2, 8, 9, 10, 6, 11, 12, 13, 14, 15, 16, 17, 57, 58, 59, 60, 61, 62, 63, 64, 65, 66, 67, 68, 69, 70, 71, 72, 73, 74, 75, 76, 77, 78, 79, 80, 81, 82] rfl (by decide +kernel)
set_option maxRecDepth 20000 in
theorem gX7_lays_X7_laysWay : GoodIn wsX7_lays (wsV RX7 112 RX7 yX7_laysWay wsX7_laysWay) := goodIn_app (goodIn_of _ (by decide +kernel)) ggX7_lays_X7_laysWay
set_option maxRecDepth 20000 in
theorem ggX7_lays_X7_laysEmpty : GoodIn wsX7_lays wsX7_laysEmpty := goodIn_r _ [21, 22, 23, 24, 25, 26, 27, 57, 58, 59, 60, 61, 62, 63, 64, 65, 66, 67, 68, 69, 70, 71, 72, 73, 74, 75, 76, 77, 78, 79, 80, 81, 82] rfl (by decide +kernel)
set_option maxRecDepth 20000 in
theorem gX7_lays_X7_laysEmpty : GoodIn wsX7_lays (wsV RX7 115 RX7 yX7_laysEmpty wsX7_laysEmpty) := goodIn_app (goodIn_of _ (by decide +kernel)) ggX7_lays_X7_laysEmpty
set_option maxRecDepth 20000 in
theorem ggX7_lays_X7_of : GoodIn wsX7_lays wsX7_of := goodIn_r _ [11, 12, 13, 14, 6, 15, 16, 17, 57, 58, 59, 60, 61, 62, 63, 64, 65, 66, 67, 68, 69, 70, 71, 72, 73, 74, 75, 76, 77, 78, 79, 80, 81, 82] rfl (by decide +kernel)
set_option maxRecDepth 20000 in
theorem gX7_lays_X7_of : GoodIn wsX7_lays (wsV RX7 105 RX7 yX7_of wsX7_of) := goodIn_app (goodIn_of _ (by decide +kernel)) ggX7_lays_X7_of
set_option maxRecDepth 20000 in
theorem ggX7_lays_X7_pops : GoodIn wsX7_lays wsX7_pops := goodIn_r _ [31, 23, 25, 26, 22, 32, 33, 34, 6, 35, 36, 37, 38, 39, 40, 24, 27, 41, 42, 43, 44, 45, 46, 47, 48, 49, 50, 51, 52, 57, 58, 59, 60, 61, 62, 63, 64, 65, 66, 67, 68, 69, 70, 71, 72, 73, 74, 75, 76, 77, 78, 79, 80, 81, 82] rfl (by decide +kernel)
set_option maxRecDepth 20000 in
theorem gX7_lays_X7_pops : GoodIn wsX7_lays (wsV RX7 118 RX7 yX7_pops wsX7_pops) := goodIn_app (goodIn_of _ (by decide +kernel)) ggX7_lays_X7_pops
set_option maxRecDepth 20000 in
theorem ggX7_lays_X7_pushes : GoodIn wsX7_lays wsX7_pushes := goodIn_r _ [56, 24, 49, 50, 51, 6, 52, 36, 22, 37, 38, 39, 40, 23, 25, 26, 27, 41, 42, 43, 44, 45, 46, 47, 48, 32, 33, 34, 35, 57, 58, 59, 60, 61, 62, 63, 64, 65, 66, 67, 68, 69, 70, 71, 72, 73, 74, 75, 76, 77, 78, 79, 80, 81, 82] rfl (by decide +kernel)
set_option maxRecDepth 20000 in
theorem gX7_lays_X7_pushes : GoodIn wsX7_lays (wsV RX7 121 RX7 yX7_pushes wsX7_pushes) := goodIn_app (goodIn_of _ (by decide +kernel)) ggX7_lays_X7_pushes
set_option maxRecDepth 20000 in
theorem ggX7_laysValues_X7_laysWay : GoodIn wsX7_laysValues wsX7_laysWay := goodIn_r _ [7, 1, 2, 8, 9, 10, 6, 11, 12, 13, 14, 15, 16, 17, 18, 19, 20, 21, 22, 23, 24, 25, 26, 27, 28, 29, 30, 31, 32, 33, 34, 35, 36, 37, 38, 39, 40, 41, 42, 43] rfl (by decide +kernel)
set_option maxRecDepth 20000 in
theorem gX7_laysValues_X7_laysWay : GoodIn wsX7_laysValues (wsV RX7 112 RX7 yX7_laysWay wsX7_laysWay) := goodIn_app (goodIn_of _ (by decide +kernel)) ggX7_laysValues_X7_laysWay
set_option maxRecDepth 20000 in
theorem ggX7_laysValues_X7_of : GoodIn wsX7_laysValues wsX7_of := goodIn_r _ [11, 12, 13, 14, 6, 15, 16, 17, 18, 19, 20, 21, 22, 23, 24, 25, 26, 27, 28, 29, 30, 31, 32, 33, 34, 35, 36, 37, 38, 39, 40, 41, 42, 43] rfl (by decide +kernel)
set_option maxRecDepth 20000 in
theorem gX7_laysValues_X7_of : GoodIn wsX7_laysValues (wsV RX7 105 RX7 yX7_of wsX7_of) := goodIn_app (goodIn_of _ (by decide +kernel)) ggX7_laysValues_X7_of
set_option maxRecDepth 20000 in
theorem ggX7_length_X7_laysValues : GoodIn wsX7_length wsX7_laysValues := goodIn_r _ [6, 7, 8, 9, 10, 11, 5, 12, 13, 14, 15, 16, 17, 18, 19, 20, 21, 22, 23, 24, 25, 26, 27, 28, 29, 30, 31, 32, 33, 34, 35, 36, 37, 38, 39, 40, 41, 42, 43, 44, 45, 46, 47, 48] rfl (by decide +kernel)
set_option maxRecDepth 20000 in
theorem gX7_length_X7_laysValues : GoodIn wsX7_length (wsV RX7 124 RX7 yX7_laysValues wsX7_laysValues) := goodIn_app (goodIn_of _ (by decide +kernel)) ggX7_length_X7_laysValues
set_option maxRecDepth 20000 in
theorem ggX7_isGap_X7_length : GoodIn wsX7_isGap wsX7_length := goodIn_r _ [7, 2, 8, 9, 10, 6, 11, 12, 13, 14, 15, 16, 17, 18, 19, 20, 21, 22, 23, 24, 25, 26, 27, 75, 76, 77, 78, 79, 80, 81, 82, 83, 84, 85, 86, 87, 88, 89, 90, 91, 92, 93, 94, 95, 96, 97, 98, 99, 100] rfl (by decide +kernel)
set_option maxRecDepth 20000 in
theorem gX7_isGap_X7_length : GoodIn wsX7_isGap (wsV RX7 128 RX7 yX7_length wsX7_length) := goodIn_app (goodIn_of _ (by decide +kernel)) ggX7_isGap_X7_length
set_option maxRecDepth 20000 in
theorem ggX7_isGap_X7_lays : GoodIn wsX7_isGap wsX7_lays := goodIn_r _ [31, 12, 13, 14, 15, 16, 6, 17, 18, 19, 20, 21, 22, 23, 24, 25, 26, 27, 32, 33, 34, 35, 36, 37, 38, 39, 40, 41, 42, 43, 44, 45, 46, 47, 48, 49, 50, 51, 52, 53, 54, 55, 56, 57, 58, 59, 60, 61, 62, 63, 64, 65, 66, 67, 68, 69, 70, 75, 76, 77, 78, 79, 80, 81, 82, 83, 84, 85, 86, 87, 88, 89, 90, 91, 92, 93, 94, 95, 96, 97, 98, 99, 100] rfl (by decide +kernel)
set_option maxRecDepth 20000 in
theorem gX7_isGap_X7_lays : GoodIn wsX7_isGap (wsV RX7 131 RX7 yX7_lays wsX7_lays) := goodIn_app (goodIn_of _ (by decide +kernel)) ggX7_isGap_X7_lays
set_option maxRecDepth 20000 in
theorem ggX7_isGap_X7_laysListed : GoodIn wsX7_isGap wsX7_laysListed := goodIn_r _ [74, 39, 40, 36, 1, 50, 75, 76, 77, 78, 79, 80, 81, 82, 83, 84, 85, 86, 87, 88, 89, 90, 91, 92, 93, 94, 95, 96, 97, 98, 99, 100] rfl (by decide +kernel)
set_option maxRecDepth 20000 in
theorem gX7_isGap_X7_laysListed : GoodIn wsX7_isGap (wsV RX7 134 RX7 yX7_laysListed wsX7_laysListed) := goodIn_app (goodIn_of _ (by decide +kernel)) ggX7_isGap_X7_laysListed
set_option maxRecDepth 20000 in
theorem ggX7_makes_X7_versions : GoodIn wsX7_makes wsX7_versions := goodIn_r _ [6, 7, 8, 9, 5, 10, 11, 12, 73, 74, 75, 76, 77, 78, 79, 80, 81, 82, 83, 84, 85, 86, 87, 88, 89, 90, 91, 92, 93, 94, 95, 96, 97, 98] rfl (by decide +kernel)
set_option maxRecDepth 20000 in
theorem gX7_makes_X7_versions : GoodIn wsX7_makes (wsV RX7 65 RX7 yX7_versions wsX7_versions) := goodIn_app (goodIn_of _ (by decide +kernel)) ggX7_makes_X7_versions
set_option maxRecDepth 20000 in
theorem ggX7_makes_X7_puts : GoodIn wsX7_makes wsX7_puts := goodIn_r _ [16, 17, 18, 19, 5, 20, 11, 12, 73, 74, 75, 76, 77, 78, 79, 80, 81, 82, 83, 84, 85, 86, 87, 88, 89, 90, 91, 92, 93, 94, 95, 96, 97, 98] rfl (by decide +kernel)
set_option maxRecDepth 20000 in
theorem gX7_makes_X7_puts : GoodIn wsX7_makes (wsV RX7 61 RX7 yX7_puts wsX7_puts) := goodIn_app (goodIn_of _ (by decide +kernel)) ggX7_makes_X7_puts
set_option maxRecDepth 20000 in
theorem ggX7_makes_X7_get : GoodIn wsX7_makes wsX7_get := goodIn_r _ [10, 11, 12, 73, 74, 75, 76, 77, 78, 79, 80, 81, 82, 83, 84, 85, 86, 87, 88, 89, 90, 91, 92, 93, 94, 95, 96, 97, 98] rfl (by decide +kernel)
set_option maxRecDepth 20000 in
theorem gX7_makes_X7_get : GoodIn wsX7_makes (wsV RX7 50 RX7 yX7_get wsX7_get) := goodIn_app (goodIn_of _ (by decide +kernel)) ggX7_makes_X7_get
set_option maxRecDepth 20000 in
theorem ggX7_makes_X7_of : GoodIn wsX7_makes wsX7_of := goodIn_r _ [24, 7, 8, 9, 5, 10, 11, 12, 73, 74, 75, 76, 77, 78, 79, 80, 81, 82, 83, 84, 85, 86, 87, 88, 89, 90, 91, 92, 93, 94, 95, 96, 97, 98] rfl (by decide +kernel)
set_option maxRecDepth 20000 in
theorem gX7_makes_X7_of : GoodIn wsX7_makes (wsV RX7 105 RX7 yX7_of wsX7_of) := goodIn_app (goodIn_of _ (by decide +kernel)) ggX7_makes_X7_of
set_option maxRecDepth 20000 in
theorem ggX7_makes_X7_put : GoodIn wsX7_makes wsX7_put := goodIn_r _ [20, 11, 12, 73, 74, 75, 76, 77, 78, 79, 80, 81, 82, 83, 84, 85, 86, 87, 88, 89, 90, 91, 92, 93, 94, 95, 96, 97, 98] rfl (by decide +kernel)
set_option maxRecDepth 20000 in
theorem gX7_makes_X7_put : GoodIn wsX7_makes (wsV RX7 54 RX7 yX7_put wsX7_put) := goodIn_app (goodIn_of _ (by decide +kernel)) ggX7_makes_X7_put
set_option maxRecDepth 20000 in
theorem ggX7_makes_X7_lays : GoodIn wsX7_makes wsX7_lays := goodIn_r _ [28, 29, 30, 31, 32, 33, 5, 34, 21, 22, 23, 24, 7, 8, 9, 10, 11, 12, 35, 36, 37, 38, 39, 40, 41, 42, 43, 1, 44, 45, 46, 47, 48, 49, 50, 51, 52, 53, 54, 55, 56, 57, 58, 59, 60, 61, 62, 63, 64, 65, 66, 67, 68, 69, 70, 71, 72, 73, 74, 75, 76, 77, 78, 79, 80, 81, 82, 83, 84, 85, 86, 87, 88, 89, 90, 91, 92, 93, 94, 95, 96, 97, 98] rfl (by decide +kernel)
set_option maxRecDepth 20000 in
theorem gX7_makes_X7_lays : GoodIn wsX7_makes (wsV RX7 131 RX7 yX7_lays wsX7_lays) := goodIn_app (goodIn_of _ (by decide +kernel)) ggX7_makes_X7_lays
set_option maxRecDepth 20000 in
theorem ggX7_children_X7_versions : GoodIn wsX7_children wsX7_versions := goodIn_r _ [5, 6, 7, 8, 4, 9, 10, 11, 16, 17, 18, 19, 20, 21, 22, 23, 24, 25, 26, 27, 28, 29, 30, 31, 32, 33, 34, 35, 36, 37, 38, 39, 40, 41] rfl (by decide +kernel)
set_option maxRecDepth 20000 in
theorem gX7_children_X7_versions : GoodIn wsX7_children (wsV RX7 65 RX7 yX7_versions wsX7_versions) := goodIn_app (goodIn_of _ (by decide +kernel)) ggX7_children_X7_versions
set_option maxRecDepth 20000 in
theorem ggX7_children_X7_of : GoodIn wsX7_children wsX7_of := goodIn_r _ [15, 6, 7, 8, 4, 9, 10, 11, 16, 17, 18, 19, 20, 21, 22, 23, 24, 25, 26, 27, 28, 29, 30, 31, 32, 33, 34, 35, 36, 37, 38, 39, 40, 41] rfl (by decide +kernel)
set_option maxRecDepth 20000 in
theorem gX7_children_X7_of : GoodIn wsX7_children (wsV RX7 105 RX7 yX7_of wsX7_of) := goodIn_app (goodIn_of _ (by decide +kernel)) ggX7_children_X7_of
set_option maxRecDepth 20000 in
theorem ggX7_append_X7_four : GoodIn wsX7_append wsX7_four := goodIn_r _ [7, 8, 2, 9, 10, 11, 12, 13, 14, 15, 16, 17, 18, 19, 20, 21, 22, 23, 24, 25, 26, 27, 28, 29, 30, 31, 32, 33, 34] rfl (by decide +kernel)
set_option maxRecDepth 20000 in
theorem gX7_append_X7_four : GoodIn wsX7_append (wsV RX7 140 RX7 yX7_four wsX7_four) := goodIn_app (goodIn_of _ (by decide +kernel)) ggX7_append_X7_four
set_option maxRecDepth 20000 in
theorem ggX7_passes_X7_here : GoodIn wsX7_passes wsX7_here := goodIn_r _ [8, 1, 2, 3, 61, 62, 63, 64, 65, 66, 67, 68, 69, 70, 71, 72, 73, 74, 75, 76, 77, 78, 79, 80, 81, 82, 83, 84, 85, 86] rfl (by decide +kernel)
set_option maxRecDepth 20000 in
theorem gX7_passes_X7_here : GoodIn wsX7_passes (wsV RX7 151 RX7 yX7_here wsX7_here) := goodIn_app (goodIn_of _ (by decide +kernel)) ggX7_passes_X7_here
set_option maxRecDepth 20000 in
theorem ggX7_passes_X7_isSmall : GoodIn wsX7_passes wsX7_isSmall := goodIn_r _ [11] rfl (by decide +kernel)
set_option maxRecDepth 20000 in
theorem gX7_passes_X7_isSmall : GoodIn wsX7_passes (va_wsS RX7 154 yX7_isSmall wsX7_isSmall) := goodIn_app (goodIn_of _ (by decide +kernel)) ggX7_passes_X7_isSmall
set_option maxRecDepth 20000 in
theorem ggX7_passes_J0_length_8abf5 : GoodIn wsX7_passes wsJ0_length_8abf5 := goodIn_r _ [16, 17, 18, 19, 20, 15, 21, 22, 23] rfl (by decide +kernel)
set_option maxRecDepth 20000 in
theorem gX7_passes_J0_length_8abf5 : GoodIn wsX7_passes (wsV RX7 158 RJ0 yJ0_length_8abf5 wsJ0_length_8abf5) := goodIn_app (goodIn_of _ (by decide +kernel)) ggX7_passes_J0_length_8abf5
set_option maxRecDepth 20000 in
theorem ggX7_passes_J0_charAt_5068e : GoodIn wsX7_passes wsJ0_charAt_5068e := goodIn_r _ [27, 17, 28, 29, 30, 15, 31, 22, 23, 32, 33, 34, 35, 36, 37, 38, 39, 40, 41, 42, 43, 44, 45, 46, 47, 48, 49, 50, 51, 52, 53, 54, 55, 56, 57, 58, 59, 60] rfl (by decide +kernel)
set_option maxRecDepth 20000 in
theorem gX7_passes_J0_charAt_5068e : GoodIn wsX7_passes (wsV RX7 162 RJ0 yJ0_charAt_5068e wsJ0_charAt_5068e) := goodIn_app (goodIn_of _ (by decide +kernel)) ggX7_passes_J0_charAt_5068e
set_option maxRecDepth 20000 in
theorem ggX7_sign_X7_here : GoodIn wsX7_sign wsX7_here := goodIn_r _ [6, 1, 7, 8, 15, 16, 17, 18, 19, 20, 21, 22, 23, 24, 25, 26, 27, 28, 29, 30, 31, 32, 33, 34, 35, 36, 37, 38, 39, 40] rfl (by decide +kernel)
set_option maxRecDepth 20000 in
theorem gX7_sign_X7_here : GoodIn wsX7_sign (wsV RX7 151 RX7 yX7_here wsX7_here) := goodIn_app (goodIn_of _ (by decide +kernel)) ggX7_sign_X7_here
set_option maxRecDepth 20000 in
theorem ggX7_sign_X7_fails : GoodIn wsX7_sign wsX7_fails := goodIn_r _ [12, 13, 14, 15, 16, 17, 18, 19, 20, 21, 22, 23, 24, 25, 26, 27, 28, 29, 30, 31, 32, 33, 34, 35, 36, 37, 38, 39, 40] rfl (by decide +kernel)
set_option maxRecDepth 20000 in
theorem gX7_sign_X7_fails : GoodIn wsX7_sign (wsV RX7 166 RX7 yX7_fails wsX7_fails) := goodIn_app (goodIn_of _ (by decide +kernel)) ggX7_sign_X7_fails
set_option maxRecDepth 20000 in
theorem ggX7_reads_X7_here : GoodIn wsX7_reads wsX7_here := goodIn_r _ [11, 1, 4, 5, 24, 25, 26, 27, 28, 29, 30, 31, 32, 33, 34, 35, 36, 37, 38, 39, 40, 41, 42, 43, 44, 45, 46, 47, 48, 49] rfl (by decide +kernel)
set_option maxRecDepth 20000 in
theorem gX7_reads_X7_here : GoodIn wsX7_reads (wsV RX7 151 RX7 yX7_here wsX7_here) := goodIn_app (goodIn_of _ (by decide +kernel)) ggX7_reads_X7_here
set_option maxRecDepth 20000 in
theorem ggX7_reads_X7_isDigit : GoodIn wsX7_reads wsX7_isDigit := goodIn_r _ [14] rfl (by decide +kernel)
set_option maxRecDepth 20000 in
theorem gX7_reads_X7_isDigit : GoodIn wsX7_reads (va_wsS RX7 170 yX7_isDigit wsX7_isDigit) := goodIn_app (goodIn_of _ (by decide +kernel)) ggX7_reads_X7_isDigit
set_option maxRecDepth 20000 in
theorem ggX7_reads_X7_fails : GoodIn wsX7_reads wsX7_fails := goodIn_r _ [18, 19, 20, 24, 25, 26, 27, 28, 29, 30, 31, 32, 33, 34, 35, 36, 37, 38, 39, 40, 41, 42, 43, 44, 45, 46, 47, 48, 49] rfl (by decide +kernel)
set_option maxRecDepth 20000 in
theorem gX7_reads_X7_fails : GoodIn wsX7_reads (wsV RX7 166 RX7 yX7_fails wsX7_fails) := goodIn_app (goodIn_of _ (by decide +kernel)) ggX7_reads_X7_fails
set_option maxRecDepth 20000 in
theorem ggX7_reads_X7_isIn : GoodIn wsX7_reads wsX7_isIn := goodIn_r _ [23] rfl (by decide +kernel)
set_option maxRecDepth 20000 in
theorem gX7_reads_X7_isIn : GoodIn wsX7_reads (va_wsS RX7 69 yX7_isIn wsX7_isIn) := goodIn_app (goodIn_of _ (by decide +kernel)) ggX7_reads_X7_isIn
set_option maxRecDepth 20000 in
theorem ggX7_readsPush_X7_versions : GoodIn wsX7_readsPush wsX7_versions := goodIn_r _ [8, 9, 10, 11, 7, 12, 13, 14, 104, 105, 106, 107, 108, 109, 110, 111, 112, 113, 114, 115, 116, 117, 118, 119, 120, 121, 122, 123, 124, 125, 126, 127, 128, 129] rfl (by decide +kernel)
set_option maxRecDepth 20000 in
theorem gX7_readsPush_X7_versions : GoodIn wsX7_readsPush (wsV RX7 65 RX7 yX7_versions wsX7_versions) := goodIn_app (goodIn_of _ (by decide +kernel)) ggX7_readsPush_X7_versions
set_option maxRecDepth 20000 in
theorem ggX7_readsPush_X7_reads : GoodIn wsX7_readsPush wsX7_reads := goodIn_r _ [18, 19, 3, 2, 20, 21, 22, 23, 24, 25, 7, 26, 27, 28, 29, 30, 31, 32, 33, 34, 35, 36, 37, 38, 104, 105, 106, 107, 108, 109, 110, 111, 112, 113, 114, 115, 116, 117, 118, 119, 120, 121, 122, 123, 124, 125, 126, 127, 128, 129] rfl (by decide +kernel)
set_option maxRecDepth 20000 in
theorem gX7_readsPush_X7_reads : GoodIn wsX7_readsPush (wsV RX7 184 RX7 yX7_reads wsX7_reads) := goodIn_app (goodIn_of _ (by decide +kernel)) ggX7_readsPush_X7_reads
set_option maxRecDepth 20000 in
theorem ggX7_readsPush_X7_fails : GoodIn wsX7_readsPush wsX7_fails := goodIn_r _ [33, 34, 35, 104, 105, 106, 107, 108, 109, 110, 111, 112, 113, 114, 115, 116, 117, 118, 119, 120, 121, 122, 123, 124, 125, 126, 127, 128, 129] rfl (by decide +kernel)
set_option maxRecDepth 20000 in
theorem gX7_readsPush_X7_fails : GoodIn wsX7_readsPush (wsV RX7 166 RX7 yX7_fails wsX7_fails) := goodIn_app (goodIn_of _ (by decide +kernel)) ggX7_readsPush_X7_fails
set_option maxRecDepth 20000 in
theorem ggX7_readsPush_X7_makes : GoodIn wsX7_readsPush wsX7_makes := goodIn_r _ [42, 43, 4, 5, 6, 7, 8, 9, 10, 11, 12, 13, 14, 44, 45, 46, 47, 48, 49, 50, 51, 52, 53, 54, 55, 56, 57, 58, 59, 60, 61, 62, 63, 64, 65, 66, 67, 68, 69, 70, 71, 72, 73, 74, 75, 76, 77, 78, 79, 80, 81, 82, 83, 84, 85, 86, 87, 88, 89, 90, 91, 92, 93, 94, 95, 96, 97, 98, 99, 100, 101, 102, 103, 104, 105, 106, 107, 108, 109, 110, 111, 112, 113, 114, 115, 116, 117, 118, 119, 120, 121, 122, 123, 124, 125, 126, 127, 128, 129] rfl (by decide +kernel)
set_option maxRecDepth 20000 in
theorem gX7_readsPush_X7_makes : GoodIn wsX7_readsPush (wsV RX7 187 RX7 yX7_makes wsX7_makes) := goodIn_app (goodIn_of _ (by decide +kernel)) ggX7_readsPush_X7_makes
set_option maxRecDepth 20000 in
theorem ggX7_readsPush_X7_here : GoodIn wsX7_readsPush wsX7_here := goodIn_r _ [26, 19, 20, 21, 104, 105, 106, 107, 108, 109, 110, 111, 112, 113, 114, 115, 116, 117, 118, 119, 120, 121, 122, 123, 124, 125, 126, 127, 128, 129] rfl (by decide +kernel)
set_option maxRecDepth 20000 in
theorem gX7_readsPush_X7_here : GoodIn wsX7_readsPush (wsV RX7 151 RX7 yX7_here wsX7_here) := goodIn_app (goodIn_of _ (by decide +kernel)) ggX7_readsPush_X7_here
set_option maxRecDepth 20000 in
theorem ggX7_readsPush_X7_isDigit : GoodIn wsX7_readsPush wsX7_isDigit := goodIn_r _ [29] rfl (by decide +kernel)
set_option maxRecDepth 20000 in
theorem gX7_readsPush_X7_isDigit : GoodIn wsX7_readsPush (va_wsS RX7 170 yX7_isDigit wsX7_isDigit) := goodIn_app (goodIn_of _ (by decide +kernel)) ggX7_readsPush_X7_isDigit
set_option maxRecDepth 20000 in
theorem ggX7_readsPop_X7_versions : GoodIn wsX7_readsPop wsX7_versions := goodIn_r _ [8, 9, 10, 11, 7, 12, 13, 14, 113, 114, 115, 116, 117, 118, 119, 120, 121, 122, 123, 124, 125, 126, 127, 128, 129, 130, 131, 132, 133, 134, 135, 136, 137, 138] rfl (by decide +kernel)
set_option maxRecDepth 20000 in
theorem gX7_readsPop_X7_versions : GoodIn wsX7_readsPop (wsV RX7 65 RX7 yX7_versions wsX7_versions) := goodIn_app (goodIn_of _ (by decide +kernel)) ggX7_readsPop_X7_versions
set_option maxRecDepth 20000 in
theorem ggX7_readsPop_X7_reads : GoodIn wsX7_readsPop wsX7_reads := goodIn_r _ [18, 19, 3, 2, 20, 21, 22, 23, 24, 25, 7, 26, 27, 28, 29, 30, 31, 32, 33, 34, 35, 36, 37, 38, 113, 114, 115, 116, 117, 118, 119, 120, 121, 122, 123, 124, 125, 126, 127, 128, 129, 130, 131, 132, 133, 134, 135, 136, 137, 138] rfl (by decide +kernel)
set_option maxRecDepth 20000 in
theorem gX7_readsPop_X7_reads : GoodIn wsX7_readsPop (wsV RX7 184 RX7 yX7_reads wsX7_reads) := goodIn_app (goodIn_of _ (by decide +kernel)) ggX7_readsPop_X7_reads
set_option maxRecDepth 20000 in
theorem ggX7_readsPop_X7_fails : GoodIn wsX7_readsPop wsX7_fails := goodIn_r _ [33, 34, 35, 113, 114, 115, 116, 117, 118, 119, 120, 121, 122, 123, 124, 125, 126, 127, 128, 129, 130, 131, 132, 133, 134, 135, 136, 137, 138] rfl (by decide +kernel)
set_option maxRecDepth 20000 in
theorem gX7_readsPop_X7_fails : GoodIn wsX7_readsPop (wsV RX7 166 RX7 yX7_fails wsX7_fails) := goodIn_app (goodIn_of _ (by decide +kernel)) ggX7_readsPop_X7_fails
set_option maxRecDepth 20000 in
theorem ggX7_readsPop_X7_length : GoodIn wsX7_readsPop wsX7_length := goodIn_r _ [42, 43, 44, 45, 46, 7, 47, 48, 49, 50, 51, 52, 53, 54, 55, 56, 57, 9, 10, 11, 12, 13, 14, 113, 114, 115, 116, 117, 118, 119, 120, 121, 122, 123, 124, 125, 126, 127, 128, 129, 130, 131, 132, 133, 134, 135, 136, 137, 138] rfl (by decide +kernel)
set_option maxRecDepth 20000 in
theorem gX7_readsPop_X7_length : GoodIn wsX7_readsPop (wsV RX7 128 RX7 yX7_length wsX7_length) := goodIn_app (goodIn_of _ (by decide +kernel)) ggX7_readsPop_X7_length
set_option maxRecDepth 20000 in
theorem ggX7_readsPop_X7_makes : GoodIn wsX7_readsPop wsX7_makes := goodIn_r _ [61, 62, 4, 5, 6, 7, 8, 9, 10, 11, 12, 13, 14, 63, 64, 65, 66, 67, 68, 69, 70, 54, 55, 56, 57, 71, 72, 73, 74, 48, 49, 50, 51, 52, 53, 75, 76, 77, 78, 79, 80, 81, 82, 83, 84, 85, 86, 87, 88, 89, 90, 91, 92, 93, 94, 95, 96, 97, 98, 99, 100, 101, 102, 103, 104, 105, 106, 107, 108, 109, 110, 111, 112, 113, 114, 115, 116, 117, 118, 119, 120, 121, 122, 123, 124, 125, 126, 127, 128, 129, 130, 131, 132, 133, 134, 135, 136, 137, 138] rfl (by decide +kernel)
set_option maxRecDepth 20000 in
theorem gX7_readsPop_X7_makes : GoodIn wsX7_readsPop (wsV RX7 187 RX7 yX7_makes wsX7_makes) := goodIn_app (goodIn_of _ (by decide +kernel)) ggX7_readsPop_X7_makes
set_option maxRecDepth 20000 in
theorem ggX7_readsPace_X7_fails : GoodIn wsX7_readsPace wsX7_fails := goodIn_r _ [7, 8, 9, 35, 36, 37, 38, 39, 40, 41, 42, 43, 44, 45, 46, 47, 48, 49, 50, 51, 52, 53, 54, 55, 56, 57, 58, 59, 60] rfl (by decide +kernel)
set_option maxRecDepth 20000 in
theorem gX7_readsPace_X7_fails : GoodIn wsX7_readsPace (wsV RX7 166 RX7 yX7_fails wsX7_fails) := goodIn_app (goodIn_of _ (by decide +kernel)) ggX7_readsPace_X7_fails
set_option maxRecDepth 20000 in
theorem ggX7_readsPace_X7_reads : GoodIn wsX7_readsPace wsX7_reads := goodIn_r _ [13, 14, 15, 2, 16, 17, 18, 19, 20, 21, 6, 22, 23, 24, 25, 3, 4, 5, 7, 8, 9, 26, 27, 28, 35, 36, 37, 38, 39, 40, 41, 42, 43, 44, 45, 46, 47, 48, 49, 50, 51, 52, 53, 54, 55, 56, 57, 58, 59, 60] rfl (by decide +kernel)
set_option maxRecDepth 20000 in
theorem gX7_readsPace_X7_reads : GoodIn wsX7_readsPace (wsV RX7 184 RX7 yX7_reads wsX7_reads) := goodIn_app (goodIn_of _ (by decide +kernel)) ggX7_readsPace_X7_reads
set_option maxRecDepth 20000 in
theorem ggX7_readsPace_X7_put : GoodIn wsX7_readsPace wsX7_put := goodIn_r _ [32, 33, 34, 35, 36, 37, 38, 39, 40, 41, 42, 43, 44, 45, 46, 47, 48, 49, 50, 51, 52, 53, 54, 55, 56, 57, 58, 59, 60] rfl (by decide +kernel)
set_option maxRecDepth 20000 in
theorem gX7_readsPace_X7_put : GoodIn wsX7_readsPace (wsV RX7 54 RX7 yX7_put wsX7_put) := goodIn_app (goodIn_of _ (by decide +kernel)) ggX7_readsPace_X7_put
set_option maxRecDepth 20000 in
theorem ggX7_readsText_X7_passes : GoodIn wsX7_readsText wsX7_passes := goodIn_r _ [7, 1, 8, 9, 10, 11, 12, 6, 13, 14, 15, 16, 17, 18, 19, 20, 21, 22, 23, 24, 25, 26, 27, 28, 29, 30, 31, 32, 33, 34, 35, 36, 37, 38, 39, 40, 41, 42, 43, 44, 45, 46, 47, 48, 49, 50, 51, 52, 53, 54, 55, 56, 57, 58, 59, 60, 61, 62, 63, 64, 65, 189, 190, 191, 192, 193, 194, 195, 196, 197, 198, 199, 200, 201, 202, 203, 204, 205, 206, 207, 208, 209, 210, 211, 212, 213, 214] rfl (by decide +kernel)
set_option maxRecDepth 20000 in
theorem gX7_readsText_X7_passes : GoodIn wsX7_readsText (wsV RX7 192 RX7 yX7_passes wsX7_passes) := goodIn_app (goodIn_of _ (by decide +kernel)) ggX7_readsText_X7_passes
set_option maxRecDepth 20000 in
theorem ggX7_readsText_X7_fails : GoodIn wsX7_readsText wsX7_fails := goodIn_r _ [69, 70, 71, 189, 190, 191, 192, 193, 194, 195, 196, 197, 198, 199, 200, 201, 202, 203, 204, 205, 206, 207, 208, 209, 210, 211, 212, 213, 214] rfl (by decide +kernel)
set_option maxRecDepth 20000 in
theorem gX7_readsText_X7_fails : GoodIn wsX7_readsText (wsV RX7 166 RX7 yX7_fails wsX7_fails) := goodIn_app (goodIn_of _ (by decide +kernel)) ggX7_readsText_X7_fails
set_option maxRecDepth 20000 in
theorem ggX7_readsText_X7_begins : GoodIn wsX7_readsText wsX7_begins := goodIn_r _ [75, 76, 77, 78, 6, 79, 80, 81, 82, 83, 84, 85, 189, 190, 191, 192, 193, 194, 195, 196, 197, 198, 199, 200, 201, 202, 203, 204, 205, 206, 207, 208, 209, 210, 211, 212, 213, 214] rfl (by decide +kernel)
set_option maxRecDepth 20000 in
theorem gX7_readsText_X7_begins : GoodIn wsX7_readsText (wsV RX7 41 RX7 yX7_begins wsX7_begins) := goodIn_app (goodIn_of _ (by decide +kernel)) ggX7_readsText_X7_begins
set_option maxRecDepth 20000 in
theorem ggX7_readsText_X7_sign : GoodIn wsX7_readsText wsX7_sign := goodIn_r _ [89, 1, 10, 11, 12, 6, 13, 8, 9, 66, 67, 68, 69, 70, 71, 189, 190, 191, 192, 193, 194, 195, 196, 197, 198, 199, 200, 201, 202, 203, 204, 205, 206, 207, 208, 209, 210, 211, 212, 213, 214] rfl (by decide +kernel)
set_option maxRecDepth 20000 in
theorem gX7_readsText_X7_sign : GoodIn wsX7_readsText (wsV RX7 196 RX7 yX7_sign wsX7_sign) := goodIn_app (goodIn_of _ (by decide +kernel)) ggX7_readsText_X7_sign
set_option maxRecDepth 20000 in
theorem ggX7_readsText_X7_here : GoodIn wsX7_readsText wsX7_here := goodIn_r _ [13, 1, 8, 9, 189, 190, 191, 192, 193, 194, 195, 196, 197, 198, 199, 200, 201, 202, 203, 204, 205, 206, 207, 208, 209, 210, 211, 212, 213, 214] rfl (by decide +kernel)
set_option maxRecDepth 20000 in
theorem gX7_readsText_X7_here : GoodIn wsX7_readsText (wsV RX7 151 RX7 yX7_here wsX7_here) := goodIn_app (goodIn_of _ (by decide +kernel)) ggX7_readsText_X7_here
set_option maxRecDepth 20000 in
theorem ggX7_readsText_X7_readsPush : GoodIn wsX7_readsText wsX7_readsPush := goodIn_r _ [93, 2, 94, 95, 96, 97, 98, 6, 99, 100, 101, 102, 103, 80, 81, 104, 105, 106, 107, 1, 8, 9, 108, 10, 11, 12, 13, 109, 110, 111, 66, 67, 68, 69, 70, 71, 112, 113, 114, 115, 116, 117, 118, 119, 82, 83, 84, 85, 76, 77, 78, 79, 120, 121, 122, 123, 124, 125, 126, 127, 128, 129, 130, 131, 132, 133, 134, 135, 136, 137, 138, 139, 140, 141, 142, 143, 144, 145, 146, 147, 148, 149, 150, 151, 152, 153, 154, 155, 156, 157, 158, 159, 160, 161, 162, 163, 164, 165, 166, 167, 168, 169, 170, 171, 189, 190, 191, 192, 193, 194, 195, 196, 197, 198, 199, 200, 201, 202, 203, 204, 205, 206, 207, 208, 209, 210, 211, 212, 213, 214] rfl (by decide +kernel)
set_option maxRecDepth 20000 in
theorem gX7_readsText_X7_readsPush : GoodIn wsX7_readsText (wsV RX7 201 RX7 yX7_readsPush wsX7_readsPush) := goodIn_app (goodIn_of _ (by decide +kernel)) ggX7_readsText_X7_readsPush
set_option maxRecDepth 20000 in
theorem ggX7_readsText_X7_readsPop : GoodIn wsX7_readsText wsX7_readsPop := goodIn_r _ [175, 2, 94, 95, 96, 97, 98, 6, 99, 100, 101, 102, 103, 80, 81, 104, 105, 106, 107, 1, 8, 9, 108, 10, 11, 12, 13, 109, 110, 111, 66, 67, 68, 69, 70, 71, 112, 113, 114, 176, 177, 178, 179, 180, 181, 182, 183, 184, 128, 129, 130, 131, 132, 133, 120, 121, 122, 123, 115, 116, 117, 118, 119, 82, 83, 84, 85, 76, 77, 78, 79, 124, 125, 126, 127, 134, 135, 136, 137, 138, 139, 140, 141, 142, 143, 144, 145, 146, 147, 148, 149, 150, 151, 152, 153, 154, 155, 156, 157, 158, 159, 160, 161, 162, 163, 164, 165, 166, 167, 168, 169, 170, 171, 189, 190, 191, 192, 193, 194, 195, 196, 197, 198, 199, 200, 201, 202, 203, 204, 205, 206, 207, 208, 209, 210, 211, 212, 213, 214] rfl (by decide +kernel)
set_option maxRecDepth 20000 in
theorem gX7_readsText_X7_readsPop : GoodIn wsX7_readsText (wsV RX7 206 RX7 yX7_readsPop wsX7_readsPop) := goodIn_app (goodIn_of _ (by decide +kernel)) ggX7_readsText_X7_readsPop
set_option maxRecDepth 20000 in
theorem ggX7_readsText_X7_readsPace : GoodIn wsX7_readsText wsX7_readsPace := goodIn_r _ [188, 2, 94, 66, 67, 68, 6, 69, 70, 71, 104, 105, 106, 107, 1, 95, 8, 9, 108, 10, 11, 12, 13, 109, 110, 111, 112, 113, 114, 76, 77, 78, 79, 80, 81, 189, 190, 191, 192, 193, 194, 195, 196, 197, 198, 199, 200, 201, 202, 203, 204, 205, 206, 207, 208, 209, 210, 211, 212, 213, 214] rfl (by decide +kernel)
set_option maxRecDepth 20000 in
theorem gX7_readsText_X7_readsPace : GoodIn wsX7_readsText (wsV RX7 211 RX7 yX7_readsPace wsX7_readsPace) := goodIn_app (goodIn_of _ (by decide +kernel)) ggX7_readsText_X7_readsPace
set_option maxRecDepth 20000 in
theorem ggX7_load_X7_isIn : GoodIn wsX7_load wsX7_isIn := goodIn_r _ [14] rfl (by decide +kernel)
set_option maxRecDepth 20000 in
theorem gX7_load_X7_isIn : GoodIn wsX7_load (va_wsS RX7 69 yX7_isIn wsX7_isIn) := goodIn_app (goodIn_of _ (by decide +kernel)) ggX7_load_X7_isIn
set_option maxRecDepth 20000 in
theorem ggX7_load_X7_right : GoodIn wsX7_load wsX7_right := goodIn_r _ [18, 1, 201, 202, 203, 204, 205, 206, 207, 208, 209, 210, 211, 212, 213, 214, 215, 216, 217, 218, 219, 220, 221, 222, 223, 224, 225, 226] rfl (by decide +kernel)
set_option maxRecDepth 20000 in
theorem gX7_load_X7_right : GoodIn wsX7_load (wsV RX7 214 RX7 yX7_right wsX7_right) := goodIn_app (goodIn_of _ (by decide +kernel)) ggX7_load_X7_right
set_option maxRecDepth 20000 in
theorem ggX7_load_X7_get : GoodIn wsX7_load wsX7_get := goodIn_r _ [22, 9, 8, 201, 202, 203, 204, 205, 206, 207, 208, 209, 210, 211, 212, 213, 214, 215, 216, 217, 218, 219, 220, 221, 222, 223, 224, 225, 226] rfl (by decide +kernel)
set_option maxRecDepth 20000 in
theorem gX7_load_X7_get : GoodIn wsX7_load (wsV RX7 50 RX7 yX7_get wsX7_get) := goodIn_app (goodIn_of _ (by decide +kernel)) ggX7_load_X7_get
set_option maxRecDepth 20000 in
theorem ggX7_load_X7_readsText : GoodIn wsX7_load wsX7_readsText := goodIn_r _ [26, 4, 27, 28, 29, 30, 13, 31, 3, 32, 33, 34, 35, 36, 37, 38, 39, 40, 41, 42, 43, 44, 45, 46, 47, 48, 49, 50, 51, 52, 53, 54, 55, 56, 57, 58, 59, 60, 61, 62, 63, 64, 65, 66, 67, 68, 69, 70, 71, 72, 73, 74, 75, 76, 77, 78, 79, 80, 81, 82, 83, 84, 85, 86, 87, 88, 89, 90, 91, 92, 5, 6, 93, 94, 95, 96, 97, 98, 99, 100, 9, 8, 101, 102, 103, 104, 105, 106, 107, 108, 109, 110, 111, 112, 113, 114, 115, 116, 117, 118, 19, 20, 21, 22, 119, 120, 121, 122, 123, 124, 125, 126, 11, 12, 14, 127, 128, 129, 130, 131, 132, 133, 134, 135, 136, 137, 138, 139, 140, 141, 142, 143, 144, 145, 146, 147, 148, 149, 150, 151, 152, 153, 154, 155, 156, 157, 158, 159, 160, 161, 162, 163, 164, 165, 166, 167, 168, 169, 170, 171, 172, 173, 174, 175, 176, 177, 178, 179, 180, 181, 182, 183, 184, 185, 186, 187, 188, 189, 190, 191, 192, 193, 194, 195, 196, 197, 198, 199, 200, 201, 202, 203, 204, 205, 206, 207, 208, 209, 210, 211, 212, 213, 214, 215, 216, 217, 218, 219, 220, 221, 222, 223, 224, 225, 226] rfl (by decide +kernel)
set_option maxRecDepth 20000 in
theorem gX7_load_X7_readsText : GoodIn wsX7_load (wsV RX7 218 RX7 yX7_readsText wsX7_readsText) := goodIn_app (goodIn_of _ (by decide +kernel)) ggX7_load_X7_readsText
set_option maxRecDepth 20000 in
theorem ggX7_load_X7_put : GoodIn wsX7_load wsX7_put := goodIn_r _ [100, 9, 8, 201, 202, 203, 204, 205, 206, 207, 208, 209, 210, 211, 212, 213, 214, 215, 216, 217, 218, 219, 220, 221, 222, 223, 224, 225, 226] rfl (by decide +kernel)
set_option maxRecDepth 20000 in
theorem gX7_load_X7_put : GoodIn wsX7_load (wsV RX7 54 RX7 yX7_put wsX7_put) := goodIn_app (goodIn_of _ (by decide +kernel)) ggX7_load_X7_put
set_option maxRecDepth 20000 in
theorem ggX7_load_X7_versions : GoodIn wsX7_load wsX7_versions := goodIn_r _ [118, 19, 20, 21, 13, 22, 9, 8, 201, 202, 203, 204, 205, 206, 207, 208, 209, 210, 211, 212, 213, 214, 215, 216, 217, 218, 219, 220, 221, 222, 223, 224, 225, 226] rfl (by decide +kernel)
set_option maxRecDepth 20000 in
theorem gX7_load_X7_versions : GoodIn wsX7_load (wsV RX7 65 RX7 yX7_versions wsX7_versions) := goodIn_app (goodIn_of _ (by decide +kernel)) ggX7_load_X7_versions
set_option maxRecDepth 20000 in
theorem ggX7_allOf_X7_versions : GoodIn wsX7_allOf wsX7_versions := goodIn_r _ [10, 11, 12, 13, 9, 14, 15, 16, 82, 83, 84, 85, 86, 87, 88, 89, 90, 91, 92, 93, 94, 95, 96, 97, 98, 99, 100, 101, 102, 103, 104, 105, 106, 107] rfl (by decide +kernel)
set_option maxRecDepth 20000 in
theorem gX7_allOf_X7_versions : GoodIn wsX7_allOf (wsV RX7 65 RX7 yX7_versions wsX7_versions) := goodIn_app (goodIn_of _ (by decide +kernel)) ggX7_allOf_X7_versions
set_option maxRecDepth 20000 in
theorem ggX7_allOf_X7_children : GoodIn wsX7_allOf wsX7_children := goodIn_r _ [20, 6, 7, 8, 9, 10, 11, 12, 13, 14, 15, 16, 21, 22, 23, 24, 82, 83, 84, 85, 86, 87, 88, 89, 90, 91, 92, 93, 94, 95, 96, 97, 98, 99, 100, 101, 102, 103, 104, 105, 106, 107] rfl (by decide +kernel)
set_option maxRecDepth 20000 in
theorem gX7_allOf_X7_children : GoodIn wsX7_allOf (wsV RX7 221 RX7 yX7_children wsX7_children) := goodIn_app (goodIn_of _ (by decide +kernel)) ggX7_allOf_X7_children
set_option maxRecDepth 20000 in
theorem ggX7_allOf_X7_of : GoodIn wsX7_allOf wsX7_of := goodIn_r _ [24, 11, 12, 13, 9, 14, 15, 16, 82, 83, 84, 85, 86, 87, 88, 89, 90, 91, 92, 93, 94, 95, 96, 97, 98, 99, 100, 101, 102, 103, 104, 105, 106, 107] rfl (by decide +kernel)
set_option maxRecDepth 20000 in
theorem gX7_allOf_X7_of : GoodIn wsX7_allOf (wsV RX7 105 RX7 yX7_of wsX7_of) := goodIn_app (goodIn_of _ (by decide +kernel)) ggX7_allOf_X7_of
set_option maxRecDepth 20000 in
theorem ggX7_allOf_X7_length : GoodIn wsX7_allOf wsX7_length := goodIn_r _ [28, 29, 30, 31, 32, 9, 33, 34, 35, 36, 37, 38, 39, 21, 22, 23, 24, 11, 12, 13, 14, 15, 16, 82, 83, 84, 85, 86, 87, 88, 89, 90, 91, 92, 93, 94, 95, 96, 97, 98, 99, 100, 101, 102, 103, 104, 105, 106, 107] rfl (by decide +kernel)
set_option maxRecDepth 20000 in
theorem gX7_allOf_X7_length : GoodIn wsX7_allOf (wsV RX7 128 RX7 yX7_length wsX7_length) := goodIn_app (goodIn_of _ (by decide +kernel)) ggX7_allOf_X7_length
set_option maxRecDepth 20000 in
theorem ggX7_allOf_X7_lays : GoodIn wsX7_allOf wsX7_lays := goodIn_r _ [43, 34, 35, 36, 37, 38, 9, 39, 21, 22, 23, 24, 11, 12, 13, 14, 15, 16, 44, 45, 46, 47, 48, 49, 50, 1, 51, 52, 53, 54, 55, 56, 57, 58, 59, 60, 61, 62, 63, 64, 65, 66, 67, 68, 69, 70, 71, 72, 73, 74, 75, 76, 77, 78, 79, 80, 81, 82, 83, 84, 85, 86, 87, 88, 89, 90, 91, 92, 93, 94, 95, 96, 97, 98, 99, 100, 101, 102, 103, 104, 105, 106, 107] rfl (by decide +kernel)
set_option maxRecDepth 20000 in
theorem gX7_allOf_X7_lays : GoodIn wsX7_allOf (wsV RX7 131 RX7 yX7_lays wsX7_lays) := goodIn_app (goodIn_of _ (by decide +kernel)) ggX7_allOf_X7_lays
set_option maxRecDepth 20000 in
theorem ggX7_toldOf_X7_get : GoodIn wsX7_toldOf wsX7_get := goodIn_r _ [6, 7, 8, 87, 88, 89, 90, 91, 92, 93, 94, 95, 96, 97, 98, 99, 100, 101, 102, 103, 104, 105, 106, 107, 108, 109, 110, 111, 112] rfl (by decide +kernel)
set_option maxRecDepth 20000 in
theorem gX7_toldOf_X7_get : GoodIn wsX7_toldOf (wsV RX7 50 RX7 yX7_get wsX7_get) := goodIn_app (goodIn_of _ (by decide +kernel)) ggX7_toldOf_X7_get
set_option maxRecDepth 20000 in
theorem ggX7_toldOf_X7_allOf : GoodIn wsX7_toldOf wsX7_allOf := goodIn_r _ [12, 13, 14, 15, 16, 17, 18, 19, 20, 5, 21, 2, 3, 4, 6, 7, 8, 22, 23, 24, 25, 26, 27, 28, 29, 30, 31, 32, 33, 34, 35, 36, 37, 38, 39, 40, 41, 42, 43, 44, 45, 46, 47, 48, 49, 50, 51, 52, 53, 54, 55, 56, 57, 58, 59, 60, 61, 62, 63, 64, 65, 66, 67, 68, 69, 70, 71, 72, 73, 74, 75, 76, 77, 78, 79, 80, 81, 82, 83, 84, 85, 86, 87, 88, 89, 90, 91, 92, 93, 94, 95, 96, 97, 98, 99, 100, 101, 102, 103, 104, 105, 106, 107, 108, 109, 110, 111, 112] rfl (by decide +kernel)
set_option maxRecDepth 20000 in
theorem gX7_toldOf_X7_allOf : GoodIn wsX7_toldOf (wsV RX7 229 RX7 yX7_allOf wsX7_allOf) := goodIn_app (goodIn_of _ (by decide +kernel)) ggX7_toldOf_X7_allOf
set_option maxRecDepth 20000 in
theorem ggX7_toldOfVersion_X7_lays : GoodIn wsX7_toldOfVersion wsX7_lays := goodIn_r _ [10, 11, 12, 13, 14, 15, 9, 16, 17, 18, 19, 20, 21, 22, 23, 24, 25, 26, 27, 28, 29, 30, 5, 1, 2, 3, 4, 31, 32, 33, 34, 35, 36, 37, 38, 39, 40, 41, 42, 43, 44, 45, 46, 47, 48, 49, 50, 51, 52, 53, 54, 55, 56, 57, 58, 59, 60, 69, 70, 71, 72, 73, 74, 75, 76, 77, 78, 79, 80, 81, 82, 83, 84, 85, 86, 87, 88, 89, 90, 91, 92, 93, 94] rfl (by decide +kernel)
set_option maxRecDepth 20000 in
theorem gX7_toldOfVersion_X7_lays : GoodIn wsX7_toldOfVersion (wsV RX7 131 RX7 yX7_lays wsX7_lays) := goodIn_app (goodIn_of _ (by decide +kernel)) ggX7_toldOfVersion_X7_lays
set_option maxRecDepth 20000 in
theorem ggX7_toldOfVersion_X7_of : GoodIn wsX7_toldOfVersion wsX7_of := goodIn_r _ [20, 21, 22, 23, 9, 24, 25, 26, 69, 70, 71, 72, 73, 74, 75, 76, 77, 78, 79, 80, 81, 82, 83, 84, 85, 86, 87, 88, 89, 90, 91, 92, 93, 94] rfl (by decide +kernel)
set_option maxRecDepth 20000 in
theorem gX7_toldOfVersion_X7_of : GoodIn wsX7_toldOfVersion (wsV RX7 105 RX7 yX7_of wsX7_of) := goodIn_app (goodIn_of _ (by decide +kernel)) ggX7_toldOfVersion_X7_of
set_option maxRecDepth 20000 in
theorem ggX7_toldOfVersion_X7_children : GoodIn wsX7_toldOfVersion wsX7_children := goodIn_r _ [64, 65, 66, 67, 9, 68, 21, 22, 23, 24, 25, 26, 17, 18, 19, 20, 69, 70, 71, 72, 73, 74, 75, 76, 77, 78, 79, 80, 81, 82, 83, 84, 85, 86, 87, 88, 89, 90, 91, 92, 93, 94] rfl (by decide +kernel)
set_option maxRecDepth 20000 in
theorem gX7_toldOfVersion_X7_children : GoodIn wsX7_toldOfVersion (wsV RX7 221 RX7 yX7_children wsX7_children) := goodIn_app (goodIn_of _ (by decide +kernel)) ggX7_toldOfVersion_X7_children
set_option maxRecDepth 20000 in
theorem ggX7_valueOf_X7_length : GoodIn wsX7_valueOf wsX7_length := goodIn_r _ [8, 1, 9, 10, 11, 7, 12, 13, 14, 15, 16, 17, 18, 19, 20, 21, 22, 23, 24, 25, 26, 27, 28, 77, 78, 79, 80, 81, 82, 83, 84, 85, 86, 87, 88, 89, 90, 91, 92, 93, 94, 95, 96, 97, 98, 99, 100, 101, 102] rfl (by decide +kernel)
set_option maxRecDepth 20000 in
theorem gX7_valueOf_X7_length : GoodIn wsX7_valueOf (wsV RX7 128 RX7 yX7_length wsX7_length) := goodIn_app (goodIn_of _ (by decide +kernel)) ggX7_valueOf_X7_length
set_option maxRecDepth 20000 in
theorem ggX7_valueOf_X7_lays : GoodIn wsX7_valueOf wsX7_lays := goodIn_r _ [32, 13, 14, 15, 16, 17, 7, 18, 19, 20, 21, 22, 23, 24, 25, 26, 27, 28, 33, 34, 35, 36, 3, 37, 38, 39, 40, 41, 42, 43, 44, 45, 46, 47, 48, 49, 2, 50, 51, 52, 53, 54, 55, 56, 57, 58, 59, 60, 61, 62, 63, 64, 65, 66, 67, 68, 69, 77, 78, 79, 80, 81, 82, 83, 84, 85, 86, 87, 88, 89, 90, 91, 92, 93, 94, 95, 96, 97, 98, 99, 100, 101, 102] rfl (by decide +kernel)
set_option maxRecDepth 20000 in
theorem gX7_valueOf_X7_lays : GoodIn wsX7_valueOf (wsV RX7 131 RX7 yX7_lays wsX7_lays) := goodIn_app (goodIn_of _ (by decide +kernel)) ggX7_valueOf_X7_lays
set_option maxRecDepth 20000 in
theorem ggX7_valueOf_X7_manyIn : GoodIn wsX7_valueOf wsX7_manyIn := goodIn_r _ [73, 39, 3, 77, 78, 79, 80, 81, 82, 83, 84, 85, 86, 87, 88, 89, 90, 91, 92, 93, 94, 95, 96, 97, 98, 99, 100, 101, 102] rfl (by decide +kernel)
set_option maxRecDepth 20000 in
theorem gX7_valueOf_X7_manyIn : GoodIn wsX7_valueOf (wsV RX7 232 RX7 yX7_manyIn wsX7_manyIn) := goodIn_app (goodIn_of _ (by decide +kernel)) ggX7_valueOf_X7_manyIn
set_option maxRecDepth 20000 in
theorem ggX7_valueOf_X7_isIn : GoodIn wsX7_valueOf wsX7_isIn := goodIn_r _ [76] rfl (by decide +kernel)
set_option maxRecDepth 20000 in
theorem gX7_valueOf_X7_isIn : GoodIn wsX7_valueOf (va_wsS RX7 69 yX7_isIn wsX7_isIn) := goodIn_app (goodIn_of _ (by decide +kernel)) ggX7_valueOf_X7_isIn
set_option maxRecDepth 20000 in
theorem ggX7_state_X7_isIn : GoodIn wsX7_state wsX7_isIn := goodIn_r _ [5] rfl (by decide +kernel)
set_option maxRecDepth 20000 in
theorem gX7_state_X7_isIn : GoodIn wsX7_state (va_wsS RX7 69 yX7_isIn wsX7_isIn) := goodIn_app (goodIn_of _ (by decide +kernel)) ggX7_state_X7_isIn
set_option maxRecDepth 20000 in
theorem ggX7_state_X7_right : GoodIn wsX7_state wsX7_right := goodIn_r _ [9, 1, 99, 100, 101, 102, 103, 104, 105, 106, 107, 108, 109, 110, 111, 112, 113, 114, 115, 116, 117, 118, 119, 120, 121, 122, 123, 124] rfl (by decide +kernel)
set_option maxRecDepth 20000 in
theorem gX7_state_X7_right : GoodIn wsX7_state (wsV RX7 214 RX7 yX7_right wsX7_right) := goodIn_app (goodIn_of _ (by decide +kernel)) ggX7_state_X7_right
set_option maxRecDepth 20000 in
theorem ggX7_state_X7_toldOf : GoodIn wsX7_state wsX7_toldOf := goodIn_r _ [13, 14, 15, 16, 17, 4, 18, 19, 20, 21, 22, 23, 24, 25, 26, 27, 28, 29, 30, 31, 32, 33, 34, 35, 36, 37, 38, 39, 40, 41, 42, 43, 44, 45, 46, 47, 48, 49, 50, 51, 52, 53, 54, 55, 56, 57, 58, 59, 60, 61, 62, 63, 64, 65, 66, 67, 68, 69, 70, 71, 72, 73, 74, 75, 76, 77, 78, 79, 80, 81, 82, 83, 84, 85, 86, 87, 88, 89, 90, 91, 92, 93, 94, 95, 96, 97, 98, 99, 100, 101, 102, 103, 104, 105, 106, 107, 108, 109, 110, 111, 112, 113, 114, 115, 116, 117, 118, 119, 120, 121, 122, 123, 124] rfl (by decide +kernel)
set_option maxRecDepth 20000 in
theorem gX7_state_X7_toldOf : GoodIn wsX7_state (wsV RX7 235 RX7 yX7_toldOf wsX7_toldOf) := goodIn_app (goodIn_of _ (by decide +kernel)) ggX7_state_X7_toldOf
set_option maxRecDepth 20000 in
theorem ggX7_version_X7_isVersion : GoodIn wsX7_version wsX7_isVersion := goodIn_r _ [6, 7, 8, 9, 5, 10, 11, 12, 13, 14, 15, 16, 17, 18, 19, 85, 86, 87, 88, 89, 90, 91, 92, 93, 94, 95, 96, 97, 98, 99, 100, 101, 102, 103, 104, 105, 106, 107, 108, 109, 110] rfl (by decide +kernel)
set_option maxRecDepth 20000 in
theorem gX7_version_X7_isVersion : GoodIn wsX7_version (wsV RX7 238 RX7 yX7_isVersion wsX7_isVersion) := goodIn_app (goodIn_of _ (by decide +kernel)) ggX7_version_X7_isVersion
set_option maxRecDepth 20000 in
theorem ggX7_version_X7_right : GoodIn wsX7_version wsX7_right := goodIn_r _ [23, 1, 85, 86, 87, 88, 89, 90, 91, 92, 93, 94, 95, 96, 97, 98, 99, 100, 101, 102, 103, 104, 105, 106, 107, 108, 109, 110] rfl (by decide +kernel)
set_option maxRecDepth 20000 in
theorem gX7_version_X7_right : GoodIn wsX7_version (wsV RX7 214 RX7 yX7_right wsX7_right) := goodIn_app (goodIn_of _ (by decide +kernel)) ggX7_version_X7_right
set_option maxRecDepth 20000 in
theorem ggX7_version_X7_isIn : GoodIn wsX7_version wsX7_isIn := goodIn_r _ [19] rfl (by decide +kernel)
set_option maxRecDepth 20000 in
theorem gX7_version_X7_isIn : GoodIn wsX7_version (va_wsS RX7 69 yX7_isIn wsX7_isIn) := goodIn_app (goodIn_of _ (by decide +kernel)) ggX7_version_X7_isIn
set_option maxRecDepth 20000 in
theorem ggX7_version_X7_toldOfVersion : GoodIn wsX7_version wsX7_toldOfVersion := goodIn_r _ [27, 28, 29, 30, 31, 32, 33, 34, 35, 5, 36, 37, 38, 39, 40, 41, 42, 43, 44, 45, 46, 11, 12, 13, 14, 15, 16, 47, 48, 49, 50, 51, 52, 53, 54, 55, 56, 57, 58, 59, 60, 61, 62, 63, 64, 65, 66, 67, 68, 69, 70, 71, 72, 73, 74, 75, 76, 77, 78, 79, 80, 81, 82, 83, 84, 7, 8, 9, 10, 85, 86, 87, 88, 89, 90, 91, 92, 93, 94, 95, 96, 97, 98, 99, 100, 101, 102, 103, 104, 105, 106, 107, 108, 109, 110] rfl (by decide +kernel)
set_option maxRecDepth 20000 in
theorem gX7_version_X7_toldOfVersion : GoodIn wsX7_version (wsV RX7 241 RX7 yX7_toldOfVersion wsX7_toldOfVersion) := goodIn_app (goodIn_of _ (by decide +kernel)) ggX7_version_X7_toldOfVersion
set_option maxRecDepth 20000 in
theorem ggX7_value_X7_isVersion : GoodIn wsX7_value wsX7_isVersion := goodIn_r _ [6, 7, 8, 9, 5, 10, 11, 12, 13, 14, 15, 16, 17, 18, 19, 94, 95, 96, 97, 98, 99, 100, 101, 102, 103, 104, 105, 106, 107, 108, 109, 110, 111, 112, 113, 114, 115, 116, 117, 118, 119] rfl (by decide +kernel)
set_option maxRecDepth 20000 in
theorem gX7_value_X7_isVersion : GoodIn wsX7_value (wsV RX7 238 RX7 yX7_isVersion wsX7_isVersion) := goodIn_app (goodIn_of _ (by decide +kernel)) ggX7_value_X7_isVersion
set_option maxRecDepth 20000 in
theorem ggX7_value_X7_right : GoodIn wsX7_value wsX7_right := goodIn_r _ [23, 1, 94, 95, 96, 97, 98, 99, 100, 101, 102, 103, 104, 105, 106, 107, 108, 109, 110, 111, 112, 113, 114, 115, 116, 117, 118, 119] rfl (by decide +kernel)
set_option maxRecDepth 20000 in
theorem gX7_value_X7_right : GoodIn wsX7_value (wsV RX7 214 RX7 yX7_right wsX7_right) := goodIn_app (goodIn_of _ (by decide +kernel)) ggX7_value_X7_right
set_option maxRecDepth 20000 in
theorem ggX7_value_X7_isIn : GoodIn wsX7_value wsX7_isIn := goodIn_r _ [19] rfl (by decide +kernel)
set_option maxRecDepth 20000 in
theorem gX7_value_X7_isIn : GoodIn wsX7_value (va_wsS RX7 69 yX7_isIn wsX7_isIn) := goodIn_app (goodIn_of _ (by decide +kernel)) ggX7_value_X7_isIn
set_option maxRecDepth 20000 in
theorem ggX7_value_X7_valueOf : GoodIn wsX7_value wsX7_valueOf := goodIn_r _ [27, 28, 29, 30, 31, 32, 33, 5, 34, 35, 36, 37, 38, 39, 40, 41, 42, 43, 44, 45, 46, 47, 48, 11, 12, 13, 14, 15, 16, 49, 50, 51, 52, 53, 54, 55, 56, 57, 58, 59, 60, 61, 62, 63, 64, 65, 66, 67, 68, 69, 70, 71, 72, 73, 74, 75, 76, 77, 78, 79, 80, 81, 82, 83, 84, 85, 86, 87, 88, 89, 90, 91, 92, 93, 17, 18, 19, 94, 95, 96, 97, 98, 99, 100, 101, 102, 103, 104, 105, 106, 107, 108, 109, 110, 111, 112, 113, 114, 115, 116, 117, 118, 119] rfl (by decide +kernel)
set_option maxRecDepth 20000 in
theorem gX7_value_X7_valueOf : GoodIn wsX7_value (wsV RX7 244 RX7 yX7_valueOf wsX7_valueOf) := goodIn_app (goodIn_of _ (by decide +kernel)) ggX7_value_X7_valueOf
set_option maxRecDepth 20000 in
theorem ggX7_first_X7_isVersion : GoodIn wsX7_first wsX7_isVersion := goodIn_r _ [7, 8, 9, 10, 6, 11, 12, 13, 14, 15, 16, 17, 18, 19, 20, 43, 44, 45, 46, 47, 48, 49, 50, 51, 52, 53, 54, 55, 56, 57, 58, 59, 60, 61, 62, 63, 64, 65, 66, 67, 68] rfl (by decide +kernel)
set_option maxRecDepth 20000 in
theorem gX7_first_X7_isVersion : GoodIn wsX7_first (wsV RX7 238 RX7 yX7_isVersion wsX7_isVersion) := goodIn_app (goodIn_of _ (by decide +kernel)) ggX7_first_X7_isVersion
set_option maxRecDepth 20000 in
theorem ggX7_first_X7_right : GoodIn wsX7_first wsX7_right := goodIn_r _ [24, 1, 43, 44, 45, 46, 47, 48, 49, 50, 51, 52, 53, 54, 55, 56, 57, 58, 59, 60, 61, 62, 63, 64, 65, 66, 67, 68] rfl (by decide +kernel)
set_option maxRecDepth 20000 in
theorem gX7_first_X7_right : GoodIn wsX7_first (wsV RX7 214 RX7 yX7_right wsX7_right) := goodIn_app (goodIn_of _ (by decide +kernel)) ggX7_first_X7_right
set_option maxRecDepth 20000 in
theorem ggX7_first_X7_length : GoodIn wsX7_first wsX7_length := goodIn_r _ [28, 2, 29, 30, 31, 6, 32, 33, 34, 35, 36, 37, 38, 39, 40, 41, 42, 12, 13, 14, 15, 16, 17, 43, 44, 45, 46, 47, 48, 49, 50, 51, 52, 53, 54, 55, 56, 57, 58, 59, 60, 61, 62, 63, 64, 65, 66, 67, 68] rfl (by decide +kernel)
set_option maxRecDepth 20000 in
theorem gX7_first_X7_length : GoodIn wsX7_first (wsV RX7 128 RX7 yX7_length wsX7_length) := goodIn_app (goodIn_of _ (by decide +kernel)) ggX7_first_X7_length
set_option maxRecDepth 20000 in
theorem ggX7_find_X7_isVersion : GoodIn wsX7_find wsX7_isVersion := goodIn_r _ [7, 8, 9, 10, 6, 11, 12, 13, 14, 15, 16, 17, 18, 19, 20, 43, 44, 45, 46, 47, 48, 49, 50, 51, 52, 53, 54, 55, 56, 57, 58, 59, 60, 61, 62, 63, 64, 65, 66, 67, 68] rfl (by decide +kernel)
set_option maxRecDepth 20000 in
theorem gX7_find_X7_isVersion : GoodIn wsX7_find (wsV RX7 238 RX7 yX7_isVersion wsX7_isVersion) := goodIn_app (goodIn_of _ (by decide +kernel)) ggX7_find_X7_isVersion
set_option maxRecDepth 20000 in
theorem ggX7_find_X7_right : GoodIn wsX7_find wsX7_right := goodIn_r _ [24, 1, 43, 44, 45, 46, 47, 48, 49, 50, 51, 52, 53, 54, 55, 56, 57, 58, 59, 60, 61, 62, 63, 64, 65, 66, 67, 68] rfl (by decide +kernel)
set_option maxRecDepth 20000 in
theorem gX7_find_X7_right : GoodIn wsX7_find (wsV RX7 214 RX7 yX7_right wsX7_right) := goodIn_app (goodIn_of _ (by decide +kernel)) ggX7_find_X7_right
set_option maxRecDepth 20000 in
theorem ggX7_find_X7_length : GoodIn wsX7_find wsX7_length := goodIn_r _ [28, 2, 29, 30, 31, 6, 32, 33, 34, 35, 36, 37, 38, 39, 40, 41, 42, 12, 13, 14, 15, 16, 17, 43, 44, 45, 46, 47, 48, 49, 50, 51, 52, 53, 54, 55, 56, 57, 58, 59, 60, 61, 62, 63, 64, 65, 66, 67, 68] rfl (by decide +kernel)
set_option maxRecDepth 20000 in
theorem gX7_find_X7_length : GoodIn wsX7_find (wsV RX7 128 RX7 yX7_length wsX7_length) := goodIn_app (goodIn_of _ (by decide +kernel)) ggX7_find_X7_length
set_option maxRecDepth 20000 in
theorem ggX7_alike_X7_isVersion : GoodIn wsX7_alike wsX7_isVersion := goodIn_r _ [8, 9, 10, 11, 7, 12, 13, 14, 15, 16, 17, 18, 19, 20, 21, 44, 45, 46, 47, 48, 49, 50, 51, 52, 53, 54, 55, 56, 57, 58, 59, 60, 61, 62, 63, 64, 65, 66, 67, 68, 69] rfl (by decide +kernel)
set_option maxRecDepth 20000 in
theorem gX7_alike_X7_isVersion : GoodIn wsX7_alike (wsV RX7 238 RX7 yX7_isVersion wsX7_isVersion) := goodIn_app (goodIn_of _ (by decide +kernel)) ggX7_alike_X7_isVersion
set_option maxRecDepth 20000 in
theorem ggX7_alike_X7_right : GoodIn wsX7_alike wsX7_right := goodIn_r _ [25, 1, 44, 45, 46, 47, 48, 49, 50, 51, 52, 53, 54, 55, 56, 57, 58, 59, 60, 61, 62, 63, 64, 65, 66, 67, 68, 69] rfl (by decide +kernel)
set_option maxRecDepth 20000 in
theorem gX7_alike_X7_right : GoodIn wsX7_alike (wsV RX7 214 RX7 yX7_right wsX7_right) := goodIn_app (goodIn_of _ (by decide +kernel)) ggX7_alike_X7_right
set_option maxRecDepth 20000 in
theorem ggX7_alike_X7_length : GoodIn wsX7_alike wsX7_length := goodIn_r _ [29, 3, 30, 31, 32, 7, 33, 34, 35, 36, 37, 38, 39, 40, 41, 42, 43, 13, 14, 15, 16, 17, 18, 44, 45, 46, 47, 48, 49, 50, 51, 52, 53, 54, 55, 56, 57, 58, 59, 60, 61, 62, 63, 64, 65, 66, 67, 68, 69] rfl (by decide +kernel)
set_option maxRecDepth 20000 in
theorem gX7_alike_X7_length : GoodIn wsX7_alike (wsV RX7 128 RX7 yX7_length wsX7_length) := goodIn_app (goodIn_of _ (by decide +kernel)) ggX7_alike_X7_length
set_option maxRecDepth 20000 in
theorem ggX7_alike_X7_laysValues : GoodIn wsX7_alike wsX7_laysValues := goodIn_r _ [33, 34, 35, 36, 37, 38, 7, 39, 40, 41, 42, 43, 13, 14, 15, 16, 17, 18, 44, 45, 46, 47, 48, 49, 50, 51, 52, 53, 54, 55, 56, 57, 58, 59, 60, 61, 62, 63, 64, 65, 66, 67, 68, 69] rfl (by decide +kernel)
set_option maxRecDepth 20000 in
theorem gX7_alike_X7_laysValues : GoodIn wsX7_alike (wsV RX7 124 RX7 yX7_laysValues wsX7_laysValues) := goodIn_app (goodIn_of _ (by decide +kernel)) ggX7_alike_X7_laysValues
set_option maxRecDepth 20000 in
theorem ggX7_common_X7_isVersion : GoodIn wsX7_common wsX7_isVersion := goodIn_r _ [6, 7, 8, 9, 5, 10, 11, 12, 13, 14, 15, 16, 17, 18, 19, 28, 29, 30, 31, 32, 33, 34, 35, 36, 37, 38, 39, 40, 41, 42, 43, 44, 45, 46, 47, 48, 49, 50, 51, 52, 53] rfl (by decide +kernel)
set_option maxRecDepth 20000 in
theorem gX7_common_X7_isVersion : GoodIn wsX7_common (wsV RX7 238 RX7 yX7_isVersion wsX7_isVersion) := goodIn_app (goodIn_of _ (by decide +kernel)) ggX7_common_X7_isVersion
set_option maxRecDepth 20000 in
theorem ggX7_common_X7_right : GoodIn wsX7_common wsX7_right := goodIn_r _ [23, 1, 28, 29, 30, 31, 32, 33, 34, 35, 36, 37, 38, 39, 40, 41, 42, 43, 44, 45, 46, 47, 48, 49, 50, 51, 52, 53] rfl (by decide +kernel)
set_option maxRecDepth 20000 in
theorem gX7_common_X7_right : GoodIn wsX7_common (wsV RX7 214 RX7 yX7_right wsX7_right) := goodIn_app (goodIn_of _ (by decide +kernel)) ggX7_common_X7_right
set_option maxRecDepth 20000 in
theorem ggX7_common_X7_of : GoodIn wsX7_common wsX7_of := goodIn_r _ [27, 11, 12, 13, 5, 14, 15, 16, 28, 29, 30, 31, 32, 33, 34, 35, 36, 37, 38, 39, 40, 41, 42, 43, 44, 45, 46, 47, 48, 49, 50, 51, 52, 53] rfl (by decide +kernel)
set_option maxRecDepth 20000 in
theorem gX7_common_X7_of : GoodIn wsX7_common (wsV RX7 105 RX7 yX7_of wsX7_of) := goodIn_app (goodIn_of _ (by decide +kernel)) ggX7_common_X7_of
set_option maxRecDepth 20000 in
theorem ggX7_workOfOther_X7_of : GoodIn wsX7_workOfOther wsX7_of := goodIn_r _ [11, 12, 13, 14, 10, 15, 16, 17, 18, 19, 20, 21, 22, 23, 24, 25, 26, 27, 28, 29, 30, 31, 32, 33, 34, 35, 36, 37, 38, 39, 40, 41, 42, 43] rfl (by decide +kernel)
set_option maxRecDepth 20000 in
theorem gX7_workOfOther_X7_of : GoodIn wsX7_workOfOther (wsV RX7 105 RX7 yX7_of wsX7_of) := goodIn_app (goodIn_of _ (by decide +kernel)) ggX7_workOfOther_X7_of
set_option maxRecDepth 20000 in
theorem ggX7_work_X7_isVersion : GoodIn wsX7_work wsX7_isVersion := goodIn_r _ [12, 13, 14, 15, 11, 16, 17, 18, 19, 20, 21, 22, 23, 24, 25, 42, 43, 44, 45, 46, 47, 48, 49, 50, 51, 52, 53, 54, 55, 56, 57, 58, 59, 60, 61, 62, 63, 64, 65, 66, 67] rfl (by decide +kernel)
set_option maxRecDepth 20000 in
theorem gX7_work_X7_isVersion : GoodIn wsX7_work (wsV RX7 238 RX7 yX7_isVersion wsX7_isVersion) := goodIn_app (goodIn_of _ (by decide +kernel)) ggX7_work_X7_isVersion
set_option maxRecDepth 20000 in
theorem ggX7_work_X7_right : GoodIn wsX7_work wsX7_right := goodIn_r _ [29, 1, 42, 43, 44, 45, 46, 47, 48, 49, 50, 51, 52, 53, 54, 55, 56, 57, 58, 59, 60, 61, 62, 63, 64, 65, 66, 67] rfl (by decide +kernel)
set_option maxRecDepth 20000 in
theorem gX7_work_X7_right : GoodIn wsX7_work (wsV RX7 214 RX7 yX7_right wsX7_right) := goodIn_app (goodIn_of _ (by decide +kernel)) ggX7_work_X7_right
set_option maxRecDepth 20000 in
theorem ggX7_work_X7_isIn : GoodIn wsX7_work wsX7_isIn := goodIn_r _ [25] rfl (by decide +kernel)
set_option maxRecDepth 20000 in
theorem gX7_work_X7_isIn : GoodIn wsX7_work (va_wsS RX7 69 yX7_isIn wsX7_isIn) := goodIn_app (goodIn_of _ (by decide +kernel)) ggX7_work_X7_isIn
set_option maxRecDepth 20000 in
theorem ggX7_work_X7_laysWay : GoodIn wsX7_work wsX7_laysWay := goodIn_r _ [33, 2, 3, 34, 35, 36, 11, 37, 17, 18, 19, 20, 21, 22, 42, 43, 44, 45, 46, 47, 48, 49, 50, 51, 52, 53, 54, 55, 56, 57, 58, 59, 60, 61, 62, 63, 64, 65, 66, 67] rfl (by decide +kernel)
set_option maxRecDepth 20000 in
theorem gX7_work_X7_laysWay : GoodIn wsX7_work (wsV RX7 112 RX7 yX7_laysWay wsX7_laysWay) := goodIn_app (goodIn_of _ (by decide +kernel)) ggX7_work_X7_laysWay
set_option maxRecDepth 20000 in
theorem ggX7_work_X7_workOfOther : GoodIn wsX7_work wsX7_workOfOther := goodIn_r _ [41, 2, 3, 4, 5, 6, 7, 34, 35, 36, 11, 37, 17, 18, 19, 20, 21, 22, 42, 43, 44, 45, 46, 47, 48, 49, 50, 51, 52, 53, 54, 55, 56, 57, 58, 59, 60, 61, 62, 63, 64, 65, 66, 67] rfl (by decide +kernel)
set_option maxRecDepth 20000 in
theorem gX7_work_X7_workOfOther : GoodIn wsX7_work (wsV RX7 248 RX7 yX7_workOfOther wsX7_workOfOther) := goodIn_app (goodIn_of _ (by decide +kernel)) ggX7_work_X7_workOfOther
set_option maxRecDepth 20000 in
theorem ggX7_work_X7_of : GoodIn wsX7_work wsX7_of := goodIn_r _ [37, 17, 18, 19, 11, 20, 21, 22, 42, 43, 44, 45, 46, 47, 48, 49, 50, 51, 52, 53, 54, 55, 56, 57, 58, 59, 60, 61, 62, 63, 64, 65, 66, 67] rfl (by decide +kernel)
set_option maxRecDepth 20000 in
theorem gX7_work_X7_of : GoodIn wsX7_work (wsV RX7 105 RX7 yX7_of wsX7_of) := goodIn_app (goodIn_of _ (by decide +kernel)) ggX7_work_X7_of
set_option maxRecDepth 20000 in
theorem ggX7_idleIn_X7_isVersion : GoodIn wsX7_idleIn wsX7_isVersion := goodIn_r _ [7, 8, 9, 10, 6, 11, 12, 13, 14, 15, 16, 17, 18, 19, 20, 86, 87, 88, 89, 90, 91, 92, 93, 94, 95, 96, 97, 98, 99, 100, 101, 102, 103, 104, 105, 106, 107, 108, 109, 110, 111] rfl (by decide +kernel)
set_option maxRecDepth 20000 in
theorem gX7_idleIn_X7_isVersion : GoodIn wsX7_idleIn (wsV RX7 238 RX7 yX7_isVersion wsX7_isVersion) := goodIn_app (goodIn_of _ (by decide +kernel)) ggX7_idleIn_X7_isVersion
set_option maxRecDepth 20000 in
theorem ggX7_idleIn_X7_right : GoodIn wsX7_idleIn wsX7_right := goodIn_r _ [24, 1, 86, 87, 88, 89, 90, 91, 92, 93, 94, 95, 96, 97, 98, 99, 100, 101, 102, 103, 104, 105, 106, 107, 108, 109, 110, 111] rfl (by decide +kernel)
set_option maxRecDepth 20000 in
theorem gX7_idleIn_X7_right : GoodIn wsX7_idleIn (wsV RX7 214 RX7 yX7_right wsX7_right) := goodIn_app (goodIn_of _ (by decide +kernel)) ggX7_idleIn_X7_right
set_option maxRecDepth 20000 in
theorem ggX7_idleIn_X7_length : GoodIn wsX7_idleIn wsX7_length := goodIn_r _ [28, 29, 30, 31, 32, 6, 33, 34, 35, 36, 37, 38, 39, 40, 41, 42, 43, 12, 13, 14, 15, 16, 17, 86, 87, 88, 89, 90, 91, 92, 93, 94, 95, 96, 97, 98, 99, 100, 101, 102, 103, 104, 105, 106, 107, 108, 109, 110, 111] rfl (by decide +kernel)
set_option maxRecDepth 20000 in
theorem gX7_idleIn_X7_length : GoodIn wsX7_idleIn (wsV RX7 128 RX7 yX7_length wsX7_length) := goodIn_app (goodIn_of _ (by decide +kernel)) ggX7_idleIn_X7_length
set_option maxRecDepth 20000 in
theorem ggX7_idleIn_X7_lays : GoodIn wsX7_idleIn wsX7_lays := goodIn_r _ [47, 34, 35, 36, 37, 38, 6, 39, 40, 41, 42, 43, 12, 13, 14, 15, 16, 17, 48, 49, 50, 51, 52, 53, 54, 2, 55, 56, 57, 58, 59, 60, 61, 62, 63, 64, 65, 66, 67, 68, 69, 70, 71, 72, 73, 74, 75, 76, 77, 78, 79, 80, 81, 82, 83, 84, 85, 86, 87, 88, 89, 90, 91, 92, 93, 94, 95, 96, 97, 98, 99, 100, 101, 102, 103, 104, 105, 106, 107, 108, 109, 110, 111] rfl (by decide +kernel)
set_option maxRecDepth 20000 in
theorem gX7_idleIn_X7_lays : GoodIn wsX7_idleIn (wsV RX7 131 RX7 yX7_lays wsX7_lays) := goodIn_app (goodIn_of _ (by decide +kernel)) ggX7_idleIn_X7_lays
set_option maxRecDepth 20000 in
theorem ggX7_idleIn_X7_get : GoodIn wsX7_idleIn wsX7_get := goodIn_r _ [15, 16, 17, 86, 87, 88, 89, 90, 91, 92, 93, 94, 95, 96, 97, 98, 99, 100, 101, 102, 103, 104, 105, 106, 107, 108, 109, 110, 111] rfl (by decide +kernel)
set_option maxRecDepth 20000 in
theorem gX7_idleIn_X7_get : GoodIn wsX7_idleIn (wsV RX7 50 RX7 yX7_get wsX7_get) := goodIn_app (goodIn_of _ (by decide +kernel)) ggX7_idleIn_X7_get
set_option maxRecDepth 20000 in
theorem ggX7_idleIn_X7_pops : GoodIn wsX7_idleIn wsX7_pops := goodIn_r _ [60, 53, 2, 55, 52, 61, 62, 63, 6, 64, 65, 66, 67, 68, 69, 54, 56, 70, 71, 72, 73, 74, 75, 76, 77, 78, 79, 80, 81, 86, 87, 88, 89, 90, 91, 92, 93, 94, 95, 96, 97, 98, 99, 100, 101, 102, 103, 104, 105, 106, 107, 108, 109, 110, 111] rfl (by decide +kernel)
set_option maxRecDepth 20000 in
theorem gX7_idleIn_X7_pops : GoodIn wsX7_idleIn (wsV RX7 118 RX7 yX7_pops wsX7_pops) := goodIn_app (goodIn_of _ (by decide +kernel)) ggX7_idleIn_X7_pops
set_option maxRecDepth 20000 in
theorem ggX7_gap_X7_versions : GoodIn wsX7_gap wsX7_versions := goodIn_r _ [6, 7, 8, 9, 5, 10, 11, 12, 84, 85, 86, 87, 88, 89, 90, 91, 92, 93, 94, 95, 96, 97, 98, 99, 100, 101, 102, 103, 104, 105, 106, 107, 108, 109] rfl (by decide +kernel)
set_option maxRecDepth 20000 in
theorem gX7_gap_X7_versions : GoodIn wsX7_gap (wsV RX7 65 RX7 yX7_versions wsX7_versions) := goodIn_app (goodIn_of _ (by decide +kernel)) ggX7_gap_X7_versions
set_option maxRecDepth 20000 in
theorem ggX7_gap_X7_isGap : GoodIn wsX7_gap wsX7_isGap := goodIn_r _ [16, 17, 18, 19, 20, 21, 5, 22, 23, 24, 25, 26, 27, 28, 29, 30, 31, 32, 33, 34, 35, 36, 7, 8, 9, 10, 11, 12, 37, 38, 39, 40, 41, 42, 43, 44, 45, 46, 47, 48, 49, 50, 51, 52, 53, 54, 55, 56, 57, 58, 59, 60, 61, 62, 63, 64, 65, 66, 67, 68, 69, 70, 71, 72, 73, 74, 75, 76, 77, 78, 79, 80, 81, 82, 83, 84, 85, 86, 87, 88, 89, 90, 91, 92, 93, 94, 95, 96, 97, 98, 99, 100, 101, 102, 103, 104, 105, 106, 107, 108, 109] rfl (by decide +kernel)
set_option maxRecDepth 20000 in
theorem gX7_gap_X7_isGap : GoodIn wsX7_gap (wsV RX7 252 RX7 yX7_isGap wsX7_isGap) := goodIn_app (goodIn_of _ (by decide +kernel)) ggX7_gap_X7_isGap
set_option maxRecDepth 20000 in
theorem ggX7_ranked_X7_versions : GoodIn wsX7_ranked wsX7_versions := goodIn_r _ [6, 7, 8, 9, 5, 10, 11, 12, 39, 40, 41, 42, 43, 44, 45, 46, 47, 48, 49, 50, 51, 52, 53, 54, 55, 56, 57, 58, 59, 60, 61, 62, 63, 64] rfl (by decide +kernel)
set_option maxRecDepth 20000 in
theorem gX7_ranked_X7_versions : GoodIn wsX7_ranked (wsV RX7 65 RX7 yX7_versions wsX7_versions) := goodIn_app (goodIn_of _ (by decide +kernel)) ggX7_ranked_X7_versions
set_option maxRecDepth 20000 in
theorem ggX7_ranked_X7_isIn : GoodIn wsX7_ranked wsX7_isIn := goodIn_r _ [15] rfl (by decide +kernel)
set_option maxRecDepth 20000 in
theorem gX7_ranked_X7_isIn : GoodIn wsX7_ranked (va_wsS RX7 69 yX7_isIn wsX7_isIn) := goodIn_app (goodIn_of _ (by decide +kernel)) ggX7_ranked_X7_isIn
set_option maxRecDepth 20000 in
theorem ggX7_ranked_X7_right : GoodIn wsX7_ranked wsX7_right := goodIn_r _ [19, 1, 39, 40, 41, 42, 43, 44, 45, 46, 47, 48, 49, 50, 51, 52, 53, 54, 55, 56, 57, 58, 59, 60, 61, 62, 63, 64] rfl (by decide +kernel)
set_option maxRecDepth 20000 in
theorem gX7_ranked_X7_right : GoodIn wsX7_ranked (wsV RX7 214 RX7 yX7_right wsX7_right) := goodIn_app (goodIn_of _ (by decide +kernel)) ggX7_ranked_X7_right
set_option maxRecDepth 20000 in
theorem ggX7_ranked_X7_length : GoodIn wsX7_ranked wsX7_length := goodIn_r _ [23, 24, 25, 26, 27, 5, 28, 29, 30, 31, 32, 33, 34, 35, 36, 37, 38, 7, 8, 9, 10, 11, 12, 39, 40, 41, 42, 43, 44, 45, 46, 47, 48, 49, 50, 51, 52, 53, 54, 55, 56, 57, 58, 59, 60, 61, 62, 63, 64] rfl (by decide +kernel)
set_option maxRecDepth 20000 in
theorem gX7_ranked_X7_length : GoodIn wsX7_ranked (wsV RX7 128 RX7 yX7_length wsX7_length) := goodIn_app (goodIn_of _ (by decide +kernel)) ggX7_ranked_X7_length
set_option maxRecDepth 20000 in
theorem ggX7_meanSteps_X7_versions : GoodIn wsX7_meanSteps wsX7_versions := goodIn_r _ [6, 7, 8, 9, 5, 10, 11, 12, 87, 88, 89, 90, 91, 92, 93, 94, 95, 96, 97, 98, 99, 100, 101, 102, 103, 104, 105, 106, 107, 108, 109, 110, 111, 112] rfl (by decide +kernel)
set_option maxRecDepth 20000 in
theorem gX7_meanSteps_X7_versions : GoodIn wsX7_meanSteps (wsV RX7 65 RX7 yX7_versions wsX7_versions) := goodIn_app (goodIn_of _ (by decide +kernel)) ggX7_meanSteps_X7_versions
set_option maxRecDepth 20000 in
theorem ggX7_meanSteps_X7_allOf : GoodIn wsX7_meanSteps wsX7_allOf := goodIn_r _ [16, 17, 18, 19, 20, 21, 2, 3, 4, 5, 6, 7, 8, 9, 10, 11, 12, 22, 23, 24, 25, 26, 27, 28, 29, 30, 31, 32, 33, 34, 35, 36, 37, 38, 39, 40, 41, 42, 43, 44, 45, 46, 47, 48, 49, 50, 51, 52, 53, 54, 55, 56, 57, 58, 59, 60, 61, 62, 63, 64, 65, 66, 67, 68, 69, 70, 71, 72, 73, 74, 75, 76, 77, 78, 79, 80, 81, 82, 83, 84, 85, 86, 87, 88, 89, 90, 91, 92, 93, 94, 95, 96, 97, 98, 99, 100, 101, 102, 103, 104, 105, 106, 107, 108, 109, 110, 111, 112] rfl (by decide +kernel)
set_option maxRecDepth 20000 in
theorem gX7_meanSteps_X7_allOf : GoodIn wsX7_meanSteps (wsV RX7 229 RX7 yX7_allOf wsX7_allOf) := goodIn_app (goodIn_of _ (by decide +kernel)) ggX7_meanSteps_X7_allOf
set_option maxRecDepth 20000 in
theorem ggX7_push_X7_isVersion : GoodIn wsX7_push wsX7_isVersion := goodIn_r _ [6, 7, 8, 9, 5, 10, 11, 12, 13, 14, 15, 16, 17, 18, 19, 94, 95, 96, 97, 98, 99, 100, 101, 102, 103, 104, 105, 106, 107, 108, 109, 110, 111, 112, 113, 114, 115, 116, 117, 118, 119] rfl (by decide +kernel)
set_option maxRecDepth 20000 in
theorem gX7_push_X7_isVersion : GoodIn wsX7_push (wsV RX7 238 RX7 yX7_isVersion wsX7_isVersion) := goodIn_app (goodIn_of _ (by decide +kernel)) ggX7_push_X7_isVersion
set_option maxRecDepth 20000 in
theorem ggX7_push_X7_right : GoodIn wsX7_push wsX7_right := goodIn_r _ [23, 1, 94, 95, 96, 97, 98, 99, 100, 101, 102, 103, 104, 105, 106, 107, 108, 109, 110, 111, 112, 113, 114, 115, 116, 117, 118, 119] rfl (by decide +kernel)
set_option maxRecDepth 20000 in
theorem gX7_push_X7_right : GoodIn wsX7_push (wsV RX7 214 RX7 yX7_right wsX7_right) := goodIn_app (goodIn_of _ (by decide +kernel)) ggX7_push_X7_right
set_option maxRecDepth 20000 in
theorem ggX7_push_X7_isIn : GoodIn wsX7_push wsX7_isIn := goodIn_r _ [19] rfl (by decide +kernel)
set_option maxRecDepth 20000 in
theorem gX7_push_X7_isIn : GoodIn wsX7_push (va_wsS RX7 69 yX7_isIn wsX7_isIn) := goodIn_app (goodIn_of _ (by decide +kernel)) ggX7_push_X7_isIn
set_option maxRecDepth 20000 in
theorem ggX7_push_X7_versions : GoodIn wsX7_push wsX7_versions := goodIn_r _ [10, 11, 12, 13, 5, 14, 15, 16, 94, 95, 96, 97, 98, 99, 100, 101, 102, 103, 104, 105, 106, 107, 108, 109, 110, 111, 112, 113, 114, 115, 116, 117, 118, 119] rfl (by decide +kernel)
set_option maxRecDepth 20000 in
theorem gX7_push_X7_versions : GoodIn wsX7_push (wsV RX7 65 RX7 yX7_versions wsX7_versions) := goodIn_app (goodIn_of _ (by decide +kernel)) ggX7_push_X7_versions
set_option maxRecDepth 20000 in
theorem ggX7_push_X7_change : GoodIn wsX7_push wsX7_change := goodIn_r _ [27, 16, 15, 28, 11, 12, 13, 5, 14, 94, 95, 96, 97, 98, 99, 100, 101, 102, 103, 104, 105, 106, 107, 108, 109, 110, 111, 112, 113, 114, 115, 116, 117, 118, 119] rfl (by decide +kernel)
set_option maxRecDepth 20000 in
theorem gX7_push_X7_change : GoodIn wsX7_push (wsV RX7 255 RX7 yX7_change wsX7_change) := goodIn_app (goodIn_of _ (by decide +kernel)) ggX7_push_X7_change
set_option maxRecDepth 20000 in
theorem ggX7_push_X7_makes : GoodIn wsX7_push wsX7_makes := goodIn_r _ [32, 33, 7, 8, 9, 5, 10, 11, 12, 13, 14, 15, 16, 34, 35, 36, 37, 38, 39, 40, 41, 42, 43, 44, 45, 46, 47, 48, 49, 50, 51, 52, 53, 54, 55, 56, 57, 58, 59, 60, 61, 62, 63, 64, 65, 66, 67, 68, 69, 70, 71, 72, 73, 74, 75, 76, 77, 78, 79, 80, 81, 82, 83, 84, 85, 86, 87, 88, 89, 90, 91, 92, 93, 94, 95, 96, 97, 98, 99, 100, 101, 102, 103, 104, 105, 106, 107, 108, 109, 110, 111, 112, 113, 114, 115, 116, 117, 118, 119] rfl (by decide +kernel)
set_option maxRecDepth 20000 in
theorem gX7_push_X7_makes : GoodIn wsX7_push (wsV RX7 187 RX7 yX7_makes wsX7_makes) := goodIn_app (goodIn_of _ (by decide +kernel)) ggX7_push_X7_makes
set_option maxRecDepth 20000 in
theorem ggX7_pop_X7_isVersion : GoodIn wsX7_pop wsX7_isVersion := goodIn_r _ [6, 7, 8, 9, 5, 10, 11, 12, 13, 14, 15, 16, 17, 18, 19, 103, 104, 105, 106, 107, 108, 109, 110, 111, 112, 113, 114, 115, 116, 117, 118, 119, 120, 121, 122, 123, 124, 125, 126, 127, 128] rfl (by decide +kernel)
set_option maxRecDepth 20000 in
theorem gX7_pop_X7_isVersion : GoodIn wsX7_pop (wsV RX7 238 RX7 yX7_isVersion wsX7_isVersion) := goodIn_app (goodIn_of _ (by decide +kernel)) ggX7_pop_X7_isVersion
set_option maxRecDepth 20000 in
theorem ggX7_pop_X7_right : GoodIn wsX7_pop wsX7_right := goodIn_r _ [23, 1, 103, 104, 105, 106, 107, 108, 109, 110, 111, 112, 113, 114, 115, 116, 117, 118, 119, 120, 121, 122, 123, 124, 125, 126, 127, 128] rfl (by decide +kernel)
set_option maxRecDepth 20000 in
theorem gX7_pop_X7_right : GoodIn wsX7_pop (wsV RX7 214 RX7 yX7_right wsX7_right) := goodIn_app (goodIn_of _ (by decide +kernel)) ggX7_pop_X7_right
set_option maxRecDepth 20000 in
theorem ggX7_pop_X7_length : GoodIn wsX7_pop wsX7_length := goodIn_r _ [27, 28, 29, 30, 31, 5, 32, 33, 34, 35, 36, 37, 38, 39, 40, 41, 42, 11, 12, 13, 14, 15, 16, 103, 104, 105, 106, 107, 108, 109, 110, 111, 112, 113, 114, 115, 116, 117, 118, 119, 120, 121, 122, 123, 124, 125, 126, 127, 128] rfl (by decide +kernel)
set_option maxRecDepth 20000 in
theorem gX7_pop_X7_length : GoodIn wsX7_pop (wsV RX7 128 RX7 yX7_length wsX7_length) := goodIn_app (goodIn_of _ (by decide +kernel)) ggX7_pop_X7_length
set_option maxRecDepth 20000 in
theorem ggX7_pop_X7_versions : GoodIn wsX7_pop wsX7_versions := goodIn_r _ [10, 11, 12, 13, 5, 14, 15, 16, 103, 104, 105, 106, 107, 108, 109, 110, 111, 112, 113, 114, 115, 116, 117, 118, 119, 120, 121, 122, 123, 124, 125, 126, 127, 128] rfl (by decide +kernel)
set_option maxRecDepth 20000 in
theorem gX7_pop_X7_versions : GoodIn wsX7_pop (wsV RX7 65 RX7 yX7_versions wsX7_versions) := goodIn_app (goodIn_of _ (by decide +kernel)) ggX7_pop_X7_versions
set_option maxRecDepth 20000 in
theorem ggX7_pop_X7_change : GoodIn wsX7_pop wsX7_change := goodIn_r _ [46, 16, 15, 47, 11, 12, 13, 5, 14, 103, 104, 105, 106, 107, 108, 109, 110, 111, 112, 113, 114, 115, 116, 117, 118, 119, 120, 121, 122, 123, 124, 125, 126, 127, 128] rfl (by decide +kernel)
set_option maxRecDepth 20000 in
theorem gX7_pop_X7_change : GoodIn wsX7_pop (wsV RX7 255 RX7 yX7_change wsX7_change) := goodIn_app (goodIn_of _ (by decide +kernel)) ggX7_pop_X7_change
set_option maxRecDepth 20000 in
theorem ggX7_pop_X7_makes : GoodIn wsX7_pop wsX7_makes := goodIn_r _ [51, 52, 7, 8, 9, 5, 10, 11, 12, 13, 14, 15, 16, 53, 54, 55, 56, 57, 58, 59, 60, 39, 40, 41, 42, 61, 62, 63, 64, 33, 34, 35, 36, 37, 38, 65, 66, 67, 68, 69, 70, 71, 72, 73, 74, 75, 76, 77, 78, 79, 80, 81, 82, 83, 84, 85, 86, 87, 88, 89, 90, 91, 92, 93, 94, 95, 96, 97, 98, 99, 100, 101, 102, 103, 104, 105, 106, 107, 108, 109, 110, 111, 112, 113, 114, 115, 116, 117, 118, 119, 120, 121, 122, 123, 124, 125, 126, 127, 128] rfl (by decide +kernel)
set_option maxRecDepth 20000 in
theorem gX7_pop_X7_makes : GoodIn wsX7_pop (wsV RX7 187 RX7 yX7_makes wsX7_makes) := goodIn_app (goodIn_of _ (by decide +kernel)) ggX7_pop_X7_makes
set_option maxRecDepth 20000 in
theorem ggX7_drop_X7_isVersion : GoodIn wsX7_drop wsX7_isVersion := goodIn_r _ [6, 7, 8, 9, 5, 10, 11, 12, 13, 14, 15, 16, 17, 18, 19, 45, 46, 47, 48, 49, 50, 51, 52, 53, 54, 55, 56, 57, 58, 59, 60, 61, 62, 63, 64, 65, 66, 67, 68, 69, 70] rfl (by decide +kernel)
set_option maxRecDepth 20000 in
theorem gX7_drop_X7_isVersion : GoodIn wsX7_drop (wsV RX7 238 RX7 yX7_isVersion wsX7_isVersion) := goodIn_app (goodIn_of _ (by decide +kernel)) ggX7_drop_X7_isVersion
set_option maxRecDepth 20000 in
theorem ggX7_drop_X7_right : GoodIn wsX7_drop wsX7_right := goodIn_r _ [23, 1, 45, 46, 47, 48, 49, 50, 51, 52, 53, 54, 55, 56, 57, 58, 59, 60, 61, 62, 63, 64, 65, 66, 67, 68, 69, 70] rfl (by decide +kernel)
set_option maxRecDepth 20000 in
theorem gX7_drop_X7_right : GoodIn wsX7_drop (wsV RX7 214 RX7 yX7_right wsX7_right) := goodIn_app (goodIn_of _ (by decide +kernel)) ggX7_drop_X7_right
set_option maxRecDepth 20000 in
theorem ggX7_drop_X7_children : GoodIn wsX7_drop wsX7_children := goodIn_r _ [27, 7, 8, 9, 5, 10, 11, 12, 13, 14, 15, 16, 28, 29, 30, 31, 45, 46, 47, 48, 49, 50, 51, 52, 53, 54, 55, 56, 57, 58, 59, 60, 61, 62, 63, 64, 65, 66, 67, 68, 69, 70] rfl (by decide +kernel)
set_option maxRecDepth 20000 in
theorem gX7_drop_X7_children : GoodIn wsX7_drop (wsV RX7 221 RX7 yX7_children wsX7_children) := goodIn_app (goodIn_of _ (by decide +kernel)) ggX7_drop_X7_children
set_option maxRecDepth 20000 in
theorem ggX7_drop_X7_change : GoodIn wsX7_drop wsX7_change := goodIn_r _ [35, 16, 15, 36, 11, 12, 13, 5, 14, 45, 46, 47, 48, 49, 50, 51, 52, 53, 54, 55, 56, 57, 58, 59, 60, 61, 62, 63, 64, 65, 66, 67, 68, 69, 70] rfl (by decide +kernel)
set_option maxRecDepth 20000 in
theorem gX7_drop_X7_change : GoodIn wsX7_drop (wsV RX7 255 RX7 yX7_change wsX7_change) := goodIn_app (goodIn_of _ (by decide +kernel)) ggX7_drop_X7_change
set_option maxRecDepth 20000 in
theorem ggX7_drop_X7_versions : GoodIn wsX7_drop wsX7_versions := goodIn_r _ [10, 11, 12, 13, 5, 14, 15, 16, 45, 46, 47, 48, 49, 50, 51, 52, 53, 54, 55, 56, 57, 58, 59, 60, 61, 62, 63, 64, 65, 66, 67, 68, 69, 70] rfl (by decide +kernel)
set_option maxRecDepth 20000 in
theorem gX7_drop_X7_versions : GoodIn wsX7_drop (wsV RX7 65 RX7 yX7_versions wsX7_versions) := goodIn_app (goodIn_of _ (by decide +kernel)) ggX7_drop_X7_versions
set_option maxRecDepth 20000 in
theorem ggX7_drop_X7_of : GoodIn wsX7_drop wsX7_of := goodIn_r _ [31, 11, 12, 13, 5, 14, 15, 16, 45, 46, 47, 48, 49, 50, 51, 52, 53, 54, 55, 56, 57, 58, 59, 60, 61, 62, 63, 64, 65, 66, 67, 68, 69, 70] rfl (by decide +kernel)
set_option maxRecDepth 20000 in
theorem gX7_drop_X7_of : GoodIn wsX7_drop (wsV RX7 105 RX7 yX7_of wsX7_of) := goodIn_app (goodIn_of _ (by decide +kernel)) ggX7_drop_X7_of
set_option maxRecDepth 20000 in
theorem ggX7_drop_X7_puts : GoodIn wsX7_drop wsX7_puts := goodIn_r _ [40, 41, 42, 43, 5, 44, 15, 16, 45, 46, 47, 48, 49, 50, 51, 52, 53, 54, 55, 56, 57, 58, 59, 60, 61, 62, 63, 64, 65, 66, 67, 68, 69, 70] rfl (by decide +kernel)
set_option maxRecDepth 20000 in
theorem gX7_drop_X7_puts : GoodIn wsX7_drop (wsV RX7 61 RX7 yX7_puts wsX7_puts) := goodIn_app (goodIn_of _ (by decide +kernel)) ggX7_drop_X7_puts
set_option maxRecDepth 20000 in
theorem ggX7_drop_X7_put : GoodIn wsX7_drop wsX7_put := goodIn_r _ [44, 15, 16, 45, 46, 47, 48, 49, 50, 51, 52, 53, 54, 55, 56, 57, 58, 59, 60, 61, 62, 63, 64, 65, 66, 67, 68, 69, 70] rfl (by decide +kernel)
set_option maxRecDepth 20000 in
theorem gX7_drop_X7_put : GoodIn wsX7_drop (wsV RX7 54 RX7 yX7_put wsX7_put) := goodIn_app (goodIn_of _ (by decide +kernel)) ggX7_drop_X7_put
set_option maxRecDepth 20000 in
theorem ggX7_drop_X7_get : GoodIn wsX7_drop wsX7_get := goodIn_r _ [14, 15, 16, 45, 46, 47, 48, 49, 50, 51, 52, 53, 54, 55, 56, 57, 58, 59, 60, 61, 62, 63, 64, 65, 66, 67, 68, 69, 70] rfl (by decide +kernel)
set_option maxRecDepth 20000 in
theorem gX7_drop_X7_get : GoodIn wsX7_drop (wsV RX7 50 RX7 yX7_get wsX7_get) := goodIn_app (goodIn_of _ (by decide +kernel)) ggX7_drop_X7_get
set_option maxRecDepth 20000 in
theorem ggX7_rule_X7_isIn : GoodIn wsX7_rule wsX7_isIn := goodIn_r _ [5] rfl (by decide +kernel)
set_option maxRecDepth 20000 in
theorem gX7_rule_X7_isIn : GoodIn wsX7_rule (va_wsS RX7 69 yX7_isIn wsX7_isIn) := goodIn_app (goodIn_of _ (by decide +kernel)) ggX7_rule_X7_isIn
set_option maxRecDepth 20000 in
theorem ggX7_rule_X7_right : GoodIn wsX7_rule wsX7_right := goodIn_r _ [9, 1, 25, 26, 27, 28, 29, 30, 31, 32, 33, 34, 35, 36, 37, 38, 39, 40, 41, 42, 43, 44, 45, 46, 47, 48, 49, 50] rfl (by decide +kernel)
set_option maxRecDepth 20000 in
theorem gX7_rule_X7_right : GoodIn wsX7_rule (wsV RX7 214 RX7 yX7_right wsX7_right) := goodIn_app (goodIn_of _ (by decide +kernel)) ggX7_rule_X7_right
set_option maxRecDepth 20000 in
theorem ggX7_rule_X7_change : GoodIn wsX7_rule wsX7_change := goodIn_r _ [13, 14, 15, 16, 17, 18, 19, 4, 20, 25, 26, 27, 28, 29, 30, 31, 32, 33, 34, 35, 36, 37, 38, 39, 40, 41, 42, 43, 44, 45, 46, 47, 48, 49, 50] rfl (by decide +kernel)
set_option maxRecDepth 20000 in
theorem gX7_rule_X7_change : GoodIn wsX7_rule (wsV RX7 255 RX7 yX7_change wsX7_change) := goodIn_app (goodIn_of _ (by decide +kernel)) ggX7_rule_X7_change
set_option maxRecDepth 20000 in
theorem ggX7_rule_X7_get : GoodIn wsX7_rule wsX7_get := goodIn_r _ [20, 15, 14, 25, 26, 27, 28, 29, 30, 31, 32, 33, 34, 35, 36, 37, 38, 39, 40, 41, 42, 43, 44, 45, 46, 47, 48, 49, 50] rfl (by decide +kernel)
set_option maxRecDepth 20000 in
theorem gX7_rule_X7_get : GoodIn wsX7_rule (wsV RX7 50 RX7 yX7_get wsX7_get) := goodIn_app (goodIn_of _ (by decide +kernel)) ggX7_rule_X7_get
set_option maxRecDepth 20000 in
theorem ggX7_rule_X7_put : GoodIn wsX7_rule wsX7_put := goodIn_r _ [24, 15, 14, 25, 26, 27, 28, 29, 30, 31, 32, 33, 34, 35, 36, 37, 38, 39, 40, 41, 42, 43, 44, 45, 46, 47, 48, 49, 50] rfl (by decide +kernel)
set_option maxRecDepth 20000 in
theorem gX7_rule_X7_put : GoodIn wsX7_rule (wsV RX7 54 RX7 yX7_put wsX7_put) := goodIn_app (goodIn_of _ (by decide +kernel)) ggX7_rule_X7_put
set_option maxRecDepth 20000 in
theorem ggX7_joinsVersion_X7_toldOfVersion : GoodIn wsX7_joinsVersion wsX7_toldOfVersion := goodIn_r _ [8, 9, 10, 11, 12, 13, 14, 15, 16, 7, 17, 18, 19, 20, 21, 22, 23, 24, 25, 26, 27, 28, 29, 30, 31, 32, 33, 34, 35, 36, 37, 38, 39, 40, 41, 42, 43, 44, 45, 46, 2, 47, 48, 49, 50, 51, 52, 53, 54, 55, 56, 57, 58, 59, 60, 61, 62, 63, 64, 65, 66, 67, 68, 69, 70, 71, 72, 73, 74, 91, 92, 93, 94, 95, 96, 97, 98, 99, 100, 101, 102, 103, 104, 105, 106, 107, 108, 109, 110, 111, 112, 113, 114, 115, 116] rfl (by decide +kernel)
set_option maxRecDepth 20000 in
theorem gX7_joinsVersion_X7_toldOfVersion : GoodIn wsX7_joinsVersion (wsV RX7 241 RX7 yX7_toldOfVersion wsX7_toldOfVersion) := goodIn_app (goodIn_of _ (by decide +kernel)) ggX7_joinsVersion_X7_toldOfVersion
set_option maxRecDepth 20000 in
theorem ggX7_joinsVersion_X7_joins : GoodIn wsX7_joinsVersion wsX7_joins := goodIn_r _ [77, 78] rfl (by decide +kernel)
set_option maxRecDepth 20000 in
theorem gX7_joinsVersion_X7_joins : GoodIn wsX7_joinsVersion (va_wsS RX7 260 yX7_joins wsX7_joins) := goodIn_app (goodIn_of _ (by decide +kernel)) ggX7_joinsVersion_X7_joins
set_option maxRecDepth 20000 in
theorem ggX7_joinsVersion_X7_length : GoodIn wsX7_joinsVersion wsX7_length := goodIn_r _ [82, 1, 83, 84, 85, 7, 86, 18, 19, 20, 21, 22, 23, 24, 25, 26, 27, 28, 29, 30, 31, 32, 33, 91, 92, 93, 94, 95, 96, 97, 98, 99, 100, 101, 102, 103, 104, 105, 106, 107, 108, 109, 110, 111, 112, 113, 114, 115, 116] rfl (by decide +kernel)
set_option maxRecDepth 20000 in
theorem gX7_joinsVersion_X7_length : GoodIn wsX7_joinsVersion (wsV RX7 128 RX7 yX7_length wsX7_length) := goodIn_app (goodIn_of _ (by decide +kernel)) ggX7_joinsVersion_X7_length
set_option maxRecDepth 20000 in
theorem ggX7_joinsVersion_X7_lays : GoodIn wsX7_joinsVersion wsX7_lays := goodIn_r _ [17, 18, 19, 20, 21, 22, 7, 23, 24, 25, 26, 27, 28, 29, 30, 31, 32, 33, 34, 35, 36, 37, 13, 9, 10, 11, 12, 38, 39, 40, 41, 42, 43, 44, 45, 46, 2, 47, 48, 49, 50, 51, 52, 53, 54, 55, 56, 57, 58, 59, 60, 61, 62, 63, 64, 65, 66, 91, 92, 93, 94, 95, 96, 97, 98, 99, 100, 101, 102, 103, 104, 105, 106, 107, 108, 109, 110, 111, 112, 113, 114, 115, 116] rfl (by decide +kernel)
set_option maxRecDepth 20000 in
theorem gX7_joinsVersion_X7_lays : GoodIn wsX7_joinsVersion (wsV RX7 131 RX7 yX7_lays wsX7_lays) := goodIn_app (goodIn_of _ (by decide +kernel)) ggX7_joinsVersion_X7_lays
set_option maxRecDepth 20000 in
theorem ggX7_joinsVersion_X7_manyIn : GoodIn wsX7_joinsVersion wsX7_manyIn := goodIn_r _ [90, 11, 13, 91, 92, 93, 94, 95, 96, 97, 98, 99, 100, 101, 102, 103, 104, 105, 106, 107, 108, 109, 110, 111, 112, 113, 114, 115, 116] rfl (by decide +kernel)
set_option maxRecDepth 20000 in
theorem gX7_joinsVersion_X7_manyIn : GoodIn wsX7_joinsVersion (wsV RX7 232 RX7 yX7_manyIn wsX7_manyIn) := goodIn_app (goodIn_of _ (by decide +kernel)) ggX7_joinsVersion_X7_manyIn
set_option maxRecDepth 20000 in
theorem ggX7_checksum_X7_toldOf : GoodIn wsX7_checksum wsX7_toldOf := goodIn_r _ [6, 7, 8, 9, 10, 5, 11, 12, 13, 14, 15, 16, 17, 18, 19, 20, 21, 22, 23, 24, 25, 26, 27, 28, 29, 30, 31, 32, 33, 34, 35, 36, 37, 38, 39, 40, 41, 42, 43, 44, 45, 46, 47, 48, 49, 50, 51, 52, 53, 54, 55, 56, 57, 58, 59, 60, 61, 62, 63, 64, 65, 66, 67, 68, 69, 70, 71, 72, 73, 74, 75, 76, 77, 78, 79, 80, 81, 82, 83, 84, 85, 86, 87, 88, 89, 90, 91, 109, 110, 111, 112, 113, 114, 115, 116, 117, 118, 119, 120, 121, 122, 123, 124, 125, 126, 127, 128, 129, 130, 131, 132, 133, 134] rfl (by decide +kernel)
set_option maxRecDepth 20000 in
theorem gX7_checksum_X7_toldOf : GoodIn wsX7_checksum (wsV RX7 235 RX7 yX7_toldOf wsX7_toldOf) := goodIn_app (goodIn_of _ (by decide +kernel)) ggX7_checksum_X7_toldOf
set_option maxRecDepth 20000 in
theorem ggX7_checksum_X7_joins : GoodIn wsX7_checksum wsX7_joins := goodIn_r _ [94, 95] rfl (by decide +kernel)
set_option maxRecDepth 20000 in
theorem gX7_checksum_X7_joins : GoodIn wsX7_checksum (va_wsS RX7 260 yX7_joins wsX7_joins) := goodIn_app (goodIn_of _ (by decide +kernel)) ggX7_checksum_X7_joins
set_option maxRecDepth 20000 in
theorem ggX7_checksum_X7_versions : GoodIn wsX7_checksum wsX7_versions := goodIn_r _ [26, 8, 9, 10, 5, 11, 12, 13, 109, 110, 111, 112, 113, 114, 115, 116, 117, 118, 119, 120, 121, 122, 123, 124, 125, 126, 127, 128, 129, 130, 131, 132, 133, 134] rfl (by decide +kernel)
set_option maxRecDepth 20000 in
theorem gX7_checksum_X7_versions : GoodIn wsX7_checksum (wsV RX7 65 RX7 yX7_versions wsX7_versions) := goodIn_app (goodIn_of _ (by decide +kernel)) ggX7_checksum_X7_versions
set_option maxRecDepth 20000 in
theorem ggX7_checksum_X7_joinsVersion : GoodIn wsX7_checksum wsX7_joinsVersion := goodIn_r _ [99, 39, 71, 100, 101, 102, 103, 5, 104, 59, 60, 18, 61, 58, 50, 51, 52, 53, 44, 45, 46, 47, 48, 49, 31, 32, 33, 34, 8, 9, 10, 11, 12, 13, 54, 55, 56, 57, 62, 63, 64, 65, 66, 67, 68, 69, 70, 72, 73, 74, 75, 76, 77, 78, 79, 80, 81, 82, 83, 84, 85, 86, 87, 88, 89, 90, 91, 27, 28, 29, 30, 23, 24, 25, 26, 92, 93, 94, 95, 35, 36, 37, 38, 40, 41, 42, 43, 105, 106, 107, 108, 109, 110, 111, 112, 113, 114, 115, 116, 117, 118, 119, 120, 121, 122, 123, 124, 125, 126, 127, 128, 129, 130, 131, 132, 133, 134] rfl (by decide +kernel)
set_option maxRecDepth 20000 in
theorem gX7_checksum_X7_joinsVersion : GoodIn wsX7_checksum (wsV RX7 266 RX7 yX7_joinsVersion wsX7_joinsVersion) := goodIn_app (goodIn_of _ (by decide +kernel)) ggX7_checksum_X7_joinsVersion
