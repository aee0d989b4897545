set_option maxRecDepth 20000 in
theorem ggX6_checksum_X6_mixedWithLists : GoodIn wsX6_checksum wsX6_mixedWithLists := goodIn_r _ [84, 85, 86, 87, 88, 89, 90, 54, 91, 92, 93, 94, 95, 96, 97, 98, 99, 100, 78, 101, 102, 80, 103, 104, 105, 106, 77, 79, 58, 59, 60, 61, 62, 107, 108, 109, 110, 111, 112, 113, 114, 115, 116, 117, 118, 119, 120, 121, 122, 142, 143, 127, 128, 129, 130, 131, 132, 133, 134, 135, 136, 137, 138, 139, 140, 141] (by decide +kernel) (by decide +kernel)
set_option maxRecDepth 20000 in
theorem gX6_checksum_X6_mixedWithLists : GoodIn wsX6_checksum (wsV RX6 228 RX6 yX6_mixedWithLists wsX6_mixedWithLists) := goodIn_app (goodIn_of _ (by decide +kernel)) ggX6_checksum_X6_mixedWithLists
set_option maxRecDepth 20000 in
theorem ggX6_mixedWithLists_X5_valuesInto : GoodIn wsX6_mixedWithLists wsX5_valuesInto := goodIn_r _ [8, 9, 10, 11, 12, 13, 14, 15, 16, 17, 18, 19, 20, 21, 22, 23, 24, 25, 26, 27, 51, 52, 53, 54, 55, 56, 57, 58, 59, 60, 61, 62, 63, 64, 65, 49, 50] (by decide +kernel) (by decide +kernel)
set_option maxRecDepth 20000 in
theorem gX6_mixedWithLists_X5_valuesInto : GoodIn wsX6_mixedWithLists (wsV RX6 115 RX5 yX5_valuesInto wsX5_valuesInto) := goodIn_app (goodIn_of _ (by decide +kernel)) ggX6_mixedWithLists_X5_valuesInto
set_option maxRecDepth 20000 in
theorem ggX6_mixedWithLists_X6_mixed : GoodIn wsX6_mixedWithLists wsX6_mixed := goodIn_r _ [31, 32] (by decide +kernel) (by decide +kernel)
set_option maxRecDepth 20000 in
theorem gX6_mixedWithLists_X6_mixed : GoodIn wsX6_mixedWithLists (va_wsS RX6 224 yX6_mixed wsX6_mixed) := goodIn_app (goodIn_of _ (by decide +kernel)) ggX6_mixedWithLists_X6_mixed
set_option maxRecDepth 20000 in
theorem ggX6_mixedWithLists_X5_listOf : GoodIn wsX6_mixedWithLists wsX5_listOf := goodIn_r _ [36, 12, 15, 9, 37, 38, 13, 14, 51, 52, 53, 54, 55, 56, 57, 58, 59, 60, 61, 62, 63, 64, 65] (by decide +kernel) (by decide +kernel)
set_option maxRecDepth 20000 in
theorem gX6_mixedWithLists_X5_listOf : GoodIn wsX6_mixedWithLists (wsV RX6 105 RX5 yX5_listOf wsX5_listOf) := goodIn_app (goodIn_of _ (by decide +kernel)) ggX6_mixedWithLists_X5_listOf
set_option maxRecDepth 20000 in
theorem ggX6_freshDraft_X6_following : GoodIn wsX6_freshDraft wsX6_following := goodIn_r _ [6] (by decide +kernel) (by decide +kernel)
set_option maxRecDepth 20000 in
theorem gX6_freshDraft_X6_following : GoodIn wsX6_freshDraft (va_wsS RX6 72 yX6_following wsX6_following) := goodIn_app (goodIn_of _ (by decide +kernel)) ggX6_freshDraft_X6_following
set_option maxRecDepth 20000 in
theorem ggX6_freshDraft_X0_copyFrom : GoodIn wsX6_freshDraft wsX0_copyFrom := goodIn_r _ [11, 12, 13, 14, 15, 26, 27, 28, 29] (by decide +kernel) (by decide +kernel)
set_option maxRecDepth 20000 in
theorem gX6_freshDraft_X0_copyFrom : GoodIn wsX6_freshDraft (wsV RX6 248 RX0 yX0_copyFrom wsX0_copyFrom) := goodIn_app (goodIn_of _ (by decide +kernel)) ggX6_freshDraft_X0_copyFrom
set_option maxRecDepth 20000 in
theorem ggX6_keepDraft_X6_following : GoodIn wsX6_keepDraft wsX6_following := goodIn_r _ [6] (by decide +kernel) (by decide +kernel)
set_option maxRecDepth 20000 in
theorem gX6_keepDraft_X6_following : GoodIn wsX6_keepDraft (va_wsS RX6 72 yX6_following wsX6_following) := goodIn_app (goodIn_of _ (by decide +kernel)) ggX6_keepDraft_X6_following
set_option maxRecDepth 20000 in
theorem ggX7_init_X7_begins : GoodIn wsX7_init wsX7_begins := goodIn_r _ [19, 20, 21, 22, 18, 23, 5, 24, 25, 26, 27, 28, 29, 30, 31, 32, 33, 34, 35, 36, 37, 38, 39, 40, 41, 42, 43, 44, 45, 46, 47, 48, 49, 50, 51, 52, 53, 54] (by decide +kernel) (by decide +kernel)
set_option maxRecDepth 20000 in
theorem gX7_init_X7_begins : GoodIn wsX7_init (wsV RX7 41 RX7 yX7_begins wsX7_begins) := goodIn_app (goodIn_of _ (by decide +kernel)) ggX7_init_X7_begins
set_option maxRecDepth 20000 in
theorem ggX7_of_X7_get : GoodIn wsX7_of wsX7_get := goodIn_r _ [5, 6, 7, 8, 9, 10, 11, 12, 13, 14, 15, 16, 17, 18, 19, 20, 21, 22, 23, 24, 25, 26, 27, 28, 29, 30, 31, 32, 33] (by decide +kernel) (by decide +kernel)
set_option maxRecDepth 20000 in
theorem gX7_of_X7_get : GoodIn wsX7_of (wsV RX7 50 RX7 yX7_get wsX7_get) := goodIn_app (goodIn_of _ (by decide +kernel)) ggX7_of_X7_get
set_option maxRecDepth 20000 in
theorem ggX7_puts_X7_put : GoodIn wsX7_puts wsX7_put := goodIn_r _ [5, 6, 7, 8, 9, 10, 11, 12, 13, 14, 15, 16, 17, 18, 19, 20, 21, 22, 23, 24, 25, 26, 27, 28, 29, 30, 31, 32, 33] (by decide +kernel) (by decide +kernel)
set_option maxRecDepth 20000 in
theorem gX7_puts_X7_put : GoodIn wsX7_puts (wsV RX7 54 RX7 yX7_put wsX7_put) := goodIn_app (goodIn_of _ (by decide +kernel)) ggX7_puts_X7_put
set_option maxRecDepth 20000 in
theorem ggX7_change_X7_get : GoodIn wsX7_change wsX7_get := goodIn_r _ [8, 2, 1, 9, 10, 11, 12, 13, 14, 15, 16, 17, 18, 19, 20, 21, 22, 23, 24, 25, 26, 27, 28, 29, 30, 31, 32, 33, 34] (by decide +kernel) (by decide +kernel)
set_option maxRecDepth 20000 in
theorem gX7_change_X7_get : GoodIn wsX7_change (wsV RX7 50 RX7 yX7_get wsX7_get) := goodIn_app (goodIn_of _ (by decide +kernel)) ggX7_change_X7_get
set_option maxRecDepth 20000 in
theorem ggX7_begins_X7_put : GoodIn wsX7_begins wsX7_put := goodIn_r _ [5, 6, 7, 12, 13, 14, 15, 16, 17, 18, 19, 20, 21, 22, 23, 24, 25, 26, 27, 28, 29, 30, 31, 32, 33, 34, 35, 36, 37] (by decide +kernel) (by decide +kernel)
set_option maxRecDepth 20000 in
theorem gX7_begins_X7_put : GoodIn wsX7_begins (wsV RX7 54 RX7 yX7_put wsX7_put) := goodIn_app (goodIn_of _ (by decide +kernel)) ggX7_begins_X7_put
set_option maxRecDepth 20000 in
theorem ggX7_begins_X7_puts : GoodIn wsX7_begins wsX7_puts := goodIn_r _ [11, 1, 2, 3, 4, 5, 6, 7, 12, 13, 14, 15, 16, 17, 18, 19, 20, 21, 22, 23, 24, 25, 26, 27, 28, 29, 30, 31, 32, 33, 34, 35, 36, 37] (by decide +kernel) (by decide +kernel)
set_option maxRecDepth 20000 in
theorem gX7_begins_X7_puts : GoodIn wsX7_begins (wsV RX7 61 RX7 yX7_puts wsX7_puts) := goodIn_app (goodIn_of _ (by decide +kernel)) ggX7_begins_X7_puts
set_option maxRecDepth 20000 in
theorem ggX7_versions_X7_get : GoodIn wsX7_versions wsX7_get := goodIn_r _ [5, 6, 7, 8, 9, 10, 11, 12, 13, 14, 15, 16, 17, 18, 19, 20, 21, 22, 23, 24, 25, 26, 27, 28, 29, 30, 31, 32, 33] (by decide +kernel) (by decide +kernel)
set_option maxRecDepth 20000 in
theorem gX7_versions_X7_get : GoodIn wsX7_versions (wsV RX7 50 RX7 yX7_get wsX7_get) := goodIn_app (goodIn_of _ (by decide +kernel)) ggX7_versions_X7_get
set_option maxRecDepth 20000 in
theorem ggX7_isVersion_X7_versions : GoodIn wsX7_isVersion wsX7_versions := goodIn_r _ [5, 6, 7, 8, 4, 9, 10, 11, 15, 16, 17, 18, 19, 20, 21, 22, 23, 24, 25, 26, 27, 28, 29, 30, 31, 32, 33, 34, 35, 36, 37, 38, 39, 40] (by decide +kernel) (by decide +kernel)
set_option maxRecDepth 20000 in
theorem gX7_isVersion_X7_versions : GoodIn wsX7_isVersion (wsV RX7 65 RX7 yX7_versions wsX7_versions) := goodIn_app (goodIn_of _ (by decide +kernel)) ggX7_isVersion_X7_versions
set_option maxRecDepth 20000 in
theorem ggX7_isVersion_X7_isIn : GoodIn wsX7_isVersion wsX7_isIn := goodIn_r _ [14] (by decide +kernel) (by decide +kernel)
set_option maxRecDepth 20000 in
theorem gX7_isVersion_X7_isIn : GoodIn wsX7_isVersion (va_wsS RX7 69 yX7_isIn wsX7_isIn) := goodIn_app (goodIn_of _ (by decide +kernel)) ggX7_isVersion_X7_isIn
set_option maxRecDepth 20000 in
theorem ggX7_isStep_X7_takes : GoodIn wsX7_isStep wsX7_takes := goodIn_r _ [8, 2, 9, 14, 15, 16, 17, 18, 19, 20, 21, 22, 23, 24, 25, 26, 27, 28, 29, 30, 31, 32, 33, 34, 35, 36, 37, 38, 39] (by decide +kernel) (by decide +kernel)
set_option maxRecDepth 20000 in
theorem gX7_isStep_X7_takes : GoodIn wsX7_isStep (wsV RX7 88 RX7 yX7_takes wsX7_takes) := goodIn_app (goodIn_of _ (by decide +kernel)) ggX7_isStep_X7_takes
set_option maxRecDepth 20000 in
theorem ggX7_isStep_X7_ahead : GoodIn wsX7_isStep wsX7_ahead := goodIn_r _ [13, 9, 2, 14, 15, 16, 17, 18, 19, 20, 21, 22, 23, 24, 25, 26, 27, 28, 29, 30, 31, 32, 33, 34, 35, 36, 37, 38, 39] (by decide +kernel) (by decide +kernel)
set_option maxRecDepth 20000 in
theorem gX7_isStep_X7_ahead : GoodIn wsX7_isStep (wsV RX7 91 RX7 yX7_ahead wsX7_ahead) := goodIn_app (goodIn_of _ (by decide +kernel)) ggX7_isStep_X7_ahead
set_option maxRecDepth 20000 in
theorem ggX7_settles_X7_becomes : GoodIn wsX7_settles wsX7_becomes := goodIn_r _ [11, 5, 12, 25, 26, 27, 28, 29, 30, 31, 32, 33, 34, 35, 36, 37, 38, 39, 40, 41, 42, 43, 44, 45, 46, 47, 48, 49, 50] (by decide +kernel) (by decide +kernel)
set_option maxRecDepth 20000 in
theorem gX7_settles_X7_becomes : GoodIn wsX7_settles (wsV RX7 94 RX7 yX7_becomes wsX7_becomes) := goodIn_app (goodIn_of _ (by decide +kernel)) ggX7_settles_X7_becomes
set_option maxRecDepth 20000 in
theorem ggX7_settles_X7_isStep : GoodIn wsX7_settles wsX7_isStep := goodIn_r _ [16, 3, 5, 4, 17, 18, 19, 10, 20, 12, 21, 22, 23, 24, 25, 26, 27, 28, 29, 30, 31, 32, 33, 34, 35, 36, 37, 38, 39, 40, 41, 42, 43, 44, 45, 46, 47, 48, 49, 50] (by decide +kernel) (by decide +kernel)
set_option maxRecDepth 20000 in
theorem gX7_settles_X7_isStep : GoodIn wsX7_settles (wsV RX7 97 RX7 yX7_isStep wsX7_isStep) := goodIn_app (goodIn_of _ (by decide +kernel)) ggX7_settles_X7_isStep
set_option maxRecDepth 20000 in
theorem ggX7_pushes_X7_ahead : GoodIn wsX7_pushes wsX7_ahead := goodIn_r _ [6, 7, 8, 29, 30, 31, 32, 33, 34, 35, 36, 37, 38, 39, 40, 41, 42, 43, 44, 45, 46, 47, 48, 49, 50, 51, 52, 53, 54] (by decide +kernel) (by decide +kernel)
set_option maxRecDepth 20000 in
theorem gX7_pushes_X7_ahead : GoodIn wsX7_pushes (wsV RX7 91 RX7 yX7_ahead wsX7_ahead) := goodIn_app (goodIn_of _ (by decide +kernel)) ggX7_pushes_X7_ahead
set_option maxRecDepth 20000 in
theorem ggX7_pushes_X7_settles : GoodIn wsX7_pushes wsX7_settles := goodIn_r _ [12, 1, 13, 14, 15, 8, 16, 17, 18, 19, 5, 20, 7, 21, 22, 23, 24, 25, 26, 27, 28, 2, 3, 4, 6, 29, 30, 31, 32, 33, 34, 35, 36, 37, 38, 39, 40, 41, 42, 43, 44, 45, 46, 47, 48, 49, 50, 51, 52, 53, 54] (by decide +kernel) (by decide +kernel)
set_option maxRecDepth 20000 in
theorem gX7_pushes_X7_settles : GoodIn wsX7_pushes (wsV RX7 101 RX7 yX7_settles wsX7_settles) := goodIn_app (goodIn_of _ (by decide +kernel)) ggX7_pushes_X7_settles
set_option maxRecDepth 20000 in
theorem ggX7_pops_X7_takes : GoodIn wsX7_pops wsX7_takes := goodIn_r _ [9, 4, 10, 29, 30, 31, 32, 33, 34, 35, 36, 37, 38, 39, 40, 41, 42, 43, 44, 45, 46, 47, 48, 49, 50, 51, 52, 53, 54] (by decide +kernel) (by decide +kernel)
set_option maxRecDepth 20000 in
theorem gX7_pops_X7_takes : GoodIn wsX7_pops (wsV RX7 88 RX7 yX7_takes wsX7_takes) := goodIn_app (goodIn_of _ (by decide +kernel)) ggX7_pops_X7_takes
set_option maxRecDepth 20000 in
theorem ggX7_pops_X7_settles : GoodIn wsX7_pops wsX7_settles := goodIn_r _ [14, 15, 1, 2, 3, 4, 16, 17, 18, 19, 8, 20, 10, 21, 22, 23, 24, 5, 6, 7, 9, 25, 26, 27, 28, 29, 30, 31, 32, 33, 34, 35, 36, 37, 38, 39, 40, 41, 42, 43, 44, 45, 46, 47, 48, 49, 50, 51, 52, 53, 54] (by decide +kernel) (by decide +kernel)
set_option maxRecDepth 20000 in
theorem gX7_pops_X7_settles : GoodIn wsX7_pops (wsV RX7 101 RX7 yX7_settles wsX7_settles) := goodIn_app (goodIn_of _ (by decide +kernel)) ggX7_pops_X7_settles
set_option maxRecDepth 20000 in
theorem ggX7_laysWay_X7_of : GoodIn wsX7_laysWay wsX7_of := goodIn_r _ [7, 8, 9, 10, 6, 11, 12, 13, 14, 15, 16, 17, 18, 19, 20, 21, 22, 23, 24, 25, 26, 27, 28, 29, 30, 31, 32, 33, 34, 35, 36, 37, 38, 39] (by decide +kernel) (by decide +kernel)
set_option maxRecDepth 20000 in
theorem gX7_laysWay_X7_of : GoodIn wsX7_laysWay (wsV RX7 105 RX7 yX7_of wsX7_of) := goodIn_app (goodIn_of _ (by decide +kernel)) ggX7_laysWay_X7_of
set_option maxRecDepth 20000 in
theorem ggX7_lays_X7_laysWay : GoodIn wsX7_lays wsX7_laysWay := goodIn_r _ [7, 1, 2, 8, 9, 10, 6, 11, 12, 13, 14, 15, 16, 17, 57, 58, 59, 60, 61, 62, 63, 64, 65, 66, 67, 68, 69, 70, 71, 72, 73, 74, 75, 76, 77, 78, 79, 80, 81, 82] (by decide +kernel) (by decide +kernel)
set_option maxRecDepth 20000 in
theorem gX7_lays_X7_laysWay : GoodIn wsX7_lays (wsV RX7 112 RX7 yX7_laysWay wsX7_laysWay) := goodIn_app (goodIn_of _ (by decide +kernel)) ggX7_lays_X7_laysWay
set_option maxRecDepth 20000 in
theorem ggX7_lays_X7_laysEmpty : GoodIn wsX7_lays wsX7_laysEmpty := goodIn_r _ [21, 22, 23, 24, 25, 26, 27, 57, 58, 59, 60, 61, 62, 63, 64, 65, 66, 67, 68, 69, 70, 71, 72, 73, 74, 75, 76, 77, 78, 79, 80, 81, 82] (by decide +kernel) (by decide +kernel)
set_option maxRecDepth 20000 in
theorem gX7_lays_X7_laysEmpty : GoodIn wsX7_lays (wsV RX7 115 RX7 yX7_laysEmpty wsX7_laysEmpty) := goodIn_app (goodIn_of _ (by decide +kernel)) ggX7_lays_X7_laysEmpty
set_option maxRecDepth 20000 in
theorem ggX7_lays_X7_of : GoodIn wsX7_lays wsX7_of := goodIn_r _ [11, 12, 13, 14, 6, 15, 16, 17, 57, 58, 59, 60, 61, 62, 63, 64, 65, 66, 67, 68, 69, 70, 71, 72, 73, 74, 75, 76, 77, 78, 79, 80, 81, 82] (by decide +kernel) (by decide +kernel)
set_option maxRecDepth 20000 in
theorem gX7_lays_X7_of : GoodIn wsX7_lays (wsV RX7 105 RX7 yX7_of wsX7_of) := goodIn_app (goodIn_of _ (by decide +kernel)) ggX7_lays_X7_of
set_option maxRecDepth 20000 in
theorem ggX7_lays_X7_pops : GoodIn wsX7_lays wsX7_pops := goodIn_r _ [31, 23, 25, 26, 22, 32, 33, 34, 6, 35, 36, 37, 38, 39, 40, 24, 27, 41, 42, 43, 44, 45, 46, 47, 48, 49, 50, 51, 52, 57, 58, 59, 60, 61, 62, 63, 64, 65, 66, 67, 68, 69, 70, 71, 72, 73, 74, 75, 76, 77, 78, 79, 80, 81, 82] (by decide +kernel) (by decide +kernel)
set_option maxRecDepth 20000 in
theorem gX7_lays_X7_pops : GoodIn wsX7_lays (wsV RX7 118 RX7 yX7_pops wsX7_pops) := goodIn_app (goodIn_of _ (by decide +kernel)) ggX7_lays_X7_pops
set_option maxRecDepth 20000 in
theorem ggX7_lays_X7_pushes : GoodIn wsX7_lays wsX7_pushes := goodIn_r _ [56, 24, 49, 50, 51, 6, 52, 36, 22, 37, 38, 39, 40, 23, 25, 26, 27, 41, 42, 43, 44, 45, 46, 47, 48, 32, 33, 34, 35, 57, 58, 59, 60, 61, 62, 63, 64, 65, 66, 67, 68, 69, 70, 71, 72, 73, 74, 75, 76, 77, 78, 79, 80, 81, 82] (by decide +kernel) (by decide +kernel)
set_option maxRecDepth 20000 in
theorem gX7_lays_X7_pushes : GoodIn wsX7_lays (wsV RX7 121 RX7 yX7_pushes wsX7_pushes) := goodIn_app (goodIn_of _ (by decide +kernel)) ggX7_lays_X7_pushes
set_option maxRecDepth 20000 in
theorem ggX7_laysValues_X7_laysWay : GoodIn wsX7_laysValues wsX7_laysWay := goodIn_r _ [7, 1, 2, 8, 9, 10, 6, 11, 12, 13, 14, 15, 16, 17, 18, 19, 20, 21, 22, 23, 24, 25, 26, 27, 28, 29, 30, 31, 32, 33, 34, 35, 36, 37, 38, 39, 40, 41, 42, 43] (by decide +kernel) (by decide +kernel)
set_option maxRecDepth 20000 in
theorem gX7_laysValues_X7_laysWay : GoodIn wsX7_laysValues (wsV RX7 112 RX7 yX7_laysWay wsX7_laysWay) := goodIn_app (goodIn_of _ (by decide +kernel)) ggX7_laysValues_X7_laysWay
set_option maxRecDepth 20000 in
theorem ggX7_laysValues_X7_of : GoodIn wsX7_laysValues wsX7_of := goodIn_r _ [11, 12, 13, 14, 6, 15, 16, 17, 18, 19, 20, 21, 22, 23, 24, 25, 26, 27, 28, 29, 30, 31, 32, 33, 34, 35, 36, 37, 38, 39, 40, 41, 42, 43] (by decide +kernel) (by decide +kernel)
set_option maxRecDepth 20000 in
theorem gX7_laysValues_X7_of : GoodIn wsX7_laysValues (wsV RX7 105 RX7 yX7_of wsX7_of) := goodIn_app (goodIn_of _ (by decide +kernel)) ggX7_laysValues_X7_of
set_option maxRecDepth 20000 in
theorem ggX7_length_X7_laysValues : GoodIn wsX7_length wsX7_laysValues := goodIn_r _ [6, 7, 8, 9, 10, 11, 5, 12, 13, 14, 15, 16, 17, 18, 19, 20, 21, 22, 23, 24, 25, 26, 27, 28, 29, 30, 31, 32, 33, 34, 35, 36, 37, 38, 39, 40, 41, 42, 43, 44, 45, 46, 47, 48] (by decide +kernel) (by decide +kernel)
set_option maxRecDepth 20000 in
theorem gX7_length_X7_laysValues : GoodIn wsX7_length (wsV RX7 124 RX7 yX7_laysValues wsX7_laysValues) := goodIn_app (goodIn_of _ (by decide +kernel)) ggX7_length_X7_laysValues
set_option maxRecDepth 20000 in
theorem ggX7_isGap_X7_length : GoodIn wsX7_isGap wsX7_length := goodIn_r _ [7, 2, 8, 9, 10, 6, 11, 12, 13, 14, 15, 16, 17, 18, 19, 20, 21, 22, 23, 24, 25, 26, 27, 75, 76, 77, 78, 79, 80, 81, 82, 83, 84, 85, 86, 87, 88, 89, 90, 91, 92, 93, 94, 95, 96, 97, 98, 99, 100] (by decide +kernel) (by decide +kernel)
set_option maxRecDepth 20000 in
theorem gX7_isGap_X7_length : GoodIn wsX7_isGap (wsV RX7 128 RX7 yX7_length wsX7_length) := goodIn_app (goodIn_of _ (by decide +kernel)) ggX7_isGap_X7_length
set_option maxRecDepth 20000 in
theorem ggX7_isGap_X7_lays : GoodIn wsX7_isGap wsX7_lays := goodIn_r _ [31, 12, 13, 14, 15, 16, 6, 17, 18, 19, 20, 21, 22, 23, 24, 25, 26, 27, 32, 33, 34, 35, 36, 37, 38, 39, 40, 41, 42, 43, 44, 45, 46, 47, 48, 49, 50, 51, 52, 53, 54, 55, 56, 57, 58, 59, 60, 61, 62, 63, 64, 65, 66, 67, 68, 69, 70, 75, 76, 77, 78, 79, 80, 81, 82, 83, 84, 85, 86, 87, 88, 89, 90, 91, 92, 93, 94, 95, 96, 97, 98, 99, 100] (by decide +kernel) (by decide +kernel)
set_option maxRecDepth 20000 in
theorem gX7_isGap_X7_lays : GoodIn wsX7_isGap (wsV RX7 131 RX7 yX7_lays wsX7_lays) := goodIn_app (goodIn_of _ (by decide +kernel)) ggX7_isGap_X7_lays
set_option maxRecDepth 20000 in
theorem ggX7_isGap_X7_laysListed : GoodIn wsX7_isGap wsX7_laysListed := goodIn_r _ [74, 39, 40, 36, 1, 50, 75, 76, 77, 78, 79, 80, 81, 82, 83, 84, 85, 86, 87, 88, 89, 90, 91, 92, 93, 94, 95, 96, 97, 98, 99, 100] (by decide +kernel) (by decide +kernel)
set_option maxRecDepth 20000 in
theorem gX7_isGap_X7_laysListed : GoodIn wsX7_isGap (wsV RX7 134 RX7 yX7_laysListed wsX7_laysListed) := goodIn_app (goodIn_of _ (by decide +kernel)) ggX7_isGap_X7_laysListed
set_option maxRecDepth 20000 in
theorem ggX7_makes_X7_versions : GoodIn wsX7_makes wsX7_versions := goodIn_r _ [6, 7, 8, 9, 5, 10, 11, 12, 73, 74, 75, 76, 77, 78, 79, 80, 81, 82, 83, 84, 85, 86, 87, 88, 89, 90, 91, 92, 93, 94, 95, 96, 97, 98] (by decide +kernel) (by decide +kernel)
set_option maxRecDepth 20000 in
theorem gX7_makes_X7_versions : GoodIn wsX7_makes (wsV RX7 65 RX7 yX7_versions wsX7_versions) := goodIn_app (goodIn_of _ (by decide +kernel)) ggX7_makes_X7_versions
set_option maxRecDepth 20000 in
theorem ggX7_makes_X7_puts : GoodIn wsX7_makes wsX7_puts := goodIn_r _ [16, 17, 18, 19, 5, 20, 11, 12, 73, 74, 75, 76, 77, 78, 79, 80, 81, 82, 83, 84, 85, 86, 87, 88, 89, 90, 91, 92, 93, 94, 95, 96, 97, 98] (by decide +kernel) (by decide +kernel)
set_option maxRecDepth 20000 in
theorem gX7_makes_X7_puts : GoodIn wsX7_makes (wsV RX7 61 RX7 yX7_puts wsX7_puts) := goodIn_app (goodIn_of _ (by decide +kernel)) ggX7_makes_X7_puts
set_option maxRecDepth 20000 in
theorem ggX7_makes_X7_get : GoodIn wsX7_makes wsX7_get := goodIn_r _ [10, 11, 12, 73, 74, 75, 76, 77, 78, 79, 80, 81, 82, 83, 84, 85, 86, 87, 88, 89, 90, 91, 92, 93, 94, 95, 96, 97, 98] (by decide +kernel) (by decide +kernel)
set_option maxRecDepth 20000 in
theorem gX7_makes_X7_get : GoodIn wsX7_makes (wsV RX7 50 RX7 yX7_get wsX7_get) := goodIn_app (goodIn_of _ (by decide +kernel)) ggX7_makes_X7_get
set_option maxRecDepth 20000 in
theorem ggX7_makes_X7_of : GoodIn wsX7_makes wsX7_of := goodIn_r _ [24, 7, 8, 9, 5, 10, 11, 12, 73, 74, 75, 76, 77, 78, 79, 80, 81, 82, 83, 84, 85, 86, 87, 88, 89, 90, 91, 92, 93, 94, 95, 96, 97, 98] (by decide +kernel) (by decide +kernel)
set_option maxRecDepth 20000 in
theorem gX7_makes_X7_of : GoodIn wsX7_makes (wsV RX7 105 RX7 yX7_of wsX7_of) := goodIn_app (goodIn_of _ (by decide +kernel)) ggX7_makes_X7_of
set_option maxRecDepth 20000 in
theorem ggX7_makes_X7_put : GoodIn wsX7_makes wsX7_put := goodIn_r _ [20, 11, 12, 73, 74, 75, 76, 77, 78, 79, 80, 81, 82, 83, 84, 85, 86, 87, 88, 89, 90, 91, 92, 93, 94, 95, 96, 97, 98] (by decide +kernel) (by decide +kernel)
set_option maxRecDepth 20000 in
theorem gX7_makes_X7_put : GoodIn wsX7_makes (wsV RX7 54 RX7 yX7_put wsX7_put) := goodIn_app (goodIn_of _ (by decide +kernel)) ggX7_makes_X7_put
set_option maxRecDepth 20000 in
theorem ggX7_makes_X7_lays : GoodIn wsX7_makes wsX7_lays := goodIn_r _ [28, 29, 30, 31, 32, 33, 5, 34, 21, 22, 23, 24, 7, 8, 9, 10, 11, 12, 35, 36, 37, 38, 39, 40, 41, 42, 43, 1, 44, 45, 46, 47, 48, 49, 50, 51, 52, 53, 54, 55, 56, 57, 58, 59, 60, 61, 62, 63, 64, 65, 66, 67, 68, 69, 70, 71, 72, 73, 74, 75, 76, 77, 78, 79, 80, 81, 82, 83, 84, 85, 86, 87, 88, 89, 90, 91, 92, 93, 94, 95, 96, 97, 98] (by decide +kernel) (by decide +kernel)
set_option maxRecDepth 20000 in
theorem gX7_makes_X7_lays : GoodIn wsX7_makes (wsV RX7 131 RX7 yX7_lays wsX7_lays) := goodIn_app (goodIn_of _ (by decide +kernel)) ggX7_makes_X7_lays
set_option maxRecDepth 20000 in
theorem ggX7_children_X7_versions : GoodIn wsX7_children wsX7_versions := goodIn_r _ [5, 6, 7, 8, 4, 9, 10, 11, 16, 17, 18, 19, 20, 21, 22, 23, 24, 25, 26, 27, 28, 29, 30, 31, 32, 33, 34, 35, 36, 37, 38, 39, 40, 41] (by decide +kernel) (by decide +kernel)
set_option maxRecDepth 20000 in
theorem gX7_children_X7_versions : GoodIn wsX7_children (wsV RX7 65 RX7 yX7_versions wsX7_versions) := goodIn_app (goodIn_of _ (by decide +kernel)) ggX7_children_X7_versions
set_option maxRecDepth 20000 in
theorem ggX7_children_X7_of : GoodIn wsX7_children wsX7_of := goodIn_r _ [15, 6, 7, 8, 4, 9, 10, 11, 16, 17, 18, 19, 20, 21, 22, 23, 24, 25, 26, 27, 28, 29, 30, 31, 32, 33, 34, 35, 36, 37, 38, 39, 40, 41] (by decide +kernel) (by decide +kernel)
set_option maxRecDepth 20000 in
theorem gX7_children_X7_of : GoodIn wsX7_children (wsV RX7 105 RX7 yX7_of wsX7_of) := goodIn_app (goodIn_of _ (by decide +kernel)) ggX7_children_X7_of
set_option maxRecDepth 20000 in
theorem ggX7_append_X7_four : GoodIn wsX7_append wsX7_four := goodIn_r _ [7, 8, 2, 9, 10, 11, 12, 13, 14, 15, 16, 17, 18, 19, 20, 21, 22, 23, 24, 25, 26, 27, 28, 29, 30, 31, 32, 33, 34] (by decide +kernel) (by decide +kernel)
set_option maxRecDepth 20000 in
theorem gX7_append_X7_four : GoodIn wsX7_append (wsV RX7 140 RX7 yX7_four wsX7_four) := goodIn_app (goodIn_of _ (by decide +kernel)) ggX7_append_X7_four
set_option maxRecDepth 20000 in
theorem ggX7_passes_X7_here : GoodIn wsX7_passes wsX7_here := goodIn_r _ [8, 1, 2, 3, 61, 62, 63, 64, 65, 66, 67, 68, 69, 70, 71, 72, 73, 74, 75, 76, 77, 78, 79, 80, 81, 82, 83, 84, 85, 86] (by decide +kernel) (by decide +kernel)
set_option maxRecDepth 20000 in
theorem gX7_passes_X7_here : GoodIn wsX7_passes (wsV RX7 151 RX7 yX7_here wsX7_here) := goodIn_app (goodIn_of _ (by decide +kernel)) ggX7_passes_X7_here
set_option maxRecDepth 20000 in
theorem ggX7_passes_X7_isSmall : GoodIn wsX7_passes wsX7_isSmall := goodIn_r _ [11] (by decide +kernel) (by decide +kernel)
set_option maxRecDepth 20000 in
theorem gX7_passes_X7_isSmall : GoodIn wsX7_passes (va_wsS RX7 154 yX7_isSmall wsX7_isSmall) := goodIn_app (goodIn_of _ (by decide +kernel)) ggX7_passes_X7_isSmall
set_option maxRecDepth 20000 in
theorem ggX7_passes_J0_length_8abf5 : GoodIn wsX7_passes wsJ0_length_8abf5 := goodIn_r _ [16, 17, 18, 19, 20, 15, 21, 22, 23] (by decide +kernel) (by decide +kernel)
set_option maxRecDepth 20000 in
theorem gX7_passes_J0_length_8abf5 : GoodIn wsX7_passes (wsV RX7 158 RJ0 yJ0_length_8abf5 wsJ0_length_8abf5) := goodIn_app (goodIn_of _ (by decide +kernel)) ggX7_passes_J0_length_8abf5
set_option maxRecDepth 20000 in
theorem ggX7_passes_J0_charAt_5068e : GoodIn wsX7_passes wsJ0_charAt_5068e := goodIn_r _ [27, 17, 28, 29, 30, 15, 31, 22, 23, 32, 33, 34, 35, 36, 37, 38, 39, 40, 41, 42, 43, 44, 45, 46, 47, 48, 49, 50, 51, 52, 53, 54, 55, 56, 57, 58, 59, 60] (by decide +kernel) (by decide +kernel)
set_option maxRecDepth 20000 in
theorem gX7_passes_J0_charAt_5068e : GoodIn wsX7_passes (wsV RX7 162 RJ0 yJ0_charAt_5068e wsJ0_charAt_5068e) := goodIn_app (goodIn_of _ (by decide +kernel)) ggX7_passes_J0_charAt_5068e
set_option maxRecDepth 20000 in
theorem ggX7_sign_X7_here : GoodIn wsX7_sign wsX7_here := goodIn_r _ [6, 1, 7, 8, 15, 16, 17, 18, 19, 20, 21, 22, 23, 24, 25, 26, 27, 28, 29, 30, 31, 32, 33, 34, 35, 36, 37, 38, 39, 40] (by decide +kernel) (by decide +kernel)
set_option maxRecDepth 20000 in
theorem gX7_sign_X7_here : GoodIn wsX7_sign (wsV RX7 151 RX7 yX7_here wsX7_here) := goodIn_app (goodIn_of _ (by decide +kernel)) ggX7_sign_X7_here
set_option maxRecDepth 20000 in
theorem ggX7_sign_X7_fails : GoodIn wsX7_sign wsX7_fails := goodIn_r _ [12, 13, 14, 15, 16, 17, 18, 19, 20, 21, 22, 23, 24, 25, 26, 27, 28, 29, 30, 31, 32, 33, 34, 35, 36, 37, 38, 39, 40] (by decide +kernel) (by decide +kernel)
set_option maxRecDepth 20000 in
theorem gX7_sign_X7_fails : GoodIn wsX7_sign (wsV RX7 166 RX7 yX7_fails wsX7_fails) := goodIn_app (goodIn_of _ (by decide +kernel)) ggX7_sign_X7_fails
set_option maxRecDepth 20000 in
theorem ggX7_reads_X7_here : GoodIn wsX7_reads wsX7_here := goodIn_r _ [11, 1, 4, 5, 24, 25, 26, 27, 28, 29, 30, 31, 32, 33, 34, 35, 36, 37, 38, 39, 40, 41, 42, 43, 44, 45, 46, 47, 48, 49] (by decide +kernel) (by decide +kernel)
set_option maxRecDepth 20000 in
theorem gX7_reads_X7_here : GoodIn wsX7_reads (wsV RX7 151 RX7 yX7_here wsX7_here) := goodIn_app (goodIn_of _ (by decide +kernel)) ggX7_reads_X7_here
set_option maxRecDepth 20000 in
theorem ggX7_reads_X7_isDigit : GoodIn wsX7_reads wsX7_isDigit := goodIn_r _ [14] (by decide +kernel) (by decide +kernel)
set_option maxRecDepth 20000 in
theorem gX7_reads_X7_isDigit : GoodIn wsX7_reads (va_wsS RX7 170 yX7_isDigit wsX7_isDigit) := goodIn_app (goodIn_of _ (by decide +kernel)) ggX7_reads_X7_isDigit
set_option maxRecDepth 20000 in
theorem ggX7_reads_X7_fails : GoodIn wsX7_reads wsX7_fails := goodIn_r _ [18, 19, 20, 24, 25, 26, 27, 28, 29, 30, 31, 32, 33, 34, 35, 36, 37, 38, 39, 40, 41, 42, 43, 44, 45, 46, 47, 48, 49] (by decide +kernel) (by decide +kernel)
set_option maxRecDepth 20000 in
theorem gX7_reads_X7_fails : GoodIn wsX7_reads (wsV RX7 166 RX7 yX7_fails wsX7_fails) := goodIn_app (goodIn_of _ (by decide +kernel)) ggX7_reads_X7_fails
set_option maxRecDepth 20000 in
theorem ggX7_reads_X7_isIn : GoodIn wsX7_reads wsX7_isIn := goodIn_r _ [23] (by decide +kernel) (by decide +kernel)
set_option maxRecDepth 20000 in
theorem gX7_reads_X7_isIn : GoodIn wsX7_reads (va_wsS RX7 69 yX7_isIn wsX7_isIn) := goodIn_app (goodIn_of _ (by decide +kernel)) ggX7_reads_X7_isIn
set_option maxRecDepth 20000 in
theorem ggX7_readsPush_X7_versions : GoodIn wsX7_readsPush wsX7_versions := goodIn_r _ [8, 9, 10, 11, 7, 12, 13, 14, 104, 105, 106, 107, 108, 109, 110, 111, 112, 113, 114, 115, 116, 117, 118, 119, 120, 121, 122, 123, 124, 125, 126, 127, 128, 129] (by decide +kernel) (by decide +kernel)
set_option maxRecDepth 20000 in
theorem gX7_readsPush_X7_versions : GoodIn wsX7_readsPush (wsV RX7 65 RX7 yX7_versions wsX7_versions) := goodIn_app (goodIn_of _ (by decide +kernel)) ggX7_readsPush_X7_versions
set_option maxRecDepth 20000 in
theorem ggX7_readsPush_X7_reads : GoodIn wsX7_readsPush wsX7_reads := goodIn_r _ [18, 19, 3, 2, 20, 21, 22, 23, 24, 25, 7, 26, 27, 28, 29, 30, 31, 32, 33, 34, 35, 36, 37, 38, 104, 105, 106, 107, 108, 109, 110, 111, 112, 113, 114, 115, 116, 117, 118, 119, 120, 121, 122, 123, 124, 125, 126, 127, 128, 129] (by decide +kernel) (by decide +kernel)
set_option maxRecDepth 20000 in
theorem gX7_readsPush_X7_reads : GoodIn wsX7_readsPush (wsV RX7 184 RX7 yX7_reads wsX7_reads) := goodIn_app (goodIn_of _ (by decide +kernel)) ggX7_readsPush_X7_reads
set_option maxRecDepth 20000 in
theorem ggX7_readsPush_X7_fails : GoodIn wsX7_readsPush wsX7_fails := goodIn_r _ [33, 34, 35, 104, 105, 106, 107, 108, 109, 110, 111, 112, 113, 114, 115, 116, 117, 118, 119, 120, 121, 122, 123, 124, 125, 126, 127, 128, 129] (by decide +kernel) (by decide +kernel)
set_option maxRecDepth 20000 in
theorem gX7_readsPush_X7_fails : GoodIn wsX7_readsPush (wsV RX7 166 RX7 yX7_fails wsX7_fails) := goodIn_app (goodIn_of _ (by decide +kernel)) ggX7_readsPush_X7_fails
set_option maxRecDepth 20000 in
theorem ggX7_readsPush_X7_makes : GoodIn wsX7_readsPush wsX7_makes := goodIn_r _ [42, 43, 4, 5, 6, 7, 8, 9, 10, 11, 12, 13, 14, 44, 45, 46, 47, 48, 49, 50, 51, 52, 53, 54, 55, 56, 57, 58, 59, 60, 61, 62, 63, 64, 65, 66, 67, 68, 69, 70, 71, 72, 73, 74, 75, 76, 77, 78, 79, 80, 81, 82, 83, 84, 85, 86, 87, 88, 89, 90, 91, 92, 93, 94, 95, 96, 97, 98, 99, 100, 101, 102, 103, 104, 105, 106, 107, 108, 109, 110, 111, 112, 113, 114, 115, 116, 117, 118, 119, 120, 121, 122, 123, 124, 125, 126, 127, 128, 129] (by decide +kernel) (by decide +kernel)
set_option maxRecDepth 20000 in
theorem gX7_readsPush_X7_makes : GoodIn wsX7_readsPush (wsV RX7 187 RX7 yX7_makes wsX7_makes) := goodIn_app (goodIn_of _ (by decide +kernel)) ggX7_readsPush_X7_makes
set_option maxRecDepth 20000 in
theorem ggX7_readsPush_X7_here : GoodIn wsX7_readsPush wsX7_here := goodIn_r _ [26, 19, 20, 21, 104, 105, 106, 107, 108, 109, 110, 111, 112, 113, 114, 115, 116, 117, 118, 119, 120, 121, 122, 123, 124, 125, 126, 127, 128, 129] (by decide +kernel) (by decide +kernel)
set_option maxRecDepth 20000 in
theorem gX7_readsPush_X7_here : GoodIn wsX7_readsPush (wsV RX7 151 RX7 yX7_here wsX7_here) := goodIn_app (goodIn_of _ (by decide +kernel)) ggX7_readsPush_X7_here
set_option maxRecDepth 20000 in
theorem ggX7_readsPush_X7_isDigit : GoodIn wsX7_readsPush wsX7_isDigit := goodIn_r _ [29] (by decide +kernel) (by decide +kernel)
set_option maxRecDepth 20000 in
theorem gX7_readsPush_X7_isDigit : GoodIn wsX7_readsPush (va_wsS RX7 170 yX7_isDigit wsX7_isDigit) := goodIn_app (goodIn_of _ (by decide +kernel)) ggX7_readsPush_X7_isDigit
set_option maxRecDepth 20000 in
theorem ggX7_readsPop_X7_versions : GoodIn wsX7_readsPop wsX7_versions := goodIn_r _ [8, 9, 10, 11, 7, 12, 13, 14, 113, 114, 115, 116, 117, 118, 119, 120, 121, 122, 123, 124, 125, 126, 127, 128, 129, 130, 131, 132, 133, 134, 135, 136, 137, 138] (by decide +kernel) (by decide +kernel)
set_option maxRecDepth 20000 in
theorem gX7_readsPop_X7_versions : GoodIn wsX7_readsPop (wsV RX7 65 RX7 yX7_versions wsX7_versions) := goodIn_app (goodIn_of _ (by decide +kernel)) ggX7_readsPop_X7_versions
set_option maxRecDepth 20000 in
theorem ggX7_readsPop_X7_reads : GoodIn wsX7_readsPop wsX7_reads := goodIn_r _ [18, 19, 3, 2, 20, 21, 22, 23, 24, 25, 7, 26, 27, 28, 29, 30, 31, 32, 33, 34, 35, 36, 37, 38, 113, 114, 115, 116, 117, 118, 119, 120, 121, 122, 123, 124, 125, 126, 127, 128, 129, 130, 131, 132, 133, 134, 135, 136, 137, 138] (by decide +kernel) (by decide +kernel)
set_option maxRecDepth 20000 in
theorem gX7_readsPop_X7_reads : GoodIn wsX7_readsPop (wsV RX7 184 RX7 yX7_reads wsX7_reads) := goodIn_app (goodIn_of _ (by decide +kernel)) ggX7_readsPop_X7_reads
set_option maxRecDepth 20000 in
theorem ggX7_readsPop_X7_fails : GoodIn wsX7_readsPop wsX7_fails := goodIn_r _ [33, 34, 35, 113, 114, 115, 116, 117, 118, 119, 120, 121, 122, 123, 124, 125, 126, 127, 128, 129, 130, 131, 132, 133, 134, 135, 136, 137, 138] (by decide +kernel) (by decide +kernel)
set_option maxRecDepth 20000 in
theorem gX7_readsPop_X7_fails : GoodIn wsX7_readsPop (wsV RX7 166 RX7 yX7_fails wsX7_fails) := goodIn_app (goodIn_of _ (by decide +kernel)) ggX7_readsPop_X7_fails
set_option maxRecDepth 20000 in
theorem ggX7_readsPop_X7_length : GoodIn wsX7_readsPop wsX7_length := goodIn_r _ [42, 43, 44, 45, 46, 7, 47, 48, 49, 50, 51, 52, 53, 54, 55, 56, 57, 9, 10, 11, 12, 13, 14, 113, 114, 115, 116, 117, 118, 119, 120, 121, 122, 123, 124, 125, 126, 127, 128, 129, 130, 131, 132, 133, 134, 135, 136, 137, 138] (by decide +kernel) (by decide +kernel)
set_option maxRecDepth 20000 in
theorem gX7_readsPop_X7_length : GoodIn wsX7_readsPop (wsV RX7 128 RX7 yX7_length wsX7_length) := goodIn_app (goodIn_of _ (by decide +kernel)) ggX7_readsPop_X7_length
