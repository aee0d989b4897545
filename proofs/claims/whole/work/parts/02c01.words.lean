set_option maxRecDepth 20000 in
theorem ggX5_valuesInto_X1_writeFirst : GoodIn wsX5_valuesInto wsX1_writeFirst := goodIn_r _ [11, 12, 13, 35, 36] (by decide +kernel) (by decide +kernel)
set_option maxRecDepth 20000 in
theorem gX5_valuesInto_X1_writeFirst : GoodIn wsX5_valuesInto (va_wsS RX5 91 yX1_writeFirst wsX1_writeFirst) := goodIn_app (goodIn_of _ (by decide +kernel)) ggX5_valuesInto_X1_writeFirst
set_option maxRecDepth 20000 in
theorem ggX5_valuesInto_X1_writeReversed : GoodIn wsX5_valuesInto wsX1_writeReversed := goodIn_r _ [16, 12, 13, 17, 18, 10, 19, 35, 36] (by decide +kernel) (by decide +kernel)
set_option maxRecDepth 20000 in
theorem gX5_valuesInto_X1_writeReversed : GoodIn wsX5_valuesInto (va_wsS RX5 95 yX1_writeReversed wsX1_writeReversed) := goodIn_app (goodIn_of _ (by decide +kernel)) ggX5_valuesInto_X1_writeReversed
set_option maxRecDepth 20000 in
theorem ggX5_valuesByWayInto_X5_wayInto : GoodIn wsX5_valuesByWayInto wsX5_wayInto := goodIn_r _ [5, 6, 7, 8, 9, 10, 11, 12, 13, 14, 15, 16, 17] (by decide +kernel) (by decide +kernel)
set_option maxRecDepth 20000 in
theorem gX5_valuesByWayInto_X5_wayInto : GoodIn wsX5_valuesByWayInto (wsV RX5 99 RX5 yX5_wayInto wsX5_wayInto) := goodIn_app (goodIn_of _ (by decide +kernel)) ggX5_valuesByWayInto_X5_wayInto
set_option maxRecDepth 20000 in
theorem ggX6_init_X3_init : GoodIn wsX6_init wsX3_init := goodIn_r _ [29, 30, 2, 3, 31, 32, 33, 34, 35, 36, 37, 38, 39, 40, 96, 97, 98, 99, 100, 101, 102, 103, 104, 105] (by decide +kernel) (by decide +kernel)
set_option maxRecDepth 20000 in
theorem gX6_init_X3_init_n15 : GoodIn wsX6_init (wsX3_init) := ggX6_init_X3_init
set_option maxRecDepth 20000 in
theorem ggX6_init_X2_init : GoodIn wsX6_init wsX2_init := goodIn_r _ [42, 43, 2, 3, 44, 45, 46, 47, 106, 107, 108, 109] (by decide +kernel) (by decide +kernel)
set_option maxRecDepth 20000 in
theorem gX6_init_X2_init_n28 : GoodIn wsX6_init (wsX2_init) := ggX6_init_X2_init
set_option maxRecDepth 20000 in
theorem ggX6_init_X5_init : GoodIn wsX6_init wsX5_init := goodIn_r _ [50, 51, 2, 3, 52, 53, 54, 55, 56, 57, 58, 59, 60, 61, 62, 63, 64, 65, 66, 67, 68, 69, 70, 71, 72, 73, 74, 75, 76, 123, 124, 125, 126, 127, 128, 110, 111, 112, 113, 114, 115, 116, 117, 118] (by decide +kernel) (by decide +kernel)
set_option maxRecDepth 20000 in
theorem gX6_init_X5_init : GoodIn wsX6_init (wsX5_init) := ggX6_init_X5_init
set_option maxRecDepth 20000 in
theorem ggX6_init_X0_init : GoodIn wsX6_init wsX0_init := goodIn_r _ [79, 80, 2, 3, 81, 82, 83, 84, 85, 119, 120, 121, 122] (by decide +kernel) (by decide +kernel)
set_option maxRecDepth 20000 in
theorem gX6_init_X0_init : GoodIn wsX6_init (wsX0_init) := ggX6_init_X0_init
set_option maxRecDepth 20000 in
theorem ggX6_append_X6_addBytes : GoodIn wsX6_append wsX6_addBytes := goodIn_r _ [6, 1, 7, 8, 9, 10, 11, 12, 13, 14, 15, 16, 17] (by decide +kernel) (by decide +kernel)
set_option maxRecDepth 20000 in
theorem gX6_append_X6_addBytes : GoodIn wsX6_append (wsV RX6 61 RX6 yX6_addBytes wsX6_addBytes) := goodIn_app (goodIn_of _ (by decide +kernel)) ggX6_append_X6_addBytes
set_option maxRecDepth 20000 in
theorem ggX6_load_X6_following : GoodIn wsX6_load wsX6_following := goodIn_r _ [14] (by decide +kernel) (by decide +kernel)
set_option maxRecDepth 20000 in
theorem gX6_load_X6_following : GoodIn wsX6_load (va_wsS RX6 72 yX6_following wsX6_following) := goodIn_app (goodIn_of _ (by decide +kernel)) ggX6_load_X6_following
set_option maxRecDepth 20000 in
theorem ggX6_load_X0_restart : GoodIn wsX6_load wsX0_restart := goodIn_r _ [19, 20, 21, 22, 266, 267, 268, 269] (by decide +kernel) (by decide +kernel)
set_option maxRecDepth 20000 in
theorem gX6_load_X0_restart : GoodIn wsX6_load (wsV RX6 76 RX0 yX0_restart wsX0_restart) := goodIn_app (goodIn_of _ (by decide +kernel)) ggX6_load_X0_restart
set_option maxRecDepth 20000 in
theorem ggX6_load_X3_read : GoodIn wsX6_load wsX3_read := goodIn_r _ [27, 28, 29, 30, 31, 32, 33, 34, 35, 36, 37, 38, 39, 40, 41, 42, 26, 43, 44, 45, 46, 47, 48, 49, 50, 51, 52, 53, 54, 55, 56, 57, 58, 59, 60, 61, 62, 63, 64, 65, 66, 67, 68, 69, 70, 71, 72, 73, 74, 75, 76, 77, 78, 79, 80, 81, 82, 83, 84, 85, 86, 87, 88, 89, 90, 91, 92, 93, 94, 95, 96, 97, 98, 99, 100, 101, 102, 103, 104, 105, 106, 107, 108, 109, 110, 111, 112, 113, 114, 115, 116, 117, 118, 119, 120, 121, 122, 123, 124, 125, 126, 127, 128, 129, 130, 131, 132, 18, 133, 134, 135, 136, 137, 21, 138, 139, 140, 141, 142, 143, 144, 145, 146, 147, 148, 149, 150, 151, 152, 153, 154, 155, 156, 157, 158, 159, 160, 161, 162, 163, 164, 165, 166, 167, 168, 169, 170, 171, 172, 173, 174, 175, 176, 177, 178, 179, 180, 181, 182, 183, 184, 185, 186, 187, 188, 189, 190, 191, 192, 193, 194, 195, 196, 197, 198, 199, 200, 201, 202, 203, 204, 205, 206, 207, 208, 209, 210, 20, 211, 212, 213, 214, 215, 216, 217, 218, 219, 220, 221, 222, 223, 224, 225, 226, 227, 228, 229, 230, 231, 232, 233, 234, 235, 236, 237, 238, 239, 240, 256, 257, 258, 259, 260, 261, 262, 263, 264, 265, 266, 267, 268, 269, 270, 271, 272, 273, 274, 275, 276, 277, 278, 279, 280, 281, 282, 283, 284, 285, 286] (by decide +kernel) (by decide +kernel)
set_option maxRecDepth 20000 in
theorem gX6_load_X3_read : GoodIn wsX6_load (wsV RX6 79 RX3 yX3_read wsX3_read) := goodIn_app (goodIn_of _ (by decide +kernel)) ggX6_load_X3_read
set_option maxRecDepth 20000 in
theorem ggX6_load_X6_keepDraft : GoodIn wsX6_load wsX6_keepDraft := goodIn_r _ [244, 5, 245, 11, 12, 13, 14, 246, 247, 248, 249, 250, 251, 252, 253, 254, 255] (by decide +kernel) (by decide +kernel)
set_option maxRecDepth 20000 in
theorem gX6_load_X6_keepDraft : GoodIn wsX6_load (wsV RX6 84 RX6 yX6_keepDraft wsX6_keepDraft) := goodIn_app (goodIn_of _ (by decide +kernel)) ggX6_load_X6_keepDraft
set_option maxRecDepth 20000 in
theorem ggX6_state_X0_numberOfAll : GoodIn wsX6_state wsX0_numberOfAll := goodIn_r _ [10, 11, 12, 13, 14, 15, 16, 9, 17, 18, 19, 20, 21, 22, 23, 24, 25, 26, 27, 28, 29, 30, 31, 32, 33, 34, 35, 36, 37, 38, 39, 40, 41, 42, 43, 44, 45, 46, 47, 48, 49, 50, 51, 52, 53, 54, 55, 56, 57, 58, 69, 70, 71, 72, 73, 74, 75, 76, 77, 78, 79, 80, 81, 82, 83, 84, 85, 86, 87] (by decide +kernel) (by decide +kernel)
set_option maxRecDepth 20000 in
theorem gX6_state_X0_numberOfAll : GoodIn wsX6_state (wsV RX6 92 RX0 yX0_numberOfAll wsX0_numberOfAll) := goodIn_app (goodIn_of _ (by decide +kernel)) ggX6_state_X0_numberOfAll
set_option maxRecDepth 20000 in
theorem ggX6_version_X6_needVersion : GoodIn wsX6_version wsX6_needVersion := goodIn_ca (goodIn_r _ [9, 10, 11, 3, 4, 12, 13, 51, 52, 53, 54, 55, 56, 57, 58, 59, 60, 61, 62, 63, 64] (by decide +kernel) (by decide +kernel)) (goodIn_sub (fun _ h => List.mem_cons_of_mem _ (List.mem_append_right _ h)) (by decide +kernel))
set_option maxRecDepth 20000 in
theorem gX6_version_X6_needVersion : GoodIn wsX6_version (wsV RX6 95 RX6 yX6_needVersion wsX6_needVersion) := goodIn_app (goodIn_of _ (by decide +kernel)) ggX6_version_X6_needVersion
set_option maxRecDepth 20000 in
theorem ggX6_version_X0_numberOfOne : GoodIn wsX6_version wsX0_numberOfOne := goodIn_r _ [18, 19, 20, 21, 22, 23, 24, 25, 26, 27, 28, 29, 30, 31, 32, 17, 33, 34, 35, 36, 37, 38, 39, 40, 41, 42, 43, 44, 45, 46, 47, 48, 49, 50, 61, 62, 63, 64, 65, 66, 67, 68, 69, 70, 71, 72, 73, 74, 75, 76, 77, 78, 79, 80, 81] (by decide +kernel) (by decide +kernel)
set_option maxRecDepth 20000 in
theorem gX6_version_X0_numberOfOne : GoodIn wsX6_version (wsV RX6 99 RX0 yX0_numberOfOne wsX0_numberOfOne) := goodIn_app (goodIn_of _ (by decide +kernel)) ggX6_version_X0_numberOfOne
set_option maxRecDepth 20000 in
theorem ggX6_value_X6_needVersion : GoodIn wsX6_value wsX6_needVersion := goodIn_ca (goodIn_r _ [8, 9, 10, 11, 12, 13, 14, 48, 49, 50, 51, 52, 53, 54, 55, 56, 57, 58, 59, 60, 61] (by decide +kernel) (by decide +kernel)) (goodIn_sub (fun _ h => List.mem_cons_of_mem _ (List.mem_append_right _ h)) (by decide +kernel))
set_option maxRecDepth 20000 in
theorem gX6_value_X6_needVersion : GoodIn wsX6_value (wsV RX6 95 RX6 yX6_needVersion wsX6_needVersion) := goodIn_app (goodIn_of _ (by decide +kernel)) ggX6_value_X6_needVersion
set_option maxRecDepth 20000 in
theorem ggX6_value_X5_listOf : GoodIn wsX6_value wsX5_listOf := goodIn_r _ [19, 20, 21, 22, 23, 24, 25, 26, 62, 63, 64, 65, 66, 67, 68, 69, 70, 71, 72, 73, 74, 75, 76] (by decide +kernel) (by decide +kernel)
set_option maxRecDepth 20000 in
theorem gX6_value_X5_listOf : GoodIn wsX6_value (wsV RX6 105 RX5 yX5_listOf wsX5_listOf) := goodIn_app (goodIn_of _ (by decide +kernel)) ggX6_value_X5_listOf
set_option maxRecDepth 20000 in
theorem ggX6_value_X1_valueAt : GoodIn wsX6_value wsX1_valueAt := goodIn_r _ [30, 31, 32, 77, 78] (by decide +kernel) (by decide +kernel)
set_option maxRecDepth 20000 in
theorem gX6_value_X1_valueAt : GoodIn wsX6_value (va_wsS RX6 109 yX1_valueAt wsX1_valueAt) := goodIn_app (goodIn_of _ (by decide +kernel)) ggX6_value_X1_valueAt
set_option maxRecDepth 20000 in
theorem ggX6_value_X5_valuesInto : GoodIn wsX6_value wsX5_valuesInto := goodIn_r _ [36, 22, 37, 38, 20, 25, 26, 21, 39, 40, 29, 41, 31, 32, 42, 43, 44, 45, 46, 47, 62, 63, 64, 65, 66, 67, 68, 69, 70, 71, 72, 73, 74, 75, 76, 77, 78] (by decide +kernel) (by decide +kernel)
set_option maxRecDepth 20000 in
theorem gX6_value_X5_valuesInto : GoodIn wsX6_value (wsV RX6 115 RX5 yX5_valuesInto wsX5_valuesInto) := goodIn_app (goodIn_of _ (by decide +kernel)) ggX6_value_X5_valuesInto
set_option maxRecDepth 20000 in
theorem ggX6_first_X6_needVersion : GoodIn wsX6_first wsX6_needVersion := goodIn_ca (goodIn_r _ [8, 9, 10, 11, 12, 13, 14, 39, 40, 41, 42, 43, 44, 45, 46, 47, 48, 49, 50, 51, 52] (by decide +kernel) (by decide +kernel)) (goodIn_sub (fun _ h => List.mem_cons_of_mem _ (List.mem_append_right _ h)) (by decide +kernel))
set_option maxRecDepth 20000 in
theorem gX6_first_X6_needVersion : GoodIn wsX6_first (wsV RX6 95 RX6 yX6_needVersion wsX6_needVersion) := goodIn_app (goodIn_of _ (by decide +kernel)) ggX6_first_X6_needVersion
set_option maxRecDepth 20000 in
theorem ggX6_first_X5_valuesInto : GoodIn wsX6_first wsX5_valuesInto := goodIn_r _ [19, 20, 21, 22, 23, 24, 25, 26, 27, 28, 29, 30, 31, 32, 33, 34, 35, 36, 37, 38, 53, 54, 55, 56, 57, 58, 59, 60, 61, 62, 63, 64, 65, 66, 67, 68, 69] (by decide +kernel) (by decide +kernel)
set_option maxRecDepth 20000 in
theorem gX6_first_X5_valuesInto : GoodIn wsX6_first (wsV RX6 115 RX5 yX5_valuesInto wsX5_valuesInto) := goodIn_app (goodIn_of _ (by decide +kernel)) ggX6_first_X5_valuesInto
set_option maxRecDepth 20000 in
theorem ggX6_find_X6_needVersion : GoodIn wsX6_find wsX6_needVersion := goodIn_ca (goodIn_r _ [6, 7, 8, 9, 10, 11, 12, 37, 38, 39, 40, 41, 42, 43, 44, 45, 46, 47, 48, 49, 50] (by decide +kernel) (by decide +kernel)) (goodIn_sub (fun _ h => List.mem_cons_of_mem _ (List.mem_append_right _ h)) (by decide +kernel))
set_option maxRecDepth 20000 in
theorem gX6_find_X6_needVersion : GoodIn wsX6_find (wsV RX6 95 RX6 yX6_needVersion wsX6_needVersion) := goodIn_app (goodIn_of _ (by decide +kernel)) ggX6_find_X6_needVersion
set_option maxRecDepth 20000 in
theorem ggX6_find_X5_valuesInto : GoodIn wsX6_find wsX5_valuesInto := goodIn_r _ [17, 18, 19, 20, 21, 22, 23, 24, 25, 26, 27, 28, 29, 30, 31, 32, 33, 34, 35, 36, 51, 52, 53, 54, 55, 56, 57, 58, 59, 60, 61, 62, 63, 64, 65, 66, 67] (by decide +kernel) (by decide +kernel)
set_option maxRecDepth 20000 in
theorem gX6_find_X5_valuesInto : GoodIn wsX6_find (wsV RX6 115 RX5 yX5_valuesInto wsX5_valuesInto) := goodIn_app (goodIn_of _ (by decide +kernel)) ggX6_find_X5_valuesInto
set_option maxRecDepth 20000 in
theorem ggX6_alike_X6_needVersion : GoodIn wsX6_alike wsX6_needVersion := goodIn_ca (goodIn_r _ [7, 8, 9, 10, 11, 12, 13, 42, 43, 44, 45, 46, 47, 48, 49, 50, 51, 52, 53, 54, 55] (by decide +kernel) (by decide +kernel)) (goodIn_sub (fun _ h => List.mem_cons_of_mem _ (List.mem_append_right _ h)) (by decide +kernel))
set_option maxRecDepth 20000 in
theorem gX6_alike_X6_needVersion : GoodIn wsX6_alike (wsV RX6 95 RX6 yX6_needVersion wsX6_needVersion) := goodIn_app (goodIn_of _ (by decide +kernel)) ggX6_alike_X6_needVersion
set_option maxRecDepth 20000 in
theorem ggX6_alike_X5_valuesInto : GoodIn wsX6_alike wsX5_valuesInto := goodIn_r _ [18, 19, 20, 21, 22, 23, 24, 25, 26, 27, 28, 29, 30, 31, 32, 33, 34, 35, 36, 37, 56, 57, 58, 59, 60, 61, 62, 63, 64, 65, 66, 67, 68, 69, 70, 71, 72] (by decide +kernel) (by decide +kernel)
set_option maxRecDepth 20000 in
theorem gX6_alike_X5_valuesInto : GoodIn wsX6_alike (wsV RX6 115 RX5 yX5_valuesInto wsX5_valuesInto) := goodIn_app (goodIn_of _ (by decide +kernel)) ggX6_alike_X5_valuesInto
set_option maxRecDepth 20000 in
theorem ggX6_alike_X6_sameRows : GoodIn wsX6_alike wsX6_sameRows := goodIn_r _ [41, 1, 2, 42, 43, 44, 45, 46, 47, 48, 49, 50, 51] (by decide +kernel) (by decide +kernel)
set_option maxRecDepth 20000 in
theorem gX6_alike_X6_sameRows : GoodIn wsX6_alike (wsV RX6 124 RX6 yX6_sameRows wsX6_sameRows) := goodIn_app (goodIn_of _ (by decide +kernel)) ggX6_alike_X6_sameRows
set_option maxRecDepth 20000 in
theorem ggX6_common_X6_needVersion : GoodIn wsX6_common wsX6_needVersion := goodIn_ca (goodIn_r _ [8, 9, 10, 1, 2, 11, 12, 26, 27, 28, 29, 30, 31, 32, 33, 34, 35, 45, 46, 47, 48] (by decide +kernel) (by decide +kernel)) (goodIn_sub (fun _ h => List.mem_cons_of_mem _ (List.mem_append_right _ h)) (by decide +kernel))
set_option maxRecDepth 20000 in
theorem gX6_common_X6_needVersion : GoodIn wsX6_common (wsV RX6 95 RX6 yX6_needVersion wsX6_needVersion) := goodIn_app (goodIn_of _ (by decide +kernel)) ggX6_common_X6_needVersion
set_option maxRecDepth 20000 in
theorem ggX6_common_X5_wasMadeFrom : GoodIn wsX6_common wsX5_wasMadeFrom := goodIn_r _ [17, 18, 36, 37, 38, 39, 40, 41, 42, 43, 44] (by decide +kernel) (by decide +kernel)
set_option maxRecDepth 20000 in
theorem gX6_common_X5_wasMadeFrom : GoodIn wsX6_common (wsV RX6 128 RX5 yX5_wasMadeFrom wsX5_wasMadeFrom) := goodIn_app (goodIn_of _ (by decide +kernel)) ggX6_common_X5_wasMadeFrom
set_option maxRecDepth 20000 in
theorem ggX6_common_X0_indexOf : GoodIn wsX6_common wsX0_indexOf := goodIn_r _ [23, 24, 25, 45, 46, 47, 48] (by decide +kernel) (by decide +kernel)
set_option maxRecDepth 20000 in
theorem gX6_common_X0_indexOf : GoodIn wsX6_common (wsV RX6 132 RX0 yX0_indexOf wsX0_indexOf) := goodIn_app (goodIn_of _ (by decide +kernel)) ggX6_common_X0_indexOf
set_option maxRecDepth 20000 in
theorem ggX6_work_X6_needVersion : GoodIn wsX6_work wsX6_needVersion := goodIn_ca (goodIn_r _ [11, 12, 13, 14, 15, 16, 17, 57, 58, 59, 60, 61, 62, 63, 64, 65, 66, 71, 72, 73, 74] (by decide +kernel) (by decide +kernel)) (goodIn_sub (fun _ h => List.mem_cons_of_mem _ (List.mem_append_right _ h)) (by decide +kernel))
set_option maxRecDepth 20000 in
theorem gX6_work_X6_needVersion : GoodIn wsX6_work (wsV RX6 95 RX6 yX6_needVersion wsX6_needVersion) := goodIn_app (goodIn_of _ (by decide +kernel)) ggX6_work_X6_needVersion
set_option maxRecDepth 20000 in
theorem ggX6_work_X5_stepsOnWay : GoodIn wsX6_work wsX5_stepsOnWay := goodIn_r _ [22, 23, 24, 75, 76, 77, 78, 79, 80, 81, 82, 83] (by decide +kernel) (by decide +kernel)
set_option maxRecDepth 20000 in
theorem gX6_work_X5_stepsOnWay : GoodIn wsX6_work (wsV RX6 140 RX5 yX5_stepsOnWay wsX5_stepsOnWay) := goodIn_app (goodIn_of _ (by decide +kernel)) ggX6_work_X5_stepsOnWay
set_option maxRecDepth 20000 in
theorem ggX6_work_X5_mostStepsOnWay : GoodIn wsX6_work wsX5_mostStepsOnWay := goodIn_r _ [28, 23, 29, 30, 31, 32, 24, 75, 76, 77, 78, 79, 80, 81, 82, 83] (by decide +kernel) (by decide +kernel)
set_option maxRecDepth 20000 in
theorem gX6_work_X5_mostStepsOnWay : GoodIn wsX6_work (wsV RX6 144 RX5 yX5_mostStepsOnWay wsX5_mostStepsOnWay) := goodIn_app (goodIn_of _ (by decide +kernel)) ggX6_work_X5_mostStepsOnWay
set_option maxRecDepth 20000 in
theorem ggX6_work_X5_wayInto : GoodIn wsX6_work wsX5_wayInto := goodIn_r _ [36, 24, 37, 38, 75, 76, 77, 78, 79, 80, 81, 82, 83] (by decide +kernel) (by decide +kernel)
set_option maxRecDepth 20000 in
theorem gX6_work_X5_wayInto : GoodIn wsX6_work (wsV RX6 147 RX5 yX5_wayInto wsX5_wayInto) := goodIn_app (goodIn_of _ (by decide +kernel)) ggX6_work_X5_wayInto
set_option maxRecDepth 20000 in
theorem ggX6_work_X2_go : GoodIn wsX6_work wsX2_go := goodIn_r _ [43, 44, 45, 46, 47, 48, 30, 31, 32, 49, 50, 51, 42, 52, 53, 54, 55, 56, 67, 68, 69, 70] (by decide +kernel) (by decide +kernel)
set_option maxRecDepth 20000 in
theorem gX6_work_X2_go : GoodIn wsX6_work (wsV RX6 150 RX2 yX2_go wsX2_go) := goodIn_app (goodIn_of _ (by decide +kernel)) ggX6_work_X2_go
set_option maxRecDepth 20000 in
theorem ggX6_idleIn_X6_needVersion : GoodIn wsX6_idleIn wsX6_needVersion := goodIn_ca (goodIn_r _ [13, 14, 15, 6, 7, 16, 17, 112, 113, 114, 115, 116, 117, 118, 119, 120, 121, 122, 123, 124, 125] (by decide +kernel) (by decide +kernel)) (goodIn_sub (fun _ h => List.mem_cons_of_mem _ (List.mem_append_right _ h)) (by decide +kernel))
set_option maxRecDepth 20000 in
theorem gX6_idleIn_X6_needVersion : GoodIn wsX6_idleIn (wsV RX6 95 RX6 yX6_needVersion wsX6_needVersion) := goodIn_app (goodIn_of _ (by decide +kernel)) ggX6_idleIn_X6_needVersion
set_option maxRecDepth 20000 in
theorem ggX6_idleIn_X5_init : GoodIn wsX6_idleIn wsX5_init := goodIn_r _ [20, 21, 22, 23, 24, 25, 26, 27, 28, 29, 30, 31, 32, 33, 34, 35, 36, 37, 38, 39, 40, 41, 42, 43, 44, 45, 46, 47, 48, 106, 107, 108, 109, 110, 111, 97, 98, 99, 100, 101, 102, 103, 104, 105] (by decide +kernel) (by decide +kernel)
set_option maxRecDepth 20000 in
theorem gX6_idleIn_X5_init : GoodIn wsX6_idleIn (wsX5_init) := ggX6_idleIn_X5_init
set_option maxRecDepth 20000 in
theorem ggX6_idleIn_X5_length : GoodIn wsX6_idleIn wsX5_length := goodIn_r _ [52, 30, 31, 97, 98, 99, 100, 101, 102, 103, 104, 105] (by decide +kernel) (by decide +kernel)
set_option maxRecDepth 20000 in
theorem gX6_idleIn_X5_length : GoodIn wsX6_idleIn (wsV RX6 169 RX5 yX5_length wsX5_length) := goodIn_app (goodIn_of _ (by decide +kernel)) ggX6_idleIn_X5_length
set_option maxRecDepth 20000 in
theorem ggX6_idleIn_X5_takeFirst : GoodIn wsX6_idleIn wsX5_takeFirst := goodIn_r _ [56, 28, 30, 27, 57, 58, 59, 60, 61, 62, 63, 64, 26, 65, 39, 40, 44, 66, 67, 68, 69, 70, 42, 97, 98, 99, 100, 101, 102, 103, 104, 105, 126, 127, 106, 107, 108, 109, 110, 111] (by decide +kernel) (by decide +kernel)
set_option maxRecDepth 20000 in
theorem gX6_idleIn_X5_takeFirst : GoodIn wsX6_idleIn (wsV RX6 172 RX5 yX5_takeFirst wsX5_takeFirst) := goodIn_app (goodIn_of _ (by decide +kernel)) ggX6_idleIn_X5_takeFirst
set_option maxRecDepth 20000 in
theorem ggX6_idleIn_X5_settle : GoodIn wsX6_idleIn wsX5_settle := goodIn_r _ [74, 31, 30, 27, 28, 29, 32, 75, 76, 77, 78, 26, 79, 39, 40, 41, 42, 43, 44, 80, 81, 82, 83, 84, 85, 59, 86, 87, 88, 89, 90, 91, 22, 23, 92, 61, 67, 68, 69, 70, 93, 94, 95, 96, 97, 98, 99, 100, 101, 102, 103, 104, 105, 106, 107, 108, 109, 110, 111, 126, 127] (by decide +kernel) (by decide +kernel)
set_option maxRecDepth 20000 in
theorem gX6_idleIn_X5_settle : GoodIn wsX6_idleIn (wsV RX6 178 RX5 yX5_settle wsX5_settle) := goodIn_app (goodIn_of _ (by decide +kernel)) ggX6_idleIn_X5_settle
set_option maxRecDepth 20000 in
theorem ggX6_gap_X5_valuesInto : GoodIn wsX6_gap wsX5_valuesInto := goodIn_r _ [11, 12, 13, 14, 15, 16, 17, 18, 19, 20, 21, 22, 23, 24, 25, 26, 27, 28, 29, 30, 61, 62, 63, 64, 65, 66, 67, 68, 69, 70, 71, 72, 73, 74, 75, 76, 77] (by decide +kernel) (by decide +kernel)
set_option maxRecDepth 20000 in
theorem gX6_gap_X5_valuesInto : GoodIn wsX6_gap (wsV RX6 115 RX5 yX5_valuesInto wsX5_valuesInto) := goodIn_app (goodIn_of _ (by decide +kernel)) ggX6_gap_X5_valuesInto
set_option maxRecDepth 20000 in
theorem ggX6_gap_X5_valuesByWayInto : GoodIn wsX6_gap wsX5_valuesByWayInto := goodIn_r _ [34, 35, 36, 37, 10, 38, 39, 40, 41, 61, 62, 63, 64, 65, 66, 67, 68, 69] (by decide +kernel) (by decide +kernel)
set_option maxRecDepth 20000 in
theorem gX6_gap_X5_valuesByWayInto : GoodIn wsX6_gap (wsV RX6 185 RX5 yX5_valuesByWayInto wsX5_valuesByWayInto) := goodIn_app (goodIn_of _ (by decide +kernel)) ggX6_gap_X5_valuesByWayInto
set_option maxRecDepth 20000 in
theorem ggX6_gap_X6_sameRows : GoodIn wsX6_gap wsX6_sameRows := goodIn_r _ [46, 5, 6, 47, 48, 49, 50, 51, 52, 53, 54, 55, 56] (by decide +kernel) (by decide +kernel)
set_option maxRecDepth 20000 in
theorem gX6_gap_X6_sameRows : GoodIn wsX6_gap (wsV RX6 124 RX6 yX6_sameRows wsX6_sameRows) := goodIn_app (goodIn_of _ (by decide +kernel)) ggX6_gap_X6_sameRows
set_option maxRecDepth 20000 in
theorem ggX6_ranked_X0_longerAhead : GoodIn wsX6_ranked wsX0_longerAhead := goodIn_r _ [10, 11, 12, 13, 14, 15, 16, 17, 18, 19, 30, 31, 32, 33, 34, 35, 36, 37, 38, 39, 40, 41, 42] (by decide +kernel) (by decide +kernel)
set_option maxRecDepth 20000 in
theorem gX6_ranked_X0_longerAhead : GoodIn wsX6_ranked (wsV RX6 188 RX0 yX0_longerAhead wsX0_longerAhead) := goodIn_app (goodIn_of _ (by decide +kernel)) ggX6_ranked_X0_longerAhead
set_option maxRecDepth 20000 in
theorem ggX6_meanSteps_X0_allSteps : GoodIn wsX6_meanSteps wsX0_allSteps := goodIn_r _ [8, 9, 10, 11, 22, 23, 24, 25, 26, 27, 28, 29, 30, 31, 32, 33, 34] (by decide +kernel) (by decide +kernel)
set_option maxRecDepth 20000 in
theorem gX6_meanSteps_X0_allSteps : GoodIn wsX6_meanSteps (wsV RX6 193 RX0 yX0_allSteps wsX0_allSteps) := goodIn_app (goodIn_of _ (by decide +kernel)) ggX6_meanSteps_X0_allSteps
set_option maxRecDepth 20000 in
theorem ggX6_push_X6_needVersion : GoodIn wsX6_push wsX6_needVersion := goodIn_ca (goodIn_r _ [7, 8, 9, 10, 11, 12, 13, 121, 122, 123, 124, 125, 126, 127, 128, 129, 130, 131, 132, 133, 134] (by decide +kernel) (by decide +kernel)) (goodIn_sub (fun _ h => List.mem_cons_of_mem _ (List.mem_append_left _ (List.mem_append_right _ h))) (by decide +kernel))
set_option maxRecDepth 20000 in
theorem gX6_push_X6_needVersion : GoodIn wsX6_push (wsV RX6 95 RX6 yX6_needVersion wsX6_needVersion) := goodIn_app (goodIn_of _ (by decide +kernel)) ggX6_push_X6_needVersion
set_option maxRecDepth 20000 in
theorem ggX6_push_X6_needRoom : GoodIn wsX6_push wsX6_needRoom := goodIn_ca (goodIn_r _ [17, 18, 19, 10, 11, 12, 121, 122, 123, 124, 125, 126, 127, 128, 129, 130, 131, 132, 133, 134] (by decide +kernel) (by decide +kernel)) (goodIn_sub (fun _ h => List.mem_cons_of_mem _ (List.mem_append_right _ h)) (by decide +kernel))
set_option maxRecDepth 20000 in
theorem gX6_push_X6_needRoom : GoodIn wsX6_push (wsV RX6 198 RX6 yX6_needRoom wsX6_needRoom) := goodIn_app (goodIn_of _ (by decide +kernel)) ggX6_push_X6_needRoom
set_option maxRecDepth 20000 in
theorem ggX6_push_X6_freshDraft : GoodIn wsX6_push wsX6_freshDraft := goodIn_r _ [23, 10, 11, 24, 25, 6, 26, 27, 28, 29, 30, 31, 32, 33, 34, 35, 121, 122, 123, 124, 125, 126, 127, 128, 129, 130, 131, 132, 133, 134] (by decide +kernel) (by decide +kernel)
set_option maxRecDepth 20000 in
theorem gX6_push_X6_freshDraft : GoodIn wsX6_push (wsV RX6 201 RX6 yX6_freshDraft wsX6_freshDraft) := goodIn_app (goodIn_of _ (by decide +kernel)) ggX6_push_X6_freshDraft
set_option maxRecDepth 20000 in
theorem ggX6_push_X0_makeByPush : GoodIn wsX6_push wsX0_makeByPush := goodIn_r _ [39, 40, 41, 42, 33, 34, 43, 44, 45, 46, 47, 48, 49, 50, 51, 52, 53, 54, 55, 56, 57, 58, 59, 60, 61, 62, 63, 64, 65, 66, 67, 68, 69, 70, 71, 72, 73, 74, 75, 76, 77, 78, 79, 80, 81, 82, 83, 84, 85, 86, 87, 88, 89, 90, 91, 92, 93, 94, 95, 96, 97, 98, 99, 100, 101, 102, 103, 104, 105, 106, 107, 108, 109, 110, 111, 112, 113, 114, 30, 115, 32, 135, 136, 137, 138, 139, 140, 141, 142, 143, 131, 132, 133, 134, 144, 145, 146, 147, 148, 149, 150, 151] (by decide +kernel) (by decide +kernel)
set_option maxRecDepth 20000 in
theorem gX6_push_X0_makeByPush : GoodIn wsX6_push (wsV RX6 205 RX0 yX0_makeByPush wsX0_makeByPush) := goodIn_app (goodIn_of _ (by decide +kernel)) ggX6_push_X0_makeByPush
set_option maxRecDepth 20000 in
theorem ggX6_push_X6_keepDraft : GoodIn wsX6_push wsX6_keepDraft := goodIn_r _ [119, 11, 120, 24, 25, 6, 26, 121, 122, 123, 124, 125, 126, 127, 128, 129, 130] (by decide +kernel) (by decide +kernel)
set_option maxRecDepth 20000 in
theorem gX6_push_X6_keepDraft : GoodIn wsX6_push (wsV RX6 84 RX6 yX6_keepDraft wsX6_keepDraft) := goodIn_app (goodIn_of _ (by decide +kernel)) ggX6_push_X6_keepDraft
set_option maxRecDepth 20000 in
theorem ggX6_pop_X6_needVersion : GoodIn wsX6_pop wsX6_needVersion := goodIn_ca (goodIn_r _ [7, 8, 9, 10, 11, 12, 13, 129, 130, 131, 132, 133, 134, 135, 136, 137, 138, 139, 140, 141, 142] (by decide +kernel) (by decide +kernel)) (goodIn_sub (fun _ h => List.mem_cons_of_mem _ (List.mem_append_right _ h)) (by decide +kernel))
set_option maxRecDepth 20000 in
theorem gX6_pop_X6_needVersion : GoodIn wsX6_pop (wsV RX6 95 RX6 yX6_needVersion wsX6_needVersion) := goodIn_app (goodIn_of _ (by decide +kernel)) ggX6_pop_X6_needVersion
set_option maxRecDepth 20000 in
theorem ggX6_pop_X5_length : GoodIn wsX6_pop wsX5_length := goodIn_r _ [18, 19, 20, 143, 144, 145, 146, 147, 148, 149, 150, 151] (by decide +kernel) (by decide +kernel)
set_option maxRecDepth 20000 in
theorem gX6_pop_X5_length : GoodIn wsX6_pop (wsV RX6 169 RX5 yX5_length wsX5_length) := goodIn_app (goodIn_of _ (by decide +kernel)) ggX6_pop_X5_length
set_option maxRecDepth 20000 in
theorem ggX6_pop_X6_needRoom : GoodIn wsX6_pop wsX6_needRoom := goodIn_ca (goodIn_r _ [24, 1, 2, 10, 11, 12, 129, 130, 131, 132, 133, 134, 135, 136, 137, 138, 139, 140, 141, 142] (by decide +kernel) (by decide +kernel)) (goodIn_sub (fun _ h => List.mem_cons_of_mem _ (List.mem_append_left _ (List.mem_append_right _ h))) (by decide +kernel))
set_option maxRecDepth 20000 in
theorem gX6_pop_X6_needRoom : GoodIn wsX6_pop (wsV RX6 198 RX6 yX6_needRoom wsX6_needRoom) := goodIn_app (goodIn_of _ (by decide +kernel)) ggX6_pop_X6_needRoom
set_option maxRecDepth 20000 in
theorem ggX6_pop_X6_freshDraft : GoodIn wsX6_pop wsX6_freshDraft := goodIn_r _ [28, 10, 11, 29, 30, 6, 31, 32, 33, 34, 35, 36, 37, 38, 39, 40, 129, 130, 131, 132, 133, 134, 135, 136, 137, 138, 139, 140, 141, 142] (by decide +kernel) (by decide +kernel)
set_option maxRecDepth 20000 in
theorem gX6_pop_X6_freshDraft : GoodIn wsX6_pop (wsV RX6 201 RX6 yX6_freshDraft wsX6_freshDraft) := goodIn_app (goodIn_of _ (by decide +kernel)) ggX6_pop_X6_freshDraft
set_option maxRecDepth 20000 in
theorem ggX6_pop_X0_makeByPop : GoodIn wsX6_pop wsX0_makeByPop := goodIn_r _ [44, 45, 46, 17, 38, 39, 47, 48, 49, 50, 51, 52, 53, 54, 55, 56, 57, 58, 19, 20, 59, 60, 61, 62, 63, 64, 65, 66, 67, 68, 69, 70, 71, 72, 73, 74, 75, 76, 77, 78, 79, 80, 81, 82, 83, 84, 85, 86, 87, 88, 89, 90, 91, 92, 93, 94, 95, 96, 97, 98, 99, 100, 101, 102, 103, 104, 105, 106, 107, 108, 109, 110, 111, 112, 113, 114, 115, 116, 117, 118, 119, 120, 121, 122, 35, 123, 37, 143, 144, 145, 146, 147, 148, 149, 150, 151, 139, 140, 141, 142, 152, 153, 154, 155, 156, 157, 158, 159] (by decide +kernel) (by decide +kernel)
set_option maxRecDepth 20000 in
theorem gX6_pop_X0_makeByPop : GoodIn wsX6_pop (wsV RX6 211 RX0 yX0_makeByPop wsX0_makeByPop) := goodIn_app (goodIn_of _ (by decide +kernel)) ggX6_pop_X0_makeByPop
set_option maxRecDepth 20000 in
theorem ggX6_pop_X6_keepDraft : GoodIn wsX6_pop wsX6_keepDraft := goodIn_r _ [127, 11, 128, 29, 30, 6, 31, 129, 130, 131, 132, 133, 134, 135, 136, 137, 138] (by decide +kernel) (by decide +kernel)
set_option maxRecDepth 20000 in
theorem gX6_pop_X6_keepDraft : GoodIn wsX6_pop (wsV RX6 84 RX6 yX6_keepDraft wsX6_keepDraft) := goodIn_app (goodIn_of _ (by decide +kernel)) ggX6_pop_X6_keepDraft
set_option maxRecDepth 20000 in
theorem ggX6_drop_X6_needVersion : GoodIn wsX6_drop wsX6_needVersion := goodIn_ca (goodIn_r _ [10, 11, 12, 3, 4, 5, 13, 44, 45, 46, 47, 48, 49, 50, 51, 52, 53, 54, 55, 56, 57] (by decide +kernel) (by decide +kernel)) (goodIn_sub (fun _ h => List.mem_cons_of_mem _ (List.mem_append_right _ h)) (by decide +kernel))
set_option maxRecDepth 20000 in
theorem gX6_drop_X6_needVersion : GoodIn wsX6_drop (wsV RX6 95 RX6 yX6_needVersion wsX6_needVersion) := goodIn_app (goodIn_of _ (by decide +kernel)) ggX6_drop_X6_needVersion
set_option maxRecDepth 20000 in
theorem ggX6_drop_X0_childrenOf : GoodIn wsX6_drop wsX0_childrenOf := goodIn_r _ [18, 19, 20, 21, 54, 55, 56, 57, 58, 59, 60, 61, 62, 63, 64, 65, 66] (by decide +kernel) (by decide +kernel)
set_option maxRecDepth 20000 in
theorem gX6_drop_X0_childrenOf : GoodIn wsX6_drop (wsV RX6 214 RX0 yX0_childrenOf wsX0_childrenOf) := goodIn_app (goodIn_of _ (by decide +kernel)) ggX6_drop_X0_childrenOf
set_option maxRecDepth 20000 in
theorem ggX6_drop_X6_freshDraft : GoodIn wsX6_drop wsX6_freshDraft := goodIn_r _ [25, 3, 4, 26, 27, 9, 28, 29, 30, 31, 17, 32, 19, 20, 33, 34, 44, 45, 46, 47, 48, 49, 50, 51, 52, 53, 54, 55, 56, 57] (by decide +kernel) (by decide +kernel)
set_option maxRecDepth 20000 in
theorem gX6_drop_X6_freshDraft : GoodIn wsX6_drop (wsV RX6 201 RX6 yX6_freshDraft wsX6_freshDraft) := goodIn_app (goodIn_of _ (by decide +kernel)) ggX6_drop_X6_freshDraft
set_option maxRecDepth 20000 in
theorem ggX6_drop_X0_remove : GoodIn wsX6_drop wsX0_remove := goodIn_r _ [38, 19, 20, 34, 54, 55, 56, 57] (by decide +kernel) (by decide +kernel)
set_option maxRecDepth 20000 in
theorem gX6_drop_X0_remove : GoodIn wsX6_drop (wsV RX6 219 RX0 yX0_remove wsX0_remove) := goodIn_app (goodIn_of _ (by decide +kernel)) ggX6_drop_X0_remove
set_option maxRecDepth 20000 in
theorem ggX6_drop_X6_keepDraft : GoodIn wsX6_drop wsX6_keepDraft := goodIn_r _ [42, 4, 43, 26, 27, 9, 28, 44, 45, 46, 47, 48, 49, 50, 51, 52, 53] (by decide +kernel) (by decide +kernel)
set_option maxRecDepth 20000 in
theorem gX6_drop_X6_keepDraft : GoodIn wsX6_drop (wsV RX6 84 RX6 yX6_keepDraft wsX6_keepDraft) := goodIn_app (goodIn_of _ (by decide +kernel)) ggX6_drop_X6_keepDraft
set_option maxRecDepth 20000 in
theorem ggX6_rule_X6_freshDraft : GoodIn wsX6_rule wsX6_freshDraft := goodIn_r _ [10, 3, 4, 11, 12, 9, 13, 14, 15, 16, 17, 18, 19, 20, 21, 22, 28, 29, 30, 31, 32, 33, 34, 35, 36, 37, 38, 39, 40, 41] (by decide +kernel) (by decide +kernel)
set_option maxRecDepth 20000 in
theorem gX6_rule_X6_freshDraft : GoodIn wsX6_rule (wsV RX6 201 RX6 yX6_freshDraft wsX6_freshDraft) := goodIn_app (goodIn_of _ (by decide +kernel)) ggX6_rule_X6_freshDraft
set_option maxRecDepth 20000 in
theorem ggX6_rule_X6_keepDraft : GoodIn wsX6_rule wsX6_keepDraft := goodIn_r _ [26, 4, 27, 11, 12, 9, 13, 28, 29, 30, 31, 32, 33, 34, 35, 36, 37] (by decide +kernel) (by decide +kernel)
set_option maxRecDepth 20000 in
theorem gX6_rule_X6_keepDraft : GoodIn wsX6_rule (wsV RX6 84 RX6 yX6_keepDraft wsX6_keepDraft) := goodIn_app (goodIn_of _ (by decide +kernel)) ggX6_rule_X6_keepDraft
set_option maxRecDepth 20000 in
theorem ggX6_checksum_X0_numberOfAll : GoodIn wsX6_checksum wsX0_numberOfAll := goodIn_r _ [9, 10, 11, 12, 13, 14, 15, 8, 16, 17, 18, 19, 20, 21, 22, 23, 24, 25, 26, 27, 28, 29, 30, 31, 32, 33, 34, 35, 36, 37, 38, 39, 40, 41, 42, 43, 44, 45, 46, 47, 48, 49, 50, 51, 52, 53, 54, 55, 56, 57, 123, 124, 125, 126, 127, 128, 129, 130, 131, 132, 133, 134, 135, 136, 137, 138, 139, 140, 141] (by decide +kernel) (by decide +kernel)
set_option maxRecDepth 20000 in
theorem gX6_checksum_X0_numberOfAll : GoodIn wsX6_checksum (wsV RX6 92 RX0 yX0_numberOfAll wsX0_numberOfAll) := goodIn_app (goodIn_of _ (by decide +kernel)) ggX6_checksum_X0_numberOfAll
set_option maxRecDepth 20000 in
theorem ggX6_checksum_X6_mixed : GoodIn wsX6_checksum wsX6_mixed := goodIn_r _ [61, 62] (by decide +kernel) (by decide +kernel)
set_option maxRecDepth 20000 in
theorem gX6_checksum_X6_mixed : GoodIn wsX6_checksum (va_wsS RX6 224 yX6_mixed wsX6_mixed) := goodIn_app (goodIn_of _ (by decide +kernel)) ggX6_checksum_X6_mixed
set_option maxRecDepth 20000 in
theorem ggX6_checksum_X0_numberOfOne : GoodIn wsX6_checksum wsX0_numberOfOne := goodIn_r _ [66, 17, 22, 67, 33, 68, 69, 27, 28, 70, 42, 71, 72, 73, 74, 8, 75, 10, 51, 52, 53, 54, 55, 56, 57, 18, 19, 20, 21, 76, 77, 78, 79, 80, 123, 124, 125, 126, 127, 128, 129, 130, 131, 132, 133, 134, 135, 136, 137, 138, 139, 140, 141, 142, 143] (by decide +kernel) (by decide +kernel)
set_option maxRecDepth 20000 in
theorem gX6_checksum_X0_numberOfOne : GoodIn wsX6_checksum (wsV RX6 99 RX0 yX0_numberOfOne wsX0_numberOfOne) := goodIn_app (goodIn_of _ (by decide +kernel)) ggX6_checksum_X0_numberOfOne
