set_option maxRecDepth 20000 in
theorem ggX0_makeByPush_X5_init : GoodIn wsX0_makeByPush wsX5_init := goodIn_r _ [8, 9, 10, 11, 12, 13, 14, 15, 16, 17, 18, 19, 20, 21, 22, 23, 24, 25, 26, 27, 28, 29, 30, 31, 32, 33, 34, 35, 36, 94, 95, 96, 97, 98, 99, 81, 82, 83, 84, 85, 86, 87, 88, 89] rfl (by decide +kernel)
set_option maxRecDepth 20000 in
theorem gX0_makeByPush_X5_init : GoodIn wsX0_makeByPush (wsX5_init) := ggX0_makeByPush_X5_init
set_option maxRecDepth 20000 in
theorem ggX0_makeByPush_X5_putLast : GoodIn wsX0_makeByPush wsX5_putLast := goodIn_r _ [40, 41, 42, 43, 17, 19, 44, 45, 46, 47, 10, 11, 48, 49, 100, 101, 81, 82, 83, 84, 85, 86, 87, 88, 89] rfl (by decide +kernel)
set_option maxRecDepth 20000 in
theorem gX0_makeByPush_X5_putLast : GoodIn wsX0_makeByPush (wsV RX0 30 RX5 yX5_putLast wsX5_putLast) := goodIn_app (goodIn_of _ (by decide +kernel)) ggX0_makeByPush_X5_putLast
set_option maxRecDepth 20000 in
theorem ggX0_makeByPush_X5_settle : GoodIn wsX0_makeByPush wsX5_settle := goodIn_r _ [53, 19, 18, 15, 16, 17, 20, 54, 55, 56, 57, 14, 58, 27, 28, 29, 30, 31, 32, 59, 60, 61, 62, 63, 42, 43, 64, 65, 66, 45, 46, 47, 10, 11, 48, 49, 67, 68, 69, 70, 71, 72, 73, 74, 81, 82, 83, 84, 85, 86, 87, 88, 89, 94, 95, 96, 97, 98, 99, 100, 101] rfl (by decide +kernel)
set_option maxRecDepth 20000 in
theorem gX0_makeByPush_X5_settle : GoodIn wsX0_makeByPush (wsV RX0 34 RX5 yX5_settle wsX5_settle) := goodIn_app (goodIn_of _ (by decide +kernel)) ggX0_makeByPush_X5_settle
set_option maxRecDepth 20000 in
theorem ggX0_makeByPush_X0_add : GoodIn wsX0_makeByPush wsX0_add := goodIn_r _ [79, 4, 80, 90, 91, 92, 93] rfl (by decide +kernel)
set_option maxRecDepth 20000 in
theorem gX0_makeByPush_X0_add : GoodIn wsX0_makeByPush (wsV RX0 37 RX0 yX0_add wsX0_add) := goodIn_app (goodIn_of _ (by decide +kernel)) ggX0_makeByPush_X0_add
set_option maxRecDepth 20000 in
theorem ggX0_makeByPop_X5_init : GoodIn wsX0_makeByPop wsX5_init := goodIn_r _ [8, 9, 10, 11, 12, 13, 14, 15, 16, 17, 18, 19, 20, 21, 22, 23, 24, 25, 26, 27, 28, 29, 30, 31, 32, 33, 34, 35, 36, 100, 101, 102, 103, 104, 105, 87, 88, 89, 90, 91, 92, 93, 94, 95] rfl (by decide +kernel)
set_option maxRecDepth 20000 in
theorem gX0_makeByPop_X5_init : GoodIn wsX0_makeByPop (wsX5_init) := ggX0_makeByPop_X5_init
set_option maxRecDepth 20000 in
theorem ggX0_makeByPop_X5_takeFirst : GoodIn wsX0_makeByPop wsX5_takeFirst := goodIn_r _ [40, 16, 18, 15, 41, 42, 43, 44, 45, 46, 47, 48, 14, 49, 27, 28, 32, 50, 51, 52, 53, 54, 30, 87, 88, 89, 90, 91, 92, 93, 94, 95, 106, 107, 100, 101, 102, 103, 104, 105] rfl (by decide +kernel)
set_option maxRecDepth 20000 in
theorem gX0_makeByPop_X5_takeFirst : GoodIn wsX0_makeByPop (wsV RX0 41 RX5 yX5_takeFirst wsX5_takeFirst) := goodIn_app (goodIn_of _ (by decide +kernel)) ggX0_makeByPop_X5_takeFirst
set_option maxRecDepth 20000 in
theorem ggX0_makeByPop_X5_settle : GoodIn wsX0_makeByPop wsX5_settle := goodIn_r _ [58, 19, 18, 15, 16, 17, 20, 59, 60, 61, 62, 14, 63, 27, 28, 29, 30, 31, 32, 64, 65, 66, 67, 68, 69, 43, 70, 71, 72, 73, 74, 75, 10, 11, 76, 45, 51, 52, 53, 54, 77, 78, 79, 80, 87, 88, 89, 90, 91, 92, 93, 94, 95, 100, 101, 102, 103, 104, 105, 106, 107] rfl (by decide +kernel)
set_option maxRecDepth 20000 in
theorem gX0_makeByPop_X5_settle : GoodIn wsX0_makeByPop (wsV RX0 34 RX5 yX5_settle wsX5_settle) := goodIn_app (goodIn_of _ (by decide +kernel)) ggX0_makeByPop_X5_settle
set_option maxRecDepth 20000 in
theorem ggX0_makeByPop_X0_add : GoodIn wsX0_makeByPop wsX0_add := goodIn_r _ [85, 4, 86, 96, 97, 98, 99] rfl (by decide +kernel)
set_option maxRecDepth 20000 in
theorem gX0_makeByPop_X0_add : GoodIn wsX0_makeByPop (wsV RX0 37 RX0 yX0_add wsX0_add) := goodIn_app (goodIn_of _ (by decide +kernel)) ggX0_makeByPop_X0_add
set_option maxRecDepth 20000 in
theorem ggX0_longerAhead_X5_length : GoodIn wsX0_longerAhead wsX5_length := goodIn_r _ [7, 8, 9, 14, 15, 16, 17, 18, 19, 20, 21, 22] rfl (by decide +kernel)
set_option maxRecDepth 20000 in
theorem gX0_longerAhead_X5_length : GoodIn wsX0_longerAhead (wsV RX0 48 RX5 yX5_length wsX5_length) := goodIn_app (goodIn_of _ (by decide +kernel)) ggX0_longerAhead_X5_length
set_option maxRecDepth 20000 in
theorem ggX0_numberOfAll_X0_withoutChildren : GoodIn wsX0_numberOfAll wsX0_withoutChildren := goodIn_r _ [8, 1, 9, 10, 11, 12, 7, 13, 14, 50, 51, 52, 53, 54, 55, 56, 57, 58, 59, 60, 61, 62] rfl (by decide +kernel)
set_option maxRecDepth 20000 in
theorem gX0_numberOfAll_X0_withoutChildren : GoodIn wsX0_numberOfAll (wsV RX0 52 RX0 yX0_withoutChildren wsX0_withoutChildren) := goodIn_app (goodIn_of _ (by decide +kernel)) ggX0_numberOfAll_X0_withoutChildren
set_option maxRecDepth 20000 in
theorem ggX0_numberOfAll_X0_turning : GoodIn wsX0_numberOfAll wsX0_turning := goodIn_r _ [18, 1, 9, 19, 20, 50, 51, 52, 53, 54, 55, 56, 57, 58, 59, 60, 61, 62, 63, 64, 65, 66, 67, 68] rfl (by decide +kernel)
set_option maxRecDepth 20000 in
theorem gX0_numberOfAll_X0_turning : GoodIn wsX0_numberOfAll (wsV RX0 55 RX0 yX0_turning wsX0_turning) := goodIn_app (goodIn_of _ (by decide +kernel)) ggX0_numberOfAll_X0_turning
set_option maxRecDepth 20000 in
theorem ggX0_numberOfAll_X0_greatestDepth : GoodIn wsX0_numberOfAll wsX0_greatestDepth := goodIn_r _ [24, 1, 9, 25, 26, 27, 28, 29, 50, 51, 52, 53, 54, 55, 56, 57, 58, 59, 60, 61, 62] rfl (by decide +kernel)
set_option maxRecDepth 20000 in
theorem gX0_numberOfAll_X0_greatestDepth : GoodIn wsX0_numberOfAll (wsV RX0 58 RX0 yX0_greatestDepth wsX0_greatestDepth) := goodIn_app (goodIn_of _ (by decide +kernel)) ggX0_numberOfAll_X0_greatestDepth
set_option maxRecDepth 20000 in
theorem ggX0_numberOfAll_X0_allSteps : GoodIn wsX0_numberOfAll wsX0_allSteps := goodIn_r _ [33, 1, 9, 34, 50, 51, 52, 53, 54, 55, 56, 57, 58, 59, 60, 61, 62] rfl (by decide +kernel)
set_option maxRecDepth 20000 in
theorem gX0_numberOfAll_X0_allSteps : GoodIn wsX0_numberOfAll (wsV RX0 61 RX0 yX0_allSteps wsX0_allSteps) := goodIn_app (goodIn_of _ (by decide +kernel)) ggX0_numberOfAll_X0_allSteps
set_option maxRecDepth 20000 in
theorem ggX0_numberOfAll_X0_mostSteps : GoodIn wsX0_numberOfAll wsX0_mostSteps := goodIn_r _ [38, 1, 9, 34, 26, 27, 28, 29, 50, 51, 52, 53, 54, 55, 56, 57, 58, 59, 60, 61, 62] rfl (by decide +kernel)
set_option maxRecDepth 20000 in
theorem gX0_numberOfAll_X0_mostSteps : GoodIn wsX0_numberOfAll (wsV RX0 64 RX0 yX0_mostSteps wsX0_mostSteps) := goodIn_app (goodIn_of _ (by decide +kernel)) ggX0_numberOfAll_X0_mostSteps
set_option maxRecDepth 20000 in
theorem ggX0_numberOfAll_X0_withoutValues : GoodIn wsX0_numberOfAll wsX0_withoutValues := goodIn_r _ [42, 1, 9, 43, 44, 45, 46, 47, 48, 49, 50, 51, 52, 53, 54, 55, 56, 57, 58, 59, 60, 61, 62] rfl (by decide +kernel)
set_option maxRecDepth 20000 in
theorem gX0_numberOfAll_X0_withoutValues : GoodIn wsX0_numberOfAll (wsV RX0 67 RX0 yX0_withoutValues wsX0_withoutValues) := goodIn_app (goodIn_of _ (by decide +kernel)) ggX0_numberOfAll_X0_withoutValues
set_option maxRecDepth 20000 in
theorem ggX0_numberOfOne_X0_indexOf : GoodIn wsX0_numberOfOne wsX0_indexOf := goodIn_r _ [16, 17, 1, 34, 35, 36, 37] rfl (by decide +kernel)
set_option maxRecDepth 20000 in
theorem gX0_numberOfOne_X0_indexOf : GoodIn wsX0_numberOfOne (wsV RX0 70 RX0 yX0_indexOf wsX0_indexOf) := goodIn_app (goodIn_of _ (by decide +kernel)) ggX0_numberOfOne_X0_indexOf
set_option maxRecDepth 20000 in
theorem ggX0_numberOfOne_X5_length : GoodIn wsX0_numberOfOne wsX5_length := goodIn_r _ [22, 23, 24, 38, 39, 40, 41, 42, 43, 44, 45, 46] rfl (by decide +kernel)
set_option maxRecDepth 20000 in
theorem gX0_numberOfOne_X5_length : GoodIn wsX0_numberOfOne (wsV RX0 48 RX5 yX5_length wsX5_length) := goodIn_app (goodIn_of _ (by decide +kernel)) ggX0_numberOfOne_X5_length
set_option maxRecDepth 20000 in
theorem ggX0_numberOfOne_X0_childrenOf : GoodIn wsX0_numberOfOne wsX0_childrenOf := goodIn_r _ [28, 17, 1, 2, 34, 35, 36, 37, 38, 39, 40, 41, 42, 43, 44, 45, 46] rfl (by decide +kernel)
set_option maxRecDepth 20000 in
theorem gX0_numberOfOne_X0_childrenOf : GoodIn wsX0_numberOfOne (wsV RX0 100 RX0 yX0_childrenOf wsX0_childrenOf) := goodIn_app (goodIn_of _ (by decide +kernel)) ggX0_numberOfOne_X0_childrenOf
set_option maxRecDepth 20000 in
theorem ggX0_numberOfOne_X1_sizeOf : GoodIn wsX0_numberOfOne wsX1_sizeOf := goodIn_r _ [32, 33, 53, 54] rfl (by decide +kernel)
set_option maxRecDepth 20000 in
theorem gX0_numberOfOne_X1_sizeOf : GoodIn wsX0_numberOfOne (va_wsS RX0 107 yX1_sizeOf wsX1_sizeOf) := goodIn_app (goodIn_of _ (by decide +kernel)) ggX0_numberOfOne_X1_sizeOf
set_option maxRecDepth 20000 in
theorem ggX0_withoutChildren_X0_childrenOf : GoodIn wsX0_withoutChildren wsX0_childrenOf := goodIn_r _ [7, 1, 2, 8, 9, 10, 11, 12, 13, 14, 15, 16, 17, 18, 19, 20, 21] rfl (by decide +kernel)
set_option maxRecDepth 20000 in
theorem gX0_withoutChildren_X0_childrenOf : GoodIn wsX0_withoutChildren (wsV RX0 100 RX0 yX0_childrenOf wsX0_childrenOf) := goodIn_app (goodIn_of _ (by decide +kernel)) ggX0_withoutChildren_X0_childrenOf
set_option maxRecDepth 20000 in
theorem ggX0_withoutValues_X5_length : GoodIn wsX0_withoutValues wsX5_length := goodIn_r _ [7, 8, 9, 14, 15, 16, 17, 18, 19, 20, 21, 22] rfl (by decide +kernel)
set_option maxRecDepth 20000 in
theorem gX0_withoutValues_X5_length : GoodIn wsX0_withoutValues (wsV RX0 48 RX5 yX5_length wsX5_length) := goodIn_app (goodIn_of _ (by decide +kernel)) ggX0_withoutValues_X5_length
set_option maxRecDepth 20000 in
theorem ggX1_writeReversed_X1_sizeOf : GoodIn wsX1_writeReversed wsX1_sizeOf := goodIn_r _ [6, 2, 7, 8] rfl (by decide +kernel)
set_option maxRecDepth 20000 in
theorem gX1_writeReversed_X1_sizeOf : GoodIn wsX1_writeReversed (va_wsS RX1 19 yX1_sizeOf wsX1_sizeOf) := goodIn_app (goodIn_of _ (by decide +kernel)) ggX1_writeReversed_X1_sizeOf
set_option maxRecDepth 20000 in
theorem ggX2_go_X2_takeFirst : GoodIn wsX2_go wsX2_takeFirst := goodIn_r _ [13, 3, 4, 18, 19, 20, 21] rfl (by decide +kernel)
set_option maxRecDepth 20000 in
theorem gX2_go_X2_takeFirst : GoodIn wsX2_go (wsV RX2 24 RX2 yX2_takeFirst wsX2_takeFirst) := goodIn_app (goodIn_of _ (by decide +kernel)) ggX2_go_X2_takeFirst
set_option maxRecDepth 20000 in
theorem ggX2_go_X2_putLast : GoodIn wsX2_go wsX2_putLast := goodIn_r _ [17, 4, 18, 19, 20, 21] rfl (by decide +kernel)
set_option maxRecDepth 20000 in
theorem gX2_go_X2_putLast : GoodIn wsX2_go (wsV RX2 28 RX2 yX2_putLast wsX2_putLast) := goodIn_app (goodIn_of _ (by decide +kernel)) ggX2_go_X2_putLast
set_option maxRecDepth 20000 in
theorem ggX4_step_X1_init : GoodIn wsX4_step wsX1_init := goodIn_r _ [14, 15, 16, 17, 18, 19, 31, 32] rfl (by decide +kernel)
set_option maxRecDepth 20000 in
theorem gX4_step_X1_init : GoodIn wsX4_step (wsX1_init) := ggX4_step_X1_init
set_option maxRecDepth 20000 in
theorem ggX4_step_X4_finish : GoodIn wsX4_step wsX4_finish := goodIn_r _ [24, 1, 8, 25, 26, 27, 28, 29, 30] rfl (by decide +kernel)
set_option maxRecDepth 20000 in
theorem gX4_step_X4_finish : GoodIn wsX4_step (wsV RX4 42 RX4 yX4_finish wsX4_finish) := goodIn_app (goodIn_of _ (by decide +kernel)) ggX4_step_X4_finish
set_option maxRecDepth 20000 in
theorem ggX4_loseFirst_X1_behindFirst : GoodIn wsX4_loseFirst wsX1_behindFirst := goodIn_r _ [7, 8, 21, 22] rfl (by decide +kernel)
set_option maxRecDepth 20000 in
theorem gX4_loseFirst_X1_behindFirst : GoodIn wsX4_loseFirst (va_wsS RX4 45 yX1_behindFirst wsX1_behindFirst) := goodIn_app (goodIn_of _ (by decide +kernel)) ggX4_loseFirst_X1_behindFirst
set_option maxRecDepth 20000 in
theorem ggX4_loseFirst_X4_finish : GoodIn wsX4_loseFirst wsX4_finish := goodIn_r _ [13, 1, 14, 15, 16, 17, 18, 19, 20] rfl (by decide +kernel)
set_option maxRecDepth 20000 in
theorem gX4_loseFirst_X4_finish : GoodIn wsX4_loseFirst (wsV RX4 42 RX4 yX4_finish wsX4_finish) := goodIn_app (goodIn_of _ (by decide +kernel)) ggX4_loseFirst_X4_finish
set_option maxRecDepth 20000 in
theorem ggX5_init_X4_init : GoodIn wsX5_init wsX4_init := goodIn_r _ [17, 18, 2, 3, 19, 20, 21, 22, 23, 24, 29, 30, 31, 32, 33, 34] rfl (by decide +kernel)
set_option maxRecDepth 20000 in
theorem gX5_init_X4_init_n11 : GoodIn wsX5_init (wsX4_init) := ggX5_init_X4_init
set_option maxRecDepth 20000 in
theorem ggX5_init_X4_copyFrom : GoodIn wsX5_init wsX4_copyFrom := goodIn_r _ [28, 19, 20, 21, 22, 23, 24, 29, 30, 31, 32, 33, 34] rfl (by decide +kernel)
set_option maxRecDepth 20000 in
theorem gX5_init_X4_copyFrom : GoodIn wsX5_init (wsV RX5 45 RX4 yX4_copyFrom wsX4_copyFrom) := goodIn_app (goodIn_of _ (by decide +kernel)) ggX5_init_X4_copyFrom
set_option maxRecDepth 20000 in
theorem ggX5_putLast_X1_init : GoodIn wsX5_putLast wsX1_init := goodIn_r _ [8, 9, 10, 11, 12, 13, 14, 15] rfl (by decide +kernel)
set_option maxRecDepth 20000 in
theorem gX5_putLast_X1_init : GoodIn wsX5_putLast (wsX1_init) := ggX5_putLast_X1_init
set_option maxRecDepth 20000 in
theorem ggX5_takeFirst_X1_behindFirst : GoodIn wsX5_takeFirst wsX1_behindFirst := goodIn_r _ [7, 8, 32, 33] rfl (by decide +kernel)
set_option maxRecDepth 20000 in
theorem gX5_takeFirst_X1_behindFirst : GoodIn wsX5_takeFirst (va_wsS RX5 54 yX1_behindFirst wsX1_behindFirst) := goodIn_app (goodIn_of _ (by decide +kernel)) ggX5_takeFirst_X1_behindFirst
set_option maxRecDepth 20000 in
theorem ggX5_takeFirst_X4_loseFirst : GoodIn wsX5_takeFirst wsX4_loseFirst := goodIn_r _ [13, 14, 15, 16, 17, 5, 6, 7, 8, 18, 19, 20, 12, 21, 22, 34, 35, 36, 37, 38, 39, 32, 33] rfl (by decide +kernel)
set_option maxRecDepth 20000 in
theorem gX5_takeFirst_X4_loseFirst : GoodIn wsX5_takeFirst (wsV RX5 58 RX4 yX4_loseFirst wsX4_loseFirst) := goodIn_app (goodIn_of _ (by decide +kernel)) ggX5_takeFirst_X4_loseFirst
set_option maxRecDepth 20000 in
theorem ggX5_settle_X4_begin : GoodIn wsX5_settle wsX4_begin := goodIn_r _ [12, 13, 14, 15, 16, 17, 18, 53, 54, 55, 56, 57, 58] rfl (by decide +kernel)
set_option maxRecDepth 20000 in
theorem gX5_settle_X4_begin : GoodIn wsX5_settle (wsV RX5 61 RX4 yX4_begin wsX4_begin) := goodIn_app (goodIn_of _ (by decide +kernel)) ggX5_settle_X4_begin
set_option maxRecDepth 20000 in
theorem ggX5_settle_X4_step : GoodIn wsX5_settle wsX4_step := goodIn_r _ [22, 13, 15, 17, 23, 24, 25, 26, 16, 18, 27, 14, 28, 29, 30, 31, 32, 33, 34, 35, 36, 37, 38, 11, 39, 53, 54, 55, 56, 57, 58, 59, 60] rfl (by decide +kernel)
set_option maxRecDepth 20000 in
theorem gX5_settle_X4_step : GoodIn wsX5_settle (wsV RX5 65 RX4 yX4_step wsX4_step) := goodIn_app (goodIn_of _ (by decide +kernel)) ggX5_settle_X4_step
set_option maxRecDepth 20000 in
theorem ggX5_settle_X4_endWithList : GoodIn wsX5_settle wsX4_endWithList := goodIn_r _ [43, 18, 13, 53, 54, 55, 56, 57, 58] rfl (by decide +kernel)
set_option maxRecDepth 20000 in
theorem gX5_settle_X4_endWithList : GoodIn wsX5_settle (wsV RX5 72 RX4 yX4_endWithList wsX4_endWithList) := goodIn_app (goodIn_of _ (by decide +kernel)) ggX5_settle_X4_endWithList
set_option maxRecDepth 20000 in
theorem ggX5_valuesInto_X1_writeFirst : GoodIn wsX5_valuesInto wsX1_writeFirst := goodIn_r _ [11, 12, 13, 35, 36] rfl (by decide +kernel)
set_option maxRecDepth 20000 in
theorem gX5_valuesInto_X1_writeFirst : GoodIn wsX5_valuesInto (va_wsS RX5 91 yX1_writeFirst wsX1_writeFirst) := goodIn_app (goodIn_of _ (by decide +kernel)) ggX5_valuesInto_X1_writeFirst
set_option maxRecDepth 20000 in
theorem ggX5_valuesInto_X1_writeReversed : GoodIn wsX5_valuesInto wsX1_writeReversed := goodIn_r _ [16, 12, 13, 17, 18, 10, 19, 35, 36] rfl (by decide +kernel)
set_option maxRecDepth 20000 in
theorem gX5_valuesInto_X1_writeReversed : GoodIn wsX5_valuesInto (va_wsS RX5 95 yX1_writeReversed wsX1_writeReversed) := goodIn_app (goodIn_of _ (by decide +kernel)) ggX5_valuesInto_X1_writeReversed
set_option maxRecDepth 20000 in
theorem ggX5_valuesByWayInto_X5_wayInto : GoodIn wsX5_valuesByWayInto wsX5_wayInto := goodIn_r _ [5, 6, 7, 8, 9, 10, 11, 12, 13, 14, 15, 16, 17] rfl (by decide +kernel)
set_option maxRecDepth 20000 in
theorem gX5_valuesByWayInto_X5_wayInto : GoodIn wsX5_valuesByWayInto (wsV RX5 99 RX5 yX5_wayInto wsX5_wayInto) := goodIn_app (goodIn_of _ (by decide +kernel)) ggX5_valuesByWayInto_X5_wayInto
set_option maxRecDepth 20000 in
theorem ggX6_init_X3_init : GoodIn wsX6_init wsX3_init := goodIn_r _ [29, 30, 2, 3, 31, 32, 33, 34, 35, 36, 37, 38, 39, 40, 96, 97, 98, 99, 100, 101, 102, 103, 104, 105] rfl (by decide +kernel)
set_option maxRecDepth 20000 in
theorem gX6_init_X3_init_n15 : GoodIn wsX6_init (wsX3_init) := ggX6_init_X3_init
set_option maxRecDepth 20000 in
theorem ggX6_init_X2_init : GoodIn wsX6_init wsX2_init := goodIn_r _ [42, 43, 2, 3, 44, 45, 46, 47, 106, 107, 108, 109] rfl (by decide +kernel)
set_option maxRecDepth 20000 in
theorem gX6_init_X2_init_n28 : GoodIn wsX6_init (wsX2_init) := ggX6_init_X2_init
set_option maxRecDepth 20000 in
theorem ggX6_init_X5_init : GoodIn wsX6_init wsX5_init := goodIn_r _ [50, 51, 2, 3, 52, 53, 54, 55, 56, 57, 58, 59, 60, 61, 62, 63, 64, 65, 66, 67, 68, 69, 70, 71, 72, 73, 74, 75, 76, 123, 124, 125, 126, 127, 128, 110, 111, 112, 113, 114, 115, 116, 117, 118] rfl (by decide +kernel)
set_option maxRecDepth 20000 in
theorem gX6_init_X5_init : GoodIn wsX6_init (wsX5_init) := ggX6_init_X5_init
set_option maxRecDepth 20000 in
theorem ggX6_init_X0_init : GoodIn wsX6_init wsX0_init := goodIn_r _ [79, 80, 2, 3, 81, 82, 83, 84, 85, 119, 120, 121, 122] rfl (by decide +kernel)
set_option maxRecDepth 20000 in
theorem gX6_init_X0_init : GoodIn wsX6_init (wsX0_init) := ggX6_init_X0_init
set_option maxRecDepth 20000 in
theorem ggX6_append_X6_addBytes : GoodIn wsX6_append wsX6_addBytes := goodIn_r _ [6, 1, 7, 8, 9, 10, 11, 12, 13, 14, 15, 16, 17] rfl (by decide +kernel)
set_option maxRecDepth 20000 in
theorem gX6_append_X6_addBytes : GoodIn wsX6_append (wsV RX6 61 RX6 yX6_addBytes wsX6_addBytes) := goodIn_app (goodIn_of _ (by decide +kernel)) ggX6_append_X6_addBytes
set_option maxRecDepth 20000 in
theorem ggX6_load_X6_following : GoodIn wsX6_load wsX6_following := goodIn_r _ [14] rfl (by decide +kernel)
set_option maxRecDepth 20000 in
theorem gX6_load_X6_following : GoodIn wsX6_load (va_wsS RX6 72 yX6_following wsX6_following) := goodIn_app (goodIn_of _ (by decide +kernel)) ggX6_load_X6_following
set_option maxRecDepth 20000 in
theorem ggX6_load_X0_restart : GoodIn wsX6_load wsX0_restart := goodIn_r _ [19, 20, 21, 22, 266, 267, 268, 269] rfl (by decide +kernel)
set_option maxRecDepth 20000 in
theorem gX6_load_X0_restart : GoodIn wsX6_load (wsV RX6 76 RX0 yX0_restart wsX0_restart) := goodIn_app (goodIn_of _ (by decide +kernel)) ggX6_load_X0_restart
set_option maxRecDepth 20000 in
theorem ggX6_load_X3_read : GoodIn wsX6_load wsX3_read := goodIn_r _ [27, 28, 29, 30, 31, 32, 33, 34, 35, 36, 37, 38, 39, 40, 41, 42, 26, 43, 44, 45, 46, 47, 48, 49, 50, 51, 52, 53, 54, 55, 56, 57, 58, 59, 60, 61, 62, 63, 64, 65, 66, 67, 68, 69, 70, 71, 72, 73, 74, 75, 76, 77, 78, 79, 80, 81, 82, 83, 84, 85, 86, 87, 88, 89, 90, 91, 92, 93, 94, 95, 96, 97, 98, 99, 100, 101, 102, 103, 104, 105, 106, 107, 108, 109, 110, 111, 112, 113, 114, 115, 116, 117, 118, 119, 120, 121, 122, 123, 124, 125, 126, 127, 128, 129, 130, 131, 132, 18, 133, 134, 135, 136, 137, 21, 138, 139, 140, 141, 142, 143, 144, 145, 146, 147, 148, 149, 150, 151, 152, 153, 154, 155, 156, 157, 158, 159, 160, 161, 162, 163, 164, 165, 166, 167, 168, 169, 170, 171, 172, 173, 174, 175, 176, 177, 178, 179, 180, 181, 182, 183, 184, 185, 186, 187, 188, 189, 190, 191, 192, 193, 194, 195, 196, 197, 198, 199, 200, 201, 202, 203, 204, 205, 206, 207, 208, 209, 210, 20, 211, 212, 213, 214, 215, 216, 217, 218, 219, 220, 221, 222, 223, 224, 225, 226, 227, 228, 229, 230, 231, 232, 233, 234, 235, 236, 237, 238, 239, 240, 256, 257, 258, 259, 260, 261, 262, 263, 264, 265, 266, 267, 268, 269, 270, 271, 272, 273, 274, 275, 276, 277, 278, 279, 280, 281, 282, 283, 284, 285, 286] rfl (by decide +kernel)
set_option maxRecDepth 20000 in
theorem gX6_load_X3_read : GoodIn wsX6_load (wsV RX6 79 RX3 yX3_read wsX3_read) := goodIn_app (goodIn_of _ (by decide +kernel)) ggX6_load_X3_read
set_option maxRecDepth 20000 in
theorem ggX6_load_X6_keepDraft : GoodIn wsX6_load wsX6_keepDraft := goodIn_r _ [244, 5, 245, 11, 12, 13, 14, 246, 247, 248, 249, 250, 251, 252, 253, 254, 255] rfl (by decide +kernel)
set_option maxRecDepth 20000 in
theorem gX6_load_X6_keepDraft : GoodIn wsX6_load (wsV RX6 84 RX6 yX6_keepDraft wsX6_keepDraft) := goodIn_app (goodIn_of _ (by decide +kernel)) ggX6_load_X6_keepDraft
set_option maxRecDepth 20000 in
theorem ggX6_state_X0_numberOfAll : GoodIn wsX6_state wsX0_numberOfAll := goodIn_r _ [10, 11, 12, 13, 14, 15, 16, 9, 17, 18, 19, 20, 21, 22, 23, 24, 25, 26, 27, 28, 29, 30, 31, 32, 33, 34, 35, 36, 37, 38, 39, 40, 41, 42, 43, 44, 45, 46, 47, 48, 49, 50, 51, 52, 53, 54, 55, 56, 57, 58, 69, 70, 71, 72, 73, 74, 75, 76, 77, 78, 79, 80, 81, 82, 83, 84, 85, 86, 87] rfl (by decide +kernel)
set_option maxRecDepth 20000 in
theorem gX6_state_X0_numberOfAll : GoodIn wsX6_state (wsV RX6 92 RX0 yX0_numberOfAll wsX0_numberOfAll) := goodIn_app (goodIn_of _ (by decide +kernel)) ggX6_state_X0_numberOfAll
set_option maxRecDepth 20000 in
theorem ggX6_version_X6_needVersion : GoodIn wsX6_version wsX6_needVersion := goodIn_ca (goodIn_r _ [9, 10, 11, 3, 4, 12, 13, 51, 52, 53, 54, 55, 56, 57, 58, 59, 60, 61, 62, 63, 64] rfl (by decide +kernel)) (goodIn_sub (fun _ h => List.mem_cons_of_mem _ (List.mem_append_right _ h)) (by decide +kernel))
set_option maxRecDepth 20000 in
theorem gX6_version_X6_needVersion : GoodIn wsX6_version (wsV RX6 95 RX6 yX6_needVersion wsX6_needVersion) := goodIn_app (goodIn_of _ (by decide +kernel)) ggX6_version_X6_needVersion
set_option maxRecDepth 20000 in
theorem ggX6_version_X0_numberOfOne : GoodIn wsX6_version wsX0_numberOfOne := goodIn_r _ [18, 19, 20, 21, 22, 23, 24, 25, 26, 27, 28, 29, 30, 31, 32, 17, 33, 34, 35, 36, 37, 38, 39, 40, 41, 42, 43, 44, 45, 46, 47, 48, 49, 50, 61, 62, 63, 64, 65, 66, 67, 68, 69, 70, 71, 72, 73, 74, 75, 76, 77, 78, 79, 80, 81] rfl (by decide +kernel)
set_option maxRecDepth 20000 in
theorem gX6_version_X0_numberOfOne : GoodIn wsX6_version (wsV RX6 99 RX0 yX0_numberOfOne wsX0_numberOfOne) := goodIn_app (goodIn_of _ (by decide +kernel)) ggX6_version_X0_numberOfOne
set_option maxRecDepth 20000 in
theorem ggX6_value_X6_needVersion : GoodIn wsX6_value wsX6_needVersion := goodIn_ca (goodIn_r _ [8, 9, 10, 11, 12, 13, 14, 48, 49, 50, 51, 52, 53, 54, 55, 56, 57, 58, 59, 60, 61] rfl (by decide +kernel)) (goodIn_sub (fun _ h => List.mem_cons_of_mem _ (List.mem_append_right _ h)) (by decide +kernel))
set_option maxRecDepth 20000 in
theorem gX6_value_X6_needVersion : GoodIn wsX6_value (wsV RX6 95 RX6 yX6_needVersion wsX6_needVersion) := goodIn_app (goodIn_of _ (by decide +kernel)) ggX6_value_X6_needVersion
set_option maxRecDepth 20000 in
theorem ggX6_value_X5_listOf : GoodIn wsX6_value wsX5_listOf := goodIn_r _ [19, 20, 21, 22, 23, 24, 25, 26, 62, 63, 64, 65, 66, 67, 68, 69, 70, 71, 72, 73, 74, 75, 76] rfl (by decide +kernel)
set_option maxRecDepth 20000 in
theorem gX6_value_X5_listOf : GoodIn wsX6_value (wsV RX6 105 RX5 yX5_listOf wsX5_listOf) := goodIn_app (goodIn_of _ (by decide +kernel)) ggX6_value_X5_listOf
set_option maxRecDepth 20000 in
theorem ggX6_value_X1_valueAt : GoodIn wsX6_value wsX1_valueAt := goodIn_r _ [30, 31, 32, 77, 78] rfl (by decide +kernel)
set_option maxRecDepth 20000 in
theorem gX6_value_X1_valueAt : GoodIn wsX6_value (va_wsS RX6 109 yX1_valueAt wsX1_valueAt) := goodIn_app (goodIn_of _ (by decide +kernel)) ggX6_value_X1_valueAt
set_option maxRecDepth 20000 in
theorem ggX6_value_X5_valuesInto : GoodIn wsX6_value wsX5_valuesInto := goodIn_r _ [36, 22, 37, 38, 20, 25, 26, 21, 39, 40, 29, 41, 31, 32, 42, 43, 44, 45, 46, 47, 62, 63, 64, 65, 66, 67, 68, 69, 70, 71, 72, 73, 74, 75, 76, 77, 78] rfl (by decide +kernel)
set_option maxRecDepth 20000 in
theorem gX6_value_X5_valuesInto : GoodIn wsX6_value (wsV RX6 115 RX5 yX5_valuesInto wsX5_valuesInto) := goodIn_app (goodIn_of _ (by decide +kernel)) ggX6_value_X5_valuesInto
set_option maxRecDepth 20000 in
theorem ggX6_first_X6_needVersion : GoodIn wsX6_first wsX6_needVersion := goodIn_ca (goodIn_r _ [8, 9, 10, 11, 12, 13, 14, 39, 40, 41, 42, 43, 44, 45, 46, 47, 48, 49, 50, 51, 52] rfl (by decide +kernel)) (goodIn_sub (fun _ h => List.mem_cons_of_mem _ (List.mem_append_right _ h)) (by decide +kernel))
set_option maxRecDepth 20000 in
theorem gX6_first_X6_needVersion : GoodIn wsX6_first (wsV RX6 95 RX6 yX6_needVersion wsX6_needVersion) := goodIn_app (goodIn_of _ (by decide +kernel)) ggX6_first_X6_needVersion
set_option maxRecDepth 20000 in
theorem ggX6_first_X5_valuesInto : GoodIn wsX6_first wsX5_valuesInto := goodIn_r _ [19, 20, 21, 22, 23, 24, 25, 26, 27, 28, 29, 30, 31, 32, 33, 34, 35, 36, 37, 38, 53, 54, 55, 56, 57, 58, 59, 60, 61, 62, 63, 64, 65, 66, 67, 68, 69] rfl (by decide +kernel)
set_option maxRecDepth 20000 in
theorem gX6_first_X5_valuesInto : GoodIn wsX6_first (wsV RX6 115 RX5 yX5_valuesInto wsX5_valuesInto) := goodIn_app (goodIn_of _ (by decide +kernel)) ggX6_first_X5_valuesInto
set_option maxRecDepth 20000 in
theorem ggX6_find_X6_needVersion : GoodIn wsX6_find wsX6_needVersion := goodIn_ca (goodIn_r _ [6, 7, 8, 9, 10, 11, 12, 37, 38, 39, 40, 41, 42, 43, 44, 45, 46, 47, 48, 49, 50] rfl (by decide +kernel)) (goodIn_sub (fun _ h => List.mem_cons_of_mem _ (List.mem_append_right _ h)) (by decide +kernel))
set_option maxRecDepth 20000 in
theorem gX6_find_X6_needVersion : GoodIn wsX6_find (wsV RX6 95 RX6 yX6_needVersion wsX6_needVersion) := goodIn_app (goodIn_of _ (by decide +kernel)) ggX6_find_X6_needVersion
set_option maxRecDepth 20000 in
theorem ggX6_find_X5_valuesInto : GoodIn wsX6_find wsX5_valuesInto := goodIn_r _ [17, 18, 19, 20, 21, 22, 23, 24, 25, 26, 27, 28, 29, 30, 31, 32, 33, 34, 35, 36, 51, 52, 53, 54, 55, 56, 57, 58, 59, 60, 61, 62, 63, 64, 65, 66, 67] rfl (by decide +kernel)
set_option maxRecDepth 20000 in
theorem gX6_find_X5_valuesInto : GoodIn wsX6_find (wsV RX6 115 RX5 yX5_valuesInto wsX5_valuesInto) := goodIn_app (goodIn_of _ (by decide +kernel)) ggX6_find_X5_valuesInto
set_option maxRecDepth 20000 in
theorem ggX6_alike_X6_needVersion : GoodIn wsX6_alike wsX6_needVersion := goodIn_ca (goodIn_r _ [7, 8, 9, 10, 11, 12, 13, 42, 43, 44, 45, 46, 47, 48, 49, 50, 51, 52, 53, 54, 55] rfl (by decide +kernel)) (goodIn_sub (fun _ h => List.mem_cons_of_mem _ (List.mem_append_right _ h)) (by decide +kernel))
set_option maxRecDepth 20000 in
theorem gX6_alike_X6_needVersion : GoodIn wsX6_alike (wsV RX6 95 RX6 yX6_needVersion wsX6_needVersion) := goodIn_app (goodIn_of _ (by decide +kernel)) ggX6_alike_X6_needVersion
set_option maxRecDepth 20000 in
theorem ggX6_alike_X5_valuesInto : GoodIn wsX6_alike wsX5_valuesInto := goodIn_r _ [18, 19, 20, 21, 22, 23, 24, 25, 26, 27, 28, 29, 30, 31, 32, 33, 34, 35, 36, 37, 56, 57, 58, 59, 60, 61, 62, 63, 64, 65, 66, 67, 68, 69, 70, 71, 72] rfl (by decide +kernel)
set_option maxRecDepth 20000 in
theorem gX6_alike_X5_valuesInto : GoodIn wsX6_alike (wsV RX6 115 RX5 yX5_valuesInto wsX5_valuesInto) := goodIn_app (goodIn_of _ (by decide +kernel)) ggX6_alike_X5_valuesInto
set_option maxRecDepth 20000 in
theorem ggX6_alike_X6_sameRows : GoodIn wsX6_alike wsX6_sameRows := goodIn_r _ [41, 1, 2, 42, 43, 44, 45, 46, 47, 48, 49, 50, 51] rfl (by decide +kernel)
set_option maxRecDepth 20000 in
theorem gX6_alike_X6_sameRows : GoodIn wsX6_alike (wsV RX6 124 RX6 yX6_sameRows wsX6_sameRows) := goodIn_app (goodIn_of _ (by decide +kernel)) ggX6_alike_X6_sameRows
set_option maxRecDepth 20000 in
theorem ggX6_common_X6_needVersion : GoodIn wsX6_common wsX6_needVersion := goodIn_ca (goodIn_r _ [8, 9, 10, 1, 2, 11, 12, 26, 27, 28, 29, 30, 31, 32, 33, 34, 35, 45, 46, 47, 48] rfl (by decide +kernel)) (goodIn_sub (fun _ h => List.mem_cons_of_mem _ (List.mem_append_right _ h)) (by decide +kernel))
set_option maxRecDepth 20000 in
theorem gX6_common_X6_needVersion : GoodIn wsX6_common (wsV RX6 95 RX6 yX6_needVersion wsX6_needVersion) := goodIn_app (goodIn_of _ (by decide +kernel)) ggX6_common_X6_needVersion
set_option maxRecDepth 20000 in
theorem ggX6_common_X5_wasMadeFrom : GoodIn wsX6_common wsX5_wasMadeFrom := goodIn_r _ [17, 18, 36, 37, 38, 39, 40, 41, 42, 43, 44] rfl (by decide +kernel)
set_option maxRecDepth 20000 in
theorem gX6_common_X5_wasMadeFrom : GoodIn wsX6_common (wsV RX6 128 RX5 yX5_wasMadeFrom wsX5_wasMadeFrom) := goodIn_app (goodIn_of _ (by decide +kernel)) ggX6_common_X5_wasMadeFrom
set_option maxRecDepth 20000 in
theorem ggX6_common_X0_indexOf : GoodIn wsX6_common wsX0_indexOf := goodIn_r _ [23, 24, 25, 45, 46, 47, 48] rfl (by decide +kernel)
set_option maxRecDepth 20000 in
theorem gX6_common_X0_indexOf : GoodIn wsX6_common (wsV RX6 132 RX0 yX0_indexOf wsX0_indexOf) := goodIn_app (goodIn_of _ (by decide +kernel)) ggX6_common_X0_indexOf
set_option maxRecDepth 20000 in
theorem ggX6_work_X6_needVersion : GoodIn wsX6_work wsX6_needVersion := goodIn_ca (goodIn_r _ [11, 12, 13, 14, 15, 16, 17, 57, 58, 59, 60, 61, 62, 63, 64, 65, 66, 71, 72, 73, 74] rfl (by decide +kernel)) (goodIn_sub (fun _ h => List.mem_cons_of_mem _ (List.mem_append_right _ h)) (by decide +kernel))
set_option maxRecDepth 20000 in
theorem gX6_work_X6_needVersion : GoodIn wsX6_work (wsV RX6 95 RX6 yX6_needVersion wsX6_needVersion) := goodIn_app (goodIn_of _ (by decide +kernel)) ggX6_work_X6_needVersion
set_option maxRecDepth 20000 in
theorem ggX6_work_X5_stepsOnWay : GoodIn wsX6_work wsX5_stepsOnWay := goodIn_r _ [22, 23, 24, 75, 76, 77, 78, 79, 80, 81, 82, 83] rfl (by decide +kernel)
set_option maxRecDepth 20000 in
theorem gX6_work_X5_stepsOnWay : GoodIn wsX6_work (wsV RX6 140 RX5 yX5_stepsOnWay wsX5_stepsOnWay) := goodIn_app (goodIn_of _ (by decide +kernel)) ggX6_work_X5_stepsOnWay
set_option maxRecDepth 20000 in
theorem ggX6_work_X5_mostStepsOnWay : GoodIn wsX6_work wsX5_mostStepsOnWay := goodIn_r _ [28, 23, 29, 30, 31, 32, 24, 75, 76, 77, 78, 79, 80, 81, 82, 83] rfl (by decide +kernel)
set_option maxRecDepth 20000 in
theorem gX6_work_X5_mostStepsOnWay : GoodIn wsX6_work (wsV RX6 144 RX5 yX5_mostStepsOnWay wsX5_mostStepsOnWay) := goodIn_app (goodIn_of _ (by decide +kernel)) ggX6_work_X5_mostStepsOnWay
set_option maxRecDepth 20000 in
theorem ggX6_work_X5_wayInto : GoodIn wsX6_work wsX5_wayInto := goodIn_r _ [36, 24, 37, 38, 75, 76, 77, 78, 79, 80, 81, 82, 83] rfl (by decide +kernel)
set_option maxRecDepth 20000 in
theorem gX6_work_X5_wayInto : GoodIn wsX6_work (wsV RX6 147 RX5 yX5_wayInto wsX5_wayInto) := goodIn_app (goodIn_of _ (by decide +kernel)) ggX6_work_X5_wayInto
set_option maxRecDepth 20000 in
theorem ggX6_work_X2_go : GoodIn wsX6_work wsX2_go := goodIn_r _ [43, 44, 45, 46, 47, 48, 30, 31, 32, 49, 50, 51, 42, 52, 53, 54, 55, 56, 67, 68, 69, 70] rfl (by decide +kernel)
set_option maxRecDepth 20000 in
theorem gX6_work_X2_go : GoodIn wsX6_work (wsV RX6 150 RX2 yX2_go wsX2_go) := goodIn_app (goodIn_of _ (by decide +kernel)) ggX6_work_X2_go
set_option maxRecDepth 20000 in
theorem ggX6_idleIn_X6_needVersion : GoodIn wsX6_idleIn wsX6_needVersion := goodIn_ca (goodIn_r _ [13, 14, 15, 6, 7, 16, 17, 112, 113, 114, 115, 116, 117, 118, 119, 120, 121, 122, 123, 124, 125] rfl (by decide +kernel)) (goodIn_sub (fun _ h => List.mem_cons_of_mem _ (List.mem_append_right _ h)) (by decide +kernel))
set_option maxRecDepth 20000 in
theorem gX6_idleIn_X6_needVersion : GoodIn wsX6_idleIn (wsV RX6 95 RX6 yX6_needVersion wsX6_needVersion) := goodIn_app (goodIn_of _ (by decide +kernel)) ggX6_idleIn_X6_needVersion
set_option maxRecDepth 20000 in
theorem ggX6_idleIn_X5_init : GoodIn wsX6_idleIn wsX5_init := goodIn_r _ [20, 21, 22, 23, 24, 25, 26, 27, 28, 29, 30, 31, 32, 33, 34, 35, 36, 37, 38, 39, 40, 41, 42, 43, 44, 45, 46, 47, 48, 106, 107, 108, 109, 110, 111, 97, 98, 99, 100, 101, 102, 103, 104, 105] rfl (by decide +kernel)
set_option maxRecDepth 20000 in
theorem gX6_idleIn_X5_init : GoodIn wsX6_idleIn (wsX5_init) := ggX6_idleIn_X5_init
set_option maxRecDepth 20000 in
theorem ggX6_idleIn_X5_length : GoodIn wsX6_idleIn wsX5_length := goodIn_r _ [52, 30, 31, 97, 98, 99, 100, 101, 102, 103, 104, 105] rfl (by decide +kernel)
set_option maxRecDepth 20000 in
theorem gX6_idleIn_X5_length : GoodIn wsX6_idleIn (wsV RX6 169 RX5 yX5_length wsX5_length) := goodIn_app (goodIn_of _ (by decide +kernel)) ggX6_idleIn_X5_length
set_option maxRecDepth 20000 in
theorem ggX6_idleIn_X5_takeFirst : GoodIn wsX6_idleIn wsX5_takeFirst := goodIn_r _ [56, 28, 30, 27, 57, 58, 59, 60, 61, 62, 63, 64, 26, 65, 39, 40, 44, 66, 67, 68, 69, 70, 42, 97, 98, 99, 100, 101, 102, 103, 104, 105, 126, 127, 106, 107, 108, 109, 110, 111] rfl (by decide +kernel)
set_option maxRecDepth 20000 in
theorem gX6_idleIn_X5_takeFirst : GoodIn wsX6_idleIn (wsV RX6 172 RX5 yX5_takeFirst wsX5_takeFirst) := goodIn_app (goodIn_of _ (by decide +kernel)) ggX6_idleIn_X5_takeFirst
set_option maxRecDepth 20000 in
theorem ggX6_idleIn_X5_settle : GoodIn wsX6_idleIn wsX5_settle := goodIn_r _ [74, 31, 30, 27, 28, 29, 32, 75, 76, 77, 78, 26, 79, 39, 40, 41, 42, 43, 44, 80, 81, 82, 83, 84, 85, 59, 86, 87, 88, 89, 90, 91, 22, 23, 92, 61, 67, 68, 69, 70, 93, 94, 95, 96, 97, 98, 99, 100, 101, 102, 103, 104, 105, 106, 107, 108, 109, 110, 111, 126, 127] rfl (by decide +kernel)
set_option maxRecDepth 20000 in
theorem gX6_idleIn_X5_settle : GoodIn wsX6_idleIn (wsV RX6 178 RX5 yX5_settle wsX5_settle) := goodIn_app (goodIn_of _ (by decide +kernel)) ggX6_idleIn_X5_settle
set_option maxRecDepth 20000 in
theorem ggX6_gap_X5_valuesInto : GoodIn wsX6_gap wsX5_valuesInto := goodIn_r _ [11, 12, 13, 14, 15, 16, 17, 18, 19, 20, 21, 22, 23, 24, 25, 26, 27, 28, 29, 30, 61, 62, 63, 64, 65, 66, 67, 68, 69, 70, 71, 72, 73, 74, 75, 76, 77] rfl (by decide +kernel)
set_option maxRecDepth 20000 in
theorem gX6_gap_X5_valuesInto : GoodIn wsX6_gap (wsV RX6 115 RX5 yX5_valuesInto wsX5_valuesInto) := goodIn_app (goodIn_of _ (by decide +kernel)) ggX6_gap_X5_valuesInto
set_option maxRecDepth 20000 in
theorem ggX6_gap_X5_valuesByWayInto : GoodIn wsX6_gap wsX5_valuesByWayInto := goodIn_r _ [34, 35, 36, 37, 10, 38, 39, 40, 41, 61, 62, 63, 64, 65, 66, 67, 68, 69] rfl (by decide +kernel)
set_option maxRecDepth 20000 in
theorem gX6_gap_X5_valuesByWayInto : GoodIn wsX6_gap (wsV RX6 185 RX5 yX5_valuesByWayInto wsX5_valuesByWayInto) := goodIn_app (goodIn_of _ (by decide +kernel)) ggX6_gap_X5_valuesByWayInto
set_option maxRecDepth 20000 in
theorem ggX6_gap_X6_sameRows : GoodIn wsX6_gap wsX6_sameRows := goodIn_r _ [46, 5, 6, 47, 48, 49, 50, 51, 52, 53, 54, 55, 56] rfl (by decide +kernel)
set_option maxRecDepth 20000 in
theorem gX6_gap_X6_sameRows : GoodIn wsX6_gap (wsV RX6 124 RX6 yX6_sameRows wsX6_sameRows) := goodIn_app (goodIn_of _ (by decide +kernel)) ggX6_gap_X6_sameRows
set_option maxRecDepth 20000 in
theorem ggX6_ranked_X0_longerAhead : GoodIn wsX6_ranked wsX0_longerAhead := goodIn_r _ [10, 11, 12, 13, 14, 15, 16, 17, 18, 19, 30, 31, 32, 33, 34, 35, 36, 37, 38, 39, 40, 41, 42] rfl (by decide +kernel)
set_option maxRecDepth 20000 in
theorem gX6_ranked_X0_longerAhead : GoodIn wsX6_ranked (wsV RX6 188 RX0 yX0_longerAhead wsX0_longerAhead) := goodIn_app (goodIn_of _ (by decide +kernel)) ggX6_ranked_X0_longerAhead
set_option maxRecDepth 20000 in
theorem ggX6_meanSteps_X0_allSteps : GoodIn wsX6_meanSteps wsX0_allSteps := goodIn_r _ [8, 9, 10, 11, 22, 23, 24, 25, 26, 27, 28, 29, 30, 31, 32, 33, 34] rfl (by decide +kernel)
set_option maxRecDepth 20000 in
theorem gX6_meanSteps_X0_allSteps : GoodIn wsX6_meanSteps (wsV RX6 193 RX0 yX0_allSteps wsX0_allSteps) := goodIn_app (goodIn_of _ (by decide +kernel)) ggX6_meanSteps_X0_allSteps
set_option maxRecDepth 20000 in
theorem ggX6_push_X6_needVersion : GoodIn wsX6_push wsX6_needVersion := goodIn_ca (goodIn_r _ [7, 8, 9, 10, 11, 12, 13, 121, 122, 123, 124, 125, 126, 127, 128, 129, 130, 131, 132, 133, 134] rfl (by decide +kernel)) (goodIn_sub (fun _ h => List.mem_cons_of_mem _ (List.mem_append_left _ (List.mem_append_right _ h))) (by decide +kernel))
set_option maxRecDepth 20000 in
theorem gX6_push_X6_needVersion : GoodIn wsX6_push (wsV RX6 95 RX6 yX6_needVersion wsX6_needVersion) := goodIn_app (goodIn_of _ (by decide +kernel)) ggX6_push_X6_needVersion
set_option maxRecDepth 20000 in
theorem ggX6_push_X6_needRoom : GoodIn wsX6_push wsX6_needRoom := goodIn_ca (goodIn_r _ [17, 18, 19, 10, 11, 12, 121, 122, 123, 124, 125, 126, 127, 128, 129, 130, 131, 132, 133, 134] rfl (by decide +kernel)) (goodIn_sub (fun _ h => List.mem_cons_of_mem _ (List.mem_append_right _ h)) (by decide +kernel))
set_option maxRecDepth 20000 in
theorem gX6_push_X6_needRoom : GoodIn wsX6_push (wsV RX6 198 RX6 yX6_needRoom wsX6_needRoom) := goodIn_app (goodIn_of _ (by decide +kernel)) ggX6_push_X6_needRoom
set_option maxRecDepth 20000 in
theorem ggX6_push_X6_freshDraft : GoodIn wsX6_push wsX6_freshDraft := goodIn_r _ [23, 10, 11, 24, 25, 6, 26, 27, 28, 29, 30, 31, 32, 33, 34, 35, 121, 122, 123, 124, 125, 126, 127, 128, 129, 130, 131, 132, 133, 134] rfl (by decide +kernel)
set_option maxRecDepth 20000 in
theorem gX6_push_X6_freshDraft : GoodIn wsX6_push (wsV RX6 201 RX6 yX6_freshDraft wsX6_freshDraft) := goodIn_app (goodIn_of _ (by decide +kernel)) ggX6_push_X6_freshDraft
set_option maxRecDepth 20000 in
theorem ggX6_push_X0_makeByPush : GoodIn wsX6_push wsX0_makeByPush := goodIn_r _ [39, 40, 41, 42, 33, 34, 43, 44, 45, 46, 47, 48, 49, 50, 51, 52, 53, 54, 55, 56, 57, 58, 59, 60, 61, 62, 63, 64, 65, 66, 67, 68, 69, 70, 71, 72, 73, 74, 75, 76, 77, 78, 79, 80, 81, 82, 83, 84, 85, 86, 87, 88, 89, 90, 91, 92, 93, 94, 95, 96, 97, 98, 99, 100, 101, 102, 103, 104, 105, 106, 107, 108, 109, 110, 111, 112, 113, 114, 30, 115, 32, 135, 136, 137, 138, 139, 140, 141, 142, 143, 131, 132, 133, 134, 144, 145, 146, 147, 148, 149, 150, 151] rfl (by decide +kernel)
set_option maxRecDepth 20000 in
theorem gX6_push_X0_makeByPush : GoodIn wsX6_push (wsV RX6 205 RX0 yX0_makeByPush wsX0_makeByPush) := goodIn_app (goodIn_of _ (by decide +kernel)) ggX6_push_X0_makeByPush
set_option maxRecDepth 20000 in
theorem ggX6_push_X6_keepDraft : GoodIn wsX6_push wsX6_keepDraft := goodIn_r _ [119, 11, 120, 24, 25, 6, 26, 121, 122, 123, 124, 125, 126, 127, 128, 129, 130] rfl (by decide +kernel)
set_option maxRecDepth 20000 in
theorem gX6_push_X6_keepDraft : GoodIn wsX6_push (wsV RX6 84 RX6 yX6_keepDraft wsX6_keepDraft) := goodIn_app (goodIn_of _ (by decide +kernel)) ggX6_push_X6_keepDraft
set_option maxRecDepth 20000 in
theorem ggX6_pop_X6_needVersion : GoodIn wsX6_pop wsX6_needVersion := goodIn_ca (goodIn_r _ [7, 8, 9, 10, 11, 12, 13, 129, 130, 131, 132, 133, 134, 135, 136, 137, 138, 139, 140, 141, 142] rfl (by decide +kernel)) (goodIn_sub (fun _ h => List.mem_cons_of_mem _ (List.mem_append_right _ h)) (by decide +kernel))
set_option maxRecDepth 20000 in
theorem gX6_pop_X6_needVersion : GoodIn wsX6_pop (wsV RX6 95 RX6 yX6_needVersion wsX6_needVersion) := goodIn_app (goodIn_of _ (by decide +kernel)) ggX6_pop_X6_needVersion
set_option maxRecDepth 20000 in
theorem ggX6_pop_X5_length : GoodIn wsX6_pop wsX5_length := goodIn_r _ [18, 19, 20, 143, 144, 145, 146, 147, 148, 149, 150, 151] rfl (by decide +kernel)
set_option maxRecDepth 20000 in
theorem gX6_pop_X5_length : GoodIn wsX6_pop (wsV RX6 169 RX5 yX5_length wsX5_length) := goodIn_app (goodIn_of _ (by decide +kernel)) ggX6_pop_X5_length
set_option maxRecDepth 20000 in
theorem ggX6_pop_X6_needRoom : GoodIn wsX6_pop wsX6_needRoom := goodIn_ca (goodIn_r _ [24, 1, 2, 10, 11, 12, 129, 130, 131, 132, 133, 134, 135, 136, 137, 138, 139, 140, 141, 142] rfl (by decide +kernel)) (goodIn_sub (fun _ h => List.mem_cons_of_mem _ (List.mem_append_left _ (List.mem_append_right _ h))) (by decide +kernel))
set_option maxRecDepth 20000 in
theorem gX6_pop_X6_needRoom : GoodIn wsX6_pop (wsV RX6 198 RX6 yX6_needRoom wsX6_needRoom) := goodIn_app (goodIn_of _ (by decide +kernel)) ggX6_pop_X6_needRoom
set_option maxRecDepth 20000 in
theorem ggX6_pop_X6_freshDraft : GoodIn wsX6_pop wsX6_freshDraft := goodIn_r _ [28, 10, 11, 29, 30, 6, 31, 32, 33, 34, 35, 36, 37, 38, 39, 40, 129, 130, 131, 132, 133, 134, 135, 136, 137, 138, 139, 140, 141, 142] rfl (by decide +kernel)
set_option maxRecDepth 20000 in
theorem gX6_pop_X6_freshDraft : GoodIn wsX6_pop (wsV RX6 201 RX6 yX6_freshDraft wsX6_freshDraft) := goodIn_app (goodIn_of _ (by decide +kernel)) ggX6_pop_X6_freshDraft
set_option maxRecDepth 20000 in
theorem ggX6_pop_X0_makeByPop : GoodIn wsX6_pop wsX0_makeByPop := goodIn_r _ [44, 45, 46, 17, 38, 39, 47, 48, 49, 50, 51, 52, 53, 54, 55, 56, 57, 58, 19, 20, 59, 60, 61, 62, 63, 64, 65, 66, 67, 68, 69, 70, 71, 72, 73, 74, 75, 76, 77, 78, 79, 80, 81, 82, 83, 84, 85, 86, 87, 88, 89, 90, 91, 92, 93, 94, 95, 96, 97, 98, 99, 100, 101, 102, 103, 104, 105, 106, 107, 108, 109, 110, 111, 112, 113, 114, 115, 116, 117, 118, 119, 120, 121, 122, 35, 123, 37, 143, 144, 145, 146, 147, 148, 149, 150, 151, 139, 140, 141, 142, 152, 153, 154, 155, 156, 157, 158, 159] rfl (by decide +kernel)
set_option maxRecDepth 20000 in
theorem gX6_pop_X0_makeByPop : GoodIn wsX6_pop (wsV RX6 211 RX0 yX0_makeByPop wsX0_makeByPop) := goodIn_app (goodIn_of _ (by decide +kernel)) ggX6_pop_X0_makeByPop
set_option maxRecDepth 20000 in
theorem ggX6_pop_X6_keepDraft : GoodIn wsX6_pop wsX6_keepDraft := goodIn_r _ [127, 11, 128, 29, 30, 6, 31, 129, 130, 131, 132, 133, 134, 135, 136, 137, 138] rfl (by decide +kernel)
set_option maxRecDepth 20000 in
theorem gX6_pop_X6_keepDraft : GoodIn wsX6_pop (wsV RX6 84 RX6 yX6_keepDraft wsX6_keepDraft) := goodIn_app (goodIn_of _ (by decide +kernel)) ggX6_pop_X6_keepDraft
set_option maxRecDepth 20000 in
theorem ggX6_drop_X6_needVersion : GoodIn wsX6_drop wsX6_needVersion := goodIn_ca (goodIn_r _ [10, 11, 12, 3, 4, 5, 13, 44, 45, 46, 47, 48, 49, 50, 51, 52, 53, 54, 55, 56, 57] rfl (by decide +kernel)) (goodIn_sub (fun _ h => List.mem_cons_of_mem _ (List.mem_append_right _ h)) (by decide +kernel))
set_option maxRecDepth 20000 in
theorem gX6_drop_X6_needVersion : GoodIn wsX6_drop (wsV RX6 95 RX6 yX6_needVersion wsX6_needVersion) := goodIn_app (goodIn_of _ (by decide +kernel)) ggX6_drop_X6_needVersion
set_option maxRecDepth 20000 in
theorem ggX6_drop_X0_childrenOf : GoodIn wsX6_drop wsX0_childrenOf := goodIn_r _ [18, 19, 20, 21, 54, 55, 56, 57, 58, 59, 60, 61, 62, 63, 64, 65, 66] rfl (by decide +kernel)
set_option maxRecDepth 20000 in
theorem gX6_drop_X0_childrenOf : GoodIn wsX6_drop (wsV RX6 214 RX0 yX0_childrenOf wsX0_childrenOf) := goodIn_app (goodIn_of _ (by decide +kernel)) ggX6_drop_X0_childrenOf
set_option maxRecDepth 20000 in
theorem ggX6_drop_X6_freshDraft : GoodIn wsX6_drop wsX6_freshDraft := goodIn_r _ [25, 3, 4, 26, 27, 9, 28, 29, 30, 31, 17, 32, 19, 20, 33, 34, 44, 45, 46, 47, 48, 49, 50, 51, 52, 53, 54, 55, 56, 57] rfl (by decide +kernel)
set_option maxRecDepth 20000 in
theorem gX6_drop_X6_freshDraft : GoodIn wsX6_drop (wsV RX6 201 RX6 yX6_freshDraft wsX6_freshDraft) := goodIn_app (goodIn_of _ (by decide +kernel)) ggX6_drop_X6_freshDraft
set_option maxRecDepth 20000 in
theorem ggX6_drop_X0_remove : GoodIn wsX6_drop wsX0_remove := goodIn_r _ [38, 19, 20, 34, 54, 55, 56, 57] rfl (by decide +kernel)
set_option maxRecDepth 20000 in
theorem gX6_drop_X0_remove : GoodIn wsX6_drop (wsV RX6 219 RX0 yX0_remove wsX0_remove) := goodIn_app (goodIn_of _ (by decide +kernel)) ggX6_drop_X0_remove
set_option maxRecDepth 20000 in
theorem ggX6_drop_X6_keepDraft : GoodIn wsX6_drop wsX6_keepDraft := goodIn_r _ [42, 4, 43, 26, 27, 9, 28, 44, 45, 46, 47, 48, 49, 50, 51, 52, 53] rfl (by decide +kernel)
set_option maxRecDepth 20000 in
theorem gX6_drop_X6_keepDraft : GoodIn wsX6_drop (wsV RX6 84 RX6 yX6_keepDraft wsX6_keepDraft) := goodIn_app (goodIn_of _ (by decide +kernel)) ggX6_drop_X6_keepDraft
set_option maxRecDepth 20000 in
theorem ggX6_rule_X6_freshDraft : GoodIn wsX6_rule wsX6_freshDraft := goodIn_r _ [10, 3, 4, 11, 12, 9, 13, 14, 15, 16, 17, 18, 19, 20, 21, 22, 28, 29, 30, 31, 32, 33, 34, 35, 36, 37, 38, 39, 40, 41] rfl (by decide +kernel)
set_option maxRecDepth 20000 in
theorem gX6_rule_X6_freshDraft : GoodIn wsX6_rule (wsV RX6 201 RX6 yX6_freshDraft wsX6_freshDraft) := goodIn_app (goodIn_of _ (by decide +kernel)) ggX6_rule_X6_freshDraft
set_option maxRecDepth 20000 in
theorem ggX6_rule_X6_keepDraft : GoodIn wsX6_rule wsX6_keepDraft := goodIn_r _ [26, 4, 27, 11, 12, 9, 13, 28, 29, 30, 31, 32, 33, 34, 35, 36, 37] rfl (by decide +kernel)
set_option maxRecDepth 20000 in
theorem gX6_rule_X6_keepDraft : GoodIn wsX6_rule (wsV RX6 84 RX6 yX6_keepDraft wsX6_keepDraft) := goodIn_app (goodIn_of _ (by decide +kernel)) ggX6_rule_X6_keepDraft
set_option maxRecDepth 20000 in
theorem ggX6_checksum_X0_numberOfAll : GoodIn wsX6_checksum wsX0_numberOfAll := goodIn_r _ [9, 10, 11, 12, 13, 14, 15, 8, 16, 17, 18, 19, 20, 21, 22, 23, 24, 25, 26, 27, 28, 29, 30, 31, 32, 33, 34, 35, 36, 37, 38, 39, 40, 41, 42, 43, 44, 45, 46, 47, 48, 49, 50, 51, 52, 53, 54, 55, 56, 57, 123, 124, 125, 126, 127, 128, 129, 130, 131, 132, 133, 134, 135, 136, 137, 138, 139, 140, 141] rfl (by decide +kernel)
set_option maxRecDepth 20000 in
theorem gX6_checksum_X0_numberOfAll : GoodIn wsX6_checksum (wsV RX6 92 RX0 yX0_numberOfAll wsX0_numberOfAll) := goodIn_app (goodIn_of _ (by decide +kernel)) ggX6_checksum_X0_numberOfAll
set_option maxRecDepth 20000 in
theorem ggX6_checksum_X6_mixed : GoodIn wsX6_checksum wsX6_mixed := goodIn_r _ [61, 62] rfl (by decide +kernel)
set_option maxRecDepth 20000 in
theorem gX6_checksum_X6_mixed : GoodIn wsX6_checksum (va_wsS RX6 224 yX6_mixed wsX6_mixed) := goodIn_app (goodIn_of _ (by decide +kernel)) ggX6_checksum_X6_mixed
set_option maxRecDepth 20000 in
theorem ggX6_checksum_X0_numberOfOne : GoodIn wsX6_checksum wsX0_numberOfOne := goodIn_r _ [66, 17, 22, 67, 33, 68, 69, 27, 28, 70, 42, 71, 72, 73, 74, 8, 75, 10, 51, 52, 53, 54, 55, 56, 57, 18, 19, 20, 21, 76, 77, 78, 79, 80, 123, 124, 125, 126, 127, 128, 129, 130, 131, 132, 133, 134, 135, 136, 137, 138, 139, 140, 141, 142, 143] rfl (by decide +kernel)
set_option maxRecDepth 20000 in
theorem gX6_checksum_X0_numberOfOne : GoodIn wsX6_checksum (wsV RX6 99 RX0 yX0_numberOfOne wsX0_numberOfOne) := goodIn_app (goodIn_of _ (by decide +kernel)) ggX6_checksum_X0_numberOfOne
set_option maxRecDepth 20000 in
theorem ggX6_checksum_X6_mixedWithLists : GoodIn wsX6_checksum wsX6_mixedWithLists := goodIn_r _ [84, 85, 86, 87, 88, 89, 90, 54, 91, 92, 93, 94, 95, 96, 97, 98, 99, 100, 78, 101, 102, 80, 103, 104, 105, 106, 77, 79, 58, 59, 60, 61, 62, 107, 108, 109, 110, 111, 112, 113, 114, 115, 116, 117, 118, 119, 120, 121, 122, 142, 143, 127, 128, 129, 130, 131, 132, 133, 134, 135, 136, 137, 138, 139, 140, 141] rfl (by decide +kernel)
set_option maxRecDepth 20000 in
theorem gX6_checksum_X6_mixedWithLists : GoodIn wsX6_checksum (wsV RX6 228 RX6 yX6_mixedWithLists wsX6_mixedWithLists) := goodIn_app (goodIn_of _ (by decide +kernel)) ggX6_checksum_X6_mixedWithLists
set_option maxRecDepth 20000 in
theorem ggX6_mixedWithLists_X5_valuesInto : GoodIn wsX6_mixedWithLists wsX5_valuesInto := goodIn_r _ [8, 9, 10, 11, 12, 13, 14, 15, 16, 17, 18, 19, 20, 21, 22, 23, 24, 25, 26, 27, 51, 52, 53, 54, 55, 56, 57, 58, 59, 60, 61, 62, 63, 64, 65, 49, 50] rfl (by decide +kernel)
set_option maxRecDepth 20000 in
theorem gX6_mixedWithLists_X5_valuesInto : GoodIn wsX6_mixedWithLists (wsV RX6 115 RX5 yX5_valuesInto wsX5_valuesInto) := goodIn_app (goodIn_of _ (by decide +kernel)) ggX6_mixedWithLists_X5_valuesInto
set_option maxRecDepth 20000 in
theorem ggX6_mixedWithLists_X6_mixed : GoodIn wsX6_mixedWithLists wsX6_mixed := goodIn_r _ [31, 32] rfl (by decide +kernel)
set_option maxRecDepth 20000 in
theorem gX6_mixedWithLists_X6_mixed : GoodIn wsX6_mixedWithLists (va_wsS RX6 224 yX6_mixed wsX6_mixed) := goodIn_app (goodIn_of _ (by decide +kernel)) ggX6_mixedWithLists_X6_mixed
set_option maxRecDepth 20000 in
theorem ggX6_mixedWithLists_X5_listOf : GoodIn wsX6_mixedWithLists wsX5_listOf := goodIn_r _ [36, 12, 15, 9, 37, 38, 13, 14, 51, 52, 53, 54, 55, 56, 57, 58, 59, 60, 61, 62, 63, 64, 65] rfl (by decide +kernel)
set_option maxRecDepth 20000 in
theorem gX6_mixedWithLists_X5_listOf : GoodIn wsX6_mixedWithLists (wsV RX6 105 RX5 yX5_listOf wsX5_listOf) := goodIn_app (goodIn_of _ (by decide +kernel)) ggX6_mixedWithLists_X5_listOf
set_option maxRecDepth 20000 in
theorem ggX6_freshDraft_X6_following : GoodIn wsX6_freshDraft wsX6_following := goodIn_r _ [6] rfl (by decide +kernel)
set_option maxRecDepth 20000 in
theorem gX6_freshDraft_X6_following : GoodIn wsX6_freshDraft (va_wsS RX6 72 yX6_following wsX6_following) := goodIn_app (goodIn_of _ (by decide +kernel)) ggX6_freshDraft_X6_following
set_option maxRecDepth 20000 in
theorem ggX6_freshDraft_X0_copyFrom : GoodIn wsX6_freshDraft wsX0_copyFrom := goodIn_r _ [11, 12, 13, 14, 15, 26, 27, 28, 29] rfl (by decide +kernel)
set_option maxRecDepth 20000 in
theorem gX6_freshDraft_X0_copyFrom : GoodIn wsX6_freshDraft (wsV RX6 248 RX0 yX0_copyFrom wsX0_copyFrom) := goodIn_app (goodIn_of _ (by decide +kernel)) ggX6_freshDraft_X0_copyFrom
set_option maxRecDepth 20000 in
theorem ggX6_keepDraft_X6_following : GoodIn wsX6_keepDraft wsX6_following := goodIn_r _ [6] rfl (by decide +kernel)
set_option maxRecDepth 20000 in
theorem gX6_keepDraft_X6_following : GoodIn wsX6_keepDraft (va_wsS RX6 72 yX6_following wsX6_following) := goodIn_app (goodIn_of _ (by decide +kernel)) ggX6_keepDraft_X6_following
