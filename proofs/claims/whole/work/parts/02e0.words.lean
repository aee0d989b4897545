set_option maxRecDepth 20000 in
theorem ggX0_makeByPush_X5_init : GoodIn wsX0_makeByPush wsX5_init := goodIn_r _ [8, 9, 10, 11, 12, 13, 14, 15, 16, 17, 18, 19, 20, 21, 22, 23, 24, 25, 26, 27, 28, 29, 30, 31, 32, 33, 34, 35, 36, 94, 95, 96, 97, 98, 99, 81, 82, 83, 84, 85, 86, 87, 88, 89] rfl (by decide +kernel)
set_option maxRecDepth 20000 in
theorem gX0_makeByPush_X5_init : GoodIn wsX0_makeByPush (wsX5_init) := ggX0_makeByPush_X5_init
set_option maxRecDepth 20000 in
theorem ggX0_makeByPush_X5_putLast : GoodIn wsX0_makeByPush wsX5_putLast := goodIn_r _ [40, 41, 42, 43, 17, 19, 44, 45, 46, 47, 10, 11, 48, 49, 100, 101, 81, 82, 83, 84, 85, 86, 87, 88, 89] rfl (by decide +kernel)
set_option maxRecDepth 20000 in
theorem gX0_makeByPush_X5_putLast : GoodIn wsX0_makeByPush (wsV RX0 30 RX5 yX5_putLast wsX5_putLast) := goodIn_app (goodIn_of _ (by decide +kernel)) ggX0_makeByPush_X5_putLast
set_option maxRecDepth 20000 in
theorem ggX0_makeByPush_X5_settle : GoodIn wsX0_makeByPush wsX5_settle := goodIn_r _ [53, 19, 18, 15, 16, 17, 20, 54, 55, 56, 57, 14, 58, 27, 28, 29, 30, 31, 32, 59, 60, 61, 62, 63, 42, 43, 64, 65, 66, 45, 46, 47, 10, 11, 48, 49, 67, 68, 69, 70, 71, 72, 73, 74, 81, 82, 83, 84, 85, 86, 87, 88, 89, 94, 95, 96, 97, 98, 99, 100, 101] rfl (by decide +kernel)
set_option maxRecDepth 20000 in
theorem gX0_makeByPush_X5_settle : GoodIn wsX0_makeByPush (wsV RX0 34 RX5 yX5_settle wsX5_settle) := goodIn_app (goodIn_of _ (by decide +kernel)) ggX0_makeByPush_X5_settle
set_option maxRecDepth 20000 in
theorem ggX0_makeByPush_X0_add : GoodIn wsX0_makeByPush wsX0_add := goodIn_r _ [79, 4, 80, 90, 91, 92, 93] rfl (by decide +kernel)
set_option maxRecDepth 20000 in
theorem gX0_makeByPush_X0_add : GoodIn wsX0_makeByPush (wsV RX0 37 RX0 yX0_add wsX0_add) := goodIn_app (goodIn_of _ (by decide +kernel)) ggX0_makeByPush_X0_add
set_option maxRecDepth 20000 in
theorem ggX0_makeByPop_X5_init : GoodIn wsX0_makeByPop wsX5_init := goodIn_r _ [8, 9, 10, 11, 12, 13, 14, 15, 16, 17, 18, 19, 20, 21, 22, 23, 24, 25, 26, 27, 28, 29, 30, 31, 32, 33, 34, 35, 36, 100, 101, 102, 103, 104, 105, 87, 88, 89, 90, 91, 92, 93, 94, 95] rfl (by decide +kernel)
set_option maxRecDepth 20000 in
theorem gX0_makeByPop_X5_init : GoodIn wsX0_makeByPop (wsX5_init) := ggX0_makeByPop_X5_init
set_option maxRecDepth 20000 in
theorem ggX0_makeByPop_X5_takeFirst : GoodIn wsX0_makeByPop wsX5_takeFirst := goodIn_r _ [40, 16, 18, 15, 41, 42, 43, 44, 45, 46, 47, 48, 14, 49, 27, 28, 32, 50, 51, 52, 53, 54, 30, 87, 88, 89, 90, 91, 92, 93, 94, 95, 106, 107, 100, 101, 102, 103, 104, 105] rfl (by decide +kernel)
set_option maxRecDepth 20000 in
theorem gX0_makeByPop_X5_takeFirst : GoodIn wsX0_makeByPop (wsV RX0 41 RX5 yX5_takeFirst wsX5_takeFirst) := goodIn_app (goodIn_of _ (by decide +kernel)) ggX0_makeByPop_X5_takeFirst
set_option maxRecDepth 20000 in
theorem ggX0_makeByPop_X5_settle : GoodIn wsX0_makeByPop wsX5_settle := goodIn_r _ [58, 19, 18, 15, 16, 17, 20, 59, 60, 61, 62, 14, 63, 27, 28, 29, 30, 31, 32, 64, 65, 66, 67, 68, 69, 43, 70, 71, 72, 73, 74, 75, 10, 11, 76, 45, 51, 52, 53, 54, 77, 78, 79, 80, 87, 88, 89, 90, 91, 92, 93, 94, 95, 100, 101, 102, 103, 104, 105, 106, 107] rfl (by decide +kernel)
set_option maxRecDepth 20000 in
theorem gX0_makeByPop_X5_settle : GoodIn wsX0_makeByPop (wsV RX0 34 RX5 yX5_settle wsX5_settle) := goodIn_app (goodIn_of _ (by decide +kernel)) ggX0_makeByPop_X5_settle
set_option maxRecDepth 20000 in
theorem ggX0_makeByPop_X0_add : GoodIn wsX0_makeByPop wsX0_add := goodIn_r _ [85, 4, 86, 96, 97, 98, 99] rfl (by decide +kernel)
set_option maxRecDepth 20000 in
theorem gX0_makeByPop_X0_add : GoodIn wsX0_makeByPop (wsV RX0 37 RX0 yX0_add wsX0_add) := goodIn_app (goodIn_of _ (by decide +kernel)) ggX0_makeByPop_X0_add
set_option maxRecDepth 20000 in
theorem ggX0_longerAhead_X5_length : GoodIn wsX0_longerAhead wsX5_length := goodIn_r _ [7, 8, 9, 14, 15, 16, 17, 18, 19, 20, 21, 22] rfl (by decide +kernel)
set_option maxRecDepth 20000 in
theorem gX0_longerAhead_X5_length : GoodIn wsX0_longerAhead (wsV RX0 48 RX5 yX5_length wsX5_length) := goodIn_app (goodIn_of _ (by decide +kernel)) ggX0_longerAhead_X5_length
set_option maxRecDepth 20000 in
theorem ggX0_numberOfAll_X0_withoutChildren : GoodIn wsX0_numberOfAll wsX0_withoutChildren := goodIn_r _ [8, 1, 9, 10, 11, 12, 7, 13, 14, 50, 51, 52, 53, 54, 55, 56, 57, 58, 59, 60, 61, 62] rfl (by decide +kernel)
set_option maxRecDepth 20000 in
theorem gX0_numberOfAll_X0_withoutChildren : GoodIn wsX0_numberOfAll (wsV RX0 52 RX0 yX0_withoutChildren wsX0_withoutChildren) := goodIn_app (goodIn_of _ (by decide +kernel)) ggX0_numberOfAll_X0_withoutChildren
set_option maxRecDepth 20000 in
theorem ggX0_numberOfAll_X0_turning : GoodIn wsX0_numberOfAll wsX0_turning := goodIn_r _ [18, 1, 9, 19, 20, 50, 51, 52, 53, 54, 55, 56, 57, 58, 59, 60, 61, 62, 63, 64, 65, 66, 67, 68] rfl (by decide +kernel)
set_option maxRecDepth 20000 in
theorem gX0_numberOfAll_X0_turning : GoodIn wsX0_numberOfAll (wsV RX0 55 RX0 yX0_turning wsX0_turning) := goodIn_app (goodIn_of _ (by decide +kernel)) ggX0_numberOfAll_X0_turning
set_option maxRecDepth 20000 in
theorem ggX0_numberOfAll_X0_greatestDepth : GoodIn wsX0_numberOfAll wsX0_greatestDepth := goodIn_r _ [24, 1, 9, 25, 26, 27, 28, 29, 50, 51, 52, 53, 54, 55, 56, 57, 58, 59, 60, 61, 62] rfl (by decide +kernel)
set_option maxRecDepth 20000 in
theorem gX0_numberOfAll_X0_greatestDepth : GoodIn wsX0_numberOfAll (wsV RX0 58 RX0 yX0_greatestDepth wsX0_greatestDepth) := goodIn_app (goodIn_of _ (by decide +kernel)) ggX0_numberOfAll_X0_greatestDepth
set_option maxRecDepth 20000 in
theorem ggX0_numberOfAll_X0_allSteps : GoodIn wsX0_numberOfAll wsX0_allSteps := goodIn_r _ [33, 1, 9, 34, 50, 51, 52, 53, 54, 55, 56, 57, 58, 59, 60, 61, 62] rfl (by decide +kernel)
set_option maxRecDepth 20000 in
theorem gX0_numberOfAll_X0_allSteps : GoodIn wsX0_numberOfAll (wsV RX0 61 RX0 yX0_allSteps wsX0_allSteps) := goodIn_app (goodIn_of _ (by decide +kernel)) ggX0_numberOfAll_X0_allSteps
set_option maxRecDepth 20000 in
theorem ggX0_numberOfAll_X0_mostSteps : GoodIn wsX0_numberOfAll wsX0_mostSteps := goodIn_r _ [38, 1, 9, 34, 26, 27, 28, 29, 50, 51, 52, 53, 54, 55, 56, 57, 58, 59, 60, 61, 62] rfl (by decide +kernel)
set_option maxRecDepth 20000 in
theorem gX0_numberOfAll_X0_mostSteps : GoodIn wsX0_numberOfAll (wsV RX0 64 RX0 yX0_mostSteps wsX0_mostSteps) := goodIn_app (goodIn_of _ (by decide +kernel)) ggX0_numberOfAll_X0_mostSteps
set_option maxRecDepth 20000 in
theorem ggX0_numberOfAll_X0_withoutValues : GoodIn wsX0_numberOfAll wsX0_withoutValues := goodIn_r _ [42, 1, 9, 43, 44, 45, 46, 47, 48, 49, 50, 51, 52, 53, 54, 55, 56, 57, 58, 59, 60, 61, 62] rfl (by decide +kernel)
set_option maxRecDepth 20000 in
theorem gX0_numberOfAll_X0_withoutValues : GoodIn wsX0_numberOfAll (wsV RX0 67 RX0 yX0_withoutValues wsX0_withoutValues) := goodIn_app (goodIn_of _ (by decide +kernel)) ggX0_numberOfAll_X0_withoutValues
set_option maxRecDepth 20000 in
theorem ggX0_numberOfOne_X0_indexOf : GoodIn wsX0_numberOfOne wsX0_indexOf := goodIn_r _ [16, 17, 1, 34, 35, 36, 37] rfl (by decide +kernel)
set_option maxRecDepth 20000 in
theorem gX0_numberOfOne_X0_indexOf : GoodIn wsX0_numberOfOne (wsV RX0 70 RX0 yX0_indexOf wsX0_indexOf) := goodIn_app (goodIn_of _ (by decide +kernel)) ggX0_numberOfOne_X0_indexOf
set_option maxRecDepth 20000 in
theorem ggX0_numberOfOne_X5_length : GoodIn wsX0_numberOfOne wsX5_length := goodIn_r _ [22, 23, 24, 38, 39, 40, 41, 42, 43, 44, 45, 46] rfl (by decide +kernel)
set_option maxRecDepth 20000 in
theorem gX0_numberOfOne_X5_length : GoodIn wsX0_numberOfOne (wsV RX0 48 RX5 yX5_length wsX5_length) := goodIn_app (goodIn_of _ (by decide +kernel)) ggX0_numberOfOne_X5_length
set_option maxRecDepth 20000 in
theorem ggX0_numberOfOne_X0_childrenOf : GoodIn wsX0_numberOfOne wsX0_childrenOf := goodIn_r _ [28, 17, 1, 2, 34, 35, 36, 37, 38, 39, 40, 41, 42, 43, 44, 45, 46] rfl (by decide +kernel)
set_option maxRecDepth 20000 in
theorem gX0_numberOfOne_X0_childrenOf : GoodIn wsX0_numberOfOne (wsV RX0 100 RX0 yX0_childrenOf wsX0_childrenOf) := goodIn_app (goodIn_of _ (by decide +kernel)) ggX0_numberOfOne_X0_childrenOf
set_option maxRecDepth 20000 in
theorem ggX0_numberOfOne_X1_sizeOf : GoodIn wsX0_numberOfOne wsX1_sizeOf := goodIn_r _ [32, 33, 53, 54] rfl (by decide +kernel)
set_option maxRecDepth 20000 in
theorem gX0_numberOfOne_X1_sizeOf : GoodIn wsX0_numberOfOne (va_wsS RX0 107 yX1_sizeOf wsX1_sizeOf) := goodIn_app (goodIn_of _ (by decide +kernel)) ggX0_numberOfOne_X1_sizeOf
set_option maxRecDepth 20000 in
theorem ggX0_withoutChildren_X0_childrenOf : GoodIn wsX0_withoutChildren wsX0_childrenOf := goodIn_r _ [7, 1, 2, 8, 9, 10, 11, 12, 13, 14, 15, 16, 17, 18, 19, 20, 21] rfl (by decide +kernel)
set_option maxRecDepth 20000 in
theorem gX0_withoutChildren_X0_childrenOf : GoodIn wsX0_withoutChildren (wsV RX0 100 RX0 yX0_childrenOf wsX0_childrenOf) := goodIn_app (goodIn_of _ (by decide +kernel)) ggX0_withoutChildren_X0_childrenOf
set_option maxRecDepth 20000 in
theorem ggX0_withoutValues_X5_length : GoodIn wsX0_withoutValues wsX5_length := goodIn_r _ [7, 8, 9, 14, 15, 16, 17, 18, 19, 20, 21, 22] rfl (by decide +kernel)
set_option maxRecDepth 20000 in
theorem gX0_withoutValues_X5_length : GoodIn wsX0_withoutValues (wsV RX0 48 RX5 yX5_length wsX5_length) := goodIn_app (goodIn_of _ (by decide +kernel)) ggX0_withoutValues_X5_length
set_option maxRecDepth 20000 in
theorem ggX1_writeReversed_X1_sizeOf : GoodIn wsX1_writeReversed wsX1_sizeOf := goodIn_r _ [6, 2, 7, 8] rfl (by decide +kernel)
set_option maxRecDepth 20000 in
theorem gX1_writeReversed_X1_sizeOf : GoodIn wsX1_writeReversed (va_wsS RX1 19 yX1_sizeOf wsX1_sizeOf) := goodIn_app (goodIn_of _ (by decide +kernel)) ggX1_writeReversed_X1_sizeOf
set_option maxRecDepth 20000 in
theorem ggX2_go_X2_takeFirst : GoodIn wsX2_go wsX2_takeFirst := goodIn_r _ [13, 3, 4, 18, 19, 20, 21] rfl (by decide +kernel)
set_option maxRecDepth 20000 in
theorem gX2_go_X2_takeFirst : GoodIn wsX2_go (wsV RX2 24 RX2 yX2_takeFirst wsX2_takeFirst) := goodIn_app (goodIn_of _ (by decide +kernel)) ggX2_go_X2_takeFirst
set_option maxRecDepth 20000 in
theorem ggX2_go_X2_putLast : GoodIn wsX2_go wsX2_putLast := goodIn_r _ [17, 4, 18, 19, 20, 21] rfl (by decide +kernel)
set_option maxRecDepth 20000 in
theorem gX2_go_X2_putLast : GoodIn wsX2_go (wsV RX2 28 RX2 yX2_putLast wsX2_putLast) := goodIn_app (goodIn_of _ (by decide +kernel)) ggX2_go_X2_putLast
set_option maxRecDepth 20000 in
theorem ggX4_step_X1_init : GoodIn wsX4_step wsX1_init := goodIn_r _ [14, 15, 16, 17, 18, 19, 31, 32] rfl (by decide +kernel)
set_option maxRecDepth 20000 in
theorem gX4_step_X1_init : GoodIn wsX4_step (wsX1_init) := ggX4_step_X1_init
set_option maxRecDepth 20000 in
theorem ggX4_step_X4_finish : GoodIn wsX4_step wsX4_finish := goodIn_r _ [24, 1, 8, 25, 26, 27, 28, 29, 30] rfl (by decide +kernel)
set_option maxRecDepth 20000 in
theorem gX4_step_X4_finish : GoodIn wsX4_step (wsV RX4 42 RX4 yX4_finish wsX4_finish) := goodIn_app (goodIn_of _ (by decide +kernel)) ggX4_step_X4_finish
set_option maxRecDepth 20000 in
theorem ggX4_loseFirst_X1_behindFirst : GoodIn wsX4_loseFirst wsX1_behindFirst := goodIn_r _ [7, 8, 21, 22] rfl (by decide +kernel)
set_option maxRecDepth 20000 in
theorem gX4_loseFirst_X1_behindFirst : GoodIn wsX4_loseFirst (va_wsS RX4 45 yX1_behindFirst wsX1_behindFirst) := goodIn_app (goodIn_of _ (by decide +kernel)) ggX4_loseFirst_X1_behindFirst
set_option maxRecDepth 20000 in
theorem ggX4_loseFirst_X4_finish : GoodIn wsX4_loseFirst wsX4_finish := goodIn_r _ [13, 1, 14, 15, 16, 17, 18, 19, 20] rfl (by decide +kernel)
set_option maxRecDepth 20000 in
theorem gX4_loseFirst_X4_finish : GoodIn wsX4_loseFirst (wsV RX4 42 RX4 yX4_finish wsX4_finish) := goodIn_app (goodIn_of _ (by decide +kernel)) ggX4_loseFirst_X4_finish
set_option maxRecDepth 20000 in
theorem ggX5_init_X4_init : GoodIn wsX5_init wsX4_init := goodIn_r _ [17, 18, 2, 3, 19, 20, 21, 22, 23, 24, 29, 30, 31, 32, 33, 34] rfl (by decide +kernel)
set_option maxRecDepth 20000 in
theorem gX5_init_X4_init_n11 : GoodIn wsX5_init (wsX4_init) := ggX5_init_X4_init
set_option maxRecDepth 20000 in
theorem ggX5_init_X4_copyFrom : GoodIn wsX5_init wsX4_copyFrom := goodIn_r _ [28, 19, 20, 21, 22, 23, 24, 29, 30, 31, 32, 33, 34] rfl (by decide +kernel)
set_option maxRecDepth 20000 in
theorem gX5_init_X4_copyFrom : GoodIn wsX5_init (wsV RX5 45 RX4 yX4_copyFrom wsX4_copyFrom) := goodIn_app (goodIn_of _ (by decide +kernel)) ggX5_init_X4_copyFrom
set_option maxRecDepth 20000 in
theorem ggX5_putLast_X1_init : GoodIn wsX5_putLast wsX1_init := goodIn_r _ [8, 9, 10, 11, 12, 13, 14, 15] rfl (by decide +kernel)
set_option maxRecDepth 20000 in
theorem gX5_putLast_X1_init : GoodIn wsX5_putLast (wsX1_init) := ggX5_putLast_X1_init
set_option maxRecDepth 20000 in
theorem ggX5_takeFirst_X1_behindFirst : GoodIn wsX5_takeFirst wsX1_behindFirst := goodIn_r _ [7, 8, 32, 33] rfl (by decide +kernel)
set_option maxRecDepth 20000 in
theorem gX5_takeFirst_X1_behindFirst : GoodIn wsX5_takeFirst (va_wsS RX5 54 yX1_behindFirst wsX1_behindFirst) := goodIn_app (goodIn_of _ (by decide +kernel)) ggX5_takeFirst_X1_behindFirst
set_option maxRecDepth 20000 in
theorem ggX5_takeFirst_X4_loseFirst : GoodIn wsX5_takeFirst wsX4_loseFirst := goodIn_r _ [13, 14, 15, 16, 17, 5, 6, 7, 8, 18, 19, 20, 12, 21, 22, 34, 35, 36, 37, 38, 39, 32, 33] rfl (by decide +kernel)
set_option maxRecDepth 20000 in
theorem gX5_takeFirst_X4_loseFirst : GoodIn wsX5_takeFirst (wsV RX5 58 RX4 yX4_loseFirst wsX4_loseFirst) := goodIn_app (goodIn_of _ (by decide +kernel)) ggX5_takeFirst_X4_loseFirst
set_option maxRecDepth 20000 in
theorem ggX5_settle_X4_begin : GoodIn wsX5_settle wsX4_begin := goodIn_r _ [12, 13, 14, 15, 16, 17, 18, 53, 54, 55, 56, 57, 58] rfl (by decide +kernel)
set_option maxRecDepth 20000 in
theorem gX5_settle_X4_begin : GoodIn wsX5_settle (wsV RX5 61 RX4 yX4_begin wsX4_begin) := goodIn_app (goodIn_of _ (by decide +kernel)) ggX5_settle_X4_begin
set_option maxRecDepth 20000 in
theorem ggX5_settle_X4_step : GoodIn wsX5_settle wsX4_step := goodIn_r _ [22, 13, 15, 17, 23, 24, 25, 26, 16, 18, 27, 14, 28, 29, 30, 31, 32, 33, 34, 35, 36, 37, 38, 11, 39, 53, 54, 55, 56, 57, 58, 59, 60] rfl (by decide +kernel)
set_option maxRecDepth 20000 in
theorem gX5_settle_X4_step : GoodIn wsX5_settle (wsV RX5 65 RX4 yX4_step wsX4_step) := goodIn_app (goodIn_of _ (by decide +kernel)) ggX5_settle_X4_step
set_option maxRecDepth 20000 in
theorem ggX5_settle_X4_endWithList : GoodIn wsX5_settle wsX4_endWithList := goodIn_r _ [43, 18, 13, 53, 54, 55, 56, 57, 58] rfl (by decide +kernel)
set_option maxRecDepth 20000 in
theorem gX5_settle_X4_endWithList : GoodIn wsX5_settle (wsV RX5 72 RX4 yX4_endWithList wsX4_endWithList) := goodIn_app (goodIn_of _ (by decide +kernel)) ggX5_settle_X4_endWithList
set_option maxRecDepth 20000 in
theorem ggX5_valuesInto_X1_writeFirst : GoodIn wsX5_valuesInto wsX1_writeFirst := goodIn_r _ [11, 12, 13, 35, 36] rfl (by decide +kernel)
set_option maxRecDepth 20000 in
theorem gX5_valuesInto_X1_writeFirst : GoodIn wsX5_valuesInto (va_wsS RX5 91 yX1_writeFirst wsX1_writeFirst) := goodIn_app (goodIn_of _ (by decide +kernel)) ggX5_valuesInto_X1_writeFirst
set_option maxRecDepth 20000 in
theorem ggX5_valuesInto_X1_writeReversed : GoodIn wsX5_valuesInto wsX1_writeReversed := goodIn_r _ [16, 12, 13, 17, 18, 10, 19, 35, 36] rfl (by decide +kernel)
set_option maxRecDepth 20000 in
theorem gX5_valuesInto_X1_writeReversed : GoodIn wsX5_valuesInto (va_wsS RX5 95 yX1_writeReversed wsX1_writeReversed) := goodIn_app (goodIn_of _ (by decide +kernel)) ggX5_valuesInto_X1_writeReversed
set_option maxRecDepth 20000 in
theorem ggX5_valuesByWayInto_X5_wayInto : GoodIn wsX5_valuesByWayInto wsX5_wayInto := goodIn_r _ [5, 6, 7, 8, 9, 10, 11, 12, 13, 14, 15, 16, 17] rfl (by decide +kernel)
set_option maxRecDepth 20000 in
theorem gX5_valuesByWayInto_X5_wayInto : GoodIn wsX5_valuesByWayInto (wsV RX5 99 RX5 yX5_wayInto wsX5_wayInto) := goodIn_app (goodIn_of _ (by decide +kernel)) ggX5_valuesByWayInto_X5_wayInto
