set_option maxRecDepth 20000 in
theorem ggX0_makeByPush_X5_init : GoodIn wsX0_makeByPush wsX5_init := goodIn_r _ [8, 9, 10, 11, 12, 13, 14, 15, 16, 17, 18, 19, 20, 21, 22, 23, 24, 25, 26, 27, 28, 29, 30, 31, 32, 33, 34, 35, 36, 94, 95, 96, 97, 98, 99, 81, 82, 83, 84, 85, 86, 87, 88, 89] (by decide +kernel) (by decide +kernel)
set_option maxRecDepth 20000 in
theorem gX0_makeByPush_X5_init : GoodIn wsX0_makeByPush (wsX5_init) := ggX0_makeByPush_X5_init
set_option maxRecDepth 20000 in
theorem ggX0_makeByPush_X5_putLast : GoodIn wsX0_makeByPush wsX5_putLast := goodIn_r _ [40, 41, 42, 43, 17, 19, 44, 45, 46, 47, 10, 11, 48, 49, 100, 101, 81, 82, 83, 84, 85, 86, 87, 88, 89] (by decide +kernel) (by decide +kernel)
set_option maxRecDepth 20000 in
theorem gX0_makeByPush_X5_putLast : GoodIn wsX0_makeByPush (wsV RX0 30 RX5 yX5_putLast wsX5_putLast) := goodIn_app (goodIn_of _ (by decide +kernel)) ggX0_makeByPush_X5_putLast
set_option maxRecDepth 20000 in
theorem ggX0_makeByPush_X5_settle : GoodIn wsX0_makeByPush wsX5_settle := goodIn_r _ [53, 19, 18, 15, 16, 17, 20, 54, 55, 56, 57, 14, 58, 27, 28, 29, 30, 31, 32, 59, 60, 61, 62, 63, 42, 43, 64, 65, 66, 45, 46, 47, 10, 11, 48, 49, 67, 68, 69, 70, 71, 72, 73, 74, 81, 82, 83, 84, 85, 86, 87, 88, 89, 94, 95, 96, 97, 98, 99, 100, 101] (by decide +kernel) (by decide +kernel)
set_option maxRecDepth 20000 in
theorem gX0_makeByPush_X5_settle : GoodIn wsX0_makeByPush (wsV RX0 34 RX5 yX5_settle wsX5_settle) := goodIn_app (goodIn_of _ (by decide +kernel)) ggX0_makeByPush_X5_settle
set_option maxRecDepth 20000 in
theorem ggX0_makeByPush_X0_add : GoodIn wsX0_makeByPush wsX0_add := goodIn_r _ [79, 4, 80, 90, 91, 92, 93] (by decide +kernel) (by decide +kernel)
set_option maxRecDepth 20000 in
theorem gX0_makeByPush_X0_add : GoodIn wsX0_makeByPush (wsV RX0 37 RX0 yX0_add wsX0_add) := goodIn_app (goodIn_of _ (by decide +kernel)) ggX0_makeByPush_X0_add
set_option maxRecDepth 20000 in
theorem ggX0_makeByPop_X5_init : GoodIn wsX0_makeByPop wsX5_init := goodIn_r _ [8, 9, 10, 11, 12, 13, 14, 15, 16, 17, 18, 19, 20, 21, 22, 23, 24, 25, 26, 27, 28, 29, 30, 31, 32, 33, 34, 35, 36, 100, 101, 102, 103, 104, 105, 87, 88, 89, 90, 91, 92, 93, 94, 95] (by decide +kernel) (by decide +kernel)
set_option maxRecDepth 20000 in
theorem gX0_makeByPop_X5_init : GoodIn wsX0_makeByPop (wsX5_init) := ggX0_makeByPop_X5_init
set_option maxRecDepth 20000 in
theorem ggX0_makeByPop_X5_takeFirst : GoodIn wsX0_makeByPop wsX5_takeFirst := goodIn_r _ [40, 16, 18, 15, 41, 42, 43, 44, 45, 46, 47, 48, 14, 49, 27, 28, 32, 50, 51, 52, 53, 54, 30, 87, 88, 89, 90, 91, 92, 93, 94, 95, 106, 107, 100, 101, 102, 103, 104, 105] (by decide +kernel) (by decide +kernel)
set_option maxRecDepth 20000 in
theorem gX0_makeByPop_X5_takeFirst : GoodIn wsX0_makeByPop (wsV RX0 41 RX5 yX5_takeFirst wsX5_takeFirst) := goodIn_app (goodIn_of _ (by decide +kernel)) ggX0_makeByPop_X5_takeFirst
set_option maxRecDepth 20000 in
theorem ggX0_makeByPop_X5_settle : GoodIn wsX0_makeByPop wsX5_settle := goodIn_r _ [58, 19, 18, 15, 16, 17, 20, 59, 60, 61, 62, 14, 63, 27, 28, 29, 30, 31, 32, 64, 65, 66, 67, 68, 69, 43, 70, 71, 72, 73, 74, 75, 10, 11, 76, 45, 51, 52, 53, 54, 77, 78, 79, 80, 87, 88, 89, 90, 91, 92, 93, 94, 95, 100, 101, 102, 103, 104, 105, 106, 107] (by decide +kernel) (by decide +kernel)
set_option maxRecDepth 20000 in
theorem gX0_makeByPop_X5_settle : GoodIn wsX0_makeByPop (wsV RX0 34 RX5 yX5_settle wsX5_settle) := goodIn_app (goodIn_of _ (by decide +kernel)) ggX0_makeByPop_X5_settle
set_option maxRecDepth 20000 in
theorem ggX0_makeByPop_X0_add : GoodIn wsX0_makeByPop wsX0_add := goodIn_r _ [85, 4, 86, 96, 97, 98, 99] (by decide +kernel) (by decide +kernel)
set_option maxRecDepth 20000 in
theorem gX0_makeByPop_X0_add : GoodIn wsX0_makeByPop (wsV RX0 37 RX0 yX0_add wsX0_add) := goodIn_app (goodIn_of _ (by decide +kernel)) ggX0_makeByPop_X0_add
set_option maxRecDepth 20000 in
theorem ggX0_longerAhead_X5_length : GoodIn wsX0_longerAhead wsX5_length := goodIn_r _ [7, 8, 9, 14, 15, 16, 17, 18, 19, 20, 21, 22] (by decide +kernel) (by decide +kernel)
set_option maxRecDepth 20000 in
theorem gX0_longerAhead_X5_length : GoodIn wsX0_longerAhead (wsV RX0 48 RX5 yX5_length wsX5_length) := goodIn_app (goodIn_of _ (by decide +kernel)) ggX0_longerAhead_X5_length
set_option maxRecDepth 20000 in
theorem ggX0_numberOfAll_X0_withoutChildren : GoodIn wsX0_numberOfAll wsX0_withoutChildren := goodIn_r _ [8, 1, 9, 10, 11, 12, 7, 13, 14, 50, 51, 52, 53, 54, 55, 56, 57, 58, 59, 60, 61, 62] (by decide +kernel) (by decide +kernel)
set_option maxRecDepth 20000 in
theorem gX0_numberOfAll_X0_withoutChildren : GoodIn wsX0_numberOfAll (wsV RX0 52 RX0 yX0_withoutChildren wsX0_withoutChildren) := goodIn_app (goodIn_of _ (by decide +kernel)) ggX0_numberOfAll_X0_withoutChildren
set_option maxRecDepth 20000 in
theorem ggX0_numberOfAll_X0_turning : GoodIn wsX0_numberOfAll wsX0_turning := goodIn_r _ [18, 1, 9, 19, 20, 50, 51, 52, 53, 54, 55, 56, 57, 58, 59, 60, 61, 62, 63, 64, 65, 66, 67, 68] (by decide +kernel) (by decide +kernel)
set_option maxRecDepth 20000 in
theorem gX0_numberOfAll_X0_turning : GoodIn wsX0_numberOfAll (wsV RX0 55 RX0 yX0_turning wsX0_turning) := goodIn_app (goodIn_of _ (by decide +kernel)) ggX0_numberOfAll_X0_turning
set_option maxRecDepth 20000 in
theorem ggX0_numberOfAll_X0_greatestDepth : GoodIn wsX0_numberOfAll wsX0_greatestDepth := goodIn_r _ [24, 1, 9, 25, 26, 27, 28, 29, 50, 51, 52, 53, 54, 55, 56, 57, 58, 59, 60, 61, 62] (by decide +kernel) (by decide +kernel)
set_option maxRecDepth 20000 in
theorem gX0_numberOfAll_X0_greatestDepth : GoodIn wsX0_numberOfAll (wsV RX0 58 RX0 yX0_greatestDepth wsX0_greatestDepth) := goodIn_app (goodIn_of _ (by decide +kernel)) ggX0_numberOfAll_X0_greatestDepth
set_option maxRecDepth 20000 in
theorem ggX0_numberOfAll_X0_allSteps : GoodIn wsX0_numberOfAll wsX0_allSteps := goodIn_r _ [33, 1, 9, 34, 50, 51, 52, 53, 54, 55, 56, 57, 58, 59, 60, 61, 62] (by decide +kernel) (by decide +kernel)
set_option maxRecDepth 20000 in
theorem gX0_numberOfAll_X0_allSteps : GoodIn wsX0_numberOfAll (wsV RX0 61 RX0 yX0_allSteps wsX0_allSteps) := goodIn_app (goodIn_of _ (by decide +kernel)) ggX0_numberOfAll_X0_allSteps
set_option maxRecDepth 20000 in
theorem ggX0_numberOfAll_X0_mostSteps : GoodIn wsX0_numberOfAll wsX0_mostSteps := goodIn_r _ [38, 1, 9, 34, 26, 27, 28, 29, 50, 51, 52, 53, 54, 55, 56, 57, 58, 59, 60, 61, 62] (by decide +kernel) (by decide +kernel)
set_option maxRecDepth 20000 in
theorem gX0_numberOfAll_X0_mostSteps : GoodIn wsX0_numberOfAll (wsV RX0 64 RX0 yX0_mostSteps wsX0_mostSteps) := goodIn_app (goodIn_of _ (by decide +kernel)) ggX0_numberOfAll_X0_mostSteps
set_option maxRecDepth 20000 in
theorem ggX0_numberOfAll_X0_withoutValues : GoodIn wsX0_numberOfAll wsX0_withoutValues := goodIn_r _ [42, 1, 9, 43, 44, 45, 46, 47, 48, 49, 50, 51, 52, 53, 54, 55, 56, 57, 58, 59, 60, 61, 62] (by decide +kernel) (by decide +kernel)
set_option maxRecDepth 20000 in
theorem gX0_numberOfAll_X0_withoutValues : GoodIn wsX0_numberOfAll (wsV RX0 67 RX0 yX0_withoutValues wsX0_withoutValues) := goodIn_app (goodIn_of _ (by decide +kernel)) ggX0_numberOfAll_X0_withoutValues
set_option maxRecDepth 20000 in
theorem ggX0_numberOfOne_X0_indexOf : GoodIn wsX0_numberOfOne wsX0_indexOf := goodIn_r _ [16, 17, 1, 34, 35, 36, 37] (by decide +kernel) (by decide +kernel)
set_option maxRecDepth 20000 in
theorem gX0_numberOfOne_X0_indexOf : GoodIn wsX0_numberOfOne (wsV RX0 70 RX0 yX0_indexOf wsX0_indexOf) := goodIn_app (goodIn_of _ (by decide +kernel)) ggX0_numberOfOne_X0_indexOf
set_option maxRecDepth 20000 in
theorem ggX0_numberOfOne_X5_length : GoodIn wsX0_numberOfOne wsX5_length := goodIn_r _ [22, 23, 24, 38, 39, 40, 41, 42, 43, 44, 45, 46] (by decide +kernel) (by decide +kernel)
set_option maxRecDepth 20000 in
theorem gX0_numberOfOne_X5_length : GoodIn wsX0_numberOfOne (wsV RX0 48 RX5 yX5_length wsX5_length) := goodIn_app (goodIn_of _ (by decide +kernel)) ggX0_numberOfOne_X5_length
set_option maxRecDepth 20000 in
theorem ggX0_numberOfOne_X0_childrenOf : GoodIn wsX0_numberOfOne wsX0_childrenOf := goodIn_r _ [28, 17, 1, 2, 34, 35, 36, 37, 38, 39, 40, 41, 42, 43, 44, 45, 46] (by decide +kernel) (by decide +kernel)
set_option maxRecDepth 20000 in
theorem gX0_numberOfOne_X0_childrenOf : GoodIn wsX0_numberOfOne (wsV RX0 100 RX0 yX0_childrenOf wsX0_childrenOf) := goodIn_app (goodIn_of _ (by decide +kernel)) ggX0_numberOfOne_X0_childrenOf
set_option maxRecDepth 20000 in
theorem ggX0_numberOfOne_X1_sizeOf : GoodIn wsX0_numberOfOne wsX1_sizeOf := goodIn_r _ [32, 33, 53, 54] (by decide +kernel) (by decide +kernel)
set_option maxRecDepth 20000 in
theorem gX0_numberOfOne_X1_sizeOf : GoodIn wsX0_numberOfOne (va_wsS RX0 107 yX1_sizeOf wsX1_sizeOf) := goodIn_app (goodIn_of _ (by decide +kernel)) ggX0_numberOfOne_X1_sizeOf
set_option maxRecDepth 20000 in
theorem ggX0_withoutChildren_X0_childrenOf : GoodIn wsX0_withoutChildren wsX0_childrenOf := goodIn_r _ [7, 1, 2, 8, 9, 10, 11, 12, 13, 14, 15, 16, 17, 18, 19, 20, 21] (by decide +kernel) (by decide +kernel)
set_option maxRecDepth 20000 in
theorem gX0_withoutChildren_X0_childrenOf : GoodIn wsX0_withoutChildren (wsV RX0 100 RX0 yX0_childrenOf wsX0_childrenOf) := goodIn_app (goodIn_of _ (by decide +kernel)) ggX0_withoutChildren_X0_childrenOf
set_option maxRecDepth 20000 in
theorem ggX0_withoutValues_X5_length : GoodIn wsX0_withoutValues wsX5_length := goodIn_r _ [7, 8, 9, 14, 15, 16, 17, 18, 19, 20, 21, 22] (by decide +kernel) (by decide +kernel)
set_option maxRecDepth 20000 in
theorem gX0_withoutValues_X5_length : GoodIn wsX0_withoutValues (wsV RX0 48 RX5 yX5_length wsX5_length) := goodIn_app (goodIn_of _ (by decide +kernel)) ggX0_withoutValues_X5_length
set_option maxRecDepth 20000 in
theorem ggX1_writeReversed_X1_sizeOf : GoodIn wsX1_writeReversed wsX1_sizeOf := goodIn_r _ [6, 2, 7, 8] (by decide +kernel) (by decide +kernel)
set_option maxRecDepth 20000 in
theorem gX1_writeReversed_X1_sizeOf : GoodIn wsX1_writeReversed (va_wsS RX1 19 yX1_sizeOf wsX1_sizeOf) := goodIn_app (goodIn_of _ (by decide +kernel)) ggX1_writeReversed_X1_sizeOf
set_option maxRecDepth 20000 in
theorem ggX2_go_X2_takeFirst : GoodIn wsX2_go wsX2_takeFirst := goodIn_r _ [13, 3, 4, 18, 19, 20, 21] (by decide +kernel) (by decide +kernel)
set_option maxRecDepth 20000 in
theorem gX2_go_X2_takeFirst : GoodIn wsX2_go (wsV RX2 24 RX2 yX2_takeFirst wsX2_takeFirst) := goodIn_app (goodIn_of _ (by decide +kernel)) ggX2_go_X2_takeFirst
set_option maxRecDepth 20000 in
theorem ggX2_go_X2_putLast : GoodIn wsX2_go wsX2_putLast := goodIn_r _ [17, 4, 18, 19, 20, 21] (by decide +kernel) (by decide +kernel)
set_option maxRecDepth 20000 in
theorem gX2_go_X2_putLast : GoodIn wsX2_go (wsV RX2 28 RX2 yX2_putLast wsX2_putLast) := goodIn_app (goodIn_of _ (by decide +kernel)) ggX2_go_X2_putLast
set_option maxRecDepth 20000 in
theorem ggX3_read_X3_readToken : GoodIn wsX3_read wsX3_readToken := goodIn_r _ [17, 10, 6, 1, 18, 12, 19, 20, 16, 21, 22, 23, 24, 25, 26, 2, 3, 4, 5, 27, 28, 29, 30, 31, 32, 33, 34, 35, 36, 37, 38, 39, 40, 41, 42, 43, 44, 45, 46, 47, 48, 49, 50, 51, 52, 53, 54, 55, 56, 57, 58, 59, 60, 61, 62, 63, 64, 65, 66, 67, 68, 69, 70, 71, 72, 73, 74, 75, 76, 77, 78, 79, 80, 81, 82, 83, 84, 85, 86, 218, 219, 220, 221, 222, 223, 224, 225, 226, 227] (by decide +kernel) (by decide +kernel)
set_option maxRecDepth 20000 in
theorem gX3_read_X3_readToken : GoodIn wsX3_read (wsV RX3 51 RX3 yX3_readToken wsX3_readToken) := goodIn_app (goodIn_of _ (by decide +kernel)) ggX3_read_X3_readToken
set_option maxRecDepth 20000 in
theorem ggX3_read_X3_pass : GoodIn wsX3_read wsX3_pass := goodIn_r _ [90, 12, 91, 92, 93, 16, 94, 8, 18, 9, 13, 14, 15, 17, 10, 6, 1, 19, 20, 21, 22, 23, 24, 25, 26, 2, 3, 4, 5, 27, 28, 29, 30, 31, 32, 33, 34, 35, 36, 37, 38, 39, 40, 41, 42, 43, 44, 45, 46, 47, 48, 49, 50, 51, 52, 53, 54, 55, 56, 57, 58, 59, 60, 61, 62, 63, 64, 65, 66, 67, 68, 69, 70, 71, 72, 73, 74, 75, 76, 77, 78, 79, 80, 81, 82, 83, 84, 85, 86, 218, 219, 220, 221, 222, 223, 224, 225, 226, 227] (by decide +kernel) (by decide +kernel)
set_option maxRecDepth 20000 in
theorem gX3_read_X3_pass : GoodIn wsX3_read (wsV RX3 54 RX3 yX3_pass wsX3_pass) := goodIn_app (goodIn_of _ (by decide +kernel)) ggX3_read_X3_pass
set_option maxRecDepth 20000 in
theorem ggX3_read_X3_readPush : GoodIn wsX3_read wsX3_readPush := goodIn_r _ [98, 11, 7, 99, 26, 12, 13, 14, 15, 16, 17, 10, 6, 1, 18, 19, 20, 21, 22, 23, 24, 25, 2, 3, 4, 5, 27, 28, 29, 30, 31, 32, 33, 34, 35, 36, 37, 38, 39, 40, 41, 42, 43, 44, 45, 46, 47, 48, 49, 50, 51, 52, 53, 54, 55, 56, 57, 58, 59, 60, 61, 62, 63, 64, 65, 66, 67, 68, 69, 70, 71, 72, 73, 74, 75, 76, 77, 78, 79, 80, 81, 82, 83, 84, 85, 86, 100, 101, 102, 103, 91, 92, 93, 94, 8, 9, 104, 105, 106, 107, 108, 109, 110, 111, 112, 113, 114, 115, 116, 117, 118, 119, 120, 121, 122, 123, 124, 125, 126, 127, 128, 129, 130, 131, 132, 133, 134, 135, 136, 137, 138, 139, 140, 141, 142, 143, 144, 145, 146, 147, 148, 149, 150, 151, 152, 153, 154, 155, 156, 157, 158, 159, 160, 161, 162, 163, 164, 165, 166, 167, 168, 169, 170, 171, 172, 173, 174, 175, 176, 177, 178, 179, 180, 181, 182, 183, 184, 185, 186, 187, 218, 219, 220, 221, 222, 223, 224, 225, 226, 227, 228, 229, 230, 231, 232, 233, 234, 235, 236, 237, 238, 239, 240, 241, 242, 243, 244, 245, 246, 247, 248] (by decide +kernel) (by decide +kernel)
set_option maxRecDepth 20000 in
theorem gX3_read_X3_readPush : GoodIn wsX3_read (wsV RX3 58 RX3 yX3_readPush wsX3_readPush) := goodIn_app (goodIn_of _ (by decide +kernel)) ggX3_read_X3_readPush
set_option maxRecDepth 20000 in
theorem ggX3_read_X3_readPop : GoodIn wsX3_read wsX3_readPop := goodIn_r _ [191, 11, 7, 99, 26, 192, 13, 14, 15, 16, 17, 10, 6, 1, 18, 12, 19, 20, 21, 22, 23, 24, 25, 2, 3, 4, 5, 27, 28, 29, 30, 31, 32, 33, 34, 35, 36, 37, 38, 39, 40, 41, 42, 43, 44, 45, 46, 47, 48, 49, 50, 51, 52, 53, 54, 55, 56, 57, 58, 59, 60, 61, 62, 63, 64, 65, 66, 67, 68, 69, 70, 71, 72, 73, 74, 75, 76, 77, 78, 79, 80, 81, 82, 83, 84, 85, 86, 100, 101, 102, 103, 91, 92, 93, 94, 8, 9, 193, 194, 195, 111, 196, 126, 127, 197, 198, 199, 107, 200, 109, 110, 112, 113, 114, 115, 116, 117, 118, 119, 120, 121, 122, 123, 124, 125, 128, 129, 130, 131, 132, 133, 134, 135, 136, 137, 138, 139, 140, 141, 142, 143, 144, 201, 202, 203, 204, 205, 206, 151, 207, 157, 208, 209, 210, 211, 212, 175, 176, 177, 178, 158, 159, 160, 161, 162, 163, 164, 165, 166, 167, 168, 169, 170, 171, 150, 172, 173, 174, 153, 154, 155, 156, 179, 180, 181, 182, 183, 184, 185, 186, 187, 218, 219, 220, 221, 222, 223, 224, 225, 226, 227, 228, 229, 230, 231, 232, 233, 234, 235, 236, 237, 238, 239, 240, 241, 242, 243, 244, 245, 246, 247, 248] (by decide +kernel) (by decide +kernel)
set_option maxRecDepth 20000 in
theorem gX3_read_X3_readPop : GoodIn wsX3_read (wsV RX3 62 RX3 yX3_readPop wsX3_readPop) := goodIn_app (goodIn_of _ (by decide +kernel)) ggX3_read_X3_readPop
set_option maxRecDepth 20000 in
theorem ggX3_read_X3_readPace : GoodIn wsX3_read wsX3_readPace := goodIn_r _ [216, 11, 7, 26, 217, 13, 14, 15, 16, 17, 10, 6, 1, 18, 12, 19, 20, 21, 22, 23, 24, 25, 2, 3, 4, 5, 27, 28, 29, 30, 31, 32, 33, 34, 35, 36, 37, 38, 39, 40, 41, 42, 43, 44, 45, 46, 47, 48, 49, 50, 51, 52, 53, 54, 55, 56, 57, 58, 59, 60, 61, 62, 63, 64, 65, 66, 67, 68, 69, 70, 71, 72, 73, 74, 75, 76, 77, 78, 79, 80, 81, 82, 83, 84, 85, 86, 100, 101, 102, 103, 91, 92, 93, 94, 8, 9, 218, 219, 220, 221, 222, 223, 224, 225, 226, 227, 228, 229, 230, 231] (by decide +kernel) (by decide +kernel)
set_option maxRecDepth 20000 in
theorem gX3_read_X3_readPace : GoodIn wsX3_read (wsV RX3 65 RX3 yX3_readPace wsX3_readPace) := goodIn_app (goodIn_of _ (by decide +kernel)) ggX3_read_X3_readPace
set_option maxRecDepth 20000 in
theorem ggX3_read_X3_fail : GoodIn wsX3_read wsX3_fail := goodIn_r _ [94, 8, 18, 9, 218, 219, 220, 221, 222, 223, 224, 225, 226, 227] (by decide +kernel) (by decide +kernel)
set_option maxRecDepth 20000 in
theorem gX3_read_X3_fail : GoodIn wsX3_read (wsV RX3 68 RX3 yX3_fail wsX3_fail) := goodIn_app (goodIn_of _ (by decide +kernel)) ggX3_read_X3_fail
set_option maxRecDepth 20000 in
theorem ggX3_readPush_X3_readToken : GoodIn wsX3_readPush wsX3_readToken := goodIn_r _ [10, 11, 12, 13, 14, 5, 15, 16, 9, 17, 18, 19, 20, 21, 4, 22, 23, 24, 25, 26, 27, 28, 29, 30, 31, 32, 33, 34, 35, 36, 37, 38, 39, 40, 41, 42, 43, 44, 45, 46, 47, 48, 49, 50, 51, 52, 53, 54, 55, 56, 57, 58, 59, 60, 61, 62, 63, 64, 65, 66, 67, 68, 69, 70, 71, 72, 73, 74, 75, 76, 77, 78, 79, 80, 81, 82, 83, 84, 85, 180, 181, 182, 183, 184, 185, 186, 187, 188, 189] (by decide +kernel) (by decide +kernel)
set_option maxRecDepth 20000 in
theorem gX3_readPush_X3_readToken : GoodIn wsX3_readPush (wsV RX3 51 RX3 yX3_readToken wsX3_readToken) := goodIn_app (goodIn_of _ (by decide +kernel)) ggX3_readPush_X3_readToken
set_option maxRecDepth 20000 in
theorem ggX3_readPush_X3_seeNumber : GoodIn wsX3_readPush wsX3_seeNumber := goodIn_r _ [89, 5, 4, 90, 91, 92, 9, 93, 94, 14, 95, 180, 181, 182, 183, 184, 185, 186, 187, 188, 189] (by decide +kernel) (by decide +kernel)
set_option maxRecDepth 20000 in
theorem gX3_readPush_X3_seeNumber : GoodIn wsX3_readPush (wsV RX3 76 RX3 yX3_seeNumber wsX3_seeNumber) := goodIn_app (goodIn_of _ (by decide +kernel)) ggX3_readPush_X3_seeNumber
set_option maxRecDepth 20000 in
theorem ggX3_readPush_X3_fail : GoodIn wsX3_readPush wsX3_fail := goodIn_r _ [93, 94, 14, 95, 180, 181, 182, 183, 184, 185, 186, 187, 188, 189] (by decide +kernel) (by decide +kernel)
set_option maxRecDepth 20000 in
theorem gX3_readPush_X3_fail : GoodIn wsX3_readPush (wsV RX3 68 RX3 yX3_fail wsX3_fail) := goodIn_app (goodIn_of _ (by decide +kernel)) ggX3_readPush_X3_fail
set_option maxRecDepth 20000 in
theorem ggX3_readPush_X0_makeByPush : GoodIn wsX3_readPush wsX0_makeByPush := goodIn_r _ [100, 101, 102, 103, 104, 105, 106, 107, 108, 109, 110, 111, 112, 113, 114, 115, 116, 117, 118, 119, 120, 121, 122, 123, 124, 125, 126, 127, 128, 129, 130, 131, 132, 133, 134, 135, 136, 137, 138, 139, 140, 141, 142, 143, 144, 145, 146, 147, 148, 149, 150, 151, 152, 153, 154, 155, 156, 157, 158, 159, 160, 161, 162, 163, 164, 165, 166, 167, 168, 169, 170, 171, 172, 173, 174, 175, 176, 177, 99, 178, 179, 194, 195, 196, 197, 198, 199, 200, 201, 202, 190, 191, 192, 193, 203, 204, 205, 206, 207, 208, 209, 210] (by decide +kernel) (by decide +kernel)
set_option maxRecDepth 20000 in
theorem gX3_readPush_X0_makeByPush : GoodIn wsX3_readPush (wsV RX3 80 RX0 yX0_makeByPush wsX0_makeByPush) := goodIn_app (goodIn_of _ (by decide +kernel)) ggX3_readPush_X0_makeByPush
set_option maxRecDepth 20000 in
theorem ggX3_readPop_X3_readToken : GoodIn wsX3_readPop wsX3_readToken := goodIn_r _ [10, 11, 12, 13, 14, 15, 16, 17, 9, 18, 19, 20, 21, 22, 4, 23, 24, 25, 26, 27, 28, 29, 30, 31, 32, 33, 34, 35, 36, 37, 38, 39, 40, 41, 42, 43, 44, 45, 46, 47, 48, 49, 50, 51, 52, 53, 54, 55, 56, 57, 58, 59, 60, 61, 62, 63, 64, 65, 66, 67, 68, 69, 70, 71, 72, 73, 74, 75, 76, 77, 78, 79, 80, 81, 82, 83, 84, 85, 86, 191, 192, 193, 194, 195, 196, 197, 198, 199, 200] (by decide +kernel) (by decide +kernel)
set_option maxRecDepth 20000 in
theorem gX3_readPop_X3_readToken : GoodIn wsX3_readPop (wsV RX3 51 RX3 yX3_readToken wsX3_readToken) := goodIn_app (goodIn_of _ (by decide +kernel)) ggX3_readPop_X3_readToken
set_option maxRecDepth 20000 in
theorem ggX3_readPop_X3_seeNumber : GoodIn wsX3_readPop wsX3_seeNumber := goodIn_r _ [90, 15, 4, 91, 92, 93, 9, 94, 95, 14, 96, 191, 192, 193, 194, 195, 196, 197, 198, 199, 200] (by decide +kernel) (by decide +kernel)
set_option maxRecDepth 20000 in
theorem gX3_readPop_X3_seeNumber : GoodIn wsX3_readPop (wsV RX3 76 RX3 yX3_seeNumber wsX3_seeNumber) := goodIn_app (goodIn_of _ (by decide +kernel)) ggX3_readPop_X3_seeNumber
set_option maxRecDepth 20000 in
theorem ggX3_readPop_X3_fail : GoodIn wsX3_readPop wsX3_fail := goodIn_r _ [94, 95, 14, 96, 191, 192, 193, 194, 195, 196, 197, 198, 199, 200] (by decide +kernel) (by decide +kernel)
set_option maxRecDepth 20000 in
theorem gX3_readPop_X3_fail : GoodIn wsX3_readPop (wsV RX3 68 RX3 yX3_fail wsX3_fail) := goodIn_app (goodIn_of _ (by decide +kernel)) ggX3_readPop_X3_fail
set_option maxRecDepth 20000 in
theorem ggX3_readPop_X5_length : GoodIn wsX3_readPop wsX5_length := goodIn_r _ [101, 102, 103, 205, 206, 207, 208, 209, 210, 211, 212, 213] (by decide +kernel) (by decide +kernel)
set_option maxRecDepth 20000 in
theorem gX3_readPop_X5_length : GoodIn wsX3_readPop (wsV RX3 87 RX5 yX5_length wsX5_length) := goodIn_app (goodIn_of _ (by decide +kernel)) ggX3_readPop_X5_length
set_option maxRecDepth 20000 in
theorem ggX3_readPop_X0_makeByPop : GoodIn wsX3_readPop wsX0_makeByPop := goodIn_r _ [108, 109, 110, 100, 111, 112, 113, 114, 115, 116, 117, 118, 119, 120, 121, 122, 123, 124, 102, 103, 125, 126, 127, 128, 129, 130, 131, 132, 133, 134, 135, 136, 137, 138, 139, 140, 141, 142, 143, 144, 145, 146, 147, 148, 149, 150, 151, 152, 153, 154, 155, 156, 157, 158, 159, 160, 161, 162, 163, 164, 165, 166, 167, 168, 169, 170, 171, 172, 173, 174, 175, 176, 177, 178, 179, 180, 181, 182, 183, 184, 185, 186, 187, 188, 107, 189, 190, 205, 206, 207, 208, 209, 210, 211, 212, 213, 201, 202, 203, 204, 214, 215, 216, 217, 218, 219, 220, 221] (by decide +kernel) (by decide +kernel)
set_option maxRecDepth 20000 in
theorem gX3_readPop_X0_makeByPop : GoodIn wsX3_readPop (wsV RX3 92 RX0 yX0_makeByPop wsX0_makeByPop) := goodIn_app (goodIn_of _ (by decide +kernel)) ggX3_readPop_X0_makeByPop
set_option maxRecDepth 20000 in
theorem ggX3_readPace_X3_readToken : GoodIn wsX3_readPace wsX3_readToken := goodIn_r _ [9, 10, 11, 12, 13, 14, 15, 16, 8, 17, 18, 19, 20, 21, 3, 22, 23, 24, 25, 26, 27, 28, 29, 30, 31, 32, 33, 34, 35, 36, 37, 38, 39, 40, 41, 42, 43, 44, 45, 46, 47, 48, 49, 50, 51, 52, 53, 54, 55, 56, 57, 58, 59, 60, 61, 62, 63, 64, 65, 66, 67, 68, 69, 70, 71, 72, 73, 74, 75, 76, 77, 78, 79, 80, 81, 82, 83, 84, 85, 96, 97, 98, 99, 100, 101, 102, 103, 104, 105] (by decide +kernel) (by decide +kernel)
set_option maxRecDepth 20000 in
theorem gX3_readPace_X3_readToken : GoodIn wsX3_readPace (wsV RX3 51 RX3 yX3_readToken wsX3_readToken) := goodIn_app (goodIn_of _ (by decide +kernel)) ggX3_readPace_X3_readToken
set_option maxRecDepth 20000 in
theorem ggX3_readPace_X3_seeNumber : GoodIn wsX3_readPace wsX3_seeNumber := goodIn_r _ [89, 14, 3, 90, 91, 92, 8, 93, 94, 13, 95, 96, 97, 98, 99, 100, 101, 102, 103, 104, 105] (by decide +kernel) (by decide +kernel)
set_option maxRecDepth 20000 in
theorem gX3_readPace_X3_seeNumber : GoodIn wsX3_readPace (wsV RX3 76 RX3 yX3_seeNumber wsX3_seeNumber) := goodIn_app (goodIn_of _ (by decide +kernel)) ggX3_readPace_X3_seeNumber
set_option maxRecDepth 20000 in
theorem ggX3_pass_X3_fail : GoodIn wsX3_pass wsX3_fail := goodIn_r _ [6, 7, 8, 9, 89, 90, 91, 92, 93, 94, 95, 96, 97, 98] (by decide +kernel) (by decide +kernel)
set_option maxRecDepth 20000 in
theorem gX3_pass_X3_fail : GoodIn wsX3_pass (wsV RX3 68 RX3 yX3_fail wsX3_fail) := goodIn_app (goodIn_of _ (by decide +kernel)) ggX3_pass_X3_fail
set_option maxRecDepth 20000 in
theorem ggX3_pass_X3_readToken : GoodIn wsX3_pass wsX3_readToken := goodIn_r _ [13, 14, 15, 16, 8, 1, 17, 18, 5, 19, 20, 21, 22, 23, 24, 25, 26, 27, 28, 29, 30, 31, 32, 33, 34, 35, 36, 37, 38, 39, 40, 41, 42, 43, 44, 45, 46, 47, 48, 49, 50, 51, 52, 53, 54, 55, 56, 57, 58, 59, 60, 61, 62, 63, 64, 65, 66, 67, 68, 69, 70, 71, 72, 73, 74, 75, 76, 77, 78, 79, 80, 81, 82, 83, 84, 85, 86, 87, 88, 89, 90, 91, 92, 93, 94, 95, 96, 97, 98] (by decide +kernel) (by decide +kernel)
set_option maxRecDepth 20000 in
theorem gX3_pass_X3_readToken : GoodIn wsX3_pass (wsV RX3 51 RX3 yX3_readToken wsX3_readToken) := goodIn_app (goodIn_of _ (by decide +kernel)) ggX3_pass_X3_readToken
set_option maxRecDepth 20000 in
theorem ggX3_seeNumber_X3_fail : GoodIn wsX3_seeNumber wsX3_fail := goodIn_r _ [7, 8, 9, 10, 11, 12, 13, 14, 15, 16, 17, 18, 19, 20] (by decide +kernel) (by decide +kernel)
set_option maxRecDepth 20000 in
theorem gX3_seeNumber_X3_fail : GoodIn wsX3_seeNumber (wsV RX3 68 RX3 yX3_fail wsX3_fail) := goodIn_app (goodIn_of _ (by decide +kernel)) ggX3_seeNumber_X3_fail
set_option maxRecDepth 20000 in
theorem ggX3_readToken_X3_isDigit : GoodIn wsX3_readToken wsX3_isDigit := goodIn_r _ [9] (by decide +kernel) (by decide +kernel)
set_option maxRecDepth 20000 in
theorem gX3_readToken_X3_isDigit : GoodIn wsX3_readToken (va_wsS RX3 99 yX3_isDigit wsX3_isDigit) := goodIn_app (goodIn_of _ (by decide +kernel)) ggX3_readToken_X3_isDigit
set_option maxRecDepth 20000 in
theorem ggX3_readToken_X3_readNumber : GoodIn wsX3_readToken wsX3_readNumber := goodIn_r _ [13, 5, 14, 1, 2, 3, 15, 16, 17, 18, 6, 7, 8, 9, 79, 80, 81, 82, 83, 84, 85, 86, 87, 88] (by decide +kernel) (by decide +kernel)
set_option maxRecDepth 20000 in
theorem gX3_readToken_X3_readNumber : GoodIn wsX3_readToken (wsV RX3 103 RX3 yX3_readNumber wsX3_readNumber) := goodIn_app (goodIn_of _ (by decide +kernel)) ggX3_readToken_X3_readNumber
set_option maxRecDepth 20000 in
theorem ggX3_readToken_X3_isLetter : GoodIn wsX3_readToken wsX3_isLetter := goodIn_r _ [21] (by decide +kernel) (by decide +kernel)
set_option maxRecDepth 20000 in
theorem gX3_readToken_X3_isLetter : GoodIn wsX3_readToken (va_wsS RX3 106 yX3_isLetter wsX3_isLetter) := goodIn_app (goodIn_of _ (by decide +kernel)) ggX3_readToken_X3_isLetter
set_option maxRecDepth 20000 in
theorem ggX3_readToken_X3_readWord : GoodIn wsX3_readToken wsX3_readWord := goodIn_r _ [25, 1, 2, 3, 5, 19, 20, 8, 21, 26, 27, 28, 29, 4, 30, 31, 32, 33, 34, 35, 36, 37, 38, 39, 40, 41, 42, 43, 44, 45, 46, 47, 48, 49, 50, 51, 52, 53, 54, 55, 56, 57, 58, 59, 60, 61, 62, 63, 64, 65, 66, 67, 68, 69, 70, 71, 72, 73, 74, 75, 76, 77, 78, 79, 80, 81, 82, 83, 84, 85, 86, 87, 88] (by decide +kernel) (by decide +kernel)
set_option maxRecDepth 20000 in
theorem gX3_readToken_X3_readWord : GoodIn wsX3_readToken (wsV RX3 109 RX3 yX3_readWord wsX3_readWord) := goodIn_app (goodIn_of _ (by decide +kernel)) ggX3_readToken_X3_readWord
set_option maxRecDepth 20000 in
theorem ggX3_readNumber_X3_isDigit : GoodIn wsX3_readNumber wsX3_isDigit := goodIn_r _ [13] (by decide +kernel) (by decide +kernel)
set_option maxRecDepth 20000 in
theorem gX3_readNumber_X3_isDigit : GoodIn wsX3_readNumber (va_wsS RX3 99 yX3_isDigit wsX3_isDigit) := goodIn_app (goodIn_of _ (by decide +kernel)) ggX3_readNumber_X3_isDigit
set_option maxRecDepth 20000 in
theorem ggX3_readWord_X3_isLetter : GoodIn wsX3_readWord wsX3_isLetter := goodIn_r _ [8] (by decide +kernel) (by decide +kernel)
set_option maxRecDepth 20000 in
theorem gX3_readWord_X3_isLetter : GoodIn wsX3_readWord (va_wsS RX3 106 yX3_isLetter wsX3_isLetter) := goodIn_app (goodIn_of _ (by decide +kernel)) ggX3_readWord_X3_isLetter
set_option maxRecDepth 20000 in
theorem ggX3_readWord_X3_isWord : GoodIn wsX3_readWord wsX3_isWord := goodIn_r _ [12, 1, 13, 3, 14, 15, 16, 17, 18, 19, 20, 21, 22, 23, 24, 25, 26, 27, 28, 29, 30, 31, 32, 33, 34, 35, 36, 37, 38, 39, 40, 41, 42, 43, 44, 45, 46, 47, 48, 49, 50, 51, 52, 53, 54, 55, 56, 57, 58, 59, 60, 61, 62, 63, 64, 65, 66, 67, 68, 69, 70, 71, 72] (by decide +kernel) (by decide +kernel)
set_option maxRecDepth 20000 in
theorem gX3_readWord_X3_isWord : GoodIn wsX3_readWord (wsV RX3 114 RX3 yX3_isWord wsX3_isWord) := goodIn_app (goodIn_of _ (by decide +kernel)) ggX3_readWord_X3_isWord
set_option maxRecDepth 20000 in
theorem ggX3_isWord_J0_length_8abf5 : GoodIn wsX3_isWord wsJ0_length_8abf5 := goodIn_r _ [8, 9, 10, 11, 12, 7, 13, 14, 15] (by decide +kernel) (by decide +kernel)
set_option maxRecDepth 20000 in
theorem gX3_isWord_J0_length_8abf5 : GoodIn wsX3_isWord (wsV RX3 123 RJ0 yJ0_length_8abf5 wsJ0_length_8abf5) := goodIn_app (goodIn_of _ (by decide +kernel)) ggX3_isWord_J0_length_8abf5
set_option maxRecDepth 20000 in
theorem ggX3_isWord_J0_charAt_5068e : GoodIn wsX3_isWord wsJ0_charAt_5068e := goodIn_r _ [19, 9, 20, 21, 22, 7, 23, 14, 15, 24, 25, 26, 27, 28, 29, 30, 31, 32, 33, 34, 35, 36, 37, 38, 39, 40, 41, 42, 43, 44, 45, 46, 47, 48, 49, 50, 51, 52] (by decide +kernel) (by decide +kernel)
set_option maxRecDepth 20000 in
theorem gX3_isWord_J0_charAt_5068e : GoodIn wsX3_isWord (wsV RX3 126 RJ0 yJ0_charAt_5068e wsJ0_charAt_5068e) := goodIn_app (goodIn_of _ (by decide +kernel)) ggX3_isWord_J0_charAt_5068e
set_option maxRecDepth 20000 in
theorem ggX4_step_X1_init : GoodIn wsX4_step wsX1_init := goodIn_r _ [14, 15, 16, 17, 18, 19, 31, 32] (by decide +kernel) (by decide +kernel)
set_option maxRecDepth 20000 in
theorem gX4_step_X1_init : GoodIn wsX4_step (wsX1_init) := ggX4_step_X1_init
set_option maxRecDepth 20000 in
theorem ggX4_step_X4_finish : GoodIn wsX4_step wsX4_finish := goodIn_r _ [24, 1, 8, 25, 26, 27, 28, 29, 30] (by decide +kernel) (by decide +kernel)
set_option maxRecDepth 20000 in
theorem gX4_step_X4_finish : GoodIn wsX4_step (wsV RX4 42 RX4 yX4_finish wsX4_finish) := goodIn_app (goodIn_of _ (by decide +kernel)) ggX4_step_X4_finish
set_option maxRecDepth 20000 in
theorem ggX4_loseFirst_X1_behindFirst : GoodIn wsX4_loseFirst wsX1_behindFirst := goodIn_r _ [7, 8, 21, 22] (by decide +kernel) (by decide +kernel)
set_option maxRecDepth 20000 in
theorem gX4_loseFirst_X1_behindFirst : GoodIn wsX4_loseFirst (va_wsS RX4 45 yX1_behindFirst wsX1_behindFirst) := goodIn_app (goodIn_of _ (by decide +kernel)) ggX4_loseFirst_X1_behindFirst
set_option maxRecDepth 20000 in
theorem ggX4_loseFirst_X4_finish : GoodIn wsX4_loseFirst wsX4_finish := goodIn_r _ [13, 1, 14, 15, 16, 17, 18, 19, 20] (by decide +kernel) (by decide +kernel)
set_option maxRecDepth 20000 in
theorem gX4_loseFirst_X4_finish : GoodIn wsX4_loseFirst (wsV RX4 42 RX4 yX4_finish wsX4_finish) := goodIn_app (goodIn_of _ (by decide +kernel)) ggX4_loseFirst_X4_finish
set_option maxRecDepth 20000 in
theorem ggX5_init_X4_init : GoodIn wsX5_init wsX4_init := goodIn_r _ [17, 18, 2, 3, 19, 20, 21, 22, 23, 24, 29, 30, 31, 32, 33, 34] (by decide +kernel) (by decide +kernel)
set_option maxRecDepth 20000 in
theorem gX5_init_X4_init_n11 : GoodIn wsX5_init (wsX4_init) := ggX5_init_X4_init
set_option maxRecDepth 20000 in
theorem ggX5_init_X4_copyFrom : GoodIn wsX5_init wsX4_copyFrom := goodIn_r _ [28, 19, 20, 21, 22, 23, 24, 29, 30, 31, 32, 33, 34] (by decide +kernel) (by decide +kernel)
set_option maxRecDepth 20000 in
theorem gX5_init_X4_copyFrom : GoodIn wsX5_init (wsV RX5 45 RX4 yX4_copyFrom wsX4_copyFrom) := goodIn_app (goodIn_of _ (by decide +kernel)) ggX5_init_X4_copyFrom
set_option maxRecDepth 20000 in
theorem ggX5_putLast_X1_init : GoodIn wsX5_putLast wsX1_init := goodIn_r _ [8, 9, 10, 11, 12, 13, 14, 15] (by decide +kernel) (by decide +kernel)
set_option maxRecDepth 20000 in
theorem gX5_putLast_X1_init : GoodIn wsX5_putLast (wsX1_init) := ggX5_putLast_X1_init
set_option maxRecDepth 20000 in
theorem ggX5_takeFirst_X1_behindFirst : GoodIn wsX5_takeFirst wsX1_behindFirst := goodIn_r _ [7, 8, 32, 33] (by decide +kernel) (by decide +kernel)
set_option maxRecDepth 20000 in
theorem gX5_takeFirst_X1_behindFirst : GoodIn wsX5_takeFirst (va_wsS RX5 54 yX1_behindFirst wsX1_behindFirst) := goodIn_app (goodIn_of _ (by decide +kernel)) ggX5_takeFirst_X1_behindFirst
set_option maxRecDepth 20000 in
theorem ggX5_takeFirst_X4_loseFirst : GoodIn wsX5_takeFirst wsX4_loseFirst := goodIn_r _ [13, 14, 15, 16, 17, 5, 6, 7, 8, 18, 19, 20, 12, 21, 22, 34, 35, 36, 37, 38, 39, 32, 33] (by decide +kernel) (by decide +kernel)
set_option maxRecDepth 20000 in
theorem gX5_takeFirst_X4_loseFirst : GoodIn wsX5_takeFirst (wsV RX5 58 RX4 yX4_loseFirst wsX4_loseFirst) := goodIn_app (goodIn_of _ (by decide +kernel)) ggX5_takeFirst_X4_loseFirst
set_option maxRecDepth 20000 in
theorem ggX5_settle_X4_begin : GoodIn wsX5_settle wsX4_begin := goodIn_r _ [12, 13, 14, 15, 16, 17, 18, 53, 54, 55, 56, 57, 58] (by decide +kernel) (by decide +kernel)
set_option maxRecDepth 20000 in
theorem gX5_settle_X4_begin : GoodIn wsX5_settle (wsV RX5 61 RX4 yX4_begin wsX4_begin) := goodIn_app (goodIn_of _ (by decide +kernel)) ggX5_settle_X4_begin
set_option maxRecDepth 20000 in
theorem ggX5_settle_X4_step : GoodIn wsX5_settle wsX4_step := goodIn_r _ [22, 13, 15, 17, 23, 24, 25, 26, 16, 18, 27, 14, 28, 29, 30, 31, 32, 33, 34, 35, 36, 37, 38, 11, 39, 53, 54, 55, 56, 57, 58, 59, 60] (by decide +kernel) (by decide +kernel)
set_option maxRecDepth 20000 in
theorem gX5_settle_X4_step : GoodIn wsX5_settle (wsV RX5 65 RX4 yX4_step wsX4_step) := goodIn_app (goodIn_of _ (by decide +kernel)) ggX5_settle_X4_step
set_option maxRecDepth 20000 in
theorem ggX5_settle_X4_endWithList : GoodIn wsX5_settle wsX4_endWithList := goodIn_r _ [43, 18, 13, 53, 54, 55, 56, 57, 58] (by decide +kernel) (by decide +kernel)
set_option maxRecDepth 20000 in
theorem gX5_settle_X4_endWithList : GoodIn wsX5_settle (wsV RX5 72 RX4 yX4_endWithList wsX4_endWithList) := goodIn_app (goodIn_of _ (by decide +kernel)) ggX5_settle_X4_endWithList
