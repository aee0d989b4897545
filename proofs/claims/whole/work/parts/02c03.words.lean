set_option maxRecDepth 20000 in
theorem ggX7_readsPop_X7_makes : GoodIn wsX7_readsPop wsX7_makes := goodIn_r _ [61, 62, 4, 5, 6, 7, 8, 9, 10, 11, 12, 13, 14, 63, 64, 65, 66, 67, 68, 69, 70, 54, 55, 56, 57, 71, 72, 73, 74, 48, 49, 50, 51, 52, 53, 75, 76, 77, 78, 79, 80, 81, 82, 83, 84, 85, 86, 87, 88, 89, 90, 91, 92, 93, 94, 95, 96, 97, 98, 99, 100, 101, 102, 103, 104, 105, 106, 107, 108, 109, 110, 111, 112, 113, 114, 115, 116, 117, 118, 119, 120, 121, 122, 123, 124, 125, 126, 127, 128, 129, 130, 131, 132, 133, 134, 135, 136, 137, 138] (by decide +kernel) (by decide +kernel)
set_option maxRecDepth 20000 in
theorem gX7_readsPop_X7_makes : GoodIn wsX7_readsPop (wsV RX7 187 RX7 yX7_makes wsX7_makes) := goodIn_app (goodIn_of _ (by decide +kernel)) ggX7_readsPop_X7_makes
set_option maxRecDepth 20000 in
theorem ggX7_readsPace_X7_fails : GoodIn wsX7_readsPace wsX7_fails := goodIn_r _ [7, 8, 9, 35, 36, 37, 38, 39, 40, 41, 42, 43, 44, 45, 46, 47, 48, 49, 50, 51, 52, 53, 54, 55, 56, 57, 58, 59, 60] (by decide +kernel) (by decide +kernel)
set_option maxRecDepth 20000 in
theorem gX7_readsPace_X7_fails : GoodIn wsX7_readsPace (wsV RX7 166 RX7 yX7_fails wsX7_fails) := goodIn_app (goodIn_of _ (by decide +kernel)) ggX7_readsPace_X7_fails
set_option maxRecDepth 20000 in
theorem ggX7_readsPace_X7_reads : GoodIn wsX7_readsPace wsX7_reads := goodIn_r _ [13, 14, 15, 2, 16, 17, 18, 19, 20, 21, 6, 22, 23, 24, 25, 3, 4, 5, 7, 8, 9, 26, 27, 28, 35, 36, 37, 38, 39, 40, 41, 42, 43, 44, 45, 46, 47, 48, 49, 50, 51, 52, 53, 54, 55, 56, 57, 58, 59, 60] (by decide +kernel) (by decide +kernel)
set_option maxRecDepth 20000 in
theorem gX7_readsPace_X7_reads : GoodIn wsX7_readsPace (wsV RX7 184 RX7 yX7_reads wsX7_reads) := goodIn_app (goodIn_of _ (by decide +kernel)) ggX7_readsPace_X7_reads
set_option maxRecDepth 20000 in
theorem ggX7_readsPace_X7_put : GoodIn wsX7_readsPace wsX7_put := goodIn_r _ [32, 33, 34, 35, 36, 37, 38, 39, 40, 41, 42, 43, 44, 45, 46, 47, 48, 49, 50, 51, 52, 53, 54, 55, 56, 57, 58, 59, 60] (by decide +kernel) (by decide +kernel)
set_option maxRecDepth 20000 in
theorem gX7_readsPace_X7_put : GoodIn wsX7_readsPace (wsV RX7 54 RX7 yX7_put wsX7_put) := goodIn_app (goodIn_of _ (by decide +kernel)) ggX7_readsPace_X7_put
set_option maxRecDepth 20000 in
theorem ggX7_readsText_X7_passes : GoodIn wsX7_readsText wsX7_passes := goodIn_r _ [7, 1, 8, 9, 10, 11, 12, 6, 13, 14, 15, 16, 17, 18, 19, 20, 21, 22, 23, 24, 25, 26, 27, 28, 29, 30, 31, 32, 33, 34, 35, 36, 37, 38, 39, 40, 41, 42, 43, 44, 45, 46, 47, 48, 49, 50, 51, 52, 53, 54, 55, 56, 57, 58, 59, 60, 61, 62, 63, 64, 65, 189, 190, 191, 192, 193, 194, 195, 196, 197, 198, 199, 200, 201, 202, 203, 204, 205, 206, 207, 208, 209, 210, 211, 212, 213, 214] (by decide +kernel) (by decide +kernel)
set_option maxRecDepth 20000 in
theorem gX7_readsText_X7_passes : GoodIn wsX7_readsText (wsV RX7 192 RX7 yX7_passes wsX7_passes) := goodIn_app (goodIn_of _ (by decide +kernel)) ggX7_readsText_X7_passes
set_option maxRecDepth 20000 in
theorem ggX7_readsText_X7_fails : GoodIn wsX7_readsText wsX7_fails := goodIn_r _ [69, 70, 71, 189, 190, 191, 192, 193, 194, 195, 196, 197, 198, 199, 200, 201, 202, 203, 204, 205, 206, 207, 208, 209, 210, 211, 212, 213, 214] (by decide +kernel) (by decide +kernel)
set_option maxRecDepth 20000 in
theorem gX7_readsText_X7_fails : GoodIn wsX7_readsText (wsV RX7 166 RX7 yX7_fails wsX7_fails) := goodIn_app (goodIn_of _ (by decide +kernel)) ggX7_readsText_X7_fails
set_option maxRecDepth 20000 in
theorem ggX7_readsText_X7_begins : GoodIn wsX7_readsText wsX7_begins := goodIn_r _ [75, 76, 77, 78, 6, 79, 80, 81, 82, 83, 84, 85, 189, 190, 191, 192, 193, 194, 195, 196, 197, 198, 199, 200, 201, 202, 203, 204, 205, 206, 207, 208, 209, 210, 211, 212, 213, 214] (by decide +kernel) (by decide +kernel)
set_option maxRecDepth 20000 in
theorem gX7_readsText_X7_begins : GoodIn wsX7_readsText (wsV RX7 41 RX7 yX7_begins wsX7_begins) := goodIn_app (goodIn_of _ (by decide +kernel)) ggX7_readsText_X7_begins
set_option maxRecDepth 20000 in
theorem ggX7_readsText_X7_sign : GoodIn wsX7_readsText wsX7_sign := goodIn_r _ [89, 1, 10, 11, 12, 6, 13, 8, 9, 66, 67, 68, 69, 70, 71, 189, 190, 191, 192, 193, 194, 195, 196, 197, 198, 199, 200, 201, 202, 203, 204, 205, 206, 207, 208, 209, 210, 211, 212, 213, 214] (by decide +kernel) (by decide +kernel)
set_option maxRecDepth 20000 in
theorem gX7_readsText_X7_sign : GoodIn wsX7_readsText (wsV RX7 196 RX7 yX7_sign wsX7_sign) := goodIn_app (goodIn_of _ (by decide +kernel)) ggX7_readsText_X7_sign
set_option maxRecDepth 20000 in
theorem ggX7_readsText_X7_here : GoodIn wsX7_readsText wsX7_here := goodIn_r _ [13, 1, 8, 9, 189, 190, 191, 192, 193, 194, 195, 196, 197, 198, 199, 200, 201, 202, 203, 204, 205, 206, 207, 208, 209, 210, 211, 212, 213, 214] (by decide +kernel) (by decide +kernel)
set_option maxRecDepth 20000 in
theorem gX7_readsText_X7_here : GoodIn wsX7_readsText (wsV RX7 151 RX7 yX7_here wsX7_here) := goodIn_app (goodIn_of _ (by decide +kernel)) ggX7_readsText_X7_here
set_option maxRecDepth 20000 in
theorem ggX7_readsText_X7_readsPush : GoodIn wsX7_readsText wsX7_readsPush := goodIn_r _ [93, 2, 94, 95, 96, 97, 98, 6, 99, 100, 101, 102, 103, 80, 81, 104, 105, 106, 107, 1, 8, 9, 108, 10, 11, 12, 13, 109, 110, 111, 66, 67, 68, 69, 70, 71, 112, 113, 114, 115, 116, 117, 118, 119, 82, 83, 84, 85, 76, 77, 78, 79, 120, 121, 122, 123, 124, 125, 126, 127, 128, 129, 130, 131, 132, 133, 134, 135, 136, 137, 138, 139, 140, 141, 142, 143, 144, 145, 146, 147, 148, 149, 150, 151, 152, 153, 154, 155, 156, 157, 158, 159, 160, 161, 162, 163, 164, 165, 166, 167, 168, 169, 170, 171, 189, 190, 191, 192, 193, 194, 195, 196, 197, 198, 199, 200, 201, 202, 203, 204, 205, 206, 207, 208, 209, 210, 211, 212, 213, 214] (by decide +kernel) (by decide +kernel)
set_option maxRecDepth 20000 in
theorem gX7_readsText_X7_readsPush : GoodIn wsX7_readsText (wsV RX7 201 RX7 yX7_readsPush wsX7_readsPush) := goodIn_app (goodIn_of _ (by decide +kernel)) ggX7_readsText_X7_readsPush
set_option maxRecDepth 20000 in
theorem ggX7_readsText_X7_readsPop : GoodIn wsX7_readsText wsX7_readsPop := goodIn_r _ [175, 2, 94, 95, 96, 97, 98, 6, 99, 100, 101, 102, 103, 80, 81, 104, 105, 106, 107, 1, 8, 9, 108, 10, 11, 12, 13, 109, 110, 111, 66, 67, 68, 69, 70, 71, 112, 113, 114, 176, 177, 178, 179, 180, 181, 182, 183, 184, 128, 129, 130, 131, 132, 133, 120, 121, 122, 123, 115, 116, 117, 118, 119, 82, 83, 84, 85, 76, 77, 78, 79, 124, 125, 126, 127, 134, 135, 136, 137, 138, 139, 140, 141, 142, 143, 144, 145, 146, 147, 148, 149, 150, 151, 152, 153, 154, 155, 156, 157, 158, 159, 160, 161, 162, 163, 164, 165, 166, 167, 168, 169, 170, 171, 189, 190, 191, 192, 193, 194, 195, 196, 197, 198, 199, 200, 201, 202, 203, 204, 205, 206, 207, 208, 209, 210, 211, 212, 213, 214] (by decide +kernel) (by decide +kernel)
set_option maxRecDepth 20000 in
theorem gX7_readsText_X7_readsPop : GoodIn wsX7_readsText (wsV RX7 206 RX7 yX7_readsPop wsX7_readsPop) := goodIn_app (goodIn_of _ (by decide +kernel)) ggX7_readsText_X7_readsPop
set_option maxRecDepth 20000 in
theorem ggX7_readsText_X7_readsPace : GoodIn wsX7_readsText wsX7_readsPace := goodIn_r _ [188, 2, 94, 66, 67, 68, 6, 69, 70, 71, 104, 105, 106, 107, 1, 95, 8, 9, 108, 10, 11, 12, 13, 109, 110, 111, 112, 113, 114, 76, 77, 78, 79, 80, 81, 189, 190, 191, 192, 193, 194, 195, 196, 197, 198, 199, 200, 201, 202, 203, 204, 205, 206, 207, 208, 209, 210, 211, 212, 213, 214] (by decide +kernel) (by decide +kernel)
set_option maxRecDepth 20000 in
theorem gX7_readsText_X7_readsPace : GoodIn wsX7_readsText (wsV RX7 211 RX7 yX7_readsPace wsX7_readsPace) := goodIn_app (goodIn_of _ (by decide +kernel)) ggX7_readsText_X7_readsPace
set_option maxRecDepth 20000 in
theorem ggX7_load_X7_isIn : GoodIn wsX7_load wsX7_isIn := goodIn_r _ [14] (by decide +kernel) (by decide +kernel)
set_option maxRecDepth 20000 in
theorem gX7_load_X7_isIn : GoodIn wsX7_load (va_wsS RX7 69 yX7_isIn wsX7_isIn) := goodIn_app (goodIn_of _ (by decide +kernel)) ggX7_load_X7_isIn
set_option maxRecDepth 20000 in
theorem ggX7_load_X7_right : GoodIn wsX7_load wsX7_right := goodIn_r _ [18, 1, 201, 202, 203, 204, 205, 206, 207, 208, 209, 210, 211, 212, 213, 214, 215, 216, 217, 218, 219, 220, 221, 222, 223, 224, 225, 226] (by decide +kernel) (by decide +kernel)
set_option maxRecDepth 20000 in
theorem gX7_load_X7_right : GoodIn wsX7_load (wsV RX7 214 RX7 yX7_right wsX7_right) := goodIn_app (goodIn_of _ (by decide +kernel)) ggX7_load_X7_right
set_option maxRecDepth 20000 in
theorem ggX7_load_X7_get : GoodIn wsX7_load wsX7_get := goodIn_r _ [22, 9, 8, 201, 202, 203, 204, 205, 206, 207, 208, 209, 210, 211, 212, 213, 214, 215, 216, 217, 218, 219, 220, 221, 222, 223, 224, 225, 226] (by decide +kernel) (by decide +kernel)
set_option maxRecDepth 20000 in
theorem gX7_load_X7_get : GoodIn wsX7_load (wsV RX7 50 RX7 yX7_get wsX7_get) := goodIn_app (goodIn_of _ (by decide +kernel)) ggX7_load_X7_get
set_option maxRecDepth 20000 in
theorem ggX7_load_X7_readsText : GoodIn wsX7_load wsX7_readsText := goodIn_r _ [26, 4, 27, 28, 29, 30, 13, 31, 3, 32, 33, 34, 35, 36, 37, 38, 39, 40, 41, 42, 43, 44, 45, 46, 47, 48, 49, 50, 51, 52, 53, 54, 55, 56, 57, 58, 59, 60, 61, 62, 63, 64, 65, 66, 67, 68, 69, 70, 71, 72, 73, 74, 75, 76, 77, 78, 79, 80, 81, 82, 83, 84, 85, 86, 87, 88, 89, 90, 91, 92, 5, 6, 93, 94, 95, 96, 97, 98, 99, 100, 9, 8, 101, 102, 103, 104, 105, 106, 107, 108, 109, 110, 111, 112, 113, 114, 115, 116, 117, 118, 19, 20, 21, 22, 119, 120, 121, 122, 123, 124, 125, 126, 11, 12, 14, 127, 128, 129, 130, 131, 132, 133, 134, 135, 136, 137, 138, 139, 140, 141, 142, 143, 144, 145, 146, 147, 148, 149, 150, 151, 152, 153, 154, 155, 156, 157, 158, 159, 160, 161, 162, 163, 164, 165, 166, 167, 168, 169, 170, 171, 172, 173, 174, 175, 176, 177, 178, 179, 180, 181, 182, 183, 184, 185, 186, 187, 188, 189, 190, 191, 192, 193, 194, 195, 196, 197, 198, 199, 200, 201, 202, 203, 204, 205, 206, 207, 208, 209, 210, 211, 212, 213, 214, 215, 216, 217, 218, 219, 220, 221, 222, 223, 224, 225, 226] (by decide +kernel) (by decide +kernel)
set_option maxRecDepth 20000 in
theorem gX7_load_X7_readsText : GoodIn wsX7_load (wsV RX7 218 RX7 yX7_readsText wsX7_readsText) := goodIn_app (goodIn_of _ (by decide +kernel)) ggX7_load_X7_readsText
set_option maxRecDepth 20000 in
theorem ggX7_load_X7_put : GoodIn wsX7_load wsX7_put := goodIn_r _ [100, 9, 8, 201, 202, 203, 204, 205, 206, 207, 208, 209, 210, 211, 212, 213, 214, 215, 216, 217, 218, 219, 220, 221, 222, 223, 224, 225, 226] (by decide +kernel) (by decide +kernel)
set_option maxRecDepth 20000 in
theorem gX7_load_X7_put : GoodIn wsX7_load (wsV RX7 54 RX7 yX7_put wsX7_put) := goodIn_app (goodIn_of _ (by decide +kernel)) ggX7_load_X7_put
set_option maxRecDepth 20000 in
theorem ggX7_load_X7_versions : GoodIn wsX7_load wsX7_versions := goodIn_r _ [118, 19, 20, 21, 13, 22, 9, 8, 201, 202, 203, 204, 205, 206, 207, 208, 209, 210, 211, 212, 213, 214, 215, 216, 217, 218, 219, 220, 221, 222, 223, 224, 225, 226] (by decide +kernel) (by decide +kernel)
set_option maxRecDepth 20000 in
theorem gX7_load_X7_versions : GoodIn wsX7_load (wsV RX7 65 RX7 yX7_versions wsX7_versions) := goodIn_app (goodIn_of _ (by decide +kernel)) ggX7_load_X7_versions
set_option maxRecDepth 20000 in
theorem ggX7_allOf_X7_versions : GoodIn wsX7_allOf wsX7_versions := goodIn_r _ [10, 11, 12, 13, 9, 14, 15, 16, 82, 83, 84, 85, 86, 87, 88, 89, 90, 91, 92, 93, 94, 95, 96, 97, 98, 99, 100, 101, 102, 103, 104, 105, 106, 107] (by decide +kernel) (by decide +kernel)
set_option maxRecDepth 20000 in
theorem gX7_allOf_X7_versions : GoodIn wsX7_allOf (wsV RX7 65 RX7 yX7_versions wsX7_versions) := goodIn_app (goodIn_of _ (by decide +kernel)) ggX7_allOf_X7_versions
set_option maxRecDepth 20000 in
theorem ggX7_allOf_X7_children : GoodIn wsX7_allOf wsX7_children := goodIn_r _ [20, 6, 7, 8, 9, 10, 11, 12, 13, 14, 15, 16, 21, 22, 23, 24, 82, 83, 84, 85, 86, 87, 88, 89, 90, 91, 92, 93, 94, 95, 96, 97, 98, 99, 100, 101, 102, 103, 104, 105, 106, 107] (by decide +kernel) (by decide +kernel)
set_option maxRecDepth 20000 in
theorem gX7_allOf_X7_children : GoodIn wsX7_allOf (wsV RX7 221 RX7 yX7_children wsX7_children) := goodIn_app (goodIn_of _ (by decide +kernel)) ggX7_allOf_X7_children
set_option maxRecDepth 20000 in
theorem ggX7_allOf_X7_of : GoodIn wsX7_allOf wsX7_of := goodIn_r _ [24, 11, 12, 13, 9, 14, 15, 16, 82, 83, 84, 85, 86, 87, 88, 89, 90, 91, 92, 93, 94, 95, 96, 97, 98, 99, 100, 101, 102, 103, 104, 105, 106, 107] (by decide +kernel) (by decide +kernel)
set_option maxRecDepth 20000 in
theorem gX7_allOf_X7_of : GoodIn wsX7_allOf (wsV RX7 105 RX7 yX7_of wsX7_of) := goodIn_app (goodIn_of _ (by decide +kernel)) ggX7_allOf_X7_of
set_option maxRecDepth 20000 in
theorem ggX7_allOf_X7_length : GoodIn wsX7_allOf wsX7_length := goodIn_r _ [28, 29, 30, 31, 32, 9, 33, 34, 35, 36, 37, 38, 39, 21, 22, 23, 24, 11, 12, 13, 14, 15, 16, 82, 83, 84, 85, 86, 87, 88, 89, 90, 91, 92, 93, 94, 95, 96, 97, 98, 99, 100, 101, 102, 103, 104, 105, 106, 107] (by decide +kernel) (by decide +kernel)
set_option maxRecDepth 20000 in
theorem gX7_allOf_X7_length : GoodIn wsX7_allOf (wsV RX7 128 RX7 yX7_length wsX7_length) := goodIn_app (goodIn_of _ (by decide +kernel)) ggX7_allOf_X7_length
set_option maxRecDepth 20000 in
theorem ggX7_allOf_X7_lays : GoodIn wsX7_allOf wsX7_lays := goodIn_r _ [43, 34, 35, 36, 37, 38, 9, 39, 21, 22, 23, 24, 11, 12, 13, 14, 15, 16, 44, 45, 46, 47, 48, 49, 50, 1, 51, 52, 53, 54, 55, 56, 57, 58, 59, 60, 61, 62, 63, 64, 65, 66, 67, 68, 69, 70, 71, 72, 73, 74, 75, 76, 77, 78, 79, 80, 81, 82, 83, 84, 85, 86, 87, 88, 89, 90, 91, 92, 93, 94, 95, 96, 97, 98, 99, 100, 101, 102, 103, 104, 105, 106, 107] (by decide +kernel) (by decide +kernel)
set_option maxRecDepth 20000 in
theorem gX7_allOf_X7_lays : GoodIn wsX7_allOf (wsV RX7 131 RX7 yX7_lays wsX7_lays) := goodIn_app (goodIn_of _ (by decide +kernel)) ggX7_allOf_X7_lays
set_option maxRecDepth 20000 in
theorem ggX7_toldOf_X7_get : GoodIn wsX7_toldOf wsX7_get := goodIn_r _ [6, 7, 8, 87, 88, 89, 90, 91, 92, 93, 94, 95, 96, 97, 98, 99, 100, 101, 102, 103, 104, 105, 106, 107, 108, 109, 110, 111, 112] (by decide +kernel) (by decide +kernel)
set_option maxRecDepth 20000 in
theorem gX7_toldOf_X7_get : GoodIn wsX7_toldOf (wsV RX7 50 RX7 yX7_get wsX7_get) := goodIn_app (goodIn_of _ (by decide +kernel)) ggX7_toldOf_X7_get
set_option maxRecDepth 20000 in
theorem ggX7_toldOf_X7_allOf : GoodIn wsX7_toldOf wsX7_allOf := goodIn_r _ [12, 13, 14, 15, 16, 17, 18, 19, 20, 5, 21, 2, 3, 4, 6, 7, 8, 22, 23, 24, 25, 26, 27, 28, 29, 30, 31, 32, 33, 34, 35, 36, 37, 38, 39, 40, 41, 42, 43, 44, 45, 46, 47, 48, 49, 50, 51, 52, 53, 54, 55, 56, 57, 58, 59, 60, 61, 62, 63, 64, 65, 66, 67, 68, 69, 70, 71, 72, 73, 74, 75, 76, 77, 78, 79, 80, 81, 82, 83, 84, 85, 86, 87, 88, 89, 90, 91, 92, 93, 94, 95, 96, 97, 98, 99, 100, 101, 102, 103, 104, 105, 106, 107, 108, 109, 110, 111, 112] (by decide +kernel) (by decide +kernel)
set_option maxRecDepth 20000 in
theorem gX7_toldOf_X7_allOf : GoodIn wsX7_toldOf (wsV RX7 229 RX7 yX7_allOf wsX7_allOf) := goodIn_app (goodIn_of _ (by decide +kernel)) ggX7_toldOf_X7_allOf
set_option maxRecDepth 20000 in
theorem ggX7_toldOfVersion_X7_lays : GoodIn wsX7_toldOfVersion wsX7_lays := goodIn_r _ [10, 11, 12, 13, 14, 15, 9, 16, 17, 18, 19, 20, 21, 22, 23, 24, 25, 26, 27, 28, 29, 30, 5, 1, 2, 3, 4, 31, 32, 33, 34, 35, 36, 37, 38, 39, 40, 41, 42, 43, 44, 45, 46, 47, 48, 49, 50, 51, 52, 53, 54, 55, 56, 57, 58, 59, 60, 69, 70, 71, 72, 73, 74, 75, 76, 77, 78, 79, 80, 81, 82, 83, 84, 85, 86, 87, 88, 89, 90, 91, 92, 93, 94] (by decide +kernel) (by decide +kernel)
set_option maxRecDepth 20000 in
theorem gX7_toldOfVersion_X7_lays : GoodIn wsX7_toldOfVersion (wsV RX7 131 RX7 yX7_lays wsX7_lays) := goodIn_app (goodIn_of _ (by decide +kernel)) ggX7_toldOfVersion_X7_lays
set_option maxRecDepth 20000 in
theorem ggX7_toldOfVersion_X7_of : GoodIn wsX7_toldOfVersion wsX7_of := goodIn_r _ [20, 21, 22, 23, 9, 24, 25, 26, 69, 70, 71, 72, 73, 74, 75, 76, 77, 78, 79, 80, 81, 82, 83, 84, 85, 86, 87, 88, 89, 90, 91, 92, 93, 94] (by decide +kernel) (by decide +kernel)
set_option maxRecDepth 20000 in
theorem gX7_toldOfVersion_X7_of : GoodIn wsX7_toldOfVersion (wsV RX7 105 RX7 yX7_of wsX7_of) := goodIn_app (goodIn_of _ (by decide +kernel)) ggX7_toldOfVersion_X7_of
set_option maxRecDepth 20000 in
theorem ggX7_toldOfVersion_X7_children : GoodIn wsX7_toldOfVersion wsX7_children := goodIn_r _ [64, 65, 66, 67, 9, 68, 21, 22, 23, 24, 25, 26, 17, 18, 19, 20, 69, 70, 71, 72, 73, 74, 75, 76, 77, 78, 79, 80, 81, 82, 83, 84, 85, 86, 87, 88, 89, 90, 91, 92, 93, 94] (by decide +kernel) (by decide +kernel)
set_option maxRecDepth 20000 in
theorem gX7_toldOfVersion_X7_children : GoodIn wsX7_toldOfVersion (wsV RX7 221 RX7 yX7_children wsX7_children) := goodIn_app (goodIn_of _ (by decide +kernel)) ggX7_toldOfVersion_X7_children
set_option maxRecDepth 20000 in
theorem ggX7_valueOf_X7_length : GoodIn wsX7_valueOf wsX7_length := goodIn_r _ [8, 1, 9, 10, 11, 7, 12, 13, 14, 15, 16, 17, 18, 19, 20, 21, 22, 23, 24, 25, 26, 27, 28, 77, 78, 79, 80, 81, 82, 83, 84, 85, 86, 87, 88, 89, 90, 91, 92, 93, 94, 95, 96, 97, 98, 99, 100, 101, 102] (by decide +kernel) (by decide +kernel)
set_option maxRecDepth 20000 in
theorem gX7_valueOf_X7_length : GoodIn wsX7_valueOf (wsV RX7 128 RX7 yX7_length wsX7_length) := goodIn_app (goodIn_of _ (by decide +kernel)) ggX7_valueOf_X7_length
set_option maxRecDepth 20000 in
theorem ggX7_valueOf_X7_lays : GoodIn wsX7_valueOf wsX7_lays := goodIn_r _ [32, 13, 14, 15, 16, 17, 7, 18, 19, 20, 21, 22, 23, 24, 25, 26, 27, 28, 33, 34, 35, 36, 3, 37, 38, 39, 40, 41, 42, 43, 44, 45, 46, 47, 48, 49, 2, 50, 51, 52, 53, 54, 55, 56, 57, 58, 59, 60, 61, 62, 63, 64, 65, 66, 67, 68, 69, 77, 78, 79, 80, 81, 82, 83, 84, 85, 86, 87, 88, 89, 90, 91, 92, 93, 94, 95, 96, 97, 98, 99, 100, 101, 102] (by decide +kernel) (by decide +kernel)
set_option maxRecDepth 20000 in
theorem gX7_valueOf_X7_lays : GoodIn wsX7_valueOf (wsV RX7 131 RX7 yX7_lays wsX7_lays) := goodIn_app (goodIn_of _ (by decide +kernel)) ggX7_valueOf_X7_lays
set_option maxRecDepth 20000 in
theorem ggX7_valueOf_X7_manyIn : GoodIn wsX7_valueOf wsX7_manyIn := goodIn_r _ [73, 39, 3, 77, 78, 79, 80, 81, 82, 83, 84, 85, 86, 87, 88, 89, 90, 91, 92, 93, 94, 95, 96, 97, 98, 99, 100, 101, 102] (by decide +kernel) (by decide +kernel)
set_option maxRecDepth 20000 in
theorem gX7_valueOf_X7_manyIn : GoodIn wsX7_valueOf (wsV RX7 232 RX7 yX7_manyIn wsX7_manyIn) := goodIn_app (goodIn_of _ (by decide +kernel)) ggX7_valueOf_X7_manyIn
set_option maxRecDepth 20000 in
theorem ggX7_valueOf_X7_isIn : GoodIn wsX7_valueOf wsX7_isIn := goodIn_r _ [76] (by decide +kernel) (by decide +kernel)
set_option maxRecDepth 20000 in
theorem gX7_valueOf_X7_isIn : GoodIn wsX7_valueOf (va_wsS RX7 69 yX7_isIn wsX7_isIn) := goodIn_app (goodIn_of _ (by decide +kernel)) ggX7_valueOf_X7_isIn
set_option maxRecDepth 20000 in
theorem ggX7_state_X7_isIn : GoodIn wsX7_state wsX7_isIn := goodIn_r _ [5] (by decide +kernel) (by decide +kernel)
set_option maxRecDepth 20000 in
theorem gX7_state_X7_isIn : GoodIn wsX7_state (va_wsS RX7 69 yX7_isIn wsX7_isIn) := goodIn_app (goodIn_of _ (by decide +kernel)) ggX7_state_X7_isIn
set_option maxRecDepth 20000 in
theorem ggX7_state_X7_right : GoodIn wsX7_state wsX7_right := goodIn_r _ [9, 1, 99, 100, 101, 102, 103, 104, 105, 106, 107, 108, 109, 110, 111, 112, 113, 114, 115, 116, 117, 118, 119, 120, 121, 122, 123, 124] (by decide +kernel) (by decide +kernel)
set_option maxRecDepth 20000 in
theorem gX7_state_X7_right : GoodIn wsX7_state (wsV RX7 214 RX7 yX7_right wsX7_right) := goodIn_app (goodIn_of _ (by decide +kernel)) ggX7_state_X7_right
set_option maxRecDepth 20000 in
theorem ggX7_state_X7_toldOf : GoodIn wsX7_state wsX7_toldOf := goodIn_r _ [13, 14, 15, 16, 17, 4, 18, 19, 20, 21, 22, 23, 24, 25, 26, 27, 28, 29, 30, 31, 32, 33, 34, 35, 36, 37, 38, 39, 40, 41, 42, 43, 44, 45, 46, 47, 48, 49, 50, 51, 52, 53, 54, 55, 56, 57, 58, 59, 60, 61, 62, 63, 64, 65, 66, 67, 68, 69, 70, 71, 72, 73, 74, 75, 76, 77, 78, 79, 80, 81, 82, 83, 84, 85, 86, 87, 88, 89, 90, 91, 92, 93, 94, 95, 96, 97, 98, 99, 100, 101, 102, 103, 104, 105, 106, 107, 108, 109, 110, 111, 112, 113, 114, 115, 116, 117, 118, 119, 120, 121, 122, 123, 124] (by decide +kernel) (by decide +kernel)
set_option maxRecDepth 20000 in
theorem gX7_state_X7_toldOf : GoodIn wsX7_state (wsV RX7 235 RX7 yX7_toldOf wsX7_toldOf) := goodIn_app (goodIn_of _ (by decide +kernel)) ggX7_state_X7_toldOf
set_option maxRecDepth 20000 in
theorem ggX7_version_X7_isVersion : GoodIn wsX7_version wsX7_isVersion := goodIn_r _ [6, 7, 8, 9, 5, 10, 11, 12, 13, 14, 15, 16, 17, 18, 19, 85, 86, 87, 88, 89, 90, 91, 92, 93, 94, 95, 96, 97, 98, 99, 100, 101, 102, 103, 104, 105, 106, 107, 108, 109, 110] (by decide +kernel) (by decide +kernel)
set_option maxRecDepth 20000 in
theorem gX7_version_X7_isVersion : GoodIn wsX7_version (wsV RX7 238 RX7 yX7_isVersion wsX7_isVersion) := goodIn_app (goodIn_of _ (by decide +kernel)) ggX7_version_X7_isVersion
set_option maxRecDepth 20000 in
theorem ggX7_version_X7_right : GoodIn wsX7_version wsX7_right := goodIn_r _ [23, 1, 85, 86, 87, 88, 89, 90, 91, 92, 93, 94, 95, 96, 97, 98, 99, 100, 101, 102, 103, 104, 105, 106, 107, 108, 109, 110] (by decide +kernel) (by decide +kernel)
set_option maxRecDepth 20000 in
theorem gX7_version_X7_right : GoodIn wsX7_version (wsV RX7 214 RX7 yX7_right wsX7_right) := goodIn_app (goodIn_of _ (by decide +kernel)) ggX7_version_X7_right
set_option maxRecDepth 20000 in
theorem ggX7_version_X7_isIn : GoodIn wsX7_version wsX7_isIn := goodIn_r _ [19] (by decide +kernel) (by decide +kernel)
set_option maxRecDepth 20000 in
theorem gX7_version_X7_isIn : GoodIn wsX7_version (va_wsS RX7 69 yX7_isIn wsX7_isIn) := goodIn_app (goodIn_of _ (by decide +kernel)) ggX7_version_X7_isIn
set_option maxRecDepth 20000 in
theorem ggX7_version_X7_toldOfVersion : GoodIn wsX7_version wsX7_toldOfVersion := goodIn_r _ [27, 28, 29, 30, 31, 32, 33, 34, 35, 5, 36, 37, 38, 39, 40, 41, 42, 43, 44, 45, 46, 11, 12, 13, 14, 15, 16, 47, 48, 49, 50, 51, 52, 53, 54, 55, 56, 57, 58, 59, 60, 61, 62, 63, 64, 65, 66, 67, 68, 69, 70, 71, 72, 73, 74, 75, 76, 77, 78, 79, 80, 81, 82, 83, 84, 7, 8, 9, 10, 85, 86, 87, 88, 89, 90, 91, 92, 93, 94, 95, 96, 97, 98, 99, 100, 101, 102, 103, 104, 105, 106, 107, 108, 109, 110] (by decide +kernel) (by decide +kernel)
set_option maxRecDepth 20000 in
theorem gX7_version_X7_toldOfVersion : GoodIn wsX7_version (wsV RX7 241 RX7 yX7_toldOfVersion wsX7_toldOfVersion) := goodIn_app (goodIn_of _ (by decide +kernel)) ggX7_version_X7_toldOfVersion
set_option maxRecDepth 20000 in
theorem ggX7_value_X7_isVersion : GoodIn wsX7_value wsX7_isVersion := goodIn_r _ [6, 7, 8, 9, 5, 10, 11, 12, 13, 14, 15, 16, 17, 18, 19, 94, 95, 96, 97, 98, 99, 100, 101, 102, 103, 104, 105, 106, 107, 108, 109, 110, 111, 112, 113, 114, 115, 116, 117, 118, 119] (by decide +kernel) (by decide +kernel)
set_option maxRecDepth 20000 in
theorem gX7_value_X7_isVersion : GoodIn wsX7_value (wsV RX7 238 RX7 yX7_isVersion wsX7_isVersion) := goodIn_app (goodIn_of _ (by decide +kernel)) ggX7_value_X7_isVersion
set_option maxRecDepth 20000 in
theorem ggX7_value_X7_right : GoodIn wsX7_value wsX7_right := goodIn_r _ [23, 1, 94, 95, 96, 97, 98, 99, 100, 101, 102, 103, 104, 105, 106, 107, 108, 109, 110, 111, 112, 113, 114, 115, 116, 117, 118, 119] (by decide +kernel) (by decide +kernel)
set_option maxRecDepth 20000 in
theorem gX7_value_X7_right : GoodIn wsX7_value (wsV RX7 214 RX7 yX7_right wsX7_right) := goodIn_app (goodIn_of _ (by decide +kernel)) ggX7_value_X7_right
set_option maxRecDepth 20000 in
theorem ggX7_value_X7_isIn : GoodIn wsX7_value wsX7_isIn := goodIn_r _ [19] (by decide +kernel) (by decide +kernel)
set_option maxRecDepth 20000 in
theorem gX7_value_X7_isIn : GoodIn wsX7_value (va_wsS RX7 69 yX7_isIn wsX7_isIn) := goodIn_app (goodIn_of _ (by decide +kernel)) ggX7_value_X7_isIn
set_option maxRecDepth 20000 in
theorem ggX7_value_X7_valueOf : GoodIn wsX7_value wsX7_valueOf := goodIn_r _ [27, 28, 29, 30, 31, 32, 33, 5, 34, 35, 36, 37, 38, 39, 40, 41, 42, 43, 44, 45, 46, 47, 48, 11, 12, 13, 14, 15, 16, 49, 50, 51, 52, 53, 54, 55, 56, 57, 58, 59, 60, 61, 62, 63, 64, 65, 66, 67, 68, 69, 70, 71, 72, 73, 74, 75, 76, 77, 78, 79, 80, 81, 82, 83, 84, 85, 86, 87, 88, 89, 90, 91, 92, 93, 17, 18, 19, 94, 95, 96, 97, 98, 99, 100, 101, 102, 103, 104, 105, 106, 107, 108, 109, 110, 111, 112, 113, 114, 115, 116, 117, 118, 119] (by decide +kernel) (by decide +kernel)
set_option maxRecDepth 20000 in
theorem gX7_value_X7_valueOf : GoodIn wsX7_value (wsV RX7 244 RX7 yX7_valueOf wsX7_valueOf) := goodIn_app (goodIn_of _ (by decide +kernel)) ggX7_value_X7_valueOf
set_option maxRecDepth 20000 in
theorem ggX7_first_X7_isVersion : GoodIn wsX7_first wsX7_isVersion := goodIn_r _ [7, 8, 9, 10, 6, 11, 12, 13, 14, 15, 16, 17, 18, 19, 20, 43, 44, 45, 46, 47, 48, 49, 50, 51, 52, 53, 54, 55, 56, 57, 58, 59, 60, 61, 62, 63, 64, 65, 66, 67, 68] (by decide +kernel) (by decide +kernel)
set_option maxRecDepth 20000 in
theorem gX7_first_X7_isVersion : GoodIn wsX7_first (wsV RX7 238 RX7 yX7_isVersion wsX7_isVersion) := goodIn_app (goodIn_of _ (by decide +kernel)) ggX7_first_X7_isVersion
set_option maxRecDepth 20000 in
theorem ggX7_first_X7_right : GoodIn wsX7_first wsX7_right := goodIn_r _ [24, 1, 43, 44, 45, 46, 47, 48, 49, 50, 51, 52, 53, 54, 55, 56, 57, 58, 59, 60, 61, 62, 63, 64, 65, 66, 67, 68] (by decide +kernel) (by decide +kernel)
set_option maxRecDepth 20000 in
theorem gX7_first_X7_right : GoodIn wsX7_first (wsV RX7 214 RX7 yX7_right wsX7_right) := goodIn_app (goodIn_of _ (by decide +kernel)) ggX7_first_X7_right
set_option maxRecDepth 20000 in
theorem ggX7_first_X7_length : GoodIn wsX7_first wsX7_length := goodIn_r _ [28, 2, 29, 30, 31, 6, 32, 33, 34, 35, 36, 37, 38, 39, 40, 41, 42, 12, 13, 14, 15, 16, 17, 43, 44, 45, 46, 47, 48, 49, 50, 51, 52, 53, 54, 55, 56, 57, 58, 59, 60, 61, 62, 63, 64, 65, 66, 67, 68] (by decide +kernel) (by decide +kernel)
set_option maxRecDepth 20000 in
theorem gX7_first_X7_length : GoodIn wsX7_first (wsV RX7 128 RX7 yX7_length wsX7_length) := goodIn_app (goodIn_of _ (by decide +kernel)) ggX7_first_X7_length
set_option maxRecDepth 20000 in
theorem ggX7_find_X7_isVersion : GoodIn wsX7_find wsX7_isVersion := goodIn_r _ [7, 8, 9, 10, 6, 11, 12, 13, 14, 15, 16, 17, 18, 19, 20, 43, 44, 45, 46, 47, 48, 49, 50, 51, 52, 53, 54, 55, 56, 57, 58, 59, 60, 61, 62, 63, 64, 65, 66, 67, 68] (by decide +kernel) (by decide +kernel)
set_option maxRecDepth 20000 in
theorem gX7_find_X7_isVersion : GoodIn wsX7_find (wsV RX7 238 RX7 yX7_isVersion wsX7_isVersion) := goodIn_app (goodIn_of _ (by decide +kernel)) ggX7_find_X7_isVersion
set_option maxRecDepth 20000 in
theorem ggX7_find_X7_right : GoodIn wsX7_find wsX7_right := goodIn_r _ [24, 1, 43, 44, 45, 46, 47, 48, 49, 50, 51, 52, 53, 54, 55, 56, 57, 58, 59, 60, 61, 62, 63, 64, 65, 66, 67, 68] (by decide +kernel) (by decide +kernel)
set_option maxRecDepth 20000 in
theorem gX7_find_X7_right : GoodIn wsX7_find (wsV RX7 214 RX7 yX7_right wsX7_right) := goodIn_app (goodIn_of _ (by decide +kernel)) ggX7_find_X7_right
set_option maxRecDepth 20000 in
theorem ggX7_find_X7_length : GoodIn wsX7_find wsX7_length := goodIn_r _ [28, 2, 29, 30, 31, 6, 32, 33, 34, 35, 36, 37, 38, 39, 40, 41, 42, 12, 13, 14, 15, 16, 17, 43, 44, 45, 46, 47, 48, 49, 50, 51, 52, 53, 54, 55, 56, 57, 58, 59, 60, 61, 62, 63, 64, 65, 66, 67, 68] (by decide +kernel) (by decide +kernel)
set_option maxRecDepth 20000 in
theorem gX7_find_X7_length : GoodIn wsX7_find (wsV RX7 128 RX7 yX7_length wsX7_length) := goodIn_app (goodIn_of _ (by decide +kernel)) ggX7_find_X7_length
set_option maxRecDepth 20000 in
theorem ggX7_alike_X7_isVersion : GoodIn wsX7_alike wsX7_isVersion := goodIn_r _ [8, 9, 10, 11, 7, 12, 13, 14, 15, 16, 17, 18, 19, 20, 21, 44, 45, 46, 47, 48, 49, 50, 51, 52, 53, 54, 55, 56, 57, 58, 59, 60, 61, 62, 63, 64, 65, 66, 67, 68, 69] (by decide +kernel) (by decide +kernel)
set_option maxRecDepth 20000 in
theorem gX7_alike_X7_isVersion : GoodIn wsX7_alike (wsV RX7 238 RX7 yX7_isVersion wsX7_isVersion) := goodIn_app (goodIn_of _ (by decide +kernel)) ggX7_alike_X7_isVersion
set_option maxRecDepth 20000 in
theorem ggX7_alike_X7_right : GoodIn wsX7_alike wsX7_right := goodIn_r _ [25, 1, 44, 45, 46, 47, 48, 49, 50, 51, 52, 53, 54, 55, 56, 57, 58, 59, 60, 61, 62, 63, 64, 65, 66, 67, 68, 69] (by decide +kernel) (by decide +kernel)
set_option maxRecDepth 20000 in
theorem gX7_alike_X7_right : GoodIn wsX7_alike (wsV RX7 214 RX7 yX7_right wsX7_right) := goodIn_app (goodIn_of _ (by decide +kernel)) ggX7_alike_X7_right
set_option maxRecDepth 20000 in
theorem ggX7_alike_X7_length : GoodIn wsX7_alike wsX7_length := goodIn_r _ [29, 3, 30, 31, 32, 7, 33, 34, 35, 36, 37, 38, 39, 40, 41, 42, 43, 13, 14, 15, 16, 17, 18, 44, 45, 46, 47, 48, 49, 50, 51, 52, 53, 54, 55, 56, 57, 58, 59, 60, 61, 62, 63, 64, 65, 66, 67, 68, 69] (by decide +kernel) (by decide +kernel)
set_option maxRecDepth 20000 in
theorem gX7_alike_X7_length : GoodIn wsX7_alike (wsV RX7 128 RX7 yX7_length wsX7_length) := goodIn_app (goodIn_of _ (by decide +kernel)) ggX7_alike_X7_length
set_option maxRecDepth 20000 in
theorem ggX7_alike_X7_laysValues : GoodIn wsX7_alike wsX7_laysValues := goodIn_r _ [33, 34, 35, 36, 37, 38, 7, 39, 40, 41, 42, 43, 13, 14, 15, 16, 17, 18, 44, 45, 46, 47, 48, 49, 50, 51, 52, 53, 54, 55, 56, 57, 58, 59, 60, 61, 62, 63, 64, 65, 66, 67, 68, 69] (by decide +kernel) (by decide +kernel)
set_option maxRecDepth 20000 in
theorem gX7_alike_X7_laysValues : GoodIn wsX7_alike (wsV RX7 124 RX7 yX7_laysValues wsX7_laysValues) := goodIn_app (goodIn_of _ (by decide +kernel)) ggX7_alike_X7_laysValues
set_option maxRecDepth 20000 in
theorem ggX7_common_X7_isVersion : GoodIn wsX7_common wsX7_isVersion := goodIn_r _ [6, 7, 8, 9, 5, 10, 11, 12, 13, 14, 15, 16, 17, 18, 19, 28, 29, 30, 31, 32, 33, 34, 35, 36, 37, 38, 39, 40, 41, 42, 43, 44, 45, 46, 47, 48, 49, 50, 51, 52, 53] (by decide +kernel) (by decide +kernel)
set_option maxRecDepth 20000 in
theorem gX7_common_X7_isVersion : GoodIn wsX7_common (wsV RX7 238 RX7 yX7_isVersion wsX7_isVersion) := goodIn_app (goodIn_of _ (by decide +kernel)) ggX7_common_X7_isVersion
set_option maxRecDepth 20000 in
theorem ggX7_common_X7_right : GoodIn wsX7_common wsX7_right := goodIn_r _ [23, 1, 28, 29, 30, 31, 32, 33, 34, 35, 36, 37, 38, 39, 40, 41, 42, 43, 44, 45, 46, 47, 48, 49, 50, 51, 52, 53] (by decide +kernel) (by decide +kernel)
set_option maxRecDepth 20000 in
theorem gX7_common_X7_right : GoodIn wsX7_common (wsV RX7 214 RX7 yX7_right wsX7_right) := goodIn_app (goodIn_of _ (by decide +kernel)) ggX7_common_X7_right
set_option maxRecDepth 20000 in
theorem ggX7_common_X7_of : GoodIn wsX7_common wsX7_of := goodIn_r _ [27, 11, 12, 13, 5, 14, 15, 16, 28, 29, 30, 31, 32, 33, 34, 35, 36, 37, 38, 39, 40, 41, 42, 43, 44, 45, 46, 47, 48, 49, 50, 51, 52, 53] (by decide +kernel) (by decide +kernel)
set_option maxRecDepth 20000 in
theorem gX7_common_X7_of : GoodIn wsX7_common (wsV RX7 105 RX7 yX7_of wsX7_of) := goodIn_app (goodIn_of _ (by decide +kernel)) ggX7_common_X7_of
set_option maxRecDepth 20000 in
theorem ggX7_workOfOther_X7_of : GoodIn wsX7_workOfOther wsX7_of := goodIn_r _ [11, 12, 13, 14, 10, 15, 16, 17, 18, 19, 20, 21, 22, 23, 24, 25, 26, 27, 28, 29, 30, 31, 32, 33, 34, 35, 36, 37, 38, 39, 40, 41, 42, 43] (by decide +kernel) (by decide +kernel)
set_option maxRecDepth 20000 in
theorem gX7_workOfOther_X7_of : GoodIn wsX7_workOfOther (wsV RX7 105 RX7 yX7_of wsX7_of) := goodIn_app (goodIn_of _ (by decide +kernel)) ggX7_workOfOther_X7_of
set_option maxRecDepth 20000 in
theorem ggX7_work_X7_isVersion : GoodIn wsX7_work wsX7_isVersion := goodIn_r _ [12, 13, 14, 15, 11, 16, 17, 18, 19, 20, 21, 22, 23, 24, 25, 42, 43, 44, 45, 46, 47, 48, 49, 50, 51, 52, 53, 54, 55, 56, 57, 58, 59, 60, 61, 62, 63, 64, 65, 66, 67] (by decide +kernel) (by decide +kernel)
set_option maxRecDepth 20000 in
theorem gX7_work_X7_isVersion : GoodIn wsX7_work (wsV RX7 238 RX7 yX7_isVersion wsX7_isVersion) := goodIn_app (goodIn_of _ (by decide +kernel)) ggX7_work_X7_isVersion
set_option maxRecDepth 20000 in
theorem ggX7_work_X7_right : GoodIn wsX7_work wsX7_right := goodIn_r _ [29, 1, 42, 43, 44, 45, 46, 47, 48, 49, 50, 51, 52, 53, 54, 55, 56, 57, 58, 59, 60, 61, 62, 63, 64, 65, 66, 67] (by decide +kernel) (by decide +kernel)
set_option maxRecDepth 20000 in
theorem gX7_work_X7_right : GoodIn wsX7_work (wsV RX7 214 RX7 yX7_right wsX7_right) := goodIn_app (goodIn_of _ (by decide +kernel)) ggX7_work_X7_right
set_option maxRecDepth 20000 in
theorem ggX7_work_X7_isIn : GoodIn wsX7_work wsX7_isIn := goodIn_r _ [25] (by decide +kernel) (by decide +kernel)
set_option maxRecDepth 20000 in
theorem gX7_work_X7_isIn : GoodIn wsX7_work (va_wsS RX7 69 yX7_isIn wsX7_isIn) := goodIn_app (goodIn_of _ (by decide +kernel)) ggX7_work_X7_isIn
set_option maxRecDepth 20000 in
theorem ggX7_work_X7_laysWay : GoodIn wsX7_work wsX7_laysWay := goodIn_r _ [33, 2, 3, 34, 35, 36, 11, 37, 17, 18, 19, 20, 21, 22, 42, 43, 44, 45, 46, 47, 48, 49, 50, 51, 52, 53, 54, 55, 56, 57, 58, 59, 60, 61, 62, 63, 64, 65, 66, 67] (by decide +kernel) (by decide +kernel)
set_option maxRecDepth 20000 in
theorem gX7_work_X7_laysWay : GoodIn wsX7_work (wsV RX7 112 RX7 yX7_laysWay wsX7_laysWay) := goodIn_app (goodIn_of _ (by decide +kernel)) ggX7_work_X7_laysWay
set_option maxRecDepth 20000 in
theorem ggX7_work_X7_workOfOther : GoodIn wsX7_work wsX7_workOfOther := goodIn_r _ [41, 2, 3, 4, 5, 6, 7, 34, 35, 36, 11, 37, 17, 18, 19, 20, 21, 22, 42, 43, 44, 45, 46, 47, 48, 49, 50, 51, 52, 53, 54, 55, 56, 57, 58, 59, 60, 61, 62, 63, 64, 65, 66, 67] (by decide +kernel) (by decide +kernel)
set_option maxRecDepth 20000 in
theorem gX7_work_X7_workOfOther : GoodIn wsX7_work (wsV RX7 248 RX7 yX7_workOfOther wsX7_workOfOther) := goodIn_app (goodIn_of _ (by decide +kernel)) ggX7_work_X7_workOfOther
set_option maxRecDepth 20000 in
theorem ggX7_work_X7_of : GoodIn wsX7_work wsX7_of := goodIn_r _ [37, 17, 18, 19, 11, 20, 21, 22, 42, 43, 44, 45, 46, 47, 48, 49, 50, 51, 52, 53, 54, 55, 56, 57, 58, 59, 60, 61, 62, 63, 64, 65, 66, 67] (by decide +kernel) (by decide +kernel)
set_option maxRecDepth 20000 in
theorem gX7_work_X7_of : GoodIn wsX7_work (wsV RX7 105 RX7 yX7_of wsX7_of) := goodIn_app (goodIn_of _ (by decide +kernel)) ggX7_work_X7_of
set_option maxRecDepth 20000 in
theorem ggX7_idleIn_X7_isVersion : GoodIn wsX7_idleIn wsX7_isVersion := goodIn_r _ [7, 8, 9, 10, 6, 11, 12, 13, 14, 15, 16, 17, 18, 19, 20, 86, 87, 88, 89, 90, 91, 92, 93, 94, 95, 96, 97, 98, 99, 100, 101, 102, 103, 104, 105, 106, 107, 108, 109, 110, 111] (by decide +kernel) (by decide +kernel)
set_option maxRecDepth 20000 in
theorem gX7_idleIn_X7_isVersion : GoodIn wsX7_idleIn (wsV RX7 238 RX7 yX7_isVersion wsX7_isVersion) := goodIn_app (goodIn_of _ (by decide +kernel)) ggX7_idleIn_X7_isVersion
set_option maxRecDepth 20000 in
theorem ggX7_idleIn_X7_right : GoodIn wsX7_idleIn wsX7_right := goodIn_r _ [24, 1, 86, 87, 88, 89, 90, 91, 92, 93, 94, 95, 96, 97, 98, 99, 100, 101, 102, 103, 104, 105, 106, 107, 108, 109, 110, 111] (by decide +kernel) (by decide +kernel)
set_option maxRecDepth 20000 in
theorem gX7_idleIn_X7_right : GoodIn wsX7_idleIn (wsV RX7 214 RX7 yX7_right wsX7_right) := goodIn_app (goodIn_of _ (by decide +kernel)) ggX7_idleIn_X7_right
