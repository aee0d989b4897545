set_option maxRecDepth 20000 in
theorem ggX3_read_X3_readToken : GoodIn wsX3_read wsX3_readToken := goodIn_r _ [17, 10, 6, 1, 18, 12, 19, 20, 16, 21, 22, 23, 24, 25, 26, 2, 3, 4, 5, 27, 28, 29, 30, 31, 32, 33, 34, 35, 36, 37, 38, 39, 40, 41, 42, 43, 44, 45, 46, 47, 48, 49, 50, 51, 52, 53, 54, 55, 56, 57, 58, 59, 60, 61, 62, 63, 64, 65, 66, 67, 68, 69, 70, 71, 72, 73, 74, 75, 76, 77, 78, 79, 80, 81, 82, 83, 84, 85, 86, 218, 219, 220, 221, 222, 223, 224, 225, 226, 227] rfl (by decide +kernel)
set_option maxRecDepth 20000 in
theorem gX3_read_X3_readToken : GoodIn wsX3_read (wsV RX3 51 RX3 yX3_readToken wsX3_readToken) := goodIn_app (goodIn_of _ (by decide +kernel)) ggX3_read_X3_readToken
set_option maxRecDepth 20000 in
theorem ggX3_read_X3_pass : GoodIn wsX3_read wsX3_pass := goodIn_r _ [90, 12, 91, 92, 93, 16, 94, 8, 18, 9, 13, 14, 15, 17, 10, 6, 1, 19, 20, 21, 22, 23, 24, 25, 26, 2, 3, 4, 5, 27, 28, 29, 30, 31, 32, 33, 34, 35, 36, 37, 38, 39, 40, 41, 42, 43, 44, 45, 46, 47, 48, 49, 50, 51, 52, 53, 54, 55, 56, 57, 58, 59, 60, 61, 62, 63, 64, 65, 66, 67, 68, 69, 70, 71, 72, 73, 74, 75, 76, 77, 78, 79, 80, 81, 82, 83, 84, 85, 86, 218, 219, 220, 221, 222, 223, 224, 225, 226, 227] rfl (by decide +kernel)
set_option maxRecDepth 20000 in
theorem gX3_read_X3_pass : GoodIn wsX3_read (wsV RX3 54 RX3 yX3_pass wsX3_pass) := goodIn_app (goodIn_of _ (by decide +kernel)) ggX3_read_X3_pass
set_option maxRecDepth 20000 in
theorem ggX3_read_X3_readPush : GoodIn wsX3_read wsX3_readPush := goodIn_r _ [98, 11, 7, 99, 26, 12, 13, 14, 15, 16, 17, 10, 6, 1, 18, 19, 20, 21, 22, 23, 24, 25, 2, 3, 4, 5, 27, 28, 29, 30, 31, 32, 33, 34, 35, 36, 37, 38, 39, 40, 41, 42, 43, 44, 45, 46, 47, 48, 49, 50, 51, 52, 53, 54, 55, 56, 57, 58, 59, 60, 61, 62, 63, 64, 65, 66, 67, 68, 69, 70, 71, 72, 73, 74, 75, 76, 77, 78, 79, 80, 81, 82, 83, 84, 85, 86, 100, 101, 102, 103, 91, 92, 93, 94, 8, 9, 104, 105, 106, 107, 108, 109, 110, 111, 112, 113, 114, 115, 116, 117, 118, 119, 120, 121, 122, 123, 124, 125, 126, 127, 128, 129, 130, 131, 132, 133, 134, 135, 136, 137, 138, 139, 140, 141, 142, 143, 144, 145, 146, 147, 148, 149, 150, 151, 152, 153, 154, 155, 156, 157, 158, 159, 160, 161, 162, 163, 164, 165, 166, 167, 168, 169, 170, 171, 172, 173, 174, 175, 176, 177, 178, 179, 180, 181, 182, 183, 184, 185, 186, 187, 218, 219, 220, 221, 222, 223, 224, 225, 226, 227, 228, 229, 230, 231, 232, 233, 234, 235, 236, 237, 238, 239, 240, 241, 242, 243, 244, 245, 246, 247, 248] rfl (by decide +kernel)
set_option maxRecDepth 20000 in
theorem gX3_read_X3_readPush : GoodIn wsX3_read (wsV RX3 58 RX3 yX3_readPush wsX3_readPush) := goodIn_app (goodIn_of _ (by decide +kernel)) ggX3_read_X3_readPush
set_option maxRecDepth 20000 in
theorem ggX3_read_X3_readPop : GoodIn wsX3_read wsX3_readPop := goodIn_r _ [191, 11, 7, 99, 26, 192, 13, 14, 15, 16, 17, 10, 6, 1, 18, 12, 19, 20, 21, 22, 23, 24, 25, 2, 3, 4, 5, 27, 28, 29, 30, 31, 32, 33, 34, 35, 36, 37, 38, 39, 40, 41, 42, 43, 44, 45, 46, 47, 48, 49, 50, 51, 52, 53, 54, 55, 56, 57, 58, 59, 60, 61, 62, 63, 64, 65, 66, 67, 68, 69, 70, 71, 72, 73, 74, 75, 76, 77, 78, 79, 80, 81, 82, 83, 84, 85, 86, 100, 101, 102, 103, 91, 92, 93, 94, 8, 9, 193, 194, 195, 111, 196, 126, 127, 197, 198, 199, 107, 200, 109, 110, 112, 113, 114, 115, 116, 117, 118, 119, 120, 121, 122, 123, 124, 125, 128, 129, 130, 131, 132, 133, 134, 135, 136, 137, 138, 139, 140, 141, 142, 143, 144, 201, 202, 203, 204, 205, 206, 151, 207, 157, 208, 209, 210, 211, 212, 175, 176, 177, 178, 158, 159, 160, 161, 162, 163, 164, 165, 166, 167, 168, 169, 170, 171, 150, 172, 173, 174, 153, 154, 155, 156, 179, 180, 181, 182, 183, 184, 185, 186, 187, 218, 219, 220, 221, 222, 223, 224, 225, 226, 227, 228, 229, 230, 231, 232, 233, 234, 235, 236, 237, 238, 239, 240, 241, 242, 243, 244, 245, 246, 247, 248] rfl (by decide +kernel)
set_option maxRecDepth 20000 in
theorem gX3_read_X3_readPop : GoodIn wsX3_read (wsV RX3 62 RX3 yX3_readPop wsX3_readPop) := goodIn_app (goodIn_of _ (by decide +kernel)) ggX3_read_X3_readPop
set_option maxRecDepth 20000 in
theorem ggX3_read_X3_readPace : GoodIn wsX3_read wsX3_readPace := goodIn_r _ [216, 11, 7, 26, 217, 13, 14, 15, 16, 17, 10, 6, 1, 18, 12, 19, 20, 21, 22, 23, 24, 25, 2, 3, 4, 5, 27, 28, 29, 30, 31, 32, 33, 34, 35, 36, 37, 38, 39, 40, 41, 42, 43, 44, 45, 46, 47, 48, 49, 50, 51, 52, 53, 54, 55, 56, 57, 58, 59, 60, 61, 62, 63, 64, 65, 66, 67, 68, 69, 70, 71, 72, 73, 74, 75, 76, 77, 78, 79, 80, 81, 82, 83, 84, 85, 86, 100, 101, 102, 103, 91, 92, 93, 94, 8, 9, 218, 219, 220, 221, 222, 223, 224, 225, 226, 227, 228, 229, 230, 231] rfl (by decide +kernel)
set_option maxRecDepth 20000 in
theorem gX3_read_X3_readPace : GoodIn wsX3_read (wsV RX3 65 RX3 yX3_readPace wsX3_readPace) := goodIn_app (goodIn_of _ (by decide +kernel)) ggX3_read_X3_readPace
set_option maxRecDepth 20000 in
theorem ggX3_read_X3_fail : GoodIn wsX3_read wsX3_fail := goodIn_r _ [94, 8, 18, 9, 218, 219, 220, 221, 222, 223, 224, 225, 226, 227] rfl (by decide +kernel)
set_option maxRecDepth 20000 in
theorem gX3_read_X3_fail : GoodIn wsX3_read (wsV RX3 68 RX3 yX3_fail wsX3_fail) := goodIn_app (goodIn_of _ (by decide +kernel)) ggX3_read_X3_fail
set_option maxRecDepth 20000 in
theorem ggX3_readPush_X3_readToken : GoodIn wsX3_readPush wsX3_readToken := goodIn_r _ [10, 11, 12, 13, 14, 5, 15, 16, 9, 17, 18, 19, 20, 21, 4, 22, 23, 24, 25, 26, 27, 28, 29, 30, 31, 32, 33, 34, 35, 36, 37, 38, 39, 40, 41, 42, 43, 44, 45, 46, 47, 48, 49, 50, 51, 52, 53, 54, 55, 56, 57, 58, 59, 60, 61, 62, 63, 64, 65, 66, 67, 68, 69, 70, 71, 72, 73, 74, 75, 76, 77, 78, 79, 80, 81, 82, 83, 84, 85, 180, 181, 182, 183, 184, 185, 186, 187, 188, 189] rfl (by decide +kernel)
set_option maxRecDepth 20000 in
theorem gX3_readPush_X3_readToken : GoodIn wsX3_readPush (wsV RX3 51 RX3 yX3_readToken wsX3_readToken) := goodIn_app (goodIn_of _ (by decide +kernel)) ggX3_readPush_X3_readToken
set_option maxRecDepth 20000 in
theorem ggX3_readPush_X3_seeNumber : GoodIn wsX3_readPush wsX3_seeNumber := goodIn_r _ [89, 5, 4, 90, 91, 92, 9, 93, 94, 14, 95, 180, 181, 182, 183, 184, 185, 186, 187, 188, 189] rfl (by decide +kernel)
set_option maxRecDepth 20000 in
theorem gX3_readPush_X3_seeNumber : GoodIn wsX3_readPush (wsV RX3 76 RX3 yX3_seeNumber wsX3_seeNumber) := goodIn_app (goodIn_of _ (by decide +kernel)) ggX3_readPush_X3_seeNumber
set_option maxRecDepth 20000 in
theorem ggX3_readPush_X3_fail : GoodIn wsX3_readPush wsX3_fail := goodIn_r _ [93, 94, 14, 95, 180, 181, 182, 183, 184, 185, 186, 187, 188, 189] rfl (by decide +kernel)
set_option maxRecDepth 20000 in
theorem gX3_readPush_X3_fail : GoodIn wsX3_readPush (wsV RX3 68 RX3 yX3_fail wsX3_fail) := goodIn_app (goodIn_of _ (by decide +kernel)) ggX3_readPush_X3_fail
set_option maxRecDepth 20000 in
theorem ggX3_readPush_X0_makeByPush : GoodIn wsX3_readPush wsX0_makeByPush := goodIn_r _ [100, 101, 102, 103, 104, 105, 106, 107, 108, 109, 110, 111, 112, 113, 114, 115, 116, 117, 118, 119, 120, 121, 122, 123, 124, 125, 126, 127, 128, 129, 130, 131, 132, 133, 134, 135, 136, 137, 138, 139, 140, 141, 142, 143, 144, 145, 146, 147, 148, 149, 150, 151, 152, 153, 154, 155, 156, 157, 158, 159, 160, 161, 162, 163, 164, 165, 166, 167, 168, 169, 170, 171, 172, 173, 174, 175, 176, 177, 99, 178, 179, 194, 195, 196, 197, 198, 199, 200, 201, 202, 190, 191, 192, 193, 203, 204, 205, 206, 207, 208, 209, 210] rfl (by decide +kernel)
set_option maxRecDepth 20000 in
theorem gX3_readPush_X0_makeByPush : GoodIn wsX3_readPush (wsV RX3 80 RX0 yX0_makeByPush wsX0_makeByPush) := goodIn_app (goodIn_of _ (by decide +kernel)) ggX3_readPush_X0_makeByPush
set_option maxRecDepth 20000 in
theorem ggX3_readPop_X3_readToken : GoodIn wsX3_readPop wsX3_readToken := goodIn_r _ [10, 11, 12, 13, 14, 15, 16, 17, 9, 18, 19, 20, 21, 22, 4, 23, 24, 25, 26, 27, 28, 29, 30, 31, 32, 33, 34, 35, 36, 37, 38, 39, 40, 41, 42, 43, 44, 45, 46, 47, 48, 49, 50, 51, 52, 53, 54, 55, 56, 57, 58, 59, 60, 61, 62, 63, 64, 65, 66, 67, 68, 69, 70, 71, 72, 73, 74, 75, 76, 77, 78, 79, 80, 81, 82, 83, 84, 85, 86, 191, 192, 193, 194, 195, 196, 197, 198, 199, 200] rfl (by decide +kernel)
set_option maxRecDepth 20000 in
theorem gX3_readPop_X3_readToken : GoodIn wsX3_readPop (wsV RX3 51 RX3 yX3_readToken wsX3_readToken) := goodIn_app (goodIn_of _ (by decide +kernel)) ggX3_readPop_X3_readToken
set_option maxRecDepth 20000 in
theorem ggX3_readPop_X3_seeNumber : GoodIn wsX3_readPop wsX3_seeNumber := goodIn_r _ [90, 15, 4, 91, 92, 93, 9, 94, 95, 14, 96, 191, 192, 193, 194, 195, 196, 197, 198, 199, 200] rfl (by decide +kernel)
set_option maxRecDepth 20000 in
theorem gX3_readPop_X3_seeNumber : GoodIn wsX3_readPop (wsV RX3 76 RX3 yX3_seeNumber wsX3_seeNumber) := goodIn_app (goodIn_of _ (by decide +kernel)) ggX3_readPop_X3_seeNumber
set_option maxRecDepth 20000 in
theorem ggX3_readPop_X3_fail : GoodIn wsX3_readPop wsX3_fail := goodIn_r _ [94, 95, 14, 96, 191, 192, 193, 194, 195, 196, 197, 198, 199, 200] rfl (by decide +kernel)
set_option maxRecDepth 20000 in
theorem gX3_readPop_X3_fail : GoodIn wsX3_readPop (wsV RX3 68 RX3 yX3_fail wsX3_fail) := goodIn_app (goodIn_of _ (by decide +kernel)) ggX3_readPop_X3_fail
set_option maxRecDepth 20000 in
theorem ggX3_readPop_X5_length : GoodIn wsX3_readPop wsX5_length := goodIn_r _ [101, 102, 103, 205, 206, 207, 208, 209, 210, 211, 212, 213] rfl (by decide +kernel)
set_option maxRecDepth 20000 in
theorem gX3_readPop_X5_length : GoodIn wsX3_readPop (wsV RX3 87 RX5 yX5_length wsX5_length) := goodIn_app (goodIn_of _ (by decide +kernel)) ggX3_readPop_X5_length
set_option maxRecDepth 20000 in
theorem ggX3_readPop_X0_makeByPop : GoodIn wsX3_readPop wsX0_makeByPop := goodIn_r _ [108, 109, 110, 100, 111, 112, 113, 114, 115, 116, 117, 118, 119, 120, 121, 122, 123, 124, 102, 103, 125, 126, 127, 128, 129, 130, 131, 132, 133, 134, 135, 136, 137, 138, 139, 140, 141, 142, 143, 144, 145, 146, 147, 148, 149, 150, 151, 152, 153, 154, 155, 156, 157, 158, 159, 160, 161, 162, 163, 164, 165, 166, 167, 168, 169, 170, 171, 172, 173, 174, 175, 176, 177, 178, 179, 180, 181, 182, 183, 184, 185, 186, 187, 188, 107, 189, 190, 205, 206, 207, 208, 209, 210, 211, 212, 213, 201, 202, 203, 204, 214, 215, 216, 217, 218, 219, 220, 221] rfl (by decide +kernel)
set_option maxRecDepth 20000 in
theorem gX3_readPop_X0_makeByPop : GoodIn wsX3_readPop (wsV RX3 92 RX0 yX0_makeByPop wsX0_makeByPop) := goodIn_app (goodIn_of _ (by decide +kernel)) ggX3_readPop_X0_makeByPop
set_option maxRecDepth 20000 in
theorem ggX3_readPace_X3_readToken : GoodIn wsX3_readPace wsX3_readToken := goodIn_r _ [9, 10, 11, 12, 13, 14, 15, 16, 8, 17, 18, 19, 20, 21, 3, 22, 23, 24, 25, 26, 27, 28, 29, 30, 31, 32, 33, 34, 35, 36, 37, 38, 39, 40, 41, 42, 43, 44, 45, 46, 47, 48, 49, 50, 51, 52, 53, 54, 55, 56, 57, 58, 59, 60, 61, 62, 63, 64, 65, 66, 67, 68, 69, 70, 71, 72, 73, 74, 75, 76, 77, 78, 79, 80, 81, 82, 83, 84, 85, 96, 97, 98, 99, 100, 101, 102, 103, 104, 105] rfl (by decide +kernel)
set_option maxRecDepth 20000 in
theorem gX3_readPace_X3_readToken : GoodIn wsX3_readPace (wsV RX3 51 RX3 yX3_readToken wsX3_readToken) := goodIn_app (goodIn_of _ (by decide +kernel)) ggX3_readPace_X3_readToken
set_option maxRecDepth 20000 in
theorem ggX3_readPace_X3_seeNumber : GoodIn wsX3_readPace wsX3_seeNumber := goodIn_r _ [89, 14, 3, 90, 91, 92, 8, 93, 94, 13, 95, 96, 97, 98, 99, 100, 101, 102, 103, 104, 105] rfl (by decide +kernel)
set_option maxRecDepth 20000 in
theorem gX3_readPace_X3_seeNumber : GoodIn wsX3_readPace (wsV RX3 76 RX3 yX3_seeNumber wsX3_seeNumber) := goodIn_app (goodIn_of _ (by decide +kernel)) ggX3_readPace_X3_seeNumber
set_option maxRecDepth 20000 in
theorem ggX3_pass_X3_fail : GoodIn wsX3_pass wsX3_fail := goodIn_r _ [6, 7, 8, 9, 89, 90, 91, 92, 93, 94, 95, 96, 97, 98] rfl (by decide +kernel)
set_option maxRecDepth 20000 in
theorem gX3_pass_X3_fail : GoodIn wsX3_pass (wsV RX3 68 RX3 yX3_fail wsX3_fail) := goodIn_app (goodIn_of _ (by decide +kernel)) ggX3_pass_X3_fail
set_option maxRecDepth 20000 in
theorem ggX3_pass_X3_readToken : GoodIn wsX3_pass wsX3_readToken := goodIn_r _ [13, 14, 15, 16, 8, 1, 17, 18, 5, 19, 20, 21, 22, 23, 24, 25, 26, 27, 28, 29, 30, 31, 32, 33, 34, 35, 36, 37, 38, 39, 40, 41, 42, 43, 44, 45, 46, 47, 48, 49, 50, 51, 52, 53, 54, 55, 56, 57, 58, 59, 60, 61, 62, 63, 64, 65, 66, 67, 68, 69, 70, 71, 72, 73, 74, 75, 76, 77, 78, 79, 80, 81, 82, 83, 84, 85, 86, 87, 88, 89, 90, 91, 92, 93, 94, 95, 96, 97, 98] rfl (by decide +kernel)
set_option maxRecDepth 20000 in
theorem gX3_pass_X3_readToken : GoodIn wsX3_pass (wsV RX3 51 RX3 yX3_readToken wsX3_readToken) := goodIn_app (goodIn_of _ (by decide +kernel)) ggX3_pass_X3_readToken
set_option maxRecDepth 20000 in
theorem ggX3_seeNumber_X3_fail : GoodIn wsX3_seeNumber wsX3_fail := goodIn_r _ [7, 8, 9, 10, 11, 12, 13, 14, 15, 16, 17, 18, 19, 20] rfl (by decide +kernel)
set_option maxRecDepth 20000 in
theorem gX3_seeNumber_X3_fail : GoodIn wsX3_seeNumber (wsV RX3 68 RX3 yX3_fail wsX3_fail) := goodIn_app (goodIn_of _ (by decide +kernel)) ggX3_seeNumber_X3_fail
set_option maxRecDepth 20000 in
theorem ggX3_readToken_X3_isDigit : GoodIn wsX3_readToken wsX3_isDigit := goodIn_r _ [9] rfl (by decide +kernel)
set_option maxRecDepth 20000 in
theorem gX3_readToken_X3_isDigit : GoodIn wsX3_readToken (va_wsS RX3 99 yX3_isDigit wsX3_isDigit) := goodIn_app (goodIn_of _ (by decide +kernel)) ggX3_readToken_X3_isDigit
set_option maxRecDepth 20000 in
theorem ggX3_readToken_X3_readNumber : GoodIn wsX3_readToken wsX3_readNumber := goodIn_r _ [13, 5, 14, 1, 2, 3, 15, 16, 17, 18, 6, 7, 8, 9, 79, 80, 81, 82, 83, 84, 85, 86, 87, 88] rfl (by decide +kernel)
set_option maxRecDepth 20000 in
theorem gX3_readToken_X3_readNumber : GoodIn wsX3_readToken (wsV RX3 103 RX3 yX3_readNumber wsX3_readNumber) := goodIn_app (goodIn_of _ (by decide +kernel)) ggX3_readToken_X3_readNumber
set_option maxRecDepth 20000 in
theorem ggX3_readToken_X3_isLetter : GoodIn wsX3_readToken wsX3_isLetter := goodIn_r _ [21] rfl (by decide +kernel)
set_option maxRecDepth 20000 in
theorem gX3_readToken_X3_isLetter : GoodIn wsX3_readToken (va_wsS RX3 106 yX3_isLetter wsX3_isLetter) := goodIn_app (goodIn_of _ (by decide +kernel)) ggX3_readToken_X3_isLetter
set_option maxRecDepth 20000 in
theorem ggX3_readToken_X3_readWord : GoodIn wsX3_readToken wsX3_readWord := goodIn_r _ [25, 1, 2, 3, 5, 19, 20, 8, 21, 26, 27, 28, 29, 4, 30, 31, 32, 33, 34, 35, 36, 37, 38, 39, 40, 41, 42, 43, 44, 45, 46, 47, 48, 49, 50, 51, 52, 53, 54, 55, 56, 57, 58, 59, 60, 61, 62, 63, 64, 65, 66, 67, 68, 69, 70, 71, 72, 73, 74, 75, 76, 77, 78, 79, 80, 81, 82, 83, 84, 85, 86, 87, 88] rfl (by decide +kernel)
set_option maxRecDepth 20000 in
theorem gX3_readToken_X3_readWord : GoodIn wsX3_readToken (wsV RX3 109 RX3 yX3_readWord wsX3_readWord) := goodIn_app (goodIn_of _ (by decide +kernel)) ggX3_readToken_X3_readWord
set_option maxRecDepth 20000 in
theorem ggX3_readNumber_X3_isDigit : GoodIn wsX3_readNumber wsX3_isDigit := goodIn_r _ [13] rfl (by decide +kernel)
set_option maxRecDepth 20000 in
theorem gX3_readNumber_X3_isDigit : GoodIn wsX3_readNumber (va_wsS RX3 99 yX3_isDigit wsX3_isDigit) := goodIn_app (goodIn_of _ (by decide +kernel)) ggX3_readNumber_X3_isDigit
set_option maxRecDepth 20000 in
theorem ggX3_readWord_X3_isLetter : GoodIn wsX3_readWord wsX3_isLetter := goodIn_r _ [8] rfl (by decide +kernel)
set_option maxRecDepth 20000 in
theorem gX3_readWord_X3_isLetter : GoodIn wsX3_readWord (va_wsS RX3 106 yX3_isLetter wsX3_isLetter) := goodIn_app (goodIn_of _ (by decide +kernel)) ggX3_readWord_X3_isLetter
set_option maxRecDepth 20000 in
theorem ggX3_readWord_X3_isWord : GoodIn wsX3_readWord wsX3_isWord := goodIn_r _ [12, 1, 13, 3, 14, 15, 16, 17, 18, 19, 20, 21, 22, 23, 24, 25, 26, 27, 28, 29, 30, 31, 32, 33, 34, 35, 36, 37, 38, 39, 40, 41, 42, 43, 44, 45, 46, 47, 48, 49, 50, 51, 52, 53, 54, 55, 56, 57, 58, 59, 60, 61, 62, 63, 64, 65, 66, 67, 68, 69, 70, 71, 72] rfl (by decide +kernel)
set_option maxRecDepth 20000 in
theorem gX3_readWord_X3_isWord : GoodIn wsX3_readWord (wsV RX3 114 RX3 yX3_isWord wsX3_isWord) := goodIn_app (goodIn_of _ (by decide +kernel)) ggX3_readWord_X3_isWord
set_option maxRecDepth 20000 in
theorem ggX3_isWord_J0_length_8abf5 : GoodIn wsX3_isWord wsJ0_length_8abf5 := goodIn_r _ [8, 9, 10, 11, 12, 7, 13, 14, 15] rfl (by decide +kernel)
set_option maxRecDepth 20000 in
theorem gX3_isWord_J0_length_8abf5 : GoodIn wsX3_isWord (wsV RX3 123 RJ0 yJ0_length_8abf5 wsJ0_length_8abf5) := goodIn_app (goodIn_of _ (by decide +kernel)) ggX3_isWord_J0_length_8abf5
set_option maxRecDepth 20000 in
theorem ggX3_isWord_J0_charAt_5068e : GoodIn wsX3_isWord wsJ0_charAt_5068e := goodIn_r _ [19, 9, 20, 21, 22, 7, 23, 14, 15, 24, 25, 26, 27, 28, 29, 30, 31, 32, 33, 34, 35, 36, 37, 38, 39, 40, 41, 42, 43, 44, 45, 46, 47, 48, 49, 50, 51, 52] rfl (by decide +kernel)
set_option maxRecDepth 20000 in
theorem gX3_isWord_J0_charAt_5068e : GoodIn wsX3_isWord (wsV RX3 126 RJ0 yJ0_charAt_5068e wsJ0_charAt_5068e) := goodIn_app (goodIn_of _ (by decide +kernel)) ggX3_isWord_J0_charAt_5068e
set_option maxRecDepth 20000 in
theorem ggJ0_length_8abf5_J0_coder_7d493 : GoodIn wsJ0_length_8abf5 wsJ0_coder_7d493 := goodIn_r _ [6, 7, 8] rfl (by decide +kernel)
set_option maxRecDepth 20000 in
theorem gJ0_length_8abf5_J0_coder_7d493 : GoodIn wsJ0_length_8abf5 (wsV RJ0 335 RJ0 yJ0_coder_7d493 wsJ0_coder_7d493) := goodIn_app (goodIn_of _ (by decide +kernel)) ggJ0_length_8abf5_J0_coder_7d493
set_option maxRecDepth 20000 in
theorem ggJ0_charAt_5068e_J0_isLatin1_aae02 : GoodIn wsJ0_charAt_5068e wsJ0_isLatin1_aae02 := goodIn_r _ [6, 7, 8] rfl (by decide +kernel)
set_option maxRecDepth 20000 in
theorem gJ0_charAt_5068e_J0_isLatin1_aae02 : GoodIn wsJ0_charAt_5068e (wsV RJ0 492 RJ0 yJ0_isLatin1_aae02 wsJ0_isLatin1_aae02) := goodIn_app (goodIn_of _ (by decide +kernel)) ggJ0_charAt_5068e_J0_isLatin1_aae02
set_option maxRecDepth 20000 in
theorem ggJ0_charAt_5068e_J1_charAt_3b067 : GoodIn wsJ0_charAt_5068e wsJ1_charAt_3b067 := goodIn_r _ [12, 13, 14, 5, 15, 16, 17, 18, 19, 20] rfl (by decide +kernel)
set_option maxRecDepth 20000 in
theorem gJ0_charAt_5068e_J1_charAt_3b067 : GoodIn wsJ0_charAt_5068e (va_wsS RJ0 495 yJ1_charAt_3b067 wsJ1_charAt_3b067) := goodIn_app (goodIn_of _ (by decide +kernel)) ggJ0_charAt_5068e_J1_charAt_3b067
set_option maxRecDepth 20000 in
theorem ggJ0_charAt_5068e_J2_charAt_3b067 : GoodIn wsJ0_charAt_5068e wsJ2_charAt_3b067 := goodIn_r _ [24, 25, 26, 23, 27, 28, 29, 30, 31, 14, 5, 15, 16, 17, 18, 19, 20, 32, 33, 34, 35, 36, 37] rfl (by decide +kernel)
set_option maxRecDepth 20000 in
theorem gJ0_charAt_5068e_J2_charAt_3b067 : GoodIn wsJ0_charAt_5068e (va_wsS RJ0 498 yJ2_charAt_3b067 wsJ2_charAt_3b067) := goodIn_app (goodIn_of _ (by decide +kernel)) ggJ0_charAt_5068e_J2_charAt_3b067
set_option maxRecDepth 20000 in
theorem ggJ0_checkIndex_df160_J3_checkIndex_8e157 : GoodIn wsJ0_checkIndex_df160 wsJ3_checkIndex_8e157 := goodIn_r _ [5] rfl (by decide +kernel)
set_option maxRecDepth 20000 in
theorem gJ0_checkIndex_df160_J3_checkIndex_8e157 : GoodIn wsJ0_checkIndex_df160 (va_wsS RJ0 1059 yJ3_checkIndex_8e157 wsJ3_checkIndex_8e157) := goodIn_app (goodIn_of _ (by decide +kernel)) ggJ0_checkIndex_df160_J3_checkIndex_8e157
set_option maxRecDepth 20000 in
theorem ggJ1_charAt_3b067_J0_checkIndex_df160 : GoodIn wsJ1_charAt_3b067 wsJ0_checkIndex_df160 := goodIn_r _ [4, 5, 6, 7, 8, 9] rfl (by decide +kernel)
set_option maxRecDepth 20000 in
theorem gJ1_charAt_3b067_J0_checkIndex_df160 : GoodIn wsJ1_charAt_3b067 (va_wsS RJ1 9 yJ0_checkIndex_df160 wsJ0_checkIndex_df160) := goodIn_app (goodIn_of _ (by decide +kernel)) ggJ1_charAt_3b067_J0_checkIndex_df160
