set_option maxRecDepth 20000 in
theorem ggX1_writeReversed_X1_sizeOf : GoodIn wsX1_writeReversed wsX1_sizeOf := goodIn_r _ [6, 2, 7, 8] rfl (by decide +kernel)
set_option maxRecDepth 20000 in
theorem gX1_writeReversed_X1_sizeOf : GoodIn wsX1_writeReversed (va_wsS RX1 19 yX1_sizeOf wsX1_sizeOf) := goodIn_app (goodIn_of _ (by decide +kernel)) ggX1_writeReversed_X1_sizeOf
set_option maxRecDepth 20000 in
theorem ggX4_step_X1_init : GoodIn wsX4_step wsX1_init := goodIn_r _ [14, 15, 16, 17, 18, 19, 31, 32] rfl (by decide +kernel)
set_option maxRecDepth 20000 in
theorem gX4_step_X1_init : GoodIn wsX4_step (wsX1_init) := ggX4_step_X1_init
set_option maxRecDepth 20000 in
theorem ggX4_step_X4_finish : GoodIn wsX4_step wsX4_finish := goodIn_r _ [24, 1, 8, 25, 26, 27, 28, 29, 30] rfl (by decide +kernel)
set_option maxRecDepth 20000 in
theorem gX4_step_X4_finish : GoodIn wsX4_step (wsV RX4 42 RX4 yX4_finish wsX4_finish) := goodIn_app (goodIn_of _ (by decide +kernel)) ggX4_step_X4_finish
set_option maxRecDepth 20000 in
theorem ggX4_loseFirst_X1_behindFirst : GoodIn wsX4_loseFirst wsX1_behindFirst := goodIn_r _ [7, 8, 21, 22] rfl (by decide +kernel)
set_option maxRecDepth 20000 in
theorem gX4_loseFirst_X1_behindFirst : GoodIn wsX4_loseFirst (va_wsS RX4 45 yX1_behindFirst wsX1_behindFirst) := goodIn_app (goodIn_of _ (by decide +kernel)) ggX4_loseFirst_X1_behindFirst
set_option maxRecDepth 20000 in
theorem ggX4_loseFirst_X4_finish : GoodIn wsX4_loseFirst wsX4_finish := goodIn_r _ [13, 1, 14, 15, 16, 17, 18, 19, 20] rfl (by decide +kernel)
set_option maxRecDepth 20000 in
theorem gX4_loseFirst_X4_finish : GoodIn wsX4_loseFirst (wsV RX4 42 RX4 yX4_finish wsX4_finish) := goodIn_app (goodIn_of _ (by decide +kernel)) ggX4_loseFirst_X4_finish
