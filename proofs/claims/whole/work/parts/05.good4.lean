set_option maxRecDepth 20000 in
theorem ggX4_init_X1_init : GoodIn wsX4_init wsX1_init := goodIn_r _ [21, 22, 2, 3, 23, 24, 25, 26, 27, 28, 29, 55, 56, 57, 58, 59, 60, 61, 62] (by decide +kernel) (by decide +kernel)
set_option maxRecDepth 20000 in
theorem gX4_init_X1_init_n13 : GoodIn wsX4_init (wsX1_init) := ggX4_init_X1_init
set_option maxRecDepth 20000 in
theorem ggX4_init_X2_init : GoodIn wsX4_init wsX2_init := goodIn_r _ [32, 33, 2, 3, 23, 34, 35, 36, 37, 38, 39, 69, 70, 71, 72, 73, 74, 75] (by decide +kernel) (by decide +kernel)
set_option maxRecDepth 20000 in
theorem gX4_init_X2_init : GoodIn wsX4_init (wsX2_init) := ggX4_init_X2_init
set_option maxRecDepth 20000 in
theorem ggX4_init_X0_init : GoodIn wsX4_init wsX0_init := goodIn_r _ [42, 43, 2, 3, 23, 44, 45, 46, 47, 48, 49, 50, 76, 77, 78, 79, 80, 81, 82, 83, 84, 85] (by decide +kernel) (by decide +kernel)
set_option maxRecDepth 20000 in
theorem gX4_init_X0_init : GoodIn wsX4_init (wsX0_init) := ggX4_init_X0_init
set_option maxRecDepth 20000 in
theorem ggX4_init_X3_init : GoodIn wsX4_init wsX3_init := goodIn_r _ [52, 53, 2, 3, 23, 54, 86, 87, 88, 89] (by decide +kernel) (by decide +kernel)
set_option maxRecDepth 20000 in
theorem gX4_init_X3_init_n40 : GoodIn wsX4_init (wsX3_init) := ggX4_init_X3_init
set_option maxRecDepth 20000 in
theorem ggX4_clear_X1_removeAll : GoodIn wsX4_clear wsX1_removeAll := goodIn_r _ [7, 8, 9, 30, 31, 32, 33, 34, 35, 36, 37] (by decide +kernel) (by decide +kernel)
set_option maxRecDepth 20000 in
theorem gX4_clear_X1_removeAll : GoodIn wsX4_clear (wsV RX4 45 RX1 yX1_removeAll wsX1_removeAll) := goodIn_app (goodIn_of _ (by decide +kernel)) ggX4_clear_X1_removeAll
set_option maxRecDepth 20000 in
theorem ggX4_clear_X4_netIsNew : GoodIn wsX4_clear wsX4_netIsNew := goodIn_r _ [14, 15, 16, 17, 18, 19, 20, 21, 22, 23, 24, 25, 26, 27, 28, 29, 38, 39, 40, 41, 42, 43, 44, 45, 46, 47, 48, 49, 50, 51, 52, 53, 54] (by decide +kernel) (by decide +kernel)
set_option maxRecDepth 20000 in
theorem gX4_clear_X4_netIsNew : GoodIn wsX4_clear (wsV RX4 48 RX4 yX4_netIsNew wsX4_netIsNew) := goodIn_app (goodIn_of _ (by decide +kernel)) ggX4_clear_X4_netIsNew
set_option maxRecDepth 20000 in
theorem ggX4_post_X4_isMark : GoodIn wsX4_post wsX4_isMark := goodIn_r _ [6] (by decide +kernel) (by decide +kernel)
set_option maxRecDepth 20000 in
theorem gX4_post_X4_isMark : GoodIn wsX4_post (va_wsS RX4 51 yX4_isMark wsX4_isMark) := goodIn_app (goodIn_of _ (by decide +kernel)) ggX4_post_X4_isMark
set_option maxRecDepth 20000 in
theorem ggX4_post_X4_netIsNew : GoodIn wsX4_post wsX4_netIsNew := goodIn_r _ [10, 11, 12, 13, 14, 15, 16, 17, 18, 19, 28, 29, 30, 31, 32, 33, 42, 43, 44, 45, 46, 47, 48, 49, 50, 51, 52, 53, 54, 55, 56, 57, 58] (by decide +kernel) (by decide +kernel)
set_option maxRecDepth 20000 in
theorem gX4_post_X4_netIsNew : GoodIn wsX4_post (wsV RX4 48 RX4 yX4_netIsNew wsX4_netIsNew) := goodIn_app (goodIn_of _ (by decide +kernel)) ggX4_post_X4_netIsNew
set_option maxRecDepth 20000 in
theorem ggX4_post_X1_addPost : GoodIn wsX4_post wsX1_addPost := goodIn_r _ [24, 25, 26, 27, 34, 35, 36, 37, 38, 39, 40, 41] (by decide +kernel) (by decide +kernel)
set_option maxRecDepth 20000 in
theorem gX4_post_X1_addPost : GoodIn wsX4_post (wsV RX4 55 RX1 yX1_addPost wsX1_addPost) := goodIn_app (goodIn_of _ (by decide +kernel)) ggX4_post_X1_addPost
set_option maxRecDepth 20000 in
theorem ggX4_mark_X1_has : GoodIn wsX4_mark wsX1_has := goodIn_r _ [8, 9, 26, 27, 28, 29, 30, 31, 32, 33] (by decide +kernel) (by decide +kernel)
set_option maxRecDepth 20000 in
theorem gX4_mark_X1_has : GoodIn wsX4_mark (wsV RX4 59 RX1 yX1_has wsX1_has) := goodIn_app (goodIn_of _ (by decide +kernel)) ggX4_mark_X1_has
set_option maxRecDepth 20000 in
theorem ggX4_mark_X4_isMark : GoodIn wsX4_mark wsX4_isMark := goodIn_r _ [13] (by decide +kernel) (by decide +kernel)
set_option maxRecDepth 20000 in
theorem gX4_mark_X4_isMark : GoodIn wsX4_mark (va_wsS RX4 51 yX4_isMark wsX4_isMark) := goodIn_app (goodIn_of _ (by decide +kernel)) ggX4_mark_X4_isMark
set_option maxRecDepth 20000 in
theorem ggX4_mark_X2_forget : GoodIn wsX4_mark wsX2_forget := goodIn_r _ [18, 19, 34, 35, 36, 37, 38, 39, 40] (by decide +kernel) (by decide +kernel)
set_option maxRecDepth 20000 in
theorem gX4_mark_X2_forget : GoodIn wsX4_mark (wsV RX4 66 RX2 yX2_forget wsX2_forget) := goodIn_app (goodIn_of _ (by decide +kernel)) ggX4_mark_X2_forget
set_option maxRecDepth 20000 in
theorem ggX4_line_X1_refusalOfLine : GoodIn wsX4_line wsX1_refusalOfLine := goodIn_r _ [8, 9, 10, 11, 7, 12, 13, 47, 48, 49, 50, 51, 52, 53, 54] (by decide +kernel) (by decide +kernel)
set_option maxRecDepth 20000 in
theorem gX4_line_X1_refusalOfLine : GoodIn wsX4_line (wsV RX4 72 RX1 yX1_refusalOfLine wsX1_refusalOfLine) := goodIn_app (goodIn_of _ (by decide +kernel)) ggX4_line_X1_refusalOfLine
set_option maxRecDepth 20000 in
theorem ggX4_line_X1_join : GoodIn wsX4_line wsX1_join := goodIn_r _ [17, 18, 19, 20, 21, 22, 23, 24, 25, 7, 26, 27, 47, 48, 49, 50, 51, 52, 53, 54] (by decide +kernel) (by decide +kernel)
set_option maxRecDepth 20000 in
theorem gX4_line_X1_join : GoodIn wsX4_line (wsV RX4 76 RX1 yX1_join wsX1_join) := goodIn_app (goodIn_of _ (by decide +kernel)) ggX4_line_X1_join
set_option maxRecDepth 20000 in
theorem ggX4_line_X4_netIsNew : GoodIn wsX4_line wsX4_netIsNew := goodIn_r _ [31, 32, 33, 34, 35, 36, 37, 38, 39, 40, 41, 42, 43, 44, 45, 46, 55, 56, 57, 58, 59, 60, 61, 62, 63, 64, 65, 66, 67, 68, 69, 70, 71] (by decide +kernel) (by decide +kernel)
set_option maxRecDepth 20000 in
theorem gX4_line_X4_netIsNew : GoodIn wsX4_line (wsV RX4 48 RX4 yX4_netIsNew wsX4_netIsNew) := goodIn_app (goodIn_of _ (by decide +kernel)) ggX4_line_X4_netIsNew
set_option maxRecDepth 20000 in
theorem ggX4_lines_X4_rowAt : GoodIn wsX4_lines wsX4_rowAt := goodIn_r _ [9, 10, 79, 80, 81, 82, 83, 84] (by decide +kernel) (by decide +kernel)
set_option maxRecDepth 20000 in
theorem gX4_lines_X4_rowAt : GoodIn wsX4_lines (wsV RX4 86 RX4 yX4_rowAt wsX4_rowAt) := goodIn_app (goodIn_of _ (by decide +kernel)) ggX4_lines_X4_rowAt
set_option maxRecDepth 20000 in
theorem ggX4_lines_X4_isLane : GoodIn wsX4_lines wsX4_isLane := goodIn_r _ [13] (by decide +kernel) (by decide +kernel)
set_option maxRecDepth 20000 in
theorem gX4_lines_X4_isLane : GoodIn wsX4_lines (va_wsS RX4 90 yX4_isLane wsX4_isLane) := goodIn_app (goodIn_of _ (by decide +kernel)) ggX4_lines_X4_isLane
set_option maxRecDepth 20000 in
theorem ggX4_lines_X4_faultAsRowOf : GoodIn wsX4_lines wsX4_faultAsRowOf := goodIn_r _ [16, 17, 18, 93, 94, 95, 96] (by decide +kernel) (by decide +kernel)
set_option maxRecDepth 20000 in
theorem gX4_lines_X4_faultAsRowOf : GoodIn wsX4_lines (va_wsS RX4 93 yX4_faultAsRowOf wsX4_faultAsRowOf) := goodIn_app (goodIn_of _ (by decide +kernel)) ggX4_lines_X4_faultAsRowOf
set_option maxRecDepth 20000 in
theorem ggX4_lines_X4_comeTo : GoodIn wsX4_lines wsX4_comeTo := goodIn_r _ [22, 1, 79, 80, 81, 82, 83, 84] (by decide +kernel) (by decide +kernel)
set_option maxRecDepth 20000 in
theorem gX4_lines_X4_comeTo : GoodIn wsX4_lines (wsV RX4 97 RX4 yX4_comeTo wsX4_comeTo) := goodIn_app (goodIn_of _ (by decide +kernel)) ggX4_lines_X4_comeTo
set_option maxRecDepth 20000 in
theorem ggX4_lines_X3_holds : GoodIn wsX4_lines wsX3_holds := goodIn_r _ [27, 28, 93, 94, 95, 96] (by decide +kernel) (by decide +kernel)
set_option maxRecDepth 20000 in
theorem gX4_lines_X3_holds : GoodIn wsX4_lines (wsV RX4 102 RX3 yX3_holds wsX3_holds) := goodIn_app (goodIn_of _ (by decide +kernel)) ggX4_lines_X3_holds
set_option maxRecDepth 20000 in
theorem ggX4_lines_X1_refusalOfLines : GoodIn wsX4_lines wsX1_refusalOfLines := goodIn_r _ [33, 34, 35, 36, 37, 38, 39, 40, 41, 42, 43, 32, 44, 45, 46, 47, 48, 49, 85, 86, 87, 88, 89, 90, 91, 92, 93, 94, 95, 96] (by decide +kernel) (by decide +kernel)
set_option maxRecDepth 20000 in
theorem gX4_lines_X1_refusalOfLines : GoodIn wsX4_lines (wsV RX4 106 RX1 yX1_refusalOfLines wsX1_refusalOfLines) := goodIn_app (goodIn_of _ (by decide +kernel)) ggX4_lines_X1_refusalOfLines
set_option maxRecDepth 20000 in
theorem ggX4_lines_X1_joinAll : GoodIn wsX4_lines wsX1_joinAll := goodIn_r _ [53, 40, 54, 55, 56, 32, 57, 34, 58, 59, 8, 60, 61, 62, 63, 64, 65, 93, 94, 95, 96, 85, 86, 87, 88, 89, 90, 91, 92] (by decide +kernel) (by decide +kernel)
set_option maxRecDepth 20000 in
theorem gX4_lines_X1_joinAll : GoodIn wsX4_lines (wsV RX4 110 RX1 yX1_joinAll wsX1_joinAll) := goodIn_app (goodIn_of _ (by decide +kernel)) ggX4_lines_X1_joinAll
set_option maxRecDepth 20000 in
theorem ggX4_lines_X4_netIsNew : GoodIn wsX4_lines wsX4_netIsNew := goodIn_r _ [69, 70, 71, 72, 73, 74, 75, 76, 77, 78, 79, 80, 81, 82, 83, 84, 97, 98, 99, 100, 101, 102, 103, 104, 105, 106, 107, 108, 109, 110, 111, 112, 113] (by decide +kernel) (by decide +kernel)
set_option maxRecDepth 20000 in
theorem gX4_lines_X4_netIsNew : GoodIn wsX4_lines (wsV RX4 48 RX4 yX4_netIsNew wsX4_netIsNew) := goodIn_app (goodIn_of _ (by decide +kernel)) ggX4_lines_X4_netIsNew
set_option maxRecDepth 20000 in
theorem ggX4_swap_X1_hasPort : GoodIn wsX4_swap wsX1_hasPort := goodIn_r _ [6, 7, 8, 9, 10, 5, 11, 12, 45, 46, 47, 48, 49, 50, 51, 52] (by decide +kernel) (by decide +kernel)
set_option maxRecDepth 20000 in
theorem gX4_swap_X1_hasPort : GoodIn wsX4_swap (wsV RX4 114 RX1 yX1_hasPort wsX1_hasPort) := goodIn_app (goodIn_of _ (by decide +kernel)) ggX4_swap_X1_hasPort
set_option maxRecDepth 20000 in
theorem ggX4_swap_X4_netIsNew : GoodIn wsX4_swap wsX4_netIsNew := goodIn_r _ [17, 18, 19, 20, 21, 22, 23, 24, 25, 26, 39, 40, 41, 42, 43, 44, 53, 54, 55, 56, 57, 58, 59, 60, 61, 62, 63, 64, 65, 66, 67, 68, 69] (by decide +kernel) (by decide +kernel)
set_option maxRecDepth 20000 in
theorem gX4_swap_X4_netIsNew : GoodIn wsX4_swap (wsV RX4 48 RX4 yX4_netIsNew wsX4_netIsNew) := goodIn_app (goodIn_of _ (by decide +kernel)) ggX4_swap_X4_netIsNew
set_option maxRecDepth 20000 in
theorem ggX4_swap_X4_slotOf : GoodIn wsX4_swap wsX4_slotOf := goodIn_r _ [29] (by decide +kernel) (by decide +kernel)
set_option maxRecDepth 20000 in
theorem gX4_swap_X4_slotOf : GoodIn wsX4_swap (va_wsS RX4 118 yX4_slotOf wsX4_slotOf) := goodIn_app (goodIn_of _ (by decide +kernel)) ggX4_swap_X4_slotOf
set_option maxRecDepth 20000 in
theorem ggX4_swap_X1_exchange : GoodIn wsX4_swap wsX1_exchange := goodIn_r _ [33, 34, 35, 36, 37, 5, 38, 45, 46, 47, 48, 49, 50, 51, 52] (by decide +kernel) (by decide +kernel)
set_option maxRecDepth 20000 in
theorem gX4_swap_X1_exchange : GoodIn wsX4_swap (wsV RX4 122 RX1 yX1_exchange wsX1_exchange) := goodIn_app (goodIn_of _ (by decide +kernel)) ggX4_swap_X1_exchange
set_option maxRecDepth 20000 in
theorem ggX4_end_X1_hasPort : GoodIn wsX4_end wsX1_hasPort := goodIn_r _ [7, 8, 9, 10, 11, 6, 12, 13, 30, 31, 32, 33, 34, 35, 36, 37] (by decide +kernel) (by decide +kernel)
set_option maxRecDepth 20000 in
theorem gX4_end_X1_hasPort : GoodIn wsX4_end (wsV RX4 114 RX1 yX1_hasPort wsX1_hasPort) := goodIn_app (goodIn_of _ (by decide +kernel)) ggX4_end_X1_hasPort
set_option maxRecDepth 20000 in
theorem ggX4_end_X4_slotOf : GoodIn wsX4_end wsX4_slotOf := goodIn_r _ [17] (by decide +kernel) (by decide +kernel)
set_option maxRecDepth 20000 in
theorem gX4_end_X4_slotOf : GoodIn wsX4_end (va_wsS RX4 118 yX4_slotOf wsX4_slotOf) := goodIn_app (goodIn_of _ (by decide +kernel)) ggX4_end_X4_slotOf
set_option maxRecDepth 20000 in
theorem ggX4_end_X4_postOf : GoodIn wsX4_end wsX4_postOf := goodIn_r _ [20] (by decide +kernel) (by decide +kernel)
set_option maxRecDepth 20000 in
theorem gX4_end_X4_postOf : GoodIn wsX4_end (va_wsS RX4 128 yX4_postOf wsX4_postOf) := goodIn_app (goodIn_of _ (by decide +kernel)) ggX4_end_X4_postOf
set_option maxRecDepth 20000 in
theorem ggX4_end_X4_portOf : GoodIn wsX4_end wsX4_portOf := goodIn_r _ [23] (by decide +kernel) (by decide +kernel)
set_option maxRecDepth 20000 in
theorem gX4_end_X4_portOf : GoodIn wsX4_end (va_wsS RX4 131 yX4_portOf wsX4_portOf) := goodIn_app (goodIn_of _ (by decide +kernel)) ggX4_end_X4_portOf
set_option maxRecDepth 20000 in
theorem ggX4_doubled_X1_hasPort : GoodIn wsX4_doubled wsX1_hasPort := goodIn_r _ [7, 8, 9, 10, 11, 6, 12, 13, 48, 49, 50, 51, 52, 53, 54, 55] (by decide +kernel) (by decide +kernel)
set_option maxRecDepth 20000 in
theorem gX4_doubled_X1_hasPort : GoodIn wsX4_doubled (wsV RX4 114 RX1 yX1_hasPort wsX1_hasPort) := goodIn_app (goodIn_of _ (by decide +kernel)) ggX4_doubled_X1_hasPort
set_option maxRecDepth 20000 in
theorem ggX4_doubled_X4_slotOf : GoodIn wsX4_doubled wsX4_slotOf := goodIn_r _ [17] (by decide +kernel) (by decide +kernel)
set_option maxRecDepth 20000 in
theorem gX4_doubled_X4_slotOf : GoodIn wsX4_doubled (va_wsS RX4 118 yX4_slotOf wsX4_slotOf) := goodIn_app (goodIn_of _ (by decide +kernel)) ggX4_doubled_X4_slotOf
set_option maxRecDepth 20000 in
theorem ggX4_doubled_X1_makeTwice : GoodIn wsX4_doubled wsX1_makeTwice := goodIn_r _ [21, 13, 22, 23, 8, 24, 25, 26, 27, 6, 28, 48, 49, 50, 51, 52, 53, 54, 55] (by decide +kernel) (by decide +kernel)
set_option maxRecDepth 20000 in
theorem gX4_doubled_X1_makeTwice : GoodIn wsX4_doubled (wsV RX4 134 RX1 yX1_makeTwice wsX1_makeTwice) := goodIn_app (goodIn_of _ (by decide +kernel)) ggX4_doubled_X1_makeTwice
set_option maxRecDepth 20000 in
theorem ggX4_doubled_X4_netIsNew : GoodIn wsX4_doubled wsX4_netIsNew := goodIn_r _ [32, 33, 34, 35, 36, 37, 38, 39, 40, 41, 42, 43, 44, 45, 46, 47, 56, 57, 58, 59, 60, 61, 62, 63, 64, 65, 66, 67, 68, 69, 70, 71, 72] (by decide +kernel) (by decide +kernel)
set_option maxRecDepth 20000 in
theorem gX4_doubled_X4_netIsNew : GoodIn wsX4_doubled (wsV RX4 48 RX4 yX4_netIsNew wsX4_netIsNew) := goodIn_app (goodIn_of _ (by decide +kernel)) ggX4_doubled_X4_netIsNew
set_option maxRecDepth 20000 in
theorem ggX4_about_X1_has : GoodIn wsX4_about wsX1_has := goodIn_r _ [10, 11, 90, 91, 92, 93, 94, 95, 96, 97] (by decide +kernel) (by decide +kernel)
set_option maxRecDepth 20000 in
theorem gX4_about_X1_has : GoodIn wsX4_about (wsV RX4 59 RX1 yX1_has wsX1_has) := goodIn_app (goodIn_of _ (by decide +kernel)) ggX4_about_X1_has
set_option maxRecDepth 20000 in
theorem ggX4_about_X2_atRest : GoodIn wsX4_about wsX2_atRest := goodIn_r _ [16, 17, 18, 19, 20, 15, 21, 22, 23, 24, 25, 26, 27, 28, 29, 30, 31, 32, 33, 34, 35, 36, 37, 38, 39, 40, 41, 42, 43, 44, 45, 46, 47, 48, 49, 50, 51, 52, 53, 54, 55, 56, 57, 58, 59, 60, 61, 62, 63, 98, 99, 100, 101, 102, 103, 104, 90, 91, 92, 93, 94, 95, 96, 97] (by decide +kernel) (by decide +kernel)
set_option maxRecDepth 20000 in
theorem gX4_about_X2_atRest : GoodIn wsX4_about (wsV RX4 138 RX2 yX2_atRest wsX2_atRest) := goodIn_app (goodIn_of _ (by decide +kernel)) ggX4_about_X2_atRest
set_option maxRecDepth 20000 in
theorem ggX4_about_X2_kindredOf : GoodIn wsX4_about wsX2_kindredOf := goodIn_r _ [67, 28, 29, 17, 18, 19, 20, 15, 21, 22, 23, 24, 25, 26, 27, 30, 31, 32, 33, 34, 35, 36, 37, 38, 39, 40, 41, 42, 43, 44, 45, 46, 47, 48, 49, 50, 51, 52, 53, 54, 55, 56, 57, 58, 59, 60, 61, 62, 63, 98, 99, 100, 101, 102, 103, 104, 90, 91, 92, 93, 94, 95, 96, 97] (by decide +kernel) (by decide +kernel)
set_option maxRecDepth 20000 in
theorem gX4_about_X2_kindredOf : GoodIn wsX4_about (wsV RX4 141 RX2 yX2_kindredOf wsX2_kindredOf) := goodIn_app (goodIn_of _ (by decide +kernel)) ggX4_about_X2_kindredOf
set_option maxRecDepth 20000 in
theorem ggX4_about_X1_measure : GoodIn wsX4_about wsX1_measure := goodIn_r _ [71, 72, 11, 73, 74, 75, 76, 77, 78, 79, 80, 9, 81, 82, 83, 53, 54, 55, 58, 59, 90, 91, 92, 93, 94, 95, 96, 97] (by decide +kernel) (by decide +kernel)
set_option maxRecDepth 20000 in
theorem gX4_about_X1_measure : GoodIn wsX4_about (wsV RX4 144 RX1 yX1_measure wsX1_measure) := goodIn_app (goodIn_of _ (by decide +kernel)) ggX4_about_X1_measure
set_option maxRecDepth 20000 in
theorem ggX4_together_X4_hangsTogether : GoodIn wsX4_together wsX4_hangsTogether := goodIn_r _ [5, 6, 7, 8, 9, 10, 11, 12, 13, 14, 15, 16, 17, 18, 19, 20, 21, 22, 23, 24, 25, 26, 4, 27, 28, 29, 30, 31, 32, 33, 34, 35, 36, 37, 38, 39, 40, 41, 42, 43] (by decide +kernel) (by decide +kernel)
set_option maxRecDepth 20000 in
theorem gX4_together_X4_hangsTogether : GoodIn wsX4_together (wsV RX4 151 RX4 yX4_hangsTogether wsX4_hangsTogether) := goodIn_app (goodIn_of _ (by decide +kernel)) ggX4_together_X4_hangsTogether
set_option maxRecDepth 20000 in
theorem ggX4_rank_X1_has : GoodIn wsX4_rank wsX1_has := goodIn_r _ [7, 8, 74, 75, 76, 77, 78, 79, 80, 81] (by decide +kernel) (by decide +kernel)
set_option maxRecDepth 20000 in
theorem gX4_rank_X1_has : GoodIn wsX4_rank (wsV RX4 59 RX1 yX1_has wsX1_has) := goodIn_app (goodIn_of _ (by decide +kernel)) ggX4_rank_X1_has
set_option maxRecDepth 20000 in
theorem ggX4_rank_X4_isDepth : GoodIn wsX4_rank wsX4_isDepth := goodIn_r _ [12] (by decide +kernel) (by decide +kernel)
set_option maxRecDepth 20000 in
theorem gX4_rank_X4_isDepth : GoodIn wsX4_rank (va_wsS RX4 155 yX4_isDepth wsX4_isDepth) := goodIn_app (goodIn_of _ (by decide +kernel)) ggX4_rank_X4_isDepth
set_option maxRecDepth 20000 in
theorem ggX4_rank_X2_at : GoodIn wsX4_rank wsX2_at := goodIn_r _ [17, 18, 19, 20, 21, 22, 23, 24, 25, 16, 26, 27, 28, 29, 30, 31, 32, 33, 34, 35, 36, 37, 38, 39, 40, 41, 42, 43, 44, 45, 46, 47, 48, 49, 50, 51, 52, 53, 54, 55, 56, 57, 58, 11, 59, 60, 61, 62, 63, 64, 65, 66, 67, 82, 83, 84, 85, 86, 87, 88, 74, 75, 76, 77, 78, 79, 80, 81] (by decide +kernel) (by decide +kernel)
set_option maxRecDepth 20000 in
theorem gX4_rank_X2_at : GoodIn wsX4_rank (wsV RX4 158 RX2 yX2_at wsX2_at) := goodIn_app (goodIn_of _ (by decide +kernel)) ggX4_rank_X2_at
set_option maxRecDepth 20000 in
theorem ggX4_rest_X2_depthOfRest : GoodIn wsX4_rest wsX2_depthOfRest := goodIn_r _ [8, 9, 10, 11, 12, 7, 13, 14, 15, 16, 17, 18, 19, 20, 21, 22, 23, 24, 25, 26, 27, 28, 29, 30, 31, 32, 33, 34, 35, 36, 37, 38, 39, 40, 41, 42, 43, 44, 45, 46, 47, 48, 49, 50, 51, 66, 67, 68, 69, 70, 71, 72, 58, 59, 60, 61, 62, 63, 64, 65] (by decide +kernel) (by decide +kernel)
set_option maxRecDepth 20000 in
theorem gX4_rest_X2_depthOfRest : GoodIn wsX4_rest (wsV RX4 161 RX2 yX2_depthOfRest wsX2_depthOfRest) := goodIn_app (goodIn_of _ (by decide +kernel)) ggX4_rest_X2_depthOfRest
set_option maxRecDepth 20000 in
theorem ggX4_ranks_X4_isDepth : GoodIn wsX4_ranks wsX4_isDepth := goodIn_r _ [5] (by decide +kernel) (by decide +kernel)
set_option maxRecDepth 20000 in
theorem gX4_ranks_X4_isDepth : GoodIn wsX4_ranks (va_wsS RX4 155 yX4_isDepth wsX4_isDepth) := goodIn_app (goodIn_of _ (by decide +kernel)) ggX4_ranks_X4_isDepth
set_option maxRecDepth 20000 in
theorem ggX4_ranks_X2_unlikeAt : GoodIn wsX4_ranks wsX2_unlikeAt := goodIn_r _ [10, 11, 12, 13, 14, 15, 16, 17, 18, 19, 9, 20, 21, 22, 23, 24, 25, 26, 27, 28, 29, 30, 31, 32, 33, 34, 35, 36, 37, 38, 39, 40, 41, 42, 43, 44, 45, 46, 47, 48, 49, 50, 51, 4, 52, 53, 54, 55, 56, 63, 64, 65, 66, 67, 68, 69, 70, 71, 72, 73, 74, 75, 76, 77] (by decide +kernel) (by decide +kernel)
set_option maxRecDepth 20000 in
theorem gX4_ranks_X2_unlikeAt : GoodIn wsX4_ranks (wsV RX4 164 RX2 yX2_unlikeAt wsX2_unlikeAt) := goodIn_app (goodIn_of _ (by decide +kernel)) ggX4_ranks_X2_unlikeAt
set_option maxRecDepth 20000 in
theorem ggX4_apart_X1_has : GoodIn wsX4_apart wsX1_has := goodIn_r _ [7, 8, 67, 68, 69, 70, 71, 72, 73, 74] (by decide +kernel) (by decide +kernel)
set_option maxRecDepth 20000 in
theorem gX4_apart_X1_has : GoodIn wsX4_apart (wsV RX4 59 RX1 yX1_has wsX1_has) := goodIn_app (goodIn_of _ (by decide +kernel)) ggX4_apart_X1_has
set_option maxRecDepth 20000 in
theorem ggX4_apart_X2_firstApart : GoodIn wsX4_apart wsX2_firstApart := goodIn_r _ [13, 14, 15, 16, 17, 12, 18, 19, 20, 21, 22, 23, 24, 25, 26, 27, 28, 29, 30, 31, 32, 33, 34, 35, 36, 37, 38, 39, 40, 41, 42, 43, 44, 45, 46, 47, 48, 49, 50, 51, 52, 53, 54, 55, 56, 57, 58, 59, 60, 75, 76, 77, 78, 79, 80, 81, 67, 68, 69, 70, 71, 72, 73, 74] (by decide +kernel) (by decide +kernel)
set_option maxRecDepth 20000 in
theorem gX4_apart_X2_firstApart : GoodIn wsX4_apart (wsV RX4 167 RX2 yX2_firstApart wsX2_firstApart) := goodIn_app (goodIn_of _ (by decide +kernel)) ggX4_apart_X2_firstApart
set_option maxRecDepth 20000 in
theorem ggX4_chosen_X4_hangsTogether : GoodIn wsX4_chosen wsX4_hangsTogether := goodIn_r _ [8, 1, 2, 9, 10, 11, 12, 13, 14, 15, 16, 17, 18, 19, 20, 21, 22, 23, 24, 25, 26, 27, 7, 28, 29, 30, 90, 91, 92, 93, 94, 95, 96, 97, 98, 99, 100, 101, 102, 103] (by decide +kernel) (by decide +kernel)
set_option maxRecDepth 20000 in
theorem gX4_chosen_X4_hangsTogether : GoodIn wsX4_chosen (wsV RX4 151 RX4 yX4_hangsTogether wsX4_hangsTogether) := goodIn_app (goodIn_of _ (by decide +kernel)) ggX4_chosen_X4_hangsTogether
set_option maxRecDepth 20000 in
theorem ggX4_chosen_X4_unlikeAtRest : GoodIn wsX4_chosen wsX4_unlikeAtRest := goodIn_r _ [34, 3, 35, 36, 37, 38, 39, 40, 41, 42, 43, 44, 45, 46, 47, 48, 49, 50, 51, 52, 53, 54, 55, 56, 57, 58, 59, 60, 61, 62, 63, 64, 65, 66, 67, 68, 69, 70, 71, 72, 73, 74, 75, 76, 77, 78, 79, 27, 7, 28, 80, 81, 29, 30, 90, 91, 92, 93, 94, 95, 104, 105, 106, 107, 108, 109, 110, 96, 97, 98, 99, 100, 101, 102, 103] (by decide +kernel) (by decide +kernel)
set_option maxRecDepth 20000 in
theorem gX4_chosen_X4_unlikeAtRest : GoodIn wsX4_chosen (wsV RX4 170 RX4 yX4_unlikeAtRest wsX4_unlikeAtRest) := goodIn_app (goodIn_of _ (by decide +kernel)) ggX4_chosen_X4_unlikeAtRest
set_option maxRecDepth 20000 in
theorem ggX4_chosen_X2_firstAtRest : GoodIn wsX4_chosen wsX2_firstAtRest := goodIn_r _ [85, 55, 56, 41, 46, 47, 48, 38, 49, 50, 40, 51, 52, 53, 54, 57, 58, 59, 60, 61, 62, 63, 64, 65, 66, 67, 68, 69, 70, 71, 72, 73, 74, 75, 76, 77, 78, 79, 27, 7, 28, 80, 81, 29, 30, 86, 87, 88, 89, 104, 105, 106, 107, 108, 109, 110, 96, 97, 98, 99, 100, 101, 102, 103] (by decide +kernel) (by decide +kernel)
set_option maxRecDepth 20000 in
theorem gX4_chosen_X2_firstAtRest : GoodIn wsX4_chosen (wsV RX4 173 RX2 yX2_firstAtRest wsX2_firstAtRest) := goodIn_app (goodIn_of _ (by decide +kernel)) ggX4_chosen_X2_firstAtRest
set_option maxRecDepth 20000 in
theorem ggX4_flood_X1_has : GoodIn wsX4_flood wsX1_has := goodIn_r _ [8, 9, 74, 75, 76, 77, 78, 79, 80, 81] (by decide +kernel) (by decide +kernel)
set_option maxRecDepth 20000 in
theorem gX4_flood_X1_has : GoodIn wsX4_flood (wsV RX4 59 RX1 yX1_has wsX1_has) := goodIn_app (goodIn_of _ (by decide +kernel)) ggX4_flood_X1_has
set_option maxRecDepth 20000 in
theorem ggX4_flood_X0_runFrom : GoodIn wsX4_flood wsX0_runFrom := goodIn_r _ [14, 15, 16, 17, 18, 19, 20, 21, 22, 23, 24, 25, 26, 27, 28, 13, 29, 30, 31, 32, 33, 34, 35, 36, 37, 38, 39, 40, 41, 42, 43, 44, 45, 46, 47, 48, 49, 50, 51, 52, 53, 54, 55, 56, 57, 64, 65, 66, 67, 68, 69, 70, 71, 72, 73, 74, 75, 76, 77, 78, 79, 80, 81] (by decide +kernel) (by decide +kernel)
set_option maxRecDepth 20000 in
theorem gX4_flood_X0_runFrom : GoodIn wsX4_flood (wsV RX4 176 RX0 yX0_runFrom wsX0_runFrom) := goodIn_app (goodIn_of _ (by decide +kernel)) ggX4_flood_X0_runFrom
set_option maxRecDepth 20000 in
theorem ggX4_flooded_X1_has : GoodIn wsX4_flooded wsX1_has := goodIn_r _ [11, 12, 29, 30, 31, 32, 33, 34, 35, 36] (by decide +kernel) (by decide +kernel)
set_option maxRecDepth 20000 in
theorem gX4_flooded_X1_has : GoodIn wsX4_flooded (wsV RX4 59 RX1 yX1_has wsX1_has) := goodIn_app (goodIn_of _ (by decide +kernel)) ggX4_flooded_X1_has
set_option maxRecDepth 20000 in
theorem ggX4_lots_X4_power : GoodIn wsX4_lots wsX4_power := goodIn_r _ [7] (by decide +kernel) (by decide +kernel)
set_option maxRecDepth 20000 in
theorem gX4_lots_X4_power : GoodIn wsX4_lots (va_wsS RX4 201 yX4_power wsX4_power) := goodIn_app (goodIn_of _ (by decide +kernel)) ggX4_lots_X4_power
set_option maxRecDepth 20000 in
theorem ggX4_lots_X4_rowsWithOneGreatest : GoodIn wsX4_lots wsX4_rowsWithOneGreatest := goodIn_r _ [10, 4, 5, 6, 7] (by decide +kernel) (by decide +kernel)
set_option maxRecDepth 20000 in
theorem gX4_lots_X4_rowsWithOneGreatest : GoodIn wsX4_lots (va_wsS RX4 205 yX4_rowsWithOneGreatest wsX4_rowsWithOneGreatest) := goodIn_app (goodIn_of _ (by decide +kernel)) ggX4_lots_X4_rowsWithOneGreatest
set_option maxRecDepth 20000 in
theorem ggX4_sheet_X4_rowAt : GoodIn wsX4_sheet wsX4_rowAt := goodIn_r _ [6, 7, 28, 29, 30, 31, 32, 33] (by decide +kernel) (by decide +kernel)
set_option maxRecDepth 20000 in
theorem gX4_sheet_X4_rowAt : GoodIn wsX4_sheet (wsV RX4 86 RX4 yX4_rowAt wsX4_rowAt) := goodIn_app (goodIn_of _ (by decide +kernel)) ggX4_sheet_X4_rowAt
set_option maxRecDepth 20000 in
theorem ggX4_sheet_X4_isLane : GoodIn wsX4_sheet wsX4_isLane := goodIn_r _ [10] (by decide +kernel) (by decide +kernel)
set_option maxRecDepth 20000 in
theorem gX4_sheet_X4_isLane : GoodIn wsX4_sheet (va_wsS RX4 90 yX4_isLane wsX4_isLane) := goodIn_app (goodIn_of _ (by decide +kernel)) ggX4_sheet_X4_isLane
set_option maxRecDepth 20000 in
theorem ggX4_sheet_X4_comeTo : GoodIn wsX4_sheet wsX4_comeTo := goodIn_r _ [14, 1, 28, 29, 30, 31, 32, 33] (by decide +kernel) (by decide +kernel)
set_option maxRecDepth 20000 in
theorem gX4_sheet_X4_comeTo : GoodIn wsX4_sheet (wsV RX4 97 RX4 yX4_comeTo wsX4_comeTo) := goodIn_app (goodIn_of _ (by decide +kernel)) ggX4_sheet_X4_comeTo
set_option maxRecDepth 20000 in
theorem ggX4_sheet_X3_renew : GoodIn wsX4_sheet wsX3_renew := goodIn_r _ [19, 20, 21, 22, 23, 24, 25, 26, 27, 34, 35, 36, 37] (by decide +kernel) (by decide +kernel)
set_option maxRecDepth 20000 in
theorem gX4_sheet_X3_renew : GoodIn wsX4_sheet (wsV RX4 208 RX3 yX3_renew wsX3_renew) := goodIn_app (goodIn_of _ (by decide +kernel)) ggX4_sheet_X3_renew
set_option maxRecDepth 20000 in
theorem ggX4_lose_X4_rowAt : GoodIn wsX4_lose wsX4_rowAt := goodIn_r _ [6, 7, 12, 13, 14, 15, 16, 17] (by decide +kernel) (by decide +kernel)
set_option maxRecDepth 20000 in
theorem gX4_lose_X4_rowAt : GoodIn wsX4_lose (wsV RX4 86 RX4 yX4_rowAt wsX4_rowAt) := goodIn_app (goodIn_of _ (by decide +kernel)) ggX4_lose_X4_rowAt
set_option maxRecDepth 20000 in
theorem ggX4_put_X4_rowAt : GoodIn wsX4_put wsX4_rowAt := goodIn_r _ [9, 10, 24, 25, 26, 27, 28, 29] (by decide +kernel) (by decide +kernel)
set_option maxRecDepth 20000 in
theorem gX4_put_X4_rowAt : GoodIn wsX4_put (wsV RX4 86 RX4 yX4_rowAt wsX4_rowAt) := goodIn_app (goodIn_of _ (by decide +kernel)) ggX4_put_X4_rowAt
set_option maxRecDepth 20000 in
theorem ggX4_put_X4_comeTo : GoodIn wsX4_put wsX4_comeTo := goodIn_r _ [14, 1, 24, 25, 26, 27, 28, 29] (by decide +kernel) (by decide +kernel)
set_option maxRecDepth 20000 in
theorem gX4_put_X4_comeTo : GoodIn wsX4_put (wsV RX4 97 RX4 yX4_comeTo wsX4_comeTo) := goodIn_app (goodIn_of _ (by decide +kernel)) ggX4_put_X4_comeTo
set_option maxRecDepth 20000 in
theorem ggX4_put_X3_holds : GoodIn wsX4_put wsX3_holds := goodIn_r _ [19, 20, 30, 31, 32, 33] (by decide +kernel) (by decide +kernel)
set_option maxRecDepth 20000 in
theorem gX4_put_X3_holds : GoodIn wsX4_put (wsV RX4 102 RX3 yX3_holds wsX3_holds) := goodIn_app (goodIn_of _ (by decide +kernel)) ggX4_put_X3_holds
set_option maxRecDepth 20000 in
theorem ggX4_put_X4_cutTo : GoodIn wsX4_put wsX4_cutTo := goodIn_r _ [23] (by decide +kernel) (by decide +kernel)
set_option maxRecDepth 20000 in
theorem gX4_put_X4_cutTo : GoodIn wsX4_put (va_wsS RX4 218 yX4_cutTo wsX4_cutTo) := goodIn_app (goodIn_of _ (by decide +kernel)) ggX4_put_X4_cutTo
set_option maxRecDepth 20000 in
theorem ggX4_cell_X4_rowAt : GoodIn wsX4_cell wsX4_rowAt := goodIn_r _ [8, 9, 28, 29, 30, 31, 32, 33] (by decide +kernel) (by decide +kernel)
set_option maxRecDepth 20000 in
theorem gX4_cell_X4_rowAt : GoodIn wsX4_cell (wsV RX4 86 RX4 yX4_rowAt wsX4_rowAt) := goodIn_app (goodIn_of _ (by decide +kernel)) ggX4_cell_X4_rowAt
set_option maxRecDepth 20000 in
theorem ggX4_cell_X4_isLane : GoodIn wsX4_cell wsX4_isLane := goodIn_r _ [12] (by decide +kernel) (by decide +kernel)
set_option maxRecDepth 20000 in
theorem gX4_cell_X4_isLane : GoodIn wsX4_cell (va_wsS RX4 90 yX4_isLane wsX4_isLane) := goodIn_app (goodIn_of _ (by decide +kernel)) ggX4_cell_X4_isLane
set_option maxRecDepth 20000 in
theorem ggX4_cell_X4_faultAsRowOf : GoodIn wsX4_cell wsX4_faultAsRowOf := goodIn_r _ [15, 16, 17, 34, 35, 36, 37] (by decide +kernel) (by decide +kernel)
set_option maxRecDepth 20000 in
theorem gX4_cell_X4_faultAsRowOf : GoodIn wsX4_cell (va_wsS RX4 93 yX4_faultAsRowOf wsX4_faultAsRowOf) := goodIn_app (goodIn_of _ (by decide +kernel)) ggX4_cell_X4_faultAsRowOf
set_option maxRecDepth 20000 in
theorem ggX4_cell_X3_holds : GoodIn wsX4_cell wsX3_holds := goodIn_r _ [22, 23, 34, 35, 36, 37] (by decide +kernel) (by decide +kernel)
set_option maxRecDepth 20000 in
theorem gX4_cell_X3_holds : GoodIn wsX4_cell (wsV RX4 102 RX3 yX3_holds wsX3_holds) := goodIn_app (goodIn_of _ (by decide +kernel)) ggX4_cell_X3_holds
set_option maxRecDepth 20000 in
theorem ggX4_cell_X4_comeTo : GoodIn wsX4_cell wsX4_comeTo := goodIn_r _ [27, 1, 28, 29, 30, 31, 32, 33] (by decide +kernel) (by decide +kernel)
set_option maxRecDepth 20000 in
theorem gX4_cell_X4_comeTo : GoodIn wsX4_cell (wsV RX4 97 RX4 yX4_comeTo wsX4_comeTo) := goodIn_app (goodIn_of _ (by decide +kernel)) ggX4_cell_X4_comeTo
set_option maxRecDepth 20000 in
theorem ggX4_copy_X4_rowAt : GoodIn wsX4_copy wsX4_rowAt := goodIn_r _ [13, 14, 25, 26, 27, 28, 29, 30] (by decide +kernel) (by decide +kernel)
set_option maxRecDepth 20000 in
theorem gX4_copy_X4_rowAt : GoodIn wsX4_copy (wsV RX4 86 RX4 yX4_rowAt wsX4_rowAt) := goodIn_app (goodIn_of _ (by decide +kernel)) ggX4_copy_X4_rowAt
set_option maxRecDepth 20000 in
theorem ggX4_copy_X4_comeTo : GoodIn wsX4_copy wsX4_comeTo := goodIn_r _ [18, 1, 25, 26, 27, 28, 29, 30] (by decide +kernel) (by decide +kernel)
set_option maxRecDepth 20000 in
theorem gX4_copy_X4_comeTo : GoodIn wsX4_copy (wsV RX4 97 RX4 yX4_comeTo wsX4_comeTo) := goodIn_app (goodIn_of _ (by decide +kernel)) ggX4_copy_X4_comeTo
set_option maxRecDepth 20000 in
theorem ggX4_copy_X3_holds : GoodIn wsX4_copy wsX3_holds := goodIn_r _ [23, 24, 31, 32, 33, 34] (by decide +kernel) (by decide +kernel)
set_option maxRecDepth 20000 in
theorem gX4_copy_X3_holds : GoodIn wsX4_copy (wsV RX4 102 RX3 yX3_holds wsX3_holds) := goodIn_app (goodIn_of _ (by decide +kernel)) ggX4_copy_X3_holds
set_option maxRecDepth 20000 in
theorem ggX4_tell_X1_has : GoodIn wsX4_tell wsX1_has := goodIn_r _ [6, 7, 38, 39, 40, 41, 42, 43, 44, 45] (by decide +kernel) (by decide +kernel)
set_option maxRecDepth 20000 in
theorem gX4_tell_X1_has : GoodIn wsX4_tell (wsV RX4 59 RX1 yX1_has wsX1_has) := goodIn_app (goodIn_of _ (by decide +kernel)) ggX4_tell_X1_has
set_option maxRecDepth 20000 in
theorem ggX4_tell_X4_isOfKind : GoodIn wsX4_tell wsX4_isOfKind := goodIn_r _ [12, 1, 13, 32, 33, 34, 35, 36, 37, 38, 39, 40, 41, 42, 43, 44, 45] (by decide +kernel) (by decide +kernel)
set_option maxRecDepth 20000 in
theorem gX4_tell_X4_isOfKind : GoodIn wsX4_tell (wsV RX4 227 RX4 yX4_isOfKind wsX4_isOfKind) := goodIn_app (goodIn_of _ (by decide +kernel)) ggX4_tell_X4_isOfKind
set_option maxRecDepth 20000 in
theorem ggX4_tell_X4_tellAsEnd : GoodIn wsX4_tell wsX4_tellAsEnd := goodIn_r _ [17, 18, 19, 20, 11, 21, 22, 23, 24, 25, 26, 1, 27, 32, 33, 34, 35, 36, 37, 38, 39, 40, 41, 42, 43, 44, 45] (by decide +kernel) (by decide +kernel)
set_option maxRecDepth 20000 in
theorem gX4_tell_X4_tellAsEnd : GoodIn wsX4_tell (wsV RX4 230 RX4 yX4_tellAsEnd wsX4_tellAsEnd) := goodIn_app (goodIn_of _ (by decide +kernel)) ggX4_tell_X4_tellAsEnd
set_option maxRecDepth 20000 in
theorem ggX4_tell_X4_tellAsJoined : GoodIn wsX4_tell wsX4_tellAsJoined := goodIn_r _ [31, 1, 13, 18, 19, 20, 11, 21, 22, 23, 24, 25, 26, 27, 32, 33, 34, 35, 36, 37, 38, 39, 40, 41, 42, 43, 44, 45] (by decide +kernel) (by decide +kernel)
set_option maxRecDepth 20000 in
theorem gX4_tell_X4_tellAsJoined : GoodIn wsX4_tell (wsV RX4 233 RX4 yX4_tellAsJoined wsX4_tellAsJoined) := goodIn_app (goodIn_of _ (by decide +kernel)) ggX4_tell_X4_tellAsJoined
set_option maxRecDepth 20000 in
theorem ggX4_tell_X4_tellAsPost : GoodIn wsX4_tell wsX4_tellAsPost := goodIn_r _ [26, 1, 27, 18, 19, 20, 11, 21, 22, 32, 33, 34, 35, 36, 37, 38, 39, 40, 41, 42, 43, 44, 45] (by decide +kernel) (by decide +kernel)
set_option maxRecDepth 20000 in
theorem gX4_tell_X4_tellAsPost : GoodIn wsX4_tell (wsV RX4 236 RX4 yX4_tellAsPost wsX4_tellAsPost) := goodIn_app (goodIn_of _ (by decide +kernel)) ggX4_tell_X4_tellAsPost
set_option maxRecDepth 20000 in
theorem ggX4_hear_X1_has : GoodIn wsX4_hear wsX1_has := goodIn_r _ [6, 7, 25, 26, 27, 28, 29, 30, 31, 32] (by decide +kernel) (by decide +kernel)
set_option maxRecDepth 20000 in
theorem gX4_hear_X1_has : GoodIn wsX4_hear (wsV RX4 59 RX1 yX1_has wsX1_has) := goodIn_app (goodIn_of _ (by decide +kernel)) ggX4_hear_X1_has
set_option maxRecDepth 20000 in
theorem ggX4_hear_X4_isOfKind : GoodIn wsX4_hear wsX4_isOfKind := goodIn_r _ [12, 1, 13, 19, 20, 21, 22, 23, 24, 25, 26, 27, 28, 29, 30, 31, 32] (by decide +kernel) (by decide +kernel)
set_option maxRecDepth 20000 in
theorem gX4_hear_X4_isOfKind : GoodIn wsX4_hear (wsV RX4 227 RX4 yX4_isOfKind wsX4_isOfKind) := goodIn_app (goodIn_of _ (by decide +kernel)) ggX4_hear_X4_isOfKind
set_option maxRecDepth 20000 in
theorem ggX4_hear_X4_leave : GoodIn wsX4_hear wsX4_leave := goodIn_r _ [17, 18, 19, 20, 21, 22, 23, 24] (by decide +kernel) (by decide +kernel)
set_option maxRecDepth 20000 in
theorem gX4_hear_X4_leave : GoodIn wsX4_hear (wsV RX4 239 RX4 yX4_leave wsX4_leave) := goodIn_app (goodIn_of _ (by decide +kernel)) ggX4_hear_X4_leave
set_option maxRecDepth 20000 in
theorem ggX4_as_X1_has : GoodIn wsX4_as wsX1_has := goodIn_r _ [7, 8, 25, 26, 27, 28, 29, 30, 31, 32] (by decide +kernel) (by decide +kernel)
set_option maxRecDepth 20000 in
theorem gX4_as_X1_has : GoodIn wsX4_as (wsV RX4 59 RX1 yX1_has wsX1_has) := goodIn_app (goodIn_of _ (by decide +kernel)) ggX4_as_X1_has
set_option maxRecDepth 20000 in
theorem ggX4_as_X4_isOfKind : GoodIn wsX4_as wsX4_isOfKind := goodIn_r _ [13, 2, 14, 19, 20, 21, 22, 23, 24, 25, 26, 27, 28, 29, 30, 31, 32] (by decide +kernel) (by decide +kernel)
set_option maxRecDepth 20000 in
theorem gX4_as_X4_isOfKind : GoodIn wsX4_as (wsV RX4 227 RX4 yX4_isOfKind wsX4_isOfKind) := goodIn_app (goodIn_of _ (by decide +kernel)) ggX4_as_X4_isOfKind
set_option maxRecDepth 20000 in
theorem ggX4_as_X4_comeTo : GoodIn wsX4_as wsX4_comeTo := goodIn_r _ [18, 1, 19, 20, 21, 22, 23, 24] (by decide +kernel) (by decide +kernel)
set_option maxRecDepth 20000 in
theorem gX4_as_X4_comeTo : GoodIn wsX4_as (wsV RX4 97 RX4 yX4_comeTo wsX4_comeTo) := goodIn_app (goodIn_of _ (by decide +kernel)) ggX4_as_X4_comeTo
set_option maxRecDepth 20000 in
theorem ggX4_told_X4_unlikeAtRest : GoodIn wsX4_told wsX4_unlikeAtRest := goodIn_r _ [8, 9, 10, 11, 12, 13, 14, 15, 16, 17, 18, 19, 20, 21, 22, 23, 24, 25, 26, 27, 28, 29, 30, 31, 32, 33, 34, 35, 36, 37, 38, 39, 40, 41, 42, 43, 44, 45, 46, 47, 48, 49, 50, 51, 52, 53, 54, 55, 7, 56, 57, 58, 59, 60, 83, 84, 85, 86, 87, 88, 97, 98, 99, 100, 101, 102, 103, 89, 90, 91, 92, 93, 94, 95, 96] (by decide +kernel) (by decide +kernel)
set_option maxRecDepth 20000 in
theorem gX4_told_X4_unlikeAtRest : GoodIn wsX4_told (wsV RX4 170 RX4 yX4_unlikeAtRest wsX4_unlikeAtRest) := goodIn_app (goodIn_of _ (by decide +kernel)) ggX4_told_X4_unlikeAtRest
set_option maxRecDepth 20000 in
theorem ggX4_told_X1_ends : GoodIn wsX4_told wsX1_ends := goodIn_r _ [65, 66, 67, 89, 90, 91, 92, 93, 94, 95, 96] (by decide +kernel) (by decide +kernel)
set_option maxRecDepth 20000 in
theorem gX4_told_X1_ends : GoodIn wsX4_told (wsV RX4 245 RX1 yX1_ends wsX1_ends) := goodIn_app (goodIn_of _ (by decide +kernel)) ggX4_told_X1_ends
set_option maxRecDepth 20000 in
theorem ggX4_told_X1_measure : GoodIn wsX4_told wsX1_measure := goodIn_r _ [71, 72, 66, 73, 74, 75, 76, 77, 78, 79, 80, 64, 81, 67, 82, 55, 7, 56, 59, 60, 89, 90, 91, 92, 93, 94, 95, 96] (by decide +kernel) (by decide +kernel)
set_option maxRecDepth 20000 in
theorem gX4_told_X1_measure : GoodIn wsX4_told (wsV RX4 144 RX1 yX1_measure wsX1_measure) := goodIn_app (goodIn_of _ (by decide +kernel)) ggX4_told_X1_measure
set_option maxRecDepth 20000 in
theorem ggX4_netIsNew_X2_forget : GoodIn wsX4_netIsNew wsX2_forget := goodIn_r _ [8, 9, 26, 27, 28, 29, 30, 31, 32] (by decide +kernel) (by decide +kernel)
set_option maxRecDepth 20000 in
theorem gX4_netIsNew_X2_forget : GoodIn wsX4_netIsNew (wsV RX4 66 RX2 yX2_forget wsX2_forget) := goodIn_app (goodIn_of _ (by decide +kernel)) ggX4_netIsNew_X2_forget
set_option maxRecDepth 20000 in
theorem ggX4_hangsTogether_X1_measure : GoodIn wsX4_hangsTogether wsX1_measure := goodIn_r _ [7, 8, 9, 10, 11, 12, 13, 14, 15, 16, 17, 6, 18, 19, 20, 21, 22, 23, 24, 25, 32, 33, 34, 35, 36, 37, 38, 39] (by decide +kernel) (by decide +kernel)
set_option maxRecDepth 20000 in
theorem gX4_hangsTogether_X1_measure : GoodIn wsX4_hangsTogether (wsV RX4 144 RX1 yX1_measure wsX1_measure) := goodIn_app (goodIn_of _ (by decide +kernel)) ggX4_hangsTogether_X1_measure
set_option maxRecDepth 20000 in
theorem ggX4_unlikeAtRest_X2_unlikeAt : GoodIn wsX4_unlikeAtRest wsX2_unlikeAt := goodIn_r _ [6, 7, 8, 9, 10, 11, 12, 13, 14, 15, 5, 16, 17, 18, 19, 20, 21, 22, 23, 24, 25, 26, 27, 28, 29, 30, 31, 32, 33, 34, 35, 36, 37, 38, 39, 40, 41, 42, 43, 44, 45, 46, 47, 48, 49, 50, 51, 52, 53, 60, 61, 62, 63, 64, 65, 66, 67, 68, 69, 70, 71, 72, 73, 74] (by decide +kernel) (by decide +kernel)
set_option maxRecDepth 20000 in
theorem gX4_unlikeAtRest_X2_unlikeAt : GoodIn wsX4_unlikeAtRest (wsV RX4 164 RX2 yX2_unlikeAt wsX2_unlikeAt) := goodIn_app (goodIn_of _ (by decide +kernel)) ggX4_unlikeAtRest_X2_unlikeAt
set_option maxRecDepth 20000 in
theorem ggX4_rowsWithOneGreatest_X4_power : GoodIn wsX4_rowsWithOneGreatest wsX4_power := goodIn_r _ [4] (by decide +kernel) (by decide +kernel)
set_option maxRecDepth 20000 in
theorem gX4_rowsWithOneGreatest_X4_power : GoodIn wsX4_rowsWithOneGreatest (va_wsS RX4 201 yX4_power wsX4_power) := goodIn_app (goodIn_of _ (by decide +kernel)) ggX4_rowsWithOneGreatest_X4_power
set_option maxRecDepth 20000 in
theorem ggX4_tellAsPost_X4_leave : GoodIn wsX4_tellAsPost wsX4_leave := goodIn_r _ [7, 8, 9, 10, 11, 12, 13, 14] (by decide +kernel) (by decide +kernel)
set_option maxRecDepth 20000 in
theorem gX4_tellAsPost_X4_leave : GoodIn wsX4_tellAsPost (wsV RX4 239 RX4 yX4_leave wsX4_leave) := goodIn_app (goodIn_of _ (by decide +kernel)) ggX4_tellAsPost_X4_leave
set_option maxRecDepth 20000 in
theorem ggX4_tellAsJoined_X4_leave : GoodIn wsX4_tellAsJoined wsX4_leave := goodIn_r _ [7, 8, 14, 15, 16, 17, 18, 19] (by decide +kernel) (by decide +kernel)
set_option maxRecDepth 20000 in
theorem gX4_tellAsJoined_X4_leave : GoodIn wsX4_tellAsJoined (wsV RX4 239 RX4 yX4_leave wsX4_leave) := goodIn_app (goodIn_of _ (by decide +kernel)) ggX4_tellAsJoined_X4_leave
set_option maxRecDepth 20000 in
theorem ggX4_tellAsJoined_X4_tellAsPost : GoodIn wsX4_tellAsJoined wsX4_tellAsPost := goodIn_r _ [12, 1, 13, 3, 4, 5, 6, 7, 8, 14, 15, 16, 17, 18, 19, 20, 21, 22, 23, 24, 25, 26, 27] (by decide +kernel) (by decide +kernel)
set_option maxRecDepth 20000 in
theorem gX4_tellAsJoined_X4_tellAsPost : GoodIn wsX4_tellAsJoined (wsV RX4 236 RX4 yX4_tellAsPost wsX4_tellAsPost) := goodIn_app (goodIn_of _ (by decide +kernel)) ggX4_tellAsJoined_X4_tellAsPost
set_option maxRecDepth 20000 in
theorem ggX4_tellAsEnd_X4_leave : GoodIn wsX4_tellAsEnd wsX4_leave := goodIn_r _ [5, 6, 13, 14, 15, 16, 17, 18] (by decide +kernel) (by decide +kernel)
set_option maxRecDepth 20000 in
theorem gX4_tellAsEnd_X4_leave : GoodIn wsX4_tellAsEnd (wsV RX4 239 RX4 yX4_leave wsX4_leave) := goodIn_app (goodIn_of _ (by decide +kernel)) ggX4_tellAsEnd_X4_leave
set_option maxRecDepth 20000 in
theorem ggX4_tellAsEnd_X4_tellAsPost : GoodIn wsX4_tellAsEnd wsX4_tellAsPost := goodIn_r _ [10, 11, 12, 1, 2, 3, 4, 5, 6, 13, 14, 15, 16, 17, 18, 19, 20, 21, 22, 23, 24, 25, 26] (by decide +kernel) (by decide +kernel)
set_option maxRecDepth 20000 in
theorem gX4_tellAsEnd_X4_tellAsPost : GoodIn wsX4_tellAsEnd (wsV RX4 236 RX4 yX4_tellAsPost wsX4_tellAsPost) := goodIn_app (goodIn_of _ (by decide +kernel)) ggX4_tellAsEnd_X4_tellAsPost
