set_option maxRecDepth 20000 in
theorem ggX5_failedLong_X5_lost : GoodIn wsX5_failedLong wsX5_lost := goodIn_r _ [5, 6] (by decide +kernel) (by decide +kernel)
set_option maxRecDepth 20000 in
theorem gX5_failedLong_X5_lost : GoodIn wsX5_failedLong (va_wsS RX5 70 yX5_lost wsX5_lost) := goodIn_app (goodIn_of _ (by decide +kernel)) ggX5_failedLong_X5_lost
set_option maxRecDepth 20000 in
theorem ggX5_noPost_X5_in : GoodIn wsX5_noPost wsX5_in := goodIn_r _ [5] (by decide +kernel) (by decide +kernel)
set_option maxRecDepth 20000 in
theorem gX5_noPost_X5_in : GoodIn wsX5_noPost (va_wsS RX5 77 yX5_in wsX5_in) := goodIn_app (goodIn_of _ (by decide +kernel)) ggX5_noPost_X5_in
set_option maxRecDepth 20000 in
theorem ggX5_noPort_X5_noPost : GoodIn wsX5_noPort wsX5_noPost := goodIn_r _ [6, 7, 8, 9, 5, 10, 11, 12, 13, 14, 15, 16, 17, 18, 19, 20, 21, 22, 23, 24, 25, 26, 27, 28, 29, 30, 31, 32, 33, 34, 35, 36, 37] (by decide +kernel) (by decide +kernel)
set_option maxRecDepth 20000 in
theorem gX5_noPort_X5_noPost : GoodIn wsX5_noPort (wsV RX5 81 RX5 yX5_noPost wsX5_noPost) := goodIn_app (goodIn_of _ (by decide +kernel)) ggX5_noPort_X5_noPost
set_option maxRecDepth 20000 in
theorem ggX5_noPort_X5_in : GoodIn wsX5_noPort wsX5_in := goodIn_r _ [10] (by decide +kernel) (by decide +kernel)
set_option maxRecDepth 20000 in
theorem gX5_noPort_X5_in : GoodIn wsX5_noPort (va_wsS RX5 77 yX5_in wsX5_in) := goodIn_app (goodIn_of _ (by decide +kernel)) ggX5_noPort_X5_in
set_option maxRecDepth 20000 in
theorem ggX5_clear_X5_other : GoodIn wsX5_clear wsX5_other := goodIn_r _ [7, 8, 9, 10, 11, 12, 13, 14, 15, 16, 17, 18, 19, 20, 21, 22, 23, 24, 25, 26, 27, 28, 29, 30, 31, 32, 33, 34, 35, 36] (by decide +kernel) (by decide +kernel)
set_option maxRecDepth 20000 in
theorem gX5_clear_X5_other : GoodIn wsX5_clear (wsV RX5 95 RX5 yX5_other wsX5_other) := goodIn_app (goodIn_of _ (by decide +kernel)) ggX5_clear_X5_other
set_option maxRecDepth 20000 in
theorem ggX5_post_X5_in : GoodIn wsX5_post wsX5_in := goodIn_r _ [6] (by decide +kernel) (by decide +kernel)
set_option maxRecDepth 20000 in
theorem gX5_post_X5_in : GoodIn wsX5_post (va_wsS RX5 77 yX5_in wsX5_in) := goodIn_app (goodIn_of _ (by decide +kernel)) ggX5_post_X5_in
set_option maxRecDepth 20000 in
theorem ggX5_post_X5_addPost : GoodIn wsX5_post wsX5_addPost := goodIn_r _ [10, 11, 2, 12, 19, 20, 21, 22, 23, 24, 25, 26, 27, 28, 29, 30, 31, 32, 33, 34, 35, 36, 37, 38, 39, 40, 41, 42, 43, 44, 45] (by decide +kernel) (by decide +kernel)
set_option maxRecDepth 20000 in
theorem gX5_post_X5_addPost : GoodIn wsX5_post (wsV RX5 100 RX5 yX5_addPost wsX5_addPost) := goodIn_app (goodIn_of _ (by decide +kernel)) ggX5_post_X5_addPost
set_option maxRecDepth 20000 in
theorem ggX5_post_X5_other : GoodIn wsX5_post wsX5_other := goodIn_r _ [16, 17, 18, 19, 20, 21, 22, 23, 24, 25, 26, 27, 28, 29, 30, 31, 32, 33, 34, 35, 36, 37, 38, 39, 40, 41, 42, 43, 44, 45] (by decide +kernel) (by decide +kernel)
set_option maxRecDepth 20000 in
theorem gX5_post_X5_other : GoodIn wsX5_post (wsV RX5 95 RX5 yX5_other wsX5_other) := goodIn_app (goodIn_of _ (by decide +kernel)) ggX5_post_X5_other
set_option maxRecDepth 20000 in
theorem ggX5_mark_X5_noPost : GoodIn wsX5_mark wsX5_noPost := goodIn_r _ [8, 9, 10, 11, 7, 12, 13, 14, 15, 16, 17, 18, 19, 20, 21, 22, 23, 24, 25, 26, 27, 28, 29, 30, 31, 32, 33, 34, 35, 36, 37, 38, 39] (by decide +kernel) (by decide +kernel)
set_option maxRecDepth 20000 in
theorem gX5_mark_X5_noPost : GoodIn wsX5_mark (wsV RX5 81 RX5 yX5_noPost wsX5_noPost) := goodIn_app (goodIn_of _ (by decide +kernel)) ggX5_mark_X5_noPost
set_option maxRecDepth 20000 in
theorem ggX5_mark_X5_in : GoodIn wsX5_mark wsX5_in := goodIn_r _ [12] (by decide +kernel) (by decide +kernel)
set_option maxRecDepth 20000 in
theorem gX5_mark_X5_in : GoodIn wsX5_mark (va_wsS RX5 77 yX5_in wsX5_in) := goodIn_app (goodIn_of _ (by decide +kernel)) ggX5_mark_X5_in
set_option maxRecDepth 20000 in
theorem ggX5_refusalOf_X5_noPost : GoodIn wsX5_refusalOf wsX5_noPost := goodIn_r _ [6, 7, 8, 9, 5, 10, 11, 12, 13, 14, 15, 16, 17, 18, 19, 20, 21, 22, 23, 24, 25, 26, 27, 28, 29, 30, 31, 32, 33, 34, 35, 36, 37] (by decide +kernel) (by decide +kernel)
set_option maxRecDepth 20000 in
theorem gX5_refusalOf_X5_noPost : GoodIn wsX5_refusalOf (wsV RX5 81 RX5 yX5_noPost wsX5_noPost) := goodIn_app (goodIn_of _ (by decide +kernel)) ggX5_refusalOf_X5_noPost
set_option maxRecDepth 20000 in
theorem ggX5_addLine_X5_link : GoodIn wsX5_addLine wsX5_link := goodIn_r _ [7, 8, 9, 10, 11, 12, 13, 14, 15, 16, 17, 18, 19, 20, 21, 22, 23, 24, 25, 26, 27, 28, 29, 30, 31, 32, 33, 34, 35, 36] (by decide +kernel) (by decide +kernel)
set_option maxRecDepth 20000 in
theorem gX5_addLine_X5_link : GoodIn wsX5_addLine (wsV RX5 104 RX5 yX5_link wsX5_link) := goodIn_app (goodIn_of _ (by decide +kernel)) ggX5_addLine_X5_link
set_option maxRecDepth 20000 in
theorem ggX5_line_X5_refusalOf : GoodIn wsX5_line wsX5_refusalOf := goodIn_r _ [6, 7, 8, 9, 10, 5, 11, 12, 13, 14, 15, 32, 33, 34, 35, 36, 37, 38, 39, 40, 41, 42, 43, 44, 45, 46, 47, 48, 49, 50, 51, 52, 53, 54, 55, 56, 57, 58] (by decide +kernel) (by decide +kernel)
set_option maxRecDepth 20000 in
theorem gX5_line_X5_refusalOf : GoodIn wsX5_line (wsV RX5 108 RX5 yX5_refusalOf wsX5_refusalOf) := goodIn_app (goodIn_of _ (by decide +kernel)) ggX5_line_X5_refusalOf
set_option maxRecDepth 20000 in
theorem ggX5_line_X5_addLine : GoodIn wsX5_line wsX5_addLine := goodIn_r _ [19, 7, 1, 20, 21, 22, 5, 23, 24, 25, 32, 33, 34, 35, 36, 37, 38, 39, 40, 41, 42, 43, 44, 45, 46, 47, 48, 49, 50, 51, 52, 53, 54, 55, 56, 57, 58] (by decide +kernel) (by decide +kernel)
set_option maxRecDepth 20000 in
theorem gX5_line_X5_addLine : GoodIn wsX5_line (wsV RX5 112 RX5 yX5_addLine wsX5_addLine) := goodIn_app (goodIn_of _ (by decide +kernel)) ggX5_line_X5_addLine
set_option maxRecDepth 20000 in
theorem ggX5_line_X5_other : GoodIn wsX5_line wsX5_other := goodIn_r _ [29, 30, 31, 32, 33, 34, 35, 36, 37, 38, 39, 40, 41, 42, 43, 44, 45, 46, 47, 48, 49, 50, 51, 52, 53, 54, 55, 56, 57, 58] (by decide +kernel) (by decide +kernel)
set_option maxRecDepth 20000 in
theorem gX5_line_X5_other : GoodIn wsX5_line (wsV RX5 95 RX5 yX5_other wsX5_other) := goodIn_app (goodIn_of _ (by decide +kernel)) ggX5_line_X5_other
set_option maxRecDepth 20000 in
theorem ggX5_swap_X5_noPort : GoodIn wsX5_swap wsX5_noPort := goodIn_r _ [7, 8, 9, 10, 11, 6, 12, 13, 14, 15, 16, 27, 28, 29, 30, 31, 32, 33, 34, 35, 36, 37, 38, 39, 40, 41, 42, 43, 44, 45, 46, 47, 48, 49, 50, 51, 52, 53] (by decide +kernel) (by decide +kernel)
set_option maxRecDepth 20000 in
theorem gX5_swap_X5_noPort : GoodIn wsX5_swap (wsV RX5 116 RX5 yX5_noPort wsX5_noPort) := goodIn_app (goodIn_of _ (by decide +kernel)) ggX5_swap_X5_noPort
set_option maxRecDepth 20000 in
theorem ggX5_swap_X5_link : GoodIn wsX5_swap wsX5_link := goodIn_r _ [20, 1, 2, 27, 28, 29, 30, 31, 32, 33, 34, 35, 36, 37, 38, 39, 40, 41, 42, 43, 44, 45, 46, 47, 48, 49, 50, 51, 52, 53] (by decide +kernel) (by decide +kernel)
set_option maxRecDepth 20000 in
theorem gX5_swap_X5_link : GoodIn wsX5_swap (wsV RX5 104 RX5 yX5_link wsX5_link) := goodIn_app (goodIn_of _ (by decide +kernel)) ggX5_swap_X5_link
set_option maxRecDepth 20000 in
theorem ggX5_swap_X5_other : GoodIn wsX5_swap wsX5_other := goodIn_r _ [24, 25, 26, 27, 28, 29, 30, 31, 32, 33, 34, 35, 36, 37, 38, 39, 40, 41, 42, 43, 44, 45, 46, 47, 48, 49, 50, 51, 52, 53] (by decide +kernel) (by decide +kernel)
set_option maxRecDepth 20000 in
theorem gX5_swap_X5_other : GoodIn wsX5_swap (wsV RX5 95 RX5 yX5_other wsX5_other) := goodIn_app (goodIn_of _ (by decide +kernel)) ggX5_swap_X5_other
set_option maxRecDepth 20000 in
theorem ggX5_end_X5_noPort : GoodIn wsX5_end wsX5_noPort := goodIn_r _ [7, 8, 9, 10, 11, 6, 12, 13, 14, 15, 16, 17, 18, 19, 20, 21, 22, 23, 24, 25, 26, 27, 28, 29, 30, 31, 32, 33, 34, 35, 36, 37, 38, 39, 40, 41, 42, 43] (by decide +kernel) (by decide +kernel)
set_option maxRecDepth 20000 in
theorem gX5_end_X5_noPort : GoodIn wsX5_end (wsV RX5 116 RX5 yX5_noPort wsX5_noPort) := goodIn_app (goodIn_of _ (by decide +kernel)) ggX5_end_X5_noPort
set_option maxRecDepth 20000 in
theorem ggX5_doubled_X5_noPort : GoodIn wsX5_doubled wsX5_noPort := goodIn_r _ [11, 3, 12, 13, 14, 10, 15, 1, 16, 17, 18, 33, 34, 35, 36, 37, 38, 39, 40, 41, 42, 43, 44, 45, 46, 47, 48, 49, 50, 51, 52, 53, 54, 55, 56, 57, 58, 59] (by decide +kernel) (by decide +kernel)
set_option maxRecDepth 20000 in
theorem gX5_doubled_X5_noPort : GoodIn wsX5_doubled (wsV RX5 116 RX5 yX5_noPort wsX5_noPort) := goodIn_app (goodIn_of _ (by decide +kernel)) ggX5_doubled_X5_noPort
set_option maxRecDepth 20000 in
theorem ggX5_doubled_X5_addPost : GoodIn wsX5_doubled wsX5_addPost := goodIn_r _ [22, 2, 1, 3, 33, 34, 35, 36, 37, 38, 39, 40, 41, 42, 43, 44, 45, 46, 47, 48, 49, 50, 51, 52, 53, 54, 55, 56, 57, 58, 59] (by decide +kernel) (by decide +kernel)
set_option maxRecDepth 20000 in
theorem gX5_doubled_X5_addPost : GoodIn wsX5_doubled (wsV RX5 100 RX5 yX5_addPost wsX5_addPost) := goodIn_app (goodIn_of _ (by decide +kernel)) ggX5_doubled_X5_addPost
set_option maxRecDepth 20000 in
theorem ggX5_doubled_X5_link : GoodIn wsX5_doubled wsX5_link := goodIn_r _ [26, 4, 5, 33, 34, 35, 36, 37, 38, 39, 40, 41, 42, 43, 44, 45, 46, 47, 48, 49, 50, 51, 52, 53, 54, 55, 56, 57, 58, 59] (by decide +kernel) (by decide +kernel)
set_option maxRecDepth 20000 in
theorem gX5_doubled_X5_link : GoodIn wsX5_doubled (wsV RX5 104 RX5 yX5_link wsX5_link) := goodIn_app (goodIn_of _ (by decide +kernel)) ggX5_doubled_X5_link
set_option maxRecDepth 20000 in
theorem ggX5_doubled_X5_other : GoodIn wsX5_doubled wsX5_other := goodIn_r _ [30, 31, 32, 33, 34, 35, 36, 37, 38, 39, 40, 41, 42, 43, 44, 45, 46, 47, 48, 49, 50, 51, 52, 53, 54, 55, 56, 57, 58, 59] (by decide +kernel) (by decide +kernel)
set_option maxRecDepth 20000 in
theorem gX5_doubled_X5_other : GoodIn wsX5_doubled (wsV RX5 95 RX5 yX5_other wsX5_other) := goodIn_app (goodIn_of _ (by decide +kernel)) ggX5_doubled_X5_other
set_option maxRecDepth 20000 in
theorem ggX5_together_X5_reach : GoodIn wsX5_together wsX5_reach := goodIn_r _ [6, 1, 7, 8, 9, 10, 11, 12, 13, 14, 15, 16, 17, 18, 19, 20, 21, 22, 23, 24, 25, 26, 27, 28, 29, 30, 31, 32, 33, 34, 35, 36] (by decide +kernel) (by decide +kernel)
set_option maxRecDepth 20000 in
theorem gX5_together_X5_reach : GoodIn wsX5_together (wsV RX5 120 RX5 yX5_reach wsX5_reach) := goodIn_app (goodIn_of _ (by decide +kernel)) ggX5_together_X5_reach
set_option maxRecDepth 20000 in
theorem ggX5_compare_X5_compareTwo : GoodIn wsX5_compare wsX5_compareTwo := goodIn_r _ [9] (by decide +kernel) (by decide +kernel)
set_option maxRecDepth 20000 in
theorem gX5_compare_X5_compareTwo : GoodIn wsX5_compare (va_wsS RX5 124 yX5_compareTwo wsX5_compareTwo) := goodIn_app (goodIn_of _ (by decide +kernel)) ggX5_compare_X5_compareTwo
set_option maxRecDepth 20000 in
theorem ggX5_rankAt_X5_compare : GoodIn wsX5_rankAt wsX5_compare := goodIn_r _ [9, 10, 11, 3, 12, 13, 14, 15, 8, 16, 17, 18, 19, 20, 21, 22, 23, 24, 25, 26, 27, 28, 29, 30, 31, 32, 33, 34, 35, 36, 37, 38, 39, 40, 41, 42, 43] (by decide +kernel) (by decide +kernel)
set_option maxRecDepth 20000 in
theorem gX5_rankAt_X5_compare : GoodIn wsX5_rankAt (wsV RX5 127 RX5 yX5_compare wsX5_compare) := goodIn_app (goodIn_of _ (by decide +kernel)) ggX5_rankAt_X5_compare
set_option maxRecDepth 20000 in
theorem ggX5_rankAll_X5_rankAt : GoodIn wsX5_rankAll wsX5_rankAt := goodIn_r _ [9, 3, 10, 4, 11, 12, 13, 14, 8, 15, 16, 17, 18, 19, 20, 21, 22, 23, 24, 25, 26, 27, 28, 29, 30, 31, 32, 33, 34, 35, 36, 37, 38, 39, 40, 41, 42, 43, 44, 45, 46, 47, 48, 49] (by decide +kernel) (by decide +kernel)
set_option maxRecDepth 20000 in
theorem gX5_rankAll_X5_rankAt : GoodIn wsX5_rankAll (wsV RX5 134 RX5 yX5_rankAt wsX5_rankAt) := goodIn_app (goodIn_of _ (by decide +kernel)) ggX5_rankAll_X5_rankAt
set_option maxRecDepth 20000 in
theorem ggX5_rank_X5_noPost : GoodIn wsX5_rank wsX5_noPost := goodIn_r _ [7, 8, 9, 10, 6, 11, 35, 36, 37, 38, 39, 40, 41, 42, 43, 44, 45, 46, 47, 48, 49, 50, 51, 52, 53, 54, 55, 56, 57, 58, 59, 60, 61] (by decide +kernel) (by decide +kernel)
set_option maxRecDepth 20000 in
theorem gX5_rank_X5_noPost : GoodIn wsX5_rank (wsV RX5 81 RX5 yX5_noPost wsX5_noPost) := goodIn_app (goodIn_of _ (by decide +kernel)) ggX5_rank_X5_noPost
set_option maxRecDepth 20000 in
theorem ggX5_rank_X5_in : GoodIn wsX5_rank wsX5_in := goodIn_r _ [11] (by decide +kernel) (by decide +kernel)
set_option maxRecDepth 20000 in
theorem gX5_rank_X5_in : GoodIn wsX5_rank (va_wsS RX5 77 yX5_in wsX5_in) := goodIn_app (goodIn_of _ (by decide +kernel)) ggX5_rank_X5_in
set_option maxRecDepth 20000 in
theorem ggX5_rank_X5_rankAll : GoodIn wsX5_rank wsX5_rankAll := goodIn_r _ [15, 16, 17, 8, 2, 18, 19, 20, 6, 21, 22, 23, 24, 25, 26, 27, 28, 29, 30, 31, 32, 33, 34, 35, 36, 37, 38, 39, 40, 41, 42, 43, 44, 45, 46, 47, 48, 49, 50, 51, 52, 53, 54, 55, 56, 57, 58, 59, 60, 61] (by decide +kernel) (by decide +kernel)
set_option maxRecDepth 20000 in
theorem gX5_rank_X5_rankAll : GoodIn wsX5_rank (wsV RX5 139 RX5 yX5_rankAll wsX5_rankAll) := goodIn_app (goodIn_of _ (by decide +kernel)) ggX5_rank_X5_rankAll
set_option maxRecDepth 20000 in
theorem ggX5_rest_X5_rankAll : GoodIn wsX5_rest wsX5_rankAll := goodIn_r _ [7, 8, 2, 1, 9, 10, 11, 12, 6, 13, 14, 15, 16, 17, 18, 19, 20, 21, 22, 23, 24, 25, 26, 27, 28, 29, 30, 31, 32, 33, 34, 35, 36, 37, 38, 39, 40, 41, 42, 43, 44, 45, 46, 47, 48, 49, 50, 51, 52, 53] (by decide +kernel) (by decide +kernel)
set_option maxRecDepth 20000 in
theorem gX5_rest_X5_rankAll : GoodIn wsX5_rest (wsV RX5 139 RX5 yX5_rankAll wsX5_rankAll) := goodIn_app (goodIn_of _ (by decide +kernel)) ggX5_rest_X5_rankAll
set_option maxRecDepth 20000 in
theorem ggX5_ranks_X5_in : GoodIn wsX5_ranks wsX5_in := goodIn_r _ [6] (by decide +kernel) (by decide +kernel)
set_option maxRecDepth 20000 in
theorem gX5_ranks_X5_in : GoodIn wsX5_ranks (va_wsS RX5 77 yX5_in wsX5_in) := goodIn_app (goodIn_of _ (by decide +kernel)) ggX5_ranks_X5_in
set_option maxRecDepth 20000 in
theorem ggX5_ranks_X5_rankAll : GoodIn wsX5_ranks wsX5_rankAll := goodIn_r _ [10, 11, 12, 13, 14, 15, 16, 17, 5, 18, 19, 2, 20, 21, 22, 23, 24, 25, 26, 27, 28, 29, 30, 31, 32, 33, 34, 35, 36, 37, 38, 39, 40, 41, 42, 43, 44, 45, 46, 47, 48, 49, 50, 51, 52, 53, 54, 55, 56, 57] (by decide +kernel) (by decide +kernel)
set_option maxRecDepth 20000 in
theorem gX5_ranks_X5_rankAll : GoodIn wsX5_ranks (wsV RX5 139 RX5 yX5_rankAll wsX5_rankAll) := goodIn_app (goodIn_of _ (by decide +kernel)) ggX5_ranks_X5_rankAll
set_option maxRecDepth 20000 in
theorem ggX5_apart_X5_noPost : GoodIn wsX5_apart wsX5_noPost := goodIn_r _ [7, 8, 9, 10, 6, 11, 34, 35, 36, 37, 38, 39, 40, 41, 42, 43, 44, 45, 46, 47, 48, 49, 50, 51, 52, 53, 54, 55, 56, 57, 58, 59, 60] (by decide +kernel) (by decide +kernel)
set_option maxRecDepth 20000 in
theorem gX5_apart_X5_noPost : GoodIn wsX5_apart (wsV RX5 81 RX5 yX5_noPost wsX5_noPost) := goodIn_app (goodIn_of _ (by decide +kernel)) ggX5_apart_X5_noPost
set_option maxRecDepth 20000 in
theorem ggX5_apart_X5_rankAll : GoodIn wsX5_apart wsX5_rankAll := goodIn_r _ [15, 16, 1, 8, 2, 17, 18, 19, 6, 20, 21, 22, 23, 24, 25, 26, 27, 28, 29, 30, 31, 32, 33, 34, 35, 36, 37, 38, 39, 40, 41, 42, 43, 44, 45, 46, 47, 48, 49, 50, 51, 52, 53, 54, 55, 56, 57, 58, 59, 60] (by decide +kernel) (by decide +kernel)
set_option maxRecDepth 20000 in
theorem gX5_apart_X5_rankAll : GoodIn wsX5_apart (wsV RX5 139 RX5 yX5_rankAll wsX5_rankAll) := goodIn_app (goodIn_of _ (by decide +kernel)) ggX5_apart_X5_rankAll
set_option maxRecDepth 20000 in
theorem ggX5_chosen_X5_together : GoodIn wsX5_chosen wsX5_together := goodIn_r _ [8, 3, 9, 10, 11, 7, 12, 13, 14, 15, 40, 41, 42, 43, 44, 45, 46, 47, 48, 49, 50, 51, 52, 53, 54, 55, 56, 57, 58, 59, 60, 61, 62, 63, 64, 65, 66] (by decide +kernel) (by decide +kernel)
set_option maxRecDepth 20000 in
theorem gX5_chosen_X5_together : GoodIn wsX5_chosen (wsV RX5 142 RX5 yX5_together wsX5_together) := goodIn_app (goodIn_of _ (by decide +kernel)) ggX5_chosen_X5_together
set_option maxRecDepth 20000 in
theorem ggX5_chosen_X5_rankAll : GoodIn wsX5_chosen wsX5_rankAll := goodIn_r _ [19, 20, 2, 3, 21, 22, 23, 24, 7, 25, 26, 1, 27, 28, 29, 30, 31, 14, 32, 15, 33, 34, 35, 40, 41, 42, 43, 44, 45, 46, 47, 48, 49, 50, 51, 52, 53, 54, 55, 56, 57, 58, 59, 60, 61, 62, 63, 64, 65, 66] (by decide +kernel) (by decide +kernel)
set_option maxRecDepth 20000 in
theorem gX5_chosen_X5_rankAll : GoodIn wsX5_chosen (wsV RX5 139 RX5 yX5_rankAll wsX5_rankAll) := goodIn_app (goodIn_of _ (by decide +kernel)) ggX5_chosen_X5_rankAll
set_option maxRecDepth 20000 in
theorem ggX5_chosen_X5_restRank : GoodIn wsX5_chosen wsX5_restRank := goodIn_r _ [39, 21, 2, 40, 41, 42, 43, 44, 45, 46, 47, 48, 49, 50, 51, 52, 53, 54, 55, 56, 57, 58, 59, 60, 61, 62, 63, 64, 65, 66] (by decide +kernel) (by decide +kernel)
set_option maxRecDepth 20000 in
theorem gX5_chosen_X5_restRank : GoodIn wsX5_chosen (wsV RX5 145 RX5 yX5_restRank wsX5_restRank) := goodIn_app (goodIn_of _ (by decide +kernel)) ggX5_chosen_X5_restRank
set_option maxRecDepth 20000 in
theorem ggX5_kindred_X5_restRank : GoodIn wsX5_kindred wsX5_restRank := goodIn_r _ [6, 7, 8, 9, 10, 11, 12, 13, 14, 15, 16, 17, 18, 19, 20, 21, 22, 23, 24, 25, 26, 27, 28, 29, 30, 31, 32, 33, 34, 35] (by decide +kernel) (by decide +kernel)
set_option maxRecDepth 20000 in
theorem gX5_kindred_X5_restRank : GoodIn wsX5_kindred (wsV RX5 145 RX5 yX5_restRank wsX5_restRank) := goodIn_app (goodIn_of _ (by decide +kernel)) ggX5_kindred_X5_restRank
set_option maxRecDepth 20000 in
theorem ggX5_about_X5_noPost : GoodIn wsX5_about wsX5_noPost := goodIn_r _ [8, 9, 10, 11, 7, 12, 47, 48, 49, 50, 51, 52, 53, 54, 55, 56, 57, 58, 59, 60, 61, 62, 63, 64, 65, 66, 67, 68, 69, 70, 71, 72, 73] (by decide +kernel) (by decide +kernel)
set_option maxRecDepth 20000 in
theorem gX5_about_X5_noPost : GoodIn wsX5_about (wsV RX5 81 RX5 yX5_noPost wsX5_noPost) := goodIn_app (goodIn_of _ (by decide +kernel)) ggX5_about_X5_noPost
set_option maxRecDepth 20000 in
theorem ggX5_about_X5_rankAll : GoodIn wsX5_about wsX5_rankAll := goodIn_r _ [16, 17, 18, 9, 19, 20, 21, 22, 7, 23, 24, 25, 26, 27, 28, 29, 1, 2, 30, 31, 32, 33, 34, 47, 48, 49, 50, 51, 52, 53, 54, 55, 56, 57, 58, 59, 60, 61, 62, 63, 64, 65, 66, 67, 68, 69, 70, 71, 72, 73] (by decide +kernel) (by decide +kernel)
set_option maxRecDepth 20000 in
theorem gX5_about_X5_rankAll : GoodIn wsX5_about (wsV RX5 139 RX5 yX5_rankAll wsX5_rankAll) := goodIn_app (goodIn_of _ (by decide +kernel)) ggX5_about_X5_rankAll
set_option maxRecDepth 20000 in
theorem ggX5_about_X5_restRank : GoodIn wsX5_about wsX5_restRank := goodIn_r _ [38, 19, 18, 47, 48, 49, 50, 51, 52, 53, 54, 55, 56, 57, 58, 59, 60, 61, 62, 63, 64, 65, 66, 67, 68, 69, 70, 71, 72, 73] (by decide +kernel) (by decide +kernel)
set_option maxRecDepth 20000 in
theorem gX5_about_X5_restRank : GoodIn wsX5_about (wsV RX5 145 RX5 yX5_restRank wsX5_restRank) := goodIn_app (goodIn_of _ (by decide +kernel)) ggX5_about_X5_restRank
set_option maxRecDepth 20000 in
theorem ggX5_about_X5_kindred : GoodIn wsX5_about wsX5_kindred := goodIn_r _ [42, 9, 35, 36, 37, 7, 38, 19, 18, 47, 48, 49, 50, 51, 52, 53, 54, 55, 56, 57, 58, 59, 60, 61, 62, 63, 64, 65, 66, 67, 68, 69, 70, 71, 72, 73] (by decide +kernel) (by decide +kernel)
set_option maxRecDepth 20000 in
theorem gX5_about_X5_kindred : GoodIn wsX5_about (wsV RX5 149 RX5 yX5_kindred wsX5_kindred) := goodIn_app (goodIn_of _ (by decide +kernel)) ggX5_about_X5_kindred
set_option maxRecDepth 20000 in
theorem ggX5_about_X5_reach : GoodIn wsX5_about wsX5_reach := goodIn_r _ [46, 9, 3, 2, 31, 47, 48, 49, 50, 51, 52, 53, 54, 55, 56, 57, 58, 59, 60, 61, 62, 63, 64, 65, 66, 67, 68, 69, 70, 71, 72, 73] (by decide +kernel) (by decide +kernel)
set_option maxRecDepth 20000 in
theorem gX5_about_X5_reach : GoodIn wsX5_about (wsV RX5 120 RX5 yX5_reach wsX5_reach) := goodIn_app (goodIn_of _ (by decide +kernel)) ggX5_about_X5_reach
set_option maxRecDepth 20000 in
theorem ggX5_come_X5_sendAll : GoodIn wsX5_come wsX5_sendAll := goodIn_r _ [13, 14, 1, 15, 16, 17, 18, 19, 20, 21, 22, 23, 24, 25, 26, 27, 28, 29, 30, 31, 32, 33, 34, 35, 36, 37, 38, 39, 40, 41] (by decide +kernel) (by decide +kernel)
set_option maxRecDepth 20000 in
theorem gX5_come_X5_sendAll : GoodIn wsX5_come (wsV RX5 167 RX5 yX5_sendAll wsX5_sendAll) := goodIn_app (goodIn_of _ (by decide +kernel)) ggX5_come_X5_sendAll
set_option maxRecDepth 20000 in
theorem ggX5_flood_X5_noPost : GoodIn wsX5_flood wsX5_noPost := goodIn_r _ [12, 13, 14, 15, 11, 16, 41, 42, 43, 44, 45, 46, 47, 48, 49, 50, 51, 52, 53, 54, 55, 56, 57, 58, 59, 60, 61, 62, 63, 64, 65, 66, 67] (by decide +kernel) (by decide +kernel)
set_option maxRecDepth 20000 in
theorem gX5_flood_X5_noPost : GoodIn wsX5_flood (wsV RX5 81 RX5 yX5_noPost wsX5_noPost) := goodIn_app (goodIn_of _ (by decide +kernel)) ggX5_flood_X5_noPost
set_option maxRecDepth 20000 in
theorem ggX5_flood_X5_sendAll : GoodIn wsX5_flood wsX5_sendAll := goodIn_r _ [20, 21, 3, 41, 42, 43, 44, 45, 46, 47, 48, 49, 50, 51, 52, 53, 54, 55, 56, 57, 58, 59, 60, 61, 62, 63, 64, 65, 66, 67] (by decide +kernel) (by decide +kernel)
set_option maxRecDepth 20000 in
theorem gX5_flood_X5_sendAll : GoodIn wsX5_flood (wsV RX5 167 RX5 yX5_sendAll wsX5_sendAll) := goodIn_app (goodIn_of _ (by decide +kernel)) ggX5_flood_X5_sendAll
set_option maxRecDepth 20000 in
theorem ggX5_flood_X5_onWay : GoodIn wsX5_flood wsX5_onWay := goodIn_r _ [25, 13, 3, 41, 42, 43, 44, 45, 46, 47, 48, 49, 50, 51, 52, 53, 54, 55, 56, 57, 58, 59, 60, 61, 62, 63, 64, 65, 66, 67] (by decide +kernel) (by decide +kernel)
set_option maxRecDepth 20000 in
theorem gX5_flood_X5_onWay : GoodIn wsX5_flood (wsV RX5 170 RX5 yX5_onWay wsX5_onWay) := goodIn_app (goodIn_of _ (by decide +kernel)) ggX5_flood_X5_onWay
set_option maxRecDepth 20000 in
theorem ggX5_flood_X5_numberBelow : GoodIn wsX5_flood wsX5_numberBelow := goodIn_r _ [29, 1, 30, 31, 32, 33, 41, 42, 43, 44, 45, 46, 47, 48, 49, 50, 51, 52, 53, 54, 55, 56, 57, 58, 59, 60, 61, 62, 63, 64, 65, 66, 67] (by decide +kernel) (by decide +kernel)
set_option maxRecDepth 20000 in
theorem gX5_flood_X5_numberBelow : GoodIn wsX5_flood (wsV RX5 173 RX5 yX5_numberBelow wsX5_numberBelow) := goodIn_app (goodIn_of _ (by decide +kernel)) ggX5_flood_X5_numberBelow
set_option maxRecDepth 20000 in
theorem ggX5_flood_X5_come : GoodIn wsX5_flood wsX5_come := goodIn_r _ [37, 3, 38, 39, 2, 6, 5, 4, 40, 17, 18, 19, 11, 20, 21, 41, 42, 43, 44, 45, 46, 47, 48, 49, 50, 51, 52, 53, 54, 55, 56, 57, 58, 59, 60, 61, 62, 63, 64, 65, 66, 67] (by decide +kernel) (by decide +kernel)
set_option maxRecDepth 20000 in
theorem gX5_flood_X5_come : GoodIn wsX5_flood (wsV RX5 176 RX5 yX5_come wsX5_come) := goodIn_app (goodIn_of _ (by decide +kernel)) ggX5_flood_X5_come
set_option maxRecDepth 20000 in
theorem ggX5_flooded_X5_noPost : GoodIn wsX5_flooded wsX5_noPost := goodIn_r _ [9, 10, 11, 12, 8, 13, 14, 15, 16, 17, 18, 19, 20, 21, 22, 23, 24, 25, 26, 27, 28, 29, 30, 31, 32, 33, 34, 35, 36, 37, 38, 39, 40] (by decide +kernel) (by decide +kernel)
set_option maxRecDepth 20000 in
theorem gX5_flooded_X5_noPost : GoodIn wsX5_flooded (wsV RX5 81 RX5 yX5_noPost wsX5_noPost) := goodIn_app (goodIn_of _ (by decide +kernel)) ggX5_flooded_X5_noPost
set_option maxRecDepth 20000 in
theorem ggX5_word_X5_in : GoodIn wsX5_word wsX5_in := goodIn_r _ [7] (by decide +kernel) (by decide +kernel)
set_option maxRecDepth 20000 in
theorem gX5_word_X5_in : GoodIn wsX5_word (va_wsS RX5 77 yX5_in wsX5_in) := goodIn_app (goodIn_of _ (by decide +kernel)) ggX5_word_X5_in
set_option maxRecDepth 20000 in
theorem ggX5_lots_X5_in : GoodIn wsX5_lots wsX5_in := goodIn_r _ [7] (by decide +kernel) (by decide +kernel)
set_option maxRecDepth 20000 in
theorem gX5_lots_X5_in : GoodIn wsX5_lots (va_wsS RX5 77 yX5_in wsX5_in) := goodIn_app (goodIn_of _ (by decide +kernel)) ggX5_lots_X5_in
set_option maxRecDepth 20000 in
theorem ggX5_lots_X5_lost : GoodIn wsX5_lots wsX5_lost := goodIn_r _ [10, 11] (by decide +kernel) (by decide +kernel)
set_option maxRecDepth 20000 in
theorem gX5_lots_X5_lost : GoodIn wsX5_lots (va_wsS RX5 70 yX5_lost wsX5_lost) := goodIn_app (goodIn_of _ (by decide +kernel)) ggX5_lots_X5_lost
set_option maxRecDepth 20000 in
theorem ggX5_lots_X5_power : GoodIn wsX5_lots wsX5_power := goodIn_r _ [14] (by decide +kernel) (by decide +kernel)
set_option maxRecDepth 20000 in
theorem gX5_lots_X5_power : GoodIn wsX5_lots (va_wsS RX5 183 yX5_power wsX5_power) := goodIn_app (goodIn_of _ (by decide +kernel)) ggX5_lots_X5_power
set_option maxRecDepth 20000 in
theorem ggX5_noSheet_X5_in : GoodIn wsX5_noSheet wsX5_in := goodIn_r _ [5] (by decide +kernel) (by decide +kernel)
set_option maxRecDepth 20000 in
theorem gX5_noSheet_X5_in : GoodIn wsX5_noSheet (va_wsS RX5 77 yX5_in wsX5_in) := goodIn_app (goodIn_of _ (by decide +kernel)) ggX5_noSheet_X5_in
set_option maxRecDepth 20000 in
theorem ggX5_sheet_X5_noSheet : GoodIn wsX5_sheet wsX5_noSheet := goodIn_r _ [8, 9, 10, 11, 7, 12] (by decide +kernel) (by decide +kernel)
set_option maxRecDepth 20000 in
theorem gX5_sheet_X5_noSheet : GoodIn wsX5_sheet (va_wsS RX5 189 yX5_noSheet wsX5_noSheet) := goodIn_app (goodIn_of _ (by decide +kernel)) ggX5_sheet_X5_noSheet
set_option maxRecDepth 20000 in
theorem ggX5_sheet_X5_refused : GoodIn wsX5_sheet wsX5_refused := goodIn_r _ [16, 17, 22, 23, 24, 25, 26, 27, 28, 29, 30, 31, 32, 33, 34, 35, 36, 37, 38, 39, 40, 41, 42, 43, 44, 45, 46, 47, 48] (by decide +kernel) (by decide +kernel)
set_option maxRecDepth 20000 in
theorem gX5_sheet_X5_refused : GoodIn wsX5_sheet (wsV RX5 192 RX5 yX5_refused wsX5_refused) := goodIn_app (goodIn_of _ (by decide +kernel)) ggX5_sheet_X5_refused
set_option maxRecDepth 20000 in
theorem ggX5_sheet_X5_in : GoodIn wsX5_sheet wsX5_in := goodIn_r _ [12] (by decide +kernel) (by decide +kernel)
set_option maxRecDepth 20000 in
theorem gX5_sheet_X5_in : GoodIn wsX5_sheet (va_wsS RX5 77 yX5_in wsX5_in) := goodIn_app (goodIn_of _ (by decide +kernel)) ggX5_sheet_X5_in
set_option maxRecDepth 20000 in
theorem ggX5_sheet_X5_failed : GoodIn wsX5_sheet wsX5_failed := goodIn_r _ [21, 17, 22, 23, 24, 25, 26, 27, 28, 29, 30, 31, 32, 33, 34, 35, 36, 37, 38, 39, 40, 41, 42, 43, 44, 45, 46, 47, 48] (by decide +kernel) (by decide +kernel)
set_option maxRecDepth 20000 in
theorem gX5_sheet_X5_failed : GoodIn wsX5_sheet (wsV RX5 195 RX5 yX5_failed wsX5_failed) := goodIn_app (goodIn_of _ (by decide +kernel)) ggX5_sheet_X5_failed
set_option maxRecDepth 20000 in
theorem ggX5_lose_X5_noSheet : GoodIn wsX5_lose wsX5_noSheet := goodIn_r _ [5, 6, 7, 8, 4, 9] (by decide +kernel) (by decide +kernel)
set_option maxRecDepth 20000 in
theorem gX5_lose_X5_noSheet : GoodIn wsX5_lose (va_wsS RX5 189 yX5_noSheet wsX5_noSheet) := goodIn_app (goodIn_of _ (by decide +kernel)) ggX5_lose_X5_noSheet
set_option maxRecDepth 20000 in
theorem ggX5_noCell_X5_in : GoodIn wsX5_noCell wsX5_in := goodIn_r _ [5] (by decide +kernel) (by decide +kernel)
set_option maxRecDepth 20000 in
theorem gX5_noCell_X5_in : GoodIn wsX5_noCell (va_wsS RX5 77 yX5_in wsX5_in) := goodIn_app (goodIn_of _ (by decide +kernel)) ggX5_noCell_X5_in
set_option maxRecDepth 20000 in
theorem ggX5_put_X5_noSheet : GoodIn wsX5_put wsX5_noSheet := goodIn_r _ [6, 7, 8, 9, 5, 10] (by decide +kernel) (by decide +kernel)
set_option maxRecDepth 20000 in
theorem gX5_put_X5_noSheet : GoodIn wsX5_put (va_wsS RX5 189 yX5_noSheet wsX5_noSheet) := goodIn_app (goodIn_of _ (by decide +kernel)) ggX5_put_X5_noSheet
set_option maxRecDepth 20000 in
theorem ggX5_put_X5_refused : GoodIn wsX5_put wsX5_refused := goodIn_r _ [14, 15, 25, 26, 27, 28, 29, 30, 31, 32, 33, 34, 35, 36, 37, 38, 39, 40, 41, 42, 43, 44, 45, 46, 47, 48, 49, 50, 51] (by decide +kernel) (by decide +kernel)
set_option maxRecDepth 20000 in
theorem gX5_put_X5_refused : GoodIn wsX5_put (wsV RX5 192 RX5 yX5_refused wsX5_refused) := goodIn_app (goodIn_of _ (by decide +kernel)) ggX5_put_X5_refused
set_option maxRecDepth 20000 in
theorem ggX5_put_X5_noCell : GoodIn wsX5_put wsX5_noCell := goodIn_r _ [19, 20, 8, 9, 5, 10, 25, 26, 27, 28, 29, 30, 31, 32, 33, 34, 35, 36, 37, 38, 39, 40, 41, 42, 43, 44, 45, 46, 47, 48, 49, 50, 51] (by decide +kernel) (by decide +kernel)
set_option maxRecDepth 20000 in
theorem gX5_put_X5_noCell : GoodIn wsX5_put (wsV RX5 198 RX5 yX5_noCell wsX5_noCell) := goodIn_app (goodIn_of _ (by decide +kernel)) ggX5_put_X5_noCell
set_option maxRecDepth 20000 in
theorem ggX5_put_X5_failed : GoodIn wsX5_put wsX5_failed := goodIn_r _ [24, 15, 25, 26, 27, 28, 29, 30, 31, 32, 33, 34, 35, 36, 37, 38, 39, 40, 41, 42, 43, 44, 45, 46, 47, 48, 49, 50, 51] (by decide +kernel) (by decide +kernel)
set_option maxRecDepth 20000 in
theorem gX5_put_X5_failed : GoodIn wsX5_put (wsV RX5 195 RX5 yX5_failed wsX5_failed) := goodIn_app (goodIn_of _ (by decide +kernel)) ggX5_put_X5_failed
set_option maxRecDepth 20000 in
theorem ggX5_cell_X5_noSheet : GoodIn wsX5_cell wsX5_noSheet := goodIn_r _ [9, 10, 11, 12, 8, 13] (by decide +kernel) (by decide +kernel)
set_option maxRecDepth 20000 in
theorem gX5_cell_X5_noSheet : GoodIn wsX5_cell (va_wsS RX5 189 yX5_noSheet wsX5_noSheet) := goodIn_app (goodIn_of _ (by decide +kernel)) ggX5_cell_X5_noSheet
set_option maxRecDepth 20000 in
theorem ggX5_cell_X5_in : GoodIn wsX5_cell wsX5_in := goodIn_r _ [13] (by decide +kernel) (by decide +kernel)
set_option maxRecDepth 20000 in
theorem gX5_cell_X5_in : GoodIn wsX5_cell (va_wsS RX5 77 yX5_in wsX5_in) := goodIn_app (goodIn_of _ (by decide +kernel)) ggX5_cell_X5_in
set_option maxRecDepth 20000 in
theorem ggX5_cell_X5_lost : GoodIn wsX5_cell wsX5_lost := goodIn_r _ [16, 17] (by decide +kernel) (by decide +kernel)
set_option maxRecDepth 20000 in
theorem gX5_cell_X5_lost : GoodIn wsX5_cell (va_wsS RX5 70 yX5_lost wsX5_lost) := goodIn_app (goodIn_of _ (by decide +kernel)) ggX5_cell_X5_lost
set_option maxRecDepth 20000 in
theorem ggX5_cell_X5_failedLong : GoodIn wsX5_cell wsX5_failedLong := goodIn_r _ [21, 1, 14, 15, 8, 16, 17, 26, 27, 28, 29, 30, 31, 32, 33, 34, 35, 36, 37, 38, 39, 40, 41, 42, 43, 44, 45, 46, 47, 48, 49, 50, 51, 52] (by decide +kernel) (by decide +kernel)
set_option maxRecDepth 20000 in
theorem gX5_cell_X5_failedLong : GoodIn wsX5_cell (wsV RX5 201 RX5 yX5_failedLong wsX5_failedLong) := goodIn_app (goodIn_of _ (by decide +kernel)) ggX5_cell_X5_failedLong
set_option maxRecDepth 20000 in
theorem ggX5_cell_X5_noCell : GoodIn wsX5_cell wsX5_noCell := goodIn_r _ [25, 3, 11, 12, 8, 13, 26, 27, 28, 29, 30, 31, 32, 33, 34, 35, 36, 37, 38, 39, 40, 41, 42, 43, 44, 45, 46, 47, 48, 49, 50, 51, 52] (by decide +kernel) (by decide +kernel)
set_option maxRecDepth 20000 in
theorem gX5_cell_X5_noCell : GoodIn wsX5_cell (wsV RX5 198 RX5 yX5_noCell wsX5_noCell) := goodIn_app (goodIn_of _ (by decide +kernel)) ggX5_cell_X5_noCell
set_option maxRecDepth 20000 in
theorem ggX5_copy_X5_noSheet : GoodIn wsX5_copy wsX5_noSheet := goodIn_r _ [8, 9, 10, 11, 7, 12] (by decide +kernel) (by decide +kernel)
set_option maxRecDepth 20000 in
theorem gX5_copy_X5_noSheet : GoodIn wsX5_copy (va_wsS RX5 189 yX5_noSheet wsX5_noSheet) := goodIn_app (goodIn_of _ (by decide +kernel)) ggX5_copy_X5_noSheet
set_option maxRecDepth 20000 in
theorem ggX5_copy_X5_refused : GoodIn wsX5_copy wsX5_refused := goodIn_r _ [16, 17, 25, 26, 27, 28, 29, 30, 31, 32, 33, 34, 35, 36, 37, 38, 39, 40, 41, 42, 43, 44, 45, 46, 47, 48, 49, 50, 51] (by decide +kernel) (by decide +kernel)
set_option maxRecDepth 20000 in
theorem gX5_copy_X5_refused : GoodIn wsX5_copy (wsV RX5 192 RX5 yX5_refused wsX5_refused) := goodIn_app (goodIn_of _ (by decide +kernel)) ggX5_copy_X5_refused
set_option maxRecDepth 20000 in
theorem ggX5_copy_X5_failed : GoodIn wsX5_copy wsX5_failed := goodIn_r _ [21, 17, 25, 26, 27, 28, 29, 30, 31, 32, 33, 34, 35, 36, 37, 38, 39, 40, 41, 42, 43, 44, 45, 46, 47, 48, 49, 50, 51] (by decide +kernel) (by decide +kernel)
set_option maxRecDepth 20000 in
theorem gX5_copy_X5_failed : GoodIn wsX5_copy (wsV RX5 195 RX5 yX5_failed wsX5_failed) := goodIn_app (goodIn_of _ (by decide +kernel)) ggX5_copy_X5_failed
set_option maxRecDepth 20000 in
theorem ggX5_copy_X5_isBeyond : GoodIn wsX5_copy wsX5_isBeyond := goodIn_r _ [24] (by decide +kernel) (by decide +kernel)
set_option maxRecDepth 20000 in
theorem gX5_copy_X5_isBeyond : GoodIn wsX5_copy (va_wsS RX5 205 yX5_isBeyond wsX5_isBeyond) := goodIn_app (goodIn_of _ (by decide +kernel)) ggX5_copy_X5_isBeyond
set_option maxRecDepth 20000 in
theorem ggX5_addLines_X5_refusalOf : GoodIn wsX5_addLines wsX5_refusalOf := goodIn_r _ [9, 3, 10, 11, 12, 8, 13, 14, 15, 16, 17, 34, 35, 36, 37, 38, 39, 40, 41, 42, 43, 44, 45, 46, 47, 48, 49, 50, 51, 52, 53, 54, 55, 56, 57, 58, 59, 60] (by decide +kernel) (by decide +kernel)
set_option maxRecDepth 20000 in
theorem gX5_addLines_X5_refusalOf : GoodIn wsX5_addLines (wsV RX5 108 RX5 yX5_refusalOf wsX5_refusalOf) := goodIn_app (goodIn_of _ (by decide +kernel)) ggX5_addLines_X5_refusalOf
set_option maxRecDepth 20000 in
theorem ggX5_addLines_X5_addLine : GoodIn wsX5_addLines wsX5_addLine := goodIn_r _ [21, 3, 1, 22, 23, 24, 8, 25, 26, 27, 34, 35, 36, 37, 38, 39, 40, 41, 42, 43, 44, 45, 46, 47, 48, 49, 50, 51, 52, 53, 54, 55, 56, 57, 58, 59, 60] (by decide +kernel) (by decide +kernel)
set_option maxRecDepth 20000 in
theorem gX5_addLines_X5_addLine : GoodIn wsX5_addLines (wsV RX5 112 RX5 yX5_addLine wsX5_addLine) := goodIn_app (goodIn_of _ (by decide +kernel)) ggX5_addLines_X5_addLine
set_option maxRecDepth 20000 in
theorem ggX5_addLines_X5_other : GoodIn wsX5_addLines wsX5_other := goodIn_r _ [31, 32, 33, 34, 35, 36, 37, 38, 39, 40, 41, 42, 43, 44, 45, 46, 47, 48, 49, 50, 51, 52, 53, 54, 55, 56, 57, 58, 59, 60] (by decide +kernel) (by decide +kernel)
set_option maxRecDepth 20000 in
theorem gX5_addLines_X5_other : GoodIn wsX5_addLines (wsV RX5 95 RX5 yX5_other wsX5_other) := goodIn_app (goodIn_of _ (by decide +kernel)) ggX5_addLines_X5_other
set_option maxRecDepth 20000 in
theorem ggX5_lines_X5_noSheet : GoodIn wsX5_lines wsX5_noSheet := goodIn_r _ [7, 8, 9, 10, 6, 11] (by decide +kernel) (by decide +kernel)
set_option maxRecDepth 20000 in
theorem gX5_lines_X5_noSheet : GoodIn wsX5_lines (va_wsS RX5 189 yX5_noSheet wsX5_noSheet) := goodIn_app (goodIn_of _ (by decide +kernel)) ggX5_lines_X5_noSheet
set_option maxRecDepth 20000 in
theorem ggX5_lines_X5_refused : GoodIn wsX5_lines wsX5_refused := goodIn_r _ [15, 16, 57, 58, 59, 60, 61, 62, 63, 64, 65, 66, 67, 68, 69, 70, 71, 72, 73, 74, 75, 76, 77, 78, 79, 80, 81, 82, 83] (by decide +kernel) (by decide +kernel)
set_option maxRecDepth 20000 in
theorem gX5_lines_X5_refused : GoodIn wsX5_lines (wsV RX5 192 RX5 yX5_refused wsX5_refused) := goodIn_app (goodIn_of _ (by decide +kernel)) ggX5_lines_X5_refused
set_option maxRecDepth 20000 in
theorem ggX5_lines_X5_in : GoodIn wsX5_lines wsX5_in := goodIn_r _ [11] (by decide +kernel) (by decide +kernel)
set_option maxRecDepth 20000 in
theorem gX5_lines_X5_in : GoodIn wsX5_lines (va_wsS RX5 77 yX5_in wsX5_in) := goodIn_app (goodIn_of _ (by decide +kernel)) ggX5_lines_X5_in
set_option maxRecDepth 20000 in
theorem ggX5_lines_X5_failed : GoodIn wsX5_lines wsX5_failed := goodIn_r _ [20, 16, 57, 58, 59, 60, 61, 62, 63, 64, 65, 66, 67, 68, 69, 70, 71, 72, 73, 74, 75, 76, 77, 78, 79, 80, 81, 82, 83] (by decide +kernel) (by decide +kernel)
set_option maxRecDepth 20000 in
theorem gX5_lines_X5_failed : GoodIn wsX5_lines (wsV RX5 195 RX5 yX5_failed wsX5_failed) := goodIn_app (goodIn_of _ (by decide +kernel)) ggX5_lines_X5_failed
set_option maxRecDepth 20000 in
theorem ggX5_lines_X5_isBeyond : GoodIn wsX5_lines wsX5_isBeyond := goodIn_r _ [23] (by decide +kernel) (by decide +kernel)
set_option maxRecDepth 20000 in
theorem gX5_lines_X5_isBeyond : GoodIn wsX5_lines (va_wsS RX5 205 yX5_isBeyond wsX5_isBeyond) := goodIn_app (goodIn_of _ (by decide +kernel)) ggX5_lines_X5_isBeyond
set_option maxRecDepth 20000 in
theorem ggX5_lines_X5_addLines : GoodIn wsX5_lines wsX5_addLines := goodIn_r _ [27, 28, 29, 30, 31, 32, 33, 34, 6, 35, 36, 37, 38, 39, 40, 9, 10, 11, 41, 42, 43, 44, 45, 46, 47, 48, 49, 50, 51, 52, 53, 54, 55, 56, 57, 58, 59, 60, 61, 62, 63, 64, 65, 66, 67, 68, 69, 70, 71, 72, 73, 74, 75, 76, 77, 78, 79, 80, 81, 82, 83] (by decide +kernel) (by decide +kernel)
set_option maxRecDepth 20000 in
theorem gX5_lines_X5_addLines : GoodIn wsX5_lines (wsV RX5 209 RX5 yX5_addLines wsX5_addLines) := goodIn_app (goodIn_of _ (by decide +kernel)) ggX5_lines_X5_addLines
set_option maxRecDepth 20000 in
theorem ggX5_tell_X5_noPost : GoodIn wsX5_tell wsX5_noPost := goodIn_r _ [7, 8, 9, 10, 6, 11, 21, 22, 23, 24, 25, 26, 27, 28, 29, 30, 31, 32, 33, 34, 35, 36, 37, 38, 39, 40, 41, 42, 43, 44, 45, 46, 47] (by decide +kernel) (by decide +kernel)
set_option maxRecDepth 20000 in
theorem gX5_tell_X5_noPost : GoodIn wsX5_tell (wsV RX5 81 RX5 yX5_noPost wsX5_noPost) := goodIn_app (goodIn_of _ (by decide +kernel)) ggX5_tell_X5_noPost
set_option maxRecDepth 20000 in
theorem ggX5_tell_X5_kindOf : GoodIn wsX5_tell wsX5_kindOf := goodIn_r _ [15, 2, 21, 22, 23, 24, 25, 26, 27, 28, 29, 30, 31, 32, 33, 34, 35, 36, 37, 38, 39, 40, 41, 42, 43, 44, 45, 46, 47] (by decide +kernel) (by decide +kernel)
set_option maxRecDepth 20000 in
theorem gX5_tell_X5_kindOf : GoodIn wsX5_tell (wsV RX5 215 RX5 yX5_kindOf wsX5_kindOf) := goodIn_app (goodIn_of _ (by decide +kernel)) ggX5_tell_X5_kindOf
set_option maxRecDepth 20000 in
theorem ggX5_tell_X5_traced : GoodIn wsX5_tell wsX5_traced := goodIn_r _ [19, 20, 21, 22, 23, 24, 25, 26, 27, 28, 29, 30, 31, 32, 33, 34, 35, 36, 37, 38, 39, 40, 41, 42, 43, 44, 45, 46, 47] (by decide +kernel) (by decide +kernel)
set_option maxRecDepth 20000 in
theorem gX5_tell_X5_traced : GoodIn wsX5_tell (wsV RX5 218 RX5 yX5_traced wsX5_traced) := goodIn_app (goodIn_of _ (by decide +kernel)) ggX5_tell_X5_traced
set_option maxRecDepth 20000 in
theorem ggX5_hear_X5_noPost : GoodIn wsX5_hear wsX5_noPost := goodIn_r _ [5, 6, 7, 8, 4, 9, 20, 21, 22, 23, 24, 25, 26, 27, 28, 29, 30, 31, 32, 33, 34, 35, 36, 37, 38, 39, 40, 41, 42, 43, 44, 45, 46] (by decide +kernel) (by decide +kernel)
set_option maxRecDepth 20000 in
theorem gX5_hear_X5_noPost : GoodIn wsX5_hear (wsV RX5 81 RX5 yX5_noPost wsX5_noPost) := goodIn_app (goodIn_of _ (by decide +kernel)) ggX5_hear_X5_noPost
set_option maxRecDepth 20000 in
theorem ggX5_hear_X5_kindOf : GoodIn wsX5_hear wsX5_kindOf := goodIn_r _ [13, 14, 20, 21, 22, 23, 24, 25, 26, 27, 28, 29, 30, 31, 32, 33, 34, 35, 36, 37, 38, 39, 40, 41, 42, 43, 44, 45, 46] (by decide +kernel) (by decide +kernel)
set_option maxRecDepth 20000 in
theorem gX5_hear_X5_kindOf : GoodIn wsX5_hear (wsV RX5 215 RX5 yX5_kindOf wsX5_kindOf) := goodIn_app (goodIn_of _ (by decide +kernel)) ggX5_hear_X5_kindOf
set_option maxRecDepth 20000 in
theorem ggX5_hear_X5_traced : GoodIn wsX5_hear wsX5_traced := goodIn_r _ [18, 19, 20, 21, 22, 23, 24, 25, 26, 27, 28, 29, 30, 31, 32, 33, 34, 35, 36, 37, 38, 39, 40, 41, 42, 43, 44, 45, 46] (by decide +kernel) (by decide +kernel)
set_option maxRecDepth 20000 in
theorem gX5_hear_X5_traced : GoodIn wsX5_hear (wsV RX5 218 RX5 yX5_traced wsX5_traced) := goodIn_app (goodIn_of _ (by decide +kernel)) ggX5_hear_X5_traced
set_option maxRecDepth 20000 in
theorem ggX5_as_X5_noPost : GoodIn wsX5_as wsX5_noPost := goodIn_r _ [6, 7, 8, 9, 5, 10, 25, 26, 27, 28, 29, 30, 31, 32, 33, 34, 35, 36, 37, 38, 39, 40, 41, 42, 43, 44, 45, 46, 47, 48, 49, 50, 51] (by decide +kernel) (by decide +kernel)
set_option maxRecDepth 20000 in
theorem gX5_as_X5_noPost : GoodIn wsX5_as (wsV RX5 81 RX5 yX5_noPost wsX5_noPost) := goodIn_app (goodIn_of _ (by decide +kernel)) ggX5_as_X5_noPost
set_option maxRecDepth 20000 in
theorem ggX5_as_X5_refused : GoodIn wsX5_as wsX5_refused := goodIn_r _ [14, 15, 25, 26, 27, 28, 29, 30, 31, 32, 33, 34, 35, 36, 37, 38, 39, 40, 41, 42, 43, 44, 45, 46, 47, 48, 49, 50, 51] (by decide +kernel) (by decide +kernel)
set_option maxRecDepth 20000 in
theorem gX5_as_X5_refused : GoodIn wsX5_as (wsV RX5 192 RX5 yX5_refused wsX5_refused) := goodIn_app (goodIn_of _ (by decide +kernel)) ggX5_as_X5_refused
set_option maxRecDepth 20000 in
theorem ggX5_as_X5_in : GoodIn wsX5_as wsX5_in := goodIn_r _ [10] (by decide +kernel) (by decide +kernel)
set_option maxRecDepth 20000 in
theorem gX5_as_X5_in : GoodIn wsX5_as (va_wsS RX5 77 yX5_in wsX5_in) := goodIn_app (goodIn_of _ (by decide +kernel)) ggX5_as_X5_in
set_option maxRecDepth 20000 in
theorem ggX5_as_X5_kindOf : GoodIn wsX5_as wsX5_kindOf := goodIn_r _ [19, 20, 25, 26, 27, 28, 29, 30, 31, 32, 33, 34, 35, 36, 37, 38, 39, 40, 41, 42, 43, 44, 45, 46, 47, 48, 49, 50, 51] (by decide +kernel) (by decide +kernel)
set_option maxRecDepth 20000 in
theorem gX5_as_X5_kindOf : GoodIn wsX5_as (wsV RX5 215 RX5 yX5_kindOf wsX5_kindOf) := goodIn_app (goodIn_of _ (by decide +kernel)) ggX5_as_X5_kindOf
set_option maxRecDepth 20000 in
theorem ggX5_as_X5_failed : GoodIn wsX5_as wsX5_failed := goodIn_r _ [24, 15, 25, 26, 27, 28, 29, 30, 31, 32, 33, 34, 35, 36, 37, 38, 39, 40, 41, 42, 43, 44, 45, 46, 47, 48, 49, 50, 51] (by decide +kernel) (by decide +kernel)
set_option maxRecDepth 20000 in
theorem gX5_as_X5_failed : GoodIn wsX5_as (wsV RX5 195 RX5 yX5_failed wsX5_failed) := goodIn_app (goodIn_of _ (by decide +kernel)) ggX5_as_X5_failed
set_option maxRecDepth 20000 in
theorem ggX5_ends_X5_kindOf : GoodIn wsX5_ends wsX5_kindOf := goodIn_r _ [6, 7, 8, 9, 10, 11, 12, 13, 14, 15, 16, 17, 18, 19, 20, 21, 22, 23, 24, 25, 26, 27, 28, 29, 30, 31, 32, 33, 34] (by decide +kernel) (by decide +kernel)
set_option maxRecDepth 20000 in
theorem gX5_ends_X5_kindOf : GoodIn wsX5_ends (wsV RX5 215 RX5 yX5_kindOf wsX5_kindOf) := goodIn_app (goodIn_of _ (by decide +kernel)) ggX5_ends_X5_kindOf
set_option maxRecDepth 20000 in
theorem ggX5_told_X5_rankAll : GoodIn wsX5_told wsX5_rankAll := goodIn_r _ [9, 10, 4, 1, 11, 12, 13, 14, 8, 15, 16, 3, 17, 18, 19, 20, 21, 22, 23, 24, 25, 26, 27, 41, 42, 43, 44, 45, 46, 47, 48, 49, 50, 51, 52, 53, 54, 55, 56, 57, 58, 59, 60, 61, 62, 63, 64, 65, 66, 67] (by decide +kernel) (by decide +kernel)
set_option maxRecDepth 20000 in
theorem gX5_told_X5_rankAll : GoodIn wsX5_told (wsV RX5 139 RX5 yX5_rankAll wsX5_rankAll) := goodIn_app (goodIn_of _ (by decide +kernel)) ggX5_told_X5_rankAll
set_option maxRecDepth 20000 in
theorem ggX5_told_X5_ends : GoodIn wsX5_told wsX5_ends := goodIn_r _ [31, 1, 32, 33, 34, 8, 35, 22, 41, 42, 43, 44, 45, 46, 47, 48, 49, 50, 51, 52, 53, 54, 55, 56, 57, 58, 59, 60, 61, 62, 63, 64, 65, 66, 67] (by decide +kernel) (by decide +kernel)
set_option maxRecDepth 20000 in
theorem gX5_told_X5_ends : GoodIn wsX5_told (wsV RX5 221 RX5 yX5_ends wsX5_ends) := goodIn_app (goodIn_of _ (by decide +kernel)) ggX5_told_X5_ends
set_option maxRecDepth 20000 in
theorem ggX5_told_X5_reach : GoodIn wsX5_told wsX5_reach := goodIn_r _ [39, 1, 40, 22, 24, 41, 42, 43, 44, 45, 46, 47, 48, 49, 50, 51, 52, 53, 54, 55, 56, 57, 58, 59, 60, 61, 62, 63, 64, 65, 66, 67] (by decide +kernel) (by decide +kernel)
set_option maxRecDepth 20000 in
theorem gX5_told_X5_reach : GoodIn wsX5_told (wsV RX5 120 RX5 yX5_reach wsX5_reach) := goodIn_app (goodIn_of _ (by decide +kernel)) ggX5_told_X5_reach
