set_option maxRecDepth 20000 in
theorem ggX6_init_X4_init : GoodIn wsX6_init wsX4_init := goodIn_r _ [23, 24, 2, 3, 25, 19, 20, 26, 27, 28, 29, 30, 31, 32, 33, 34, 35, 36, 37, 38, 39, 40, 41, 42, 43, 44, 45, 46, 47, 48, 49, 50, 51, 52, 53, 54, 55, 56, 57, 94, 95, 96, 72, 73, 74, 75, 76, 77, 78, 79, 80, 81, 82, 97, 98, 99] (by decide +kernel) (by decide +kernel)
set_option maxRecDepth 20000 in
theorem gX6_init_X4_init_n11 : GoodIn wsX6_init (wsX4_init) := ggX6_init_X4_init
set_option maxRecDepth 20000 in
theorem ggX6_init_X1_init : GoodIn wsX6_init wsX1_init := goodIn_r _ [60, 61, 2, 3, 62, 63, 64, 65, 5, 6, 22, 23, 24, 25, 19, 20, 26, 27, 28, 29, 30, 31, 32, 33, 34, 35, 36, 37, 38, 39, 40, 41, 42, 43, 44, 45, 46, 47, 48, 49, 50, 51, 52, 53, 54, 55, 56, 57, 89, 90, 91, 72, 73, 74, 75, 76, 77, 78, 79, 80, 81, 82, 94, 95, 96, 97, 98, 99] (by decide +kernel) (by decide +kernel)
set_option maxRecDepth 20000 in
theorem gX6_init_X1_init : GoodIn wsX6_init (wsX1_init) := ggX6_init_X1_init
set_option maxRecDepth 20000 in
theorem ggX6_init_X5_init : GoodIn wsX6_init wsX5_init := goodIn_r _ [67, 68, 2, 3, 31, 69, 70, 92, 93] (by decide +kernel) (by decide +kernel)
set_option maxRecDepth 20000 in
theorem gX6_init_X5_init_n32 : GoodIn wsX6_init (wsX5_init) := ggX6_init_X5_init
set_option maxRecDepth 20000 in
theorem ggX6_init_X0_init : GoodIn wsX6_init wsX0_init := goodIn_r _ [43, 44, 2, 3, 31, 45, 46, 47, 48, 49, 50, 20, 51, 94, 95, 96] (by decide +kernel) (by decide +kernel)
set_option maxRecDepth 20000 in
theorem gX6_init_X0_init : GoodIn wsX6_init (wsX0_init) := ggX6_init_X0_init
set_option maxRecDepth 20000 in
theorem ggX6_set_X6_isSort : GoodIn wsX6_set wsX6_isSort := goodIn_r _ [10] (by decide +kernel) (by decide +kernel)
set_option maxRecDepth 20000 in
theorem gX6_set_X6_isSort : GoodIn wsX6_set (va_wsS RX6 44 yX6_isSort wsX6_isSort) := goodIn_app (goodIn_of _ (by decide +kernel)) ggX6_set_X6_isSort
set_option maxRecDepth 20000 in
theorem ggX6_set_X4_whyNotSet : GoodIn wsX6_set wsX4_whyNotSet := goodIn_r _ [15, 16, 17, 18, 19, 20, 21, 22, 23, 24, 25, 26, 27, 28, 29, 30, 31, 32, 33, 34, 35, 36, 9, 37, 38, 39, 40, 14, 41, 42, 109, 110, 111, 112, 113, 114, 115, 116, 117, 118, 119, 120, 121, 122, 123, 124, 125] (by decide +kernel) (by decide +kernel)
set_option maxRecDepth 20000 in
theorem gX6_set_X4_whyNotSet : GoodIn wsX6_set (wsV RX6 55 RX4 yX4_whyNotSet wsX4_whyNotSet) := goodIn_app (goodIn_of _ (by decide +kernel)) ggX6_set_X4_whyNotSet
set_option maxRecDepth 20000 in
theorem ggX6_set_X1_save : GoodIn wsX6_set wsX1_save := goodIn_r _ [47, 48, 49, 50, 51, 52, 53, 14, 54, 16, 17, 42, 55, 56, 57, 58, 59, 60, 61, 62, 63, 64, 65, 21, 66, 24, 23, 67, 68, 69, 70, 28, 71, 35, 72, 30, 126, 127, 128, 109, 110, 111, 112, 113, 114, 115, 116, 117, 118, 119, 120, 121, 122, 123, 124, 125] (by decide +kernel) (by decide +kernel)
set_option maxRecDepth 20000 in
theorem gX6_set_X1_save : GoodIn wsX6_set (wsV RX6 64 RX1 yX1_save wsX1_save) := goodIn_app (goodIn_of _ (by decide +kernel)) ggX6_set_X1_save
set_option maxRecDepth 20000 in
theorem ggX6_set_X4_setLetter : GoodIn wsX6_set wsX4_setLetter := goodIn_r _ [76, 16, 17, 56, 55, 18, 19, 20, 21, 22, 23, 24, 77, 78, 79, 80, 81, 82, 83, 28, 84, 30, 35, 72, 38, 39, 40, 14, 41, 42, 85, 86, 87, 88, 58, 57, 89, 90, 91, 92, 67, 93, 94, 95, 96, 97, 98, 99, 100, 101, 102, 109, 110, 111, 112, 113, 114, 115, 116, 117, 118, 119, 120, 121, 122, 123, 124, 125] (by decide +kernel) (by decide +kernel)
set_option maxRecDepth 20000 in
theorem gX6_set_X4_setLetter : GoodIn wsX6_set (wsV RX6 68 RX4 yX4_setLetter wsX4_setLetter) := goodIn_app (goodIn_of _ (by decide +kernel)) ggX6_set_X4_setLetter
set_option maxRecDepth 20000 in
theorem ggX6_idle_X1_save : GoodIn wsX6_idle wsX1_save := goodIn_r _ [9, 10, 11, 12, 13, 14, 15, 16, 17, 18, 19, 20, 21, 22, 23, 24, 25, 26, 27, 28, 29, 30, 31, 32, 33, 34, 35, 36, 37, 38, 39, 40, 41, 42, 43, 44, 79, 80, 81, 82, 83, 84, 85, 86, 87, 88, 89, 90, 91, 92, 93, 94, 95, 96, 97, 98] (by decide +kernel) (by decide +kernel)
set_option maxRecDepth 20000 in
theorem gX6_idle_X1_save : GoodIn wsX6_idle (wsV RX6 64 RX1 yX1_save wsX1_save) := goodIn_app (goodIn_of _ (by decide +kernel)) ggX6_idle_X1_save
set_option maxRecDepth 20000 in
theorem ggX6_idle_X4_rest : GoodIn wsX6_idle wsX4_rest := goodIn_r _ [48, 21, 49, 50, 51, 16, 52, 18, 24, 23, 53, 54, 55, 32, 56, 36, 57, 58, 59, 60, 35, 34, 61, 62, 63, 64, 65, 66, 67, 68, 69, 70, 71, 72, 82, 83, 84, 85, 86, 87, 88, 89, 90, 91, 92, 93, 94, 95] (by decide +kernel) (by decide +kernel)
set_option maxRecDepth 20000 in
theorem gX6_idle_X4_rest : GoodIn wsX6_idle (wsV RX6 76 RX4 yX4_rest wsX4_rest) := goodIn_app (goodIn_of _ (by decide +kernel)) ggX6_idle_X4_rest
set_option maxRecDepth 20000 in
theorem ggX6_fix_X2_has : GoodIn wsX6_fix wsX2_has := goodIn_r _ [11, 12, 131, 132, 133] (by decide +kernel) (by decide +kernel)
set_option maxRecDepth 20000 in
theorem gX6_fix_X2_has : GoodIn wsX6_fix (wsV RX6 83 RX2 yX2_has wsX2_has) := goodIn_app (goodIn_of _ (by decide +kernel)) ggX6_fix_X2_has
set_option maxRecDepth 20000 in
theorem ggX6_fix_X4_whyNotCorrect : GoodIn wsX6_fix wsX4_whyNotCorrect := goodIn_r _ [17, 18, 19, 20, 21, 22, 10, 23, 24, 25, 26, 27, 12, 28, 29, 30, 31, 32, 33, 34, 35, 36, 37, 38, 39, 40, 41, 42, 43, 44, 45, 46, 47, 48, 49, 50, 51, 52, 16, 53, 54, 55, 56, 57, 58, 59, 60, 61, 62, 63, 120, 121, 122, 123, 124, 125, 126, 127, 128, 129, 130, 131, 132, 133, 134, 135, 136] (by decide +kernel) (by decide +kernel)
set_option maxRecDepth 20000 in
theorem gX6_fix_X4_whyNotCorrect : GoodIn wsX6_fix (wsV RX6 90 RX4 yX4_whyNotCorrect wsX4_whyNotCorrect) := goodIn_app (goodIn_of _ (by decide +kernel)) ggX6_fix_X4_whyNotCorrect
set_option maxRecDepth 20000 in
theorem ggX6_fix_X1_save : GoodIn wsX6_fix wsX1_save := goodIn_r _ [68, 69, 70, 71, 72, 73, 74, 16, 75, 19, 18, 58, 76, 77, 78, 79, 80, 81, 82, 83, 84, 85, 86, 38, 87, 49, 44, 88, 89, 90, 91, 10, 92, 28, 33, 12, 137, 138, 139, 120, 121, 122, 123, 124, 125, 126, 127, 128, 129, 130, 134, 135, 136, 131, 132, 133] (by decide +kernel) (by decide +kernel)
set_option maxRecDepth 20000 in
theorem gX6_fix_X1_save : GoodIn wsX6_fix (wsV RX6 64 RX1 yX1_save wsX1_save) := goodIn_app (goodIn_of _ (by decide +kernel)) ggX6_fix_X1_save
set_option maxRecDepth 20000 in
theorem ggX6_fix_X4_correct : GoodIn wsX6_fix wsX4_correct := goodIn_r _ [96, 18, 19, 80, 76, 34, 30, 31, 10, 32, 12, 33, 50, 51, 52, 16, 53, 54, 55, 56, 57, 58, 59, 25, 26, 27, 28, 97, 98, 99, 38, 100, 44, 49, 35, 36, 37, 39, 40, 41, 42, 43, 45, 46, 47, 48, 101, 102, 103, 104, 105, 106, 107, 108, 120, 121, 122, 123, 124, 125, 126, 127, 128, 129, 130, 131, 132, 133, 134, 135, 136] (by decide +kernel) (by decide +kernel)
set_option maxRecDepth 20000 in
theorem gX6_fix_X4_correct : GoodIn wsX6_fix (wsV RX6 95 RX4 yX4_correct wsX4_correct) := goodIn_app (goodIn_of _ (by decide +kernel)) ggX6_fix_X4_correct
set_option maxRecDepth 20000 in
theorem ggX6_fix_X2_errors : GoodIn wsX6_fix wsX2_errors := goodIn_r _ [112, 12, 113, 21, 22, 10, 23, 24, 25, 26, 27, 28, 29, 30, 31, 32, 33, 131, 132, 133] (by decide +kernel) (by decide +kernel)
set_option maxRecDepth 20000 in
theorem gX6_fix_X2_errors : GoodIn wsX6_fix (wsV RX6 99 RX2 yX2_errors wsX2_errors) := goodIn_app (goodIn_of _ (by decide +kernel)) ggX6_fix_X2_errors
set_option maxRecDepth 20000 in
theorem ggX6_back_X4_whyNotReturn : GoodIn wsX6_back wsX4_whyNotReturn := goodIn_r _ [9, 10, 11, 12, 13, 14, 15, 16, 17, 18, 19, 20, 8, 21, 22, 23, 24, 25, 26, 27, 28, 29, 30, 31, 32, 33, 34, 35, 36, 37, 38, 104, 105, 106, 107, 108, 109, 110, 111, 112, 113, 114, 115, 116, 117, 118, 119, 120] (by decide +kernel) (by decide +kernel)
set_option maxRecDepth 20000 in
theorem gX6_back_X4_whyNotReturn : GoodIn wsX6_back (wsV RX6 103 RX4 yX4_whyNotReturn wsX4_whyNotReturn) := goodIn_app (goodIn_of _ (by decide +kernel)) ggX6_back_X4_whyNotReturn
set_option maxRecDepth 20000 in
theorem ggX6_back_X1_save : GoodIn wsX6_back wsX1_save := goodIn_r _ [43, 44, 45, 46, 47, 48, 49, 8, 50, 10, 11, 26, 51, 52, 53, 54, 55, 56, 57, 58, 59, 60, 61, 15, 62, 63, 17, 64, 65, 66, 67, 30, 68, 38, 33, 32, 121, 122, 123, 104, 105, 106, 107, 108, 109, 110, 111, 112, 113, 114, 118, 119, 120, 115, 116, 117] (by decide +kernel) (by decide +kernel)
set_option maxRecDepth 20000 in
theorem gX6_back_X1_save : GoodIn wsX6_back (wsV RX6 64 RX1 yX1_save wsX1_save) := goodIn_app (goodIn_of _ (by decide +kernel)) ggX6_back_X1_save
set_option maxRecDepth 20000 in
theorem ggX6_back_X4_returnLine : GoodIn wsX6_back wsX4_returnLine := goodIn_r _ [72, 11, 10, 56, 51, 18, 19, 20, 8, 21, 22, 23, 24, 25, 26, 27, 28, 29, 30, 31, 32, 33, 34, 35, 36, 37, 38, 73, 74, 75, 15, 76, 17, 63, 77, 78, 79, 80, 104, 105, 106, 107, 108, 109, 110, 111, 112, 113, 114, 115, 116, 117, 118, 119, 120] (by decide +kernel) (by decide +kernel)
set_option maxRecDepth 20000 in
theorem gX6_back_X4_returnLine : GoodIn wsX6_back (wsV RX6 108 RX4 yX4_returnLine wsX4_returnLine) := goodIn_app (goodIn_of _ (by decide +kernel)) ggX6_back_X4_returnLine
set_option maxRecDepth 20000 in
theorem ggX6_back_X0_wrong : GoodIn wsX6_back wsX0_wrong := goodIn_r _ [84, 85, 86, 87, 15, 88, 89, 13, 14, 16, 17, 90, 91, 92, 93, 94, 95, 96, 97, 63, 118, 119, 120] (by decide +kernel) (by decide +kernel)
set_option maxRecDepth 20000 in
theorem gX6_back_X0_wrong : GoodIn wsX6_back (wsV RX6 114 RX0 yX0_wrong wsX0_wrong) := goodIn_app (goodIn_of _ (by decide +kernel)) ggX6_back_X0_wrong
set_option maxRecDepth 20000 in
theorem ggX6_swap_X6_isSort : GoodIn wsX6_swap wsX6_isSort := goodIn_r _ [8] (by decide +kernel) (by decide +kernel)
set_option maxRecDepth 20000 in
theorem gX6_swap_X6_isSort : GoodIn wsX6_swap (va_wsS RX6 44 yX6_isSort wsX6_isSort) := goodIn_app (goodIn_of _ (by decide +kernel)) ggX6_swap_X6_isSort
set_option maxRecDepth 20000 in
theorem ggX6_swap_X1_save : GoodIn wsX6_swap wsX1_save := goodIn_r _ [13, 14, 15, 16, 17, 18, 19, 20, 21, 22, 23, 24, 25, 26, 27, 28, 29, 30, 31, 32, 33, 34, 35, 36, 37, 38, 39, 40, 41, 42, 43, 44, 45, 46, 47, 48, 102, 103, 104, 91, 92, 93, 94, 95, 96, 97, 98, 99, 100, 101, 105, 106, 107, 108, 109, 110] (by decide +kernel) (by decide +kernel)
set_option maxRecDepth 20000 in
theorem gX6_swap_X1_save : GoodIn wsX6_swap (wsV RX6 64 RX1 yX1_save wsX1_save) := goodIn_app (goodIn_of _ (by decide +kernel)) ggX6_swap_X1_save
set_option maxRecDepth 20000 in
theorem ggX6_swap_X4_exchange : GoodIn wsX6_swap wsX4_exchange := goodIn_r _ [52, 22, 25, 53, 54, 55, 36, 56, 57, 58, 59, 60, 39, 38, 61, 62, 63, 64, 65, 66, 67, 68, 91, 92, 93, 94, 95, 96, 97, 98, 99, 100, 101, 105, 106, 107] (by decide +kernel) (by decide +kernel)
set_option maxRecDepth 20000 in
theorem gX6_swap_X4_exchange : GoodIn wsX6_swap (wsV RX6 119 RX4 yX4_exchange wsX4_exchange) := goodIn_app (goodIn_of _ (by decide +kernel)) ggX6_swap_X4_exchange
set_option maxRecDepth 20000 in
theorem ggX6_swap_X0_wrong : GoodIn wsX6_swap wsX0_wrong := goodIn_r _ [72, 73, 74, 75, 36, 76, 77, 78, 79, 80, 39, 81, 82, 83, 84, 57, 58, 59, 60, 38, 105, 106, 107] (by decide +kernel) (by decide +kernel)
set_option maxRecDepth 20000 in
theorem gX6_swap_X0_wrong : GoodIn wsX6_swap (wsV RX6 114 RX0 yX0_wrong wsX0_wrong) := goodIn_app (goodIn_of _ (by decide +kernel)) ggX6_swap_X0_wrong
set_option maxRecDepth 20000 in
theorem ggX6_change_X1_save : GoodIn wsX6_change wsX1_save := goodIn_r _ [13, 14, 15, 16, 17, 18, 19, 20, 21, 22, 23, 24, 25, 26, 27, 28, 29, 30, 31, 32, 33, 34, 35, 36, 37, 38, 39, 40, 41, 42, 43, 44, 45, 46, 47, 48, 63, 64, 65, 66, 67, 68, 69, 70, 71, 72, 73, 74, 75, 76, 77, 78, 79, 80, 81, 82] (by decide +kernel) (by decide +kernel)
set_option maxRecDepth 20000 in
theorem gX6_change_X1_save : GoodIn wsX6_change (wsV RX6 64 RX1 yX1_save wsX1_save) := goodIn_app (goodIn_of _ (by decide +kernel)) ggX6_change_X1_save
set_option maxRecDepth 20000 in
theorem ggX6_change_X4_changeSetting : GoodIn wsX6_change wsX4_changeSetting := goodIn_r _ [52, 25, 24, 53, 54, 55, 20, 56, 66, 67, 68, 69, 70, 71, 72, 73, 74, 75, 76] (by decide +kernel) (by decide +kernel)
set_option maxRecDepth 20000 in
theorem gX6_change_X4_changeSetting : GoodIn wsX6_change (wsV RX6 134 RX4 yX4_changeSetting wsX4_changeSetting) := goodIn_app (goodIn_of _ (by decide +kernel)) ggX6_change_X4_changeSetting
set_option maxRecDepth 20000 in
theorem ggX6_append_X5_add : GoodIn wsX6_append wsX5_add := goodIn_r _ [10, 11, 12, 19, 20] (by decide +kernel) (by decide +kernel)
set_option maxRecDepth 20000 in
theorem gX6_append_X5_add : GoodIn wsX6_append (wsV RX6 146 RX5 yX5_add wsX5_add) := goodIn_app (goodIn_of _ (by decide +kernel)) ggX6_append_X5_add
set_option maxRecDepth 20000 in
theorem ggX6_clearBuffer_X5_clear : GoodIn wsX6_clearBuffer wsX5_clear := goodIn_r _ [6, 7, 14, 15] (by decide +kernel) (by decide +kernel)
set_option maxRecDepth 20000 in
theorem gX6_clearBuffer_X5_clear : GoodIn wsX6_clearBuffer (wsV RX6 149 RX5 yX5_clear wsX5_clear) := goodIn_app (goodIn_of _ (by decide +kernel)) ggX6_clearBuffer_X5_clear
set_option maxRecDepth 20000 in
theorem ggX6_firstError_X5_firstMisfit : GoodIn wsX6_firstError wsX5_firstMisfit := goodIn_r _ [6, 7, 8, 9, 10, 5, 11, 12, 13, 14, 15, 16, 17, 18, 19, 20, 21, 22, 23, 24, 25, 26, 27, 28, 29, 30, 31, 32, 33, 34, 35, 36, 37, 38, 39, 40, 41, 42, 43, 44, 45, 46, 47, 48, 49, 50, 51, 52, 53, 54, 55, 56, 57, 58, 59, 60, 61, 62, 63, 64, 65, 66, 67, 68, 69, 70, 71, 72, 73, 74, 75, 76, 77, 78, 79, 80, 81, 82, 83, 84, 85, 86, 87, 88, 89, 90, 91, 92, 99, 100] (by decide +kernel) (by decide +kernel)
set_option maxRecDepth 20000 in
theorem gX6_firstError_X5_firstMisfit : GoodIn wsX6_firstError (wsV RX6 152 RX5 yX5_firstMisfit wsX5_firstMisfit) := goodIn_app (goodIn_of _ (by decide +kernel)) ggX6_firstError_X5_firstMisfit
set_option maxRecDepth 20000 in
theorem ggX6_work_X5_isWhole : GoodIn wsX6_work wsX5_isWhole := goodIn_r _ [10, 11, 12, 13, 14, 9, 15, 16, 17, 18, 19, 20, 21, 22, 23, 24, 25, 26, 27, 28, 29, 30, 31, 32, 33, 34, 35, 36, 37, 38, 39, 40, 41, 42, 43, 44, 45, 46, 47, 48, 49, 50, 51, 52, 53, 54, 55, 56, 57, 58, 59, 60, 61, 62, 63, 64, 65, 66, 67, 68, 69, 70, 71, 72, 73, 74, 75, 76, 77, 78, 79, 80, 81, 82, 83, 84, 85, 86, 87, 88, 89, 90, 91, 92, 292, 293] (by decide +kernel) (by decide +kernel)
set_option maxRecDepth 20000 in
theorem gX6_work_X5_isWhole : GoodIn wsX6_work (wsV RX6 155 RX5 yX5_isWhole wsX5_isWhole) := goodIn_app (goodIn_of _ (by decide +kernel)) ggX6_work_X5_isWhole
set_option maxRecDepth 20000 in
theorem ggX6_work_X1_save : GoodIn wsX6_work wsX1_save := goodIn_r _ [97, 98, 99, 100, 101, 102, 103, 104, 105, 106, 107, 108, 109, 110, 111, 112, 113, 114, 115, 116, 117, 118, 119, 120, 121, 122, 123, 124, 125, 126, 127, 128, 129, 130, 131, 132, 305, 306, 307, 294, 295, 296, 297, 298, 299, 300, 301, 302, 303, 304, 308, 309, 310, 311, 312, 313] (by decide +kernel) (by decide +kernel)
set_option maxRecDepth 20000 in
theorem gX6_work_X1_save : GoodIn wsX6_work (wsV RX6 64 RX1 yX1_save wsX1_save) := goodIn_app (goodIn_of _ (by decide +kernel)) ggX6_work_X1_save
set_option maxRecDepth 20000 in
theorem ggX6_work_X5_isPartEnd : GoodIn wsX6_work wsX5_isPartEnd := goodIn_r _ [15, 11, 16, 17, 18, 9, 19, 20, 292, 293] (by decide +kernel) (by decide +kernel)
set_option maxRecDepth 20000 in
theorem gX6_work_X5_isPartEnd : GoodIn wsX6_work (wsV RX6 161 RX5 yX5_isPartEnd wsX5_isPartEnd) := goodIn_app (goodIn_of _ (by decide +kernel)) ggX6_work_X5_isPartEnd
set_option maxRecDepth 20000 in
theorem ggX6_work_X6_doPart : GoodIn wsX6_work wsX6_doPart := goodIn_r _ [137, 3, 138, 139, 140, 141, 5, 142, 22, 23, 9, 24, 25, 26, 27, 28, 29, 30, 31, 32, 33, 34, 35, 36, 37, 38, 39, 40, 16, 17, 18, 19, 11, 20, 41, 42, 43, 44, 45, 46, 47, 48, 49, 50, 51, 52, 53, 54, 55, 56, 57, 58, 59, 60, 61, 62, 63, 64, 65, 66, 67, 68, 69, 70, 71, 72, 73, 74, 75, 76, 77, 78, 79, 80, 81, 82, 83, 84, 85, 86, 87, 88, 89, 90, 91, 92, 143, 144, 145, 146, 147, 148, 149, 150, 151, 104, 152, 106, 107, 153, 154, 155, 120, 156, 123, 122, 157, 158, 159, 128, 160, 132, 161, 162, 163, 164, 130, 165, 166, 167, 168, 169, 170, 108, 171, 172, 173, 174, 110, 109, 175, 176, 177, 178, 179, 180, 181, 182, 131, 183, 184, 185, 186, 112, 111, 187, 188, 189, 190, 124, 191, 192, 193, 194, 195, 196, 197, 198, 199, 200, 201, 202, 203, 204, 205, 206, 207, 208, 209, 210, 211, 212, 213, 214, 215, 216, 217, 218, 219, 220, 221, 222, 223, 224, 225, 226, 227, 228, 229, 230, 231, 232, 233, 234, 235, 236, 237, 238, 239, 240, 241, 242, 243, 113, 244, 245, 246, 247, 248, 249, 250, 251, 252, 253, 254, 255, 256, 257, 258, 259, 260, 261, 262, 263, 264, 265, 114, 266, 267, 268, 269, 270, 271, 272, 273, 274, 275, 276, 277, 278, 279, 280, 281, 286, 287, 288, 289, 290, 291, 292, 293, 294, 295, 296, 297, 298, 299, 300, 301, 302, 303, 304, 308, 309, 310, 311, 312, 313] (by decide +kernel) (by decide +kernel)
set_option maxRecDepth 20000 in
theorem gX6_work_X6_doPart : GoodIn wsX6_work (wsV RX6 164 RX6 yX6_doPart wsX6_doPart) := goodIn_app (goodIn_of _ (by decide +kernel)) ggX6_work_X6_doPart
set_option maxRecDepth 20000 in
theorem ggX6_work_X5_clear : GoodIn wsX6_work wsX5_clear := goodIn_r _ [285, 11, 292, 293] (by decide +kernel) (by decide +kernel)
set_option maxRecDepth 20000 in
theorem gX6_work_X5_clear : GoodIn wsX6_work (wsV RX6 149 RX5 yX5_clear wsX5_clear) := goodIn_app (goodIn_of _ (by decide +kernel)) ggX6_work_X5_clear
set_option maxRecDepth 20000 in
theorem ggX6_told_X2_characterAt : GoodIn wsX6_told wsX2_characterAt := goodIn_r _ [8, 9, 10, 11, 12, 7, 13, 14, 15, 16, 17, 18, 19, 20, 21, 22, 23, 41, 42, 43] (by decide +kernel) (by decide +kernel)
set_option maxRecDepth 20000 in
theorem gX6_told_X2_characterAt : GoodIn wsX6_told (wsV RX6 177 RX2 yX2_characterAt wsX2_characterAt) := goodIn_app (goodIn_of _ (by decide +kernel)) ggX6_told_X2_characterAt
set_option maxRecDepth 20000 in
theorem ggX6_undo_X1_giveBack : GoodIn wsX6_undo wsX1_giveBack := goodIn_r _ [9, 10, 11, 12, 13, 14, 15, 16, 17, 18, 19, 20, 21, 22, 23, 24, 25, 26, 27, 28, 29, 30, 31, 32, 33, 34, 35, 36, 37, 38, 39, 40, 41, 42, 43, 44, 51, 52, 53, 54, 55, 56, 57, 58, 59, 60, 61, 62, 63, 64, 65, 66, 67, 68, 69, 70] (by decide +kernel) (by decide +kernel)
set_option maxRecDepth 20000 in
theorem gX6_undo_X1_giveBack : GoodIn wsX6_undo (wsV RX6 185 RX1 yX1_giveBack wsX1_giveBack) := goodIn_app (goodIn_of _ (by decide +kernel)) ggX6_undo_X1_giveBack
set_option maxRecDepth 20000 in
theorem ggX6_keep_X4_copyFrom : GoodIn wsX6_keep wsX4_copyFrom := goodIn_r _ [8, 9, 10, 11, 12, 13, 14, 15, 16, 17, 18, 19, 20, 21, 22, 23, 24, 25, 26, 27, 28, 29, 30, 31, 32, 33, 34, 35, 42, 43, 44, 45, 46, 47, 48, 49, 50, 51, 52, 56, 57, 58, 53, 54, 55] (by decide +kernel) (by decide +kernel)
set_option maxRecDepth 20000 in
theorem gX6_keep_X4_copyFrom : GoodIn wsX6_keep (wsV RX6 188 RX4 yX4_copyFrom wsX4_copyFrom) := goodIn_app (goodIn_of _ (by decide +kernel)) ggX6_keep_X4_copyFrom
set_option maxRecDepth 20000 in
theorem ggX6_restore_X1_save : GoodIn wsX6_restore wsX1_save := goodIn_r _ [11, 12, 13, 14, 15, 16, 17, 18, 19, 20, 21, 22, 23, 24, 25, 26, 27, 28, 29, 30, 31, 32, 33, 34, 35, 36, 37, 38, 39, 40, 41, 42, 43, 44, 45, 46, 68, 69, 70, 54, 55, 56, 57, 58, 59, 60, 61, 62, 63, 64, 71, 72, 73, 65, 66, 67] (by decide +kernel) (by decide +kernel)
set_option maxRecDepth 20000 in
theorem gX6_restore_X1_save : GoodIn wsX6_restore (wsV RX6 64 RX1 yX1_save wsX1_save) := goodIn_app (goodIn_of _ (by decide +kernel)) ggX6_restore_X1_save
set_option maxRecDepth 20000 in
theorem ggX6_restore_X4_copyFrom : GoodIn wsX6_restore wsX4_copyFrom := goodIn_r _ [19, 20, 21, 22, 23, 24, 25, 26, 27, 28, 29, 30, 31, 32, 33, 34, 35, 36, 37, 38, 39, 40, 41, 42, 43, 44, 45, 46, 54, 55, 56, 57, 58, 59, 60, 61, 62, 63, 64, 71, 72, 73, 65, 66, 67] (by decide +kernel) (by decide +kernel)
set_option maxRecDepth 20000 in
theorem gX6_restore_X4_copyFrom : GoodIn wsX6_restore (wsV RX6 188 RX4 yX4_copyFrom wsX4_copyFrom) := goodIn_app (goodIn_of _ (by decide +kernel)) ggX6_restore_X4_copyFrom
set_option maxRecDepth 20000 in
theorem ggX6_box_X6_isSort : GoodIn wsX6_box wsX6_isSort := goodIn_r _ [8] (by decide +kernel) (by decide +kernel)
set_option maxRecDepth 20000 in
theorem gX6_box_X6_isSort : GoodIn wsX6_box (va_wsS RX6 44 yX6_isSort wsX6_isSort) := goodIn_app (goodIn_of _ (by decide +kernel)) ggX6_box_X6_isSort
set_option maxRecDepth 20000 in
theorem ggX6_box_X6_numberOfBox : GoodIn wsX6_box wsX6_numberOfBox := goodIn_r _ [12, 13, 14, 15, 16, 17, 18, 19, 20, 21, 22, 23, 24, 25, 26, 27, 28, 29, 30, 31, 32, 33, 34, 35, 36, 7, 37, 38, 39, 40, 41, 42, 43, 44, 45, 46, 47, 48, 49, 50, 51, 52, 53, 54, 55, 56, 57, 58, 59, 60, 61] (by decide +kernel) (by decide +kernel)
set_option maxRecDepth 20000 in
theorem gX6_box_X6_numberOfBox : GoodIn wsX6_box (wsV RX6 196 RX6 yX6_numberOfBox wsX6_numberOfBox) := goodIn_app (goodIn_of _ (by decide +kernel)) ggX6_box_X6_numberOfBox
set_option maxRecDepth 20000 in
theorem ggX6_type_X6_isSort : GoodIn wsX6_type wsX6_isSort := goodIn_r _ [9] (by decide +kernel) (by decide +kernel)
set_option maxRecDepth 20000 in
theorem gX6_type_X6_isSort : GoodIn wsX6_type (va_wsS RX6 44 yX6_isSort wsX6_isSort) := goodIn_app (goodIn_of _ (by decide +kernel)) ggX6_type_X6_isSort
set_option maxRecDepth 20000 in
theorem ggX6_type_X0_typeAt : GoodIn wsX6_type wsX0_typeAt := goodIn_r _ [14, 15, 16, 34, 35, 36] (by decide +kernel) (by decide +kernel)
set_option maxRecDepth 20000 in
theorem gX6_type_X0_typeAt : GoodIn wsX6_type (wsV RX6 201 RX0 yX0_typeAt wsX0_typeAt) := goodIn_app (goodIn_of _ (by decide +kernel)) ggX6_type_X0_typeAt
set_option maxRecDepth 20000 in
theorem ggX6_line_X2_has : GoodIn wsX6_line wsX2_has := goodIn_r _ [10, 11, 88, 89, 90] (by decide +kernel) (by decide +kernel)
set_option maxRecDepth 20000 in
theorem gX6_line_X2_has : GoodIn wsX6_line (wsV RX6 83 RX2 yX2_has wsX2_has) := goodIn_app (goodIn_of _ (by decide +kernel)) ggX6_line_X2_has
set_option maxRecDepth 20000 in
theorem ggX6_line_X6_numberOfPlace : GoodIn wsX6_line wsX6_numberOfPlace := goodIn_r _ [16, 5, 17, 18, 19, 9, 20, 11, 21, 22, 23, 24, 25, 26, 27, 28, 29, 30, 31, 32, 33, 34, 35, 36, 37, 38, 39, 40, 41, 42, 43, 44, 45, 46, 47, 48, 49, 50, 51, 52, 53, 54, 55, 56, 57, 58, 59, 60, 61, 62, 63, 64, 65, 66, 67, 68, 69, 70, 71, 72, 73, 74, 75, 76, 77, 78, 79, 80, 81, 82, 83, 84, 85, 86, 87, 88, 89, 90, 91, 92, 93] (by decide +kernel) (by decide +kernel)
set_option maxRecDepth 20000 in
theorem gX6_line_X6_numberOfPlace : GoodIn wsX6_line (wsV RX6 206 RX6 yX6_numberOfPlace wsX6_numberOfPlace) := goodIn_app (goodIn_of _ (by decide +kernel)) ggX6_line_X6_numberOfPlace
set_option maxRecDepth 20000 in
theorem ggX6_count_X6_numberOfAll : GoodIn wsX6_count wsX6_numberOfAll := goodIn_r _ [7, 8, 9, 10, 11, 12, 13, 14, 15, 16, 17, 18, 19, 20, 21, 22, 23, 24, 25, 6, 26, 27, 28, 29, 30, 31, 32, 33, 34, 35, 36, 37, 38, 39, 40, 41, 42, 43, 44, 45, 46, 47, 48, 49, 50, 51, 52, 53, 54, 55, 56, 57, 58, 59, 60, 61, 62, 63, 64, 65, 66, 67, 68, 69, 70, 71, 72, 73, 74, 75, 76, 77, 78, 79, 80, 81, 82, 83, 84, 85, 86, 87, 88, 89, 90, 91, 92, 93, 94, 95, 96, 97, 98, 99, 100, 101, 102, 103, 104, 105, 106, 107, 108, 109] (by decide +kernel) (by decide +kernel)
set_option maxRecDepth 20000 in
theorem gX6_count_X6_numberOfAll : GoodIn wsX6_count (wsV RX6 211 RX6 yX6_numberOfAll wsX6_numberOfAll) := goodIn_app (goodIn_of _ (by decide +kernel)) ggX6_count_X6_numberOfAll
set_option maxRecDepth 20000 in
theorem ggX6_whyNot_X6_isSort : GoodIn wsX6_whyNot wsX6_isSort := goodIn_r _ [7] (by decide +kernel) (by decide +kernel)
set_option maxRecDepth 20000 in
theorem gX6_whyNot_X6_isSort : GoodIn wsX6_whyNot (va_wsS RX6 44 yX6_isSort wsX6_isSort) := goodIn_app (goodIn_of _ (by decide +kernel)) ggX6_whyNot_X6_isSort
set_option maxRecDepth 20000 in
theorem ggX6_whyNot_X4_whyNotSet : GoodIn wsX6_whyNot wsX4_whyNotSet := goodIn_r _ [12, 13, 14, 15, 16, 17, 18, 19, 20, 21, 22, 23, 24, 25, 26, 27, 28, 29, 30, 31, 32, 33, 6, 34, 35, 36, 37, 11, 38, 39, 46, 47, 48, 49, 50, 51, 52, 53, 54, 55, 56, 57, 58, 59, 60, 61, 62] (by decide +kernel) (by decide +kernel)
set_option maxRecDepth 20000 in
theorem gX6_whyNot_X4_whyNotSet : GoodIn wsX6_whyNot (wsV RX6 55 RX4 yX4_whyNotSet wsX4_whyNotSet) := goodIn_app (goodIn_of _ (by decide +kernel)) ggX6_whyNot_X4_whyNotSet
set_option maxRecDepth 20000 in
theorem ggX6_ifSet_X6_isSort : GoodIn wsX6_ifSet wsX6_isSort := goodIn_r _ [9] (by decide +kernel) (by decide +kernel)
set_option maxRecDepth 20000 in
theorem gX6_ifSet_X6_isSort : GoodIn wsX6_ifSet (va_wsS RX6 44 yX6_isSort wsX6_isSort) := goodIn_app (goodIn_of _ (by decide +kernel)) ggX6_ifSet_X6_isSort
set_option maxRecDepth 20000 in
theorem ggX6_ifSet_X4_errorsIfSet : GoodIn wsX6_ifSet wsX4_errorsIfSet := goodIn_r _ [14, 15, 16, 17, 18, 19, 20, 21, 22, 23, 24, 25, 26, 27, 28, 8, 29, 30, 31, 32, 33, 34, 35, 36, 37, 38, 39, 13, 40, 41, 48, 49, 50, 51, 52, 53, 54, 55, 56, 57, 58, 59, 60, 61, 62, 63, 64] (by decide +kernel) (by decide +kernel)
set_option maxRecDepth 20000 in
theorem gX6_ifSet_X4_errorsIfSet : GoodIn wsX6_ifSet (wsV RX6 216 RX4 yX4_errorsIfSet wsX4_errorsIfSet) := goodIn_app (goodIn_of _ (by decide +kernel)) ggX6_ifSet_X4_errorsIfSet
set_option maxRecDepth 20000 in
theorem ggX6_sortedIn_X0_copyFrom : GoodIn wsX6_sortedIn wsX0_copyFrom := goodIn_r _ [7, 8, 9, 10, 52, 53, 54] (by decide +kernel) (by decide +kernel)
set_option maxRecDepth 20000 in
theorem gX6_sortedIn_X0_copyFrom : GoodIn wsX6_sortedIn (wsV RX6 219 RX0 yX0_copyFrom wsX0_copyFrom) := goodIn_app (goodIn_of _ (by decide +kernel)) ggX6_sortedIn_X0_copyFrom
set_option maxRecDepth 20000 in
theorem ggX6_sortedIn_X0_sortAll : GoodIn wsX6_sortedIn wsX0_sortAll := goodIn_r _ [14, 15, 16, 17, 6, 18, 10, 19, 20, 21, 22, 9, 8, 23, 24, 25, 26, 27, 28, 29, 30, 31, 32, 33, 34, 52, 53, 54] (by decide +kernel) (by decide +kernel)
set_option maxRecDepth 20000 in
theorem gX6_sortedIn_X0_sortAll : GoodIn wsX6_sortedIn (wsV RX6 222 RX0 yX0_sortAll wsX0_sortAll) := goodIn_app (goodIn_of _ (by decide +kernel)) ggX6_sortedIn_X0_sortAll
set_option maxRecDepth 20000 in
theorem ggX6_wrongThen_X0_copyFrom : GoodIn wsX6_wrongThen wsX0_copyFrom := goodIn_r _ [7, 8, 9, 10, 68, 69, 70] (by decide +kernel) (by decide +kernel)
set_option maxRecDepth 20000 in
theorem gX6_wrongThen_X0_copyFrom : GoodIn wsX6_wrongThen (wsV RX6 219 RX0 yX0_copyFrom wsX0_copyFrom) := goodIn_app (goodIn_of _ (by decide +kernel)) ggX6_wrongThen_X0_copyFrom
set_option maxRecDepth 20000 in
theorem ggX6_wrongThen_X0_sortAll : GoodIn wsX6_wrongThen wsX0_sortAll := goodIn_r _ [14, 15, 16, 17, 6, 18, 10, 19, 20, 21, 22, 9, 8, 23, 24, 25, 26, 27, 28, 29, 30, 31, 32, 33, 34, 68, 69, 70] (by decide +kernel) (by decide +kernel)
set_option maxRecDepth 20000 in
theorem gX6_wrongThen_X0_sortAll : GoodIn wsX6_wrongThen (wsV RX6 222 RX0 yX0_sortAll wsX0_sortAll) := goodIn_app (goodIn_of _ (by decide +kernel)) ggX6_wrongThen_X0_sortAll
set_option maxRecDepth 20000 in
theorem ggX6_wrongThen_X0_wrong : GoodIn wsX6_wrongThen wsX0_wrong := goodIn_r _ [38, 39, 40, 41, 6, 42, 43, 44, 45, 46, 9, 47, 48, 49, 50, 19, 20, 21, 22, 8, 68, 69, 70] (by decide +kernel) (by decide +kernel)
set_option maxRecDepth 20000 in
theorem gX6_wrongThen_X0_wrong : GoodIn wsX6_wrongThen (wsV RX6 114 RX0 yX0_wrong wsX0_wrong) := goodIn_app (goodIn_of _ (by decide +kernel)) ggX6_wrongThen_X0_wrong
set_option maxRecDepth 20000 in
theorem ggX6_rightShare_X2_errors : GoodIn wsX6_rightShare wsX2_errors := goodIn_r _ [6, 7, 8, 9, 10, 5, 11, 12, 13, 14, 15, 16, 17, 18, 19, 20, 21, 39, 40, 41] (by decide +kernel) (by decide +kernel)
set_option maxRecDepth 20000 in
theorem gX6_rightShare_X2_errors : GoodIn wsX6_rightShare (wsV RX6 99 RX2 yX2_errors wsX2_errors) := goodIn_app (goodIn_of _ (by decide +kernel)) ggX6_rightShare_X2_errors
set_option maxRecDepth 20000 in
theorem ggX6_digest_X6_numberOfAll : GoodIn wsX6_digest wsX6_numberOfAll := goodIn_r _ [8, 2, 9, 10, 11, 12, 13, 14, 15, 16, 17, 18, 19, 20, 21, 22, 23, 24, 25, 7, 26, 27, 28, 29, 30, 31, 32, 33, 34, 35, 36, 37, 38, 39, 40, 41, 42, 43, 44, 45, 46, 47, 48, 49, 50, 51, 52, 53, 54, 55, 56, 57, 58, 59, 60, 61, 62, 63, 64, 65, 66, 67, 68, 69, 70, 71, 72, 73, 74, 75, 76, 77, 78, 79, 80, 81, 82, 83, 197, 198, 199, 200, 201, 202, 203, 204, 205, 206, 207, 208, 209, 210, 211, 212, 213, 216, 217, 218, 219, 220, 221, 222, 223, 224] (by decide +kernel) (by decide +kernel)
set_option maxRecDepth 20000 in
theorem gX6_digest_X6_numberOfAll : GoodIn wsX6_digest (wsV RX6 211 RX6 yX6_numberOfAll wsX6_numberOfAll) := goodIn_app (goodIn_of _ (by decide +kernel)) ggX6_digest_X6_numberOfAll
set_option maxRecDepth 20000 in
theorem ggX6_digest_X6_mixed : GoodIn wsX6_digest wsX6_mixed := goodIn_r _ [86, 87] (by decide +kernel) (by decide +kernel)
set_option maxRecDepth 20000 in
theorem gX6_digest_X6_mixed : GoodIn wsX6_digest (va_wsS RX6 227 yX6_mixed wsX6_mixed) := goodIn_app (goodIn_of _ (by decide +kernel)) ggX6_digest_X6_mixed
set_option maxRecDepth 20000 in
theorem ggX6_digest_X6_mixedWithBox : GoodIn wsX6_digest wsX6_mixedWithBox := goodIn_r _ [91, 2, 92, 93, 94, 7, 95, 96, 46, 47, 43, 48, 49, 97, 55, 56, 57, 45, 58, 59, 60, 61, 62, 63, 64, 65, 66, 98, 99, 25, 26, 100, 101, 102, 103, 84, 85, 86, 87, 104, 105, 106, 70, 107, 72, 73, 108, 109, 17, 18, 13, 19, 15, 20, 21, 22, 23, 24, 110, 80, 81, 82, 83, 111, 112, 113, 114, 197, 198, 199, 200, 201, 202, 203, 204, 205, 206, 207, 208, 209, 210, 211, 212, 213, 219, 220, 221, 216, 217, 218] (by decide +kernel) (by decide +kernel)
set_option maxRecDepth 20000 in
theorem gX6_digest_X6_mixedWithBox : GoodIn wsX6_digest (wsV RX6 231 RX6 yX6_mixedWithBox wsX6_mixedWithBox) := goodIn_app (goodIn_of _ (by decide +kernel)) ggX6_digest_X6_mixedWithBox
set_option maxRecDepth 20000 in
theorem ggX6_digest_X6_mixedWithLine : GoodIn wsX6_digest wsX6_mixedWithLine := goodIn_r _ [118, 2, 119, 120, 121, 7, 122, 123, 21, 22, 13, 23, 15, 24, 124, 36, 37, 38, 39, 125, 32, 33, 34, 20, 35, 126, 127, 128, 70, 129, 73, 72, 130, 131, 132, 133, 134, 43, 135, 45, 46, 47, 48, 49, 62, 63, 64, 65, 66, 136, 137, 138, 139, 110, 80, 81, 82, 83, 140, 141, 142, 143, 144, 84, 85, 86, 87, 27, 28, 29, 30, 31, 145, 146, 147, 148, 197, 198, 199, 200, 201, 202, 203, 204, 205, 206, 207, 208, 209, 210, 211, 212, 213, 216, 217, 218, 219, 220, 221] (by decide +kernel) (by decide +kernel)
set_option maxRecDepth 20000 in
theorem gX6_digest_X6_mixedWithLine : GoodIn wsX6_digest (wsV RX6 235 RX6 yX6_mixedWithLine wsX6_mixedWithLine) := goodIn_app (goodIn_of _ (by decide +kernel)) ggX6_digest_X6_mixedWithLine
set_option maxRecDepth 20000 in
theorem ggX6_digest_X6_sortedIn : GoodIn wsX6_digest wsX6_sortedIn := goodIn_r _ [152, 153, 2, 154, 155, 156, 43, 157, 66, 49, 158, 159, 160, 161, 162, 163, 164, 165, 166, 62, 63, 64, 65, 167, 142, 143, 144, 168, 169, 170, 171, 172, 173, 174, 175, 197, 198, 199, 200, 201, 202, 203, 204, 205, 206, 207, 208, 209, 210, 211, 212, 213, 219, 220, 221] (by decide +kernel) (by decide +kernel)
set_option maxRecDepth 20000 in
theorem gX6_digest_X6_sortedIn : GoodIn wsX6_digest (wsV RX6 239 RX6 yX6_sortedIn wsX6_sortedIn) := goodIn_app (goodIn_of _ (by decide +kernel)) ggX6_digest_X6_sortedIn
set_option maxRecDepth 20000 in
theorem ggX6_digest_X6_wrongThen : GoodIn wsX6_digest wsX6_wrongThen := goodIn_r _ [179, 153, 2, 154, 155, 156, 43, 157, 66, 49, 158, 159, 160, 161, 162, 163, 164, 165, 166, 62, 63, 64, 65, 167, 142, 143, 144, 168, 169, 170, 171, 172, 173, 174, 175, 50, 51, 52, 53, 54, 55, 56, 57, 45, 46, 47, 48, 58, 59, 60, 61, 197, 198, 199, 200, 201, 202, 203, 204, 205, 206, 207, 208, 209, 210, 211, 212, 213, 219, 220, 221] (by decide +kernel) (by decide +kernel)
set_option maxRecDepth 20000 in
theorem gX6_digest_X6_wrongThen : GoodIn wsX6_digest (wsV RX6 242 RX6 yX6_wrongThen wsX6_wrongThen) := goodIn_app (goodIn_of _ (by decide +kernel)) ggX6_digest_X6_wrongThen
set_option maxRecDepth 20000 in
theorem ggX6_digest_X6_rightShare : GoodIn wsX6_digest wsX6_rightShare := goodIn_r _ [183, 2, 27, 28, 29, 13, 30, 15, 31, 32, 33, 34, 20, 21, 22, 23, 24, 35, 36, 37, 38, 39, 197, 198, 199, 200, 201, 202, 203, 204, 205, 206, 207, 208, 209, 210, 211, 212, 213, 216, 217, 218] (by decide +kernel) (by decide +kernel)
set_option maxRecDepth 20000 in
theorem gX6_digest_X6_rightShare : GoodIn wsX6_digest (wsV RX6 245 RX6 yX6_rightShare wsX6_rightShare) := goodIn_app (goodIn_of _ (by decide +kernel)) ggX6_digest_X6_rightShare
set_option maxRecDepth 20000 in
theorem ggX6_digest_X6_bitsOf : GoodIn wsX6_digest wsX6_bitsOf := goodIn_r _ [186, 187, 188, 189] (by decide +kernel) (by decide +kernel)
set_option maxRecDepth 20000 in
theorem gX6_digest_X6_bitsOf : GoodIn wsX6_digest (va_wsS RX6 249 yX6_bitsOf wsX6_bitsOf) := goodIn_app (goodIn_of _ (by decide +kernel)) ggX6_digest_X6_bitsOf
set_option maxRecDepth 20000 in
theorem ggX6_digest_X5_codeAt : GoodIn wsX6_digest wsX5_codeAt := goodIn_r _ [194, 195, 196, 214, 215] (by decide +kernel) (by decide +kernel)
set_option maxRecDepth 20000 in
theorem gX6_digest_X5_codeAt : GoodIn wsX6_digest (wsV RX6 253 RX5 yX5_codeAt wsX5_codeAt) := goodIn_app (goodIn_of _ (by decide +kernel)) ggX6_digest_X5_codeAt
set_option maxRecDepth 20000 in
theorem ggX6_numberOfBox_X0_heightOf : GoodIn wsX6_numberOfBox wsX0_heightOf := goodIn_r _ [6, 7, 48, 49, 50] (by decide +kernel) (by decide +kernel)
set_option maxRecDepth 20000 in
theorem gX6_numberOfBox_X0_heightOf : GoodIn wsX6_numberOfBox (wsV RX6 256 RX0 yX0_heightOf wsX0_heightOf) := goodIn_app (goodIn_of _ (by decide +kernel)) ggX6_numberOfBox_X0_heightOf
set_option maxRecDepth 20000 in
theorem ggX6_numberOfBox_X0_wrongIn : GoodIn wsX6_numberOfBox wsX0_wrongIn := goodIn_r _ [11, 12, 3, 4, 5, 6, 7, 13, 14, 15, 16, 17, 18, 19, 20, 21, 48, 49, 50] (by decide +kernel) (by decide +kernel)
set_option maxRecDepth 20000 in
theorem gX6_numberOfBox_X0_wrongIn : GoodIn wsX6_numberOfBox (wsV RX6 259 RX0 yX0_wrongIn wsX0_wrongIn) := goodIn_app (goodIn_of _ (by decide +kernel)) ggX6_numberOfBox_X0_wrongIn
set_option maxRecDepth 20000 in
theorem ggX6_numberOfBox_X0_typeAt : GoodIn wsX6_numberOfBox wsX0_typeAt := goodIn_r _ [20, 7, 21, 48, 49, 50] (by decide +kernel) (by decide +kernel)
set_option maxRecDepth 20000 in
theorem gX6_numberOfBox_X0_typeAt : GoodIn wsX6_numberOfBox (wsV RX6 201 RX0 yX0_typeAt wsX0_typeAt) := goodIn_app (goodIn_of _ (by decide +kernel)) ggX6_numberOfBox_X0_typeAt
set_option maxRecDepth 20000 in
theorem ggX6_numberOfBox_X6_widthOf : GoodIn wsX6_numberOfBox wsX6_widthOf := goodIn_r _ [26] (by decide +kernel) (by decide +kernel)
set_option maxRecDepth 20000 in
theorem gX6_numberOfBox_X6_widthOf : GoodIn wsX6_numberOfBox (va_wsS RX6 262 yX6_widthOf wsX6_widthOf) := goodIn_app (goodIn_of _ (by decide +kernel)) ggX6_numberOfBox_X6_widthOf
set_option maxRecDepth 20000 in
theorem ggX6_numberOfBox_X0_strayOf : GoodIn wsX6_numberOfBox wsX0_strayOf := goodIn_r _ [30, 13, 14, 15, 5, 16, 12, 3, 4, 6, 7, 17, 18, 19, 20, 21, 48, 49, 50] (by decide +kernel) (by decide +kernel)
set_option maxRecDepth 20000 in
theorem gX6_numberOfBox_X0_strayOf : GoodIn wsX6_numberOfBox (wsV RX6 271 RX0 yX0_strayOf wsX0_strayOf) := goodIn_app (goodIn_of _ (by decide +kernel)) ggX6_numberOfBox_X0_strayOf
set_option maxRecDepth 20000 in
theorem ggX6_numberOfPlace_X2_sortAt : GoodIn wsX6_numberOfPlace wsX2_sortAt := goodIn_r _ [6, 7, 8, 75, 76, 77] (by decide +kernel) (by decide +kernel)
set_option maxRecDepth 20000 in
theorem gX6_numberOfPlace_X2_sortAt : GoodIn wsX6_numberOfPlace (wsV RX6 274 RX2 yX2_sortAt wsX2_sortAt) := goodIn_app (goodIn_of _ (by decide +kernel)) ggX6_numberOfPlace_X2_sortAt
set_option maxRecDepth 20000 in
theorem ggX6_numberOfPlace_X2_letterAt : GoodIn wsX6_numberOfPlace wsX2_letterAt := goodIn_r _ [12, 7, 13, 75, 76, 77] (by decide +kernel) (by decide +kernel)
set_option maxRecDepth 20000 in
theorem gX6_numberOfPlace_X2_letterAt : GoodIn wsX6_numberOfPlace (wsV RX6 277 RX2 yX2_letterAt wsX2_letterAt) := goodIn_app (goodIn_of _ (by decide +kernel)) ggX6_numberOfPlace_X2_letterAt
set_option maxRecDepth 20000 in
theorem ggX6_numberOfPlace_X2_isWrongAt : GoodIn wsX6_numberOfPlace wsX2_isWrongAt := goodIn_r _ [17, 18, 3, 4, 5, 6, 7, 8, 19, 10, 11, 12, 13, 75, 76, 77] (by decide +kernel) (by decide +kernel)
set_option maxRecDepth 20000 in
theorem gX6_numberOfPlace_X2_isWrongAt : GoodIn wsX6_numberOfPlace (wsV RX6 280 RX2 yX2_isWrongAt wsX2_isWrongAt) := goodIn_app (goodIn_of _ (by decide +kernel)) ggX6_numberOfPlace_X2_isWrongAt
set_option maxRecDepth 20000 in
theorem ggX6_numberOfPlace_X4_whyNotCorrect : GoodIn wsX6_numberOfPlace wsX4_whyNotCorrect := goodIn_r _ [24, 25, 26, 27, 15, 16, 5, 17, 18, 3, 4, 6, 7, 8, 19, 10, 11, 12, 13, 28, 29, 30, 31, 32, 33, 34, 35, 36, 37, 38, 39, 40, 41, 42, 43, 44, 45, 46, 23, 47, 48, 49, 50, 51, 52, 53, 54, 55, 56, 57, 64, 65, 66, 67, 68, 69, 70, 71, 72, 73, 74, 75, 76, 77, 78, 79, 80] (by decide +kernel) (by decide +kernel)
set_option maxRecDepth 20000 in
theorem gX6_numberOfPlace_X4_whyNotCorrect : GoodIn wsX6_numberOfPlace (wsV RX6 90 RX4 yX4_whyNotCorrect wsX4_whyNotCorrect) := goodIn_app (goodIn_of _ (by decide +kernel)) ggX6_numberOfPlace_X4_whyNotCorrect
set_option maxRecDepth 20000 in
theorem ggX6_numberOfAll_X2_width : GoodIn wsX6_numberOfAll wsX2_width := goodIn_r _ [7, 8, 9, 10, 11, 6, 12, 13, 14, 15, 16, 17, 18, 19, 20, 95, 96, 97] (by decide +kernel) (by decide +kernel)
set_option maxRecDepth 20000 in
theorem gX6_numberOfAll_X2_width : GoodIn wsX6_numberOfAll (wsV RX6 283 RX2 yX2_width wsX2_width) := goodIn_app (goodIn_of _ (by decide +kernel)) ggX6_numberOfAll_X2_width
set_option maxRecDepth 20000 in
theorem ggX6_numberOfAll_X2_errors : GoodIn wsX6_numberOfAll wsX2_errors := goodIn_r _ [24, 8, 25, 26, 27, 6, 28, 13, 14, 15, 16, 17, 29, 30, 31, 32, 33, 95, 96, 97] (by decide +kernel) (by decide +kernel)
set_option maxRecDepth 20000 in
theorem gX6_numberOfAll_X2_errors : GoodIn wsX6_numberOfAll (wsV RX6 99 RX2 yX2_errors wsX2_errors) := goodIn_app (goodIn_of _ (by decide +kernel)) ggX6_numberOfAll_X2_errors
set_option maxRecDepth 20000 in
theorem ggX6_numberOfAll_X0_types : GoodIn wsX6_numberOfAll wsX0_types := goodIn_r _ [38, 39, 40, 41, 37, 42, 43, 98, 99, 100] (by decide +kernel) (by decide +kernel)
set_option maxRecDepth 20000 in
theorem gX6_numberOfAll_X0_types : GoodIn wsX6_numberOfAll (wsV RX6 286 RX0 yX0_types wsX0_types) := goodIn_app (goodIn_of _ (by decide +kernel)) ggX6_numberOfAll_X0_types
set_option maxRecDepth 20000 in
theorem ggX6_numberOfAll_X0_wrong : GoodIn wsX6_numberOfAll wsX0_wrong := goodIn_r _ [47, 48, 49, 50, 37, 51, 39, 40, 41, 42, 43, 52, 53, 54, 55, 56, 57, 58, 59, 60, 98, 99, 100] (by decide +kernel) (by decide +kernel)
set_option maxRecDepth 20000 in
theorem gX6_numberOfAll_X0_wrong : GoodIn wsX6_numberOfAll (wsV RX6 114 RX0 yX0_wrong wsX0_wrong) := goodIn_app (goodIn_of _ (by decide +kernel)) ggX6_numberOfAll_X0_wrong
set_option maxRecDepth 20000 in
theorem ggX6_numberOfAll_X4_wrongBySorts : GoodIn wsX6_numberOfAll wsX4_wrongBySorts := goodIn_r _ [65, 66, 67, 68, 53, 54, 37, 55, 39, 40, 41, 42, 43, 56, 57, 58, 59, 60, 69, 70, 71, 6, 72, 8, 13, 14, 15, 16, 17, 84, 85, 86, 87, 88, 89, 90, 91, 92, 93, 94, 98, 99, 100, 95, 96, 97] (by decide +kernel) (by decide +kernel)
set_option maxRecDepth 20000 in
theorem gX6_numberOfAll_X4_wrongBySorts : GoodIn wsX6_numberOfAll (wsV RX6 289 RX4 yX4_wrongBySorts wsX4_wrongBySorts) := goodIn_app (goodIn_of _ (by decide +kernel)) ggX6_numberOfAll_X4_wrongBySorts
set_option maxRecDepth 20000 in
theorem ggX6_numberOfAll_X4_settingAt : GoodIn wsX6_numberOfAll wsX4_settingAt := goodIn_r _ [76, 77, 84, 85, 86, 87, 88, 89, 90, 91, 92, 93, 94] (by decide +kernel) (by decide +kernel)
set_option maxRecDepth 20000 in
theorem gX6_numberOfAll_X4_settingAt : GoodIn wsX6_numberOfAll (wsV RX6 307 RX4 yX4_settingAt wsX4_settingAt) := goodIn_app (goodIn_of _ (by decide +kernel)) ggX6_numberOfAll_X4_settingAt
set_option maxRecDepth 20000 in
theorem ggX6_doPart_X5_kindOf : GoodIn wsX6_doPart wsX5_kindOf := goodIn_r _ [11, 12, 13, 14, 10, 15, 16, 17, 18, 19, 20, 21, 22, 23, 24, 25, 26, 27, 28, 29, 30, 31, 32, 33, 34, 35, 36, 37, 38, 39, 40, 41, 42, 43, 44, 45, 46, 47, 48, 49, 50, 51, 52, 53, 54, 55, 56, 57, 58, 59, 60, 61, 62, 63, 64, 65, 66, 67, 68, 69, 70, 71, 72, 73, 74, 75, 76, 77, 78, 79, 80, 81, 82, 83, 84, 85, 249, 250] (by decide +kernel) (by decide +kernel)
set_option maxRecDepth 20000 in
theorem gX6_doPart_X5_kindOf : GoodIn wsX6_doPart (wsV RX6 310 RX5 yX5_kindOf wsX5_kindOf) := goodIn_app (goodIn_of _ (by decide +kernel)) ggX6_doPart_X5_kindOf
set_option maxRecDepth 20000 in
theorem ggX6_doPart_J0_length_8abf5 : GoodIn wsX6_doPart wsJ0_length_8abf5 := goodIn_r _ [20, 21, 22, 23, 24, 19, 25, 26, 27] (by decide +kernel) (by decide +kernel)
set_option maxRecDepth 20000 in
theorem gX6_doPart_J0_length_8abf5 : GoodIn wsX6_doPart (wsV RX6 320 RJ0 yJ0_length_8abf5 wsJ0_length_8abf5) := goodIn_app (goodIn_of _ (by decide +kernel)) ggX6_doPart_J0_length_8abf5
set_option maxRecDepth 20000 in
theorem ggX6_doPart_X6_setLetters : GoodIn wsX6_doPart wsX6_setLetters := goodIn_r _ [90, 1, 6, 91, 76, 77, 10, 78, 28, 29, 30, 31, 32, 33, 92, 93, 94, 95, 96, 97, 98, 99, 100, 101, 102, 103, 104, 105, 106, 107, 108, 109, 110, 111, 112, 113, 114, 115, 116, 117, 80, 118, 119, 120, 121, 122, 123, 124, 125, 126, 127, 128, 129, 130, 131, 132, 133, 134, 135, 136, 137, 138, 139, 140, 141, 142, 143, 144, 145, 146, 147, 148, 149, 150, 151, 152, 153, 154, 155, 156, 157, 158, 159, 243, 244, 245, 246, 247, 248, 249, 250, 251, 252, 253, 254, 255, 256, 257, 258, 259, 260, 261, 262, 263, 264, 265, 266, 267] (by decide +kernel) (by decide +kernel)
set_option maxRecDepth 20000 in
theorem gX6_doPart_X6_setLetters : GoodIn wsX6_doPart (wsV RX6 328 RX6 yX6_setLetters wsX6_setLetters) := goodIn_app (goodIn_of _ (by decide +kernel)) ggX6_doPart_X6_setLetters
set_option maxRecDepth 20000 in
theorem ggX6_doPart_X5_numberIn : GoodIn wsX6_doPart wsX5_numberIn := goodIn_r _ [163, 28, 29, 30, 10, 31, 32, 33, 249, 250] (by decide +kernel) (by decide +kernel)
set_option maxRecDepth 20000 in
theorem gX6_doPart_X5_numberIn : GoodIn wsX6_doPart (wsV RX6 334 RX5 yX5_numberIn wsX5_numberIn) := goodIn_app (goodIn_of _ (by decide +kernel)) ggX6_doPart_X5_numberIn
set_option maxRecDepth 20000 in
theorem ggX6_doPart_X6_correctIfPossible : GoodIn wsX6_doPart wsX6_correctIfPossible := goodIn_r _ [167, 6, 168, 169, 170, 109, 171, 111, 172, 173, 174, 95, 175, 98, 97, 176, 177, 178, 179, 112, 113, 114, 115, 116, 180, 181, 182, 183, 138, 184, 185, 186, 187, 102, 188, 189, 190, 191, 192, 104, 150, 100, 101, 103, 105, 193, 194, 195, 196, 119, 120, 121, 122, 123, 197, 198, 152, 153, 154, 199, 200, 201, 202, 203, 129, 204, 157, 158, 159, 205, 206, 207, 208, 209, 210, 211, 212, 243, 244, 245, 246, 247, 248, 251, 252, 253, 254, 255, 256, 257, 258, 259, 260, 261, 265, 266, 267, 262, 263, 264] (by decide +kernel) (by decide +kernel)
set_option maxRecDepth 20000 in
theorem gX6_doPart_X6_correctIfPossible : GoodIn wsX6_doPart (wsV RX6 337 RX6 yX6_correctIfPossible wsX6_correctIfPossible) := goodIn_app (goodIn_of _ (by decide +kernel)) ggX6_doPart_X6_correctIfPossible
set_option maxRecDepth 20000 in
theorem ggX6_doPart_X6_returnIfPossible : GoodIn wsX6_doPart wsX6_returnIfPossible := goodIn_r _ [216, 6, 217, 218, 219, 95, 220, 97, 98, 221, 190, 191, 102, 192, 104, 193, 194, 195, 196, 119, 120, 121, 122, 123, 184, 181, 182, 109, 183, 111, 138, 197, 113, 114, 115, 116, 222, 223, 224, 225, 226, 129, 204, 157, 158, 159, 105, 227, 228, 229, 230, 243, 244, 245, 246, 247, 248, 251, 252, 253, 254, 255, 256, 257, 258, 259, 260, 261, 265, 266, 267, 262, 263, 264] (by decide +kernel) (by decide +kernel)
set_option maxRecDepth 20000 in
theorem gX6_doPart_X6_returnIfPossible : GoodIn wsX6_doPart (wsV RX6 343 RX6 yX6_returnIfPossible wsX6_returnIfPossible) := goodIn_app (goodIn_of _ (by decide +kernel)) ggX6_doPart_X6_returnIfPossible
set_option maxRecDepth 20000 in
theorem ggX6_doPart_X4_rest : GoodIn wsX6_doPart wsX4_rest := goodIn_r _ [234, 129, 139, 140, 141, 95, 142, 97, 143, 144, 145, 146, 147, 102, 148, 149, 150, 100, 101, 103, 104, 105, 151, 152, 153, 154, 155, 131, 132, 133, 156, 157, 158, 159, 251, 252, 253, 254, 255, 256, 257, 258, 259, 260, 261, 262, 263, 264] (by decide +kernel) (by decide +kernel)
set_option maxRecDepth 20000 in
theorem gX6_doPart_X4_rest : GoodIn wsX6_doPart (wsV RX6 76 RX4 yX4_rest wsX4_rest) := goodIn_app (goodIn_of _ (by decide +kernel)) ggX6_doPart_X4_rest
set_option maxRecDepth 20000 in
theorem ggX6_doPart_X5_letterAt : GoodIn wsX6_doPart wsX5_letterAt := goodIn_r _ [78, 28, 29, 30, 10, 31, 32, 33, 249, 250] (by decide +kernel) (by decide +kernel)
set_option maxRecDepth 20000 in
theorem gX6_doPart_X5_letterAt : GoodIn wsX6_doPart (wsV RX6 349 RX5 yX5_letterAt wsX5_letterAt) := goodIn_app (goodIn_of _ (by decide +kernel)) ggX6_doPart_X5_letterAt
set_option maxRecDepth 20000 in
theorem ggX6_doPart_X4_exchange : GoodIn wsX6_doPart wsX4_exchange := goodIn_r _ [238, 97, 129, 239, 240, 241, 102, 242, 150, 100, 101, 103, 104, 105, 155, 131, 132, 133, 156, 157, 158, 159, 251, 252, 253, 254, 255, 256, 257, 258, 259, 260, 261, 262, 263, 264] (by decide +kernel) (by decide +kernel)
set_option maxRecDepth 20000 in
theorem gX6_doPart_X4_exchange : GoodIn wsX6_doPart (wsV RX6 119 RX4 yX4_exchange wsX4_exchange) := goodIn_app (goodIn_of _ (by decide +kernel)) ggX6_doPart_X4_exchange
set_option maxRecDepth 20000 in
theorem ggX6_setLetters_X5_letterAt : GoodIn wsX6_setLetters wsX5_letterAt := goodIn_r _ [7, 8, 9, 10, 6, 11, 12, 13, 89, 90] (by decide +kernel) (by decide +kernel)
set_option maxRecDepth 20000 in
theorem gX6_setLetters_X5_letterAt : GoodIn wsX6_setLetters (wsV RX6 349 RX5 yX5_letterAt wsX5_letterAt) := goodIn_app (goodIn_of _ (by decide +kernel)) ggX6_setLetters_X5_letterAt
set_option maxRecDepth 20000 in
theorem ggX6_setLetters_X4_whyNotSet : GoodIn wsX6_setLetters wsX4_whyNotSet := goodIn_r _ [18, 19, 20, 21, 22, 23, 24, 25, 26, 27, 28, 29, 30, 31, 32, 33, 34, 35, 36, 37, 38, 39, 40, 41, 42, 43, 44, 17, 45, 46, 91, 92, 93, 94, 95, 96, 97, 98, 99, 100, 101, 102, 103, 104, 105, 106, 107] (by decide +kernel) (by decide +kernel)
set_option maxRecDepth 20000 in
theorem gX6_setLetters_X4_whyNotSet : GoodIn wsX6_setLetters (wsV RX6 55 RX4 yX4_whyNotSet wsX4_whyNotSet) := goodIn_app (goodIn_of _ (by decide +kernel)) ggX6_setLetters_X4_whyNotSet
set_option maxRecDepth 20000 in
theorem ggX6_setLetters_X4_setLetter : GoodIn wsX6_setLetters wsX4_setLetter := goodIn_r _ [50, 19, 20, 51, 52, 21, 22, 23, 24, 25, 26, 27, 53, 54, 55, 56, 57, 58, 59, 31, 60, 33, 38, 61, 42, 43, 44, 17, 45, 46, 62, 63, 64, 65, 66, 67, 68, 69, 70, 71, 72, 73, 74, 75, 76, 77, 78, 79, 80, 81, 82, 91, 92, 93, 94, 95, 96, 97, 98, 99, 100, 101, 102, 103, 104, 105, 106, 107] (by decide +kernel) (by decide +kernel)
set_option maxRecDepth 20000 in
theorem gX6_setLetters_X4_setLetter : GoodIn wsX6_setLetters (wsV RX6 68 RX4 yX4_setLetter wsX4_setLetter) := goodIn_app (goodIn_of _ (by decide +kernel)) ggX6_setLetters_X4_setLetter
set_option maxRecDepth 20000 in
theorem ggX6_correctIfPossible_X2_has : GoodIn wsX6_correctIfPossible wsX2_has := goodIn_r _ [6, 7, 94, 95, 96] (by decide +kernel) (by decide +kernel)
set_option maxRecDepth 20000 in
theorem gX6_correctIfPossible_X2_has : GoodIn wsX6_correctIfPossible (wsV RX6 83 RX2 yX2_has wsX2_has) := goodIn_app (goodIn_of _ (by decide +kernel)) ggX6_correctIfPossible_X2_has
set_option maxRecDepth 20000 in
theorem ggX6_correctIfPossible_X4_whyNotCorrect : GoodIn wsX6_correctIfPossible wsX4_whyNotCorrect := goodIn_r _ [12, 13, 14, 15, 16, 17, 5, 18, 19, 20, 21, 22, 7, 23, 24, 25, 26, 27, 28, 29, 30, 31, 32, 33, 34, 35, 36, 37, 38, 39, 40, 41, 42, 43, 44, 45, 46, 47, 11, 48, 49, 50, 51, 52, 53, 54, 55, 56, 57, 58, 83, 84, 85, 86, 87, 88, 89, 90, 91, 92, 93, 94, 95, 96, 97, 98, 99] (by decide +kernel) (by decide +kernel)
set_option maxRecDepth 20000 in
theorem gX6_correctIfPossible_X4_whyNotCorrect : GoodIn wsX6_correctIfPossible (wsV RX6 90 RX4 yX4_whyNotCorrect wsX4_whyNotCorrect) := goodIn_app (goodIn_of _ (by decide +kernel)) ggX6_correctIfPossible_X4_whyNotCorrect
set_option maxRecDepth 20000 in
theorem ggX6_correctIfPossible_X4_correct : GoodIn wsX6_correctIfPossible wsX4_correct := goodIn_r _ [62, 13, 14, 63, 64, 29, 25, 26, 5, 27, 7, 28, 45, 46, 47, 11, 48, 49, 50, 51, 52, 53, 54, 20, 21, 22, 23, 65, 66, 67, 33, 68, 39, 44, 30, 31, 32, 34, 35, 36, 37, 38, 40, 41, 42, 43, 69, 70, 71, 72, 73, 74, 75, 76, 83, 84, 85, 86, 87, 88, 89, 90, 91, 92, 93, 94, 95, 96, 97, 98, 99] (by decide +kernel) (by decide +kernel)
set_option maxRecDepth 20000 in
theorem gX6_correctIfPossible_X4_correct : GoodIn wsX6_correctIfPossible (wsV RX6 95 RX4 yX4_correct wsX4_correct) := goodIn_app (goodIn_of _ (by decide +kernel)) ggX6_correctIfPossible_X4_correct
set_option maxRecDepth 20000 in
theorem ggX6_returnIfPossible_X4_whyNotReturn : GoodIn wsX6_returnIfPossible wsX4_whyNotReturn := goodIn_r _ [6, 7, 8, 9, 10, 11, 12, 13, 14, 15, 16, 17, 5, 18, 19, 20, 21, 22, 23, 24, 25, 26, 27, 28, 29, 30, 31, 32, 33, 34, 35, 57, 58, 59, 60, 61, 62, 63, 64, 65, 66, 67, 68, 69, 70, 71, 72, 73] (by decide +kernel) (by decide +kernel)
set_option maxRecDepth 20000 in
theorem gX6_returnIfPossible_X4_whyNotReturn : GoodIn wsX6_returnIfPossible (wsV RX6 103 RX4 yX4_whyNotReturn wsX4_whyNotReturn) := goodIn_app (goodIn_of _ (by decide +kernel)) ggX6_returnIfPossible_X4_whyNotReturn
set_option maxRecDepth 20000 in
theorem ggX6_returnIfPossible_X4_returnLine : GoodIn wsX6_returnIfPossible wsX4_returnLine := goodIn_r _ [39, 8, 7, 40, 41, 15, 16, 17, 5, 18, 19, 20, 21, 22, 23, 24, 25, 26, 27, 28, 29, 30, 31, 32, 33, 34, 35, 42, 43, 44, 12, 45, 14, 46, 47, 48, 49, 50, 57, 58, 59, 60, 61, 62, 63, 64, 65, 66, 67, 68, 69, 70, 71, 72, 73] (by decide +kernel) (by decide +kernel)
set_option maxRecDepth 20000 in
theorem gX6_returnIfPossible_X4_returnLine : GoodIn wsX6_returnIfPossible (wsV RX6 108 RX4 yX4_returnLine wsX4_returnLine) := goodIn_app (goodIn_of _ (by decide +kernel)) ggX6_returnIfPossible_X4_returnLine
set_option maxRecDepth 20000 in
theorem ggX6_mixedWithBox_X6_numberOfBox : GoodIn wsX6_mixedWithBox wsX6_numberOfBox := goodIn_r _ [6, 1, 7, 8, 9, 10, 11, 12, 13, 14, 15, 16, 17, 18, 19, 20, 21, 22, 23, 24, 25, 26, 27, 28, 29, 5, 30, 31, 32, 33, 34, 67, 68, 69, 70, 71, 72, 73, 74, 75, 76, 77, 78, 79, 80, 81, 82, 83, 84, 85, 86] (by decide +kernel) (by decide +kernel)
set_option maxRecDepth 20000 in
theorem gX6_mixedWithBox_X6_numberOfBox : GoodIn wsX6_mixedWithBox (wsV RX6 196 RX6 yX6_numberOfBox wsX6_numberOfBox) := goodIn_app (goodIn_of _ (by decide +kernel)) ggX6_mixedWithBox_X6_numberOfBox
set_option maxRecDepth 20000 in
theorem ggX6_mixedWithBox_X6_mixed : GoodIn wsX6_mixedWithBox wsX6_mixed := goodIn_r _ [37, 38] (by decide +kernel) (by decide +kernel)
set_option maxRecDepth 20000 in
theorem gX6_mixedWithBox_X6_mixed : GoodIn wsX6_mixedWithBox (va_wsS RX6 227 yX6_mixed wsX6_mixed) := goodIn_app (goodIn_of _ (by decide +kernel)) ggX6_mixedWithBox_X6_mixed
set_option maxRecDepth 20000 in
theorem ggX6_mixedWithBox_X4_whyNotSet : GoodIn wsX6_mixedWithBox wsX4_whyNotSet := goodIn_r _ [43, 44, 45, 46, 23, 24, 10, 25, 12, 26, 47, 48, 49, 50, 51, 52, 53, 54, 55, 56, 57, 29, 5, 30, 58, 59, 60, 42, 61, 62, 73, 74, 75, 76, 77, 78, 79, 80, 81, 82, 83, 84, 85, 86, 87, 88, 89] (by decide +kernel) (by decide +kernel)
set_option maxRecDepth 20000 in
theorem gX6_mixedWithBox_X4_whyNotSet : GoodIn wsX6_mixedWithBox (wsV RX6 55 RX4 yX4_whyNotSet wsX4_whyNotSet) := goodIn_app (goodIn_of _ (by decide +kernel)) ggX6_mixedWithBox_X4_whyNotSet
set_option maxRecDepth 20000 in
theorem ggX6_mixedWithBox_X4_errorsIfSet : GoodIn wsX6_mixedWithBox wsX4_errorsIfSet := goodIn_r _ [66, 45, 44, 47, 48, 49, 50, 51, 52, 53, 54, 55, 56, 57, 29, 5, 30, 46, 23, 24, 10, 25, 12, 26, 58, 59, 60, 42, 61, 62, 73, 74, 75, 76, 77, 78, 79, 80, 81, 82, 83, 87, 88, 89, 84, 85, 86] (by decide +kernel) (by decide +kernel)
set_option maxRecDepth 20000 in
theorem gX6_mixedWithBox_X4_errorsIfSet : GoodIn wsX6_mixedWithBox (wsV RX6 216 RX4 yX4_errorsIfSet wsX4_errorsIfSet) := goodIn_app (goodIn_of _ (by decide +kernel)) ggX6_mixedWithBox_X4_errorsIfSet
set_option maxRecDepth 20000 in
theorem ggX6_mixedWithBox_X0_heightOf : GoodIn wsX6_mixedWithBox wsX0_heightOf := goodIn_r _ [11, 12, 84, 85, 86] (by decide +kernel) (by decide +kernel)
set_option maxRecDepth 20000 in
theorem gX6_mixedWithBox_X0_heightOf : GoodIn wsX6_mixedWithBox (wsV RX6 256 RX0 yX0_heightOf wsX0_heightOf) := goodIn_app (goodIn_of _ (by decide +kernel)) ggX6_mixedWithBox_X0_heightOf
set_option maxRecDepth 20000 in
theorem ggX6_mixedWithBox_X0_typeAt : GoodIn wsX6_mixedWithBox wsX0_typeAt := goodIn_r _ [25, 12, 26, 84, 85, 86] (by decide +kernel) (by decide +kernel)
set_option maxRecDepth 20000 in
theorem gX6_mixedWithBox_X0_typeAt : GoodIn wsX6_mixedWithBox (wsV RX6 201 RX0 yX0_typeAt wsX0_typeAt) := goodIn_app (goodIn_of _ (by decide +kernel)) ggX6_mixedWithBox_X0_typeAt
set_option maxRecDepth 20000 in
theorem ggX6_mixedWithLine_X6_numberOfPlace : GoodIn wsX6_mixedWithLine wsX6_numberOfPlace := goodIn_r _ [6, 1, 7, 8, 9, 10, 11, 12, 13, 14, 15, 16, 17, 18, 19, 20, 21, 22, 23, 24, 25, 26, 27, 28, 29, 30, 31, 32, 33, 34, 35, 36, 37, 38, 39, 40, 41, 42, 43, 44, 45, 46, 47, 48, 49, 50, 51, 52, 53, 54, 55, 56, 57, 58, 59, 60, 61, 62, 76, 77, 78, 79, 80, 81, 82, 83, 84, 85, 86, 87, 88, 89, 90, 91, 92, 93, 94, 95, 96, 97, 98] (by decide +kernel) (by decide +kernel)
set_option maxRecDepth 20000 in
theorem gX6_mixedWithLine_X6_numberOfPlace : GoodIn wsX6_mixedWithLine (wsV RX6 206 RX6 yX6_numberOfPlace wsX6_numberOfPlace) := goodIn_app (goodIn_of _ (by decide +kernel)) ggX6_mixedWithLine_X6_numberOfPlace
set_option maxRecDepth 20000 in
theorem ggX6_mixedWithLine_X6_mixed : GoodIn wsX6_mixedWithLine wsX6_mixed := goodIn_r _ [65, 66] (by decide +kernel) (by decide +kernel)
set_option maxRecDepth 20000 in
theorem gX6_mixedWithLine_X6_mixed : GoodIn wsX6_mixedWithLine (va_wsS RX6 227 yX6_mixed wsX6_mixed) := goodIn_app (goodIn_of _ (by decide +kernel)) ggX6_mixedWithLine_X6_mixed
set_option maxRecDepth 20000 in
theorem ggX6_mixedWithLine_X2_errors : GoodIn wsX6_mixedWithLine wsX2_errors := goodIn_r _ [70, 12, 71, 20, 21, 10, 22, 23, 8, 9, 11, 13, 24, 15, 16, 17, 18, 93, 94, 95] (by decide +kernel) (by decide +kernel)
set_option maxRecDepth 20000 in
theorem gX6_mixedWithLine_X2_errors : GoodIn wsX6_mixedWithLine (wsV RX6 99 RX2 yX2_errors wsX2_errors) := goodIn_app (goodIn_of _ (by decide +kernel)) ggX6_mixedWithLine_X2_errors
set_option maxRecDepth 20000 in
theorem ggX6_mixedWithLine_X2_characterAt : GoodIn wsX6_mixedWithLine wsX2_characterAt := goodIn_r _ [75, 12, 23, 8, 9, 10, 11, 13, 71, 20, 21, 22, 24, 15, 16, 17, 18, 93, 94, 95] (by decide +kernel) (by decide +kernel)
set_option maxRecDepth 20000 in
theorem gX6_mixedWithLine_X2_characterAt : GoodIn wsX6_mixedWithLine (wsV RX6 177 RX2 yX2_characterAt wsX2_characterAt) := goodIn_app (goodIn_of _ (by decide +kernel)) ggX6_mixedWithLine_X2_characterAt
