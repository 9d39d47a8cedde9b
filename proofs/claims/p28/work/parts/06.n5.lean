set_option maxRecDepth 20000 in
theorem ggX6_init_X4_init : GoodIn wsX6_init wsX4_init := goodIn_r _ [23, 24, 2, 3, 25, 19, 20, 26, 27, 28, 29, 30, 31, 32, 33, 34, 35, 36, 37, 38, 39, 40, 41, 42, 43, 44, 45, 46, 47, 48, 49, 50, 51, 52, 53, 54, 55, 56, 57, 94, 95, 96, 72, 73, 74, 75, 76, 77, 78, 79, 80, 81, 82, 97, 98, 99] (by decide +kernel) (by decide +kernel)
set_option maxRecDepth 20000 in
theorem gX6_init_X4_init_n11 : GoodIn wsX6_init (wsX4_init) := ggX6_init_X4_init
set_option maxRecDepth 20000 in
theorem ggX6_init_X1_init : GoodIn wsX6_init wsX1_init := goodIn_r _ [60, 61, 2, 3, 62, 63, 64, 65, 5, 6, 22, 23, 24, 25, 19, 20, 26, 27, 28, 29, 30, 31, 32, 33, 34, 35, 36, 37, 38, 39, 40, 41, 42, 43, 44, 45, 46, 47, 48, 49, 50, 51, 52, 53, 54, 55, 56, 57, 89, 90, 91, 72, 73, 74, 75, 76, 77, 78, 79, 80, 81, 82, 94, 95, 96, 97, 98, 99] (by decide +kernel) (by decide +kernel)
set_option maxRecDepth 20000 in
theorem gX6_init_X1_init : GoodIn wsX6_init (wsX1_init) := ggX6_init_X1_init
set_option maxRecDepth 20000 in
theorem ggX6_init_X5_init : GoodIn wsX6_init wsX5_init := goodIn_r _ [67, 68, 2, 3, 31, 69, 70, 92, 93] (by decide +kernel) (by decide +kernel)
set_option maxRecDepth 20000 in
theorem gX6_init_X5_init_n32 : GoodIn wsX6_init (wsX5_init) := ggX6_init_X5_init
set_option maxRecDepth 20000 in
theorem ggX6_init_X0_init : GoodIn wsX6_init wsX0_init := goodIn_r _ [43, 44, 2, 3, 31, 45, 46, 47, 48, 49, 50, 20, 51, 94, 95, 96] (by decide +kernel) (by decide +kernel)
set_option maxRecDepth 20000 in
theorem gX6_init_X0_init : GoodIn wsX6_init (wsX0_init) := ggX6_init_X0_init
set_option maxRecDepth 20000 in
theorem ggX6_set_X6_isSort : GoodIn wsX6_set wsX6_isSort := goodIn_r _ [10] (by decide +kernel) (by decide +kernel)
set_option maxRecDepth 20000 in
theorem gX6_set_X6_isSort : GoodIn wsX6_set (va_wsS RX6 44 yX6_isSort wsX6_isSort) := goodIn_app (goodIn_of _ (by decide +kernel)) ggX6_set_X6_isSort
set_option maxRecDepth 20000 in
theorem ggX6_set_X4_whyNotSet : GoodIn wsX6_set wsX4_whyNotSet := goodIn_r _ [15, 16, 17, 18, 19, 20, 21, 22, 23, 24, 25, 26, 27, 28, 29, 30, 31, 32, 33, 34, 35, 36, 9, 37, 38, 39, 40, 14, 41, 42, 109, 110, 111, 112, 113, 114, 115, 116, 117, 118, 119, 120, 121, 122, 123, 124, 125] (by decide +kernel) (by decide +kernel)
set_option maxRecDepth 20000 in
theorem gX6_set_X4_whyNotSet : GoodIn wsX6_set (wsV RX6 55 RX4 yX4_whyNotSet wsX4_whyNotSet) := goodIn_app (goodIn_of _ (by decide +kernel)) ggX6_set_X4_whyNotSet
set_option maxRecDepth 20000 in
theorem ggX6_set_X1_save : GoodIn wsX6_set wsX1_save := goodIn_r _ [47, 48, 49, 50, 51, 52, 53, 14, 54, 16, 17, 42, 55, 56, 57, 58, 59, 60, 61, 62, 63, 64, 65, 21, 66, 24, 23, 67, 68, 69, 70, 28, 71, 35, 72, 30, 126, 127, 128, 109, 110, 111, 112, 113, 114, 115, 116, 117, 118, 119, 120, 121, 122, 123, 124, 125] (by decide +kernel) (by decide +kernel)
set_option maxRecDepth 20000 in
theorem gX6_set_X1_save : GoodIn wsX6_set (wsV RX6 64 RX1 yX1_save wsX1_save) := goodIn_app (goodIn_of _ (by decide +kernel)) ggX6_set_X1_save
set_option maxRecDepth 20000 in
theorem ggX6_set_X4_setLetter : GoodIn wsX6_set wsX4_setLetter := goodIn_r _ [76, 16, 17, 56, 55, 18, 19, 20, 21, 22, 23, 24, 77, 78, 79, 80, 81, 82, 83, 28, 84, 30, 35, 72, 38, 39, 40, 14, 41, 42, 85, 86, 87, 88, 58, 57, 89, 90, 91, 92, 67, 93, 94, 95, 96, 97, 98, 99, 100, 101, 102, 109, 110, 111, 112, 113, 114, 115, 116, 117, 118, 119, 120, 121, 122, 123, 124, 125] (by decide +kernel) (by decide +kernel)
set_option maxRecDepth 20000 in
theorem gX6_set_X4_setLetter : GoodIn wsX6_set (wsV RX6 68 RX4 yX4_setLetter wsX4_setLetter) := goodIn_app (goodIn_of _ (by decide +kernel)) ggX6_set_X4_setLetter
set_option maxRecDepth 20000 in
theorem ggX6_idle_X1_save : GoodIn wsX6_idle wsX1_save := goodIn_r _ [9, 10, 11, 12, 13, 14, 15, 16, 17, 18, 19, 20, 21, 22, 23, 24, 25, 26, 27, 28, 29, 30, 31, 32, 33, 34, 35, 36, 37, 38, 39, 40, 41, 42, 43, 44, 79, 80, 81, 82, 83, 84, 85, 86, 87, 88, 89, 90, 91, 92, 93, 94, 95, 96, 97, 98] (by decide +kernel) (by decide +kernel)
set_option maxRecDepth 20000 in
theorem gX6_idle_X1_save : GoodIn wsX6_idle (wsV RX6 64 RX1 yX1_save wsX1_save) := goodIn_app (goodIn_of _ (by decide +kernel)) ggX6_idle_X1_save
set_option maxRecDepth 20000 in
theorem ggX6_idle_X4_rest : GoodIn wsX6_idle wsX4_rest := goodIn_r _ [48, 21, 49, 50, 51, 16, 52, 18, 24, 23, 53, 54, 55, 32, 56, 36, 57, 58, 59, 60, 35, 34, 61, 62, 63, 64, 65, 66, 67, 68, 69, 70, 71, 72, 82, 83, 84, 85, 86, 87, 88, 89, 90, 91, 92, 93, 94, 95] (by decide +kernel) (by decide +kernel)
set_option maxRecDepth 20000 in
theorem gX6_idle_X4_rest : GoodIn wsX6_idle (wsV RX6 76 RX4 yX4_rest wsX4_rest) := goodIn_app (goodIn_of _ (by decide +kernel)) ggX6_idle_X4_rest
set_option maxRecDepth 20000 in
theorem ggX6_fix_X2_has : GoodIn wsX6_fix wsX2_has := goodIn_r _ [11, 12, 131, 132, 133] (by decide +kernel) (by decide +kernel)
set_option maxRecDepth 20000 in
theorem gX6_fix_X2_has : GoodIn wsX6_fix (wsV RX6 83 RX2 yX2_has wsX2_has) := goodIn_app (goodIn_of _ (by decide +kernel)) ggX6_fix_X2_has
set_option maxRecDepth 20000 in
theorem ggX6_fix_X4_whyNotCorrect : GoodIn wsX6_fix wsX4_whyNotCorrect := goodIn_r _ [17, 18, 19, 20, 21, 22, 10, 23, 24, 25, 26, 27, 12, 28, 29, 30, 31, 32, 33, 34, 35, 36, 37, 38, 39, 40, 41, 42, 43, 44, 45, 46, 47, 48, 49, 50, 51, 52, 16, 53, 54, 55, 56, 57, 58, 59, 60, 61, 62, 63, 120, 121, 122, 123, 124, 125, 126, 127, 128, 129, 130, 131, 132, 133, 134, 135, 136] (by decide +kernel) (by decide +kernel)
set_option maxRecDepth 20000 in
theorem gX6_fix_X4_whyNotCorrect : GoodIn wsX6_fix (wsV RX6 90 RX4 yX4_whyNotCorrect wsX4_whyNotCorrect) := goodIn_app (goodIn_of _ (by decide +kernel)) ggX6_fix_X4_whyNotCorrect
set_option maxRecDepth 20000 in
theorem ggX6_fix_X1_save : GoodIn wsX6_fix wsX1_save := goodIn_r _ [68, 69, 70, 71, 72, 73, 74, 16, 75, 19, 18, 58, 76, 77, 78, 79, 80, 81, 82, 83, 84, 85, 86, 38, 87, 49, 44, 88, 89, 90, 91, 10, 92, 28, 33, 12, 137, 138, 139, 120, 121, 122, 123, 124, 125, 126, 127, 128, 129, 130, 134, 135, 136, 131, 132, 133] (by decide +kernel) (by decide +kernel)
set_option maxRecDepth 20000 in
theorem gX6_fix_X1_save : GoodIn wsX6_fix (wsV RX6 64 RX1 yX1_save wsX1_save) := goodIn_app (goodIn_of _ (by decide +kernel)) ggX6_fix_X1_save
set_option maxRecDepth 20000 in
theorem ggX6_fix_X4_correct : GoodIn wsX6_fix wsX4_correct := goodIn_r _ [96, 18, 19, 80, 76, 34, 30, 31, 10, 32, 12, 33, 50, 51, 52, 16, 53, 54, 55, 56, 57, 58, 59, 25, 26, 27, 28, 97, 98, 99, 38, 100, 44, 49, 35, 36, 37, 39, 40, 41, 42, 43, 45, 46, 47, 48, 101, 102, 103, 104, 105, 106, 107, 108, 120, 121, 122, 123, 124, 125, 126, 127, 128, 129, 130, 131, 132, 133, 134, 135, 136] (by decide +kernel) (by decide +kernel)
set_option maxRecDepth 20000 in
theorem gX6_fix_X4_correct : GoodIn wsX6_fix (wsV RX6 95 RX4 yX4_correct wsX4_correct) := goodIn_app (goodIn_of _ (by decide +kernel)) ggX6_fix_X4_correct
set_option maxRecDepth 20000 in
theorem ggX6_fix_X2_errors : GoodIn wsX6_fix wsX2_errors := goodIn_r _ [112, 12, 113, 21, 22, 10, 23, 24, 25, 26, 27, 28, 29, 30, 31, 32, 33, 131, 132, 133] (by decide +kernel) (by decide +kernel)
set_option maxRecDepth 20000 in
theorem gX6_fix_X2_errors : GoodIn wsX6_fix (wsV RX6 99 RX2 yX2_errors wsX2_errors) := goodIn_app (goodIn_of _ (by decide +kernel)) ggX6_fix_X2_errors
set_option maxRecDepth 20000 in
theorem ggX6_back_X4_whyNotReturn : GoodIn wsX6_back wsX4_whyNotReturn := goodIn_r _ [9, 10, 11, 12, 13, 14, 15, 16, 17, 18, 19, 20, 8, 21, 22, 23, 24, 25, 26, 27, 28, 29, 30, 31, 32, 33, 34, 35, 36, 37, 38, 104, 105, 106, 107, 108, 109, 110, 111, 112, 113, 114, 115, 116, 117, 118, 119, 120] (by decide +kernel) (by decide +kernel)
set_option maxRecDepth 20000 in
theorem gX6_back_X4_whyNotReturn : GoodIn wsX6_back (wsV RX6 103 RX4 yX4_whyNotReturn wsX4_whyNotReturn) := goodIn_app (goodIn_of _ (by decide +kernel)) ggX6_back_X4_whyNotReturn
set_option maxRecDepth 20000 in
theorem ggX6_back_X1_save : GoodIn wsX6_back wsX1_save := goodIn_r _ [43, 44, 45, 46, 47, 48, 49, 8, 50, 10, 11, 26, 51, 52, 53, 54, 55, 56, 57, 58, 59, 60, 61, 15, 62, 63, 17, 64, 65, 66, 67, 30, 68, 38, 33, 32, 121, 122, 123, 104, 105, 106, 107, 108, 109, 110, 111, 112, 113, 114, 118, 119, 120, 115, 116, 117] (by decide +kernel) (by decide +kernel)
set_option maxRecDepth 20000 in
theorem gX6_back_X1_save : GoodIn wsX6_back (wsV RX6 64 RX1 yX1_save wsX1_save) := goodIn_app (goodIn_of _ (by decide +kernel)) ggX6_back_X1_save
set_option maxRecDepth 20000 in
theorem ggX6_back_X4_returnLine : GoodIn wsX6_back wsX4_returnLine := goodIn_r _ [72, 11, 10, 56, 51, 18, 19, 20, 8, 21, 22, 23, 24, 25, 26, 27, 28, 29, 30, 31, 32, 33, 34, 35, 36, 37, 38, 73, 74, 75, 15, 76, 17, 63, 77, 78, 79, 80, 104, 105, 106, 107, 108, 109, 110, 111, 112, 113, 114, 115, 116, 117, 118, 119, 120] (by decide +kernel) (by decide +kernel)
set_option maxRecDepth 20000 in
theorem gX6_back_X4_returnLine : GoodIn wsX6_back (wsV RX6 108 RX4 yX4_returnLine wsX4_returnLine) := goodIn_app (goodIn_of _ (by decide +kernel)) ggX6_back_X4_returnLine
set_option maxRecDepth 20000 in
theorem ggX6_back_X0_wrong : GoodIn wsX6_back wsX0_wrong := goodIn_r _ [84, 85, 86, 87, 15, 88, 89, 13, 14, 16, 17, 90, 91, 92, 93, 94, 95, 96, 97, 63, 118, 119, 120] (by decide +kernel) (by decide +kernel)
set_option maxRecDepth 20000 in
theorem gX6_back_X0_wrong : GoodIn wsX6_back (wsV RX6 114 RX0 yX0_wrong wsX0_wrong) := goodIn_app (goodIn_of _ (by decide +kernel)) ggX6_back_X0_wrong
set_option maxRecDepth 20000 in
theorem ggX6_swap_X6_isSort : GoodIn wsX6_swap wsX6_isSort := goodIn_r _ [8] (by decide +kernel) (by decide +kernel)
set_option maxRecDepth 20000 in
theorem gX6_swap_X6_isSort : GoodIn wsX6_swap (va_wsS RX6 44 yX6_isSort wsX6_isSort) := goodIn_app (goodIn_of _ (by decide +kernel)) ggX6_swap_X6_isSort
set_option maxRecDepth 20000 in
theorem ggX6_swap_X1_save : GoodIn wsX6_swap wsX1_save := goodIn_r _ [13, 14, 15, 16, 17, 18, 19, 20, 21, 22, 23, 24, 25, 26, 27, 28, 29, 30, 31, 32, 33, 34, 35, 36, 37, 38, 39, 40, 41, 42, 43, 44, 45, 46, 47, 48, 102, 103, 104, 91, 92, 93, 94, 95, 96, 97, 98, 99, 100, 101, 105, 106, 107, 108, 109, 110] (by decide +kernel) (by decide +kernel)
set_option maxRecDepth 20000 in
theorem gX6_swap_X1_save : GoodIn wsX6_swap (wsV RX6 64 RX1 yX1_save wsX1_save) := goodIn_app (goodIn_of _ (by decide +kernel)) ggX6_swap_X1_save
set_option maxRecDepth 20000 in
theorem ggX6_swap_X4_exchange : GoodIn wsX6_swap wsX4_exchange := goodIn_r _ [52, 22, 25, 53, 54, 55, 36, 56, 57, 58, 59, 60, 39, 38, 61, 62, 63, 64, 65, 66, 67, 68, 91, 92, 93, 94, 95, 96, 97, 98, 99, 100, 101, 105, 106, 107] (by decide +kernel) (by decide +kernel)
set_option maxRecDepth 20000 in
theorem gX6_swap_X4_exchange : GoodIn wsX6_swap (wsV RX6 119 RX4 yX4_exchange wsX4_exchange) := goodIn_app (goodIn_of _ (by decide +kernel)) ggX6_swap_X4_exchange
set_option maxRecDepth 20000 in
theorem ggX6_swap_X0_wrong : GoodIn wsX6_swap wsX0_wrong := goodIn_r _ [72, 73, 74, 75, 36, 76, 77, 78, 79, 80, 39, 81, 82, 83, 84, 57, 58, 59, 60, 38, 105, 106, 107] (by decide +kernel) (by decide +kernel)
set_option maxRecDepth 20000 in
theorem gX6_swap_X0_wrong : GoodIn wsX6_swap (wsV RX6 114 RX0 yX0_wrong wsX0_wrong) := goodIn_app (goodIn_of _ (by decide +kernel)) ggX6_swap_X0_wrong
set_option maxRecDepth 20000 in
theorem ggX6_change_X1_save : GoodIn wsX6_change wsX1_save := goodIn_r _ [13, 14, 15, 16, 17, 18, 19, 20, 21, 22, 23, 24, 25, 26, 27, 28, 29, 30, 31, 32, 33, 34, 35, 36, 37, 38, 39, 40, 41, 42, 43, 44, 45, 46, 47, 48, 63, 64, 65, 66, 67, 68, 69, 70, 71, 72, 73, 74, 75, 76, 77, 78, 79, 80, 81, 82] (by decide +kernel) (by decide +kernel)
set_option maxRecDepth 20000 in
theorem gX6_change_X1_save : GoodIn wsX6_change (wsV RX6 64 RX1 yX1_save wsX1_save) := goodIn_app (goodIn_of _ (by decide +kernel)) ggX6_change_X1_save
set_option maxRecDepth 20000 in
theorem ggX6_change_X4_changeSetting : GoodIn wsX6_change wsX4_changeSetting := goodIn_r _ [52, 25, 24, 53, 54, 55, 20, 56, 66, 67, 68, 69, 70, 71, 72, 73, 74, 75, 76] (by decide +kernel) (by decide +kernel)
set_option maxRecDepth 20000 in
theorem gX6_change_X4_changeSetting : GoodIn wsX6_change (wsV RX6 134 RX4 yX4_changeSetting wsX4_changeSetting) := goodIn_app (goodIn_of _ (by decide +kernel)) ggX6_change_X4_changeSetting
set_option maxRecDepth 20000 in
theorem ggX6_undo_X1_giveBack : GoodIn wsX6_undo wsX1_giveBack := goodIn_r _ [9, 10, 11, 12, 13, 14, 15, 16, 17, 18, 19, 20, 21, 22, 23, 24, 25, 26, 27, 28, 29, 30, 31, 32, 33, 34, 35, 36, 37, 38, 39, 40, 41, 42, 43, 44, 51, 52, 53, 54, 55, 56, 57, 58, 59, 60, 61, 62, 63, 64, 65, 66, 67, 68, 69, 70] (by decide +kernel) (by decide +kernel)
set_option maxRecDepth 20000 in
theorem gX6_undo_X1_giveBack : GoodIn wsX6_undo (wsV RX6 185 RX1 yX1_giveBack wsX1_giveBack) := goodIn_app (goodIn_of _ (by decide +kernel)) ggX6_undo_X1_giveBack
set_option maxRecDepth 20000 in
theorem ggX6_keep_X4_copyFrom : GoodIn wsX6_keep wsX4_copyFrom := goodIn_r _ [8, 9, 10, 11, 12, 13, 14, 15, 16, 17, 18, 19, 20, 21, 22, 23, 24, 25, 26, 27, 28, 29, 30, 31, 32, 33, 34, 35, 42, 43, 44, 45, 46, 47, 48, 49, 50, 51, 52, 56, 57, 58, 53, 54, 55] (by decide +kernel) (by decide +kernel)
set_option maxRecDepth 20000 in
theorem gX6_keep_X4_copyFrom : GoodIn wsX6_keep (wsV RX6 188 RX4 yX4_copyFrom wsX4_copyFrom) := goodIn_app (goodIn_of _ (by decide +kernel)) ggX6_keep_X4_copyFrom
set_option maxRecDepth 20000 in
theorem ggX6_restore_X1_save : GoodIn wsX6_restore wsX1_save := goodIn_r _ [11, 12, 13, 14, 15, 16, 17, 18, 19, 20, 21, 22, 23, 24, 25, 26, 27, 28, 29, 30, 31, 32, 33, 34, 35, 36, 37, 38, 39, 40, 41, 42, 43, 44, 45, 46, 68, 69, 70, 54, 55, 56, 57, 58, 59, 60, 61, 62, 63, 64, 71, 72, 73, 65, 66, 67] (by decide +kernel) (by decide +kernel)
set_option maxRecDepth 20000 in
theorem gX6_restore_X1_save : GoodIn wsX6_restore (wsV RX6 64 RX1 yX1_save wsX1_save) := goodIn_app (goodIn_of _ (by decide +kernel)) ggX6_restore_X1_save
set_option maxRecDepth 20000 in
theorem ggX6_restore_X4_copyFrom : GoodIn wsX6_restore wsX4_copyFrom := goodIn_r _ [19, 20, 21, 22, 23, 24, 25, 26, 27, 28, 29, 30, 31, 32, 33, 34, 35, 36, 37, 38, 39, 40, 41, 42, 43, 44, 45, 46, 54, 55, 56, 57, 58, 59, 60, 61, 62, 63, 64, 71, 72, 73, 65, 66, 67] (by decide +kernel) (by decide +kernel)
set_option maxRecDepth 20000 in
theorem gX6_restore_X4_copyFrom : GoodIn wsX6_restore (wsV RX6 188 RX4 yX4_copyFrom wsX4_copyFrom) := goodIn_app (goodIn_of _ (by decide +kernel)) ggX6_restore_X4_copyFrom
set_option maxRecDepth 20000 in
theorem ggX6_box_X6_isSort : GoodIn wsX6_box wsX6_isSort := goodIn_r _ [8] (by decide +kernel) (by decide +kernel)
set_option maxRecDepth 20000 in
theorem gX6_box_X6_isSort : GoodIn wsX6_box (va_wsS RX6 44 yX6_isSort wsX6_isSort) := goodIn_app (goodIn_of _ (by decide +kernel)) ggX6_box_X6_isSort
set_option maxRecDepth 20000 in
theorem ggX6_box_X6_numberOfBox : GoodIn wsX6_box wsX6_numberOfBox := goodIn_r _ [12, 13, 14, 15, 16, 17, 18, 19, 20, 21, 22, 23, 24, 25, 26, 27, 28, 29, 30, 31, 32, 33, 34, 35, 36, 7, 37, 38, 39, 40, 41, 42, 43, 44, 45, 46, 47, 48, 49, 50, 51, 52, 53, 54, 55, 56, 57, 58, 59, 60, 61] (by decide +kernel) (by decide +kernel)
set_option maxRecDepth 20000 in
theorem gX6_box_X6_numberOfBox : GoodIn wsX6_box (wsV RX6 196 RX6 yX6_numberOfBox wsX6_numberOfBox) := goodIn_app (goodIn_of _ (by decide +kernel)) ggX6_box_X6_numberOfBox
set_option maxRecDepth 20000 in
theorem ggX6_type_X6_isSort : GoodIn wsX6_type wsX6_isSort := goodIn_r _ [9] (by decide +kernel) (by decide +kernel)
set_option maxRecDepth 20000 in
theorem gX6_type_X6_isSort : GoodIn wsX6_type (va_wsS RX6 44 yX6_isSort wsX6_isSort) := goodIn_app (goodIn_of _ (by decide +kernel)) ggX6_type_X6_isSort
set_option maxRecDepth 20000 in
theorem ggX6_type_X0_typeAt : GoodIn wsX6_type wsX0_typeAt := goodIn_r _ [14, 15, 16, 34, 35, 36] (by decide +kernel) (by decide +kernel)
set_option maxRecDepth 20000 in
theorem gX6_type_X0_typeAt : GoodIn wsX6_type (wsV RX6 201 RX0 yX0_typeAt wsX0_typeAt) := goodIn_app (goodIn_of _ (by decide +kernel)) ggX6_type_X0_typeAt
set_option maxRecDepth 20000 in
theorem ggX6_line_X2_has : GoodIn wsX6_line wsX2_has := goodIn_r _ [10, 11, 88, 89, 90] (by decide +kernel) (by decide +kernel)
set_option maxRecDepth 20000 in
theorem gX6_line_X2_has : GoodIn wsX6_line (wsV RX6 83 RX2 yX2_has wsX2_has) := goodIn_app (goodIn_of _ (by decide +kernel)) ggX6_line_X2_has
set_option maxRecDepth 20000 in
theorem ggX6_line_X6_numberOfPlace : GoodIn wsX6_line wsX6_numberOfPlace := goodIn_r _ [16, 5, 17, 18, 19, 9, 20, 11, 21, 22, 23, 24, 25, 26, 27, 28, 29, 30, 31, 32, 33, 34, 35, 36, 37, 38, 39, 40, 41, 42, 43, 44, 45, 46, 47, 48, 49, 50, 51, 52, 53, 54, 55, 56, 57, 58, 59, 60, 61, 62, 63, 64, 65, 66, 67, 68, 69, 70, 71, 72, 73, 74, 75, 76, 77, 78, 79, 80, 81, 82, 83, 84, 85, 86, 87, 88, 89, 90, 91, 92, 93] (by decide +kernel) (by decide +kernel)
set_option maxRecDepth 20000 in
theorem gX6_line_X6_numberOfPlace : GoodIn wsX6_line (wsV RX6 206 RX6 yX6_numberOfPlace wsX6_numberOfPlace) := goodIn_app (goodIn_of _ (by decide +kernel)) ggX6_line_X6_numberOfPlace
set_option maxRecDepth 20000 in
theorem ggX6_count_X6_numberOfAll : GoodIn wsX6_count wsX6_numberOfAll := goodIn_r _ [7, 8, 9, 10, 11, 12, 13, 14, 15, 16, 17, 18, 19, 20, 21, 22, 23, 24, 25, 6, 26, 27, 28, 29, 30, 31, 32, 33, 34, 35, 36, 37, 38, 39, 40, 41, 42, 43, 44, 45, 46, 47, 48, 49, 50, 51, 52, 53, 54, 55, 56, 57, 58, 59, 60, 61, 62, 63, 64, 65, 66, 67, 68, 69, 70, 71, 72, 73, 74, 75, 76, 77, 78, 79, 80, 81, 82, 83, 84, 85, 86, 87, 88, 89, 90, 91, 92, 93, 94, 95, 96, 97, 98, 99, 100, 101, 102, 103, 104, 105, 106, 107, 108, 109] (by decide +kernel) (by decide +kernel)
set_option maxRecDepth 20000 in
theorem gX6_count_X6_numberOfAll : GoodIn wsX6_count (wsV RX6 211 RX6 yX6_numberOfAll wsX6_numberOfAll) := goodIn_app (goodIn_of _ (by decide +kernel)) ggX6_count_X6_numberOfAll
set_option maxRecDepth 20000 in
theorem ggX6_whyNot_X6_isSort : GoodIn wsX6_whyNot wsX6_isSort := goodIn_r _ [7] (by decide +kernel) (by decide +kernel)
set_option maxRecDepth 20000 in
theorem gX6_whyNot_X6_isSort : GoodIn wsX6_whyNot (va_wsS RX6 44 yX6_isSort wsX6_isSort) := goodIn_app (goodIn_of _ (by decide +kernel)) ggX6_whyNot_X6_isSort
set_option maxRecDepth 20000 in
theorem ggX6_whyNot_X4_whyNotSet : GoodIn wsX6_whyNot wsX4_whyNotSet := goodIn_r _ [12, 13, 14, 15, 16, 17, 18, 19, 20, 21, 22, 23, 24, 25, 26, 27, 28, 29, 30, 31, 32, 33, 6, 34, 35, 36, 37, 11, 38, 39, 46, 47, 48, 49, 50, 51, 52, 53, 54, 55, 56, 57, 58, 59, 60, 61, 62] (by decide +kernel) (by decide +kernel)
set_option maxRecDepth 20000 in
theorem gX6_whyNot_X4_whyNotSet : GoodIn wsX6_whyNot (wsV RX6 55 RX4 yX4_whyNotSet wsX4_whyNotSet) := goodIn_app (goodIn_of _ (by decide +kernel)) ggX6_whyNot_X4_whyNotSet
set_option maxRecDepth 20000 in
theorem ggX6_sortedIn_X0_copyFrom : GoodIn wsX6_sortedIn wsX0_copyFrom := goodIn_r _ [7, 8, 9, 10, 52, 53, 54] (by decide +kernel) (by decide +kernel)
set_option maxRecDepth 20000 in
theorem gX6_sortedIn_X0_copyFrom : GoodIn wsX6_sortedIn (wsV RX6 219 RX0 yX0_copyFrom wsX0_copyFrom) := goodIn_app (goodIn_of _ (by decide +kernel)) ggX6_sortedIn_X0_copyFrom
set_option maxRecDepth 20000 in
theorem ggX6_sortedIn_X0_sortAll : GoodIn wsX6_sortedIn wsX0_sortAll := goodIn_r _ [14, 15, 16, 17, 6, 18, 10, 19, 20, 21, 22, 9, 8, 23, 24, 25, 26, 27, 28, 29, 30, 31, 32, 33, 34, 52, 53, 54] (by decide +kernel) (by decide +kernel)
set_option maxRecDepth 20000 in
theorem gX6_sortedIn_X0_sortAll : GoodIn wsX6_sortedIn (wsV RX6 222 RX0 yX0_sortAll wsX0_sortAll) := goodIn_app (goodIn_of _ (by decide +kernel)) ggX6_sortedIn_X0_sortAll
set_option maxRecDepth 20000 in
theorem ggX6_wrongThen_X0_copyFrom : GoodIn wsX6_wrongThen wsX0_copyFrom := goodIn_r _ [7, 8, 9, 10, 68, 69, 70] (by decide +kernel) (by decide +kernel)
set_option maxRecDepth 20000 in
theorem gX6_wrongThen_X0_copyFrom : GoodIn wsX6_wrongThen (wsV RX6 219 RX0 yX0_copyFrom wsX0_copyFrom) := goodIn_app (goodIn_of _ (by decide +kernel)) ggX6_wrongThen_X0_copyFrom
set_option maxRecDepth 20000 in
theorem ggX6_wrongThen_X0_sortAll : GoodIn wsX6_wrongThen wsX0_sortAll := goodIn_r _ [14, 15, 16, 17, 6, 18, 10, 19, 20, 21, 22, 9, 8, 23, 24, 25, 26, 27, 28, 29, 30, 31, 32, 33, 34, 68, 69, 70] (by decide +kernel) (by decide +kernel)
set_option maxRecDepth 20000 in
theorem gX6_wrongThen_X0_sortAll : GoodIn wsX6_wrongThen (wsV RX6 222 RX0 yX0_sortAll wsX0_sortAll) := goodIn_app (goodIn_of _ (by decide +kernel)) ggX6_wrongThen_X0_sortAll
set_option maxRecDepth 20000 in
theorem ggX6_wrongThen_X0_wrong : GoodIn wsX6_wrongThen wsX0_wrong := goodIn_r _ [38, 39, 40, 41, 6, 42, 43, 44, 45, 46, 9, 47, 48, 49, 50, 19, 20, 21, 22, 8, 68, 69, 70] (by decide +kernel) (by decide +kernel)
set_option maxRecDepth 20000 in
theorem gX6_wrongThen_X0_wrong : GoodIn wsX6_wrongThen (wsV RX6 114 RX0 yX0_wrong wsX0_wrong) := goodIn_app (goodIn_of _ (by decide +kernel)) ggX6_wrongThen_X0_wrong
set_option maxRecDepth 20000 in
theorem ggX6_rightShare_X2_errors : GoodIn wsX6_rightShare wsX2_errors := goodIn_r _ [6, 7, 8, 9, 10, 5, 11, 12, 13, 14, 15, 16, 17, 18, 19, 20, 21, 39, 40, 41] (by decide +kernel) (by decide +kernel)
set_option maxRecDepth 20000 in
theorem gX6_rightShare_X2_errors : GoodIn wsX6_rightShare (wsV RX6 99 RX2 yX2_errors wsX2_errors) := goodIn_app (goodIn_of _ (by decide +kernel)) ggX6_rightShare_X2_errors
set_option maxRecDepth 20000 in
theorem ggX6_numberOfBox_X0_heightOf : GoodIn wsX6_numberOfBox wsX0_heightOf := goodIn_r _ [6, 7, 48, 49, 50] (by decide +kernel) (by decide +kernel)
set_option maxRecDepth 20000 in
theorem gX6_numberOfBox_X0_heightOf : GoodIn wsX6_numberOfBox (wsV RX6 256 RX0 yX0_heightOf wsX0_heightOf) := goodIn_app (goodIn_of _ (by decide +kernel)) ggX6_numberOfBox_X0_heightOf
set_option maxRecDepth 20000 in
theorem ggX6_numberOfBox_X0_wrongIn : GoodIn wsX6_numberOfBox wsX0_wrongIn := goodIn_r _ [11, 12, 3, 4, 5, 6, 7, 13, 14, 15, 16, 17, 18, 19, 20, 21, 48, 49, 50] (by decide +kernel) (by decide +kernel)
set_option maxRecDepth 20000 in
theorem gX6_numberOfBox_X0_wrongIn : GoodIn wsX6_numberOfBox (wsV RX6 259 RX0 yX0_wrongIn wsX0_wrongIn) := goodIn_app (goodIn_of _ (by decide +kernel)) ggX6_numberOfBox_X0_wrongIn
set_option maxRecDepth 20000 in
theorem ggX6_numberOfBox_X0_typeAt : GoodIn wsX6_numberOfBox wsX0_typeAt := goodIn_r _ [20, 7, 21, 48, 49, 50] (by decide +kernel) (by decide +kernel)
set_option maxRecDepth 20000 in
theorem gX6_numberOfBox_X0_typeAt : GoodIn wsX6_numberOfBox (wsV RX6 201 RX0 yX0_typeAt wsX0_typeAt) := goodIn_app (goodIn_of _ (by decide +kernel)) ggX6_numberOfBox_X0_typeAt
set_option maxRecDepth 20000 in
theorem ggX6_numberOfBox_X6_widthOf : GoodIn wsX6_numberOfBox wsX6_widthOf := goodIn_r _ [26] (by decide +kernel) (by decide +kernel)
set_option maxRecDepth 20000 in
theorem gX6_numberOfBox_X6_widthOf : GoodIn wsX6_numberOfBox (va_wsS RX6 262 yX6_widthOf wsX6_widthOf) := goodIn_app (goodIn_of _ (by decide +kernel)) ggX6_numberOfBox_X6_widthOf
set_option maxRecDepth 20000 in
theorem ggX6_numberOfBox_X0_strayOf : GoodIn wsX6_numberOfBox wsX0_strayOf := goodIn_r _ [30, 13, 14, 15, 5, 16, 12, 3, 4, 6, 7, 17, 18, 19, 20, 21, 48, 49, 50] (by decide +kernel) (by decide +kernel)
set_option maxRecDepth 20000 in
theorem gX6_numberOfBox_X0_strayOf : GoodIn wsX6_numberOfBox (wsV RX6 271 RX0 yX0_strayOf wsX0_strayOf) := goodIn_app (goodIn_of _ (by decide +kernel)) ggX6_numberOfBox_X0_strayOf
set_option maxRecDepth 20000 in
theorem ggX6_numberOfPlace_X2_sortAt : GoodIn wsX6_numberOfPlace wsX2_sortAt := goodIn_r _ [6, 7, 8, 75, 76, 77] (by decide +kernel) (by decide +kernel)
set_option maxRecDepth 20000 in
theorem gX6_numberOfPlace_X2_sortAt : GoodIn wsX6_numberOfPlace (wsV RX6 274 RX2 yX2_sortAt wsX2_sortAt) := goodIn_app (goodIn_of _ (by decide +kernel)) ggX6_numberOfPlace_X2_sortAt
set_option maxRecDepth 20000 in
theorem ggX6_numberOfPlace_X2_letterAt : GoodIn wsX6_numberOfPlace wsX2_letterAt := goodIn_r _ [12, 7, 13, 75, 76, 77] (by decide +kernel) (by decide +kernel)
set_option maxRecDepth 20000 in
theorem gX6_numberOfPlace_X2_letterAt : GoodIn wsX6_numberOfPlace (wsV RX6 277 RX2 yX2_letterAt wsX2_letterAt) := goodIn_app (goodIn_of _ (by decide +kernel)) ggX6_numberOfPlace_X2_letterAt
set_option maxRecDepth 20000 in
theorem ggX6_numberOfPlace_X2_isWrongAt : GoodIn wsX6_numberOfPlace wsX2_isWrongAt := goodIn_r _ [17, 18, 3, 4, 5, 6, 7, 8, 19, 10, 11, 12, 13, 75, 76, 77] (by decide +kernel) (by decide +kernel)
set_option maxRecDepth 20000 in
theorem gX6_numberOfPlace_X2_isWrongAt : GoodIn wsX6_numberOfPlace (wsV RX6 280 RX2 yX2_isWrongAt wsX2_isWrongAt) := goodIn_app (goodIn_of _ (by decide +kernel)) ggX6_numberOfPlace_X2_isWrongAt
set_option maxRecDepth 20000 in
theorem ggX6_numberOfPlace_X4_whyNotCorrect : GoodIn wsX6_numberOfPlace wsX4_whyNotCorrect := goodIn_r _ [24, 25, 26, 27, 15, 16, 5, 17, 18, 3, 4, 6, 7, 8, 19, 10, 11, 12, 13, 28, 29, 30, 31, 32, 33, 34, 35, 36, 37, 38, 39, 40, 41, 42, 43, 44, 45, 46, 23, 47, 48, 49, 50, 51, 52, 53, 54, 55, 56, 57, 64, 65, 66, 67, 68, 69, 70, 71, 72, 73, 74, 75, 76, 77, 78, 79, 80] (by decide +kernel) (by decide +kernel)
set_option maxRecDepth 20000 in
theorem gX6_numberOfPlace_X4_whyNotCorrect : GoodIn wsX6_numberOfPlace (wsV RX6 90 RX4 yX4_whyNotCorrect wsX4_whyNotCorrect) := goodIn_app (goodIn_of _ (by decide +kernel)) ggX6_numberOfPlace_X4_whyNotCorrect
set_option maxRecDepth 20000 in
theorem ggX6_numberOfAll_X2_width : GoodIn wsX6_numberOfAll wsX2_width := goodIn_r _ [7, 8, 9, 10, 11, 6, 12, 13, 14, 15, 16, 17, 18, 19, 20, 95, 96, 97] (by decide +kernel) (by decide +kernel)
set_option maxRecDepth 20000 in
theorem gX6_numberOfAll_X2_width : GoodIn wsX6_numberOfAll (wsV RX6 283 RX2 yX2_width wsX2_width) := goodIn_app (goodIn_of _ (by decide +kernel)) ggX6_numberOfAll_X2_width
set_option maxRecDepth 20000 in
theorem ggX6_numberOfAll_X2_errors : GoodIn wsX6_numberOfAll wsX2_errors := goodIn_r _ [24, 8, 25, 26, 27, 6, 28, 13, 14, 15, 16, 17, 29, 30, 31, 32, 33, 95, 96, 97] (by decide +kernel) (by decide +kernel)
set_option maxRecDepth 20000 in
theorem gX6_numberOfAll_X2_errors : GoodIn wsX6_numberOfAll (wsV RX6 99 RX2 yX2_errors wsX2_errors) := goodIn_app (goodIn_of _ (by decide +kernel)) ggX6_numberOfAll_X2_errors
set_option maxRecDepth 20000 in
theorem ggX6_numberOfAll_X0_types : GoodIn wsX6_numberOfAll wsX0_types := goodIn_r _ [38, 39, 40, 41, 37, 42, 43, 98, 99, 100] (by decide +kernel) (by decide +kernel)
set_option maxRecDepth 20000 in
theorem gX6_numberOfAll_X0_types : GoodIn wsX6_numberOfAll (wsV RX6 286 RX0 yX0_types wsX0_types) := goodIn_app (goodIn_of _ (by decide +kernel)) ggX6_numberOfAll_X0_types
set_option maxRecDepth 20000 in
theorem ggX6_numberOfAll_X0_wrong : GoodIn wsX6_numberOfAll wsX0_wrong := goodIn_r _ [47, 48, 49, 50, 37, 51, 39, 40, 41, 42, 43, 52, 53, 54, 55, 56, 57, 58, 59, 60, 98, 99, 100] (by decide +kernel) (by decide +kernel)
set_option maxRecDepth 20000 in
theorem gX6_numberOfAll_X0_wrong : GoodIn wsX6_numberOfAll (wsV RX6 114 RX0 yX0_wrong wsX0_wrong) := goodIn_app (goodIn_of _ (by decide +kernel)) ggX6_numberOfAll_X0_wrong
set_option maxRecDepth 20000 in
theorem ggX6_numberOfAll_X4_wrongBySorts : GoodIn wsX6_numberOfAll wsX4_wrongBySorts := goodIn_r _ [65, 66, 67, 68, 53, 54, 37, 55, 39, 40, 41, 42, 43, 56, 57, 58, 59, 60, 69, 70, 71, 6, 72, 8, 13, 14, 15, 16, 17, 84, 85, 86, 87, 88, 89, 90, 91, 92, 93, 94, 98, 99, 100, 95, 96, 97] (by decide +kernel) (by decide +kernel)
set_option maxRecDepth 20000 in
theorem gX6_numberOfAll_X4_wrongBySorts : GoodIn wsX6_numberOfAll (wsV RX6 289 RX4 yX4_wrongBySorts wsX4_wrongBySorts) := goodIn_app (goodIn_of _ (by decide +kernel)) ggX6_numberOfAll_X4_wrongBySorts
set_option maxRecDepth 20000 in
theorem ggX6_numberOfAll_X4_settingAt : GoodIn wsX6_numberOfAll wsX4_settingAt := goodIn_r _ [76, 77, 84, 85, 86, 87, 88, 89, 90, 91, 92, 93, 94] (by decide +kernel) (by decide +kernel)
set_option maxRecDepth 20000 in
theorem gX6_numberOfAll_X4_settingAt : GoodIn wsX6_numberOfAll (wsV RX6 307 RX4 yX4_settingAt wsX4_settingAt) := goodIn_app (goodIn_of _ (by decide +kernel)) ggX6_numberOfAll_X4_settingAt
