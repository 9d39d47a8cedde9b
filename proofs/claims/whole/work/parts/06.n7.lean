set_option maxRecDepth 20000 in
theorem ggX7_init_X7_puts : GoodIn wsX7_init wsX7_puts := goodIn_r _ [16, 5, 17, 18, 19, 15, 20, 21, 22, 23, 24, 25, 26, 27, 28, 29, 30, 31, 32, 33, 34, 35, 36] (by decide +kernel) (by decide +kernel)
set_option maxRecDepth 20000 in
theorem gX7_init_X7_puts : GoodIn wsX7_init (wsV RX7 32 RX7 yX7_puts wsX7_puts) := goodIn_app (goodIn_of _ (by decide +kernel)) ggX7_init_X7_puts
set_option maxRecDepth 20000 in
theorem ggX7_isBox_X7_in : GoodIn wsX7_isBox wsX7_in := goodIn_r _ [4] (by decide +kernel) (by decide +kernel)
set_option maxRecDepth 20000 in
theorem gX7_isBox_X7_in : GoodIn wsX7_isBox (va_wsS RX7 36 yX7_in wsX7_in) := goodIn_app (goodIn_of _ (by decide +kernel)) ggX7_isBox_X7_in
set_option maxRecDepth 20000 in
theorem ggX7_upmost_X7_many : GoodIn wsX7_upmost wsX7_many := goodIn_r _ [5, 6, 11, 12, 13, 14, 15, 16, 17, 18, 19, 20, 21, 22, 23, 24, 25, 26] (by decide +kernel) (by decide +kernel)
set_option maxRecDepth 20000 in
theorem gX7_upmost_X7_many : GoodIn wsX7_upmost (wsV RX7 40 RX7 yX7_many wsX7_many) := goodIn_app (goodIn_of _ (by decide +kernel)) ggX7_upmost_X7_many
set_option maxRecDepth 20000 in
theorem ggX7_upmost_X7_typeAt : GoodIn wsX7_upmost wsX7_typeAt := goodIn_r _ [10, 6, 11, 12, 13, 14, 15, 16, 17, 18, 19, 20, 21, 22, 23, 24, 25, 26] (by decide +kernel) (by decide +kernel)
set_option maxRecDepth 20000 in
theorem gX7_upmost_X7_typeAt : GoodIn wsX7_upmost (wsV RX7 44 RX7 yX7_typeAt wsX7_typeAt) := goodIn_app (goodIn_of _ (by decide +kernel)) ggX7_upmost_X7_typeAt
set_option maxRecDepth 20000 in
theorem ggX7_puts_X7_many : GoodIn wsX7_puts wsX7_many := goodIn_r _ [6, 1, 7, 8, 9, 10, 11, 12, 13, 14, 15, 16, 17, 18, 19, 20, 21, 22] (by decide +kernel) (by decide +kernel)
set_option maxRecDepth 20000 in
theorem gX7_puts_X7_many : GoodIn wsX7_puts (wsV RX7 40 RX7 yX7_many wsX7_many) := goodIn_app (goodIn_of _ (by decide +kernel)) ggX7_puts_X7_many
set_option maxRecDepth 20000 in
theorem ggX7_takes_X7_typeAt : GoodIn wsX7_takes wsX7_typeAt := goodIn_r _ [6, 1, 11, 12, 13, 14, 15, 16, 17, 18, 19, 20, 21, 22, 23, 24, 25, 26] (by decide +kernel) (by decide +kernel)
set_option maxRecDepth 20000 in
theorem gX7_takes_X7_typeAt : GoodIn wsX7_takes (wsV RX7 44 RX7 yX7_typeAt wsX7_typeAt) := goodIn_app (goodIn_of _ (by decide +kernel)) ggX7_takes_X7_typeAt
set_option maxRecDepth 20000 in
theorem ggX7_takes_X7_many : GoodIn wsX7_takes wsX7_many := goodIn_r _ [10, 1, 11, 12, 13, 14, 15, 16, 17, 18, 19, 20, 21, 22, 23, 24, 25, 26] (by decide +kernel) (by decide +kernel)
set_option maxRecDepth 20000 in
theorem gX7_takes_X7_many : GoodIn wsX7_takes (wsV RX7 40 RX7 yX7_many wsX7_many) := goodIn_app (goodIn_of _ (by decide +kernel)) ggX7_takes_X7_many
set_option maxRecDepth 20000 in
theorem ggX7_takesUpmost_X7_many : GoodIn wsX7_takesUpmost wsX7_many := goodIn_r _ [5, 6, 15, 16, 17, 18, 19, 20, 21, 22, 23, 24, 25, 26, 27, 28, 29, 30] (by decide +kernel) (by decide +kernel)
set_option maxRecDepth 20000 in
theorem gX7_takesUpmost_X7_many : GoodIn wsX7_takesUpmost (wsV RX7 40 RX7 yX7_many wsX7_many) := goodIn_app (goodIn_of _ (by decide +kernel)) ggX7_takesUpmost_X7_many
set_option maxRecDepth 20000 in
theorem ggX7_takesUpmost_X7_takes : GoodIn wsX7_takesUpmost wsX7_takes := goodIn_r _ [10, 6, 11, 12, 13, 4, 14, 1, 2, 3, 5, 15, 16, 17, 18, 19, 20, 21, 22, 23, 24, 25, 26, 27, 28, 29, 30] (by decide +kernel) (by decide +kernel)
set_option maxRecDepth 20000 in
theorem gX7_takesUpmost_X7_takes : GoodIn wsX7_takesUpmost (wsV RX7 48 RX7 yX7_takes wsX7_takes) := goodIn_app (goodIn_of _ (by decide +kernel)) ggX7_takesUpmost_X7_takes
set_option maxRecDepth 20000 in
theorem ggX7_width_X7_widthOf : GoodIn wsX7_width wsX7_widthOf := goodIn_r _ [5] (by decide +kernel) (by decide +kernel)
set_option maxRecDepth 20000 in
theorem gX7_width_X7_widthOf : GoodIn wsX7_width (va_wsS RX7 54 yX7_widthOf wsX7_widthOf) := goodIn_app (goodIn_of _ (by decide +kernel)) ggX7_width_X7_widthOf
set_option maxRecDepth 20000 in
theorem ggX7_errors_X7_isError : GoodIn wsX7_errors wsX7_isError := goodIn_r _ [6, 1, 7, 8, 9, 10, 11, 12, 13, 14, 15, 16, 17, 18, 19, 20, 21, 22] (by decide +kernel) (by decide +kernel)
set_option maxRecDepth 20000 in
theorem gX7_errors_X7_isError : GoodIn wsX7_errors (wsV RX7 57 RX7 yX7_isError wsX7_isError) := goodIn_app (goodIn_of _ (by decide +kernel)) ggX7_errors_X7_isError
set_option maxRecDepth 20000 in
theorem ggX7_wrongIn_X7_many : GoodIn wsX7_wrongIn wsX7_many := goodIn_r _ [5, 6, 11, 12, 13, 14, 15, 16, 17, 18, 19, 20, 21, 22, 23, 24, 25, 26] (by decide +kernel) (by decide +kernel)
set_option maxRecDepth 20000 in
theorem gX7_wrongIn_X7_many : GoodIn wsX7_wrongIn (wsV RX7 40 RX7 yX7_many wsX7_many) := goodIn_app (goodIn_of _ (by decide +kernel)) ggX7_wrongIn_X7_many
set_option maxRecDepth 20000 in
theorem ggX7_wrongIn_X7_typeAt : GoodIn wsX7_wrongIn wsX7_typeAt := goodIn_r _ [10, 6, 11, 12, 13, 14, 15, 16, 17, 18, 19, 20, 21, 22, 23, 24, 25, 26] (by decide +kernel) (by decide +kernel)
set_option maxRecDepth 20000 in
theorem gX7_wrongIn_X7_typeAt : GoodIn wsX7_wrongIn (wsV RX7 44 RX7 yX7_typeAt wsX7_typeAt) := goodIn_app (goodIn_of _ (by decide +kernel)) ggX7_wrongIn_X7_typeAt
set_option maxRecDepth 20000 in
theorem ggX7_wrong_X7_wrongIn : GoodIn wsX7_wrong wsX7_wrongIn := goodIn_r _ [5, 6, 7, 8, 4, 9, 10, 11, 12, 13, 14, 15, 16, 17, 18, 19, 20, 21, 22, 23, 24, 25, 26, 27, 28, 29, 30] (by decide +kernel) (by decide +kernel)
set_option maxRecDepth 20000 in
theorem gX7_wrong_X7_wrongIn : GoodIn wsX7_wrong (wsV RX7 61 RX7 yX7_wrongIn wsX7_wrongIn) := goodIn_app (goodIn_of _ (by decide +kernel)) ggX7_wrong_X7_wrongIn
set_option maxRecDepth 20000 in
theorem ggX7_inBoxes_X7_many : GoodIn wsX7_inBoxes wsX7_many := goodIn_r _ [5, 6, 7, 8, 9, 10, 11, 12, 13, 14, 15, 16, 17, 18, 19, 20, 21, 22] (by decide +kernel) (by decide +kernel)
set_option maxRecDepth 20000 in
theorem gX7_inBoxes_X7_many : GoodIn wsX7_inBoxes (wsV RX7 40 RX7 yX7_many wsX7_many) := goodIn_app (goodIn_of _ (by decide +kernel)) ggX7_inBoxes_X7_many
set_option maxRecDepth 20000 in
theorem ggX7_elsewhere_X7_many : GoodIn wsX7_elsewhere wsX7_many := goodIn_r _ [5, 6, 11, 12, 13, 14, 15, 16, 17, 18, 19, 20, 21, 22, 23, 24, 25, 26] (by decide +kernel) (by decide +kernel)
set_option maxRecDepth 20000 in
theorem gX7_elsewhere_X7_many : GoodIn wsX7_elsewhere (wsV RX7 40 RX7 yX7_many wsX7_many) := goodIn_app (goodIn_of _ (by decide +kernel)) ggX7_elsewhere_X7_many
set_option maxRecDepth 20000 in
theorem ggX7_elsewhere_X7_typeAt : GoodIn wsX7_elsewhere wsX7_typeAt := goodIn_r _ [10, 6, 11, 12, 13, 14, 15, 16, 17, 18, 19, 20, 21, 22, 23, 24, 25, 26] (by decide +kernel) (by decide +kernel)
set_option maxRecDepth 20000 in
theorem gX7_elsewhere_X7_typeAt : GoodIn wsX7_elsewhere (wsV RX7 44 RX7 yX7_typeAt wsX7_typeAt) := goodIn_app (goodIn_of _ (by decide +kernel)) ggX7_elsewhere_X7_typeAt
set_option maxRecDepth 20000 in
theorem ggX7_right_X7_many : GoodIn wsX7_right wsX7_many := goodIn_r _ [5, 6, 11, 12, 13, 14, 15, 16, 17, 18, 19, 20, 21, 22, 23, 24, 25, 26] (by decide +kernel) (by decide +kernel)
set_option maxRecDepth 20000 in
theorem gX7_right_X7_many : GoodIn wsX7_right (wsV RX7 40 RX7 yX7_many wsX7_many) := goodIn_app (goodIn_of _ (by decide +kernel)) ggX7_right_X7_many
set_option maxRecDepth 20000 in
theorem ggX7_right_X7_typeAt : GoodIn wsX7_right wsX7_typeAt := goodIn_r _ [10, 6, 11, 12, 13, 14, 15, 16, 17, 18, 19, 20, 21, 22, 23, 24, 25, 26] (by decide +kernel) (by decide +kernel)
set_option maxRecDepth 20000 in
theorem gX7_right_X7_typeAt : GoodIn wsX7_right (wsV RX7 44 RX7 yX7_typeAt wsX7_typeAt) := goodIn_app (goodIn_of _ (by decide +kernel)) ggX7_right_X7_typeAt
set_option maxRecDepth 20000 in
theorem ggX7_beatsOnce_X7_upmost : GoodIn wsX7_beatsOnce wsX7_upmost := goodIn_r _ [6, 7, 8, 9, 5, 10, 1, 11, 12, 13, 14, 27, 28, 29, 30, 31, 32, 33, 34, 35, 36, 37, 38, 39, 40, 41, 42] (by decide +kernel) (by decide +kernel)
set_option maxRecDepth 20000 in
theorem gX7_beatsOnce_X7_upmost : GoodIn wsX7_beatsOnce (wsV RX7 64 RX7 yX7_upmost wsX7_upmost) := goodIn_app (goodIn_of _ (by decide +kernel)) ggX7_beatsOnce_X7_upmost
set_option maxRecDepth 20000 in
theorem ggX7_beatsOnce_X7_many : GoodIn wsX7_beatsOnce wsX7_many := goodIn_r _ [10, 1, 27, 28, 29, 30, 31, 32, 33, 34, 35, 36, 37, 38, 39, 40, 41, 42] (by decide +kernel) (by decide +kernel)
set_option maxRecDepth 20000 in
theorem gX7_beatsOnce_X7_many : GoodIn wsX7_beatsOnce (wsV RX7 40 RX7 yX7_many wsX7_many) := goodIn_app (goodIn_of _ (by decide +kernel)) ggX7_beatsOnce_X7_many
set_option maxRecDepth 20000 in
theorem ggX7_beatsOnce_X7_takesUpmost : GoodIn wsX7_beatsOnce wsX7_takesUpmost := goodIn_r _ [18, 7, 8, 9, 5, 10, 1, 19, 20, 21, 22, 11, 12, 13, 14, 27, 28, 29, 30, 31, 32, 33, 34, 35, 36, 37, 38, 39, 40, 41, 42] (by decide +kernel) (by decide +kernel)
set_option maxRecDepth 20000 in
theorem gX7_beatsOnce_X7_takesUpmost : GoodIn wsX7_beatsOnce (wsV RX7 67 RX7 yX7_takesUpmost wsX7_takesUpmost) := goodIn_app (goodIn_of _ (by decide +kernel)) ggX7_beatsOnce_X7_takesUpmost
set_option maxRecDepth 20000 in
theorem ggX7_beatsOnce_X7_puts : GoodIn wsX7_beatsOnce wsX7_puts := goodIn_r _ [26, 1, 7, 8, 9, 5, 10, 27, 28, 29, 30, 31, 32, 33, 34, 35, 36, 37, 38, 39, 40, 41, 42] (by decide +kernel) (by decide +kernel)
set_option maxRecDepth 20000 in
theorem gX7_beatsOnce_X7_puts : GoodIn wsX7_beatsOnce (wsV RX7 32 RX7 yX7_puts wsX7_puts) := goodIn_app (goodIn_of _ (by decide +kernel)) ggX7_beatsOnce_X7_puts
set_option maxRecDepth 20000 in
theorem ggX7_beatsMany_X7_beatsOnce : GoodIn wsX7_beatsMany wsX7_beatsOnce := goodIn_r _ [5, 6, 7, 8, 9, 4, 10, 11, 12, 13, 14, 15, 16, 17, 18, 19, 20, 21, 22, 23, 24, 25, 26, 27, 28, 29, 30, 31, 32, 33, 34, 35, 36, 37, 38, 39, 40, 41, 42, 43, 44, 45, 46] (by decide +kernel) (by decide +kernel)
set_option maxRecDepth 20000 in
theorem gX7_beatsMany_X7_beatsOnce : GoodIn wsX7_beatsMany (wsV RX7 70 RX7 yX7_beatsOnce wsX7_beatsOnce) := goodIn_app (goodIn_of _ (by decide +kernel)) ggX7_beatsMany_X7_beatsOnce
set_option maxRecDepth 20000 in
theorem ggX7_refusesLetter_X7_upmost : GoodIn wsX7_refusesLetter wsX7_upmost := goodIn_r _ [6, 7, 8, 9, 5, 10, 1, 11, 12, 13, 14, 22, 23, 24, 25, 26, 27, 28, 29, 30, 31, 32, 33, 34, 35, 36, 37] (by decide +kernel) (by decide +kernel)
set_option maxRecDepth 20000 in
theorem gX7_refusesLetter_X7_upmost : GoodIn wsX7_refusesLetter (wsV RX7 64 RX7 yX7_upmost wsX7_upmost) := goodIn_app (goodIn_of _ (by decide +kernel)) ggX7_refusesLetter_X7_upmost
set_option maxRecDepth 20000 in
theorem ggX7_refusesLetter_X7_width : GoodIn wsX7_refusesLetter wsX7_width := goodIn_r _ [18, 1, 19, 20, 5, 21, 22, 23, 24, 25, 26, 27, 28, 29, 30, 31, 32, 33, 34, 35, 36, 37] (by decide +kernel) (by decide +kernel)
set_option maxRecDepth 20000 in
theorem gX7_refusesLetter_X7_width : GoodIn wsX7_refusesLetter (wsV RX7 74 RX7 yX7_width wsX7_width) := goodIn_app (goodIn_of _ (by decide +kernel)) ggX7_refusesLetter_X7_width
set_option maxRecDepth 20000 in
theorem ggX7_refusesLetter_X7_widthOf : GoodIn wsX7_refusesLetter wsX7_widthOf := goodIn_r _ [21] (by decide +kernel) (by decide +kernel)
set_option maxRecDepth 20000 in
theorem gX7_refusesLetter_X7_widthOf : GoodIn wsX7_refusesLetter (va_wsS RX7 54 yX7_widthOf wsX7_widthOf) := goodIn_app (goodIn_of _ (by decide +kernel)) ggX7_refusesLetter_X7_widthOf
set_option maxRecDepth 20000 in
theorem ggX7_sets_X7_takesUpmost : GoodIn wsX7_sets wsX7_takesUpmost := goodIn_r _ [6, 7, 8, 9, 5, 10, 1, 11, 12, 13, 14, 15, 16, 17, 18, 35, 36, 37, 38, 39, 40, 41, 42, 43, 44, 45, 46, 47, 48, 49, 50] (by decide +kernel) (by decide +kernel)
set_option maxRecDepth 20000 in
theorem gX7_sets_X7_takesUpmost : GoodIn wsX7_sets (wsV RX7 67 RX7 yX7_takesUpmost wsX7_takesUpmost) := goodIn_app (goodIn_of _ (by decide +kernel)) ggX7_sets_X7_takesUpmost
set_option maxRecDepth 20000 in
theorem ggX7_sets_X7_beatsMany : GoodIn wsX7_sets wsX7_beatsMany := goodIn_r _ [22, 23, 24, 25, 5, 26, 1, 27, 28, 29, 30, 7, 8, 9, 10, 15, 16, 17, 18, 2, 3, 4, 6, 11, 12, 13, 14, 31, 32, 33, 34, 35, 36, 37, 38, 39, 40, 41, 42, 43, 44, 45, 46, 47, 48, 49, 50] (by decide +kernel) (by decide +kernel)
set_option maxRecDepth 20000 in
theorem gX7_sets_X7_beatsMany : GoodIn wsX7_sets (wsV RX7 78 RX7 yX7_beatsMany wsX7_beatsMany) := goodIn_app (goodIn_of _ (by decide +kernel)) ggX7_sets_X7_beatsMany
set_option maxRecDepth 20000 in
theorem ggX7_set_X7_isBox : GoodIn wsX7_set wsX7_isBox := goodIn_r _ [5, 6, 7, 4, 8] (by decide +kernel) (by decide +kernel)
set_option maxRecDepth 20000 in
theorem gX7_set_X7_isBox : GoodIn wsX7_set (va_wsS RX7 81 yX7_isBox wsX7_isBox) := goodIn_app (goodIn_of _ (by decide +kernel)) ggX7_set_X7_isBox
set_option maxRecDepth 20000 in
theorem ggX7_set_X7_fails : GoodIn wsX7_set wsX7_fails := goodIn_r _ [12, 1, 67, 68, 69, 70, 71, 72, 73, 74, 75, 76, 77, 78, 79, 80, 81, 82] (by decide +kernel) (by decide +kernel)
set_option maxRecDepth 20000 in
theorem gX7_set_X7_fails : GoodIn wsX7_set (wsV RX7 84 RX7 yX7_fails wsX7_fails) := goodIn_app (goodIn_of _ (by decide +kernel)) ggX7_set_X7_fails
set_option maxRecDepth 20000 in
theorem ggX7_set_X7_refusesLetter : GoodIn wsX7_set wsX7_refusesLetter := goodIn_r _ [16, 17, 18, 19, 20, 4, 21, 22, 23, 24, 25, 26, 27, 28, 29, 30, 31, 32, 33, 34, 35, 36, 67, 68, 69, 70, 71, 72, 73, 74, 75, 76, 77, 78, 79, 80, 81, 82] (by decide +kernel) (by decide +kernel)
set_option maxRecDepth 20000 in
theorem gX7_set_X7_refusesLetter : GoodIn wsX7_set (wsV RX7 87 RX7 yX7_refusesLetter wsX7_refusesLetter) := goodIn_app (goodIn_of _ (by decide +kernel)) ggX7_set_X7_refusesLetter
set_option maxRecDepth 20000 in
theorem ggX7_set_X7_saves : GoodIn wsX7_set wsX7_saves := goodIn_r _ [40, 41, 42, 17, 67, 68, 69, 70, 71, 72, 73, 74, 75, 76, 77, 78, 79, 80, 81, 82] (by decide +kernel) (by decide +kernel)
set_option maxRecDepth 20000 in
theorem gX7_set_X7_saves : GoodIn wsX7_set (wsV RX7 90 RX7 yX7_saves wsX7_saves) := goodIn_app (goodIn_of _ (by decide +kernel)) ggX7_set_X7_saves
set_option maxRecDepth 20000 in
theorem ggX7_set_X7_sets : GoodIn wsX7_set wsX7_sets := goodIn_r _ [46, 17, 47, 48, 49, 4, 50, 22, 23, 24, 25, 51, 52, 53, 54, 26, 27, 28, 29, 55, 56, 57, 58, 59, 60, 61, 62, 18, 19, 20, 21, 63, 64, 65, 66, 67, 68, 69, 70, 71, 72, 73, 74, 75, 76, 77, 78, 79, 80, 81, 82] (by decide +kernel) (by decide +kernel)
set_option maxRecDepth 20000 in
theorem gX7_set_X7_sets : GoodIn wsX7_set (wsV RX7 93 RX7 yX7_sets wsX7_sets) := goodIn_app (goodIn_of _ (by decide +kernel)) ggX7_set_X7_sets
set_option maxRecDepth 20000 in
theorem ggX7_idles_X7_beatsMany : GoodIn wsX7_idles wsX7_beatsMany := goodIn_r _ [6, 7, 8, 9, 5, 10, 1, 11, 12, 13, 14, 15, 16, 17, 18, 19, 20, 21, 22, 23, 24, 25, 26, 27, 28, 29, 30, 31, 32, 33, 34, 35, 36, 37, 38, 39, 40, 41, 42, 43, 44, 45, 46, 47, 48, 49, 50] (by decide +kernel) (by decide +kernel)
set_option maxRecDepth 20000 in
theorem gX7_idles_X7_beatsMany : GoodIn wsX7_idles (wsV RX7 78 RX7 yX7_beatsMany wsX7_beatsMany) := goodIn_app (goodIn_of _ (by decide +kernel)) ggX7_idles_X7_beatsMany
set_option maxRecDepth 20000 in
theorem ggX7_idle_X7_in : GoodIn wsX7_idle wsX7_in := goodIn_r _ [5] (by decide +kernel) (by decide +kernel)
set_option maxRecDepth 20000 in
theorem gX7_idle_X7_in : GoodIn wsX7_idle (va_wsS RX7 36 yX7_in wsX7_in) := goodIn_app (goodIn_of _ (by decide +kernel)) ggX7_idle_X7_in
set_option maxRecDepth 20000 in
theorem ggX7_idle_X7_fails : GoodIn wsX7_idle wsX7_fails := goodIn_r _ [9, 1, 53, 54, 55, 56, 57, 58, 59, 60, 61, 62, 63, 64, 65, 66, 67, 68] (by decide +kernel) (by decide +kernel)
set_option maxRecDepth 20000 in
theorem gX7_idle_X7_fails : GoodIn wsX7_idle (wsV RX7 84 RX7 yX7_fails wsX7_fails) := goodIn_app (goodIn_of _ (by decide +kernel)) ggX7_idle_X7_fails
set_option maxRecDepth 20000 in
theorem ggX7_idle_X7_saves : GoodIn wsX7_idle wsX7_saves := goodIn_r _ [13, 14, 15, 16, 53, 54, 55, 56, 57, 58, 59, 60, 61, 62, 63, 64, 65, 66, 67, 68] (by decide +kernel) (by decide +kernel)
set_option maxRecDepth 20000 in
theorem gX7_idle_X7_saves : GoodIn wsX7_idle (wsV RX7 90 RX7 yX7_saves wsX7_saves) := goodIn_app (goodIn_of _ (by decide +kernel)) ggX7_idle_X7_saves
set_option maxRecDepth 20000 in
theorem ggX7_idle_X7_idles : GoodIn wsX7_idle wsX7_idles := goodIn_r _ [20, 16, 21, 22, 23, 4, 24, 25, 26, 27, 28, 29, 30, 31, 32, 33, 34, 35, 36, 37, 38, 39, 40, 41, 42, 43, 44, 45, 46, 47, 48, 49, 50, 51, 52, 53, 54, 55, 56, 57, 58, 59, 60, 61, 62, 63, 64, 65, 66, 67, 68] (by decide +kernel) (by decide +kernel)
set_option maxRecDepth 20000 in
theorem gX7_idle_X7_idles : GoodIn wsX7_idle (wsV RX7 96 RX7 yX7_idles wsX7_idles) := goodIn_app (goodIn_of _ (by decide +kernel)) ggX7_idle_X7_idles
set_option maxRecDepth 20000 in
theorem ggX7_refusesFix_X7_isError : GoodIn wsX7_refusesFix wsX7_isError := goodIn_r _ [6, 1, 23, 24, 25, 26, 27, 28, 29, 30, 31, 32, 33, 34, 35, 36, 37, 38] (by decide +kernel) (by decide +kernel)
set_option maxRecDepth 20000 in
theorem gX7_refusesFix_X7_isError : GoodIn wsX7_refusesFix (wsV RX7 57 RX7 yX7_isError wsX7_isError) := goodIn_app (goodIn_of _ (by decide +kernel)) ggX7_refusesFix_X7_isError
set_option maxRecDepth 20000 in
theorem ggX7_refusesFix_X7_right : GoodIn wsX7_refusesFix wsX7_right := goodIn_r _ [10, 11, 12, 13, 5, 14, 1, 15, 16, 17, 18, 23, 24, 25, 26, 27, 28, 29, 30, 31, 32, 33, 34, 35, 36, 37, 38] (by decide +kernel) (by decide +kernel)
set_option maxRecDepth 20000 in
theorem gX7_refusesFix_X7_right : GoodIn wsX7_refusesFix (wsV RX7 99 RX7 yX7_right wsX7_right) := goodIn_app (goodIn_of _ (by decide +kernel)) ggX7_refusesFix_X7_right
set_option maxRecDepth 20000 in
theorem ggX7_refusesFix_X7_boxFor : GoodIn wsX7_refusesFix wsX7_boxFor := goodIn_r _ [22, 1, 23, 24, 25, 26, 27, 28, 29, 30, 31, 32, 33, 34, 35, 36, 37, 38] (by decide +kernel) (by decide +kernel)
set_option maxRecDepth 20000 in
theorem gX7_refusesFix_X7_boxFor : GoodIn wsX7_refusesFix (wsV RX7 102 RX7 yX7_boxFor wsX7_boxFor) := goodIn_app (goodIn_of _ (by decide +kernel)) ggX7_refusesFix_X7_boxFor
set_option maxRecDepth 20000 in
theorem ggX7_refusesFix_X7_many : GoodIn wsX7_refusesFix wsX7_many := goodIn_r _ [14, 1, 23, 24, 25, 26, 27, 28, 29, 30, 31, 32, 33, 34, 35, 36, 37, 38] (by decide +kernel) (by decide +kernel)
set_option maxRecDepth 20000 in
theorem gX7_refusesFix_X7_many : GoodIn wsX7_refusesFix (wsV RX7 40 RX7 yX7_many wsX7_many) := goodIn_app (goodIn_of _ (by decide +kernel)) ggX7_refusesFix_X7_many
set_option maxRecDepth 20000 in
theorem ggX7_fixes_X7_boxFor : GoodIn wsX7_fixes wsX7_boxFor := goodIn_r _ [6, 1, 35, 36, 37, 38, 39, 40, 41, 42, 43, 44, 45, 46, 47, 48, 49, 50] (by decide +kernel) (by decide +kernel)
set_option maxRecDepth 20000 in
theorem gX7_fixes_X7_boxFor : GoodIn wsX7_fixes (wsV RX7 102 RX7 yX7_boxFor wsX7_boxFor) := goodIn_app (goodIn_of _ (by decide +kernel)) ggX7_fixes_X7_boxFor
set_option maxRecDepth 20000 in
theorem ggX7_fixes_X7_puts : GoodIn wsX7_fixes wsX7_puts := goodIn_r _ [10, 1, 11, 12, 13, 5, 14, 35, 36, 37, 38, 39, 40, 41, 42, 43, 44, 45, 46, 47, 48, 49, 50] (by decide +kernel) (by decide +kernel)
set_option maxRecDepth 20000 in
theorem gX7_fixes_X7_puts : GoodIn wsX7_fixes (wsV RX7 32 RX7 yX7_puts wsX7_puts) := goodIn_app (goodIn_of _ (by decide +kernel)) ggX7_fixes_X7_puts
set_option maxRecDepth 20000 in
theorem ggX7_fixes_X7_right : GoodIn wsX7_fixes wsX7_right := goodIn_r _ [18, 11, 12, 13, 5, 14, 1, 19, 20, 21, 22, 35, 36, 37, 38, 39, 40, 41, 42, 43, 44, 45, 46, 47, 48, 49, 50] (by decide +kernel) (by decide +kernel)
set_option maxRecDepth 20000 in
theorem gX7_fixes_X7_right : GoodIn wsX7_fixes (wsV RX7 99 RX7 yX7_right wsX7_right) := goodIn_app (goodIn_of _ (by decide +kernel)) ggX7_fixes_X7_right
set_option maxRecDepth 20000 in
theorem ggX7_fixes_X7_takes : GoodIn wsX7_fixes wsX7_takes := goodIn_r _ [26, 1, 19, 20, 21, 5, 22, 11, 12, 13, 14, 35, 36, 37, 38, 39, 40, 41, 42, 43, 44, 45, 46, 47, 48, 49, 50] (by decide +kernel) (by decide +kernel)
set_option maxRecDepth 20000 in
theorem gX7_fixes_X7_takes : GoodIn wsX7_fixes (wsV RX7 48 RX7 yX7_takes wsX7_takes) := goodIn_app (goodIn_of _ (by decide +kernel)) ggX7_fixes_X7_takes
set_option maxRecDepth 20000 in
theorem ggX7_fixes_X7_errors : GoodIn wsX7_fixes wsX7_errors := goodIn_r _ [30, 1, 31, 32, 33, 5, 34, 35, 36, 37, 38, 39, 40, 41, 42, 43, 44, 45, 46, 47, 48, 49, 50] (by decide +kernel) (by decide +kernel)
set_option maxRecDepth 20000 in
theorem gX7_fixes_X7_errors : GoodIn wsX7_fixes (wsV RX7 105 RX7 yX7_errors wsX7_errors) := goodIn_app (goodIn_of _ (by decide +kernel)) ggX7_fixes_X7_errors
set_option maxRecDepth 20000 in
theorem ggX7_isPlace_X7_in : GoodIn wsX7_isPlace wsX7_in := goodIn_r _ [5] (by decide +kernel) (by decide +kernel)
set_option maxRecDepth 20000 in
theorem gX7_isPlace_X7_in : GoodIn wsX7_isPlace (va_wsS RX7 36 yX7_in wsX7_in) := goodIn_app (goodIn_of _ (by decide +kernel)) ggX7_isPlace_X7_in
set_option maxRecDepth 20000 in
theorem ggX7_fix_X7_isPlace : GoodIn wsX7_fix wsX7_isPlace := goodIn_r _ [6, 7, 8, 9, 5, 10, 61, 62, 63, 64, 65, 66, 67, 68, 69, 70, 71, 72, 73, 74, 75, 76] (by decide +kernel) (by decide +kernel)
set_option maxRecDepth 20000 in
theorem gX7_fix_X7_isPlace : GoodIn wsX7_fix (wsV RX7 108 RX7 yX7_isPlace wsX7_isPlace) := goodIn_app (goodIn_of _ (by decide +kernel)) ggX7_fix_X7_isPlace
set_option maxRecDepth 20000 in
theorem ggX7_fix_X7_fails : GoodIn wsX7_fix wsX7_fails := goodIn_r _ [14, 1, 61, 62, 63, 64, 65, 66, 67, 68, 69, 70, 71, 72, 73, 74, 75, 76] (by decide +kernel) (by decide +kernel)
set_option maxRecDepth 20000 in
theorem gX7_fix_X7_fails : GoodIn wsX7_fix (wsV RX7 84 RX7 yX7_fails wsX7_fails) := goodIn_app (goodIn_of _ (by decide +kernel)) ggX7_fix_X7_fails
set_option maxRecDepth 20000 in
theorem ggX7_fix_X7_refusesFix : GoodIn wsX7_fix wsX7_refusesFix := goodIn_r _ [18, 7, 19, 20, 21, 5, 22, 23, 24, 25, 26, 27, 28, 29, 30, 31, 32, 33, 34, 35, 36, 37, 38, 61, 62, 63, 64, 65, 66, 67, 68, 69, 70, 71, 72, 73, 74, 75, 76] (by decide +kernel) (by decide +kernel)
set_option maxRecDepth 20000 in
theorem gX7_fix_X7_refusesFix : GoodIn wsX7_fix (wsV RX7 111 RX7 yX7_refusesFix wsX7_refusesFix) := goodIn_app (goodIn_of _ (by decide +kernel)) ggX7_fix_X7_refusesFix
set_option maxRecDepth 20000 in
theorem ggX7_fix_X7_saves : GoodIn wsX7_fix wsX7_saves := goodIn_r _ [42, 43, 44, 7, 61, 62, 63, 64, 65, 66, 67, 68, 69, 70, 71, 72, 73, 74, 75, 76] (by decide +kernel) (by decide +kernel)
set_option maxRecDepth 20000 in
theorem gX7_fix_X7_saves : GoodIn wsX7_fix (wsV RX7 90 RX7 yX7_saves wsX7_saves) := goodIn_app (goodIn_of _ (by decide +kernel)) ggX7_fix_X7_saves
set_option maxRecDepth 20000 in
theorem ggX7_fix_X7_fixes : GoodIn wsX7_fix wsX7_fixes := goodIn_r _ [48, 7, 35, 36, 37, 5, 38, 49, 50, 51, 52, 27, 28, 29, 30, 23, 24, 25, 26, 31, 32, 33, 34, 53, 54, 55, 56, 57, 58, 59, 60, 19, 20, 21, 22, 61, 62, 63, 64, 65, 66, 67, 68, 69, 70, 71, 72, 73, 74, 75, 76] (by decide +kernel) (by decide +kernel)
set_option maxRecDepth 20000 in
theorem gX7_fix_X7_fixes : GoodIn wsX7_fix (wsV RX7 114 RX7 yX7_fixes wsX7_fixes) := goodIn_app (goodIn_of _ (by decide +kernel)) ggX7_fix_X7_fixes
set_option maxRecDepth 20000 in
theorem ggX7_canReturn_X7_many : GoodIn wsX7_canReturn wsX7_many := goodIn_r _ [6, 1, 11, 12, 13, 14, 15, 16, 17, 18, 19, 20, 21, 22, 23, 24, 25, 26] (by decide +kernel) (by decide +kernel)
set_option maxRecDepth 20000 in
theorem gX7_canReturn_X7_many : GoodIn wsX7_canReturn (wsV RX7 40 RX7 yX7_many wsX7_many) := goodIn_app (goodIn_of _ (by decide +kernel)) ggX7_canReturn_X7_many
set_option maxRecDepth 20000 in
theorem ggX7_canReturn_X7_boxFor : GoodIn wsX7_canReturn wsX7_boxFor := goodIn_r _ [10, 1, 11, 12, 13, 14, 15, 16, 17, 18, 19, 20, 21, 22, 23, 24, 25, 26] (by decide +kernel) (by decide +kernel)
set_option maxRecDepth 20000 in
theorem gX7_canReturn_X7_boxFor : GoodIn wsX7_canReturn (wsV RX7 102 RX7 yX7_boxFor wsX7_boxFor) := goodIn_app (goodIn_of _ (by decide +kernel)) ggX7_canReturn_X7_boxFor
set_option maxRecDepth 20000 in
theorem ggX7_returns_X7_boxFor : GoodIn wsX7_returns wsX7_boxFor := goodIn_r _ [6, 1, 27, 28, 29, 30, 31, 32, 33, 34, 35, 36, 37, 38, 39, 40, 41, 42] (by decide +kernel) (by decide +kernel)
set_option maxRecDepth 20000 in
theorem gX7_returns_X7_boxFor : GoodIn wsX7_returns (wsV RX7 102 RX7 yX7_boxFor wsX7_boxFor) := goodIn_app (goodIn_of _ (by decide +kernel)) ggX7_returns_X7_boxFor
set_option maxRecDepth 20000 in
theorem ggX7_returns_X7_puts : GoodIn wsX7_returns wsX7_puts := goodIn_r _ [10, 1, 11, 12, 13, 5, 14, 27, 28, 29, 30, 31, 32, 33, 34, 35, 36, 37, 38, 39, 40, 41, 42] (by decide +kernel) (by decide +kernel)
set_option maxRecDepth 20000 in
theorem gX7_returns_X7_puts : GoodIn wsX7_returns (wsV RX7 32 RX7 yX7_puts wsX7_puts) := goodIn_app (goodIn_of _ (by decide +kernel)) ggX7_returns_X7_puts
set_option maxRecDepth 20000 in
theorem ggX7_returns_X7_wrong : GoodIn wsX7_returns wsX7_wrong := goodIn_r _ [18, 19, 20, 21, 5, 22, 11, 12, 13, 14, 1, 23, 24, 25, 26, 27, 28, 29, 30, 31, 32, 33, 34, 35, 36, 37, 38, 39, 40, 41, 42] (by decide +kernel) (by decide +kernel)
set_option maxRecDepth 20000 in
theorem gX7_returns_X7_wrong : GoodIn wsX7_returns (wsV RX7 117 RX7 yX7_wrong wsX7_wrong) := goodIn_app (goodIn_of _ (by decide +kernel)) ggX7_returns_X7_wrong
set_option maxRecDepth 20000 in
theorem ggX7_back_X7_canReturn : GoodIn wsX7_back wsX7_canReturn := goodIn_r _ [6, 7, 8, 9, 10, 5, 11, 12, 13, 14, 15, 46, 47, 48, 49, 50, 51, 52, 53, 54, 55, 56, 57, 58, 59, 60, 61] (by decide +kernel) (by decide +kernel)
set_option maxRecDepth 20000 in
theorem gX7_back_X7_canReturn : GoodIn wsX7_back (wsV RX7 120 RX7 yX7_canReturn wsX7_canReturn) := goodIn_app (goodIn_of _ (by decide +kernel)) ggX7_back_X7_canReturn
set_option maxRecDepth 20000 in
theorem ggX7_back_X7_fails : GoodIn wsX7_back wsX7_fails := goodIn_r _ [19, 1, 46, 47, 48, 49, 50, 51, 52, 53, 54, 55, 56, 57, 58, 59, 60, 61] (by decide +kernel) (by decide +kernel)
set_option maxRecDepth 20000 in
theorem gX7_back_X7_fails : GoodIn wsX7_back (wsV RX7 84 RX7 yX7_fails wsX7_fails) := goodIn_app (goodIn_of _ (by decide +kernel)) ggX7_back_X7_fails
set_option maxRecDepth 20000 in
theorem ggX7_back_X7_saves : GoodIn wsX7_back wsX7_saves := goodIn_r _ [23, 24, 25, 7, 46, 47, 48, 49, 50, 51, 52, 53, 54, 55, 56, 57, 58, 59, 60, 61] (by decide +kernel) (by decide +kernel)
set_option maxRecDepth 20000 in
theorem gX7_back_X7_saves : GoodIn wsX7_back (wsV RX7 90 RX7 yX7_saves wsX7_saves) := goodIn_app (goodIn_of _ (by decide +kernel)) ggX7_back_X7_saves
set_option maxRecDepth 20000 in
theorem ggX7_back_X7_returns : GoodIn wsX7_back wsX7_returns := goodIn_r _ [29, 7, 12, 13, 14, 5, 15, 30, 31, 32, 33, 8, 9, 10, 11, 34, 35, 36, 37, 38, 39, 40, 41, 42, 43, 44, 45, 46, 47, 48, 49, 50, 51, 52, 53, 54, 55, 56, 57, 58, 59, 60, 61] (by decide +kernel) (by decide +kernel)
set_option maxRecDepth 20000 in
theorem gX7_back_X7_returns : GoodIn wsX7_back (wsV RX7 123 RX7 yX7_returns wsX7_returns) := goodIn_app (goodIn_of _ (by decide +kernel)) ggX7_back_X7_returns
set_option maxRecDepth 20000 in
theorem ggX7_swaps_X7_many : GoodIn wsX7_swaps wsX7_many := goodIn_r _ [6, 1, 31, 32, 33, 34, 35, 36, 37, 38, 39, 40, 41, 42, 43, 44, 45, 46] (by decide +kernel) (by decide +kernel)
set_option maxRecDepth 20000 in
theorem gX7_swaps_X7_many : GoodIn wsX7_swaps (wsV RX7 40 RX7 yX7_many wsX7_many) := goodIn_app (goodIn_of _ (by decide +kernel)) ggX7_swaps_X7_many
set_option maxRecDepth 20000 in
theorem ggX7_swaps_X7_takesUpmost : GoodIn wsX7_swaps wsX7_takesUpmost := goodIn_r _ [10, 2, 3, 4, 5, 6, 1, 11, 12, 13, 14, 15, 16, 17, 18, 31, 32, 33, 34, 35, 36, 37, 38, 39, 40, 41, 42, 43, 44, 45, 46] (by decide +kernel) (by decide +kernel)
set_option maxRecDepth 20000 in
theorem gX7_swaps_X7_takesUpmost : GoodIn wsX7_swaps (wsV RX7 67 RX7 yX7_takesUpmost wsX7_takesUpmost) := goodIn_app (goodIn_of _ (by decide +kernel)) ggX7_swaps_X7_takesUpmost
set_option maxRecDepth 20000 in
theorem ggX7_swaps_X7_puts : GoodIn wsX7_swaps wsX7_puts := goodIn_r _ [22, 1, 2, 3, 4, 5, 6, 31, 32, 33, 34, 35, 36, 37, 38, 39, 40, 41, 42, 43, 44, 45, 46] (by decide +kernel) (by decide +kernel)
set_option maxRecDepth 20000 in
theorem gX7_swaps_X7_puts : GoodIn wsX7_swaps (wsV RX7 32 RX7 yX7_puts wsX7_puts) := goodIn_app (goodIn_of _ (by decide +kernel)) ggX7_swaps_X7_puts
set_option maxRecDepth 20000 in
theorem ggX7_swaps_X7_wrong : GoodIn wsX7_swaps wsX7_wrong := goodIn_r _ [26, 27, 28, 29, 5, 30, 2, 3, 4, 6, 1, 15, 16, 17, 18, 31, 32, 33, 34, 35, 36, 37, 38, 39, 40, 41, 42, 43, 44, 45, 46] (by decide +kernel) (by decide +kernel)
set_option maxRecDepth 20000 in
theorem gX7_swaps_X7_wrong : GoodIn wsX7_swaps (wsV RX7 117 RX7 yX7_wrong wsX7_wrong) := goodIn_app (goodIn_of _ (by decide +kernel)) ggX7_swaps_X7_wrong
set_option maxRecDepth 20000 in
theorem ggX7_swap_X7_isBox : GoodIn wsX7_swap wsX7_isBox := goodIn_r _ [5, 6, 7, 4, 8] (by decide +kernel) (by decide +kernel)
set_option maxRecDepth 20000 in
theorem gX7_swap_X7_isBox : GoodIn wsX7_swap (va_wsS RX7 81 yX7_isBox wsX7_isBox) := goodIn_app (goodIn_of _ (by decide +kernel)) ggX7_swap_X7_isBox
set_option maxRecDepth 20000 in
theorem ggX7_swap_X7_fails : GoodIn wsX7_swap wsX7_fails := goodIn_r _ [12, 1, 52, 53, 54, 55, 56, 57, 58, 59, 60, 61, 62, 63, 64, 65, 66, 67] (by decide +kernel) (by decide +kernel)
set_option maxRecDepth 20000 in
theorem gX7_swap_X7_fails : GoodIn wsX7_swap (wsV RX7 84 RX7 yX7_fails wsX7_fails) := goodIn_app (goodIn_of _ (by decide +kernel)) ggX7_swap_X7_fails
set_option maxRecDepth 20000 in
theorem ggX7_swap_X7_saves : GoodIn wsX7_swap wsX7_saves := goodIn_r _ [16, 17, 18, 19, 52, 53, 54, 55, 56, 57, 58, 59, 60, 61, 62, 63, 64, 65, 66, 67] (by decide +kernel) (by decide +kernel)
set_option maxRecDepth 20000 in
theorem gX7_swap_X7_saves : GoodIn wsX7_swap (wsV RX7 90 RX7 yX7_saves wsX7_saves) := goodIn_app (goodIn_of _ (by decide +kernel)) ggX7_swap_X7_saves
set_option maxRecDepth 20000 in
theorem ggX7_swap_X7_swaps : GoodIn wsX7_swap wsX7_swaps := goodIn_r _ [23, 19, 24, 25, 26, 4, 27, 28, 29, 30, 31, 32, 33, 34, 35, 36, 37, 38, 39, 40, 41, 42, 43, 44, 45, 46, 47, 48, 49, 50, 51, 52, 53, 54, 55, 56, 57, 58, 59, 60, 61, 62, 63, 64, 65, 66, 67] (by decide +kernel) (by decide +kernel)
set_option maxRecDepth 20000 in
theorem gX7_swap_X7_swaps : GoodIn wsX7_swap (wsV RX7 126 RX7 yX7_swaps wsX7_swaps) := goodIn_app (goodIn_of _ (by decide +kernel)) ggX7_swap_X7_swaps
set_option maxRecDepth 20000 in
theorem ggX7_change_X7_in : GoodIn wsX7_change wsX7_in := goodIn_r _ [6] (by decide +kernel) (by decide +kernel)
set_option maxRecDepth 20000 in
theorem gX7_change_X7_in : GoodIn wsX7_change (va_wsS RX7 36 yX7_in wsX7_in) := goodIn_app (goodIn_of _ (by decide +kernel)) ggX7_change_X7_in
set_option maxRecDepth 20000 in
theorem ggX7_change_X7_fails : GoodIn wsX7_change wsX7_fails := goodIn_r _ [10, 1, 17, 18, 19, 20, 21, 22, 23, 24, 25, 26, 27, 28, 29, 30, 31, 32] (by decide +kernel) (by decide +kernel)
set_option maxRecDepth 20000 in
theorem gX7_change_X7_fails : GoodIn wsX7_change (wsV RX7 84 RX7 yX7_fails wsX7_fails) := goodIn_app (goodIn_of _ (by decide +kernel)) ggX7_change_X7_fails
set_option maxRecDepth 20000 in
theorem ggX7_change_X7_saves : GoodIn wsX7_change wsX7_saves := goodIn_r _ [14, 15, 16, 2, 17, 18, 19, 20, 21, 22, 23, 24, 25, 26, 27, 28, 29, 30, 31, 32] (by decide +kernel) (by decide +kernel)
set_option maxRecDepth 20000 in
theorem gX7_change_X7_saves : GoodIn wsX7_change (wsV RX7 90 RX7 yX7_saves wsX7_saves) := goodIn_app (goodIn_of _ (by decide +kernel)) ggX7_change_X7_saves
set_option maxRecDepth 20000 in
theorem ggX7_append_X7_in : GoodIn wsX7_append wsX7_in := goodIn_r _ [7] (by decide +kernel) (by decide +kernel)
set_option maxRecDepth 20000 in
theorem gX7_append_X7_in : GoodIn wsX7_append (va_wsS RX7 36 yX7_in wsX7_in) := goodIn_app (goodIn_of _ (by decide +kernel)) ggX7_append_X7_in
set_option maxRecDepth 20000 in
theorem ggX7_append_X7_fails : GoodIn wsX7_append wsX7_fails := goodIn_r _ [11, 1, 12, 13, 14, 15, 16, 17, 18, 19, 20, 21, 22, 23, 24, 25, 26, 27] (by decide +kernel) (by decide +kernel)
set_option maxRecDepth 20000 in
theorem gX7_append_X7_fails : GoodIn wsX7_append (wsV RX7 84 RX7 yX7_fails wsX7_fails) := goodIn_app (goodIn_of _ (by decide +kernel)) ggX7_append_X7_fails
set_option maxRecDepth 20000 in
theorem ggX7_wants_X7_sign : GoodIn wsX7_wants wsX7_sign := goodIn_r _ [7, 2, 8, 9, 10, 11, 12, 13, 14, 15, 16, 17, 18, 19, 20, 21, 22, 23, 24, 25] (by decide +kernel) (by decide +kernel)
set_option maxRecDepth 20000 in
theorem gX7_wants_X7_sign : GoodIn wsX7_wants (wsV RX7 139 RX7 yX7_sign wsX7_sign) := goodIn_app (goodIn_of _ (by decide +kernel)) ggX7_wants_X7_sign
set_option maxRecDepth 20000 in
theorem ggX7_wantsThree_X7_wants : GoodIn wsX7_wantsThree wsX7_wants := goodIn_r _ [5, 6, 7, 8, 9, 10, 4, 11, 12, 13, 14, 15, 16, 17, 18, 19, 20, 21, 22, 23, 24, 25, 26, 27, 28, 29] (by decide +kernel) (by decide +kernel)
set_option maxRecDepth 20000 in
theorem gX7_wantsThree_X7_wants : GoodIn wsX7_wantsThree (wsV RX7 142 RX7 yX7_wants wsX7_wants) := goodIn_app (goodIn_of _ (by decide +kernel)) ggX7_wantsThree_X7_wants
set_option maxRecDepth 20000 in
theorem ggX7_letter_X7_sign : GoodIn wsX7_letter wsX7_sign := goodIn_r _ [7, 2, 8, 9, 13, 14, 15, 16, 17, 18, 19, 20, 21, 22, 23, 24, 25, 26, 27, 28] (by decide +kernel) (by decide +kernel)
set_option maxRecDepth 20000 in
theorem gX7_letter_X7_sign : GoodIn wsX7_letter (wsV RX7 139 RX7 yX7_sign wsX7_sign) := goodIn_app (goodIn_of _ (by decide +kernel)) ggX7_letter_X7_sign
set_option maxRecDepth 20000 in
theorem ggX7_letter_X7_in : GoodIn wsX7_letter wsX7_in := goodIn_r _ [12] (by decide +kernel) (by decide +kernel)
set_option maxRecDepth 20000 in
theorem gX7_letter_X7_in : GoodIn wsX7_letter (va_wsS RX7 36 yX7_in wsX7_in) := goodIn_app (goodIn_of _ (by decide +kernel)) ggX7_letter_X7_in
set_option maxRecDepth 20000 in
theorem ggX7_number_X7_sign : GoodIn wsX7_number wsX7_sign := goodIn_r _ [7, 2, 8, 9, 13, 14, 15, 16, 17, 18, 19, 20, 21, 22, 23, 24, 25, 26, 27, 28] (by decide +kernel) (by decide +kernel)
set_option maxRecDepth 20000 in
theorem gX7_number_X7_sign : GoodIn wsX7_number (wsV RX7 139 RX7 yX7_sign wsX7_sign) := goodIn_app (goodIn_of _ (by decide +kernel)) ggX7_number_X7_sign
set_option maxRecDepth 20000 in
theorem ggX7_number_X7_in : GoodIn wsX7_number wsX7_in := goodIn_r _ [12] (by decide +kernel) (by decide +kernel)
set_option maxRecDepth 20000 in
theorem gX7_number_X7_in : GoodIn wsX7_number (va_wsS RX7 36 yX7_in wsX7_in) := goodIn_app (goodIn_of _ (by decide +kernel)) ggX7_number_X7_in
set_option maxRecDepth 20000 in
theorem ggX7_word_X7_sign : GoodIn wsX7_word wsX7_sign := goodIn_r _ [7, 2, 8, 9, 22, 23, 24, 25, 26, 27, 28, 29, 30, 31, 32, 33, 34, 35, 36, 37] (by decide +kernel) (by decide +kernel)
set_option maxRecDepth 20000 in
theorem gX7_word_X7_sign : GoodIn wsX7_word (wsV RX7 139 RX7 yX7_sign wsX7_sign) := goodIn_app (goodIn_of _ (by decide +kernel)) ggX7_word_X7_sign
set_option maxRecDepth 20000 in
theorem ggX7_word_X7_wordOfS : GoodIn wsX7_word wsX7_wordOfS := goodIn_r _ [13, 3, 4, 5, 6, 7, 2, 8, 9, 14, 15, 16, 17, 18, 19, 20, 21, 1, 22, 23, 24, 25, 26, 27, 28, 29, 30, 31, 32, 33, 34, 35, 36, 37] (by decide +kernel) (by decide +kernel)
set_option maxRecDepth 20000 in
theorem gX7_word_X7_wordOfS : GoodIn wsX7_word (wsV RX7 146 RX7 yX7_wordOfS wsX7_wordOfS) := goodIn_app (goodIn_of _ (by decide +kernel)) ggX7_word_X7_wordOfS
set_option maxRecDepth 20000 in
theorem ggX7_word_X7_wants : GoodIn wsX7_word wsX7_wants := goodIn_r _ [21, 1, 2, 3, 4, 5, 6, 7, 8, 9, 22, 23, 24, 25, 26, 27, 28, 29, 30, 31, 32, 33, 34, 35, 36, 37] (by decide +kernel) (by decide +kernel)
set_option maxRecDepth 20000 in
theorem gX7_word_X7_wants : GoodIn wsX7_word (wsV RX7 142 RX7 yX7_wants wsX7_wants) := goodIn_app (goodIn_of _ (by decide +kernel)) ggX7_word_X7_wants
set_option maxRecDepth 20000 in
theorem ggX7_word_X7_wantsThree : GoodIn wsX7_word wsX7_wantsThree := goodIn_r _ [17, 18, 19, 20, 6, 21, 1, 2, 3, 4, 5, 7, 8, 9, 22, 23, 24, 25, 26, 27, 28, 29, 30, 31, 32, 33, 34, 35, 36, 37] (by decide +kernel) (by decide +kernel)
set_option maxRecDepth 20000 in
theorem gX7_word_X7_wantsThree : GoodIn wsX7_word (wsV RX7 149 RX7 yX7_wantsThree wsX7_wantsThree) := goodIn_app (goodIn_of _ (by decide +kernel)) ggX7_word_X7_wantsThree
set_option maxRecDepth 20000 in
theorem ggX7_wordOfS_X7_sign : GoodIn wsX7_wordOfS wsX7_sign := goodIn_r _ [5, 6, 7, 8, 18, 19, 20, 21, 22, 23, 24, 25, 26, 27, 28, 29, 30, 31, 32, 33] (by decide +kernel) (by decide +kernel)
set_option maxRecDepth 20000 in
theorem gX7_wordOfS_X7_sign : GoodIn wsX7_wordOfS (wsV RX7 139 RX7 yX7_sign wsX7_sign) := goodIn_app (goodIn_of _ (by decide +kernel)) ggX7_wordOfS_X7_sign
set_option maxRecDepth 20000 in
theorem ggX7_wordOfS_X7_wantsThree : GoodIn wsX7_wordOfS wsX7_wantsThree := goodIn_r _ [12, 13, 14, 15, 4, 16, 17, 6, 1, 2, 3, 5, 7, 8, 18, 19, 20, 21, 22, 23, 24, 25, 26, 27, 28, 29, 30, 31, 32, 33] (by decide +kernel) (by decide +kernel)
set_option maxRecDepth 20000 in
theorem gX7_wordOfS_X7_wantsThree : GoodIn wsX7_wordOfS (wsV RX7 149 RX7 yX7_wantsThree wsX7_wantsThree) := goodIn_app (goodIn_of _ (by decide +kernel)) ggX7_wordOfS_X7_wantsThree
set_option maxRecDepth 20000 in
theorem ggX7_wordOfS_X7_wants : GoodIn wsX7_wordOfS wsX7_wants := goodIn_r _ [16, 17, 6, 1, 2, 3, 4, 5, 7, 8, 18, 19, 20, 21, 22, 23, 24, 25, 26, 27, 28, 29, 30, 31, 32, 33] (by decide +kernel) (by decide +kernel)
set_option maxRecDepth 20000 in
theorem gX7_wordOfS_X7_wants : GoodIn wsX7_wordOfS (wsV RX7 142 RX7 yX7_wants wsX7_wants) := goodIn_app (goodIn_of _ (by decide +kernel)) ggX7_wordOfS_X7_wants
set_option maxRecDepth 20000 in
theorem ggX7_readsPart_X7_word : GoodIn wsX7_readsPart wsX7_word := goodIn_r _ [9, 4, 3, 10, 11, 12, 8, 13, 14, 15, 16, 17, 18, 19, 20, 21, 22, 23, 24, 25, 26, 27, 39, 40, 41, 42, 43, 44, 45, 46, 47, 48, 49, 50, 51, 52, 53, 54] (by decide +kernel) (by decide +kernel)
set_option maxRecDepth 20000 in
theorem gX7_readsPart_X7_word : GoodIn wsX7_readsPart (wsV RX7 156 RX7 yX7_word wsX7_word) := goodIn_app (goodIn_of _ (by decide +kernel)) ggX7_readsPart_X7_word
set_option maxRecDepth 20000 in
theorem ggX7_readsPart_X7_letter : GoodIn wsX7_readsPart wsX7_letter := goodIn_r _ [31, 4, 3, 10, 11, 12, 8, 13, 14, 15, 32, 33, 34, 39, 40, 41, 42, 43, 44, 45, 46, 47, 48, 49, 50, 51, 52, 53, 54] (by decide +kernel) (by decide +kernel)
set_option maxRecDepth 20000 in
theorem gX7_readsPart_X7_letter : GoodIn wsX7_readsPart (wsV RX7 159 RX7 yX7_letter wsX7_letter) := goodIn_app (goodIn_of _ (by decide +kernel)) ggX7_readsPart_X7_letter
set_option maxRecDepth 20000 in
theorem ggX7_readsPart_X7_sign : GoodIn wsX7_readsPart wsX7_sign := goodIn_r _ [13, 3, 14, 15, 39, 40, 41, 42, 43, 44, 45, 46, 47, 48, 49, 50, 51, 52, 53, 54] (by decide +kernel) (by decide +kernel)
set_option maxRecDepth 20000 in
theorem gX7_readsPart_X7_sign : GoodIn wsX7_readsPart (wsV RX7 139 RX7 yX7_sign wsX7_sign) := goodIn_app (goodIn_of _ (by decide +kernel)) ggX7_readsPart_X7_sign
set_option maxRecDepth 20000 in
theorem ggX7_readsPart_X7_in : GoodIn wsX7_readsPart wsX7_in := goodIn_r _ [34] (by decide +kernel) (by decide +kernel)
set_option maxRecDepth 20000 in
theorem gX7_readsPart_X7_in : GoodIn wsX7_readsPart (va_wsS RX7 36 yX7_in wsX7_in) := goodIn_app (goodIn_of _ (by decide +kernel)) ggX7_readsPart_X7_in
set_option maxRecDepth 20000 in
theorem ggX7_readsPart_X7_number : GoodIn wsX7_readsPart wsX7_number := goodIn_r _ [38, 4, 3, 10, 11, 12, 8, 13, 14, 15, 32, 33, 34, 39, 40, 41, 42, 43, 44, 45, 46, 47, 48, 49, 50, 51, 52, 53, 54] (by decide +kernel) (by decide +kernel)
set_option maxRecDepth 20000 in
theorem gX7_readsPart_X7_number : GoodIn wsX7_readsPart (wsV RX7 162 RX7 yX7_number wsX7_number) := goodIn_app (goodIn_of _ (by decide +kernel)) ggX7_readsPart_X7_number
set_option maxRecDepth 20000 in
theorem ggX7_reads_X7_readsPart : GoodIn wsX7_reads wsX7_readsPart := goodIn_r _ [9, 2, 10, 1, 3, 11, 12, 13, 8, 14, 15, 16, 17, 18, 4, 19, 20, 21, 22, 23, 24, 25, 26, 27, 28, 29, 30, 31, 32, 33, 34, 35, 36, 37, 38, 39, 40, 41, 42, 43, 44, 45, 46, 47, 48, 49, 50, 51, 52, 53, 54, 55, 56, 57, 58] (by decide +kernel) (by decide +kernel)
set_option maxRecDepth 20000 in
theorem gX7_reads_X7_readsPart : GoodIn wsX7_reads (wsV RX7 165 RX7 yX7_readsPart wsX7_readsPart) := goodIn_app (goodIn_of _ (by decide +kernel)) ggX7_reads_X7_readsPart
set_option maxRecDepth 20000 in
theorem ggX7_reads_X7_wants : GoodIn wsX7_reads wsX7_wants := goodIn_r _ [31, 3, 1, 15, 16, 17, 8, 18, 4, 19, 43, 44, 45, 46, 47, 48, 49, 50, 51, 52, 53, 54, 55, 56, 57, 58] (by decide +kernel) (by decide +kernel)
set_option maxRecDepth 20000 in
theorem gX7_reads_X7_wants : GoodIn wsX7_reads (wsV RX7 142 RX7 yX7_wants wsX7_wants) := goodIn_app (goodIn_of _ (by decide +kernel)) ggX7_reads_X7_wants
set_option maxRecDepth 20000 in
theorem ggX7_firstError_X7_reads : GoodIn wsX7_firstError wsX7_reads := goodIn_r _ [8, 3, 9, 10, 2, 11, 12, 13, 7, 14, 15, 16, 17, 18, 19, 20, 21, 22, 23, 24, 25, 26, 27, 28, 29, 30, 31, 32, 33, 34, 35, 36, 37, 38, 39, 40, 41, 42, 43, 44, 45, 46, 47, 48, 49, 50, 51, 52, 53, 54, 55, 56, 57, 58, 59, 60, 61, 62, 63] (by decide +kernel) (by decide +kernel)
set_option maxRecDepth 20000 in
theorem gX7_firstError_X7_reads : GoodIn wsX7_firstError (wsV RX7 168 RX7 yX7_reads wsX7_reads) := goodIn_app (goodIn_of _ (by decide +kernel)) ggX7_firstError_X7_reads
set_option maxRecDepth 20000 in
theorem ggX7_setsAll_X7_refusesLetter : GoodIn wsX7_setsAll wsX7_refusesLetter := goodIn_r _ [6, 7, 8, 9, 10, 5, 11, 12, 13, 14, 15, 16, 17, 18, 19, 20, 21, 22, 23, 24, 25, 26, 51, 52, 53, 54, 55, 56, 57, 58, 59, 60, 61, 62, 63, 64, 65, 66] (by decide +kernel) (by decide +kernel)
set_option maxRecDepth 20000 in
theorem gX7_setsAll_X7_refusesLetter : GoodIn wsX7_setsAll (wsV RX7 87 RX7 yX7_refusesLetter wsX7_refusesLetter) := goodIn_app (goodIn_of _ (by decide +kernel)) ggX7_setsAll_X7_refusesLetter
set_option maxRecDepth 20000 in
theorem ggX7_setsAll_X7_sets : GoodIn wsX7_setsAll wsX7_sets := goodIn_r _ [30, 7, 31, 32, 33, 5, 34, 12, 13, 14, 15, 35, 36, 37, 38, 16, 17, 18, 19, 39, 40, 41, 42, 43, 44, 45, 46, 8, 9, 10, 11, 47, 48, 49, 50, 51, 52, 53, 54, 55, 56, 57, 58, 59, 60, 61, 62, 63, 64, 65, 66] (by decide +kernel) (by decide +kernel)
set_option maxRecDepth 20000 in
theorem gX7_setsAll_X7_sets : GoodIn wsX7_setsAll (wsV RX7 93 RX7 yX7_sets wsX7_sets) := goodIn_app (goodIn_of _ (by decide +kernel)) ggX7_setsAll_X7_sets
set_option maxRecDepth 20000 in
theorem ggX7_fixesIf_X7_isPlace : GoodIn wsX7_fixesIf wsX7_isPlace := goodIn_r _ [5, 6, 7, 8, 4, 9, 50, 51, 52, 53, 54, 55, 56, 57, 58, 59, 60, 61, 62, 63, 64, 65] (by decide +kernel) (by decide +kernel)
set_option maxRecDepth 20000 in
theorem gX7_fixesIf_X7_isPlace : GoodIn wsX7_fixesIf (wsV RX7 108 RX7 yX7_isPlace wsX7_isPlace) := goodIn_app (goodIn_of _ (by decide +kernel)) ggX7_fixesIf_X7_isPlace
set_option maxRecDepth 20000 in
theorem ggX7_fixesIf_X7_refusesFix : GoodIn wsX7_fixesIf wsX7_refusesFix := goodIn_r _ [13, 6, 14, 15, 16, 4, 17, 18, 19, 20, 21, 22, 23, 24, 25, 26, 27, 28, 29, 30, 31, 32, 33, 50, 51, 52, 53, 54, 55, 56, 57, 58, 59, 60, 61, 62, 63, 64, 65] (by decide +kernel) (by decide +kernel)
set_option maxRecDepth 20000 in
theorem gX7_fixesIf_X7_refusesFix : GoodIn wsX7_fixesIf (wsV RX7 111 RX7 yX7_refusesFix wsX7_refusesFix) := goodIn_app (goodIn_of _ (by decide +kernel)) ggX7_fixesIf_X7_refusesFix
set_option maxRecDepth 20000 in
theorem ggX7_fixesIf_X7_fixes : GoodIn wsX7_fixesIf wsX7_fixes := goodIn_r _ [37, 6, 30, 31, 32, 4, 33, 38, 39, 40, 41, 22, 23, 24, 25, 18, 19, 20, 21, 26, 27, 28, 29, 42, 43, 44, 45, 46, 47, 48, 49, 14, 15, 16, 17, 50, 51, 52, 53, 54, 55, 56, 57, 58, 59, 60, 61, 62, 63, 64, 65] (by decide +kernel) (by decide +kernel)
set_option maxRecDepth 20000 in
theorem gX7_fixesIf_X7_fixes : GoodIn wsX7_fixesIf (wsV RX7 114 RX7 yX7_fixes wsX7_fixes) := goodIn_app (goodIn_of _ (by decide +kernel)) ggX7_fixesIf_X7_fixes
set_option maxRecDepth 20000 in
theorem ggX7_returnsIf_X7_canReturn : GoodIn wsX7_returnsIf wsX7_canReturn := goodIn_r _ [5, 6, 7, 8, 9, 4, 10, 11, 12, 13, 14, 35, 36, 37, 38, 39, 40, 41, 42, 43, 44, 45, 46, 47, 48, 49, 50] (by decide +kernel) (by decide +kernel)
set_option maxRecDepth 20000 in
theorem gX7_returnsIf_X7_canReturn : GoodIn wsX7_returnsIf (wsV RX7 120 RX7 yX7_canReturn wsX7_canReturn) := goodIn_app (goodIn_of _ (by decide +kernel)) ggX7_returnsIf_X7_canReturn
set_option maxRecDepth 20000 in
theorem ggX7_returnsIf_X7_returns : GoodIn wsX7_returnsIf wsX7_returns := goodIn_r _ [18, 6, 11, 12, 13, 4, 14, 19, 20, 21, 22, 7, 8, 9, 10, 23, 24, 25, 26, 27, 28, 29, 30, 31, 32, 33, 34, 35, 36, 37, 38, 39, 40, 41, 42, 43, 44, 45, 46, 47, 48, 49, 50] (by decide +kernel) (by decide +kernel)
set_option maxRecDepth 20000 in
theorem gX7_returnsIf_X7_returns : GoodIn wsX7_returnsIf (wsV RX7 123 RX7 yX7_returns wsX7_returns) := goodIn_app (goodIn_of _ (by decide +kernel)) ggX7_returnsIf_X7_returns
set_option maxRecDepth 20000 in
theorem ggX7_does_X7_setsAll : GoodIn wsX7_does wsX7_setsAll := goodIn_r _ [6, 7, 8, 9, 10, 5, 11, 12, 13, 14, 15, 16, 17, 18, 19, 20, 21, 22, 23, 24, 25, 26, 27, 28, 29, 30, 31, 32, 33, 34, 35, 36, 37, 38, 39, 40, 41, 42, 43, 44, 45, 46, 47, 48, 49, 50, 51, 52, 53, 54, 55, 119, 120, 121, 122, 123, 124, 125, 126, 127, 128, 129, 130, 131, 132, 133, 134] (by decide +kernel) (by decide +kernel)
set_option maxRecDepth 20000 in
theorem gX7_does_X7_setsAll : GoodIn wsX7_does (wsV RX7 171 RX7 yX7_setsAll wsX7_setsAll) := goodIn_app (goodIn_of _ (by decide +kernel)) ggX7_does_X7_setsAll
set_option maxRecDepth 20000 in
theorem ggX7_does_X7_fixesIf : GoodIn wsX7_does wsX7_fixesIf := goodIn_r _ [59, 60, 61, 62, 5, 63, 12, 64, 65, 66, 67, 68, 69, 70, 71, 72, 73, 74, 75, 76, 77, 78, 17, 18, 19, 20, 21, 22, 23, 24, 79, 80, 81, 82, 83, 84, 85, 86, 52, 53, 54, 55, 40, 41, 42, 43, 87, 88, 89, 90, 119, 120, 121, 122, 123, 124, 125, 126, 127, 128, 129, 130, 131, 132, 133, 134] (by decide +kernel) (by decide +kernel)
set_option maxRecDepth 20000 in
theorem gX7_does_X7_fixesIf : GoodIn wsX7_does (wsV RX7 174 RX7 yX7_fixesIf wsX7_fixesIf) := goodIn_app (goodIn_of _ (by decide +kernel)) ggX7_does_X7_fixesIf
set_option maxRecDepth 20000 in
theorem ggX7_does_X7_returnsIf : GoodIn wsX7_does wsX7_returnsIf := goodIn_r _ [94, 95, 96, 97, 5, 98, 12, 17, 18, 19, 20, 79, 80, 81, 82, 99, 100, 101, 102, 52, 53, 54, 55, 103, 104, 105, 106, 107, 108, 109, 110, 21, 22, 23, 24, 119, 120, 121, 122, 123, 124, 125, 126, 127, 128, 129, 130, 131, 132, 133, 134] (by decide +kernel) (by decide +kernel)
set_option maxRecDepth 20000 in
theorem gX7_does_X7_returnsIf : GoodIn wsX7_does (wsV RX7 177 RX7 yX7_returnsIf wsX7_returnsIf) := goodIn_app (goodIn_of _ (by decide +kernel)) ggX7_does_X7_returnsIf
set_option maxRecDepth 20000 in
theorem ggX7_does_X7_idles : GoodIn wsX7_does wsX7_idles := goodIn_r _ [114, 12, 44, 45, 46, 5, 47, 48, 49, 50, 51, 13, 14, 15, 16, 17, 18, 19, 20, 21, 22, 23, 24, 36, 37, 38, 39, 40, 41, 42, 43, 52, 53, 54, 55, 119, 120, 121, 122, 123, 124, 125, 126, 127, 128, 129, 130, 131, 132, 133, 134] (by decide +kernel) (by decide +kernel)
set_option maxRecDepth 20000 in
theorem gX7_does_X7_idles : GoodIn wsX7_does (wsV RX7 96 RX7 yX7_idles wsX7_idles) := goodIn_app (goodIn_of _ (by decide +kernel)) ggX7_does_X7_idles
set_option maxRecDepth 20000 in
theorem ggX7_does_X7_swaps : GoodIn wsX7_does wsX7_swaps := goodIn_r _ [118, 12, 17, 18, 19, 5, 20, 36, 37, 38, 39, 40, 41, 42, 43, 21, 22, 23, 24, 52, 53, 54, 55, 103, 104, 105, 106, 107, 108, 109, 110, 119, 120, 121, 122, 123, 124, 125, 126, 127, 128, 129, 130, 131, 132, 133, 134] (by decide +kernel) (by decide +kernel)
set_option maxRecDepth 20000 in
theorem gX7_does_X7_swaps : GoodIn wsX7_does (wsV RX7 126 RX7 yX7_swaps wsX7_swaps) := goodIn_app (goodIn_of _ (by decide +kernel)) ggX7_does_X7_swaps
set_option maxRecDepth 20000 in
theorem ggX7_work_X7_reads : GoodIn wsX7_work wsX7_reads := goodIn_r _ [9, 10, 2, 11, 4, 12, 13, 14, 8, 15, 16, 17, 18, 19, 20, 21, 22, 23, 24, 25, 26, 27, 28, 29, 30, 31, 32, 33, 34, 35, 36, 37, 38, 39, 40, 41, 42, 43, 44, 45, 46, 47, 48, 174, 175, 176, 177, 178, 179, 180, 181, 182, 183, 184, 185, 186, 187, 188, 189] (by decide +kernel) (by decide +kernel)
set_option maxRecDepth 20000 in
theorem gX7_work_X7_reads : GoodIn wsX7_work (wsV RX7 168 RX7 yX7_reads wsX7_reads) := goodIn_app (goodIn_of _ (by decide +kernel)) ggX7_work_X7_reads
set_option maxRecDepth 20000 in
theorem ggX7_work_X7_fails : GoodIn wsX7_work wsX7_fails := goodIn_r _ [52, 1, 174, 175, 176, 177, 178, 179, 180, 181, 182, 183, 184, 185, 186, 187, 188, 189] (by decide +kernel) (by decide +kernel)
set_option maxRecDepth 20000 in
theorem gX7_work_X7_fails : GoodIn wsX7_work (wsV RX7 84 RX7 yX7_fails wsX7_fails) := goodIn_app (goodIn_of _ (by decide +kernel)) ggX7_work_X7_fails
set_option maxRecDepth 20000 in
theorem ggX7_work_X7_saves : GoodIn wsX7_work wsX7_saves := goodIn_r _ [56, 57, 58, 3, 174, 175, 176, 177, 178, 179, 180, 181, 182, 183, 184, 185, 186, 187, 188, 189] (by decide +kernel) (by decide +kernel)
set_option maxRecDepth 20000 in
theorem gX7_work_X7_saves : GoodIn wsX7_work (wsV RX7 90 RX7 yX7_saves wsX7_saves) := goodIn_app (goodIn_of _ (by decide +kernel)) ggX7_work_X7_saves
set_option maxRecDepth 20000 in
theorem ggX7_work_X7_does : GoodIn wsX7_work wsX7_does := goodIn_r _ [62, 16, 63, 64, 65, 8, 66, 25, 67, 68, 69, 70, 3, 71, 72, 73, 74, 75, 76, 77, 78, 79, 80, 81, 82, 83, 84, 85, 86, 87, 88, 89, 90, 91, 92, 93, 94, 95, 96, 97, 98, 99, 100, 101, 102, 103, 104, 105, 106, 107, 108, 109, 110, 111, 112, 113, 114, 115, 116, 117, 118, 119, 120, 121, 42, 43, 44, 122, 123, 124, 125, 126, 127, 128, 129, 130, 131, 132, 133, 134, 135, 136, 137, 138, 139, 140, 141, 142, 143, 144, 145, 146, 147, 148, 149, 150, 151, 152, 153, 154, 155, 156, 157, 158, 159, 160, 161, 162, 163, 164, 165, 166, 167, 168, 169, 170, 171, 172, 173, 174, 175, 176, 177, 178, 179, 180, 181, 182, 183, 184, 185, 186, 187, 188, 189] (by decide +kernel) (by decide +kernel)
set_option maxRecDepth 20000 in
theorem gX7_work_X7_does : GoodIn wsX7_work (wsV RX7 180 RX7 yX7_does wsX7_does) := goodIn_app (goodIn_of _ (by decide +kernel)) ggX7_work_X7_does
set_option maxRecDepth 20000 in
theorem ggX7_stopped_X7_in : GoodIn wsX7_stopped wsX7_in := goodIn_r _ [6] (by decide +kernel) (by decide +kernel)
set_option maxRecDepth 20000 in
theorem gX7_stopped_X7_in : GoodIn wsX7_stopped (va_wsS RX7 36 yX7_in wsX7_in) := goodIn_app (goodIn_of _ (by decide +kernel)) ggX7_stopped_X7_in
set_option maxRecDepth 20000 in
theorem ggX7_stopped_X7_fails : GoodIn wsX7_stopped wsX7_fails := goodIn_r _ [10, 1, 11, 12, 13, 14, 15, 16, 17, 18, 19, 20, 21, 22, 23, 24, 25, 26] (by decide +kernel) (by decide +kernel)
set_option maxRecDepth 20000 in
theorem gX7_stopped_X7_fails : GoodIn wsX7_stopped (wsV RX7 84 RX7 yX7_fails wsX7_fails) := goodIn_app (goodIn_of _ (by decide +kernel)) ggX7_stopped_X7_fails
set_option maxRecDepth 20000 in
theorem ggX7_character_X7_isError : GoodIn wsX7_character wsX7_isError := goodIn_r _ [6, 1, 7, 8, 9, 10, 11, 12, 13, 14, 15, 16, 17, 18, 19, 20, 21, 22] (by decide +kernel) (by decide +kernel)
set_option maxRecDepth 20000 in
theorem gX7_character_X7_isError : GoodIn wsX7_character (wsV RX7 57 RX7 yX7_isError wsX7_isError) := goodIn_app (goodIn_of _ (by decide +kernel)) ggX7_character_X7_isError
set_option maxRecDepth 20000 in
theorem ggX7_told_X7_fails : GoodIn wsX7_told wsX7_fails := goodIn_r _ [6, 1, 16, 17, 18, 19, 20, 21, 22, 23, 24, 25, 26, 27, 28, 29, 30, 31] (by decide +kernel) (by decide +kernel)
set_option maxRecDepth 20000 in
theorem gX7_told_X7_fails : GoodIn wsX7_told (wsV RX7 84 RX7 yX7_fails wsX7_fails) := goodIn_app (goodIn_of _ (by decide +kernel)) ggX7_told_X7_fails
set_option maxRecDepth 20000 in
theorem ggX7_told_X7_character : GoodIn wsX7_told wsX7_character := goodIn_r _ [10, 11, 12, 13, 14, 5, 15, 16, 17, 18, 19, 20, 21, 22, 23, 24, 25, 26, 27, 28, 29, 30, 31] (by decide +kernel) (by decide +kernel)
set_option maxRecDepth 20000 in
theorem gX7_told_X7_character : GoodIn wsX7_told (wsV RX7 183 RX7 yX7_character wsX7_character) := goodIn_app (goodIn_of _ (by decide +kernel)) ggX7_told_X7_character
set_option maxRecDepth 20000 in
theorem ggX7_undo_X7_fails : GoodIn wsX7_undo wsX7_fails := goodIn_r _ [9, 1, 10, 11, 12, 13, 14, 15, 16, 17, 18, 19, 20, 21, 22, 23, 24, 25] (by decide +kernel) (by decide +kernel)
set_option maxRecDepth 20000 in
theorem gX7_undo_X7_fails : GoodIn wsX7_undo (wsV RX7 84 RX7 yX7_fails wsX7_fails) := goodIn_app (goodIn_of _ (by decide +kernel)) ggX7_undo_X7_fails
set_option maxRecDepth 20000 in
theorem ggX7_restore_X7_fails : GoodIn wsX7_restore wsX7_fails := goodIn_r _ [9, 1, 16, 17, 18, 19, 20, 21, 22, 23, 24, 25, 26, 27, 28, 29, 30, 31] (by decide +kernel) (by decide +kernel)
set_option maxRecDepth 20000 in
theorem gX7_restore_X7_fails : GoodIn wsX7_restore (wsV RX7 84 RX7 yX7_fails wsX7_fails) := goodIn_app (goodIn_of _ (by decide +kernel)) ggX7_restore_X7_fails
set_option maxRecDepth 20000 in
theorem ggX7_restore_X7_saves : GoodIn wsX7_restore wsX7_saves := goodIn_r _ [13, 14, 15, 3, 16, 17, 18, 19, 20, 21, 22, 23, 24, 25, 26, 27, 28, 29, 30, 31] (by decide +kernel) (by decide +kernel)
set_option maxRecDepth 20000 in
theorem gX7_restore_X7_saves : GoodIn wsX7_restore (wsV RX7 90 RX7 yX7_saves wsX7_saves) := goodIn_app (goodIn_of _ (by decide +kernel)) ggX7_restore_X7_saves
set_option maxRecDepth 20000 in
theorem ggX7_tellsBox_X7_many : GoodIn wsX7_tellsBox wsX7_many := goodIn_r _ [6, 1, 26, 27, 28, 29, 30, 31, 32, 33, 34, 35, 36, 37, 38, 39, 40, 41] (by decide +kernel) (by decide +kernel)
set_option maxRecDepth 20000 in
theorem gX7_tellsBox_X7_many : GoodIn wsX7_tellsBox (wsV RX7 40 RX7 yX7_many wsX7_many) := goodIn_app (goodIn_of _ (by decide +kernel)) ggX7_tellsBox_X7_many
set_option maxRecDepth 20000 in
theorem ggX7_tellsBox_X7_wrongIn : GoodIn wsX7_tellsBox wsX7_wrongIn := goodIn_r _ [10, 2, 3, 4, 5, 6, 1, 11, 12, 13, 14, 26, 27, 28, 29, 30, 31, 32, 33, 34, 35, 36, 37, 38, 39, 40, 41] (by decide +kernel) (by decide +kernel)
set_option maxRecDepth 20000 in
theorem gX7_tellsBox_X7_wrongIn : GoodIn wsX7_tellsBox (wsV RX7 61 RX7 yX7_wrongIn wsX7_wrongIn) := goodIn_app (goodIn_of _ (by decide +kernel)) ggX7_tellsBox_X7_wrongIn
set_option maxRecDepth 20000 in
theorem ggX7_tellsBox_X7_upmost : GoodIn wsX7_tellsBox wsX7_upmost := goodIn_r _ [18, 2, 3, 4, 5, 6, 1, 11, 12, 13, 14, 26, 27, 28, 29, 30, 31, 32, 33, 34, 35, 36, 37, 38, 39, 40, 41] (by decide +kernel) (by decide +kernel)
set_option maxRecDepth 20000 in
theorem gX7_tellsBox_X7_upmost : GoodIn wsX7_tellsBox (wsV RX7 64 RX7 yX7_upmost wsX7_upmost) := goodIn_app (goodIn_of _ (by decide +kernel)) ggX7_tellsBox_X7_upmost
set_option maxRecDepth 20000 in
theorem ggX7_tellsBox_X7_widthOf : GoodIn wsX7_tellsBox wsX7_widthOf := goodIn_r _ [21] (by decide +kernel) (by decide +kernel)
set_option maxRecDepth 20000 in
theorem gX7_tellsBox_X7_widthOf : GoodIn wsX7_tellsBox (va_wsS RX7 54 yX7_widthOf wsX7_widthOf) := goodIn_app (goodIn_of _ (by decide +kernel)) ggX7_tellsBox_X7_widthOf
set_option maxRecDepth 20000 in
theorem ggX7_tellsBox_X7_elsewhere : GoodIn wsX7_tellsBox wsX7_elsewhere := goodIn_r _ [25, 2, 3, 4, 5, 6, 1, 11, 12, 13, 14, 26, 27, 28, 29, 30, 31, 32, 33, 34, 35, 36, 37, 38, 39, 40, 41] (by decide +kernel) (by decide +kernel)
set_option maxRecDepth 20000 in
theorem gX7_tellsBox_X7_elsewhere : GoodIn wsX7_tellsBox (wsV RX7 189 RX7 yX7_elsewhere wsX7_elsewhere) := goodIn_app (goodIn_of _ (by decide +kernel)) ggX7_tellsBox_X7_elsewhere
set_option maxRecDepth 20000 in
theorem ggX7_box_X7_isBox : GoodIn wsX7_box wsX7_isBox := goodIn_r _ [5, 6, 7, 4, 8] (by decide +kernel) (by decide +kernel)
set_option maxRecDepth 20000 in
theorem gX7_box_X7_isBox : GoodIn wsX7_box (va_wsS RX7 81 yX7_isBox wsX7_isBox) := goodIn_app (goodIn_of _ (by decide +kernel)) ggX7_box_X7_isBox
set_option maxRecDepth 20000 in
theorem ggX7_box_X7_fails : GoodIn wsX7_box wsX7_fails := goodIn_r _ [12, 1, 41, 42, 43, 44, 45, 46, 47, 48, 49, 50, 51, 52, 53, 54, 55, 56] (by decide +kernel) (by decide +kernel)
set_option maxRecDepth 20000 in
theorem gX7_box_X7_fails : GoodIn wsX7_box (wsV RX7 84 RX7 yX7_fails wsX7_fails) := goodIn_app (goodIn_of _ (by decide +kernel)) ggX7_box_X7_fails
set_option maxRecDepth 20000 in
theorem ggX7_box_X7_in : GoodIn wsX7_box wsX7_in := goodIn_r _ [8] (by decide +kernel) (by decide +kernel)
set_option maxRecDepth 20000 in
theorem gX7_box_X7_in : GoodIn wsX7_box (va_wsS RX7 36 yX7_in wsX7_in) := goodIn_app (goodIn_of _ (by decide +kernel)) ggX7_box_X7_in
set_option maxRecDepth 20000 in
theorem ggX7_box_X7_tellsBox : GoodIn wsX7_box wsX7_tellsBox := goodIn_r _ [16, 17, 18, 19, 20, 4, 21, 22, 23, 24, 25, 26, 27, 28, 29, 30, 31, 32, 33, 34, 35, 36, 37, 38, 39, 40, 41, 42, 43, 44, 45, 46, 47, 48, 49, 50, 51, 52, 53, 54, 55, 56] (by decide +kernel) (by decide +kernel)
set_option maxRecDepth 20000 in
theorem gX7_box_X7_tellsBox : GoodIn wsX7_box (wsV RX7 192 RX7 yX7_tellsBox wsX7_tellsBox) := goodIn_app (goodIn_of _ (by decide +kernel)) ggX7_box_X7_tellsBox
set_option maxRecDepth 20000 in
theorem ggX7_type_X7_isBox : GoodIn wsX7_type wsX7_isBox := goodIn_r _ [5, 6, 7, 4, 8] (by decide +kernel) (by decide +kernel)
set_option maxRecDepth 20000 in
theorem gX7_type_X7_isBox : GoodIn wsX7_type (va_wsS RX7 81 yX7_isBox wsX7_isBox) := goodIn_app (goodIn_of _ (by decide +kernel)) ggX7_type_X7_isBox
set_option maxRecDepth 20000 in
theorem ggX7_type_X7_fails : GoodIn wsX7_type wsX7_fails := goodIn_r _ [12, 1, 22, 23, 24, 25, 26, 27, 28, 29, 30, 31, 32, 33, 34, 35, 36, 37] (by decide +kernel) (by decide +kernel)
set_option maxRecDepth 20000 in
theorem gX7_type_X7_fails : GoodIn wsX7_type (wsV RX7 84 RX7 yX7_fails wsX7_fails) := goodIn_app (goodIn_of _ (by decide +kernel)) ggX7_type_X7_fails
set_option maxRecDepth 20000 in
theorem ggX7_type_X7_many : GoodIn wsX7_type wsX7_many := goodIn_r _ [16, 17, 22, 23, 24, 25, 26, 27, 28, 29, 30, 31, 32, 33, 34, 35, 36, 37] (by decide +kernel) (by decide +kernel)
set_option maxRecDepth 20000 in
theorem gX7_type_X7_many : GoodIn wsX7_type (wsV RX7 40 RX7 yX7_many wsX7_many) := goodIn_app (goodIn_of _ (by decide +kernel)) ggX7_type_X7_many
set_option maxRecDepth 20000 in
theorem ggX7_type_X7_typeAt : GoodIn wsX7_type wsX7_typeAt := goodIn_r _ [21, 17, 22, 23, 24, 25, 26, 27, 28, 29, 30, 31, 32, 33, 34, 35, 36, 37] (by decide +kernel) (by decide +kernel)
set_option maxRecDepth 20000 in
theorem gX7_type_X7_typeAt : GoodIn wsX7_type (wsV RX7 44 RX7 yX7_typeAt wsX7_typeAt) := goodIn_app (goodIn_of _ (by decide +kernel)) ggX7_type_X7_typeAt
set_option maxRecDepth 20000 in
theorem ggX7_tellsPlace_X7_isError : GoodIn wsX7_tellsPlace wsX7_isError := goodIn_r _ [6, 1, 27, 28, 29, 30, 31, 32, 33, 34, 35, 36, 37, 38, 39, 40, 41, 42] (by decide +kernel) (by decide +kernel)
set_option maxRecDepth 20000 in
theorem gX7_tellsPlace_X7_isError : GoodIn wsX7_tellsPlace (wsV RX7 57 RX7 yX7_isError wsX7_isError) := goodIn_app (goodIn_of _ (by decide +kernel)) ggX7_tellsPlace_X7_isError
set_option maxRecDepth 20000 in
theorem ggX7_tellsPlace_X7_refusesFix : GoodIn wsX7_tellsPlace wsX7_refusesFix := goodIn_r _ [10, 1, 2, 3, 4, 5, 6, 11, 12, 13, 14, 15, 16, 17, 18, 19, 20, 21, 22, 23, 24, 25, 26, 27, 28, 29, 30, 31, 32, 33, 34, 35, 36, 37, 38, 39, 40, 41, 42] (by decide +kernel) (by decide +kernel)
set_option maxRecDepth 20000 in
theorem gX7_tellsPlace_X7_refusesFix : GoodIn wsX7_tellsPlace (wsV RX7 111 RX7 yX7_refusesFix wsX7_refusesFix) := goodIn_app (goodIn_of _ (by decide +kernel)) ggX7_tellsPlace_X7_refusesFix
set_option maxRecDepth 20000 in
theorem ggX7_line_X7_isPlace : GoodIn wsX7_line wsX7_isPlace := goodIn_r _ [6, 7, 8, 9, 5, 10, 43, 44, 45, 46, 47, 48, 49, 50, 51, 52, 53, 54, 55, 56, 57, 58] (by decide +kernel) (by decide +kernel)
set_option maxRecDepth 20000 in
theorem gX7_line_X7_isPlace : GoodIn wsX7_line (wsV RX7 108 RX7 yX7_isPlace wsX7_isPlace) := goodIn_app (goodIn_of _ (by decide +kernel)) ggX7_line_X7_isPlace
set_option maxRecDepth 20000 in
theorem ggX7_line_X7_fails : GoodIn wsX7_line wsX7_fails := goodIn_r _ [14, 1, 43, 44, 45, 46, 47, 48, 49, 50, 51, 52, 53, 54, 55, 56, 57, 58] (by decide +kernel) (by decide +kernel)
set_option maxRecDepth 20000 in
theorem gX7_line_X7_fails : GoodIn wsX7_line (wsV RX7 84 RX7 yX7_fails wsX7_fails) := goodIn_app (goodIn_of _ (by decide +kernel)) ggX7_line_X7_fails
set_option maxRecDepth 20000 in
theorem ggX7_line_X7_in : GoodIn wsX7_line wsX7_in := goodIn_r _ [10] (by decide +kernel) (by decide +kernel)
set_option maxRecDepth 20000 in
theorem gX7_line_X7_in : GoodIn wsX7_line (va_wsS RX7 36 yX7_in wsX7_in) := goodIn_app (goodIn_of _ (by decide +kernel)) ggX7_line_X7_in
set_option maxRecDepth 20000 in
theorem ggX7_line_X7_tellsPlace : GoodIn wsX7_line wsX7_tellsPlace := goodIn_r _ [18, 7, 19, 20, 21, 5, 22, 23, 24, 25, 26, 27, 28, 29, 30, 31, 32, 33, 34, 35, 36, 37, 38, 39, 40, 41, 42, 43, 44, 45, 46, 47, 48, 49, 50, 51, 52, 53, 54, 55, 56, 57, 58] (by decide +kernel) (by decide +kernel)
set_option maxRecDepth 20000 in
theorem gX7_line_X7_tellsPlace : GoodIn wsX7_line (wsV RX7 195 RX7 yX7_tellsPlace wsX7_tellsPlace) := goodIn_app (goodIn_of _ (by decide +kernel)) ggX7_line_X7_tellsPlace
set_option maxRecDepth 20000 in
theorem ggX7_tellsCount_X7_width : GoodIn wsX7_tellsCount wsX7_width := goodIn_r _ [7, 1, 8, 9, 6, 10, 39, 40, 41, 42, 43, 44, 45, 46, 47, 48, 49, 50, 51, 52, 53, 54] (by decide +kernel) (by decide +kernel)
set_option maxRecDepth 20000 in
theorem gX7_tellsCount_X7_width : GoodIn wsX7_tellsCount (wsV RX7 74 RX7 yX7_width wsX7_width) := goodIn_app (goodIn_of _ (by decide +kernel)) ggX7_tellsCount_X7_width
set_option maxRecDepth 20000 in
theorem ggX7_tellsCount_X7_errors : GoodIn wsX7_tellsCount wsX7_errors := goodIn_r _ [14, 1, 15, 16, 17, 6, 18, 39, 40, 41, 42, 43, 44, 45, 46, 47, 48, 49, 50, 51, 52, 53, 54] (by decide +kernel) (by decide +kernel)
set_option maxRecDepth 20000 in
theorem gX7_tellsCount_X7_errors : GoodIn wsX7_tellsCount (wsV RX7 105 RX7 yX7_errors wsX7_errors) := goodIn_app (goodIn_of _ (by decide +kernel)) ggX7_tellsCount_X7_errors
set_option maxRecDepth 20000 in
theorem ggX7_tellsCount_X7_inBoxes : GoodIn wsX7_tellsCount wsX7_inBoxes := goodIn_r _ [22, 23, 24, 25, 6, 26, 1, 39, 40, 41, 42, 43, 44, 45, 46, 47, 48, 49, 50, 51, 52, 53, 54] (by decide +kernel) (by decide +kernel)
set_option maxRecDepth 20000 in
theorem gX7_tellsCount_X7_inBoxes : GoodIn wsX7_tellsCount (wsV RX7 198 RX7 yX7_inBoxes wsX7_inBoxes) := goodIn_app (goodIn_of _ (by decide +kernel)) ggX7_tellsCount_X7_inBoxes
set_option maxRecDepth 20000 in
theorem ggX7_tellsCount_X7_wrong : GoodIn wsX7_tellsCount wsX7_wrong := goodIn_r _ [30, 31, 32, 33, 6, 34, 23, 24, 25, 26, 1, 35, 36, 37, 38, 39, 40, 41, 42, 43, 44, 45, 46, 47, 48, 49, 50, 51, 52, 53, 54] (by decide +kernel) (by decide +kernel)
set_option maxRecDepth 20000 in
theorem gX7_tellsCount_X7_wrong : GoodIn wsX7_tellsCount (wsV RX7 117 RX7 yX7_wrong wsX7_wrong) := goodIn_app (goodIn_of _ (by decide +kernel)) ggX7_tellsCount_X7_wrong
set_option maxRecDepth 20000 in
theorem ggX7_count_X7_in : GoodIn wsX7_count wsX7_in := goodIn_r _ [5] (by decide +kernel) (by decide +kernel)
set_option maxRecDepth 20000 in
theorem gX7_count_X7_in : GoodIn wsX7_count (va_wsS RX7 36 yX7_in wsX7_in) := goodIn_app (goodIn_of _ (by decide +kernel)) ggX7_count_X7_in
set_option maxRecDepth 20000 in
theorem ggX7_count_X7_tellsCount : GoodIn wsX7_count wsX7_tellsCount := goodIn_r _ [9, 10, 11, 12, 13, 14, 4, 15, 16, 17, 18, 19, 20, 21, 22, 23, 24, 25, 26, 27, 28, 29, 30, 31, 32, 33, 34, 35, 36, 37, 38, 39, 40, 41, 42, 43, 44, 45, 46, 51, 52, 53, 54, 55, 56, 57, 58, 59, 60, 61, 62, 63, 64, 65, 66] (by decide +kernel) (by decide +kernel)
set_option maxRecDepth 20000 in
theorem gX7_count_X7_tellsCount : GoodIn wsX7_count (wsV RX7 201 RX7 yX7_tellsCount wsX7_tellsCount) := goodIn_app (goodIn_of _ (by decide +kernel)) ggX7_count_X7_tellsCount
set_option maxRecDepth 20000 in
theorem ggX7_count_X7_fails : GoodIn wsX7_count wsX7_fails := goodIn_r _ [50, 1, 51, 52, 53, 54, 55, 56, 57, 58, 59, 60, 61, 62, 63, 64, 65, 66] (by decide +kernel) (by decide +kernel)
set_option maxRecDepth 20000 in
theorem gX7_count_X7_fails : GoodIn wsX7_count (wsV RX7 84 RX7 yX7_fails wsX7_fails) := goodIn_app (goodIn_of _ (by decide +kernel)) ggX7_count_X7_fails
set_option maxRecDepth 20000 in
theorem ggX7_whyNot_X7_isBox : GoodIn wsX7_whyNot wsX7_isBox := goodIn_r _ [5, 6, 7, 4, 8] (by decide +kernel) (by decide +kernel)
set_option maxRecDepth 20000 in
theorem gX7_whyNot_X7_isBox : GoodIn wsX7_whyNot (va_wsS RX7 81 yX7_isBox wsX7_isBox) := goodIn_app (goodIn_of _ (by decide +kernel)) ggX7_whyNot_X7_isBox
set_option maxRecDepth 20000 in
theorem ggX7_whyNot_X7_refusesLetter : GoodIn wsX7_whyNot wsX7_refusesLetter := goodIn_r _ [12, 13, 14, 15, 16, 4, 17, 18, 19, 20, 21, 22, 23, 24, 25, 26, 27, 28, 29, 30, 31, 32, 37, 38, 39, 40, 41, 42, 43, 44, 45, 46, 47, 48, 49, 50, 51, 52] (by decide +kernel) (by decide +kernel)
set_option maxRecDepth 20000 in
theorem gX7_whyNot_X7_refusesLetter : GoodIn wsX7_whyNot (wsV RX7 87 RX7 yX7_refusesLetter wsX7_refusesLetter) := goodIn_app (goodIn_of _ (by decide +kernel)) ggX7_whyNot_X7_refusesLetter
set_option maxRecDepth 20000 in
theorem ggX7_whyNot_X7_fails : GoodIn wsX7_whyNot wsX7_fails := goodIn_r _ [36, 1, 37, 38, 39, 40, 41, 42, 43, 44, 45, 46, 47, 48, 49, 50, 51, 52] (by decide +kernel) (by decide +kernel)
set_option maxRecDepth 20000 in
theorem gX7_whyNot_X7_fails : GoodIn wsX7_whyNot (wsV RX7 84 RX7 yX7_fails wsX7_fails) := goodIn_app (goodIn_of _ (by decide +kernel)) ggX7_whyNot_X7_fails
set_option maxRecDepth 20000 in
theorem ggX7_wouldSet_X7_putAside : GoodIn wsX7_wouldSet wsX7_putAside := goodIn_r _ [5, 6, 7, 67, 68, 69, 70, 71, 72, 73, 74, 75, 76, 77, 78, 79, 80, 81, 82] (by decide +kernel) (by decide +kernel)
set_option maxRecDepth 20000 in
theorem gX7_wouldSet_X7_putAside : GoodIn wsX7_wouldSet (wsV RX7 204 RX7 yX7_putAside wsX7_putAside) := goodIn_app (goodIn_of _ (by decide +kernel)) ggX7_wouldSet_X7_putAside
set_option maxRecDepth 20000 in
theorem ggX7_wouldSet_X7_errors : GoodIn wsX7_wouldSet wsX7_errors := goodIn_r _ [11, 7, 12, 13, 14, 4, 15, 67, 68, 69, 70, 71, 72, 73, 74, 75, 76, 77, 78, 79, 80, 81, 82] (by decide +kernel) (by decide +kernel)
set_option maxRecDepth 20000 in
theorem gX7_wouldSet_X7_errors : GoodIn wsX7_wouldSet (wsV RX7 105 RX7 yX7_errors wsX7_errors) := goodIn_app (goodIn_of _ (by decide +kernel)) ggX7_wouldSet_X7_errors
set_option maxRecDepth 20000 in
theorem ggX7_wouldSet_X7_refusesLetter : GoodIn wsX7_wouldSet wsX7_refusesLetter := goodIn_r _ [19, 7, 20, 21, 22, 4, 23, 24, 25, 26, 27, 28, 29, 30, 31, 32, 33, 34, 35, 36, 37, 38, 67, 68, 69, 70, 71, 72, 73, 74, 75, 76, 77, 78, 79, 80, 81, 82] (by decide +kernel) (by decide +kernel)
set_option maxRecDepth 20000 in
theorem gX7_wouldSet_X7_refusesLetter : GoodIn wsX7_wouldSet (wsV RX7 87 RX7 yX7_refusesLetter wsX7_refusesLetter) := goodIn_app (goodIn_of _ (by decide +kernel)) ggX7_wouldSet_X7_refusesLetter
set_option maxRecDepth 20000 in
theorem ggX7_wouldSet_X7_sets : GoodIn wsX7_wouldSet wsX7_sets := goodIn_r _ [42, 7, 43, 44, 45, 4, 46, 24, 25, 26, 27, 47, 48, 49, 50, 28, 29, 30, 31, 51, 52, 53, 54, 55, 56, 57, 58, 20, 21, 22, 23, 59, 60, 61, 62, 67, 68, 69, 70, 71, 72, 73, 74, 75, 76, 77, 78, 79, 80, 81, 82] (by decide +kernel) (by decide +kernel)
set_option maxRecDepth 20000 in
theorem gX7_wouldSet_X7_sets : GoodIn wsX7_wouldSet (wsV RX7 93 RX7 yX7_sets wsX7_sets) := goodIn_app (goodIn_of _ (by decide +kernel)) ggX7_wouldSet_X7_sets
set_option maxRecDepth 20000 in
theorem ggX7_wouldSet_X7_takeBack : GoodIn wsX7_wouldSet wsX7_takeBack := goodIn_r _ [66, 7, 6, 67, 68, 69, 70, 71, 72, 73, 74, 75, 76, 77, 78, 79, 80, 81, 82] (by decide +kernel) (by decide +kernel)
set_option maxRecDepth 20000 in
theorem gX7_wouldSet_X7_takeBack : GoodIn wsX7_wouldSet (wsV RX7 207 RX7 yX7_takeBack wsX7_takeBack) := goodIn_app (goodIn_of _ (by decide +kernel)) ggX7_wouldSet_X7_takeBack
set_option maxRecDepth 20000 in
theorem ggX7_ifSet_X7_isBox : GoodIn wsX7_ifSet wsX7_isBox := goodIn_r _ [5, 6, 7, 4, 8] (by decide +kernel) (by decide +kernel)
set_option maxRecDepth 20000 in
theorem gX7_ifSet_X7_isBox : GoodIn wsX7_ifSet (va_wsS RX7 81 yX7_isBox wsX7_isBox) := goodIn_app (goodIn_of _ (by decide +kernel)) ggX7_ifSet_X7_isBox
set_option maxRecDepth 20000 in
theorem ggX7_ifSet_X7_fails : GoodIn wsX7_ifSet wsX7_fails := goodIn_r _ [12, 1, 82, 83, 84, 85, 86, 87, 88, 89, 90, 91, 92, 93, 94, 95, 96, 97] (by decide +kernel) (by decide +kernel)
set_option maxRecDepth 20000 in
theorem gX7_ifSet_X7_fails : GoodIn wsX7_ifSet (wsV RX7 84 RX7 yX7_fails wsX7_fails) := goodIn_app (goodIn_of _ (by decide +kernel)) ggX7_ifSet_X7_fails
set_option maxRecDepth 20000 in
theorem ggX7_ifSet_X7_in : GoodIn wsX7_ifSet wsX7_in := goodIn_r _ [8] (by decide +kernel) (by decide +kernel)
set_option maxRecDepth 20000 in
theorem gX7_ifSet_X7_in : GoodIn wsX7_ifSet (va_wsS RX7 36 yX7_in wsX7_in) := goodIn_app (goodIn_of _ (by decide +kernel)) ggX7_ifSet_X7_in
set_option maxRecDepth 20000 in
theorem ggX7_ifSet_X7_wouldSet : GoodIn wsX7_ifSet wsX7_wouldSet := goodIn_r _ [16, 17, 18, 19, 4, 20, 21, 22, 23, 24, 25, 26, 27, 28, 29, 30, 31, 32, 33, 34, 35, 36, 37, 38, 39, 40, 41, 42, 43, 44, 45, 46, 47, 48, 49, 50, 51, 52, 53, 54, 55, 56, 57, 58, 59, 60, 61, 62, 63, 64, 65, 66, 67, 68, 69, 70, 71, 72, 73, 74, 75, 76, 77, 78, 79, 80, 81, 82, 83, 84, 85, 86, 87, 88, 89, 90, 91, 92, 93, 94, 95, 96, 97] (by decide +kernel) (by decide +kernel)
set_option maxRecDepth 20000 in
theorem gX7_ifSet_X7_wouldSet : GoodIn wsX7_ifSet (wsV RX7 210 RX7 yX7_wouldSet wsX7_wouldSet) := goodIn_app (goodIn_of _ (by decide +kernel)) ggX7_ifSet_X7_wouldSet
set_option maxRecDepth 20000 in
theorem ggX7_sortsAll_X7_putAside : GoodIn wsX7_sortsAll wsX7_putAside := goodIn_r _ [8, 9, 1, 50, 51, 52, 53, 54, 55, 56, 57, 58, 59, 60, 61, 62, 63, 64, 65] (by decide +kernel) (by decide +kernel)
set_option maxRecDepth 20000 in
theorem gX7_sortsAll_X7_putAside : GoodIn wsX7_sortsAll (wsV RX7 204 RX7 yX7_putAside wsX7_putAside) := goodIn_app (goodIn_of _ (by decide +kernel)) ggX7_sortsAll_X7_putAside
set_option maxRecDepth 20000 in
theorem ggX7_sortsAll_X7_beatsOnce : GoodIn wsX7_sortsAll wsX7_beatsOnce := goodIn_r _ [13, 1, 14, 15, 16, 7, 17, 18, 19, 20, 21, 22, 23, 24, 25, 26, 27, 28, 29, 30, 31, 32, 33, 34, 35, 36, 37, 50, 51, 52, 53, 54, 55, 56, 57, 58, 59, 60, 61, 62, 63, 64, 65] (by decide +kernel) (by decide +kernel)
set_option maxRecDepth 20000 in
theorem gX7_sortsAll_X7_beatsOnce : GoodIn wsX7_sortsAll (wsV RX7 70 RX7 yX7_beatsOnce wsX7_beatsOnce) := goodIn_app (goodIn_of _ (by decide +kernel)) ggX7_sortsAll_X7_beatsOnce
set_option maxRecDepth 20000 in
theorem ggX7_sortsAll_X7_wrong : GoodIn wsX7_sortsAll wsX7_wrong := goodIn_r _ [41, 42, 43, 44, 7, 45, 18, 19, 20, 21, 1, 22, 23, 24, 25, 50, 51, 52, 53, 54, 55, 56, 57, 58, 59, 60, 61, 62, 63, 64, 65] (by decide +kernel) (by decide +kernel)
set_option maxRecDepth 20000 in
theorem gX7_sortsAll_X7_wrong : GoodIn wsX7_sortsAll (wsV RX7 117 RX7 yX7_wrong wsX7_wrong) := goodIn_app (goodIn_of _ (by decide +kernel)) ggX7_sortsAll_X7_wrong
set_option maxRecDepth 20000 in
theorem ggX7_sortsAll_X7_takeBack : GoodIn wsX7_sortsAll wsX7_takeBack := goodIn_r _ [49, 1, 9, 50, 51, 52, 53, 54, 55, 56, 57, 58, 59, 60, 61, 62, 63, 64, 65] (by decide +kernel) (by decide +kernel)
set_option maxRecDepth 20000 in
theorem gX7_sortsAll_X7_takeBack : GoodIn wsX7_sortsAll (wsV RX7 207 RX7 yX7_takeBack wsX7_takeBack) := goodIn_app (goodIn_of _ (by decide +kernel)) ggX7_sortsAll_X7_takeBack
set_option maxRecDepth 20000 in
theorem ggX7_sortedIn_X7_sortsAll : GoodIn wsX7_sortedIn wsX7_sortsAll := goodIn_r _ [7, 8, 2, 9, 10, 11, 12, 6, 13, 14, 15, 16, 17, 18, 19, 20, 21, 22, 23, 24, 25, 26, 27, 28, 29, 30, 31, 32, 33, 34, 35, 36, 37, 38, 39, 40, 41, 42, 43, 44, 45, 46, 47, 48, 49, 50, 51, 52, 53, 54, 55, 56, 57, 58, 59, 60, 61, 62, 63, 64, 65, 66, 67, 68, 69, 70] (by decide +kernel) (by decide +kernel)
set_option maxRecDepth 20000 in
theorem gX7_sortedIn_X7_sortsAll : GoodIn wsX7_sortedIn (wsV RX7 219 RX7 yX7_sortsAll wsX7_sortsAll) := goodIn_app (goodIn_of _ (by decide +kernel)) ggX7_sortedIn_X7_sortsAll
set_option maxRecDepth 20000 in
theorem ggX7_wrongThen_X7_sortsAll : GoodIn wsX7_wrongThen wsX7_sortsAll := goodIn_r _ [7, 8, 9, 2, 10, 11, 12, 6, 13, 14, 15, 16, 17, 18, 19, 20, 21, 22, 23, 24, 25, 26, 27, 28, 29, 30, 31, 32, 33, 34, 35, 36, 37, 38, 39, 40, 41, 42, 43, 44, 45, 46, 47, 48, 49, 50, 51, 52, 53, 54, 55, 56, 57, 58, 59, 60, 61, 62, 63, 64, 65, 66, 67, 68, 69, 70] (by decide +kernel) (by decide +kernel)
set_option maxRecDepth 20000 in
theorem gX7_wrongThen_X7_sortsAll : GoodIn wsX7_wrongThen (wsV RX7 219 RX7 yX7_sortsAll wsX7_sortsAll) := goodIn_app (goodIn_of _ (by decide +kernel)) ggX7_wrongThen_X7_sortsAll
set_option maxRecDepth 20000 in
theorem ggX7_share_X7_errors : GoodIn wsX7_share wsX7_errors := goodIn_r _ [6, 1, 7, 8, 9, 5, 10, 11, 12, 13, 14, 15, 16, 17, 18, 19, 20, 21, 22, 23, 24, 25, 26] (by decide +kernel) (by decide +kernel)
set_option maxRecDepth 20000 in
theorem gX7_share_X7_errors : GoodIn wsX7_share (wsV RX7 105 RX7 yX7_errors wsX7_errors) := goodIn_app (goodIn_of _ (by decide +kernel)) ggX7_share_X7_errors
set_option maxRecDepth 20000 in
theorem ggX7_rightShare_X7_share : GoodIn wsX7_rightShare wsX7_share := goodIn_r _ [6, 7, 8, 9, 10, 5, 11, 12, 13, 14, 15, 16, 17, 18, 19, 20, 21, 22, 23, 24, 25, 26, 27, 28, 29, 30, 31] (by decide +kernel) (by decide +kernel)
set_option maxRecDepth 20000 in
theorem gX7_rightShare_X7_share : GoodIn wsX7_rightShare (wsV RX7 222 RX7 yX7_share wsX7_share) := goodIn_app (goodIn_of _ (by decide +kernel)) ggX7_rightShare_X7_share
set_option maxRecDepth 20000 in
theorem ggX7_hashesBox_X7_tellsBox : GoodIn wsX7_hashesBox wsX7_tellsBox := goodIn_r _ [5, 6, 7, 8, 9, 4, 10, 11, 12, 13, 14, 15, 16, 17, 18, 19, 20, 21, 22, 23, 24, 25, 26, 27, 28, 29, 89, 90, 91, 92, 93, 94, 95, 96, 97, 98, 99, 100, 101, 102, 103, 104] (by decide +kernel) (by decide +kernel)
set_option maxRecDepth 20000 in
theorem gX7_hashesBox_X7_tellsBox : GoodIn wsX7_hashesBox (wsV RX7 192 RX7 yX7_tellsBox wsX7_tellsBox) := goodIn_app (goodIn_of _ (by decide +kernel)) ggX7_hashesBox_X7_tellsBox
set_option maxRecDepth 20000 in
theorem ggX7_hashesBox_X7_hashes : GoodIn wsX7_hashesBox wsX7_hashes := goodIn_r _ [33, 34, 35, 89, 90, 91, 92, 93, 94, 95, 96, 97, 98, 99, 100, 101, 102, 103, 104] (by decide +kernel) (by decide +kernel)
set_option maxRecDepth 20000 in
theorem gX7_hashesBox_X7_hashes : GoodIn wsX7_hashesBox (wsV RX7 232 RX7 yX7_hashes wsX7_hashes) := goodIn_app (goodIn_of _ (by decide +kernel)) ggX7_hashesBox_X7_hashes
set_option maxRecDepth 20000 in
theorem ggX7_hashesBox_X7_refusesLetter : GoodIn wsX7_hashesBox wsX7_refusesLetter := goodIn_r _ [39, 6, 19, 20, 21, 4, 22, 7, 8, 9, 10, 15, 16, 17, 18, 40, 41, 42, 43, 23, 24, 25, 89, 90, 91, 92, 93, 94, 95, 96, 97, 98, 99, 100, 101, 102, 103, 104] (by decide +kernel) (by decide +kernel)
set_option maxRecDepth 20000 in
theorem gX7_hashesBox_X7_refusesLetter : GoodIn wsX7_hashesBox (wsV RX7 87 RX7 yX7_refusesLetter wsX7_refusesLetter) := goodIn_app (goodIn_of _ (by decide +kernel)) ggX7_hashesBox_X7_refusesLetter
set_option maxRecDepth 20000 in
theorem ggX7_hashesBox_X7_wouldSet : GoodIn wsX7_hashesBox wsX7_wouldSet := goodIn_r _ [47, 48, 49, 50, 4, 51, 52, 6, 53, 54, 55, 56, 57, 58, 59, 60, 36, 37, 38, 39, 19, 20, 21, 22, 7, 8, 9, 10, 15, 16, 17, 18, 40, 41, 42, 43, 23, 24, 25, 61, 62, 63, 64, 65, 66, 67, 68, 69, 70, 71, 72, 73, 74, 75, 76, 77, 78, 79, 80, 81, 82, 83, 84, 85, 86, 87, 88, 89, 90, 91, 92, 93, 94, 95, 96, 97, 98, 99, 100, 101, 102, 103, 104] (by decide +kernel) (by decide +kernel)
set_option maxRecDepth 20000 in
theorem gX7_hashesBox_X7_wouldSet : GoodIn wsX7_hashesBox (wsV RX7 210 RX7 yX7_wouldSet wsX7_wouldSet) := goodIn_app (goodIn_of _ (by decide +kernel)) ggX7_hashesBox_X7_wouldSet
set_option maxRecDepth 20000 in
theorem ggX7_hashesBox_X7_many : GoodIn wsX7_hashesBox wsX7_many := goodIn_r _ [10, 6, 89, 90, 91, 92, 93, 94, 95, 96, 97, 98, 99, 100, 101, 102, 103, 104] (by decide +kernel) (by decide +kernel)
set_option maxRecDepth 20000 in
theorem gX7_hashesBox_X7_many : GoodIn wsX7_hashesBox (wsV RX7 40 RX7 yX7_many wsX7_many) := goodIn_app (goodIn_of _ (by decide +kernel)) ggX7_hashesBox_X7_many
set_option maxRecDepth 20000 in
theorem ggX7_hashesBox_X7_typeAt : GoodIn wsX7_hashesBox wsX7_typeAt := goodIn_r _ [18, 6, 89, 90, 91, 92, 93, 94, 95, 96, 97, 98, 99, 100, 101, 102, 103, 104] (by decide +kernel) (by decide +kernel)
set_option maxRecDepth 20000 in
theorem gX7_hashesBox_X7_typeAt : GoodIn wsX7_hashesBox (wsV RX7 44 RX7 yX7_typeAt wsX7_typeAt) := goodIn_app (goodIn_of _ (by decide +kernel)) ggX7_hashesBox_X7_typeAt
set_option maxRecDepth 20000 in
theorem ggX7_hashesLine_X7_tellsPlace : GoodIn wsX7_hashesLine wsX7_tellsPlace := goodIn_r _ [6, 1, 7, 8, 9, 5, 10, 11, 12, 13, 14, 15, 16, 17, 18, 19, 20, 21, 22, 23, 24, 25, 26, 27, 28, 29, 30, 45, 46, 47, 48, 49, 50, 51, 52, 53, 54, 55, 56, 57, 58, 59, 60] (by decide +kernel) (by decide +kernel)
set_option maxRecDepth 20000 in
theorem gX7_hashesLine_X7_tellsPlace : GoodIn wsX7_hashesLine (wsV RX7 195 RX7 yX7_tellsPlace wsX7_tellsPlace) := goodIn_app (goodIn_of _ (by decide +kernel)) ggX7_hashesLine_X7_tellsPlace
set_option maxRecDepth 20000 in
theorem ggX7_hashesLine_X7_hashes : GoodIn wsX7_hashesLine wsX7_hashes := goodIn_r _ [34, 35, 36, 45, 46, 47, 48, 49, 50, 51, 52, 53, 54, 55, 56, 57, 58, 59, 60] (by decide +kernel) (by decide +kernel)
set_option maxRecDepth 20000 in
theorem gX7_hashesLine_X7_hashes : GoodIn wsX7_hashesLine (wsV RX7 232 RX7 yX7_hashes wsX7_hashes) := goodIn_app (goodIn_of _ (by decide +kernel)) ggX7_hashesLine_X7_hashes
set_option maxRecDepth 20000 in
theorem ggX7_hashesLine_X7_errors : GoodIn wsX7_hashesLine wsX7_errors := goodIn_r _ [40, 1, 7, 8, 9, 5, 10, 45, 46, 47, 48, 49, 50, 51, 52, 53, 54, 55, 56, 57, 58, 59, 60] (by decide +kernel) (by decide +kernel)
set_option maxRecDepth 20000 in
theorem gX7_hashesLine_X7_errors : GoodIn wsX7_hashesLine (wsV RX7 105 RX7 yX7_errors wsX7_errors) := goodIn_app (goodIn_of _ (by decide +kernel)) ggX7_hashesLine_X7_errors
set_option maxRecDepth 20000 in
theorem ggX7_hashesLine_X7_character : GoodIn wsX7_hashesLine wsX7_character := goodIn_r _ [44, 1, 7, 8, 9, 5, 10, 45, 46, 47, 48, 49, 50, 51, 52, 53, 54, 55, 56, 57, 58, 59, 60] (by decide +kernel) (by decide +kernel)
set_option maxRecDepth 20000 in
theorem gX7_hashesLine_X7_character : GoodIn wsX7_hashesLine (wsV RX7 183 RX7 yX7_character wsX7_character) := goodIn_app (goodIn_of _ (by decide +kernel)) ggX7_hashesLine_X7_character
set_option maxRecDepth 20000 in
theorem ggX7_digest_X7_tellsCount : GoodIn wsX7_digest wsX7_tellsCount := goodIn_r _ [13, 4, 14, 15, 16, 17, 12, 18, 19, 20, 21, 22, 23, 24, 25, 26, 27, 28, 29, 30, 31, 32, 33, 34, 35, 36, 37, 38, 39, 40, 41, 42, 43, 44, 45, 46, 47, 48, 49, 156, 157, 158, 159, 160, 161, 162, 163, 164, 165, 166, 167, 168, 169, 170, 171] (by decide +kernel) (by decide +kernel)
set_option maxRecDepth 20000 in
theorem gX7_digest_X7_tellsCount : GoodIn wsX7_digest (wsV RX7 201 RX7 yX7_tellsCount wsX7_tellsCount) := goodIn_app (goodIn_of _ (by decide +kernel)) ggX7_digest_X7_tellsCount
set_option maxRecDepth 20000 in
theorem ggX7_digest_X7_hashes : GoodIn wsX7_digest wsX7_hashes := goodIn_r _ [53, 54, 3, 156, 157, 158, 159, 160, 161, 162, 163, 164, 165, 166, 167, 168, 169, 170, 171] (by decide +kernel) (by decide +kernel)
set_option maxRecDepth 20000 in
theorem gX7_digest_X7_hashes : GoodIn wsX7_digest (wsV RX7 232 RX7 yX7_hashes wsX7_hashes) := goodIn_app (goodIn_of _ (by decide +kernel)) ggX7_digest_X7_hashes
set_option maxRecDepth 20000 in
theorem ggX7_digest_X7_hashesBox : GoodIn wsX7_digest wsX7_hashesBox := goodIn_r _ [58, 59, 60, 61, 12, 62, 4, 34, 35, 36, 37, 42, 43, 44, 45, 46, 47, 48, 49, 63, 64, 65, 66, 19, 20, 21, 67, 68, 69, 70, 50, 51, 52, 53, 54, 3, 71, 72, 73, 74, 15, 16, 17, 18, 75, 76, 77, 78, 79, 80, 81, 82, 83, 22, 23, 24, 25, 26, 27, 28, 29, 84, 85, 86, 87, 88, 89, 90, 91, 92, 93, 94, 95, 96, 97, 98, 99, 100, 101, 102, 103, 104, 105, 106, 107, 108, 109, 110, 111, 156, 157, 158, 159, 160, 161, 162, 163, 164, 165, 166, 167, 168, 169, 170, 171] (by decide +kernel) (by decide +kernel)
set_option maxRecDepth 20000 in
theorem gX7_digest_X7_hashesBox : GoodIn wsX7_digest (wsV RX7 238 RX7 yX7_hashesBox wsX7_hashesBox) := goodIn_app (goodIn_of _ (by decide +kernel)) ggX7_digest_X7_hashesBox
set_option maxRecDepth 20000 in
theorem ggX7_digest_X7_hashesLine : GoodIn wsX7_digest wsX7_hashesLine := goodIn_r _ [115, 4, 116, 117, 118, 12, 119, 26, 27, 28, 29, 120, 121, 122, 123, 124, 125, 126, 127, 34, 35, 36, 37, 46, 47, 48, 49, 128, 129, 130, 131, 50, 51, 52, 53, 54, 3, 22, 23, 24, 25, 132, 133, 134, 135, 156, 157, 158, 159, 160, 161, 162, 163, 164, 165, 166, 167, 168, 169, 170, 171] (by decide +kernel) (by decide +kernel)
set_option maxRecDepth 20000 in
theorem gX7_digest_X7_hashesLine : GoodIn wsX7_digest (wsV RX7 241 RX7 yX7_hashesLine wsX7_hashesLine) := goodIn_app (goodIn_of _ (by decide +kernel)) ggX7_digest_X7_hashesLine
set_option maxRecDepth 20000 in
theorem ggX7_digest_X7_sortsAll : GoodIn wsX7_digest wsX7_sortsAll := goodIn_r _ [139, 4, 5, 6, 79, 80, 81, 12, 82, 83, 100, 101, 102, 103, 63, 64, 65, 66, 34, 35, 36, 37, 46, 47, 48, 49, 88, 89, 90, 91, 92, 93, 94, 95, 104, 105, 106, 107, 38, 39, 40, 41, 42, 43, 44, 45, 108, 109, 110, 111, 156, 157, 158, 159, 160, 161, 162, 163, 164, 165, 166, 167, 168, 169, 170, 171] (by decide +kernel) (by decide +kernel)
set_option maxRecDepth 20000 in
theorem gX7_digest_X7_sortsAll : GoodIn wsX7_digest (wsV RX7 219 RX7 yX7_sortsAll wsX7_sortsAll) := goodIn_app (goodIn_of _ (by decide +kernel)) ggX7_digest_X7_sortsAll
set_option maxRecDepth 20000 in
theorem ggX7_digest_X7_share : GoodIn wsX7_digest wsX7_share := goodIn_r _ [143, 4, 22, 23, 24, 12, 25, 26, 27, 28, 29, 156, 157, 158, 159, 160, 161, 162, 163, 164, 165, 166, 167, 168, 169, 170, 171] (by decide +kernel) (by decide +kernel)
set_option maxRecDepth 20000 in
theorem gX7_digest_X7_share : GoodIn wsX7_digest (wsV RX7 222 RX7 yX7_share wsX7_share) := goodIn_app (goodIn_of _ (by decide +kernel)) ggX7_digest_X7_share
set_option maxRecDepth 20000 in
theorem ggX7_digest_Jxe99ae_doubleToLongBits_ccdee : GoodIn wsX7_digest wsJxe99ae_doubleToLongBits_ccdee := goodIn_r _ [147, 148, 149, 150, 151, 152, 153, 154, 146, 155] (by decide +kernel) (by decide +kernel)
set_option maxRecDepth 20000 in
theorem gX7_digest_Jxe99ae_doubleToLongBits_ccdee : GoodIn wsX7_digest (va_wsS RX7 244 yJxe99ae_doubleToLongBits_ccdee wsJxe99ae_doubleToLongBits_ccdee) := goodIn_app (goodIn_of _ (by decide +kernel)) ggX7_digest_Jxe99ae_doubleToLongBits_ccdee
