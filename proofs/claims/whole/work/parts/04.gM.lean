set_option maxRecDepth 20000 in
theorem ggX10_write_X10_in : GoodIn wsX10_write wsX10_in := goodIn_r _ [7] (by decide +kernel) (by decide +kernel)
set_option maxRecDepth 20000 in
theorem gX10_write_X10_in : GoodIn wsX10_write (va_wsS RX10 72 yX10_in wsX10_in) := goodIn_app (goodIn_of _ (by decide +kernel)) ggX10_write_X10_in
set_option maxRecDepth 20000 in
theorem ggX10_nextToken_X10_in : GoodIn wsX10_nextToken wsX10_in := goodIn_r _ [17] (by decide +kernel) (by decide +kernel)
set_option maxRecDepth 20000 in
theorem gX10_nextToken_X10_in : GoodIn wsX10_nextToken (va_wsS RX10 72 yX10_in wsX10_in) := goodIn_app (goodIn_of _ (by decide +kernel)) ggX10_nextToken_X10_in
set_option maxRecDepth 20000 in
theorem ggX10_isNumber_X10_nextToken : GoodIn wsX10_isNumber wsX10_nextToken := goodIn_r _ [9, 10, 11, 12, 13, 14, 3, 15, 1, 16, 17, 18, 2, 19, 20, 21, 8, 22, 28, 29, 30, 31, 32, 33, 34, 35, 36, 37, 38, 39, 40, 41, 42, 43, 44, 45, 46, 47, 48, 49, 50, 51, 52, 53, 54, 55, 56, 57, 58, 59, 60, 61, 62, 63, 64, 65, 66, 67] (by decide +kernel) (by decide +kernel)
set_option maxRecDepth 20000 in
theorem gX10_isNumber_X10_nextToken : GoodIn wsX10_isNumber (wsV RX10 112 RX10 yX10_nextToken wsX10_nextToken) := goodIn_app (goodIn_of _ (by decide +kernel)) ggX10_isNumber_X10_nextToken
set_option maxRecDepth 20000 in
theorem ggX10_isNumber_X10_in : GoodIn wsX10_isNumber wsX10_in := goodIn_r _ [22] (by decide +kernel) (by decide +kernel)
set_option maxRecDepth 20000 in
theorem gX10_isNumber_X10_in : GoodIn wsX10_isNumber (va_wsS RX10 72 yX10_in wsX10_in) := goodIn_app (goodIn_of _ (by decide +kernel)) ggX10_isNumber_X10_in
set_option maxRecDepth 20000 in
theorem ggX10_isNumber_X10_fails : GoodIn wsX10_isNumber wsX10_fails := goodIn_r _ [26, 13, 27, 28, 29, 30, 31, 32, 33, 34, 35, 36, 37, 38, 39, 40, 41, 42, 43, 44, 45, 46, 47, 48, 49, 50, 51, 52, 53, 54, 55, 56, 57, 58, 59, 60, 61, 62, 63, 64, 65, 66, 67] (by decide +kernel) (by decide +kernel)
set_option maxRecDepth 20000 in
theorem gX10_isNumber_X10_fails : GoodIn wsX10_isNumber (wsV RX10 115 RX10 yX10_fails wsX10_fails) := goodIn_app (goodIn_of _ (by decide +kernel)) ggX10_isNumber_X10_fails
set_option maxRecDepth 20000 in
theorem ggX10_isMood_X10_isNumber : GoodIn wsX10_isMood wsX10_isNumber := goodIn_r _ [6, 7, 8, 9, 1, 10, 11, 12, 5, 13, 14, 15, 16, 17, 18, 19, 20, 21, 22, 23, 24, 25, 26, 27, 28, 29, 30, 31, 32, 33, 34, 35, 36, 37, 38, 39, 40, 41, 42, 43, 44, 45, 46, 47, 48, 49, 50, 51, 52, 53, 54, 55, 56, 57, 58, 59, 60, 61, 62, 63, 64, 65, 66, 67, 68, 69, 70, 71] (by decide +kernel) (by decide +kernel)
set_option maxRecDepth 20000 in
theorem gX10_isMood_X10_isNumber : GoodIn wsX10_isMood (wsV RX10 119 RX10 yX10_isNumber wsX10_isNumber) := goodIn_app (goodIn_of _ (by decide +kernel)) ggX10_isMood_X10_isNumber
set_option maxRecDepth 20000 in
theorem ggX10_isLine_X10_nextToken : GoodIn wsX10_isLine wsX10_nextToken := goodIn_r _ [13, 14, 15, 16, 17, 18, 19, 20, 2, 21, 22, 23, 24, 25, 26, 27, 12, 28, 42, 43, 44, 45, 46, 47, 48, 49, 50, 51, 52, 53, 54, 55, 56, 57, 58, 59, 60, 61, 62, 63, 64, 65, 66, 67, 68, 69, 70, 71, 72, 73, 74, 75, 76, 77, 78, 79, 80, 81] (by decide +kernel) (by decide +kernel)
set_option maxRecDepth 20000 in
theorem gX10_isLine_X10_nextToken : GoodIn wsX10_isLine (wsV RX10 112 RX10 yX10_nextToken wsX10_nextToken) := goodIn_app (goodIn_of _ (by decide +kernel)) ggX10_isLine_X10_nextToken
set_option maxRecDepth 20000 in
theorem ggX10_isLine_X10_isNumber : GoodIn wsX10_isLine wsX10_isNumber := goodIn_r _ [32, 2, 24, 19, 1, 9, 10, 11, 12, 13, 14, 15, 16, 17, 18, 20, 21, 22, 23, 25, 26, 27, 28, 33, 34, 35, 36, 37, 42, 43, 44, 45, 46, 47, 48, 49, 50, 51, 52, 53, 54, 55, 56, 57, 58, 59, 60, 61, 62, 63, 64, 65, 66, 67, 68, 69, 70, 71, 72, 73, 74, 75, 76, 77, 78, 79, 80, 81] (by decide +kernel) (by decide +kernel)
set_option maxRecDepth 20000 in
theorem gX10_isLine_X10_isNumber : GoodIn wsX10_isLine (wsV RX10 119 RX10 yX10_isNumber wsX10_isNumber) := goodIn_app (goodIn_of _ (by decide +kernel)) ggX10_isLine_X10_isNumber
set_option maxRecDepth 20000 in
theorem ggX10_isLine_X10_isMood : GoodIn wsX10_isLine wsX10_isMood := goodIn_r _ [41, 1, 29, 30, 31, 12, 32, 2, 24, 19, 9, 10, 11, 13, 14, 15, 16, 17, 18, 20, 21, 22, 23, 25, 26, 27, 28, 33, 34, 35, 36, 37, 42, 43, 44, 45, 46, 47, 48, 49, 50, 51, 52, 53, 54, 55, 56, 57, 58, 59, 60, 61, 62, 63, 64, 65, 66, 67, 68, 69, 70, 71, 72, 73, 74, 75, 76, 77, 78, 79, 80, 81] (by decide +kernel) (by decide +kernel)
set_option maxRecDepth 20000 in
theorem gX10_isLine_X10_isMood : GoodIn wsX10_isLine (wsV RX10 134 RX10 yX10_isMood wsX10_isMood) := goodIn_app (goodIn_of _ (by decide +kernel)) ggX10_isLine_X10_isMood
set_option maxRecDepth 20000 in
theorem ggX10_isLine_X10_fails : GoodIn wsX10_isLine wsX10_fails := goodIn_r _ [36, 17, 37, 42, 43, 44, 45, 46, 47, 48, 49, 50, 51, 52, 53, 54, 55, 56, 57, 58, 59, 60, 61, 62, 63, 64, 65, 66, 67, 68, 69, 70, 71, 72, 73, 74, 75, 76, 77, 78, 79, 80, 81] (by decide +kernel) (by decide +kernel)
set_option maxRecDepth 20000 in
theorem gX10_isLine_X10_fails : GoodIn wsX10_isLine (wsV RX10 115 RX10 yX10_fails wsX10_fails) := goodIn_app (goodIn_of _ (by decide +kernel)) ggX10_isLine_X10_fails
set_option maxRecDepth 20000 in
theorem ggX10_isRead_X10_isLine : GoodIn wsX10_isRead wsX10_isLine := goodIn_r _ [10, 11, 3, 12, 13, 14, 15, 16, 17, 18, 19, 20, 9, 21, 1, 22, 23, 24, 25, 26, 5, 27, 28, 29, 30, 4, 31, 32, 33, 34, 35, 36, 37, 38, 39, 40, 41, 42, 43, 44, 45, 46, 47, 48, 49, 50, 51, 52, 53, 54, 55, 56, 57, 58, 59, 60, 61, 62, 63, 64, 65, 66, 67, 68, 69, 70, 71, 72, 73, 74, 75, 76, 77, 78, 79, 80, 81, 82, 83, 84, 85, 86] (by decide +kernel) (by decide +kernel)
set_option maxRecDepth 20000 in
theorem gX10_isRead_X10_isLine : GoodIn wsX10_isRead (wsV RX10 141 RX10 yX10_isLine wsX10_isLine) := goodIn_app (goodIn_of _ (by decide +kernel)) ggX10_isRead_X10_isLine
set_option maxRecDepth 20000 in
theorem ggX10_isRead_X10_nextToken : GoodIn wsX10_isRead wsX10_nextToken := goodIn_r _ [21, 1, 22, 23, 24, 25, 26, 5, 3, 27, 28, 29, 30, 4, 31, 32, 9, 33, 47, 48, 49, 50, 51, 52, 53, 54, 55, 56, 57, 58, 59, 60, 61, 62, 63, 64, 65, 66, 67, 68, 69, 70, 71, 72, 73, 74, 75, 76, 77, 78, 79, 80, 81, 82, 83, 84, 85, 86] (by decide +kernel) (by decide +kernel)
set_option maxRecDepth 20000 in
theorem gX10_isRead_X10_nextToken : GoodIn wsX10_isRead (wsV RX10 112 RX10 yX10_nextToken wsX10_nextToken) := goodIn_app (goodIn_of _ (by decide +kernel)) ggX10_isRead_X10_nextToken
set_option maxRecDepth 20000 in
theorem ggX10_isRead_X10_fails : GoodIn wsX10_isRead wsX10_fails := goodIn_r _ [41, 24, 42, 47, 48, 49, 50, 51, 52, 53, 54, 55, 56, 57, 58, 59, 60, 61, 62, 63, 64, 65, 66, 67, 68, 69, 70, 71, 72, 73, 74, 75, 76, 77, 78, 79, 80, 81, 82, 83, 84, 85, 86] (by decide +kernel) (by decide +kernel)
set_option maxRecDepth 20000 in
theorem gX10_isRead_X10_fails : GoodIn wsX10_isRead (wsV RX10 115 RX10 yX10_fails wsX10_fails) := goodIn_app (goodIn_of _ (by decide +kernel)) ggX10_isRead_X10_fails
set_option maxRecDepth 20000 in
theorem ggX10_fault_X10_isRead : GoodIn wsX10_fault wsX10_isRead := goodIn_r _ [6, 7, 8, 9, 10, 11, 12, 13, 14, 5, 15, 16, 17, 18, 19, 20, 21, 22, 23, 24, 25, 26, 27, 28, 29, 30, 31, 32, 33, 34, 35, 36, 37, 38, 39, 40, 41, 42, 43, 44, 45, 46, 1, 47, 48, 49, 50, 51, 52, 53, 54, 55, 56, 57, 58, 59, 60, 61, 62, 63, 64, 65, 66, 67, 68, 69, 70, 71, 72, 73, 74, 75, 76, 77, 78, 79, 80, 81, 82, 83, 84, 85, 86, 87, 88, 89, 90] (by decide +kernel) (by decide +kernel)
set_option maxRecDepth 20000 in
theorem gX10_fault_X10_isRead : GoodIn wsX10_fault (wsV RX10 144 RX10 yX10_isRead wsX10_isRead) := goodIn_app (goodIn_of _ (by decide +kernel)) ggX10_fault_X10_isRead
set_option maxRecDepth 20000 in
theorem ggX10_game_X10_isRead : GoodIn wsX10_game wsX10_isRead := goodIn_r _ [7, 8, 1, 9, 10, 11, 12, 13, 14, 6, 15, 16, 17, 18, 19, 20, 21, 22, 23, 24, 25, 26, 2, 27, 28, 29, 30, 31, 32, 33, 34, 35, 36, 37, 38, 39, 40, 41, 42, 43, 44, 45, 46, 47, 48, 49, 50, 67, 68, 69, 70, 71, 72, 73, 74, 75, 76, 77, 78, 79, 80, 81, 82, 83, 84, 85, 86, 87, 88, 89, 90, 91, 92, 93, 94, 95, 96, 97, 98, 99, 100, 101, 102, 103, 104, 105, 106] (by decide +kernel) (by decide +kernel)
set_option maxRecDepth 20000 in
theorem gX10_game_X10_isRead : GoodIn wsX10_game (wsV RX10 144 RX10 yX10_isRead wsX10_isRead) := goodIn_app (goodIn_of _ (by decide +kernel)) ggX10_game_X10_isRead
set_option maxRecDepth 20000 in
theorem ggX10_game_X10_doLine : GoodIn wsX10_game wsX10_doLine := goodIn_r _ [54, 16, 55, 56, 57, 58, 59, 60, 61, 62, 63, 64, 65, 66, 67, 68, 69, 70, 71, 72, 73, 74, 75, 76, 77, 78, 79, 80, 81, 82, 83, 84, 85, 86, 87, 88, 89, 90, 91, 92, 93, 94, 95, 96, 97, 98, 99, 100, 101, 102, 103, 104, 105, 106] (by decide +kernel) (by decide +kernel)
set_option maxRecDepth 20000 in
theorem gX10_game_X10_doLine : GoodIn wsX10_game (wsV RX10 163 RX10 yX10_doLine wsX10_doLine) := goodIn_app (goodIn_of _ (by decide +kernel)) ggX10_game_X10_doLine
set_option maxRecDepth 20000 in
theorem ggX10_mood_X10_in : GoodIn wsX10_mood wsX10_in := goodIn_r _ [6] (by decide +kernel) (by decide +kernel)
set_option maxRecDepth 20000 in
theorem gX10_mood_X10_in : GoodIn wsX10_mood (va_wsS RX10 72 yX10_in wsX10_in) := goodIn_app (goodIn_of _ (by decide +kernel)) ggX10_mood_X10_in
set_option maxRecDepth 20000 in
theorem ggX10_winsOf_X10_ten : GoodIn wsX10_winsOf wsX10_ten := goodIn_r _ [5, 6] (by decide +kernel) (by decide +kernel)
set_option maxRecDepth 20000 in
theorem gX10_winsOf_X10_ten : GoodIn wsX10_winsOf (va_wsS RX10 167 yX10_ten wsX10_ten) := goodIn_app (goodIn_of _ (by decide +kernel)) ggX10_winsOf_X10_ten
set_option maxRecDepth 20000 in
theorem ggX10_makesBy_X10_ten : GoodIn wsX10_makesBy wsX10_ten := goodIn_r _ [6, 7] (by decide +kernel) (by decide +kernel)
set_option maxRecDepth 20000 in
theorem gX10_makesBy_X10_ten : GoodIn wsX10_makesBy (va_wsS RX10 167 yX10_ten wsX10_ten) := goodIn_app (goodIn_of _ (by decide +kernel)) ggX10_makesBy_X10_ten
set_option maxRecDepth 20000 in
theorem ggX10_makesBy_X10_rest : GoodIn wsX10_makesBy wsX10_rest := goodIn_r _ [10] (by decide +kernel) (by decide +kernel)
set_option maxRecDepth 20000 in
theorem gX10_makesBy_X10_rest : GoodIn wsX10_makesBy (va_wsS RX10 171 yX10_rest wsX10_rest) := goodIn_app (goodIn_of _ (by decide +kernel)) ggX10_makesBy_X10_rest
set_option maxRecDepth 20000 in
theorem ggX10_makesBy_X10_makesOf : GoodIn wsX10_makesBy wsX10_makesOf := goodIn_r _ [14, 15, 16, 17, 18, 19, 20, 21, 22, 23, 24, 25, 26, 27, 28, 29, 30, 31, 32, 33, 34, 35, 36, 37, 38, 39, 40, 41, 42, 43, 44, 45, 46, 47, 48, 49, 50, 51, 52, 53, 54, 55] (by decide +kernel) (by decide +kernel)
set_option maxRecDepth 20000 in
theorem gX10_makesBy_X10_makesOf : GoodIn wsX10_makesBy (wsV RX10 175 RX10 yX10_makesOf wsX10_makesOf) := goodIn_app (goodIn_of _ (by decide +kernel)) ggX10_makesBy_X10_makesOf
set_option maxRecDepth 20000 in
theorem ggX10_winsBy_X10_rest : GoodIn wsX10_winsBy wsX10_rest := goodIn_r _ [6] (by decide +kernel) (by decide +kernel)
set_option maxRecDepth 20000 in
theorem gX10_winsBy_X10_rest : GoodIn wsX10_winsBy (va_wsS RX10 171 yX10_rest wsX10_rest) := goodIn_app (goodIn_of _ (by decide +kernel)) ggX10_winsBy_X10_rest
set_option maxRecDepth 20000 in
theorem ggX10_winsBy_X10_winsOf : GoodIn wsX10_winsBy wsX10_winsOf := goodIn_r _ [10, 11, 12, 13, 5, 14, 15, 16, 17, 18, 19, 20, 21, 22, 23, 24, 25, 26, 27, 28, 29, 30, 31, 32, 33, 34, 35, 36, 37, 38, 39, 40, 41, 42, 43, 44, 45, 46, 47, 48, 49, 50, 51, 52, 53, 54, 55] (by decide +kernel) (by decide +kernel)
set_option maxRecDepth 20000 in
theorem gX10_winsBy_X10_winsOf : GoodIn wsX10_winsBy (wsV RX10 179 RX10 yX10_winsOf wsX10_winsOf) := goodIn_app (goodIn_of _ (by decide +kernel)) ggX10_winsBy_X10_winsOf
set_option maxRecDepth 20000 in
theorem ggX10_layOut_X10_makesBy : GoodIn wsX10_layOut wsX10_makesBy := goodIn_r _ [11, 6, 12, 13, 14, 10, 15, 16, 17, 18, 19, 20, 21, 22, 23, 4, 39, 40, 41, 42, 43, 44, 45, 46, 47, 48, 49, 50, 51, 52, 53, 54, 55, 56, 57, 58, 59, 60, 61, 62, 63, 64, 65, 66, 67, 68, 69, 70, 71, 72, 73, 74, 75, 76, 77, 78] (by decide +kernel) (by decide +kernel)
set_option maxRecDepth 20000 in
theorem gX10_layOut_X10_makesBy : GoodIn wsX10_layOut (wsV RX10 183 RX10 yX10_makesBy wsX10_makesBy) := goodIn_app (goodIn_of _ (by decide +kernel)) ggX10_layOut_X10_makesBy
set_option maxRecDepth 20000 in
theorem ggX10_layOut_X10_greater : GoodIn wsX10_layOut wsX10_greater := goodIn_r _ [26] (by decide +kernel) (by decide +kernel)
set_option maxRecDepth 20000 in
theorem gX10_layOut_X10_greater : GoodIn wsX10_layOut (va_wsS RX10 186 yX10_greater wsX10_greater) := goodIn_app (goodIn_of _ (by decide +kernel)) ggX10_layOut_X10_greater
set_option maxRecDepth 20000 in
theorem ggX10_layOut_X10_layWins : GoodIn wsX10_layOut wsX10_layWins := goodIn_r _ [30, 5, 31, 32, 33, 10, 34, 6, 12, 17, 18, 19, 35, 36, 37, 38, 13, 14, 15, 16, 24, 25, 26, 39, 40, 41, 42, 43, 44, 45, 46, 47, 48, 49, 50, 51, 52, 53, 54, 55, 56, 57, 58, 59, 60, 61, 62, 63, 64, 65, 66, 67, 68, 69, 70, 71, 72, 73, 74, 75, 76, 77, 78] (by decide +kernel) (by decide +kernel)
set_option maxRecDepth 20000 in
theorem gX10_layOut_X10_layWins : GoodIn wsX10_layOut (wsV RX10 190 RX10 yX10_layWins wsX10_layWins) := goodIn_app (goodIn_of _ (by decide +kernel)) ggX10_layOut_X10_layWins
set_option maxRecDepth 20000 in
theorem ggX10_layWins_X10_winsBy : GoodIn wsX10_layWins wsX10_winsBy := goodIn_r _ [6, 7, 8, 9, 10, 5, 11, 12, 13, 14, 15, 1, 16, 17, 18, 19, 23, 24, 25, 26, 27, 28, 29, 30, 31, 32, 33, 34, 35, 36, 37, 38, 39, 40, 41, 42, 43, 44, 45, 46, 47, 48, 49, 50, 51, 52, 53, 54, 55, 56, 57, 58, 59, 60, 61, 62] (by decide +kernel) (by decide +kernel)
set_option maxRecDepth 20000 in
theorem gX10_layWins_X10_winsBy : GoodIn wsX10_layWins (wsV RX10 194 RX10 yX10_winsBy wsX10_winsBy) := goodIn_app (goodIn_of _ (by decide +kernel)) ggX10_layWins_X10_winsBy
set_option maxRecDepth 20000 in
theorem ggX10_layWins_X10_greater : GoodIn wsX10_layWins wsX10_greater := goodIn_r _ [22] (by decide +kernel) (by decide +kernel)
set_option maxRecDepth 20000 in
theorem gX10_layWins_X10_greater : GoodIn wsX10_layWins (va_wsS RX10 186 yX10_greater wsX10_greater) := goodIn_app (goodIn_of _ (by decide +kernel)) ggX10_layWins_X10_greater
set_option maxRecDepth 20000 in
theorem ggX10_areIn_X10_in : GoodIn wsX10_areIn wsX10_in := goodIn_r _ [6] (by decide +kernel) (by decide +kernel)
set_option maxRecDepth 20000 in
theorem gX10_areIn_X10_in : GoodIn wsX10_areIn (va_wsS RX10 72 yX10_in wsX10_in) := goodIn_app (goodIn_of _ (by decide +kernel)) ggX10_areIn_X10_in
set_option maxRecDepth 20000 in
theorem ggX10_makes_X10_areIn : GoodIn wsX10_makes wsX10_areIn := goodIn_r _ [6, 7, 8, 9, 10, 5, 11, 54, 55, 56, 57, 58, 59, 60, 61, 62, 63, 64, 65, 66, 67, 68, 69, 70, 71, 72, 73, 74, 75, 76, 77, 78, 79, 80, 81, 82, 83, 84, 85, 86, 87, 88, 89, 90, 91, 92, 93] (by decide +kernel) (by decide +kernel)
set_option maxRecDepth 20000 in
theorem gX10_makes_X10_areIn : GoodIn wsX10_makes (wsV RX10 198 RX10 yX10_areIn wsX10_areIn) := goodIn_app (goodIn_of _ (by decide +kernel)) ggX10_makes_X10_areIn
set_option maxRecDepth 20000 in
theorem ggX10_makes_X10_in : GoodIn wsX10_makes wsX10_in := goodIn_r _ [11] (by decide +kernel) (by decide +kernel)
set_option maxRecDepth 20000 in
theorem gX10_makes_X10_in : GoodIn wsX10_makes (va_wsS RX10 72 yX10_in wsX10_in) := goodIn_app (goodIn_of _ (by decide +kernel)) ggX10_makes_X10_in
set_option maxRecDepth 20000 in
theorem ggX10_makes_X10_layOut : GoodIn wsX10_makes wsX10_layOut := goodIn_r _ [15, 16, 7, 8, 17, 18, 19, 20, 21, 22, 5, 23, 24, 25, 26, 27, 28, 29, 30, 31, 32, 33, 34, 35, 36, 37, 38, 39, 40, 41, 42, 43, 44, 45, 46, 47, 48, 49, 50, 54, 55, 56, 57, 58, 59, 60, 61, 62, 63, 64, 65, 66, 67, 68, 69, 70, 71, 72, 73, 74, 75, 76, 77, 78, 79, 80, 81, 82, 83, 84, 85, 86, 87, 88, 89, 90, 91, 92, 93] (by decide +kernel) (by decide +kernel)
set_option maxRecDepth 20000 in
theorem gX10_makes_X10_layOut : GoodIn wsX10_makes (wsV RX10 202 RX10 yX10_layOut wsX10_layOut) := goodIn_app (goodIn_of _ (by decide +kernel)) ggX10_makes_X10_layOut
set_option maxRecDepth 20000 in
theorem ggX10_makes_X10_makesOf : GoodIn wsX10_makes wsX10_makesOf := goodIn_r _ [35, 17, 54, 55, 56, 57, 58, 59, 60, 61, 62, 63, 64, 65, 66, 67, 68, 69, 70, 71, 72, 73, 74, 75, 76, 77, 78, 79, 80, 81, 82, 83, 84, 85, 86, 87, 88, 89, 90, 91, 92, 93] (by decide +kernel) (by decide +kernel)
set_option maxRecDepth 20000 in
theorem gX10_makes_X10_makesOf : GoodIn wsX10_makes (wsV RX10 175 RX10 yX10_makesOf wsX10_makesOf) := goodIn_app (goodIn_of _ (by decide +kernel)) ggX10_makes_X10_makesOf
set_option maxRecDepth 20000 in
theorem ggX10_makes_X10_ten : GoodIn wsX10_makes wsX10_ten := goodIn_r _ [27, 28] (by decide +kernel) (by decide +kernel)
set_option maxRecDepth 20000 in
theorem gX10_makes_X10_ten : GoodIn wsX10_makes (va_wsS RX10 167 yX10_ten wsX10_ten) := goodIn_app (goodIn_of _ (by decide +kernel)) ggX10_makes_X10_ten
set_option maxRecDepth 20000 in
theorem ggX10_makes_X10_partOf : GoodIn wsX10_makes wsX10_partOf := goodIn_r _ [53] (by decide +kernel) (by decide +kernel)
set_option maxRecDepth 20000 in
theorem gX10_makes_X10_partOf : GoodIn wsX10_makes (va_wsS RX10 205 yX10_partOf wsX10_partOf) := goodIn_app (goodIn_of _ (by decide +kernel)) ggX10_makes_X10_partOf
set_option maxRecDepth 20000 in
theorem ggX10_wins_X10_areIn : GoodIn wsX10_wins wsX10_areIn := goodIn_r _ [6, 7, 8, 9, 10, 5, 11, 54, 55, 56, 57, 58, 59, 60, 61, 62, 63, 64, 65, 66, 67, 68, 69, 70, 71, 72, 73, 74, 75, 76, 77, 78, 79, 80, 81, 82, 83, 84, 85, 86, 87, 88, 89, 90, 91, 92, 93] (by decide +kernel) (by decide +kernel)
set_option maxRecDepth 20000 in
theorem gX10_wins_X10_areIn : GoodIn wsX10_wins (wsV RX10 198 RX10 yX10_areIn wsX10_areIn) := goodIn_app (goodIn_of _ (by decide +kernel)) ggX10_wins_X10_areIn
set_option maxRecDepth 20000 in
theorem ggX10_wins_X10_in : GoodIn wsX10_wins wsX10_in := goodIn_r _ [11] (by decide +kernel) (by decide +kernel)
set_option maxRecDepth 20000 in
theorem gX10_wins_X10_in : GoodIn wsX10_wins (va_wsS RX10 72 yX10_in wsX10_in) := goodIn_app (goodIn_of _ (by decide +kernel)) ggX10_wins_X10_in
set_option maxRecDepth 20000 in
theorem ggX10_wins_X10_layOut : GoodIn wsX10_wins wsX10_layOut := goodIn_r _ [15, 16, 7, 8, 17, 18, 19, 20, 21, 22, 5, 23, 24, 25, 26, 27, 28, 29, 30, 31, 32, 33, 34, 35, 36, 37, 38, 39, 40, 41, 42, 43, 44, 45, 46, 47, 48, 49, 50, 54, 55, 56, 57, 58, 59, 60, 61, 62, 63, 64, 65, 66, 67, 68, 69, 70, 71, 72, 73, 74, 75, 76, 77, 78, 79, 80, 81, 82, 83, 84, 85, 86, 87, 88, 89, 90, 91, 92, 93] (by decide +kernel) (by decide +kernel)
set_option maxRecDepth 20000 in
theorem gX10_wins_X10_layOut : GoodIn wsX10_wins (wsV RX10 202 RX10 yX10_layOut wsX10_layOut) := goodIn_app (goodIn_of _ (by decide +kernel)) ggX10_wins_X10_layOut
set_option maxRecDepth 20000 in
theorem ggX10_wins_X10_winsOf : GoodIn wsX10_wins wsX10_winsOf := goodIn_r _ [50, 18, 25, 26, 5, 27, 28, 54, 55, 56, 57, 58, 59, 60, 61, 62, 63, 64, 65, 66, 67, 68, 69, 70, 71, 72, 73, 74, 75, 76, 77, 78, 79, 80, 81, 82, 83, 84, 85, 86, 87, 88, 89, 90, 91, 92, 93] (by decide +kernel) (by decide +kernel)
set_option maxRecDepth 20000 in
theorem gX10_wins_X10_winsOf : GoodIn wsX10_wins (wsV RX10 179 RX10 yX10_winsOf wsX10_winsOf) := goodIn_app (goodIn_of _ (by decide +kernel)) ggX10_wins_X10_winsOf
set_option maxRecDepth 20000 in
theorem ggX10_wins_X10_ten : GoodIn wsX10_wins wsX10_ten := goodIn_r _ [27, 28] (by decide +kernel) (by decide +kernel)
set_option maxRecDepth 20000 in
theorem gX10_wins_X10_ten : GoodIn wsX10_wins (va_wsS RX10 167 yX10_ten wsX10_ten) := goodIn_app (goodIn_of _ (by decide +kernel)) ggX10_wins_X10_ten
set_option maxRecDepth 20000 in
theorem ggX10_wins_X10_partOf : GoodIn wsX10_wins wsX10_partOf := goodIn_r _ [53] (by decide +kernel) (by decide +kernel)
set_option maxRecDepth 20000 in
theorem gX10_wins_X10_partOf : GoodIn wsX10_wins (va_wsS RX10 205 yX10_partOf wsX10_partOf) := goodIn_app (goodIn_of _ (by decide +kernel)) ggX10_wins_X10_partOf
set_option maxRecDepth 20000 in
theorem ggX10_best_X10_areIn : GoodIn wsX10_best wsX10_areIn := goodIn_r _ [6, 7, 8, 9, 10, 5, 11, 50, 51, 52, 53, 54, 55, 56, 57, 58, 59, 60, 61, 62, 63, 64, 65, 66, 67, 68, 69, 70, 71, 72, 73, 74, 75, 76, 77, 78, 79, 80, 81, 82, 83, 84, 85, 86, 87, 88, 89] (by decide +kernel) (by decide +kernel)
set_option maxRecDepth 20000 in
theorem gX10_best_X10_areIn : GoodIn wsX10_best (wsV RX10 198 RX10 yX10_areIn wsX10_areIn) := goodIn_app (goodIn_of _ (by decide +kernel)) ggX10_best_X10_areIn
set_option maxRecDepth 20000 in
theorem ggX10_best_X10_in : GoodIn wsX10_best wsX10_in := goodIn_r _ [11] (by decide +kernel) (by decide +kernel)
set_option maxRecDepth 20000 in
theorem gX10_best_X10_in : GoodIn wsX10_best (va_wsS RX10 72 yX10_in wsX10_in) := goodIn_app (goodIn_of _ (by decide +kernel)) ggX10_best_X10_in
set_option maxRecDepth 20000 in
theorem ggX10_best_X10_layOut : GoodIn wsX10_best wsX10_layOut := goodIn_r _ [15, 16, 7, 8, 17, 18, 1, 19, 20, 21, 5, 22, 23, 24, 25, 26, 27, 28, 29, 30, 31, 32, 33, 34, 35, 36, 37, 38, 39, 40, 41, 42, 43, 44, 45, 46, 47, 48, 49, 50, 51, 52, 53, 54, 55, 56, 57, 58, 59, 60, 61, 62, 63, 64, 65, 66, 67, 68, 69, 70, 71, 72, 73, 74, 75, 76, 77, 78, 79, 80, 81, 82, 83, 84, 85, 86, 87, 88, 89] (by decide +kernel) (by decide +kernel)
set_option maxRecDepth 20000 in
theorem gX10_best_X10_layOut : GoodIn wsX10_best (wsV RX10 202 RX10 yX10_layOut wsX10_layOut) := goodIn_app (goodIn_of _ (by decide +kernel)) ggX10_best_X10_layOut
set_option maxRecDepth 20000 in
theorem ggX10_best_X10_makesBy : GoodIn wsX10_best wsX10_makesBy := goodIn_r _ [22, 1, 23, 24, 25, 5, 26, 27, 28, 29, 30, 31, 32, 33, 34, 17, 50, 51, 52, 53, 54, 55, 56, 57, 58, 59, 60, 61, 62, 63, 64, 65, 66, 67, 68, 69, 70, 71, 72, 73, 74, 75, 76, 77, 78, 79, 80, 81, 82, 83, 84, 85, 86, 87, 88, 89] (by decide +kernel) (by decide +kernel)
set_option maxRecDepth 20000 in
theorem gX10_best_X10_makesBy : GoodIn wsX10_best (wsV RX10 183 RX10 yX10_makesBy wsX10_makesBy) := goodIn_app (goodIn_of _ (by decide +kernel)) ggX10_best_X10_makesBy
set_option maxRecDepth 20000 in
theorem ggX10_best_X10_makesOf : GoodIn wsX10_best wsX10_makesOf := goodIn_r _ [34, 17, 50, 51, 52, 53, 54, 55, 56, 57, 58, 59, 60, 61, 62, 63, 64, 65, 66, 67, 68, 69, 70, 71, 72, 73, 74, 75, 76, 77, 78, 79, 80, 81, 82, 83, 84, 85, 86, 87, 88, 89] (by decide +kernel) (by decide +kernel)
set_option maxRecDepth 20000 in
theorem gX10_best_X10_makesOf : GoodIn wsX10_best (wsV RX10 175 RX10 yX10_makesOf wsX10_makesOf) := goodIn_app (goodIn_of _ (by decide +kernel)) ggX10_best_X10_makesOf
set_option maxRecDepth 20000 in
theorem ggX10_best_X10_winsBy : GoodIn wsX10_best wsX10_winsBy := goodIn_r _ [45, 1, 23, 28, 29, 5, 30, 46, 47, 48, 49, 18, 24, 25, 26, 27, 50, 51, 52, 53, 54, 55, 56, 57, 58, 59, 60, 61, 62, 63, 64, 65, 66, 67, 68, 69, 70, 71, 72, 73, 74, 75, 76, 77, 78, 79, 80, 81, 82, 83, 84, 85, 86, 87, 88, 89] (by decide +kernel) (by decide +kernel)
set_option maxRecDepth 20000 in
theorem gX10_best_X10_winsBy : GoodIn wsX10_best (wsV RX10 194 RX10 yX10_winsBy wsX10_winsBy) := goodIn_app (goodIn_of _ (by decide +kernel)) ggX10_best_X10_winsBy
set_option maxRecDepth 20000 in
theorem ggX10_best_X10_winsOf : GoodIn wsX10_best wsX10_winsOf := goodIn_r _ [49, 18, 24, 25, 5, 26, 27, 50, 51, 52, 53, 54, 55, 56, 57, 58, 59, 60, 61, 62, 63, 64, 65, 66, 67, 68, 69, 70, 71, 72, 73, 74, 75, 76, 77, 78, 79, 80, 81, 82, 83, 84, 85, 86, 87, 88, 89] (by decide +kernel) (by decide +kernel)
set_option maxRecDepth 20000 in
theorem gX10_best_X10_winsOf : GoodIn wsX10_best (wsV RX10 179 RX10 yX10_winsOf wsX10_winsOf) := goodIn_app (goodIn_of _ (by decide +kernel)) ggX10_best_X10_winsOf
set_option maxRecDepth 20000 in
theorem ggX10_spendOf_X10_layOut : GoodIn wsX10_spendOf wsX10_layOut := goodIn_r _ [8, 9, 1, 2, 10, 11, 12, 13, 14, 15, 7, 16, 17, 18, 19, 20, 21, 22, 23, 24, 25, 26, 27, 28, 29, 30, 31, 32, 33, 34, 35, 36, 37, 38, 39, 40, 41, 42, 43, 44, 45, 46, 47, 48, 49, 50, 51, 52, 53, 54, 55, 56, 57, 58, 59, 60, 61, 62, 63, 64, 65, 66, 67, 68, 69, 70, 71, 72, 73, 74, 75, 76, 77, 78, 79, 80, 81, 82, 83] (by decide +kernel) (by decide +kernel)
set_option maxRecDepth 20000 in
theorem gX10_spendOf_X10_layOut : GoodIn wsX10_spendOf (wsV RX10 202 RX10 yX10_layOut wsX10_layOut) := goodIn_app (goodIn_of _ (by decide +kernel)) ggX10_spendOf_X10_layOut
set_option maxRecDepth 20000 in
theorem ggX10_spendOf_X10_makesOf : GoodIn wsX10_spendOf wsX10_makesOf := goodIn_r _ [28, 10, 44, 45, 46, 47, 48, 49, 50, 51, 52, 53, 54, 55, 56, 57, 58, 59, 60, 61, 62, 63, 64, 65, 66, 67, 68, 69, 70, 71, 72, 73, 74, 75, 76, 77, 78, 79, 80, 81, 82, 83] (by decide +kernel) (by decide +kernel)
set_option maxRecDepth 20000 in
theorem gX10_spendOf_X10_makesOf : GoodIn wsX10_spendOf (wsV RX10 175 RX10 yX10_makesOf wsX10_makesOf) := goodIn_app (goodIn_of _ (by decide +kernel)) ggX10_spendOf_X10_makesOf
set_option maxRecDepth 20000 in
theorem ggX10_spendOf_X10_ten : GoodIn wsX10_spendOf wsX10_ten := goodIn_r _ [20, 21] (by decide +kernel) (by decide +kernel)
set_option maxRecDepth 20000 in
theorem gX10_spendOf_X10_ten : GoodIn wsX10_spendOf (va_wsS RX10 167 yX10_ten wsX10_ten) := goodIn_app (goodIn_of _ (by decide +kernel)) ggX10_spendOf_X10_ten
set_option maxRecDepth 20000 in
theorem ggX10_spend_X10_areIn : GoodIn wsX10_spend wsX10_areIn := goodIn_r _ [5, 6, 7, 8, 9, 4, 10, 55, 56, 57, 58, 59, 60, 61, 62, 63, 64, 65, 66, 67, 68, 69, 70, 71, 72, 73, 74, 75, 76, 77, 78, 79, 80, 81, 82, 83, 84, 85, 86, 87, 88, 89, 90, 91, 92, 93, 94] (by decide +kernel) (by decide +kernel)
set_option maxRecDepth 20000 in
theorem gX10_spend_X10_areIn : GoodIn wsX10_spend (wsV RX10 198 RX10 yX10_areIn wsX10_areIn) := goodIn_app (goodIn_of _ (by decide +kernel)) ggX10_spend_X10_areIn
set_option maxRecDepth 20000 in
theorem ggX10_spend_X10_spendOf : GoodIn wsX10_spend wsX10_spendOf := goodIn_r _ [14, 6, 7, 15, 16, 17, 18, 4, 19, 20, 21, 22, 23, 24, 25, 26, 27, 28, 29, 30, 31, 32, 33, 34, 35, 36, 37, 38, 39, 40, 41, 42, 43, 44, 45, 46, 47, 48, 49, 50, 51, 52, 53, 54, 55, 56, 57, 58, 59, 60, 61, 62, 63, 64, 65, 66, 67, 68, 69, 70, 71, 72, 73, 74, 75, 76, 77, 78, 79, 80, 81, 82, 83, 84, 85, 86, 87, 88, 89, 90, 91, 92, 93, 94] (by decide +kernel) (by decide +kernel)
set_option maxRecDepth 20000 in
theorem gX10_spend_X10_spendOf : GoodIn wsX10_spend (wsV RX10 211 RX10 yX10_spendOf wsX10_spendOf) := goodIn_app (goodIn_of _ (by decide +kernel)) ggX10_spend_X10_spendOf
set_option maxRecDepth 20000 in
theorem ggX10_bat_X10_in : GoodIn wsX10_bat wsX10_in := goodIn_r _ [7] (by decide +kernel) (by decide +kernel)
set_option maxRecDepth 20000 in
theorem gX10_bat_X10_in : GoodIn wsX10_bat (va_wsS RX10 72 yX10_in wsX10_in) := goodIn_app (goodIn_of _ (by decide +kernel)) ggX10_bat_X10_in
set_option maxRecDepth 20000 in
theorem ggX10_anew_X10_firstAll : GoodIn wsX10_anew wsX10_firstAll := goodIn_r _ [7, 1, 8, 9, 10, 11, 12, 13, 14, 15, 16, 17, 18, 19, 20, 21, 22, 23, 24, 25, 26, 27, 28, 29, 30, 31, 32, 33, 34, 35, 36, 37, 38, 39, 40, 41, 42, 43, 44, 45, 46, 47, 48] (by decide +kernel) (by decide +kernel)
set_option maxRecDepth 20000 in
theorem gX10_anew_X10_firstAll : GoodIn wsX10_anew (wsV RX10 214 RX10 yX10_firstAll wsX10_firstAll) := goodIn_app (goodIn_of _ (by decide +kernel)) ggX10_anew_X10_firstAll
set_option maxRecDepth 20000 in
theorem ggX10_goTo_X10_begin : GoodIn wsX10_goTo wsX10_begin := goodIn_r _ [11, 12, 2, 13, 3, 5, 14, 15, 16, 17, 18, 19, 20, 10, 21, 22, 23, 24, 25, 26, 27, 28, 29, 30, 31, 32, 33, 34, 35, 36, 37, 38, 39, 40, 41, 42, 43, 44, 45, 46, 47, 48, 49, 50, 51, 52, 53, 54, 55, 56, 57, 58, 59, 60, 61, 62, 78, 79, 80, 81, 82, 83, 84, 85, 86, 87, 88, 89, 90, 91, 92, 93, 94, 95, 96, 97, 98, 99, 100, 101, 102, 103, 104, 105, 106, 107, 108, 109, 110, 111, 112, 113, 114, 115, 116, 117] (by decide +kernel) (by decide +kernel)
set_option maxRecDepth 20000 in
theorem gX10_goTo_X10_begin : GoodIn wsX10_goTo (wsV RX10 218 RX10 yX10_begin wsX10_begin) := goodIn_app (goodIn_of _ (by decide +kernel)) ggX10_goTo_X10_begin
set_option maxRecDepth 20000 in
theorem ggX10_goTo_X10_rest : GoodIn wsX10_goTo wsX10_rest := goodIn_r _ [37] (by decide +kernel) (by decide +kernel)
set_option maxRecDepth 20000 in
theorem gX10_goTo_X10_rest : GoodIn wsX10_goTo (va_wsS RX10 171 yX10_rest wsX10_rest) := goodIn_app (goodIn_of _ (by decide +kernel)) ggX10_goTo_X10_rest
set_option maxRecDepth 20000 in
theorem ggX10_goTo_X10_rained : GoodIn wsX10_goTo wsX10_rained := goodIn_r _ [66, 2, 15, 3, 16, 17, 5, 14, 67, 68, 69, 10, 70, 12, 13, 71, 18, 19, 20, 21, 22, 23, 24, 25, 26, 27, 28, 29, 30, 31, 32, 33, 34, 35, 36, 37, 38, 39, 40, 41, 42, 43, 44, 45, 46, 47, 48, 49, 50, 51, 52, 53, 54, 55, 56, 72, 73, 74, 75, 76, 77, 57, 58, 59, 60, 61, 62, 78, 79, 80, 81, 82, 83, 84, 85, 86, 87, 88, 89, 90, 91, 92, 93, 94, 95, 96, 97, 98, 99, 100, 101, 102, 103, 104, 105, 106, 107, 108, 109, 110, 111, 112, 113, 114, 115, 116, 117] (by decide +kernel) (by decide +kernel)
set_option maxRecDepth 20000 in
theorem gX10_goTo_X10_rained : GoodIn wsX10_goTo (wsV RX10 230 RX10 yX10_rained wsX10_rained) := goodIn_app (goodIn_of _ (by decide +kernel)) ggX10_goTo_X10_rained
set_option maxRecDepth 20000 in
theorem ggX10_begin_X10_layOut : GoodIn wsX10_begin wsX10_layOut := goodIn_r _ [14, 15, 1, 3, 16, 17, 18, 19, 20, 21, 13, 22, 23, 24, 25, 26, 27, 28, 29, 30, 31, 32, 33, 34, 35, 36, 37, 38, 39, 40, 41, 42, 43, 44, 45, 46, 47, 48, 49, 56, 57, 58, 59, 60, 61, 62, 63, 64, 65, 66, 67, 68, 69, 70, 71, 72, 73, 74, 75, 76, 77, 78, 79, 80, 81, 82, 83, 84, 85, 86, 87, 88, 89, 90, 91, 92, 93, 94, 95] (by decide +kernel) (by decide +kernel)
set_option maxRecDepth 20000 in
theorem gX10_begin_X10_layOut : GoodIn wsX10_begin (wsV RX10 202 RX10 yX10_layOut wsX10_layOut) := goodIn_app (goodIn_of _ (by decide +kernel)) ggX10_begin_X10_layOut
set_option maxRecDepth 20000 in
theorem ggX10_begin_X10_firstAll : GoodIn wsX10_begin wsX10_firstAll := goodIn_r _ [53, 54, 55, 56, 57, 58, 59, 60, 61, 62, 63, 64, 65, 66, 67, 68, 69, 70, 71, 72, 73, 74, 75, 76, 77, 78, 79, 80, 81, 82, 83, 84, 85, 86, 87, 88, 89, 90, 91, 92, 93, 94, 95] (by decide +kernel) (by decide +kernel)
set_option maxRecDepth 20000 in
theorem gX10_begin_X10_firstAll : GoodIn wsX10_begin (wsV RX10 214 RX10 yX10_firstAll wsX10_firstAll) := goodIn_app (goodIn_of _ (by decide +kernel)) ggX10_begin_X10_firstAll
set_option maxRecDepth 20000 in
theorem ggX10_bentOf_X10_firstAll : GoodIn wsX10_bentOf wsX10_firstAll := goodIn_r _ [8, 9, 10, 56, 57, 58, 59, 60, 61, 62, 63, 64, 65, 66, 67, 68, 69, 70, 71, 72, 73, 74, 75, 76, 77, 78, 79, 80, 81, 82, 83, 84, 85, 86, 87, 88, 89, 90, 91, 92, 93, 94, 95] (by decide +kernel) (by decide +kernel)
set_option maxRecDepth 20000 in
theorem gX10_bentOf_X10_firstAll : GoodIn wsX10_bentOf (wsV RX10 214 RX10 yX10_firstAll wsX10_firstAll) := goodIn_app (goodIn_of _ (by decide +kernel)) ggX10_bentOf_X10_firstAll
set_option maxRecDepth 20000 in
theorem ggX10_bentOf_X10_spendOf : GoodIn wsX10_bentOf wsX10_spendOf := goodIn_r _ [14, 3, 15, 16, 17, 18, 19, 7, 20, 21, 22, 23, 24, 25, 26, 27, 28, 29, 30, 31, 32, 33, 34, 35, 36, 37, 38, 39, 40, 41, 42, 43, 44, 45, 46, 47, 48, 49, 50, 51, 52, 53, 54, 55, 56, 57, 58, 59, 60, 61, 62, 63, 64, 65, 66, 67, 68, 69, 70, 71, 72, 73, 74, 75, 76, 77, 78, 79, 80, 81, 82, 83, 84, 85, 86, 87, 88, 89, 90, 91, 92, 93, 94, 95] (by decide +kernel) (by decide +kernel)
set_option maxRecDepth 20000 in
theorem gX10_bentOf_X10_spendOf : GoodIn wsX10_bentOf (wsV RX10 211 RX10 yX10_spendOf wsX10_spendOf) := goodIn_app (goodIn_of _ (by decide +kernel)) ggX10_bentOf_X10_spendOf
set_option maxRecDepth 20000 in
theorem ggX10_rained_X10_spendOf : GoodIn wsX10_rained wsX10_spendOf := goodIn_r _ [12, 13, 14, 15, 16, 17, 18, 11, 19, 20, 21, 22, 23, 24, 25, 26, 27, 28, 29, 30, 31, 32, 33, 34, 35, 36, 37, 38, 39, 40, 41, 42, 43, 44, 45, 46, 47, 48, 49, 50, 51, 52, 53, 54, 67, 68, 69, 70, 71, 72, 73, 74, 75, 76, 77, 78, 79, 80, 81, 82, 83, 84, 85, 86, 87, 88, 89, 90, 91, 92, 93, 94, 95, 96, 97, 98, 99, 100, 101, 102, 103, 104, 105, 106] (by decide +kernel) (by decide +kernel)
set_option maxRecDepth 20000 in
theorem gX10_rained_X10_spendOf : GoodIn wsX10_rained (wsV RX10 211 RX10 yX10_spendOf wsX10_spendOf) := goodIn_app (goodIn_of _ (by decide +kernel)) ggX10_rained_X10_spendOf
set_option maxRecDepth 20000 in
theorem ggX10_rained_X10_bentOf : GoodIn wsX10_rained wsX10_bentOf := goodIn_r _ [58, 59, 60, 13, 61, 62, 63, 11, 64, 65, 66, 8, 9, 10, 12, 14, 15, 16, 17, 18, 19, 20, 21, 22, 23, 24, 25, 26, 27, 28, 29, 30, 31, 32, 33, 34, 35, 36, 37, 38, 39, 40, 41, 42, 43, 44, 45, 46, 47, 48, 49, 50, 51, 52, 53, 54, 67, 68, 69, 70, 71, 72, 73, 74, 75, 76, 77, 78, 79, 80, 81, 82, 83, 84, 85, 86, 87, 88, 89, 90, 91, 92, 93, 94, 95, 96, 97, 98, 99, 100, 101, 102, 103, 104, 105, 106] (by decide +kernel) (by decide +kernel)
set_option maxRecDepth 20000 in
theorem gX10_rained_X10_bentOf : GoodIn wsX10_rained (wsV RX10 245 RX10 yX10_bentOf wsX10_bentOf) := goodIn_app (goodIn_of _ (by decide +kernel)) ggX10_rained_X10_bentOf
set_option maxRecDepth 20000 in
theorem ggX10_rained_X10_winsOf : GoodIn wsX10_rained wsX10_winsOf := goodIn_r _ [54, 22, 29, 30, 11, 31, 32, 67, 68, 69, 70, 71, 72, 73, 74, 75, 76, 77, 78, 79, 80, 81, 82, 83, 84, 85, 86, 87, 88, 89, 90, 91, 92, 93, 94, 95, 96, 97, 98, 99, 100, 101, 102, 103, 104, 105, 106] (by decide +kernel) (by decide +kernel)
set_option maxRecDepth 20000 in
theorem gX10_rained_X10_winsOf : GoodIn wsX10_rained (wsV RX10 179 RX10 yX10_winsOf wsX10_winsOf) := goodIn_app (goodIn_of _ (by decide +kernel)) ggX10_rained_X10_winsOf
set_option maxRecDepth 20000 in
theorem ggX10_rained_X10_ten : GoodIn wsX10_rained wsX10_ten := goodIn_r _ [31, 32] (by decide +kernel) (by decide +kernel)
set_option maxRecDepth 20000 in
theorem gX10_rained_X10_ten : GoodIn wsX10_rained (va_wsS RX10 167 yX10_ten wsX10_ten) := goodIn_app (goodIn_of _ (by decide +kernel)) ggX10_rained_X10_ten
set_option maxRecDepth 20000 in
theorem ggX10_worst_X10_firstAll : GoodIn wsX10_worst wsX10_firstAll := goodIn_r _ [10, 2, 3, 11, 12, 13, 14, 15, 16, 17, 18, 19, 20, 21, 22, 23, 24, 25, 26, 27, 28, 29, 30, 31, 32, 33, 34, 35, 36, 37, 38, 39, 40, 41, 42, 43, 44, 45, 46, 47, 48, 49, 50] (by decide +kernel) (by decide +kernel)
set_option maxRecDepth 20000 in
theorem gX10_worst_X10_firstAll : GoodIn wsX10_worst (wsV RX10 214 RX10 yX10_firstAll wsX10_firstAll) := goodIn_app (goodIn_of _ (by decide +kernel)) ggX10_worst_X10_firstAll
set_option maxRecDepth 20000 in
theorem ggX10_targetNow_X10_firstAll : GoodIn wsX10_targetNow wsX10_firstAll := goodIn_r _ [11, 12, 13, 19, 20, 21, 22, 23, 24, 25, 26, 27, 28, 29, 30, 31, 32, 33, 34, 35, 36, 37, 38, 39, 40, 41, 42, 43, 44, 45, 46, 47, 48, 49, 50, 51, 52, 53, 54, 55, 56, 57, 58] (by decide +kernel) (by decide +kernel)
set_option maxRecDepth 20000 in
theorem gX10_targetNow_X10_firstAll : GoodIn wsX10_targetNow (wsV RX10 214 RX10 yX10_firstAll wsX10_firstAll) := goodIn_app (goodIn_of _ (by decide +kernel)) ggX10_targetNow_X10_firstAll
set_option maxRecDepth 20000 in
theorem ggX10_targetNow_X10_worst : GoodIn wsX10_targetNow wsX10_worst := goodIn_r _ [17, 1, 12, 13, 18, 2, 7, 8, 9, 10, 11, 19, 20, 21, 22, 23, 24, 25, 26, 27, 28, 29, 30, 31, 32, 33, 34, 35, 36, 37, 38, 39, 40, 41, 42, 43, 44, 45, 46, 47, 48, 49, 50, 51, 52, 53, 54, 55, 56, 57, 58] (by decide +kernel) (by decide +kernel)
set_option maxRecDepth 20000 in
theorem gX10_targetNow_X10_worst : GoodIn wsX10_targetNow (wsV RX10 248 RX10 yX10_worst wsX10_worst) := goodIn_app (goodIn_of _ (by decide +kernel)) ggX10_targetNow_X10_worst
set_option maxRecDepth 20000 in
theorem ggX10_isRule_X10_in : GoodIn wsX10_isRule wsX10_in := goodIn_r _ [4] (by decide +kernel) (by decide +kernel)
set_option maxRecDepth 20000 in
theorem gX10_isRule_X10_in : GoodIn wsX10_isRule (va_wsS RX10 72 yX10_in wsX10_in) := goodIn_app (goodIn_of _ (by decide +kernel)) ggX10_isRule_X10_in
set_option maxRecDepth 20000 in
theorem ggX10_millionths_X10_ten : GoodIn wsX10_millionths wsX10_ten := goodIn_r _ [4, 5] (by decide +kernel) (by decide +kernel)
set_option maxRecDepth 20000 in
theorem gX10_millionths_X10_ten : GoodIn wsX10_millionths (va_wsS RX10 167 yX10_ten wsX10_ten) := goodIn_app (goodIn_of _ (by decide +kernel)) ggX10_millionths_X10_ten
set_option maxRecDepth 20000 in
theorem ggX10_oddsNow_X10_targetNow : GoodIn wsX10_oddsNow wsX10_targetNow := goodIn_r _ [8, 9, 10, 11, 12, 13, 14, 15, 16, 17, 7, 18, 19, 20, 21, 22, 23, 24, 25, 38, 39, 40, 41, 42, 43, 44, 45, 46, 47, 48, 49, 50, 51, 52, 53, 54, 55, 56, 57, 58, 59, 60, 61, 62, 63, 64, 65, 66, 67, 68, 69, 70, 71, 72, 73, 74, 75, 76, 77] (by decide +kernel) (by decide +kernel)
set_option maxRecDepth 20000 in
theorem gX10_oddsNow_X10_targetNow : GoodIn wsX10_oddsNow (wsV RX10 251 RX10 yX10_targetNow wsX10_targetNow) := goodIn_app (goodIn_of _ (by decide +kernel)) ggX10_oddsNow_X10_targetNow
set_option maxRecDepth 20000 in
theorem ggX10_oddsNow_X10_winsOf : GoodIn wsX10_oddsNow wsX10_winsOf := goodIn_r _ [29, 30, 31, 32, 7, 33, 34, 38, 39, 40, 41, 42, 43, 44, 45, 46, 47, 48, 49, 50, 51, 52, 53, 54, 55, 56, 57, 58, 59, 60, 61, 62, 63, 64, 65, 66, 67, 68, 69, 70, 71, 72, 73, 74, 75, 76, 77] (by decide +kernel) (by decide +kernel)
set_option maxRecDepth 20000 in
theorem gX10_oddsNow_X10_winsOf : GoodIn wsX10_oddsNow (wsV RX10 179 RX10 yX10_winsOf wsX10_winsOf) := goodIn_app (goodIn_of _ (by decide +kernel)) ggX10_oddsNow_X10_winsOf
set_option maxRecDepth 20000 in
theorem ggX10_oddsNow_X10_millionths : GoodIn wsX10_oddsNow wsX10_millionths := goodIn_r _ [37, 31, 32, 7, 33, 34] (by decide +kernel) (by decide +kernel)
set_option maxRecDepth 20000 in
theorem gX10_oddsNow_X10_millionths : GoodIn wsX10_oddsNow (va_wsS RX10 255 yX10_millionths wsX10_millionths) := goodIn_app (goodIn_of _ (by decide +kernel)) ggX10_oddsNow_X10_millionths
set_option maxRecDepth 20000 in
theorem ggX10_play_X10_in : GoodIn wsX10_play wsX10_in := goodIn_r _ [11] (by decide +kernel) (by decide +kernel)
set_option maxRecDepth 20000 in
theorem gX10_play_X10_in : GoodIn wsX10_play (va_wsS RX10 72 yX10_in wsX10_in) := goodIn_app (goodIn_of _ (by decide +kernel)) ggX10_play_X10_in
set_option maxRecDepth 20000 in
theorem ggX10_play_X10_goTo : GoodIn wsX10_play wsX10_goTo := goodIn_r _ [15, 4, 2, 3, 6, 7, 5, 16, 17, 18, 10, 19, 20, 21, 22, 23, 24, 25, 26, 27, 28, 29, 30, 31, 32, 33, 34, 35, 36, 37, 38, 39, 40, 41, 42, 43, 44, 45, 46, 47, 48, 49, 50, 51, 52, 53, 54, 55, 56, 57, 58, 59, 60, 61, 62, 63, 64, 65, 66, 67, 68, 69, 70, 71, 72, 73, 74, 75, 76, 77, 78, 79, 80, 81, 82, 83, 84, 85, 86, 87, 88, 89, 90, 91, 92, 93, 94, 95, 96, 97, 98, 99, 100, 101, 102, 103, 104, 105, 106, 107, 108, 109, 110, 111, 112, 113, 114, 115, 116, 117, 118, 119, 120, 121, 122, 123, 124, 125] (by decide +kernel) (by decide +kernel)
set_option maxRecDepth 20000 in
theorem gX10_play_X10_goTo : GoodIn wsX10_play (wsV RX10 259 RX10 yX10_goTo wsX10_goTo) := goodIn_app (goodIn_of _ (by decide +kernel)) ggX10_play_X10_goTo
set_option maxRecDepth 20000 in
theorem ggX10_rain_X10_in : GoodIn wsX10_rain wsX10_in := goodIn_r _ [9] (by decide +kernel) (by decide +kernel)
set_option maxRecDepth 20000 in
theorem gX10_rain_X10_in : GoodIn wsX10_rain (va_wsS RX10 72 yX10_in wsX10_in) := goodIn_app (goodIn_of _ (by decide +kernel)) ggX10_rain_X10_in
set_option maxRecDepth 20000 in
theorem ggX10_rain_X10_goTo : GoodIn wsX10_rain wsX10_goTo := goodIn_r _ [13, 3, 2, 14, 5, 15, 4, 16, 17, 18, 8, 19, 20, 21, 22, 23, 24, 25, 26, 27, 28, 29, 30, 31, 32, 33, 34, 35, 36, 37, 38, 39, 40, 41, 42, 43, 44, 45, 46, 47, 48, 49, 50, 51, 52, 53, 54, 55, 56, 57, 58, 59, 60, 61, 62, 63, 64, 65, 66, 67, 68, 69, 70, 71, 72, 73, 74, 75, 76, 77, 78, 79, 80, 81, 82, 83, 84, 85, 86, 87, 88, 89, 90, 91, 92, 93, 94, 95, 96, 97, 98, 99, 100, 101, 102, 103, 104, 105, 106, 107, 108, 109, 110, 111, 112, 113, 114, 115, 116, 117, 118, 119, 120, 121, 122, 123, 124, 125] (by decide +kernel) (by decide +kernel)
set_option maxRecDepth 20000 in
theorem gX10_rain_X10_goTo : GoodIn wsX10_rain (wsV RX10 259 RX10 yX10_goTo wsX10_goTo) := goodIn_app (goodIn_of _ (by decide +kernel)) ggX10_rain_X10_goTo
set_option maxRecDepth 20000 in
theorem ggX10_event_X10_in : GoodIn wsX10_event wsX10_in := goodIn_r _ [8] (by decide +kernel) (by decide +kernel)
set_option maxRecDepth 20000 in
theorem gX10_event_X10_in : GoodIn wsX10_event (va_wsS RX10 72 yX10_in wsX10_in) := goodIn_app (goodIn_of _ (by decide +kernel)) ggX10_event_X10_in
set_option maxRecDepth 20000 in
theorem ggX10_target_X10_isRule : GoodIn wsX10_target wsX10_isRule := goodIn_r _ [5, 6, 7, 4, 8] (by decide +kernel) (by decide +kernel)
set_option maxRecDepth 20000 in
theorem gX10_target_X10_isRule : GoodIn wsX10_target (va_wsS RX10 262 yX10_isRule wsX10_isRule) := goodIn_app (goodIn_of _ (by decide +kernel)) ggX10_target_X10_isRule
set_option maxRecDepth 20000 in
theorem ggX10_target_X10_goTo : GoodIn wsX10_target wsX10_goTo := goodIn_r _ [12, 13, 14, 15, 16, 17, 18, 19, 20, 21, 4, 22, 23, 24, 25, 26, 27, 28, 29, 30, 31, 32, 33, 34, 35, 36, 37, 38, 39, 40, 41, 42, 43, 44, 45, 46, 47, 48, 49, 50, 51, 52, 53, 54, 55, 56, 57, 58, 59, 60, 61, 62, 63, 64, 65, 66, 67, 68, 69, 70, 71, 72, 73, 74, 75, 76, 77, 78, 79, 80, 81, 82, 83, 84, 85, 86, 87, 88, 99, 100, 101, 102, 103, 104, 105, 106, 107, 108, 109, 110, 111, 112, 113, 114, 115, 116, 117, 118, 119, 120, 121, 122, 123, 124, 125, 126, 127, 128, 129, 130, 131, 132, 133, 134, 135, 136, 137, 138] (by decide +kernel) (by decide +kernel)
set_option maxRecDepth 20000 in
theorem gX10_target_X10_goTo : GoodIn wsX10_target (wsV RX10 259 RX10 yX10_goTo wsX10_goTo) := goodIn_app (goodIn_of _ (by decide +kernel)) ggX10_target_X10_goTo
set_option maxRecDepth 20000 in
theorem ggX10_target_X10_targetNow : GoodIn wsX10_target wsX10_targetNow := goodIn_r _ [92, 23, 25, 26, 27, 28, 93, 68, 69, 70, 4, 71, 72, 73, 94, 95, 96, 97, 98, 99, 100, 101, 102, 103, 104, 105, 106, 107, 108, 109, 110, 111, 112, 113, 114, 115, 116, 117, 118, 119, 120, 121, 122, 123, 124, 125, 126, 127, 128, 129, 130, 131, 132, 133, 134, 135, 136, 137, 138] (by decide +kernel) (by decide +kernel)
set_option maxRecDepth 20000 in
theorem gX10_target_X10_targetNow : GoodIn wsX10_target (wsV RX10 251 RX10 yX10_targetNow wsX10_targetNow) := goodIn_app (goodIn_of _ (by decide +kernel)) ggX10_target_X10_targetNow
set_option maxRecDepth 20000 in
theorem ggX10_odds_X10_isRule : GoodIn wsX10_odds wsX10_isRule := goodIn_r _ [5, 6, 7, 4, 8] (by decide +kernel) (by decide +kernel)
set_option maxRecDepth 20000 in
theorem gX10_odds_X10_isRule : GoodIn wsX10_odds (va_wsS RX10 262 yX10_isRule wsX10_isRule) := goodIn_app (goodIn_of _ (by decide +kernel)) ggX10_odds_X10_isRule
set_option maxRecDepth 20000 in
theorem ggX10_odds_X10_goTo : GoodIn wsX10_odds wsX10_goTo := goodIn_r _ [12, 13, 14, 15, 16, 17, 18, 19, 20, 21, 4, 22, 23, 24, 25, 26, 27, 28, 29, 30, 31, 32, 33, 34, 35, 36, 37, 38, 39, 40, 41, 42, 43, 44, 45, 46, 47, 48, 49, 50, 51, 52, 53, 54, 55, 56, 57, 58, 59, 60, 61, 62, 63, 64, 65, 66, 67, 68, 69, 70, 71, 72, 73, 74, 75, 76, 77, 78, 79, 80, 81, 82, 83, 84, 85, 86, 87, 88, 106, 107, 108, 109, 110, 111, 112, 113, 114, 115, 116, 117, 118, 119, 120, 121, 122, 123, 124, 125, 126, 127, 128, 129, 130, 131, 132, 133, 134, 135, 136, 137, 138, 139, 140, 141, 142, 143, 144, 145] (by decide +kernel) (by decide +kernel)
set_option maxRecDepth 20000 in
theorem gX10_odds_X10_goTo : GoodIn wsX10_odds (wsV RX10 259 RX10 yX10_goTo wsX10_goTo) := goodIn_app (goodIn_of _ (by decide +kernel)) ggX10_odds_X10_goTo
set_option maxRecDepth 20000 in
theorem ggX10_odds_X10_oddsNow : GoodIn wsX10_odds wsX10_oddsNow := goodIn_r _ [92, 14, 15, 17, 93, 94, 95, 4, 96, 23, 25, 26, 27, 28, 97, 68, 69, 70, 71, 72, 73, 98, 99, 100, 101, 102, 64, 65, 66, 67, 35, 42, 43, 44, 45, 103, 104, 105, 106, 107, 108, 109, 110, 111, 112, 113, 114, 115, 116, 117, 118, 119, 120, 121, 122, 123, 124, 125, 126, 127, 128, 129, 130, 131, 132, 133, 134, 135, 136, 137, 138, 139, 140, 141, 142, 143, 144, 145] (by decide +kernel) (by decide +kernel)
set_option maxRecDepth 20000 in
theorem gX10_odds_X10_oddsNow : GoodIn wsX10_odds (wsV RX10 265 RX10 yX10_oddsNow wsX10_oddsNow) := goodIn_app (goodIn_of _ (by decide +kernel)) ggX10_odds_X10_oddsNow
set_option maxRecDepth 20000 in
theorem ggX10_gain_X10_isRule : GoodIn wsX10_gain wsX10_isRule := goodIn_r _ [7, 8, 9, 6, 10] (by decide +kernel) (by decide +kernel)
set_option maxRecDepth 20000 in
theorem gX10_gain_X10_isRule : GoodIn wsX10_gain (va_wsS RX10 262 yX10_isRule wsX10_isRule) := goodIn_app (goodIn_of _ (by decide +kernel)) ggX10_gain_X10_isRule
set_option maxRecDepth 20000 in
theorem ggX10_gain_X10_goTo : GoodIn wsX10_gain wsX10_goTo := goodIn_r _ [14, 2, 15, 16, 17, 18, 19, 20, 21, 22, 6, 23, 24, 25, 26, 27, 28, 29, 30, 31, 32, 33, 34, 35, 36, 37, 38, 39, 40, 41, 42, 43, 44, 45, 46, 47, 48, 49, 50, 51, 52, 53, 54, 55, 56, 57, 58, 59, 60, 61, 62, 63, 64, 65, 66, 67, 68, 69, 70, 71, 72, 73, 74, 75, 76, 77, 78, 79, 80, 81, 82, 83, 84, 85, 86, 87, 88, 89, 107, 108, 109, 110, 111, 112, 113, 114, 115, 116, 117, 118, 119, 120, 121, 122, 123, 124, 125, 126, 127, 128, 129, 130, 131, 132, 133, 134, 135, 136, 137, 138, 139, 140, 141, 142, 143, 144, 145, 146] (by decide +kernel) (by decide +kernel)
set_option maxRecDepth 20000 in
theorem gX10_gain_X10_goTo : GoodIn wsX10_gain (wsV RX10 259 RX10 yX10_goTo wsX10_goTo) := goodIn_app (goodIn_of _ (by decide +kernel)) ggX10_gain_X10_goTo
set_option maxRecDepth 20000 in
theorem ggX10_gain_X10_oddsNow : GoodIn wsX10_gain wsX10_oddsNow := goodIn_r _ [93, 15, 16, 18, 94, 95, 96, 6, 97, 24, 26, 27, 28, 29, 98, 69, 70, 71, 72, 73, 74, 99, 100, 101, 102, 103, 65, 66, 67, 68, 36, 43, 44, 45, 46, 104, 105, 106, 107, 108, 109, 110, 111, 112, 113, 114, 115, 116, 117, 118, 119, 120, 121, 122, 123, 124, 125, 126, 127, 128, 129, 130, 131, 132, 133, 134, 135, 136, 137, 138, 139, 140, 141, 142, 143, 144, 145, 146] (by decide +kernel) (by decide +kernel)
set_option maxRecDepth 20000 in
theorem gX10_gain_X10_oddsNow : GoodIn wsX10_gain (wsV RX10 265 RX10 yX10_oddsNow wsX10_oddsNow) := goodIn_app (goodIn_of _ (by decide +kernel)) ggX10_gain_X10_oddsNow
set_option maxRecDepth 20000 in
theorem ggX10_won_X10_isRule : GoodIn wsX10_won wsX10_isRule := goodIn_r _ [8, 9, 10, 7, 11] (by decide +kernel) (by decide +kernel)
set_option maxRecDepth 20000 in
theorem gX10_won_X10_isRule : GoodIn wsX10_won (va_wsS RX10 262 yX10_isRule wsX10_isRule) := goodIn_app (goodIn_of _ (by decide +kernel)) ggX10_won_X10_isRule
set_option maxRecDepth 20000 in
theorem ggX10_won_X10_goTo : GoodIn wsX10_won wsX10_goTo := goodIn_r _ [15, 16, 3, 4, 17, 2, 18, 19, 20, 21, 7, 22, 23, 24, 25, 26, 27, 28, 29, 30, 31, 32, 33, 34, 35, 36, 37, 38, 39, 40, 41, 42, 43, 44, 45, 46, 47, 48, 49, 50, 51, 52, 53, 54, 55, 56, 57, 58, 59, 60, 61, 62, 63, 64, 65, 66, 67, 68, 69, 70, 71, 72, 73, 74, 75, 76, 77, 78, 79, 80, 81, 82, 83, 84, 85, 86, 87, 88, 99, 100, 101, 102, 103, 104, 105, 106, 107, 108, 109, 110, 111, 112, 113, 114, 115, 116, 117, 118, 119, 120, 121, 122, 123, 124, 125, 126, 127, 128, 129, 130, 131, 132, 133, 134, 135, 136, 137, 138] (by decide +kernel) (by decide +kernel)
set_option maxRecDepth 20000 in
theorem gX10_won_X10_goTo : GoodIn wsX10_won (wsV RX10 259 RX10 yX10_goTo wsX10_goTo) := goodIn_app (goodIn_of _ (by decide +kernel)) ggX10_won_X10_goTo
set_option maxRecDepth 20000 in
theorem ggX10_won_X10_targetNow : GoodIn wsX10_won wsX10_targetNow := goodIn_r _ [92, 23, 25, 26, 27, 28, 93, 68, 69, 70, 7, 71, 72, 73, 94, 95, 96, 97, 98, 99, 100, 101, 102, 103, 104, 105, 106, 107, 108, 109, 110, 111, 112, 113, 114, 115, 116, 117, 118, 119, 120, 121, 122, 123, 124, 125, 126, 127, 128, 129, 130, 131, 132, 133, 134, 135, 136, 137, 138] (by decide +kernel) (by decide +kernel)
set_option maxRecDepth 20000 in
theorem gX10_won_X10_targetNow : GoodIn wsX10_won (wsV RX10 251 RX10 yX10_targetNow wsX10_targetNow) := goodIn_app (goodIn_of _ (by decide +kernel)) ggX10_won_X10_targetNow
set_option maxRecDepth 20000 in
theorem ggX10_odd_X10_isRule : GoodIn wsX10_odd wsX10_isRule := goodIn_r _ [6, 7, 8, 5, 9] (by decide +kernel) (by decide +kernel)
set_option maxRecDepth 20000 in
theorem gX10_odd_X10_isRule : GoodIn wsX10_odd (va_wsS RX10 262 yX10_isRule wsX10_isRule) := goodIn_app (goodIn_of _ (by decide +kernel)) ggX10_odd_X10_isRule
set_option maxRecDepth 20000 in
theorem ggX10_odd_X10_begin : GoodIn wsX10_odd wsX10_begin := goodIn_r _ [13, 1, 2, 14, 15, 16, 17, 18, 19, 20, 21, 22, 23, 5, 24, 25, 26, 27, 28, 29, 30, 31, 32, 33, 34, 35, 36, 37, 38, 39, 40, 41, 42, 43, 44, 45, 46, 47, 48, 49, 50, 51, 52, 53, 54, 55, 56, 57, 58, 59, 60, 61, 62, 63, 64, 65, 91, 92, 93, 94, 95, 96, 97, 98, 99, 100, 101, 102, 103, 104, 105, 106, 107, 108, 109, 110, 111, 112, 113, 114, 115, 116, 117, 118, 119, 120, 121, 122, 123, 124, 125, 126, 127, 128, 129, 130] (by decide +kernel) (by decide +kernel)
set_option maxRecDepth 20000 in
theorem gX10_odd_X10_begin : GoodIn wsX10_odd (wsV RX10 218 RX10 yX10_begin wsX10_begin) := goodIn_app (goodIn_of _ (by decide +kernel)) ggX10_odd_X10_begin
set_option maxRecDepth 20000 in
theorem ggX10_odd_X10_firstAll : GoodIn wsX10_odd wsX10_firstAll := goodIn_r _ [63, 64, 65, 91, 92, 93, 94, 95, 96, 97, 98, 99, 100, 101, 102, 103, 104, 105, 106, 107, 108, 109, 110, 111, 112, 113, 114, 115, 116, 117, 118, 119, 120, 121, 122, 123, 124, 125, 126, 127, 128, 129, 130] (by decide +kernel) (by decide +kernel)
set_option maxRecDepth 20000 in
theorem gX10_odd_X10_firstAll : GoodIn wsX10_odd (wsV RX10 214 RX10 yX10_firstAll wsX10_firstAll) := goodIn_app (goodIn_of _ (by decide +kernel)) ggX10_odd_X10_firstAll
set_option maxRecDepth 20000 in
theorem ggX10_odd_X10_rained : GoodIn wsX10_odd wsX10_rained := goodIn_r _ [69, 2, 18, 15, 19, 20, 16, 17, 70, 71, 72, 5, 73, 1, 14, 74, 21, 22, 23, 24, 25, 26, 27, 28, 29, 30, 31, 32, 33, 34, 35, 36, 37, 38, 39, 40, 41, 42, 43, 44, 45, 46, 47, 48, 49, 50, 51, 52, 53, 54, 55, 56, 57, 58, 59, 75, 76, 77, 78, 79, 80, 60, 61, 62, 63, 64, 65, 91, 92, 93, 94, 95, 96, 97, 98, 99, 100, 101, 102, 103, 104, 105, 106, 107, 108, 109, 110, 111, 112, 113, 114, 115, 116, 117, 118, 119, 120, 121, 122, 123, 124, 125, 126, 127, 128, 129, 130] (by decide +kernel) (by decide +kernel)
set_option maxRecDepth 20000 in
theorem gX10_odd_X10_rained : GoodIn wsX10_odd (wsV RX10 230 RX10 yX10_rained wsX10_rained) := goodIn_app (goodIn_of _ (by decide +kernel)) ggX10_odd_X10_rained
set_option maxRecDepth 20000 in
theorem ggX10_odd_X10_targetNow : GoodIn wsX10_odd wsX10_targetNow := goodIn_r _ [84, 1, 17, 18, 19, 20, 85, 60, 61, 62, 5, 63, 64, 65, 86, 87, 88, 89, 90, 91, 92, 93, 94, 95, 96, 97, 98, 99, 100, 101, 102, 103, 104, 105, 106, 107, 108, 109, 110, 111, 112, 113, 114, 115, 116, 117, 118, 119, 120, 121, 122, 123, 124, 125, 126, 127, 128, 129, 130] (by decide +kernel) (by decide +kernel)
set_option maxRecDepth 20000 in
theorem gX10_odd_X10_targetNow : GoodIn wsX10_odd (wsV RX10 251 RX10 yX10_targetNow wsX10_targetNow) := goodIn_app (goodIn_of _ (by decide +kernel)) ggX10_odd_X10_targetNow
set_option maxRecDepth 20000 in
theorem ggX10_sheetOf_X10_begin : GoodIn wsX10_sheetOf wsX10_begin := goodIn_r _ [5, 6, 7, 8, 9, 10, 11, 12, 13, 14, 15, 16, 17, 4, 18, 19, 20, 21, 22, 23, 24, 25, 26, 27, 28, 29, 30, 31, 32, 33, 34, 35, 36, 37, 38, 39, 40, 41, 42, 43, 44, 45, 46, 47, 48, 49, 50, 51, 52, 53, 54, 55, 56, 57, 58, 59, 85, 86, 87, 88, 89, 90, 91, 92, 93, 94, 95, 96, 97, 98, 99, 100, 101, 102, 103, 104, 105, 106, 107, 108, 109, 110, 111, 112, 113, 114, 115, 116, 117, 118, 119, 120, 121, 122, 123, 124] (by decide +kernel) (by decide +kernel)
set_option maxRecDepth 20000 in
theorem gX10_sheetOf_X10_begin : GoodIn wsX10_sheetOf (wsV RX10 218 RX10 yX10_begin wsX10_begin) := goodIn_app (goodIn_of _ (by decide +kernel)) ggX10_sheetOf_X10_begin
set_option maxRecDepth 20000 in
theorem ggX10_sheetOf_X10_rained : GoodIn wsX10_sheetOf wsX10_rained := goodIn_r _ [63, 7, 12, 9, 13, 14, 10, 11, 64, 65, 66, 4, 67, 6, 8, 68, 15, 16, 17, 18, 19, 20, 21, 22, 23, 24, 25, 26, 27, 28, 29, 30, 31, 32, 33, 34, 35, 36, 37, 38, 39, 40, 41, 42, 43, 44, 45, 46, 47, 48, 49, 50, 51, 52, 53, 69, 70, 71, 72, 73, 74, 54, 55, 56, 57, 58, 59, 85, 86, 87, 88, 89, 90, 91, 92, 93, 94, 95, 96, 97, 98, 99, 100, 101, 102, 103, 104, 105, 106, 107, 108, 109, 110, 111, 112, 113, 114, 115, 116, 117, 118, 119, 120, 121, 122, 123, 124] (by decide +kernel) (by decide +kernel)
set_option maxRecDepth 20000 in
theorem gX10_sheetOf_X10_rained : GoodIn wsX10_sheetOf (wsV RX10 230 RX10 yX10_rained wsX10_rained) := goodIn_app (goodIn_of _ (by decide +kernel)) ggX10_sheetOf_X10_rained
set_option maxRecDepth 20000 in
theorem ggX10_sheetOf_X10_targetNow : GoodIn wsX10_sheetOf wsX10_targetNow := goodIn_r _ [78, 6, 11, 12, 13, 14, 79, 54, 55, 56, 4, 57, 58, 59, 80, 81, 82, 83, 84, 85, 86, 87, 88, 89, 90, 91, 92, 93, 94, 95, 96, 97, 98, 99, 100, 101, 102, 103, 104, 105, 106, 107, 108, 109, 110, 111, 112, 113, 114, 115, 116, 117, 118, 119, 120, 121, 122, 123, 124] (by decide +kernel) (by decide +kernel)
set_option maxRecDepth 20000 in
theorem gX10_sheetOf_X10_targetNow : GoodIn wsX10_sheetOf (wsV RX10 251 RX10 yX10_targetNow wsX10_targetNow) := goodIn_app (goodIn_of _ (by decide +kernel)) ggX10_sheetOf_X10_targetNow
set_option maxRecDepth 20000 in
theorem ggX10_sheet_X10_isRule : GoodIn wsX10_sheet wsX10_isRule := goodIn_r _ [5, 6, 7, 4, 8] (by decide +kernel) (by decide +kernel)
set_option maxRecDepth 20000 in
theorem gX10_sheet_X10_isRule : GoodIn wsX10_sheet (va_wsS RX10 262 yX10_isRule wsX10_isRule) := goodIn_app (goodIn_of _ (by decide +kernel)) ggX10_sheet_X10_isRule
set_option maxRecDepth 20000 in
theorem ggX10_sheet_X10_in : GoodIn wsX10_sheet wsX10_in := goodIn_r _ [8] (by decide +kernel) (by decide +kernel)
set_option maxRecDepth 20000 in
theorem gX10_sheet_X10_in : GoodIn wsX10_sheet (va_wsS RX10 72 yX10_in wsX10_in) := goodIn_app (goodIn_of _ (by decide +kernel)) ggX10_sheet_X10_in
set_option maxRecDepth 20000 in
theorem ggX10_sheet_X10_sheetOf : GoodIn wsX10_sheet wsX10_sheetOf := goodIn_r _ [12, 13, 14, 15, 4, 16, 1, 17, 18, 19, 20, 21, 22, 23, 24, 25, 26, 27, 28, 29, 30, 31, 32, 33, 34, 35, 36, 37, 38, 39, 40, 41, 42, 43, 44, 45, 46, 47, 48, 49, 50, 51, 52, 53, 54, 55, 56, 57, 58, 59, 60, 61, 62, 63, 64, 65, 66, 67, 68, 69, 70, 71, 72, 73, 74, 75, 76, 77, 78, 79, 80, 81, 82, 83, 84, 85, 86, 87, 88, 89, 90, 91, 92, 93, 94, 95, 96, 97, 98, 99, 100, 101, 102, 103, 104, 105, 106, 107, 108, 109, 110, 111, 112, 113, 114, 115, 116, 117, 118, 119, 120, 121, 122, 123, 124, 125, 126, 127, 128, 129, 130, 131, 132, 133, 134] (by decide +kernel) (by decide +kernel)
set_option maxRecDepth 20000 in
theorem gX10_sheet_X10_sheetOf : GoodIn wsX10_sheet (wsV RX10 269 RX10 yX10_sheetOf wsX10_sheetOf) := goodIn_app (goodIn_of _ (by decide +kernel)) ggX10_sheet_X10_sheetOf
set_option maxRecDepth 20000 in
theorem ggX10_clouded_X10_isRule : GoodIn wsX10_clouded wsX10_isRule := goodIn_r _ [8, 9, 10, 7, 11] (by decide +kernel) (by decide +kernel)
set_option maxRecDepth 20000 in
theorem gX10_clouded_X10_isRule : GoodIn wsX10_clouded (va_wsS RX10 262 yX10_isRule wsX10_isRule) := goodIn_app (goodIn_of _ (by decide +kernel)) ggX10_clouded_X10_isRule
set_option maxRecDepth 20000 in
theorem ggX10_clouded_X10_sheetOf : GoodIn wsX10_clouded wsX10_sheetOf := goodIn_r _ [15, 16, 17, 18, 7, 19, 2, 20, 3, 21, 22, 23, 24, 25, 26, 27, 28, 29, 30, 31, 32, 33, 34, 35, 36, 37, 38, 39, 40, 41, 42, 43, 44, 45, 46, 47, 48, 49, 50, 51, 52, 53, 54, 55, 56, 57, 58, 59, 60, 61, 62, 63, 64, 65, 66, 67, 68, 69, 70, 71, 72, 73, 74, 75, 76, 77, 78, 79, 80, 81, 82, 83, 84, 85, 86, 87, 88, 89, 90, 91, 92, 93, 94, 95, 96, 100, 101, 102, 103, 104, 105, 106, 107, 108, 109, 110, 111, 112, 113, 114, 115, 116, 117, 118, 119, 120, 121, 122, 123, 124, 125, 126, 127, 128, 129, 130, 131, 132, 133, 134, 135, 136, 137, 138, 139] (by decide +kernel) (by decide +kernel)
set_option maxRecDepth 20000 in
theorem gX10_clouded_X10_sheetOf : GoodIn wsX10_clouded (wsV RX10 269 RX10 yX10_sheetOf wsX10_sheetOf) := goodIn_app (goodIn_of _ (by decide +kernel)) ggX10_clouded_X10_sheetOf
set_option maxRecDepth 20000 in
theorem ggX10_clouded_X10_winsOf : GoodIn wsX10_clouded wsX10_winsOf := goodIn_r _ [65, 33, 40, 41, 7, 42, 43, 100, 101, 102, 103, 104, 105, 106, 107, 108, 109, 110, 111, 112, 113, 114, 115, 116, 117, 118, 119, 120, 121, 122, 123, 124, 125, 126, 127, 128, 129, 130, 131, 132, 133, 134, 135, 136, 137, 138, 139] (by decide +kernel) (by decide +kernel)
set_option maxRecDepth 20000 in
theorem gX10_clouded_X10_winsOf : GoodIn wsX10_clouded (wsV RX10 179 RX10 yX10_winsOf wsX10_winsOf) := goodIn_app (goodIn_of _ (by decide +kernel)) ggX10_clouded_X10_winsOf
set_option maxRecDepth 20000 in
theorem ggX10_clouded_X10_ten : GoodIn wsX10_clouded wsX10_ten := goodIn_r _ [42, 43] (by decide +kernel) (by decide +kernel)
set_option maxRecDepth 20000 in
theorem gX10_clouded_X10_ten : GoodIn wsX10_clouded (va_wsS RX10 167 yX10_ten wsX10_ten) := goodIn_app (goodIn_of _ (by decide +kernel)) ggX10_clouded_X10_ten
set_option maxRecDepth 20000 in
theorem ggX10_clouded_X10_firstAll : GoodIn wsX10_clouded wsX10_firstAll := goodIn_r _ [69, 70, 71, 100, 101, 102, 103, 104, 105, 106, 107, 108, 109, 110, 111, 112, 113, 114, 115, 116, 117, 118, 119, 120, 121, 122, 123, 124, 125, 126, 127, 128, 129, 130, 131, 132, 133, 134, 135, 136, 137, 138, 139] (by decide +kernel) (by decide +kernel)
set_option maxRecDepth 20000 in
theorem gX10_clouded_X10_firstAll : GoodIn wsX10_clouded (wsV RX10 214 RX10 yX10_firstAll wsX10_firstAll) := goodIn_app (goodIn_of _ (by decide +kernel)) ggX10_clouded_X10_firstAll
set_option maxRecDepth 20000 in
theorem ggX10_clouded_X10_millionths : GoodIn wsX10_clouded wsX10_millionths := goodIn_r _ [99, 40, 41, 7, 42, 43] (by decide +kernel) (by decide +kernel)
set_option maxRecDepth 20000 in
theorem gX10_clouded_X10_millionths : GoodIn wsX10_clouded (va_wsS RX10 255 yX10_millionths wsX10_millionths) := goodIn_app (goodIn_of _ (by decide +kernel)) ggX10_clouded_X10_millionths
set_option maxRecDepth 20000 in
theorem ggX10_simple_X10_in : GoodIn wsX10_simple wsX10_in := goodIn_r _ [7] (by decide +kernel) (by decide +kernel)
set_option maxRecDepth 20000 in
theorem gX10_simple_X10_in : GoodIn wsX10_simple (va_wsS RX10 72 yX10_in wsX10_in) := goodIn_app (goodIn_of _ (by decide +kernel)) ggX10_simple_X10_in
set_option maxRecDepth 20000 in
theorem ggX10_simple_X10_sheetOf : GoodIn wsX10_simple wsX10_sheetOf := goodIn_r _ [11, 12, 13, 14, 6, 15, 2, 16, 17, 18, 19, 20, 21, 22, 3, 23, 24, 25, 26, 27, 28, 29, 30, 31, 32, 33, 34, 35, 36, 37, 38, 39, 40, 41, 42, 43, 44, 45, 46, 47, 48, 49, 50, 51, 52, 53, 54, 55, 56, 57, 58, 59, 60, 61, 62, 63, 64, 65, 66, 67, 68, 69, 70, 71, 72, 73, 74, 75, 76, 77, 78, 79, 80, 81, 82, 83, 84, 85, 86, 1, 87, 88, 89, 90, 91, 92, 93, 94, 95, 96, 97, 98, 99, 100, 101, 102, 103, 104, 105, 106, 107, 108, 109, 110, 111, 112, 113, 114, 115, 116, 117, 118, 119, 120, 121, 122, 123, 124, 125, 126, 127, 128, 129, 130, 131] (by decide +kernel) (by decide +kernel)
set_option maxRecDepth 20000 in
theorem gX10_simple_X10_sheetOf : GoodIn wsX10_simple (wsV RX10 269 RX10 yX10_sheetOf wsX10_sheetOf) := goodIn_app (goodIn_of _ (by decide +kernel)) ggX10_simple_X10_sheetOf
set_option maxRecDepth 20000 in
theorem ggX10_match_X10_in : GoodIn wsX10_match wsX10_in := goodIn_r _ [8] (by decide +kernel) (by decide +kernel)
set_option maxRecDepth 20000 in
theorem gX10_match_X10_in : GoodIn wsX10_match (va_wsS RX10 72 yX10_in wsX10_in) := goodIn_app (goodIn_of _ (by decide +kernel)) ggX10_match_X10_in
set_option maxRecDepth 20000 in
theorem ggX10_tried_X10_layOut : GoodIn wsX10_tried wsX10_layOut := goodIn_r _ [9, 10, 11, 12, 13, 14, 15, 16, 17, 18, 8, 19, 20, 21, 22, 23, 24, 25, 26, 27, 28, 29, 30, 31, 32, 33, 34, 35, 36, 37, 38, 39, 40, 41, 42, 43, 44, 45, 46, 54, 55, 56, 57, 58, 59, 60, 61, 62, 63, 64, 65, 66, 67, 68, 69, 70, 71, 72, 73, 74, 75, 76, 77, 78, 79, 80, 81, 82, 83, 84, 85, 86, 87, 88, 89, 90, 91, 92, 93] (by decide +kernel) (by decide +kernel)
set_option maxRecDepth 20000 in
theorem gX10_tried_X10_layOut : GoodIn wsX10_tried (wsV RX10 202 RX10 yX10_layOut wsX10_layOut) := goodIn_app (goodIn_of _ (by decide +kernel)) ggX10_tried_X10_layOut
set_option maxRecDepth 20000 in
theorem ggX10_tried_X10_areIn : GoodIn wsX10_tried wsX10_areIn := goodIn_r _ [50, 11, 12, 51, 52, 8, 53, 54, 55, 56, 57, 58, 59, 60, 61, 62, 63, 64, 65, 66, 67, 68, 69, 70, 71, 72, 73, 74, 75, 76, 77, 78, 79, 80, 81, 82, 83, 84, 85, 86, 87, 88, 89, 90, 91, 92, 93] (by decide +kernel) (by decide +kernel)
set_option maxRecDepth 20000 in
theorem gX10_tried_X10_areIn : GoodIn wsX10_tried (wsV RX10 198 RX10 yX10_areIn wsX10_areIn) := goodIn_app (goodIn_of _ (by decide +kernel)) ggX10_tried_X10_areIn
set_option maxRecDepth 20000 in
theorem ggX10_tried_X10_makesOf : GoodIn wsX10_tried wsX10_makesOf := goodIn_r _ [31, 13, 54, 55, 56, 57, 58, 59, 60, 61, 62, 63, 64, 65, 66, 67, 68, 69, 70, 71, 72, 73, 74, 75, 76, 77, 78, 79, 80, 81, 82, 83, 84, 85, 86, 87, 88, 89, 90, 91, 92, 93] (by decide +kernel) (by decide +kernel)
set_option maxRecDepth 20000 in
theorem gX10_tried_X10_makesOf : GoodIn wsX10_tried (wsV RX10 175 RX10 yX10_makesOf wsX10_makesOf) := goodIn_app (goodIn_of _ (by decide +kernel)) ggX10_tried_X10_makesOf
set_option maxRecDepth 20000 in
theorem ggX10_tried_X10_ten : GoodIn wsX10_tried wsX10_ten := goodIn_r _ [23, 24] (by decide +kernel) (by decide +kernel)
set_option maxRecDepth 20000 in
theorem gX10_tried_X10_ten : GoodIn wsX10_tried (va_wsS RX10 167 yX10_ten wsX10_ten) := goodIn_app (goodIn_of _ (by decide +kernel)) ggX10_tried_X10_ten
set_option maxRecDepth 20000 in
theorem ggX10_count_X10_goTo : GoodIn wsX10_count wsX10_goTo := goodIn_r _ [14, 15, 5, 6, 16, 7, 17, 18, 19, 20, 13, 21, 2, 3, 22, 23, 24, 25, 26, 27, 28, 29, 30, 31, 32, 33, 34, 35, 36, 37, 38, 39, 40, 41, 42, 43, 44, 45, 46, 47, 48, 49, 50, 51, 52, 53, 54, 55, 56, 57, 58, 59, 60, 61, 62, 63, 64, 65, 66, 67, 68, 69, 70, 71, 72, 73, 74, 75, 76, 77, 78, 79, 80, 81, 82, 83, 84, 85, 86, 87, 88, 89, 90, 91, 92, 93, 94, 95, 96, 97, 98, 99, 100, 101, 102, 103, 104, 105, 106, 107, 108, 109, 110, 111, 112, 113, 114, 115, 116, 117, 118, 119, 120, 121, 122, 123, 124, 125] (by decide +kernel) (by decide +kernel)
set_option maxRecDepth 20000 in
theorem gX10_count_X10_goTo : GoodIn wsX10_count (wsV RX10 259 RX10 yX10_goTo wsX10_goTo) := goodIn_app (goodIn_of _ (by decide +kernel)) ggX10_count_X10_goTo
set_option maxRecDepth 20000 in
theorem ggX10_count_X10_firstAll : GoodIn wsX10_count wsX10_firstAll := goodIn_r _ [68, 69, 70, 86, 87, 88, 89, 90, 91, 92, 93, 94, 95, 96, 97, 98, 99, 100, 101, 102, 103, 104, 105, 106, 107, 108, 109, 110, 111, 112, 113, 114, 115, 116, 117, 118, 119, 120, 121, 122, 123, 124, 125] (by decide +kernel) (by decide +kernel)
set_option maxRecDepth 20000 in
theorem gX10_count_X10_firstAll : GoodIn wsX10_count (wsV RX10 214 RX10 yX10_firstAll wsX10_firstAll) := goodIn_app (goodIn_of _ (by decide +kernel)) ggX10_count_X10_firstAll
