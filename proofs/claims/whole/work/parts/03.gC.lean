set_option maxRecDepth 20000 in
theorem ggX0_learn_J7_fill_d0a16 : GoodIn wsX0_learn wsJ7_fill_d0a16 := goodIn_r _ [10] (by decide +kernel) (by decide +kernel)
set_option maxRecDepth 20000 in
theorem gX0_learn_J7_fill_d0a16 : GoodIn wsX0_learn (va_wsS RX0 22 yJ7_fill_d0a16 wsJ7_fill_d0a16) := goodIn_app (goodIn_of _ (by decide +kernel)) ggX0_learn_J7_fill_d0a16
set_option maxRecDepth 20000 in
theorem ggX0_learn_X0_meanIn : GoodIn wsX0_learn wsX0_meanIn := goodIn_r _ [15, 16, 17, 18, 19, 20, 21, 22, 23, 24, 25, 26, 27, 28, 29, 30, 31, 32, 14, 33, 6, 34, 35, 36, 37, 38, 39, 40] (by decide +kernel) (by decide +kernel)
set_option maxRecDepth 20000 in
theorem gX0_learn_X0_meanIn : GoodIn wsX0_learn (wsV RX0 28 RX0 yX0_meanIn wsX0_meanIn) := goodIn_app (goodIn_of _ (by decide +kernel)) ggX0_learn_X0_meanIn
set_option maxRecDepth 20000 in
theorem ggX0_mean_X9_within : GoodIn wsX0_mean wsX9_within := goodIn_r _ [4] (by decide +kernel) (by decide +kernel)
set_option maxRecDepth 20000 in
theorem gX0_mean_X9_within_n38 : GoodIn wsX0_mean (wsX9_within) := ggX0_mean_X9_within
set_option maxRecDepth 20000 in
theorem ggX0_meanIn_X3_size : GoodIn wsX0_meanIn wsX3_size := goodIn_r _ [5, 6, 26, 27] (by decide +kernel) (by decide +kernel)
set_option maxRecDepth 20000 in
theorem gX0_meanIn_X3_size_n42 : GoodIn wsX0_meanIn (wsX3_size) := ggX0_meanIn_X3_size
set_option maxRecDepth 20000 in
theorem ggX0_meanIn_X3_part : GoodIn wsX0_meanIn wsX3_part := goodIn_r _ [9, 10, 26, 27] (by decide +kernel) (by decide +kernel)
set_option maxRecDepth 20000 in
theorem gX0_meanIn_X3_part_n48 : GoodIn wsX0_meanIn (wsX3_part) := ggX0_meanIn_X3_part
set_option maxRecDepth 20000 in
theorem ggX0_meanIn_X9_power : GoodIn wsX0_meanIn wsX9_power := goodIn_r _ [13, 14] (by decide +kernel) (by decide +kernel)
set_option maxRecDepth 20000 in
theorem gX0_meanIn_X9_power_n52 : GoodIn wsX0_meanIn (wsX9_power) := ggX0_meanIn_X9_power
set_option maxRecDepth 20000 in
theorem ggX0_meanIn_X0_mean : GoodIn wsX0_meanIn wsX0_mean := goodIn_r _ [19, 20, 21, 12, 22, 23, 24, 25] (by decide +kernel) (by decide +kernel)
set_option maxRecDepth 20000 in
theorem gX0_meanIn_X0_mean : GoodIn wsX0_meanIn (wsV RX0 56 RX0 yX0_mean wsX0_mean) := goodIn_app (goodIn_of _ (by decide +kernel)) ggX0_meanIn_X0_mean
set_option maxRecDepth 20000 in
theorem ggX0_chance_X9_power : GoodIn wsX0_chance wsX9_power := goodIn_r _ [8, 9] (by decide +kernel) (by decide +kernel)
set_option maxRecDepth 20000 in
theorem gX0_chance_X9_power_n52 : GoodIn wsX0_chance (wsX9_power) := ggX0_chance_X9_power
set_option maxRecDepth 20000 in
theorem ggX0_chance_X9_within : GoodIn wsX0_chance wsX9_within := goodIn_r _ [11] (by decide +kernel) (by decide +kernel)
set_option maxRecDepth 20000 in
theorem gX0_chance_X9_within_n38 : GoodIn wsX0_chance (wsX9_within) := ggX0_chance_X9_within
set_option maxRecDepth 20000 in
theorem ggX0_chance_X0_chanceIn : GoodIn wsX0_chance wsX0_chanceIn := goodIn_r _ [16, 17, 18, 19, 20, 21, 22, 23, 24, 25, 26, 27, 28, 29, 15, 0, 1, 2, 3, 4, 5, 6, 7, 8, 9, 10, 11, 12, 13, 14, 30, 31, 32, 33, 34] (by decide +kernel) (by decide +kernel)
set_option maxRecDepth 20000 in
theorem gX0_chance_X0_chanceIn : GoodIn wsX0_chance (wsV RX0 60 RX0 yX0_chanceIn wsX0_chanceIn) := goodIn_app (goodIn_of _ (by decide +kernel)) ggX0_chance_X0_chanceIn
set_option maxRecDepth 20000 in
theorem ggX0_chanceIn_X3_size : GoodIn wsX0_chanceIn wsX3_size := goodIn_r _ [5, 6, 33, 34] (by decide +kernel) (by decide +kernel)
set_option maxRecDepth 20000 in
theorem gX0_chanceIn_X3_size_n42 : GoodIn wsX0_chanceIn (wsX3_size) := ggX0_chanceIn_X3_size
set_option maxRecDepth 20000 in
theorem ggX0_chanceIn_X3_part : GoodIn wsX0_chanceIn wsX3_part := goodIn_r _ [9, 10, 33, 34] (by decide +kernel) (by decide +kernel)
set_option maxRecDepth 20000 in
theorem gX0_chanceIn_X3_part_n48 : GoodIn wsX0_chanceIn (wsX3_part) := ggX0_chanceIn_X3_part
set_option maxRecDepth 20000 in
theorem ggX0_chanceIn_X0_chance : GoodIn wsX0_chanceIn wsX0_chance := goodIn_r _ [15, 16, 17, 18, 19, 20, 21, 22, 23, 24, 25, 26, 27, 28, 29, 14, 0, 1, 2, 3, 4, 5, 6, 7, 8, 9, 10, 11, 12, 13, 30, 31, 32, 33, 34] (by decide +kernel) (by decide +kernel)
set_option maxRecDepth 20000 in
theorem gX0_chanceIn_X0_chance : GoodIn wsX0_chanceIn (wsV RX0 64 RX0 yX0_chance wsX0_chance) := goodIn_app (goodIn_of _ (by decide +kernel)) ggX0_chanceIn_X0_chance
set_option maxRecDepth 20000 in
theorem ggX0_moodForMean_X3_size : GoodIn wsX0_moodForMean wsX3_size := goodIn_r _ [5, 6, 30, 31] (by decide +kernel) (by decide +kernel)
set_option maxRecDepth 20000 in
theorem gX0_moodForMean_X3_size_n42 : GoodIn wsX0_moodForMean (wsX3_size) := ggX0_moodForMean_X3_size
set_option maxRecDepth 20000 in
theorem ggX0_moodForMean_X0_meanIn : GoodIn wsX0_moodForMean wsX0_meanIn := goodIn_r _ [11, 1, 2, 3, 4, 5, 6, 12, 13, 14, 15, 16, 17, 18, 19, 20, 21, 22, 10, 23, 24, 25, 26, 27, 28, 29, 30, 31] (by decide +kernel) (by decide +kernel)
set_option maxRecDepth 20000 in
theorem gX0_moodForMean_X0_meanIn : GoodIn wsX0_moodForMean (wsV RX0 28 RX0 yX0_meanIn wsX0_meanIn) := goodIn_app (goodIn_of _ (by decide +kernel)) ggX0_moodForMean_X0_meanIn
set_option maxRecDepth 20000 in
theorem ggX0_moodForMean_X0_mean : GoodIn wsX0_moodForMean wsX0_mean := goodIn_r _ [23, 24, 25, 17, 26, 27, 28, 29] (by decide +kernel) (by decide +kernel)
set_option maxRecDepth 20000 in
theorem gX0_moodForMean_X0_mean : GoodIn wsX0_moodForMean (wsV RX0 56 RX0 yX0_mean wsX0_mean) := goodIn_app (goodIn_of _ (by decide +kernel)) ggX0_moodForMean_X0_mean
set_option maxRecDepth 20000 in
theorem ggX0_moodForChance_X3_size : GoodIn wsX0_moodForChance wsX3_size := goodIn_r _ [5, 6, 34, 35] (by decide +kernel) (by decide +kernel)
set_option maxRecDepth 20000 in
theorem gX0_moodForChance_X3_size_n42 : GoodIn wsX0_moodForChance (wsX3_size) := ggX0_moodForChance_X3_size
set_option maxRecDepth 20000 in
theorem ggX0_moodForChance_X0_chanceIn : GoodIn wsX0_moodForChance wsX0_chanceIn := goodIn_r _ [11, 1, 2, 3, 4, 5, 6, 12, 13, 14, 15, 16, 17, 18, 10, 19, 20, 21, 22, 23, 24, 25, 26, 27, 28, 29, 30, 7, 8, 9, 31, 32, 33, 34, 35] (by decide +kernel) (by decide +kernel)
set_option maxRecDepth 20000 in
theorem gX0_moodForChance_X0_chanceIn : GoodIn wsX0_moodForChance (wsV RX0 60 RX0 yX0_chanceIn wsX0_chanceIn) := goodIn_app (goodIn_of _ (by decide +kernel)) ggX0_moodForChance_X0_chanceIn
set_option maxRecDepth 20000 in
theorem ggX0_moodForChance_X0_chance : GoodIn wsX0_moodForChance wsX0_chance := goodIn_r _ [19, 20, 21, 22, 23, 24, 25, 26, 27, 28, 29, 30, 7, 8, 9, 10, 11, 1, 2, 3, 4, 5, 6, 12, 13, 14, 15, 16, 17, 18, 31, 32, 33, 34, 35] (by decide +kernel) (by decide +kernel)
set_option maxRecDepth 20000 in
theorem gX0_moodForChance_X0_chance : GoodIn wsX0_moodForChance (wsV RX0 64 RX0 yX0_chance wsX0_chance) := goodIn_app (goodIn_of _ (by decide +kernel)) ggX0_moodForChance_X0_chance
set_option maxRecDepth 20000 in
theorem ggX0_share_X0_mean : GoodIn wsX0_share wsX0_mean := goodIn_r _ [6, 7, 8, 9, 10, 23, 24, 25] (by decide +kernel) (by decide +kernel)
set_option maxRecDepth 20000 in
theorem gX0_share_X0_mean : GoodIn wsX0_share (wsV RX0 56 RX0 yX0_mean wsX0_mean) := goodIn_app (goodIn_of _ (by decide +kernel)) ggX0_share_X0_mean
set_option maxRecDepth 20000 in
theorem ggX0_share_X9_power : GoodIn wsX0_share wsX9_power := goodIn_r _ [12, 13] (by decide +kernel) (by decide +kernel)
set_option maxRecDepth 20000 in
theorem gX0_share_X9_power_n52 : GoodIn wsX0_share (wsX9_power) := ggX0_share_X9_power
set_option maxRecDepth 20000 in
theorem ggX0_share_X9_cut : GoodIn wsX0_share wsX9_cut := goodIn_r _ [15] (by decide +kernel) (by decide +kernel)
set_option maxRecDepth 20000 in
theorem gX0_share_X9_cut_n78 : GoodIn wsX0_share (wsX9_cut) := ggX0_share_X9_cut
set_option maxRecDepth 20000 in
theorem ggX0_millionths_X0_chance : GoodIn wsX0_millionths wsX0_chance := goodIn_r _ [5, 6, 7, 8, 9, 10, 11, 12, 13, 14, 15, 16, 17, 18, 19, 4, 20, 21, 22, 23, 24, 25, 26, 27, 28, 29, 30, 1, 2, 3, 37, 38, 39, 40, 41] (by decide +kernel) (by decide +kernel)
set_option maxRecDepth 20000 in
theorem gX0_millionths_X0_chance : GoodIn wsX0_millionths (wsV RX0 64 RX0 yX0_chance wsX0_chance) := goodIn_app (goodIn_of _ (by decide +kernel)) ggX0_millionths_X0_chance
set_option maxRecDepth 20000 in
theorem ggX0_millionths_X9_inMillionths : GoodIn wsX0_millionths wsX9_inMillionths := goodIn_r _ [32, 33, 11, 12, 13, 14, 34, 35, 36] (by decide +kernel) (by decide +kernel)
set_option maxRecDepth 20000 in
theorem gX0_millionths_X9_inMillionths_n81 : GoodIn wsX0_millionths (wsX9_inMillionths) := ggX0_millionths_X9_inMillionths
set_option maxRecDepth 20000 in
theorem ggX1_begin_J7_fill_53178 : GoodIn wsX1_begin wsJ7_fill_53178 := goodIn_r _ [7] (by decide +kernel) (by decide +kernel)
set_option maxRecDepth 20000 in
theorem gX1_begin_J7_fill_53178 : GoodIn wsX1_begin (va_wsS RX1 15 yJ7_fill_53178 wsJ7_fill_53178) := goodIn_app (goodIn_of _ (by decide +kernel)) ggX1_begin_J7_fill_53178
set_option maxRecDepth 20000 in
theorem ggX1_add_X9_within : GoodIn wsX1_add wsX9_within := goodIn_r _ [6] (by decide +kernel) (by decide +kernel)
set_option maxRecDepth 20000 in
theorem gX1_add_X9_within_n28 : GoodIn wsX1_add (wsX9_within) := ggX1_add_X9_within
set_option maxRecDepth 20000 in
theorem ggX1_withoutLeast_X1_rank : GoodIn wsX1_withoutLeast wsX1_rank := goodIn_r _ [6, 1, 7, 8, 9, 10, 11, 12] (by decide +kernel) (by decide +kernel)
set_option maxRecDepth 20000 in
theorem gX1_withoutLeast_X1_rank : GoodIn wsX1_withoutLeast (wsV RX1 32 RX1 yX1_rank wsX1_rank) := goodIn_app (goodIn_of _ (by decide +kernel)) ggX1_withoutLeast_X1_rank
set_option maxRecDepth 20000 in
theorem ggX1_rank_X9_within : GoodIn wsX1_rank wsX9_within := goodIn_r _ [4] (by decide +kernel) (by decide +kernel)
set_option maxRecDepth 20000 in
theorem gX1_rank_X9_within_n28 : GoodIn wsX1_rank (wsX9_within) := ggX1_rank_X9_within
set_option maxRecDepth 20000 in
theorem ggX2_add_X9_within : GoodIn wsX2_add wsX9_within := goodIn_r _ [5] (by decide +kernel) (by decide +kernel)
set_option maxRecDepth 20000 in
theorem gX2_add_X9_within_n19 : GoodIn wsX2_add (wsX9_within) := ggX2_add_X9_within
set_option maxRecDepth 20000 in
theorem ggX2_differenceOf_X0_mean : GoodIn wsX2_differenceOf wsX0_mean := goodIn_r _ [10, 11, 12, 13, 14, 29, 30, 31] (by decide +kernel) (by decide +kernel)
set_option maxRecDepth 20000 in
theorem gX2_differenceOf_X0_mean_n31 : GoodIn wsX2_differenceOf (wsX0_mean) := ggX2_differenceOf_X0_mean
set_option maxRecDepth 20000 in
theorem ggX2_differenceOf_X9_power : GoodIn wsX2_differenceOf wsX9_power := goodIn_r _ [16, 17] (by decide +kernel) (by decide +kernel)
set_option maxRecDepth 20000 in
theorem gX2_differenceOf_X9_power_n37 : GoodIn wsX2_differenceOf (wsX9_power) := ggX2_differenceOf_X9_power
set_option maxRecDepth 20000 in
theorem ggX2_differenceOf_X9_cut : GoodIn wsX2_differenceOf wsX9_cut := goodIn_r _ [19] (by decide +kernel) (by decide +kernel)
set_option maxRecDepth 20000 in
theorem gX2_differenceOf_X9_cut_n41 : GoodIn wsX2_differenceOf (wsX9_cut) := ggX2_differenceOf_X9_cut
set_option maxRecDepth 20000 in
theorem ggX3_init_X3_add : GoodIn wsX3_init wsX3_add := goodIn_r _ [11, 5, 6, 12, 13, 14, 15, 16] (by decide +kernel) (by decide +kernel)
set_option maxRecDepth 20000 in
theorem gX3_init_X3_add : GoodIn wsX3_init (wsV RX3 18 RX3 yX3_add wsX3_add) := goodIn_app (goodIn_of _ (by decide +kernel)) ggX3_init_X3_add
set_option maxRecDepth 20000 in
theorem ggX3_forget_X9_within : GoodIn wsX3_forget wsX9_within := goodIn_r _ [4] (by decide +kernel) (by decide +kernel)
set_option maxRecDepth 20000 in
theorem gX3_forget_X9_within_n22 : GoodIn wsX3_forget (wsX9_within) := ggX3_forget_X9_within
set_option maxRecDepth 20000 in
theorem ggX3_add_X9_within : GoodIn wsX3_add wsX9_within := goodIn_r _ [5] (by decide +kernel) (by decide +kernel)
set_option maxRecDepth 20000 in
theorem gX3_add_X9_within_n22 : GoodIn wsX3_add (wsX9_within) := ggX3_add_X9_within
set_option maxRecDepth 20000 in
theorem ggX4_read_X4_readLine : GoodIn wsX4_read wsX4_readLine := goodIn_r _ [9, 10, 11, 12, 13, 8, 14, 2, 15, 3, 4, 16, 17, 18, 19, 20, 21, 22, 23, 24, 25, 26, 27, 28, 29, 30, 31, 32, 33, 34, 35, 36, 37, 38, 39, 40, 41, 42, 43, 44, 45, 46, 47, 48, 49, 50, 51, 52, 53, 54, 55, 56, 57, 58, 59, 60, 61, 62, 63, 64, 65, 66, 67, 68, 69, 70, 71, 72, 73, 74, 75, 76, 77, 78, 79, 80, 81, 82, 83, 84, 85, 86, 87, 88, 89, 90, 91, 92, 93, 94, 95, 96, 97, 98, 99, 100, 101, 102, 103, 104, 105, 106] (by decide +kernel) (by decide +kernel)
set_option maxRecDepth 20000 in
theorem gX4_read_X4_readLine : GoodIn wsX4_read (wsV RX4 29 RX4 yX4_readLine wsX4_readLine) := goodIn_app (goodIn_of _ (by decide +kernel)) ggX4_read_X4_readLine
set_option maxRecDepth 20000 in
theorem ggX4_read_X4_step : GoodIn wsX4_read wsX4_step := goodIn_r _ [14, 2, 15, 3, 4, 16, 17, 18, 19, 20, 21, 22, 23, 24, 25, 26, 8, 27, 98, 99, 100, 101, 102, 103, 104, 105, 106] (by decide +kernel) (by decide +kernel)
set_option maxRecDepth 20000 in
theorem gX4_read_X4_step : GoodIn wsX4_read (wsV RX4 36 RX4 yX4_step wsX4_step) := goodIn_app (goodIn_of _ (by decide +kernel)) ggX4_read_X4_step
set_option maxRecDepth 20000 in
theorem ggX4_has_X4_word : GoodIn wsX4_has wsX4_word := goodIn_r _ [6, 7, 8, 9, 10, 11, 12, 13, 14, 15, 16, 17] (by decide +kernel) (by decide +kernel)
set_option maxRecDepth 20000 in
theorem gX4_has_X4_word : GoodIn wsX4_has (wsV RX4 42 RX4 yX4_word wsX4_word) := goodIn_app (goodIn_of _ (by decide +kernel)) ggX4_has_X4_word
set_option maxRecDepth 20000 in
theorem ggX4_word_X9_within : GoodIn wsX4_word wsX9_within := goodIn_r _ [4] (by decide +kernel) (by decide +kernel)
set_option maxRecDepth 20000 in
theorem gX4_word_X9_within_n46 : GoodIn wsX4_word (wsX9_within) := ggX4_word_X9_within
set_option maxRecDepth 20000 in
theorem ggX4_number_X9_within : GoodIn wsX4_number wsX9_within := goodIn_r _ [4] (by decide +kernel) (by decide +kernel)
set_option maxRecDepth 20000 in
theorem gX4_number_X9_within_n46 : GoodIn wsX4_number (wsX9_within) := ggX4_number_X9_within
set_option maxRecDepth 20000 in
theorem ggX4_readLine_X4_step : GoodIn wsX4_readLine wsX4_step := goodIn_r _ [6, 7, 8, 9, 10, 11, 12, 13, 14, 15, 16, 17, 18, 19, 20, 21, 5, 22, 93, 94, 95, 96, 97, 98, 99, 100, 101] (by decide +kernel) (by decide +kernel)
set_option maxRecDepth 20000 in
theorem gX4_readLine_X4_step : GoodIn wsX4_readLine (wsV RX4 36 RX4 yX4_step wsX4_step) := goodIn_app (goodIn_of _ (by decide +kernel)) ggX4_readLine_X4_step
set_option maxRecDepth 20000 in
theorem ggX4_readLine_X4_spelled : GoodIn wsX4_readLine wsX4_spelled := goodIn_r _ [26, 27, 28, 29, 5, 30, 7, 9, 8, 31, 32, 33, 34, 35, 36, 37, 38, 39, 40, 41, 42, 11, 12, 13, 14, 15, 16, 17, 18, 19, 43, 44, 45, 46, 47, 48, 49, 50, 51, 52, 53, 54, 55, 56, 57, 58, 59, 60, 61, 62, 63, 64, 65, 66, 67, 68, 69, 70, 71, 72, 73, 74, 75, 76, 77, 78, 79, 93, 94, 95, 96, 97, 98, 99, 100, 101] (by decide +kernel) (by decide +kernel)
set_option maxRecDepth 20000 in
theorem gX4_readLine_X4_spelled : GoodIn wsX4_readLine (wsV RX4 50 RX4 yX4_spelled wsX4_spelled) := goodIn_app (goodIn_of _ (by decide +kernel)) ggX4_readLine_X4_spelled
set_option maxRecDepth 20000 in
theorem ggX4_readLine_X9_within : GoodIn wsX4_readLine wsX9_within := goodIn_r _ [19] (by decide +kernel) (by decide +kernel)
set_option maxRecDepth 20000 in
theorem gX4_readLine_X9_within_n46 : GoodIn wsX4_readLine (wsX9_within) := ggX4_readLine_X9_within
set_option maxRecDepth 20000 in
theorem ggX4_readLine_X4_readNumber : GoodIn wsX4_readLine wsX4_readNumber := goodIn_r _ [83, 10, 7, 9, 8, 84, 2, 3, 4, 5, 6, 11, 12, 13, 14, 15, 16, 17, 18, 19, 20, 21, 22, 93, 94, 95, 96, 97, 98, 99, 100, 101] (by decide +kernel) (by decide +kernel)
set_option maxRecDepth 20000 in
theorem gX4_readLine_X4_readNumber : GoodIn wsX4_readLine (wsV RX4 54 RX4 yX4_readNumber wsX4_readNumber) := goodIn_app (goodIn_of _ (by decide +kernel)) ggX4_readLine_X4_readNumber
set_option maxRecDepth 20000 in
theorem ggX4_readLine_X4_readMood : GoodIn wsX4_readLine wsX4_readMood := goodIn_r _ [88, 80, 81, 82, 5, 83, 10, 7, 9, 8, 84, 2, 3, 4, 6, 11, 12, 13, 14, 15, 16, 17, 18, 19, 20, 21, 22, 89, 90, 91, 92, 93, 94, 95, 96, 97, 98, 99, 100, 101] (by decide +kernel) (by decide +kernel)
set_option maxRecDepth 20000 in
theorem gX4_readLine_X4_readMood : GoodIn wsX4_readLine (wsV RX4 58 RX4 yX4_readMood wsX4_readMood) := goodIn_app (goodIn_of _ (by decide +kernel)) ggX4_readLine_X4_readMood
set_option maxRecDepth 20000 in
theorem ggX4_readMood_X4_readNumber : GoodIn wsX4_readMood wsX4_readNumber := goodIn_r _ [5, 6, 7, 8, 9, 10, 11, 12, 13, 4, 14, 15, 16, 17, 18, 19, 20, 21, 22, 23, 24, 25, 26, 31, 32, 33, 34, 35, 36, 37, 38, 39] (by decide +kernel) (by decide +kernel)
set_option maxRecDepth 20000 in
theorem gX4_readMood_X4_readNumber : GoodIn wsX4_readMood (wsV RX4 54 RX4 yX4_readNumber wsX4_readNumber) := goodIn_app (goodIn_of _ (by decide +kernel)) ggX4_readMood_X4_readNumber
set_option maxRecDepth 20000 in
theorem ggX4_readMood_X4_number : GoodIn wsX4_readMood wsX4_number := goodIn_r _ [30, 10, 21, 22, 23, 31, 32, 33, 34, 35, 36, 37] (by decide +kernel) (by decide +kernel)
set_option maxRecDepth 20000 in
theorem gX4_readMood_X4_number : GoodIn wsX4_readMood (wsV RX4 61 RX4 yX4_number wsX4_number) := goodIn_app (goodIn_of _ (by decide +kernel)) ggX4_readMood_X4_number
set_option maxRecDepth 20000 in
theorem ggX4_readNumber_X4_step : GoodIn wsX4_readNumber wsX4_step := goodIn_r _ [10, 2, 4, 3, 1, 11, 12, 13, 14, 15, 16, 17, 18, 19, 20, 21, 9, 22, 23, 24, 25, 26, 27, 28, 29, 30, 31] (by decide +kernel) (by decide +kernel)
set_option maxRecDepth 20000 in
theorem gX4_readNumber_X4_step : GoodIn wsX4_readNumber (wsV RX4 36 RX4 yX4_step wsX4_step) := goodIn_app (goodIn_of _ (by decide +kernel)) ggX4_readNumber_X4_step
set_option maxRecDepth 20000 in
theorem ggX4_readNumber_X7_at : GoodIn wsX4_readNumber wsX7_at := goodIn_r _ [14, 15, 16, 17, 18, 19, 30, 31] (by decide +kernel) (by decide +kernel)
set_option maxRecDepth 20000 in
theorem gX4_readNumber_X7_at_n65 : GoodIn wsX4_readNumber (wsX7_at) := ggX4_readNumber_X7_at
set_option maxRecDepth 20000 in
theorem ggX4_readNumber_X9_within : GoodIn wsX4_readNumber wsX9_within := goodIn_r _ [19] (by decide +kernel) (by decide +kernel)
set_option maxRecDepth 20000 in
theorem gX4_readNumber_X9_within_n46 : GoodIn wsX4_readNumber (wsX9_within) := ggX4_readNumber_X9_within
set_option maxRecDepth 20000 in
theorem ggX4_step_X7_at : GoodIn wsX4_step wsX7_at := goodIn_r _ [8, 9, 10, 11, 12, 13, 25, 26] (by decide +kernel) (by decide +kernel)
set_option maxRecDepth 20000 in
theorem gX4_step_X7_at_n65 : GoodIn wsX4_step (wsX7_at) := ggX4_step_X7_at
set_option maxRecDepth 20000 in
theorem ggX4_step_X4_kindOf : GoodIn wsX4_step wsX4_kindOf := goodIn_r _ [17, 11, 12, 13] (by decide +kernel) (by decide +kernel)
set_option maxRecDepth 20000 in
theorem gX4_step_X4_kindOf : GoodIn wsX4_step (va_wsS RX4 73 yX4_kindOf wsX4_kindOf) := goodIn_app (goodIn_of _ (by decide +kernel)) ggX4_step_X4_kindOf
set_option maxRecDepth 20000 in
theorem ggX4_kindOf_X9_within : GoodIn wsX4_kindOf wsX9_within := goodIn_r _ [3] (by decide +kernel) (by decide +kernel)
set_option maxRecDepth 20000 in
theorem gX4_kindOf_X9_within_n46 : GoodIn wsX4_kindOf (wsX9_within) := ggX4_kindOf_X9_within
set_option maxRecDepth 20000 in
theorem ggX4_spelled_X4_spells : GoodIn wsX4_spelled wsX4_spells := goodIn_r _ [5, 6, 7, 8, 9, 10, 11, 12, 13, 14, 15, 16, 17, 18, 19, 20, 21, 22, 23, 24, 25, 26, 27, 28, 29, 30, 31, 32, 33, 34, 35, 36, 37, 38, 39, 40, 41, 42, 43, 44, 45, 46, 47, 48, 49, 50, 51, 52, 53, 54, 55, 56, 57, 58, 59, 60, 61, 62, 63, 64, 65, 66, 67, 68, 69, 70, 71, 72, 73, 74, 75] (by decide +kernel) (by decide +kernel)
set_option maxRecDepth 20000 in
theorem gX4_spelled_X4_spells : GoodIn wsX4_spelled (wsV RX4 78 RX4 yX4_spells wsX4_spells) := goodIn_app (goodIn_of _ (by decide +kernel)) ggX4_spelled_X4_spells
set_option maxRecDepth 20000 in
theorem ggX4_spells_J0_length_8abf5 : GoodIn wsX4_spells wsJ0_length_8abf5 := goodIn_r _ [8, 9, 10, 11, 12, 7, 13, 14, 15] (by decide +kernel) (by decide +kernel)
set_option maxRecDepth 20000 in
theorem gX4_spells_J0_length_8abf5 : GoodIn wsX4_spells (wsV RX4 92 RJ0 yJ0_length_8abf5 wsJ0_length_8abf5) := goodIn_app (goodIn_of _ (by decide +kernel)) ggX4_spells_J0_length_8abf5
set_option maxRecDepth 20000 in
theorem ggX4_spells_X7_at : GoodIn wsX4_spells wsX7_at := goodIn_r _ [19, 20, 21, 22, 23, 24, 69, 70] (by decide +kernel) (by decide +kernel)
set_option maxRecDepth 20000 in
theorem gX4_spells_X7_at_n65 : GoodIn wsX4_spells (wsX7_at) := ggX4_spells_X7_at
set_option maxRecDepth 20000 in
theorem ggX4_spells_J0_charAt_5068e : GoodIn wsX4_spells wsJ0_charAt_5068e := goodIn_r _ [28, 9, 29, 30, 31, 7, 32, 14, 15, 33, 34, 35, 36, 37, 38, 39, 40, 41, 42, 43, 44, 45, 46, 47, 48, 49, 50, 51, 52, 53, 54, 55, 56, 57, 58, 59, 60, 61] (by decide +kernel) (by decide +kernel)
set_option maxRecDepth 20000 in
theorem gX4_spells_J0_charAt_5068e : GoodIn wsX4_spells (wsV RX4 96 RJ0 yJ0_charAt_5068e wsJ0_charAt_5068e) := goodIn_app (goodIn_of _ (by decide +kernel)) ggX4_spells_J0_charAt_5068e
set_option maxRecDepth 20000 in
theorem ggX5_addOver_X5_addEvent : GoodIn wsX5_addOver wsX5_addEvent := goodIn_r _ [12, 13, 14, 1, 2, 7, 15, 16, 17, 18, 19, 20, 21, 22] (by decide +kernel) (by decide +kernel)
set_option maxRecDepth 20000 in
theorem gX5_addOver_X5_addEvent : GoodIn wsX5_addOver (wsV RX5 32 RX5 yX5_addEvent wsX5_addEvent) := goodIn_app (goodIn_of _ (by decide +kernel)) ggX5_addOver_X5_addEvent
set_option maxRecDepth 20000 in
theorem ggX5_addRain_X5_addEvent : GoodIn wsX5_addRain wsX5_addEvent := goodIn_r _ [6, 7, 8, 1, 9, 10, 11, 12, 13, 14, 15, 16, 17, 18] (by decide +kernel) (by decide +kernel)
set_option maxRecDepth 20000 in
theorem gX5_addRain_X5_addEvent : GoodIn wsX5_addRain (wsV RX5 32 RX5 yX5_addEvent wsX5_addEvent) := goodIn_app (goodIn_of _ (by decide +kernel)) ggX5_addRain_X5_addEvent
set_option maxRecDepth 20000 in
theorem ggX5_addEvent_X9_within : GoodIn wsX5_addEvent wsX9_within := goodIn_r _ [8] (by decide +kernel) (by decide +kernel)
set_option maxRecDepth 20000 in
theorem gX5_addEvent_X9_within_n42 : GoodIn wsX5_addEvent (wsX9_within) := ggX5_addEvent_X9_within
set_option maxRecDepth 20000 in
theorem ggX5_part_X9_within : GoodIn wsX5_part wsX9_within := goodIn_r _ [4] (by decide +kernel) (by decide +kernel)
set_option maxRecDepth 20000 in
theorem gX5_part_X9_within_n42 : GoodIn wsX5_part (wsX9_within) := ggX5_part_X9_within
set_option maxRecDepth 20000 in
theorem ggX5_lastRain_X5_part : GoodIn wsX5_lastRain wsX5_part := goodIn_r _ [6, 7, 8, 9, 10, 11, 12, 13, 14, 15] (by decide +kernel) (by decide +kernel)
set_option maxRecDepth 20000 in
theorem gX5_lastRain_X5_part : GoodIn wsX5_lastRain (wsV RX5 46 RX5 yX5_part wsX5_part) := goodIn_app (goodIn_of _ (by decide +kernel)) ggX5_lastRain_X5_part
set_option maxRecDepth 20000 in
theorem ggX7_append_X9_within : GoodIn wsX7_append wsX9_within := goodIn_r _ [6] (by decide +kernel) (by decide +kernel)
set_option maxRecDepth 20000 in
theorem gX7_append_X9_within_n19 : GoodIn wsX7_append (wsX9_within) := ggX7_append_X9_within
set_option maxRecDepth 20000 in
theorem ggX7_at_X9_within : GoodIn wsX7_at wsX9_within := goodIn_r _ [5] (by decide +kernel) (by decide +kernel)
set_option maxRecDepth 20000 in
theorem gX7_at_X9_within_n19 : GoodIn wsX7_at (wsX9_within) := ggX7_at_X9_within
set_option maxRecDepth 20000 in
theorem ggX8_behind_X8_begin : GoodIn wsX8_behind wsX8_begin := goodIn_r _ [5, 6, 7, 8, 9, 10, 99, 100, 101, 102, 103, 104, 105, 106, 107, 108, 109] (by decide +kernel) (by decide +kernel)
set_option maxRecDepth 20000 in
theorem gX8_behind_X8_begin : GoodIn wsX8_behind (wsV RX8 27 RX8 yX8_begin wsX8_begin) := goodIn_app (goodIn_of _ (by decide +kernel)) ggX8_behind_X8_begin
set_option maxRecDepth 20000 in
theorem ggX8_behind_X5_part : GoodIn wsX8_behind wsX5_part := goodIn_r _ [14, 15, 16, 17, 18, 110, 111, 112, 113, 114] (by decide +kernel) (by decide +kernel)
set_option maxRecDepth 20000 in
theorem gX8_behind_X5_part_n33 : GoodIn wsX8_behind (wsX5_part) := ggX8_behind_X5_part
set_option maxRecDepth 20000 in
theorem ggX8_behind_X8_hear : GoodIn wsX8_behind wsX8_hear := goodIn_r _ [22, 7, 6, 8, 23, 24, 10, 25, 26, 27, 28, 29, 30, 31, 32, 33, 34, 16, 17, 18, 35, 36, 37, 38, 39, 40, 41, 42, 4, 43, 9, 44, 45, 46, 47, 48, 49, 50, 51, 52, 53, 54, 55, 56, 57, 58, 59, 60, 61, 62, 63, 64, 65, 66, 67, 68, 69, 70, 71, 72, 73, 74, 75, 76, 99, 100, 101, 102, 103, 104, 105, 106, 115, 116, 117, 118, 119, 120, 121, 122, 123, 124, 107, 108, 109, 125, 126] (by decide +kernel) (by decide +kernel)
set_option maxRecDepth 20000 in
theorem gX8_behind_X8_hear : GoodIn wsX8_behind (wsV RX8 37 RX8 yX8_hear wsX8_hear) := goodIn_app (goodIn_of _ (by decide +kernel)) ggX8_behind_X8_hear
set_option maxRecDepth 20000 in
theorem ggX8_behind_X8_ruled : GoodIn wsX8_behind wsX8_ruled := goodIn_r _ [80, 6, 9, 24, 7, 8, 81, 10, 38, 17, 39, 82, 83, 4, 84, 85, 60, 46, 61, 86, 87, 88, 89, 90, 91, 92, 93, 94, 16, 18, 95, 96, 97, 98, 99, 100, 101, 102, 103, 104, 105, 106, 107, 108, 109, 115, 116, 117, 118, 119, 120, 121] (by decide +kernel) (by decide +kernel)
set_option maxRecDepth 20000 in
theorem gX8_behind_X8_ruled : GoodIn wsX8_behind (wsV RX8 41 RX8 yX8_ruled wsX8_ruled) := goodIn_app (goodIn_of _ (by decide +kernel)) ggX8_behind_X8_ruled
set_option maxRecDepth 20000 in
theorem ggX8_afterOneRain_X8_begin : GoodIn wsX8_afterOneRain wsX8_begin := goodIn_r _ [6, 7, 8, 9, 10, 11, 94, 95, 96, 97, 98, 99, 100, 101, 109, 110, 111] (by decide +kernel) (by decide +kernel)
set_option maxRecDepth 20000 in
theorem gX8_afterOneRain_X8_begin : GoodIn wsX8_afterOneRain (wsV RX8 27 RX8 yX8_begin wsX8_begin) := goodIn_app (goodIn_of _ (by decide +kernel)) ggX8_afterOneRain_X8_begin
set_option maxRecDepth 20000 in
theorem ggX8_afterOneRain_X8_hear : GoodIn wsX8_afterOneRain wsX8_hear := goodIn_r _ [15, 8, 7, 9, 16, 1, 11, 17, 18, 19, 20, 21, 22, 23, 24, 25, 26, 27, 28, 29, 30, 31, 32, 33, 34, 35, 36, 37, 5, 38, 10, 39, 40, 41, 42, 43, 44, 45, 46, 47, 48, 49, 50, 51, 52, 53, 54, 55, 56, 57, 58, 59, 60, 61, 62, 63, 64, 65, 66, 67, 68, 69, 70, 71, 94, 95, 96, 97, 98, 99, 100, 101, 102, 103, 104, 105, 106, 107, 108, 112, 113, 114, 109, 110, 111, 115, 116] (by decide +kernel) (by decide +kernel)
set_option maxRecDepth 20000 in
theorem gX8_afterOneRain_X8_hear : GoodIn wsX8_afterOneRain (wsV RX8 37 RX8 yX8_hear wsX8_hear) := goodIn_app (goodIn_of _ (by decide +kernel)) ggX8_afterOneRain_X8_hear
set_option maxRecDepth 20000 in
theorem ggX8_afterOneRain_X8_ruled : GoodIn wsX8_afterOneRain wsX8_ruled := goodIn_r _ [75, 7, 10, 1, 8, 9, 76, 11, 33, 28, 34, 77, 78, 5, 79, 80, 55, 41, 56, 81, 82, 83, 84, 85, 86, 87, 88, 89, 27, 29, 90, 91, 92, 93, 94, 95, 96, 97, 98, 99, 100, 101, 109, 110, 111, 102, 103, 104, 105, 106, 107, 108] (by decide +kernel) (by decide +kernel)
set_option maxRecDepth 20000 in
theorem gX8_afterOneRain_X8_ruled : GoodIn wsX8_afterOneRain (wsV RX8 41 RX8 yX8_ruled wsX8_ruled) := goodIn_app (goodIn_of _ (by decide +kernel)) ggX8_afterOneRain_X8_ruled
set_option maxRecDepth 20000 in
theorem ggX8_keepOddsOnSheet_X8_begin : GoodIn wsX8_keepOddsOnSheet wsX8_begin := goodIn_r _ [7, 8, 9, 10, 11, 12, 48, 49, 50, 51, 52, 53, 54, 55, 63, 64, 65] (by decide +kernel) (by decide +kernel)
set_option maxRecDepth 20000 in
theorem gX8_keepOddsOnSheet_X8_begin : GoodIn wsX8_keepOddsOnSheet (wsV RX8 27 RX8 yX8_begin wsX8_begin) := goodIn_app (goodIn_of _ (by decide +kernel)) ggX8_keepOddsOnSheet_X8_begin
set_option maxRecDepth 20000 in
theorem ggX8_keepOddsOnSheet_X8_keepingOdds : GoodIn wsX8_keepOddsOnSheet wsX8_keepingOdds := goodIn_r _ [16, 17, 12, 18, 19, 20, 21, 22, 23, 24, 25, 26, 27, 28, 29, 30, 31, 32, 33, 34, 35, 36, 37, 38, 39, 40, 41, 42, 43, 44, 45, 46, 47, 48, 49, 50, 51, 52, 53, 54, 55, 66, 67, 68, 69, 70] (by decide +kernel) (by decide +kernel)
set_option maxRecDepth 20000 in
theorem gX8_keepOddsOnSheet_X8_keepingOdds : GoodIn wsX8_keepOddsOnSheet (wsV RX8 54 RX8 yX8_keepingOdds wsX8_keepingOdds) := goodIn_app (goodIn_of _ (by decide +kernel)) ggX8_keepOddsOnSheet_X8_keepingOdds
set_option maxRecDepth 20000 in
theorem ggX8_differenceOf_X8_said : GoodIn wsX8_differenceOf wsX8_said := goodIn_r _ [11, 12, 13, 14, 10, 15, 16, 17, 5, 18, 19, 20, 21, 22, 23, 24, 25, 26, 34, 35, 36] (by decide +kernel) (by decide +kernel)
set_option maxRecDepth 20000 in
theorem gX8_differenceOf_X8_said : GoodIn wsX8_differenceOf (wsV RX8 58 RX8 yX8_said wsX8_said) := goodIn_app (goodIn_of _ (by decide +kernel)) ggX8_differenceOf_X8_said
set_option maxRecDepth 20000 in
theorem ggX8_hear_X0_share : GoodIn wsX8_hear wsX0_share := goodIn_r _ [10, 11, 12, 13, 14, 8, 15, 16, 17, 18, 19, 20, 21, 22, 23, 24, 72, 73, 74, 75, 76, 77, 78, 79, 80, 81] (by decide +kernel) (by decide +kernel)
set_option maxRecDepth 20000 in
theorem gX8_hear_X0_share_n84 : GoodIn wsX8_hear (wsX0_share) := ggX8_hear_X0_share
set_option maxRecDepth 20000 in
theorem ggX8_hear_X8_bentShare : GoodIn wsX8_hear wsX8_bentShare := goodIn_r _ [29, 5, 30, 31, 32, 33, 34, 35, 36, 37, 4, 7, 8, 9, 10, 11, 12, 13, 14, 15, 16, 17, 18, 19, 20, 21, 22, 23, 24, 64, 65, 66, 67, 68, 69, 70, 71, 72, 73, 74, 75, 76, 77, 78, 82, 83, 84, 79, 80, 81] (by decide +kernel) (by decide +kernel)
set_option maxRecDepth 20000 in
theorem gX8_hear_X8_bentShare : GoodIn wsX8_hear (wsV RX8 90 RX8 yX8_bentShare wsX8_bentShare) := goodIn_app (goodIn_of _ (by decide +kernel)) ggX8_hear_X8_bentShare
set_option maxRecDepth 20000 in
theorem ggX8_hear_X8_keepingOdds : GoodIn wsX8_hear wsX8_keepingOdds := goodIn_r _ [41, 4, 6, 42, 8, 43, 44, 45, 46, 47, 33, 48, 20, 18, 21, 22, 17, 19, 49, 50, 51, 52, 53, 54, 55, 56, 57, 58, 59, 60, 61, 62, 63, 64, 65, 66, 67, 68, 69, 70, 71, 79, 80, 81, 85, 86] (by decide +kernel) (by decide +kernel)
set_option maxRecDepth 20000 in
theorem gX8_hear_X8_keepingOdds : GoodIn wsX8_hear (wsV RX8 54 RX8 yX8_keepingOdds wsX8_keepingOdds) := goodIn_app (goodIn_of _ (by decide +kernel)) ggX8_hear_X8_keepingOdds
set_option maxRecDepth 20000 in
theorem ggX8_ruled_X9_cut : GoodIn wsX8_ruled wsX9_cut := goodIn_r _ [10] (by decide +kernel) (by decide +kernel)
set_option maxRecDepth 20000 in
theorem gX8_ruled_X9_cut_n93 : GoodIn wsX8_ruled (wsX9_cut) := ggX8_ruled_X9_cut
set_option maxRecDepth 20000 in
theorem ggX8_ruled_X8_atLeastOne : GoodIn wsX8_ruled wsX8_atLeastOne := goodIn_r _ [14, 15, 16, 17, 18] (by decide +kernel) (by decide +kernel)
set_option maxRecDepth 20000 in
theorem gX8_ruled_X8_atLeastOne : GoodIn wsX8_ruled (va_wsS RX8 97 yX8_atLeastOne wsX8_atLeastOne) := goodIn_app (goodIn_of _ (by decide +kernel)) ggX8_ruled_X8_atLeastOne
set_option maxRecDepth 20000 in
theorem ggX8_ruled_X1_withoutLeast : GoodIn wsX8_ruled wsX1_withoutLeast := goodIn_r _ [22, 23, 24, 25, 26, 20, 27, 28, 9, 29, 42, 43, 44] (by decide +kernel) (by decide +kernel)
set_option maxRecDepth 20000 in
theorem gX8_ruled_X1_withoutLeast_n101 : GoodIn wsX8_ruled (wsX1_withoutLeast) := ggX8_ruled_X1_withoutLeast
set_option maxRecDepth 20000 in
theorem ggX8_ruled_X8_said : GoodIn wsX8_ruled wsX8_said := goodIn_r _ [33, 2, 11, 12, 13, 14, 15, 16, 17, 18, 34, 35, 36, 37, 38, 39, 40, 41, 42, 43, 44] (by decide +kernel) (by decide +kernel)
set_option maxRecDepth 20000 in
theorem gX8_ruled_X8_said : GoodIn wsX8_ruled (wsV RX8 58 RX8 yX8_said wsX8_said) := goodIn_app (goodIn_of _ (by decide +kernel)) ggX8_ruled_X8_said
set_option maxRecDepth 20000 in
theorem ggX8_said_X8_atLeastOne : GoodIn wsX8_said wsX8_atLeastOne := goodIn_r _ [5, 6, 7, 8, 9] (by decide +kernel) (by decide +kernel)
set_option maxRecDepth 20000 in
theorem gX8_said_X8_atLeastOne : GoodIn wsX8_said (va_wsS RX8 97 yX8_atLeastOne wsX8_atLeastOne) := goodIn_app (goodIn_of _ (by decide +kernel)) ggX8_said_X8_atLeastOne
set_option maxRecDepth 20000 in
theorem ggX8_bentShare_X0_share : GoodIn wsX8_bentShare wsX0_share := goodIn_r _ [14, 15, 16, 17, 18, 12, 19, 20, 21, 22, 23, 24, 25, 26, 27, 28, 37, 38, 39, 40, 41, 42, 43, 47, 48, 49] (by decide +kernel) (by decide +kernel)
set_option maxRecDepth 20000 in
theorem gX8_bentShare_X0_share_n84 : GoodIn wsX8_bentShare (wsX0_share) := ggX8_bentShare_X0_share
set_option maxRecDepth 20000 in
theorem ggX8_bentShare_X9_cut : GoodIn wsX8_bentShare wsX9_cut := goodIn_r _ [28] (by decide +kernel) (by decide +kernel)
set_option maxRecDepth 20000 in
theorem gX8_bentShare_X9_cut_n93 : GoodIn wsX8_bentShare (wsX9_cut) := ggX8_bentShare_X9_cut
set_option maxRecDepth 20000 in
theorem ggX8_keepingOdds_X0_chance : GoodIn wsX8_keepingOdds wsX0_chance := goodIn_r _ [6, 7, 8, 9, 10, 11, 12, 13, 14, 15, 16, 17, 18, 19, 20, 4, 21, 22, 23, 24, 25, 26, 27, 28, 29, 30, 31, 32, 3, 5, 41, 42, 43, 44, 45] (by decide +kernel) (by decide +kernel)
set_option maxRecDepth 20000 in
theorem gX8_keepingOdds_X0_chance_n123 : GoodIn wsX8_keepingOdds (wsX0_chance) := ggX8_keepingOdds_X0_chance
set_option maxRecDepth 20000 in
theorem ggX8_keepingOdds_X9_power : GoodIn wsX8_keepingOdds wsX9_power := goodIn_r _ [14, 15] (by decide +kernel) (by decide +kernel)
set_option maxRecDepth 20000 in
theorem gX8_keepingOdds_X9_power_n127 : GoodIn wsX8_keepingOdds (wsX9_power) := ggX8_keepingOdds_X9_power
set_option maxRecDepth 20000 in
theorem ggX9_init_X7_init : GoodIn wsX9_init wsX7_init := goodIn_r _ [41, 42, 2, 3, 43, 44, 134, 135] (by decide +kernel) (by decide +kernel)
set_option maxRecDepth 20000 in
theorem gX9_init_X7_init_n11 : GoodIn wsX9_init (wsX7_init) := ggX9_init_X7_init
set_option maxRecDepth 20000 in
theorem ggX9_init_X4_init : GoodIn wsX9_init wsX4_init := goodIn_r _ [46, 47, 2, 3, 43, 48, 49, 50, 145, 146, 147, 148, 149, 150, 151] (by decide +kernel) (by decide +kernel)
set_option maxRecDepth 20000 in
theorem gX9_init_X4_init_n18 : GoodIn wsX9_init (wsX4_init) := ggX9_init_X4_init
set_option maxRecDepth 20000 in
theorem ggX9_init_X6_init : GoodIn wsX9_init wsX6_init := goodIn_r _ [52, 53, 2, 3, 54, 55, 56, 57, 58, 59, 60, 152, 153, 154, 155, 156, 157, 158] (by decide +kernel) (by decide +kernel)
set_option maxRecDepth 20000 in
theorem gX9_init_X6_init_n27 : GoodIn wsX9_init (wsX6_init) := ggX9_init_X6_init
set_option maxRecDepth 20000 in
theorem ggX9_init_X3_init : GoodIn wsX9_init wsX3_init := goodIn_r _ [62, 63, 2, 3, 43, 64, 65, 66, 67, 68, 18, 69, 70, 71, 72, 159, 160] (by decide +kernel) (by decide +kernel)
set_option maxRecDepth 20000 in
theorem gX9_init_X3_init_n34 : GoodIn wsX9_init (wsX3_init) := ggX9_init_X3_init
set_option maxRecDepth 20000 in
theorem ggX9_init_X0_init : GoodIn wsX9_init wsX0_init := goodIn_r _ [74, 75, 2, 3, 76, 77, 78, 79, 161, 162, 163] (by decide +kernel) (by decide +kernel)
set_option maxRecDepth 20000 in
theorem gX9_init_X0_init_n41 : GoodIn wsX9_init (wsX0_init) := ggX9_init_X0_init
set_option maxRecDepth 20000 in
theorem ggX9_init_X1_init : GoodIn wsX9_init wsX1_init := goodIn_r _ [81, 82, 2, 3, 43, 83, 164, 165, 166] (by decide +kernel) (by decide +kernel)
set_option maxRecDepth 20000 in
theorem gX9_init_X1_init_n50 : GoodIn wsX9_init (wsX1_init) := ggX9_init_X1_init
set_option maxRecDepth 20000 in
theorem ggX9_init_X5_init : GoodIn wsX9_init wsX5_init := goodIn_r _ [85, 86, 2, 3, 43, 87, 167, 168, 169, 170, 171] (by decide +kernel) (by decide +kernel)
set_option maxRecDepth 20000 in
theorem gX9_init_X5_init_n57 : GoodIn wsX9_init (wsX5_init) := ggX9_init_X5_init
set_option maxRecDepth 20000 in
theorem ggX9_init_X8_init : GoodIn wsX9_init wsX8_init := goodIn_r _ [89, 90, 2, 3, 43, 91, 92, 93, 94, 172, 173, 174, 175, 176, 177, 178, 179] (by decide +kernel) (by decide +kernel)
set_option maxRecDepth 20000 in
theorem gX9_init_X8_init_n64 : GoodIn wsX9_init (wsX8_init) := ggX9_init_X8_init
set_option maxRecDepth 20000 in
theorem ggX9_init_X2_init : GoodIn wsX9_init wsX2_init := goodIn_r _ [96, 97, 2, 3, 43, 98, 180, 181] (by decide +kernel) (by decide +kernel)
set_option maxRecDepth 20000 in
theorem gX9_init_X2_init_n73 : GoodIn wsX9_init (wsX2_init) := ggX9_init_X2_init
set_option maxRecDepth 20000 in
theorem ggX9_init_X0_learn : GoodIn wsX9_init wsX0_learn := goodIn_r _ [101, 78, 102, 103, 104, 105, 77, 106, 107, 108, 109, 110, 111, 112, 22, 113, 79, 114, 18, 115, 116, 64, 117, 118, 119, 65, 120, 71, 121, 122, 123, 124, 125, 126, 70, 72, 161, 162, 163, 159, 160] (by decide +kernel) (by decide +kernel)
set_option maxRecDepth 20000 in
theorem gX9_init_X0_learn_n78 : GoodIn wsX9_init (wsX0_learn) := ggX9_init_X0_learn
set_option maxRecDepth 20000 in
theorem ggX9_init_X5_begin : GoodIn wsX9_init wsX5_begin := goodIn_r _ [129, 130, 131, 132, 133, 167, 168, 169, 170, 171, 152, 153, 154, 155, 156, 157, 158] (by decide +kernel) (by decide +kernel)
set_option maxRecDepth 20000 in
theorem gX9_init_X5_begin_n81 : GoodIn wsX9_init (wsX5_begin) := ggX9_init_X5_begin
set_option maxRecDepth 20000 in
theorem ggX9_write_X9_within : GoodIn wsX9_write wsX9_within := goodIn_r _ [5] (by decide +kernel) (by decide +kernel)
set_option maxRecDepth 20000 in
theorem gX9_write_X9_within : GoodIn wsX9_write (va_wsS RX9 85 yX9_within wsX9_within) := goodIn_app (goodIn_of _ (by decide +kernel)) ggX9_write_X9_within
set_option maxRecDepth 20000 in
theorem ggX9_write_X7_append : GoodIn wsX9_write wsX7_append := goodIn_r _ [9, 10, 11, 12, 3, 4, 5, 22, 23] (by decide +kernel) (by decide +kernel)
set_option maxRecDepth 20000 in
theorem gX9_write_X7_append_n93 : GoodIn wsX9_write (wsX7_append) := ggX9_write_X7_append
set_option maxRecDepth 20000 in
theorem ggX9_fault_X4_read : GoodIn wsX9_fault wsX4_read := goodIn_r _ [5, 6, 7, 8, 9, 10, 11, 12, 3, 13, 14, 15, 16, 17, 18, 19, 20, 21, 22, 23, 24, 25, 26, 27, 28, 29, 30, 31, 32, 33, 34, 35, 36, 37, 38, 39, 40, 41, 42, 43, 44, 45, 46, 47, 48, 49, 50, 51, 52, 53, 54, 55, 56, 57, 58, 59, 60, 61, 62, 63, 64, 65, 66, 67, 68, 69, 70, 71, 72, 73, 74, 75, 76, 77, 78, 79, 80, 81, 82, 83, 84, 85, 86, 87, 88, 89, 90, 91, 92, 93, 94, 95, 96, 97, 98, 99, 100, 101, 111, 112, 113, 114, 115, 116, 117, 118, 119] (by decide +kernel) (by decide +kernel)
set_option maxRecDepth 20000 in
theorem gX9_fault_X4_read_n97 : GoodIn wsX9_fault (wsX4_read) := ggX9_fault_X4_read
set_option maxRecDepth 20000 in
theorem ggX9_game_X4_read : GoodIn wsX9_game wsX4_read := goodIn_r _ [10, 11, 12, 13, 14, 15, 16, 17, 8, 18, 19, 20, 21, 22, 23, 24, 25, 26, 27, 28, 29, 30, 31, 32, 33, 34, 35, 36, 37, 38, 39, 40, 41, 42, 43, 44, 45, 46, 47, 48, 49, 50, 51, 52, 53, 54, 55, 56, 57, 58, 59, 60, 61, 62, 63, 64, 65, 66, 67, 68, 69, 70, 71, 72, 73, 74, 75, 76, 77, 78, 79, 80, 81, 82, 83, 84, 85, 86, 87, 88, 89, 90, 91, 92, 93, 94, 95, 96, 97, 98, 99, 100, 101, 102, 103, 104, 105, 106, 191, 192, 193, 194, 195, 196, 197, 198, 199] (by decide +kernel) (by decide +kernel)
set_option maxRecDepth 20000 in
theorem gX9_game_X4_read_n97 : GoodIn wsX9_game (wsX4_read) := ggX9_game_X4_read
set_option maxRecDepth 20000 in
theorem ggX9_game_X9_tell : GoodIn wsX9_game wsX9_tell := goodIn_r _ [110, 1, 5, 104, 8, 105, 106, 98, 31, 32, 33, 111, 112, 113, 19, 114, 115, 116, 117, 118, 119, 120, 121, 122, 123, 124, 125, 126, 127, 182, 183, 184, 185, 186, 187, 188, 189, 190, 200, 201, 202, 203, 204, 205, 206, 191, 192, 193, 194, 195, 196, 197, 207, 208] (by decide +kernel) (by decide +kernel)
set_option maxRecDepth 20000 in
theorem gX9_game_X9_tell : GoodIn wsX9_game (wsV RX9 104 RX9 yX9_tell wsX9_tell) := goodIn_app (goodIn_of _ (by decide +kernel)) ggX9_game_X9_tell
set_option maxRecDepth 20000 in
theorem ggX9_game_X4_has : GoodIn wsX9_game wsX4_has := goodIn_r _ [130, 11, 131, 111, 112, 8, 113, 19, 31, 32, 33, 191, 192, 193, 194, 195, 196, 197] (by decide +kernel) (by decide +kernel)
set_option maxRecDepth 20000 in
theorem gX9_game_X4_has_n108 : GoodIn wsX9_game (wsX4_has) := ggX9_game_X4_has
set_option maxRecDepth 20000 in
theorem ggX9_game_X0_learn : GoodIn wsX9_game wsX0_learn := goodIn_r _ [135, 136, 137, 138, 139, 140, 141, 142, 143, 144, 145, 146, 147, 148, 133, 149, 150, 151, 120, 152, 153, 123, 154, 155, 156, 127, 157, 32, 158, 159, 160, 161, 162, 163, 31, 33, 209, 210, 211, 207, 208] (by decide +kernel) (by decide +kernel)
set_option maxRecDepth 20000 in
theorem gX9_game_X0_learn_n78 : GoodIn wsX9_game (wsX0_learn) := ggX9_game_X0_learn
set_option maxRecDepth 20000 in
theorem ggX9_game_X1_begin : GoodIn wsX9_game wsX1_begin := goodIn_r _ [167, 168, 169, 170, 171, 172, 144, 173, 212, 213, 214] (by decide +kernel) (by decide +kernel)
set_option maxRecDepth 20000 in
theorem gX9_game_X1_begin_n112 : GoodIn wsX9_game (wsX1_begin) := ggX9_game_X1_begin
set_option maxRecDepth 20000 in
theorem ggX9_game_X5_begin : GoodIn wsX9_game wsX5_begin := goodIn_r _ [177, 178, 179, 180, 181, 215, 216, 217, 218, 219, 200, 201, 202, 203, 204, 205, 206] (by decide +kernel) (by decide +kernel)
set_option maxRecDepth 20000 in
theorem gX9_game_X5_begin_n81 : GoodIn wsX9_game (wsX5_begin) := ggX9_game_X5_begin
set_option maxRecDepth 20000 in
theorem ggX9_mood_X9_within : GoodIn wsX9_mood wsX9_within := goodIn_r _ [5] (by decide +kernel) (by decide +kernel)
set_option maxRecDepth 20000 in
theorem gX9_mood_X9_within : GoodIn wsX9_mood (va_wsS RX9 85 yX9_within wsX9_within) := goodIn_app (goodIn_of _ (by decide +kernel)) ggX9_mood_X9_within
set_option maxRecDepth 20000 in
theorem ggX9_mood_X3_size : GoodIn wsX9_mood wsX3_size := goodIn_r _ [9, 10, 24, 25] (by decide +kernel) (by decide +kernel)
set_option maxRecDepth 20000 in
theorem gX9_mood_X3_size_n114 : GoodIn wsX9_mood (wsX3_size) := ggX9_mood_X3_size
set_option maxRecDepth 20000 in
theorem ggX9_mood_X3_part : GoodIn wsX9_mood wsX3_part := goodIn_r _ [13, 14, 24, 25] (by decide +kernel) (by decide +kernel)
set_option maxRecDepth 20000 in
theorem gX9_mood_X3_part_n118 : GoodIn wsX9_mood (wsX3_part) := ggX9_mood_X3_part
set_option maxRecDepth 20000 in
theorem ggX9_makes_X9_isLeft : GoodIn wsX9_makes wsX9_isLeft := goodIn_r _ [7, 8, 9, 10, 6, 11, 30, 31, 32, 33, 34, 35, 36, 37, 38, 39, 40, 41, 42, 43, 44, 45] (by decide +kernel) (by decide +kernel)
set_option maxRecDepth 20000 in
theorem gX9_makes_X9_isLeft : GoodIn wsX9_makes (wsV RX9 122 RX9 yX9_isLeft wsX9_isLeft) := goodIn_app (goodIn_of _ (by decide +kernel)) ggX9_makes_X9_isLeft
set_option maxRecDepth 20000 in
theorem ggX9_makes_X9_within : GoodIn wsX9_makes wsX9_within := goodIn_r _ [11] (by decide +kernel) (by decide +kernel)
set_option maxRecDepth 20000 in
theorem gX9_makes_X9_within : GoodIn wsX9_makes (va_wsS RX9 85 yX9_within wsX9_within) := goodIn_app (goodIn_of _ (by decide +kernel)) ggX9_makes_X9_within
set_option maxRecDepth 20000 in
theorem ggX9_makes_X0_mean : GoodIn wsX9_makes wsX0_mean := goodIn_r _ [15, 16, 10, 6, 11, 46, 47, 48] (by decide +kernel) (by decide +kernel)
set_option maxRecDepth 20000 in
theorem gX9_makes_X0_mean_n128 : GoodIn wsX9_makes (wsX0_mean) := ggX9_makes_X0_mean
set_option maxRecDepth 20000 in
theorem ggX9_makes_X9_power : GoodIn wsX9_makes wsX9_power := goodIn_r _ [19, 20] (by decide +kernel) (by decide +kernel)
set_option maxRecDepth 20000 in
theorem gX9_makes_X9_power : GoodIn wsX9_makes (va_wsS RX9 132 yX9_power wsX9_power) := goodIn_app (goodIn_of _ (by decide +kernel)) ggX9_makes_X9_power
set_option maxRecDepth 20000 in
theorem ggX9_makes_X9_lowest : GoodIn wsX9_makes wsX9_lowest := goodIn_r _ [23, 24, 25, 6, 26, 27, 28, 29] (by decide +kernel) (by decide +kernel)
set_option maxRecDepth 20000 in
theorem gX9_makes_X9_lowest : GoodIn wsX9_makes (va_wsS RX9 136 yX9_lowest wsX9_lowest) := goodIn_app (goodIn_of _ (by decide +kernel)) ggX9_makes_X9_lowest
set_option maxRecDepth 20000 in
theorem ggX9_wins_X9_isLeft : GoodIn wsX9_wins wsX9_isLeft := goodIn_r _ [7, 8, 9, 10, 6, 11, 49, 50, 51, 52, 53, 54, 55, 56, 57, 58, 59, 60, 61, 62, 63, 64] (by decide +kernel) (by decide +kernel)
set_option maxRecDepth 20000 in
theorem gX9_wins_X9_isLeft : GoodIn wsX9_wins (wsV RX9 122 RX9 yX9_isLeft wsX9_isLeft) := goodIn_app (goodIn_of _ (by decide +kernel)) ggX9_wins_X9_isLeft
set_option maxRecDepth 20000 in
theorem ggX9_wins_X9_within : GoodIn wsX9_wins wsX9_within := goodIn_r _ [11] (by decide +kernel) (by decide +kernel)
set_option maxRecDepth 20000 in
theorem gX9_wins_X9_within : GoodIn wsX9_wins (va_wsS RX9 85 yX9_within wsX9_within) := goodIn_app (goodIn_of _ (by decide +kernel)) ggX9_wins_X9_within
set_option maxRecDepth 20000 in
theorem ggX9_wins_X0_chance : GoodIn wsX9_wins wsX0_chance := goodIn_r _ [15, 16, 17, 18, 19, 20, 21, 6, 22, 23, 10, 11, 24, 25, 26, 13, 27, 28, 29, 30, 31, 32, 33, 34, 35, 36, 37, 38, 12, 14, 65, 66, 67, 68, 69] (by decide +kernel) (by decide +kernel)
set_option maxRecDepth 20000 in
theorem gX9_wins_X0_chance_n140 : GoodIn wsX9_wins (wsX0_chance) := ggX9_wins_X0_chance
set_option maxRecDepth 20000 in
theorem ggX9_wins_X9_power : GoodIn wsX9_wins wsX9_power := goodIn_r _ [22, 23] (by decide +kernel) (by decide +kernel)
set_option maxRecDepth 20000 in
theorem gX9_wins_X9_power : GoodIn wsX9_wins (va_wsS RX9 132 yX9_power wsX9_power) := goodIn_app (goodIn_of _ (by decide +kernel)) ggX9_wins_X9_power
set_option maxRecDepth 20000 in
theorem ggX9_wins_X9_lowest : GoodIn wsX9_wins wsX9_lowest := goodIn_r _ [42, 43, 44, 6, 45, 46, 47, 48] (by decide +kernel) (by decide +kernel)
set_option maxRecDepth 20000 in
theorem gX9_wins_X9_lowest : GoodIn wsX9_wins (va_wsS RX9 136 yX9_lowest wsX9_lowest) := goodIn_app (goodIn_of _ (by decide +kernel)) ggX9_wins_X9_lowest
set_option maxRecDepth 20000 in
theorem ggX9_best_X9_isLeft : GoodIn wsX9_best wsX9_isLeft := goodIn_r _ [6, 7, 8, 9, 5, 10, 53, 54, 55, 56, 57, 58, 59, 60, 61, 62, 63, 64, 65, 66, 67, 68] (by decide +kernel) (by decide +kernel)
set_option maxRecDepth 20000 in
theorem gX9_best_X9_isLeft : GoodIn wsX9_best (wsV RX9 122 RX9 yX9_isLeft wsX9_isLeft) := goodIn_app (goodIn_of _ (by decide +kernel)) ggX9_best_X9_isLeft
set_option maxRecDepth 20000 in
theorem ggX9_best_X9_within : GoodIn wsX9_best wsX9_within := goodIn_r _ [10] (by decide +kernel) (by decide +kernel)
set_option maxRecDepth 20000 in
theorem gX9_best_X9_within : GoodIn wsX9_best (va_wsS RX9 85 yX9_within wsX9_within) := goodIn_app (goodIn_of _ (by decide +kernel)) ggX9_best_X9_within
set_option maxRecDepth 20000 in
theorem ggX9_best_X0_moodForMean : GoodIn wsX9_best wsX0_moodForMean := goodIn_r _ [14, 15, 16, 17, 18, 19, 20, 21, 22, 23, 12, 24, 25, 26, 27, 28, 29, 5, 30, 31, 32, 33, 34, 35, 36, 9, 10, 69, 70, 71, 72, 73] (by decide +kernel) (by decide +kernel)
set_option maxRecDepth 20000 in
theorem gX9_best_X0_moodForMean_n144 : GoodIn wsX9_best (wsX0_moodForMean) := ggX9_best_X0_moodForMean
set_option maxRecDepth 20000 in
theorem ggX9_best_X0_moodForChance : GoodIn wsX9_best wsX0_moodForChance := goodIn_r _ [39, 15, 16, 17, 18, 19, 20, 40, 41, 42, 12, 43, 25, 26, 27, 28, 44, 45, 46, 47, 48, 49, 50, 51, 52, 29, 5, 30, 31, 9, 10, 69, 70, 71, 72, 73] (by decide +kernel) (by decide +kernel)
set_option maxRecDepth 20000 in
theorem gX9_best_X0_moodForChance_n148 : GoodIn wsX9_best (wsX0_moodForChance) := ggX9_best_X0_moodForChance
set_option maxRecDepth 20000 in
theorem ggX9_spend_X9_isLeft : GoodIn wsX9_spend wsX9_isLeft := goodIn_r _ [7, 2, 8, 9, 6, 10, 26, 27, 28, 29, 30, 31, 32, 33, 34, 35, 36, 37, 38, 39, 40, 41] (by decide +kernel) (by decide +kernel)
set_option maxRecDepth 20000 in
theorem gX9_spend_X9_isLeft : GoodIn wsX9_spend (wsV RX9 122 RX9 yX9_isLeft wsX9_isLeft) := goodIn_app (goodIn_of _ (by decide +kernel)) ggX9_spend_X9_isLeft
set_option maxRecDepth 20000 in
theorem ggX9_spend_X0_share : GoodIn wsX9_spend wsX0_share := goodIn_r _ [14, 15, 16, 17, 18, 12, 19, 20, 9, 6, 10, 21, 22, 23, 24, 25, 35, 36, 37, 38, 39, 40, 41, 42, 43, 44] (by decide +kernel) (by decide +kernel)
set_option maxRecDepth 20000 in
theorem gX9_spend_X0_share_n151 : GoodIn wsX9_spend (wsX0_share) := ggX9_spend_X0_share
set_option maxRecDepth 20000 in
theorem ggX9_bat_X9_within : GoodIn wsX9_bat wsX9_within := goodIn_r _ [6] (by decide +kernel) (by decide +kernel)
set_option maxRecDepth 20000 in
theorem gX9_bat_X9_within : GoodIn wsX9_bat (va_wsS RX9 85 yX9_within wsX9_within) := goodIn_app (goodIn_of _ (by decide +kernel)) ggX9_bat_X9_within
set_option maxRecDepth 20000 in
theorem ggX9_bat_X1_add : GoodIn wsX9_bat wsX1_add := goodIn_r _ [10, 11, 12, 13, 4, 5, 6, 23, 24, 25] (by decide +kernel) (by decide +kernel)
set_option maxRecDepth 20000 in
theorem gX9_bat_X1_add_n161 : GoodIn wsX9_bat (wsX1_add) := ggX9_bat_X1_add
set_option maxRecDepth 20000 in
theorem ggX9_anew_X1_begin : GoodIn wsX9_anew wsX1_begin := goodIn_r _ [7, 8, 9, 10, 11, 12, 13, 14, 32, 33, 34] (by decide +kernel) (by decide +kernel)
set_option maxRecDepth 20000 in
theorem gX9_anew_X1_begin_n112 : GoodIn wsX9_anew (wsX1_begin) := ggX9_anew_X1_begin
set_option maxRecDepth 20000 in
theorem ggX9_anew_X5_begin : GoodIn wsX9_anew wsX5_begin := goodIn_r _ [18, 19, 20, 21, 22, 35, 36, 37, 38, 39, 40, 41, 42, 43, 44, 45, 46] (by decide +kernel) (by decide +kernel)
set_option maxRecDepth 20000 in
theorem gX9_anew_X5_begin_n81 : GoodIn wsX9_anew (wsX5_begin) := ggX9_anew_X5_begin
set_option maxRecDepth 20000 in
theorem ggX9_play_X9_within : GoodIn wsX9_play wsX9_within := goodIn_r _ [5] (by decide +kernel) (by decide +kernel)
set_option maxRecDepth 20000 in
theorem gX9_play_X9_within : GoodIn wsX9_play (va_wsS RX9 85 yX9_within wsX9_within) := goodIn_app (goodIn_of _ (by decide +kernel)) ggX9_play_X9_within
set_option maxRecDepth 20000 in
theorem ggX9_play_X5_isAtEnd : GoodIn wsX9_play wsX5_isAtEnd := goodIn_r _ [9, 10, 11, 35, 36, 37, 38, 39] (by decide +kernel) (by decide +kernel)
set_option maxRecDepth 20000 in
theorem gX9_play_X5_isAtEnd_n167 : GoodIn wsX9_play (wsX5_isAtEnd) := ggX9_play_X5_isAtEnd
set_option maxRecDepth 20000 in
theorem ggX9_play_X5_addOver : GoodIn wsX9_play wsX5_addOver := goodIn_r _ [14, 10, 11, 15, 16, 17, 18, 19, 20, 21, 22, 7, 23, 24, 25, 3, 4, 5, 35, 36, 37, 38, 39] (by decide +kernel) (by decide +kernel)
set_option maxRecDepth 20000 in
theorem gX9_play_X5_addOver_n173 : GoodIn wsX9_play (wsX5_addOver) := ggX9_play_X5_addOver
set_option maxRecDepth 20000 in
theorem ggX9_rain_X9_within : GoodIn wsX9_rain wsX9_within := goodIn_r _ [5] (by decide +kernel) (by decide +kernel)
set_option maxRecDepth 20000 in
theorem gX9_rain_X9_within : GoodIn wsX9_rain (va_wsS RX9 85 yX9_within wsX9_within) := goodIn_app (goodIn_of _ (by decide +kernel)) ggX9_rain_X9_within
set_option maxRecDepth 20000 in
theorem ggX9_rain_X5_addRain : GoodIn wsX9_rain wsX5_addRain := goodIn_r _ [9, 10, 11, 12, 13, 7, 14, 15, 16, 17, 18, 3, 4, 5, 28, 29, 30, 31, 32] (by decide +kernel) (by decide +kernel)
set_option maxRecDepth 20000 in
theorem gX9_rain_X5_addRain_n181 : GoodIn wsX9_rain (wsX5_addRain) := ggX9_rain_X5_addRain
set_option maxRecDepth 20000 in
theorem ggX9_event_X9_within : GoodIn wsX9_event wsX9_within := goodIn_r _ [5] (by decide +kernel) (by decide +kernel)
set_option maxRecDepth 20000 in
theorem gX9_event_X9_within : GoodIn wsX9_event (va_wsS RX9 85 yX9_within wsX9_within) := goodIn_app (goodIn_of _ (by decide +kernel)) ggX9_event_X9_within
set_option maxRecDepth 20000 in
theorem ggX9_event_X5_part : GoodIn wsX9_event wsX5_part := goodIn_r _ [9, 10, 3, 4, 5, 20, 21, 22, 23, 24] (by decide +kernel) (by decide +kernel)
set_option maxRecDepth 20000 in
theorem gX9_event_X5_part_n184 : GoodIn wsX9_event (wsX5_part) := ggX9_event_X5_part
set_option maxRecDepth 20000 in
theorem ggX9_target_X9_isRule : GoodIn wsX9_target wsX9_isRule := goodIn_r _ [6, 7, 8, 5, 9] (by decide +kernel) (by decide +kernel)
set_option maxRecDepth 20000 in
theorem gX9_target_X9_isRule : GoodIn wsX9_target (va_wsS RX9 186 yX9_isRule wsX9_isRule) := goodIn_app (goodIn_of _ (by decide +kernel)) ggX9_target_X9_isRule
set_option maxRecDepth 20000 in
theorem ggX9_target_X8_behind : GoodIn wsX9_target wsX8_behind := goodIn_r _ [13, 14, 15, 16, 11, 17, 18, 19, 20, 21, 22, 23, 24, 25, 26, 27, 8, 5, 9, 28, 29, 30, 31, 32, 33, 34, 35, 36, 37, 38, 39, 40, 41, 42, 43, 44, 45, 46, 47, 48, 49, 50, 51, 52, 53, 54, 55, 56, 57, 58, 59, 60, 61, 62, 63, 64, 65, 66, 67, 68, 69, 70, 71, 72, 73, 74, 75, 76, 77, 78, 79, 80, 81, 82, 83, 84, 85, 86, 87, 88, 89, 90, 91, 92, 93, 94, 95, 96, 97, 98, 99, 100, 101, 102, 103, 104, 105, 106, 107, 122, 123, 124, 125, 126, 127, 128, 129, 130, 131, 132, 117, 118, 119, 120, 121, 133, 134, 135, 136, 137, 138, 139, 140, 141, 142, 143, 144] (by decide +kernel) (by decide +kernel)
set_option maxRecDepth 20000 in
theorem gX9_target_X8_behind_n189 : GoodIn wsX9_target (wsX8_behind) := ggX9_target_X8_behind
set_option maxRecDepth 20000 in
theorem ggX9_odds_X9_isRule : GoodIn wsX9_odds wsX9_isRule := goodIn_r _ [7, 8, 9, 6, 10] (by decide +kernel) (by decide +kernel)
set_option maxRecDepth 20000 in
theorem gX9_odds_X9_isRule : GoodIn wsX9_odds (va_wsS RX9 186 yX9_isRule wsX9_isRule) := goodIn_app (goodIn_of _ (by decide +kernel)) ggX9_odds_X9_isRule
set_option maxRecDepth 20000 in
theorem ggX9_odds_X8_behind : GoodIn wsX9_odds wsX8_behind := goodIn_r _ [14, 15, 16, 17, 12, 18, 19, 20, 21, 22, 23, 24, 25, 26, 27, 28, 9, 6, 10, 29, 30, 31, 32, 33, 34, 35, 36, 37, 38, 39, 40, 41, 42, 43, 44, 45, 46, 47, 48, 49, 50, 51, 52, 53, 54, 55, 56, 57, 58, 59, 60, 61, 62, 63, 64, 65, 66, 67, 68, 69, 70, 71, 72, 73, 74, 75, 76, 77, 78, 79, 80, 81, 82, 83, 84, 85, 86, 87, 88, 89, 90, 91, 92, 93, 94, 95, 96, 97, 98, 99, 100, 101, 102, 103, 104, 105, 106, 107, 108, 130, 131, 132, 133, 134, 135, 136, 137, 138, 139, 140, 125, 126, 127, 128, 129, 141, 142, 143, 144, 145, 146, 147, 148, 149, 150, 151, 152] (by decide +kernel) (by decide +kernel)
set_option maxRecDepth 20000 in
theorem gX9_odds_X8_behind_n189 : GoodIn wsX9_odds (wsX8_behind) := ggX9_odds_X8_behind
set_option maxRecDepth 20000 in
theorem ggX9_odds_X0_millionths : GoodIn wsX9_odds wsX0_millionths := goodIn_r _ [111, 86, 65, 66, 36, 67, 68, 69, 70, 56, 71, 45, 6, 46, 47, 9, 10, 72, 73, 74, 75, 76, 77, 78, 79, 80, 81, 82, 83, 84, 85, 112, 113, 114, 115, 48, 49, 148, 149, 150, 151, 152] (by decide +kernel) (by decide +kernel)
set_option maxRecDepth 20000 in
theorem gX9_odds_X0_millionths_n196 : GoodIn wsX9_odds (wsX0_millionths) := ggX9_odds_X0_millionths
set_option maxRecDepth 20000 in
theorem ggX9_gain_X9_isRule : GoodIn wsX9_gain wsX9_isRule := goodIn_r _ [8, 9, 10, 7, 11] (by decide +kernel) (by decide +kernel)
set_option maxRecDepth 20000 in
theorem gX9_gain_X9_isRule : GoodIn wsX9_gain (va_wsS RX9 186 yX9_isRule wsX9_isRule) := goodIn_app (goodIn_of _ (by decide +kernel)) ggX9_gain_X9_isRule
set_option maxRecDepth 20000 in
theorem ggX9_gain_X5_lastRain : GoodIn wsX9_gain wsX5_lastRain := goodIn_r _ [15, 16, 17, 18, 19, 13, 20, 21, 10, 7, 11, 131, 132, 133, 134, 135] (by decide +kernel) (by decide +kernel)
set_option maxRecDepth 20000 in
theorem gX9_gain_X5_lastRain_n199 : GoodIn wsX9_gain (wsX5_lastRain) := ggX9_gain_X5_lastRain
set_option maxRecDepth 20000 in
theorem ggX9_gain_X5_part : GoodIn wsX9_gain wsX5_part := goodIn_r _ [20, 21, 10, 7, 11, 131, 132, 133, 134, 135] (by decide +kernel) (by decide +kernel)
set_option maxRecDepth 20000 in
theorem gX9_gain_X5_part_n184 : GoodIn wsX9_gain (wsX5_part) := ggX9_gain_X5_part
set_option maxRecDepth 20000 in
theorem ggX9_gain_X8_behind : GoodIn wsX9_gain wsX8_behind := goodIn_r _ [25, 26, 27, 28, 23, 29, 30, 31, 32, 33, 34, 18, 13, 19, 20, 21, 10, 7, 11, 35, 36, 37, 38, 39, 40, 41, 42, 43, 44, 45, 46, 47, 48, 49, 50, 51, 52, 53, 54, 55, 56, 57, 58, 59, 60, 61, 62, 63, 64, 65, 66, 67, 68, 69, 70, 71, 72, 73, 74, 75, 76, 77, 78, 79, 80, 81, 82, 83, 84, 85, 86, 87, 88, 89, 90, 91, 92, 93, 94, 95, 96, 97, 98, 99, 100, 101, 102, 103, 104, 105, 106, 107, 108, 109, 110, 111, 112, 113, 114, 136, 137, 138, 139, 140, 141, 142, 143, 144, 145, 146, 131, 132, 133, 134, 135, 147, 148, 149, 150, 151, 152, 153, 154, 155, 156, 157, 158] (by decide +kernel) (by decide +kernel)
set_option maxRecDepth 20000 in
theorem gX9_gain_X8_behind_n189 : GoodIn wsX9_gain (wsX8_behind) := ggX9_gain_X8_behind
set_option maxRecDepth 20000 in
theorem ggX9_gain_X0_millionths : GoodIn wsX9_gain wsX0_millionths := goodIn_r _ [117, 92, 71, 72, 42, 73, 74, 75, 76, 62, 77, 51, 7, 52, 53, 10, 11, 78, 79, 80, 81, 82, 83, 84, 85, 86, 87, 88, 89, 90, 91, 118, 119, 120, 121, 54, 55, 154, 155, 156, 157, 158] (by decide +kernel) (by decide +kernel)
set_option maxRecDepth 20000 in
theorem gX9_gain_X0_millionths_n196 : GoodIn wsX9_gain (wsX0_millionths) := ggX9_gain_X0_millionths
set_option maxRecDepth 20000 in
theorem ggX9_won_X9_isRule : GoodIn wsX9_won wsX9_isRule := goodIn_r _ [6, 7, 8, 5, 9] (by decide +kernel) (by decide +kernel)
set_option maxRecDepth 20000 in
theorem gX9_won_X9_isRule : GoodIn wsX9_won (va_wsS RX9 186 yX9_isRule wsX9_isRule) := goodIn_app (goodIn_of _ (by decide +kernel)) ggX9_won_X9_isRule
set_option maxRecDepth 20000 in
theorem ggX9_won_X8_behind : GoodIn wsX9_won wsX8_behind := goodIn_r _ [13, 14, 15, 16, 11, 17, 18, 19, 20, 21, 22, 23, 24, 25, 26, 27, 8, 5, 9, 28, 29, 30, 31, 32, 33, 34, 35, 36, 37, 38, 39, 40, 41, 42, 43, 44, 45, 46, 47, 48, 49, 50, 51, 52, 53, 54, 55, 56, 57, 58, 59, 60, 61, 62, 63, 64, 65, 66, 67, 68, 69, 70, 71, 72, 73, 74, 75, 76, 77, 78, 79, 80, 81, 82, 83, 84, 85, 86, 87, 88, 89, 90, 91, 92, 93, 94, 95, 96, 97, 98, 99, 100, 101, 102, 103, 104, 105, 106, 107, 127, 128, 129, 130, 131, 132, 133, 134, 135, 136, 137, 122, 123, 124, 125, 126, 138, 139, 140, 141, 142, 143, 144, 145, 146, 147, 148, 149] (by decide +kernel) (by decide +kernel)
set_option maxRecDepth 20000 in
theorem gX9_won_X8_behind_n189 : GoodIn wsX9_won (wsX8_behind) := ggX9_won_X8_behind
set_option maxRecDepth 20000 in
theorem ggX9_won_X5_isAtEnd : GoodIn wsX9_won wsX5_isAtEnd := goodIn_r _ [110, 111, 112, 122, 123, 124, 125, 126] (by decide +kernel) (by decide +kernel)
set_option maxRecDepth 20000 in
theorem gX9_won_X5_isAtEnd_n167 : GoodIn wsX9_won (wsX5_isAtEnd) := ggX9_won_X5_isAtEnd
set_option maxRecDepth 20000 in
theorem ggX9_odd_X9_isRule : GoodIn wsX9_odd wsX9_isRule := goodIn_r _ [7, 8, 9, 6, 10] (by decide +kernel) (by decide +kernel)
set_option maxRecDepth 20000 in
theorem gX9_odd_X9_isRule : GoodIn wsX9_odd (va_wsS RX9 186 yX9_isRule wsX9_isRule) := goodIn_app (goodIn_of _ (by decide +kernel)) ggX9_odd_X9_isRule
set_option maxRecDepth 20000 in
theorem ggX9_odd_X8_afterOneRain : GoodIn wsX9_odd wsX8_afterOneRain := goodIn_r _ [14, 15, 16, 17, 18, 12, 19, 20, 21, 22, 23, 24, 25, 26, 27, 28, 29, 30, 31, 32, 33, 34, 35, 36, 37, 38, 39, 9, 6, 10, 40, 41, 42, 43, 44, 45, 46, 47, 48, 49, 50, 51, 52, 53, 54, 55, 56, 57, 58, 59, 60, 61, 62, 63, 64, 65, 66, 67, 68, 69, 70, 71, 72, 73, 74, 75, 76, 77, 78, 79, 80, 81, 82, 83, 84, 85, 86, 87, 88, 89, 90, 91, 92, 93, 94, 95, 96, 97, 98, 99, 100, 101, 102, 103, 123, 124, 125, 126, 127, 128, 129, 130, 113, 114, 115, 116, 117, 118, 119, 120, 121, 122, 131, 132, 133, 134, 135] (by decide +kernel) (by decide +kernel)
set_option maxRecDepth 20000 in
theorem gX9_odd_X8_afterOneRain_n203 : GoodIn wsX9_odd (wsX8_afterOneRain) := ggX9_odd_X8_afterOneRain
set_option maxRecDepth 20000 in
theorem ggX9_sheet_X9_isRule : GoodIn wsX9_sheet wsX9_isRule := goodIn_r _ [6, 7, 8, 5, 9] (by decide +kernel) (by decide +kernel)
set_option maxRecDepth 20000 in
theorem gX9_sheet_X9_isRule : GoodIn wsX9_sheet (va_wsS RX9 186 yX9_isRule wsX9_isRule) := goodIn_app (goodIn_of _ (by decide +kernel)) ggX9_sheet_X9_isRule
set_option maxRecDepth 20000 in
theorem ggX9_sheet_X9_within : GoodIn wsX9_sheet wsX9_within := goodIn_r _ [9] (by decide +kernel) (by decide +kernel)
set_option maxRecDepth 20000 in
theorem gX9_sheet_X9_within : GoodIn wsX9_sheet (va_wsS RX9 85 yX9_within wsX9_within) := goodIn_app (goodIn_of _ (by decide +kernel)) ggX9_sheet_X9_within
set_option maxRecDepth 20000 in
theorem ggX9_sheet_X8_afterOneRain : GoodIn wsX9_sheet wsX8_afterOneRain := goodIn_r _ [13, 14, 15, 16, 17, 11, 18, 19, 20, 21, 22, 23, 24, 25, 26, 27, 28, 29, 30, 31, 32, 33, 34, 35, 36, 37, 38, 8, 5, 9, 39, 40, 41, 42, 43, 44, 45, 46, 47, 48, 49, 50, 51, 52, 53, 54, 55, 56, 57, 58, 59, 60, 61, 62, 63, 64, 65, 66, 67, 68, 69, 70, 71, 72, 73, 74, 75, 76, 77, 78, 79, 80, 81, 82, 83, 84, 85, 86, 87, 88, 89, 90, 91, 92, 93, 94, 95, 96, 97, 98, 99, 100, 101, 102, 119, 120, 121, 122, 123, 124, 125, 126, 112, 113, 114, 115, 116, 117, 118, 127, 128, 129, 130, 131, 132, 133, 134] (by decide +kernel) (by decide +kernel)
set_option maxRecDepth 20000 in
theorem gX9_sheet_X8_afterOneRain_n203 : GoodIn wsX9_sheet (wsX8_afterOneRain) := ggX9_sheet_X8_afterOneRain
set_option maxRecDepth 20000 in
theorem ggX9_clouded_X9_isRule : GoodIn wsX9_clouded wsX9_isRule := goodIn_r _ [12, 13, 14, 11, 15] (by decide +kernel) (by decide +kernel)
set_option maxRecDepth 20000 in
theorem gX9_clouded_X9_isRule : GoodIn wsX9_clouded (va_wsS RX9 186 yX9_isRule wsX9_isRule) := goodIn_app (goodIn_of _ (by decide +kernel)) ggX9_clouded_X9_isRule
set_option maxRecDepth 20000 in
theorem ggX9_clouded_X8_afterOneRain : GoodIn wsX9_clouded wsX8_afterOneRain := goodIn_r _ [19, 20, 21, 22, 23, 17, 24, 25, 26, 27, 28, 29, 30, 31, 32, 33, 34, 35, 36, 37, 38, 39, 40, 41, 42, 43, 44, 14, 11, 15, 45, 46, 47, 48, 49, 50, 51, 52, 53, 54, 3, 4, 5, 55, 56, 57, 58, 59, 60, 61, 62, 63, 64, 65, 66, 67, 68, 69, 70, 71, 72, 73, 74, 75, 76, 77, 78, 79, 80, 81, 82, 83, 84, 85, 86, 87, 88, 89, 90, 91, 92, 93, 94, 95, 96, 97, 98, 99, 100, 101, 102, 103, 104, 105, 130, 131, 132, 133, 134, 135, 136, 137, 120, 121, 122, 123, 124, 125, 126, 127, 128, 129, 138, 139, 140, 141, 142] (by decide +kernel) (by decide +kernel)
set_option maxRecDepth 20000 in
theorem gX9_clouded_X8_afterOneRain_n203 : GoodIn wsX9_clouded (wsX8_afterOneRain) := ggX9_clouded_X8_afterOneRain
set_option maxRecDepth 20000 in
theorem ggX9_clouded_X0_chance : GoodIn wsX9_clouded wsX0_chance := goodIn_r _ [64, 65, 66, 67, 4, 68, 45, 11, 46, 47, 14, 15, 69, 70, 71, 36, 72, 73, 74, 75, 76, 77, 78, 79, 80, 81, 82, 83, 62, 63, 138, 139, 140, 141, 142] (by decide +kernel) (by decide +kernel)
set_option maxRecDepth 20000 in
theorem gX9_clouded_X0_chance_n140 : GoodIn wsX9_clouded (wsX0_chance) := ggX9_clouded_X0_chance
set_option maxRecDepth 20000 in
theorem ggX9_clouded_X9_power : GoodIn wsX9_clouded wsX9_power := goodIn_r _ [46, 47] (by decide +kernel) (by decide +kernel)
set_option maxRecDepth 20000 in
theorem gX9_clouded_X9_power : GoodIn wsX9_clouded (va_wsS RX9 132 yX9_power wsX9_power) := goodIn_app (goodIn_of _ (by decide +kernel)) ggX9_clouded_X9_power
set_option maxRecDepth 20000 in
theorem ggX9_clouded_X9_inMillionths : GoodIn wsX9_clouded wsX9_inMillionths := goodIn_r _ [109, 106, 45, 11, 46, 47, 110, 48, 49] (by decide +kernel) (by decide +kernel)
set_option maxRecDepth 20000 in
theorem gX9_clouded_X9_inMillionths : GoodIn wsX9_clouded (va_wsS RX9 218 yX9_inMillionths wsX9_inMillionths) := goodIn_app (goodIn_of _ (by decide +kernel)) ggX9_clouded_X9_inMillionths
set_option maxRecDepth 20000 in
theorem ggX9_simple_X9_within : GoodIn wsX9_simple wsX9_within := goodIn_r _ [5] (by decide +kernel) (by decide +kernel)
set_option maxRecDepth 20000 in
theorem gX9_simple_X9_within : GoodIn wsX9_simple (va_wsS RX9 85 yX9_within wsX9_within) := goodIn_app (goodIn_of _ (by decide +kernel)) ggX9_simple_X9_within
set_option maxRecDepth 20000 in
theorem ggX9_simple_X8_keepOddsOnSheet : GoodIn wsX9_simple wsX8_keepOddsOnSheet := goodIn_r _ [9, 10, 11, 12, 13, 14, 7, 15, 16, 17, 18, 19, 20, 21, 22, 23, 24, 25, 26, 27, 28, 29, 30, 31, 32, 33, 34, 35, 4, 36, 37, 3, 5, 38, 39, 40, 41, 42, 43, 44, 45, 46, 47, 48, 49, 50, 51, 52, 76, 77, 78, 79, 80, 81, 82, 83, 84, 85, 86, 87, 88, 89, 90, 91, 92, 93, 94, 95, 96, 97, 98] (by decide +kernel) (by decide +kernel)
set_option maxRecDepth 20000 in
theorem gX9_simple_X8_keepOddsOnSheet_n222 : GoodIn wsX9_simple (wsX8_keepOddsOnSheet) := ggX9_simple_X8_keepOddsOnSheet
set_option maxRecDepth 20000 in
theorem ggX9_simple_X8_differenceOf : GoodIn wsX9_simple wsX8_differenceOf := goodIn_r _ [55, 10, 11, 56, 57, 33, 58, 59, 60, 61, 7, 62, 19, 63, 64, 65, 66, 32, 34, 76, 77, 78, 79, 80, 81, 82, 83, 84, 85, 86, 87, 88, 89, 90, 91, 92, 93] (by decide +kernel) (by decide +kernel)
set_option maxRecDepth 20000 in
theorem gX9_simple_X8_differenceOf_n225 : GoodIn wsX9_simple (wsX8_differenceOf) := ggX9_simple_X8_differenceOf
set_option maxRecDepth 20000 in
theorem ggX9_match_X9_within : GoodIn wsX9_match wsX9_within := goodIn_r _ [5] (by decide +kernel) (by decide +kernel)
set_option maxRecDepth 20000 in
theorem gX9_match_X9_within : GoodIn wsX9_match (va_wsS RX9 85 yX9_within wsX9_within) := goodIn_app (goodIn_of _ (by decide +kernel)) ggX9_match_X9_within
set_option maxRecDepth 20000 in
theorem ggX9_match_X2_add : GoodIn wsX9_match wsX2_add := goodIn_r _ [9, 10, 11, 3, 4, 5, 21, 22] (by decide +kernel) (by decide +kernel)
set_option maxRecDepth 20000 in
theorem gX9_match_X2_add_n229 : GoodIn wsX9_match (wsX2_add) := ggX9_match_X2_add
set_option maxRecDepth 20000 in
theorem ggX9_tried_X2_differenceOf : GoodIn wsX9_tried wsX2_differenceOf := goodIn_r _ [7, 8, 9, 10, 11, 12, 13, 14, 15, 16, 17, 18, 19, 20, 21, 22, 23, 24, 25, 26, 36, 37, 38, 39, 40, 41, 42, 43, 44, 45, 46, 47] (by decide +kernel) (by decide +kernel)
set_option maxRecDepth 20000 in
theorem gX9_tried_X2_differenceOf_n232 : GoodIn wsX9_tried (wsX2_differenceOf) := ggX9_tried_X2_differenceOf
set_option maxRecDepth 20000 in
theorem ggX9_tell_X4_number : GoodIn wsX9_tell wsX4_number := goodIn_r _ [6, 7, 8, 9, 10, 45, 46, 47, 48, 49, 50, 51] (by decide +kernel) (by decide +kernel)
set_option maxRecDepth 20000 in
theorem gX9_tell_X4_number_n238 : GoodIn wsX9_tell (wsX4_number) := ggX9_tell_X4_number
set_option maxRecDepth 20000 in
theorem ggX9_tell_X4_word : GoodIn wsX9_tell wsX4_word := goodIn_r _ [13, 14, 8, 9, 10, 45, 46, 47, 48, 49, 50, 51] (by decide +kernel) (by decide +kernel)
set_option maxRecDepth 20000 in
theorem gX9_tell_X4_word_n241 : GoodIn wsX9_tell (wsX4_word) := ggX9_tell_X4_word
set_option maxRecDepth 20000 in
theorem ggX9_tell_X9_tellMood : GoodIn wsX9_tell wsX9_tellMood := goodIn_r _ [18, 19, 1, 20, 21, 22, 23, 24, 8, 9, 10, 3, 4, 5, 6, 7, 25, 26, 27, 28, 29, 30, 31, 32, 33, 34, 35, 36, 37, 52, 53, 45, 46, 47, 48, 49, 50, 51] (by decide +kernel) (by decide +kernel)
set_option maxRecDepth 20000 in
theorem gX9_tell_X9_tellMood : GoodIn wsX9_tell (wsV RX9 244 RX9 yX9_tellMood wsX9_tellMood) := goodIn_app (goodIn_of _ (by decide +kernel)) ggX9_tell_X9_tellMood
set_option maxRecDepth 20000 in
theorem ggX9_tellMood_X3_forget : GoodIn wsX9_tellMood wsX3_forget := goodIn_r _ [6, 7, 8, 9, 10, 29, 30] (by decide +kernel) (by decide +kernel)
set_option maxRecDepth 20000 in
theorem gX9_tellMood_X3_forget_n253 : GoodIn wsX9_tellMood (wsX3_forget) := ggX9_tellMood_X3_forget
set_option maxRecDepth 20000 in
theorem ggX9_tellMood_X4_number : GoodIn wsX9_tellMood wsX4_number := goodIn_r _ [14, 15, 8, 9, 10, 31, 32, 33, 34, 35, 36, 37] (by decide +kernel) (by decide +kernel)
set_option maxRecDepth 20000 in
theorem gX9_tellMood_X4_number_n238 : GoodIn wsX9_tellMood (wsX4_number) := ggX9_tellMood_X4_number
set_option maxRecDepth 20000 in
theorem ggX9_tellMood_X3_add : GoodIn wsX9_tellMood wsX3_add := goodIn_r _ [18, 7, 19, 8, 9, 10, 29, 30] (by decide +kernel) (by decide +kernel)
set_option maxRecDepth 20000 in
theorem gX9_tellMood_X3_add_n256 : GoodIn wsX9_tellMood (wsX3_add) := ggX9_tellMood_X3_add
set_option maxRecDepth 20000 in
theorem ggX9_isLeft_X9_within : GoodIn wsX9_isLeft wsX9_within := goodIn_r _ [5] (by decide +kernel) (by decide +kernel)
set_option maxRecDepth 20000 in
theorem gX9_isLeft_X9_within : GoodIn wsX9_isLeft (va_wsS RX9 85 yX9_within wsX9_within) := goodIn_app (goodIn_of _ (by decide +kernel)) ggX9_isLeft_X9_within
set_option maxRecDepth 20000 in
theorem ggX9_isRule_X9_within : GoodIn wsX9_isRule wsX9_within := goodIn_r _ [4] (by decide +kernel) (by decide +kernel)
set_option maxRecDepth 20000 in
theorem gX9_isRule_X9_within : GoodIn wsX9_isRule (va_wsS RX9 85 yX9_within wsX9_within) := goodIn_app (goodIn_of _ (by decide +kernel)) ggX9_isRule_X9_within
set_option maxRecDepth 20000 in
theorem ggX9_inMillionths_X9_power : GoodIn wsX9_inMillionths wsX9_power := goodIn_r _ [4, 5] (by decide +kernel) (by decide +kernel)
set_option maxRecDepth 20000 in
theorem gX9_inMillionths_X9_power : GoodIn wsX9_inMillionths (va_wsS RX9 132 yX9_power wsX9_power) := goodIn_app (goodIn_of _ (by decide +kernel)) ggX9_inMillionths_X9_power
set_option maxRecDepth 20000 in
theorem ggX9_inMillionths_X9_cut : GoodIn wsX9_inMillionths wsX9_cut := goodIn_r _ [8] (by decide +kernel) (by decide +kernel)
set_option maxRecDepth 20000 in
theorem gX9_inMillionths_X9_cut : GoodIn wsX9_inMillionths (va_wsS RX9 263 yX9_cut wsX9_cut) := goodIn_app (goodIn_of _ (by decide +kernel)) ggX9_inMillionths_X9_cut
set_option maxRecDepth 20000 in
theorem ggX9_lowest_X9_commonDivisor : GoodIn wsX9_lowest wsX9_commonDivisor := goodIn_r _ [4] (by decide +kernel) (by decide +kernel)
set_option maxRecDepth 20000 in
theorem gX9_lowest_X9_commonDivisor : GoodIn wsX9_lowest (va_wsS RX9 267 yX9_commonDivisor wsX9_commonDivisor) := goodIn_app (goodIn_of _ (by decide +kernel)) ggX9_lowest_X9_commonDivisor
set_option maxRecDepth 20000 in
theorem ggX9_lowest_X9_cut : GoodIn wsX9_lowest wsX9_cut := goodIn_r _ [7] (by decide +kernel) (by decide +kernel)
set_option maxRecDepth 20000 in
theorem gX9_lowest_X9_cut : GoodIn wsX9_lowest (va_wsS RX9 263 yX9_cut wsX9_cut) := goodIn_app (goodIn_of _ (by decide +kernel)) ggX9_lowest_X9_cut
set_option maxRecDepth 20000 in
theorem ggJ0_length_8abf5_J0_coder_7d493 : GoodIn wsJ0_length_8abf5 wsJ0_coder_7d493 := goodIn_r _ [6, 7, 8] (by decide +kernel) (by decide +kernel)
set_option maxRecDepth 20000 in
theorem gJ0_length_8abf5_J0_coder_7d493 : GoodIn wsJ0_length_8abf5 (wsV RJ0 335 RJ0 yJ0_coder_7d493 wsJ0_coder_7d493) := goodIn_app (goodIn_of _ (by decide +kernel)) ggJ0_length_8abf5_J0_coder_7d493
set_option maxRecDepth 20000 in
theorem ggJ0_charAt_5068e_J0_isLatin1_aae02 : GoodIn wsJ0_charAt_5068e wsJ0_isLatin1_aae02 := goodIn_r _ [6, 7, 8] (by decide +kernel) (by decide +kernel)
set_option maxRecDepth 20000 in
theorem gJ0_charAt_5068e_J0_isLatin1_aae02 : GoodIn wsJ0_charAt_5068e (wsV RJ0 492 RJ0 yJ0_isLatin1_aae02 wsJ0_isLatin1_aae02) := goodIn_app (goodIn_of _ (by decide +kernel)) ggJ0_charAt_5068e_J0_isLatin1_aae02
set_option maxRecDepth 20000 in
theorem ggJ0_charAt_5068e_J1_charAt_3b067 : GoodIn wsJ0_charAt_5068e wsJ1_charAt_3b067 := goodIn_r _ [12, 13, 14, 5, 15, 16, 17, 18, 19, 20] (by decide +kernel) (by decide +kernel)
set_option maxRecDepth 20000 in
theorem gJ0_charAt_5068e_J1_charAt_3b067 : GoodIn wsJ0_charAt_5068e (va_wsS RJ0 495 yJ1_charAt_3b067 wsJ1_charAt_3b067) := goodIn_app (goodIn_of _ (by decide +kernel)) ggJ0_charAt_5068e_J1_charAt_3b067
set_option maxRecDepth 20000 in
theorem ggJ0_charAt_5068e_J2_charAt_3b067 : GoodIn wsJ0_charAt_5068e wsJ2_charAt_3b067 := goodIn_r _ [24, 25, 26, 23, 27, 28, 29, 30, 31, 14, 5, 15, 16, 17, 18, 19, 20, 32, 33, 34, 35, 36, 37] (by decide +kernel) (by decide +kernel)
set_option maxRecDepth 20000 in
theorem gJ0_charAt_5068e_J2_charAt_3b067 : GoodIn wsJ0_charAt_5068e (va_wsS RJ0 498 yJ2_charAt_3b067 wsJ2_charAt_3b067) := goodIn_app (goodIn_of _ (by decide +kernel)) ggJ0_charAt_5068e_J2_charAt_3b067
set_option maxRecDepth 20000 in
theorem ggJ0_checkIndex_df160_J3_checkIndex_8e157 : GoodIn wsJ0_checkIndex_df160 wsJ3_checkIndex_8e157 := goodIn_r _ [5] (by decide +kernel) (by decide +kernel)
set_option maxRecDepth 20000 in
theorem gJ0_checkIndex_df160_J3_checkIndex_8e157 : GoodIn wsJ0_checkIndex_df160 (va_wsS RJ0 1059 yJ3_checkIndex_8e157 wsJ3_checkIndex_8e157) := goodIn_app (goodIn_of _ (by decide +kernel)) ggJ0_checkIndex_df160_J3_checkIndex_8e157
set_option maxRecDepth 20000 in
theorem ggJ1_charAt_3b067_J0_checkIndex_df160 : GoodIn wsJ1_charAt_3b067 wsJ0_checkIndex_df160 := goodIn_r _ [4, 5, 6, 7, 8, 9] (by decide +kernel) (by decide +kernel)
set_option maxRecDepth 20000 in
theorem gJ1_charAt_3b067_J0_checkIndex_df160 : GoodIn wsJ1_charAt_3b067 (va_wsS RJ1 9 yJ0_checkIndex_df160 wsJ0_checkIndex_df160) := goodIn_app (goodIn_of _ (by decide +kernel)) ggJ1_charAt_3b067_J0_checkIndex_df160
set_option maxRecDepth 20000 in
theorem ggJ2_getChar_3b067_J2_length_9d52b : GoodIn wsJ2_getChar_3b067 wsJ2_length_9d52b := goodIn_r _ [7] (by decide +kernel) (by decide +kernel)
set_option maxRecDepth 20000 in
theorem gJ2_getChar_3b067_J2_length_9d52b : GoodIn wsJ2_getChar_3b067 (va_wsS RJ2 48 yJ2_length_9d52b wsJ2_length_9d52b) := goodIn_app (goodIn_of _ (by decide +kernel)) ggJ2_getChar_3b067_J2_length_9d52b
set_option maxRecDepth 20000 in
theorem ggJ2_charAt_3b067_J2_checkIndex_2214a : GoodIn wsJ2_charAt_3b067 wsJ2_checkIndex_2214a := goodIn_r _ [4, 5, 6, 3, 7, 8, 9, 10, 11, 12, 13, 14, 15, 16] (by decide +kernel) (by decide +kernel)
set_option maxRecDepth 20000 in
theorem gJ2_charAt_3b067_J2_checkIndex_2214a : GoodIn wsJ2_charAt_3b067 (va_wsS RJ2 67 yJ2_checkIndex_2214a wsJ2_checkIndex_2214a) := goodIn_app (goodIn_of _ (by decide +kernel)) ggJ2_charAt_3b067_J2_checkIndex_2214a
set_option maxRecDepth 20000 in
theorem ggJ2_charAt_3b067_J2_getChar_3b067 : GoodIn wsJ2_charAt_3b067 wsJ2_getChar_3b067 := goodIn_r _ [19, 20, 21, 22, 5, 6, 3, 7] (by decide +kernel) (by decide +kernel)
set_option maxRecDepth 20000 in
theorem gJ2_charAt_3b067_J2_getChar_3b067 : GoodIn wsJ2_charAt_3b067 (va_wsS RJ2 71 yJ2_getChar_3b067 wsJ2_getChar_3b067) := goodIn_app (goodIn_of _ (by decide +kernel)) ggJ2_charAt_3b067_J2_getChar_3b067
set_option maxRecDepth 20000 in
theorem ggJ2_checkIndex_2214a_J2_length_9d52b : GoodIn wsJ2_checkIndex_2214a wsJ2_length_9d52b := goodIn_r _ [4] (by decide +kernel) (by decide +kernel)
set_option maxRecDepth 20000 in
theorem gJ2_checkIndex_2214a_J2_length_9d52b : GoodIn wsJ2_checkIndex_2214a (va_wsS RJ2 48 yJ2_length_9d52b wsJ2_length_9d52b) := goodIn_app (goodIn_of _ (by decide +kernel)) ggJ2_checkIndex_2214a_J2_length_9d52b
set_option maxRecDepth 20000 in
theorem ggJ2_checkIndex_2214a_J0_checkIndex_df160 : GoodIn wsJ2_checkIndex_2214a wsJ0_checkIndex_df160 := goodIn_r _ [8, 9, 10, 11, 12, 13] (by decide +kernel) (by decide +kernel)
set_option maxRecDepth 20000 in
theorem gJ2_checkIndex_2214a_J0_checkIndex_df160 : GoodIn wsJ2_checkIndex_2214a (va_wsS RJ2 414 yJ0_checkIndex_df160 wsJ0_checkIndex_df160) := goodIn_app (goodIn_of _ (by decide +kernel)) ggJ2_checkIndex_2214a_J0_checkIndex_df160
