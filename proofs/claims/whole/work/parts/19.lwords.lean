set_option maxRecDepth 20000 in
theorem ggL_civil_X4_civil : GoodIn wsL_civil wsX4_civil := goodIn_ca (goodIn_ca (goodIn_r _ [7, 8, 9, 6, 10, 11, 12, 13, 14, 15, 16, 17, 18, 19, 20, 21, 22, 23, 24, 25, 26, 27, 28, 29, 30, 31, 32, 33, 34, 35, 36, 37, 38, 39, 40, 41, 42, 43, 44, 45, 46, 47] (by decide +kernel) (by decide +kernel)) (goodIn_sub (fun _ h => List.mem_cons_of_mem _ (List.mem_append_left _ (List.mem_append_right _ h))) (by decide +kernel))) (goodIn_sub (fun _ h => List.mem_cons_of_mem _ (List.mem_append_right _ h)) (by decide +kernel))
set_option maxRecDepth 20000 in
theorem gL_civil_X4_civil : GoodIn wsL_civil (wsV RL 7 RX4 yX4_civil wsX4_civil) := goodIn_app (goodIn_of _ (by decide +kernel)) ggL_civil_X4_civil
set_option maxRecDepth 20000 in
theorem ggL_days_X4_days : GoodIn wsL_days wsX4_days := goodIn_ca (goodIn_ca (goodIn_r _ [7, 8, 9, 6, 10, 11, 12, 13, 14, 15, 16, 17, 18, 19, 20, 21, 22, 23, 24, 25, 26, 27, 28, 29, 30, 31, 32, 33] (by decide +kernel) (by decide +kernel)) (goodIn_sub (fun _ h => List.mem_cons_of_mem _ (List.mem_append_left _ (List.mem_append_right _ h))) (by decide +kernel))) (goodIn_sub (fun _ h => List.mem_cons_of_mem _ (List.mem_append_right _ h)) (by decide +kernel))
set_option maxRecDepth 20000 in
theorem gL_days_X4_days : GoodIn wsL_days (wsV RL 17 RX4 yX4_days wsX4_days) := goodIn_app (goodIn_of _ (by decide +kernel)) ggL_days_X4_days
set_option maxRecDepth 20000 in
theorem ggL_week_X4_week : GoodIn wsL_week wsX4_week := goodIn_ca (goodIn_ca (goodIn_r _ [7, 8, 9, 6, 10, 11, 12, 13, 14, 15, 16, 17, 18, 19, 20, 21, 22, 23, 24, 25, 26, 27, 28, 29, 30, 31, 32, 33, 34, 35, 36, 37, 38, 39, 40, 41, 42, 43, 44, 45, 46, 47, 48] (by decide +kernel) (by decide +kernel)) (goodIn_sub (fun _ h => List.mem_cons_of_mem _ (List.mem_append_left _ (List.mem_append_right _ h))) (by decide +kernel))) (goodIn_sub (fun _ h => List.mem_cons_of_mem _ (List.mem_append_right _ h)) (by decide +kernel))
set_option maxRecDepth 20000 in
theorem gL_week_X4_week : GoodIn wsL_week (wsV RL 21 RX4 yX4_week wsX4_week) := goodIn_app (goodIn_of _ (by decide +kernel)) ggL_week_X4_week
set_option maxRecDepth 20000 in
theorem ggL_easter_X4_easter : GoodIn wsL_easter wsX4_easter := goodIn_ca (goodIn_ca (goodIn_r _ [7, 8, 9, 6, 10, 11, 12, 13, 14, 15, 16, 17, 18, 19, 20, 21, 22, 23, 24, 25, 26, 27, 28, 29, 30, 31, 32, 33, 34, 35, 36, 37, 38, 39, 40, 41, 42, 43, 44] (by decide +kernel) (by decide +kernel)) (goodIn_sub (fun _ h => List.mem_cons_of_mem _ (List.mem_append_left _ (List.mem_append_right _ h))) (by decide +kernel))) (goodIn_sub (fun _ h => List.mem_cons_of_mem _ (List.mem_append_right _ h)) (by decide +kernel))
set_option maxRecDepth 20000 in
theorem gL_easter_X4_easter : GoodIn wsL_easter (wsV RL 24 RX4 yX4_easter wsX4_easter) := goodIn_app (goodIn_of _ (by decide +kernel)) ggL_easter_X4_easter
set_option maxRecDepth 20000 in
theorem ggL_nth_X4_nth : GoodIn wsL_nth wsX4_nth := goodIn_ca (goodIn_ca (goodIn_r _ [7, 8, 9, 6, 10, 11, 12, 13, 14, 15, 16, 17, 18, 19, 20, 21, 22, 23, 24, 25, 26, 27, 28, 29, 30, 31, 32, 33, 34, 35, 36, 37, 38, 39, 40, 41, 42, 43, 44, 45, 46, 47, 48, 49, 50, 51, 52, 53, 54, 55, 56] (by decide +kernel) (by decide +kernel)) (goodIn_sub (fun _ h => List.mem_cons_of_mem _ (List.mem_append_left _ (List.mem_append_right _ h))) (by decide +kernel))) (goodIn_sub (fun _ h => List.mem_cons_of_mem _ (List.mem_append_right _ h)) (by decide +kernel))
set_option maxRecDepth 20000 in
theorem gL_nth_X4_nth : GoodIn wsL_nth (wsV RL 27 RX4 yX4_nth wsX4_nth) := goodIn_app (goodIn_of _ (by decide +kernel)) ggL_nth_X4_nth
set_option maxRecDepth 20000 in
theorem ggL_move_X4_move : GoodIn wsL_move wsX4_move := goodIn_ca (goodIn_ca (goodIn_ca (goodIn_ca (goodIn_r _ [9, 10, 11, 12, 13, 8, 14, 15, 16, 17, 18, 19, 20, 21, 22, 23, 24, 25, 26, 27, 28, 29, 30, 31, 32, 33, 34, 35, 36, 37, 38, 39, 40, 41, 42, 43, 44, 45, 46, 47, 48, 49, 50, 51, 52, 53, 54, 55, 56, 57, 58, 59, 60, 61, 62, 63, 64, 65, 66, 67, 68, 69, 70, 71, 72, 73, 74, 75, 76, 77, 78, 79, 80, 81, 82] (by decide +kernel) (by decide +kernel)) (goodIn_sub (fun _ h => List.mem_cons_of_mem _ (List.mem_append_left _ (List.mem_append_left _ (List.mem_append_left _ (List.mem_append_right _ h))))) (by decide +kernel))) (goodIn_sub (fun _ h => List.mem_cons_of_mem _ (List.mem_append_left _ (List.mem_append_left _ (List.mem_append_right _ h)))) (by decide +kernel))) (goodIn_sub (fun _ h => List.mem_cons_of_mem _ (List.mem_append_left _ (List.mem_append_right _ h))) (by decide +kernel))) (goodIn_sub (fun _ h => List.mem_cons_of_mem _ (List.mem_append_right _ h)) (by decide +kernel))
set_option maxRecDepth 20000 in
theorem gL_move_X4_move : GoodIn wsL_move (wsV RL 31 RX4 yX4_move wsX4_move) := goodIn_app (goodIn_of _ (by decide +kernel)) ggL_move_X4_move
set_option maxRecDepth 20000 in
theorem ggL_told_X4_told : GoodIn wsL_told wsX4_told := goodIn_ca (goodIn_ca (goodIn_ca (goodIn_r _ [8, 9, 10, 11, 12, 7, 13, 14, 15, 16, 17, 18, 19, 20, 21, 22, 23, 24, 25, 26, 27, 28, 29, 30, 31, 32, 33, 34, 35, 36, 37, 38, 39, 40, 41, 42, 43, 44, 45, 46, 47, 48, 49, 50, 51, 52, 53, 54, 55, 56, 57, 58, 59, 60, 61, 62, 63, 64, 65, 66, 67, 68, 69, 70, 71, 72, 73, 74, 75, 76, 77, 78] (by decide +kernel) (by decide +kernel)) (goodIn_sub (fun _ h => List.mem_cons_of_mem _ (List.mem_append_left _ (List.mem_append_left _ (List.mem_append_right _ h)))) (by decide +kernel))) (goodIn_sub (fun _ h => List.mem_cons_of_mem _ (List.mem_append_left _ (List.mem_append_right _ h))) (by decide +kernel))) (goodIn_sub (fun _ h => List.mem_cons_of_mem _ (List.mem_append_right _ h)) (by decide +kernel))
set_option maxRecDepth 20000 in
theorem gL_told_X4_told : GoodIn wsL_told (wsV RL 39 RX4 yX4_told wsX4_told) := goodIn_app (goodIn_of _ (by decide +kernel)) ggL_told_X4_told
set_option maxRecDepth 20000 in
theorem ggL_between_X4_between : GoodIn wsL_between wsX4_between := goodIn_ca (goodIn_ca (goodIn_ca (goodIn_r _ [8, 9, 10, 7, 11, 12, 13, 14, 15, 16, 17, 18, 19, 20, 21, 22, 23, 24, 25, 26, 27, 28, 29, 30, 31, 32, 33, 34, 35, 36, 37, 38, 39, 40, 41, 42, 43, 44, 45, 46, 47, 48, 49, 50, 51, 52, 53, 54, 55, 56, 57, 58, 59, 60, 61, 62, 63, 64, 65, 66, 67, 68, 69, 70] (by decide +kernel) (by decide +kernel)) (goodIn_sub (fun _ h => List.mem_cons_of_mem _ (List.mem_append_left _ (List.mem_append_left _ (List.mem_append_right _ h)))) (by decide +kernel))) (goodIn_sub (fun _ h => List.mem_cons_of_mem _ (List.mem_append_left _ (List.mem_append_right _ h))) (by decide +kernel))) (goodIn_sub (fun _ h => List.mem_cons_of_mem _ (List.mem_append_right _ h)) (by decide +kernel))
set_option maxRecDepth 20000 in
theorem gL_between_X4_between : GoodIn wsL_between (wsV RL 42 RX4 yX4_between wsX4_between) := goodIn_app (goodIn_of _ (by decide +kernel)) ggL_between_X4_between
set_option maxRecDepth 20000 in
theorem ggL_copy_X4_copy : GoodIn wsL_copy wsX4_copy := goodIn_ca (goodIn_ca (goodIn_ca (goodIn_r _ [7, 8, 9, 6, 10, 11, 12, 13, 14, 15, 16, 17, 18, 19, 20, 21, 22, 23, 24, 25, 26, 27, 28, 29, 30, 31] (by decide +kernel) (by decide +kernel)) (goodIn_sub (fun _ h => List.mem_cons_of_mem _ (List.mem_append_left _ (List.mem_append_left _ (List.mem_append_right _ h)))) (by decide +kernel))) (goodIn_sub (fun _ h => List.mem_cons_of_mem _ (List.mem_append_left _ (List.mem_append_right _ h))) (by decide +kernel))) (goodIn_sub (fun _ h => List.mem_cons_of_mem _ (List.mem_append_right _ h)) (by decide +kernel))
set_option maxRecDepth 20000 in
theorem gL_copy_X4_copy : GoodIn wsL_copy (wsV RL 45 RX4 yX4_copy wsX4_copy) := goodIn_app (goodIn_of _ (by decide +kernel)) ggL_copy_X4_copy
set_option maxRecDepth 20000 in
theorem ggL_holiday_X4_holiday : GoodIn wsL_holiday wsX4_holiday := goodIn_ca (goodIn_ca (goodIn_r _ [7, 8, 9, 10, 11, 12, 13, 14, 15, 16, 17, 18, 19, 20, 21, 22, 23, 24, 25, 26, 27, 28, 29, 30, 31, 32, 33, 34, 35, 36, 37, 38, 39, 40, 41, 42, 43, 44, 45, 46, 47, 48, 49, 50, 51, 52, 53, 54, 55, 56, 57, 58, 59, 60, 61, 62, 63, 64, 65, 66, 67, 68, 69, 70, 71, 72, 73, 74, 75, 76, 77, 78, 79, 80, 81, 82, 83, 84, 85, 86, 87, 88, 89, 90, 91, 92, 93, 94, 95, 96, 97, 98, 99, 100, 101, 102, 103, 104, 105, 106, 107, 108, 109, 110, 111, 112, 113, 114, 115, 116, 117, 118, 119, 120, 121, 122, 123, 124, 125, 126, 127] (by decide +kernel) (by decide +kernel)) (goodIn_sub (fun _ h => List.mem_cons_of_mem _ (List.mem_append_left _ (List.mem_append_right _ h))) (by decide +kernel))) (goodIn_sub (fun _ h => List.mem_cons_of_mem _ (List.mem_append_right _ h)) (by decide +kernel))
set_option maxRecDepth 20000 in
theorem gL_holiday_X4_holiday : GoodIn wsL_holiday (wsV RL 48 RX4 yX4_holiday wsX4_holiday) := goodIn_app (goodIn_of _ (by decide +kernel)) ggL_holiday_X4_holiday
set_option maxRecDepth 20000 in
theorem ggL_noHoliday_X4_noHoliday : GoodIn wsL_noHoliday wsX4_noHoliday := goodIn_ca (goodIn_r _ [6, 7, 8, 9, 10, 11, 12, 13, 14, 15, 16, 17, 18, 19, 20, 21, 22, 23, 24, 25, 26, 27, 28, 29, 30, 31, 32, 33, 34, 35, 36, 37, 38, 39, 40, 41, 42, 43, 44, 45, 46, 47] (by decide +kernel) (by decide +kernel)) (goodIn_sub (fun _ h => List.mem_cons_of_mem _ (List.mem_append_right _ h)) (by decide +kernel))
set_option maxRecDepth 20000 in
theorem gL_noHoliday_X4_noHoliday : GoodIn wsL_noHoliday (wsV RL 51 RX4 yX4_noHoliday wsX4_noHoliday) := goodIn_app (goodIn_of _ (by decide +kernel)) ggL_noHoliday_X4_noHoliday
set_option maxRecDepth 20000 in
theorem ggL_weekend_X4_weekend : GoodIn wsL_weekend wsX4_weekend := goodIn_ca (goodIn_r _ [6, 7, 8, 9, 10, 11, 12, 13, 14, 15] (by decide +kernel) (by decide +kernel)) (goodIn_sub (fun _ h => List.mem_cons_of_mem _ (List.mem_append_right _ h)) (by decide +kernel))
set_option maxRecDepth 20000 in
theorem gL_weekend_X4_weekend : GoodIn wsL_weekend (wsV RL 55 RX4 yX4_weekend wsX4_weekend) := goodIn_app (goodIn_of _ (by decide +kernel)) ggL_weekend_X4_weekend
set_option maxRecDepth 20000 in
theorem ggL_isHoliday_X4_isHoliday : GoodIn wsL_isHoliday wsX4_isHoliday := goodIn_ca (goodIn_ca (goodIn_r _ [7, 8, 9, 10, 11, 6, 12, 13, 14, 15, 16, 17, 18, 19, 20, 21, 22, 23, 24, 25, 26, 27, 28, 29, 30, 31, 32, 33, 34, 35, 36, 37, 38, 39, 40, 41, 42, 43, 44, 45, 46, 47, 48, 49, 50, 51, 52, 53, 54, 55, 56, 57, 58, 59, 60, 61, 62, 63, 64, 65, 66, 67, 68, 69, 70, 71, 72, 73, 74, 75, 76, 77, 78, 79, 80, 81, 82, 83, 84, 85, 86, 87, 88, 89, 90, 91, 92, 93, 94, 95, 96, 97, 98, 99, 100, 101, 102, 103, 104, 105, 106, 107, 108, 109, 110, 111, 112, 113, 114, 115, 116, 117, 118, 119, 120, 121, 122, 123, 124] (by decide +kernel) (by decide +kernel)) (goodIn_sub (fun _ h => List.mem_cons_of_mem _ (List.mem_append_left _ (List.mem_append_right _ h))) (by decide +kernel))) (goodIn_sub (fun _ h => List.mem_cons_of_mem _ (List.mem_append_right _ h)) (by decide +kernel))
set_option maxRecDepth 20000 in
theorem gL_isHoliday_X4_isHoliday : GoodIn wsL_isHoliday (wsV RL 58 RX4 yX4_isHoliday wsX4_isHoliday) := goodIn_app (goodIn_of _ (by decide +kernel)) ggL_isHoliday_X4_isHoliday
set_option maxRecDepth 20000 in
theorem ggL_work_X4_work : GoodIn wsL_work wsX4_work := goodIn_ca (goodIn_ca (goodIn_ca (goodIn_r _ [8, 9, 10, 11, 12, 13, 14, 15, 16, 17, 18, 19, 20, 21, 22, 23, 7, 24, 25, 26, 27, 28, 29, 30, 31, 32, 33, 34, 35, 36, 37, 38, 39, 40, 41, 42, 43, 44, 45, 46, 47, 48, 49, 50, 51, 52, 53, 54, 55, 56, 57, 58, 59, 60, 61, 62, 63, 64, 65, 66, 67, 68, 69, 70, 71, 72, 73, 74, 75, 76, 77, 78, 79, 80, 81, 82, 83, 84, 85, 86, 87, 88, 89, 90, 91, 92, 93, 94, 95, 96, 97, 98, 99, 100, 101, 102, 103, 104, 105, 106, 107, 108, 109, 110, 111, 112, 113, 114, 115, 116, 117, 118, 119, 120, 121, 122, 123, 124, 125, 126, 127, 128, 129, 130, 131, 132, 133, 134, 135, 136, 137, 138, 139, 140, 141, 142, 143, 144, 145, 146, 147, 148, 149, 150, 151, 152, 153, 154, 155, 156, 157, 158, 159, 160, 161, 162, 163, 164, 165, 166, 167, 168, 169, 170, 171, 172, 173] (by decide +kernel) (by decide +kernel)) (goodIn_sub (fun _ h => List.mem_cons_of_mem _ (List.mem_append_left _ (List.mem_append_left _ (List.mem_append_right _ h)))) (by decide +kernel))) (goodIn_sub (fun _ h => List.mem_cons_of_mem _ (List.mem_append_left _ (List.mem_append_right _ h))) (by decide +kernel))) (goodIn_sub (fun _ h => List.mem_cons_of_mem _ (List.mem_append_right _ h)) (by decide +kernel))
set_option maxRecDepth 20000 in
theorem gL_work_X4_work : GoodIn wsL_work (wsV RL 61 RX4 yX4_work wsX4_work) := goodIn_app (goodIn_of _ (by decide +kernel)) ggL_work_X4_work
set_option maxRecDepth 20000 in
theorem ggL_moveWork_X4_moveWork : GoodIn wsL_moveWork wsX4_moveWork := goodIn_ca (goodIn_ca (goodIn_ca (goodIn_ca (goodIn_r _ [9, 10, 11, 12, 13, 14, 15, 16, 17, 18, 19, 20, 8, 21, 22, 23, 24, 25, 26, 27, 28, 29, 30, 31, 32, 33, 34, 35, 36, 37, 38, 39, 40, 41, 42, 43, 44, 45, 46, 47, 48, 49, 50, 51, 52, 53, 54, 55, 56, 57, 58, 59, 60, 61, 62, 63, 64, 65, 66, 67, 68, 69, 70, 71, 72, 73, 74, 75, 76, 77, 78, 79, 80, 81, 82, 83, 84, 85, 86, 87, 88, 89, 90, 91, 92, 93, 94, 95, 96, 97, 98, 99, 100, 101, 102, 103, 104, 105, 106, 107, 108, 109, 110, 111, 112, 113, 114, 115, 116, 117, 118, 119, 120, 121, 122, 123, 124, 125, 126, 127, 128, 129, 130, 131, 132, 133, 134, 135, 136, 137, 138, 139, 140, 141, 142, 143, 144, 145, 146, 147, 148, 149, 150, 151, 152, 153, 154, 155, 156, 157, 158, 159, 160, 161, 162, 163, 164, 165, 166, 167, 168, 169, 170, 171, 172, 173, 174, 175, 176, 177, 178, 179, 180] (by decide +kernel) (by decide +kernel)) (goodIn_sub (fun _ h => List.mem_cons_of_mem _ (List.mem_append_left _ (List.mem_append_left _ (List.mem_append_left _ (List.mem_append_right _ h))))) (by decide +kernel))) (goodIn_sub (fun _ h => List.mem_cons_of_mem _ (List.mem_append_left _ (List.mem_append_left _ (List.mem_append_right _ h)))) (by decide +kernel))) (goodIn_sub (fun _ h => List.mem_cons_of_mem _ (List.mem_append_left _ (List.mem_append_right _ h))) (by decide +kernel))) (goodIn_sub (fun _ h => List.mem_cons_of_mem _ (List.mem_append_right _ h)) (by decide +kernel))
set_option maxRecDepth 20000 in
theorem gL_moveWork_X4_moveWork : GoodIn wsL_moveWork (wsV RL 64 RX4 yX4_moveWork wsX4_moveWork) := goodIn_app (goodIn_of _ (by decide +kernel)) ggL_moveWork_X4_moveWork
set_option maxRecDepth 20000 in
theorem ggL_write_X4_write : GoodIn wsL_write wsX4_write := goodIn_ca (goodIn_ca (goodIn_ca (goodIn_r _ [8, 9, 10, 11, 12, 13, 7, 14, 15, 16, 17, 18, 19, 20, 21, 22, 23, 24, 25, 26, 27, 28, 29, 30, 31, 32, 33, 34, 35, 36, 37, 38, 39, 40, 41, 42, 43, 44, 45, 46, 47, 48, 49, 50, 51, 52, 53, 54, 55, 56, 57, 58, 59, 60, 61, 62, 63, 64, 65, 66, 67, 68, 69, 70, 71, 72, 73, 74, 75, 76, 77, 78, 79, 80, 81, 82, 83, 84, 85, 86, 87, 88, 89, 90, 91, 92, 93, 94, 95, 96, 97, 98, 99, 100, 101, 102, 103, 104, 105, 106] (by decide +kernel) (by decide +kernel)) (goodIn_sub (fun _ h => List.mem_cons_of_mem _ (List.mem_append_left _ (List.mem_append_left _ (List.mem_append_right _ h)))) (by decide +kernel))) (goodIn_sub (fun _ h => List.mem_cons_of_mem _ (List.mem_append_left _ (List.mem_append_right _ h))) (by decide +kernel))) (goodIn_sub (fun _ h => List.mem_cons_of_mem _ (List.mem_append_right _ h)) (by decide +kernel))
set_option maxRecDepth 20000 in
theorem gL_write_X4_write : GoodIn wsL_write (wsV RL 67 RX4 yX4_write wsX4_write) := goodIn_app (goodIn_of _ (by decide +kernel)) ggL_write_X4_write
set_option maxRecDepth 20000 in
theorem ggL_charAt_X4_charAt : GoodIn wsL_charAt wsX4_charAt := goodIn_ca (goodIn_r _ [6, 7, 8, 9, 10, 11, 12, 13, 14, 15, 16, 17, 18, 19, 20, 21, 22, 23, 24, 25, 26, 27, 28] (by decide +kernel) (by decide +kernel)) (goodIn_sub (fun _ h => List.mem_cons_of_mem _ (List.mem_append_right _ h)) (by decide +kernel))
set_option maxRecDepth 20000 in
theorem gL_charAt_X4_charAt : GoodIn wsL_charAt (wsV RL 70 RX4 yX4_charAt wsX4_charAt) := goodIn_app (goodIn_of _ (by decide +kernel)) ggL_charAt_X4_charAt
set_option maxRecDepth 20000 in
theorem ggL_type_X4_type : GoodIn wsL_type wsX4_type := goodIn_ca (goodIn_ca (goodIn_r _ [7, 8, 9, 10, 11, 12, 13, 14, 15, 16, 17, 18, 19, 20, 21, 22, 23, 24, 25, 26, 27, 28, 29, 30, 31, 32, 33, 34, 35] (by decide +kernel) (by decide +kernel)) (goodIn_sub (fun _ h => List.mem_cons_of_mem _ (List.mem_append_left _ (List.mem_append_right _ h))) (by decide +kernel))) (goodIn_sub (fun _ h => List.mem_cons_of_mem _ (List.mem_append_right _ h)) (by decide +kernel))
set_option maxRecDepth 20000 in
theorem gL_type_X4_type : GoodIn wsL_type (wsV RL 73 RX4 yX4_type wsX4_type) := goodIn_app (goodIn_of _ (by decide +kernel)) ggL_type_X4_type
set_option maxRecDepth 20000 in
theorem ggL_read_X4_read : GoodIn wsL_read wsX4_read := goodIn_ca (goodIn_r _ [6, 7, 8, 9, 10, 5, 11, 12, 13, 14, 15, 16, 17, 18, 19, 20, 21, 22, 23, 24, 25, 26, 27, 28, 29, 30, 31, 32, 33, 34, 35, 36, 37, 38, 39, 40, 41, 42, 43, 44, 45, 46, 47, 48, 49, 50, 51, 52, 53, 54, 55, 56, 57, 58, 59, 60, 61, 62, 63, 64, 65, 66, 67, 68, 69, 70, 71, 72, 73, 74, 75, 76, 77, 78, 79, 80, 81, 82, 83, 84, 85, 86, 87, 88, 89, 90, 91, 92, 93, 94, 95, 96, 97, 98, 99, 100, 101, 102, 103, 104, 105, 106, 107, 108, 109, 110, 111, 112, 113, 114, 115, 116, 117, 118, 119, 120, 121, 122, 123, 124, 125, 126, 127, 128, 129, 130, 131, 132, 133, 134, 135, 136, 137, 138, 139, 140, 141, 142, 143, 144, 145, 146, 147, 148, 149, 150, 151, 152, 153, 154, 155, 156, 157, 158, 159] (by decide +kernel) (by decide +kernel)) (goodIn_sub (fun _ h => List.mem_cons_of_mem _ (List.mem_append_right _ h)) (by decide +kernel))
set_option maxRecDepth 20000 in
theorem gL_read_X4_read : GoodIn wsL_read (wsV RL 76 RX4 yX4_read wsX4_read) := goodIn_app (goodIn_of _ (by decide +kernel)) ggL_read_X4_read
theorem dL_civil_0 : decode cL_civil 0 = .ok (.aload 5, 2) := by decide +kernel
theorem dL_civil_2 : decode cL_civil 2 = .ok (.iconst 0, 1) := by decide +kernel
theorem dL_civil_3 : decode cL_civil 3 = .ok (.aload_n 0, 1) := by decide +kernel
theorem dL_civil_4 : decode cL_civil 4 = .ok (.iload_n 1, 1) := by decide +kernel
theorem dL_civil_5 : decode cL_civil 5 = .ok (.iload_n 2, 1) := by decide +kernel
theorem dL_civil_6 : decode cL_civil 6 = .ok (.iload_n 3, 1) := by decide +kernel
theorem dL_civil_7 : decode cL_civil 7 = .ok (.iload 4, 2) := by decide +kernel
theorem dL_civil_9 : decode cL_civil 9 = .ok (.invokevirtual 7, 3) := by decide +kernel
theorem dL_civil_12 : decode cL_civil 12 = .ok (.i2l, 1) := by decide +kernel
theorem dL_civil_13 : decode cL_civil 13 = .ok (.lastore, 1) := by decide +kernel
theorem dL_civil_14 : decode cL_civil 14 = .ok (.goto 11, 3) := by decide +kernel
theorem dL_civil_17 : decode cL_civil 17 = .ok (.astore 6, 2) := by decide +kernel
theorem dL_civil_19 : decode cL_civil 19 = .ok (.iconst 1, 1) := by decide +kernel
theorem dL_civil_20 : decode cL_civil 20 = .ok (.ireturn, 1) := by decide +kernel
theorem dL_civil_21 : decode cL_civil 21 = .ok (.astore 6, 2) := by decide +kernel
theorem dL_civil_23 : decode cL_civil 23 = .ok (.iconst 2, 1) := by decide +kernel
theorem dL_civil_24 : decode cL_civil 24 = .ok (.ireturn, 1) := by decide +kernel
theorem dL_civil_25 : decode cL_civil 25 = .ok (.iconst 0, 1) := by decide +kernel
theorem dL_civil_26 : decode cL_civil 26 = .ok (.ireturn, 1) := by decide +kernel
theorem dL_days_0 : decode cL_days 0 = .ok (.aload_n 3, 1) := by decide +kernel
theorem dL_days_1 : decode cL_days 1 = .ok (.iconst 0, 1) := by decide +kernel
theorem dL_days_2 : decode cL_days 2 = .ok (.aload_n 0, 1) := by decide +kernel
theorem dL_days_3 : decode cL_days 3 = .ok (.iload_n 1, 1) := by decide +kernel
theorem dL_days_4 : decode cL_days 4 = .ok (.iload_n 2, 1) := by decide +kernel
theorem dL_days_5 : decode cL_days 5 = .ok (.invokevirtual 17, 3) := by decide +kernel
theorem dL_days_8 : decode cL_days 8 = .ok (.i2l, 1) := by decide +kernel
theorem dL_days_9 : decode cL_days 9 = .ok (.lastore, 1) := by decide +kernel
theorem dL_days_10 : decode cL_days 10 = .ok (.goto 11, 3) := by decide +kernel
theorem dL_days_13 : decode cL_days 13 = .ok (.astore 4, 2) := by decide +kernel
theorem dL_days_15 : decode cL_days 15 = .ok (.iconst 1, 1) := by decide +kernel
theorem dL_days_16 : decode cL_days 16 = .ok (.ireturn, 1) := by decide +kernel
theorem dL_days_17 : decode cL_days 17 = .ok (.astore 4, 2) := by decide +kernel
theorem dL_days_19 : decode cL_days 19 = .ok (.iconst 2, 1) := by decide +kernel
theorem dL_days_20 : decode cL_days 20 = .ok (.ireturn, 1) := by decide +kernel
theorem dL_days_21 : decode cL_days 21 = .ok (.iconst 0, 1) := by decide +kernel
theorem dL_days_22 : decode cL_days 22 = .ok (.ireturn, 1) := by decide +kernel
theorem dL_week_0 : decode cL_week 0 = .ok (.aload 5, 2) := by decide +kernel
theorem dL_week_2 : decode cL_week 2 = .ok (.iconst 0, 1) := by decide +kernel
theorem dL_week_3 : decode cL_week 3 = .ok (.aload_n 0, 1) := by decide +kernel
theorem dL_week_4 : decode cL_week 4 = .ok (.iload_n 1, 1) := by decide +kernel
theorem dL_week_5 : decode cL_week 5 = .ok (.iload_n 2, 1) := by decide +kernel
theorem dL_week_6 : decode cL_week 6 = .ok (.iload_n 3, 1) := by decide +kernel
theorem dL_week_7 : decode cL_week 7 = .ok (.iload 4, 2) := by decide +kernel
theorem dL_week_9 : decode cL_week 9 = .ok (.invokevirtual 21, 3) := by decide +kernel
theorem dL_week_12 : decode cL_week 12 = .ok (.i2l, 1) := by decide +kernel
theorem dL_week_13 : decode cL_week 13 = .ok (.lastore, 1) := by decide +kernel
theorem dL_week_14 : decode cL_week 14 = .ok (.goto 11, 3) := by decide +kernel
theorem dL_week_17 : decode cL_week 17 = .ok (.astore 6, 2) := by decide +kernel
theorem dL_week_19 : decode cL_week 19 = .ok (.iconst 1, 1) := by decide +kernel
theorem dL_week_20 : decode cL_week 20 = .ok (.ireturn, 1) := by decide +kernel
theorem dL_week_21 : decode cL_week 21 = .ok (.astore 6, 2) := by decide +kernel
theorem dL_week_23 : decode cL_week 23 = .ok (.iconst 2, 1) := by decide +kernel
theorem dL_week_24 : decode cL_week 24 = .ok (.ireturn, 1) := by decide +kernel
theorem dL_week_25 : decode cL_week 25 = .ok (.iconst 0, 1) := by decide +kernel
theorem dL_week_26 : decode cL_week 26 = .ok (.ireturn, 1) := by decide +kernel
theorem dL_easter_0 : decode cL_easter 0 = .ok (.aload_n 3, 1) := by decide +kernel
theorem dL_easter_1 : decode cL_easter 1 = .ok (.iconst 0, 1) := by decide +kernel
theorem dL_easter_2 : decode cL_easter 2 = .ok (.aload_n 0, 1) := by decide +kernel
theorem dL_easter_3 : decode cL_easter 3 = .ok (.iload_n 1, 1) := by decide +kernel
theorem dL_easter_4 : decode cL_easter 4 = .ok (.iload_n 2, 1) := by decide +kernel
theorem dL_easter_5 : decode cL_easter 5 = .ok (.invokevirtual 24, 3) := by decide +kernel
theorem dL_easter_8 : decode cL_easter 8 = .ok (.i2l, 1) := by decide +kernel
theorem dL_easter_9 : decode cL_easter 9 = .ok (.lastore, 1) := by decide +kernel
theorem dL_easter_10 : decode cL_easter 10 = .ok (.goto 11, 3) := by decide +kernel
theorem dL_easter_13 : decode cL_easter 13 = .ok (.astore 4, 2) := by decide +kernel
theorem dL_easter_15 : decode cL_easter 15 = .ok (.iconst 1, 1) := by decide +kernel
theorem dL_easter_16 : decode cL_easter 16 = .ok (.ireturn, 1) := by decide +kernel
theorem dL_easter_17 : decode cL_easter 17 = .ok (.astore 4, 2) := by decide +kernel
theorem dL_easter_19 : decode cL_easter 19 = .ok (.iconst 2, 1) := by decide +kernel
theorem dL_easter_20 : decode cL_easter 20 = .ok (.ireturn, 1) := by decide +kernel
theorem dL_easter_21 : decode cL_easter 21 = .ok (.iconst 0, 1) := by decide +kernel
theorem dL_easter_22 : decode cL_easter 22 = .ok (.ireturn, 1) := by decide +kernel
theorem dL_nth_0 : decode cL_nth 0 = .ok (.aload 6, 2) := by decide +kernel
theorem dL_nth_2 : decode cL_nth 2 = .ok (.iconst 0, 1) := by decide +kernel
theorem dL_nth_3 : decode cL_nth 3 = .ok (.aload_n 0, 1) := by decide +kernel
theorem dL_nth_4 : decode cL_nth 4 = .ok (.iload_n 1, 1) := by decide +kernel
theorem dL_nth_5 : decode cL_nth 5 = .ok (.iload_n 2, 1) := by decide +kernel
theorem dL_nth_6 : decode cL_nth 6 = .ok (.iload_n 3, 1) := by decide +kernel
theorem dL_nth_7 : decode cL_nth 7 = .ok (.iload 4, 2) := by decide +kernel
theorem dL_nth_9 : decode cL_nth 9 = .ok (.iload 5, 2) := by decide +kernel
theorem dL_nth_11 : decode cL_nth 11 = .ok (.invokevirtual 27, 3) := by decide +kernel
theorem dL_nth_14 : decode cL_nth 14 = .ok (.i2l, 1) := by decide +kernel
theorem dL_nth_15 : decode cL_nth 15 = .ok (.lastore, 1) := by decide +kernel
theorem dL_nth_16 : decode cL_nth 16 = .ok (.goto 11, 3) := by decide +kernel
theorem dL_nth_19 : decode cL_nth 19 = .ok (.astore 7, 2) := by decide +kernel
theorem dL_nth_21 : decode cL_nth 21 = .ok (.iconst 1, 1) := by decide +kernel
theorem dL_nth_22 : decode cL_nth 22 = .ok (.ireturn, 1) := by decide +kernel
theorem dL_nth_23 : decode cL_nth 23 = .ok (.astore 7, 2) := by decide +kernel
theorem dL_nth_25 : decode cL_nth 25 = .ok (.iconst 2, 1) := by decide +kernel
theorem dL_nth_26 : decode cL_nth 26 = .ok (.ireturn, 1) := by decide +kernel
theorem dL_nth_27 : decode cL_nth 27 = .ok (.iconst 0, 1) := by decide +kernel
theorem dL_nth_28 : decode cL_nth 28 = .ok (.ireturn, 1) := by decide +kernel
theorem dL_move_0 : decode cL_move 0 = .ok (.aload 4, 2) := by decide +kernel
theorem dL_move_2 : decode cL_move 2 = .ok (.iconst 0, 1) := by decide +kernel
theorem dL_move_3 : decode cL_move 3 = .ok (.aload_n 0, 1) := by decide +kernel
theorem dL_move_4 : decode cL_move 4 = .ok (.iload_n 1, 1) := by decide +kernel
theorem dL_move_5 : decode cL_move 5 = .ok (.iload_n 2, 1) := by decide +kernel
theorem dL_move_6 : decode cL_move 6 = .ok (.iload_n 3, 1) := by decide +kernel
theorem dL_move_7 : decode cL_move 7 = .ok (.invokevirtual 31, 3) := by decide +kernel
theorem dL_move_10 : decode cL_move 10 = .ok (.i2l, 1) := by decide +kernel
theorem dL_move_11 : decode cL_move 11 = .ok (.lastore, 1) := by decide +kernel
theorem dL_move_12 : decode cL_move 12 = .ok (.goto 19, 3) := by decide +kernel
theorem dL_move_15 : decode cL_move 15 = .ok (.astore 5, 2) := by decide +kernel
theorem dL_move_17 : decode cL_move 17 = .ok (.iconst 1, 1) := by decide +kernel
theorem dL_move_18 : decode cL_move 18 = .ok (.ireturn, 1) := by decide +kernel
theorem dL_move_19 : decode cL_move 19 = .ok (.astore 5, 2) := by decide +kernel
theorem dL_move_21 : decode cL_move 21 = .ok (.iconst 2, 1) := by decide +kernel
theorem dL_move_22 : decode cL_move 22 = .ok (.ireturn, 1) := by decide +kernel
theorem dL_move_23 : decode cL_move 23 = .ok (.astore 5, 2) := by decide +kernel
theorem dL_move_25 : decode cL_move 25 = .ok (.iconst 3, 1) := by decide +kernel
theorem dL_move_26 : decode cL_move 26 = .ok (.ireturn, 1) := by decide +kernel
theorem dL_move_27 : decode cL_move 27 = .ok (.astore 5, 2) := by decide +kernel
theorem dL_move_29 : decode cL_move 29 = .ok (.iconst 4, 1) := by decide +kernel
theorem dL_move_30 : decode cL_move 30 = .ok (.ireturn, 1) := by decide +kernel
theorem dL_move_31 : decode cL_move 31 = .ok (.iconst 0, 1) := by decide +kernel
theorem dL_move_32 : decode cL_move 32 = .ok (.ireturn, 1) := by decide +kernel
theorem dL_told_0 : decode cL_told 0 = .ok (.aload_n 3, 1) := by decide +kernel
theorem dL_told_1 : decode cL_told 1 = .ok (.iconst 0, 1) := by decide +kernel
theorem dL_told_2 : decode cL_told 2 = .ok (.aload_n 0, 1) := by decide +kernel
theorem dL_told_3 : decode cL_told 3 = .ok (.iload_n 1, 1) := by decide +kernel
theorem dL_told_4 : decode cL_told 4 = .ok (.iload_n 2, 1) := by decide +kernel
theorem dL_told_5 : decode cL_told 5 = .ok (.invokevirtual 39, 3) := by decide +kernel
theorem dL_told_8 : decode cL_told 8 = .ok (.i2l, 1) := by decide +kernel
theorem dL_told_9 : decode cL_told 9 = .ok (.lastore, 1) := by decide +kernel
theorem dL_told_10 : decode cL_told 10 = .ok (.goto 15, 3) := by decide +kernel
theorem dL_told_13 : decode cL_told 13 = .ok (.astore 4, 2) := by decide +kernel
theorem dL_told_15 : decode cL_told 15 = .ok (.iconst 1, 1) := by decide +kernel
theorem dL_told_16 : decode cL_told 16 = .ok (.ireturn, 1) := by decide +kernel
theorem dL_told_17 : decode cL_told 17 = .ok (.astore 4, 2) := by decide +kernel
theorem dL_told_19 : decode cL_told 19 = .ok (.iconst 2, 1) := by decide +kernel
theorem dL_told_20 : decode cL_told 20 = .ok (.ireturn, 1) := by decide +kernel
theorem dL_told_21 : decode cL_told 21 = .ok (.astore 4, 2) := by decide +kernel
theorem dL_told_23 : decode cL_told 23 = .ok (.iconst 3, 1) := by decide +kernel
theorem dL_told_24 : decode cL_told 24 = .ok (.ireturn, 1) := by decide +kernel
theorem dL_told_25 : decode cL_told 25 = .ok (.iconst 0, 1) := by decide +kernel
theorem dL_told_26 : decode cL_told 26 = .ok (.ireturn, 1) := by decide +kernel
theorem dL_between_0 : decode cL_between 0 = .ok (.aload 4, 2) := by decide +kernel
theorem dL_between_2 : decode cL_between 2 = .ok (.iconst 0, 1) := by decide +kernel
theorem dL_between_3 : decode cL_between 3 = .ok (.aload_n 0, 1) := by decide +kernel
theorem dL_between_4 : decode cL_between 4 = .ok (.iload_n 1, 1) := by decide +kernel
theorem dL_between_5 : decode cL_between 5 = .ok (.iload_n 2, 1) := by decide +kernel
theorem dL_between_6 : decode cL_between 6 = .ok (.iload_n 3, 1) := by decide +kernel
theorem dL_between_7 : decode cL_between 7 = .ok (.invokevirtual 42, 3) := by decide +kernel
theorem dL_between_10 : decode cL_between 10 = .ok (.i2l, 1) := by decide +kernel
theorem dL_between_11 : decode cL_between 11 = .ok (.lastore, 1) := by decide +kernel
theorem dL_between_12 : decode cL_between 12 = .ok (.goto 15, 3) := by decide +kernel
theorem dL_between_15 : decode cL_between 15 = .ok (.astore 5, 2) := by decide +kernel
theorem dL_between_17 : decode cL_between 17 = .ok (.iconst 1, 1) := by decide +kernel
theorem dL_between_18 : decode cL_between 18 = .ok (.ireturn, 1) := by decide +kernel
theorem dL_between_19 : decode cL_between 19 = .ok (.astore 5, 2) := by decide +kernel
theorem dL_between_21 : decode cL_between 21 = .ok (.iconst 2, 1) := by decide +kernel
theorem dL_between_22 : decode cL_between 22 = .ok (.ireturn, 1) := by decide +kernel
theorem dL_between_23 : decode cL_between 23 = .ok (.astore 5, 2) := by decide +kernel
theorem dL_between_25 : decode cL_between 25 = .ok (.iconst 3, 1) := by decide +kernel
theorem dL_between_26 : decode cL_between 26 = .ok (.ireturn, 1) := by decide +kernel
theorem dL_between_27 : decode cL_between 27 = .ok (.iconst 0, 1) := by decide +kernel
theorem dL_between_28 : decode cL_between 28 = .ok (.ireturn, 1) := by decide +kernel
theorem dL_copy_0 : decode cL_copy 0 = .ok (.aload_n 3, 1) := by decide +kernel
theorem dL_copy_1 : decode cL_copy 1 = .ok (.iconst 0, 1) := by decide +kernel
theorem dL_copy_2 : decode cL_copy 2 = .ok (.aload_n 0, 1) := by decide +kernel
theorem dL_copy_3 : decode cL_copy 3 = .ok (.iload_n 1, 1) := by decide +kernel
theorem dL_copy_4 : decode cL_copy 4 = .ok (.iload_n 2, 1) := by decide +kernel
theorem dL_copy_5 : decode cL_copy 5 = .ok (.invokevirtual 45, 3) := by decide +kernel
theorem dL_copy_8 : decode cL_copy 8 = .ok (.i2l, 1) := by decide +kernel
theorem dL_copy_9 : decode cL_copy 9 = .ok (.lastore, 1) := by decide +kernel
theorem dL_copy_10 : decode cL_copy 10 = .ok (.goto 11, 3) := by decide +kernel
theorem dL_copy_13 : decode cL_copy 13 = .ok (.astore 4, 2) := by decide +kernel
theorem dL_copy_15 : decode cL_copy 15 = .ok (.iconst 1, 1) := by decide +kernel
theorem dL_copy_16 : decode cL_copy 16 = .ok (.ireturn, 1) := by decide +kernel
theorem dL_copy_17 : decode cL_copy 17 = .ok (.astore 4, 2) := by decide +kernel
theorem dL_copy_19 : decode cL_copy 19 = .ok (.iconst 2, 1) := by decide +kernel
theorem dL_copy_20 : decode cL_copy 20 = .ok (.ireturn, 1) := by decide +kernel
theorem dL_copy_21 : decode cL_copy 21 = .ok (.iconst 0, 1) := by decide +kernel
theorem dL_copy_22 : decode cL_copy 22 = .ok (.ireturn, 1) := by decide +kernel
theorem dL_holiday_0 : decode cL_holiday 0 = .ok (.aload 5, 2) := by decide +kernel
theorem dL_holiday_2 : decode cL_holiday 2 = .ok (.iconst 0, 1) := by decide +kernel
theorem dL_holiday_3 : decode cL_holiday 3 = .ok (.aload_n 0, 1) := by decide +kernel
theorem dL_holiday_4 : decode cL_holiday 4 = .ok (.iload_n 1, 1) := by decide +kernel
theorem dL_holiday_5 : decode cL_holiday 5 = .ok (.iload_n 2, 1) := by decide +kernel
theorem dL_holiday_6 : decode cL_holiday 6 = .ok (.iload_n 3, 1) := by decide +kernel
theorem dL_holiday_7 : decode cL_holiday 7 = .ok (.iload 4, 2) := by decide +kernel
theorem dL_holiday_9 : decode cL_holiday 9 = .ok (.invokevirtual 48, 3) := by decide +kernel
theorem dL_holiday_12 : decode cL_holiday 12 = .ok (.i2l, 1) := by decide +kernel
theorem dL_holiday_13 : decode cL_holiday 13 = .ok (.lastore, 1) := by decide +kernel
theorem dL_holiday_14 : decode cL_holiday 14 = .ok (.goto 11, 3) := by decide +kernel
theorem dL_holiday_17 : decode cL_holiday 17 = .ok (.astore 6, 2) := by decide +kernel
theorem dL_holiday_19 : decode cL_holiday 19 = .ok (.iconst 1, 1) := by decide +kernel
theorem dL_holiday_20 : decode cL_holiday 20 = .ok (.ireturn, 1) := by decide +kernel
theorem dL_holiday_21 : decode cL_holiday 21 = .ok (.astore 6, 2) := by decide +kernel
theorem dL_holiday_23 : decode cL_holiday 23 = .ok (.iconst 2, 1) := by decide +kernel
theorem dL_holiday_24 : decode cL_holiday 24 = .ok (.ireturn, 1) := by decide +kernel
theorem dL_holiday_25 : decode cL_holiday 25 = .ok (.iconst 0, 1) := by decide +kernel
theorem dL_holiday_26 : decode cL_holiday 26 = .ok (.ireturn, 1) := by decide +kernel
theorem dL_noHoliday_0 : decode cL_noHoliday 0 = .ok (.aload_n 2, 1) := by decide +kernel
theorem dL_noHoliday_1 : decode cL_noHoliday 1 = .ok (.iconst 0, 1) := by decide +kernel
theorem dL_noHoliday_2 : decode cL_noHoliday 2 = .ok (.aload_n 0, 1) := by decide +kernel
theorem dL_noHoliday_3 : decode cL_noHoliday 3 = .ok (.iload_n 1, 1) := by decide +kernel
theorem dL_noHoliday_4 : decode cL_noHoliday 4 = .ok (.invokevirtual 51, 3) := by decide +kernel
theorem dL_noHoliday_7 : decode cL_noHoliday 7 = .ok (.i2l, 1) := by decide +kernel
theorem dL_noHoliday_8 : decode cL_noHoliday 8 = .ok (.lastore, 1) := by decide +kernel
theorem dL_noHoliday_9 : decode cL_noHoliday 9 = .ok (.goto 6, 3) := by decide +kernel
theorem dL_noHoliday_12 : decode cL_noHoliday 12 = .ok (.astore_n 3, 1) := by decide +kernel
theorem dL_noHoliday_13 : decode cL_noHoliday 13 = .ok (.iconst 1, 1) := by decide +kernel
theorem dL_noHoliday_14 : decode cL_noHoliday 14 = .ok (.ireturn, 1) := by decide +kernel
theorem dL_noHoliday_15 : decode cL_noHoliday 15 = .ok (.iconst 0, 1) := by decide +kernel
theorem dL_noHoliday_16 : decode cL_noHoliday 16 = .ok (.ireturn, 1) := by decide +kernel
theorem dL_weekend_0 : decode cL_weekend 0 = .ok (.aload_n 2, 1) := by decide +kernel
theorem dL_weekend_1 : decode cL_weekend 1 = .ok (.iconst 0, 1) := by decide +kernel
theorem dL_weekend_2 : decode cL_weekend 2 = .ok (.aload_n 0, 1) := by decide +kernel
theorem dL_weekend_3 : decode cL_weekend 3 = .ok (.iload_n 1, 1) := by decide +kernel
theorem dL_weekend_4 : decode cL_weekend 4 = .ok (.invokevirtual 55, 3) := by decide +kernel
theorem dL_weekend_7 : decode cL_weekend 7 = .ok (.i2l, 1) := by decide +kernel
theorem dL_weekend_8 : decode cL_weekend 8 = .ok (.lastore, 1) := by decide +kernel
theorem dL_weekend_9 : decode cL_weekend 9 = .ok (.goto 6, 3) := by decide +kernel
theorem dL_weekend_12 : decode cL_weekend 12 = .ok (.astore_n 3, 1) := by decide +kernel
theorem dL_weekend_13 : decode cL_weekend 13 = .ok (.iconst 1, 1) := by decide +kernel
theorem dL_weekend_14 : decode cL_weekend 14 = .ok (.ireturn, 1) := by decide +kernel
theorem dL_weekend_15 : decode cL_weekend 15 = .ok (.iconst 0, 1) := by decide +kernel
theorem dL_weekend_16 : decode cL_weekend 16 = .ok (.ireturn, 1) := by decide +kernel
theorem dL_isHoliday_0 : decode cL_isHoliday 0 = .ok (.aload_n 2, 1) := by decide +kernel
theorem dL_isHoliday_1 : decode cL_isHoliday 1 = .ok (.iconst 0, 1) := by decide +kernel
theorem dL_isHoliday_2 : decode cL_isHoliday 2 = .ok (.aload_n 0, 1) := by decide +kernel
theorem dL_isHoliday_3 : decode cL_isHoliday 3 = .ok (.iload_n 1, 1) := by decide +kernel
theorem dL_isHoliday_4 : decode cL_isHoliday 4 = .ok (.invokevirtual 58, 3) := by decide +kernel
theorem dL_isHoliday_7 : decode cL_isHoliday 7 = .ok (.i2l, 1) := by decide +kernel
theorem dL_isHoliday_8 : decode cL_isHoliday 8 = .ok (.lastore, 1) := by decide +kernel
theorem dL_isHoliday_9 : decode cL_isHoliday 9 = .ok (.goto 9, 3) := by decide +kernel
theorem dL_isHoliday_12 : decode cL_isHoliday 12 = .ok (.astore_n 3, 1) := by decide +kernel
theorem dL_isHoliday_13 : decode cL_isHoliday 13 = .ok (.iconst 1, 1) := by decide +kernel
theorem dL_isHoliday_14 : decode cL_isHoliday 14 = .ok (.ireturn, 1) := by decide +kernel
theorem dL_isHoliday_15 : decode cL_isHoliday 15 = .ok (.astore_n 3, 1) := by decide +kernel
theorem dL_isHoliday_16 : decode cL_isHoliday 16 = .ok (.iconst 2, 1) := by decide +kernel
theorem dL_isHoliday_17 : decode cL_isHoliday 17 = .ok (.ireturn, 1) := by decide +kernel
theorem dL_isHoliday_18 : decode cL_isHoliday 18 = .ok (.iconst 0, 1) := by decide +kernel
theorem dL_isHoliday_19 : decode cL_isHoliday 19 = .ok (.ireturn, 1) := by decide +kernel
theorem dL_work_0 : decode cL_work 0 = .ok (.aload_n 3, 1) := by decide +kernel
theorem dL_work_1 : decode cL_work 1 = .ok (.iconst 0, 1) := by decide +kernel
theorem dL_work_2 : decode cL_work 2 = .ok (.aload_n 0, 1) := by decide +kernel
theorem dL_work_3 : decode cL_work 3 = .ok (.iload_n 1, 1) := by decide +kernel
theorem dL_work_4 : decode cL_work 4 = .ok (.iload_n 2, 1) := by decide +kernel
theorem dL_work_5 : decode cL_work 5 = .ok (.invokevirtual 61, 3) := by decide +kernel
theorem dL_work_8 : decode cL_work 8 = .ok (.i2l, 1) := by decide +kernel
theorem dL_work_9 : decode cL_work 9 = .ok (.lastore, 1) := by decide +kernel
theorem dL_work_10 : decode cL_work 10 = .ok (.goto 15, 3) := by decide +kernel
theorem dL_work_13 : decode cL_work 13 = .ok (.astore 4, 2) := by decide +kernel
theorem dL_work_15 : decode cL_work 15 = .ok (.iconst 1, 1) := by decide +kernel
theorem dL_work_16 : decode cL_work 16 = .ok (.ireturn, 1) := by decide +kernel
theorem dL_work_17 : decode cL_work 17 = .ok (.astore 4, 2) := by decide +kernel
theorem dL_work_19 : decode cL_work 19 = .ok (.iconst 2, 1) := by decide +kernel
theorem dL_work_20 : decode cL_work 20 = .ok (.ireturn, 1) := by decide +kernel
theorem dL_work_21 : decode cL_work 21 = .ok (.astore 4, 2) := by decide +kernel
theorem dL_work_23 : decode cL_work 23 = .ok (.iconst 3, 1) := by decide +kernel
theorem dL_work_24 : decode cL_work 24 = .ok (.ireturn, 1) := by decide +kernel
theorem dL_work_25 : decode cL_work 25 = .ok (.iconst 0, 1) := by decide +kernel
theorem dL_work_26 : decode cL_work 26 = .ok (.ireturn, 1) := by decide +kernel
theorem dL_moveWork_0 : decode cL_moveWork 0 = .ok (.aload_n 3, 1) := by decide +kernel
theorem dL_moveWork_1 : decode cL_moveWork 1 = .ok (.iconst 0, 1) := by decide +kernel
theorem dL_moveWork_2 : decode cL_moveWork 2 = .ok (.aload_n 0, 1) := by decide +kernel
theorem dL_moveWork_3 : decode cL_moveWork 3 = .ok (.iload_n 1, 1) := by decide +kernel
theorem dL_moveWork_4 : decode cL_moveWork 4 = .ok (.iload_n 2, 1) := by decide +kernel
theorem dL_moveWork_5 : decode cL_moveWork 5 = .ok (.invokevirtual 64, 3) := by decide +kernel
theorem dL_moveWork_8 : decode cL_moveWork 8 = .ok (.i2l, 1) := by decide +kernel
theorem dL_moveWork_9 : decode cL_moveWork 9 = .ok (.lastore, 1) := by decide +kernel
theorem dL_moveWork_10 : decode cL_moveWork 10 = .ok (.goto 19, 3) := by decide +kernel
theorem dL_moveWork_13 : decode cL_moveWork 13 = .ok (.astore 4, 2) := by decide +kernel
theorem dL_moveWork_15 : decode cL_moveWork 15 = .ok (.iconst 1, 1) := by decide +kernel
theorem dL_moveWork_16 : decode cL_moveWork 16 = .ok (.ireturn, 1) := by decide +kernel
theorem dL_moveWork_17 : decode cL_moveWork 17 = .ok (.astore 4, 2) := by decide +kernel
theorem dL_moveWork_19 : decode cL_moveWork 19 = .ok (.iconst 2, 1) := by decide +kernel
theorem dL_moveWork_20 : decode cL_moveWork 20 = .ok (.ireturn, 1) := by decide +kernel
theorem dL_moveWork_21 : decode cL_moveWork 21 = .ok (.astore 4, 2) := by decide +kernel
theorem dL_moveWork_23 : decode cL_moveWork 23 = .ok (.iconst 3, 1) := by decide +kernel
theorem dL_moveWork_24 : decode cL_moveWork 24 = .ok (.ireturn, 1) := by decide +kernel
theorem dL_moveWork_25 : decode cL_moveWork 25 = .ok (.astore 4, 2) := by decide +kernel
theorem dL_moveWork_27 : decode cL_moveWork 27 = .ok (.iconst 4, 1) := by decide +kernel
theorem dL_moveWork_28 : decode cL_moveWork 28 = .ok (.ireturn, 1) := by decide +kernel
theorem dL_moveWork_29 : decode cL_moveWork 29 = .ok (.iconst 0, 1) := by decide +kernel
theorem dL_moveWork_30 : decode cL_moveWork 30 = .ok (.ireturn, 1) := by decide +kernel
theorem dL_write_0 : decode cL_write 0 = .ok (.aload_n 3, 1) := by decide +kernel
theorem dL_write_1 : decode cL_write 1 = .ok (.iconst 0, 1) := by decide +kernel
theorem dL_write_2 : decode cL_write 2 = .ok (.aload_n 0, 1) := by decide +kernel
theorem dL_write_3 : decode cL_write 3 = .ok (.iload_n 1, 1) := by decide +kernel
theorem dL_write_4 : decode cL_write 4 = .ok (.iload_n 2, 1) := by decide +kernel
theorem dL_write_5 : decode cL_write 5 = .ok (.invokevirtual 67, 3) := by decide +kernel
theorem dL_write_8 : decode cL_write 8 = .ok (.i2l, 1) := by decide +kernel
theorem dL_write_9 : decode cL_write 9 = .ok (.lastore, 1) := by decide +kernel
theorem dL_write_10 : decode cL_write 10 = .ok (.goto 15, 3) := by decide +kernel
theorem dL_write_13 : decode cL_write 13 = .ok (.astore 4, 2) := by decide +kernel
theorem dL_write_15 : decode cL_write 15 = .ok (.iconst 1, 1) := by decide +kernel
theorem dL_write_16 : decode cL_write 16 = .ok (.ireturn, 1) := by decide +kernel
theorem dL_write_17 : decode cL_write 17 = .ok (.astore 4, 2) := by decide +kernel
theorem dL_write_19 : decode cL_write 19 = .ok (.iconst 2, 1) := by decide +kernel
theorem dL_write_20 : decode cL_write 20 = .ok (.ireturn, 1) := by decide +kernel
theorem dL_write_21 : decode cL_write 21 = .ok (.astore 4, 2) := by decide +kernel
theorem dL_write_23 : decode cL_write 23 = .ok (.iconst 3, 1) := by decide +kernel
theorem dL_write_24 : decode cL_write 24 = .ok (.ireturn, 1) := by decide +kernel
theorem dL_write_25 : decode cL_write 25 = .ok (.iconst 0, 1) := by decide +kernel
theorem dL_write_26 : decode cL_write 26 = .ok (.ireturn, 1) := by decide +kernel
theorem dL_charAt_0 : decode cL_charAt 0 = .ok (.aload_n 2, 1) := by decide +kernel
theorem dL_charAt_1 : decode cL_charAt 1 = .ok (.iconst 0, 1) := by decide +kernel
theorem dL_charAt_2 : decode cL_charAt 2 = .ok (.aload_n 0, 1) := by decide +kernel
theorem dL_charAt_3 : decode cL_charAt 3 = .ok (.iload_n 1, 1) := by decide +kernel
theorem dL_charAt_4 : decode cL_charAt 4 = .ok (.invokevirtual 70, 3) := by decide +kernel
theorem dL_charAt_7 : decode cL_charAt 7 = .ok (.i2l, 1) := by decide +kernel
theorem dL_charAt_8 : decode cL_charAt 8 = .ok (.lastore, 1) := by decide +kernel
theorem dL_charAt_9 : decode cL_charAt 9 = .ok (.goto 6, 3) := by decide +kernel
theorem dL_charAt_12 : decode cL_charAt 12 = .ok (.astore_n 3, 1) := by decide +kernel
theorem dL_charAt_13 : decode cL_charAt 13 = .ok (.iconst 1, 1) := by decide +kernel
theorem dL_charAt_14 : decode cL_charAt 14 = .ok (.ireturn, 1) := by decide +kernel
theorem dL_charAt_15 : decode cL_charAt 15 = .ok (.iconst 0, 1) := by decide +kernel
theorem dL_charAt_16 : decode cL_charAt 16 = .ok (.ireturn, 1) := by decide +kernel
theorem dL_type_0 : decode cL_type 0 = .ok (.aload_n 2, 1) := by decide +kernel
theorem dL_type_1 : decode cL_type 1 = .ok (.iconst 0, 1) := by decide +kernel
theorem dL_type_2 : decode cL_type 2 = .ok (.aload_n 0, 1) := by decide +kernel
theorem dL_type_3 : decode cL_type 3 = .ok (.iload_n 1, 1) := by decide +kernel
theorem dL_type_4 : decode cL_type 4 = .ok (.invokevirtual 73, 3) := by decide +kernel
theorem dL_type_7 : decode cL_type 7 = .ok (.i2l, 1) := by decide +kernel
theorem dL_type_8 : decode cL_type 8 = .ok (.lastore, 1) := by decide +kernel
theorem dL_type_9 : decode cL_type 9 = .ok (.goto 9, 3) := by decide +kernel
theorem dL_type_12 : decode cL_type 12 = .ok (.astore_n 3, 1) := by decide +kernel
theorem dL_type_13 : decode cL_type 13 = .ok (.iconst 1, 1) := by decide +kernel
theorem dL_type_14 : decode cL_type 14 = .ok (.ireturn, 1) := by decide +kernel
theorem dL_type_15 : decode cL_type 15 = .ok (.astore_n 3, 1) := by decide +kernel
theorem dL_type_16 : decode cL_type 16 = .ok (.iconst 2, 1) := by decide +kernel
theorem dL_type_17 : decode cL_type 17 = .ok (.ireturn, 1) := by decide +kernel
theorem dL_type_18 : decode cL_type 18 = .ok (.iconst 0, 1) := by decide +kernel
theorem dL_type_19 : decode cL_type 19 = .ok (.ireturn, 1) := by decide +kernel
theorem dL_read_0 : decode cL_read 0 = .ok (.aload_n 2, 1) := by decide +kernel
theorem dL_read_1 : decode cL_read 1 = .ok (.iconst 0, 1) := by decide +kernel
theorem dL_read_2 : decode cL_read 2 = .ok (.aload_n 0, 1) := by decide +kernel
theorem dL_read_3 : decode cL_read 3 = .ok (.iload_n 1, 1) := by decide +kernel
theorem dL_read_4 : decode cL_read 4 = .ok (.invokevirtual 76, 3) := by decide +kernel
theorem dL_read_7 : decode cL_read 7 = .ok (.i2l, 1) := by decide +kernel
theorem dL_read_8 : decode cL_read 8 = .ok (.lastore, 1) := by decide +kernel
theorem dL_read_9 : decode cL_read 9 = .ok (.goto 6, 3) := by decide +kernel
theorem dL_read_12 : decode cL_read 12 = .ok (.astore_n 3, 1) := by decide +kernel
theorem dL_read_13 : decode cL_read 13 = .ok (.iconst 1, 1) := by decide +kernel
theorem dL_read_14 : decode cL_read 14 = .ok (.ireturn, 1) := by decide +kernel
theorem dL_read_15 : decode cL_read 15 = .ok (.iconst 0, 1) := by decide +kernel
theorem dL_read_16 : decode cL_read 16 = .ok (.ireturn, 1) := by decide +kernel
