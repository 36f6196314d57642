set_option maxRecDepth 20000 in
theorem ggX4_read_X4_typedText : GoodIn wsX4_read wsX4_typedText := goodIn_r _ [12, 1, 13, 14, 15, 16, 17, 18, 5, 19, 20, 21, 22, 23, 24, 25, 26, 27, 28, 29, 30, 31, 32, 33, 34, 35, 36, 37, 38, 39, 40, 41, 42, 43, 44, 45, 46, 47, 48, 49, 50, 51, 52, 53, 54, 55, 56, 57, 58, 59, 60, 61, 62, 63, 64, 65, 66, 67, 68, 69, 70, 71, 72, 73, 74, 75, 76, 77, 78, 79, 80, 81, 82, 83, 84, 85, 86, 87, 88, 89, 90, 147, 148, 149, 150, 151, 152, 153, 154] (by decide +kernel) (by decide +kernel)
set_option maxRecDepth 20000 in
theorem gX4_read_X4_typedText : GoodIn wsX4_read (wsV RX4 215 RX4 yX4_typedText wsX4_typedText) := goodIn_app (goodIn_of _ (by decide +kernel)) ggX4_read_X4_typedText
set_option maxRecDepth 20000 in
theorem ggX4_read_X4_typedNumber : GoodIn wsX4_read wsX4_typedNumber := goodIn_r _ [94, 1, 95, 96, 97, 23, 98, 41, 42, 43, 44, 25, 45, 99, 100, 101, 102, 103, 104, 105, 106, 107, 108, 109, 110, 111, 112, 113, 114, 115, 116, 117, 118, 119, 120, 121, 122, 123, 124, 125, 126, 127, 128, 129, 130, 131, 132, 133, 134, 135, 136, 137, 138, 139, 140, 141, 142, 147, 148, 149, 150, 151, 152, 153, 154] (by decide +kernel) (by decide +kernel)
set_option maxRecDepth 20000 in
theorem gX4_read_X4_typedNumber : GoodIn wsX4_read (wsV RX4 218 RX4 yX4_typedNumber wsX4_typedNumber) := goodIn_app (goodIn_of _ (by decide +kernel)) ggX4_read_X4_typedNumber
set_option maxRecDepth 20000 in
theorem ggX4_read_X1_empty : GoodIn wsX4_read wsX1_empty := goodIn_r _ [146, 25, 153, 154] (by decide +kernel) (by decide +kernel)
set_option maxRecDepth 20000 in
theorem gX4_read_X1_empty : GoodIn wsX4_read (wsV RX4 187 RX1 yX1_empty wsX1_empty) := goodIn_app (goodIn_of _ (by decide +kernel)) ggX4_read_X1_empty
set_option maxRecDepth 20000 in
theorem ggX4_clear_J7_fill_53178 : GoodIn wsX4_clear wsJ7_fill_53178 := goodIn_r _ [9] (by decide +kernel) (by decide +kernel)
set_option maxRecDepth 20000 in
theorem gX4_clear_J7_fill_53178 : GoodIn wsX4_clear (va_wsS RX4 221 yJ7_fill_53178 wsJ7_fill_53178) := goodIn_app (goodIn_of _ (by decide +kernel)) ggX4_clear_J7_fill_53178
set_option maxRecDepth 20000 in
theorem ggX4_clear_Jx4a65c_clear_da8c8 : GoodIn wsX4_clear wsJx4a65c_clear_da8c8 := goodIn_r _ [14, 15, 16, 17, 18, 31, 32, 33] (by decide +kernel) (by decide +kernel)
set_option maxRecDepth 20000 in
theorem gX4_clear_Jx4a65c_clear_da8c8 : GoodIn wsX4_clear (wsV RX4 227 RJx4a65c yJx4a65c_clear_da8c8 wsJx4a65c_clear_da8c8) := goodIn_app (goodIn_of _ (by decide +kernel)) ggX4_clear_Jx4a65c_clear_da8c8
set_option maxRecDepth 20000 in
theorem ggX4_clear_X1_empty : GoodIn wsX4_clear wsX1_empty := goodIn_r _ [23, 24, 34, 35] (by decide +kernel) (by decide +kernel)
set_option maxRecDepth 20000 in
theorem gX4_clear_X1_empty : GoodIn wsX4_clear (wsV RX4 187 RX1 yX1_empty wsX1_empty) := goodIn_app (goodIn_of _ (by decide +kernel)) ggX4_clear_X1_empty
set_option maxRecDepth 20000 in
theorem ggX4_moved_X0_movedByDays : GoodIn wsX4_moved wsX0_movedByDays := goodIn_r _ [5, 6, 7, 4, 8, 9] (by decide +kernel) (by decide +kernel)
set_option maxRecDepth 20000 in
theorem gX4_moved_X0_movedByDays : GoodIn wsX4_moved (va_wsS RX4 239 yX0_movedByDays wsX0_movedByDays) := goodIn_app (goodIn_of _ (by decide +kernel)) ggX4_moved_X0_movedByDays
set_option maxRecDepth 20000 in
theorem ggX4_moved_X0_movedByMonths : GoodIn wsX4_moved wsX0_movedByMonths := goodIn_r _ [12, 13, 14, 15, 16, 17, 18, 19, 20, 4, 21, 22, 23, 24, 25, 26, 27, 28, 29, 30, 31, 32, 33, 34, 35, 36, 37, 38, 39, 40, 41] (by decide +kernel) (by decide +kernel)
set_option maxRecDepth 20000 in
theorem gX4_moved_X0_movedByMonths : GoodIn wsX4_moved (va_wsS RX4 242 yX0_movedByMonths wsX0_movedByMonths) := goodIn_app (goodIn_of _ (by decide +kernel)) ggX4_moved_X0_movedByMonths
set_option maxRecDepth 20000 in
theorem ggX4_wholeUnits_X0_monthsBetween : GoodIn wsX4_wholeUnits wsX0_monthsBetween := goodIn_r _ [4, 5, 6, 3, 7, 8, 9, 10, 11, 12, 13, 14, 15, 16, 17, 18, 19, 20, 21, 22, 23, 24, 25, 26, 27, 28, 29, 30, 31, 32, 33, 34, 35, 36] (by decide +kernel) (by decide +kernel)
set_option maxRecDepth 20000 in
theorem gX4_wholeUnits_X0_monthsBetween : GoodIn wsX4_wholeUnits (va_wsS RX4 248 yX0_monthsBetween wsX0_monthsBetween) := goodIn_app (goodIn_of _ (by decide +kernel)) ggX4_wholeUnits_X0_monthsBetween
set_option maxRecDepth 20000 in
theorem ggX4_isWorking_X0_weekdayOf : GoodIn wsX4_isWorking wsX0_weekdayOf := goodIn_r _ [7] (by decide +kernel) (by decide +kernel)
set_option maxRecDepth 20000 in
theorem gX4_isWorking_X0_weekdayOf : GoodIn wsX4_isWorking (va_wsS RX4 58 yX0_weekdayOf wsX0_weekdayOf) := goodIn_app (goodIn_of _ (by decide +kernel)) ggX4_isWorking_X0_weekdayOf
set_option maxRecDepth 20000 in
theorem ggX4_isWorking_X2_covers : GoodIn wsX4_isWorking wsX2_covers := goodIn_r _ [12, 13, 14, 127, 128, 129] (by decide +kernel) (by decide +kernel)
set_option maxRecDepth 20000 in
theorem gX4_isWorking_X2_covers : GoodIn wsX4_isWorking (wsV RX4 251 RX2 yX2_covers wsX2_covers) := goodIn_app (goodIn_of _ (by decide +kernel)) ggX4_isWorking_X2_covers
set_option maxRecDepth 20000 in
theorem ggX4_isWorking_X0_yearOf : GoodIn wsX4_isWorking wsX0_yearOf := goodIn_r _ [17, 18, 19, 20, 21, 22, 23] (by decide +kernel) (by decide +kernel)
set_option maxRecDepth 20000 in
theorem gX4_isWorking_X0_yearOf : GoodIn wsX4_isWorking (va_wsS RX4 93 yX0_yearOf wsX0_yearOf) := goodIn_app (goodIn_of _ (by decide +kernel)) ggX4_isWorking_X0_yearOf
set_option maxRecDepth 20000 in
theorem ggX4_isWorking_X2_mark : GoodIn wsX4_isWorking wsX2_mark := goodIn_r _ [27, 13, 14, 28, 29, 30, 31, 6, 32, 33, 34, 35, 36, 37, 38, 39, 40, 41, 42, 43, 44, 45, 46, 47, 48, 49, 50, 51, 52, 53, 54, 55, 56, 57, 58, 59, 60, 61, 62, 63, 64, 65, 66, 67, 68, 69, 70, 71, 72, 73, 74, 75, 76, 77, 78, 79, 80, 81, 82, 83, 84, 85, 86, 87, 88, 89, 90, 91, 92, 93, 94, 95, 96, 97, 5, 7, 98, 99, 100, 101, 102, 103, 104, 105, 106, 107, 108, 109, 110, 111, 112, 113, 114, 11, 115, 116, 9, 10, 12, 127, 128, 129, 130, 131, 132, 133, 134, 135, 136] (by decide +kernel) (by decide +kernel)
set_option maxRecDepth 20000 in
theorem gX4_isWorking_X2_mark : GoodIn wsX4_isWorking (wsV RX4 254 RX2 yX2_mark wsX2_mark) := goodIn_app (goodIn_of _ (by decide +kernel)) ggX4_isWorking_X2_mark
set_option maxRecDepth 20000 in
theorem ggX4_isWorking_X2_isMarked : GoodIn wsX4_isWorking wsX2_isMarked := goodIn_r _ [120, 28, 13, 116, 9, 10, 11, 12, 14, 127, 128, 129] (by decide +kernel) (by decide +kernel)
set_option maxRecDepth 20000 in
theorem gX4_isWorking_X2_isMarked : GoodIn wsX4_isWorking (wsV RX4 258 RX2 yX2_isMarked wsX2_isMarked) := goodIn_app (goodIn_of _ (by decide +kernel)) ggX4_isWorking_X2_isMarked
set_option maxRecDepth 20000 in
theorem ggX4_putCivil_X0_yearOf : GoodIn wsX4_putCivil wsX0_yearOf := goodIn_r _ [5, 6, 7, 8, 9, 10, 11] (by decide +kernel) (by decide +kernel)
set_option maxRecDepth 20000 in
theorem gX4_putCivil_X0_yearOf : GoodIn wsX4_putCivil (va_wsS RX4 93 yX0_yearOf wsX0_yearOf) := goodIn_app (goodIn_of _ (by decide +kernel)) ggX4_putCivil_X0_yearOf
set_option maxRecDepth 20000 in
theorem ggX4_putCivil_X1_addDigits : GoodIn wsX4_putCivil wsX1_addDigits := goodIn_r _ [16, 17, 18, 19, 15, 20, 21, 22, 47, 48] (by decide +kernel) (by decide +kernel)
set_option maxRecDepth 20000 in
theorem gX4_putCivil_X1_addDigits : GoodIn wsX4_putCivil (wsV RX4 261 RX1 yX1_addDigits wsX1_addDigits) := goodIn_app (goodIn_of _ (by decide +kernel)) ggX4_putCivil_X1_addDigits
set_option maxRecDepth 20000 in
theorem ggX4_putCivil_X1_add : GoodIn wsX4_putCivil wsX1_add := goodIn_r _ [20, 21, 22, 47, 48] (by decide +kernel) (by decide +kernel)
set_option maxRecDepth 20000 in
theorem gX4_putCivil_X1_add : GoodIn wsX4_putCivil (wsV RX4 213 RX1 yX1_add wsX1_add) := goodIn_app (goodIn_of _ (by decide +kernel)) ggX4_putCivil_X1_add
set_option maxRecDepth 20000 in
theorem ggX4_putCivil_X0_monthOf : GoodIn wsX4_putCivil wsX0_monthOf := goodIn_r _ [26, 27, 3, 4, 5, 6, 7, 8, 9, 10, 11, 28, 29, 30, 31, 32, 33, 34, 35, 36] (by decide +kernel) (by decide +kernel)
set_option maxRecDepth 20000 in
theorem gX4_putCivil_X0_monthOf : GoodIn wsX4_putCivil (va_wsS RX4 96 yX0_monthOf wsX0_monthOf) := goodIn_app (goodIn_of _ (by decide +kernel)) ggX4_putCivil_X0_monthOf
set_option maxRecDepth 20000 in
theorem ggX4_putCivil_X0_dayOf : GoodIn wsX4_putCivil wsX0_dayOf := goodIn_r _ [39, 27, 3, 4, 5, 6, 7, 8, 9, 10, 11, 40, 25, 26, 28, 29, 30, 31, 32, 33, 34, 35, 36] (by decide +kernel) (by decide +kernel)
set_option maxRecDepth 20000 in
theorem gX4_putCivil_X0_dayOf : GoodIn wsX4_putCivil (va_wsS RX4 99 yX0_dayOf wsX0_dayOf) := goodIn_app (goodIn_of _ (by decide +kernel)) ggX4_putCivil_X0_dayOf
set_option maxRecDepth 20000 in
theorem ggX4_putWeek_X0_weekYearOf : GoodIn wsX4_putWeek wsX0_weekYearOf := goodIn_r _ [5, 6, 7, 4, 8, 9, 10, 11, 12, 13, 14] (by decide +kernel) (by decide +kernel)
set_option maxRecDepth 20000 in
theorem gX4_putWeek_X0_weekYearOf : GoodIn wsX4_putWeek (va_wsS RX4 102 yX0_weekYearOf wsX0_weekYearOf) := goodIn_app (goodIn_of _ (by decide +kernel)) ggX4_putWeek_X0_weekYearOf
set_option maxRecDepth 20000 in
theorem ggX4_putWeek_X1_addDigits : GoodIn wsX4_putWeek wsX1_addDigits := goodIn_r _ [19, 20, 21, 22, 18, 23, 24, 25, 46, 47] (by decide +kernel) (by decide +kernel)
set_option maxRecDepth 20000 in
theorem gX4_putWeek_X1_addDigits : GoodIn wsX4_putWeek (wsV RX4 261 RX1 yX1_addDigits wsX1_addDigits) := goodIn_app (goodIn_of _ (by decide +kernel)) ggX4_putWeek_X1_addDigits
set_option maxRecDepth 20000 in
theorem ggX4_putWeek_X1_add : GoodIn wsX4_putWeek wsX1_add := goodIn_r _ [23, 24, 25, 46, 47] (by decide +kernel) (by decide +kernel)
set_option maxRecDepth 20000 in
theorem gX4_putWeek_X1_add : GoodIn wsX4_putWeek (wsV RX4 213 RX1 yX1_add wsX1_add) := goodIn_app (goodIn_of _ (by decide +kernel)) ggX4_putWeek_X1_add
set_option maxRecDepth 20000 in
theorem ggX4_putWeek_X0_weekOf : GoodIn wsX4_putWeek wsX0_weekOf := goodIn_r _ [29, 30, 3, 4, 5, 6, 7, 8, 9, 10, 11, 12, 13, 14, 31, 32, 33, 34, 35, 36] (by decide +kernel) (by decide +kernel)
set_option maxRecDepth 20000 in
theorem gX4_putWeek_X0_weekOf : GoodIn wsX4_putWeek (va_wsS RX4 105 yX0_weekOf wsX0_weekOf) := goodIn_app (goodIn_of _ (by decide +kernel)) ggX4_putWeek_X0_weekOf
set_option maxRecDepth 20000 in
theorem ggX4_putWeek_X0_weekdayOf : GoodIn wsX4_putWeek wsX0_weekdayOf := goodIn_r _ [39] (by decide +kernel) (by decide +kernel)
set_option maxRecDepth 20000 in
theorem gX4_putWeek_X0_weekdayOf : GoodIn wsX4_putWeek (va_wsS RX4 58 yX0_weekdayOf wsX0_weekdayOf) := goodIn_app (goodIn_of _ (by decide +kernel)) ggX4_putWeek_X0_weekdayOf
set_option maxRecDepth 20000 in
theorem ggX4_putYearDay_X0_yearOf : GoodIn wsX4_putYearDay wsX0_yearOf := goodIn_r _ [5, 6, 7, 8, 9, 10, 11] (by decide +kernel) (by decide +kernel)
set_option maxRecDepth 20000 in
theorem gX4_putYearDay_X0_yearOf : GoodIn wsX4_putYearDay (va_wsS RX4 93 yX0_yearOf wsX0_yearOf) := goodIn_app (goodIn_of _ (by decide +kernel)) ggX4_putYearDay_X0_yearOf
set_option maxRecDepth 20000 in
theorem ggX4_putYearDay_X1_addDigits : GoodIn wsX4_putYearDay wsX1_addDigits := goodIn_r _ [16, 17, 18, 19, 15, 20, 21, 22, 37, 38] (by decide +kernel) (by decide +kernel)
set_option maxRecDepth 20000 in
theorem gX4_putYearDay_X1_addDigits : GoodIn wsX4_putYearDay (wsV RX4 261 RX1 yX1_addDigits wsX1_addDigits) := goodIn_app (goodIn_of _ (by decide +kernel)) ggX4_putYearDay_X1_addDigits
set_option maxRecDepth 20000 in
theorem ggX4_putYearDay_X1_add : GoodIn wsX4_putYearDay wsX1_add := goodIn_r _ [20, 21, 22, 37, 38] (by decide +kernel) (by decide +kernel)
set_option maxRecDepth 20000 in
theorem gX4_putYearDay_X1_add : GoodIn wsX4_putYearDay (wsV RX4 213 RX1 yX1_add wsX1_add) := goodIn_app (goodIn_of _ (by decide +kernel)) ggX4_putYearDay_X1_add
set_option maxRecDepth 20000 in
theorem ggX4_putYearDay_X0_yearDayOf : GoodIn wsX4_putYearDay wsX0_yearDayOf := goodIn_r _ [26, 27, 3, 4, 5, 6, 7, 8, 9, 10, 11, 28, 29, 30] (by decide +kernel) (by decide +kernel)
set_option maxRecDepth 20000 in
theorem gX4_putYearDay_X0_yearDayOf : GoodIn wsX4_putYearDay (va_wsS RX4 108 yX0_yearDayOf wsX0_yearDayOf) := goodIn_app (goodIn_of _ (by decide +kernel)) ggX4_putYearDay_X0_yearDayOf
set_option maxRecDepth 20000 in
theorem ggX4_typedText_X4_patternOf : GoodIn wsX4_typedText wsX4_patternOf := goodIn_r _ [9] (by decide +kernel) (by decide +kernel)
set_option maxRecDepth 20000 in
theorem gX4_typedText_X4_patternOf : GoodIn wsX4_typedText (va_wsS RX4 265 yX4_patternOf wsX4_patternOf) := goodIn_app (goodIn_of _ (by decide +kernel)) ggX4_typedText_X4_patternOf
set_option maxRecDepth 20000 in
theorem ggX4_typedText_X1_fitting : GoodIn wsX4_typedText wsX1_fitting := goodIn_r _ [14, 15, 16, 17, 4, 18, 19, 20, 21, 22, 23, 24, 25, 26, 27, 28, 29, 30, 31, 32, 33, 13, 34, 35, 36, 37, 38, 39, 40, 41, 42, 43, 44, 45, 46, 47, 48, 49, 50, 51, 52, 53, 54, 55, 56, 57, 58, 59, 60, 61, 62, 63, 64, 65, 66, 67, 68, 69, 70, 71, 72, 73, 74, 75, 87, 88] (by decide +kernel) (by decide +kernel)
set_option maxRecDepth 20000 in
theorem gX4_typedText_X1_fitting : GoodIn wsX4_typedText (wsV RX4 269 RX1 yX1_fitting wsX1_fitting) := goodIn_app (goodIn_of _ (by decide +kernel)) ggX4_typedText_X1_fitting
set_option maxRecDepth 20000 in
theorem ggX4_typedText_J0_length_8abf5 : GoodIn wsX4_typedText wsJ0_length_8abf5 := goodIn_r _ [23, 24, 25, 26, 27, 22, 28, 29, 30] (by decide +kernel) (by decide +kernel)
set_option maxRecDepth 20000 in
theorem gX4_typedText_J0_length_8abf5 : GoodIn wsX4_typedText (wsV RX4 273 RJ0 yJ0_length_8abf5 wsJ0_length_8abf5) := goodIn_app (goodIn_of _ (by decide +kernel)) ggX4_typedText_J0_length_8abf5
set_option maxRecDepth 20000 in
theorem ggX4_typedText_X1_size : GoodIn wsX4_typedText wsX1_size := goodIn_r _ [80, 15, 87, 88] (by decide +kernel) (by decide +kernel)
set_option maxRecDepth 20000 in
theorem gX4_typedText_X1_size : GoodIn wsX4_typedText (wsV RX4 199 RX1 yX1_size wsX1_size) := goodIn_app (goodIn_of _ (by decide +kernel)) ggX4_typedText_X1_size
set_option maxRecDepth 20000 in
theorem ggX4_typedNumber_X1_digits : GoodIn wsX4_typedNumber wsX1_digits := goodIn_r _ [6, 7, 8, 9, 5, 10, 11, 12, 63, 64] (by decide +kernel) (by decide +kernel)
set_option maxRecDepth 20000 in
theorem gX4_typedNumber_X1_digits : GoodIn wsX4_typedNumber (wsV RX4 284 RX1 yX1_digits wsX1_digits) := goodIn_app (goodIn_of _ (by decide +kernel)) ggX4_typedNumber_X1_digits
set_option maxRecDepth 20000 in
theorem ggX4_typedNumber_X0_civilNumber : GoodIn wsX4_typedNumber wsX0_civilNumber := goodIn_r _ [16, 17, 18, 15, 19, 20, 21, 22, 23, 24, 25, 26, 27, 28, 29, 30, 31, 32, 33, 34] (by decide +kernel) (by decide +kernel)
set_option maxRecDepth 20000 in
theorem gX4_typedNumber_X0_civilNumber : GoodIn wsX4_typedNumber (va_wsS RX4 44 yX0_civilNumber wsX0_civilNumber) := goodIn_app (goodIn_of _ (by decide +kernel)) ggX4_typedNumber_X0_civilNumber
set_option maxRecDepth 20000 in
theorem ggX4_typedNumber_X0_weekNumber : GoodIn wsX4_typedNumber wsX0_weekNumber := goodIn_r _ [37, 17, 18, 15, 19, 38, 39, 40, 41, 42, 43, 44, 45, 46, 32, 33, 34, 47, 48, 49, 50] (by decide +kernel) (by decide +kernel)
set_option maxRecDepth 20000 in
theorem gX4_typedNumber_X0_weekNumber : GoodIn wsX4_typedNumber (va_wsS RX4 62 yX0_weekNumber wsX0_weekNumber) := goodIn_app (goodIn_of _ (by decide +kernel)) ggX4_typedNumber_X0_weekNumber
set_option maxRecDepth 20000 in
theorem ggX4_typedNumber_X0_yearDayNumber : GoodIn wsX4_typedNumber wsX0_yearDayNumber := goodIn_r _ [53, 17, 18, 15, 19, 54, 55, 56, 26, 27, 28, 32, 33, 34] (by decide +kernel) (by decide +kernel)
set_option maxRecDepth 20000 in
theorem gX4_typedNumber_X0_yearDayNumber : GoodIn wsX4_typedNumber (va_wsS RX4 287 yX0_yearDayNumber wsX0_yearDayNumber) := goodIn_app (goodIn_of _ (by decide +kernel)) ggX4_typedNumber_X0_yearDayNumber
set_option maxRecDepth 20000 in
theorem ggX5_isSlot_X5_in : GoodIn wsX5_isSlot wsX5_in := goodIn_r _ [4] (by decide +kernel) (by decide +kernel)
set_option maxRecDepth 20000 in
theorem gX5_isSlot_X5_in : GoodIn wsX5_isSlot (va_wsS RX5 38 yX5_in wsX5_in) := goodIn_app (goodIn_of _ (by decide +kernel)) ggX5_isSlot_X5_in
set_option maxRecDepth 20000 in
theorem ggX5_lengthOf_X5_isLeap : GoodIn wsX5_lengthOf wsX5_isLeap := goodIn_r _ [4] (by decide +kernel) (by decide +kernel)
set_option maxRecDepth 20000 in
theorem gX5_lengthOf_X5_isLeap : GoodIn wsX5_lengthOf (va_wsS RX5 42 yX5_isLeap wsX5_isLeap) := goodIn_app (goodIn_of _ (by decide +kernel)) ggX5_lengthOf_X5_isLeap
set_option maxRecDepth 20000 in
theorem ggX5_yearLength_X5_isLeap : GoodIn wsX5_yearLength wsX5_isLeap := goodIn_r _ [4] (by decide +kernel) (by decide +kernel)
set_option maxRecDepth 20000 in
theorem gX5_yearLength_X5_isLeap : GoodIn wsX5_yearLength (va_wsS RX5 42 yX5_isLeap wsX5_isLeap) := goodIn_app (goodIn_of _ (by decide +kernel)) ggX5_yearLength_X5_isLeap
set_option maxRecDepth 20000 in
theorem ggX5_numberOf_X5_beginOf : GoodIn wsX5_numberOf wsX5_beginOf := goodIn_r _ [4] (by decide +kernel) (by decide +kernel)
set_option maxRecDepth 20000 in
theorem gX5_numberOf_X5_beginOf : GoodIn wsX5_numberOf (va_wsS RX5 46 yX5_beginOf wsX5_beginOf) := goodIn_app (goodIn_of _ (by decide +kernel)) ggX5_numberOf_X5_beginOf
set_option maxRecDepth 20000 in
theorem ggX5_numberOf_X5_lengthOf : GoodIn wsX5_numberOf wsX5_lengthOf := goodIn_r _ [7, 8, 9, 3, 10] (by decide +kernel) (by decide +kernel)
set_option maxRecDepth 20000 in
theorem gX5_numberOf_X5_lengthOf : GoodIn wsX5_numberOf (va_wsS RX5 50 yX5_lengthOf wsX5_lengthOf) := goodIn_app (goodIn_of _ (by decide +kernel)) ggX5_numberOf_X5_lengthOf
set_option maxRecDepth 20000 in
theorem ggX5_yearOf_X5_beginOf : GoodIn wsX5_yearOf wsX5_beginOf := goodIn_r _ [4] (by decide +kernel) (by decide +kernel)
set_option maxRecDepth 20000 in
theorem gX5_yearOf_X5_beginOf : GoodIn wsX5_yearOf (va_wsS RX5 46 yX5_beginOf wsX5_beginOf) := goodIn_app (goodIn_of _ (by decide +kernel)) ggX5_yearOf_X5_beginOf
set_option maxRecDepth 20000 in
theorem ggX5_monthOf_X5_yearOf : GoodIn wsX5_monthOf wsX5_yearOf := goodIn_r _ [4, 5, 6, 3, 7] (by decide +kernel) (by decide +kernel)
set_option maxRecDepth 20000 in
theorem gX5_monthOf_X5_yearOf : GoodIn wsX5_monthOf (va_wsS RX5 54 yX5_yearOf wsX5_yearOf) := goodIn_app (goodIn_of _ (by decide +kernel)) ggX5_monthOf_X5_yearOf
set_option maxRecDepth 20000 in
theorem ggX5_monthOf_X5_numberOf : GoodIn wsX5_monthOf wsX5_numberOf := goodIn_r _ [10, 5, 6, 3, 7, 11, 12, 13, 14, 15, 16] (by decide +kernel) (by decide +kernel)
set_option maxRecDepth 20000 in
theorem gX5_monthOf_X5_numberOf : GoodIn wsX5_monthOf (va_wsS RX5 57 yX5_numberOf wsX5_numberOf) := goodIn_app (goodIn_of _ (by decide +kernel)) ggX5_monthOf_X5_numberOf
set_option maxRecDepth 20000 in
theorem ggX5_dayOf_X5_yearOf : GoodIn wsX5_dayOf wsX5_yearOf := goodIn_r _ [4, 5, 6, 3, 7] (by decide +kernel) (by decide +kernel)
set_option maxRecDepth 20000 in
theorem gX5_dayOf_X5_yearOf : GoodIn wsX5_dayOf (va_wsS RX5 54 yX5_yearOf wsX5_yearOf) := goodIn_app (goodIn_of _ (by decide +kernel)) ggX5_dayOf_X5_yearOf
set_option maxRecDepth 20000 in
theorem ggX5_dayOf_X5_monthOf : GoodIn wsX5_dayOf wsX5_monthOf := goodIn_r _ [10, 1, 2, 3, 4, 5, 6, 7, 11, 12, 13, 14, 15, 16, 17, 18, 19] (by decide +kernel) (by decide +kernel)
set_option maxRecDepth 20000 in
theorem gX5_dayOf_X5_monthOf : GoodIn wsX5_dayOf (va_wsS RX5 61 yX5_monthOf wsX5_monthOf) := goodIn_app (goodIn_of _ (by decide +kernel)) ggX5_dayOf_X5_monthOf
set_option maxRecDepth 20000 in
theorem ggX5_dayOf_X5_numberOf : GoodIn wsX5_dayOf wsX5_numberOf := goodIn_r _ [13, 5, 6, 3, 7, 14, 15, 16, 17, 18, 19] (by decide +kernel) (by decide +kernel)
set_option maxRecDepth 20000 in
theorem gX5_dayOf_X5_numberOf : GoodIn wsX5_dayOf (va_wsS RX5 57 yX5_numberOf wsX5_numberOf) := goodIn_app (goodIn_of _ (by decide +kernel)) ggX5_dayOf_X5_numberOf
set_option maxRecDepth 20000 in
theorem ggX5_isDate_X5_in : GoodIn wsX5_isDate wsX5_in := goodIn_r _ [4] (by decide +kernel) (by decide +kernel)
set_option maxRecDepth 20000 in
theorem gX5_isDate_X5_in : GoodIn wsX5_isDate (va_wsS RX5 38 yX5_in wsX5_in) := goodIn_app (goodIn_of _ (by decide +kernel)) ggX5_isDate_X5_in
set_option maxRecDepth 20000 in
theorem ggX5_isDate_X5_lengthOf : GoodIn wsX5_isDate wsX5_lengthOf := goodIn_r _ [7, 8, 9, 3, 10] (by decide +kernel) (by decide +kernel)
set_option maxRecDepth 20000 in
theorem gX5_isDate_X5_lengthOf : GoodIn wsX5_isDate (va_wsS RX5 50 yX5_lengthOf wsX5_lengthOf) := goodIn_app (goodIn_of _ (by decide +kernel)) ggX5_isDate_X5_lengthOf
set_option maxRecDepth 20000 in
theorem ggX5_firstMonday_X5_beginOf : GoodIn wsX5_firstMonday wsX5_beginOf := goodIn_r _ [4] (by decide +kernel) (by decide +kernel)
set_option maxRecDepth 20000 in
theorem gX5_firstMonday_X5_beginOf : GoodIn wsX5_firstMonday (va_wsS RX5 46 yX5_beginOf wsX5_beginOf) := goodIn_app (goodIn_of _ (by decide +kernel)) ggX5_firstMonday_X5_beginOf
set_option maxRecDepth 20000 in
theorem ggX5_firstMonday_X5_weekdayOf : GoodIn wsX5_firstMonday wsX5_weekdayOf := goodIn_r _ [7] (by decide +kernel) (by decide +kernel)
set_option maxRecDepth 20000 in
theorem gX5_firstMonday_X5_weekdayOf : GoodIn wsX5_firstMonday (va_wsS RX5 64 yX5_weekdayOf wsX5_weekdayOf) := goodIn_app (goodIn_of _ (by decide +kernel)) ggX5_firstMonday_X5_weekdayOf
set_option maxRecDepth 20000 in
theorem ggX5_weeksOf_X5_firstMonday : GoodIn wsX5_weeksOf wsX5_firstMonday := goodIn_r _ [4, 5, 6, 3, 7, 8, 9, 10] (by decide +kernel) (by decide +kernel)
set_option maxRecDepth 20000 in
theorem gX5_weeksOf_X5_firstMonday : GoodIn wsX5_weeksOf (va_wsS RX5 67 yX5_firstMonday wsX5_firstMonday) := goodIn_app (goodIn_of _ (by decide +kernel)) ggX5_weeksOf_X5_firstMonday
set_option maxRecDepth 20000 in
theorem ggX5_weekYearOf_X5_weekdayOf : GoodIn wsX5_weekYearOf wsX5_weekdayOf := goodIn_r _ [4] (by decide +kernel) (by decide +kernel)
set_option maxRecDepth 20000 in
theorem gX5_weekYearOf_X5_weekdayOf : GoodIn wsX5_weekYearOf (va_wsS RX5 64 yX5_weekdayOf wsX5_weekdayOf) := goodIn_app (goodIn_of _ (by decide +kernel)) ggX5_weekYearOf_X5_weekdayOf
set_option maxRecDepth 20000 in
theorem ggX5_weekYearOf_X5_yearOf : GoodIn wsX5_weekYearOf wsX5_yearOf := goodIn_r _ [7, 8, 9, 3, 10] (by decide +kernel) (by decide +kernel)
set_option maxRecDepth 20000 in
theorem gX5_weekYearOf_X5_yearOf : GoodIn wsX5_weekYearOf (va_wsS RX5 54 yX5_yearOf wsX5_yearOf) := goodIn_app (goodIn_of _ (by decide +kernel)) ggX5_weekYearOf_X5_yearOf
set_option maxRecDepth 20000 in
theorem ggX5_weekOf_X5_weekYearOf : GoodIn wsX5_weekOf wsX5_weekYearOf := goodIn_r _ [4, 5, 6, 3, 7, 8, 9, 10, 11, 12, 13] (by decide +kernel) (by decide +kernel)
set_option maxRecDepth 20000 in
theorem gX5_weekOf_X5_weekYearOf : GoodIn wsX5_weekOf (va_wsS RX5 70 yX5_weekYearOf wsX5_weekYearOf) := goodIn_app (goodIn_of _ (by decide +kernel)) ggX5_weekOf_X5_weekYearOf
set_option maxRecDepth 20000 in
theorem ggX5_weekOf_X5_firstMonday : GoodIn wsX5_weekOf wsX5_firstMonday := goodIn_r _ [16, 11, 12, 3, 13, 5, 6, 7] (by decide +kernel) (by decide +kernel)
set_option maxRecDepth 20000 in
theorem gX5_weekOf_X5_firstMonday : GoodIn wsX5_weekOf (va_wsS RX5 67 yX5_firstMonday wsX5_firstMonday) := goodIn_app (goodIn_of _ (by decide +kernel)) ggX5_weekOf_X5_firstMonday
set_option maxRecDepth 20000 in
theorem ggX5_easterOf_X5_numberOf : GoodIn wsX5_easterOf wsX5_numberOf := goodIn_r _ [4, 5, 6, 3, 7, 8, 9, 10, 11, 12, 13] (by decide +kernel) (by decide +kernel)
set_option maxRecDepth 20000 in
theorem gX5_easterOf_X5_numberOf : GoodIn wsX5_easterOf (va_wsS RX5 57 yX5_numberOf wsX5_numberOf) := goodIn_app (goodIn_of _ (by decide +kernel)) ggX5_easterOf_X5_numberOf
set_option maxRecDepth 20000 in
theorem ggX5_easterOf_X5_weekdayOf : GoodIn wsX5_easterOf wsX5_weekdayOf := goodIn_r _ [16] (by decide +kernel) (by decide +kernel)
set_option maxRecDepth 20000 in
theorem gX5_easterOf_X5_weekdayOf : GoodIn wsX5_easterOf (va_wsS RX5 64 yX5_weekdayOf wsX5_weekdayOf) := goodIn_app (goodIn_of _ (by decide +kernel)) ggX5_easterOf_X5_weekdayOf
set_option maxRecDepth 20000 in
theorem ggX5_nthOf_X5_numberOf : GoodIn wsX5_nthOf wsX5_numberOf := goodIn_r _ [4, 5, 6, 3, 7, 8, 9, 10, 11, 12, 13] (by decide +kernel) (by decide +kernel)
set_option maxRecDepth 20000 in
theorem gX5_nthOf_X5_numberOf : GoodIn wsX5_nthOf (va_wsS RX5 57 yX5_numberOf wsX5_numberOf) := goodIn_app (goodIn_of _ (by decide +kernel)) ggX5_nthOf_X5_numberOf
set_option maxRecDepth 20000 in
theorem ggX5_nthOf_X5_lengthOf : GoodIn wsX5_nthOf wsX5_lengthOf := goodIn_r _ [10, 11, 12, 3, 13] (by decide +kernel) (by decide +kernel)
set_option maxRecDepth 20000 in
theorem gX5_nthOf_X5_lengthOf : GoodIn wsX5_nthOf (va_wsS RX5 50 yX5_lengthOf wsX5_lengthOf) := goodIn_app (goodIn_of _ (by decide +kernel)) ggX5_nthOf_X5_lengthOf
set_option maxRecDepth 20000 in
theorem ggX5_nthOf_X5_weekdayOf : GoodIn wsX5_nthOf wsX5_weekdayOf := goodIn_r _ [16] (by decide +kernel) (by decide +kernel)
set_option maxRecDepth 20000 in
theorem gX5_nthOf_X5_weekdayOf : GoodIn wsX5_nthOf (va_wsS RX5 64 yX5_weekdayOf wsX5_weekdayOf) := goodIn_app (goodIn_of _ (by decide +kernel)) ggX5_nthOf_X5_weekdayOf
set_option maxRecDepth 20000 in
theorem ggX5_byMonths_X5_yearOf : GoodIn wsX5_byMonths wsX5_yearOf := goodIn_r _ [6, 7, 8, 5, 9] (by decide +kernel) (by decide +kernel)
set_option maxRecDepth 20000 in
theorem gX5_byMonths_X5_yearOf : GoodIn wsX5_byMonths (va_wsS RX5 54 yX5_yearOf wsX5_yearOf) := goodIn_app (goodIn_of _ (by decide +kernel)) ggX5_byMonths_X5_yearOf
set_option maxRecDepth 20000 in
theorem ggX5_byMonths_X5_monthOf : GoodIn wsX5_byMonths wsX5_monthOf := goodIn_r _ [12, 3, 4, 5, 6, 7, 8, 9, 13, 14, 15, 16, 17, 18, 19, 20, 21] (by decide +kernel) (by decide +kernel)
set_option maxRecDepth 20000 in
theorem gX5_byMonths_X5_monthOf : GoodIn wsX5_byMonths (va_wsS RX5 61 yX5_monthOf wsX5_monthOf) := goodIn_app (goodIn_of _ (by decide +kernel)) ggX5_byMonths_X5_monthOf
set_option maxRecDepth 20000 in
theorem ggX5_byMonths_X5_dayOf : GoodIn wsX5_byMonths wsX5_dayOf := goodIn_r _ [24, 3, 4, 5, 6, 7, 8, 9, 10, 11, 12, 13, 14, 15, 16, 17, 18, 19, 20, 21] (by decide +kernel) (by decide +kernel)
set_option maxRecDepth 20000 in
theorem gX5_byMonths_X5_dayOf : GoodIn wsX5_byMonths (va_wsS RX5 77 yX5_dayOf wsX5_dayOf) := goodIn_app (goodIn_of _ (by decide +kernel)) ggX5_byMonths_X5_dayOf
set_option maxRecDepth 20000 in
theorem ggX5_byMonths_X5_lengthOf : GoodIn wsX5_byMonths wsX5_lengthOf := goodIn_r _ [18, 19, 20, 5, 21] (by decide +kernel) (by decide +kernel)
set_option maxRecDepth 20000 in
theorem gX5_byMonths_X5_lengthOf : GoodIn wsX5_byMonths (va_wsS RX5 50 yX5_lengthOf wsX5_lengthOf) := goodIn_app (goodIn_of _ (by decide +kernel)) ggX5_byMonths_X5_lengthOf
set_option maxRecDepth 20000 in
theorem ggX5_byMonths_X5_numberOf : GoodIn wsX5_byMonths wsX5_numberOf := goodIn_r _ [15, 7, 8, 5, 9, 16, 17, 18, 19, 20, 21] (by decide +kernel) (by decide +kernel)
set_option maxRecDepth 20000 in
theorem gX5_byMonths_X5_numberOf : GoodIn wsX5_byMonths (va_wsS RX5 57 yX5_numberOf wsX5_numberOf) := goodIn_app (goodIn_of _ (by decide +kernel)) ggX5_byMonths_X5_numberOf
set_option maxRecDepth 20000 in
theorem ggX5_civil_X5_isSlot : GoodIn wsX5_civil wsX5_isSlot := goodIn_r _ [5, 6, 7, 4, 8] (by decide +kernel) (by decide +kernel)
set_option maxRecDepth 20000 in
theorem gX5_civil_X5_isSlot : GoodIn wsX5_civil (va_wsS RX5 80 yX5_isSlot wsX5_isSlot) := goodIn_app (goodIn_of _ (by decide +kernel)) ggX5_civil_X5_isSlot
set_option maxRecDepth 20000 in
theorem ggX5_civil_X5_isDate : GoodIn wsX5_civil wsX5_isDate := goodIn_r _ [11, 6, 7, 4, 8, 12, 13, 14, 15, 16, 17] (by decide +kernel) (by decide +kernel)
set_option maxRecDepth 20000 in
theorem gX5_civil_X5_isDate : GoodIn wsX5_civil (va_wsS RX5 83 yX5_isDate wsX5_isDate) := goodIn_app (goodIn_of _ (by decide +kernel)) ggX5_civil_X5_isDate
set_option maxRecDepth 20000 in
theorem ggX5_civil_X5_numberOf : GoodIn wsX5_civil wsX5_numberOf := goodIn_r _ [20, 21, 22, 4, 23, 12, 13, 14, 15, 16, 17] (by decide +kernel) (by decide +kernel)
set_option maxRecDepth 20000 in
theorem gX5_civil_X5_numberOf : GoodIn wsX5_civil (va_wsS RX5 57 yX5_numberOf wsX5_numberOf) := goodIn_app (goodIn_of _ (by decide +kernel)) ggX5_civil_X5_numberOf
set_option maxRecDepth 20000 in
theorem ggX5_civil_X5_lay : GoodIn wsX5_civil wsX5_lay := goodIn_r _ [27, 28, 29, 30, 31, 32, 33, 34, 35, 36, 37, 38, 39, 40] (by decide +kernel) (by decide +kernel)
set_option maxRecDepth 20000 in
theorem gX5_civil_X5_lay : GoodIn wsX5_civil (wsV RX5 86 RX5 yX5_lay wsX5_lay) := goodIn_app (goodIn_of _ (by decide +kernel)) ggX5_civil_X5_lay
set_option maxRecDepth 20000 in
theorem ggX5_days_X5_isSlot : GoodIn wsX5_days wsX5_isSlot := goodIn_r _ [6, 7, 8, 5, 9] (by decide +kernel) (by decide +kernel)
set_option maxRecDepth 20000 in
theorem gX5_days_X5_isSlot : GoodIn wsX5_days (va_wsS RX5 80 yX5_isSlot wsX5_isSlot) := goodIn_app (goodIn_of _ (by decide +kernel)) ggX5_days_X5_isSlot
set_option maxRecDepth 20000 in
theorem ggX5_days_X5_in : GoodIn wsX5_days wsX5_in := goodIn_r _ [9] (by decide +kernel) (by decide +kernel)
set_option maxRecDepth 20000 in
theorem gX5_days_X5_in : GoodIn wsX5_days (va_wsS RX5 38 yX5_in wsX5_in) := goodIn_app (goodIn_of _ (by decide +kernel)) ggX5_days_X5_in
set_option maxRecDepth 20000 in
theorem ggX5_days_X5_lay : GoodIn wsX5_days wsX5_lay := goodIn_r _ [13, 14, 18, 19, 20, 21, 22, 23, 24, 25, 26, 27, 28, 29] (by decide +kernel) (by decide +kernel)
set_option maxRecDepth 20000 in
theorem gX5_days_X5_lay : GoodIn wsX5_days (wsV RX5 86 RX5 yX5_lay wsX5_lay) := goodIn_app (goodIn_of _ (by decide +kernel)) ggX5_days_X5_lay
set_option maxRecDepth 20000 in
theorem ggX5_days_X5_weekdayOf : GoodIn wsX5_days wsX5_weekdayOf := goodIn_r _ [17] (by decide +kernel) (by decide +kernel)
set_option maxRecDepth 20000 in
theorem gX5_days_X5_weekdayOf : GoodIn wsX5_days (va_wsS RX5 64 yX5_weekdayOf wsX5_weekdayOf) := goodIn_app (goodIn_of _ (by decide +kernel)) ggX5_days_X5_weekdayOf
set_option maxRecDepth 20000 in
theorem ggX5_byWeek_X5_in : GoodIn wsX5_byWeek wsX5_in := goodIn_r _ [5] (by decide +kernel) (by decide +kernel)
set_option maxRecDepth 20000 in
theorem gX5_byWeek_X5_in : GoodIn wsX5_byWeek (va_wsS RX5 38 yX5_in wsX5_in) := goodIn_app (goodIn_of _ (by decide +kernel)) ggX5_byWeek_X5_in
set_option maxRecDepth 20000 in
theorem ggX5_byWeek_X5_weeksOf : GoodIn wsX5_byWeek wsX5_weeksOf := goodIn_r _ [8, 9, 10, 4, 11, 12, 13, 14, 15, 16, 17] (by decide +kernel) (by decide +kernel)
set_option maxRecDepth 20000 in
theorem gX5_byWeek_X5_weeksOf : GoodIn wsX5_byWeek (va_wsS RX5 90 yX5_weeksOf wsX5_weeksOf) := goodIn_app (goodIn_of _ (by decide +kernel)) ggX5_byWeek_X5_weeksOf
set_option maxRecDepth 20000 in
theorem ggX5_byWeek_X5_firstMonday : GoodIn wsX5_byWeek wsX5_firstMonday := goodIn_r _ [11, 12, 13, 4, 14, 15, 16, 17] (by decide +kernel) (by decide +kernel)
set_option maxRecDepth 20000 in
theorem gX5_byWeek_X5_firstMonday : GoodIn wsX5_byWeek (va_wsS RX5 67 yX5_firstMonday wsX5_firstMonday) := goodIn_app (goodIn_of _ (by decide +kernel)) ggX5_byWeek_X5_firstMonday
set_option maxRecDepth 20000 in
theorem ggX5_week_X5_isSlot : GoodIn wsX5_week wsX5_isSlot := goodIn_r _ [5, 6, 7, 4, 8] (by decide +kernel) (by decide +kernel)
set_option maxRecDepth 20000 in
theorem gX5_week_X5_isSlot : GoodIn wsX5_week (va_wsS RX5 80 yX5_isSlot wsX5_isSlot) := goodIn_app (goodIn_of _ (by decide +kernel)) ggX5_week_X5_isSlot
set_option maxRecDepth 20000 in
theorem ggX5_week_X5_byWeek : GoodIn wsX5_week wsX5_byWeek := goodIn_r _ [11, 12, 6, 7, 4, 8, 13, 14, 15, 16, 17, 18, 19, 20, 21, 22, 23, 24] (by decide +kernel) (by decide +kernel)
set_option maxRecDepth 20000 in
theorem gX5_week_X5_byWeek : GoodIn wsX5_week (va_wsS RX5 93 yX5_byWeek wsX5_byWeek) := goodIn_app (goodIn_of _ (by decide +kernel)) ggX5_week_X5_byWeek
set_option maxRecDepth 20000 in
theorem ggX5_week_X5_lay : GoodIn wsX5_week wsX5_lay := goodIn_r _ [28, 29, 30, 31, 32, 33, 34, 35, 36, 37, 38, 39, 40, 41] (by decide +kernel) (by decide +kernel)
set_option maxRecDepth 20000 in
theorem gX5_week_X5_lay : GoodIn wsX5_week (wsV RX5 86 RX5 yX5_lay wsX5_lay) := goodIn_app (goodIn_of _ (by decide +kernel)) ggX5_week_X5_lay
set_option maxRecDepth 20000 in
theorem ggX5_easter_X5_isSlot : GoodIn wsX5_easter wsX5_isSlot := goodIn_r _ [5, 6, 7, 4, 8] (by decide +kernel) (by decide +kernel)
set_option maxRecDepth 20000 in
theorem gX5_easter_X5_isSlot : GoodIn wsX5_easter (va_wsS RX5 80 yX5_isSlot wsX5_isSlot) := goodIn_app (goodIn_of _ (by decide +kernel)) ggX5_easter_X5_isSlot
set_option maxRecDepth 20000 in
theorem ggX5_easter_X5_in : GoodIn wsX5_easter wsX5_in := goodIn_r _ [8] (by decide +kernel) (by decide +kernel)
set_option maxRecDepth 20000 in
theorem gX5_easter_X5_in : GoodIn wsX5_easter (va_wsS RX5 38 yX5_in wsX5_in) := goodIn_app (goodIn_of _ (by decide +kernel)) ggX5_easter_X5_in
set_option maxRecDepth 20000 in
theorem ggX5_easter_X5_easterOf : GoodIn wsX5_easter wsX5_easterOf := goodIn_r _ [11, 12, 13, 4, 14, 15, 16, 17, 18, 19, 20, 21, 22, 23, 24, 25, 26] (by decide +kernel) (by decide +kernel)
set_option maxRecDepth 20000 in
theorem gX5_easter_X5_easterOf : GoodIn wsX5_easter (va_wsS RX5 96 yX5_easterOf wsX5_easterOf) := goodIn_app (goodIn_of _ (by decide +kernel)) ggX5_easter_X5_easterOf
set_option maxRecDepth 20000 in
theorem ggX5_easter_X5_lay : GoodIn wsX5_easter wsX5_lay := goodIn_r _ [30, 31, 32, 33, 34, 35, 36, 37, 38, 39, 40, 41, 42, 43] (by decide +kernel) (by decide +kernel)
set_option maxRecDepth 20000 in
theorem gX5_easter_X5_lay : GoodIn wsX5_easter (wsV RX5 86 RX5 yX5_lay wsX5_lay) := goodIn_app (goodIn_of _ (by decide +kernel)) ggX5_easter_X5_lay
set_option maxRecDepth 20000 in
theorem ggX5_nth_X5_in : GoodIn wsX5_nth wsX5_in := goodIn_r _ [5] (by decide +kernel) (by decide +kernel)
set_option maxRecDepth 20000 in
theorem gX5_nth_X5_in : GoodIn wsX5_nth (va_wsS RX5 38 yX5_in wsX5_in) := goodIn_app (goodIn_of _ (by decide +kernel)) ggX5_nth_X5_in
set_option maxRecDepth 20000 in
theorem ggX5_nth_X5_isSlot : GoodIn wsX5_nth wsX5_isSlot := goodIn_r _ [8, 2, 3, 4, 5] (by decide +kernel) (by decide +kernel)
set_option maxRecDepth 20000 in
theorem gX5_nth_X5_isSlot : GoodIn wsX5_nth (va_wsS RX5 80 yX5_isSlot wsX5_isSlot) := goodIn_app (goodIn_of _ (by decide +kernel)) ggX5_nth_X5_isSlot
set_option maxRecDepth 20000 in
theorem ggX5_nth_X5_nthOf : GoodIn wsX5_nth wsX5_nthOf := goodIn_r _ [11, 12, 13, 4, 14, 15, 16, 17, 18, 19, 20, 21, 22, 23, 24, 25, 26] (by decide +kernel) (by decide +kernel)
set_option maxRecDepth 20000 in
theorem gX5_nth_X5_nthOf : GoodIn wsX5_nth (va_wsS RX5 99 yX5_nthOf wsX5_nthOf) := goodIn_app (goodIn_of _ (by decide +kernel)) ggX5_nth_X5_nthOf
set_option maxRecDepth 20000 in
theorem ggX5_nth_X5_lay : GoodIn wsX5_nth wsX5_lay := goodIn_r _ [30, 31, 32, 33, 34, 35, 36, 37, 38, 39, 40, 41, 42, 43] (by decide +kernel) (by decide +kernel)
set_option maxRecDepth 20000 in
theorem gX5_nth_X5_lay : GoodIn wsX5_nth (wsV RX5 86 RX5 yX5_lay wsX5_lay) := goodIn_app (goodIn_of _ (by decide +kernel)) ggX5_nth_X5_lay
set_option maxRecDepth 20000 in
theorem ggX5_move_X5_isSlot : GoodIn wsX5_move wsX5_isSlot := goodIn_r _ [8, 9, 10, 7, 11] (by decide +kernel) (by decide +kernel)
set_option maxRecDepth 20000 in
theorem gX5_move_X5_isSlot : GoodIn wsX5_move (va_wsS RX5 80 yX5_isSlot wsX5_isSlot) := goodIn_app (goodIn_of _ (by decide +kernel)) ggX5_move_X5_isSlot
set_option maxRecDepth 20000 in
theorem ggX5_move_X5_in : GoodIn wsX5_move wsX5_in := goodIn_r _ [11] (by decide +kernel) (by decide +kernel)
set_option maxRecDepth 20000 in
theorem gX5_move_X5_in : GoodIn wsX5_move (va_wsS RX5 38 yX5_in wsX5_in) := goodIn_app (goodIn_of _ (by decide +kernel)) ggX5_move_X5_in
set_option maxRecDepth 20000 in
theorem ggX5_move_X5_byMonths : GoodIn wsX5_move wsX5_byMonths := goodIn_r _ [14, 4, 15, 16, 17, 7, 18, 19, 20, 21, 22, 23, 24, 25, 26, 27, 28, 29, 30, 31, 32, 33, 34, 35, 36] (by decide +kernel) (by decide +kernel)
set_option maxRecDepth 20000 in
theorem gX5_move_X5_byMonths : GoodIn wsX5_move (va_wsS RX5 105 yX5_byMonths wsX5_byMonths) := goodIn_app (goodIn_of _ (by decide +kernel)) ggX5_move_X5_byMonths
set_option maxRecDepth 20000 in
theorem ggX5_move_X5_lay : GoodIn wsX5_move wsX5_lay := goodIn_r _ [40, 1, 41, 42, 43, 44, 45, 46, 47, 48, 49, 50, 51, 52] (by decide +kernel) (by decide +kernel)
set_option maxRecDepth 20000 in
theorem gX5_move_X5_lay : GoodIn wsX5_move (wsV RX5 86 RX5 yX5_lay wsX5_lay) := goodIn_app (goodIn_of _ (by decide +kernel)) ggX5_move_X5_lay
set_option maxRecDepth 20000 in
theorem ggX5_toldOf_X5_yearOf : GoodIn wsX5_toldOf wsX5_yearOf := goodIn_r _ [4, 5, 6, 3, 7] (by decide +kernel) (by decide +kernel)
set_option maxRecDepth 20000 in
theorem gX5_toldOf_X5_yearOf : GoodIn wsX5_toldOf (va_wsS RX5 54 yX5_yearOf wsX5_yearOf) := goodIn_app (goodIn_of _ (by decide +kernel)) ggX5_toldOf_X5_yearOf
set_option maxRecDepth 20000 in
theorem ggX5_toldOf_X5_monthOf : GoodIn wsX5_toldOf wsX5_monthOf := goodIn_r _ [10, 1, 2, 3, 4, 5, 6, 7, 11, 12, 13, 14, 15, 16, 17, 18, 19] (by decide +kernel) (by decide +kernel)
set_option maxRecDepth 20000 in
theorem gX5_toldOf_X5_monthOf : GoodIn wsX5_toldOf (va_wsS RX5 61 yX5_monthOf wsX5_monthOf) := goodIn_app (goodIn_of _ (by decide +kernel)) ggX5_toldOf_X5_monthOf
set_option maxRecDepth 20000 in
theorem ggX5_toldOf_X5_dayOf : GoodIn wsX5_toldOf wsX5_dayOf := goodIn_r _ [22, 1, 2, 3, 4, 5, 6, 7, 8, 9, 10, 11, 12, 13, 14, 15, 16, 17, 18, 19] (by decide +kernel) (by decide +kernel)
set_option maxRecDepth 20000 in
theorem gX5_toldOf_X5_dayOf : GoodIn wsX5_toldOf (va_wsS RX5 77 yX5_dayOf wsX5_dayOf) := goodIn_app (goodIn_of _ (by decide +kernel)) ggX5_toldOf_X5_dayOf
set_option maxRecDepth 20000 in
theorem ggX5_toldOf_X5_weekdayOf : GoodIn wsX5_toldOf wsX5_weekdayOf := goodIn_r _ [25] (by decide +kernel) (by decide +kernel)
set_option maxRecDepth 20000 in
theorem gX5_toldOf_X5_weekdayOf : GoodIn wsX5_toldOf (va_wsS RX5 64 yX5_weekdayOf wsX5_weekdayOf) := goodIn_app (goodIn_of _ (by decide +kernel)) ggX5_toldOf_X5_weekdayOf
set_option maxRecDepth 20000 in
theorem ggX5_toldOf_X5_weekYearOf : GoodIn wsX5_toldOf wsX5_weekYearOf := goodIn_r _ [28, 23, 24, 3, 25, 1, 2, 4, 5, 6, 7] (by decide +kernel) (by decide +kernel)
set_option maxRecDepth 20000 in
theorem gX5_toldOf_X5_weekYearOf : GoodIn wsX5_toldOf (va_wsS RX5 70 yX5_weekYearOf wsX5_weekYearOf) := goodIn_app (goodIn_of _ (by decide +kernel)) ggX5_toldOf_X5_weekYearOf
set_option maxRecDepth 20000 in
theorem ggX5_toldOf_X5_weekOf : GoodIn wsX5_toldOf wsX5_weekOf := goodIn_r _ [31, 26, 27, 3, 28, 23, 24, 25, 1, 2, 4, 5, 6, 7, 32, 33, 34] (by decide +kernel) (by decide +kernel)
set_option maxRecDepth 20000 in
theorem gX5_toldOf_X5_weekOf : GoodIn wsX5_toldOf (va_wsS RX5 109 yX5_weekOf wsX5_weekOf) := goodIn_app (goodIn_of _ (by decide +kernel)) ggX5_toldOf_X5_weekOf
set_option maxRecDepth 20000 in
theorem ggX5_toldOf_X5_beginOf : GoodIn wsX5_toldOf wsX5_beginOf := goodIn_r _ [7] (by decide +kernel) (by decide +kernel)
set_option maxRecDepth 20000 in
theorem gX5_toldOf_X5_beginOf : GoodIn wsX5_toldOf (va_wsS RX5 46 yX5_beginOf wsX5_beginOf) := goodIn_app (goodIn_of _ (by decide +kernel)) ggX5_toldOf_X5_beginOf
set_option maxRecDepth 20000 in
theorem ggX5_toldOf_X5_isLeap : GoodIn wsX5_toldOf wsX5_isLeap := goodIn_r _ [19] (by decide +kernel) (by decide +kernel)
set_option maxRecDepth 20000 in
theorem gX5_toldOf_X5_isLeap : GoodIn wsX5_toldOf (va_wsS RX5 42 yX5_isLeap wsX5_isLeap) := goodIn_app (goodIn_of _ (by decide +kernel)) ggX5_toldOf_X5_isLeap
set_option maxRecDepth 20000 in
theorem ggX5_toldOf_X5_lengthOf : GoodIn wsX5_toldOf wsX5_lengthOf := goodIn_r _ [16, 17, 18, 3, 19] (by decide +kernel) (by decide +kernel)
set_option maxRecDepth 20000 in
theorem gX5_toldOf_X5_lengthOf : GoodIn wsX5_toldOf (va_wsS RX5 50 yX5_lengthOf wsX5_lengthOf) := goodIn_app (goodIn_of _ (by decide +kernel)) ggX5_toldOf_X5_lengthOf
set_option maxRecDepth 20000 in
theorem ggX5_toldOf_X5_weeksOf : GoodIn wsX5_toldOf wsX5_weeksOf := goodIn_r _ [37, 32, 33, 3, 34, 5, 6, 7, 23, 24, 25] (by decide +kernel) (by decide +kernel)
set_option maxRecDepth 20000 in
theorem gX5_toldOf_X5_weeksOf : GoodIn wsX5_toldOf (va_wsS RX5 90 yX5_weeksOf wsX5_weeksOf) := goodIn_app (goodIn_of _ (by decide +kernel)) ggX5_toldOf_X5_weeksOf
set_option maxRecDepth 20000 in
theorem ggX5_told_X5_isSlot : GoodIn wsX5_told wsX5_isSlot := goodIn_r _ [6, 7, 8, 5, 9] (by decide +kernel) (by decide +kernel)
set_option maxRecDepth 20000 in
theorem gX5_told_X5_isSlot : GoodIn wsX5_told (va_wsS RX5 80 yX5_isSlot wsX5_isSlot) := goodIn_app (goodIn_of _ (by decide +kernel)) ggX5_told_X5_isSlot
set_option maxRecDepth 20000 in
theorem ggX5_told_X5_in : GoodIn wsX5_told wsX5_in := goodIn_r _ [9] (by decide +kernel) (by decide +kernel)
set_option maxRecDepth 20000 in
theorem gX5_told_X5_in : GoodIn wsX5_told (va_wsS RX5 38 yX5_in wsX5_in) := goodIn_app (goodIn_of _ (by decide +kernel)) ggX5_told_X5_in
set_option maxRecDepth 20000 in
theorem ggX5_told_X5_toldOf : GoodIn wsX5_told wsX5_toldOf := goodIn_r _ [12, 13, 14, 5, 15, 16, 17, 18, 19, 20, 21, 22, 23, 24, 25, 26, 27, 28, 29, 30, 31, 32, 33, 34, 35, 36, 37, 38, 39, 40, 41, 42, 43, 44, 45, 46, 47, 48] (by decide +kernel) (by decide +kernel)
set_option maxRecDepth 20000 in
theorem gX5_told_X5_toldOf : GoodIn wsX5_told (va_wsS RX5 112 yX5_toldOf wsX5_toldOf) := goodIn_app (goodIn_of _ (by decide +kernel)) ggX5_told_X5_toldOf
set_option maxRecDepth 20000 in
theorem ggX5_wholes_X5_yearOf : GoodIn wsX5_wholes wsX5_yearOf := goodIn_r _ [4, 5, 6, 3, 7] (by decide +kernel) (by decide +kernel)
set_option maxRecDepth 20000 in
theorem gX5_wholes_X5_yearOf : GoodIn wsX5_wholes (va_wsS RX5 54 yX5_yearOf wsX5_yearOf) := goodIn_app (goodIn_of _ (by decide +kernel)) ggX5_wholes_X5_yearOf
set_option maxRecDepth 20000 in
theorem ggX5_wholes_X5_monthOf : GoodIn wsX5_wholes wsX5_monthOf := goodIn_r _ [10, 1, 2, 3, 4, 5, 6, 7, 11, 12, 13, 14, 15, 16, 17, 18, 19] (by decide +kernel) (by decide +kernel)
set_option maxRecDepth 20000 in
theorem gX5_wholes_X5_monthOf : GoodIn wsX5_wholes (va_wsS RX5 61 yX5_monthOf wsX5_monthOf) := goodIn_app (goodIn_of _ (by decide +kernel)) ggX5_wholes_X5_monthOf
set_option maxRecDepth 20000 in
theorem ggX5_wholes_X5_byMonths : GoodIn wsX5_wholes wsX5_byMonths := goodIn_r _ [22, 23, 24, 1, 2, 3, 4, 5, 6, 7, 8, 9, 10, 11, 12, 13, 14, 15, 16, 17, 18, 19, 25, 26, 27] (by decide +kernel) (by decide +kernel)
set_option maxRecDepth 20000 in
theorem gX5_wholes_X5_byMonths : GoodIn wsX5_wholes (va_wsS RX5 105 yX5_byMonths wsX5_byMonths) := goodIn_app (goodIn_of _ (by decide +kernel)) ggX5_wholes_X5_byMonths
set_option maxRecDepth 20000 in
theorem ggX5_between_X5_isSlot : GoodIn wsX5_between wsX5_isSlot := goodIn_r _ [6, 7, 8, 5, 9] (by decide +kernel) (by decide +kernel)
set_option maxRecDepth 20000 in
theorem gX5_between_X5_isSlot : GoodIn wsX5_between (va_wsS RX5 80 yX5_isSlot wsX5_isSlot) := goodIn_app (goodIn_of _ (by decide +kernel)) ggX5_between_X5_isSlot
set_option maxRecDepth 20000 in
theorem ggX5_between_X5_in : GoodIn wsX5_between wsX5_in := goodIn_r _ [9] (by decide +kernel) (by decide +kernel)
set_option maxRecDepth 20000 in
theorem gX5_between_X5_in : GoodIn wsX5_between (va_wsS RX5 38 yX5_in wsX5_in) := goodIn_app (goodIn_of _ (by decide +kernel)) ggX5_between_X5_in
set_option maxRecDepth 20000 in
theorem ggX5_between_X5_wholes : GoodIn wsX5_between wsX5_wholes := goodIn_r _ [12, 13, 14, 5, 15, 16, 17, 18, 19, 20, 21, 22, 23, 24, 25, 26, 27, 28, 29, 30, 31, 32, 33, 34, 35, 36, 37, 38] (by decide +kernel) (by decide +kernel)
set_option maxRecDepth 20000 in
theorem gX5_between_X5_wholes : GoodIn wsX5_between (va_wsS RX5 115 yX5_wholes wsX5_wholes) := goodIn_app (goodIn_of _ (by decide +kernel)) ggX5_between_X5_wholes
set_option maxRecDepth 20000 in
theorem ggX5_copy_X5_isSlot : GoodIn wsX5_copy wsX5_isSlot := goodIn_r _ [6, 7, 8, 5, 9] (by decide +kernel) (by decide +kernel)
set_option maxRecDepth 20000 in
theorem gX5_copy_X5_isSlot : GoodIn wsX5_copy (va_wsS RX5 80 yX5_isSlot wsX5_isSlot) := goodIn_app (goodIn_of _ (by decide +kernel)) ggX5_copy_X5_isSlot
set_option maxRecDepth 20000 in
theorem ggX5_copy_X5_lay : GoodIn wsX5_copy wsX5_lay := goodIn_r _ [13, 1, 14, 15, 16, 17, 18, 19, 20, 21, 22, 23, 24, 25] (by decide +kernel) (by decide +kernel)
set_option maxRecDepth 20000 in
theorem gX5_copy_X5_lay : GoodIn wsX5_copy (wsV RX5 86 RX5 yX5_lay wsX5_lay) := goodIn_app (goodIn_of _ (by decide +kernel)) ggX5_copy_X5_lay
set_option maxRecDepth 20000 in
theorem ggX5_isRule_X5_in : GoodIn wsX5_isRule wsX5_in := goodIn_r _ [4] (by decide +kernel) (by decide +kernel)
set_option maxRecDepth 20000 in
theorem gX5_isRule_X5_in : GoodIn wsX5_isRule (va_wsS RX5 38 yX5_in wsX5_in) := goodIn_app (goodIn_of _ (by decide +kernel)) ggX5_isRule_X5_in
set_option maxRecDepth 20000 in
theorem ggX5_isRule_X5_lengthOf : GoodIn wsX5_isRule wsX5_lengthOf := goodIn_r _ [7, 8, 9, 3, 10] (by decide +kernel) (by decide +kernel)
set_option maxRecDepth 20000 in
theorem gX5_isRule_X5_lengthOf : GoodIn wsX5_isRule (va_wsS RX5 50 yX5_lengthOf wsX5_lengthOf) := goodIn_app (goodIn_of _ (by decide +kernel)) ggX5_isRule_X5_lengthOf
set_option maxRecDepth 20000 in
theorem ggX5_holiday_X5_isRule : GoodIn wsX5_holiday wsX5_isRule := goodIn_r _ [10, 11, 12, 9, 13, 14, 15, 16, 17, 18, 19] (by decide +kernel) (by decide +kernel)
set_option maxRecDepth 20000 in
theorem gX5_holiday_X5_isRule : GoodIn wsX5_holiday (va_wsS RX5 118 yX5_isRule wsX5_isRule) := goodIn_app (goodIn_of _ (by decide +kernel)) ggX5_holiday_X5_isRule
set_option maxRecDepth 20000 in
theorem ggX5_noHoliday_X5_in : GoodIn wsX5_noHoliday wsX5_in := goodIn_r _ [10] (by decide +kernel) (by decide +kernel)
set_option maxRecDepth 20000 in
theorem gX5_noHoliday_X5_in : GoodIn wsX5_noHoliday (va_wsS RX5 38 yX5_in wsX5_in) := goodIn_app (goodIn_of _ (by decide +kernel)) ggX5_noHoliday_X5_in
set_option maxRecDepth 20000 in
theorem ggX5_weekend_X5_in : GoodIn wsX5_weekend wsX5_in := goodIn_r _ [6] (by decide +kernel) (by decide +kernel)
set_option maxRecDepth 20000 in
theorem gX5_weekend_X5_in : GoodIn wsX5_weekend (va_wsS RX5 38 yX5_in wsX5_in) := goodIn_app (goodIn_of _ (by decide +kernel)) ggX5_weekend_X5_in
set_option maxRecDepth 20000 in
theorem ggX5_dayOfRule_X5_in : GoodIn wsX5_dayOfRule wsX5_in := goodIn_r _ [8] (by decide +kernel) (by decide +kernel)
set_option maxRecDepth 20000 in
theorem gX5_dayOfRule_X5_in : GoodIn wsX5_dayOfRule (va_wsS RX5 38 yX5_in wsX5_in) := goodIn_app (goodIn_of _ (by decide +kernel)) ggX5_dayOfRule_X5_in
set_option maxRecDepth 20000 in
theorem ggX5_dayOfRule_X5_easterOf : GoodIn wsX5_dayOfRule wsX5_easterOf := goodIn_r _ [11, 12, 13, 7, 14, 15, 16, 17, 18, 19, 20, 21, 22, 23, 24, 25, 26] (by decide +kernel) (by decide +kernel)
set_option maxRecDepth 20000 in
theorem gX5_dayOfRule_X5_easterOf : GoodIn wsX5_dayOfRule (va_wsS RX5 96 yX5_easterOf wsX5_easterOf) := goodIn_app (goodIn_of _ (by decide +kernel)) ggX5_dayOfRule_X5_easterOf
set_option maxRecDepth 20000 in
theorem ggX5_dayOfRule_X5_nthOf : GoodIn wsX5_dayOfRule wsX5_nthOf := goodIn_r _ [29, 12, 13, 7, 14, 15, 16, 17, 18, 19, 20, 21, 22, 23, 24, 25, 26] (by decide +kernel) (by decide +kernel)
set_option maxRecDepth 20000 in
theorem gX5_dayOfRule_X5_nthOf : GoodIn wsX5_dayOfRule (va_wsS RX5 99 yX5_nthOf wsX5_nthOf) := goodIn_app (goodIn_of _ (by decide +kernel)) ggX5_dayOfRule_X5_nthOf
set_option maxRecDepth 20000 in
theorem ggX5_dayOfRule_X5_isDate : GoodIn wsX5_dayOfRule wsX5_isDate := goodIn_r _ [32, 5, 6, 7, 8, 18, 19, 20, 21, 22, 23] (by decide +kernel) (by decide +kernel)
set_option maxRecDepth 20000 in
theorem gX5_dayOfRule_X5_isDate : GoodIn wsX5_dayOfRule (va_wsS RX5 83 yX5_isDate wsX5_isDate) := goodIn_app (goodIn_of _ (by decide +kernel)) ggX5_dayOfRule_X5_isDate
set_option maxRecDepth 20000 in
theorem ggX5_dayOfRule_X5_numberOf : GoodIn wsX5_dayOfRule wsX5_numberOf := goodIn_r _ [14, 15, 16, 7, 17, 18, 19, 20, 21, 22, 23] (by decide +kernel) (by decide +kernel)
set_option maxRecDepth 20000 in
theorem gX5_dayOfRule_X5_numberOf : GoodIn wsX5_dayOfRule (va_wsS RX5 57 yX5_numberOf wsX5_numberOf) := goodIn_app (goodIn_of _ (by decide +kernel)) ggX5_dayOfRule_X5_numberOf
set_option maxRecDepth 20000 in
theorem ggX5_dayOfRule_X5_weekdayOf : GoodIn wsX5_dayOfRule wsX5_weekdayOf := goodIn_r _ [26] (by decide +kernel) (by decide +kernel)
set_option maxRecDepth 20000 in
theorem gX5_dayOfRule_X5_weekdayOf : GoodIn wsX5_dayOfRule (va_wsS RX5 64 yX5_weekdayOf wsX5_weekdayOf) := goodIn_app (goodIn_of _ (by decide +kernel)) ggX5_dayOfRule_X5_weekdayOf
set_option maxRecDepth 20000 in
theorem ggX5_ruleOf_X5_yearOf : GoodIn wsX5_ruleOf wsX5_yearOf := goodIn_r _ [6, 7, 8, 5, 9] (by decide +kernel) (by decide +kernel)
set_option maxRecDepth 20000 in
theorem gX5_ruleOf_X5_yearOf : GoodIn wsX5_ruleOf (va_wsS RX5 54 yX5_yearOf wsX5_yearOf) := goodIn_app (goodIn_of _ (by decide +kernel)) ggX5_ruleOf_X5_yearOf
set_option maxRecDepth 20000 in
theorem ggX5_ruleOf_X5_dayOfRule : GoodIn wsX5_ruleOf wsX5_dayOfRule := goodIn_r _ [13, 2, 14, 15, 16, 17, 18, 5, 19, 20, 21, 22, 23, 24, 25, 7, 8, 9, 26, 27, 28, 29, 30, 31, 32, 33, 34, 35, 36, 37, 38, 39, 40, 41, 42, 43, 44, 45, 46, 47, 48, 49, 50, 51, 52] (by decide +kernel) (by decide +kernel)
set_option maxRecDepth 20000 in
theorem gX5_ruleOf_X5_dayOfRule : GoodIn wsX5_ruleOf (wsV RX5 125 RX5 yX5_dayOfRule wsX5_dayOfRule) := goodIn_app (goodIn_of _ (by decide +kernel)) ggX5_ruleOf_X5_dayOfRule
set_option maxRecDepth 20000 in
theorem ggX5_isHoliday_X5_isSlot : GoodIn wsX5_isHoliday wsX5_isSlot := goodIn_r _ [6, 7, 8, 5, 9] (by decide +kernel) (by decide +kernel)
set_option maxRecDepth 20000 in
theorem gX5_isHoliday_X5_isSlot : GoodIn wsX5_isHoliday (va_wsS RX5 80 yX5_isSlot wsX5_isSlot) := goodIn_app (goodIn_of _ (by decide +kernel)) ggX5_isHoliday_X5_isSlot
set_option maxRecDepth 20000 in
theorem ggX5_isHoliday_X5_ruleOf : GoodIn wsX5_isHoliday wsX5_ruleOf := goodIn_r _ [13, 14, 15, 16, 17, 5, 18, 19, 20, 21, 22, 23, 24, 25, 26, 27, 28, 7, 8, 9, 29, 30, 31, 32, 33, 34, 35, 36, 37, 38, 39, 40, 41, 42, 43, 44, 45, 46, 47, 48, 49, 50, 51, 52, 53, 54, 55, 56, 57, 58, 59, 60, 61] (by decide +kernel) (by decide +kernel)
set_option maxRecDepth 20000 in
theorem gX5_isHoliday_X5_ruleOf : GoodIn wsX5_isHoliday (wsV RX5 128 RX5 yX5_ruleOf wsX5_ruleOf) := goodIn_app (goodIn_of _ (by decide +kernel)) ggX5_isHoliday_X5_ruleOf
set_option maxRecDepth 20000 in
theorem ggX5_works_X5_weekdayOf : GoodIn wsX5_works wsX5_weekdayOf := goodIn_r _ [5] (by decide +kernel) (by decide +kernel)
set_option maxRecDepth 20000 in
theorem gX5_works_X5_weekdayOf : GoodIn wsX5_works (va_wsS RX5 64 yX5_weekdayOf wsX5_weekdayOf) := goodIn_app (goodIn_of _ (by decide +kernel)) ggX5_works_X5_weekdayOf
set_option maxRecDepth 20000 in
theorem ggX5_works_X5_ruleOf : GoodIn wsX5_works wsX5_ruleOf := goodIn_r _ [9, 10, 11, 12, 13, 4, 14, 15, 16, 17, 18, 19, 20, 21, 22, 23, 24, 25, 26, 27, 28, 29, 30, 31, 32, 33, 34, 35, 36, 37, 38, 39, 2, 3, 5, 40, 41, 42, 43, 44, 45, 46, 47, 48, 49, 50, 51, 52, 53, 54, 55, 56, 57] (by decide +kernel) (by decide +kernel)
set_option maxRecDepth 20000 in
theorem gX5_works_X5_ruleOf : GoodIn wsX5_works (wsV RX5 128 RX5 yX5_ruleOf wsX5_ruleOf) := goodIn_app (goodIn_of _ (by decide +kernel)) ggX5_works_X5_ruleOf
set_option maxRecDepth 20000 in
theorem ggX5_work_X5_isSlot : GoodIn wsX5_work wsX5_isSlot := goodIn_r _ [6, 7, 8, 5, 9] (by decide +kernel) (by decide +kernel)
set_option maxRecDepth 20000 in
theorem gX5_work_X5_isSlot : GoodIn wsX5_work (va_wsS RX5 80 yX5_isSlot wsX5_isSlot) := goodIn_app (goodIn_of _ (by decide +kernel)) ggX5_work_X5_isSlot
set_option maxRecDepth 20000 in
theorem ggX5_work_X5_works : GoodIn wsX5_work wsX5_works := goodIn_r _ [13, 14, 15, 16, 5, 17, 18, 19, 20, 21, 22, 23, 24, 25, 26, 27, 28, 29, 30, 31, 32, 33, 34, 35, 36, 7, 8, 9, 37, 38, 39, 40, 41, 42, 43, 44, 45, 46, 47, 48, 49, 50, 51, 52, 53, 54, 55, 56, 57, 58, 59, 60, 61, 62, 63, 64, 65, 66] (by decide +kernel) (by decide +kernel)
set_option maxRecDepth 20000 in
theorem gX5_work_X5_works : GoodIn wsX5_work (wsV RX5 131 RX5 yX5_works wsX5_works) := goodIn_app (goodIn_of _ (by decide +kernel)) ggX5_work_X5_works
set_option maxRecDepth 20000 in
theorem ggX5_moveWork_X5_isSlot : GoodIn wsX5_moveWork wsX5_isSlot := goodIn_r _ [7, 8, 9, 6, 10] (by decide +kernel) (by decide +kernel)
set_option maxRecDepth 20000 in
theorem gX5_moveWork_X5_isSlot : GoodIn wsX5_moveWork (va_wsS RX5 80 yX5_isSlot wsX5_isSlot) := goodIn_app (goodIn_of _ (by decide +kernel)) ggX5_moveWork_X5_isSlot
set_option maxRecDepth 20000 in
theorem ggX5_moveWork_X5_in : GoodIn wsX5_moveWork wsX5_in := goodIn_r _ [10] (by decide +kernel) (by decide +kernel)
set_option maxRecDepth 20000 in
theorem gX5_moveWork_X5_in : GoodIn wsX5_moveWork (va_wsS RX5 38 yX5_in wsX5_in) := goodIn_app (goodIn_of _ (by decide +kernel)) ggX5_moveWork_X5_in
set_option maxRecDepth 20000 in
theorem ggX5_moveWork_X5_works : GoodIn wsX5_moveWork wsX5_works := goodIn_r _ [14, 15, 16, 17, 6, 18, 19, 20, 21, 22, 23, 24, 25, 26, 27, 28, 29, 30, 31, 32, 33, 34, 35, 36, 37, 8, 9, 10, 38, 39, 40, 41, 42, 43, 44, 45, 46, 47, 48, 49, 50, 51, 52, 53, 54, 55, 60, 61, 62, 63, 64, 65, 66, 67, 68, 69, 70, 71] (by decide +kernel) (by decide +kernel)
set_option maxRecDepth 20000 in
theorem gX5_moveWork_X5_works : GoodIn wsX5_moveWork (wsV RX5 131 RX5 yX5_works wsX5_works) := goodIn_app (goodIn_of _ (by decide +kernel)) ggX5_moveWork_X5_works
set_option maxRecDepth 20000 in
theorem ggX5_moveWork_X5_lay : GoodIn wsX5_moveWork wsX5_lay := goodIn_r _ [59, 1, 60, 61, 62, 63, 64, 65, 66, 67, 68, 69, 70, 71] (by decide +kernel) (by decide +kernel)
set_option maxRecDepth 20000 in
theorem gX5_moveWork_X5_lay : GoodIn wsX5_moveWork (wsV RX5 86 RX5 yX5_lay wsX5_lay) := goodIn_app (goodIn_of _ (by decide +kernel)) ggX5_moveWork_X5_lay
set_option maxRecDepth 20000 in
theorem ggX5_putNumber_X5_put : GoodIn wsX5_putNumber wsX5_put := goodIn_r _ [5, 6, 7, 8, 9, 10, 11, 12, 13, 14, 15, 16, 17, 18, 19] (by decide +kernel) (by decide +kernel)
set_option maxRecDepth 20000 in
theorem gX5_putNumber_X5_put : GoodIn wsX5_putNumber (wsV RX5 137 RX5 yX5_put wsX5_put) := goodIn_app (goodIn_of _ (by decide +kernel)) ggX5_putNumber_X5_put
set_option maxRecDepth 20000 in
theorem ggX5_write_X5_isSlot : GoodIn wsX5_write wsX5_isSlot := goodIn_r _ [7, 8, 9, 6, 10] (by decide +kernel) (by decide +kernel)
set_option maxRecDepth 20000 in
theorem gX5_write_X5_isSlot : GoodIn wsX5_write (va_wsS RX5 80 yX5_isSlot wsX5_isSlot) := goodIn_app (goodIn_of _ (by decide +kernel)) ggX5_write_X5_isSlot
set_option maxRecDepth 20000 in
theorem ggX5_write_X5_in : GoodIn wsX5_write wsX5_in := goodIn_r _ [10] (by decide +kernel) (by decide +kernel)
set_option maxRecDepth 20000 in
theorem gX5_write_X5_in : GoodIn wsX5_write (va_wsS RX5 38 yX5_in wsX5_in) := goodIn_app (goodIn_of _ (by decide +kernel)) ggX5_write_X5_in
set_option maxRecDepth 20000 in
theorem ggX5_write_X5_weekYearOf : GoodIn wsX5_write wsX5_weekYearOf := goodIn_r _ [13, 14, 15, 6, 16, 17, 18, 19, 20, 21, 22] (by decide +kernel) (by decide +kernel)
set_option maxRecDepth 20000 in
theorem gX5_write_X5_weekYearOf : GoodIn wsX5_write (va_wsS RX5 70 yX5_weekYearOf wsX5_weekYearOf) := goodIn_app (goodIn_of _ (by decide +kernel)) ggX5_write_X5_weekYearOf
set_option maxRecDepth 20000 in
theorem ggX5_write_X5_yearOf : GoodIn wsX5_write wsX5_yearOf := goodIn_r _ [19, 20, 21, 6, 22] (by decide +kernel) (by decide +kernel)
set_option maxRecDepth 20000 in
theorem gX5_write_X5_yearOf : GoodIn wsX5_write (va_wsS RX5 54 yX5_yearOf wsX5_yearOf) := goodIn_app (goodIn_of _ (by decide +kernel)) ggX5_write_X5_yearOf
set_option maxRecDepth 20000 in
theorem ggX5_write_X5_putNumber : GoodIn wsX5_write wsX5_putNumber := goodIn_r _ [26, 27, 28, 29, 6, 30, 31, 3, 59, 60, 61, 62, 63, 64, 65, 66, 67, 68, 69, 70] (by decide +kernel) (by decide +kernel)
set_option maxRecDepth 20000 in
theorem gX5_write_X5_putNumber : GoodIn wsX5_write (wsV RX5 141 RX5 yX5_putNumber wsX5_putNumber) := goodIn_app (goodIn_of _ (by decide +kernel)) ggX5_write_X5_putNumber
set_option maxRecDepth 20000 in
theorem ggX5_write_X5_put : GoodIn wsX5_write wsX5_put := goodIn_r _ [30, 31, 3, 59, 60, 61, 62, 63, 64, 65, 66, 67, 68, 69, 70] (by decide +kernel) (by decide +kernel)
set_option maxRecDepth 20000 in
theorem gX5_write_X5_put : GoodIn wsX5_write (wsV RX5 137 RX5 yX5_put wsX5_put) := goodIn_app (goodIn_of _ (by decide +kernel)) ggX5_write_X5_put
set_option maxRecDepth 20000 in
theorem ggX5_write_X5_monthOf : GoodIn wsX5_write wsX5_monthOf := goodIn_r _ [34, 17, 18, 6, 19, 20, 21, 22, 35, 36, 37, 38, 39, 40, 41, 42, 43] (by decide +kernel) (by decide +kernel)
set_option maxRecDepth 20000 in
theorem gX5_write_X5_monthOf : GoodIn wsX5_write (va_wsS RX5 61 yX5_monthOf wsX5_monthOf) := goodIn_app (goodIn_of _ (by decide +kernel)) ggX5_write_X5_monthOf
set_option maxRecDepth 20000 in
theorem ggX5_write_X5_dayOf : GoodIn wsX5_write wsX5_dayOf := goodIn_r _ [46, 17, 18, 6, 19, 20, 21, 22, 32, 33, 34, 35, 36, 37, 38, 39, 40, 41, 42, 43] (by decide +kernel) (by decide +kernel)
set_option maxRecDepth 20000 in
theorem gX5_write_X5_dayOf : GoodIn wsX5_write (va_wsS RX5 77 yX5_dayOf wsX5_dayOf) := goodIn_app (goodIn_of _ (by decide +kernel)) ggX5_write_X5_dayOf
set_option maxRecDepth 20000 in
theorem ggX5_write_X5_weekOf : GoodIn wsX5_write wsX5_weekOf := goodIn_r _ [49, 11, 12, 6, 13, 14, 15, 16, 17, 18, 19, 20, 21, 22, 50, 51, 52] (by decide +kernel) (by decide +kernel)
set_option maxRecDepth 20000 in
theorem gX5_write_X5_weekOf : GoodIn wsX5_write (va_wsS RX5 109 yX5_weekOf wsX5_weekOf) := goodIn_app (goodIn_of _ (by decide +kernel)) ggX5_write_X5_weekOf
set_option maxRecDepth 20000 in
theorem ggX5_write_X5_weekdayOf : GoodIn wsX5_write wsX5_weekdayOf := goodIn_r _ [16] (by decide +kernel) (by decide +kernel)
set_option maxRecDepth 20000 in
theorem gX5_write_X5_weekdayOf : GoodIn wsX5_write (va_wsS RX5 64 yX5_weekdayOf wsX5_weekdayOf) := goodIn_app (goodIn_of _ (by decide +kernel)) ggX5_write_X5_weekdayOf
set_option maxRecDepth 20000 in
theorem ggX5_write_X5_toldOf : GoodIn wsX5_write wsX5_toldOf := goodIn_r _ [55, 17, 18, 6, 19, 20, 21, 22, 32, 33, 34, 35, 36, 37, 38, 39, 40, 41, 42, 43, 44, 45, 46, 14, 15, 16, 11, 12, 13, 47, 48, 49, 50, 51, 52, 56, 57, 58] (by decide +kernel) (by decide +kernel)
set_option maxRecDepth 20000 in
theorem gX5_write_X5_toldOf : GoodIn wsX5_write (va_wsS RX5 112 yX5_toldOf wsX5_toldOf) := goodIn_app (goodIn_of _ (by decide +kernel)) ggX5_write_X5_toldOf
set_option maxRecDepth 20000 in
theorem ggX5_charAt_X5_in : GoodIn wsX5_charAt wsX5_in := goodIn_r _ [7] (by decide +kernel) (by decide +kernel)
set_option maxRecDepth 20000 in
theorem gX5_charAt_X5_in : GoodIn wsX5_charAt (va_wsS RX5 38 yX5_in wsX5_in) := goodIn_app (goodIn_of _ (by decide +kernel)) ggX5_charAt_X5_in
set_option maxRecDepth 20000 in
theorem ggX5_type_X5_in : GoodIn wsX5_type wsX5_in := goodIn_r _ [7] (by decide +kernel) (by decide +kernel)
set_option maxRecDepth 20000 in
theorem gX5_type_X5_in : GoodIn wsX5_type (va_wsS RX5 38 yX5_in wsX5_in) := goodIn_app (goodIn_of _ (by decide +kernel)) ggX5_type_X5_in
