set_option maxRecDepth 20000 in
theorem ggX0_init_X1_init : GoodIn wsX0_init wsX1_init := goodIn_r _ [17, 18, 2, 3, 19, 20, 21, 22, 23, 24, 33] (by decide +kernel) (by decide +kernel)
set_option maxRecDepth 20000 in
theorem gX0_init_X1_init : GoodIn wsX0_init (wsX1_init) := ggX0_init_X1_init
set_option maxRecDepth 20000 in
theorem ggX0_copyFrom_X1_copyFrom : GoodIn wsX0_copyFrom wsX1_copyFrom := goodIn_r _ [13, 14, 15, 16, 17, 18, 27] (by decide +kernel) (by decide +kernel)
set_option maxRecDepth 20000 in
theorem gX0_copyFrom_X1_copyFrom : GoodIn wsX0_copyFrom (wsV RX0 40 RX1 yX1_copyFrom wsX1_copyFrom) := goodIn_app (goodIn_of _ (by decide +kernel)) ggX0_copyFrom_X1_copyFrom
set_option maxRecDepth 20000 in
theorem ggX0_shadeAt_X0_leftOf : GoodIn wsX0_shadeAt wsX0_leftOf := goodIn_r _ [8, 9, 13, 14, 15, 16, 17, 18, 19, 20] (by decide +kernel) (by decide +kernel)
set_option maxRecDepth 20000 in
theorem gX0_shadeAt_X0_leftOf : GoodIn wsX0_shadeAt (wsV RX0 44 RX0 yX0_leftOf wsX0_leftOf) := goodIn_app (goodIn_of _ (by decide +kernel)) ggX0_shadeAt_X0_leftOf
set_option maxRecDepth 20000 in
theorem ggX0_shadeAt_X8_hold : GoodIn wsX0_shadeAt wsX8_hold := goodIn_r _ [12] (by decide +kernel) (by decide +kernel)
set_option maxRecDepth 20000 in
theorem gX0_shadeAt_X8_hold_n48 : GoodIn wsX0_shadeAt (wsX8_hold) := ggX0_shadeAt_X8_hold
set_option maxRecDepth 20000 in
theorem ggX0_stokedFrom_X0_leftOf : GoodIn wsX0_stokedFrom wsX0_leftOf := goodIn_r _ [7, 2, 14, 15, 16, 17, 18, 19, 20, 21] (by decide +kernel) (by decide +kernel)
set_option maxRecDepth 20000 in
theorem gX0_stokedFrom_X0_leftOf : GoodIn wsX0_stokedFrom (wsV RX0 44 RX0 yX0_leftOf wsX0_leftOf) := goodIn_app (goodIn_of _ (by decide +kernel)) ggX0_stokedFrom_X0_leftOf
set_option maxRecDepth 20000 in
theorem ggX0_stokedFrom_X8_isTick : GoodIn wsX0_stokedFrom wsX8_isTick := goodIn_r _ [10, 11, 12, 9, 13] (by decide +kernel) (by decide +kernel)
set_option maxRecDepth 20000 in
theorem gX0_stokedFrom_X8_isTick_n51 : GoodIn wsX0_stokedFrom (wsX8_isTick) := ggX0_stokedFrom_X8_isTick
set_option maxRecDepth 20000 in
theorem ggX0_smokeByTicks_X0_shadeAt : GoodIn wsX0_smokeByTicks wsX0_shadeAt := goodIn_r _ [5, 6, 7, 8, 9, 10, 11, 4, 12, 13, 14, 15, 16, 17, 18, 19, 20, 21, 22, 23, 24] (by decide +kernel) (by decide +kernel)
set_option maxRecDepth 20000 in
theorem gX0_smokeByTicks_X0_shadeAt : GoodIn wsX0_smokeByTicks (wsV RX0 55 RX0 yX0_shadeAt wsX0_shadeAt) := goodIn_app (goodIn_of _ (by decide +kernel)) ggX0_smokeByTicks_X0_shadeAt
set_option maxRecDepth 20000 in
theorem ggX0_smokeByTurns_X0_smokeByTicks : GoodIn wsX0_smokeByTurns wsX0_smokeByTicks := goodIn_r _ [11, 12, 13, 14, 10, 15, 1, 16, 17, 18, 19, 20, 21, 6, 22, 23, 24, 29, 30, 31, 32, 33, 34, 35, 36] (by decide +kernel) (by decide +kernel)
set_option maxRecDepth 20000 in
theorem gX0_smokeByTurns_X0_smokeByTicks : GoodIn wsX0_smokeByTurns (wsV RX0 64 RX0 yX0_smokeByTicks wsX0_smokeByTicks) := goodIn_app (goodIn_of _ (by decide +kernel)) ggX0_smokeByTurns_X0_smokeByTicks
set_option maxRecDepth 20000 in
theorem ggX0_smokeByTurns_X0_turnsIn : GoodIn wsX0_smokeByTurns wsX0_turnsIn := goodIn_r _ [28, 6, 29, 30, 31, 32, 33, 34, 35, 36] (by decide +kernel) (by decide +kernel)
set_option maxRecDepth 20000 in
theorem gX0_smokeByTurns_X0_turnsIn : GoodIn wsX0_smokeByTurns (wsV RX0 67 RX0 yX0_turnsIn wsX0_turnsIn) := goodIn_app (goodIn_of _ (by decide +kernel)) ggX0_smokeByTurns_X0_turnsIn
set_option maxRecDepth 20000 in
theorem ggX0_smokeByTurns_X0_leftOf : GoodIn wsX0_smokeByTurns wsX0_leftOf := goodIn_r _ [21, 6, 29, 30, 31, 32, 33, 34, 35, 36] (by decide +kernel) (by decide +kernel)
set_option maxRecDepth 20000 in
theorem gX0_smokeByTurns_X0_leftOf : GoodIn wsX0_smokeByTurns (wsV RX0 44 RX0 yX0_leftOf wsX0_leftOf) := goodIn_app (goodIn_of _ (by decide +kernel)) ggX0_smokeByTurns_X0_leftOf
set_option maxRecDepth 20000 in
theorem ggX0_noteReading_X1_at : GoodIn wsX0_noteReading wsX1_at := goodIn_r _ [11, 12, 25] (by decide +kernel) (by decide +kernel)
set_option maxRecDepth 20000 in
theorem gX0_noteReading_X1_at : GoodIn wsX0_noteReading (wsV RX0 70 RX1 yX1_at wsX1_at) := goodIn_app (goodIn_of _ (by decide +kernel)) ggX0_noteReading_X1_at
set_option maxRecDepth 20000 in
theorem ggX0_noteReading_X1_note : GoodIn wsX0_noteReading wsX1_note := goodIn_r _ [16, 12, 25] (by decide +kernel) (by decide +kernel)
set_option maxRecDepth 20000 in
theorem gX0_noteReading_X1_note : GoodIn wsX0_noteReading (wsV RX0 73 RX1 yX1_note wsX1_note) := goodIn_app (goodIn_of _ (by decide +kernel)) ggX0_noteReading_X1_note
set_option maxRecDepth 20000 in
theorem ggX1_init_J7_fill_53178 : GoodIn wsX1_init wsJ7_fill_53178 := goodIn_r _ [9] (by decide +kernel) (by decide +kernel)
set_option maxRecDepth 20000 in
theorem gX1_init_J7_fill_53178 : GoodIn wsX1_init (va_wsS RX1 15 yJ7_fill_53178 wsJ7_fill_53178) := goodIn_app (goodIn_of _ (by decide +kernel)) ggX1_init_J7_fill_53178
set_option maxRecDepth 20000 in
theorem ggX1_clear_J7_fill_53178 : GoodIn wsX1_clear wsJ7_fill_53178 := goodIn_r _ [5] (by decide +kernel) (by decide +kernel)
set_option maxRecDepth 20000 in
theorem gX1_clear_J7_fill_53178 : GoodIn wsX1_clear (va_wsS RX1 15 yJ7_fill_53178 wsJ7_fill_53178) := goodIn_app (goodIn_of _ (by decide +kernel)) ggX1_clear_J7_fill_53178
set_option maxRecDepth 20000 in
theorem ggX1_rowUpTo_X1_at : GoodIn wsX1_rowUpTo wsX1_at := goodIn_r _ [5, 6, 7] (by decide +kernel) (by decide +kernel)
set_option maxRecDepth 20000 in
theorem gX1_rowUpTo_X1_at : GoodIn wsX1_rowUpTo (wsV RX1 33 RX1 yX1_at wsX1_at) := goodIn_app (goodIn_of _ (by decide +kernel)) ggX1_rowUpTo_X1_at
set_option maxRecDepth 20000 in
theorem ggX2_init_X6_init : GoodIn wsX2_init wsX6_init := goodIn_r _ [11, 12, 2, 3, 13, 14, 15, 16, 17, 18, 19, 20, 21, 22, 23, 24, 25, 26, 27, 28, 29, 30, 31, 32, 33, 34, 35, 36, 37, 38, 39, 40, 41, 42, 43, 44, 45, 46, 47, 48, 49, 50, 51, 52, 53, 54, 55, 56, 57, 58, 59, 60, 61, 62, 63, 64, 65, 66, 67, 68, 69, 70, 71, 72, 73, 74, 75, 78, 79, 80, 81, 82, 83, 84, 85, 86, 87, 88, 89, 90, 91, 92, 93, 94, 95, 96, 97, 98, 99, 100, 101, 102, 103, 104, 105, 106, 107] (by decide +kernel) (by decide +kernel)
set_option maxRecDepth 20000 in
theorem gX2_init_X6_init : GoodIn wsX2_init (wsX6_init) := ggX2_init_X6_init
set_option maxRecDepth 20000 in
theorem ggX2_record_X2_dropOldest : GoodIn wsX2_record wsX2_dropOldest := goodIn_r _ [7, 2, 1, 72, 73] (by decide +kernel) (by decide +kernel)
set_option maxRecDepth 20000 in
theorem gX2_record_X2_dropOldest : GoodIn wsX2_record (wsV RX2 22 RX2 yX2_dropOldest wsX2_dropOldest) := goodIn_app (goodIn_of _ (by decide +kernel)) ggX2_record_X2_dropOldest
set_option maxRecDepth 20000 in
theorem ggX2_record_X8_isWithin : GoodIn wsX2_record wsX8_isWithin := goodIn_r _ [10] (by decide +kernel) (by decide +kernel)
set_option maxRecDepth 20000 in
theorem gX2_record_X8_isWithin_n25 : GoodIn wsX2_record (wsX8_isWithin) := ggX2_record_X8_isWithin
set_option maxRecDepth 20000 in
theorem ggX2_record_X6_copyFrom : GoodIn wsX2_record wsX6_copyFrom := goodIn_r _ [15, 16, 17, 18, 19, 20, 21, 22, 23, 24, 25, 26, 27, 28, 29, 30, 31, 32, 33, 34, 35, 36, 37, 38, 39, 40, 41, 42, 43, 44, 45, 46, 47, 48, 49, 50, 51, 52, 53, 54, 55, 56, 57, 58, 59, 60, 61, 62, 63, 64, 65, 66, 67, 68, 69, 70, 71, 74, 75, 76, 77, 78, 79, 80, 81, 82, 83, 84, 85, 86, 87, 88, 89, 90, 91, 92, 93, 94, 95, 96, 97, 98, 99, 100, 101, 102, 103] (by decide +kernel) (by decide +kernel)
set_option maxRecDepth 20000 in
theorem gX2_record_X6_copyFrom : GoodIn wsX2_record (wsV RX2 29 RX6 yX6_copyFrom wsX6_copyFrom) := goodIn_app (goodIn_of _ (by decide +kernel)) ggX2_record_X6_copyFrom
set_option maxRecDepth 20000 in
theorem ggX2_giveBack_X8_isWithin : GoodIn wsX2_giveBack wsX8_isWithin := goodIn_r _ [5] (by decide +kernel) (by decide +kernel)
set_option maxRecDepth 20000 in
theorem gX2_giveBack_X8_isWithin_n25 : GoodIn wsX2_giveBack (wsX8_isWithin) := ggX2_giveBack_X8_isWithin
set_option maxRecDepth 20000 in
theorem ggX2_giveBack_X6_copyFrom : GoodIn wsX2_giveBack wsX6_copyFrom := goodIn_r _ [10, 11, 12, 13, 14, 15, 16, 17, 18, 19, 20, 21, 22, 23, 24, 25, 26, 27, 28, 29, 30, 31, 32, 33, 34, 35, 36, 37, 38, 39, 40, 41, 42, 43, 44, 45, 46, 47, 48, 49, 50, 51, 52, 53, 54, 55, 56, 57, 58, 59, 60, 61, 62, 63, 64, 65, 66, 69, 70, 71, 72, 73, 74, 75, 76, 77, 78, 79, 80, 81, 82, 83, 84, 85, 86, 87, 88, 89, 90, 91, 92, 93, 94, 95, 96, 97, 98] (by decide +kernel) (by decide +kernel)
set_option maxRecDepth 20000 in
theorem gX2_giveBack_X6_copyFrom : GoodIn wsX2_giveBack (wsV RX2 29 RX6 yX6_copyFrom wsX6_copyFrom) := goodIn_app (goodIn_of _ (by decide +kernel)) ggX2_giveBack_X6_copyFrom
set_option maxRecDepth 20000 in
theorem ggX4_readingFor_X8_hold : GoodIn wsX4_readingFor wsX8_hold := goodIn_r _ [5] (by decide +kernel) (by decide +kernel)
set_option maxRecDepth 20000 in
theorem gX4_readingFor_X8_hold_n27 : GoodIn wsX4_readingFor (wsX8_hold) := ggX4_readingFor_X8_hold
set_option maxRecDepth 20000 in
theorem ggX5_countOf_X8_isWithin : GoodIn wsX5_countOf wsX8_isWithin := goodIn_r _ [4] (by decide +kernel) (by decide +kernel)
set_option maxRecDepth 20000 in
theorem gX5_countOf_X8_isWithin_n34 : GoodIn wsX5_countOf (wsX8_isWithin) := ggX5_countOf_X8_isWithin
set_option maxRecDepth 20000 in
theorem ggX5_append_X8_isWithin : GoodIn wsX5_append wsX8_isWithin := goodIn_r _ [6] (by decide +kernel) (by decide +kernel)
set_option maxRecDepth 20000 in
theorem gX5_append_X8_isWithin_n34 : GoodIn wsX5_append (wsX8_isWithin) := ggX5_append_X8_isWithin
set_option maxRecDepth 20000 in
theorem ggX5_findFault_X5_goToStart : GoodIn wsX5_findFault wsX5_goToStart := goodIn_r _ [7, 1, 51, 52, 53, 54, 55, 56] (by decide +kernel) (by decide +kernel)
set_option maxRecDepth 20000 in
theorem gX5_findFault_X5_goToStart : GoodIn wsX5_findFault (wsV RX5 38 RX5 yX5_goToStart wsX5_goToStart) := goodIn_app (goodIn_of _ (by decide +kernel)) ggX5_findFault_X5_goToStart
set_option maxRecDepth 20000 in
theorem ggX5_findFault_X5_takePart : GoodIn wsX5_findFault wsX5_takePart := goodIn_r _ [11, 12, 13, 14, 15, 6, 16, 1, 2, 17, 18, 19, 20, 21, 22, 23, 24, 25, 26, 27, 28, 29, 30, 31, 32, 33, 34, 35, 36, 37, 38, 39, 40, 41, 42, 43, 44, 45, 46, 47, 48, 49, 50, 51, 52, 53, 54, 55, 56] (by decide +kernel) (by decide +kernel)
set_option maxRecDepth 20000 in
theorem gX5_findFault_X5_takePart : GoodIn wsX5_findFault (wsV RX5 41 RX5 yX5_takePart wsX5_takePart) := goodIn_app (goodIn_of _ (by decide +kernel)) ggX5_findFault_X5_takePart
set_option maxRecDepth 20000 in
theorem ggX5_findFault_X5_takeSign : GoodIn wsX5_findFault wsX5_takeSign := goodIn_r _ [21, 1, 2, 13, 14, 15, 6, 16, 17, 51, 52, 53, 54, 55, 56] (by decide +kernel) (by decide +kernel)
set_option maxRecDepth 20000 in
theorem gX5_findFault_X5_takeSign : GoodIn wsX5_findFault (wsV RX5 45 RX5 yX5_takeSign wsX5_takeSign) := goodIn_app (goodIn_of _ (by decide +kernel)) ggX5_findFault_X5_takeSign
set_option maxRecDepth 20000 in
theorem ggX5_takePart_X5_sign : GoodIn wsX5_takePart wsX5_sign := goodIn_r _ [6, 7, 8, 9, 43, 44, 45, 46, 47, 48] (by decide +kernel) (by decide +kernel)
set_option maxRecDepth 20000 in
theorem gX5_takePart_X5_sign : GoodIn wsX5_takePart (wsV RX5 49 RX5 yX5_sign wsX5_sign) := goodIn_app (goodIn_of _ (by decide +kernel)) ggX5_takePart_X5_sign
set_option maxRecDepth 20000 in
theorem ggX5_takePart_X5_takeSign : GoodIn wsX5_takePart wsX5_takeSign := goodIn_r _ [13, 7, 8, 2, 3, 4, 5, 6, 9, 43, 44, 45, 46, 47, 48] (by decide +kernel) (by decide +kernel)
set_option maxRecDepth 20000 in
theorem gX5_takePart_X5_takeSign : GoodIn wsX5_takePart (wsV RX5 45 RX5 yX5_takeSign wsX5_takeSign) := goodIn_app (goodIn_of _ (by decide +kernel)) ggX5_takePart_X5_takeSign
set_option maxRecDepth 20000 in
theorem ggX5_takePart_X5_takeFirst : GoodIn wsX5_takePart wsX5_takeFirst := goodIn_r _ [17, 18, 19, 20, 21, 5, 22, 2, 3, 4, 6, 7, 8, 9, 23, 24, 25, 26, 27, 28, 29, 43, 44, 45, 46, 47, 48] (by decide +kernel) (by decide +kernel)
set_option maxRecDepth 20000 in
theorem gX5_takePart_X5_takeFirst : GoodIn wsX5_takePart (wsV RX5 53 RX5 yX5_takeFirst wsX5_takeFirst) := goodIn_app (goodIn_of _ (by decide +kernel)) ggX5_takePart_X5_takeFirst
set_option maxRecDepth 20000 in
theorem ggX5_takePart_X5_takeSecond : GoodIn wsX5_takePart wsX5_takeSecond := goodIn_r _ [33, 34, 19, 20, 21, 5, 22, 2, 3, 4, 6, 7, 8, 9, 23, 24, 25, 26, 27, 28, 29, 43, 44, 45, 46, 47, 48] (by decide +kernel) (by decide +kernel)
set_option maxRecDepth 20000 in
theorem gX5_takePart_X5_takeSecond : GoodIn wsX5_takePart (wsV RX5 57 RX5 yX5_takeSecond wsX5_takeSecond) := goodIn_app (goodIn_of _ (by decide +kernel)) ggX5_takePart_X5_takeSecond
set_option maxRecDepth 20000 in
theorem ggX5_takePart_X5_takeNumber : GoodIn wsX5_takePart wsX5_takeNumber := goodIn_r _ [38, 18, 7, 14, 15, 16, 5, 17, 19, 20, 21, 22, 2, 3, 4, 6, 8, 9, 23, 24, 25, 26, 27, 28, 29, 43, 44, 45, 46, 47, 48] (by decide +kernel) (by decide +kernel)
set_option maxRecDepth 20000 in
theorem gX5_takePart_X5_takeNumber : GoodIn wsX5_takePart (wsV RX5 60 RX5 yX5_takeNumber wsX5_takeNumber) := goodIn_app (goodIn_of _ (by decide +kernel)) ggX5_takePart_X5_takeNumber
set_option maxRecDepth 20000 in
theorem ggX5_takePart_X5_takeTicks : GoodIn wsX5_takePart wsX5_takeTicks := goodIn_r _ [42, 18, 7, 19, 20, 21, 5, 22, 2, 3, 4, 6, 8, 9, 43, 44, 45, 46, 47, 48] (by decide +kernel) (by decide +kernel)
set_option maxRecDepth 20000 in
theorem gX5_takePart_X5_takeTicks : GoodIn wsX5_takePart (wsV RX5 63 RX5 yX5_takeTicks wsX5_takeTicks) := goodIn_app (goodIn_of _ (by decide +kernel)) ggX5_takePart_X5_takeTicks
set_option maxRecDepth 20000 in
theorem ggX5_takeSign_X5_sign : GoodIn wsX5_takeSign wsX5_sign := goodIn_r _ [7, 1, 2, 8, 9, 10, 11, 12, 13, 14] (by decide +kernel) (by decide +kernel)
set_option maxRecDepth 20000 in
theorem gX5_takeSign_X5_sign : GoodIn wsX5_takeSign (wsV RX5 49 RX5 yX5_sign wsX5_sign) := goodIn_app (goodIn_of _ (by decide +kernel)) ggX5_takeSign_X5_sign
set_option maxRecDepth 20000 in
theorem ggX5_digit_X5_sign : GoodIn wsX5_digit wsX5_sign := goodIn_r _ [5, 6, 7, 8, 9, 10, 11, 12, 13, 14] (by decide +kernel) (by decide +kernel)
set_option maxRecDepth 20000 in
theorem gX5_digit_X5_sign : GoodIn wsX5_digit (wsV RX5 49 RX5 yX5_sign wsX5_sign) := goodIn_app (goodIn_of _ (by decide +kernel)) ggX5_digit_X5_sign
set_option maxRecDepth 20000 in
theorem ggX5_takeFirst_X5_digit : GoodIn wsX5_takeFirst wsX5_digit := goodIn_r _ [6, 7, 8, 9, 5, 10, 11, 12, 13, 21, 22, 23, 24, 25, 26] (by decide +kernel) (by decide +kernel)
set_option maxRecDepth 20000 in
theorem gX5_takeFirst_X5_digit : GoodIn wsX5_takeFirst (wsV RX5 66 RX5 yX5_digit wsX5_digit) := goodIn_app (goodIn_of _ (by decide +kernel)) ggX5_takeFirst_X5_digit
set_option maxRecDepth 20000 in
theorem ggX5_takeFirst_X5_takeDigit : GoodIn wsX5_takeFirst wsX5_takeDigit := goodIn_r _ [17, 11, 18, 19, 20, 21, 22, 23, 24, 25, 26] (by decide +kernel) (by decide +kernel)
set_option maxRecDepth 20000 in
theorem gX5_takeFirst_X5_takeDigit : GoodIn wsX5_takeFirst (wsV RX5 70 RX5 yX5_takeDigit wsX5_takeDigit) := goodIn_app (goodIn_of _ (by decide +kernel)) ggX5_takeFirst_X5_takeDigit
set_option maxRecDepth 20000 in
theorem ggX5_takeSecond_X5_digit : GoodIn wsX5_takeSecond wsX5_digit := goodIn_r _ [6, 7, 8, 9, 5, 10, 11, 12, 13, 21, 22, 23, 24, 25, 26] (by decide +kernel) (by decide +kernel)
set_option maxRecDepth 20000 in
theorem gX5_takeSecond_X5_digit : GoodIn wsX5_takeSecond (wsV RX5 66 RX5 yX5_digit wsX5_digit) := goodIn_app (goodIn_of _ (by decide +kernel)) ggX5_takeSecond_X5_digit
set_option maxRecDepth 20000 in
theorem ggX5_takeSecond_X5_takeDigit : GoodIn wsX5_takeSecond wsX5_takeDigit := goodIn_r _ [17, 11, 18, 19, 20, 21, 22, 23, 24, 25, 26] (by decide +kernel) (by decide +kernel)
set_option maxRecDepth 20000 in
theorem gX5_takeSecond_X5_takeDigit : GoodIn wsX5_takeSecond (wsV RX5 70 RX5 yX5_takeDigit wsX5_takeDigit) := goodIn_app (goodIn_of _ (by decide +kernel)) ggX5_takeSecond_X5_takeDigit
set_option maxRecDepth 20000 in
theorem ggX5_takeDigit_X8_isWithin : GoodIn wsX5_takeDigit wsX8_isWithin := goodIn_r _ [4] (by decide +kernel) (by decide +kernel)
set_option maxRecDepth 20000 in
theorem gX5_takeDigit_X8_isWithin_n34 : GoodIn wsX5_takeDigit (wsX8_isWithin) := ggX5_takeDigit_X8_isWithin
set_option maxRecDepth 20000 in
theorem ggX5_takeNumber_X5_takeFirst : GoodIn wsX5_takeNumber wsX5_takeFirst := goodIn_r _ [7, 1, 8, 9, 10, 6, 11, 12, 13, 14, 15, 2, 16, 17, 18, 19, 20, 21, 22, 23, 24, 25, 26, 27, 28, 29, 30] (by decide +kernel) (by decide +kernel)
set_option maxRecDepth 20000 in
theorem gX5_takeNumber_X5_takeFirst : GoodIn wsX5_takeNumber (wsV RX5 53 RX5 yX5_takeFirst wsX5_takeFirst) := goodIn_app (goodIn_of _ (by decide +kernel)) ggX5_takeNumber_X5_takeFirst
set_option maxRecDepth 20000 in
theorem ggX5_takeNumber_X5_digit : GoodIn wsX5_takeNumber wsX5_digit := goodIn_r _ [11, 12, 13, 14, 6, 15, 2, 16, 17, 25, 26, 27, 28, 29, 30] (by decide +kernel) (by decide +kernel)
set_option maxRecDepth 20000 in
theorem gX5_takeNumber_X5_digit : GoodIn wsX5_takeNumber (wsV RX5 66 RX5 yX5_digit wsX5_digit) := goodIn_app (goodIn_of _ (by decide +kernel)) ggX5_takeNumber_X5_digit
set_option maxRecDepth 20000 in
theorem ggX5_takeTicks_X5_digit : GoodIn wsX5_takeTicks wsX5_digit := goodIn_r _ [7, 8, 9, 10, 6, 11, 2, 12, 13, 14, 15, 16, 17, 18, 19] (by decide +kernel) (by decide +kernel)
set_option maxRecDepth 20000 in
theorem gX5_takeTicks_X5_digit : GoodIn wsX5_takeTicks (wsV RX5 66 RX5 yX5_digit wsX5_digit) := goodIn_app (goodIn_of _ (by decide +kernel)) ggX5_takeTicks_X5_digit
set_option maxRecDepth 20000 in
theorem ggX6_init_X1_init : GoodIn wsX6_init wsX1_init := goodIn_r _ [29, 30, 2, 3, 10, 31, 32, 33, 34, 35, 77] (by decide +kernel) (by decide +kernel)
set_option maxRecDepth 20000 in
theorem gX6_init_X1_init : GoodIn wsX6_init (wsX1_init) := ggX6_init_X1_init
set_option maxRecDepth 20000 in
theorem ggX6_init_X0_init : GoodIn wsX6_init wsX0_init := goodIn_r _ [38, 39, 2, 3, 40, 41, 42, 43, 44, 45, 13, 14, 46, 47, 48, 49, 28, 29, 30, 10, 31, 32, 33, 34, 35, 78, 79, 80, 81, 82, 83, 84, 85, 77] (by decide +kernel) (by decide +kernel)
set_option maxRecDepth 20000 in
theorem gX6_init_X0_init : GoodIn wsX6_init (wsX0_init) := ggX6_init_X0_init
set_option maxRecDepth 20000 in
theorem ggX6_init_X4_init : GoodIn wsX6_init wsX4_init := goodIn_r _ [51, 52, 2, 3, 53, 54, 55, 56, 57, 86, 87, 88, 89, 90] (by decide +kernel) (by decide +kernel)
set_option maxRecDepth 20000 in
theorem gX6_init_X4_init_n59 : GoodIn wsX6_init (wsX4_init) := ggX6_init_X4_init
set_option maxRecDepth 20000 in
theorem ggX6_init_X3_init : GoodIn wsX6_init wsX3_init := goodIn_r _ [59, 60, 2, 3, 61, 62, 63, 64, 65, 66, 91, 92, 93, 94, 95, 96] (by decide +kernel) (by decide +kernel)
set_option maxRecDepth 20000 in
theorem gX6_init_X3_init_n60 : GoodIn wsX6_init (wsX3_init) := ggX6_init_X3_init
set_option maxRecDepth 20000 in
theorem ggX6_copyFrom_X0_copyFrom : GoodIn wsX6_copyFrom wsX0_copyFrom := goodIn_r _ [19, 20, 21, 22, 23, 24, 25, 26, 27, 28, 29, 30, 31, 32, 33, 34, 6, 7, 8, 67, 68, 69, 70, 71, 72, 73, 74, 75] (by decide +kernel) (by decide +kernel)
set_option maxRecDepth 20000 in
theorem gX6_copyFrom_X0_copyFrom : GoodIn wsX6_copyFrom (wsV RX6 61 RX0 yX0_copyFrom wsX0_copyFrom) := goodIn_app (goodIn_of _ (by decide +kernel)) ggX6_copyFrom_X0_copyFrom
set_option maxRecDepth 20000 in
theorem ggX6_copyFrom_X4_copyFrom : GoodIn wsX6_copyFrom wsX4_copyFrom := goodIn_r _ [39, 40, 41, 42, 43, 44, 76, 77, 78, 79, 80] (by decide +kernel) (by decide +kernel)
set_option maxRecDepth 20000 in
theorem gX6_copyFrom_X4_copyFrom : GoodIn wsX6_copyFrom (wsV RX6 65 RX4 yX4_copyFrom wsX4_copyFrom) := goodIn_app (goodIn_of _ (by decide +kernel)) ggX6_copyFrom_X4_copyFrom
set_option maxRecDepth 20000 in
theorem ggX6_copyFrom_X3_copyFrom : GoodIn wsX6_copyFrom wsX3_copyFrom := goodIn_r _ [49, 50, 51, 52, 53, 54, 55, 81, 82, 83, 84, 85, 86] (by decide +kernel) (by decide +kernel)
set_option maxRecDepth 20000 in
theorem gX6_copyFrom_X3_copyFrom : GoodIn wsX6_copyFrom (wsV RX6 68 RX3 yX3_copyFrom wsX3_copyFrom) := goodIn_app (goodIn_of _ (by decide +kernel)) ggX6_copyFrom_X3_copyFrom
set_option maxRecDepth 20000 in
theorem ggX6_copyFrom_X1_copyFrom : GoodIn wsX6_copyFrom wsX1_copyFrom := goodIn_r _ [32, 33, 34, 6, 7, 8, 75] (by decide +kernel) (by decide +kernel)
set_option maxRecDepth 20000 in
theorem gX6_copyFrom_X1_copyFrom : GoodIn wsX6_copyFrom (wsV RX6 77 RX1 yX1_copyFrom wsX1_copyFrom) := goodIn_app (goodIn_of _ (by decide +kernel)) ggX6_copyFrom_X1_copyFrom
set_option maxRecDepth 20000 in
theorem ggX6_greyAtTick_X6_greyInHour : GoodIn wsX6_greyAtTick wsX6_greyInHour := goodIn_r _ [5, 6, 7, 8, 9, 10, 11, 12, 13, 14, 15, 16] (by decide +kernel) (by decide +kernel)
set_option maxRecDepth 20000 in
theorem gX6_greyAtTick_X6_greyInHour : GoodIn wsX6_greyAtTick (wsV RX6 80 RX6 yX6_greyInHour wsX6_greyInHour) := goodIn_app (goodIn_of _ (by decide +kernel)) ggX6_greyAtTick_X6_greyInHour
set_option maxRecDepth 20000 in
theorem ggX6_passTicks_X6_passTick : GoodIn wsX6_passTicks wsX6_passTick := goodIn_r _ [6, 7, 8, 9, 10, 5, 11, 12, 13, 14, 15, 16, 17, 18, 19, 20, 21, 22, 23, 24, 25, 26, 27, 28, 29, 30, 31, 32, 33, 34, 35, 36, 37, 38, 39, 40, 41, 42, 43, 44, 45, 46, 47, 48, 49, 50, 51, 52, 53, 54, 55, 56, 57, 58, 59, 60, 61, 62, 63, 64, 65, 66, 67, 68, 69, 70, 71, 72, 73, 74, 75, 76, 77, 78, 79, 80, 81, 82, 83, 84, 85, 86, 87, 88, 89, 90, 91, 1, 92, 93, 94, 95, 96, 97, 98, 99, 100, 101, 102, 103, 104, 105, 106, 107, 108, 109, 110, 111, 112, 113, 114, 115, 116, 117, 118, 119, 120, 121, 122, 123, 124, 125, 126, 127, 128, 129, 130, 131, 132, 133, 134, 135, 136, 137, 138, 139, 140, 141, 142, 143, 144, 145, 146, 147, 148, 149, 150, 151, 152, 153, 154, 155, 156, 157] (by decide +kernel) (by decide +kernel)
set_option maxRecDepth 20000 in
theorem gX6_passTicks_X6_passTick : GoodIn wsX6_passTicks (wsV RX6 84 RX6 yX6_passTick wsX6_passTick) := goodIn_app (goodIn_of _ (by decide +kernel)) ggX6_passTicks_X6_passTick
set_option maxRecDepth 20000 in
theorem ggX6_getsNoticeIn_X6_passTick : GoodIn wsX6_getsNoticeIn wsX6_passTick := goodIn_r _ [6, 7, 8, 9, 10, 5, 11, 12, 13, 14, 15, 16, 17, 18, 19, 20, 21, 22, 23, 24, 25, 26, 27, 28, 29, 30, 31, 32, 33, 34, 35, 36, 37, 38, 39, 40, 41, 42, 43, 44, 45, 46, 47, 48, 49, 50, 51, 52, 53, 54, 55, 56, 57, 58, 59, 60, 61, 62, 63, 64, 65, 66, 67, 68, 69, 70, 71, 72, 73, 74, 75, 76, 77, 78, 79, 80, 81, 82, 83, 84, 85, 86, 87, 88, 89, 90, 91, 1, 92, 93, 94, 95, 96, 97, 98, 99, 100, 101, 102, 103, 104, 105, 106, 107, 108, 109, 110, 111, 112, 113, 114, 115, 116, 117, 118, 119, 120, 121, 122, 123, 124, 125, 126, 127, 128, 129, 130, 131, 132, 133, 134, 135, 136, 137, 138, 139, 140, 141, 142, 143, 144, 145, 146, 147, 148, 149, 150, 151, 152, 153, 154, 155, 156, 157] (by decide +kernel) (by decide +kernel)
set_option maxRecDepth 20000 in
theorem gX6_getsNoticeIn_X6_passTick : GoodIn wsX6_getsNoticeIn (wsV RX6 84 RX6 yX6_passTick wsX6_passTick) := goodIn_app (goodIn_of _ (by decide +kernel)) ggX6_getsNoticeIn_X6_passTick
set_option maxRecDepth 20000 in
theorem ggX6_passTick_X6_takeReadings : GoodIn wsX6_passTick wsX6_takeReadings := goodIn_r _ [6, 7, 8, 1, 9, 10, 11, 12, 13, 5, 14, 15, 16, 17, 18, 19, 20, 21, 22, 23, 24, 25, 26, 27, 28, 29, 30, 31, 32, 33, 34, 35, 36, 37, 38, 39, 40, 41, 42, 43, 44, 45, 46, 47, 48, 49, 50, 51, 52, 53, 54, 55, 56, 57, 58, 59, 60, 61, 62, 63, 64, 65, 66, 67, 68, 69, 70, 71, 72, 73, 74, 124, 125, 126, 127, 128, 129, 130, 131, 132, 133, 134, 135, 136, 137, 138, 139, 140, 141, 142, 143, 144, 145, 146, 147] (by decide +kernel) (by decide +kernel)
set_option maxRecDepth 20000 in
theorem gX6_passTick_X6_takeReadings : GoodIn wsX6_passTick (wsV RX6 87 RX6 yX6_takeReadings wsX6_takeReadings) := goodIn_app (goodIn_of _ (by decide +kernel)) ggX6_passTick_X6_takeReadings
set_option maxRecDepth 20000 in
theorem ggX6_passTick_X4_tire : GoodIn wsX6_passTick wsX4_tire := goodIn_r _ [78, 79, 49, 134, 135, 136, 137, 138] (by decide +kernel) (by decide +kernel)
set_option maxRecDepth 20000 in
theorem gX6_passTick_X4_tire : GoodIn wsX6_passTick (wsV RX6 90 RX4 yX4_tire wsX4_tire) := goodIn_app (goodIn_of _ (by decide +kernel)) ggX6_passTick_X4_tire
set_option maxRecDepth 20000 in
theorem ggX6_passTick_X6_giveNotices : GoodIn wsX6_passTick wsX6_giveNotices := goodIn_r _ [83, 10, 84, 7, 85, 86, 87, 88, 89, 90, 91, 23, 92, 93, 62, 63, 64, 25, 26, 27, 28, 94, 95, 96, 5, 97, 98, 99, 100, 101, 8, 102, 103, 104, 105, 106, 107, 108, 109, 110, 124, 125, 126, 127, 128, 129, 130, 131, 132, 133, 140, 141, 142, 143, 144, 145, 146, 147, 139, 148, 149, 150, 151, 152, 153] (by decide +kernel) (by decide +kernel)
set_option maxRecDepth 20000 in
theorem gX6_passTick_X6_giveNotices : GoodIn wsX6_passTick (wsV RX6 93 RX6 yX6_giveNotices wsX6_giveNotices) := goodIn_app (goodIn_of _ (by decide +kernel)) ggX6_passTick_X6_giveNotices
set_option maxRecDepth 20000 in
theorem ggX6_passTick_X6_goOn : GoodIn wsX6_passTick wsX6_goOn := goodIn_r _ [114, 7, 115, 10, 84, 116, 117, 118, 23, 119, 25, 120, 121, 122, 123, 124, 125, 126, 127, 128, 129, 130, 131, 132, 133, 140, 141, 142, 143, 144, 145, 146, 147, 139] (by decide +kernel) (by decide +kernel)
set_option maxRecDepth 20000 in
theorem gX6_passTick_X6_goOn : GoodIn wsX6_passTick (wsV RX6 96 RX6 yX6_goOn wsX6_goOn) := goodIn_app (goodIn_of _ (by decide +kernel)) ggX6_passTick_X6_goOn
set_option maxRecDepth 20000 in
theorem ggX6_takeReadings_X6_greyAtTick : GoodIn wsX6_takeReadings wsX6_greyAtTick := goodIn_r _ [10, 11, 12, 13, 9, 14, 15, 71, 72, 73, 74, 75, 76, 77, 78, 79, 80] (by decide +kernel) (by decide +kernel)
set_option maxRecDepth 20000 in
theorem gX6_takeReadings_X6_greyAtTick : GoodIn wsX6_takeReadings (wsV RX6 99 RX6 yX6_greyAtTick wsX6_greyAtTick) := goodIn_app (goodIn_of _ (by decide +kernel)) ggX6_takeReadings_X6_greyAtTick
set_option maxRecDepth 20000 in
theorem ggX6_takeReadings_X1_note : GoodIn wsX6_takeReadings wsX1_note := goodIn_r _ [20, 21, 86] (by decide +kernel) (by decide +kernel)
set_option maxRecDepth 20000 in
theorem gX6_takeReadings_X1_note : GoodIn wsX6_takeReadings (wsV RX6 102 RX1 yX1_note wsX1_note) := goodIn_app (goodIn_of _ (by decide +kernel)) ggX6_takeReadings_X1_note
set_option maxRecDepth 20000 in
theorem ggX6_takeReadings_X8_isWithin : GoodIn wsX6_takeReadings wsX8_isWithin := goodIn_r _ [24] (by decide +kernel) (by decide +kernel)
set_option maxRecDepth 20000 in
theorem gX6_takeReadings_X8_isWithin_n109 : GoodIn wsX6_takeReadings (wsX8_isWithin) := ggX6_takeReadings_X8_isWithin
set_option maxRecDepth 20000 in
theorem ggX6_takeReadings_X0_shadeAt : GoodIn wsX6_takeReadings wsX0_shadeAt := goodIn_r _ [29, 30, 31, 32, 33, 34, 35, 28, 36, 37, 38, 23, 39, 87, 88, 89, 90, 91, 92, 93, 94] (by decide +kernel) (by decide +kernel)
set_option maxRecDepth 20000 in
theorem gX6_takeReadings_X0_shadeAt : GoodIn wsX6_takeReadings (wsV RX6 113 RX0 yX0_shadeAt wsX0_shadeAt) := goodIn_app (goodIn_of _ (by decide +kernel)) ggX6_takeReadings_X0_shadeAt
set_option maxRecDepth 20000 in
theorem ggX6_takeReadings_X4_readingFor : GoodIn wsX6_takeReadings wsX4_readingFor := goodIn_r _ [44, 45, 46, 38, 23, 39, 81, 82, 83, 84, 85] (by decide +kernel) (by decide +kernel)
set_option maxRecDepth 20000 in
theorem gX6_takeReadings_X4_readingFor : GoodIn wsX6_takeReadings (wsV RX6 116 RX4 yX4_readingFor wsX4_readingFor) := goodIn_app (goodIn_of _ (by decide +kernel)) ggX6_takeReadings_X4_readingFor
set_option maxRecDepth 20000 in
theorem ggX6_takeReadings_X0_noteReading : GoodIn wsX6_takeReadings wsX0_noteReading := goodIn_r _ [50, 51, 52, 53, 54, 55, 56, 57, 58, 59, 19, 60, 21, 61, 17, 18, 20, 87, 88, 89, 90, 91, 92, 93, 94, 86] (by decide +kernel) (by decide +kernel)
set_option maxRecDepth 20000 in
theorem gX6_takeReadings_X0_noteReading : GoodIn wsX6_takeReadings (wsV RX6 120 RX0 yX0_noteReading wsX0_noteReading) := goodIn_app (goodIn_of _ (by decide +kernel)) ggX6_takeReadings_X0_noteReading
set_option maxRecDepth 20000 in
theorem ggX6_takeReadings_X4_countReading : GoodIn wsX6_takeReadings wsX4_countReading := goodIn_r _ [65, 66, 67, 68, 54, 69, 70, 81, 82, 83, 84, 85] (by decide +kernel) (by decide +kernel)
set_option maxRecDepth 20000 in
theorem gX6_takeReadings_X4_countReading : GoodIn wsX6_takeReadings (wsV RX6 124 RX4 yX4_countReading wsX4_countReading) := goodIn_app (goodIn_of _ (by decide +kernel)) ggX6_takeReadings_X4_countReading
set_option maxRecDepth 20000 in
theorem ggX6_giveNotices_X1_rowUpTo : GoodIn wsX6_giveNotices wsX1_rowUpTo := goodIn_r _ [12, 13, 14, 15, 11, 16, 17, 58] (by decide +kernel) (by decide +kernel)
set_option maxRecDepth 20000 in
theorem gX6_giveNotices_X1_rowUpTo : GoodIn wsX6_giveNotices (wsV RX6 130 RX1 yX1_rowUpTo wsX1_rowUpTo) := goodIn_app (goodIn_of _ (by decide +kernel)) ggX6_giveNotices_X1_rowUpTo
set_option maxRecDepth 20000 in
theorem ggX6_giveNotices_X8_isWithin : GoodIn wsX6_giveNotices wsX8_isWithin := goodIn_r _ [20] (by decide +kernel) (by decide +kernel)
set_option maxRecDepth 20000 in
theorem gX6_giveNotices_X8_isWithin_n109 : GoodIn wsX6_giveNotices (wsX8_isWithin) := ggX6_giveNotices_X8_isWithin
set_option maxRecDepth 20000 in
theorem ggX6_giveNotices_X6_fill : GoodIn wsX6_giveNotices wsX6_fill := goodIn_r _ [25, 26, 27, 28, 29, 5, 30, 3, 31, 4, 32, 33, 34, 35, 36, 37, 24, 38, 6, 7, 39, 14, 15, 11, 16, 17, 59, 60, 61, 62, 63, 64, 40, 41, 42, 43, 44, 45, 46, 47, 48, 49, 50, 51, 52, 53, 54, 55, 56, 57, 58] (by decide +kernel) (by decide +kernel)
set_option maxRecDepth 20000 in
theorem gX6_giveNotices_X6_fill : GoodIn wsX6_giveNotices (wsV RX6 134 RX6 yX6_fill wsX6_fill) := goodIn_app (goodIn_of _ (by decide +kernel)) ggX6_giveNotices_X6_fill
set_option maxRecDepth 20000 in
theorem ggX6_fill_X6_standingOf : GoodIn wsX6_fill wsX6_standingOf := goodIn_r _ [17, 18, 19, 11, 1, 32, 33, 34, 35, 36, 37, 38, 39, 40, 41, 26, 27, 28, 29, 30, 31] (by decide +kernel) (by decide +kernel)
set_option maxRecDepth 20000 in
theorem gX6_fill_X6_standingOf : GoodIn wsX6_fill (wsV RX6 141 RX6 yX6_standingOf wsX6_standingOf) := goodIn_app (goodIn_of _ (by decide +kernel)) ggX6_fill_X6_standingOf
set_option maxRecDepth 20000 in
theorem ggX6_fill_X1_at : GoodIn wsX6_fill wsX1_at := goodIn_r _ [24, 25, 50] (by decide +kernel) (by decide +kernel)
set_option maxRecDepth 20000 in
theorem gX6_fill_X1_at : GoodIn wsX6_fill (wsV RX6 154 RX1 yX1_at wsX1_at) := goodIn_app (goodIn_of _ (by decide +kernel)) ggX6_fill_X1_at
set_option maxRecDepth 20000 in
theorem ggX6_goOn_X1_clear : GoodIn wsX6_goOn wsX1_clear := goodIn_r _ [9, 10, 11, 12, 13, 14, 33] (by decide +kernel) (by decide +kernel)
set_option maxRecDepth 20000 in
theorem gX6_goOn_X1_clear : GoodIn wsX6_goOn (wsV RX6 169 RX1 yX1_clear wsX1_clear) := goodIn_app (goodIn_of _ (by decide +kernel)) ggX6_goOn_X1_clear
set_option maxRecDepth 20000 in
theorem ggX6_decide_X8_isWithin : GoodIn wsX6_decide wsX8_isWithin := goodIn_r _ [11] (by decide +kernel) (by decide +kernel)
set_option maxRecDepth 20000 in
theorem gX6_decide_X8_isWithin_n109 : GoodIn wsX6_decide (wsX8_isWithin) := ggX6_decide_X8_isWithin
set_option maxRecDepth 20000 in
theorem ggX6_mostFined_X6_finesByNotices : GoodIn wsX6_mostFined wsX6_finesByNotices := goodIn_r _ [5, 6, 7, 8, 9, 10, 11, 12, 13, 14, 15, 16, 17, 18, 19, 20, 21, 22, 23, 24, 25, 26] (by decide +kernel) (by decide +kernel)
set_option maxRecDepth 20000 in
theorem gX6_mostFined_X6_finesByNotices : GoodIn wsX6_mostFined (wsV RX6 175 RX6 yX6_finesByNotices wsX6_finesByNotices) := goodIn_app (goodIn_of _ (by decide +kernel)) ggX6_mostFined_X6_finesByNotices
set_option maxRecDepth 20000 in
theorem ggX6_leastErring_X4_errsLessThan : GoodIn wsX6_leastErring wsX4_errsLessThan := goodIn_r _ [7, 8, 9, 20, 21, 22, 23, 24] (by decide +kernel) (by decide +kernel)
set_option maxRecDepth 20000 in
theorem gX6_leastErring_X4_errsLessThan : GoodIn wsX6_leastErring (wsV RX6 178 RX4 yX4_errsLessThan wsX4_errsLessThan) := goodIn_app (goodIn_of _ (by decide +kernel)) ggX6_leastErring_X4_errsLessThan
set_option maxRecDepth 20000 in
theorem ggX7_init_X6_init : GoodIn wsX7_init wsX6_init := goodIn_r _ [11, 12, 2, 3, 13, 14, 15, 16, 17, 18, 19, 20, 21, 22, 23, 24, 25, 26, 27, 28, 29, 30, 31, 32, 33, 34, 35, 36, 37, 38, 39, 40, 41, 42, 43, 44, 45, 46, 47, 48, 49, 50, 51, 52, 53, 54, 55, 56, 57, 58, 59, 60, 61, 62, 63, 64, 65, 66, 67, 68, 69, 70, 71, 72, 73, 74, 75, 76, 77, 78, 79, 80, 81, 82, 83, 84, 85, 88, 89, 90, 91, 92, 93, 94, 95, 96, 97, 98, 99, 100, 101, 102, 103, 104, 105, 106, 107] (by decide +kernel) (by decide +kernel)
set_option maxRecDepth 20000 in
theorem gX7_init_X6_init : GoodIn wsX7_init (wsX6_init) := ggX7_init_X6_init
set_option maxRecDepth 20000 in
theorem ggX8_isTick_X8_isWithin : GoodIn wsX8_isTick wsX8_isWithin := goodIn_r _ [4] (by decide +kernel) (by decide +kernel)
set_option maxRecDepth 20000 in
theorem gX8_isTick_X8_isWithin : GoodIn wsX8_isTick (va_wsS RX8 48 yX8_isWithin wsX8_isWithin) := goodIn_app (goodIn_of _ (by decide +kernel)) ggX8_isTick_X8_isWithin
set_option maxRecDepth 20000 in
theorem ggX8_chimneyOn_X8_isWithin : GoodIn wsX8_chimneyOn wsX8_isWithin := goodIn_r _ [7] (by decide +kernel) (by decide +kernel)
set_option maxRecDepth 20000 in
theorem gX8_chimneyOn_X8_isWithin : GoodIn wsX8_chimneyOn (va_wsS RX8 48 yX8_isWithin wsX8_isWithin) := goodIn_app (goodIn_of _ (by decide +kernel)) ggX8_chimneyOn_X8_isWithin
set_option maxRecDepth 20000 in
theorem ggX8_observerNow_X8_isWithin : GoodIn wsX8_observerNow wsX8_isWithin := goodIn_r _ [8] (by decide +kernel) (by decide +kernel)
set_option maxRecDepth 20000 in
theorem gX8_observerNow_X8_isWithin : GoodIn wsX8_observerNow (va_wsS RX8 48 yX8_isWithin wsX8_isWithin) := goodIn_app (goodIn_of _ (by decide +kernel)) ggX8_observerNow_X8_isWithin
set_option maxRecDepth 20000 in
theorem ggX8_noticeNow_X6_hasNotice : GoodIn wsX8_noticeNow wsX6_hasNotice := goodIn_r _ [9, 10, 17, 18, 19, 20, 21, 22, 23, 24, 25, 26] (by decide +kernel) (by decide +kernel)
set_option maxRecDepth 20000 in
theorem gX8_noticeNow_X6_hasNotice : GoodIn wsX8_noticeNow (wsV RX8 319 RX6 yX6_hasNotice wsX6_hasNotice) := goodIn_app (goodIn_of _ (by decide +kernel)) ggX8_noticeNow_X6_hasNotice
set_option maxRecDepth 20000 in
theorem ggX8_slotNumbered_X8_isWithin : GoodIn wsX8_slotNumbered wsX8_isWithin := goodIn_r _ [7] (by decide +kernel) (by decide +kernel)
set_option maxRecDepth 20000 in
theorem gX8_slotNumbered_X8_isWithin : GoodIn wsX8_slotNumbered (va_wsS RX8 48 yX8_isWithin wsX8_isWithin) := goodIn_app (goodIn_of _ (by decide +kernel)) ggX8_slotNumbered_X8_isWithin
set_option maxRecDepth 20000 in
theorem ggX8_carryOut_X8_observerNow : GoodIn wsX8_carryOut wsX8_observerNow := goodIn_ca (goodIn_r _ [9, 10, 11, 2, 12, 13, 14, 8, 15, 172, 173, 174, 175, 176, 177, 186, 187, 188, 189, 190, 191, 192, 193, 194, 195] (by decide +kernel) (by decide +kernel)) (goodIn_sub (fun _ h => List.mem_cons_of_mem _ (List.mem_append_right _ h)) (by decide +kernel))
set_option maxRecDepth 20000 in
theorem gX8_carryOut_X8_observerNow : GoodIn wsX8_carryOut (wsV RX8 89 RX8 yX8_observerNow wsX8_observerNow) := goodIn_app (goodIn_of _ (by decide +kernel)) ggX8_carryOut_X8_observerNow
set_option maxRecDepth 20000 in
theorem ggX8_carryOut_X8_chimneyOn : GoodIn wsX8_carryOut wsX8_chimneyOn := goodIn_ca (goodIn_r _ [18, 10, 11, 19, 13, 14, 8, 15, 186, 187, 188, 189, 190, 191, 192, 193, 194, 195] (by decide +kernel) (by decide +kernel)) (goodIn_sub (fun _ h => List.mem_cons_of_mem _ (List.mem_append_right _ h)) (by decide +kernel))
set_option maxRecDepth 20000 in
theorem gX8_carryOut_X8_chimneyOn : GoodIn wsX8_carryOut (va_wsS RX8 44 yX8_chimneyOn wsX8_chimneyOn) := goodIn_app (goodIn_of _ (by decide +kernel)) ggX8_carryOut_X8_chimneyOn
set_option maxRecDepth 20000 in
theorem ggX8_carryOut_X6_changeGrey : GoodIn wsX8_carryOut wsX6_changeGrey := goodIn_r _ [24, 25, 186, 187, 188, 189, 190, 191, 192, 193, 194, 195] (by decide +kernel) (by decide +kernel)
set_option maxRecDepth 20000 in
theorem gX8_carryOut_X6_changeGrey : GoodIn wsX8_carryOut (wsV RX8 85 RX6 yX6_changeGrey wsX6_changeGrey) := goodIn_app (goodIn_of _ (by decide +kernel)) ggX8_carryOut_X6_changeGrey
set_option maxRecDepth 20000 in
theorem ggX8_carryOut_X8_appealIfPossible : GoodIn wsX8_carryOut wsX8_appealIfPossible := goodIn_r _ [29, 2, 30, 31, 32, 33, 34, 23, 35, 36, 37, 38, 39, 40, 41, 42, 43, 44, 45, 46, 47, 48, 14, 8, 15, 172, 173, 174, 175, 176, 177, 186, 187, 188, 189, 190, 191, 192, 193, 194, 195, 196, 197, 198, 199, 200, 201, 178, 179, 180, 181, 182, 183, 184, 185] (by decide +kernel) (by decide +kernel)
set_option maxRecDepth 20000 in
theorem gX8_carryOut_X8_appealIfPossible : GoodIn wsX8_carryOut (wsV RX8 330 RX8 yX8_appealIfPossible wsX8_appealIfPossible) := goodIn_app (goodIn_of _ (by decide +kernel)) ggX8_carryOut_X8_appealIfPossible
set_option maxRecDepth 20000 in
theorem ggX8_carryOut_X6_passTicks : GoodIn wsX8_carryOut wsX6_passTicks := goodIn_r _ [52, 36, 53, 54, 55, 23, 56, 57, 58, 59, 60, 61, 62, 63, 64, 46, 65, 66, 67, 68, 69, 70, 71, 72, 25, 73, 74, 75, 76, 77, 78, 14, 8, 15, 79, 80, 81, 82, 83, 84, 85, 86, 87, 88, 89, 90, 91, 92, 93, 94, 95, 96, 97, 98, 99, 100, 101, 102, 103, 104, 105, 106, 107, 108, 109, 110, 111, 112, 113, 114, 115, 116, 117, 118, 119, 120, 121, 122, 123, 124, 125, 126, 127, 128, 129, 130, 131, 132, 133, 134, 135, 136, 137, 138, 139, 140, 141, 142, 143, 144, 145, 146, 45, 48, 42, 43, 147, 41, 44, 148, 149, 150, 151, 152, 153, 154, 155, 156, 157, 158, 159, 160, 161, 162, 163, 164, 165, 166, 186, 187, 188, 189, 190, 191, 192, 193, 194, 195, 167, 168, 169, 170, 171, 202, 178, 179, 180, 181, 182, 183, 184, 185, 196, 197, 198, 199, 200, 201] (by decide +kernel) (by decide +kernel)
set_option maxRecDepth 20000 in
theorem gX8_carryOut_X6_passTicks : GoodIn wsX8_carryOut (wsV RX8 107 RX6 yX6_passTicks wsX6_passTicks) := goodIn_app (goodIn_of _ (by decide +kernel)) ggX8_carryOut_X6_passTicks
set_option maxRecDepth 20000 in
theorem ggX8_appealIfPossible_X6_hasNotice : GoodIn wsX8_appealIfPossible wsX6_hasNotice := goodIn_r _ [8, 9, 31, 32, 33, 34, 35, 36, 37, 38, 39, 40] (by decide +kernel) (by decide +kernel)
set_option maxRecDepth 20000 in
theorem gX8_appealIfPossible_X6_hasNotice : GoodIn wsX8_appealIfPossible (wsV RX8 319 RX6 yX6_hasNotice wsX6_hasNotice) := goodIn_app (goodIn_of _ (by decide +kernel)) ggX8_appealIfPossible_X6_hasNotice
set_option maxRecDepth 20000 in
theorem ggX8_appealIfPossible_X6_decide : GoodIn wsX8_appealIfPossible wsX6_decide := goodIn_r _ [13, 14, 15, 16, 17, 18, 19, 20, 21, 22, 23, 24, 41, 42, 43, 44, 45, 46, 31, 32, 33, 34, 35, 36, 37, 38, 39, 40, 47, 48, 49, 50, 51, 52, 53, 54] (by decide +kernel) (by decide +kernel)
set_option maxRecDepth 20000 in
theorem gX8_appealIfPossible_X6_decide : GoodIn wsX8_appealIfPossible (wsV RX8 127 RX6 yX6_decide wsX6_decide) := goodIn_app (goodIn_of _ (by decide +kernel)) ggX8_appealIfPossible_X6_decide
set_option maxRecDepth 20000 in
theorem ggX8_smokiestBySets_J6_bitCount_0f7a4 : GoodIn wsX8_smokiestBySets wsJ6_bitCount_0f7a4 := goodIn_r _ [4, 5, 6, 7] (by decide +kernel) (by decide +kernel)
set_option maxRecDepth 20000 in
theorem gX8_smokiestBySets_J6_bitCount_0f7a4 : GoodIn wsX8_smokiestBySets (va_wsS RX8 334 yJ6_bitCount_0f7a4 wsJ6_bitCount_0f7a4) := goodIn_app (goodIn_of _ (by decide +kernel)) ggX8_smokiestBySets_J6_bitCount_0f7a4
set_option maxRecDepth 20000 in
theorem ggX8_smokiestBySets_X8_smokeOfSet : GoodIn wsX8_smokiestBySets wsX8_smokeOfSet := goodIn_r _ [12, 13, 14, 15, 16, 17, 18, 19] (by decide +kernel) (by decide +kernel)
set_option maxRecDepth 20000 in
theorem gX8_smokiestBySets_X8_smokeOfSet : GoodIn wsX8_smokiestBySets (wsV RX8 339 RX8 yX8_smokeOfSet wsX8_smokeOfSet) := goodIn_app (goodIn_of _ (by decide +kernel)) ggX8_smokiestBySets_X8_smokeOfSet
set_option maxRecDepth 20000 in
theorem ggX8_smokiestByPicking_X8_smokiestOutside : GoodIn wsX8_smokiestByPicking wsX8_smokiestOutside := goodIn_r _ [5, 6, 7, 8, 9, 10, 11, 12] (by decide +kernel) (by decide +kernel)
set_option maxRecDepth 20000 in
theorem gX8_smokiestByPicking_X8_smokiestOutside : GoodIn wsX8_smokiestByPicking (wsV RX8 342 RX8 yX8_smokiestOutside wsX8_smokiestOutside) := goodIn_app (goodIn_of _ (by decide +kernel)) ggX8_smokiestByPicking_X8_smokiestOutside
