set_option maxRecDepth 20000 in
theorem ggX0_init_X1_init : GoodIn wsX0_init wsX1_init := goodIn_r _ [17, 18, 2, 3, 19, 20, 21, 22, 23, 24, 33] rfl (by decide +kernel)
set_option maxRecDepth 20000 in
theorem gX0_init_X1_init : GoodIn wsX0_init (wsX1_init) := ggX0_init_X1_init
set_option maxRecDepth 20000 in
theorem ggX0_copyFrom_X1_copyFrom : GoodIn wsX0_copyFrom wsX1_copyFrom := goodIn_r _ [13, 14, 15, 16, 17, 18, 27] rfl (by decide +kernel)
set_option maxRecDepth 20000 in
theorem gX0_copyFrom_X1_copyFrom : GoodIn wsX0_copyFrom (wsV RX0 40 RX1 yX1_copyFrom wsX1_copyFrom) := goodIn_app (goodIn_of _ (by decide +kernel)) ggX0_copyFrom_X1_copyFrom
set_option maxRecDepth 20000 in
theorem ggX0_shadeAt_X0_leftOf : GoodIn wsX0_shadeAt wsX0_leftOf := goodIn_r _ [8, 9, 13, 14, 15, 16, 17, 18, 19, 20] rfl (by decide +kernel)
set_option maxRecDepth 20000 in
theorem gX0_shadeAt_X0_leftOf : GoodIn wsX0_shadeAt (wsV RX0 44 RX0 yX0_leftOf wsX0_leftOf) := goodIn_app (goodIn_of _ (by decide +kernel)) ggX0_shadeAt_X0_leftOf
set_option maxRecDepth 20000 in
theorem ggX0_shadeAt_X8_hold : GoodIn wsX0_shadeAt wsX8_hold := goodIn_r _ [12] rfl (by decide +kernel)
set_option maxRecDepth 20000 in
theorem gX0_shadeAt_X8_hold_n48 : GoodIn wsX0_shadeAt (wsX8_hold) := ggX0_shadeAt_X8_hold
set_option maxRecDepth 20000 in
theorem ggX0_stokedFrom_X0_leftOf : GoodIn wsX0_stokedFrom wsX0_leftOf := goodIn_r _ [7, 2, 14, 15, 16, 17, 18, 19, 20, 21] rfl (by decide +kernel)
set_option maxRecDepth 20000 in
theorem gX0_stokedFrom_X0_leftOf : GoodIn wsX0_stokedFrom (wsV RX0 44 RX0 yX0_leftOf wsX0_leftOf) := goodIn_app (goodIn_of _ (by decide +kernel)) ggX0_stokedFrom_X0_leftOf
set_option maxRecDepth 20000 in
theorem ggX0_stokedFrom_X8_isTick : GoodIn wsX0_stokedFrom wsX8_isTick := goodIn_r _ [10, 11, 12, 9, 13] rfl (by decide +kernel)
set_option maxRecDepth 20000 in
theorem gX0_stokedFrom_X8_isTick_n51 : GoodIn wsX0_stokedFrom (wsX8_isTick) := ggX0_stokedFrom_X8_isTick
set_option maxRecDepth 20000 in
theorem ggX0_smokeByTicks_X0_shadeAt : GoodIn wsX0_smokeByTicks wsX0_shadeAt := goodIn_r _ [5, 6, 7, 8, 9, 10, 11, 4, 12, 13, 14, 15, 16, 17, 18, 19, 20, 21, 22, 23, 24] rfl (by decide +kernel)
set_option maxRecDepth 20000 in
theorem gX0_smokeByTicks_X0_shadeAt : GoodIn wsX0_smokeByTicks (wsV RX0 55 RX0 yX0_shadeAt wsX0_shadeAt) := goodIn_app (goodIn_of _ (by decide +kernel)) ggX0_smokeByTicks_X0_shadeAt
set_option maxRecDepth 20000 in
theorem ggX0_smokeByTurns_X0_smokeByTicks : GoodIn wsX0_smokeByTurns wsX0_smokeByTicks := goodIn_r _ [11, 12, 13, 14, 10, 15, 1, 16, 17, 18, 19, 20, 21, 6, 22, 23, 24, 29, 30, 31, 32, 33, 34, 35, 36] rfl (by decide +kernel)
set_option maxRecDepth 20000 in
theorem gX0_smokeByTurns_X0_smokeByTicks : GoodIn wsX0_smokeByTurns (wsV RX0 64 RX0 yX0_smokeByTicks wsX0_smokeByTicks) := goodIn_app (goodIn_of _ (by decide +kernel)) ggX0_smokeByTurns_X0_smokeByTicks
set_option maxRecDepth 20000 in
theorem ggX0_smokeByTurns_X0_turnsIn : GoodIn wsX0_smokeByTurns wsX0_turnsIn := goodIn_r _ [28, 6, 29, 30, 31, 32, 33, 34, 35, 36] rfl (by decide +kernel)
set_option maxRecDepth 20000 in
theorem gX0_smokeByTurns_X0_turnsIn : GoodIn wsX0_smokeByTurns (wsV RX0 67 RX0 yX0_turnsIn wsX0_turnsIn) := goodIn_app (goodIn_of _ (by decide +kernel)) ggX0_smokeByTurns_X0_turnsIn
set_option maxRecDepth 20000 in
theorem ggX0_smokeByTurns_X0_leftOf : GoodIn wsX0_smokeByTurns wsX0_leftOf := goodIn_r _ [21, 6, 29, 30, 31, 32, 33, 34, 35, 36] rfl (by decide +kernel)
set_option maxRecDepth 20000 in
theorem gX0_smokeByTurns_X0_leftOf : GoodIn wsX0_smokeByTurns (wsV RX0 44 RX0 yX0_leftOf wsX0_leftOf) := goodIn_app (goodIn_of _ (by decide +kernel)) ggX0_smokeByTurns_X0_leftOf
set_option maxRecDepth 20000 in
theorem ggX0_noteReading_X1_at : GoodIn wsX0_noteReading wsX1_at := goodIn_r _ [11, 12, 25] rfl (by decide +kernel)
set_option maxRecDepth 20000 in
theorem gX0_noteReading_X1_at : GoodIn wsX0_noteReading (wsV RX0 70 RX1 yX1_at wsX1_at) := goodIn_app (goodIn_of _ (by decide +kernel)) ggX0_noteReading_X1_at
set_option maxRecDepth 20000 in
theorem ggX0_noteReading_X1_note : GoodIn wsX0_noteReading wsX1_note := goodIn_r _ [16, 12, 25] rfl (by decide +kernel)
set_option maxRecDepth 20000 in
theorem gX0_noteReading_X1_note : GoodIn wsX0_noteReading (wsV RX0 73 RX1 yX1_note wsX1_note) := goodIn_app (goodIn_of _ (by decide +kernel)) ggX0_noteReading_X1_note
set_option maxRecDepth 20000 in
theorem ggX1_init_J7_fill_53178 : GoodIn wsX1_init wsJ7_fill_53178 := goodIn_r _ [9] rfl (by decide +kernel)
set_option maxRecDepth 20000 in
theorem gX1_init_J7_fill_53178 : GoodIn wsX1_init (va_wsS RX1 15 yJ7_fill_53178 wsJ7_fill_53178) := goodIn_app (goodIn_of _ (by decide +kernel)) ggX1_init_J7_fill_53178
set_option maxRecDepth 20000 in
theorem ggX1_clear_J7_fill_53178 : GoodIn wsX1_clear wsJ7_fill_53178 := goodIn_r _ [5] rfl (by decide +kernel)
set_option maxRecDepth 20000 in
theorem gX1_clear_J7_fill_53178 : GoodIn wsX1_clear (va_wsS RX1 15 yJ7_fill_53178 wsJ7_fill_53178) := goodIn_app (goodIn_of _ (by decide +kernel)) ggX1_clear_J7_fill_53178
set_option maxRecDepth 20000 in
theorem ggX1_rowUpTo_X1_at : GoodIn wsX1_rowUpTo wsX1_at := goodIn_r _ [5, 6, 7] rfl (by decide +kernel)
set_option maxRecDepth 20000 in
theorem gX1_rowUpTo_X1_at : GoodIn wsX1_rowUpTo (wsV RX1 33 RX1 yX1_at wsX1_at) := goodIn_app (goodIn_of _ (by decide +kernel)) ggX1_rowUpTo_X1_at
set_option maxRecDepth 20000 in
theorem ggX2_init_X6_init : GoodIn wsX2_init wsX6_init := goodIn_r _ [11, 12, 2, 3, 13, 14, 15, 16, 17, 18, 19, 20, 21, 22, 23, 24, 25, 26, 27, 28, 29, 30, 31, 32, 33, 34, 35, 36, 37, 38, 39, 40, 41, 42, 43, 44, 45, 46, 47, 48, 49, 50, 51, 52, 53, 54, 55, 56, 57, 58, 59, 60, 61, 62, 63, 64, 65, 66, 67, 68, 69, 70, 71, 72, 73, 74, 75, 78, 79, 80, 81, 82, 83, 84, 85, 86, 87, 88, 89, 90, 91, 92, 93, 94, 95, 96, 97, 98, 99, 100, 101, 102, 103, 104, 105, 106, 107] rfl (by decide +kernel)
set_option maxRecDepth 20000 in
theorem gX2_init_X6_init : GoodIn wsX2_init (wsX6_init) := ggX2_init_X6_init
set_option maxRecDepth 20000 in
theorem ggX2_record_X2_dropOldest : GoodIn wsX2_record wsX2_dropOldest := goodIn_r _ [7, 2, 1, 72, 73] rfl (by decide +kernel)
set_option maxRecDepth 20000 in
theorem gX2_record_X2_dropOldest : GoodIn wsX2_record (wsV RX2 22 RX2 yX2_dropOldest wsX2_dropOldest) := goodIn_app (goodIn_of _ (by decide +kernel)) ggX2_record_X2_dropOldest
set_option maxRecDepth 20000 in
theorem ggX2_record_X8_isWithin : GoodIn wsX2_record wsX8_isWithin := goodIn_r _ [10] rfl (by decide +kernel)
set_option maxRecDepth 20000 in
theorem gX2_record_X8_isWithin_n25 : GoodIn wsX2_record (wsX8_isWithin) := ggX2_record_X8_isWithin
set_option maxRecDepth 20000 in
theorem ggX2_record_X6_copyFrom : GoodIn wsX2_record wsX6_copyFrom := goodIn_r _ [15, 16, 17, 18, 19, 20, 21, 22, 23, 24, 25, 26, 27, 28, 29, 30, 31, 32, 33, 34, 35, 36, 37, 38, 39, 40, 41, 42, 43, 44, 45, 46, 47, 48, 49, 50, 51, 52, 53, 54, 55, 56, 57, 58, 59, 60, 61, 62, 63, 64, 65, 66, 67, 68, 69, 70, 71, 74, 75, 76, 77, 78, 79, 80, 81, 82, 83, 84, 85, 86, 87, 88, 89, 90, 91, 92, 93, 94, 95, 96, 97, 98, 99, 100, 101, 102, 103] rfl (by decide +kernel)
set_option maxRecDepth 20000 in
theorem gX2_record_X6_copyFrom : GoodIn wsX2_record (wsV RX2 29 RX6 yX6_copyFrom wsX6_copyFrom) := goodIn_app (goodIn_of _ (by decide +kernel)) ggX2_record_X6_copyFrom
set_option maxRecDepth 20000 in
theorem ggX2_giveBack_X8_isWithin : GoodIn wsX2_giveBack wsX8_isWithin := goodIn_r _ [5] rfl (by decide +kernel)
set_option maxRecDepth 20000 in
theorem gX2_giveBack_X8_isWithin_n25 : GoodIn wsX2_giveBack (wsX8_isWithin) := ggX2_giveBack_X8_isWithin
set_option maxRecDepth 20000 in
theorem ggX2_giveBack_X6_copyFrom : GoodIn wsX2_giveBack wsX6_copyFrom := goodIn_r _ [10, 11, 12, 13, 14, 15, 16, 17, 18, 19, 20, 21, 22, 23, 24, 25, 26, 27, 28, 29, 30, 31, 32, 33, 34, 35, 36, 37, 38, 39, 40, 41, 42, 43, 44, 45, 46, 47, 48, 49, 50, 51, 52, 53, 54, 55, 56, 57, 58, 59, 60, 61, 62, 63, 64, 65, 66, 69, 70, 71, 72, 73, 74, 75, 76, 77, 78, 79, 80, 81, 82, 83, 84, 85, 86, 87, 88, 89, 90, 91, 92, 93, 94, 95, 96, 97, 98] rfl (by decide +kernel)
set_option maxRecDepth 20000 in
theorem gX2_giveBack_X6_copyFrom : GoodIn wsX2_giveBack (wsV RX2 29 RX6 yX6_copyFrom wsX6_copyFrom) := goodIn_app (goodIn_of _ (by decide +kernel)) ggX2_giveBack_X6_copyFrom
set_option maxRecDepth 20000 in
theorem ggX4_readingFor_X8_hold : GoodIn wsX4_readingFor wsX8_hold := goodIn_r _ [5] rfl (by decide +kernel)
set_option maxRecDepth 20000 in
theorem gX4_readingFor_X8_hold_n27 : GoodIn wsX4_readingFor (wsX8_hold) := ggX4_readingFor_X8_hold
set_option maxRecDepth 20000 in
theorem ggX6_init_X1_init : GoodIn wsX6_init wsX1_init := goodIn_r _ [29, 30, 2, 3, 10, 31, 32, 33, 34, 35, 77] rfl (by decide +kernel)
set_option maxRecDepth 20000 in
theorem gX6_init_X1_init : GoodIn wsX6_init (wsX1_init) := ggX6_init_X1_init
set_option maxRecDepth 20000 in
theorem ggX6_init_X0_init : GoodIn wsX6_init wsX0_init := goodIn_r _ [38, 39, 2, 3, 40, 41, 42, 43, 44, 45, 13, 14, 46, 47, 48, 49, 28, 29, 30, 10, 31, 32, 33, 34, 35, 78, 79, 80, 81, 82, 83, 84, 85, 77] rfl (by decide +kernel)
set_option maxRecDepth 20000 in
theorem gX6_init_X0_init : GoodIn wsX6_init (wsX0_init) := ggX6_init_X0_init
set_option maxRecDepth 20000 in
theorem ggX6_init_X4_init : GoodIn wsX6_init wsX4_init := goodIn_r _ [51, 52, 2, 3, 53, 54, 55, 56, 57, 86, 87, 88, 89, 90] rfl (by decide +kernel)
set_option maxRecDepth 20000 in
theorem gX6_init_X4_init_n59 : GoodIn wsX6_init (wsX4_init) := ggX6_init_X4_init
set_option maxRecDepth 20000 in
theorem ggX6_init_X3_init : GoodIn wsX6_init wsX3_init := goodIn_r _ [59, 60, 2, 3, 61, 62, 63, 64, 65, 66, 91, 92, 93, 94, 95, 96] rfl (by decide +kernel)
set_option maxRecDepth 20000 in
theorem gX6_init_X3_init_n60 : GoodIn wsX6_init (wsX3_init) := ggX6_init_X3_init
set_option maxRecDepth 20000 in
theorem ggX6_copyFrom_X0_copyFrom : GoodIn wsX6_copyFrom wsX0_copyFrom := goodIn_r _ [19, 20, 21, 22, 23, 24, 25, 26, 27, 28, 29, 30, 31, 32, 33, 34, 6, 7, 8, 67, 68, 69, 70, 71, 72, 73, 74, 75] rfl (by decide +kernel)
set_option maxRecDepth 20000 in
theorem gX6_copyFrom_X0_copyFrom : GoodIn wsX6_copyFrom (wsV RX6 61 RX0 yX0_copyFrom wsX0_copyFrom) := goodIn_app (goodIn_of _ (by decide +kernel)) ggX6_copyFrom_X0_copyFrom
set_option maxRecDepth 20000 in
theorem ggX6_copyFrom_X4_copyFrom : GoodIn wsX6_copyFrom wsX4_copyFrom := goodIn_r _ [39, 40, 41, 42, 43, 44, 76, 77, 78, 79, 80] rfl (by decide +kernel)
set_option maxRecDepth 20000 in
theorem gX6_copyFrom_X4_copyFrom : GoodIn wsX6_copyFrom (wsV RX6 65 RX4 yX4_copyFrom wsX4_copyFrom) := goodIn_app (goodIn_of _ (by decide +kernel)) ggX6_copyFrom_X4_copyFrom
set_option maxRecDepth 20000 in
theorem ggX6_copyFrom_X3_copyFrom : GoodIn wsX6_copyFrom wsX3_copyFrom := goodIn_r _ [49, 50, 51, 52, 53, 54, 55, 81, 82, 83, 84, 85, 86] rfl (by decide +kernel)
set_option maxRecDepth 20000 in
theorem gX6_copyFrom_X3_copyFrom : GoodIn wsX6_copyFrom (wsV RX6 68 RX3 yX3_copyFrom wsX3_copyFrom) := goodIn_app (goodIn_of _ (by decide +kernel)) ggX6_copyFrom_X3_copyFrom
set_option maxRecDepth 20000 in
theorem ggX6_copyFrom_X1_copyFrom : GoodIn wsX6_copyFrom wsX1_copyFrom := goodIn_r _ [32, 33, 34, 6, 7, 8, 75] rfl (by decide +kernel)
set_option maxRecDepth 20000 in
theorem gX6_copyFrom_X1_copyFrom : GoodIn wsX6_copyFrom (wsV RX6 77 RX1 yX1_copyFrom wsX1_copyFrom) := goodIn_app (goodIn_of _ (by decide +kernel)) ggX6_copyFrom_X1_copyFrom
set_option maxRecDepth 20000 in
theorem ggX6_greyAtTick_X6_greyInHour : GoodIn wsX6_greyAtTick wsX6_greyInHour := goodIn_r _ [5, 6, 7, 8, 9, 10, 11, 12, 13, 14, 15, 16] rfl (by decide +kernel)
set_option maxRecDepth 20000 in
theorem gX6_greyAtTick_X6_greyInHour : GoodIn wsX6_greyAtTick (wsV RX6 80 RX6 yX6_greyInHour wsX6_greyInHour) := goodIn_app (goodIn_of _ (by decide +kernel)) ggX6_greyAtTick_X6_greyInHour
set_option maxRecDepth 20000 in
theorem ggX6_passTicks_X6_passTick : GoodIn wsX6_passTicks wsX6_passTick := goodIn_r _ [6, 7, 8, 9, 10, 5, 11, 12, 13, 14, 15, 16, 17, 18, 19, 20, 21, 22, 23, 24, 25, 26, 27, 28, 29, 30, 31, 32, 33, 34, 35, 36, 37, 38, 39, 40, 41, 42, 43, 44, 45, 46, 47, 48, 49, 50, 51, 52, 53, 54, 55, 56, 57, 58, 59, 60, 61, 62, 63, 64, 65, 66, 67, 68, 69, 70, 71, 72, 73, 74, 75, 76, 77, 78, 79, 80, 81, 82, 83, 84, 85, 86, 87, 88, 89, 90, 91, 1, 92, 93, 94, 95, 96, 97, 98, 99, 100, 101, 102, 103, 104, 105, 106, 107, 108, 109, 110, 111, 112, 113, 114, 115, 116, 117, 118, 119, 120, 121, 122, 123, 124, 125, 126, 127, 128, 129, 130, 131, 132, 133, 134, 135, 136, 137, 138, 139, 140, 141, 142, 143, 144, 145, 146, 147, 148, 149, 150, 151, 152, 153, 154, 155, 156, 157] rfl (by decide +kernel)
set_option maxRecDepth 20000 in
theorem gX6_passTicks_X6_passTick : GoodIn wsX6_passTicks (wsV RX6 84 RX6 yX6_passTick wsX6_passTick) := goodIn_app (goodIn_of _ (by decide +kernel)) ggX6_passTicks_X6_passTick
set_option maxRecDepth 20000 in
theorem ggX6_passTick_X6_takeReadings : GoodIn wsX6_passTick wsX6_takeReadings := goodIn_r _ [6, 7, 8, 1, 9, 10, 11, 12, 13, 5, 14, 15, 16, 17, 18, 19, 20, 21, 22, 23, 24, 25, 26, 27, 28, 29, 30, 31, 32, 33, 34, 35, 36, 37, 38, 39, 40, 41, 42, 43, 44, 45, 46, 47, 48, 49, 50, 51, 52, 53, 54, 55, 56, 57, 58, 59, 60, 61, 62, 63, 64, 65, 66, 67, 68, 69, 70, 71, 72, 73, 74, 124, 125, 126, 127, 128, 129, 130, 131, 132, 133, 134, 135, 136, 137, 138, 139, 140, 141, 142, 143, 144, 145, 146, 147] rfl (by decide +kernel)
set_option maxRecDepth 20000 in
theorem gX6_passTick_X6_takeReadings : GoodIn wsX6_passTick (wsV RX6 87 RX6 yX6_takeReadings wsX6_takeReadings) := goodIn_app (goodIn_of _ (by decide +kernel)) ggX6_passTick_X6_takeReadings
set_option maxRecDepth 20000 in
theorem ggX6_passTick_X4_tire : GoodIn wsX6_passTick wsX4_tire := goodIn_r _ [78, 79, 49, 134, 135, 136, 137, 138] rfl (by decide +kernel)
set_option maxRecDepth 20000 in
theorem gX6_passTick_X4_tire : GoodIn wsX6_passTick (wsV RX6 90 RX4 yX4_tire wsX4_tire) := goodIn_app (goodIn_of _ (by decide +kernel)) ggX6_passTick_X4_tire
set_option maxRecDepth 20000 in
theorem ggX6_passTick_X6_giveNotices : GoodIn wsX6_passTick wsX6_giveNotices := goodIn_r _ [83, 10, 84, 7, 85, 86, 87, 88, 89, 90, 91, 23, 92, 93, 62, 63, 64, 25, 26, 27, 28, 94, 95, 96, 5, 97, 98, 99, 100, 101, 8, 102, 103, 104, 105, 106, 107, 108, 109, 110, 124, 125, 126, 127, 128, 129, 130, 131, 132, 133, 140, 141, 142, 143, 144, 145, 146, 147, 139, 148, 149, 150, 151, 152, 153] rfl (by decide +kernel)
set_option maxRecDepth 20000 in
theorem gX6_passTick_X6_giveNotices : GoodIn wsX6_passTick (wsV RX6 93 RX6 yX6_giveNotices wsX6_giveNotices) := goodIn_app (goodIn_of _ (by decide +kernel)) ggX6_passTick_X6_giveNotices
set_option maxRecDepth 20000 in
theorem ggX6_passTick_X6_goOn : GoodIn wsX6_passTick wsX6_goOn := goodIn_r _ [114, 7, 115, 10, 84, 116, 117, 118, 23, 119, 25, 120, 121, 122, 123, 124, 125, 126, 127, 128, 129, 130, 131, 132, 133, 140, 141, 142, 143, 144, 145, 146, 147, 139] rfl (by decide +kernel)
set_option maxRecDepth 20000 in
theorem gX6_passTick_X6_goOn : GoodIn wsX6_passTick (wsV RX6 96 RX6 yX6_goOn wsX6_goOn) := goodIn_app (goodIn_of _ (by decide +kernel)) ggX6_passTick_X6_goOn
set_option maxRecDepth 20000 in
theorem ggX6_takeReadings_X6_greyAtTick : GoodIn wsX6_takeReadings wsX6_greyAtTick := goodIn_r _ [10, 11, 12, 13, 9, 14, 15, 71, 72, 73, 74, 75, 76, 77, 78, 79, 80] rfl (by decide +kernel)
set_option maxRecDepth 20000 in
theorem gX6_takeReadings_X6_greyAtTick : GoodIn wsX6_takeReadings (wsV RX6 99 RX6 yX6_greyAtTick wsX6_greyAtTick) := goodIn_app (goodIn_of _ (by decide +kernel)) ggX6_takeReadings_X6_greyAtTick
set_option maxRecDepth 20000 in
theorem ggX6_takeReadings_X1_note : GoodIn wsX6_takeReadings wsX1_note := goodIn_r _ [20, 21, 86] rfl (by decide +kernel)
set_option maxRecDepth 20000 in
theorem gX6_takeReadings_X1_note : GoodIn wsX6_takeReadings (wsV RX6 102 RX1 yX1_note wsX1_note) := goodIn_app (goodIn_of _ (by decide +kernel)) ggX6_takeReadings_X1_note
set_option maxRecDepth 20000 in
theorem ggX6_takeReadings_X8_isWithin : GoodIn wsX6_takeReadings wsX8_isWithin := goodIn_r _ [24] rfl (by decide +kernel)
set_option maxRecDepth 20000 in
theorem gX6_takeReadings_X8_isWithin_n109 : GoodIn wsX6_takeReadings (wsX8_isWithin) := ggX6_takeReadings_X8_isWithin
set_option maxRecDepth 20000 in
theorem ggX6_takeReadings_X0_shadeAt : GoodIn wsX6_takeReadings wsX0_shadeAt := goodIn_r _ [29, 30, 31, 32, 33, 34, 35, 28, 36, 37, 38, 23, 39, 87, 88, 89, 90, 91, 92, 93, 94] rfl (by decide +kernel)
set_option maxRecDepth 20000 in
theorem gX6_takeReadings_X0_shadeAt : GoodIn wsX6_takeReadings (wsV RX6 113 RX0 yX0_shadeAt wsX0_shadeAt) := goodIn_app (goodIn_of _ (by decide +kernel)) ggX6_takeReadings_X0_shadeAt
set_option maxRecDepth 20000 in
theorem ggX6_takeReadings_X4_readingFor : GoodIn wsX6_takeReadings wsX4_readingFor := goodIn_r _ [44, 45, 46, 38, 23, 39, 81, 82, 83, 84, 85] rfl (by decide +kernel)
set_option maxRecDepth 20000 in
theorem gX6_takeReadings_X4_readingFor : GoodIn wsX6_takeReadings (wsV RX6 116 RX4 yX4_readingFor wsX4_readingFor) := goodIn_app (goodIn_of _ (by decide +kernel)) ggX6_takeReadings_X4_readingFor
set_option maxRecDepth 20000 in
theorem ggX6_takeReadings_X0_noteReading : GoodIn wsX6_takeReadings wsX0_noteReading := goodIn_r _ [50, 51, 52, 53, 54, 55, 56, 57, 58, 59, 19, 60, 21, 61, 17, 18, 20, 87, 88, 89, 90, 91, 92, 93, 94, 86] rfl (by decide +kernel)
set_option maxRecDepth 20000 in
theorem gX6_takeReadings_X0_noteReading : GoodIn wsX6_takeReadings (wsV RX6 120 RX0 yX0_noteReading wsX0_noteReading) := goodIn_app (goodIn_of _ (by decide +kernel)) ggX6_takeReadings_X0_noteReading
set_option maxRecDepth 20000 in
theorem ggX6_takeReadings_X4_countReading : GoodIn wsX6_takeReadings wsX4_countReading := goodIn_r _ [65, 66, 67, 68, 54, 69, 70, 81, 82, 83, 84, 85] rfl (by decide +kernel)
set_option maxRecDepth 20000 in
theorem gX6_takeReadings_X4_countReading : GoodIn wsX6_takeReadings (wsV RX6 124 RX4 yX4_countReading wsX4_countReading) := goodIn_app (goodIn_of _ (by decide +kernel)) ggX6_takeReadings_X4_countReading
set_option maxRecDepth 20000 in
theorem ggX6_giveNotices_X1_rowUpTo : GoodIn wsX6_giveNotices wsX1_rowUpTo := goodIn_r _ [12, 13, 14, 15, 11, 16, 17, 58] rfl (by decide +kernel)
set_option maxRecDepth 20000 in
theorem gX6_giveNotices_X1_rowUpTo : GoodIn wsX6_giveNotices (wsV RX6 130 RX1 yX1_rowUpTo wsX1_rowUpTo) := goodIn_app (goodIn_of _ (by decide +kernel)) ggX6_giveNotices_X1_rowUpTo
set_option maxRecDepth 20000 in
theorem ggX6_giveNotices_X8_isWithin : GoodIn wsX6_giveNotices wsX8_isWithin := goodIn_r _ [20] rfl (by decide +kernel)
set_option maxRecDepth 20000 in
theorem gX6_giveNotices_X8_isWithin_n109 : GoodIn wsX6_giveNotices (wsX8_isWithin) := ggX6_giveNotices_X8_isWithin
set_option maxRecDepth 20000 in
theorem ggX6_giveNotices_X6_fill : GoodIn wsX6_giveNotices wsX6_fill := goodIn_r _ [25, 26, 27, 28, 29, 5, 30, 3, 31, 4, 32, 33, 34, 35, 36, 37, 24, 38, 6, 7, 39, 14, 15, 11, 16, 17, 59, 60, 61, 62, 63, 64, 40, 41, 42, 43, 44, 45, 46, 47, 48, 49, 50, 51, 52, 53, 54, 55, 56, 57, 58] rfl (by decide +kernel)
set_option maxRecDepth 20000 in
theorem gX6_giveNotices_X6_fill : GoodIn wsX6_giveNotices (wsV RX6 134 RX6 yX6_fill wsX6_fill) := goodIn_app (goodIn_of _ (by decide +kernel)) ggX6_giveNotices_X6_fill
set_option maxRecDepth 20000 in
theorem ggX6_fill_X6_standingOf : GoodIn wsX6_fill wsX6_standingOf := goodIn_r _ [17, 18, 19, 11, 1, 32, 33, 34, 35, 36, 37, 38, 39, 40, 41, 26, 27, 28, 29, 30, 31] rfl (by decide +kernel)
set_option maxRecDepth 20000 in
theorem gX6_fill_X6_standingOf : GoodIn wsX6_fill (wsV RX6 141 RX6 yX6_standingOf wsX6_standingOf) := goodIn_app (goodIn_of _ (by decide +kernel)) ggX6_fill_X6_standingOf
set_option maxRecDepth 20000 in
theorem ggX6_fill_X1_at : GoodIn wsX6_fill wsX1_at := goodIn_r _ [24, 25, 50] rfl (by decide +kernel)
set_option maxRecDepth 20000 in
theorem gX6_fill_X1_at : GoodIn wsX6_fill (wsV RX6 154 RX1 yX1_at wsX1_at) := goodIn_app (goodIn_of _ (by decide +kernel)) ggX6_fill_X1_at
set_option maxRecDepth 20000 in
theorem ggX6_goOn_X1_clear : GoodIn wsX6_goOn wsX1_clear := goodIn_r _ [9, 10, 11, 12, 13, 14, 33] rfl (by decide +kernel)
set_option maxRecDepth 20000 in
theorem gX6_goOn_X1_clear : GoodIn wsX6_goOn (wsV RX6 169 RX1 yX1_clear wsX1_clear) := goodIn_app (goodIn_of _ (by decide +kernel)) ggX6_goOn_X1_clear
set_option maxRecDepth 20000 in
theorem ggX6_decide_X8_isWithin : GoodIn wsX6_decide wsX8_isWithin := goodIn_r _ [11] rfl (by decide +kernel)
set_option maxRecDepth 20000 in
theorem gX6_decide_X8_isWithin_n109 : GoodIn wsX6_decide (wsX8_isWithin) := ggX6_decide_X8_isWithin
set_option maxRecDepth 20000 in
theorem ggX7_init_X6_init : GoodIn wsX7_init wsX6_init := goodIn_r _ [11, 12, 2, 3, 13, 14, 15, 16, 17, 18, 19, 20, 21, 22, 23, 24, 25, 26, 27, 28, 29, 30, 31, 32, 33, 34, 35, 36, 37, 38, 39, 40, 41, 42, 43, 44, 45, 46, 47, 48, 49, 50, 51, 52, 53, 54, 55, 56, 57, 58, 59, 60, 61, 62, 63, 64, 65, 66, 67, 68, 69, 70, 71, 72, 73, 74, 75, 76, 77, 78, 79, 80, 81, 82, 83, 84, 85, 88, 89, 90, 91, 92, 93, 94, 95, 96, 97, 98, 99, 100, 101, 102, 103, 104, 105, 106, 107] rfl (by decide +kernel)
set_option maxRecDepth 20000 in
theorem gX7_init_X6_init : GoodIn wsX7_init (wsX6_init) := ggX7_init_X6_init
set_option maxRecDepth 20000 in
theorem ggX8_isTick_X8_isWithin : GoodIn wsX8_isTick wsX8_isWithin := goodIn_r _ [4] rfl (by decide +kernel)
set_option maxRecDepth 20000 in
theorem gX8_isTick_X8_isWithin : GoodIn wsX8_isTick (va_wsS RX8 48 yX8_isWithin wsX8_isWithin) := goodIn_app (goodIn_of _ (by decide +kernel)) ggX8_isTick_X8_isWithin
set_option maxRecDepth 20000 in
theorem ggX8_chimneyOn_X8_isWithin : GoodIn wsX8_chimneyOn wsX8_isWithin := goodIn_r _ [7] rfl (by decide +kernel)
set_option maxRecDepth 20000 in
theorem gX8_chimneyOn_X8_isWithin : GoodIn wsX8_chimneyOn (va_wsS RX8 48 yX8_isWithin wsX8_isWithin) := goodIn_app (goodIn_of _ (by decide +kernel)) ggX8_chimneyOn_X8_isWithin
set_option maxRecDepth 20000 in
theorem ggX8_observerNow_X8_isWithin : GoodIn wsX8_observerNow wsX8_isWithin := goodIn_r _ [8] rfl (by decide +kernel)
set_option maxRecDepth 20000 in
theorem gX8_observerNow_X8_isWithin : GoodIn wsX8_observerNow (va_wsS RX8 48 yX8_isWithin wsX8_isWithin) := goodIn_app (goodIn_of _ (by decide +kernel)) ggX8_observerNow_X8_isWithin
set_option maxRecDepth 20000 in
theorem ggX8_noticeNow_X6_hasNotice : GoodIn wsX8_noticeNow wsX6_hasNotice := goodIn_r _ [9, 10, 17, 18, 19, 20, 21, 22, 23, 24, 25, 26] rfl (by decide +kernel)
set_option maxRecDepth 20000 in
theorem gX8_noticeNow_X6_hasNotice : GoodIn wsX8_noticeNow (wsV RX8 319 RX6 yX6_hasNotice wsX6_hasNotice) := goodIn_app (goodIn_of _ (by decide +kernel)) ggX8_noticeNow_X6_hasNotice
set_option maxRecDepth 20000 in
theorem ggX8_slotNumbered_X8_isWithin : GoodIn wsX8_slotNumbered wsX8_isWithin := goodIn_r _ [7] rfl (by decide +kernel)
set_option maxRecDepth 20000 in
theorem gX8_slotNumbered_X8_isWithin : GoodIn wsX8_slotNumbered (va_wsS RX8 48 yX8_isWithin wsX8_isWithin) := goodIn_app (goodIn_of _ (by decide +kernel)) ggX8_slotNumbered_X8_isWithin
