set_option maxRecDepth 20000 in
theorem ggX8_init_X6_init : GoodIn wsX8_init wsX6_init := goodIn_r _ [25, 26, 2, 3, 27, 28, 29, 30, 31, 32, 19, 33, 34, 35, 36, 37, 38, 39, 40, 41, 42, 43, 44, 45, 46, 47, 48, 49, 50, 51, 52, 53, 54, 55, 56, 57, 58, 59, 60, 61, 62, 63, 64, 65, 66, 67, 68, 69, 70, 71, 72, 73, 74, 75, 76, 77, 78, 79, 80, 81, 82, 83, 84, 85, 86, 87, 88, 114, 115, 116, 117, 118, 119, 120, 121, 122, 123, 140, 141, 142, 143, 144, 145, 146, 147, 148, 149, 150, 151, 152, 153, 154, 155, 156, 157, 158, 159] rfl (by decide +kernel)
set_option maxRecDepth 20000 in
theorem gX8_init_X6_init : GoodIn wsX8_init (wsX6_init) := ggX8_init_X6_init
set_option maxRecDepth 20000 in
theorem ggX8_init_X2_init : GoodIn wsX8_init wsX2_init := goodIn_r _ [91, 92, 2, 3, 93, 94, 95, 5, 6, 96, 24, 25, 26, 27, 28, 29, 30, 31, 32, 19, 33, 34, 35, 36, 37, 38, 39, 40, 41, 42, 43, 44, 45, 46, 47, 48, 49, 50, 51, 52, 53, 54, 55, 56, 57, 58, 59, 60, 61, 62, 63, 64, 65, 66, 67, 68, 69, 70, 71, 72, 73, 74, 75, 76, 77, 78, 79, 80, 81, 82, 83, 84, 85, 86, 87, 88, 130, 131, 114, 115, 116, 117, 118, 119, 120, 121, 122, 123, 140, 141, 142, 143, 144, 145, 146, 147, 148, 149, 150, 151, 152, 153, 154, 155, 156, 157, 158, 159] rfl (by decide +kernel)
set_option maxRecDepth 20000 in
theorem gX8_init_X2_init : GoodIn wsX8_init (wsX2_init) := ggX8_init_X2_init
set_option maxRecDepth 20000 in
theorem ggX8_init_X5_init : GoodIn wsX8_init wsX5_init := goodIn_r _ [98, 99, 2, 3, 100, 101, 102, 103, 104, 105, 106, 132, 133, 134, 135, 136, 137] rfl (by decide +kernel)
set_option maxRecDepth 20000 in
theorem gX8_init_X5_init_n34 : GoodIn wsX8_init (wsX5_init) := ggX8_init_X5_init
set_option maxRecDepth 20000 in
theorem ggX8_init_X7_init : GoodIn wsX8_init wsX7_init := goodIn_r _ [108, 109, 2, 3, 110, 5, 6, 111, 112, 113, 24, 25, 26, 27, 28, 29, 30, 31, 32, 19, 33, 34, 35, 36, 37, 38, 39, 40, 41, 42, 43, 44, 45, 46, 47, 48, 49, 50, 51, 52, 53, 54, 55, 56, 57, 58, 59, 60, 61, 62, 63, 64, 65, 66, 67, 68, 69, 70, 71, 72, 73, 74, 75, 76, 77, 78, 79, 80, 81, 82, 83, 84, 85, 86, 87, 88, 114, 115, 116, 117, 118, 119, 120, 121, 122, 123, 138, 139, 140, 141, 142, 143, 144, 145, 146, 147, 148, 149, 150, 151, 152, 153, 154, 155, 156, 157, 158, 159] rfl (by decide +kernel)
set_option maxRecDepth 20000 in
theorem gX8_init_X7_init_n43 : GoodIn wsX8_init (wsX7_init) := ggX8_init_X7_init
set_option maxRecDepth 20000 in
theorem ggX8_setChimney_X8_chimneyOn : GoodIn wsX8_setChimney wsX8_chimneyOn := goodIn_ca (goodIn_r _ [11, 12, 13, 14, 15, 16, 10, 17, 119, 120, 121, 122, 123, 124, 125, 126, 127, 128] rfl (by decide +kernel)) (goodIn_sub (fun _ h => List.mem_cons_of_mem _ (List.mem_append_left _ (List.mem_append_right _ h))) (by decide +kernel))
set_option maxRecDepth 20000 in
theorem gX8_setChimney_X8_chimneyOn : GoodIn wsX8_setChimney (va_wsS RX8 44 yX8_chimneyOn wsX8_chimneyOn) := goodIn_app (goodIn_of _ (by decide +kernel)) ggX8_setChimney_X8_chimneyOn
set_option maxRecDepth 20000 in
theorem ggX8_setChimney_X8_isWithin : GoodIn wsX8_setChimney wsX8_isWithin := goodIn_r _ [17] rfl (by decide +kernel)
set_option maxRecDepth 20000 in
theorem gX8_setChimney_X8_isWithin : GoodIn wsX8_setChimney (va_wsS RX8 48 yX8_isWithin wsX8_isWithin) := goodIn_app (goodIn_of _ (by decide +kernel)) ggX8_setChimney_X8_isWithin
set_option maxRecDepth 20000 in
theorem ggX8_setChimney_X8_demand : GoodIn wsX8_setChimney wsX8_demand := goodIn_ca (goodIn_r _ [20, 21, 22] rfl (by decide +kernel)) (goodIn_sub (fun _ h => List.mem_cons_of_mem _ (List.mem_append_right _ h)) (by decide +kernel))
set_option maxRecDepth 20000 in
theorem gX8_setChimney_X8_demand : GoodIn wsX8_setChimney (va_wsS RX8 52 yX8_demand wsX8_demand) := goodIn_app (goodIn_of _ (by decide +kernel)) ggX8_setChimney_X8_demand
set_option maxRecDepth 20000 in
theorem ggX8_setChimney_X2_record : GoodIn wsX8_setChimney wsX2_record := goodIn_r _ [27, 28, 29, 30, 31, 32, 26, 33, 16, 10, 17, 34, 35, 36, 37, 38, 39, 40, 41, 42, 43, 44, 45, 46, 47, 48, 49, 50, 51, 52, 53, 54, 55, 56, 57, 58, 59, 60, 61, 62, 63, 64, 65, 66, 67, 68, 69, 70, 71, 72, 73, 74, 75, 76, 77, 78, 79, 80, 81, 82, 83, 84, 85, 86, 87, 88, 89, 90, 91, 92, 93, 94, 129, 130, 119, 120, 121, 122, 123, 124, 125, 126, 127, 128, 111, 112, 113, 114, 115, 116, 117, 118, 131, 132, 133, 134, 135, 136, 137, 138, 139, 140, 141, 142] rfl (by decide +kernel)
set_option maxRecDepth 20000 in
theorem gX8_setChimney_X2_record : GoodIn wsX8_setChimney (wsV RX8 56 RX2 yX2_record wsX2_record) := goodIn_app (goodIn_of _ (by decide +kernel)) ggX8_setChimney_X2_record
set_option maxRecDepth 20000 in
theorem ggX8_setChimney_X0_shadeAt : GoodIn wsX8_setChimney wsX0_shadeAt := goodIn_r _ [98, 61, 58, 59, 99, 100, 101, 56, 102, 60, 103, 10, 104, 111, 112, 113, 114, 115, 116, 117, 118] rfl (by decide +kernel)
set_option maxRecDepth 20000 in
theorem gX8_setChimney_X0_shadeAt : GoodIn wsX8_setChimney (wsV RX8 78 RX0 yX0_shadeAt wsX0_shadeAt) := goodIn_app (goodIn_of _ (by decide +kernel)) ggX8_setChimney_X0_shadeAt
set_option maxRecDepth 20000 in
theorem ggX8_setGrey_X8_isWithin : GoodIn wsX8_setGrey wsX8_isWithin := goodIn_r _ [6] rfl (by decide +kernel)
set_option maxRecDepth 20000 in
theorem gX8_setGrey_X8_isWithin : GoodIn wsX8_setGrey (va_wsS RX8 48 yX8_isWithin wsX8_isWithin) := goodIn_app (goodIn_of _ (by decide +kernel)) ggX8_setGrey_X8_isWithin
set_option maxRecDepth 20000 in
theorem ggX8_setGrey_X8_demand : GoodIn wsX8_setGrey wsX8_demand := goodIn_ca (goodIn_r _ [9, 10, 11] rfl (by decide +kernel)) (goodIn_sub (fun _ h => List.mem_cons_of_mem _ (List.mem_append_right _ h)) (by decide +kernel))
set_option maxRecDepth 20000 in
theorem gX8_setGrey_X8_demand : GoodIn wsX8_setGrey (va_wsS RX8 52 yX8_demand wsX8_demand) := goodIn_app (goodIn_of _ (by decide +kernel)) ggX8_setGrey_X8_demand
set_option maxRecDepth 20000 in
theorem ggX8_setGrey_X2_record : GoodIn wsX8_setGrey wsX2_record := goodIn_r _ [16, 17, 18, 19, 20, 21, 15, 22, 4, 5, 6, 23, 24, 25, 26, 27, 28, 29, 30, 31, 32, 33, 34, 35, 36, 37, 38, 39, 40, 41, 42, 43, 44, 45, 46, 47, 48, 49, 50, 51, 52, 53, 54, 55, 56, 57, 58, 59, 60, 61, 62, 63, 64, 65, 66, 67, 68, 69, 70, 71, 72, 73, 74, 75, 76, 77, 78, 79, 80, 81, 82, 83, 98, 99, 100, 101, 102, 103, 104, 105, 106, 107, 108, 109, 110, 111, 112, 113, 114, 115, 116, 117, 118, 119, 120, 121, 122, 123, 124, 125, 126, 127, 128, 129] rfl (by decide +kernel)
set_option maxRecDepth 20000 in
theorem gX8_setGrey_X2_record : GoodIn wsX8_setGrey (wsV RX8 56 RX2 yX2_record wsX2_record) := goodIn_app (goodIn_of _ (by decide +kernel)) ggX8_setGrey_X2_record
set_option maxRecDepth 20000 in
theorem ggX8_setGrey_X6_greyInHour : GoodIn wsX8_setGrey wsX6_greyInHour := goodIn_r _ [87, 31, 100, 101, 102, 103, 104, 105, 106, 107, 108, 109] rfl (by decide +kernel)
set_option maxRecDepth 20000 in
theorem gX8_setGrey_X6_greyInHour : GoodIn wsX8_setGrey (wsV RX8 82 RX6 yX6_greyInHour wsX6_greyInHour) := goodIn_app (goodIn_of _ (by decide +kernel)) ggX8_setGrey_X6_greyInHour
set_option maxRecDepth 20000 in
theorem ggX8_setGrey_X6_changeGrey : GoodIn wsX8_setGrey wsX6_changeGrey := goodIn_r _ [91, 31, 100, 101, 102, 103, 104, 105, 106, 107, 108, 109] rfl (by decide +kernel)
set_option maxRecDepth 20000 in
theorem gX8_setGrey_X6_changeGrey : GoodIn wsX8_setGrey (wsV RX8 85 RX6 yX6_changeGrey wsX6_changeGrey) := goodIn_app (goodIn_of _ (by decide +kernel)) ggX8_setGrey_X6_changeGrey
set_option maxRecDepth 20000 in
theorem ggX8_watch_X8_observerNow : GoodIn wsX8_watch wsX8_observerNow := goodIn_ca (goodIn_r _ [8, 9, 10, 2, 11, 12, 13, 7, 14, 92, 93, 94, 95, 96, 97, 103, 104, 105, 106, 107, 108, 109, 110, 111, 112] rfl (by decide +kernel)) (goodIn_sub (fun _ h => List.mem_cons_of_mem _ (List.mem_append_left _ (List.mem_append_right _ h))) (by decide +kernel))
set_option maxRecDepth 20000 in
theorem gX8_watch_X8_observerNow : GoodIn wsX8_watch (wsV RX8 89 RX8 yX8_observerNow wsX8_observerNow) := goodIn_app (goodIn_of _ (by decide +kernel)) ggX8_watch_X8_observerNow
set_option maxRecDepth 20000 in
theorem ggX8_watch_X8_isWithin : GoodIn wsX8_watch wsX8_isWithin := goodIn_r _ [14] rfl (by decide +kernel)
set_option maxRecDepth 20000 in
theorem gX8_watch_X8_isWithin : GoodIn wsX8_watch (va_wsS RX8 48 yX8_isWithin wsX8_isWithin) := goodIn_app (goodIn_of _ (by decide +kernel)) ggX8_watch_X8_isWithin
set_option maxRecDepth 20000 in
theorem ggX8_watch_X8_demand : GoodIn wsX8_watch wsX8_demand := goodIn_ca (goodIn_r _ [17, 18, 19] rfl (by decide +kernel)) (goodIn_sub (fun _ h => List.mem_cons_of_mem _ (List.mem_append_right _ h)) (by decide +kernel))
set_option maxRecDepth 20000 in
theorem gX8_watch_X8_demand : GoodIn wsX8_watch (va_wsS RX8 52 yX8_demand wsX8_demand) := goodIn_app (goodIn_of _ (by decide +kernel)) ggX8_watch_X8_demand
set_option maxRecDepth 20000 in
theorem ggX8_watch_X2_record : GoodIn wsX8_watch wsX2_record := goodIn_r _ [24, 25, 26, 27, 28, 29, 23, 30, 13, 7, 14, 31, 32, 33, 34, 35, 36, 37, 38, 39, 40, 41, 42, 43, 44, 45, 46, 47, 48, 49, 50, 51, 52, 53, 54, 55, 56, 57, 58, 59, 60, 61, 62, 63, 64, 65, 66, 67, 68, 69, 70, 71, 72, 73, 74, 75, 76, 77, 78, 79, 80, 81, 82, 83, 84, 85, 86, 87, 88, 89, 90, 91, 113, 114, 103, 104, 105, 106, 107, 108, 109, 110, 111, 112, 115, 116, 117, 118, 119, 120, 121, 122, 123, 98, 99, 100, 101, 102, 124, 125, 126, 127, 128, 129] rfl (by decide +kernel)
set_option maxRecDepth 20000 in
theorem gX8_watch_X2_record : GoodIn wsX8_watch (wsV RX8 56 RX2 yX2_record wsX2_record) := goodIn_app (goodIn_of _ (by decide +kernel)) ggX8_watch_X2_record
set_option maxRecDepth 20000 in
theorem ggX8_setBias_X8_observerNow : GoodIn wsX8_setBias wsX8_observerNow := goodIn_ca (goodIn_r _ [8, 9, 10, 2, 11, 12, 13, 7, 14, 92, 93, 94, 95, 96, 97, 103, 104, 105, 106, 107, 108, 109, 110, 111, 112] rfl (by decide +kernel)) (goodIn_sub (fun _ h => List.mem_cons_of_mem _ (List.mem_append_left _ (List.mem_append_right _ h))) (by decide +kernel))
set_option maxRecDepth 20000 in
theorem gX8_setBias_X8_observerNow : GoodIn wsX8_setBias (wsV RX8 89 RX8 yX8_observerNow wsX8_observerNow) := goodIn_app (goodIn_of _ (by decide +kernel)) ggX8_setBias_X8_observerNow
set_option maxRecDepth 20000 in
theorem ggX8_setBias_X8_isWithin : GoodIn wsX8_setBias wsX8_isWithin := goodIn_r _ [14] rfl (by decide +kernel)
set_option maxRecDepth 20000 in
theorem gX8_setBias_X8_isWithin : GoodIn wsX8_setBias (va_wsS RX8 48 yX8_isWithin wsX8_isWithin) := goodIn_app (goodIn_of _ (by decide +kernel)) ggX8_setBias_X8_isWithin
set_option maxRecDepth 20000 in
theorem ggX8_setBias_X8_demand : GoodIn wsX8_setBias wsX8_demand := goodIn_ca (goodIn_r _ [17, 18, 19] rfl (by decide +kernel)) (goodIn_sub (fun _ h => List.mem_cons_of_mem _ (List.mem_append_right _ h)) (by decide +kernel))
set_option maxRecDepth 20000 in
theorem gX8_setBias_X8_demand : GoodIn wsX8_setBias (va_wsS RX8 52 yX8_demand wsX8_demand) := goodIn_app (goodIn_of _ (by decide +kernel)) ggX8_setBias_X8_demand
set_option maxRecDepth 20000 in
theorem ggX8_setBias_X2_record : GoodIn wsX8_setBias wsX2_record := goodIn_r _ [24, 25, 26, 27, 28, 29, 23, 30, 13, 7, 14, 31, 32, 33, 34, 35, 36, 37, 38, 39, 40, 41, 42, 43, 44, 45, 46, 47, 48, 49, 50, 51, 52, 53, 54, 55, 56, 57, 58, 59, 60, 61, 62, 63, 64, 65, 66, 67, 68, 69, 70, 71, 72, 73, 74, 75, 76, 77, 78, 79, 80, 81, 82, 83, 84, 85, 86, 87, 88, 89, 90, 91, 113, 114, 103, 104, 105, 106, 107, 108, 109, 110, 111, 112, 115, 116, 117, 118, 119, 120, 121, 122, 123, 98, 99, 100, 101, 102, 124, 125, 126, 127, 128, 129] rfl (by decide +kernel)
set_option maxRecDepth 20000 in
theorem gX8_setBias_X2_record : GoodIn wsX8_setBias (wsV RX8 56 RX2 yX2_record wsX2_record) := goodIn_app (goodIn_of _ (by decide +kernel)) ggX8_setBias_X2_record
set_option maxRecDepth 20000 in
theorem ggX8_setLimit_X8_isWithin : GoodIn wsX8_setLimit wsX8_isWithin := goodIn_r _ [8] rfl (by decide +kernel)
set_option maxRecDepth 20000 in
theorem gX8_setLimit_X8_isWithin : GoodIn wsX8_setLimit (va_wsS RX8 48 yX8_isWithin wsX8_isWithin) := goodIn_app (goodIn_of _ (by decide +kernel)) ggX8_setLimit_X8_isWithin
set_option maxRecDepth 20000 in
theorem ggX8_setLimit_X8_demand : GoodIn wsX8_setLimit wsX8_demand := goodIn_ca (goodIn_r _ [11, 12, 13] rfl (by decide +kernel)) (goodIn_sub (fun _ h => List.mem_cons_of_mem _ (List.mem_append_right _ h)) (by decide +kernel))
set_option maxRecDepth 20000 in
theorem gX8_setLimit_X8_demand : GoodIn wsX8_setLimit (va_wsS RX8 52 yX8_demand wsX8_demand) := goodIn_app (goodIn_of _ (by decide +kernel)) ggX8_setLimit_X8_demand
set_option maxRecDepth 20000 in
theorem ggX8_setLimit_X2_record : GoodIn wsX8_setLimit wsX2_record := goodIn_r _ [18, 19, 20, 21, 22, 23, 17, 24, 6, 7, 8, 25, 26, 27, 28, 29, 30, 31, 32, 33, 34, 35, 36, 37, 38, 39, 40, 41, 42, 43, 44, 45, 46, 47, 48, 49, 50, 51, 52, 53, 54, 55, 56, 57, 58, 59, 60, 61, 62, 63, 64, 65, 66, 67, 68, 69, 70, 71, 72, 73, 74, 75, 76, 77, 78, 79, 80, 81, 82, 83, 84, 85, 102, 103, 92, 93, 94, 95, 96, 97, 98, 99, 100, 101, 104, 105, 106, 107, 108, 109, 110, 111, 112, 113, 114, 115, 116, 117, 118, 119, 120, 121, 122, 123] rfl (by decide +kernel)
set_option maxRecDepth 20000 in
theorem gX8_setLimit_X2_record : GoodIn wsX8_setLimit (wsV RX8 56 RX2 yX2_record wsX2_record) := goodIn_app (goodIn_of _ (by decide +kernel)) ggX8_setLimit_X2_record
set_option maxRecDepth 20000 in
theorem ggX8_pass_X8_isWithin : GoodIn wsX8_pass wsX8_isWithin := goodIn_r _ [6] rfl (by decide +kernel)
set_option maxRecDepth 20000 in
theorem gX8_pass_X8_isWithin : GoodIn wsX8_pass (va_wsS RX8 48 yX8_isWithin wsX8_isWithin) := goodIn_app (goodIn_of _ (by decide +kernel)) ggX8_pass_X8_isWithin
set_option maxRecDepth 20000 in
theorem ggX8_pass_X8_demand : GoodIn wsX8_pass wsX8_demand := goodIn_ca (goodIn_r _ [9, 10, 11] rfl (by decide +kernel)) (goodIn_sub (fun _ h => List.mem_cons_of_mem _ (List.mem_append_right _ h)) (by decide +kernel))
set_option maxRecDepth 20000 in
theorem gX8_pass_X8_demand : GoodIn wsX8_pass (va_wsS RX8 52 yX8_demand wsX8_demand) := goodIn_app (goodIn_of _ (by decide +kernel)) ggX8_pass_X8_demand
set_option maxRecDepth 20000 in
theorem ggX8_pass_X2_record : GoodIn wsX8_pass wsX2_record := goodIn_r _ [16, 17, 18, 19, 20, 21, 15, 22, 4, 5, 6, 23, 24, 25, 26, 27, 28, 29, 30, 31, 32, 33, 34, 35, 36, 37, 38, 39, 40, 41, 42, 43, 44, 45, 46, 47, 48, 49, 50, 51, 52, 53, 54, 55, 56, 57, 58, 59, 60, 61, 62, 63, 64, 65, 66, 67, 68, 69, 70, 71, 72, 73, 74, 75, 76, 77, 78, 79, 80, 81, 82, 83, 192, 193, 194, 195, 196, 197, 198, 199, 200, 201, 202, 203, 204, 205, 206, 207, 208, 209, 210, 211, 212, 213, 214, 215, 216, 217, 218, 219, 220, 221, 222, 223] rfl (by decide +kernel)
set_option maxRecDepth 20000 in
theorem gX8_pass_X2_record : GoodIn wsX8_pass (wsV RX8 56 RX2 yX2_record wsX2_record) := goodIn_app (goodIn_of _ (by decide +kernel)) ggX8_pass_X2_record
set_option maxRecDepth 20000 in
theorem ggX8_pass_X6_passTicks : GoodIn wsX8_pass wsX6_passTicks := goodIn_r _ [87, 37, 88, 89, 90, 26, 91, 29, 92, 93, 94, 95, 41, 36, 96, 28, 97, 98, 99, 100, 101, 102, 103, 104, 31, 105, 106, 107, 58, 108, 60, 4, 5, 6, 109, 110, 111, 45, 112, 50, 47, 48, 113, 114, 115, 116, 49, 117, 118, 119, 120, 121, 65, 122, 69, 68, 123, 124, 125, 126, 53, 127, 128, 129, 130, 54, 131, 132, 133, 134, 135, 136, 137, 138, 139, 70, 140, 141, 142, 71, 143, 144, 145, 146, 67, 147, 148, 149, 150, 151, 38, 39, 30, 152, 153, 154, 155, 156, 157, 158, 159, 160, 161, 162, 163, 164, 165, 166, 167, 168, 169, 170, 171, 172, 173, 174, 175, 176, 177, 40, 178, 179, 180, 181, 182, 183, 184, 185, 194, 195, 196, 197, 198, 199, 200, 201, 202, 203, 213, 214, 215, 216, 217, 212, 204, 205, 206, 207, 208, 209, 210, 211, 218, 219, 220, 221, 222, 223] rfl (by decide +kernel)
set_option maxRecDepth 20000 in
theorem gX8_pass_X6_passTicks : GoodIn wsX8_pass (wsV RX8 107 RX6 yX6_passTicks wsX6_passTicks) := goodIn_app (goodIn_of _ (by decide +kernel)) ggX8_pass_X6_passTicks
set_option maxRecDepth 20000 in
theorem ggX8_appeal_X8_noticeNow : GoodIn wsX8_appeal wsX8_noticeNow := goodIn_ca (goodIn_r _ [11, 12, 13, 5, 14, 15, 16, 17, 18, 19, 20, 110, 111, 112, 113, 114, 115, 116, 117, 118, 119, 120, 121, 122, 123, 124, 125] rfl (by decide +kernel)) (goodIn_sub (fun _ h => List.mem_cons_of_mem _ (List.mem_append_right _ h)) (by decide +kernel))
set_option maxRecDepth 20000 in
theorem gX8_appeal_X8_noticeNow : GoodIn wsX8_appeal (wsV RX8 110 RX8 yX8_noticeNow wsX8_noticeNow) := goodIn_app (goodIn_of _ (by decide +kernel)) ggX8_appeal_X8_noticeNow
set_option maxRecDepth 20000 in
theorem ggX8_appeal_X2_record : GoodIn wsX8_appeal wsX2_record := goodIn_r _ [25, 26, 27, 28, 29, 30, 24, 31, 32, 10, 33, 34, 35, 36, 18, 37, 38, 39, 40, 41, 42, 43, 44, 45, 46, 20, 47, 48, 49, 50, 51, 52, 53, 54, 55, 56, 57, 58, 59, 60, 61, 62, 63, 64, 65, 66, 67, 68, 69, 70, 71, 72, 73, 74, 75, 76, 77, 78, 79, 80, 81, 82, 83, 84, 85, 86, 87, 88, 89, 90, 91, 92, 126, 127, 116, 117, 118, 119, 120, 121, 122, 123, 124, 125, 128, 129, 130, 131, 132, 133, 134, 135, 136, 137, 138, 139, 140, 141, 104, 105, 106, 107, 108, 109] rfl (by decide +kernel)
set_option maxRecDepth 20000 in
theorem gX8_appeal_X2_record : GoodIn wsX8_appeal (wsV RX8 56 RX2 yX2_record wsX2_record) := goodIn_app (goodIn_of _ (by decide +kernel)) ggX8_appeal_X2_record
set_option maxRecDepth 20000 in
theorem ggX8_appeal_X6_decide : GoodIn wsX8_appeal wsX6_decide := goodIn_r _ [96, 97, 98, 99, 100, 101, 38, 102, 103, 32, 10, 33, 104, 105, 106, 107, 108, 109, 116, 117, 118, 119, 120, 121, 122, 123, 124, 125, 128, 129, 130, 131, 132, 133, 134, 135] rfl (by decide +kernel)
set_option maxRecDepth 20000 in
theorem gX8_appeal_X6_decide : GoodIn wsX8_appeal (wsV RX8 127 RX6 yX6_decide wsX6_decide) := goodIn_app (goodIn_of _ (by decide +kernel)) ggX8_appeal_X6_decide
set_option maxRecDepth 20000 in
theorem ggX8_shadeOf_X8_chimneyOn : GoodIn wsX8_shadeOf wsX8_chimneyOn := goodIn_ca (goodIn_r _ [5, 6, 7, 8, 9, 10, 4, 11, 41, 42, 43, 44, 45, 46, 47, 48, 49, 50] rfl (by decide +kernel)) (goodIn_sub (fun _ h => List.mem_cons_of_mem _ (List.mem_append_left _ (List.mem_append_right _ h))) (by decide +kernel))
set_option maxRecDepth 20000 in
theorem gX8_shadeOf_X8_chimneyOn : GoodIn wsX8_shadeOf (va_wsS RX8 44 yX8_chimneyOn wsX8_chimneyOn) := goodIn_app (goodIn_of _ (by decide +kernel)) ggX8_shadeOf_X8_chimneyOn
set_option maxRecDepth 20000 in
theorem ggX8_shadeOf_X8_isTick : GoodIn wsX8_shadeOf wsX8_isTick := goodIn_r _ [14, 9, 10, 4, 11] rfl (by decide +kernel)
set_option maxRecDepth 20000 in
theorem gX8_shadeOf_X8_isTick : GoodIn wsX8_shadeOf (va_wsS RX8 169 yX8_isTick wsX8_isTick) := goodIn_app (goodIn_of _ (by decide +kernel)) ggX8_shadeOf_X8_isTick
set_option maxRecDepth 20000 in
theorem ggX8_shadeOf_X8_demand : GoodIn wsX8_shadeOf wsX8_demand := goodIn_ca (goodIn_r _ [17, 18, 19] rfl (by decide +kernel)) (goodIn_sub (fun _ h => List.mem_cons_of_mem _ (List.mem_append_right _ h)) (by decide +kernel))
set_option maxRecDepth 20000 in
theorem gX8_shadeOf_X8_demand : GoodIn wsX8_shadeOf (va_wsS RX8 52 yX8_demand wsX8_demand) := goodIn_app (goodIn_of _ (by decide +kernel)) ggX8_shadeOf_X8_demand
set_option maxRecDepth 20000 in
theorem ggX8_shadeOf_X0_shadeAt : GoodIn wsX8_shadeOf wsX0_shadeAt := goodIn_r _ [24, 25, 26, 27, 28, 29, 30, 23, 31, 32, 33, 4, 34, 51, 52, 53, 54, 55, 56, 57, 58] rfl (by decide +kernel)
set_option maxRecDepth 20000 in
theorem gX8_shadeOf_X0_shadeAt : GoodIn wsX8_shadeOf (wsV RX8 78 RX0 yX0_shadeAt wsX0_shadeAt) := goodIn_app (goodIn_of _ (by decide +kernel)) ggX8_shadeOf_X0_shadeAt
set_option maxRecDepth 20000 in
theorem ggX8_nextStoking_X8_chimneyOn : GoodIn wsX8_nextStoking wsX8_chimneyOn := goodIn_ca (goodIn_r _ [5, 6, 7, 8, 9, 10, 4, 11, 37, 38, 39, 40, 41, 42, 43, 44, 45, 46] rfl (by decide +kernel)) (goodIn_sub (fun _ h => List.mem_cons_of_mem _ (List.mem_append_left _ (List.mem_append_right _ h))) (by decide +kernel))
set_option maxRecDepth 20000 in
theorem gX8_nextStoking_X8_chimneyOn : GoodIn wsX8_nextStoking (va_wsS RX8 44 yX8_chimneyOn wsX8_chimneyOn) := goodIn_app (goodIn_of _ (by decide +kernel)) ggX8_nextStoking_X8_chimneyOn
set_option maxRecDepth 20000 in
theorem ggX8_nextStoking_X8_isTick : GoodIn wsX8_nextStoking wsX8_isTick := goodIn_r _ [14, 9, 10, 4, 11] rfl (by decide +kernel)
set_option maxRecDepth 20000 in
theorem gX8_nextStoking_X8_isTick : GoodIn wsX8_nextStoking (va_wsS RX8 169 yX8_isTick wsX8_isTick) := goodIn_app (goodIn_of _ (by decide +kernel)) ggX8_nextStoking_X8_isTick
set_option maxRecDepth 20000 in
theorem ggX8_nextStoking_X8_demand : GoodIn wsX8_nextStoking wsX8_demand := goodIn_ca (goodIn_r _ [17, 18, 19] rfl (by decide +kernel)) (goodIn_sub (fun _ h => List.mem_cons_of_mem _ (List.mem_append_right _ h)) (by decide +kernel))
set_option maxRecDepth 20000 in
theorem gX8_nextStoking_X8_demand : GoodIn wsX8_nextStoking (va_wsS RX8 52 yX8_demand wsX8_demand) := goodIn_app (goodIn_of _ (by decide +kernel)) ggX8_nextStoking_X8_demand
set_option maxRecDepth 20000 in
theorem ggX8_nextStoking_X0_stokedFrom : GoodIn wsX8_nextStoking wsX0_stokedFrom := goodIn_r _ [24, 25, 26, 27, 28, 29, 23, 30, 13, 4, 14, 9, 10, 11, 47, 48, 49, 50, 51, 52, 53, 54] rfl (by decide +kernel)
set_option maxRecDepth 20000 in
theorem gX8_nextStoking_X0_stokedFrom : GoodIn wsX8_nextStoking (wsV RX8 173 RX0 yX0_stokedFrom wsX0_stokedFrom) := goodIn_app (goodIn_of _ (by decide +kernel)) ggX8_nextStoking_X0_stokedFrom
set_option maxRecDepth 20000 in
theorem ggX8_smoke_X8_chimneyOn : GoodIn wsX8_smoke wsX8_chimneyOn := goodIn_ca (goodIn_r _ [5, 6, 7, 8, 9, 10, 4, 11, 58, 59, 60, 61, 62, 63, 64, 65, 66, 67] rfl (by decide +kernel)) (goodIn_sub (fun _ h => List.mem_cons_of_mem _ (List.mem_append_left _ (List.mem_append_right _ h))) (by decide +kernel))
set_option maxRecDepth 20000 in
theorem gX8_smoke_X8_chimneyOn : GoodIn wsX8_smoke (va_wsS RX8 44 yX8_chimneyOn wsX8_chimneyOn) := goodIn_app (goodIn_of _ (by decide +kernel)) ggX8_smoke_X8_chimneyOn
set_option maxRecDepth 20000 in
theorem ggX8_smoke_X8_isTick : GoodIn wsX8_smoke wsX8_isTick := goodIn_r _ [14, 9, 10, 4, 11] rfl (by decide +kernel)
set_option maxRecDepth 20000 in
theorem gX8_smoke_X8_isTick : GoodIn wsX8_smoke (va_wsS RX8 169 yX8_isTick wsX8_isTick) := goodIn_app (goodIn_of _ (by decide +kernel)) ggX8_smoke_X8_isTick
set_option maxRecDepth 20000 in
theorem ggX8_smoke_X8_demand : GoodIn wsX8_smoke wsX8_demand := goodIn_ca (goodIn_r _ [17, 18, 19] rfl (by decide +kernel)) (goodIn_sub (fun _ h => List.mem_cons_of_mem _ (List.mem_append_right _ h)) (by decide +kernel))
set_option maxRecDepth 20000 in
theorem gX8_smoke_X8_demand : GoodIn wsX8_smoke (va_wsS RX8 52 yX8_demand wsX8_demand) := goodIn_app (goodIn_of _ (by decide +kernel)) ggX8_smoke_X8_demand
set_option maxRecDepth 20000 in
theorem ggX8_smoke_X0_smokeByTurns : GoodIn wsX8_smoke wsX0_smokeByTurns := goodIn_r _ [24, 25, 26, 27, 28, 29, 30, 31, 32, 33, 23, 34, 35, 36, 37, 38, 39, 40, 41, 42, 43, 44, 45, 4, 46, 47, 48, 49, 50, 68, 69, 70, 71, 72, 73, 74, 75] rfl (by decide +kernel)
set_option maxRecDepth 20000 in
theorem gX8_smoke_X0_smokeByTurns : GoodIn wsX8_smoke (wsV RX8 176 RX0 yX0_smokeByTurns wsX0_smokeByTurns) := goodIn_app (goodIn_of _ (by decide +kernel)) ggX8_smoke_X0_smokeByTurns
set_option maxRecDepth 20000 in
theorem ggX8_smoke_X0_smokeByTicks : GoodIn wsX8_smoke wsX0_smokeByTicks := goodIn_r _ [34, 35, 36, 37, 23, 38, 25, 39, 40, 41, 42, 43, 44, 30, 45, 4, 46, 68, 69, 70, 71, 72, 73, 74, 75] rfl (by decide +kernel)
set_option maxRecDepth 20000 in
theorem gX8_smoke_X0_smokeByTicks : GoodIn wsX8_smoke (wsV RX8 180 RX0 yX0_smokeByTicks wsX0_smokeByTicks) := goodIn_app (goodIn_of _ (by decide +kernel)) ggX8_smoke_X0_smokeByTicks
set_option maxRecDepth 20000 in
theorem ggX8_greyOf_X8_isWithin : GoodIn wsX8_greyOf wsX8_isWithin := goodIn_r _ [5] rfl (by decide +kernel)
set_option maxRecDepth 20000 in
theorem gX8_greyOf_X8_isWithin : GoodIn wsX8_greyOf (va_wsS RX8 48 yX8_isWithin wsX8_isWithin) := goodIn_app (goodIn_of _ (by decide +kernel)) ggX8_greyOf_X8_isWithin
set_option maxRecDepth 20000 in
theorem ggX8_greyOf_X8_demand : GoodIn wsX8_greyOf wsX8_demand := goodIn_ca (goodIn_r _ [8, 9, 10] rfl (by decide +kernel)) (goodIn_sub (fun _ h => List.mem_cons_of_mem _ (List.mem_append_right _ h)) (by decide +kernel))
set_option maxRecDepth 20000 in
theorem gX8_greyOf_X8_demand : GoodIn wsX8_greyOf (va_wsS RX8 52 yX8_demand wsX8_demand) := goodIn_app (goodIn_of _ (by decide +kernel)) ggX8_greyOf_X8_demand
set_option maxRecDepth 20000 in
theorem ggX8_greyOf_X6_greyInHour : GoodIn wsX8_greyOf wsX6_greyInHour := goodIn_r _ [15, 16, 23, 24, 25, 26, 27, 28, 29, 30, 31, 32] rfl (by decide +kernel)
set_option maxRecDepth 20000 in
theorem gX8_greyOf_X6_greyInHour : GoodIn wsX8_greyOf (wsV RX8 82 RX6 yX6_greyInHour wsX6_greyInHour) := goodIn_app (goodIn_of _ (by decide +kernel)) ggX8_greyOf_X6_greyInHour
set_option maxRecDepth 20000 in
theorem ggX8_watchedBy_X8_observerNow : GoodIn wsX8_watchedBy wsX8_observerNow := goodIn_ca (goodIn_r _ [6, 7, 8, 9, 10, 11, 12, 5, 13, 19, 20, 21, 22, 23, 24, 25, 26, 27, 28, 29, 30, 31, 32, 33, 34] rfl (by decide +kernel)) (goodIn_sub (fun _ h => List.mem_cons_of_mem _ (List.mem_append_right _ h)) (by decide +kernel))
set_option maxRecDepth 20000 in
theorem gX8_watchedBy_X8_observerNow : GoodIn wsX8_watchedBy (wsV RX8 89 RX8 yX8_observerNow wsX8_observerNow) := goodIn_app (goodIn_of _ (by decide +kernel)) ggX8_watchedBy_X8_observerNow
set_option maxRecDepth 20000 in
theorem ggX8_tirednessOf_X8_observerNow : GoodIn wsX8_tirednessOf wsX8_observerNow := goodIn_ca (goodIn_r _ [6, 7, 8, 9, 10, 11, 12, 5, 13, 19, 20, 21, 22, 23, 24, 25, 26, 27, 28, 29, 30, 31, 32, 33, 34] rfl (by decide +kernel)) (goodIn_sub (fun _ h => List.mem_cons_of_mem _ (List.mem_append_right _ h)) (by decide +kernel))
set_option maxRecDepth 20000 in
theorem gX8_tirednessOf_X8_observerNow : GoodIn wsX8_tirednessOf (wsV RX8 89 RX8 yX8_observerNow wsX8_observerNow) := goodIn_app (goodIn_of _ (by decide +kernel)) ggX8_tirednessOf_X8_observerNow
set_option maxRecDepth 20000 in
theorem ggX8_wouldRead_X8_observerNow : GoodIn wsX8_wouldRead wsX8_observerNow := goodIn_ca (goodIn_r _ [7, 8, 9, 1, 10, 11, 12, 6, 13, 50, 51, 52, 53, 54, 55, 56, 57, 58, 59, 60, 61, 62, 63, 64, 65] rfl (by decide +kernel)) (goodIn_sub (fun _ h => List.mem_cons_of_mem _ (List.mem_append_right _ h)) (by decide +kernel))
set_option maxRecDepth 20000 in
theorem gX8_wouldRead_X8_observerNow : GoodIn wsX8_wouldRead (wsV RX8 89 RX8 yX8_observerNow wsX8_observerNow) := goodIn_app (goodIn_of _ (by decide +kernel)) ggX8_wouldRead_X8_observerNow
set_option maxRecDepth 20000 in
theorem ggX8_wouldRead_X8_chimneyOn : GoodIn wsX8_wouldRead wsX8_chimneyOn := goodIn_ca (goodIn_r _ [16, 8, 9, 17, 11, 12, 6, 13, 56, 57, 58, 59, 60, 61, 62, 63, 64, 65] rfl (by decide +kernel)) (goodIn_sub (fun _ h => List.mem_cons_of_mem _ (List.mem_append_right _ h)) (by decide +kernel))
set_option maxRecDepth 20000 in
theorem gX8_wouldRead_X8_chimneyOn : GoodIn wsX8_wouldRead (va_wsS RX8 44 yX8_chimneyOn wsX8_chimneyOn) := goodIn_app (goodIn_of _ (by decide +kernel)) ggX8_wouldRead_X8_chimneyOn
set_option maxRecDepth 20000 in
theorem ggX8_wouldRead_X0_shadeAt : GoodIn wsX8_wouldRead wsX0_shadeAt := goodIn_r _ [22, 23, 24, 25, 26, 27, 28, 21, 29, 30, 31, 6, 32, 66, 67, 68, 69, 70, 71, 72, 73] rfl (by decide +kernel)
set_option maxRecDepth 20000 in
theorem gX8_wouldRead_X0_shadeAt : GoodIn wsX8_wouldRead (wsV RX8 78 RX0 yX0_shadeAt wsX0_shadeAt) := goodIn_app (goodIn_of _ (by decide +kernel)) ggX8_wouldRead_X0_shadeAt
set_option maxRecDepth 20000 in
theorem ggX8_wouldRead_X6_greyAtTick : GoodIn wsX8_wouldRead wsX6_greyAtTick := goodIn_r _ [37, 38, 39, 40, 36, 41, 42, 56, 57, 58, 59, 60, 61, 62, 63, 64, 65] rfl (by decide +kernel)
set_option maxRecDepth 20000 in
theorem gX8_wouldRead_X6_greyAtTick : GoodIn wsX8_wouldRead (wsV RX8 189 RX6 yX6_greyAtTick wsX6_greyAtTick) := goodIn_app (goodIn_of _ (by decide +kernel)) ggX8_wouldRead_X6_greyAtTick
set_option maxRecDepth 20000 in
theorem ggX8_wouldRead_X4_readingFor : GoodIn wsX8_wouldRead wsX4_readingFor := goodIn_r _ [47, 48, 49, 31, 6, 32, 74, 75, 76, 77, 78] rfl (by decide +kernel)
set_option maxRecDepth 20000 in
theorem gX8_wouldRead_X4_readingFor : GoodIn wsX8_wouldRead (wsV RX8 192 RX4 yX4_readingFor wsX4_readingFor) := goodIn_app (goodIn_of _ (by decide +kernel)) ggX8_wouldRead_X4_readingFor
set_option maxRecDepth 20000 in
theorem ggX8_readingOf_X8_chimneyOn : GoodIn wsX8_readingOf wsX8_chimneyOn := goodIn_ca (goodIn_r _ [6, 7, 8, 9, 10, 11, 5, 12, 41, 42, 43, 44, 45, 46, 47, 48, 49, 50] rfl (by decide +kernel)) (goodIn_sub (fun _ h => List.mem_cons_of_mem _ (List.mem_append_left _ (List.mem_append_right _ h))) (by decide +kernel))
set_option maxRecDepth 20000 in
theorem gX8_readingOf_X8_chimneyOn : GoodIn wsX8_readingOf (va_wsS RX8 44 yX8_chimneyOn wsX8_chimneyOn) := goodIn_app (goodIn_of _ (by decide +kernel)) ggX8_readingOf_X8_chimneyOn
set_option maxRecDepth 20000 in
theorem ggX8_readingOf_X8_isTick : GoodIn wsX8_readingOf wsX8_isTick := goodIn_r _ [15, 10, 11, 5, 12] rfl (by decide +kernel)
set_option maxRecDepth 20000 in
theorem gX8_readingOf_X8_isTick : GoodIn wsX8_readingOf (va_wsS RX8 169 yX8_isTick wsX8_isTick) := goodIn_app (goodIn_of _ (by decide +kernel)) ggX8_readingOf_X8_isTick
set_option maxRecDepth 20000 in
theorem ggX8_readingOf_X8_demand : GoodIn wsX8_readingOf wsX8_demand := goodIn_ca (goodIn_r _ [18, 19, 20] rfl (by decide +kernel)) (goodIn_sub (fun _ h => List.mem_cons_of_mem _ (List.mem_append_right _ h)) (by decide +kernel))
set_option maxRecDepth 20000 in
theorem gX8_readingOf_X8_demand : GoodIn wsX8_readingOf (va_wsS RX8 52 yX8_demand wsX8_demand) := goodIn_app (goodIn_of _ (by decide +kernel)) ggX8_readingOf_X8_demand
set_option maxRecDepth 20000 in
theorem ggX8_readingOf_X1_at : GoodIn wsX8_readingOf wsX1_at := goodIn_r _ [25, 26, 51] rfl (by decide +kernel)
set_option maxRecDepth 20000 in
theorem gX8_readingOf_X1_at : GoodIn wsX8_readingOf (wsV RX8 199 RX1 yX1_at wsX1_at) := goodIn_app (goodIn_of _ (by decide +kernel)) ggX8_readingOf_X1_at
set_option maxRecDepth 20000 in
theorem ggX8_readingsFrom_X8_chimneyOn : GoodIn wsX8_readingsFrom wsX8_chimneyOn := goodIn_ca (goodIn_r _ [6, 7, 8, 9, 10, 11, 5, 12, 38, 39, 40, 41, 42, 43, 44, 45, 46, 47] rfl (by decide +kernel)) (goodIn_sub (fun _ h => List.mem_cons_of_mem _ (List.mem_append_left _ (List.mem_append_right _ h))) (by decide +kernel))
set_option maxRecDepth 20000 in
theorem gX8_readingsFrom_X8_chimneyOn : GoodIn wsX8_readingsFrom (va_wsS RX8 44 yX8_chimneyOn wsX8_chimneyOn) := goodIn_app (goodIn_of _ (by decide +kernel)) ggX8_readingsFrom_X8_chimneyOn
set_option maxRecDepth 20000 in
theorem ggX8_readingsFrom_X8_isWithin : GoodIn wsX8_readingsFrom wsX8_isWithin := goodIn_r _ [12] rfl (by decide +kernel)
set_option maxRecDepth 20000 in
theorem gX8_readingsFrom_X8_isWithin : GoodIn wsX8_readingsFrom (va_wsS RX8 48 yX8_isWithin wsX8_isWithin) := goodIn_app (goodIn_of _ (by decide +kernel)) ggX8_readingsFrom_X8_isWithin
set_option maxRecDepth 20000 in
theorem ggX8_readingsFrom_X8_demand : GoodIn wsX8_readingsFrom wsX8_demand := goodIn_ca (goodIn_r _ [15, 16, 17] rfl (by decide +kernel)) (goodIn_sub (fun _ h => List.mem_cons_of_mem _ (List.mem_append_right _ h)) (by decide +kernel))
set_option maxRecDepth 20000 in
theorem gX8_readingsFrom_X8_demand : GoodIn wsX8_readingsFrom (va_wsS RX8 52 yX8_demand wsX8_demand) := goodIn_app (goodIn_of _ (by decide +kernel)) ggX8_readingsFrom_X8_demand
set_option maxRecDepth 20000 in
theorem ggX8_readingsFrom_X1_countFrom : GoodIn wsX8_readingsFrom wsX1_countFrom := goodIn_r _ [22, 23, 48] rfl (by decide +kernel)
set_option maxRecDepth 20000 in
theorem gX8_readingsFrom_X1_countFrom : GoodIn wsX8_readingsFrom (wsV RX8 204 RX1 yX1_countFrom wsX1_countFrom) := goodIn_app (goodIn_of _ (by decide +kernel)) ggX8_readingsFrom_X1_countFrom
set_option maxRecDepth 20000 in
theorem ggX8_longestRow_X8_chimneyOn : GoodIn wsX8_longestRow wsX8_chimneyOn := goodIn_ca (goodIn_r _ [6, 7, 8, 9, 10, 11, 5, 12, 46, 47, 48, 49, 50, 51, 52, 53, 54, 55] rfl (by decide +kernel)) (goodIn_sub (fun _ h => List.mem_cons_of_mem _ (List.mem_append_left _ (List.mem_append_right _ h))) (by decide +kernel))
set_option maxRecDepth 20000 in
theorem gX8_longestRow_X8_chimneyOn : GoodIn wsX8_longestRow (va_wsS RX8 44 yX8_chimneyOn wsX8_chimneyOn) := goodIn_app (goodIn_of _ (by decide +kernel)) ggX8_longestRow_X8_chimneyOn
set_option maxRecDepth 20000 in
theorem ggX8_longestRow_X8_isWithin : GoodIn wsX8_longestRow wsX8_isWithin := goodIn_r _ [12] rfl (by decide +kernel)
set_option maxRecDepth 20000 in
theorem gX8_longestRow_X8_isWithin : GoodIn wsX8_longestRow (va_wsS RX8 48 yX8_isWithin wsX8_isWithin) := goodIn_app (goodIn_of _ (by decide +kernel)) ggX8_longestRow_X8_isWithin
set_option maxRecDepth 20000 in
theorem ggX8_longestRow_X8_demand : GoodIn wsX8_longestRow wsX8_demand := goodIn_ca (goodIn_r _ [15, 16, 17] rfl (by decide +kernel)) (goodIn_sub (fun _ h => List.mem_cons_of_mem _ (List.mem_append_right _ h)) (by decide +kernel))
set_option maxRecDepth 20000 in
theorem gX8_longestRow_X8_demand : GoodIn wsX8_longestRow (va_wsS RX8 52 yX8_demand wsX8_demand) := goodIn_app (goodIn_of _ (by decide +kernel)) ggX8_longestRow_X8_demand
set_option maxRecDepth 20000 in
theorem ggX8_longestRow_X1_longestByRows : GoodIn wsX8_longestRow wsX1_longestByRows := goodIn_r _ [22, 23, 24, 25, 26, 27, 56] rfl (by decide +kernel)
set_option maxRecDepth 20000 in
theorem gX8_longestRow_X1_longestByRows : GoodIn wsX8_longestRow (wsV RX8 207 RX1 yX1_longestByRows wsX1_longestByRows) := goodIn_app (goodIn_of _ (by decide +kernel)) ggX8_longestRow_X1_longestByRows
set_option maxRecDepth 20000 in
theorem ggX8_longestRow_X1_longestByTicks : GoodIn wsX8_longestRow wsX1_longestByTicks := goodIn_r _ [31, 23, 24, 25, 26, 27, 56] rfl (by decide +kernel)
set_option maxRecDepth 20000 in
theorem gX8_longestRow_X1_longestByTicks : GoodIn wsX8_longestRow (wsV RX8 210 RX1 yX1_longestByTicks wsX1_longestByTicks) := goodIn_app (goodIn_of _ (by decide +kernel)) ggX8_longestRow_X1_longestByTicks
set_option maxRecDepth 20000 in
theorem ggX8_errorsOf_X8_observerNow : GoodIn wsX8_errorsOf wsX8_observerNow := goodIn_ca (goodIn_r _ [6, 7, 8, 9, 10, 11, 12, 5, 13, 19, 20, 21, 22, 23, 24, 25, 26, 27, 28, 29, 30, 31, 32, 33, 34] rfl (by decide +kernel)) (goodIn_sub (fun _ h => List.mem_cons_of_mem _ (List.mem_append_right _ h)) (by decide +kernel))
set_option maxRecDepth 20000 in
theorem gX8_errorsOf_X8_observerNow : GoodIn wsX8_errorsOf (wsV RX8 89 RX8 yX8_observerNow wsX8_observerNow) := goodIn_app (goodIn_of _ (by decide +kernel)) ggX8_errorsOf_X8_observerNow
set_option maxRecDepth 20000 in
theorem ggX8_chimneyOf_X8_noticeNow : GoodIn wsX8_chimneyOf wsX8_noticeNow := goodIn_ca (goodIn_r _ [6, 7, 8, 9, 10, 11, 12, 13, 14, 15, 16, 23, 24, 25, 26, 27, 28, 29, 30, 31, 32, 33, 34, 35, 36, 37, 38] rfl (by decide +kernel)) (goodIn_sub (fun _ h => List.mem_cons_of_mem _ (List.mem_append_right _ h)) (by decide +kernel))
set_option maxRecDepth 20000 in
theorem gX8_chimneyOf_X8_noticeNow : GoodIn wsX8_chimneyOf (wsV RX8 110 RX8 yX8_noticeNow wsX8_noticeNow) := goodIn_app (goodIn_of _ (by decide +kernel)) ggX8_chimneyOf_X8_noticeNow
set_option maxRecDepth 20000 in
theorem ggX8_fineOf_X8_noticeNow : GoodIn wsX8_fineOf wsX8_noticeNow := goodIn_ca (goodIn_r _ [6, 7, 8, 9, 10, 11, 12, 13, 14, 15, 16, 23, 24, 25, 26, 27, 28, 29, 30, 31, 32, 33, 34, 35, 36, 37, 38] rfl (by decide +kernel)) (goodIn_sub (fun _ h => List.mem_cons_of_mem _ (List.mem_append_right _ h)) (by decide +kernel))
set_option maxRecDepth 20000 in
theorem gX8_fineOf_X8_noticeNow : GoodIn wsX8_fineOf (wsV RX8 110 RX8 yX8_noticeNow wsX8_noticeNow) := goodIn_app (goodIn_of _ (by decide +kernel)) ggX8_fineOf_X8_noticeNow
set_option maxRecDepth 20000 in
theorem ggX8_stands_X8_noticeNow : GoodIn wsX8_stands wsX8_noticeNow := goodIn_ca (goodIn_r _ [6, 7, 8, 9, 10, 11, 12, 13, 14, 15, 16, 23, 24, 25, 26, 27, 28, 29, 30, 31, 32, 33, 34, 35, 36, 37, 38] rfl (by decide +kernel)) (goodIn_sub (fun _ h => List.mem_cons_of_mem _ (List.mem_append_right _ h)) (by decide +kernel))
set_option maxRecDepth 20000 in
theorem gX8_stands_X8_noticeNow : GoodIn wsX8_stands (wsV RX8 110 RX8 yX8_noticeNow wsX8_noticeNow) := goodIn_app (goodIn_of _ (by decide +kernel)) ggX8_stands_X8_noticeNow
set_option maxRecDepth 20000 in
theorem ggX8_wouldAppeal_X8_noticeNow : GoodIn wsX8_wouldAppeal wsX8_noticeNow := goodIn_ca (goodIn_r _ [5, 6, 7, 8, 9, 10, 11, 12, 13, 14, 15, 24, 25, 26, 27, 28, 29, 30, 31, 32, 33, 34, 35, 36, 37, 38, 39] rfl (by decide +kernel)) (goodIn_sub (fun _ h => List.mem_cons_of_mem _ (List.mem_append_right _ h)) (by decide +kernel))
set_option maxRecDepth 20000 in
theorem gX8_wouldAppeal_X8_noticeNow : GoodIn wsX8_wouldAppeal (wsV RX8 110 RX8 yX8_noticeNow wsX8_noticeNow) := goodIn_app (goodIn_of _ (by decide +kernel)) ggX8_wouldAppeal_X8_noticeNow
set_option maxRecDepth 20000 in
theorem ggX8_wouldAppeal_X3_outcome : GoodIn wsX8_wouldAppeal wsX3_outcome := goodIn_r _ [20, 21, 22, 23, 40, 41, 42, 43, 44, 45] rfl (by decide +kernel)
set_option maxRecDepth 20000 in
theorem gX8_wouldAppeal_X3_outcome : GoodIn wsX8_wouldAppeal (wsV RX8 225 RX3 yX3_outcome wsX3_outcome) := goodIn_app (goodIn_of _ (by decide +kernel)) ggX8_wouldAppeal_X3_outcome
set_option maxRecDepth 20000 in
theorem ggX8_finesOf_X8_chimneyOn : GoodIn wsX8_finesOf wsX8_chimneyOn := goodIn_ca (goodIn_r _ [5, 6, 7, 8, 9, 10, 4, 11, 35, 36, 37, 38, 39, 40, 41, 42, 43, 44] rfl (by decide +kernel)) (goodIn_sub (fun _ h => List.mem_cons_of_mem _ (List.mem_append_right _ h)) (by decide +kernel))
set_option maxRecDepth 20000 in
theorem gX8_finesOf_X8_chimneyOn : GoodIn wsX8_finesOf (va_wsS RX8 44 yX8_chimneyOn wsX8_chimneyOn) := goodIn_app (goodIn_of _ (by decide +kernel)) ggX8_finesOf_X8_chimneyOn
set_option maxRecDepth 20000 in
theorem ggX8_finesOf_X0_finesByAccounts : GoodIn wsX8_finesOf wsX0_finesByAccounts := goodIn_r _ [16, 17, 18, 45, 46, 47, 48, 49, 50, 51, 52] rfl (by decide +kernel)
set_option maxRecDepth 20000 in
theorem gX8_finesOf_X0_finesByAccounts : GoodIn wsX8_finesOf (wsV RX8 228 RX0 yX0_finesByAccounts wsX0_finesByAccounts) := goodIn_app (goodIn_of _ (by decide +kernel)) ggX8_finesOf_X0_finesByAccounts
set_option maxRecDepth 20000 in
theorem ggX8_finesOf_X6_finesByNotices : GoodIn wsX8_finesOf wsX6_finesByNotices := goodIn_r _ [23, 24, 25, 26, 27, 28, 35, 36, 37, 38, 39, 40, 41, 42, 43, 44, 53, 54, 55, 56, 57, 58] rfl (by decide +kernel)
set_option maxRecDepth 20000 in
theorem gX8_finesOf_X6_finesByNotices : GoodIn wsX8_finesOf (wsV RX8 231 RX6 yX6_finesByNotices wsX6_finesByNotices) := goodIn_app (goodIn_of _ (by decide +kernel)) ggX8_finesOf_X6_finesByNotices
set_option maxRecDepth 20000 in
theorem ggX8_undo_X2_giveBack : GoodIn wsX8_undo wsX2_giveBack := goodIn_r _ [10, 11, 12, 13, 14, 15, 16, 17, 18, 19, 20, 21, 22, 23, 24, 25, 26, 27, 28, 29, 30, 31, 32, 33, 34, 35, 36, 37, 38, 39, 40, 41, 42, 43, 44, 45, 46, 47, 48, 49, 50, 51, 52, 53, 54, 55, 56, 57, 58, 59, 60, 61, 62, 63, 64, 65, 66, 67, 68, 69, 70, 71, 72, 73, 74, 75, 76, 83, 84, 85, 86, 87, 88, 89, 90, 91, 92, 93, 94, 95, 96, 97, 98, 99, 100, 101, 102, 103, 104, 105, 106, 107, 108, 109, 110, 111, 112, 113, 114] rfl (by decide +kernel)
set_option maxRecDepth 20000 in
theorem gX8_undo_X2_giveBack : GoodIn wsX8_undo (wsV RX8 285 RX2 yX2_giveBack wsX2_giveBack) := goodIn_app (goodIn_of _ (by decide +kernel)) ggX8_undo_X2_giveBack
set_option maxRecDepth 20000 in
theorem ggX8_save_X8_slotNumbered : GoodIn wsX8_save wsX8_slotNumbered := goodIn_ca (goodIn_r _ [8, 9, 10, 11, 12, 13, 7, 14, 83, 84, 85, 86, 87, 88] rfl (by decide +kernel)) (goodIn_sub (fun _ h => List.mem_cons_of_mem _ (List.mem_append_right _ h)) (by decide +kernel))
set_option maxRecDepth 20000 in
theorem gX8_save_X8_slotNumbered : GoodIn wsX8_save (wsV RX8 288 RX8 yX8_slotNumbered wsX8_slotNumbered) := goodIn_app (goodIn_of _ (by decide +kernel)) ggX8_save_X8_slotNumbered
set_option maxRecDepth 20000 in
theorem ggX8_save_X6_copyFrom : GoodIn wsX8_save wsX6_copyFrom := goodIn_r _ [19, 20, 21, 22, 23, 24, 25, 26, 27, 28, 29, 30, 31, 32, 33, 34, 35, 36, 37, 38, 39, 40, 41, 42, 43, 44, 45, 46, 47, 48, 49, 50, 51, 52, 53, 54, 55, 56, 57, 58, 59, 60, 61, 62, 63, 64, 65, 66, 67, 68, 69, 70, 71, 72, 73, 74, 75, 89, 90, 91, 92, 93, 94, 95, 96, 97, 98, 99, 100, 101, 102, 103, 104, 105, 106, 107, 108, 109, 110, 111, 112, 113, 114, 115, 116, 117, 118] rfl (by decide +kernel)
set_option maxRecDepth 20000 in
theorem gX8_save_X6_copyFrom : GoodIn wsX8_save (wsV RX8 252 RX6 yX6_copyFrom wsX6_copyFrom) := goodIn_app (goodIn_of _ (by decide +kernel)) ggX8_save_X6_copyFrom
set_option maxRecDepth 20000 in
theorem ggX8_save_X6_standingCount : GoodIn wsX8_save wsX6_standingCount := goodIn_r _ [79, 29, 22, 80, 89, 90, 91, 92, 93, 94, 95, 96, 97, 98, 113, 114, 115, 116, 117, 118] rfl (by decide +kernel)
set_option maxRecDepth 20000 in
theorem gX8_save_X6_standingCount : GoodIn wsX8_save (wsV RX8 298 RX6 yX6_standingCount wsX6_standingCount) := goodIn_app (goodIn_of _ (by decide +kernel)) ggX8_save_X6_standingCount
set_option maxRecDepth 20000 in
theorem ggX8_restore_X8_slotNumbered : GoodIn wsX8_restore wsX8_slotNumbered := goodIn_ca (goodIn_r _ [11, 12, 13, 14, 15, 16, 10, 17, 98, 99, 100, 101, 102, 103] rfl (by decide +kernel)) (goodIn_sub (fun _ h => List.mem_cons_of_mem _ (List.mem_append_right _ h)) (by decide +kernel))
set_option maxRecDepth 20000 in
theorem gX8_restore_X8_slotNumbered : GoodIn wsX8_restore (wsV RX8 288 RX8 yX8_slotNumbered wsX8_slotNumbered) := goodIn_app (goodIn_of _ (by decide +kernel)) ggX8_restore_X8_slotNumbered
set_option maxRecDepth 20000 in
theorem ggX8_restore_X2_record : GoodIn wsX8_restore wsX2_record := goodIn_r _ [22, 23, 24, 25, 26, 27, 21, 28, 16, 10, 17, 29, 30, 31, 32, 33, 34, 35, 36, 37, 38, 39, 40, 41, 42, 43, 44, 45, 46, 47, 48, 49, 50, 51, 52, 53, 54, 55, 56, 57, 58, 59, 60, 61, 62, 63, 64, 65, 66, 67, 68, 69, 70, 71, 72, 73, 74, 75, 76, 77, 78, 79, 80, 81, 82, 83, 84, 85, 86, 87, 88, 89, 104, 105, 106, 107, 108, 109, 110, 111, 112, 113, 114, 115, 116, 117, 118, 119, 120, 121, 122, 123, 124, 125, 126, 127, 128, 129, 130, 131, 132, 133, 134, 135] rfl (by decide +kernel)
set_option maxRecDepth 20000 in
theorem gX8_restore_X2_record : GoodIn wsX8_restore (wsV RX8 56 RX2 yX2_record wsX2_record) := goodIn_app (goodIn_of _ (by decide +kernel)) ggX8_restore_X2_record
set_option maxRecDepth 20000 in
theorem ggX8_restore_X6_copyFrom : GoodIn wsX8_restore wsX6_copyFrom := goodIn_r _ [33, 34, 35, 36, 37, 38, 39, 40, 41, 42, 43, 44, 45, 46, 47, 48, 49, 50, 51, 52, 53, 54, 55, 56, 57, 58, 59, 60, 61, 62, 63, 64, 65, 66, 67, 68, 69, 70, 71, 72, 73, 74, 75, 76, 77, 78, 79, 80, 81, 82, 83, 84, 85, 86, 87, 88, 89, 106, 107, 108, 109, 110, 111, 112, 113, 114, 115, 116, 117, 118, 119, 120, 121, 122, 123, 124, 125, 126, 127, 128, 129, 130, 131, 132, 133, 134, 135] rfl (by decide +kernel)
set_option maxRecDepth 20000 in
theorem gX8_restore_X6_copyFrom : GoodIn wsX8_restore (wsV RX8 252 RX6 yX6_copyFrom wsX6_copyFrom) := goodIn_app (goodIn_of _ (by decide +kernel)) ggX8_restore_X6_copyFrom
set_option maxRecDepth 20000 in
theorem ggX8_restore_X6_standingCount : GoodIn wsX8_restore wsX6_standingCount := goodIn_r _ [94, 43, 36, 95, 106, 107, 108, 109, 110, 111, 112, 113, 114, 115, 130, 131, 132, 133, 134, 135] rfl (by decide +kernel)
set_option maxRecDepth 20000 in
theorem gX8_restore_X6_standingCount : GoodIn wsX8_restore (wsV RX8 298 RX6 yX6_standingCount wsX6_standingCount) := goodIn_app (goodIn_of _ (by decide +kernel)) ggX8_restore_X6_standingCount
