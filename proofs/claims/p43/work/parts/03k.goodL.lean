set_option maxRecDepth 20000 in
theorem ggL_call_L_setBias : GoodIn wsL_call wsL_setBias := goodIn_ca (goodIn_ca (goodIn_r _ [145, 5, 6, 146, 147, 148, 10, 149, 13, 12, 150, 138, 139, 140, 141, 22, 23, 142, 25, 26, 27, 28, 29, 30, 31, 32, 33, 34, 35, 36, 37, 38, 39, 40, 41, 42, 43, 44, 45, 46, 47, 48, 49, 50, 51, 52, 53, 54, 55, 56, 57, 58, 59, 60, 61, 62, 63, 64, 65, 66, 67, 68, 69, 70, 71, 72, 73, 74, 75, 76, 77, 78, 79, 80, 81, 82, 83, 84, 85, 86, 87, 88, 89, 90, 91, 92, 93, 94, 95, 96, 97, 98, 99, 100, 101, 102, 103, 104, 192, 193, 194, 195, 196, 197, 219, 220, 221, 222, 223, 206, 207, 208, 209, 210, 211, 212, 213, 214, 215, 216, 217, 198, 199, 200, 201, 202, 203, 204, 205, 218, 224, 225, 226, 227, 228, 229] rfl (by decide +kernel)) (goodIn_sub (fun _ h => List.mem_cons_of_mem _ (List.mem_append_left _ (List.mem_append_left _ (List.mem_append_right _ h)))) (by decide +kernel))) (goodIn_sub (fun _ h => List.mem_cons_of_mem _ (List.mem_append_left _ (List.mem_append_right _ h))) (by decide +kernel))
set_option maxRecDepth 20000 in
theorem gL_call_L_setBias : GoodIn wsL_call (va_wsS RL 133 yL_setBias wsL_setBias) := goodIn_app (goodIn_of _ (by decide +kernel)) ggL_call_L_setBias
set_option maxRecDepth 20000 in
theorem ggL_call_L_setLimit : GoodIn wsL_call wsL_setLimit := goodIn_ca (goodIn_r _ [153, 6, 154, 155, 156, 10, 157, 13, 12, 158, 159, 25, 26, 27, 28, 29, 30, 31, 32, 33, 34, 35, 36, 37, 38, 39, 40, 41, 42, 43, 44, 45, 46, 47, 48, 49, 50, 51, 52, 53, 54, 55, 56, 57, 58, 59, 60, 61, 62, 63, 64, 65, 66, 67, 68, 69, 70, 71, 72, 73, 74, 75, 76, 77, 78, 79, 80, 81, 82, 83, 84, 85, 86, 87, 88, 89, 90, 91, 92, 93, 94, 95, 96, 97, 98, 99, 100, 101, 102, 103, 104, 192, 193, 194, 195, 196, 197, 206, 207, 208, 209, 210, 211, 212, 213, 214, 215, 216, 217, 198, 199, 200, 201, 202, 203, 204, 205, 218, 219, 220, 221, 222, 223, 224, 225, 226, 227, 228, 229] rfl (by decide +kernel)) (goodIn_sub (fun _ h => List.mem_cons_of_mem _ (List.mem_append_left _ (List.mem_append_right _ h))) (by decide +kernel))
set_option maxRecDepth 20000 in
theorem gL_call_L_setLimit : GoodIn wsL_call (va_wsS RL 135 yL_setLimit wsL_setLimit) := goodIn_app (goodIn_of _ (by decide +kernel)) ggL_call_L_setLimit
set_option maxRecDepth 20000 in
theorem ggL_call_L_appeal : GoodIn wsL_call wsL_appeal := goodIn_ca (goodIn_ca (goodIn_r _ [162, 5, 163, 164, 165, 166, 10, 167, 168, 169, 170, 13, 12, 171, 172, 173, 174, 175, 22, 23, 176, 177, 178, 179, 47, 180, 58, 33, 34, 35, 36, 37, 38, 39, 40, 41, 42, 43, 26, 27, 44, 45, 46, 48, 49, 50, 51, 52, 53, 54, 55, 56, 57, 59, 60, 61, 62, 63, 64, 65, 66, 67, 68, 69, 70, 71, 72, 73, 74, 75, 76, 77, 78, 79, 80, 81, 82, 83, 84, 85, 86, 87, 88, 89, 90, 91, 92, 93, 94, 95, 96, 97, 98, 99, 100, 101, 102, 103, 104, 181, 182, 183, 184, 185, 186, 187, 188, 189, 190, 191, 224, 225, 226, 227, 228, 229, 192, 193, 194, 195, 196, 197, 206, 207, 208, 209, 210, 211, 212, 213, 214, 215, 216, 217, 198, 199, 200, 201, 202, 203, 204, 205, 218, 219, 220, 221, 222, 223] rfl (by decide +kernel)) (goodIn_sub (fun _ h => List.mem_cons_of_mem _ (List.mem_append_right _ h)) (by decide +kernel))) (goodIn_sub (fun _ h => List.mem_cons_of_mem _ (List.mem_append_left _ (List.mem_append_left _ (List.mem_append_right _ h)))) (by decide +kernel))
set_option maxRecDepth 20000 in
theorem gL_call_L_appeal : GoodIn wsL_call (va_wsS RL 137 yL_appeal wsL_appeal) := goodIn_app (goodIn_of _ (by decide +kernel)) ggL_call_L_appeal
set_option maxRecDepth 20000 in
theorem ggL_isSo_X8_time : GoodIn wsL_isSo wsX8_time := goodIn_r _ [5, 6, 7, 8, 237, 238, 239, 240, 241, 242, 243, 244, 245, 246, 247, 248, 249, 250, 251, 252] rfl (by decide +kernel)
set_option maxRecDepth 20000 in
theorem gL_isSo_X8_time : GoodIn wsL_isSo (wsV RL 140 RX8 yX8_time wsX8_time) := goodIn_app (goodIn_of _ (by decide +kernel)) ggL_isSo_X8_time
set_option maxRecDepth 20000 in
theorem ggL_isSo_X8_notices : GoodIn wsL_isSo wsX8_notices := goodIn_r _ [12, 6, 13, 237, 238, 239, 240, 241, 242, 243, 244, 245, 246, 247, 248, 249, 250, 251, 252] rfl (by decide +kernel)
set_option maxRecDepth 20000 in
theorem gL_isSo_X8_notices : GoodIn wsL_isSo (wsV RL 143 RX8 yX8_notices wsX8_notices) := goodIn_app (goodIn_of _ (by decide +kernel)) ggL_isSo_X8_notices
set_option maxRecDepth 20000 in
theorem ggL_isSo_L_greyOf : GoodIn wsL_isSo wsL_greyOf := goodIn_ca (goodIn_r _ [17, 18, 19, 20, 21, 4, 22, 6, 23, 24, 25, 26, 27, 28, 29, 30, 31, 32, 33, 34, 35, 36, 237, 238, 239, 240, 241, 242, 243, 244, 245, 246, 247, 248, 249, 250, 251, 252] rfl (by decide +kernel)) (goodIn_sub (fun _ h => List.mem_cons_of_mem _ (List.mem_append_left _ (List.mem_append_right _ h))) (by decide +kernel))
set_option maxRecDepth 20000 in
theorem gL_isSo_L_greyOf : GoodIn wsL_isSo (va_wsS RL 146 yL_greyOf wsL_greyOf) := goodIn_app (goodIn_of _ (by decide +kernel)) ggL_isSo_L_greyOf
set_option maxRecDepth 20000 in
theorem ggL_isSo_L_shadeOf : GoodIn wsL_isSo wsL_shadeOf := goodIn_ca (goodIn_ca (goodIn_r _ [39, 40, 18, 41, 42, 43, 4, 44, 6, 45, 46, 47, 48, 49, 50, 23, 24, 25, 51, 52, 53, 26, 27, 28, 29, 30, 54, 55, 56, 57, 58, 59, 60, 61, 62, 63, 64, 65, 66, 67, 68, 237, 238, 239, 240, 241, 242, 243, 244, 245, 246, 247, 248, 249, 250, 251, 252, 253, 254, 255, 256, 257, 258, 259, 260] rfl (by decide +kernel)) (goodIn_sub (fun _ h => List.mem_cons_of_mem _ (List.mem_append_right _ h)) (by decide +kernel))) (goodIn_sub (fun _ h => List.mem_cons_of_mem _ (List.mem_append_left _ (List.mem_append_right _ h))) (by decide +kernel))
set_option maxRecDepth 20000 in
theorem gL_isSo_L_shadeOf : GoodIn wsL_isSo (va_wsS RL 148 yL_shadeOf wsL_shadeOf) := goodIn_app (goodIn_of _ (by decide +kernel)) ggL_isSo_L_shadeOf
set_option maxRecDepth 20000 in
theorem ggL_isSo_L_shade : GoodIn wsL_isSo wsL_shade := goodIn_r _ [71] rfl (by decide +kernel)
set_option maxRecDepth 20000 in
theorem gL_isSo_L_shade : GoodIn wsL_isSo (va_wsS RL 104 yL_shade wsL_shade) := goodIn_app (goodIn_of _ (by decide +kernel)) ggL_isSo_L_shade
set_option maxRecDepth 20000 in
theorem ggL_isSo_L_readingsFrom : GoodIn wsL_isSo wsL_readingsFrom := goodIn_ca (goodIn_ca (goodIn_r _ [74, 40, 18, 75, 76, 77, 4, 78, 6, 79, 45, 46, 47, 48, 49, 50, 23, 24, 25, 26, 27, 28, 29, 30, 80, 81, 82, 83, 84, 85, 237, 238, 239, 240, 241, 242, 253, 254, 255, 256, 257, 258, 259, 260, 243, 244, 245, 246, 247, 248, 249, 250, 251, 252, 261] rfl (by decide +kernel)) (goodIn_sub (fun _ h => List.mem_cons_of_mem _ (List.mem_append_right _ h)) (by decide +kernel))) (goodIn_sub (fun _ h => List.mem_cons_of_mem _ (List.mem_append_left _ (List.mem_append_right _ h))) (by decide +kernel))
set_option maxRecDepth 20000 in
theorem gL_isSo_L_readingsFrom : GoodIn wsL_isSo (va_wsS RL 150 yL_readingsFrom wsL_readingsFrom) := goodIn_app (goodIn_of _ (by decide +kernel)) ggL_isSo_L_readingsFrom
set_option maxRecDepth 20000 in
theorem ggL_isSo_L_longestRow : GoodIn wsL_isSo wsL_longestRow := goodIn_ca (goodIn_ca (goodIn_r _ [88, 40, 18, 89, 90, 91, 4, 92, 6, 79, 45, 46, 47, 48, 49, 50, 23, 24, 25, 26, 27, 28, 29, 30, 93, 94, 95, 83, 96, 85, 97, 98, 99, 100, 101, 102, 103, 104, 237, 238, 239, 240, 241, 242, 253, 254, 255, 256, 257, 258, 259, 260, 243, 244, 245, 246, 247, 248, 249, 250, 251, 252, 261] rfl (by decide +kernel)) (goodIn_sub (fun _ h => List.mem_cons_of_mem _ (List.mem_append_right _ h)) (by decide +kernel))) (goodIn_sub (fun _ h => List.mem_cons_of_mem _ (List.mem_append_left _ (List.mem_append_right _ h))) (by decide +kernel))
set_option maxRecDepth 20000 in
theorem gL_isSo_L_longestRow : GoodIn wsL_isSo (va_wsS RL 152 yL_longestRow wsL_longestRow) := goodIn_app (goodIn_of _ (by decide +kernel)) ggL_isSo_L_longestRow
set_option maxRecDepth 20000 in
theorem ggL_isSo_L_finesOf : GoodIn wsL_isSo wsL_finesOf := goodIn_ca (goodIn_r _ [107, 40, 108, 109, 110, 4, 111, 6, 45, 46, 47, 48, 49, 50, 23, 24, 25, 112, 113, 114, 57, 115, 116, 117, 118, 119, 120, 34, 121, 122, 123, 124, 125, 126, 237, 238, 239, 240, 241, 242, 243, 244, 245, 246, 247, 248, 249, 250, 251, 252, 253, 254, 255, 256, 257, 258, 259, 260, 262, 263, 264, 265, 266, 267] rfl (by decide +kernel)) (goodIn_sub (fun _ h => List.mem_cons_of_mem _ (List.mem_append_right _ h)) (by decide +kernel))
set_option maxRecDepth 20000 in
theorem gL_isSo_L_finesOf : GoodIn wsL_isSo (va_wsS RL 155 yL_finesOf wsL_finesOf) := goodIn_app (goodIn_of _ (by decide +kernel)) ggL_isSo_L_finesOf
set_option maxRecDepth 20000 in
theorem ggL_isSo_L_readingOf : GoodIn wsL_isSo wsL_readingOf := goodIn_ca (goodIn_ca (goodIn_r _ [129, 40, 18, 130, 131, 132, 4, 133, 6, 79, 45, 46, 47, 48, 49, 50, 23, 24, 25, 51, 52, 53, 26, 27, 28, 29, 30, 134, 135, 136, 83, 137, 85, 237, 238, 239, 240, 241, 242, 253, 254, 255, 256, 257, 258, 259, 260, 243, 244, 245, 246, 247, 248, 249, 250, 251, 252, 261] rfl (by decide +kernel)) (goodIn_sub (fun _ h => List.mem_cons_of_mem _ (List.mem_append_right _ h)) (by decide +kernel))) (goodIn_sub (fun _ h => List.mem_cons_of_mem _ (List.mem_append_left _ (List.mem_append_right _ h))) (by decide +kernel))
set_option maxRecDepth 20000 in
theorem gL_isSo_L_readingOf : GoodIn wsL_isSo (va_wsS RL 158 yL_readingOf wsL_readingOf) := goodIn_app (goodIn_of _ (by decide +kernel)) ggL_isSo_L_readingOf
set_option maxRecDepth 20000 in
theorem ggL_isSo_L_watchedBy : GoodIn wsL_isSo wsL_watchedBy := goodIn_ca (goodIn_r _ [140, 40, 141, 142, 143, 4, 144, 145, 146, 147, 148, 149, 48, 49, 6, 150, 23, 24, 25, 268, 269, 270, 271, 272, 237, 238, 239, 240, 241, 242, 243, 244, 245, 246, 247, 248, 249, 250, 251, 252] rfl (by decide +kernel)) (goodIn_sub (fun _ h => List.mem_cons_of_mem _ (List.mem_append_right _ h)) (by decide +kernel))
set_option maxRecDepth 20000 in
theorem gL_isSo_L_watchedBy : GoodIn wsL_isSo (va_wsS RL 160 yL_watchedBy wsL_watchedBy) := goodIn_app (goodIn_of _ (by decide +kernel)) ggL_isSo_L_watchedBy
set_option maxRecDepth 20000 in
theorem ggL_isSo_L_tirednessOf : GoodIn wsL_isSo wsL_tirednessOf := goodIn_ca (goodIn_r _ [153, 40, 154, 155, 156, 4, 157, 158, 146, 147, 148, 149, 48, 49, 6, 150, 23, 24, 25, 268, 269, 270, 271, 272, 237, 238, 239, 240, 241, 242, 243, 244, 245, 246, 247, 248, 249, 250, 251, 252] rfl (by decide +kernel)) (goodIn_sub (fun _ h => List.mem_cons_of_mem _ (List.mem_append_right _ h)) (by decide +kernel))
set_option maxRecDepth 20000 in
theorem gL_isSo_L_tirednessOf : GoodIn wsL_isSo (va_wsS RL 162 yL_tirednessOf wsL_tirednessOf) := goodIn_app (goodIn_of _ (by decide +kernel)) ggL_isSo_L_tirednessOf
set_option maxRecDepth 20000 in
theorem ggL_isSo_L_errorsOf : GoodIn wsL_isSo wsL_errorsOf := goodIn_ca (goodIn_r _ [161, 40, 162, 163, 164, 4, 165, 166, 146, 147, 148, 149, 48, 49, 6, 150, 23, 24, 25, 268, 269, 270, 271, 272, 237, 238, 239, 240, 241, 242, 243, 244, 245, 246, 247, 248, 249, 250, 251, 252] rfl (by decide +kernel)) (goodIn_sub (fun _ h => List.mem_cons_of_mem _ (List.mem_append_right _ h)) (by decide +kernel))
set_option maxRecDepth 20000 in
theorem gL_isSo_L_errorsOf : GoodIn wsL_isSo (va_wsS RL 164 yL_errorsOf wsL_errorsOf) := goodIn_app (goodIn_of _ (by decide +kernel)) ggL_isSo_L_errorsOf
set_option maxRecDepth 20000 in
theorem ggL_isSo_L_wouldRead : GoodIn wsL_isSo wsL_wouldRead := goodIn_ca (goodIn_r _ [169, 40, 170, 171, 172, 4, 173, 6, 8, 146, 147, 148, 149, 48, 49, 150, 23, 24, 25, 45, 46, 47, 50, 54, 55, 56, 57, 58, 59, 60, 61, 62, 63, 64, 65, 66, 67, 68, 174, 175, 176, 34, 177, 178, 32, 33, 35, 36, 179, 180, 181, 182, 183, 184, 185, 237, 238, 239, 240, 241, 242, 243, 244, 245, 246, 247, 248, 249, 250, 251, 252, 253, 254, 255, 256, 257, 258, 259, 260, 268, 269, 270, 271, 272] rfl (by decide +kernel)) (goodIn_sub (fun _ h => List.mem_cons_of_mem _ (List.mem_append_right _ h)) (by decide +kernel))
set_option maxRecDepth 20000 in
theorem gL_isSo_L_wouldRead : GoodIn wsL_isSo (va_wsS RL 166 yL_wouldRead wsL_wouldRead) := goodIn_app (goodIn_of _ (by decide +kernel)) ggL_isSo_L_wouldRead
set_option maxRecDepth 20000 in
theorem ggL_isSo_L_sees : GoodIn wsL_isSo wsL_sees := goodIn_r _ [188, 69, 70, 16, 71] rfl (by decide +kernel)
set_option maxRecDepth 20000 in
theorem gL_isSo_L_sees : GoodIn wsL_isSo (va_wsS RL 110 yL_sees wsL_sees) := goodIn_app (goodIn_of _ (by decide +kernel)) ggL_isSo_L_sees
set_option maxRecDepth 20000 in
theorem ggL_isSo_L_chimneyOf : GoodIn wsL_isSo wsL_chimneyOf := goodIn_ca (goodIn_r _ [191, 40, 192, 193, 194, 4, 195, 196, 197, 198, 199, 200, 48, 49, 6, 201, 202, 203, 204, 34, 205, 122, 262, 263, 264, 265, 266, 267, 237, 238, 239, 240, 241, 242, 243, 244, 245, 246, 247, 248, 249, 250, 251, 252] rfl (by decide +kernel)) (goodIn_sub (fun _ h => List.mem_cons_of_mem _ (List.mem_append_right _ h)) (by decide +kernel))
set_option maxRecDepth 20000 in
theorem gL_isSo_L_chimneyOf : GoodIn wsL_isSo (va_wsS RL 168 yL_chimneyOf wsL_chimneyOf) := goodIn_app (goodIn_of _ (by decide +kernel)) ggL_isSo_L_chimneyOf
set_option maxRecDepth 20000 in
theorem ggL_isSo_L_fineOf : GoodIn wsL_isSo wsL_fineOf := goodIn_ca (goodIn_r _ [208, 40, 209, 210, 211, 4, 212, 213, 197, 198, 199, 200, 48, 49, 6, 201, 202, 203, 204, 34, 205, 122, 262, 263, 264, 265, 266, 267, 237, 238, 239, 240, 241, 242, 243, 244, 245, 246, 247, 248, 249, 250, 251, 252] rfl (by decide +kernel)) (goodIn_sub (fun _ h => List.mem_cons_of_mem _ (List.mem_append_right _ h)) (by decide +kernel))
set_option maxRecDepth 20000 in
theorem gL_isSo_L_fineOf : GoodIn wsL_isSo (va_wsS RL 170 yL_fineOf wsL_fineOf) := goodIn_app (goodIn_of _ (by decide +kernel)) ggL_isSo_L_fineOf
set_option maxRecDepth 20000 in
theorem ggL_isSo_L_stands : GoodIn wsL_isSo wsL_stands := goodIn_ca (goodIn_r _ [216, 40, 217, 218, 219, 4, 220, 221, 197, 198, 199, 200, 48, 49, 6, 201, 202, 203, 204, 34, 205, 122, 262, 263, 264, 265, 266, 267, 237, 238, 239, 240, 241, 242, 243, 244, 245, 246, 247, 248, 249, 250, 251, 252] rfl (by decide +kernel)) (goodIn_sub (fun _ h => List.mem_cons_of_mem _ (List.mem_append_right _ h)) (by decide +kernel))
set_option maxRecDepth 20000 in
theorem gL_isSo_L_stands : GoodIn wsL_isSo (va_wsS RL 172 yL_stands wsL_stands) := goodIn_app (goodIn_of _ (by decide +kernel)) ggL_isSo_L_stands
set_option maxRecDepth 20000 in
theorem ggL_isSo_L_wouldAppeal : GoodIn wsL_isSo wsL_wouldAppeal := goodIn_ca (goodIn_r _ [224, 40, 225, 226, 227, 4, 228, 197, 198, 199, 200, 48, 49, 6, 201, 202, 203, 204, 34, 205, 122, 229, 230, 231, 232, 233, 234, 235, 236, 237, 238, 239, 240, 241, 242, 243, 244, 245, 246, 247, 248, 249, 250, 251, 252, 262, 263, 264, 265, 266, 267] rfl (by decide +kernel)) (goodIn_sub (fun _ h => List.mem_cons_of_mem _ (List.mem_append_right _ h)) (by decide +kernel))
set_option maxRecDepth 20000 in
theorem gL_isSo_L_wouldAppeal : GoodIn wsL_isSo (va_wsS RL 174 yL_wouldAppeal wsL_wouldAppeal) := goodIn_app (goodIn_of _ (by decide +kernel)) ggL_isSo_L_wouldAppeal
set_option maxRecDepth 20000 in
theorem ggL_told_L_smoke : GoodIn wsL_told wsL_smoke := goodIn_ca (goodIn_ca (goodIn_r _ [6, 7, 8, 9, 10, 11, 12, 13, 14, 15, 16, 17, 18, 19, 20, 21, 22, 23, 24, 25, 26, 27, 28, 29, 30, 31, 32, 33, 34, 35, 36, 37, 38, 39, 40, 41, 42, 43, 44, 45, 46, 47, 48, 49, 50, 51, 52, 53, 54, 55, 56, 57, 58, 59, 60, 61, 62, 63, 240, 241, 242, 243, 244, 245, 246, 247, 248, 249, 250, 251, 252, 253, 254, 255, 256, 257, 258, 259, 260, 261, 262, 263] rfl (by decide +kernel)) (goodIn_sub (fun _ h => List.mem_cons_of_mem _ (List.mem_append_left _ (List.mem_append_right _ h))) (by decide +kernel))) (goodIn_sub (fun _ h => List.mem_cons_of_mem _ (List.mem_append_right _ h)) (by decide +kernel))
set_option maxRecDepth 20000 in
theorem gL_told_L_smoke : GoodIn wsL_told (va_wsS RL 180 yL_smoke wsL_smoke) := goodIn_app (goodIn_of _ (by decide +kernel)) ggL_told_L_smoke
set_option maxRecDepth 20000 in
theorem ggL_told_L_nextStoking : GoodIn wsL_told wsL_nextStoking := goodIn_ca (goodIn_ca (goodIn_r _ [66, 7, 8, 67, 68, 69, 12, 70, 14, 15, 16, 17, 18, 19, 20, 21, 22, 23, 24, 25, 26, 27, 28, 29, 30, 31, 71, 72, 73, 35, 74, 37, 42, 53, 54, 55, 56, 240, 241, 242, 243, 244, 245, 246, 247, 248, 249, 250, 251, 252, 253, 254, 255, 256, 257, 258, 259, 260, 261, 262, 263] rfl (by decide +kernel)) (goodIn_sub (fun _ h => List.mem_cons_of_mem _ (List.mem_append_left _ (List.mem_append_right _ h))) (by decide +kernel))) (goodIn_sub (fun _ h => List.mem_cons_of_mem _ (List.mem_append_right _ h)) (by decide +kernel))
set_option maxRecDepth 20000 in
theorem gL_told_L_nextStoking : GoodIn wsL_told (va_wsS RL 183 yL_nextStoking wsL_nextStoking) := goodIn_app (goodIn_of _ (by decide +kernel)) ggL_told_L_nextStoking
set_option maxRecDepth 20000 in
theorem ggL_told_L_finesOf : GoodIn wsL_told wsL_finesOf := goodIn_ca (goodIn_r _ [77, 7, 78, 79, 80, 12, 81, 14, 15, 16, 17, 18, 19, 20, 21, 22, 23, 82, 83, 84, 35, 85, 86, 87, 88, 89, 90, 91, 92, 93, 94, 95, 96, 97, 240, 241, 242, 243, 244, 245, 246, 247, 248, 249, 250, 251, 252, 253, 254, 255, 256, 257, 258, 259, 260, 261, 262, 263, 264, 265, 266, 267, 268, 269] rfl (by decide +kernel)) (goodIn_sub (fun _ h => List.mem_cons_of_mem _ (List.mem_append_left _ (List.mem_append_right _ h))) (by decide +kernel))
set_option maxRecDepth 20000 in
theorem gL_told_L_finesOf : GoodIn wsL_told (va_wsS RL 155 yL_finesOf wsL_finesOf) := goodIn_app (goodIn_of _ (by decide +kernel)) ggL_told_L_finesOf
set_option maxRecDepth 20000 in
theorem ggL_told_L_readingsFrom : GoodIn wsL_told wsL_readingsFrom := goodIn_ca (goodIn_ca (goodIn_r _ [100, 7, 8, 101, 102, 103, 12, 104, 14, 105, 15, 16, 17, 18, 19, 20, 21, 22, 23, 27, 28, 29, 30, 31, 106, 107, 108, 109, 110, 111, 240, 241, 242, 243, 244, 245, 256, 257, 258, 259, 260, 261, 262, 263, 246, 247, 248, 249, 250, 251, 252, 253, 254, 255, 270] rfl (by decide +kernel)) (goodIn_sub (fun _ h => List.mem_cons_of_mem _ (List.mem_append_left _ (List.mem_append_right _ h))) (by decide +kernel))) (goodIn_sub (fun _ h => List.mem_cons_of_mem _ (List.mem_append_right _ h)) (by decide +kernel))
set_option maxRecDepth 20000 in
theorem gL_told_L_readingsFrom : GoodIn wsL_told (va_wsS RL 150 yL_readingsFrom wsL_readingsFrom) := goodIn_app (goodIn_of _ (by decide +kernel)) ggL_told_L_readingsFrom
set_option maxRecDepth 20000 in
theorem ggL_told_L_longestRow : GoodIn wsL_told wsL_longestRow := goodIn_ca (goodIn_ca (goodIn_r _ [114, 7, 8, 115, 116, 117, 12, 118, 14, 105, 15, 16, 17, 18, 19, 20, 21, 22, 23, 27, 28, 29, 30, 31, 119, 120, 121, 109, 122, 111, 123, 39, 40, 41, 124, 125, 126, 127, 240, 241, 242, 243, 244, 245, 256, 257, 258, 259, 260, 261, 262, 263, 246, 247, 248, 249, 250, 251, 252, 253, 254, 255, 270] rfl (by decide +kernel)) (goodIn_sub (fun _ h => List.mem_cons_of_mem _ (List.mem_append_left _ (List.mem_append_right _ h))) (by decide +kernel))) (goodIn_sub (fun _ h => List.mem_cons_of_mem _ (List.mem_append_right _ h)) (by decide +kernel))
set_option maxRecDepth 20000 in
theorem gL_told_L_longestRow : GoodIn wsL_told (va_wsS RL 152 yL_longestRow wsL_longestRow) := goodIn_app (goodIn_of _ (by decide +kernel)) ggL_told_L_longestRow
set_option maxRecDepth 20000 in
theorem ggL_told_L_greyOf : GoodIn wsL_told wsL_greyOf := goodIn_ca (goodIn_r _ [130, 8, 131, 132, 133, 12, 134, 14, 21, 22, 23, 27, 28, 29, 30, 31, 135, 136, 137, 91, 138, 139, 240, 241, 242, 243, 244, 245, 246, 247, 248, 249, 250, 251, 252, 253, 254, 255] rfl (by decide +kernel)) (goodIn_sub (fun _ h => List.mem_cons_of_mem _ (List.mem_append_right _ h)) (by decide +kernel))
set_option maxRecDepth 20000 in
theorem gL_told_L_greyOf : GoodIn wsL_told (va_wsS RL 146 yL_greyOf wsL_greyOf) := goodIn_app (goodIn_of _ (by decide +kernel)) ggL_told_L_greyOf
set_option maxRecDepth 20000 in
theorem ggL_told_L_watchedBy : GoodIn wsL_told wsL_watchedBy := goodIn_ca (goodIn_r _ [142, 7, 143, 144, 145, 12, 146, 147, 148, 149, 150, 151, 18, 19, 14, 152, 21, 22, 23, 271, 272, 273, 274, 275, 240, 241, 242, 243, 244, 245, 246, 247, 248, 249, 250, 251, 252, 253, 254, 255] rfl (by decide +kernel)) (goodIn_sub (fun _ h => List.mem_cons_of_mem _ (List.mem_append_left _ (List.mem_append_right _ h))) (by decide +kernel))
set_option maxRecDepth 20000 in
theorem gL_told_L_watchedBy : GoodIn wsL_told (va_wsS RL 160 yL_watchedBy wsL_watchedBy) := goodIn_app (goodIn_of _ (by decide +kernel)) ggL_told_L_watchedBy
set_option maxRecDepth 20000 in
theorem ggL_told_L_tirednessOf : GoodIn wsL_told wsL_tirednessOf := goodIn_ca (goodIn_r _ [155, 7, 156, 157, 158, 12, 159, 160, 148, 149, 150, 151, 18, 19, 14, 152, 21, 22, 23, 271, 272, 273, 274, 275, 240, 241, 242, 243, 244, 245, 246, 247, 248, 249, 250, 251, 252, 253, 254, 255] rfl (by decide +kernel)) (goodIn_sub (fun _ h => List.mem_cons_of_mem _ (List.mem_append_left _ (List.mem_append_right _ h))) (by decide +kernel))
set_option maxRecDepth 20000 in
theorem gL_told_L_tirednessOf : GoodIn wsL_told (va_wsS RL 162 yL_tirednessOf wsL_tirednessOf) := goodIn_app (goodIn_of _ (by decide +kernel)) ggL_told_L_tirednessOf
set_option maxRecDepth 20000 in
theorem ggL_told_L_errorsOf : GoodIn wsL_told wsL_errorsOf := goodIn_ca (goodIn_r _ [163, 7, 164, 165, 166, 12, 167, 168, 148, 149, 150, 151, 18, 19, 14, 152, 21, 22, 23, 271, 272, 273, 274, 275, 240, 241, 242, 243, 244, 245, 246, 247, 248, 249, 250, 251, 252, 253, 254, 255] rfl (by decide +kernel)) (goodIn_sub (fun _ h => List.mem_cons_of_mem _ (List.mem_append_left _ (List.mem_append_right _ h))) (by decide +kernel))
set_option maxRecDepth 20000 in
theorem gL_told_L_errorsOf : GoodIn wsL_told (va_wsS RL 164 yL_errorsOf wsL_errorsOf) := goodIn_app (goodIn_of _ (by decide +kernel)) ggL_told_L_errorsOf
set_option maxRecDepth 20000 in
theorem ggL_told_L_wouldRead : GoodIn wsL_told wsL_wouldRead := goodIn_ca (goodIn_r _ [171, 7, 172, 173, 174, 12, 175, 14, 176, 148, 149, 150, 151, 18, 19, 152, 21, 22, 23, 15, 16, 17, 20, 177, 48, 49, 35, 50, 37, 51, 52, 53, 54, 55, 56, 42, 57, 58, 178, 179, 180, 91, 181, 182, 136, 137, 138, 139, 183, 184, 185, 186, 187, 188, 189, 240, 241, 242, 243, 244, 245, 246, 247, 248, 249, 250, 251, 252, 253, 254, 255, 256, 257, 258, 259, 260, 261, 262, 263, 271, 272, 273, 274, 275] rfl (by decide +kernel)) (goodIn_sub (fun _ h => List.mem_cons_of_mem _ (List.mem_append_left _ (List.mem_append_right _ h))) (by decide +kernel))
set_option maxRecDepth 20000 in
theorem gL_told_L_wouldRead : GoodIn wsL_told (va_wsS RL 166 yL_wouldRead wsL_wouldRead) := goodIn_app (goodIn_of _ (by decide +kernel)) ggL_told_L_wouldRead
set_option maxRecDepth 20000 in
theorem ggL_told_X8_notices : GoodIn wsL_told wsX8_notices := goodIn_r _ [193, 14, 194, 240, 241, 242, 243, 244, 245, 246, 247, 248, 249, 250, 251, 252, 253, 254, 255] rfl (by decide +kernel)
set_option maxRecDepth 20000 in
theorem gL_told_X8_notices : GoodIn wsL_told (wsV RL 143 RX8 yX8_notices wsX8_notices) := goodIn_app (goodIn_of _ (by decide +kernel)) ggL_told_X8_notices
set_option maxRecDepth 20000 in
theorem ggL_told_L_chimneyOf : GoodIn wsL_told wsL_chimneyOf := goodIn_ca (goodIn_r _ [197, 7, 198, 199, 200, 12, 201, 202, 203, 204, 205, 206, 18, 19, 14, 207, 208, 209, 210, 91, 211, 93, 264, 265, 266, 267, 268, 269, 240, 241, 242, 243, 244, 245, 246, 247, 248, 249, 250, 251, 252, 253, 254, 255] rfl (by decide +kernel)) (goodIn_sub (fun _ h => List.mem_cons_of_mem _ (List.mem_append_left _ (List.mem_append_right _ h))) (by decide +kernel))
set_option maxRecDepth 20000 in
theorem gL_told_L_chimneyOf : GoodIn wsL_told (va_wsS RL 168 yL_chimneyOf wsL_chimneyOf) := goodIn_app (goodIn_of _ (by decide +kernel)) ggL_told_L_chimneyOf
set_option maxRecDepth 20000 in
theorem ggL_told_L_fineOf : GoodIn wsL_told wsL_fineOf := goodIn_ca (goodIn_r _ [214, 7, 215, 216, 217, 12, 218, 219, 203, 204, 205, 206, 18, 19, 14, 207, 208, 209, 210, 91, 211, 93, 264, 265, 266, 267, 268, 269, 240, 241, 242, 243, 244, 245, 246, 247, 248, 249, 250, 251, 252, 253, 254, 255] rfl (by decide +kernel)) (goodIn_sub (fun _ h => List.mem_cons_of_mem _ (List.mem_append_left _ (List.mem_append_right _ h))) (by decide +kernel))
set_option maxRecDepth 20000 in
theorem gL_told_L_fineOf : GoodIn wsL_told (va_wsS RL 170 yL_fineOf wsL_fineOf) := goodIn_app (goodIn_of _ (by decide +kernel)) ggL_told_L_fineOf
set_option maxRecDepth 20000 in
theorem ggL_told_L_wouldAppeal : GoodIn wsL_told wsL_wouldAppeal := goodIn_ca (goodIn_r _ [222, 7, 223, 224, 225, 12, 226, 203, 204, 205, 206, 18, 19, 14, 207, 208, 209, 210, 91, 211, 93, 227, 228, 229, 230, 231, 232, 233, 234, 240, 241, 242, 243, 244, 245, 246, 247, 248, 249, 250, 251, 252, 253, 254, 255, 264, 265, 266, 267, 268, 269] rfl (by decide +kernel)) (goodIn_sub (fun _ h => List.mem_cons_of_mem _ (List.mem_append_left _ (List.mem_append_right _ h))) (by decide +kernel))
set_option maxRecDepth 20000 in
theorem gL_told_L_wouldAppeal : GoodIn wsL_told (va_wsS RL 174 yL_wouldAppeal wsL_wouldAppeal) := goodIn_app (goodIn_of _ (by decide +kernel)) ggL_told_L_wouldAppeal
set_option maxRecDepth 20000 in
theorem ggL_told_X8_time : GoodIn wsL_told wsX8_time := goodIn_r _ [238, 14, 239, 176, 240, 241, 242, 243, 244, 245, 246, 247, 248, 249, 250, 251, 252, 253, 254, 255] rfl (by decide +kernel)
set_option maxRecDepth 20000 in
theorem gL_told_X8_time : GoodIn wsL_told (wsV RL 140 RX8 yX8_time wsX8_time) := goodIn_app (goodIn_of _ (by decide +kernel)) ggL_told_X8_time
