set_option maxRecDepth 20000 in
theorem ggL_law_X9_nextStoking : GoodIn wsL_law wsX9_nextStoking := goodIn_r _ [624, 216, 128, 217, 218, 5, 219, 220, 221, 222, 223, 224, 225, 226, 607, 608, 609, 1100, 1101, 1102, 1103, 1104, 1105, 1106, 1107, 1108, 1109, 1110, 1111, 1112, 1113, 1114] rfl (by decide +kernel)
set_option maxRecDepth 20000 in
theorem gL_law_X9_nextStoking : GoodIn wsL_law (wsV RL 162 RX9 yX9_nextStoking wsX9_nextStoking) := goodIn_app (goodIn_of _ (by decide +kernel)) ggL_law_X9_nextStoking
set_option maxRecDepth 20000 in
theorem ggL_law_L_smoke : GoodIn wsL_law wsL_smoke := goodIn_ca (goodIn_ca (goodIn_r _ [627, 143, 144, 628, 629, 630, 2, 631, 17, 154, 155, 156, 157, 158, 159, 160, 161, 162, 600, 601, 602, 163, 164, 165, 166, 167, 632, 633, 634, 54, 635, 80, 345, 346, 347, 348, 74, 636, 637, 638, 639, 640, 203, 204, 205, 72, 73, 206, 207, 208, 209, 210, 211, 641, 642, 643, 644, 645, 1094, 1095, 1096, 1097, 1098, 1099, 1115, 1116, 1117, 1118, 1119, 1120, 1121, 1122, 1123, 1124, 1136, 1137, 1138, 1139, 1140, 1141, 1142, 1143] rfl (by decide +kernel)) (goodIn_sub (fun _ h => List.mem_append_left _ (List.mem_append_left _ (List.mem_append_right _ h))) (by decide +kernel))) (goodIn_sub (fun _ h => List.mem_append_left _ (List.mem_append_right _ h)) (by decide +kernel))
set_option maxRecDepth 20000 in
theorem gL_law_L_smoke : GoodIn wsL_law (va_wsS RL 163 yL_smoke wsL_smoke) := goodIn_app (goodIn_of _ (by decide +kernel)) ggL_law_L_smoke
set_option maxRecDepth 20000 in
theorem ggL_law_X9_smoke : GoodIn wsL_law wsX9_smoke := goodIn_r _ [649, 216, 217, 218, 5, 219, 220, 221, 222, 223, 224, 225, 226, 607, 608, 609, 650, 651, 652, 653, 232, 233, 234, 235, 128, 1100, 1101, 1102, 1103, 1104, 1105, 1106, 1107, 1108, 1109, 1110, 1111, 1112, 1113, 1114] rfl (by decide +kernel)
set_option maxRecDepth 20000 in
theorem gL_law_X9_smoke : GoodIn wsL_law (wsV RL 166 RX9 yX9_smoke wsX9_smoke) := goodIn_app (goodIn_of _ (by decide +kernel)) ggL_law_X9_smoke
set_option maxRecDepth 20000 in
theorem ggL_law_L_greyOf : GoodIn wsL_law wsL_greyOf := goodIn_ca (goodIn_r _ [656, 144, 657, 658, 659, 2, 660, 17, 160, 161, 162, 163, 164, 165, 166, 167, 247, 248, 249, 16, 250, 43, 1094, 1095, 1096, 1097, 1098, 1099, 1115, 1116, 1117, 1118, 1119, 1120, 1121, 1122, 1123, 1124] rfl (by decide +kernel)) (goodIn_sub (fun _ h => List.mem_append_left _ (List.mem_append_right _ h)) (by decide +kernel))
set_option maxRecDepth 20000 in
theorem gL_law_L_greyOf : GoodIn wsL_law (va_wsS RL 167 yL_greyOf wsL_greyOf) := goodIn_app (goodIn_of _ (by decide +kernel)) ggL_law_L_greyOf
set_option maxRecDepth 20000 in
theorem ggL_law_X9_greyOf : GoodIn wsL_law wsX9_greyOf := goodIn_r _ [664, 216, 128, 259, 260, 5, 261, 220, 221, 222, 223, 224, 225, 226, 1100, 1101, 1102, 1103, 1104, 1105, 1106, 1107, 1108, 1109, 1110, 1111, 1112, 1113, 1114] rfl (by decide +kernel)
set_option maxRecDepth 20000 in
theorem gL_law_X9_greyOf : GoodIn wsL_law (wsV RL 169 RX9 yX9_greyOf wsX9_greyOf) := goodIn_app (goodIn_of _ (by decide +kernel)) ggL_law_X9_greyOf
set_option maxRecDepth 20000 in
theorem ggL_law_X8_time : GoodIn wsL_law wsX8_time := goodIn_r _ [668, 17, 669, 153, 1094, 1095, 1096, 1097, 1098, 1099, 1115, 1116, 1117, 1118, 1119, 1120, 1121, 1122, 1123, 1124] rfl (by decide +kernel)
set_option maxRecDepth 20000 in
theorem gL_law_X8_time : GoodIn wsL_law (wsV RL 170 RX8 yX8_time wsX8_time) := goodIn_app (goodIn_of _ (by decide +kernel)) ggL_law_X8_time
set_option maxRecDepth 20000 in
theorem ggL_law_X9_time : GoodIn wsL_law wsX9_time := goodIn_r _ [673, 216, 128, 1100, 1101, 1102, 1103, 1104, 1105, 1106, 1107, 1108, 1109, 1110, 1111, 1112, 1113, 1114] rfl (by decide +kernel)
set_option maxRecDepth 20000 in
theorem gL_law_X9_time : GoodIn wsL_law (wsV RL 173 RX9 yX9_time wsX9_time) := goodIn_app (goodIn_of _ (by decide +kernel)) ggL_law_X9_time
set_option maxRecDepth 20000 in
theorem ggL_law_L_watchedBy : GoodIn wsL_law wsL_watchedBy := goodIn_ca (goodIn_r _ [676, 143, 677, 678, 679, 2, 680, 269, 270, 271, 272, 273, 157, 158, 17, 274, 160, 161, 162, 1144, 1145, 1146, 1147, 1148, 1094, 1095, 1096, 1097, 1098, 1099, 1115, 1116, 1117, 1118, 1119, 1120, 1121, 1122, 1123, 1124] rfl (by decide +kernel)) (goodIn_sub (fun _ h => List.mem_append_left _ (List.mem_append_left _ (List.mem_append_right _ h))) (by decide +kernel))
set_option maxRecDepth 20000 in
theorem gL_law_L_watchedBy : GoodIn wsL_law (va_wsS RL 174 yL_watchedBy wsL_watchedBy) := goodIn_app (goodIn_of _ (by decide +kernel)) ggL_law_L_watchedBy
set_option maxRecDepth 20000 in
theorem ggL_law_X9_watchedBy : GoodIn wsL_law wsX9_watchedBy := goodIn_r _ [684, 685, 686, 687, 5, 688, 216, 128, 279, 280, 281, 220, 221, 222, 223, 224, 225, 226, 1100, 1101, 1102, 1103, 1104, 1105, 1106, 1107, 1108, 1109, 1110, 1111, 1112, 1113, 1114] rfl (by decide +kernel)
set_option maxRecDepth 20000 in
theorem gL_law_X9_watchedBy : GoodIn wsL_law (wsV RL 176 RX9 yX9_watchedBy wsX9_watchedBy) := goodIn_app (goodIn_of _ (by decide +kernel)) ggL_law_X9_watchedBy
set_option maxRecDepth 20000 in
theorem ggL_law_L_tirednessOf : GoodIn wsL_law wsL_tirednessOf := goodIn_ca (goodIn_r _ [691, 143, 692, 693, 694, 2, 695, 696, 270, 271, 272, 273, 157, 158, 17, 274, 160, 161, 162, 1144, 1145, 1146, 1147, 1148, 1094, 1095, 1096, 1097, 1098, 1099, 1115, 1116, 1117, 1118, 1119, 1120, 1121, 1122, 1123, 1124] rfl (by decide +kernel)) (goodIn_sub (fun _ h => List.mem_append_left _ (List.mem_append_left _ (List.mem_append_right _ h))) (by decide +kernel))
set_option maxRecDepth 20000 in
theorem gL_law_L_tirednessOf : GoodIn wsL_law (va_wsS RL 177 yL_tirednessOf wsL_tirednessOf) := goodIn_app (goodIn_of _ (by decide +kernel)) ggL_law_L_tirednessOf
set_option maxRecDepth 20000 in
theorem ggL_law_X9_tirednessOf : GoodIn wsL_law wsX9_tirednessOf := goodIn_r _ [700, 685, 686, 687, 5, 688, 216, 128, 279, 280, 281, 220, 221, 222, 223, 224, 225, 226, 1100, 1101, 1102, 1103, 1104, 1105, 1106, 1107, 1108, 1109, 1110, 1111, 1112, 1113, 1114] rfl (by decide +kernel)
set_option maxRecDepth 20000 in
theorem gL_law_X9_tirednessOf : GoodIn wsL_law (wsV RL 179 RX9 yX9_tirednessOf wsX9_tirednessOf) := goodIn_app (goodIn_of _ (by decide +kernel)) ggL_law_X9_tirednessOf
set_option maxRecDepth 20000 in
theorem ggL_law_L_wouldRead : GoodIn wsL_law wsL_wouldRead := goodIn_ca (goodIn_r _ [703, 143, 704, 705, 706, 2, 707, 17, 153, 270, 271, 272, 273, 157, 158, 274, 160, 161, 162, 154, 155, 156, 159, 202, 203, 204, 54, 205, 80, 72, 73, 206, 207, 208, 209, 74, 210, 211, 708, 328, 329, 16, 330, 331, 248, 249, 250, 43, 709, 338, 339, 56, 340, 87, 86, 1094, 1095, 1096, 1097, 1098, 1099, 1115, 1116, 1117, 1118, 1119, 1120, 1121, 1122, 1123, 1124, 1136, 1137, 1138, 1139, 1140, 1141, 1142, 1143, 1144, 1145, 1146, 1147, 1148] rfl (by decide +kernel)) (goodIn_sub (fun _ h => List.mem_append_left _ (List.mem_append_left _ (List.mem_append_right _ h))) (by decide +kernel))
set_option maxRecDepth 20000 in
theorem gL_law_L_wouldRead : GoodIn wsL_law (va_wsS RL 180 yL_wouldRead wsL_wouldRead) := goodIn_app (goodIn_of _ (by decide +kernel)) ggL_law_L_wouldRead
set_option maxRecDepth 20000 in
theorem ggL_law_X9_wouldRead : GoodIn wsL_law wsX9_wouldRead := goodIn_r _ [713, 216, 279, 280, 5, 281, 220, 221, 222, 217, 218, 219, 427, 428, 429, 430, 128, 232, 233, 234, 235, 419, 420, 421, 422, 223, 224, 225, 226, 1100, 1101, 1102, 1103, 1104, 1105, 1106, 1107, 1108, 1109, 1110, 1111, 1112, 1113, 1114] rfl (by decide +kernel)
set_option maxRecDepth 20000 in
theorem gL_law_X9_wouldRead : GoodIn wsL_law (wsV RL 182 RX9 yX9_wouldRead wsX9_wouldRead) := goodIn_app (goodIn_of _ (by decide +kernel)) ggL_law_X9_wouldRead
set_option maxRecDepth 20000 in
theorem ggL_law_L_readingOf : GoodIn wsL_law wsL_readingOf := goodIn_ca (goodIn_ca (goodIn_r _ [716, 143, 144, 717, 718, 719, 2, 720, 17, 721, 154, 155, 156, 157, 158, 159, 160, 161, 162, 600, 601, 602, 163, 164, 165, 166, 167, 722, 350, 351, 46, 352, 63, 1094, 1095, 1096, 1097, 1098, 1099, 1136, 1137, 1138, 1139, 1140, 1141, 1142, 1143, 1115, 1116, 1117, 1118, 1119, 1120, 1121, 1122, 1123, 1124, 1135] rfl (by decide +kernel)) (goodIn_sub (fun _ h => List.mem_append_left _ (List.mem_append_left _ (List.mem_append_right _ h))) (by decide +kernel))) (goodIn_sub (fun _ h => List.mem_append_left _ (List.mem_append_right _ h)) (by decide +kernel))
set_option maxRecDepth 20000 in
theorem gL_law_L_readingOf : GoodIn wsL_law (va_wsS RL 183 yL_readingOf wsL_readingOf) := goodIn_app (goodIn_of _ (by decide +kernel)) ggL_law_L_readingOf
set_option maxRecDepth 20000 in
theorem ggL_law_X9_readingOf : GoodIn wsL_law wsX9_readingOf := goodIn_r _ [726, 216, 217, 218, 5, 219, 220, 221, 222, 223, 224, 225, 226, 607, 608, 609, 435, 436, 437, 438, 128, 1100, 1101, 1102, 1103, 1104, 1105, 1106, 1107, 1108, 1109, 1110, 1111, 1112, 1113, 1114] rfl (by decide +kernel)
set_option maxRecDepth 20000 in
theorem gL_law_X9_readingOf : GoodIn wsL_law (wsV RL 185 RX9 yX9_readingOf wsX9_readingOf) := goodIn_app (goodIn_of _ (by decide +kernel)) ggL_law_X9_readingOf
set_option maxRecDepth 20000 in
theorem ggL_law_L_readingsFrom : GoodIn wsL_law wsL_readingsFrom := goodIn_ca (goodIn_ca (goodIn_r _ [729, 143, 144, 730, 731, 732, 2, 733, 17, 721, 154, 155, 156, 157, 158, 159, 160, 161, 162, 163, 164, 165, 166, 167, 734, 735, 736, 46, 737, 63, 1094, 1095, 1096, 1097, 1098, 1099, 1136, 1137, 1138, 1139, 1140, 1141, 1142, 1143, 1115, 1116, 1117, 1118, 1119, 1120, 1121, 1122, 1123, 1124, 1135] rfl (by decide +kernel)) (goodIn_sub (fun _ h => List.mem_append_left _ (List.mem_append_left _ (List.mem_append_right _ h))) (by decide +kernel))) (goodIn_sub (fun _ h => List.mem_append_left _ (List.mem_append_right _ h)) (by decide +kernel))
set_option maxRecDepth 20000 in
theorem gL_law_L_readingsFrom : GoodIn wsL_law (va_wsS RL 186 yL_readingsFrom wsL_readingsFrom) := goodIn_app (goodIn_of _ (by decide +kernel)) ggL_law_L_readingsFrom
set_option maxRecDepth 20000 in
theorem ggL_law_X9_readingsFrom : GoodIn wsL_law wsX9_readingsFrom := goodIn_r _ [741, 216, 217, 218, 5, 219, 220, 221, 222, 223, 224, 225, 226, 435, 436, 437, 438, 128, 1100, 1101, 1102, 1103, 1104, 1105, 1106, 1107, 1108, 1109, 1110, 1111, 1112, 1113, 1114] rfl (by decide +kernel)
set_option maxRecDepth 20000 in
theorem gL_law_X9_readingsFrom : GoodIn wsL_law (wsV RL 188 RX9 yX9_readingsFrom wsX9_readingsFrom) := goodIn_app (goodIn_of _ (by decide +kernel)) ggL_law_X9_readingsFrom
set_option maxRecDepth 20000 in
theorem ggL_law_L_longestRow : GoodIn wsL_law wsL_longestRow := goodIn_ca (goodIn_ca (goodIn_r _ [744, 143, 144, 745, 746, 747, 2, 748, 17, 721, 154, 155, 156, 157, 158, 159, 160, 161, 162, 163, 164, 165, 166, 167, 749, 750, 751, 46, 752, 63, 753, 346, 347, 348, 754, 755, 756, 757, 1094, 1095, 1096, 1097, 1098, 1099, 1136, 1137, 1138, 1139, 1140, 1141, 1142, 1143, 1115, 1116, 1117, 1118, 1119, 1120, 1121, 1122, 1123, 1124, 1135] rfl (by decide +kernel)) (goodIn_sub (fun _ h => List.mem_append_left _ (List.mem_append_left _ (List.mem_append_right _ h))) (by decide +kernel))) (goodIn_sub (fun _ h => List.mem_append_left _ (List.mem_append_right _ h)) (by decide +kernel))
set_option maxRecDepth 20000 in
theorem gL_law_L_longestRow : GoodIn wsL_law (va_wsS RL 189 yL_longestRow wsL_longestRow) := goodIn_app (goodIn_of _ (by decide +kernel)) ggL_law_L_longestRow
set_option maxRecDepth 20000 in
theorem ggL_law_X9_longestRow : GoodIn wsL_law wsX9_longestRow := goodIn_r _ [761, 216, 217, 218, 5, 219, 220, 221, 222, 223, 224, 225, 226, 431, 432, 433, 434, 435, 436, 437, 438, 128, 1100, 1101, 1102, 1103, 1104, 1105, 1106, 1107, 1108, 1109, 1110, 1111, 1112, 1113, 1114] rfl (by decide +kernel)
set_option maxRecDepth 20000 in
theorem gL_law_X9_longestRow : GoodIn wsL_law (wsV RL 192 RX9 yX9_longestRow wsX9_longestRow) := goodIn_app (goodIn_of _ (by decide +kernel)) ggL_law_X9_longestRow
set_option maxRecDepth 20000 in
theorem ggL_law_L_errorsOf : GoodIn wsL_law wsL_errorsOf := goodIn_ca (goodIn_r _ [764, 143, 765, 766, 767, 2, 768, 769, 270, 271, 272, 273, 157, 158, 17, 274, 160, 161, 162, 1144, 1145, 1146, 1147, 1148, 1094, 1095, 1096, 1097, 1098, 1099, 1115, 1116, 1117, 1118, 1119, 1120, 1121, 1122, 1123, 1124] rfl (by decide +kernel)) (goodIn_sub (fun _ h => List.mem_append_left _ (List.mem_append_left _ (List.mem_append_right _ h))) (by decide +kernel))
set_option maxRecDepth 20000 in
theorem gL_law_L_errorsOf : GoodIn wsL_law (va_wsS RL 193 yL_errorsOf wsL_errorsOf) := goodIn_app (goodIn_of _ (by decide +kernel)) ggL_law_L_errorsOf
set_option maxRecDepth 20000 in
theorem ggL_law_X9_errorsOf : GoodIn wsL_law wsX9_errorsOf := goodIn_r _ [773, 685, 686, 687, 5, 688, 216, 128, 279, 280, 281, 220, 221, 222, 223, 224, 225, 226, 1100, 1101, 1102, 1103, 1104, 1105, 1106, 1107, 1108, 1109, 1110, 1111, 1112, 1113, 1114] rfl (by decide +kernel)
set_option maxRecDepth 20000 in
theorem gL_law_X9_errorsOf : GoodIn wsL_law (wsV RL 195 RX9 yX9_errorsOf wsX9_errorsOf) := goodIn_app (goodIn_of _ (by decide +kernel)) ggL_law_X9_errorsOf
