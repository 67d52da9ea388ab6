set_option maxRecDepth 20000 in
theorem ggL_law_X8_bestObserver : GoodIn wsL_law wsX8_bestObserver := goodIn_r _ [777, 17, 778, 779, 780, 16, 781, 40, 782, 783, 784, 785, 56, 786, 88, 89, 1094, 1095, 1096, 1097, 1098, 1099, 1115, 1116, 1117, 1118, 1119, 1120, 1121, 1122, 1123, 1124, 1144, 1145, 1146, 1147, 1148] rfl (by decide +kernel)
set_option maxRecDepth 20000 in
theorem gL_law_X8_bestObserver : GoodIn wsL_law (wsV RL 196 RX8 yX8_bestObserver wsX8_bestObserver) := goodIn_app (goodIn_of _ (by decide +kernel)) ggL_law_X8_bestObserver
set_option maxRecDepth 20000 in
theorem ggL_law_X9_bestObserver : GoodIn wsL_law wsX9_bestObserver := goodIn_r _ [790, 216, 128, 1100, 1101, 1102, 1103, 1104, 1105, 1106, 1107, 1108, 1109, 1110, 1111, 1112, 1113, 1114] rfl (by decide +kernel)
set_option maxRecDepth 20000 in
theorem gL_law_X9_bestObserver : GoodIn wsL_law (wsV RL 199 RX9 yX9_bestObserver wsX9_bestObserver) := goodIn_app (goodIn_of _ (by decide +kernel)) ggL_law_X9_bestObserver
set_option maxRecDepth 20000 in
theorem ggL_law_X8_notices : GoodIn wsL_law wsX8_notices := goodIn_r _ [794, 17, 492, 1094, 1095, 1096, 1097, 1098, 1099, 1115, 1116, 1117, 1118, 1119, 1120, 1121, 1122, 1123, 1124] rfl (by decide +kernel)
set_option maxRecDepth 20000 in
theorem gL_law_X8_notices : GoodIn wsL_law (wsV RL 200 RX8 yX8_notices wsX8_notices) := goodIn_app (goodIn_of _ (by decide +kernel)) ggL_law_X8_notices
set_option maxRecDepth 20000 in
theorem ggL_law_X9_notices : GoodIn wsL_law wsX9_notices := goodIn_r _ [798, 216, 128, 1100, 1101, 1102, 1103, 1104, 1105, 1106, 1107, 1108, 1109, 1110, 1111, 1112, 1113, 1114] rfl (by decide +kernel)
set_option maxRecDepth 20000 in
theorem gL_law_X9_notices : GoodIn wsL_law (wsV RL 203 RX9 yX9_notices wsX9_notices) := goodIn_app (goodIn_of _ (by decide +kernel)) ggL_law_X9_notices
set_option maxRecDepth 20000 in
theorem ggL_law_L_chimneyOf : GoodIn wsL_law wsL_chimneyOf := goodIn_ca (goodIn_r _ [801, 143, 802, 803, 804, 2, 805, 806, 459, 460, 461, 462, 157, 158, 17, 463, 464, 465, 466, 16, 467, 48, 1149, 1150, 1151, 1152, 1153, 1154, 1094, 1095, 1096, 1097, 1098, 1099, 1115, 1116, 1117, 1118, 1119, 1120, 1121, 1122, 1123, 1124] rfl (by decide +kernel)) (goodIn_sub (fun _ h => List.mem_append_left _ (List.mem_append_left _ (List.mem_append_right _ h))) (by decide +kernel))
set_option maxRecDepth 20000 in
theorem gL_law_L_chimneyOf : GoodIn wsL_law (va_wsS RL 204 yL_chimneyOf wsL_chimneyOf) := goodIn_app (goodIn_of _ (by decide +kernel)) ggL_law_L_chimneyOf
set_option maxRecDepth 20000 in
theorem ggL_law_X9_chimneyOf : GoodIn wsL_law wsX9_chimneyOf := goodIn_r _ [810, 811, 812, 813, 5, 814, 216, 128, 477, 478, 479, 480, 220, 221, 222, 223, 224, 225, 226, 1100, 1101, 1102, 1103, 1104, 1105, 1106, 1107, 1108, 1109, 1110, 1111, 1112, 1113, 1114] rfl (by decide +kernel)
set_option maxRecDepth 20000 in
theorem gL_law_X9_chimneyOf : GoodIn wsL_law (wsV RL 206 RX9 yX9_chimneyOf wsX9_chimneyOf) := goodIn_app (goodIn_of _ (by decide +kernel)) ggL_law_X9_chimneyOf
set_option maxRecDepth 20000 in
theorem ggL_law_L_fineOf : GoodIn wsL_law wsL_fineOf := goodIn_ca (goodIn_r _ [817, 143, 818, 819, 820, 2, 821, 822, 459, 460, 461, 462, 157, 158, 17, 463, 464, 465, 466, 16, 467, 48, 1149, 1150, 1151, 1152, 1153, 1154, 1094, 1095, 1096, 1097, 1098, 1099, 1115, 1116, 1117, 1118, 1119, 1120, 1121, 1122, 1123, 1124] rfl (by decide +kernel)) (goodIn_sub (fun _ h => List.mem_append_left _ (List.mem_append_left _ (List.mem_append_right _ h))) (by decide +kernel))
set_option maxRecDepth 20000 in
theorem gL_law_L_fineOf : GoodIn wsL_law (va_wsS RL 207 yL_fineOf wsL_fineOf) := goodIn_app (goodIn_of _ (by decide +kernel)) ggL_law_L_fineOf
set_option maxRecDepth 20000 in
theorem ggL_law_X9_fineOf : GoodIn wsL_law wsX9_fineOf := goodIn_r _ [826, 811, 812, 813, 5, 814, 216, 128, 477, 478, 479, 480, 220, 221, 222, 223, 224, 225, 226, 1100, 1101, 1102, 1103, 1104, 1105, 1106, 1107, 1108, 1109, 1110, 1111, 1112, 1113, 1114] rfl (by decide +kernel)
set_option maxRecDepth 20000 in
theorem gL_law_X9_fineOf : GoodIn wsL_law (wsV RL 209 RX9 yX9_fineOf wsX9_fineOf) := goodIn_app (goodIn_of _ (by decide +kernel)) ggL_law_X9_fineOf
set_option maxRecDepth 20000 in
theorem ggL_law_L_stands : GoodIn wsL_law wsL_stands := goodIn_ca (goodIn_r _ [829, 143, 830, 831, 832, 2, 833, 458, 459, 460, 461, 462, 157, 158, 17, 463, 464, 465, 466, 16, 467, 48, 1149, 1150, 1151, 1152, 1153, 1154, 1094, 1095, 1096, 1097, 1098, 1099, 1115, 1116, 1117, 1118, 1119, 1120, 1121, 1122, 1123, 1124] rfl (by decide +kernel)) (goodIn_sub (fun _ h => List.mem_append_left _ (List.mem_append_left _ (List.mem_append_right _ h))) (by decide +kernel))
set_option maxRecDepth 20000 in
theorem gL_law_L_stands : GoodIn wsL_law (va_wsS RL 210 yL_stands wsL_stands) := goodIn_app (goodIn_of _ (by decide +kernel)) ggL_law_L_stands
set_option maxRecDepth 20000 in
theorem ggL_law_X9_stands : GoodIn wsL_law wsX9_stands := goodIn_r _ [837, 216, 128, 477, 478, 479, 5, 480, 220, 221, 222, 1100, 1101, 1102, 1103, 1104, 1105, 1106, 1107, 1108, 1109, 1110, 1111, 1112, 1113, 1114] rfl (by decide +kernel)
set_option maxRecDepth 20000 in
theorem gL_law_X9_stands : GoodIn wsL_law (wsV RL 212 RX9 yX9_stands wsX9_stands) := goodIn_app (goodIn_of _ (by decide +kernel)) ggL_law_X9_stands
set_option maxRecDepth 20000 in
theorem ggL_law_L_wouldAppeal : GoodIn wsL_law wsL_wouldAppeal := goodIn_ca (goodIn_r _ [840, 143, 841, 842, 843, 2, 844, 459, 460, 461, 462, 157, 158, 17, 463, 464, 465, 466, 16, 467, 48, 845, 846, 847, 58, 848, 97, 95, 96, 1094, 1095, 1096, 1097, 1098, 1099, 1115, 1116, 1117, 1118, 1119, 1120, 1121, 1122, 1123, 1124, 1149, 1150, 1151, 1152, 1153, 1154] rfl (by decide +kernel)) (goodIn_sub (fun _ h => List.mem_append_left _ (List.mem_append_left _ (List.mem_append_right _ h))) (by decide +kernel))
set_option maxRecDepth 20000 in
theorem gL_law_L_wouldAppeal : GoodIn wsL_law (va_wsS RL 213 yL_wouldAppeal wsL_wouldAppeal) := goodIn_app (goodIn_of _ (by decide +kernel)) ggL_law_L_wouldAppeal
set_option maxRecDepth 20000 in
theorem ggL_law_X9_wouldAppeal : GoodIn wsL_law wsX9_wouldAppeal := goodIn_r _ [852, 216, 128, 477, 478, 479, 5, 480, 220, 221, 222, 223, 224, 225, 226, 1100, 1101, 1102, 1103, 1104, 1105, 1106, 1107, 1108, 1109, 1110, 1111, 1112, 1113, 1114] rfl (by decide +kernel)
set_option maxRecDepth 20000 in
theorem gL_law_X9_wouldAppeal : GoodIn wsL_law (wsV RL 215 RX9 yX9_wouldAppeal wsX9_wouldAppeal) := goodIn_app (goodIn_of _ (by decide +kernel)) ggL_law_X9_wouldAppeal
set_option maxRecDepth 20000 in
theorem ggL_law_L_finesOf : GoodIn wsL_law wsL_finesOf := goodIn_ca (goodIn_r _ [855, 143, 856, 857, 858, 2, 859, 17, 154, 155, 156, 157, 158, 159, 160, 161, 162, 860, 861, 862, 54, 863, 75, 76, 864, 865, 866, 16, 867, 48, 42, 385, 379, 380, 1094, 1095, 1096, 1097, 1098, 1099, 1115, 1116, 1117, 1118, 1119, 1120, 1121, 1122, 1123, 1124, 1136, 1137, 1138, 1139, 1140, 1141, 1142, 1143, 1149, 1150, 1151, 1152, 1153, 1154] rfl (by decide +kernel)) (goodIn_sub (fun _ h => List.mem_append_left _ (List.mem_append_left _ (List.mem_append_right _ h))) (by decide +kernel))
set_option maxRecDepth 20000 in
theorem gL_law_L_finesOf : GoodIn wsL_law (va_wsS RL 216 yL_finesOf wsL_finesOf) := goodIn_app (goodIn_of _ (by decide +kernel)) ggL_law_L_finesOf
set_option maxRecDepth 20000 in
theorem ggL_law_X9_finesOf : GoodIn wsL_law wsX9_finesOf := goodIn_r _ [871, 216, 128, 217, 218, 5, 219, 220, 221, 222, 223, 224, 225, 226, 872, 873, 874, 875, 1100, 1101, 1102, 1103, 1104, 1105, 1106, 1107, 1108, 1109, 1110, 1111, 1112, 1113, 1114] rfl (by decide +kernel)
set_option maxRecDepth 20000 in
theorem gL_law_X9_finesOf : GoodIn wsL_law (wsV RL 219 RX9 yX9_finesOf wsX9_finesOf) := goodIn_app (goodIn_of _ (by decide +kernel)) ggL_law_X9_finesOf
set_option maxRecDepth 20000 in
theorem ggL_law_X8_worstChimney : GoodIn wsL_law wsX8_worstChimney := goodIn_r _ [879, 17, 880, 881, 882, 16, 883, 884, 865, 866, 867, 48, 42, 385, 379, 380, 1094, 1095, 1096, 1097, 1098, 1099, 1115, 1116, 1117, 1118, 1119, 1120, 1121, 1122, 1123, 1124, 1149, 1150, 1151, 1152, 1153, 1154] rfl (by decide +kernel)
set_option maxRecDepth 20000 in
theorem gL_law_X8_worstChimney : GoodIn wsL_law (wsV RL 220 RX8 yX8_worstChimney wsX8_worstChimney) := goodIn_app (goodIn_of _ (by decide +kernel)) ggL_law_X8_worstChimney
set_option maxRecDepth 20000 in
theorem ggL_law_X9_worstChimney : GoodIn wsL_law wsX9_worstChimney := goodIn_r _ [888, 216, 872, 873, 874, 5, 875, 128, 1100, 1101, 1102, 1103, 1104, 1105, 1106, 1107, 1108, 1109, 1110, 1111, 1112, 1113, 1114] rfl (by decide +kernel)
set_option maxRecDepth 20000 in
theorem gL_law_X9_worstChimney : GoodIn wsL_law (wsV RL 223 RX9 yX9_worstChimney wsX9_worstChimney) := goodIn_app (goodIn_of _ (by decide +kernel)) ggL_law_X9_worstChimney
set_option maxRecDepth 20000 in
theorem ggL_law_L_toWatch : GoodIn wsL_law wsL_toWatch := goodIn_ca (goodIn_r _ [891, 144, 892, 893, 894, 2, 895, 17, 153, 896, 897, 347, 898, 30, 159, 160, 161, 162, 163, 164, 165, 166, 167, 645, 637, 638, 54, 639, 640, 203, 204, 205, 80, 72, 73, 206, 207, 208, 209, 74, 210, 211, 899, 900, 901, 902, 903, 904, 905, 906, 907, 908, 909, 910, 911, 912, 913, 914, 915, 916, 917, 918, 919, 920, 921, 1094, 1095, 1096, 1097, 1098, 1099, 1115, 1116, 1117, 1118, 1119, 1120, 1121, 1122, 1123, 1124, 1136, 1137, 1138, 1139, 1140, 1141, 1142, 1143] rfl (by decide +kernel)) (goodIn_sub (fun _ h => List.mem_append_left _ (List.mem_append_right _ h)) (by decide +kernel))
set_option maxRecDepth 20000 in
theorem gL_law_L_toWatch : GoodIn wsL_law (va_wsS RL 224 yL_toWatch wsL_toWatch) := goodIn_app (goodIn_of _ (by decide +kernel)) ggL_law_L_toWatch
set_option maxRecDepth 20000 in
theorem ggL_law_X9_toWatch : GoodIn wsL_law wsX9_toWatch := goodIn_r _ [925, 216, 128, 134, 220, 221, 5, 222, 223, 224, 225, 226, 650, 651, 652, 653, 232, 233, 234, 235, 926, 927, 928, 929, 1100, 1101, 1102, 1103, 1104, 1105, 1106, 1107, 1108, 1109, 1110, 1111, 1112, 1113, 1114] rfl (by decide +kernel)
set_option maxRecDepth 20000 in
theorem gL_law_X9_toWatch : GoodIn wsL_law (wsV RL 226 RX9 yX9_toWatch wsX9_toWatch) := goodIn_app (goodIn_of _ (by decide +kernel)) ggL_law_X9_toWatch
set_option maxRecDepth 20000 in
theorem ggL_law_L_noticesIn : GoodIn wsL_law wsL_noticesIn := goodIn_ca (goodIn_r _ [932, 144, 933, 934, 935, 2, 936, 18, 17, 160, 161, 162, 163, 164, 165, 166, 167, 937, 177, 178, 16, 179, 38, 40, 42, 43, 180, 181, 182, 183, 47, 48, 49, 50, 51, 52, 184, 185, 186, 54, 187, 72, 73, 74, 80, 75, 76, 78, 79, 188, 189, 190, 46, 191, 63, 192, 193, 194, 195, 56, 196, 85, 86, 87, 88, 89, 197, 198, 199, 58, 200, 93, 94, 95, 96, 97, 98, 201, 314, 315, 316, 317, 318, 319, 320, 321, 322, 323, 324, 325, 326, 327, 328, 329, 330, 331, 248, 249, 250, 332, 333, 334, 335, 336, 203, 204, 205, 206, 207, 208, 209, 210, 211, 337, 338, 339, 340, 341, 342, 343, 344, 345, 346, 347, 348, 349, 350, 351, 352, 353, 354, 355, 356, 357, 358, 359, 360, 361, 362, 363, 364, 365, 366, 367, 368, 369, 370, 371, 372, 373, 374, 375, 376, 377, 378, 379, 380, 381, 382, 383, 384, 385, 386, 387, 388, 389, 390, 391, 392, 393, 394, 395, 396, 397, 398, 399, 64, 65, 66, 67, 1094, 1095, 1096, 1097, 1098, 1099, 1115, 1116, 1117, 1118, 1119, 1120, 1121, 1122, 1123, 1124, 1136, 1137, 1138, 1139, 1140, 1141, 1142, 1143, 1135, 1144, 1145, 1146, 1147, 1148, 1149, 1150, 1151, 1152, 1153, 1154] rfl (by decide +kernel)) (goodIn_sub (fun _ h => List.mem_append_left _ (List.mem_append_right _ h)) (by decide +kernel))
set_option maxRecDepth 20000 in
theorem gL_law_L_noticesIn : GoodIn wsL_law (va_wsS RL 227 yL_noticesIn wsL_noticesIn) := goodIn_app (goodIn_of _ (by decide +kernel)) ggL_law_L_noticesIn
set_option maxRecDepth 20000 in
theorem ggL_law_X9_noticesIn : GoodIn wsL_law wsX9_noticesIn := goodIn_r _ [941, 216, 128, 404, 405, 5, 406, 220, 221, 222, 942, 943, 944, 945, 946, 947, 948, 949, 132, 407, 408, 409, 410, 411, 412, 413, 414, 415, 416, 417, 418, 419, 420, 421, 422, 232, 233, 234, 235, 423, 424, 425, 426, 427, 428, 429, 430, 431, 432, 433, 434, 435, 436, 437, 438, 439, 440, 441, 442, 443, 444, 445, 446, 135, 136, 137, 138, 950, 951, 952, 953, 223, 224, 225, 226, 1100, 1101, 1102, 1103, 1104, 1105, 1106, 1107, 1108, 1109, 1110, 1111, 1112, 1113, 1114] rfl (by decide +kernel)
set_option maxRecDepth 20000 in
theorem gL_law_X9_noticesIn : GoodIn wsL_law (wsV RL 229 RX9 yX9_noticesIn wsX9_noticesIn) := goodIn_app (goodIn_of _ (by decide +kernel)) ggL_law_X9_noticesIn
set_option maxRecDepth 20000 in
theorem ggL_law_L_ticksToNotice : GoodIn wsL_law wsL_ticksToNotice := goodIn_ca (goodIn_r _ [956, 143, 957, 958, 959, 2, 960, 18, 17, 961, 154, 155, 156, 157, 158, 159, 160, 161, 162, 937, 177, 178, 16, 179, 38, 40, 42, 43, 180, 181, 182, 183, 47, 48, 49, 50, 51, 52, 184, 185, 186, 54, 187, 72, 73, 74, 80, 75, 76, 78, 79, 188, 189, 190, 46, 191, 63, 192, 193, 194, 195, 56, 196, 85, 86, 87, 88, 89, 197, 198, 199, 58, 200, 93, 94, 95, 96, 97, 98, 201, 962, 319, 320, 321, 322, 323, 324, 325, 326, 327, 328, 329, 330, 331, 248, 249, 250, 332, 333, 334, 335, 336, 203, 204, 205, 206, 207, 208, 209, 210, 211, 337, 338, 339, 340, 341, 342, 343, 344, 345, 346, 347, 348, 349, 350, 351, 352, 353, 354, 355, 356, 357, 358, 359, 360, 361, 362, 363, 364, 365, 366, 367, 368, 369, 370, 371, 372, 373, 374, 375, 376, 377, 378, 379, 380, 381, 382, 383, 384, 385, 386, 387, 388, 389, 390, 391, 392, 393, 394, 395, 396, 397, 398, 399, 64, 65, 66, 67, 1094, 1095, 1096, 1097, 1098, 1099, 1136, 1137, 1138, 1139, 1140, 1141, 1142, 1143, 1115, 1116, 1117, 1118, 1119, 1120, 1121, 1122, 1123, 1124, 1135, 1144, 1145, 1146, 1147, 1148, 1149, 1150, 1151, 1152, 1153, 1154] rfl (by decide +kernel)) (goodIn_sub (fun _ h => List.mem_append_left _ (List.mem_append_left _ (List.mem_append_right _ h))) (by decide +kernel))
set_option maxRecDepth 20000 in
theorem gL_law_L_ticksToNotice : GoodIn wsL_law (va_wsS RL 230 yL_ticksToNotice wsL_ticksToNotice) := goodIn_app (goodIn_of _ (by decide +kernel)) ggL_law_L_ticksToNotice
