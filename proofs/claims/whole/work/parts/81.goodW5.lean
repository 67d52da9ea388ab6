set_option maxRecDepth 20000 in
theorem ggL_law_X9_ticksToNotice : GoodIn wsL_law wsX9_ticksToNotice := goodIn_r _ [966, 216, 128, 217, 218, 5, 219, 220, 221, 222, 223, 224, 225, 226, 946, 947, 948, 949, 132, 967, 968, 969, 970, 411, 412, 413, 414, 415, 416, 417, 418, 419, 420, 421, 422, 232, 233, 234, 235, 423, 424, 425, 426, 427, 428, 429, 430, 431, 432, 433, 434, 435, 436, 437, 438, 439, 440, 441, 442, 443, 444, 445, 446, 135, 136, 137, 138, 950, 951, 952, 953, 1100, 1101, 1102, 1103, 1104, 1105, 1106, 1107, 1108, 1109, 1110, 1111, 1112, 1113, 1114] rfl (by decide +kernel)
set_option maxRecDepth 20000 in
theorem gL_law_X9_ticksToNotice : GoodIn wsL_law (wsV RL 232 RX9 yX9_ticksToNotice wsX9_ticksToNotice) := goodIn_app (goodIn_of _ (by decide +kernel)) ggL_law_X9_ticksToNotice
set_option maxRecDepth 20000 in
theorem ggL_law_L_mildLimit : GoodIn wsL_law wsL_mildLimit := goodIn_ca (goodIn_r _ [973, 144, 974, 975, 976, 2, 977, 18, 17, 301, 160, 161, 162, 163, 164, 165, 166, 167, 937, 177, 178, 16, 179, 38, 40, 42, 43, 180, 181, 182, 183, 47, 48, 49, 50, 51, 52, 184, 185, 186, 54, 187, 72, 73, 74, 80, 75, 76, 78, 79, 188, 189, 190, 46, 191, 63, 192, 193, 194, 195, 56, 196, 85, 86, 87, 88, 89, 197, 198, 199, 58, 200, 93, 94, 95, 96, 97, 98, 201, 978, 979, 980, 981, 318, 319, 320, 321, 322, 323, 324, 325, 326, 327, 328, 329, 330, 331, 248, 249, 250, 332, 333, 334, 335, 336, 203, 204, 205, 206, 207, 208, 209, 210, 211, 337, 338, 339, 340, 341, 342, 343, 344, 345, 346, 347, 348, 349, 350, 351, 352, 353, 354, 355, 356, 357, 358, 359, 360, 361, 362, 363, 364, 365, 366, 367, 368, 369, 370, 371, 372, 373, 374, 375, 376, 377, 378, 379, 380, 381, 382, 383, 384, 385, 386, 387, 388, 389, 390, 391, 392, 393, 394, 395, 396, 397, 398, 399, 64, 65, 66, 67, 1094, 1095, 1096, 1097, 1098, 1099, 1115, 1116, 1117, 1118, 1119, 1120, 1121, 1122, 1123, 1124, 1136, 1137, 1138, 1139, 1140, 1141, 1142, 1143, 1135, 1144, 1145, 1146, 1147, 1148, 1149, 1150, 1151, 1152, 1153, 1154] rfl (by decide +kernel)) (goodIn_sub (fun _ h => List.mem_append_left _ (List.mem_append_right _ h)) (by decide +kernel))
set_option maxRecDepth 20000 in
theorem gL_law_L_mildLimit : GoodIn wsL_law (va_wsS RL 233 yL_mildLimit wsL_mildLimit) := goodIn_app (goodIn_of _ (by decide +kernel)) ggL_law_L_mildLimit
set_option maxRecDepth 20000 in
theorem ggL_law_X9_mildLimit : GoodIn wsL_law wsX9_mildLimit := goodIn_r _ [985, 216, 404, 405, 5, 406, 220, 221, 222, 223, 224, 225, 226, 942, 943, 944, 945, 128, 946, 947, 948, 949, 132, 407, 408, 409, 410, 411, 412, 413, 414, 415, 416, 417, 418, 419, 420, 421, 422, 232, 233, 234, 235, 423, 424, 425, 426, 427, 428, 429, 430, 431, 432, 433, 434, 435, 436, 437, 438, 439, 440, 441, 442, 443, 444, 445, 446, 135, 136, 137, 138, 950, 951, 952, 953, 1100, 1101, 1102, 1103, 1104, 1105, 1106, 1107, 1108, 1109, 1110, 1111, 1112, 1113, 1114] rfl (by decide +kernel)
set_option maxRecDepth 20000 in
theorem gL_law_X9_mildLimit : GoodIn wsL_law (wsV RL 235 RX9 yX9_mildLimit wsX9_mildLimit) := goodIn_app (goodIn_of _ (by decide +kernel)) ggL_law_X9_mildLimit
set_option maxRecDepth 20000 in
theorem ggL_law_L_put : GoodIn wsL_law wsL_put := goodIn_ca (goodIn_ca (goodIn_r _ [988, 144, 450, 989, 990, 991, 2, 992, 455, 456, 28, 993, 994, 995, 27, 996, 997, 161, 162, 163, 164, 165, 166, 167, 998, 999, 1000, 1001, 113, 1002, 1003, 1004, 1005, 111, 1094, 1095, 1096, 1097, 1098, 1099, 1127, 1128, 1129, 1130, 1131, 1132] rfl (by decide +kernel)) (goodIn_sub (fun _ h => List.mem_append_right _ h) (by decide +kernel))) (goodIn_sub (fun _ h => List.mem_append_left _ (List.mem_append_right _ h)) (by decide +kernel))
set_option maxRecDepth 20000 in
theorem gL_law_L_put : GoodIn wsL_law (va_wsS RL 238 yL_put wsL_put) := goodIn_app (goodIn_of _ (by decide +kernel)) ggL_law_L_put
set_option maxRecDepth 20000 in
theorem ggL_law_X9_put : GoodIn wsL_law wsX9_put := goodIn_r _ [1009, 216, 560, 133, 1010, 1011, 5, 1012, 220, 221, 222, 223, 224, 225, 226, 1100, 1101, 1102, 1103, 1104, 1105, 1106, 1107, 1108, 1109, 1110, 1111, 1112, 1113, 1114] rfl (by decide +kernel)
set_option maxRecDepth 20000 in
theorem gL_law_X9_put : GoodIn wsL_law (wsV RL 241 RX9 yX9_put wsX9_put) := goodIn_app (goodIn_of _ (by decide +kernel)) ggL_law_X9_put
set_option maxRecDepth 20000 in
theorem ggL_law_X8_wipe : GoodIn wsL_law wsX8_wipe := goodIn_r _ [1016, 28, 993, 551, 552, 553, 27, 554, 113, 1094, 1095, 1096, 1097, 1098, 1099, 1127, 1128, 1129, 1130, 1131, 1132] rfl (by decide +kernel)
set_option maxRecDepth 20000 in
theorem gL_law_X8_wipe : GoodIn wsL_law (wsV RL 242 RX8 yX8_wipe wsX8_wipe) := goodIn_app (goodIn_of _ (by decide +kernel)) ggL_law_X8_wipe
set_option maxRecDepth 20000 in
theorem ggL_law_X9_wipe : GoodIn wsL_law wsX9_wipe := goodIn_r _ [1020, 216, 560, 1100, 1101, 1102, 1103, 1104, 1105, 1106, 1107, 1108, 1109, 1110, 1111, 1112, 1113, 1114] rfl (by decide +kernel)
set_option maxRecDepth 20000 in
theorem gL_law_X9_wipe : GoodIn wsL_law (wsV RL 245 RX9 yX9_wipe wsX9_wipe) := goodIn_app (goodIn_of _ (by decide +kernel)) ggL_law_X9_wipe
set_option maxRecDepth 20000 in
theorem ggL_law_X8_padLength : GoodIn wsL_law wsX8_padLength := goodIn_r _ [1024, 28, 993, 1094, 1095, 1096, 1097, 1098, 1099, 1127, 1128, 1129, 1130, 1131, 1132] rfl (by decide +kernel)
set_option maxRecDepth 20000 in
theorem gL_law_X8_padLength : GoodIn wsL_law (wsV RL 246 RX8 yX8_padLength wsX8_padLength) := goodIn_app (goodIn_of _ (by decide +kernel)) ggL_law_X8_padLength
set_option maxRecDepth 20000 in
theorem ggL_law_X9_padLength : GoodIn wsL_law wsX9_padLength := goodIn_r _ [1028, 216, 560, 1100, 1101, 1102, 1103, 1104, 1105, 1106, 1107, 1108, 1109, 1110, 1111, 1112, 1113, 1114] rfl (by decide +kernel)
set_option maxRecDepth 20000 in
theorem gL_law_X9_padLength : GoodIn wsL_law (wsV RL 249 RX9 yX9_padLength wsX9_padLength) := goodIn_app (goodIn_of _ (by decide +kernel)) ggL_law_X9_padLength
set_option maxRecDepth 20000 in
theorem ggL_law_X8_fault : GoodIn wsL_law wsX8_fault := goodIn_r _ [1032, 28, 496, 497, 498, 27, 499, 112, 113, 500, 501, 502, 503, 504, 505, 506, 507, 114, 508, 509, 510, 511, 111, 512, 513, 514, 515, 516, 517, 518, 519, 115, 520, 521, 522, 523, 524, 525, 526, 527, 161, 2, 162, 528, 529, 530, 531, 116, 532, 533, 534, 535, 536, 537, 538, 539, 1094, 1095, 1096, 1097, 1098, 1099, 1127, 1128, 1129, 1130, 1131, 1132] rfl (by decide +kernel)
set_option maxRecDepth 20000 in
theorem gL_law_X8_fault : GoodIn wsL_law (wsV RL 250 RX8 yX8_fault wsX8_fault) := goodIn_app (goodIn_of _ (by decide +kernel)) ggL_law_X8_fault
set_option maxRecDepth 20000 in
theorem ggL_law_X9_fault : GoodIn wsL_law wsX9_fault := goodIn_r _ [564, 216, 559, 560, 565, 566, 567, 5, 568, 133, 569, 570, 571, 572, 573, 574, 575, 576, 577, 578, 579, 580, 220, 221, 222, 581, 582, 583, 584, 585, 586, 587, 588, 1100, 1101, 1102, 1103, 1104, 1105, 1106, 1107, 1108, 1109, 1110, 1111, 1112, 1113, 1114] rfl (by decide +kernel)
set_option maxRecDepth 20000 in
theorem gL_law_X9_fault : GoodIn wsL_law (wsV RL 253 RX9 yX9_fault wsX9_fault) := goodIn_app (goodIn_of _ (by decide +kernel)) ggL_law_X9_fault
set_option maxRecDepth 20000 in
theorem ggL_law_L_undo : GoodIn wsL_law wsL_undo := goodIn_ca (goodIn_r _ [1036, 450, 1037, 1038, 1039, 2, 1040, 455, 456, 22, 1041, 17, 1042, 1043, 1044, 21, 1045, 105, 104, 161, 162, 176, 177, 178, 16, 179, 38, 40, 42, 43, 180, 181, 182, 183, 47, 48, 49, 50, 51, 52, 184, 185, 186, 54, 187, 72, 73, 74, 80, 75, 76, 78, 79, 188, 189, 190, 46, 191, 63, 192, 193, 194, 195, 56, 196, 85, 86, 87, 88, 89, 197, 198, 199, 58, 200, 93, 94, 95, 96, 97, 98, 201, 1094, 1095, 1096, 1097, 1098, 1099, 1125, 1126, 1115, 1116, 1117, 1118, 1119, 1120, 1121, 1122, 1123, 1124, 1136, 1137, 1138, 1139, 1140, 1141, 1142, 1143, 1135, 1144, 1145, 1146, 1147, 1148, 1149, 1150, 1151, 1152, 1153, 1154] rfl (by decide +kernel)) (goodIn_sub (fun _ h => List.mem_append_right _ h) (by decide +kernel))
set_option maxRecDepth 20000 in
theorem gL_law_L_undo : GoodIn wsL_law (va_wsS RL 254 yL_undo wsL_undo) := goodIn_app (goodIn_of _ (by decide +kernel)) ggL_law_L_undo
set_option maxRecDepth 20000 in
theorem ggL_law_X9_undo : GoodIn wsL_law wsX9_undo := goodIn_r _ [1049, 216, 231, 128, 129, 223, 224, 225, 5, 226, 1100, 1101, 1102, 1103, 1104, 1105, 1106, 1107, 1108, 1109, 1110, 1111, 1112, 1113, 1114] rfl (by decide +kernel)
set_option maxRecDepth 20000 in
theorem gL_law_X9_undo : GoodIn wsL_law (wsV RL 256 RX9 yX9_undo wsX9_undo) := goodIn_app (goodIn_of _ (by decide +kernel)) ggL_law_X9_undo
set_option maxRecDepth 20000 in
theorem ggL_law_X8_undoable : GoodIn wsL_law wsX8_undoable := goodIn_r _ [1053, 22, 1041, 1094, 1095, 1096, 1097, 1098, 1099, 1125, 1126] rfl (by decide +kernel)
set_option maxRecDepth 20000 in
theorem gL_law_X8_undoable : GoodIn wsL_law (wsV RL 257 RX8 yX8_undoable wsX8_undoable) := goodIn_app (goodIn_of _ (by decide +kernel)) ggL_law_X8_undoable
set_option maxRecDepth 20000 in
theorem ggL_law_X9_undoable : GoodIn wsL_law wsX9_undoable := goodIn_r _ [1057, 216, 231, 1100, 1101, 1102, 1103, 1104, 1105, 1106, 1107, 1108, 1109, 1110, 1111, 1112, 1113, 1114] rfl (by decide +kernel)
set_option maxRecDepth 20000 in
theorem gL_law_X9_undoable : GoodIn wsL_law (wsV RL 260 RX9 yX9_undoable wsX9_undoable) := goodIn_app (goodIn_of _ (by decide +kernel)) ggL_law_X9_undoable
set_option maxRecDepth 20000 in
theorem ggL_law_L_save : GoodIn wsL_law wsL_save := goodIn_ca (goodIn_r _ [1060, 143, 1061, 1062, 1063, 2, 1064, 1065, 17, 1066, 1067, 1068, 1069, 1070, 157, 158, 24, 160, 161, 162, 937, 177, 178, 16, 179, 38, 40, 42, 43, 180, 181, 182, 183, 47, 48, 49, 50, 51, 52, 184, 185, 186, 54, 187, 72, 73, 74, 80, 75, 76, 78, 79, 188, 189, 190, 46, 191, 63, 192, 193, 194, 195, 56, 196, 85, 86, 87, 88, 89, 197, 198, 199, 58, 200, 93, 94, 95, 96, 97, 98, 201, 1071, 1072, 1073, 1074, 385, 1133, 1134, 1094, 1095, 1096, 1097, 1098, 1099, 1115, 1116, 1117, 1118, 1119, 1120, 1121, 1122, 1123, 1124, 1136, 1137, 1138, 1139, 1140, 1141, 1142, 1143, 1135, 1144, 1145, 1146, 1147, 1148, 1149, 1150, 1151, 1152, 1153, 1154] rfl (by decide +kernel)) (goodIn_sub (fun _ h => List.mem_append_left _ (List.mem_append_left _ (List.mem_append_right _ h))) (by decide +kernel))
set_option maxRecDepth 20000 in
theorem gL_law_L_save : GoodIn wsL_law (va_wsS RL 261 yL_save wsL_save) := goodIn_app (goodIn_of _ (by decide +kernel)) ggL_law_L_save
set_option maxRecDepth 20000 in
theorem ggL_law_X9_save : GoodIn wsL_law wsX9_save := goodIn_r _ [1078, 216, 130, 128, 131, 220, 221, 5, 222, 223, 224, 225, 226, 1079, 1080, 1081, 1082, 1100, 1101, 1102, 1103, 1104, 1105, 1106, 1107, 1108, 1109, 1110, 1111, 1112, 1113, 1114] rfl (by decide +kernel)
set_option maxRecDepth 20000 in
theorem gL_law_X9_save : GoodIn wsL_law (wsV RL 263 RX9 yX9_save wsX9_save) := goodIn_app (goodIn_of _ (by decide +kernel)) ggL_law_X9_save
set_option maxRecDepth 20000 in
theorem ggL_law_L_restore : GoodIn wsL_law wsL_restore := goodIn_ca (goodIn_ca (goodIn_r _ [1085, 143, 450, 1086, 1087, 1088, 2, 1089, 455, 456, 1066, 22, 17, 1065, 1067, 1068, 1069, 1070, 157, 158, 24, 160, 161, 162, 168, 169, 170, 21, 171, 105, 104, 172, 173, 174, 175, 176, 177, 178, 16, 179, 38, 40, 42, 43, 180, 181, 182, 183, 47, 48, 49, 50, 51, 52, 184, 185, 186, 54, 187, 72, 73, 74, 80, 75, 76, 78, 79, 188, 189, 190, 46, 191, 63, 192, 193, 194, 195, 56, 196, 85, 86, 87, 88, 89, 197, 198, 199, 58, 200, 93, 94, 95, 96, 97, 98, 201, 937, 1071, 1072, 1073, 1074, 385, 1133, 1134, 1094, 1095, 1096, 1097, 1098, 1099, 1125, 1126, 1115, 1116, 1117, 1118, 1119, 1120, 1121, 1122, 1123, 1124, 1136, 1137, 1138, 1139, 1140, 1141, 1142, 1143, 1135, 1144, 1145, 1146, 1147, 1148, 1149, 1150, 1151, 1152, 1153, 1154] rfl (by decide +kernel)) (goodIn_sub (fun _ h => List.mem_append_right _ h) (by decide +kernel))) (goodIn_sub (fun _ h => List.mem_append_left _ (List.mem_append_left _ (List.mem_append_right _ h))) (by decide +kernel))
set_option maxRecDepth 20000 in
theorem gL_law_L_restore : GoodIn wsL_law (va_wsS RL 264 yL_restore wsL_restore) := goodIn_app (goodIn_of _ (by decide +kernel)) ggL_law_L_restore
set_option maxRecDepth 20000 in
theorem ggL_law_X9_restore : GoodIn wsL_law wsX9_restore := goodIn_r _ [1093, 216, 131, 128, 130, 220, 221, 5, 222, 223, 224, 225, 226, 227, 228, 229, 230, 231, 129, 1079, 1080, 1081, 1082, 1100, 1101, 1102, 1103, 1104, 1105, 1106, 1107, 1108, 1109, 1110, 1111, 1112, 1113, 1114] rfl (by decide +kernel)
set_option maxRecDepth 20000 in
theorem gL_law_X9_restore : GoodIn wsL_law (wsV RL 266 RX9 yX9_restore wsX9_restore) := goodIn_app (goodIn_of _ (by decide +kernel)) ggL_law_X9_restore
