set_option maxRecDepth 20000 in
theorem ggL_law_X9_put : GoodIn wsL_law wsX9_put := goodIn_r _ [383, 204, 321, 147, 148, 149, 150, 323, 151, 384, 385, 386, 5, 387, 246, 274, 247, 248, 249, 250, 251, 252, 205, 206, 207, 208, 135, 388, 389, 390, 391, 392, 393, 394, 395, 396, 397, 209, 210, 211, 212, 213, 214, 215, 216, 1060, 1061, 1062, 1063, 1064, 1065, 1066, 1067, 1068, 1069, 1070, 1071, 1072, 1073, 1074, 1075, 1076, 1077, 1078, 1079, 1080, 1081, 1082, 1083, 1084, 1085, 1086, 1087, 1088, 1089, 1090, 1091, 1092, 1093, 1094, 1095, 1096, 1097, 1098, 1099, 1100, 1101, 1102, 1103, 1104, 1105, 1106, 1107, 1108, 1109, 1110, 1111, 1112, 1113, 1114, 1115, 1116, 1117, 1118, 1119, 1120, 1121] (by decide +kernel) (by decide +kernel)
set_option maxRecDepth 20000 in
theorem gL_law_X9_put : GoodIn wsL_law (wsV RL 93 RX9 yX9_put wsX9_put) := goodIn_app (goodIn_of _ (by decide +kernel)) ggL_law_X9_put
set_option maxRecDepth 20000 in
theorem ggL_law_L_to : GoodIn wsL_law wsL_to := goodIn_ca (goodIn_ca (goodIn_r _ [400, 182, 183, 401, 402, 403, 2, 404, 188, 189, 190, 191, 24, 405, 406, 407, 23, 408, 310, 61, 66, 65, 409, 410, 411, 412, 413, 414, 415, 64, 416, 417, 99, 418, 419, 420, 421, 422, 423, 424, 41, 425, 426, 427, 428, 429, 430, 431, 432, 1054, 1055, 1056, 1057, 1058, 1059, 1134, 1135, 1136, 1137, 1138, 1139, 1140, 1141, 1142, 1143, 1144, 1145, 1146, 1147, 1148, 1149, 1150] (by decide +kernel) (by decide +kernel)) (goodIn_sub (fun _ h => List.mem_append_left _ (List.mem_append_right _ h)) (by decide +kernel))) (goodIn_sub (fun _ h => List.mem_append_right _ h) (by decide +kernel))
set_option maxRecDepth 20000 in
theorem gL_law_L_to : GoodIn wsL_law (va_wsS RL 94 yL_to wsL_to) := goodIn_app (goodIn_of _ (by decide +kernel)) ggL_law_L_to
set_option maxRecDepth 20000 in
theorem ggL_law_X9_to : GoodIn wsL_law wsX9_to := goodIn_r _ [436, 204, 321, 147, 151, 153, 323, 209, 210, 211, 5, 212, 213, 214, 215, 216, 1060, 1061, 1062, 1063, 1064, 1065, 1066, 1067, 1068, 1069, 1070, 1071, 1072, 1073, 1074, 1075, 1076, 1077, 1078, 1079, 1080, 1081, 1082, 1083, 1084, 1085, 1086, 1087, 1088, 1089, 1090, 1091, 1092, 1093, 1094, 1095, 1096, 1097, 1098, 1099, 1100, 1101, 1102, 1103, 1104, 1105, 1106, 1107, 1108, 1109, 1110, 1111, 1112, 1113, 1114, 1115, 1116, 1117, 1118, 1119, 1120, 1121] (by decide +kernel) (by decide +kernel)
set_option maxRecDepth 20000 in
theorem gL_law_X9_to : GoodIn wsL_law (wsV RL 96 RX9 yX9_to wsX9_to) := goodIn_app (goodIn_of _ (by decide +kernel)) ggL_law_X9_to
set_option maxRecDepth 20000 in
theorem ggL_law_L_row : GoodIn wsL_law wsL_row := goodIn_ca (goodIn_ca (goodIn_r _ [439, 182, 183, 440, 441, 442, 2, 443, 188, 189, 190, 191, 16, 24, 192, 193, 194, 15, 195, 45, 444, 445, 446, 23, 447, 311, 67, 1054, 1055, 1056, 1057, 1058, 1059, 1134, 1135, 1136, 1137, 1138, 1139, 1140, 1141, 1142, 1143, 1144, 1145, 1146, 1147, 1148, 1149, 1150, 1122, 1123, 1124] (by decide +kernel) (by decide +kernel)) (goodIn_sub (fun _ h => List.mem_append_left _ (List.mem_append_right _ h)) (by decide +kernel))) (goodIn_sub (fun _ h => List.mem_append_right _ h) (by decide +kernel))
set_option maxRecDepth 20000 in
theorem gL_law_L_row : GoodIn wsL_law (va_wsS RL 97 yL_row wsL_row) := goodIn_app (goodIn_of _ (by decide +kernel)) ggL_law_L_row
set_option maxRecDepth 20000 in
theorem ggL_law_X9_row : GoodIn wsL_law wsX9_row := goodIn_r _ [451, 204, 322, 154, 155, 156, 157, 205, 206, 207, 5, 208, 135, 209, 210, 211, 212, 213, 214, 215, 216, 1060, 1061, 1062, 1063, 1064, 1065, 1066, 1067, 1068, 1069, 1070, 1071, 1072, 1073, 1074, 1075, 1076, 1077, 1078, 1079, 1080, 1081, 1082, 1083, 1084, 1085, 1086, 1087, 1088, 1089, 1090, 1091, 1092, 1093, 1094, 1095, 1096, 1097, 1098, 1099, 1100, 1101, 1102, 1103, 1104, 1105, 1106, 1107, 1108, 1109, 1110, 1111, 1112, 1113, 1114, 1115, 1116, 1117, 1118, 1119, 1120, 1121] (by decide +kernel) (by decide +kernel)
set_option maxRecDepth 20000 in
theorem gL_law_X9_row : GoodIn wsL_law (wsV RL 100 RX9 yX9_row wsX9_row) := goodIn_app (goodIn_of _ (by decide +kernel)) ggL_law_X9_row
set_option maxRecDepth 20000 in
theorem ggL_law_L_frame : GoodIn wsL_law wsL_frame := goodIn_ca (goodIn_r _ [973, 182, 974, 975, 976, 2, 977, 188, 189, 32, 978, 979, 980, 31, 981, 485, 93, 84, 96, 85, 86, 87, 1054, 1055, 1056, 1057, 1058, 1059, 1157, 1158, 1159, 1160, 1161, 1162, 1163, 1164, 1165, 1166, 1167, 1168, 1169, 1170, 1171, 1172, 1173, 1151, 1152, 1153, 1154, 1155, 1156] (by decide +kernel) (by decide +kernel)) (goodIn_sub (fun _ h => List.mem_append_left _ (List.mem_append_right _ h)) (by decide +kernel))
set_option maxRecDepth 20000 in
theorem gL_law_L_frame : GoodIn wsL_law (va_wsS RL 105 yL_frame wsL_frame) := goodIn_app (goodIn_of _ (by decide +kernel)) ggL_law_L_frame
set_option maxRecDepth 20000 in
theorem ggL_law_X9_frame : GoodIn wsL_law wsX9_frame := goodIn_r _ [985, 204, 807, 170, 209, 210, 211, 5, 212, 986, 987, 988, 989, 808, 809, 165, 162, 166, 174, 811, 1060, 1061, 1062, 1063, 1064, 1065, 1066, 1067, 1068, 1069, 1070, 1071, 1072, 1073, 1074, 1075, 1076, 1077, 1078, 1079, 1080, 1081, 1082, 1083, 1084, 1085, 1086, 1087, 1088, 1089, 1090, 1091, 1092, 1093, 1094, 1095, 1096, 1097, 1098, 1099, 1100, 1101, 1102, 1103, 1104, 1105, 1106, 1107, 1108, 1109, 1110, 1111, 1112, 1113, 1114, 1115, 1116, 1117, 1118, 1119, 1120, 1121] (by decide +kernel) (by decide +kernel)
set_option maxRecDepth 20000 in
theorem gL_law_X9_frame : GoodIn wsL_law (wsV RL 107 RX9 yX9_frame wsX9_frame) := goodIn_app (goodIn_of _ (by decide +kernel)) ggL_law_X9_frame
set_option maxRecDepth 20000 in
theorem ggL_law_X8_context : GoodIn wsL_law wsX8_context := goodIn_r _ [993, 32, 994, 995, 996, 31, 997, 485, 85, 93, 96, 998, 999, 1000, 27, 1001, 75, 73, 74, 1054, 1055, 1056, 1057, 1058, 1059, 1157, 1158, 1159, 1160, 1161, 1162, 1163, 1164, 1165, 1166, 1167, 1168, 1169, 1170, 1171, 1172, 1173, 1151, 1152, 1153, 1154, 1155, 1156] (by decide +kernel) (by decide +kernel)
set_option maxRecDepth 20000 in
theorem gL_law_X8_context : GoodIn wsL_law (wsV RL 108 RX8 yX8_context wsX8_context) := goodIn_app (goodIn_of _ (by decide +kernel)) ggL_law_X8_context
