set_option maxRecDepth 20000 in
theorem ggL_law_L_frame : GoodIn wsL_law wsL_frame := goodIn_ca (goodIn_r _ [969, 182, 970, 971, 972, 2, 973, 188, 189, 32, 974, 975, 976, 31, 977, 481, 93, 84, 96, 85, 86, 87, 1054, 1055, 1056, 1057, 1058, 1059, 1157, 1158, 1159, 1160, 1161, 1162, 1163, 1164, 1165, 1166, 1167, 1168, 1169, 1170, 1171, 1172, 1173, 1151, 1152, 1153, 1154, 1155, 1156] rfl (by decide +kernel)) (goodIn_sub (fun _ h => List.mem_append_left _ (List.mem_append_right _ h)) (by decide +kernel))
set_option maxRecDepth 20000 in
theorem gL_law_L_frame : GoodIn wsL_law (va_wsS RL 102 yL_frame wsL_frame) := goodIn_app (goodIn_of _ (by decide +kernel)) ggL_law_L_frame
set_option maxRecDepth 20000 in
theorem ggL_law_X9_frame : GoodIn wsL_law wsX9_frame := goodIn_r _ [981, 204, 803, 170, 209, 210, 211, 5, 212, 982, 983, 984, 985, 804, 805, 165, 162, 166, 174, 807, 1060, 1061, 1062, 1063, 1064, 1065, 1066, 1067, 1068, 1069, 1070, 1071, 1072, 1073, 1074, 1075, 1076, 1077, 1078, 1079, 1080, 1081, 1082, 1083, 1084, 1085, 1086, 1087, 1088, 1089, 1090, 1091, 1092, 1093, 1094, 1095, 1096, 1097, 1098, 1099, 1100, 1101, 1102, 1103, 1104, 1105, 1106, 1107, 1108, 1109, 1110, 1111, 1112, 1113, 1114, 1115, 1116, 1117, 1118, 1119, 1120, 1121] rfl (by decide +kernel)
set_option maxRecDepth 20000 in
theorem gL_law_X9_frame : GoodIn wsL_law (wsV RL 104 RX9 yX9_frame wsX9_frame) := goodIn_app (goodIn_of _ (by decide +kernel)) ggL_law_X9_frame
set_option maxRecDepth 20000 in
theorem ggL_law_X8_context : GoodIn wsL_law wsX8_context := goodIn_r _ [989, 32, 990, 991, 992, 31, 993, 481, 85, 93, 96, 994, 995, 996, 27, 997, 75, 73, 74, 1054, 1055, 1056, 1057, 1058, 1059, 1157, 1158, 1159, 1160, 1161, 1162, 1163, 1164, 1165, 1166, 1167, 1168, 1169, 1170, 1171, 1172, 1173, 1151, 1152, 1153, 1154, 1155, 1156] rfl (by decide +kernel)
set_option maxRecDepth 20000 in
theorem gL_law_X8_context : GoodIn wsL_law (wsV RL 105 RX8 yX8_context wsX8_context) := goodIn_app (goodIn_of _ (by decide +kernel)) ggL_law_X8_context
set_option maxRecDepth 20000 in
theorem ggL_law_X9_context : GoodIn wsL_law wsX9_context := goodIn_r _ [1001, 204, 803, 166, 170, 162, 161, 160, 1060, 1061, 1062, 1063, 1064, 1065, 1066, 1067, 1068, 1069, 1070, 1071, 1072, 1073, 1074, 1075, 1076, 1077, 1078, 1079, 1080, 1081, 1082, 1083, 1084, 1085, 1086, 1087, 1088, 1089, 1090, 1091, 1092, 1093, 1094, 1095, 1096, 1097, 1098, 1099, 1100, 1101, 1102, 1103, 1104, 1105, 1106, 1107, 1108, 1109, 1110, 1111, 1112, 1113, 1114, 1115, 1116, 1117, 1118, 1119, 1120, 1121] rfl (by decide +kernel)
set_option maxRecDepth 20000 in
theorem gL_law_X9_context : GoodIn wsL_law (wsV RL 108 RX9 yX9_context wsX9_context) := goodIn_app (goodIn_of _ (by decide +kernel)) ggL_law_X9_context
set_option maxRecDepth 20000 in
theorem ggL_law_X8_told : GoodIn wsL_law wsX8_told := goodIn_r _ [1005, 32, 1006, 1007, 1008, 31, 1009, 481, 93, 479, 86, 83, 480, 1054, 1055, 1056, 1057, 1058, 1059, 1157, 1158, 1159, 1160, 1161, 1162, 1163, 1164, 1165, 1166, 1167, 1168, 1169, 1170, 1171, 1172, 1173] rfl (by decide +kernel)
set_option maxRecDepth 20000 in
theorem gL_law_X8_told : GoodIn wsL_law (wsV RL 109 RX8 yX8_told wsX8_told) := goodIn_app (goodIn_of _ (by decide +kernel)) ggL_law_X8_told
set_option maxRecDepth 20000 in
theorem ggL_law_X9_told : GoodIn wsL_law wsX9_told := goodIn_r _ [1013, 204, 803, 804, 170, 174, 805, 982, 983, 984, 5, 985, 165, 162, 166, 807, 1060, 1061, 1062, 1063, 1064, 1065, 1066, 1067, 1068, 1069, 1070, 1071, 1072, 1073, 1074, 1075, 1076, 1077, 1078, 1079, 1080, 1081, 1082, 1083, 1084, 1085, 1086, 1087, 1088, 1089, 1090, 1091, 1092, 1093, 1094, 1095, 1096, 1097, 1098, 1099, 1100, 1101, 1102, 1103, 1104, 1105, 1106, 1107, 1108, 1109, 1110, 1111, 1112, 1113, 1114, 1115, 1116, 1117, 1118, 1119, 1120, 1121] rfl (by decide +kernel)
set_option maxRecDepth 20000 in
theorem gL_law_X9_told : GoodIn wsL_law (wsV RL 112 RX9 yX9_told wsX9_told) := goodIn_app (goodIn_of _ (by decide +kernel)) ggL_law_X9_told
set_option maxRecDepth 20000 in
theorem ggL_law_X8_digest : GoodIn wsL_law wsX8_digest := goodIn_r _ [1017, 1018, 32, 1019, 974, 975, 976, 31, 977, 481, 93, 84, 96, 85, 86, 87, 1006, 1007, 1008, 1009, 479, 83, 480, 1054, 1055, 1056, 1057, 1058, 1059, 1157, 1158, 1159, 1160, 1161, 1162, 1163, 1164, 1165, 1166, 1167, 1168, 1169, 1170, 1171, 1172, 1173, 1151, 1152, 1153, 1154, 1155, 1156] rfl (by decide +kernel)
set_option maxRecDepth 20000 in
theorem gL_law_X8_digest : GoodIn wsL_law (wsV RL 113 RX8 yX8_digest wsX8_digest) := goodIn_app (goodIn_of _ (by decide +kernel)) ggL_law_X8_digest
set_option maxRecDepth 20000 in
theorem ggL_law_X9_digest : GoodIn wsL_law wsX9_digest := goodIn_r _ [1023, 204, 1024, 803, 170, 1025, 804, 174, 805, 982, 983, 984, 5, 985, 165, 162, 166, 807, 1060, 1061, 1062, 1063, 1064, 1065, 1066, 1067, 1068, 1069, 1070, 1071, 1072, 1073, 1074, 1075, 1076, 1077, 1078, 1079, 1080, 1081, 1082, 1083, 1084, 1085, 1086, 1087, 1088, 1089, 1090, 1091, 1092, 1093, 1094, 1095, 1096, 1097, 1098, 1099, 1100, 1101, 1102, 1103, 1104, 1105, 1106, 1107, 1108, 1109, 1110, 1111, 1112, 1113, 1114, 1115, 1116, 1117, 1118, 1119, 1120, 1121] rfl (by decide +kernel)
set_option maxRecDepth 20000 in
theorem gL_law_X9_digest : GoodIn wsL_law (wsV RL 117 RX9 yX9_digest wsX9_digest) := goodIn_app (goodIn_of _ (by decide +kernel)) ggL_law_X9_digest
set_option maxRecDepth 20000 in
theorem ggL_law_L_stands : GoodIn wsL_law wsL_stands := goodIn_ca (goodIn_r _ [1028, 182, 1029, 1030, 1031, 2, 1032, 188, 189, 16, 224, 225, 226, 15, 227, 228, 45, 229, 230, 231, 232, 1033, 588, 589, 590, 350, 351, 352, 353, 591, 592, 593, 594, 44, 42, 1054, 1055, 1056, 1057, 1058, 1059, 1122, 1123, 1124] rfl (by decide +kernel)) (goodIn_sub (fun _ h => List.mem_append_left _ (List.mem_append_right _ h)) (by decide +kernel))
set_option maxRecDepth 20000 in
theorem gL_law_L_stands : GoodIn wsL_law (va_wsS RL 118 yL_stands wsL_stands) := goodIn_app (goodIn_of _ (by decide +kernel)) ggL_law_L_stands
set_option maxRecDepth 20000 in
theorem ggL_law_X9_stands : GoodIn wsL_law wsX9_stands := goodIn_r _ [1037, 204, 243, 244, 245, 5, 246, 247, 248, 205, 206, 207, 208, 135, 915, 916, 917, 918, 137, 389, 390, 391, 392, 393, 853, 854, 855, 856, 136, 1060, 1061, 1062, 1063, 1064, 1065, 1066, 1067, 1068, 1069, 1070, 1071, 1072, 1073, 1074, 1075, 1076, 1077, 1078, 1079, 1080, 1081, 1082, 1083, 1084, 1085, 1086, 1087, 1088, 1089, 1090, 1091, 1092, 1093, 1094, 1095, 1096, 1097, 1098, 1099, 1100, 1101, 1102, 1103, 1104, 1105, 1106, 1107, 1108, 1109, 1110, 1111, 1112, 1113, 1114, 1115, 1116, 1117, 1118, 1119, 1120, 1121] rfl (by decide +kernel)
set_option maxRecDepth 20000 in
theorem gL_law_X9_stands : GoodIn wsL_law (wsV RL 120 RX9 yX9_stands wsX9_stands) := goodIn_app (goodIn_of _ (by decide +kernel)) ggL_law_X9_stands
set_option maxRecDepth 20000 in
theorem ggL_law_L_common : GoodIn wsL_law wsL_common := goodIn_ca (goodIn_r _ [1044, 182, 1045, 1046, 1047, 2, 1048, 188, 189, 16, 346, 347, 348, 15, 349, 260, 225, 226, 227, 228, 45, 229, 230, 231, 232, 350, 351, 352, 353, 1049, 537, 538, 539, 42, 1054, 1055, 1056, 1057, 1058, 1059, 1122, 1123, 1124] rfl (by decide +kernel)) (goodIn_sub (fun _ h => List.mem_append_left _ (List.mem_append_right _ h)) (by decide +kernel))
set_option maxRecDepth 20000 in
theorem gL_law_L_common : GoodIn wsL_law (va_wsS RL 124 yL_common wsL_common) := goodIn_app (goodIn_of _ (by decide +kernel)) ggL_law_L_common
set_option maxRecDepth 20000 in
theorem ggL_law_X9_common : GoodIn wsL_law wsX9_common := goodIn_r _ [1053, 204, 243, 244, 245, 5, 246, 247, 248, 205, 206, 207, 208, 135, 389, 390, 391, 392, 393, 209, 210, 211, 212, 848, 849, 850, 851, 137, 136, 852, 422, 423, 424, 853, 854, 855, 856, 1060, 1061, 1062, 1063, 1064, 1065, 1066, 1067, 1068, 1069, 1070, 1071, 1072, 1073, 1074, 1075, 1076, 1077, 1078, 1079, 1080, 1081, 1082, 1083, 1084, 1085, 1086, 1087, 1088, 1089, 1090, 1091, 1092, 1093, 1094, 1095, 1096, 1097, 1098, 1099, 1100, 1101, 1102, 1103, 1104, 1105, 1106, 1107, 1108, 1109, 1110, 1111, 1112, 1113, 1114, 1115, 1116, 1117, 1118, 1119, 1120, 1121] rfl (by decide +kernel)
set_option maxRecDepth 20000 in
theorem gL_law_X9_common : GoodIn wsL_law (wsV RL 126 RX9 yX9_common wsX9_common) := goodIn_app (goodIn_of _ (by decide +kernel)) ggL_law_X9_common
