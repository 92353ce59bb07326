set_option maxRecDepth 20000 in
theorem ggL_law_L_id : GoodIn wsL_law wsL_id := goodIn_ca (goodIn_ca (goodIn_r _ [334, 301, 335, 336, 337, 2, 338, 306, 307, 32, 308, 309, 310, 37, 311, 108, 312, 313, 314, 315, 316, 1042, 1043, 1044, 1045, 1046, 1047, 1048, 1049, 1110, 1111, 1112, 1113, 1114, 1115, 1116, 1117, 1118, 1119, 1120, 1121, 1102, 1103] rfl (by decide +kernel)) (goodIn_sub (fun _ h => List.mem_append_left _ (List.mem_append_left _ (List.mem_append_left _ (List.mem_append_right _ h)))) (by decide +kernel))) (goodIn_sub (fun _ h => List.mem_append_left _ (List.mem_append_left _ (List.mem_append_left _ (List.mem_append_left _ (List.mem_append_right _ h))))) (by decide +kernel))
set_option maxRecDepth 20000 in
theorem gL_law_L_id : GoodIn wsL_law (va_wsS RL 85 yL_id wsL_id) := goodIn_app (goodIn_of _ (by decide +kernel)) ggL_law_L_id
set_option maxRecDepth 20000 in
theorem ggL_law_X11_id : GoodIn wsL_law wsX11_id := goodIn_ca (goodIn_r _ [342, 343, 327, 141, 1050, 1051, 1052, 1053, 1054, 1055, 1056, 1057, 1058, 1059, 1060, 1061, 1062, 1063, 1064, 1065, 1066, 1067, 1068, 1069, 1070, 1071, 1072, 1073, 1074, 1075, 1076, 1077, 1078, 1079, 1080, 1081, 1082, 1083, 1084, 1085, 1086, 1087, 1088, 1089, 1090, 1091, 1092, 1093, 1094] rfl (by decide +kernel)) (goodIn_sub (fun _ h => List.mem_append_left _ (List.mem_append_left _ (List.mem_append_left _ (List.mem_append_left _ (List.mem_append_right _ h))))) (by decide +kernel))
set_option maxRecDepth 20000 in
theorem gL_law_X11_id : GoodIn wsL_law (wsV RL 88 RX11 yX11_id wsX11_id) := goodIn_app (goodIn_of _ (by decide +kernel)) ggL_law_X11_id
set_option maxRecDepth 20000 in
theorem ggL_law_L_tape : GoodIn wsL_law wsL_tape := goodIn_ca (goodIn_ca (goodIn_r _ [346, 301, 347, 348, 349, 2, 350, 306, 307, 32, 308, 309, 310, 37, 311, 108, 312, 313, 314, 315, 316, 317, 318, 319, 320, 1042, 1043, 1044, 1045, 1046, 1047, 1048, 1049, 1110, 1111, 1112, 1113, 1114, 1115, 1116, 1117, 1118, 1119, 1120, 1121, 1102, 1103] rfl (by decide +kernel)) (goodIn_sub (fun _ h => List.mem_append_left _ (List.mem_append_left _ (List.mem_append_left _ (List.mem_append_left _ (List.mem_append_right _ h))))) (by decide +kernel))) (goodIn_sub (fun _ h => List.mem_append_left _ (List.mem_append_left _ (List.mem_append_left _ (List.mem_append_right _ h)))) (by decide +kernel))
set_option maxRecDepth 20000 in
theorem gL_law_L_tape : GoodIn wsL_law (va_wsS RL 89 yL_tape wsL_tape) := goodIn_app (goodIn_of _ (by decide +kernel)) ggL_law_L_tape
set_option maxRecDepth 20000 in
theorem ggL_law_X11_tape : GoodIn wsL_law wsX11_tape := goodIn_ca (goodIn_r _ [354, 355, 327, 142, 1050, 1051, 1052, 1053, 1054, 1055, 1056, 1057, 1058, 1059, 1060, 1061, 1062, 1063, 1064, 1065, 1066, 1067, 1068, 1069, 1070, 1071, 1072, 1073, 1074, 1075, 1076, 1077, 1078, 1079, 1080, 1081, 1082, 1083, 1084, 1085, 1086, 1087, 1088, 1089, 1090, 1091, 1092, 1093, 1094] rfl (by decide +kernel)) (goodIn_sub (fun _ h => List.mem_append_left _ (List.mem_append_left _ (List.mem_append_left _ (List.mem_append_left _ (List.mem_append_right _ h))))) (by decide +kernel))
set_option maxRecDepth 20000 in
theorem gL_law_X11_tape : GoodIn wsL_law (wsV RL 92 RX11 yX11_tape wsX11_tape) := goodIn_app (goodIn_of _ (by decide +kernel)) ggL_law_X11_tape
set_option maxRecDepth 20000 in
theorem ggL_law_X10_metadata : GoodIn wsL_law wsX10_metadata := goodIn_r _ [359, 32, 1042, 1043, 1044, 1045, 1046, 1047, 1048, 1049, 1110, 1111, 1112, 1113, 1114, 1115, 1116, 1117, 1118, 1119, 1120, 1121] rfl (by decide +kernel)
set_option maxRecDepth 20000 in
theorem gL_law_X10_metadata : GoodIn wsL_law (wsV RL 93 RX10 yX10_metadata wsX10_metadata) := goodIn_app (goodIn_of _ (by decide +kernel)) ggL_law_X10_metadata
set_option maxRecDepth 20000 in
theorem ggL_law_X11_metadata : GoodIn wsL_law wsX11_metadata := goodIn_r _ [363, 327, 364, 1050, 1051, 1052, 1053, 1054, 1055, 1056, 1057, 1058, 1059, 1060, 1061, 1062, 1063, 1064, 1065, 1066, 1067, 1068, 1069, 1070, 1071, 1072, 1073, 1074, 1075, 1076, 1077, 1078, 1079, 1080, 1081, 1082, 1083, 1084, 1085, 1086, 1087, 1088, 1089, 1090, 1091, 1092, 1093, 1094] rfl (by decide +kernel)
set_option maxRecDepth 20000 in
theorem gL_law_X11_metadata : GoodIn wsL_law (wsV RL 97 RX11 yX11_metadata wsX11_metadata) := goodIn_app (goodIn_of _ (by decide +kernel)) ggL_law_X11_metadata
