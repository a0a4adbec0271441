set_option maxRecDepth 20000 in
theorem ggL_law_X9_init : GoodIn wsL_law wsX9_init := goodIn_r _ [8, 9, 10, 11, 12, 13, 14, 15, 16, 17, 18, 19, 20, 21, 22, 23, 24, 25, 26, 27, 28, 29, 30, 31, 32, 33, 34, 35, 36, 37, 38, 39, 40, 41, 42, 43, 44, 45, 46, 47, 48, 49, 50, 51, 52, 53, 54, 55, 56, 57, 58, 59, 60, 61, 62, 63, 64, 65, 66, 67, 68, 69, 70, 71, 72, 73, 74, 75, 76, 77, 78, 79, 80, 81, 82, 83, 84, 85, 86, 87, 88, 89, 90, 91, 92, 93, 94, 95, 96, 97, 98, 99, 100, 101, 102, 103, 104, 105, 106, 107, 108, 109, 110, 111, 112, 113, 114, 115, 116, 117, 118, 119, 120, 121, 1065, 1066, 1009, 1010, 1011, 1012, 1013, 1014, 1015, 1016, 1017, 1018, 1067, 1068, 1069, 1070, 1071, 1072, 1073, 1074, 1075, 1076, 1077, 1078, 1079, 1080, 1081, 1082, 1083, 1084, 1085, 1086, 1087, 1088, 1089, 1090, 1091, 1092, 1093, 1094, 1095, 1096, 1097, 1098, 1099, 1100, 1101, 1102, 1103] (by decide +kernel) (by decide +kernel)
set_option maxRecDepth 20000 in
theorem gL_law_X9_init : GoodIn wsL_law (wsX9_init) := ggL_law_X9_init
set_option maxRecDepth 20000 in
theorem ggL_law_X10_init : GoodIn wsL_law wsX10_init := goodIn_r _ [124, 125, 10, 11, 34, 126, 127, 128, 129, 130, 131, 132, 133, 134, 135, 136, 137, 138, 139, 98, 140, 141, 142, 143, 144, 145, 146, 147, 65, 148, 149, 150, 151, 152, 153, 154, 155, 156, 157, 158, 159, 160, 161, 162, 163, 1019, 1020, 1021, 1022, 1023, 1024, 1025, 1026, 1027, 1028, 1029, 1030, 1031, 1032, 1033, 1034, 1035, 1036, 1037, 1038, 1039, 1040, 1041, 1042, 1043, 1044, 1045, 1046, 1047, 1048, 1049, 1050, 1051, 1052, 1053, 1054, 1055, 1056, 1057, 1058, 1059, 1060, 1061, 1062, 1063, 1064] (by decide +kernel) (by decide +kernel)
set_option maxRecDepth 20000 in
theorem gL_law_X10_init : GoodIn wsL_law (wsX10_init) := ggL_law_X10_init
set_option maxRecDepth 20000 in
theorem ggL_law_X9_say : GoodIn wsL_law wsX9_say := goodIn_r _ [167, 15, 168, 169, 2, 170, 171, 172, 173, 14, 174, 175, 56, 1009, 1010, 1011, 1012, 1013, 1014, 1015, 1016, 1017, 1018, 1065, 1066] (by decide +kernel) (by decide +kernel)
set_option maxRecDepth 20000 in
theorem gL_law_X9_say : GoodIn wsL_law (wsV RL 13 RX9 yX9_say wsX9_say) := goodIn_app (goodIn_of _ (by decide +kernel)) ggL_law_X9_say
set_option maxRecDepth 20000 in
theorem ggL_law_X10_say : GoodIn wsL_law wsX10_say := goodIn_r _ [179, 180, 126, 181, 182, 5, 183, 1019, 1020, 1021, 1022, 1023, 1024, 1025, 1026, 1027, 1028, 1029, 1030, 1031, 1032, 1033, 1034, 1035, 1036, 1037, 1038, 1039, 1040, 1041, 1042, 1043, 1044, 1045, 1046, 1047, 1048, 1049, 1050, 1051, 1052, 1053, 1054, 1055, 1056, 1057, 1058, 1059, 1060, 1061, 1062, 1063, 1064] (by decide +kernel) (by decide +kernel)
set_option maxRecDepth 20000 in
theorem gL_law_X10_say : GoodIn wsL_law (wsV RL 17 RX10 yX10_say wsX10_say) := goodIn_app (goodIn_of _ (by decide +kernel)) ggL_law_X10_say
set_option maxRecDepth 20000 in
theorem ggL_law_X9_wipe : GoodIn wsL_law wsX9_wipe := goodIn_r _ [187, 15, 188, 189, 190, 14, 191, 175, 1009, 1010, 1011, 1012, 1013, 1014, 1015, 1016, 1017, 1018, 1065, 1066] (by decide +kernel) (by decide +kernel)
set_option maxRecDepth 20000 in
theorem gL_law_X9_wipe : GoodIn wsL_law (wsV RL 18 RX9 yX9_wipe wsX9_wipe) := goodIn_app (goodIn_of _ (by decide +kernel)) ggL_law_X9_wipe
set_option maxRecDepth 20000 in
theorem ggL_law_X10_wipe : GoodIn wsL_law wsX10_wipe := goodIn_r _ [195, 180, 1019, 1020, 1021, 1022, 1023, 1024, 1025, 1026, 1027, 1028, 1029, 1030, 1031, 1032, 1033, 1034, 1035, 1036, 1037, 1038, 1039, 1040, 1041, 1042, 1043, 1044, 1045, 1046, 1047, 1048, 1049, 1050, 1051, 1052, 1053, 1054, 1055, 1056, 1057, 1058, 1059, 1060, 1061, 1062, 1063, 1064] (by decide +kernel) (by decide +kernel)
set_option maxRecDepth 20000 in
theorem gL_law_X10_wipe : GoodIn wsL_law (wsV RL 22 RX10 yX10_wipe wsX10_wipe) := goodIn_app (goodIn_of _ (by decide +kernel)) ggL_law_X10_wipe
set_option maxRecDepth 20000 in
theorem ggL_law_X9_fault : GoodIn wsL_law wsX9_fault := goodIn_r _ [199, 15, 200, 201, 202, 14, 203, 175, 204, 205, 206, 207, 208, 209, 210, 211, 56, 169, 2, 170, 1009, 1010, 1011, 1012, 1013, 1014, 1015, 1016, 1017, 1018, 1065, 1066] (by decide +kernel) (by decide +kernel)
set_option maxRecDepth 20000 in
theorem gL_law_X9_fault : GoodIn wsL_law (wsV RL 23 RX9 yX9_fault wsX9_fault) := goodIn_app (goodIn_of _ (by decide +kernel)) ggL_law_X9_fault
set_option maxRecDepth 20000 in
theorem ggL_law_X10_fault : GoodIn wsL_law wsX10_fault := goodIn_r _ [215, 216, 217, 218, 5, 219, 180, 126, 181, 182, 183, 1019, 1020, 1021, 1022, 1023, 1024, 1025, 1026, 1027, 1028, 1029, 1030, 1031, 1032, 1033, 1034, 1035, 1036, 1037, 1038, 1039, 1040, 1041, 1042, 1043, 1044, 1045, 1046, 1047, 1048, 1049, 1050, 1051, 1052, 1053, 1054, 1055, 1056, 1057, 1058, 1059, 1060, 1061, 1062, 1063, 1064] (by decide +kernel) (by decide +kernel)
set_option maxRecDepth 20000 in
theorem gL_law_X10_fault : GoodIn wsL_law (wsV RL 26 RX10 yX10_fault wsX10_fault) := goodIn_app (goodIn_of _ (by decide +kernel)) ggL_law_X10_fault
set_option maxRecDepth 20000 in
theorem ggL_law_X9_read : GoodIn wsL_law wsX9_read := goodIn_r _ [223, 15, 17, 16, 224, 225, 226, 168, 169, 2, 170, 200, 201, 202, 14, 203, 175, 204, 205, 206, 207, 208, 209, 210, 211, 56, 227, 228, 229, 230, 10, 11, 34, 231, 232, 233, 234, 235, 236, 237, 238, 239, 240, 241, 242, 243, 244, 245, 246, 247, 248, 249, 250, 251, 252, 253, 254, 255, 256, 257, 258, 259, 260, 261, 262, 263, 111, 112, 113, 188, 189, 190, 191, 1009, 1010, 1011, 1012, 1013, 1014, 1015, 1016, 1017, 1018, 1104, 1105, 1106, 1107, 1108, 1109, 1110, 1111, 1065, 1066] (by decide +kernel) (by decide +kernel)
set_option maxRecDepth 20000 in
theorem gL_law_X9_read : GoodIn wsL_law (wsV RL 27 RX9 yX9_read wsX9_read) := goodIn_app (goodIn_of _ (by decide +kernel)) ggL_law_X9_read
set_option maxRecDepth 20000 in
theorem ggL_law_X10_read : GoodIn wsL_law wsX10_read := goodIn_r _ [267, 180, 128, 126, 129, 130, 131, 132, 133, 134, 127, 268, 269, 5, 270, 181, 182, 183, 216, 217, 218, 219, 1019, 1020, 1021, 1022, 1023, 1024, 1025, 1026, 1027, 1028, 1029, 1030, 1031, 1032, 1033, 1034, 1035, 1036, 1037, 1038, 1039, 1040, 1041, 1042, 1043, 1044, 1045, 1046, 1047, 1048, 1049, 1050, 1051, 1052, 1053, 1054, 1055, 1056, 1057, 1058, 1059, 1060, 1061, 1062, 1063, 1064] (by decide +kernel) (by decide +kernel)
set_option maxRecDepth 20000 in
theorem gL_law_X10_read : GoodIn wsL_law (wsV RL 30 RX10 yX10_read wsX10_read) := goodIn_app (goodIn_of _ (by decide +kernel)) ggL_law_X10_read
set_option maxRecDepth 20000 in
theorem ggL_law_X9_spot : GoodIn wsL_law wsX9_spot := goodIn_r _ [274, 275, 276, 277, 278, 279, 280, 281, 282, 2, 283, 17, 168, 169, 170, 284, 285, 286, 225, 287, 241, 288, 289, 290, 291, 1104, 1105, 1106, 1107, 1108, 1109, 1110, 1111, 1009, 1010, 1011, 1012, 1013, 1014, 1015, 1016, 1017, 1018] (by decide +kernel) (by decide +kernel)
set_option maxRecDepth 20000 in
theorem gL_law_X9_spot : GoodIn wsL_law (wsV RL 31 RX9 yX9_spot wsX9_spot) := goodIn_app (goodIn_of _ (by decide +kernel)) ggL_law_X9_spot
set_option maxRecDepth 20000 in
theorem ggL_law_X10_spot : GoodIn wsL_law wsX10_spot := goodIn_r _ [295, 127, 128, 129, 130, 131, 132, 296, 297, 298, 5, 299, 300, 301, 302, 303, 268, 269, 270, 181, 182, 183, 1019, 1020, 1021, 1022, 1023, 1024, 1025, 1026, 1027, 1028, 1029, 1030, 1031, 1032, 1033, 1034, 1035, 1036, 1037, 1038, 1039, 1040, 1041, 1042, 1043, 1044, 1045, 1046, 1047, 1048, 1049, 1050, 1051, 1052, 1053, 1054, 1055, 1056, 1057, 1058, 1059, 1060, 1061, 1062, 1063, 1064] (by decide +kernel) (by decide +kernel)
set_option maxRecDepth 20000 in
theorem gL_law_X10_spot : GoodIn wsL_law (wsV RL 35 RX10 yX10_spot wsX10_spot) := goodIn_app (goodIn_of _ (by decide +kernel)) ggL_law_X10_spot
set_option maxRecDepth 20000 in
theorem ggL_law_X9_glue : GoodIn wsL_law wsX9_glue := goodIn_r _ [307, 275, 280, 281, 282, 2, 283, 17, 168, 169, 170, 284, 285, 286, 225, 287, 241, 308, 309, 310, 1104, 1105, 1106, 1107, 1108, 1109, 1110, 1111, 1009, 1010, 1011, 1012, 1013, 1014, 1015, 1016, 1017, 1018] (by decide +kernel) (by decide +kernel)
set_option maxRecDepth 20000 in
theorem gL_law_X9_glue : GoodIn wsL_law (wsV RL 36 RX9 yX9_glue wsX9_glue) := goodIn_app (goodIn_of _ (by decide +kernel)) ggL_law_X9_glue
set_option maxRecDepth 20000 in
theorem ggL_law_X10_glue : GoodIn wsL_law wsX10_glue := goodIn_r _ [314, 128, 296, 297, 298, 5, 299, 127, 300, 301, 302, 303, 268, 269, 270, 181, 182, 183, 1019, 1020, 1021, 1022, 1023, 1024, 1025, 1026, 1027, 1028, 1029, 1030, 1031, 1032, 1033, 1034, 1035, 1036, 1037, 1038, 1039, 1040, 1041, 1042, 1043, 1044, 1045, 1046, 1047, 1048, 1049, 1050, 1051, 1052, 1053, 1054, 1055, 1056, 1057, 1058, 1059, 1060, 1061, 1062, 1063, 1064] (by decide +kernel) (by decide +kernel)
set_option maxRecDepth 20000 in
theorem gL_law_X10_glue : GoodIn wsL_law (wsV RL 39 RX10 yX10_glue wsX10_glue) := goodIn_app (goodIn_of _ (by decide +kernel)) ggL_law_X10_glue
set_option maxRecDepth 20000 in
theorem ggL_law_X9_work : GoodIn wsL_law wsX9_work := goodIn_r _ [318, 278, 280, 281, 282, 2, 283, 17, 168, 169, 170, 284, 285, 286, 225, 287, 241, 308, 309, 310, 1104, 1105, 1106, 1107, 1108, 1109, 1110, 1111, 1009, 1010, 1011, 1012, 1013, 1014, 1015, 1016, 1017, 1018] (by decide +kernel) (by decide +kernel)
set_option maxRecDepth 20000 in
theorem gL_law_X9_work : GoodIn wsL_law (wsV RL 40 RX9 yX9_work wsX9_work) := goodIn_app (goodIn_of _ (by decide +kernel)) ggL_law_X9_work
set_option maxRecDepth 20000 in
theorem ggL_law_X10_work : GoodIn wsL_law wsX10_work := goodIn_r _ [322, 131, 296, 297, 298, 5, 299, 127, 300, 301, 302, 303, 268, 269, 270, 181, 182, 183, 1019, 1020, 1021, 1022, 1023, 1024, 1025, 1026, 1027, 1028, 1029, 1030, 1031, 1032, 1033, 1034, 1035, 1036, 1037, 1038, 1039, 1040, 1041, 1042, 1043, 1044, 1045, 1046, 1047, 1048, 1049, 1050, 1051, 1052, 1053, 1054, 1055, 1056, 1057, 1058, 1059, 1060, 1061, 1062, 1063, 1064] (by decide +kernel) (by decide +kernel)
set_option maxRecDepth 20000 in
theorem gL_law_X10_work : GoodIn wsL_law (wsV RL 43 RX10 yX10_work wsX10_work) := goodIn_app (goodIn_of _ (by decide +kernel)) ggL_law_X10_work
set_option maxRecDepth 20000 in
theorem ggL_law_X9_pull : GoodIn wsL_law wsX9_pull := goodIn_r _ [326, 327, 328, 329, 21, 25, 280, 281, 282, 2, 283, 17, 168, 169, 170, 284, 285, 286, 225, 287, 241, 330, 331, 332, 333, 334, 335, 336, 337, 338, 339, 340, 231, 341, 342, 343, 20, 344, 64, 345, 346, 347, 348, 349, 350, 351, 63, 352, 75, 353, 354, 355, 356, 357, 358, 359, 360, 361, 362, 363, 364, 365, 72, 73, 74, 366, 367, 368, 24, 369, 370, 371, 249, 372, 80, 81, 373, 374, 375, 376, 377, 378, 379, 1009, 1010, 1011, 1012, 1013, 1014, 1015, 1016, 1017, 1018, 1104, 1105, 1106, 1107, 1108, 1109, 1110, 1111, 1067, 1068, 1069, 1070, 1098, 1099, 1100, 1101, 1102, 1103, 1071, 1072] (by decide +kernel) (by decide +kernel)
set_option maxRecDepth 20000 in
theorem gL_law_X9_pull : GoodIn wsL_law (wsV RL 44 RX9 yX9_pull wsX9_pull) := goodIn_app (goodIn_of _ (by decide +kernel)) ggL_law_X9_pull
set_option maxRecDepth 20000 in
theorem ggL_law_X10_pull : GoodIn wsL_law wsX10_pull := goodIn_r _ [383, 384, 385, 386, 148, 149, 127, 150, 387, 296, 297, 298, 5, 299, 300, 301, 302, 303, 268, 269, 270, 181, 182, 183, 388, 389, 390, 391, 128, 151, 152, 153, 154, 129, 130, 392, 393, 394, 395, 396, 397, 398, 399, 400, 401, 1019, 1020, 1021, 1022, 1023, 1024, 1025, 1026, 1027, 1028, 1029, 1030, 1031, 1032, 1033, 1034, 1035, 1036, 1037, 1038, 1039, 1040, 1041, 1042, 1043, 1044, 1045, 1046, 1047, 1048, 1049, 1050, 1051, 1052, 1053, 1054, 1055, 1056, 1057, 1058, 1059, 1060, 1061, 1062, 1063, 1064] (by decide +kernel) (by decide +kernel)
set_option maxRecDepth 20000 in
theorem gL_law_X10_pull : GoodIn wsL_law (wsV RL 48 RX10 yX10_pull wsX10_pull) := goodIn_app (goodIn_of _ (by decide +kernel)) ggL_law_X10_pull
set_option maxRecDepth 20000 in
theorem ggL_law_X9_give : GoodIn wsL_law wsX9_give := goodIn_r _ [405, 327, 328, 329, 21, 25, 280, 281, 282, 2, 283, 17, 168, 169, 170, 330, 331, 332, 333, 334, 335, 225, 336, 337, 338, 339, 340, 231, 406, 407, 408, 20, 409, 64, 410, 348, 349, 350, 351, 63, 352, 75, 353, 354, 355, 356, 357, 358, 359, 360, 361, 362, 363, 364, 365, 72, 73, 74, 366, 367, 368, 24, 369, 370, 371, 249, 372, 80, 81, 373, 374, 375, 376, 377, 378, 379, 1009, 1010, 1011, 1012, 1013, 1014, 1015, 1016, 1017, 1018, 1104, 1105, 1106, 1107, 1108, 1109, 1110, 1111, 1067, 1068, 1069, 1070, 1098, 1099, 1100, 1101, 1102, 1103, 1071, 1072] (by decide +kernel) (by decide +kernel)
set_option maxRecDepth 20000 in
theorem gL_law_X9_give : GoodIn wsL_law (wsV RL 49 RX9 yX9_give wsX9_give) := goodIn_app (goodIn_of _ (by decide +kernel)) ggL_law_X9_give
set_option maxRecDepth 20000 in
theorem ggL_law_X10_give : GoodIn wsL_law wsX10_give := goodIn_r _ [414, 384, 385, 392, 387, 386, 300, 301, 302, 5, 303, 127, 268, 269, 270, 181, 182, 183, 388, 389, 390, 391, 128, 151, 152, 153, 154, 129, 130, 148, 149, 150, 393, 394, 395, 396, 397, 398, 399, 400, 401, 1019, 1020, 1021, 1022, 1023, 1024, 1025, 1026, 1027, 1028, 1029, 1030, 1031, 1032, 1033, 1034, 1035, 1036, 1037, 1038, 1039, 1040, 1041, 1042, 1043, 1044, 1045, 1046, 1047, 1048, 1049, 1050, 1051, 1052, 1053, 1054, 1055, 1056, 1057, 1058, 1059, 1060, 1061, 1062, 1063, 1064] (by decide +kernel) (by decide +kernel)
set_option maxRecDepth 20000 in
theorem gL_law_X10_give : GoodIn wsL_law (wsV RL 53 RX10 yX10_give wsX10_give) := goodIn_app (goodIn_of _ (by decide +kernel)) ggL_law_X10_give
set_option maxRecDepth 20000 in
theorem ggL_law_X9_hardest : GoodIn wsL_law wsX9_hardest := goodIn_r _ [418, 21, 280, 281, 282, 2, 283, 17, 168, 169, 170, 333, 334, 335, 225, 336, 337, 338, 339, 340, 231, 419, 420, 421, 20, 422, 64, 423, 346, 424, 371, 249, 372, 425, 349, 350, 351, 63, 352, 75, 353, 354, 355, 356, 357, 358, 359, 360, 361, 362, 363, 364, 365, 72, 73, 74, 1009, 1010, 1011, 1012, 1013, 1014, 1015, 1016, 1017, 1018, 1104, 1105, 1106, 1107, 1108, 1109, 1110, 1111, 1067, 1068, 1069, 1070, 1098, 1099, 1100, 1101, 1102, 1103] (by decide +kernel) (by decide +kernel)
set_option maxRecDepth 20000 in
theorem gL_law_X9_hardest : GoodIn wsL_law (wsV RL 54 RX9 yX9_hardest wsX9_hardest) := goodIn_app (goodIn_of _ (by decide +kernel)) ggL_law_X9_hardest
set_option maxRecDepth 20000 in
theorem ggL_law_X10_hardest : GoodIn wsL_law wsX10_hardest := goodIn_r _ [429, 127, 128, 149, 300, 301, 302, 5, 303, 268, 269, 270, 181, 182, 183, 388, 389, 390, 391, 151, 152, 153, 154, 129, 130, 387, 392, 148, 150, 399, 400, 401, 1019, 1020, 1021, 1022, 1023, 1024, 1025, 1026, 1027, 1028, 1029, 1030, 1031, 1032, 1033, 1034, 1035, 1036, 1037, 1038, 1039, 1040, 1041, 1042, 1043, 1044, 1045, 1046, 1047, 1048, 1049, 1050, 1051, 1052, 1053, 1054, 1055, 1056, 1057, 1058, 1059, 1060, 1061, 1062, 1063, 1064] (by decide +kernel) (by decide +kernel)
set_option maxRecDepth 20000 in
theorem gL_law_X10_hardest : GoodIn wsL_law (wsV RL 57 RX10 yX10_hardest wsX10_hardest) := goodIn_app (goodIn_of _ (by decide +kernel)) ggL_law_X10_hardest
set_option maxRecDepth 20000 in
theorem ggL_law_X9_back : GoodIn wsL_law wsX9_back := goodIn_r _ [433, 327, 328, 275, 329, 21, 25, 280, 281, 282, 2, 283, 17, 168, 169, 170, 284, 285, 286, 225, 287, 241, 434, 435, 436, 330, 331, 332, 437, 438, 439, 20, 440, 441, 67, 442, 443, 444, 445, 64, 410, 348, 446, 349, 350, 351, 63, 352, 75, 353, 354, 355, 356, 357, 358, 359, 360, 361, 362, 363, 364, 365, 72, 73, 74, 366, 367, 368, 24, 369, 370, 371, 249, 372, 80, 81, 373, 374, 375, 376, 377, 378, 379, 1104, 1105, 1106, 1107, 1108, 1109, 1110, 1111, 1009, 1010, 1011, 1012, 1013, 1014, 1015, 1016, 1017, 1018, 1067, 1068, 1069, 1070, 1098, 1099, 1100, 1101, 1102, 1103, 1071, 1072] (by decide +kernel) (by decide +kernel)
set_option maxRecDepth 20000 in
theorem gL_law_X9_back : GoodIn wsL_law (wsV RL 58 RX9 yX9_back wsX9_back) := goodIn_app (goodIn_of _ (by decide +kernel)) ggL_law_X9_back
set_option maxRecDepth 20000 in
theorem ggL_law_X10_back : GoodIn wsL_law wsX10_back := goodIn_r _ [450, 384, 385, 128, 386, 451, 452, 453, 296, 297, 298, 5, 299, 127, 300, 301, 302, 303, 268, 269, 270, 181, 182, 183, 454, 455, 456, 457, 458, 459, 460, 392, 387, 388, 389, 390, 391, 151, 152, 153, 154, 129, 130, 148, 149, 150, 396, 397, 398, 399, 400, 401, 393, 394, 395, 1019, 1020, 1021, 1022, 1023, 1024, 1025, 1026, 1027, 1028, 1029, 1030, 1031, 1032, 1033, 1034, 1035, 1036, 1037, 1038, 1039, 1040, 1041, 1042, 1043, 1044, 1045, 1046, 1047, 1048, 1049, 1050, 1051, 1052, 1053, 1054, 1055, 1056, 1057, 1058, 1059, 1060, 1061, 1062, 1063, 1064] (by decide +kernel) (by decide +kernel)
set_option maxRecDepth 20000 in
theorem gL_law_X10_back : GoodIn wsL_law (wsV RL 61 RX10 yX10_back wsX10_back) := goodIn_app (goodIn_of _ (by decide +kernel)) ggL_law_X10_back
set_option maxRecDepth 20000 in
theorem ggL_law_X9_spreads : GoodIn wsL_law wsX9_spreads := goodIn_r _ [464, 21, 280, 281, 282, 2, 283, 17, 168, 169, 170, 465, 466, 467, 434, 435, 436, 333, 334, 335, 225, 336, 337, 338, 339, 340, 231, 468, 469, 470, 20, 471, 472, 473, 474, 475, 425, 476, 442, 443, 444, 445, 64, 410, 348, 441, 446, 67, 349, 350, 351, 63, 352, 75, 353, 354, 355, 356, 357, 358, 359, 360, 361, 362, 363, 364, 365, 72, 73, 74, 477, 478, 479, 480, 1009, 1010, 1011, 1012, 1013, 1014, 1015, 1016, 1017, 1018, 1104, 1105, 1106, 1107, 1108, 1109, 1110, 1111, 1067, 1068, 1069, 1070, 1098, 1099, 1100, 1101, 1102, 1103] (by decide +kernel) (by decide +kernel)
set_option maxRecDepth 20000 in
theorem gL_law_X9_spreads : GoodIn wsL_law (wsV RL 62 RX9 yX9_spreads wsX9_spreads) := goodIn_app (goodIn_of _ (by decide +kernel)) ggL_law_X9_spreads
set_option maxRecDepth 20000 in
theorem ggL_law_X10_spreads : GoodIn wsL_law wsX10_spreads := goodIn_r _ [484, 300, 301, 302, 5, 303, 127, 268, 269, 270, 181, 182, 183, 454, 455, 456, 388, 389, 390, 391, 128, 151, 152, 153, 154, 129, 130, 387, 392, 148, 149, 150, 485, 486, 487, 488, 451, 452, 131, 453, 457, 458, 459, 460, 396, 397, 398, 399, 400, 401, 1019, 1020, 1021, 1022, 1023, 1024, 1025, 1026, 1027, 1028, 1029, 1030, 1031, 1032, 1033, 1034, 1035, 1036, 1037, 1038, 1039, 1040, 1041, 1042, 1043, 1044, 1045, 1046, 1047, 1048, 1049, 1050, 1051, 1052, 1053, 1054, 1055, 1056, 1057, 1058, 1059, 1060, 1061, 1062, 1063, 1064] (by decide +kernel) (by decide +kernel)
set_option maxRecDepth 20000 in
theorem gL_law_X10_spreads : GoodIn wsL_law (wsV RL 66 RX10 yX10_spreads wsX10_spreads) := goodIn_app (goodIn_of _ (by decide +kernel)) ggL_law_X10_spreads
set_option maxRecDepth 20000 in
theorem ggL_law_X9_first : GoodIn wsL_law wsX9_first := goodIn_r _ [492, 21, 280, 281, 282, 2, 283, 17, 168, 169, 170, 333, 334, 335, 225, 336, 337, 338, 339, 340, 231, 493, 494, 495, 20, 496, 425, 476, 442, 443, 444, 445, 64, 410, 348, 441, 446, 67, 349, 350, 351, 63, 352, 75, 353, 354, 355, 356, 357, 358, 359, 360, 361, 362, 363, 364, 365, 72, 73, 74, 497, 498, 499, 500, 477, 478, 479, 480, 1009, 1010, 1011, 1012, 1013, 1014, 1015, 1016, 1017, 1018, 1104, 1105, 1106, 1107, 1108, 1109, 1110, 1111, 1067, 1068, 1069, 1070, 1098, 1099, 1100, 1101, 1102, 1103] (by decide +kernel) (by decide +kernel)
set_option maxRecDepth 20000 in
theorem gL_law_X9_first : GoodIn wsL_law (wsV RL 67 RX9 yX9_first wsX9_first) := goodIn_app (goodIn_of _ (by decide +kernel)) ggL_law_X9_first
set_option maxRecDepth 20000 in
theorem ggL_law_X10_first : GoodIn wsL_law wsX10_first := goodIn_r _ [504, 300, 301, 302, 5, 303, 127, 268, 269, 270, 181, 182, 183, 388, 389, 390, 391, 128, 151, 152, 153, 154, 129, 130, 387, 392, 148, 149, 150, 485, 486, 487, 488, 451, 452, 131, 453, 457, 458, 459, 460, 396, 397, 398, 399, 400, 401, 1019, 1020, 1021, 1022, 1023, 1024, 1025, 1026, 1027, 1028, 1029, 1030, 1031, 1032, 1033, 1034, 1035, 1036, 1037, 1038, 1039, 1040, 1041, 1042, 1043, 1044, 1045, 1046, 1047, 1048, 1049, 1050, 1051, 1052, 1053, 1054, 1055, 1056, 1057, 1058, 1059, 1060, 1061, 1062, 1063, 1064] (by decide +kernel) (by decide +kernel)
set_option maxRecDepth 20000 in
theorem gL_law_X10_first : GoodIn wsL_law (wsV RL 70 RX10 yX10_first wsX10_first) := goodIn_app (goodIn_of _ (by decide +kernel)) ggL_law_X10_first
set_option maxRecDepth 20000 in
theorem ggL_law_X9_snap : GoodIn wsL_law wsX9_snap := goodIn_r _ [508, 21, 280, 281, 282, 2, 283, 17, 168, 169, 170, 465, 466, 467, 434, 435, 436, 333, 334, 335, 225, 336, 337, 338, 339, 340, 231, 509, 510, 511, 20, 512, 425, 513, 514, 515, 516, 472, 473, 474, 475, 476, 442, 443, 444, 445, 64, 410, 348, 441, 446, 67, 349, 350, 351, 63, 352, 75, 353, 354, 355, 356, 357, 358, 359, 360, 361, 362, 363, 364, 365, 72, 73, 74, 477, 478, 479, 480, 517, 1009, 1010, 1011, 1012, 1013, 1014, 1015, 1016, 1017, 1018, 1104, 1105, 1106, 1107, 1108, 1109, 1110, 1111, 1067, 1068, 1069, 1070, 1098, 1099, 1100, 1101, 1102, 1103] (by decide +kernel) (by decide +kernel)
set_option maxRecDepth 20000 in
theorem gL_law_X9_snap : GoodIn wsL_law (wsV RL 71 RX9 yX9_snap wsX9_snap) := goodIn_app (goodIn_of _ (by decide +kernel)) ggL_law_X9_snap
set_option maxRecDepth 20000 in
theorem ggL_law_X10_snap : GoodIn wsL_law wsX10_snap := goodIn_r _ [521, 128, 300, 301, 302, 5, 303, 127, 268, 269, 270, 181, 182, 183, 454, 455, 456, 388, 389, 390, 391, 151, 152, 153, 154, 129, 130, 387, 392, 148, 149, 150, 485, 486, 487, 488, 451, 452, 131, 453, 457, 458, 459, 460, 396, 397, 398, 399, 400, 401, 1019, 1020, 1021, 1022, 1023, 1024, 1025, 1026, 1027, 1028, 1029, 1030, 1031, 1032, 1033, 1034, 1035, 1036, 1037, 1038, 1039, 1040, 1041, 1042, 1043, 1044, 1045, 1046, 1047, 1048, 1049, 1050, 1051, 1052, 1053, 1054, 1055, 1056, 1057, 1058, 1059, 1060, 1061, 1062, 1063, 1064] (by decide +kernel) (by decide +kernel)
set_option maxRecDepth 20000 in
theorem gL_law_X10_snap : GoodIn wsL_law (wsV RL 74 RX10 yX10_snap wsX10_snap) := goodIn_app (goodIn_of _ (by decide +kernel)) ggL_law_X10_snap
set_option maxRecDepth 20000 in
theorem ggL_law_X9_rounds : GoodIn wsL_law wsX9_rounds := goodIn_r _ [525, 21, 33, 280, 281, 282, 2, 283, 17, 168, 169, 170, 465, 466, 467, 434, 435, 436, 333, 334, 335, 225, 336, 337, 338, 339, 340, 231, 526, 527, 528, 20, 529, 530, 531, 532, 533, 64, 66, 346, 424, 371, 249, 372, 348, 349, 350, 351, 63, 352, 75, 353, 354, 355, 356, 357, 358, 359, 360, 361, 362, 363, 364, 365, 72, 73, 74, 534, 535, 536, 537, 425, 538, 517, 1009, 1010, 1011, 1012, 1013, 1014, 1015, 1016, 1017, 1018, 1104, 1105, 1106, 1107, 1108, 1109, 1110, 1111, 1067, 1068, 1069, 1070, 1098, 1099, 1100, 1101, 1102, 1103] (by decide +kernel) (by decide +kernel)
set_option maxRecDepth 20000 in
theorem gL_law_X9_rounds : GoodIn wsL_law (wsV RL 75 RX9 yX9_rounds wsX9_rounds) := goodIn_app (goodIn_of _ (by decide +kernel)) ggL_law_X9_rounds
set_option maxRecDepth 20000 in
theorem ggL_law_X10_rounds : GoodIn wsL_law wsX10_rounds := goodIn_r _ [542, 127, 128, 132, 543, 149, 387, 135, 300, 301, 302, 5, 303, 268, 269, 270, 181, 182, 183, 454, 455, 456, 388, 389, 390, 391, 151, 152, 153, 154, 129, 130, 392, 148, 150, 399, 400, 401, 1019, 1020, 1021, 1022, 1023, 1024, 1025, 1026, 1027, 1028, 1029, 1030, 1031, 1032, 1033, 1034, 1035, 1036, 1037, 1038, 1039, 1040, 1041, 1042, 1043, 1044, 1045, 1046, 1047, 1048, 1049, 1050, 1051, 1052, 1053, 1054, 1055, 1056, 1057, 1058, 1059, 1060, 1061, 1062, 1063, 1064] (by decide +kernel) (by decide +kernel)
set_option maxRecDepth 20000 in
theorem gL_law_X10_rounds : GoodIn wsL_law (wsV RL 78 RX10 yX10_rounds wsX10_rounds) := goodIn_app (goodIn_of _ (by decide +kernel)) ggL_law_X10_rounds
set_option maxRecDepth 20000 in
theorem ggL_law_X9_set : GoodIn wsL_law wsX9_set := goodIn_r _ [547, 33, 548, 549, 168, 169, 2, 170, 308, 309, 310, 1009, 1010, 1011, 1012, 1013, 1014, 1015, 1016, 1017, 1018] (by decide +kernel) (by decide +kernel)
set_option maxRecDepth 20000 in
theorem gL_law_X9_set : GoodIn wsL_law (wsV RL 79 RX9 yX9_set wsX9_set) := goodIn_app (goodIn_of _ (by decide +kernel)) ggL_law_X9_set
set_option maxRecDepth 20000 in
theorem ggL_law_X10_set : GoodIn wsL_law wsX10_set := goodIn_r _ [553, 554, 135, 181, 182, 5, 183, 1019, 1020, 1021, 1022, 1023, 1024, 1025, 1026, 1027, 1028, 1029, 1030, 1031, 1032, 1033, 1034, 1035, 1036, 1037, 1038, 1039, 1040, 1041, 1042, 1043, 1044, 1045, 1046, 1047, 1048, 1049, 1050, 1051, 1052, 1053, 1054, 1055, 1056, 1057, 1058, 1059, 1060, 1061, 1062, 1063, 1064] (by decide +kernel) (by decide +kernel)
set_option maxRecDepth 20000 in
theorem gL_law_X10_set : GoodIn wsL_law (wsV RL 82 RX10 yX10_set wsX10_set) := goodIn_app (goodIn_of _ (by decide +kernel)) ggL_law_X10_set
set_option maxRecDepth 20000 in
theorem ggL_law_X9_damp : GoodIn wsL_law wsX9_damp := goodIn_r _ [558, 559, 280, 281, 282, 2, 283, 17, 168, 169, 170, 308, 309, 310, 1104, 1105, 1106, 1107, 1108, 1109, 1110, 1111, 1009, 1010, 1011, 1012, 1013, 1014, 1015, 1016, 1017, 1018] (by decide +kernel) (by decide +kernel)
set_option maxRecDepth 20000 in
theorem gL_law_X9_damp : GoodIn wsL_law (wsV RL 83 RX9 yX9_damp wsX9_damp) := goodIn_app (goodIn_of _ (by decide +kernel)) ggL_law_X9_damp
set_option maxRecDepth 20000 in
theorem ggL_law_X10_damp : GoodIn wsL_law wsX10_damp := goodIn_r _ [563, 133, 300, 301, 302, 5, 303, 127, 268, 269, 270, 181, 182, 183, 1019, 1020, 1021, 1022, 1023, 1024, 1025, 1026, 1027, 1028, 1029, 1030, 1031, 1032, 1033, 1034, 1035, 1036, 1037, 1038, 1039, 1040, 1041, 1042, 1043, 1044, 1045, 1046, 1047, 1048, 1049, 1050, 1051, 1052, 1053, 1054, 1055, 1056, 1057, 1058, 1059, 1060, 1061, 1062, 1063, 1064] (by decide +kernel) (by decide +kernel)
set_option maxRecDepth 20000 in
theorem gL_law_X10_damp : GoodIn wsL_law (wsV RL 86 RX10 yX10_damp wsX10_damp) := goodIn_app (goodIn_of _ (by decide +kernel)) ggL_law_X10_damp
set_option maxRecDepth 20000 in
theorem ggL_law_X9_hours : GoodIn wsL_law wsX9_hours := goodIn_r _ [567, 33, 35, 568, 280, 281, 282, 2, 283, 17, 168, 169, 170, 569, 570, 571, 225, 572, 236, 573, 574, 575, 576, 242, 577, 248, 249, 250, 1009, 1010, 1011, 1012, 1013, 1014, 1015, 1016, 1017, 1018, 1104, 1105, 1106, 1107, 1108, 1109, 1110, 1111] (by decide +kernel) (by decide +kernel)
set_option maxRecDepth 20000 in
theorem gL_law_X9_hours : GoodIn wsL_law (wsV RL 87 RX9 yX9_hours wsX9_hours) := goodIn_app (goodIn_of _ (by decide +kernel)) ggL_law_X9_hours
set_option maxRecDepth 20000 in
theorem ggL_law_X10_hours : GoodIn wsL_law wsX10_hours := goodIn_r _ [581, 133, 135, 155, 134, 136, 300, 301, 302, 5, 303, 127, 268, 269, 270, 181, 182, 183, 1019, 1020, 1021, 1022, 1023, 1024, 1025, 1026, 1027, 1028, 1029, 1030, 1031, 1032, 1033, 1034, 1035, 1036, 1037, 1038, 1039, 1040, 1041, 1042, 1043, 1044, 1045, 1046, 1047, 1048, 1049, 1050, 1051, 1052, 1053, 1054, 1055, 1056, 1057, 1058, 1059, 1060, 1061, 1062, 1063, 1064] (by decide +kernel) (by decide +kernel)
set_option maxRecDepth 20000 in
theorem gL_law_X10_hours : GoodIn wsL_law (wsV RL 90 RX10 yX10_hours wsX10_hours) := goodIn_app (goodIn_of _ (by decide +kernel)) ggL_law_X10_hours
set_option maxRecDepth 20000 in
theorem ggL_law_X9_of : GoodIn wsL_law wsX9_of := goodIn_r _ [585, 559, 568, 226, 280, 281, 282, 2, 283, 17, 168, 169, 170, 586, 338, 339, 225, 340, 231, 1104, 1105, 1106, 1107, 1108, 1109, 1110, 1111, 1009, 1010, 1011, 1012, 1013, 1014, 1015, 1016, 1017, 1018] (by decide +kernel) (by decide +kernel)
set_option maxRecDepth 20000 in
theorem gL_law_X9_of : GoodIn wsL_law (wsV RL 91 RX9 yX9_of wsX9_of) := goodIn_app (goodIn_of _ (by decide +kernel)) ggL_law_X9_of
set_option maxRecDepth 20000 in
theorem ggL_law_X10_of : GoodIn wsL_law wsX10_of := goodIn_r _ [590, 133, 127, 128, 134, 300, 301, 302, 5, 303, 268, 269, 270, 181, 182, 183, 1019, 1020, 1021, 1022, 1023, 1024, 1025, 1026, 1027, 1028, 1029, 1030, 1031, 1032, 1033, 1034, 1035, 1036, 1037, 1038, 1039, 1040, 1041, 1042, 1043, 1044, 1045, 1046, 1047, 1048, 1049, 1050, 1051, 1052, 1053, 1054, 1055, 1056, 1057, 1058, 1059, 1060, 1061, 1062, 1063, 1064] (by decide +kernel) (by decide +kernel)
set_option maxRecDepth 20000 in
theorem gL_law_X10_of : GoodIn wsL_law (wsV RL 94 RX10 yX10_of wsX10_of) := goodIn_app (goodIn_of _ (by decide +kernel)) ggL_law_X10_of
set_option maxRecDepth 20000 in
theorem ggL_law_X9_rate : GoodIn wsL_law wsX9_rate := goodIn_r _ [594, 35, 308, 309, 2, 310, 168, 169, 170, 1009, 1010, 1011, 1012, 1013, 1014, 1015, 1016, 1017, 1018] (by decide +kernel) (by decide +kernel)
set_option maxRecDepth 20000 in
theorem gL_law_X9_rate : GoodIn wsL_law (wsV RL 95 RX9 yX9_rate wsX9_rate) := goodIn_app (goodIn_of _ (by decide +kernel)) ggL_law_X9_rate
set_option maxRecDepth 20000 in
theorem ggL_law_X10_rate : GoodIn wsL_law wsX10_rate := goodIn_r _ [598, 136, 181, 182, 5, 183, 1019, 1020, 1021, 1022, 1023, 1024, 1025, 1026, 1027, 1028, 1029, 1030, 1031, 1032, 1033, 1034, 1035, 1036, 1037, 1038, 1039, 1040, 1041, 1042, 1043, 1044, 1045, 1046, 1047, 1048, 1049, 1050, 1051, 1052, 1053, 1054, 1055, 1056, 1057, 1058, 1059, 1060, 1061, 1062, 1063, 1064] (by decide +kernel) (by decide +kernel)
set_option maxRecDepth 20000 in
theorem gL_law_X10_rate : GoodIn wsL_law (wsV RL 98 RX10 yX10_rate wsX10_rate) := goodIn_app (goodIn_of _ (by decide +kernel)) ggL_law_X10_rate
set_option maxRecDepth 20000 in
theorem ggL_law_X9_joint : GoodIn wsL_law wsX9_joint := goodIn_r _ [602, 39, 168, 169, 2, 170, 603, 604, 605, 38, 606, 86, 87, 607, 1009, 1010, 1011, 1012, 1013, 1014, 1015, 1016, 1017, 1018, 1073, 1074, 1075, 1076, 1077, 1078, 1079, 1080, 1081, 1082, 1083] (by decide +kernel) (by decide +kernel)
set_option maxRecDepth 20000 in
theorem gL_law_X9_joint : GoodIn wsL_law (wsV RL 99 RX9 yX9_joint wsX9_joint) := goodIn_app (goodIn_of _ (by decide +kernel)) ggL_law_X9_joint
set_option maxRecDepth 20000 in
theorem ggL_law_X10_joint : GoodIn wsL_law wsX10_joint := goodIn_r _ [611, 137, 138, 612, 613, 5, 614, 181, 182, 183, 1019, 1020, 1021, 1022, 1023, 1024, 1025, 1026, 1027, 1028, 1029, 1030, 1031, 1032, 1033, 1034, 1035, 1036, 1037, 1038, 1039, 1040, 1041, 1042, 1043, 1044, 1045, 1046, 1047, 1048, 1049, 1050, 1051, 1052, 1053, 1054, 1055, 1056, 1057, 1058, 1059, 1060, 1061, 1062, 1063, 1064] (by decide +kernel) (by decide +kernel)
set_option maxRecDepth 20000 in
theorem gL_law_X10_joint : GoodIn wsL_law (wsV RL 102 RX10 yX10_joint wsX10_joint) := goodIn_app (goodIn_of _ (by decide +kernel)) ggL_law_X10_joint
set_option maxRecDepth 20000 in
theorem ggL_law_X9_best : GoodIn wsL_law wsX9_best := goodIn_r _ [618, 39, 33, 619, 620, 621, 38, 622, 607, 623, 248, 249, 250, 624, 625, 626, 627, 628, 629, 630, 88, 631, 632, 633, 634, 635, 636, 637, 638, 86, 169, 2, 170, 639, 640, 641, 642, 643, 644, 645, 646, 111, 112, 113, 647, 648, 649, 650, 87, 651, 652, 653, 654, 655, 656, 657, 658, 91, 89, 92, 90, 659, 660, 661, 662, 663, 664, 665, 666, 667, 668, 669, 670, 671, 672, 673, 674, 675, 676, 677, 678, 679, 680, 681, 682, 683, 684, 685, 1009, 1010, 1011, 1012, 1013, 1014, 1015, 1016, 1017, 1018, 1073, 1074, 1075, 1076, 1077, 1078, 1079, 1080, 1081, 1082, 1083] (by decide +kernel) (by decide +kernel)
set_option maxRecDepth 20000 in
theorem gL_law_X9_best : GoodIn wsL_law (wsV RL 103 RX9 yX9_best wsX9_best) := goodIn_app (goodIn_of _ (by decide +kernel)) ggL_law_X9_best
set_option maxRecDepth 20000 in
theorem ggL_law_X10_best : GoodIn wsL_law wsX10_best := goodIn_r _ [689, 690, 691, 157, 692, 693, 694, 5, 695, 138, 696, 697, 698, 699, 137, 700, 701, 702, 703, 156, 159, 158, 704, 705, 706, 707, 160, 135, 708, 709, 710, 711, 181, 182, 183, 1019, 1020, 1021, 1022, 1023, 1024, 1025, 1026, 1027, 1028, 1029, 1030, 1031, 1032, 1033, 1034, 1035, 1036, 1037, 1038, 1039, 1040, 1041, 1042, 1043, 1044, 1045, 1046, 1047, 1048, 1049, 1050, 1051, 1052, 1053, 1054, 1055, 1056, 1057, 1058, 1059, 1060, 1061, 1062, 1063, 1064] (by decide +kernel) (by decide +kernel)
set_option maxRecDepth 20000 in
theorem gL_law_X10_best : GoodIn wsL_law (wsV RL 106 RX10 yX10_best wsX10_best) := goodIn_app (goodIn_of _ (by decide +kernel)) ggL_law_X10_best
set_option maxRecDepth 20000 in
theorem ggL_law_X9_begun : GoodIn wsL_law wsX9_begun := goodIn_r _ [715, 39, 33, 716, 636, 637, 38, 638, 86, 169, 2, 170, 619, 620, 621, 622, 607, 623, 248, 249, 250, 624, 625, 626, 627, 628, 629, 630, 88, 631, 632, 633, 634, 635, 639, 640, 641, 642, 643, 644, 645, 646, 111, 112, 113, 647, 648, 649, 650, 87, 651, 652, 653, 654, 655, 656, 657, 658, 91, 89, 92, 90, 659, 660, 661, 662, 663, 664, 665, 666, 667, 668, 669, 670, 671, 672, 673, 674, 675, 676, 677, 717, 718, 719, 720, 1009, 1010, 1011, 1012, 1013, 1014, 1015, 1016, 1017, 1018, 1073, 1074, 1075, 1076, 1077, 1078, 1079, 1080, 1081, 1082, 1083] (by decide +kernel) (by decide +kernel)
set_option maxRecDepth 20000 in
theorem gL_law_X9_begun : GoodIn wsL_law (wsV RL 107 RX9 yX9_begun wsX9_begun) := goodIn_app (goodIn_of _ (by decide +kernel)) ggL_law_X9_begun
set_option maxRecDepth 20000 in
theorem ggL_law_X10_begun : GoodIn wsL_law wsX10_begun := goodIn_r _ [724, 137, 159, 612, 613, 5, 614, 181, 182, 183, 692, 693, 694, 695, 138, 696, 697, 698, 699, 700, 701, 702, 703, 691, 156, 690, 157, 158, 704, 705, 706, 707, 160, 135, 708, 709, 710, 711, 1019, 1020, 1021, 1022, 1023, 1024, 1025, 1026, 1027, 1028, 1029, 1030, 1031, 1032, 1033, 1034, 1035, 1036, 1037, 1038, 1039, 1040, 1041, 1042, 1043, 1044, 1045, 1046, 1047, 1048, 1049, 1050, 1051, 1052, 1053, 1054, 1055, 1056, 1057, 1058, 1059, 1060, 1061, 1062, 1063, 1064] (by decide +kernel) (by decide +kernel)
set_option maxRecDepth 20000 in
theorem gL_law_X10_begun : GoodIn wsL_law (wsV RL 110 RX10 yX10_begun wsX10_begun) := goodIn_app (goodIn_of _ (by decide +kernel)) ggL_law_X10_begun
set_option maxRecDepth 20000 in
theorem ggL_law_X9_strip : GoodIn wsL_law wsX9_strip := goodIn_r _ [728, 43, 168, 169, 2, 170, 729, 730, 731, 42, 732, 733, 97, 1009, 1010, 1011, 1012, 1013, 1014, 1015, 1016, 1017, 1018, 1084, 1085, 1086, 1087] (by decide +kernel) (by decide +kernel)
set_option maxRecDepth 20000 in
theorem gL_law_X9_strip : GoodIn wsL_law (wsV RL 111 RX9 yX9_strip wsX9_strip) := goodIn_app (goodIn_of _ (by decide +kernel)) ggL_law_X9_strip
set_option maxRecDepth 20000 in
theorem ggL_law_X10_strip : GoodIn wsL_law wsX10_strip := goodIn_r _ [737, 738, 139, 140, 181, 182, 5, 183, 1019, 1020, 1021, 1022, 1023, 1024, 1025, 1026, 1027, 1028, 1029, 1030, 1031, 1032, 1033, 1034, 1035, 1036, 1037, 1038, 1039, 1040, 1041, 1042, 1043, 1044, 1045, 1046, 1047, 1048, 1049, 1050, 1051, 1052, 1053, 1054, 1055, 1056, 1057, 1058, 1059, 1060, 1061, 1062, 1063, 1064] (by decide +kernel) (by decide +kernel)
set_option maxRecDepth 20000 in
theorem gL_law_X10_strip : GoodIn wsL_law (wsV RL 114 RX10 yX10_strip wsX10_strip) := goodIn_app (goodIn_of _ (by decide +kernel)) ggL_law_X10_strip
set_option maxRecDepth 20000 in
theorem ggL_law_X9_bar : GoodIn wsL_law wsX9_bar := goodIn_r _ [742, 43, 743, 744, 745, 42, 746, 733, 99, 169, 2, 170, 1009, 1010, 1011, 1012, 1013, 1014, 1015, 1016, 1017, 1018, 1084, 1085, 1086, 1087] (by decide +kernel) (by decide +kernel)
set_option maxRecDepth 20000 in
theorem gL_law_X9_bar : GoodIn wsL_law (wsV RL 115 RX9 yX9_bar wsX9_bar) := goodIn_app (goodIn_of _ (by decide +kernel)) ggL_law_X9_bar
set_option maxRecDepth 20000 in
theorem ggL_law_X10_bar : GoodIn wsL_law wsX10_bar := goodIn_r _ [750, 738, 140, 181, 182, 5, 183, 1019, 1020, 1021, 1022, 1023, 1024, 1025, 1026, 1027, 1028, 1029, 1030, 1031, 1032, 1033, 1034, 1035, 1036, 1037, 1038, 1039, 1040, 1041, 1042, 1043, 1044, 1045, 1046, 1047, 1048, 1049, 1050, 1051, 1052, 1053, 1054, 1055, 1056, 1057, 1058, 1059, 1060, 1061, 1062, 1063, 1064] (by decide +kernel) (by decide +kernel)
set_option maxRecDepth 20000 in
theorem gL_law_X10_bar : GoodIn wsL_law (wsV RL 119 RX10 yX10_bar wsX10_bar) := goodIn_app (goodIn_of _ (by decide +kernel)) ggL_law_X10_bar
set_option maxRecDepth 20000 in
theorem ggL_law_X9_strips : GoodIn wsL_law wsX9_strips := goodIn_r _ [754, 328, 43, 329, 25, 168, 169, 2, 170, 330, 331, 332, 755, 756, 757, 42, 758, 733, 99, 759, 760, 761, 762, 763, 764, 765, 766, 97, 767, 768, 367, 368, 24, 369, 370, 371, 249, 372, 80, 81, 373, 374, 375, 769, 770, 771, 772, 773, 774, 775, 776, 376, 377, 378, 379, 1009, 1010, 1011, 1012, 1013, 1014, 1015, 1016, 1017, 1018, 1084, 1085, 1086, 1087, 1071, 1072] (by decide +kernel) (by decide +kernel)
set_option maxRecDepth 20000 in
theorem gL_law_X9_strips : GoodIn wsL_law (wsV RL 120 RX9 yX9_strips wsX9_strips) := goodIn_app (goodIn_of _ (by decide +kernel)) ggL_law_X9_strips
set_option maxRecDepth 20000 in
theorem ggL_law_X10_strips : GoodIn wsL_law wsX10_strips := goodIn_r _ [780, 385, 738, 140, 139, 386, 181, 182, 5, 183, 393, 394, 395, 396, 397, 398, 399, 400, 401, 1019, 1020, 1021, 1022, 1023, 1024, 1025, 1026, 1027, 1028, 1029, 1030, 1031, 1032, 1033, 1034, 1035, 1036, 1037, 1038, 1039, 1040, 1041, 1042, 1043, 1044, 1045, 1046, 1047, 1048, 1049, 1050, 1051, 1052, 1053, 1054, 1055, 1056, 1057, 1058, 1059, 1060, 1061, 1062, 1063, 1064] (by decide +kernel) (by decide +kernel)
set_option maxRecDepth 20000 in
theorem gL_law_X10_strips : GoodIn wsL_law (wsV RL 123 RX10 yX10_strips wsX10_strips) := goodIn_app (goodIn_of _ (by decide +kernel)) ggL_law_X10_strips
set_option maxRecDepth 20000 in
theorem ggL_law_X9_weak : GoodIn wsL_law wsX9_weak := goodIn_r _ [784, 43, 33, 785, 786, 787, 42, 788, 789, 790, 791, 792, 733, 99, 97, 1009, 1010, 1011, 1012, 1013, 1014, 1015, 1016, 1017, 1018, 1084, 1085, 1086, 1087] (by decide +kernel) (by decide +kernel)
set_option maxRecDepth 20000 in
theorem gL_law_X9_weak : GoodIn wsL_law (wsV RL 124 RX9 yX9_weak wsX9_weak) := goodIn_app (goodIn_of _ (by decide +kernel)) ggL_law_X9_weak
set_option maxRecDepth 20000 in
theorem ggL_law_X10_weak : GoodIn wsL_law wsX10_weak := goodIn_r _ [796, 738, 140, 139, 135, 1019, 1020, 1021, 1022, 1023, 1024, 1025, 1026, 1027, 1028, 1029, 1030, 1031, 1032, 1033, 1034, 1035, 1036, 1037, 1038, 1039, 1040, 1041, 1042, 1043, 1044, 1045, 1046, 1047, 1048, 1049, 1050, 1051, 1052, 1053, 1054, 1055, 1056, 1057, 1058, 1059, 1060, 1061, 1062, 1063, 1064] (by decide +kernel) (by decide +kernel)
set_option maxRecDepth 20000 in
theorem gL_law_X10_weak : GoodIn wsL_law (wsV RL 127 RX10 yX10_weak wsX10_weak) := goodIn_app (goodIn_of _ (by decide +kernel)) ggL_law_X10_weak
set_option maxRecDepth 20000 in
theorem ggL_law_X9_odd : GoodIn wsL_law wsX9_odd := goodIn_r _ [800, 328, 43, 329, 33, 25, 168, 169, 2, 170, 330, 331, 332, 755, 756, 757, 42, 758, 733, 99, 801, 802, 803, 804, 805, 248, 249, 250, 100, 767, 806, 807, 808, 809, 810, 811, 112, 812, 789, 790, 791, 792, 97, 768, 367, 368, 24, 369, 370, 371, 372, 80, 81, 373, 374, 375, 376, 377, 378, 379, 1009, 1010, 1011, 1012, 1013, 1014, 1015, 1016, 1017, 1018, 1084, 1085, 1086, 1087, 1071, 1072] (by decide +kernel) (by decide +kernel)
set_option maxRecDepth 20000 in
theorem gL_law_X9_odd : GoodIn wsL_law (wsV RL 128 RX9 yX9_odd wsX9_odd) := goodIn_app (goodIn_of _ (by decide +kernel)) ggL_law_X9_odd
set_option maxRecDepth 20000 in
theorem ggL_law_X10_odd : GoodIn wsL_law wsX10_odd := goodIn_r _ [816, 385, 738, 140, 139, 135, 386, 817, 181, 182, 5, 183, 393, 394, 395, 396, 397, 398, 399, 400, 401, 1019, 1020, 1021, 1022, 1023, 1024, 1025, 1026, 1027, 1028, 1029, 1030, 1031, 1032, 1033, 1034, 1035, 1036, 1037, 1038, 1039, 1040, 1041, 1042, 1043, 1044, 1045, 1046, 1047, 1048, 1049, 1050, 1051, 1052, 1053, 1054, 1055, 1056, 1057, 1058, 1059, 1060, 1061, 1062, 1063, 1064] (by decide +kernel) (by decide +kernel)
set_option maxRecDepth 20000 in
theorem gL_law_X10_odd : GoodIn wsL_law (wsV RL 131 RX10 yX10_odd wsX10_odd) := goodIn_app (goodIn_of _ (by decide +kernel)) ggL_law_X10_odd
set_option maxRecDepth 20000 in
theorem ggL_law_X9_knock : GoodIn wsL_law wsX9_knock := goodIn_r _ [821, 47, 822, 168, 169, 2, 170, 308, 309, 310, 1009, 1010, 1011, 1012, 1013, 1014, 1015, 1016, 1017, 1018, 1088, 1089, 1090, 1091, 1092] (by decide +kernel) (by decide +kernel)
set_option maxRecDepth 20000 in
theorem gL_law_X9_knock : GoodIn wsL_law (wsV RL 132 RX9 yX9_knock wsX9_knock) := goodIn_app (goodIn_of _ (by decide +kernel)) ggL_law_X9_knock
set_option maxRecDepth 20000 in
theorem ggL_law_X10_knock : GoodIn wsL_law wsX10_knock := goodIn_r _ [826, 141, 181, 182, 5, 183, 1019, 1020, 1021, 1022, 1023, 1024, 1025, 1026, 1027, 1028, 1029, 1030, 1031, 1032, 1033, 1034, 1035, 1036, 1037, 1038, 1039, 1040, 1041, 1042, 1043, 1044, 1045, 1046, 1047, 1048, 1049, 1050, 1051, 1052, 1053, 1054, 1055, 1056, 1057, 1058, 1059, 1060, 1061, 1062, 1063, 1064] (by decide +kernel) (by decide +kernel)
set_option maxRecDepth 20000 in
theorem gL_law_X10_knock : GoodIn wsL_law (wsV RL 135 RX10 yX10_knock wsX10_knock) := goodIn_app (goodIn_of _ (by decide +kernel)) ggL_law_X10_knock
set_option maxRecDepth 20000 in
theorem ggL_law_X9_sheet : GoodIn wsL_law wsX9_sheet := goodIn_r _ [830, 47, 831, 168, 169, 2, 170, 308, 309, 310, 1009, 1010, 1011, 1012, 1013, 1014, 1015, 1016, 1017, 1018, 1088, 1089, 1090, 1091, 1092] (by decide +kernel) (by decide +kernel)
set_option maxRecDepth 20000 in
theorem gL_law_X9_sheet : GoodIn wsL_law (wsV RL 136 RX9 yX9_sheet wsX9_sheet) := goodIn_app (goodIn_of _ (by decide +kernel)) ggL_law_X9_sheet
set_option maxRecDepth 20000 in
theorem ggL_law_X10_sheet : GoodIn wsL_law wsX10_sheet := goodIn_r _ [835, 142, 181, 182, 5, 183, 1019, 1020, 1021, 1022, 1023, 1024, 1025, 1026, 1027, 1028, 1029, 1030, 1031, 1032, 1033, 1034, 1035, 1036, 1037, 1038, 1039, 1040, 1041, 1042, 1043, 1044, 1045, 1046, 1047, 1048, 1049, 1050, 1051, 1052, 1053, 1054, 1055, 1056, 1057, 1058, 1059, 1060, 1061, 1062, 1063, 1064] (by decide +kernel) (by decide +kernel)
set_option maxRecDepth 20000 in
theorem gL_law_X10_sheet : GoodIn wsL_law (wsV RL 139 RX10 yX10_sheet wsX10_sheet) := goodIn_app (goodIn_of _ (by decide +kernel)) ggL_law_X10_sheet
set_option maxRecDepth 20000 in
theorem ggL_law_X9_table : GoodIn wsL_law wsX9_table := goodIn_r _ [839, 47, 840, 168, 169, 2, 170, 308, 309, 310, 1009, 1010, 1011, 1012, 1013, 1014, 1015, 1016, 1017, 1018, 1088, 1089, 1090, 1091, 1092] (by decide +kernel) (by decide +kernel)
set_option maxRecDepth 20000 in
theorem gL_law_X9_table : GoodIn wsL_law (wsV RL 140 RX9 yX9_table wsX9_table) := goodIn_app (goodIn_of _ (by decide +kernel)) ggL_law_X9_table
set_option maxRecDepth 20000 in
theorem ggL_law_X10_table : GoodIn wsL_law wsX10_table := goodIn_r _ [844, 143, 181, 182, 5, 183, 1019, 1020, 1021, 1022, 1023, 1024, 1025, 1026, 1027, 1028, 1029, 1030, 1031, 1032, 1033, 1034, 1035, 1036, 1037, 1038, 1039, 1040, 1041, 1042, 1043, 1044, 1045, 1046, 1047, 1048, 1049, 1050, 1051, 1052, 1053, 1054, 1055, 1056, 1057, 1058, 1059, 1060, 1061, 1062, 1063, 1064] (by decide +kernel) (by decide +kernel)
set_option maxRecDepth 20000 in
theorem gL_law_X10_table : GoodIn wsL_law (wsV RL 143 RX10 yX10_table wsX10_table) := goodIn_app (goodIn_of _ (by decide +kernel)) ggL_law_X10_table
set_option maxRecDepth 20000 in
theorem ggL_law_X9_fit : GoodIn wsL_law wsX9_fit := goodIn_r _ [848, 47, 168, 169, 2, 170, 849, 850, 851, 46, 852, 105, 106, 853, 854, 855, 856, 107, 1009, 1010, 1011, 1012, 1013, 1014, 1015, 1016, 1017, 1018, 1088, 1089, 1090, 1091, 1092] (by decide +kernel) (by decide +kernel)
set_option maxRecDepth 20000 in
theorem gL_law_X9_fit : GoodIn wsL_law (wsV RL 144 RX9 yX9_fit wsX9_fit) := goodIn_app (goodIn_of _ (by decide +kernel)) ggL_law_X9_fit
set_option maxRecDepth 20000 in
theorem ggL_law_X10_fit : GoodIn wsL_law wsX10_fit := goodIn_r _ [860, 181, 182, 5, 183, 861, 862, 863, 864, 141, 143, 142, 1019, 1020, 1021, 1022, 1023, 1024, 1025, 1026, 1027, 1028, 1029, 1030, 1031, 1032, 1033, 1034, 1035, 1036, 1037, 1038, 1039, 1040, 1041, 1042, 1043, 1044, 1045, 1046, 1047, 1048, 1049, 1050, 1051, 1052, 1053, 1054, 1055, 1056, 1057, 1058, 1059, 1060, 1061, 1062, 1063, 1064] (by decide +kernel) (by decide +kernel)
set_option maxRecDepth 20000 in
theorem gL_law_X10_fit : GoodIn wsL_law (wsV RL 147 RX10 yX10_fit wsX10_fit) := goodIn_app (goodIn_of _ (by decide +kernel)) ggL_law_X10_fit
set_option maxRecDepth 20000 in
theorem ggL_law_X9_fits : GoodIn wsL_law wsX9_fits := goodIn_r _ [868, 47, 33, 869, 870, 871, 46, 872, 108, 873, 850, 851, 852, 105, 106, 169, 2, 170, 853, 854, 855, 856, 107, 874, 875, 876, 877, 109, 878, 879, 249, 880, 881, 882, 883, 884, 1009, 1010, 1011, 1012, 1013, 1014, 1015, 1016, 1017, 1018, 1088, 1089, 1090, 1091, 1092] (by decide +kernel) (by decide +kernel)
set_option maxRecDepth 20000 in
theorem gL_law_X9_fits : GoodIn wsL_law (wsV RL 148 RX9 yX9_fits wsX9_fits) := goodIn_app (goodIn_of _ (by decide +kernel)) ggL_law_X9_fits
set_option maxRecDepth 20000 in
theorem ggL_law_X10_fits : GoodIn wsL_law wsX10_fits := goodIn_r _ [888, 889, 890, 891, 5, 892, 162, 135, 161, 861, 862, 863, 864, 141, 143, 142, 1019, 1020, 1021, 1022, 1023, 1024, 1025, 1026, 1027, 1028, 1029, 1030, 1031, 1032, 1033, 1034, 1035, 1036, 1037, 1038, 1039, 1040, 1041, 1042, 1043, 1044, 1045, 1046, 1047, 1048, 1049, 1050, 1051, 1052, 1053, 1054, 1055, 1056, 1057, 1058, 1059, 1060, 1061, 1062, 1063, 1064] (by decide +kernel) (by decide +kernel)
set_option maxRecDepth 20000 in
theorem gL_law_X10_fits : GoodIn wsL_law (wsV RL 151 RX10 yX10_fits wsX10_fits) := goodIn_app (goodIn_of _ (by decide +kernel)) ggL_law_X10_fits
set_option maxRecDepth 20000 in
theorem ggL_law_X9_sure : GoodIn wsL_law wsX9_sure := goodIn_r _ [896, 47, 33, 168, 169, 2, 170, 897, 898, 899, 46, 900, 901, 902, 903, 904, 873, 850, 851, 852, 105, 106, 853, 854, 855, 856, 107, 905, 906, 907, 908, 640, 641, 642, 643, 644, 645, 909, 910, 911, 912, 1009, 1010, 1011, 1012, 1013, 1014, 1015, 1016, 1017, 1018, 1088, 1089, 1090, 1091, 1092] (by decide +kernel) (by decide +kernel)
set_option maxRecDepth 20000 in
theorem gL_law_X9_sure : GoodIn wsL_law (wsV RL 152 RX9 yX9_sure wsX9_sure) := goodIn_app (goodIn_of _ (by decide +kernel)) ggL_law_X9_sure
set_option maxRecDepth 20000 in
theorem ggL_law_X10_sure : GoodIn wsL_law wsX10_sure := goodIn_r _ [916, 181, 182, 5, 183, 889, 890, 891, 892, 162, 135, 161, 861, 862, 863, 864, 141, 143, 142, 1019, 1020, 1021, 1022, 1023, 1024, 1025, 1026, 1027, 1028, 1029, 1030, 1031, 1032, 1033, 1034, 1035, 1036, 1037, 1038, 1039, 1040, 1041, 1042, 1043, 1044, 1045, 1046, 1047, 1048, 1049, 1050, 1051, 1052, 1053, 1054, 1055, 1056, 1057, 1058, 1059, 1060, 1061, 1062, 1063, 1064] (by decide +kernel) (by decide +kernel)
set_option maxRecDepth 20000 in
theorem gL_law_X10_sure : GoodIn wsL_law (wsV RL 155 RX10 yX10_sure wsX10_sure) := goodIn_app (goodIn_of _ (by decide +kernel)) ggL_law_X10_sure
set_option maxRecDepth 20000 in
theorem ggL_law_X9_unseen : GoodIn wsL_law wsX9_unseen := goodIn_r _ [920, 47, 168, 169, 2, 170, 921, 922, 923, 46, 924, 853, 854, 855, 856, 107, 1009, 1010, 1011, 1012, 1013, 1014, 1015, 1016, 1017, 1018, 1088, 1089, 1090, 1091, 1092] (by decide +kernel) (by decide +kernel)
set_option maxRecDepth 20000 in
theorem gL_law_X9_unseen : GoodIn wsL_law (wsV RL 156 RX9 yX9_unseen wsX9_unseen) := goodIn_app (goodIn_of _ (by decide +kernel)) ggL_law_X9_unseen
set_option maxRecDepth 20000 in
theorem ggL_law_X10_unseen : GoodIn wsL_law wsX10_unseen := goodIn_r _ [928, 143, 181, 182, 5, 183, 1019, 1020, 1021, 1022, 1023, 1024, 1025, 1026, 1027, 1028, 1029, 1030, 1031, 1032, 1033, 1034, 1035, 1036, 1037, 1038, 1039, 1040, 1041, 1042, 1043, 1044, 1045, 1046, 1047, 1048, 1049, 1050, 1051, 1052, 1053, 1054, 1055, 1056, 1057, 1058, 1059, 1060, 1061, 1062, 1063, 1064] (by decide +kernel) (by decide +kernel)
set_option maxRecDepth 20000 in
theorem gL_law_X10_unseen : GoodIn wsL_law (wsV RL 159 RX10 yX10_unseen wsX10_unseen) := goodIn_app (goodIn_of _ (by decide +kernel)) ggL_law_X10_unseen
set_option maxRecDepth 20000 in
theorem ggL_law_X9_choice : GoodIn wsL_law wsX9_choice := goodIn_r _ [932, 51, 168, 169, 2, 170, 933, 934, 935, 936, 937, 938, 50, 939, 940, 118, 119, 120, 121, 1009, 1010, 1011, 1012, 1013, 1014, 1015, 1016, 1017, 1018, 1093, 1094, 1095, 1096, 1097] (by decide +kernel) (by decide +kernel)
set_option maxRecDepth 20000 in
theorem gL_law_X9_choice : GoodIn wsL_law (wsV RL 160 RX9 yX9_choice wsX9_choice) := goodIn_app (goodIn_of _ (by decide +kernel)) ggL_law_X9_choice
set_option maxRecDepth 20000 in
theorem ggL_law_X10_choice : GoodIn wsL_law wsX10_choice := goodIn_r _ [944, 945, 144, 145, 146, 147, 181, 182, 5, 183, 1019, 1020, 1021, 1022, 1023, 1024, 1025, 1026, 1027, 1028, 1029, 1030, 1031, 1032, 1033, 1034, 1035, 1036, 1037, 1038, 1039, 1040, 1041, 1042, 1043, 1044, 1045, 1046, 1047, 1048, 1049, 1050, 1051, 1052, 1053, 1054, 1055, 1056, 1057, 1058, 1059, 1060, 1061, 1062, 1063, 1064] (by decide +kernel) (by decide +kernel)
set_option maxRecDepth 20000 in
theorem gL_law_X10_choice : GoodIn wsL_law (wsV RL 164 RX10 yX10_choice wsX10_choice) := goodIn_app (goodIn_of _ (by decide +kernel)) ggL_law_X10_choice
set_option maxRecDepth 20000 in
theorem ggL_law_X9_cheapest : GoodIn wsL_law wsX9_cheapest := goodIn_r _ [949, 51, 33, 168, 169, 2, 170, 933, 934, 935, 950, 951, 952, 50, 953, 940, 118, 120, 119, 954, 955, 956, 957, 121, 1009, 1010, 1011, 1012, 1013, 1014, 1015, 1016, 1017, 1018, 1093, 1094, 1095, 1096, 1097] (by decide +kernel) (by decide +kernel)
set_option maxRecDepth 20000 in
theorem gL_law_X9_cheapest : GoodIn wsL_law (wsV RL 165 RX9 yX9_cheapest wsX9_cheapest) := goodIn_app (goodIn_of _ (by decide +kernel)) ggL_law_X9_cheapest
set_option maxRecDepth 20000 in
theorem ggL_law_X10_cheapest : GoodIn wsL_law wsX10_cheapest := goodIn_r _ [961, 945, 146, 147, 135, 144, 145, 181, 182, 5, 183, 1019, 1020, 1021, 1022, 1023, 1024, 1025, 1026, 1027, 1028, 1029, 1030, 1031, 1032, 1033, 1034, 1035, 1036, 1037, 1038, 1039, 1040, 1041, 1042, 1043, 1044, 1045, 1046, 1047, 1048, 1049, 1050, 1051, 1052, 1053, 1054, 1055, 1056, 1057, 1058, 1059, 1060, 1061, 1062, 1063, 1064] (by decide +kernel) (by decide +kernel)
set_option maxRecDepth 20000 in
theorem gL_law_X10_cheapest : GoodIn wsL_law (wsV RL 168 RX10 yX10_cheapest wsX10_cheapest) := goodIn_app (goodIn_of _ (by decide +kernel)) ggL_law_X10_cheapest
set_option maxRecDepth 20000 in
theorem ggL_law_X9_led : GoodIn wsL_law wsX9_led := goodIn_r _ [965, 568, 280, 281, 282, 2, 283, 17, 168, 169, 170, 933, 934, 935, 966, 967, 968, 225, 969, 236, 970, 668, 249, 669, 971, 972, 973, 974, 975, 976, 1104, 1105, 1106, 1107, 1108, 1109, 1110, 1111, 1009, 1010, 1011, 1012, 1013, 1014, 1015, 1016, 1017, 1018] (by decide +kernel) (by decide +kernel)
set_option maxRecDepth 20000 in
theorem gL_law_X9_led : GoodIn wsL_law (wsV RL 169 RX9 yX9_led wsX9_led) := goodIn_app (goodIn_of _ (by decide +kernel)) ggL_law_X9_led
set_option maxRecDepth 20000 in
theorem ggL_law_X10_led : GoodIn wsL_law wsX10_led := goodIn_r _ [980, 133, 134, 300, 301, 302, 5, 303, 127, 268, 269, 270, 181, 182, 183, 981, 982, 983, 1019, 1020, 1021, 1022, 1023, 1024, 1025, 1026, 1027, 1028, 1029, 1030, 1031, 1032, 1033, 1034, 1035, 1036, 1037, 1038, 1039, 1040, 1041, 1042, 1043, 1044, 1045, 1046, 1047, 1048, 1049, 1050, 1051, 1052, 1053, 1054, 1055, 1056, 1057, 1058, 1059, 1060, 1061, 1062, 1063, 1064] (by decide +kernel) (by decide +kernel)
set_option maxRecDepth 20000 in
theorem gL_law_X10_led : GoodIn wsL_law (wsV RL 173 RX10 yX10_led wsX10_led) := goodIn_app (goodIn_of _ (by decide +kernel)) ggL_law_X10_led
set_option maxRecDepth 20000 in
theorem ggL_law_X9_told : GoodIn wsL_law wsX9_told := goodIn_r _ [987, 33, 15, 43, 51, 39, 168, 169, 2, 170, 988, 989, 990, 14, 991, 175, 992, 993, 994, 995, 17, 996, 997, 998, 42, 999, 733, 1000, 1001, 1002, 50, 1003, 940, 1004, 632, 633, 38, 634, 635, 636, 637, 638, 86, 1009, 1010, 1011, 1012, 1013, 1014, 1015, 1016, 1017, 1018, 1065, 1066, 1084, 1085, 1086, 1087, 1093, 1094, 1095, 1096, 1097, 1073, 1074, 1075, 1076, 1077, 1078, 1079, 1080, 1081, 1082, 1083] (by decide +kernel) (by decide +kernel)
set_option maxRecDepth 20000 in
theorem gL_law_X9_told : GoodIn wsL_law (wsV RL 174 RX9 yX9_told wsX9_told) := goodIn_app (goodIn_of _ (by decide +kernel)) ggL_law_X9_told
set_option maxRecDepth 20000 in
theorem ggL_law_X10_told : GoodIn wsL_law wsX10_told := goodIn_r _ [1008, 135, 127, 180, 738, 945, 181, 182, 5, 183, 696, 697, 698, 699, 137, 1019, 1020, 1021, 1022, 1023, 1024, 1025, 1026, 1027, 1028, 1029, 1030, 1031, 1032, 1033, 1034, 1035, 1036, 1037, 1038, 1039, 1040, 1041, 1042, 1043, 1044, 1045, 1046, 1047, 1048, 1049, 1050, 1051, 1052, 1053, 1054, 1055, 1056, 1057, 1058, 1059, 1060, 1061, 1062, 1063, 1064] (by decide +kernel) (by decide +kernel)
set_option maxRecDepth 20000 in
theorem gL_law_X10_told : GoodIn wsL_law (wsV RL 177 RX10 yX10_told wsX10_told) := goodIn_app (goodIn_of _ (by decide +kernel)) ggL_law_X10_told
