set_option maxRecDepth 20000 in
theorem ggL_law_X4_init : GoodIn wsL_law wsX4_init := goodIn_r _ [8, 9, 10, 11, 12, 13, 14, 15, 16, 17, 18, 19, 20, 21, 22, 23, 24, 25, 26, 27, 28, 29, 30, 31, 32, 33, 34, 35, 36, 37, 38, 39, 40, 41, 42, 43, 44, 45, 46, 47, 48, 49, 50, 51, 1035, 1036, 1037, 1038, 1039, 1040, 1041, 1042, 1043, 1044, 1045, 1046, 1010, 1011, 1012, 1013, 1014, 1015, 1016, 1047, 1048, 1049, 1050, 1051, 1052, 1053, 1054, 1055] (by decide +kernel) (by decide +kernel)
set_option maxRecDepth 20000 in
theorem gL_law_X4_init : GoodIn wsL_law (wsX4_init) := ggL_law_X4_init
set_option maxRecDepth 20000 in
theorem ggL_law_X5_init : GoodIn wsL_law wsX5_init := goodIn_r _ [54, 55, 10, 11, 26, 56, 57, 58, 59, 60, 61, 62, 63, 64, 1017, 1018, 1019, 1020, 1021, 1022, 1023, 1024, 1025, 1026, 1027, 1028, 1029, 1030, 1031, 1032, 1033, 1034] (by decide +kernel) (by decide +kernel)
set_option maxRecDepth 20000 in
theorem gL_law_X5_init : GoodIn wsL_law (wsX5_init) := ggL_law_X5_init
set_option maxRecDepth 20000 in
theorem ggL_law_X4_vinegar : GoodIn wsL_law wsX4_vinegar := goodIn_r _ [68, 69, 15, 70, 71, 72, 2, 73, 74, 75, 76, 77, 27, 1010, 1011, 1012, 1013, 1014, 1015, 1016, 1035, 1036, 1037, 1038, 1039, 1040, 1041, 1042, 1043, 1044, 1045, 1046] (by decide +kernel) (by decide +kernel)
set_option maxRecDepth 20000 in
theorem gL_law_X4_vinegar : GoodIn wsL_law (wsV RL 13 RX4 yX4_vinegar wsX4_vinegar) := goodIn_app (goodIn_of _ (by decide +kernel)) ggL_law_X4_vinegar
set_option maxRecDepth 20000 in
theorem ggL_law_X5_vinegar : GoodIn wsL_law wsX5_vinegar := goodIn_r _ [81, 82, 83, 84, 85, 5, 86, 87, 88, 89, 90, 56, 91, 92, 93, 94, 60, 1017, 1018, 1019, 1020, 1021, 1022, 1023, 1024, 1025, 1026, 1027, 1028, 1029, 1030, 1031, 1032, 1033, 1034] (by decide +kernel) (by decide +kernel)
set_option maxRecDepth 20000 in
theorem gL_law_X5_vinegar : GoodIn wsL_law (wsV RL 17 RX5 yX5_vinegar wsX5_vinegar) := goodIn_app (goodIn_of _ (by decide +kernel)) ggL_law_X5_vinegar
set_option maxRecDepth 20000 in
theorem ggL_law_X4_list : GoodIn wsL_law wsX4_list := goodIn_r _ [98, 69, 15, 99, 100, 101, 2, 102, 71, 72, 73, 74, 75, 76, 77, 27, 1010, 1011, 1012, 1013, 1014, 1015, 1016, 1035, 1036, 1037, 1038, 1039, 1040, 1041, 1042, 1043, 1044, 1045, 1046] (by decide +kernel) (by decide +kernel)
set_option maxRecDepth 20000 in
theorem gL_law_X4_list : GoodIn wsL_law (wsV RL 18 RX4 yX4_list wsX4_list) := goodIn_app (goodIn_of _ (by decide +kernel)) ggL_law_X4_list
set_option maxRecDepth 20000 in
theorem ggL_law_X5_list : GoodIn wsL_law wsX5_list := goodIn_r _ [106, 107, 83, 108, 109, 5, 110, 84, 85, 86, 87, 88, 89, 90, 56, 91, 92, 93, 94, 60, 1017, 1018, 1019, 1020, 1021, 1022, 1023, 1024, 1025, 1026, 1027, 1028, 1029, 1030, 1031, 1032, 1033, 1034] (by decide +kernel) (by decide +kernel)
set_option maxRecDepth 20000 in
theorem gL_law_X5_list : GoodIn wsL_law (wsV RL 22 RX5 yX5_list wsX5_list) := goodIn_app (goodIn_of _ (by decide +kernel)) ggL_law_X5_list
set_option maxRecDepth 20000 in
theorem ggL_law_X4_listed : GoodIn wsL_law wsX4_listed := goodIn_r _ [114, 69, 15, 99, 100, 101, 2, 102, 71, 72, 73, 74, 75, 76, 77, 27, 1010, 1011, 1012, 1013, 1014, 1015, 1016, 1035, 1036, 1037, 1038, 1039, 1040, 1041, 1042, 1043, 1044, 1045, 1046] (by decide +kernel) (by decide +kernel)
set_option maxRecDepth 20000 in
theorem gL_law_X4_listed : GoodIn wsL_law (wsV RL 23 RX4 yX4_listed wsX4_listed) := goodIn_app (goodIn_of _ (by decide +kernel)) ggL_law_X4_listed
set_option maxRecDepth 20000 in
theorem ggL_law_X5_listed : GoodIn wsL_law wsX5_listed := goodIn_r _ [118, 56, 83, 108, 109, 5, 110, 91, 92, 93, 94, 60, 1017, 1018, 1019, 1020, 1021, 1022, 1023, 1024, 1025, 1026, 1027, 1028, 1029, 1030, 1031, 1032, 1033, 1034] (by decide +kernel) (by decide +kernel)
set_option maxRecDepth 20000 in
theorem gL_law_X5_listed : GoodIn wsL_law (wsV RL 26 RX5 yX5_listed wsX5_listed) := goodIn_app (goodIn_of _ (by decide +kernel)) ggL_law_X5_listed
set_option maxRecDepth 20000 in
theorem ggL_law_X4_speaker : GoodIn wsL_law wsX4_speaker := goodIn_r _ [122, 69, 15, 123, 124, 125, 2, 126, 71, 72, 73, 74, 75, 76, 77, 27, 127, 128, 129, 14, 130, 131, 132, 133, 134, 135, 35, 36, 37, 38, 39, 136, 137, 138, 1010, 1011, 1012, 1013, 1014, 1015, 1016, 1035, 1036, 1037, 1038, 1039, 1040, 1041, 1042, 1043, 1044, 1045, 1046] (by decide +kernel) (by decide +kernel)
set_option maxRecDepth 20000 in
theorem gL_law_X4_speaker : GoodIn wsL_law (wsV RL 27 RX4 yX4_speaker wsX4_speaker) := goodIn_app (goodIn_of _ (by decide +kernel)) ggL_law_X4_speaker
set_option maxRecDepth 20000 in
theorem ggL_law_X5_speaker : GoodIn wsL_law wsX5_speaker := goodIn_r _ [142, 143, 83, 56, 144, 84, 85, 5, 86, 91, 92, 93, 94, 60, 145, 146, 147, 148, 149, 150, 151, 1017, 1018, 1019, 1020, 1021, 1022, 1023, 1024, 1025, 1026, 1027, 1028, 1029, 1030, 1031, 1032, 1033, 1034] (by decide +kernel) (by decide +kernel)
set_option maxRecDepth 20000 in
theorem gL_law_X5_speaker : GoodIn wsL_law (wsV RL 30 RX5 yX5_speaker wsX5_speaker) := goodIn_app (goodIn_of _ (by decide +kernel)) ggL_law_X5_speaker
set_option maxRecDepth 20000 in
theorem ggL_law_X4_of : GoodIn wsL_law wsX4_of := goodIn_r _ [155, 15, 69, 156, 157, 158, 14, 159, 131, 71, 72, 2, 73, 74, 75, 76, 77, 27, 160, 161, 162, 163, 35, 36, 37, 38, 164, 165, 166, 167, 32, 168, 169, 170, 171, 39, 136, 137, 138, 172, 173, 174, 175, 176, 177, 178, 179, 180, 181, 182, 183, 1010, 1011, 1012, 1013, 1014, 1015, 1016, 1035, 1036, 1037, 1038, 1039, 1040, 1041, 1042, 1043, 1044, 1045, 1046] (by decide +kernel) (by decide +kernel)
set_option maxRecDepth 20000 in
theorem gL_law_X4_of : GoodIn wsL_law (wsV RL 31 RX4 yX4_of wsX4_of) := goodIn_app (goodIn_of _ (by decide +kernel)) ggL_law_X4_of
set_option maxRecDepth 20000 in
theorem ggL_law_X5_of : GoodIn wsL_law wsX5_of := goodIn_r _ [187, 143, 83, 188, 189, 190, 5, 191, 56, 84, 85, 86, 91, 92, 93, 94, 60, 192, 193, 194, 195, 196, 197, 198, 199, 200, 201, 202, 203, 204, 205, 206, 207, 208, 209, 210, 1017, 1018, 1019, 1020, 1021, 1022, 1023, 1024, 1025, 1026, 1027, 1028, 1029, 1030, 1031, 1032, 1033, 1034] (by decide +kernel) (by decide +kernel)
set_option maxRecDepth 20000 in
theorem gL_law_X5_of : GoodIn wsL_law (wsV RL 34 RX5 yX5_of wsX5_of) := goodIn_app (goodIn_of _ (by decide +kernel)) ggL_law_X5_of
set_option maxRecDepth 20000 in
theorem ggL_law_X4_change : GoodIn wsL_law wsX4_change := goodIn_r _ [214, 15, 69, 215, 216, 217, 218, 156, 157, 158, 14, 159, 131, 219, 220, 221, 2, 222, 223, 124, 125, 126, 71, 72, 73, 74, 75, 76, 77, 27, 224, 225, 226, 1010, 1011, 1012, 1013, 1014, 1015, 1016, 1035, 1036, 1037, 1038, 1039, 1040, 1041, 1042, 1043, 1044, 1045, 1046] (by decide +kernel) (by decide +kernel)
set_option maxRecDepth 20000 in
theorem gL_law_X4_change : GoodIn wsL_law (wsV RL 35 RX4 yX4_change wsX4_change) := goodIn_app (goodIn_of _ (by decide +kernel)) ggL_law_X4_change
set_option maxRecDepth 20000 in
theorem ggL_law_X5_change : GoodIn wsL_law wsX5_change := goodIn_r _ [230, 83, 188, 189, 190, 5, 191, 56, 231, 232, 233, 234, 143, 235, 236, 84, 85, 86, 149, 150, 151, 87, 88, 89, 90, 91, 92, 93, 94, 60, 1017, 1018, 1019, 1020, 1021, 1022, 1023, 1024, 1025, 1026, 1027, 1028, 1029, 1030, 1031, 1032, 1033, 1034] (by decide +kernel) (by decide +kernel)
set_option maxRecDepth 20000 in
theorem gL_law_X5_change : GoodIn wsL_law (wsV RL 39 RX5 yX5_change wsX5_change) := goodIn_app (goodIn_of _ (by decide +kernel)) ggL_law_X5_change
set_option maxRecDepth 20000 in
theorem ggL_law_X4_serve : GoodIn wsL_law wsX4_serve := goodIn_r _ [240, 15, 69, 241, 156, 157, 158, 14, 159, 131, 100, 101, 2, 102, 71, 72, 73, 74, 75, 76, 77, 27, 242, 137, 138, 224, 225, 226, 1010, 1011, 1012, 1013, 1014, 1015, 1016, 1035, 1036, 1037, 1038, 1039, 1040, 1041, 1042, 1043, 1044, 1045, 1046] (by decide +kernel) (by decide +kernel)
set_option maxRecDepth 20000 in
theorem gL_law_X4_serve : GoodIn wsL_law (wsV RL 40 RX4 yX4_serve wsX4_serve) := goodIn_app (goodIn_of _ (by decide +kernel)) ggL_law_X4_serve
set_option maxRecDepth 20000 in
theorem ggL_law_X5_serve : GoodIn wsL_law wsX5_serve := goodIn_r _ [246, 247, 83, 188, 189, 190, 5, 191, 56, 108, 109, 110, 84, 85, 86, 149, 150, 151, 87, 88, 89, 90, 91, 92, 93, 94, 60, 1017, 1018, 1019, 1020, 1021, 1022, 1023, 1024, 1025, 1026, 1027, 1028, 1029, 1030, 1031, 1032, 1033, 1034] (by decide +kernel) (by decide +kernel)
set_option maxRecDepth 20000 in
theorem gL_law_X5_serve : GoodIn wsL_law (wsV RL 43 RX5 yX5_serve wsX5_serve) := goodIn_app (goodIn_of _ (by decide +kernel)) ggL_law_X5_serve
set_option maxRecDepth 20000 in
theorem ggL_law_X4_plate : GoodIn wsL_law wsX4_plate := goodIn_r _ [251, 15, 69, 241, 156, 157, 158, 14, 159, 131, 100, 101, 2, 102, 71, 72, 73, 74, 75, 76, 77, 27, 242, 137, 138, 1010, 1011, 1012, 1013, 1014, 1015, 1016, 1035, 1036, 1037, 1038, 1039, 1040, 1041, 1042, 1043, 1044, 1045, 1046] (by decide +kernel) (by decide +kernel)
set_option maxRecDepth 20000 in
theorem gL_law_X4_plate : GoodIn wsL_law (wsV RL 44 RX4 yX4_plate wsX4_plate) := goodIn_app (goodIn_of _ (by decide +kernel)) ggL_law_X4_plate
set_option maxRecDepth 20000 in
theorem ggL_law_X5_plate : GoodIn wsL_law wsX5_plate := goodIn_r _ [255, 83, 188, 189, 190, 5, 191, 56, 108, 109, 110, 196, 197, 198, 199, 91, 92, 93, 94, 60, 1017, 1018, 1019, 1020, 1021, 1022, 1023, 1024, 1025, 1026, 1027, 1028, 1029, 1030, 1031, 1032, 1033, 1034] (by decide +kernel) (by decide +kernel)
set_option maxRecDepth 20000 in
theorem gL_law_X5_plate : GoodIn wsL_law (wsV RL 47 RX5 yX5_plate wsX5_plate) := goodIn_app (goodIn_of _ (by decide +kernel)) ggL_law_X5_plate
set_option maxRecDepth 20000 in
theorem ggL_law_X4_chews : GoodIn wsL_law wsX4_chews := goodIn_r _ [259, 15, 69, 215, 70, 156, 157, 158, 14, 159, 131, 100, 101, 2, 102, 71, 72, 73, 74, 75, 76, 77, 27, 260, 261, 174, 262, 263, 264, 265, 1010, 1011, 1012, 1013, 1014, 1015, 1016, 1035, 1036, 1037, 1038, 1039, 1040, 1041, 1042, 1043, 1044, 1045, 1046] (by decide +kernel) (by decide +kernel)
set_option maxRecDepth 20000 in
theorem gL_law_X4_chews : GoodIn wsL_law (wsV RL 48 RX4 yX4_chews wsX4_chews) := goodIn_app (goodIn_of _ (by decide +kernel)) ggL_law_X4_chews
set_option maxRecDepth 20000 in
theorem ggL_law_X5_chews : GoodIn wsL_law wsX5_chews := goodIn_r _ [269, 83, 188, 189, 190, 5, 191, 56, 108, 109, 110, 196, 197, 198, 199, 270, 271, 272, 273, 91, 92, 93, 94, 60, 1017, 1018, 1019, 1020, 1021, 1022, 1023, 1024, 1025, 1026, 1027, 1028, 1029, 1030, 1031, 1032, 1033, 1034] (by decide +kernel) (by decide +kernel)
set_option maxRecDepth 20000 in
theorem gL_law_X5_chews : GoodIn wsL_law (wsV RL 51 RX5 yX5_chews wsX5_chews) := goodIn_app (goodIn_of _ (by decide +kernel)) ggL_law_X5_chews
set_option maxRecDepth 20000 in
theorem ggL_law_X4_talks : GoodIn wsL_law wsX4_talks := goodIn_r _ [277, 15, 69, 215, 278, 156, 157, 158, 14, 159, 131, 100, 101, 2, 102, 71, 72, 73, 74, 75, 76, 77, 27, 279, 280, 174, 281, 263, 264, 265, 1010, 1011, 1012, 1013, 1014, 1015, 1016, 1035, 1036, 1037, 1038, 1039, 1040, 1041, 1042, 1043, 1044, 1045, 1046] (by decide +kernel) (by decide +kernel)
set_option maxRecDepth 20000 in
theorem gL_law_X4_talks : GoodIn wsL_law (wsV RL 52 RX4 yX4_talks wsX4_talks) := goodIn_app (goodIn_of _ (by decide +kernel)) ggL_law_X4_talks
set_option maxRecDepth 20000 in
theorem ggL_law_X5_talks : GoodIn wsL_law wsX5_talks := goodIn_r _ [285, 83, 188, 189, 190, 5, 191, 56, 108, 109, 110, 196, 197, 198, 199, 286, 287, 288, 289, 91, 92, 93, 94, 60, 1017, 1018, 1019, 1020, 1021, 1022, 1023, 1024, 1025, 1026, 1027, 1028, 1029, 1030, 1031, 1032, 1033, 1034] (by decide +kernel) (by decide +kernel)
set_option maxRecDepth 20000 in
theorem gL_law_X5_talks : GoodIn wsL_law (wsV RL 55 RX5 yX5_talks wsX5_talks) := goodIn_app (goodIn_of _ (by decide +kernel)) ggL_law_X5_talks
set_option maxRecDepth 20000 in
theorem ggL_law_X4_go : GoodIn wsL_law wsX4_go := goodIn_r _ [293, 69, 15, 278, 223, 294, 71, 72, 2, 73, 74, 75, 76, 77, 27, 295, 296, 297, 14, 298, 299, 300, 301, 302, 131, 303, 304, 305, 306, 178, 307, 308, 309, 310, 311, 35, 34, 312, 280, 174, 281, 263, 264, 265, 313, 314, 315, 316, 39, 136, 137, 138, 317, 318, 319, 320, 321, 36, 37, 322, 177, 179, 38, 164, 165, 166, 167, 32, 168, 169, 170, 171, 172, 173, 175, 176, 323, 324, 325, 326, 327, 261, 262, 328, 329, 330, 331, 332, 157, 158, 159, 333, 334, 335, 336, 1010, 1011, 1012, 1013, 1014, 1015, 1016, 1035, 1036, 1037, 1038, 1039, 1040, 1041, 1042, 1043, 1044, 1045, 1046] (by decide +kernel) (by decide +kernel)
set_option maxRecDepth 20000 in
theorem gL_law_X4_go : GoodIn wsL_law (wsV RL 56 RX4 yX4_go wsX4_go) := goodIn_app (goodIn_of _ (by decide +kernel)) ggL_law_X4_go
set_option maxRecDepth 20000 in
theorem ggL_law_X5_go : GoodIn wsL_law wsX5_go := goodIn_r _ [340, 341, 83, 56, 342, 343, 84, 85, 5, 86, 91, 92, 93, 94, 60, 344, 345, 346, 347, 348, 349, 350, 351, 352, 353, 354, 355, 196, 197, 198, 199, 286, 287, 288, 289, 149, 150, 151, 356, 357, 358, 359, 360, 361, 362, 363, 364, 192, 193, 194, 195, 200, 201, 202, 203, 204, 205, 206, 365, 366, 367, 368, 270, 271, 272, 273, 369, 370, 371, 372, 1017, 1018, 1019, 1020, 1021, 1022, 1023, 1024, 1025, 1026, 1027, 1028, 1029, 1030, 1031, 1032, 1033, 1034] (by decide +kernel) (by decide +kernel)
set_option maxRecDepth 20000 in
theorem gL_law_X5_go : GoodIn wsL_law (wsV RL 59 RX5 yX5_go wsX5_go) := goodIn_app (goodIn_of _ (by decide +kernel)) ggL_law_X5_go
set_option maxRecDepth 20000 in
theorem ggL_law_X4_now : GoodIn wsL_law wsX4_now := goodIn_r _ [376, 15, 278, 217, 218, 69, 333, 334, 335, 14, 336, 131, 168, 169, 170, 171, 39, 136, 137, 138, 377, 378, 379, 380, 381, 382, 383, 384, 385, 386, 387, 388, 389, 390, 391, 392, 36, 332, 157, 158, 159, 74, 75, 76, 2, 77, 27, 71, 72, 73, 1010, 1011, 1012, 1013, 1014, 1015, 1016, 1035, 1036, 1037, 1038, 1039, 1040, 1041, 1042, 1043, 1044, 1045, 1046] (by decide +kernel) (by decide +kernel)
set_option maxRecDepth 20000 in
theorem gL_law_X4_now : GoodIn wsL_law (wsV RL 60 RX4 yX4_now wsX4_now) := goodIn_app (goodIn_of _ (by decide +kernel)) ggL_law_X4_now
set_option maxRecDepth 20000 in
theorem ggL_law_X5_now : GoodIn wsL_law wsX5_now := goodIn_r _ [396, 56, 83, 369, 370, 371, 5, 372, 200, 201, 202, 203, 196, 197, 198, 199, 397, 398, 399, 400, 401, 402, 403, 404, 405, 406, 407, 408, 409, 410, 411, 412, 91, 92, 93, 94, 60, 1017, 1018, 1019, 1020, 1021, 1022, 1023, 1024, 1025, 1026, 1027, 1028, 1029, 1030, 1031, 1032, 1033, 1034] (by decide +kernel) (by decide +kernel)
set_option maxRecDepth 20000 in
theorem gL_law_X5_now : GoodIn wsL_law (wsV RL 63 RX5 yX5_now wsX5_now) := goodIn_app (goodIn_of _ (by decide +kernel)) ggL_law_X5_now
set_option maxRecDepth 20000 in
theorem ggL_law_X4_ahead : GoodIn wsL_law wsX4_ahead := goodIn_r _ [416, 15, 69, 17, 156, 157, 158, 14, 159, 131, 71, 72, 2, 73, 74, 75, 76, 77, 27, 417, 418, 419, 420, 304, 32, 33, 34, 421, 422, 423, 424, 35, 36, 37, 38, 39, 40, 295, 296, 297, 298, 299, 300, 301, 302, 303, 305, 306, 178, 307, 308, 309, 310, 311, 312, 280, 174, 281, 263, 264, 265, 313, 314, 315, 316, 136, 137, 138, 317, 318, 319, 320, 321, 322, 177, 179, 164, 165, 166, 167, 168, 169, 170, 171, 172, 173, 175, 176, 323, 324, 325, 326, 327, 261, 262, 328, 329, 330, 331, 332, 160, 161, 162, 163, 180, 181, 182, 183, 1010, 1011, 1012, 1013, 1014, 1015, 1016, 1035, 1036, 1037, 1038, 1039, 1040, 1041, 1042, 1043, 1044, 1045, 1046] (by decide +kernel) (by decide +kernel)
set_option maxRecDepth 20000 in
theorem gL_law_X4_ahead : GoodIn wsL_law (wsV RL 64 RX4 yX4_ahead wsX4_ahead) := goodIn_app (goodIn_of _ (by decide +kernel)) ggL_law_X4_ahead
set_option maxRecDepth 20000 in
theorem ggL_law_X5_ahead : GoodIn wsL_law wsX5_ahead := goodIn_r _ [428, 429, 83, 188, 189, 190, 5, 191, 56, 84, 85, 86, 430, 431, 432, 433, 59, 434, 435, 436, 344, 345, 346, 347, 348, 349, 350, 351, 352, 353, 354, 355, 196, 197, 198, 199, 286, 287, 288, 289, 149, 150, 151, 356, 357, 358, 359, 360, 361, 362, 363, 364, 342, 192, 193, 194, 195, 200, 201, 202, 203, 204, 205, 206, 365, 366, 367, 368, 270, 271, 272, 273, 91, 92, 93, 94, 60, 1017, 1018, 1019, 1020, 1021, 1022, 1023, 1024, 1025, 1026, 1027, 1028, 1029, 1030, 1031, 1032, 1033, 1034] (by decide +kernel) (by decide +kernel)
set_option maxRecDepth 20000 in
theorem gL_law_X5_ahead : GoodIn wsL_law (wsV RL 67 RX5 yX5_ahead wsX5_ahead) := goodIn_app (goodIn_of _ (by decide +kernel)) ggL_law_X5_ahead
set_option maxRecDepth 20000 in
theorem ggL_law_X4_served : GoodIn wsL_law wsX4_served := goodIn_r _ [440, 15, 69, 17, 241, 156, 157, 158, 14, 159, 131, 100, 101, 2, 102, 71, 72, 73, 74, 75, 76, 77, 27, 417, 418, 419, 420, 304, 32, 33, 34, 421, 422, 423, 424, 35, 36, 37, 38, 39, 40, 295, 296, 297, 298, 299, 300, 301, 302, 303, 305, 306, 178, 307, 308, 309, 310, 311, 312, 280, 174, 281, 263, 264, 265, 313, 314, 315, 316, 136, 137, 138, 317, 318, 319, 320, 321, 322, 177, 179, 164, 165, 166, 167, 168, 169, 170, 171, 172, 173, 175, 176, 323, 324, 325, 326, 327, 261, 262, 328, 329, 330, 331, 332, 242, 1010, 1011, 1012, 1013, 1014, 1015, 1016, 1035, 1036, 1037, 1038, 1039, 1040, 1041, 1042, 1043, 1044, 1045, 1046] (by decide +kernel) (by decide +kernel)
set_option maxRecDepth 20000 in
theorem gL_law_X4_served : GoodIn wsL_law (wsV RL 68 RX4 yX4_served wsX4_served) := goodIn_app (goodIn_of _ (by decide +kernel)) ggL_law_X4_served
set_option maxRecDepth 20000 in
theorem ggL_law_X5_served : GoodIn wsL_law wsX5_served := goodIn_r _ [444, 429, 83, 56, 59, 188, 189, 190, 5, 191, 108, 109, 110, 84, 85, 86, 91, 92, 93, 94, 60, 434, 435, 436, 344, 345, 346, 347, 348, 349, 350, 351, 352, 353, 354, 355, 196, 197, 198, 199, 286, 287, 288, 289, 149, 150, 151, 356, 357, 358, 359, 360, 361, 362, 363, 364, 342, 192, 193, 194, 195, 200, 201, 202, 203, 204, 205, 206, 365, 366, 367, 368, 270, 271, 272, 273, 1017, 1018, 1019, 1020, 1021, 1022, 1023, 1024, 1025, 1026, 1027, 1028, 1029, 1030, 1031, 1032, 1033, 1034] (by decide +kernel) (by decide +kernel)
set_option maxRecDepth 20000 in
theorem gL_law_X5_served : GoodIn wsL_law (wsV RL 71 RX5 yX5_served wsX5_served) := goodIn_app (goodIn_of _ (by decide +kernel)) ggL_law_X5_served
set_option maxRecDepth 20000 in
theorem ggL_law_X4_clean : GoodIn wsL_law wsX4_clean := goodIn_r _ [448, 15, 69, 156, 157, 158, 14, 159, 131, 74, 75, 76, 2, 77, 27, 71, 72, 73, 449, 450, 451, 452, 17, 453, 417, 418, 419, 420, 304, 32, 33, 34, 421, 422, 423, 424, 35, 36, 37, 38, 39, 40, 160, 161, 162, 163, 164, 165, 166, 167, 168, 169, 170, 171, 136, 137, 138, 172, 173, 174, 175, 176, 177, 178, 179, 180, 181, 182, 183, 454, 300, 301, 302, 303, 305, 306, 307, 308, 309, 310, 311, 312, 280, 281, 263, 264, 265, 313, 314, 315, 316, 317, 318, 319, 320, 321, 322, 323, 324, 325, 326, 327, 261, 262, 328, 329, 330, 331, 332, 1010, 1011, 1012, 1013, 1014, 1015, 1016, 1035, 1036, 1037, 1038, 1039, 1040, 1041, 1042, 1043, 1044, 1045, 1046] (by decide +kernel) (by decide +kernel)
set_option maxRecDepth 20000 in
theorem gL_law_X4_clean : GoodIn wsL_law (wsV RL 72 RX4 yX4_clean wsX4_clean) := goodIn_app (goodIn_of _ (by decide +kernel)) ggL_law_X4_clean
set_option maxRecDepth 20000 in
theorem ggL_law_X5_clean : GoodIn wsL_law wsX5_clean := goodIn_r _ [458, 83, 56, 59, 459, 188, 189, 190, 5, 191, 91, 92, 93, 94, 60, 434, 435, 436, 200, 201, 202, 203, 196, 197, 198, 199, 348, 349, 350, 351, 352, 353, 354, 355, 286, 287, 288, 289, 149, 150, 151, 356, 357, 358, 359, 360, 361, 362, 363, 364, 342, 192, 193, 194, 195, 204, 205, 206, 365, 366, 367, 368, 270, 271, 272, 273, 1017, 1018, 1019, 1020, 1021, 1022, 1023, 1024, 1025, 1026, 1027, 1028, 1029, 1030, 1031, 1032, 1033, 1034] (by decide +kernel) (by decide +kernel)
set_option maxRecDepth 20000 in
theorem gL_law_X5_clean : GoodIn wsL_law (wsV RL 75 RX5 yX5_clean wsX5_clean) := goodIn_app (goodIn_of _ (by decide +kernel)) ggL_law_X5_clean
set_option maxRecDepth 20000 in
theorem ggL_law_X4_when : GoodIn wsL_law wsX4_when := goodIn_r _ [463, 15, 69, 464, 156, 157, 158, 14, 159, 131, 71, 72, 2, 73, 74, 75, 76, 77, 27, 449, 450, 451, 452, 17, 453, 417, 418, 419, 420, 304, 32, 33, 34, 421, 422, 423, 424, 35, 36, 37, 38, 39, 40, 160, 161, 162, 163, 164, 165, 166, 167, 168, 169, 170, 171, 136, 137, 138, 172, 173, 174, 175, 176, 177, 178, 179, 180, 181, 182, 183, 454, 300, 301, 302, 303, 305, 306, 307, 308, 309, 310, 311, 312, 280, 281, 263, 264, 265, 313, 314, 315, 316, 317, 318, 319, 320, 321, 322, 323, 324, 325, 326, 327, 261, 262, 328, 329, 330, 331, 332, 1010, 1011, 1012, 1013, 1014, 1015, 1016, 1035, 1036, 1037, 1038, 1039, 1040, 1041, 1042, 1043, 1044, 1045, 1046] (by decide +kernel) (by decide +kernel)
set_option maxRecDepth 20000 in
theorem gL_law_X4_when : GoodIn wsL_law (wsV RL 76 RX4 yX4_when wsX4_when) := goodIn_app (goodIn_of _ (by decide +kernel)) ggL_law_X4_when
set_option maxRecDepth 20000 in
theorem ggL_law_X5_when : GoodIn wsL_law wsX5_when := goodIn_r _ [468, 469, 83, 56, 59, 459, 188, 189, 190, 5, 191, 84, 85, 86, 91, 92, 93, 94, 60, 434, 435, 436, 200, 201, 202, 203, 196, 197, 198, 199, 348, 349, 350, 351, 352, 353, 354, 355, 286, 287, 288, 289, 149, 150, 151, 356, 357, 358, 359, 360, 361, 362, 363, 364, 342, 192, 193, 194, 195, 204, 205, 206, 365, 366, 367, 368, 270, 271, 272, 273, 1017, 1018, 1019, 1020, 1021, 1022, 1023, 1024, 1025, 1026, 1027, 1028, 1029, 1030, 1031, 1032, 1033, 1034] (by decide +kernel) (by decide +kernel)
set_option maxRecDepth 20000 in
theorem gL_law_X5_when : GoodIn wsL_law (wsV RL 79 RX5 yX5_when wsX5_when) := goodIn_app (goodIn_of _ (by decide +kernel)) ggL_law_X5_when
set_option maxRecDepth 20000 in
theorem ggL_law_X4_thin : GoodIn wsL_law wsX4_thin := goodIn_r _ [473, 15, 69, 156, 157, 158, 14, 159, 131, 74, 75, 76, 2, 77, 27, 71, 72, 73, 449, 450, 451, 452, 17, 453, 417, 418, 419, 420, 304, 32, 33, 34, 421, 422, 423, 424, 35, 36, 37, 38, 39, 40, 160, 161, 162, 163, 164, 165, 166, 167, 168, 169, 170, 171, 136, 137, 138, 172, 173, 174, 175, 176, 177, 178, 179, 180, 181, 182, 183, 454, 300, 301, 302, 303, 305, 306, 307, 308, 309, 310, 311, 312, 280, 281, 263, 264, 265, 313, 314, 315, 316, 317, 318, 319, 320, 321, 322, 323, 324, 325, 326, 327, 261, 262, 328, 329, 330, 331, 332, 1010, 1011, 1012, 1013, 1014, 1015, 1016, 1035, 1036, 1037, 1038, 1039, 1040, 1041, 1042, 1043, 1044, 1045, 1046] (by decide +kernel) (by decide +kernel)
set_option maxRecDepth 20000 in
theorem gL_law_X4_thin : GoodIn wsL_law (wsV RL 80 RX4 yX4_thin wsX4_thin) := goodIn_app (goodIn_of _ (by decide +kernel)) ggL_law_X4_thin
set_option maxRecDepth 20000 in
theorem ggL_law_X5_thin : GoodIn wsL_law wsX5_thin := goodIn_r _ [477, 83, 56, 59, 459, 188, 189, 190, 5, 191, 91, 92, 93, 94, 60, 434, 435, 436, 196, 197, 198, 199, 348, 349, 350, 351, 352, 353, 354, 355, 286, 287, 288, 289, 149, 150, 151, 356, 357, 358, 359, 360, 361, 362, 363, 364, 342, 192, 193, 194, 195, 200, 201, 202, 203, 204, 205, 206, 365, 366, 367, 368, 270, 271, 272, 273, 1017, 1018, 1019, 1020, 1021, 1022, 1023, 1024, 1025, 1026, 1027, 1028, 1029, 1030, 1031, 1032, 1033, 1034] (by decide +kernel) (by decide +kernel)
set_option maxRecDepth 20000 in
theorem gL_law_X5_thin : GoodIn wsL_law (wsV RL 83 RX5 yX5_thin wsX5_thin) := goodIn_app (goodIn_of _ (by decide +kernel)) ggL_law_X5_thin
set_option maxRecDepth 20000 in
theorem ggL_law_X4_love : GoodIn wsL_law wsX4_love := goodIn_r _ [481, 15, 69, 464, 482, 17, 216, 156, 157, 158, 14, 159, 131, 71, 72, 2, 73, 74, 75, 76, 77, 27, 417, 418, 419, 420, 304, 32, 33, 34, 421, 422, 423, 424, 35, 36, 37, 38, 39, 40, 295, 296, 297, 298, 299, 300, 301, 302, 303, 305, 306, 178, 307, 308, 309, 310, 311, 312, 280, 174, 281, 263, 264, 265, 313, 314, 315, 316, 136, 137, 138, 317, 318, 319, 320, 321, 322, 177, 179, 164, 165, 166, 167, 168, 169, 170, 171, 172, 173, 175, 176, 323, 324, 325, 326, 327, 261, 262, 328, 329, 330, 331, 332, 333, 334, 335, 336, 1010, 1011, 1012, 1013, 1014, 1015, 1016, 1035, 1036, 1037, 1038, 1039, 1040, 1041, 1042, 1043, 1044, 1045, 1046] (by decide +kernel) (by decide +kernel)
set_option maxRecDepth 20000 in
theorem gL_law_X4_love : GoodIn wsL_law (wsV RL 84 RX4 yX4_love wsX4_love) := goodIn_app (goodIn_of _ (by decide +kernel)) ggL_law_X4_love
set_option maxRecDepth 20000 in
theorem ggL_law_X5_love : GoodIn wsL_law wsX5_love := goodIn_r _ [486, 83, 56, 487, 488, 489, 5, 490, 491, 188, 189, 190, 191, 84, 85, 86, 91, 92, 93, 94, 60, 196, 197, 198, 199, 149, 150, 151, 492, 493, 494, 495, 59, 434, 435, 436, 344, 345, 346, 347, 348, 349, 350, 351, 352, 353, 354, 355, 286, 287, 288, 289, 356, 357, 358, 359, 360, 361, 362, 363, 364, 342, 192, 193, 194, 195, 200, 201, 202, 203, 204, 205, 206, 365, 366, 367, 368, 270, 271, 272, 273, 369, 370, 371, 372, 1017, 1018, 1019, 1020, 1021, 1022, 1023, 1024, 1025, 1026, 1027, 1028, 1029, 1030, 1031, 1032, 1033, 1034] (by decide +kernel) (by decide +kernel)
set_option maxRecDepth 20000 in
theorem gL_law_X5_love : GoodIn wsL_law (wsV RL 87 RX5 yX5_love wsX5_love) := goodIn_app (goodIn_of _ (by decide +kernel)) ggL_law_X5_love
set_option maxRecDepth 20000 in
theorem ggL_law_X4_kindFor : GoodIn wsL_law wsX4_kindFor := goodIn_r _ [499, 15, 69, 464, 17, 215, 156, 157, 158, 14, 159, 131, 71, 72, 2, 73, 74, 75, 76, 77, 27, 417, 418, 419, 420, 304, 32, 33, 34, 421, 422, 423, 424, 35, 36, 37, 38, 39, 40, 295, 296, 297, 298, 299, 300, 301, 302, 303, 305, 306, 178, 307, 308, 309, 310, 311, 312, 280, 174, 281, 263, 264, 265, 313, 314, 315, 316, 136, 137, 138, 317, 318, 319, 320, 321, 322, 177, 179, 164, 165, 166, 167, 168, 169, 170, 171, 172, 173, 175, 176, 323, 324, 325, 326, 327, 261, 262, 328, 329, 330, 331, 332, 500, 1010, 1011, 1012, 1013, 1014, 1015, 1016, 1035, 1036, 1037, 1038, 1039, 1040, 1041, 1042, 1043, 1044, 1045, 1046] (by decide +kernel) (by decide +kernel)
set_option maxRecDepth 20000 in
theorem gL_law_X4_kindFor : GoodIn wsL_law (wsV RL 88 RX4 yX4_kindFor wsX4_kindFor) := goodIn_app (goodIn_of _ (by decide +kernel)) ggL_law_X4_kindFor
set_option maxRecDepth 20000 in
theorem ggL_law_X5_kindFor : GoodIn wsL_law wsX5_kindFor := goodIn_r _ [504, 83, 56, 487, 488, 489, 5, 490, 491, 188, 189, 190, 191, 84, 85, 86, 91, 92, 93, 94, 60, 196, 197, 198, 199, 149, 150, 151, 430, 431, 432, 433, 59, 434, 435, 436, 344, 345, 346, 347, 348, 349, 350, 351, 352, 353, 354, 355, 286, 287, 288, 289, 356, 357, 358, 359, 360, 361, 362, 363, 364, 342, 192, 193, 194, 195, 200, 201, 202, 203, 204, 205, 206, 365, 366, 367, 368, 270, 271, 272, 273, 1017, 1018, 1019, 1020, 1021, 1022, 1023, 1024, 1025, 1026, 1027, 1028, 1029, 1030, 1031, 1032, 1033, 1034] (by decide +kernel) (by decide +kernel)
set_option maxRecDepth 20000 in
theorem gL_law_X5_kindFor : GoodIn wsL_law (wsV RL 91 RX5 yX5_kindFor wsX5_kindFor) := goodIn_app (goodIn_of _ (by decide +kernel)) ggL_law_X5_kindFor
set_option maxRecDepth 20000 in
theorem ggL_law_X4_vinegarFor : GoodIn wsL_law wsX4_vinegarFor := goodIn_r _ [508, 15, 69, 17, 70, 453, 156, 157, 158, 14, 159, 131, 71, 72, 2, 73, 74, 75, 76, 77, 27, 417, 418, 419, 420, 304, 32, 33, 34, 421, 422, 423, 424, 35, 36, 37, 38, 39, 40, 295, 296, 297, 298, 299, 300, 301, 302, 303, 305, 306, 178, 307, 308, 309, 310, 311, 312, 280, 174, 281, 263, 264, 265, 313, 314, 315, 316, 136, 137, 138, 317, 318, 319, 320, 321, 322, 177, 179, 164, 165, 166, 167, 168, 169, 170, 171, 172, 173, 175, 176, 323, 324, 325, 326, 327, 261, 262, 328, 329, 330, 331, 332, 500, 1010, 1011, 1012, 1013, 1014, 1015, 1016, 1035, 1036, 1037, 1038, 1039, 1040, 1041, 1042, 1043, 1044, 1045, 1046] (by decide +kernel) (by decide +kernel)
set_option maxRecDepth 20000 in
theorem gL_law_X4_vinegarFor : GoodIn wsL_law (wsV RL 92 RX4 yX4_vinegarFor wsX4_vinegarFor) := goodIn_app (goodIn_of _ (by decide +kernel)) ggL_law_X4_vinegarFor
set_option maxRecDepth 20000 in
theorem ggL_law_X5_vinegarFor : GoodIn wsL_law wsX5_vinegarFor := goodIn_r _ [512, 83, 56, 487, 488, 489, 5, 490, 491, 188, 189, 190, 191, 84, 85, 86, 91, 92, 93, 94, 60, 430, 431, 432, 433, 59, 434, 435, 436, 344, 345, 346, 347, 348, 349, 350, 351, 352, 353, 354, 355, 196, 197, 198, 199, 286, 287, 288, 289, 149, 150, 151, 356, 357, 358, 359, 360, 361, 362, 363, 364, 342, 192, 193, 194, 195, 200, 201, 202, 203, 204, 205, 206, 365, 366, 367, 368, 270, 271, 272, 273, 513, 514, 515, 516, 459, 1017, 1018, 1019, 1020, 1021, 1022, 1023, 1024, 1025, 1026, 1027, 1028, 1029, 1030, 1031, 1032, 1033, 1034] (by decide +kernel) (by decide +kernel)
set_option maxRecDepth 20000 in
theorem gL_law_X5_vinegarFor : GoodIn wsL_law (wsV RL 95 RX5 yX5_vinegarFor wsX5_vinegarFor) := goodIn_app (goodIn_of _ (by decide +kernel)) ggL_law_X5_vinegarFor
set_option maxRecDepth 20000 in
theorem ggL_law_X4_unsay : GoodIn wsL_law wsX4_unsay := goodIn_r _ [520, 69, 464, 17, 15, 99, 71, 72, 2, 73, 74, 75, 76, 77, 27, 417, 418, 419, 14, 420, 304, 32, 33, 131, 34, 421, 422, 423, 424, 35, 36, 37, 38, 39, 40, 295, 296, 297, 298, 299, 300, 301, 302, 303, 305, 306, 178, 307, 308, 309, 310, 311, 312, 280, 174, 281, 263, 264, 265, 313, 314, 315, 316, 136, 137, 138, 317, 318, 319, 320, 321, 322, 177, 179, 164, 165, 166, 167, 168, 169, 170, 171, 172, 173, 175, 176, 323, 324, 325, 326, 327, 261, 262, 328, 329, 330, 331, 332, 157, 158, 159, 333, 334, 335, 336, 1010, 1011, 1012, 1013, 1014, 1015, 1016, 1035, 1036, 1037, 1038, 1039, 1040, 1041, 1042, 1043, 1044, 1045, 1046] (by decide +kernel) (by decide +kernel)
set_option maxRecDepth 20000 in
theorem gL_law_X4_unsay : GoodIn wsL_law (wsV RL 96 RX4 yX4_unsay wsX4_unsay) := goodIn_app (goodIn_of _ (by decide +kernel)) ggL_law_X4_unsay
set_option maxRecDepth 20000 in
theorem ggL_law_X5_unsay : GoodIn wsL_law wsX5_unsay := goodIn_r _ [524, 491, 83, 56, 84, 85, 5, 86, 91, 92, 93, 94, 60, 87, 88, 89, 90, 492, 493, 494, 495, 59, 434, 435, 436, 344, 345, 346, 347, 348, 349, 350, 351, 352, 353, 354, 355, 196, 197, 198, 199, 286, 287, 288, 289, 149, 150, 151, 356, 357, 358, 359, 360, 361, 362, 363, 364, 342, 192, 193, 194, 195, 200, 201, 202, 203, 204, 205, 206, 365, 366, 367, 368, 270, 271, 272, 273, 369, 370, 371, 372, 1017, 1018, 1019, 1020, 1021, 1022, 1023, 1024, 1025, 1026, 1027, 1028, 1029, 1030, 1031, 1032, 1033, 1034] (by decide +kernel) (by decide +kernel)
set_option maxRecDepth 20000 in
theorem gL_law_X5_unsay : GoodIn wsL_law (wsV RL 99 RX5 yX5_unsay wsX5_unsay) := goodIn_app (goodIn_of _ (by decide +kernel)) ggL_law_X5_unsay
