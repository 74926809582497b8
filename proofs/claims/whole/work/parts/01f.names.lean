set_option maxRecDepth 20000 in
theorem ggL_law_X4_silence : GoodIn wsL_law wsX4_silence := goodIn_r _ [528, 15, 69, 482, 17, 453, 156, 157, 158, 14, 159, 131, 71, 72, 2, 73, 74, 75, 76, 77, 27, 529, 530, 531, 532, 533, 534, 535, 417, 418, 419, 420, 304, 32, 33, 34, 421, 422, 423, 424, 35, 36, 37, 38, 39, 40, 295, 296, 297, 298, 299, 300, 301, 302, 303, 305, 306, 178, 307, 308, 309, 310, 311, 312, 280, 174, 281, 263, 264, 265, 313, 314, 315, 316, 136, 137, 138, 317, 318, 319, 320, 321, 322, 177, 179, 164, 165, 166, 167, 168, 169, 170, 171, 172, 173, 175, 176, 323, 324, 325, 326, 327, 261, 262, 328, 329, 330, 331, 332, 500, 1010, 1011, 1012, 1013, 1014, 1015, 1016, 1035, 1036, 1037, 1038, 1039, 1040, 1041, 1042, 1043, 1044, 1045, 1046] (by decide +kernel) (by decide +kernel)
set_option maxRecDepth 20000 in
theorem gL_law_X4_silence : GoodIn wsL_law (wsV RL 100 RX4 yX4_silence wsX4_silence) := goodIn_app (goodIn_of _ (by decide +kernel)) ggL_law_X4_silence
set_option maxRecDepth 20000 in
theorem ggL_law_X5_silence : GoodIn wsL_law wsX5_silence := goodIn_r _ [539, 540, 83, 56, 59, 188, 189, 190, 5, 191, 84, 85, 86, 91, 92, 93, 94, 60, 434, 435, 436, 541, 542, 543, 348, 349, 350, 351, 352, 353, 354, 355, 196, 197, 198, 199, 286, 287, 288, 289, 149, 150, 151, 356, 357, 358, 359, 360, 361, 362, 363, 364, 342, 192, 193, 194, 195, 200, 201, 202, 203, 204, 205, 206, 365, 366, 367, 368, 270, 271, 272, 273, 513, 514, 515, 516, 459, 1017, 1018, 1019, 1020, 1021, 1022, 1023, 1024, 1025, 1026, 1027, 1028, 1029, 1030, 1031, 1032, 1033, 1034] (by decide +kernel) (by decide +kernel)
set_option maxRecDepth 20000 in
theorem gL_law_X5_silence : GoodIn wsL_law (wsV RL 103 RX5 yX5_silence wsX5_silence) := goodIn_app (goodIn_of _ (by decide +kernel)) ggL_law_X5_silence
set_option maxRecDepth 20000 in
theorem ggL_law_X4_swapFor : GoodIn wsL_law wsX4_swapFor := goodIn_r _ [547, 69, 15, 482, 453, 464, 17, 71, 72, 2, 73, 74, 75, 76, 77, 27, 417, 418, 419, 14, 420, 304, 32, 33, 131, 34, 421, 422, 423, 424, 35, 36, 37, 38, 39, 40, 548, 549, 550, 551, 136, 137, 138, 295, 296, 297, 298, 299, 300, 301, 302, 303, 305, 306, 178, 307, 308, 309, 310, 311, 312, 280, 174, 281, 263, 264, 265, 313, 314, 315, 316, 317, 318, 319, 320, 321, 322, 177, 179, 164, 165, 166, 167, 168, 169, 170, 171, 172, 173, 175, 176, 323, 324, 325, 326, 327, 261, 262, 328, 329, 330, 331, 332, 157, 158, 159, 333, 334, 335, 336, 1010, 1011, 1012, 1013, 1014, 1015, 1016, 1035, 1036, 1037, 1038, 1039, 1040, 1041, 1042, 1043, 1044, 1045, 1046] (by decide +kernel) (by decide +kernel)
set_option maxRecDepth 20000 in
theorem gL_law_X4_swapFor : GoodIn wsL_law (wsV RL 104 RX4 yX4_swapFor wsX4_swapFor) := goodIn_app (goodIn_of _ (by decide +kernel)) ggL_law_X4_swapFor
set_option maxRecDepth 20000 in
theorem ggL_law_X5_swapFor : GoodIn wsL_law wsX5_swapFor := goodIn_r _ [555, 107, 83, 56, 84, 85, 5, 86, 91, 92, 93, 94, 60, 556, 557, 558, 559, 149, 150, 151, 196, 197, 198, 199, 87, 88, 89, 90, 492, 493, 494, 495, 59, 434, 435, 436, 344, 345, 346, 347, 348, 349, 350, 351, 352, 353, 354, 355, 286, 287, 288, 289, 356, 357, 358, 359, 360, 361, 362, 363, 364, 342, 192, 193, 194, 195, 200, 201, 202, 203, 204, 205, 206, 365, 366, 367, 368, 270, 271, 272, 273, 369, 370, 371, 372, 513, 514, 515, 516, 459, 1017, 1018, 1019, 1020, 1021, 1022, 1023, 1024, 1025, 1026, 1027, 1028, 1029, 1030, 1031, 1032, 1033, 1034] (by decide +kernel) (by decide +kernel)
set_option maxRecDepth 20000 in
theorem gL_law_X5_swapFor : GoodIn wsL_law (wsV RL 107 RX5 yX5_swapFor wsX5_swapFor) := goodIn_app (goodIn_of _ (by decide +kernel)) ggL_law_X5_swapFor
set_option maxRecDepth 20000 in
theorem ggL_law_X4_fits : GoodIn wsL_law wsX4_fits := goodIn_r _ [563, 17, 15, 564, 565, 566, 2, 567, 69, 568, 569, 570, 571, 21, 572, 573, 574, 20, 575, 576, 577, 578, 579, 44, 156, 157, 158, 14, 159, 131, 74, 75, 76, 77, 27, 71, 72, 73, 417, 418, 419, 420, 304, 32, 33, 34, 421, 422, 423, 424, 35, 36, 37, 38, 39, 40, 580, 314, 315, 316, 305, 306, 178, 307, 136, 137, 138, 581, 582, 583, 584, 585, 454, 300, 301, 302, 303, 308, 309, 310, 311, 312, 280, 174, 281, 263, 264, 265, 313, 317, 318, 319, 320, 321, 322, 177, 179, 164, 165, 166, 167, 168, 169, 170, 171, 172, 173, 175, 176, 323, 324, 325, 326, 327, 261, 262, 328, 329, 330, 331, 332, 586, 587, 588, 589, 46, 500, 1010, 1011, 1012, 1013, 1014, 1015, 1016, 1047, 1048, 1049, 1035, 1036, 1037, 1038, 1039, 1040, 1041, 1042, 1043, 1044, 1045, 1046] (by decide +kernel) (by decide +kernel)
set_option maxRecDepth 20000 in
theorem gL_law_X4_fits : GoodIn wsL_law (wsV RL 108 RX4 yX4_fits wsX4_fits) := goodIn_app (goodIn_of _ (by decide +kernel)) ggL_law_X4_fits
set_option maxRecDepth 20000 in
theorem ggL_law_X5_fits : GoodIn wsL_law wsX5_fits := goodIn_r _ [593, 56, 594, 595, 596, 5, 597, 83, 598, 599, 600, 601, 62, 602, 603, 604, 605, 188, 189, 190, 191, 91, 92, 93, 94, 60, 196, 197, 198, 199, 149, 150, 151, 356, 357, 358, 606, 607, 608, 609, 59, 63, 64, 434, 435, 436, 200, 201, 202, 203, 348, 349, 350, 351, 352, 353, 354, 355, 286, 287, 288, 289, 359, 360, 361, 362, 363, 364, 342, 192, 193, 194, 195, 204, 205, 206, 365, 366, 367, 368, 270, 271, 272, 273, 1017, 1018, 1019, 1020, 1021, 1022, 1023, 1024, 1025, 1026, 1027, 1028, 1029, 1030, 1031, 1032, 1033, 1034] (by decide +kernel) (by decide +kernel)
set_option maxRecDepth 20000 in
theorem gL_law_X5_fits : GoodIn wsL_law (wsV RL 111 RX5 yX5_fits wsX5_fits) := goodIn_app (goodIn_of _ (by decide +kernel)) ggL_law_X5_fits
set_option maxRecDepth 20000 in
theorem ggL_law_X4_kinds : GoodIn wsL_law wsX4_kinds := goodIn_r _ [613, 17, 15, 215, 564, 565, 566, 2, 567, 69, 568, 569, 570, 571, 21, 572, 573, 574, 20, 575, 576, 577, 578, 579, 44, 156, 157, 158, 14, 159, 131, 74, 75, 76, 77, 27, 71, 72, 73, 417, 418, 419, 420, 304, 32, 33, 34, 421, 422, 423, 424, 35, 36, 37, 38, 39, 40, 581, 582, 583, 584, 585, 454, 300, 301, 302, 303, 305, 306, 178, 307, 308, 309, 310, 311, 312, 280, 174, 281, 263, 264, 265, 313, 314, 315, 316, 136, 137, 138, 317, 318, 319, 320, 321, 322, 177, 179, 164, 165, 166, 167, 168, 169, 170, 171, 172, 173, 175, 176, 323, 324, 325, 326, 327, 261, 262, 328, 329, 330, 331, 332, 586, 587, 588, 589, 46, 500, 1010, 1011, 1012, 1013, 1014, 1015, 1016, 1035, 1036, 1037, 1038, 1039, 1040, 1041, 1042, 1043, 1044, 1045, 1046, 1047, 1048, 1049] (by decide +kernel) (by decide +kernel)
set_option maxRecDepth 20000 in
theorem gL_law_X4_kinds : GoodIn wsL_law (wsV RL 112 RX4 yX4_kinds wsX4_kinds) := goodIn_app (goodIn_of _ (by decide +kernel)) ggL_law_X4_kinds
set_option maxRecDepth 20000 in
theorem ggL_law_X5_kinds : GoodIn wsL_law wsX5_kinds := goodIn_r _ [617, 56, 594, 595, 596, 5, 597, 83, 598, 599, 600, 601, 62, 602, 603, 604, 605, 188, 189, 190, 191, 91, 92, 93, 94, 60, 196, 197, 198, 199, 149, 150, 151, 606, 607, 608, 609, 59, 63, 64, 434, 435, 436, 200, 201, 202, 203, 348, 349, 350, 351, 352, 353, 354, 355, 286, 287, 288, 289, 356, 357, 358, 359, 360, 361, 362, 363, 364, 342, 192, 193, 194, 195, 204, 205, 206, 365, 366, 367, 368, 270, 271, 272, 273, 1017, 1018, 1019, 1020, 1021, 1022, 1023, 1024, 1025, 1026, 1027, 1028, 1029, 1030, 1031, 1032, 1033, 1034] (by decide +kernel) (by decide +kernel)
set_option maxRecDepth 20000 in
theorem gL_law_X5_kinds : GoodIn wsL_law (wsV RL 115 RX5 yX5_kinds wsX5_kinds) := goodIn_app (goodIn_of _ (by decide +kernel)) ggL_law_X5_kinds
set_option maxRecDepth 20000 in
theorem ggL_law_X4_talk : GoodIn wsL_law wsX4_talk := goodIn_r _ [621, 69, 15, 278, 223, 294, 99, 71, 72, 2, 73, 74, 75, 76, 77, 27, 622, 623, 624, 14, 625, 33, 626, 100, 101, 102, 454, 300, 301, 302, 131, 303, 304, 305, 306, 178, 307, 308, 309, 310, 311, 35, 34, 312, 280, 174, 281, 263, 264, 265, 313, 314, 315, 316, 39, 136, 137, 138, 317, 318, 319, 320, 321, 36, 37, 322, 177, 179, 38, 164, 165, 166, 167, 32, 168, 169, 170, 171, 172, 173, 175, 176, 323, 324, 325, 326, 327, 261, 262, 328, 329, 330, 331, 332, 157, 158, 159, 333, 334, 335, 336, 1010, 1011, 1012, 1013, 1014, 1015, 1016, 1035, 1036, 1037, 1038, 1039, 1040, 1041, 1042, 1043, 1044, 1045, 1046] (by decide +kernel) (by decide +kernel)
set_option maxRecDepth 20000 in
theorem gL_law_X4_talk : GoodIn wsL_law (wsV RL 116 RX4 yX4_talk wsX4_talk) := goodIn_app (goodIn_of _ (by decide +kernel)) ggL_law_X4_talk
set_option maxRecDepth 20000 in
theorem ggL_law_X5_talk : GoodIn wsL_law wsX5_talk := goodIn_r _ [630, 107, 83, 56, 342, 343, 84, 85, 5, 86, 91, 92, 93, 94, 60, 631, 632, 633, 634, 635, 348, 349, 350, 351, 352, 353, 354, 355, 196, 197, 198, 199, 286, 287, 288, 289, 149, 150, 151, 356, 357, 358, 359, 360, 361, 362, 363, 364, 192, 193, 194, 195, 200, 201, 202, 203, 204, 205, 206, 365, 366, 367, 368, 270, 271, 272, 273, 369, 370, 371, 372, 1017, 1018, 1019, 1020, 1021, 1022, 1023, 1024, 1025, 1026, 1027, 1028, 1029, 1030, 1031, 1032, 1033, 1034] (by decide +kernel) (by decide +kernel)
set_option maxRecDepth 20000 in
theorem gL_law_X5_talk : GoodIn wsL_law (wsV RL 119 RX5 yX5_talk wsX5_talk) := goodIn_app (goodIn_of _ (by decide +kernel)) ggL_law_X5_talk
set_option maxRecDepth 20000 in
theorem ggL_law_X4_odds : GoodIn wsL_law wsX4_odds := goodIn_r _ [639, 15, 69, 215, 70, 156, 157, 158, 14, 159, 131, 71, 72, 2, 73, 74, 75, 76, 77, 27, 260, 261, 174, 262, 263, 264, 265, 640, 641, 642, 643, 644, 645, 1010, 1011, 1012, 1013, 1014, 1015, 1016, 1035, 1036, 1037, 1038, 1039, 1040, 1041, 1042, 1043, 1044, 1045, 1046] (by decide +kernel) (by decide +kernel)
set_option maxRecDepth 20000 in
theorem gL_law_X4_odds : GoodIn wsL_law (wsV RL 120 RX4 yX4_odds wsX4_odds) := goodIn_app (goodIn_of _ (by decide +kernel)) ggL_law_X4_odds
set_option maxRecDepth 20000 in
theorem ggL_law_X5_odds : GoodIn wsL_law wsX5_odds := goodIn_r _ [649, 650, 83, 143, 188, 189, 190, 5, 191, 56, 84, 85, 86, 91, 92, 93, 94, 60, 196, 197, 198, 199, 270, 271, 272, 273, 1017, 1018, 1019, 1020, 1021, 1022, 1023, 1024, 1025, 1026, 1027, 1028, 1029, 1030, 1031, 1032, 1033, 1034] (by decide +kernel) (by decide +kernel)
set_option maxRecDepth 20000 in
theorem gL_law_X5_odds : GoodIn wsL_law (wsV RL 124 RX5 yX5_odds wsX5_odds) := goodIn_app (goodIn_of _ (by decide +kernel)) ggL_law_X5_odds
set_option maxRecDepth 20000 in
theorem ggL_law_X4_seed : GoodIn wsL_law wsX4_seed := goodIn_r _ [654, 15, 655, 1010, 1011, 1012, 1013, 1014, 1015, 1016, 1035, 1036, 1037, 1038, 1039, 1040, 1041, 1042, 1043, 1044, 1045, 1046] (by decide +kernel) (by decide +kernel)
set_option maxRecDepth 20000 in
theorem gL_law_X4_seed : GoodIn wsL_law (wsV RL 125 RX4 yX4_seed wsX4_seed) := goodIn_app (goodIn_of _ (by decide +kernel)) ggL_law_X4_seed
set_option maxRecDepth 20000 in
theorem ggL_law_X5_seed : GoodIn wsL_law wsX5_seed := goodIn_r _ [659, 87, 88, 89, 5, 90, 56, 1017, 1018, 1019, 1020, 1021, 1022, 1023, 1024, 1025, 1026, 1027, 1028, 1029, 1030, 1031, 1032, 1033, 1034] (by decide +kernel) (by decide +kernel)
set_option maxRecDepth 20000 in
theorem gL_law_X5_seed : GoodIn wsL_law (wsV RL 128 RX5 yX5_seed wsX5_seed) := goodIn_app (goodIn_of _ (by decide +kernel)) ggL_law_X5_seed
set_option maxRecDepth 20000 in
theorem ggL_law_X4_feed : GoodIn wsL_law wsX4_feed := goodIn_r _ [663, 69, 25, 664, 123, 71, 72, 2, 73, 74, 75, 76, 77, 27, 665, 666, 667, 24, 668, 669, 51, 1010, 1011, 1012, 1013, 1014, 1015, 1016, 1050, 1051, 1052, 1053, 1054, 1055] (by decide +kernel) (by decide +kernel)
set_option maxRecDepth 20000 in
theorem gL_law_X4_feed : GoodIn wsL_law (wsV RL 129 RX4 yX4_feed wsX4_feed) := goodIn_app (goodIn_of _ (by decide +kernel)) ggL_law_X4_feed
set_option maxRecDepth 20000 in
theorem ggL_law_X5_feed : GoodIn wsL_law wsX5_feed := goodIn_r _ [673, 674, 83, 675, 144, 61, 84, 85, 5, 86, 91, 92, 93, 94, 60, 1017, 1018, 1019, 1020, 1021, 1022, 1023, 1024, 1025, 1026, 1027, 1028, 1029, 1030, 1031, 1032, 1033, 1034] (by decide +kernel) (by decide +kernel)
set_option maxRecDepth 20000 in
theorem gL_law_X5_feed : GoodIn wsL_law (wsV RL 132 RX5 yX5_feed wsX5_feed) := goodIn_app (goodIn_of _ (by decide +kernel)) ggL_law_X5_feed
set_option maxRecDepth 20000 in
theorem ggL_law_X4_wipe : GoodIn wsL_law wsX4_wipe := goodIn_r _ [679, 25, 664, 1010, 1011, 1012, 1013, 1014, 1015, 1016, 1050, 1051, 1052, 1053, 1054, 1055] (by decide +kernel) (by decide +kernel)
set_option maxRecDepth 20000 in
theorem gL_law_X4_wipe : GoodIn wsL_law (wsV RL 133 RX4 yX4_wipe wsX4_wipe) := goodIn_app (goodIn_of _ (by decide +kernel)) ggL_law_X4_wipe
set_option maxRecDepth 20000 in
theorem ggL_law_X5_wipe : GoodIn wsL_law wsX5_wipe := goodIn_r _ [683, 675, 1017, 1018, 1019, 1020, 1021, 1022, 1023, 1024, 1025, 1026, 1027, 1028, 1029, 1030, 1031, 1032, 1033, 1034] (by decide +kernel) (by decide +kernel)
set_option maxRecDepth 20000 in
theorem gL_law_X5_wipe : GoodIn wsL_law (wsV RL 137 RX5 yX5_wipe wsX5_wipe) := goodIn_app (goodIn_of _ (by decide +kernel)) ggL_law_X5_wipe
set_option maxRecDepth 20000 in
theorem ggL_law_X4_text : GoodIn wsL_law wsX4_text := goodIn_r _ [687, 17, 15, 25, 664, 417, 418, 419, 14, 420, 304, 32, 33, 131, 34, 421, 422, 423, 424, 35, 36, 37, 38, 39, 40, 688, 689, 690, 24, 691, 692, 693, 694, 695, 696, 697, 698, 669, 51, 699, 700, 306, 178, 307, 701, 702, 703, 704, 705, 706, 707, 708, 709, 710, 711, 712, 713, 714, 715, 716, 717, 718, 719, 720, 721, 722, 723, 724, 725, 726, 727, 728, 729, 730, 731, 732, 733, 734, 735, 736, 737, 738, 739, 740, 741, 742, 743, 744, 745, 746, 747, 748, 749, 750, 751, 752, 753, 754, 755, 756, 757, 758, 759, 760, 761, 762, 763, 764, 765, 766, 767, 768, 769, 770, 771, 772, 773, 774, 775, 776, 777, 778, 779, 780, 781, 782, 128, 129, 130, 783, 133, 134, 135, 136, 137, 138, 784, 785, 786, 787, 788, 789, 790, 791, 792, 793, 794, 795, 1010, 1011, 1012, 1013, 1014, 1015, 1016, 1050, 1051, 1052, 1053, 1054, 1055, 1035, 1036, 1037, 1038, 1039, 1040, 1041, 1042, 1043, 1044, 1045, 1046] (by decide +kernel) (by decide +kernel)
set_option maxRecDepth 20000 in
theorem gL_law_X4_text : GoodIn wsL_law (wsV RL 138 RX4 yX4_text wsX4_text) := goodIn_app (goodIn_of _ (by decide +kernel)) ggL_law_X4_text
set_option maxRecDepth 20000 in
theorem ggL_law_X5_text : GoodIn wsL_law wsX5_text := goodIn_r _ [799, 56, 58, 800, 801, 675, 802, 434, 435, 5, 436, 803, 804, 805, 806, 807, 808, 809, 810, 811, 812, 61, 813, 814, 815, 816, 817, 818, 819, 820, 821, 822, 823, 824, 825, 826, 827, 828, 829, 830, 831, 832, 833, 834, 835, 836, 837, 838, 839, 840, 841, 842, 843, 844, 845, 846, 847, 848, 849, 850, 851, 852, 853, 854, 145, 146, 147, 148, 149, 150, 151, 855, 856, 857, 858, 859, 860, 861, 862, 84, 85, 86, 863, 864, 865, 866, 867, 868, 869, 870, 1017, 1018, 1019, 1020, 1021, 1022, 1023, 1024, 1025, 1026, 1027, 1028, 1029, 1030, 1031, 1032, 1033, 1034] (by decide +kernel) (by decide +kernel)
set_option maxRecDepth 20000 in
theorem gL_law_X5_text : GoodIn wsL_law (wsV RL 141 RX5 yX5_text wsX5_text) := goodIn_app (goodIn_of _ (by decide +kernel)) ggL_law_X5_text
set_option maxRecDepth 20000 in
theorem ggL_law_X4_hold : GoodIn wsL_law wsX4_hold := goodIn_r _ [874, 15, 69, 875, 156, 157, 158, 14, 159, 131, 71, 72, 2, 73, 74, 75, 76, 77, 27, 1010, 1011, 1012, 1013, 1014, 1015, 1016, 1035, 1036, 1037, 1038, 1039, 1040, 1041, 1042, 1043, 1044, 1045, 1046] (by decide +kernel) (by decide +kernel)
set_option maxRecDepth 20000 in
theorem gL_law_X4_hold : GoodIn wsL_law (wsV RL 142 RX4 yX4_hold wsX4_hold) := goodIn_app (goodIn_of _ (by decide +kernel)) ggL_law_X4_hold
set_option maxRecDepth 20000 in
theorem ggL_law_X5_hold : GoodIn wsL_law wsX5_hold := goodIn_r _ [879, 82, 83, 56, 84, 85, 5, 86, 188, 189, 190, 191, 91, 92, 93, 94, 60, 1017, 1018, 1019, 1020, 1021, 1022, 1023, 1024, 1025, 1026, 1027, 1028, 1029, 1030, 1031, 1032, 1033, 1034] (by decide +kernel) (by decide +kernel)
set_option maxRecDepth 20000 in
theorem gL_law_X5_hold : GoodIn wsL_law (wsV RL 145 RX5 yX5_hold wsX5_hold) := goodIn_app (goodIn_of _ (by decide +kernel)) ggL_law_X5_hold
set_option maxRecDepth 20000 in
theorem ggL_law_X4_as : GoodIn wsL_law wsX4_as := goodIn_r _ [883, 69, 15, 875, 572, 215, 884, 71, 72, 2, 73, 124, 125, 126, 74, 75, 76, 77, 27, 156, 157, 158, 14, 159, 131, 885, 886, 174, 887, 888, 889, 890, 1010, 1011, 1012, 1013, 1014, 1015, 1016, 1035, 1036, 1037, 1038, 1039, 1040, 1041, 1042, 1043, 1044, 1045, 1046] (by decide +kernel) (by decide +kernel)
set_option maxRecDepth 20000 in
theorem gL_law_X4_as : GoodIn wsL_law (wsV RL 146 RX4 yX4_as wsX4_as) := goodIn_app (goodIn_of _ (by decide +kernel)) ggL_law_X4_as
set_option maxRecDepth 20000 in
theorem ggL_law_X5_as : GoodIn wsL_law wsX5_as := goodIn_r _ [894, 82, 143, 83, 56, 602, 895, 84, 85, 5, 86, 91, 92, 93, 94, 60, 196, 197, 198, 199, 896, 897, 898, 1017, 1018, 1019, 1020, 1021, 1022, 1023, 1024, 1025, 1026, 1027, 1028, 1029, 1030, 1031, 1032, 1033, 1034] (by decide +kernel) (by decide +kernel)
set_option maxRecDepth 20000 in
theorem gL_law_X5_as : GoodIn wsL_law (wsV RL 149 RX5 yX5_as wsX5_as) := goodIn_app (goodIn_of _ (by decide +kernel)) ggL_law_X5_as
set_option maxRecDepth 20000 in
theorem ggL_law_X4_sheet : GoodIn wsL_law wsX4_sheet := goodIn_r _ [902, 69, 903, 21, 585, 573, 574, 20, 575, 74, 75, 76, 2, 77, 27, 71, 72, 73, 904, 905, 906, 907, 44, 45, 46, 1010, 1011, 1012, 1013, 1014, 1015, 1016, 1047, 1048, 1049] (by decide +kernel) (by decide +kernel)
set_option maxRecDepth 20000 in
theorem gL_law_X4_sheet : GoodIn wsL_law (wsV RL 150 RX4 yX4_sheet wsX4_sheet) := goodIn_app (goodIn_of _ (by decide +kernel)) ggL_law_X4_sheet
set_option maxRecDepth 20000 in
theorem ggL_law_X5_sheet : GoodIn wsL_law wsX5_sheet := goodIn_r _ [911, 83, 912, 62, 63, 64, 603, 604, 5, 605, 91, 92, 93, 94, 60, 1017, 1018, 1019, 1020, 1021, 1022, 1023, 1024, 1025, 1026, 1027, 1028, 1029, 1030, 1031, 1032, 1033, 1034] (by decide +kernel) (by decide +kernel)
set_option maxRecDepth 20000 in
theorem gL_law_X5_sheet : GoodIn wsL_law (wsV RL 153 RX5 yX5_sheet wsX5_sheet) := goodIn_app (goodIn_of _ (by decide +kernel)) ggL_law_X5_sheet
set_option maxRecDepth 20000 in
theorem ggL_law_X4_write : GoodIn wsL_law wsX4_write := goodIn_r _ [916, 21, 585, 69, 568, 569, 570, 2, 571, 572, 573, 574, 20, 575, 576, 577, 578, 579, 44, 74, 75, 76, 77, 27, 71, 72, 73, 917, 918, 919, 920, 46, 921, 922, 923, 1010, 1011, 1012, 1013, 1014, 1015, 1016, 1047, 1048, 1049] (by decide +kernel) (by decide +kernel)
set_option maxRecDepth 20000 in
theorem gL_law_X4_write : GoodIn wsL_law (wsV RL 154 RX4 yX4_write wsX4_write) := goodIn_app (goodIn_of _ (by decide +kernel)) ggL_law_X4_write
set_option maxRecDepth 20000 in
theorem ggL_law_X5_write : GoodIn wsL_law wsX5_write := goodIn_r _ [927, 83, 62, 602, 63, 64, 603, 604, 5, 605, 91, 92, 93, 94, 60, 84, 85, 86, 1017, 1018, 1019, 1020, 1021, 1022, 1023, 1024, 1025, 1026, 1027, 1028, 1029, 1030, 1031, 1032, 1033, 1034] (by decide +kernel) (by decide +kernel)
set_option maxRecDepth 20000 in
theorem gL_law_X5_write : GoodIn wsL_law (wsV RL 157 RX5 yX5_write wsX5_write) := goodIn_app (goodIn_of _ (by decide +kernel)) ggL_law_X5_write
set_option maxRecDepth 20000 in
theorem ggL_law_X4_copy : GoodIn wsL_law wsX4_copy := goodIn_r _ [931, 69, 21, 572, 932, 884, 573, 574, 20, 575, 74, 75, 76, 2, 77, 27, 71, 72, 73, 576, 577, 578, 579, 44, 933, 934, 935, 936, 45, 937, 938, 939, 940, 46, 941, 422, 423, 424, 1010, 1011, 1012, 1013, 1014, 1015, 1016, 1047, 1048, 1049] (by decide +kernel) (by decide +kernel)
set_option maxRecDepth 20000 in
theorem gL_law_X4_copy : GoodIn wsL_law (wsV RL 158 RX4 yX4_copy wsX4_copy) := goodIn_app (goodIn_of _ (by decide +kernel)) ggL_law_X4_copy
set_option maxRecDepth 20000 in
theorem ggL_law_X5_copy : GoodIn wsL_law wsX5_copy := goodIn_r _ [945, 83, 62, 602, 895, 63, 64, 603, 604, 5, 605, 91, 92, 93, 94, 60, 1017, 1018, 1019, 1020, 1021, 1022, 1023, 1024, 1025, 1026, 1027, 1028, 1029, 1030, 1031, 1032, 1033, 1034] (by decide +kernel) (by decide +kernel)
set_option maxRecDepth 20000 in
theorem gL_law_X5_copy : GoodIn wsL_law (wsV RL 162 RX5 yX5_copy wsX5_copy) := goodIn_app (goodIn_of _ (by decide +kernel)) ggL_law_X5_copy
set_option maxRecDepth 20000 in
theorem ggL_law_X4_load : GoodIn wsL_law wsX4_load := goodIn_r _ [949, 21, 585, 950, 306, 178, 307, 15, 99, 568, 569, 570, 2, 571, 69, 572, 573, 574, 20, 575, 576, 577, 578, 579, 44, 74, 75, 76, 77, 27, 71, 72, 73, 586, 587, 588, 589, 46, 1010, 1011, 1012, 1013, 1014, 1015, 1016, 1047, 1048, 1049, 1035, 1036, 1037, 1038, 1039, 1040, 1041, 1042, 1043, 1044, 1045, 1046] (by decide +kernel) (by decide +kernel)
set_option maxRecDepth 20000 in
theorem gL_law_X4_load : GoodIn wsL_law (wsV RL 163 RX4 yX4_load wsX4_load) := goodIn_app (goodIn_of _ (by decide +kernel)) ggL_law_X4_load
set_option maxRecDepth 20000 in
theorem ggL_law_X5_load : GoodIn wsL_law wsX5_load := goodIn_r _ [954, 63, 64, 107, 56, 598, 599, 600, 5, 601, 83, 62, 602, 603, 604, 605, 91, 92, 93, 94, 60, 84, 85, 86, 1017, 1018, 1019, 1020, 1021, 1022, 1023, 1024, 1025, 1026, 1027, 1028, 1029, 1030, 1031, 1032, 1033, 1034] (by decide +kernel) (by decide +kernel)
set_option maxRecDepth 20000 in
theorem gL_law_X5_load : GoodIn wsL_law (wsV RL 166 RX5 yX5_load wsX5_load) := goodIn_app (goodIn_of _ (by decide +kernel)) ggL_law_X5_load
set_option maxRecDepth 20000 in
theorem ggL_law_X4_judge : GoodIn wsL_law wsX4_judge := goodIn_r _ [958, 21, 585, 15, 568, 569, 570, 2, 571, 69, 572, 573, 574, 20, 575, 576, 577, 578, 579, 44, 74, 75, 76, 77, 27, 71, 72, 73, 156, 157, 158, 14, 159, 131, 500, 169, 170, 171, 39, 136, 137, 138, 586, 587, 588, 589, 46, 1010, 1011, 1012, 1013, 1014, 1015, 1016, 1047, 1048, 1049, 1035, 1036, 1037, 1038, 1039, 1040, 1041, 1042, 1043, 1044, 1045, 1046] (by decide +kernel) (by decide +kernel)
set_option maxRecDepth 20000 in
theorem gL_law_X4_judge : GoodIn wsL_law (wsV RL 167 RX4 yX4_judge wsX4_judge) := goodIn_app (goodIn_of _ (by decide +kernel)) ggL_law_X4_judge
set_option maxRecDepth 20000 in
theorem ggL_law_X5_judge : GoodIn wsL_law wsX5_judge := goodIn_r _ [962, 63, 64, 598, 599, 600, 5, 601, 83, 62, 602, 603, 604, 605, 91, 92, 93, 94, 60, 188, 189, 190, 191, 56, 200, 201, 202, 203, 196, 197, 198, 199, 1017, 1018, 1019, 1020, 1021, 1022, 1023, 1024, 1025, 1026, 1027, 1028, 1029, 1030, 1031, 1032, 1033, 1034] (by decide +kernel) (by decide +kernel)
set_option maxRecDepth 20000 in
theorem gL_law_X5_judge : GoodIn wsL_law (wsV RL 170 RX5 yX5_judge wsX5_judge) := goodIn_app (goodIn_of _ (by decide +kernel)) ggL_law_X5_judge
set_option maxRecDepth 20000 in
theorem ggL_law_X4_image : GoodIn wsL_law wsX4_image := goodIn_r _ [966, 16, 15, 967, 417, 418, 419, 14, 420, 304, 32, 33, 131, 34, 421, 422, 423, 424, 35, 36, 37, 38, 39, 40, 1010, 1011, 1012, 1013, 1014, 1015, 1016, 1035, 1036, 1037, 1038, 1039, 1040, 1041, 1042, 1043, 1044, 1045, 1046] (by decide +kernel) (by decide +kernel)
set_option maxRecDepth 20000 in
theorem gL_law_X4_image : GoodIn wsL_law (wsV RL 171 RX4 yX4_image wsX4_image) := goodIn_app (goodIn_of _ (by decide +kernel)) ggL_law_X4_image
set_option maxRecDepth 20000 in
theorem ggL_law_X5_image : GoodIn wsL_law wsX5_image := goodIn_r _ [971, 56, 57, 972, 434, 435, 5, 436, 1017, 1018, 1019, 1020, 1021, 1022, 1023, 1024, 1025, 1026, 1027, 1028, 1029, 1030, 1031, 1032, 1033, 1034] (by decide +kernel) (by decide +kernel)
set_option maxRecDepth 20000 in
theorem gL_law_X5_image : GoodIn wsL_law (wsV RL 174 RX5 yX5_image wsX5_image) := goodIn_app (goodIn_of _ (by decide +kernel)) ggL_law_X5_image
set_option maxRecDepth 20000 in
theorem ggL_law_X4_undo : GoodIn wsL_law wsX4_undo := goodIn_r _ [976, 967, 453, 15, 16, 278, 74, 75, 76, 2, 77, 69, 27, 71, 72, 73, 417, 418, 419, 14, 420, 304, 32, 33, 131, 34, 421, 422, 423, 424, 35, 36, 37, 38, 39, 40, 1010, 1011, 1012, 1013, 1014, 1015, 1016, 1035, 1036, 1037, 1038, 1039, 1040, 1041, 1042, 1043, 1044, 1045, 1046] (by decide +kernel) (by decide +kernel)
set_option maxRecDepth 20000 in
theorem gL_law_X4_undo : GoodIn wsL_law (wsV RL 175 RX4 yX4_undo wsX4_undo) := goodIn_app (goodIn_of _ (by decide +kernel)) ggL_law_X4_undo
set_option maxRecDepth 20000 in
theorem ggL_law_X5_undo : GoodIn wsL_law wsX5_undo := goodIn_r _ [980, 972, 459, 57, 56, 91, 92, 93, 5, 94, 60, 83, 434, 435, 436, 1017, 1018, 1019, 1020, 1021, 1022, 1023, 1024, 1025, 1026, 1027, 1028, 1029, 1030, 1031, 1032, 1033, 1034] (by decide +kernel) (by decide +kernel)
set_option maxRecDepth 20000 in
theorem gL_law_X5_undo : GoodIn wsL_law (wsV RL 178 RX5 yX5_undo wsX5_undo) := goodIn_app (goodIn_of _ (by decide +kernel)) ggL_law_X5_undo
set_option maxRecDepth 20000 in
theorem ggL_law_X4_tear : GoodIn wsL_law wsX4_tear := goodIn_r _ [984, 967, 1010, 1011, 1012, 1013, 1014, 1015, 1016] (by decide +kernel) (by decide +kernel)
set_option maxRecDepth 20000 in
theorem gL_law_X4_tear : GoodIn wsL_law (wsV RL 179 RX4 yX4_tear wsX4_tear) := goodIn_app (goodIn_of _ (by decide +kernel)) ggL_law_X4_tear
set_option maxRecDepth 20000 in
theorem ggL_law_X5_tear : GoodIn wsL_law wsX5_tear := goodIn_r _ [988, 972, 1017, 1018, 1019, 1020, 1021, 1022, 1023, 1024, 1025, 1026, 1027, 1028, 1029, 1030, 1031, 1032, 1033, 1034] (by decide +kernel) (by decide +kernel)
set_option maxRecDepth 20000 in
theorem gL_law_X5_tear : GoodIn wsL_law (wsV RL 182 RX5 yX5_tear wsX5_tear) := goodIn_app (goodIn_of _ (by decide +kernel)) ggL_law_X5_tear
set_option maxRecDepth 20000 in
theorem ggL_law_X4_count : GoodIn wsL_law wsX4_count := goodIn_r _ [992, 15, 278, 482, 218, 217, 25, 664, 655, 69, 333, 334, 335, 14, 336, 131, 168, 169, 170, 171, 39, 136, 137, 138, 381, 382, 383, 384, 993, 994, 995, 996, 40, 74, 75, 76, 2, 77, 27, 71, 72, 73, 1010, 1011, 1012, 1013, 1014, 1015, 1016, 1035, 1036, 1037, 1038, 1039, 1040, 1041, 1042, 1043, 1044, 1045, 1046, 1050, 1051, 1052, 1053, 1054, 1055] (by decide +kernel) (by decide +kernel)
set_option maxRecDepth 20000 in
theorem gL_law_X4_count : GoodIn wsL_law (wsV RL 183 RX4 yX4_count wsX4_count) := goodIn_app (goodIn_of _ (by decide +kernel)) ggL_law_X4_count
set_option maxRecDepth 20000 in
theorem ggL_law_X5_count : GoodIn wsL_law wsX5_count := goodIn_r _ [1000, 56, 675, 83, 369, 370, 371, 5, 372, 200, 201, 202, 203, 196, 197, 198, 199, 401, 402, 403, 404, 91, 92, 93, 94, 60, 1017, 1018, 1019, 1020, 1021, 1022, 1023, 1024, 1025, 1026, 1027, 1028, 1029, 1030, 1031, 1032, 1033, 1034] (by decide +kernel) (by decide +kernel)
set_option maxRecDepth 20000 in
theorem gL_law_X5_count : GoodIn wsL_law (wsV RL 186 RX5 yX5_count wsX5_count) := goodIn_app (goodIn_of _ (by decide +kernel)) ggL_law_X5_count
set_option maxRecDepth 20000 in
theorem ggL_law_X4_status : GoodIn wsL_law wsX4_status := goodIn_r _ [1004, 69, 27, 71, 72, 2, 73, 74, 75, 76, 77, 1010, 1011, 1012, 1013, 1014, 1015, 1016] (by decide +kernel) (by decide +kernel)
set_option maxRecDepth 20000 in
theorem gL_law_X4_status : GoodIn wsL_law (wsV RL 187 RX4 yX4_status wsX4_status) := goodIn_app (goodIn_of _ (by decide +kernel)) ggL_law_X4_status
set_option maxRecDepth 20000 in
theorem ggL_law_X5_status : GoodIn wsL_law wsX5_status := goodIn_r _ [1008, 1009, 143, 60, 83, 84, 85, 5, 86, 91, 92, 93, 94, 1017, 1018, 1019, 1020, 1021, 1022, 1023, 1024, 1025, 1026, 1027, 1028, 1029, 1030, 1031, 1032, 1033, 1034] (by decide +kernel) (by decide +kernel)
set_option maxRecDepth 20000 in
theorem gL_law_X5_status : GoodIn wsL_law (wsV RL 190 RX5 yX5_status wsX5_status) := goodIn_app (goodIn_of _ (by decide +kernel)) ggL_law_X5_status
