set_option maxRecDepth 20000 in
theorem ggX0_isUnder_X0_parent : GoodIn wsX0_isUnder wsX0_parent := goodIn_r _ [4] (by decide +kernel) (by decide +kernel)
set_option maxRecDepth 20000 in
theorem gX0_isUnder_X0_parent : GoodIn wsX0_isUnder (va_wsS RX0 9 yX0_parent wsX0_parent) := goodIn_app (goodIn_of _ (by decide +kernel)) ggX0_isUnder_X0_parent
theorem dX0_isUnder_0 : decode cX0_isUnder 0 = .ok (.iload_n 0, 1) := by decide +kernel
theorem dX0_isUnder_1 : decode cX0_isUnder 1 = .ok (.istore_n 2, 1) := by decide +kernel
theorem dX0_isUnder_2 : decode cX0_isUnder 2 = .ok (.iconst 0, 1) := by decide +kernel
theorem dX0_isUnder_3 : decode cX0_isUnder 3 = .ok (.istore_n 3, 1) := by decide +kernel
theorem dX0_isUnder_4 : decode cX0_isUnder 4 = .ok (.iload_n 3, 1) := by decide +kernel
theorem dX0_isUnder_5 : decode cX0_isUnder 5 = .ok (.bipush 7, 2) := by decide +kernel
theorem dX0_isUnder_7 : decode cX0_isUnder 7 = .ok (.if_icmp .ge 21, 3) := by decide +kernel
theorem dX0_isUnder_10 : decode cX0_isUnder 10 = .ok (.iload_n 2, 1) := by decide +kernel
theorem dX0_isUnder_11 : decode cX0_isUnder 11 = .ok (.iload_n 1, 1) := by decide +kernel
theorem dX0_isUnder_12 : decode cX0_isUnder 12 = .ok (.if_icmp .ne 5, 3) := by decide +kernel
theorem dX0_isUnder_15 : decode cX0_isUnder 15 = .ok (.iconst 1, 1) := by decide +kernel
theorem dX0_isUnder_16 : decode cX0_isUnder 16 = .ok (.ireturn, 1) := by decide +kernel
theorem dX0_isUnder_17 : decode cX0_isUnder 17 = .ok (.iload_n 2, 1) := by decide +kernel
theorem dX0_isUnder_18 : decode cX0_isUnder 18 = .ok (.invokestatic 9, 3) := by decide +kernel
theorem dX0_isUnder_21 : decode cX0_isUnder 21 = .ok (.istore_n 2, 1) := by decide +kernel
theorem dX0_isUnder_22 : decode cX0_isUnder 22 = .ok (.iinc 3 1, 3) := by decide +kernel
theorem dX0_isUnder_25 : decode cX0_isUnder 25 = .ok (.goto (-21), 3) := by decide +kernel
theorem dX0_isUnder_28 : decode cX0_isUnder 28 = .ok (.iconst 0, 1) := by decide +kernel
theorem dX0_isUnder_29 : decode cX0_isUnder 29 = .ok (.ireturn, 1) := by decide +kernel
theorem dX0_parent_0 : decode cX0_parent 0 = .ok (.iload_n 0, 1) := by decide +kernel
theorem dX0_parent_1 : decode cX0_parent 1 = .ok (.tableswitch 37 3 6 #[31, 33, 37, 35], 31) := by decide +kernel
theorem dX0_parent_32 : decode cX0_parent 32 = .ok (.iconst 2, 1) := by decide +kernel
theorem dX0_parent_33 : decode cX0_parent 33 = .ok (.ireturn, 1) := by decide +kernel
theorem dX0_parent_34 : decode cX0_parent 34 = .ok (.iconst 3, 1) := by decide +kernel
theorem dX0_parent_35 : decode cX0_parent 35 = .ok (.ireturn, 1) := by decide +kernel
theorem dX0_parent_36 : decode cX0_parent 36 = .ok (.iconst 1, 1) := by decide +kernel
theorem dX0_parent_37 : decode cX0_parent 37 = .ok (.ireturn, 1) := by decide +kernel
theorem dX0_parent_38 : decode cX0_parent 38 = .ok (.iconst 0, 1) := by decide +kernel
theorem dX0_parent_39 : decode cX0_parent 39 = .ok (.ireturn, 1) := by decide +kernel
theorem dX0_isLegal_0 : decode cX0_isLegal 0 = .ok (.iload_n 0, 1) := by decide +kernel
theorem dX0_isLegal_1 : decode cX0_isLegal 1 = .ok (.iconst 1, 1) := by decide +kernel
theorem dX0_isLegal_2 : decode cX0_isLegal 2 = .ok (.if_icmp .eq 9, 3) := by decide +kernel
theorem dX0_isLegal_5 : decode cX0_isLegal 5 = .ok (.iload_n 0, 1) := by decide +kernel
theorem dX0_isLegal_6 : decode cX0_isLegal 6 = .ok (.bipush 6, 2) := by decide +kernel
theorem dX0_isLegal_8 : decode cX0_isLegal 8 = .ok (.if_icmp .ne 7, 3) := by decide +kernel
theorem dX0_isLegal_11 : decode cX0_isLegal 11 = .ok (.iconst 1, 1) := by decide +kernel
theorem dX0_isLegal_12 : decode cX0_isLegal 12 = .ok (.goto 4, 3) := by decide +kernel
theorem dX0_isLegal_15 : decode cX0_isLegal 15 = .ok (.iconst 0, 1) := by decide +kernel
theorem dX0_isLegal_16 : decode cX0_isLegal 16 = .ok (.ireturn, 1) := by decide +kernel
set_option maxRecDepth 20000 in
theorem ggX0_bites_X0_isLegal : GoodIn wsX0_bites wsX0_isLegal := goodIn_r _ [4] (by decide +kernel) (by decide +kernel)
set_option maxRecDepth 20000 in
theorem gX0_bites_X0_isLegal : GoodIn wsX0_bites (va_wsS RX0 15 yX0_isLegal wsX0_isLegal) := goodIn_app (goodIn_of _ (by decide +kernel)) ggX0_bites_X0_isLegal
theorem dX0_bites_0 : decode cX0_bites 0 = .ok (.iload_n 0, 1) := by decide +kernel
theorem dX0_bites_1 : decode cX0_bites 1 = .ok (.iconst 4, 1) := by decide +kernel
theorem dX0_bites_2 : decode cX0_bites 2 = .ok (.if_icmp .ne 7, 3) := by decide +kernel
theorem dX0_bites_5 : decode cX0_bites 5 = .ok (.iconst 1, 1) := by decide +kernel
theorem dX0_bites_6 : decode cX0_bites 6 = .ok (.goto 4, 3) := by decide +kernel
theorem dX0_bites_9 : decode cX0_bites 9 = .ok (.iconst 0, 1) := by decide +kernel
theorem dX0_bites_10 : decode cX0_bites 10 = .ok (.istore_n 3, 1) := by decide +kernel
theorem dX0_bites_11 : decode cX0_bites 11 = .ok (.iload_n 1, 1) := by decide +kernel
theorem dX0_bites_12 : decode cX0_bites 12 = .ok (.tableswitch 106 0 4 #[36, 40, 64, 89, 93], 36) := by decide +kernel
theorem dX0_bites_48 : decode cX0_bites 48 = .ok (.iconst 1, 1) := by decide +kernel
theorem dX0_bites_49 : decode cX0_bites 49 = .ok (.iload_n 3, 1) := by decide +kernel
theorem dX0_bites_50 : decode cX0_bites 50 = .ok (.iadd, 1) := by decide +kernel
theorem dX0_bites_51 : decode cX0_bites 51 = .ok (.ireturn, 1) := by decide +kernel
theorem dX0_bites_52 : decode cX0_bites 52 = .ok (.iload_n 0, 1) := by decide +kernel
theorem dX0_bites_53 : decode cX0_bites 53 = .ok (.invokestatic 15, 3) := by decide +kernel
theorem dX0_bites_56 : decode cX0_bites 56 = .ok (.ifCond .eq 5, 3) := by decide +kernel
theorem dX0_bites_59 : decode cX0_bites 59 = .ok (.iconst 1, 1) := by decide +kernel
theorem dX0_bites_60 : decode cX0_bites 60 = .ok (.ireturn, 1) := by decide +kernel
theorem dX0_bites_61 : decode cX0_bites 61 = .ok (.iload_n 0, 1) := by decide +kernel
theorem dX0_bites_62 : decode cX0_bites 62 = .ok (.iconst 5, 1) := by decide +kernel
theorem dX0_bites_63 : decode cX0_bites 63 = .ok (.if_icmp .ne 7, 3) := by decide +kernel
theorem dX0_bites_66 : decode cX0_bites 66 = .ok (.iconst 3, 1) := by decide +kernel
theorem dX0_bites_67 : decode cX0_bites 67 = .ok (.goto 8, 3) := by decide +kernel
theorem dX0_bites_70 : decode cX0_bites 70 = .ok (.iconst 3, 1) := by decide +kernel
theorem dX0_bites_71 : decode cX0_bites 71 = .ok (.iload_n 2, 1) := by decide +kernel
theorem dX0_bites_72 : decode cX0_bites 72 = .ok (.iadd, 1) := by decide +kernel
theorem dX0_bites_73 : decode cX0_bites 73 = .ok (.iload_n 3, 1) := by decide +kernel
theorem dX0_bites_74 : decode cX0_bites 74 = .ok (.iadd, 1) := by decide +kernel
theorem dX0_bites_75 : decode cX0_bites 75 = .ok (.ireturn, 1) := by decide +kernel
theorem dX0_bites_76 : decode cX0_bites 76 = .ok (.iload_n 0, 1) := by decide +kernel
theorem dX0_bites_77 : decode cX0_bites 77 = .ok (.iconst 2, 1) := by decide +kernel
theorem dX0_bites_78 : decode cX0_bites 78 = .ok (.if_icmp .ne 5, 3) := by decide +kernel
theorem dX0_bites_81 : decode cX0_bites 81 = .ok (.iconst (-1), 1) := by decide +kernel
theorem dX0_bites_82 : decode cX0_bites 82 = .ok (.ireturn, 1) := by decide +kernel
theorem dX0_bites_83 : decode cX0_bites 83 = .ok (.iload_n 0, 1) := by decide +kernel
theorem dX0_bites_84 : decode cX0_bites 84 = .ok (.iconst 3, 1) := by decide +kernel
theorem dX0_bites_85 : decode cX0_bites 85 = .ok (.if_icmp .eq 8, 3) := by decide +kernel
theorem dX0_bites_88 : decode cX0_bites 88 = .ok (.iload_n 0, 1) := by decide +kernel
theorem dX0_bites_89 : decode cX0_bites 89 = .ok (.iconst 4, 1) := by decide +kernel
theorem dX0_bites_90 : decode cX0_bites 90 = .ok (.if_icmp .ne 9, 3) := by decide +kernel
theorem dX0_bites_93 : decode cX0_bites 93 = .ok (.iconst 2, 1) := by decide +kernel
theorem dX0_bites_94 : decode cX0_bites 94 = .ok (.iload_n 3, 1) := by decide +kernel
theorem dX0_bites_95 : decode cX0_bites 95 = .ok (.iadd, 1) := by decide +kernel
theorem dX0_bites_96 : decode cX0_bites 96 = .ok (.goto 4, 3) := by decide +kernel
theorem dX0_bites_99 : decode cX0_bites 99 = .ok (.iconst 5, 1) := by decide +kernel
theorem dX0_bites_100 : decode cX0_bites 100 = .ok (.ireturn, 1) := by decide +kernel
theorem dX0_bites_101 : decode cX0_bites 101 = .ok (.iconst 4, 1) := by decide +kernel
theorem dX0_bites_102 : decode cX0_bites 102 = .ok (.iload_n 3, 1) := by decide +kernel
theorem dX0_bites_103 : decode cX0_bites 103 = .ok (.iadd, 1) := by decide +kernel
theorem dX0_bites_104 : decode cX0_bites 104 = .ok (.ireturn, 1) := by decide +kernel
theorem dX0_bites_105 : decode cX0_bites 105 = .ok (.iload_n 0, 1) := by decide +kernel
theorem dX0_bites_106 : decode cX0_bites 106 = .ok (.bipush 6, 2) := by decide +kernel
theorem dX0_bites_108 : decode cX0_bites 108 = .ok (.if_icmp .ne 8, 3) := by decide +kernel
theorem dX0_bites_111 : decode cX0_bites 111 = .ok (.bipush 9, 2) := by decide +kernel
theorem dX0_bites_113 : decode cX0_bites 113 = .ok (.goto 4, 3) := by decide +kernel
theorem dX0_bites_116 : decode cX0_bites 116 = .ok (.iconst (-1), 1) := by decide +kernel
theorem dX0_bites_117 : decode cX0_bites 117 = .ok (.ireturn, 1) := by decide +kernel
theorem dX0_bites_118 : decode cX0_bites 118 = .ok (.iload_n 3, 1) := by decide +kernel
theorem dX0_bites_119 : decode cX0_bites 119 = .ok (.ireturn, 1) := by decide +kernel
theorem dX0_hunger_0 : decode cX0_hunger 0 = .ok (.bipush 12, 2) := by decide +kernel
theorem dX0_hunger_2 : decode cX0_hunger 2 = .ok (.istore 4, 2) := by decide +kernel
theorem dX0_hunger_4 : decode cX0_hunger 4 = .ok (.iload 4, 2) := by decide +kernel
theorem dX0_hunger_6 : decode cX0_hunger 6 = .ok (.iload_n 1, 1) := by decide +kernel
theorem dX0_hunger_7 : decode cX0_hunger 7 = .ok (.bipush 10, 2) := by decide +kernel
theorem dX0_hunger_9 : decode cX0_hunger 9 = .ok (.idiv, 1) := by decide +kernel
theorem dX0_hunger_10 : decode cX0_hunger 10 = .ok (.isub, 1) := by decide +kernel
theorem dX0_hunger_11 : decode cX0_hunger 11 = .ok (.istore 5, 2) := by decide +kernel
theorem dX0_hunger_13 : decode cX0_hunger 13 = .ok (.iload 4, 2) := by decide +kernel
theorem dX0_hunger_15 : decode cX0_hunger 15 = .ok (.iconst 2, 1) := by decide +kernel
theorem dX0_hunger_16 : decode cX0_hunger 16 = .ok (.idiv, 1) := by decide +kernel
theorem dX0_hunger_17 : decode cX0_hunger 17 = .ok (.iload_n 3, 1) := by decide +kernel
theorem dX0_hunger_18 : decode cX0_hunger 18 = .ok (.ifCond .eq 8, 3) := by decide +kernel
theorem dX0_hunger_21 : decode cX0_hunger 21 = .ok (.bipush 20, 2) := by decide +kernel
theorem dX0_hunger_23 : decode cX0_hunger 23 = .ok (.goto 4, 3) := by decide +kernel
theorem dX0_hunger_26 : decode cX0_hunger 26 = .ok (.iconst 0, 1) := by decide +kernel
theorem dX0_hunger_27 : decode cX0_hunger 27 = .ok (.iadd, 1) := by decide +kernel
theorem dX0_hunger_28 : decode cX0_hunger 28 = .ok (.istore 6, 2) := by decide +kernel
theorem dX0_hunger_30 : decode cX0_hunger 30 = .ok (.iload_n 0, 1) := by decide +kernel
theorem dX0_hunger_31 : decode cX0_hunger 31 = .ok (.tableswitch 67 1 6 #[37, 49, 54, 57, 62, 40], 37) := by decide +kernel
theorem dX0_hunger_68 : decode cX0_hunger 68 = .ok (.iload 5, 2) := by decide +kernel
theorem dX0_hunger_70 : decode cX0_hunger 70 = .ok (.ireturn, 1) := by decide +kernel
theorem dX0_hunger_71 : decode cX0_hunger 71 = .ok (.iconst 0, 1) := by decide +kernel
theorem dX0_hunger_72 : decode cX0_hunger 72 = .ok (.iload 5, 2) := by decide +kernel
theorem dX0_hunger_74 : decode cX0_hunger 74 = .ok (.iconst 3, 1) := by decide +kernel
theorem dX0_hunger_75 : decode cX0_hunger 75 = .ok (.isub, 1) := by decide +kernel
theorem dX0_hunger_76 : decode cX0_hunger 76 = .ok (.invokestatic 19, 3) := by decide +kernel
theorem dX0_hunger_79 : decode cX0_hunger 79 = .ok (.ireturn, 1) := by decide +kernel
theorem dX0_hunger_80 : decode cX0_hunger 80 = .ok (.iload 4, 2) := by decide +kernel
theorem dX0_hunger_82 : decode cX0_hunger 82 = .ok (.iconst 2, 1) := by decide +kernel
theorem dX0_hunger_83 : decode cX0_hunger 83 = .ok (.idiv, 1) := by decide +kernel
theorem dX0_hunger_84 : decode cX0_hunger 84 = .ok (.ireturn, 1) := by decide +kernel
theorem dX0_hunger_85 : decode cX0_hunger 85 = .ok (.iload 6, 2) := by decide +kernel
theorem dX0_hunger_87 : decode cX0_hunger 87 = .ok (.ireturn, 1) := by decide +kernel
theorem dX0_hunger_88 : decode cX0_hunger 88 = .ok (.iload 6, 2) := by decide +kernel
theorem dX0_hunger_90 : decode cX0_hunger 90 = .ok (.iconst 4, 1) := by decide +kernel
theorem dX0_hunger_91 : decode cX0_hunger 91 = .ok (.iadd, 1) := by decide +kernel
theorem dX0_hunger_92 : decode cX0_hunger 92 = .ok (.ireturn, 1) := by decide +kernel
theorem dX0_hunger_93 : decode cX0_hunger 93 = .ok (.iload 4, 2) := by decide +kernel
theorem dX0_hunger_95 : decode cX0_hunger 95 = .ok (.iload_n 2, 1) := by decide +kernel
theorem dX0_hunger_96 : decode cX0_hunger 96 = .ok (.iadd, 1) := by decide +kernel
theorem dX0_hunger_97 : decode cX0_hunger 97 = .ok (.ireturn, 1) := by decide +kernel
theorem dX0_hunger_98 : decode cX0_hunger 98 = .ok (.iload 4, 2) := by decide +kernel
theorem dX0_hunger_100 : decode cX0_hunger 100 = .ok (.ireturn, 1) := by decide +kernel
set_option maxRecDepth 20000 in
theorem ggX0_words_X0_isLegal : GoodIn wsX0_words wsX0_isLegal := goodIn_r _ [4] (by decide +kernel) (by decide +kernel)
set_option maxRecDepth 20000 in
theorem gX0_words_X0_isLegal : GoodIn wsX0_words (va_wsS RX0 15 yX0_isLegal wsX0_isLegal) := goodIn_app (goodIn_of _ (by decide +kernel)) ggX0_words_X0_isLegal
theorem dX0_words_0 : decode cX0_words 0 = .ok (.iload_n 1, 1) := by decide +kernel
theorem dX0_words_1 : decode cX0_words 1 = .ok (.tableswitch 116 0 4 #[35, 57, 70, 87, 98], 35) := by decide +kernel
theorem dX0_words_36 : decode cX0_words 36 = .ok (.iload_n 0, 1) := by decide +kernel
theorem dX0_words_37 : decode cX0_words 37 = .ok (.ifCond .eq 15, 3) := by decide +kernel
theorem dX0_words_40 : decode cX0_words 40 = .ok (.iload_n 0, 1) := by decide +kernel
theorem dX0_words_41 : decode cX0_words 41 = .ok (.iconst 2, 1) := by decide +kernel
theorem dX0_words_42 : decode cX0_words 42 = .ok (.if_icmp .eq 10, 3) := by decide +kernel
theorem dX0_words_45 : decode cX0_words 45 = .ok (.iload_n 0, 1) := by decide +kernel
theorem dX0_words_46 : decode cX0_words 46 = .ok (.invokestatic 15, 3) := by decide +kernel
theorem dX0_words_49 : decode cX0_words 49 = .ok (.ifCond .eq 7, 3) := by decide +kernel
theorem dX0_words_52 : decode cX0_words 52 = .ok (.iconst 1, 1) := by decide +kernel
theorem dX0_words_53 : decode cX0_words 53 = .ok (.goto 4, 3) := by decide +kernel
theorem dX0_words_56 : decode cX0_words 56 = .ok (.iconst 0, 1) := by decide +kernel
theorem dX0_words_57 : decode cX0_words 57 = .ok (.ireturn, 1) := by decide +kernel
theorem dX0_words_58 : decode cX0_words 58 = .ok (.iload_n 0, 1) := by decide +kernel
theorem dX0_words_59 : decode cX0_words 59 = .ok (.invokestatic 15, 3) := by decide +kernel
theorem dX0_words_62 : decode cX0_words 62 = .ok (.ifCond .eq 7, 3) := by decide +kernel
theorem dX0_words_65 : decode cX0_words 65 = .ok (.iconst 2, 1) := by decide +kernel
theorem dX0_words_66 : decode cX0_words 66 = .ok (.goto 4, 3) := by decide +kernel
theorem dX0_words_69 : decode cX0_words 69 = .ok (.iconst 0, 1) := by decide +kernel
theorem dX0_words_70 : decode cX0_words 70 = .ok (.ireturn, 1) := by decide +kernel
theorem dX0_words_71 : decode cX0_words 71 = .ok (.iload_n 0, 1) := by decide +kernel
theorem dX0_words_72 : decode cX0_words 72 = .ok (.iconst 2, 1) := by decide +kernel
theorem dX0_words_73 : decode cX0_words 73 = .ok (.if_icmp .ne 13, 3) := by decide +kernel
theorem dX0_words_76 : decode cX0_words 76 = .ok (.iload_n 2, 1) := by decide +kernel
theorem dX0_words_77 : decode cX0_words 77 = .ok (.iconst 3, 1) := by decide +kernel
theorem dX0_words_78 : decode cX0_words 78 = .ok (.irem, 1) := by decide +kernel
theorem dX0_words_79 : decode cX0_words 79 = .ok (.ifCond .ne 7, 3) := by decide +kernel
theorem dX0_words_82 : decode cX0_words 82 = .ok (.iconst 1, 1) := by decide +kernel
theorem dX0_words_83 : decode cX0_words 83 = .ok (.goto 4, 3) := by decide +kernel
theorem dX0_words_86 : decode cX0_words 86 = .ok (.iconst 0, 1) := by decide +kernel
theorem dX0_words_87 : decode cX0_words 87 = .ok (.ireturn, 1) := by decide +kernel
theorem dX0_words_88 : decode cX0_words 88 = .ok (.iload_n 0, 1) := by decide +kernel
theorem dX0_words_89 : decode cX0_words 89 = .ok (.iconst 4, 1) := by decide +kernel
theorem dX0_words_90 : decode cX0_words 90 = .ok (.if_icmp .ne 7, 3) := by decide +kernel
theorem dX0_words_93 : decode cX0_words 93 = .ok (.iconst 3, 1) := by decide +kernel
theorem dX0_words_94 : decode cX0_words 94 = .ok (.goto 4, 3) := by decide +kernel
theorem dX0_words_97 : decode cX0_words 97 = .ok (.iconst 0, 1) := by decide +kernel
theorem dX0_words_98 : decode cX0_words 98 = .ok (.ireturn, 1) := by decide +kernel
theorem dX0_words_99 : decode cX0_words 99 = .ok (.iload_n 0, 1) := by decide +kernel
theorem dX0_words_100 : decode cX0_words 100 = .ok (.bipush 6, 2) := by decide +kernel
theorem dX0_words_102 : decode cX0_words 102 = .ok (.if_icmp .ne 13, 3) := by decide +kernel
theorem dX0_words_105 : decode cX0_words 105 = .ok (.iload_n 2, 1) := by decide +kernel
theorem dX0_words_106 : decode cX0_words 106 = .ok (.iconst 2, 1) := by decide +kernel
theorem dX0_words_107 : decode cX0_words 107 = .ok (.irem, 1) := by decide +kernel
theorem dX0_words_108 : decode cX0_words 108 = .ok (.ifCond .ne 7, 3) := by decide +kernel
theorem dX0_words_111 : decode cX0_words 111 = .ok (.iconst 1, 1) := by decide +kernel
theorem dX0_words_112 : decode cX0_words 112 = .ok (.goto 4, 3) := by decide +kernel
theorem dX0_words_115 : decode cX0_words 115 = .ok (.iconst 0, 1) := by decide +kernel
theorem dX0_words_116 : decode cX0_words 116 = .ok (.ireturn, 1) := by decide +kernel
theorem dX0_words_117 : decode cX0_words 117 = .ok (.iload_n 0, 1) := by decide +kernel
theorem dX0_words_118 : decode cX0_words 118 = .ok (.iconst 3, 1) := by decide +kernel
theorem dX0_words_119 : decode cX0_words 119 = .ok (.if_icmp .ne 15, 3) := by decide +kernel
theorem dX0_words_122 : decode cX0_words 122 = .ok (.iload_n 2, 1) := by decide +kernel
theorem dX0_words_123 : decode cX0_words 123 = .ok (.bipush 7, 2) := by decide +kernel
theorem dX0_words_125 : decode cX0_words 125 = .ok (.irem, 1) := by decide +kernel
theorem dX0_words_126 : decode cX0_words 126 = .ok (.iconst 5, 1) := by decide +kernel
theorem dX0_words_127 : decode cX0_words 127 = .ok (.if_icmp .ne 7, 3) := by decide +kernel
theorem dX0_words_130 : decode cX0_words 130 = .ok (.iconst 1, 1) := by decide +kernel
theorem dX0_words_131 : decode cX0_words 131 = .ok (.goto 4, 3) := by decide +kernel
theorem dX0_words_134 : decode cX0_words 134 = .ok (.iconst 0, 1) := by decide +kernel
theorem dX0_words_135 : decode cX0_words 135 = .ok (.ireturn, 1) := by decide +kernel
theorem dX1_init_0 : decode cX1_init 0 = .ok (.aload_n 0, 1) := by decide +kernel
theorem dX1_init_1 : decode cX1_init 1 = .ok (.invokespecial 1, 3) := by decide +kernel
theorem dX1_init_4 : decode cX1_init 4 = .ok (.aload_n 0, 1) := by decide +kernel
theorem dX1_init_5 : decode cX1_init 5 = .ok (.iconst 4, 1) := by decide +kernel
theorem dX1_init_6 : decode cX1_init 6 = .ok (.newarray .int, 2) := by decide +kernel
theorem dX1_init_8 : decode cX1_init 8 = .ok (.putfield 9, 3) := by decide +kernel
theorem dX1_init_11 : decode cX1_init 11 = .ok (.aload_n 0, 1) := by decide +kernel
theorem dX1_init_12 : decode cX1_init 12 = .ok (.iconst 4, 1) := by decide +kernel
theorem dX1_init_13 : decode cX1_init 13 = .ok (.newarray .int, 2) := by decide +kernel
theorem dX1_init_15 : decode cX1_init 15 = .ok (.putfield 13, 3) := by decide +kernel
theorem dX1_init_18 : decode cX1_init 18 = .ok (.aload_n 0, 1) := by decide +kernel
theorem dX1_init_19 : decode cX1_init 19 = .ok (.sipush 160, 3) := by decide +kernel
theorem dX1_init_22 : decode cX1_init 22 = .ok (.newarray .int, 2) := by decide +kernel
theorem dX1_init_24 : decode cX1_init 24 = .ok (.putfield 16, 3) := by decide +kernel
theorem dX1_init_27 : decode cX1_init 27 = .ok (.return_, 1) := by decide +kernel
theorem dX1_isSheet_0 : decode cX1_isSheet 0 = .ok (.iload_n 0, 1) := by decide +kernel
theorem dX1_isSheet_1 : decode cX1_isSheet 1 = .ok (.ifCond .lt 12, 3) := by decide +kernel
theorem dX1_isSheet_4 : decode cX1_isSheet 4 = .ok (.iload_n 0, 1) := by decide +kernel
theorem dX1_isSheet_5 : decode cX1_isSheet 5 = .ok (.iconst 4, 1) := by decide +kernel
theorem dX1_isSheet_6 : decode cX1_isSheet 6 = .ok (.if_icmp .ge 7, 3) := by decide +kernel
theorem dX1_isSheet_9 : decode cX1_isSheet 9 = .ok (.iconst 1, 1) := by decide +kernel
theorem dX1_isSheet_10 : decode cX1_isSheet 10 = .ok (.goto 4, 3) := by decide +kernel
theorem dX1_isSheet_13 : decode cX1_isSheet 13 = .ok (.iconst 0, 1) := by decide +kernel
theorem dX1_isSheet_14 : decode cX1_isSheet 14 = .ok (.ireturn, 1) := by decide +kernel
theorem dX1_isMissing_0 : decode cX1_isMissing 0 = .ok (.aload_n 0, 1) := by decide +kernel
theorem dX1_isMissing_1 : decode cX1_isMissing 1 = .ok (.getfield 9, 3) := by decide +kernel
theorem dX1_isMissing_4 : decode cX1_isMissing 4 = .ok (.iload_n 1, 1) := by decide +kernel
theorem dX1_isMissing_5 : decode cX1_isMissing 5 = .ok (.iaload, 1) := by decide +kernel
theorem dX1_isMissing_6 : decode cX1_isMissing 6 = .ok (.ifCond .ne 7, 3) := by decide +kernel
theorem dX1_isMissing_9 : decode cX1_isMissing 9 = .ok (.iconst 1, 1) := by decide +kernel
theorem dX1_isMissing_10 : decode cX1_isMissing 10 = .ok (.goto 4, 3) := by decide +kernel
theorem dX1_isMissing_13 : decode cX1_isMissing 13 = .ok (.iconst 0, 1) := by decide +kernel
theorem dX1_isMissing_14 : decode cX1_isMissing 14 = .ok (.ireturn, 1) := by decide +kernel
theorem dX1_lay_0 : decode cX1_lay 0 = .ok (.aload_n 0, 1) := by decide +kernel
theorem dX1_lay_1 : decode cX1_lay 1 = .ok (.getfield 9, 3) := by decide +kernel
theorem dX1_lay_4 : decode cX1_lay 4 = .ok (.iload_n 1, 1) := by decide +kernel
theorem dX1_lay_5 : decode cX1_lay 5 = .ok (.iload_n 2, 1) := by decide +kernel
theorem dX1_lay_6 : decode cX1_lay 6 = .ok (.iastore, 1) := by decide +kernel
theorem dX1_lay_7 : decode cX1_lay 7 = .ok (.aload_n 0, 1) := by decide +kernel
theorem dX1_lay_8 : decode cX1_lay 8 = .ok (.getfield 13, 3) := by decide +kernel
theorem dX1_lay_11 : decode cX1_lay 11 = .ok (.iload_n 1, 1) := by decide +kernel
theorem dX1_lay_12 : decode cX1_lay 12 = .ok (.iload_n 3, 1) := by decide +kernel
theorem dX1_lay_13 : decode cX1_lay 13 = .ok (.iastore, 1) := by decide +kernel
theorem dX1_lay_14 : decode cX1_lay 14 = .ok (.iconst 0, 1) := by decide +kernel
theorem dX1_lay_15 : decode cX1_lay 15 = .ok (.istore 4, 2) := by decide +kernel
theorem dX1_lay_17 : decode cX1_lay 17 = .ok (.iload 4, 2) := by decide +kernel
theorem dX1_lay_19 : decode cX1_lay 19 = .ok (.bipush 40, 2) := by decide +kernel
theorem dX1_lay_21 : decode cX1_lay 21 = .ok (.if_icmp .ge 22, 3) := by decide +kernel
theorem dX1_lay_24 : decode cX1_lay 24 = .ok (.aload_n 0, 1) := by decide +kernel
theorem dX1_lay_25 : decode cX1_lay 25 = .ok (.getfield 16, 3) := by decide +kernel
theorem dX1_lay_28 : decode cX1_lay 28 = .ok (.iload_n 1, 1) := by decide +kernel
theorem dX1_lay_29 : decode cX1_lay 29 = .ok (.bipush 40, 2) := by decide +kernel
theorem dX1_lay_31 : decode cX1_lay 31 = .ok (.imul, 1) := by decide +kernel
theorem dX1_lay_32 : decode cX1_lay 32 = .ok (.iload 4, 2) := by decide +kernel
theorem dX1_lay_34 : decode cX1_lay 34 = .ok (.iadd, 1) := by decide +kernel
theorem dX1_lay_35 : decode cX1_lay 35 = .ok (.iconst 0, 1) := by decide +kernel
theorem dX1_lay_36 : decode cX1_lay 36 = .ok (.iastore, 1) := by decide +kernel
theorem dX1_lay_37 : decode cX1_lay 37 = .ok (.iinc 4 1, 3) := by decide +kernel
theorem dX1_lay_40 : decode cX1_lay 40 = .ok (.goto (-23), 3) := by decide +kernel
theorem dX1_lay_43 : decode cX1_lay 43 = .ok (.return_, 1) := by decide +kernel
theorem dX1_number_0 : decode cX1_number 0 = .ok (.aload_n 0, 1) := by decide +kernel
theorem dX1_number_1 : decode cX1_number 1 = .ok (.getfield 16, 3) := by decide +kernel
theorem dX1_number_4 : decode cX1_number 4 = .ok (.iload_n 1, 1) := by decide +kernel
theorem dX1_number_5 : decode cX1_number 5 = .ok (.bipush 40, 2) := by decide +kernel
theorem dX1_number_7 : decode cX1_number 7 = .ok (.imul, 1) := by decide +kernel
theorem dX1_number_8 : decode cX1_number 8 = .ok (.iload_n 2, 1) := by decide +kernel
theorem dX1_number_9 : decode cX1_number 9 = .ok (.iadd, 1) := by decide +kernel
theorem dX1_number_10 : decode cX1_number 10 = .ok (.iaload, 1) := by decide +kernel
theorem dX1_number_11 : decode cX1_number 11 = .ok (.ireturn, 1) := by decide +kernel
set_option maxRecDepth 20000 in
theorem ggX1_put_X1_cut : GoodIn wsX1_put wsX1_cut := goodIn_r _ [6] (by decide +kernel) (by decide +kernel)
set_option maxRecDepth 20000 in
theorem gX1_put_X1_cut : GoodIn wsX1_put (va_wsS RX1 19 yX1_cut wsX1_cut) := goodIn_app (goodIn_of _ (by decide +kernel)) ggX1_put_X1_cut
theorem dX1_put_0 : decode cX1_put 0 = .ok (.aload_n 0, 1) := by decide +kernel
theorem dX1_put_1 : decode cX1_put 1 = .ok (.getfield 16, 3) := by decide +kernel
theorem dX1_put_4 : decode cX1_put 4 = .ok (.iload_n 1, 1) := by decide +kernel
theorem dX1_put_5 : decode cX1_put 5 = .ok (.bipush 40, 2) := by decide +kernel
theorem dX1_put_7 : decode cX1_put 7 = .ok (.imul, 1) := by decide +kernel
theorem dX1_put_8 : decode cX1_put 8 = .ok (.iload_n 2, 1) := by decide +kernel
theorem dX1_put_9 : decode cX1_put 9 = .ok (.iadd, 1) := by decide +kernel
theorem dX1_put_10 : decode cX1_put 10 = .ok (.iload_n 3, 1) := by decide +kernel
theorem dX1_put_11 : decode cX1_put 11 = .ok (.aload_n 0, 1) := by decide +kernel
theorem dX1_put_12 : decode cX1_put 12 = .ok (.getfield 9, 3) := by decide +kernel
theorem dX1_put_15 : decode cX1_put 15 = .ok (.iload_n 1, 1) := by decide +kernel
theorem dX1_put_16 : decode cX1_put 16 = .ok (.iaload, 1) := by decide +kernel
theorem dX1_put_17 : decode cX1_put 17 = .ok (.invokestatic 19, 3) := by decide +kernel
theorem dX1_put_20 : decode cX1_put 20 = .ok (.iastore, 1) := by decide +kernel
theorem dX1_put_21 : decode cX1_put 21 = .ok (.return_, 1) := by decide +kernel
theorem dX1_cut_0 : decode cX1_cut 0 = .ok (.iload_n 1, 1) := by decide +kernel
theorem dX1_cut_1 : decode cX1_cut 1 = .ok (.bipush 8, 2) := by decide +kernel
theorem dX1_cut_3 : decode cX1_cut 3 = .ok (.if_icmp .ne 6, 3) := by decide +kernel
theorem dX1_cut_6 : decode cX1_cut 6 = .ok (.iload_n 0, 1) := by decide +kernel
theorem dX1_cut_7 : decode cX1_cut 7 = .ok (.i2b, 1) := by decide +kernel
theorem dX1_cut_8 : decode cX1_cut 8 = .ok (.ireturn, 1) := by decide +kernel
theorem dX1_cut_9 : decode cX1_cut 9 = .ok (.iload_n 1, 1) := by decide +kernel
theorem dX1_cut_10 : decode cX1_cut 10 = .ok (.bipush 16, 2) := by decide +kernel
theorem dX1_cut_12 : decode cX1_cut 12 = .ok (.if_icmp .ne 8, 3) := by decide +kernel
theorem dX1_cut_15 : decode cX1_cut 15 = .ok (.iload_n 0, 1) := by decide +kernel
theorem dX1_cut_16 : decode cX1_cut 16 = .ok (.i2s, 1) := by decide +kernel
theorem dX1_cut_17 : decode cX1_cut 17 = .ok (.goto 4, 3) := by decide +kernel
theorem dX1_cut_20 : decode cX1_cut 20 = .ok (.iload_n 0, 1) := by decide +kernel
theorem dX1_cut_21 : decode cX1_cut 21 = .ok (.ireturn, 1) := by decide +kernel
theorem dX1_hasRun_0 : decode cX1_hasRun 0 = .ok (.iload_n 2, 1) := by decide +kernel
theorem dX1_hasRun_1 : decode cX1_hasRun 1 = .ok (.ifCond .lt 33, 3) := by decide +kernel
theorem dX1_hasRun_4 : decode cX1_hasRun 4 = .ok (.iload_n 3, 1) := by decide +kernel
theorem dX1_hasRun_5 : decode cX1_hasRun 5 = .ok (.ifCond .lt 29, 3) := by decide +kernel
theorem dX1_hasRun_8 : decode cX1_hasRun 8 = .ok (.iload_n 3, 1) := by decide +kernel
theorem dX1_hasRun_9 : decode cX1_hasRun 9 = .ok (.aload_n 0, 1) := by decide +kernel
theorem dX1_hasRun_10 : decode cX1_hasRun 10 = .ok (.getfield 13, 3) := by decide +kernel
theorem dX1_hasRun_13 : decode cX1_hasRun 13 = .ok (.iload_n 1, 1) := by decide +kernel
theorem dX1_hasRun_14 : decode cX1_hasRun 14 = .ok (.iaload, 1) := by decide +kernel
theorem dX1_hasRun_15 : decode cX1_hasRun 15 = .ok (.if_icmp .gt 19, 3) := by decide +kernel
theorem dX1_hasRun_18 : decode cX1_hasRun 18 = .ok (.iload_n 2, 1) := by decide +kernel
theorem dX1_hasRun_19 : decode cX1_hasRun 19 = .ok (.aload_n 0, 1) := by decide +kernel
theorem dX1_hasRun_20 : decode cX1_hasRun 20 = .ok (.getfield 13, 3) := by decide +kernel
theorem dX1_hasRun_23 : decode cX1_hasRun 23 = .ok (.iload_n 1, 1) := by decide +kernel
theorem dX1_hasRun_24 : decode cX1_hasRun 24 = .ok (.iaload, 1) := by decide +kernel
theorem dX1_hasRun_25 : decode cX1_hasRun 25 = .ok (.iload_n 3, 1) := by decide +kernel
theorem dX1_hasRun_26 : decode cX1_hasRun 26 = .ok (.isub, 1) := by decide +kernel
theorem dX1_hasRun_27 : decode cX1_hasRun 27 = .ok (.if_icmp .gt 7, 3) := by decide +kernel
theorem dX1_hasRun_30 : decode cX1_hasRun 30 = .ok (.iconst 1, 1) := by decide +kernel
theorem dX1_hasRun_31 : decode cX1_hasRun 31 = .ok (.goto 4, 3) := by decide +kernel
theorem dX1_hasRun_34 : decode cX1_hasRun 34 = .ok (.iconst 0, 1) := by decide +kernel
theorem dX1_hasRun_35 : decode cX1_hasRun 35 = .ok (.ireturn, 1) := by decide +kernel
theorem dX1_bring_0 : decode cX1_bring 0 = .ok (.aload_n 0, 1) := by decide +kernel
theorem dX1_bring_1 : decode cX1_bring 1 = .ok (.getfield 16, 3) := by decide +kernel
theorem dX1_bring_4 : decode cX1_bring 4 = .ok (.iload_n 1, 1) := by decide +kernel
theorem dX1_bring_5 : decode cX1_bring 5 = .ok (.bipush 40, 2) := by decide +kernel
theorem dX1_bring_7 : decode cX1_bring 7 = .ok (.imul, 1) := by decide +kernel
theorem dX1_bring_8 : decode cX1_bring 8 = .ok (.iload_n 2, 1) := by decide +kernel
theorem dX1_bring_9 : decode cX1_bring 9 = .ok (.iadd, 1) := by decide +kernel
theorem dX1_bring_10 : decode cX1_bring 10 = .ok (.aload_n 0, 1) := by decide +kernel
theorem dX1_bring_11 : decode cX1_bring 11 = .ok (.getfield 16, 3) := by decide +kernel
theorem dX1_bring_14 : decode cX1_bring 14 = .ok (.iload_n 3, 1) := by decide +kernel
theorem dX1_bring_15 : decode cX1_bring 15 = .ok (.bipush 40, 2) := by decide +kernel
theorem dX1_bring_17 : decode cX1_bring 17 = .ok (.imul, 1) := by decide +kernel
theorem dX1_bring_18 : decode cX1_bring 18 = .ok (.iload 4, 2) := by decide +kernel
theorem dX1_bring_20 : decode cX1_bring 20 = .ok (.iadd, 1) := by decide +kernel
theorem dX1_bring_21 : decode cX1_bring 21 = .ok (.iload 5, 2) := by decide +kernel
theorem dX1_bring_23 : decode cX1_bring 23 = .ok (.invokestatic 23, 3) := by decide +kernel
theorem dX1_bring_26 : decode cX1_bring 26 = .ok (.return_, 1) := by decide +kernel
theorem dX2_init_0 : decode cX2_init 0 = .ok (.aload_n 0, 1) := by decide +kernel
theorem dX2_init_1 : decode cX2_init 1 = .ok (.invokespecial 3, 3) := by decide +kernel
theorem dX2_init_4 : decode cX2_init 4 = .ok (.aload_n 0, 1) := by decide +kernel
theorem dX2_init_5 : decode cX2_init 5 = .ok (.iconst 1, 1) := by decide +kernel
theorem dX2_init_6 : decode cX2_init 6 = .ok (.putfield 9, 3) := by decide +kernel
theorem dX2_init_9 : decode cX2_init 9 = .ok (.aload_n 0, 1) := by decide +kernel
theorem dX2_init_10 : decode cX2_init 10 = .ok (.iconst 1, 1) := by decide +kernel
theorem dX2_init_11 : decode cX2_init 11 = .ok (.putfield 15, 3) := by decide +kernel
theorem dX2_init_14 : decode cX2_init 14 = .ok (.aload_n 0, 1) := by decide +kernel
theorem dX2_init_15 : decode cX2_init 15 = .ok (.bipush 6, 2) := by decide +kernel
theorem dX2_init_17 : decode cX2_init 17 = .ok (.newarray .int, 2) := by decide +kernel
theorem dX2_init_19 : decode cX2_init 19 = .ok (.putfield 18, 3) := by decide +kernel
theorem dX2_init_22 : decode cX2_init 22 = .ok (.aload_n 0, 1) := by decide +kernel
theorem dX2_init_23 : decode cX2_init 23 = .ok (.bipush 8, 2) := by decide +kernel
theorem dX2_init_25 : decode cX2_init 25 = .ok (.newarray .int, 2) := by decide +kernel
theorem dX2_init_27 : decode cX2_init 27 = .ok (.putfield 22, 3) := by decide +kernel
theorem dX2_init_30 : decode cX2_init 30 = .ok (.aload_n 0, 1) := by decide +kernel
theorem dX2_init_31 : decode cX2_init 31 = .ok (.bipush 8, 2) := by decide +kernel
theorem dX2_init_33 : decode cX2_init 33 = .ok (.newarray .int, 2) := by decide +kernel
theorem dX2_init_35 : decode cX2_init 35 = .ok (.putfield 25, 3) := by decide +kernel
theorem dX2_init_38 : decode cX2_init 38 = .ok (.aload_n 0, 1) := by decide +kernel
theorem dX2_init_39 : decode cX2_init 39 = .ok (.bipush 8, 2) := by decide +kernel
theorem dX2_init_41 : decode cX2_init 41 = .ok (.newarray .int, 2) := by decide +kernel
theorem dX2_init_43 : decode cX2_init 43 = .ok (.putfield 28, 3) := by decide +kernel
theorem dX2_init_46 : decode cX2_init 46 = .ok (.aload_n 0, 1) := by decide +kernel
theorem dX2_init_47 : decode cX2_init 47 = .ok (.bipush 8, 2) := by decide +kernel
theorem dX2_init_49 : decode cX2_init 49 = .ok (.newarray .int, 2) := by decide +kernel
theorem dX2_init_51 : decode cX2_init 51 = .ok (.putfield 31, 3) := by decide +kernel
theorem dX2_init_54 : decode cX2_init 54 = .ok (.aload_n 0, 1) := by decide +kernel
theorem dX2_init_55 : decode cX2_init 55 = .ok (.bipush 48, 2) := by decide +kernel
theorem dX2_init_57 : decode cX2_init 57 = .ok (.newarray .int, 2) := by decide +kernel
theorem dX2_init_59 : decode cX2_init 59 = .ok (.putfield 34, 3) := by decide +kernel
theorem dX2_init_62 : decode cX2_init 62 = .ok (.aload_n 0, 1) := by decide +kernel
theorem dX2_init_63 : decode cX2_init 63 = .ok (.bipush 10, 2) := by decide +kernel
theorem dX2_init_65 : decode cX2_init 65 = .ok (.newarray .int, 2) := by decide +kernel
theorem dX2_init_67 : decode cX2_init 67 = .ok (.putfield 37, 3) := by decide +kernel
theorem dX2_init_70 : decode cX2_init 70 = .ok (.iconst 0, 1) := by decide +kernel
theorem dX2_init_71 : decode cX2_init 71 = .ok (.istore_n 1, 1) := by decide +kernel
theorem dX2_init_72 : decode cX2_init 72 = .ok (.iload_n 1, 1) := by decide +kernel
theorem dX2_init_73 : decode cX2_init 73 = .ok (.bipush 10, 2) := by decide +kernel
theorem dX2_init_75 : decode cX2_init 75 = .ok (.if_icmp .ge 16, 3) := by decide +kernel
theorem dX2_init_78 : decode cX2_init 78 = .ok (.aload_n 0, 1) := by decide +kernel
theorem dX2_init_79 : decode cX2_init 79 = .ok (.getfield 37, 3) := by decide +kernel
theorem dX2_init_82 : decode cX2_init 82 = .ok (.iload_n 1, 1) := by decide +kernel
theorem dX2_init_83 : decode cX2_init 83 = .ok (.iconst (-1), 1) := by decide +kernel
theorem dX2_init_84 : decode cX2_init 84 = .ok (.iastore, 1) := by decide +kernel
theorem dX2_init_85 : decode cX2_init 85 = .ok (.iinc 1 1, 3) := by decide +kernel
theorem dX2_init_88 : decode cX2_init 88 = .ok (.goto (-16), 3) := by decide +kernel
theorem dX2_init_91 : decode cX2_init 91 = .ok (.return_, 1) := by decide +kernel
theorem dX2_at_0 : decode cX2_at 0 = .ok (.iload_n 0, 1) := by decide +kernel
theorem dX2_at_1 : decode cX2_at 1 = .ok (.bipush 6, 2) := by decide +kernel
theorem dX2_at_3 : decode cX2_at 3 = .ok (.imul, 1) := by decide +kernel
theorem dX2_at_4 : decode cX2_at 4 = .ok (.iload_n 1, 1) := by decide +kernel
theorem dX2_at_5 : decode cX2_at 5 = .ok (.iadd, 1) := by decide +kernel
theorem dX2_at_6 : decode cX2_at 6 = .ok (.ireturn, 1) := by decide +kernel
theorem dX2_become_0 : decode cX2_become 0 = .ok (.aload_n 0, 1) := by decide +kernel
theorem dX2_become_1 : decode cX2_become 1 = .ok (.aload_n 1, 1) := by decide +kernel
theorem dX2_become_2 : decode cX2_become 2 = .ok (.getfield 40, 3) := by decide +kernel
theorem dX2_become_5 : decode cX2_become 5 = .ok (.putfield 40, 3) := by decide +kernel
theorem dX2_become_8 : decode cX2_become 8 = .ok (.aload_n 0, 1) := by decide +kernel
theorem dX2_become_9 : decode cX2_become 9 = .ok (.aload_n 1, 1) := by decide +kernel
theorem dX2_become_10 : decode cX2_become 10 = .ok (.getfield 9, 3) := by decide +kernel
theorem dX2_become_13 : decode cX2_become 13 = .ok (.putfield 9, 3) := by decide +kernel
theorem dX2_become_16 : decode cX2_become 16 = .ok (.aload_n 0, 1) := by decide +kernel
theorem dX2_become_17 : decode cX2_become 17 = .ok (.aload_n 1, 1) := by decide +kernel
theorem dX2_become_18 : decode cX2_become 18 = .ok (.getfield 15, 3) := by decide +kernel
theorem dX2_become_21 : decode cX2_become 21 = .ok (.putfield 15, 3) := by decide +kernel
theorem dX2_become_24 : decode cX2_become 24 = .ok (.aload_n 0, 1) := by decide +kernel
theorem dX2_become_25 : decode cX2_become 25 = .ok (.aload_n 1, 1) := by decide +kernel
theorem dX2_become_26 : decode cX2_become 26 = .ok (.getfield 43, 3) := by decide +kernel
theorem dX2_become_29 : decode cX2_become 29 = .ok (.putfield 43, 3) := by decide +kernel
theorem dX2_become_32 : decode cX2_become 32 = .ok (.aload_n 1, 1) := by decide +kernel
theorem dX2_become_33 : decode cX2_become 33 = .ok (.getfield 18, 3) := by decide +kernel
theorem dX2_become_36 : decode cX2_become 36 = .ok (.iconst 0, 1) := by decide +kernel
theorem dX2_become_37 : decode cX2_become 37 = .ok (.aload_n 0, 1) := by decide +kernel
theorem dX2_become_38 : decode cX2_become 38 = .ok (.getfield 18, 3) := by decide +kernel
theorem dX2_become_41 : decode cX2_become 41 = .ok (.iconst 0, 1) := by decide +kernel
theorem dX2_become_42 : decode cX2_become 42 = .ok (.bipush 6, 2) := by decide +kernel
theorem dX2_become_44 : decode cX2_become 44 = .ok (.invokestatic 46, 3) := by decide +kernel
theorem dX2_become_47 : decode cX2_become 47 = .ok (.aload_n 1, 1) := by decide +kernel
theorem dX2_become_48 : decode cX2_become 48 = .ok (.getfield 22, 3) := by decide +kernel
theorem dX2_become_51 : decode cX2_become 51 = .ok (.iconst 0, 1) := by decide +kernel
theorem dX2_become_52 : decode cX2_become 52 = .ok (.aload_n 0, 1) := by decide +kernel
theorem dX2_become_53 : decode cX2_become 53 = .ok (.getfield 22, 3) := by decide +kernel
theorem dX2_become_56 : decode cX2_become 56 = .ok (.iconst 0, 1) := by decide +kernel
theorem dX2_become_57 : decode cX2_become 57 = .ok (.bipush 8, 2) := by decide +kernel
theorem dX2_become_59 : decode cX2_become 59 = .ok (.invokestatic 46, 3) := by decide +kernel
theorem dX2_become_62 : decode cX2_become 62 = .ok (.aload_n 1, 1) := by decide +kernel
theorem dX2_become_63 : decode cX2_become 63 = .ok (.getfield 25, 3) := by decide +kernel
theorem dX2_become_66 : decode cX2_become 66 = .ok (.iconst 0, 1) := by decide +kernel
theorem dX2_become_67 : decode cX2_become 67 = .ok (.aload_n 0, 1) := by decide +kernel
theorem dX2_become_68 : decode cX2_become 68 = .ok (.getfield 25, 3) := by decide +kernel
theorem dX2_become_71 : decode cX2_become 71 = .ok (.iconst 0, 1) := by decide +kernel
theorem dX2_become_72 : decode cX2_become 72 = .ok (.bipush 8, 2) := by decide +kernel
theorem dX2_become_74 : decode cX2_become 74 = .ok (.invokestatic 46, 3) := by decide +kernel
theorem dX2_become_77 : decode cX2_become 77 = .ok (.aload_n 1, 1) := by decide +kernel
theorem dX2_become_78 : decode cX2_become 78 = .ok (.getfield 28, 3) := by decide +kernel
theorem dX2_become_81 : decode cX2_become 81 = .ok (.iconst 0, 1) := by decide +kernel
theorem dX2_become_82 : decode cX2_become 82 = .ok (.aload_n 0, 1) := by decide +kernel
theorem dX2_become_83 : decode cX2_become 83 = .ok (.getfield 28, 3) := by decide +kernel
theorem dX2_become_86 : decode cX2_become 86 = .ok (.iconst 0, 1) := by decide +kernel
theorem dX2_become_87 : decode cX2_become 87 = .ok (.bipush 8, 2) := by decide +kernel
theorem dX2_become_89 : decode cX2_become 89 = .ok (.invokestatic 46, 3) := by decide +kernel
theorem dX2_become_92 : decode cX2_become 92 = .ok (.aload_n 1, 1) := by decide +kernel
theorem dX2_become_93 : decode cX2_become 93 = .ok (.getfield 31, 3) := by decide +kernel
theorem dX2_become_96 : decode cX2_become 96 = .ok (.iconst 0, 1) := by decide +kernel
theorem dX2_become_97 : decode cX2_become 97 = .ok (.aload_n 0, 1) := by decide +kernel
theorem dX2_become_98 : decode cX2_become 98 = .ok (.getfield 31, 3) := by decide +kernel
theorem dX2_become_101 : decode cX2_become 101 = .ok (.iconst 0, 1) := by decide +kernel
theorem dX2_become_102 : decode cX2_become 102 = .ok (.bipush 8, 2) := by decide +kernel
theorem dX2_become_104 : decode cX2_become 104 = .ok (.invokestatic 46, 3) := by decide +kernel
theorem dX2_become_107 : decode cX2_become 107 = .ok (.aload_n 1, 1) := by decide +kernel
theorem dX2_become_108 : decode cX2_become 108 = .ok (.getfield 34, 3) := by decide +kernel
theorem dX2_become_111 : decode cX2_become 111 = .ok (.iconst 0, 1) := by decide +kernel
theorem dX2_become_112 : decode cX2_become 112 = .ok (.aload_n 0, 1) := by decide +kernel
theorem dX2_become_113 : decode cX2_become 113 = .ok (.getfield 34, 3) := by decide +kernel
theorem dX2_become_116 : decode cX2_become 116 = .ok (.iconst 0, 1) := by decide +kernel
theorem dX2_become_117 : decode cX2_become 117 = .ok (.bipush 48, 2) := by decide +kernel
theorem dX2_become_119 : decode cX2_become 119 = .ok (.invokestatic 46, 3) := by decide +kernel
theorem dX2_become_122 : decode cX2_become 122 = .ok (.aload_n 1, 1) := by decide +kernel
theorem dX2_become_123 : decode cX2_become 123 = .ok (.getfield 37, 3) := by decide +kernel
theorem dX2_become_126 : decode cX2_become 126 = .ok (.iconst 0, 1) := by decide +kernel
theorem dX2_become_127 : decode cX2_become 127 = .ok (.aload_n 0, 1) := by decide +kernel
theorem dX2_become_128 : decode cX2_become 128 = .ok (.getfield 37, 3) := by decide +kernel
theorem dX2_become_131 : decode cX2_become 131 = .ok (.iconst 0, 1) := by decide +kernel
theorem dX2_become_132 : decode cX2_become 132 = .ok (.bipush 10, 2) := by decide +kernel
theorem dX2_become_134 : decode cX2_become 134 = .ok (.invokestatic 46, 3) := by decide +kernel
theorem dX2_become_137 : decode cX2_become 137 = .ok (.return_, 1) := by decide +kernel
theorem dX2_isSeat_0 : decode cX2_isSeat 0 = .ok (.iload_n 1, 1) := by decide +kernel
theorem dX2_isSeat_1 : decode cX2_isSeat 1 = .ok (.ifCond .lt 15, 3) := by decide +kernel
theorem dX2_isSeat_4 : decode cX2_isSeat 4 = .ok (.iload_n 1, 1) := by decide +kernel
theorem dX2_isSeat_5 : decode cX2_isSeat 5 = .ok (.aload_n 0, 1) := by decide +kernel
theorem dX2_isSeat_6 : decode cX2_isSeat 6 = .ok (.getfield 43, 3) := by decide +kernel
theorem dX2_isSeat_9 : decode cX2_isSeat 9 = .ok (.if_icmp .ge 7, 3) := by decide +kernel
theorem dX2_isSeat_12 : decode cX2_isSeat 12 = .ok (.iconst 1, 1) := by decide +kernel
theorem dX2_isSeat_13 : decode cX2_isSeat 13 = .ok (.goto 4, 3) := by decide +kernel
theorem dX2_isSeat_16 : decode cX2_isSeat 16 = .ok (.iconst 0, 1) := by decide +kernel
theorem dX2_isSeat_17 : decode cX2_isSeat 17 = .ok (.ireturn, 1) := by decide +kernel
theorem dX2_isFull_0 : decode cX2_isFull 0 = .ok (.aload_n 0, 1) := by decide +kernel
theorem dX2_isFull_1 : decode cX2_isFull 1 = .ok (.getfield 43, 3) := by decide +kernel
theorem dX2_isFull_4 : decode cX2_isFull 4 = .ok (.bipush 8, 2) := by decide +kernel
theorem dX2_isFull_6 : decode cX2_isFull 6 = .ok (.if_icmp .lt 7, 3) := by decide +kernel
theorem dX2_isFull_9 : decode cX2_isFull 9 = .ok (.iconst 1, 1) := by decide +kernel
theorem dX2_isFull_10 : decode cX2_isFull 10 = .ok (.goto 4, 3) := by decide +kernel
theorem dX2_isFull_13 : decode cX2_isFull 13 = .ok (.iconst 0, 1) := by decide +kernel
theorem dX2_isFull_14 : decode cX2_isFull 14 = .ok (.ireturn, 1) := by decide +kernel
set_option maxRecDepth 20000 in
theorem ggX2_seat_X2_at : GoodIn wsX2_seat wsX2_at := goodIn_r _ [10] (by decide +kernel) (by decide +kernel)
set_option maxRecDepth 20000 in
theorem gX2_seat_X2_at : GoodIn wsX2_seat (va_wsS RX2 52 yX2_at wsX2_at) := goodIn_app (goodIn_of _ (by decide +kernel)) ggX2_seat_X2_at
theorem dX2_seat_0 : decode cX2_seat 0 = .ok (.aload_n 0, 1) := by decide +kernel
theorem dX2_seat_1 : decode cX2_seat 1 = .ok (.getfield 43, 3) := by decide +kernel
theorem dX2_seat_4 : decode cX2_seat 4 = .ok (.istore_n 2, 1) := by decide +kernel
theorem dX2_seat_5 : decode cX2_seat 5 = .ok (.aload_n 0, 1) := by decide +kernel
theorem dX2_seat_6 : decode cX2_seat 6 = .ok (.dup, 1) := by decide +kernel
theorem dX2_seat_7 : decode cX2_seat 7 = .ok (.getfield 43, 3) := by decide +kernel
theorem dX2_seat_10 : decode cX2_seat 10 = .ok (.iconst 1, 1) := by decide +kernel
theorem dX2_seat_11 : decode cX2_seat 11 = .ok (.iadd, 1) := by decide +kernel
theorem dX2_seat_12 : decode cX2_seat 12 = .ok (.putfield 43, 3) := by decide +kernel
theorem dX2_seat_15 : decode cX2_seat 15 = .ok (.aload_n 0, 1) := by decide +kernel
theorem dX2_seat_16 : decode cX2_seat 16 = .ok (.getfield 22, 3) := by decide +kernel
theorem dX2_seat_19 : decode cX2_seat 19 = .ok (.iload_n 2, 1) := by decide +kernel
theorem dX2_seat_20 : decode cX2_seat 20 = .ok (.iload_n 1, 1) := by decide +kernel
theorem dX2_seat_21 : decode cX2_seat 21 = .ok (.iastore, 1) := by decide +kernel
theorem dX2_seat_22 : decode cX2_seat 22 = .ok (.aload_n 0, 1) := by decide +kernel
theorem dX2_seat_23 : decode cX2_seat 23 = .ok (.getfield 25, 3) := by decide +kernel
theorem dX2_seat_26 : decode cX2_seat 26 = .ok (.iload_n 2, 1) := by decide +kernel
theorem dX2_seat_27 : decode cX2_seat 27 = .ok (.iconst (-1), 1) := by decide +kernel
theorem dX2_seat_28 : decode cX2_seat 28 = .ok (.iastore, 1) := by decide +kernel
theorem dX2_seat_29 : decode cX2_seat 29 = .ok (.aload_n 0, 1) := by decide +kernel
theorem dX2_seat_30 : decode cX2_seat 30 = .ok (.getfield 28, 3) := by decide +kernel
theorem dX2_seat_33 : decode cX2_seat 33 = .ok (.iload_n 2, 1) := by decide +kernel
theorem dX2_seat_34 : decode cX2_seat 34 = .ok (.bipush 50, 2) := by decide +kernel
theorem dX2_seat_36 : decode cX2_seat 36 = .ok (.iastore, 1) := by decide +kernel
theorem dX2_seat_37 : decode cX2_seat 37 = .ok (.aload_n 0, 1) := by decide +kernel
theorem dX2_seat_38 : decode cX2_seat 38 = .ok (.getfield 31, 3) := by decide +kernel
theorem dX2_seat_41 : decode cX2_seat 41 = .ok (.iload_n 2, 1) := by decide +kernel
theorem dX2_seat_42 : decode cX2_seat 42 = .ok (.iconst 0, 1) := by decide +kernel
theorem dX2_seat_43 : decode cX2_seat 43 = .ok (.iastore, 1) := by decide +kernel
theorem dX2_seat_44 : decode cX2_seat 44 = .ok (.iconst 0, 1) := by decide +kernel
theorem dX2_seat_45 : decode cX2_seat 45 = .ok (.istore_n 3, 1) := by decide +kernel
theorem dX2_seat_46 : decode cX2_seat 46 = .ok (.iload_n 3, 1) := by decide +kernel
theorem dX2_seat_47 : decode cX2_seat 47 = .ok (.bipush 6, 2) := by decide +kernel
theorem dX2_seat_49 : decode cX2_seat 49 = .ok (.if_icmp .ge 20, 3) := by decide +kernel
theorem dX2_seat_52 : decode cX2_seat 52 = .ok (.aload_n 0, 1) := by decide +kernel
theorem dX2_seat_53 : decode cX2_seat 53 = .ok (.getfield 34, 3) := by decide +kernel
theorem dX2_seat_56 : decode cX2_seat 56 = .ok (.iload_n 2, 1) := by decide +kernel
theorem dX2_seat_57 : decode cX2_seat 57 = .ok (.iload_n 3, 1) := by decide +kernel
theorem dX2_seat_58 : decode cX2_seat 58 = .ok (.invokestatic 52, 3) := by decide +kernel
theorem dX2_seat_61 : decode cX2_seat 61 = .ok (.iconst 0, 1) := by decide +kernel
theorem dX2_seat_62 : decode cX2_seat 62 = .ok (.iastore, 1) := by decide +kernel
theorem dX2_seat_63 : decode cX2_seat 63 = .ok (.iinc 3 1, 3) := by decide +kernel
theorem dX2_seat_66 : decode cX2_seat 66 = .ok (.goto (-20), 3) := by decide +kernel
theorem dX2_seat_69 : decode cX2_seat 69 = .ok (.iload_n 2, 1) := by decide +kernel
theorem dX2_seat_70 : decode cX2_seat 70 = .ok (.ireturn, 1) := by decide +kernel
set_option maxRecDepth 20000 in
theorem ggX2_trait_X2_appetite : GoodIn wsX2_trait wsX2_appetite := goodIn_r _ [9, 1, 3, 10, 11, 12, 13, 8, 14, 15, 16, 17, 18, 19, 20, 21, 22, 23, 24, 25, 26, 31, 32, 33, 34, 35, 36, 37, 38, 39, 40, 41, 42] (by decide +kernel) (by decide +kernel)
set_option maxRecDepth 20000 in
theorem gX2_trait_X2_appetite : GoodIn wsX2_trait (wsV RX2 56 RX2 yX2_appetite wsX2_appetite) := goodIn_app (goodIn_of _ (by decide +kernel)) ggX2_trait_X2_appetite
set_option maxRecDepth 20000 in
theorem ggX2_trait_X2_left : GoodIn wsX2_trait wsX2_left := goodIn_r _ [14, 15, 16, 17, 8, 18, 31, 32, 33, 34, 35, 36, 37, 38, 39, 40, 41, 42] (by decide +kernel) (by decide +kernel)
set_option maxRecDepth 20000 in
theorem gX2_trait_X2_left : GoodIn wsX2_trait (wsV RX2 60 RX2 yX2_left wsX2_left) := goodIn_app (goodIn_of _ (by decide +kernel)) ggX2_trait_X2_left
set_option maxRecDepth 20000 in
theorem ggX2_trait_X2_tastesOn : GoodIn wsX2_trait wsX2_tastesOn := goodIn_r _ [30, 15, 16, 17, 8, 18, 31, 32, 33, 34, 35, 36, 37, 38, 39, 40, 41, 42] (by decide +kernel) (by decide +kernel)
set_option maxRecDepth 20000 in
theorem gX2_trait_X2_tastesOn : GoodIn wsX2_trait (wsV RX2 63 RX2 yX2_tastesOn wsX2_tastesOn) := goodIn_app (goodIn_of _ (by decide +kernel)) ggX2_trait_X2_tastesOn
theorem dX2_trait_0 : decode cX2_trait 0 = .ok (.iload_n 2, 1) := by decide +kernel
theorem dX2_trait_1 : decode cX2_trait 1 = .ok (.tableswitch 79 0 5 #[39, 46, 53, 60, 67, 73], 39) := by decide +kernel
theorem dX2_trait_40 : decode cX2_trait 40 = .ok (.aload_n 0, 1) := by decide +kernel
theorem dX2_trait_41 : decode cX2_trait 41 = .ok (.getfield 22, 3) := by decide +kernel
theorem dX2_trait_44 : decode cX2_trait 44 = .ok (.iload_n 1, 1) := by decide +kernel
theorem dX2_trait_45 : decode cX2_trait 45 = .ok (.iaload, 1) := by decide +kernel
theorem dX2_trait_46 : decode cX2_trait 46 = .ok (.ireturn, 1) := by decide +kernel
theorem dX2_trait_47 : decode cX2_trait 47 = .ok (.aload_n 0, 1) := by decide +kernel
theorem dX2_trait_48 : decode cX2_trait 48 = .ok (.getfield 25, 3) := by decide +kernel
theorem dX2_trait_51 : decode cX2_trait 51 = .ok (.iload_n 1, 1) := by decide +kernel
theorem dX2_trait_52 : decode cX2_trait 52 = .ok (.iaload, 1) := by decide +kernel
theorem dX2_trait_53 : decode cX2_trait 53 = .ok (.ireturn, 1) := by decide +kernel
theorem dX2_trait_54 : decode cX2_trait 54 = .ok (.aload_n 0, 1) := by decide +kernel
theorem dX2_trait_55 : decode cX2_trait 55 = .ok (.getfield 28, 3) := by decide +kernel
theorem dX2_trait_58 : decode cX2_trait 58 = .ok (.iload_n 1, 1) := by decide +kernel
theorem dX2_trait_59 : decode cX2_trait 59 = .ok (.iaload, 1) := by decide +kernel
theorem dX2_trait_60 : decode cX2_trait 60 = .ok (.ireturn, 1) := by decide +kernel
theorem dX2_trait_61 : decode cX2_trait 61 = .ok (.aload_n 0, 1) := by decide +kernel
theorem dX2_trait_62 : decode cX2_trait 62 = .ok (.getfield 31, 3) := by decide +kernel
theorem dX2_trait_65 : decode cX2_trait 65 = .ok (.iload_n 1, 1) := by decide +kernel
theorem dX2_trait_66 : decode cX2_trait 66 = .ok (.iaload, 1) := by decide +kernel
theorem dX2_trait_67 : decode cX2_trait 67 = .ok (.ireturn, 1) := by decide +kernel
theorem dX2_trait_68 : decode cX2_trait 68 = .ok (.aload_n 0, 1) := by decide +kernel
theorem dX2_trait_69 : decode cX2_trait 69 = .ok (.iload_n 1, 1) := by decide +kernel
theorem dX2_trait_70 : decode cX2_trait 70 = .ok (.invokevirtual 56, 3) := by decide +kernel
theorem dX2_trait_73 : decode cX2_trait 73 = .ok (.ireturn, 1) := by decide +kernel
theorem dX2_trait_74 : decode cX2_trait 74 = .ok (.aload_n 0, 1) := by decide +kernel
theorem dX2_trait_75 : decode cX2_trait 75 = .ok (.iload_n 1, 1) := by decide +kernel
theorem dX2_trait_76 : decode cX2_trait 76 = .ok (.invokevirtual 60, 3) := by decide +kernel
theorem dX2_trait_79 : decode cX2_trait 79 = .ok (.ireturn, 1) := by decide +kernel
theorem dX2_trait_80 : decode cX2_trait 80 = .ok (.aload_n 0, 1) := by decide +kernel
theorem dX2_trait_81 : decode cX2_trait 81 = .ok (.iload_n 1, 1) := by decide +kernel
theorem dX2_trait_82 : decode cX2_trait 82 = .ok (.invokevirtual 63, 3) := by decide +kernel
theorem dX2_trait_85 : decode cX2_trait 85 = .ok (.ireturn, 1) := by decide +kernel
theorem dX2_draw_0 : decode cX2_draw 0 = .ok (.aload_n 0, 1) := by decide +kernel
theorem dX2_draw_1 : decode cX2_draw 1 = .ok (.aload_n 0, 1) := by decide +kernel
theorem dX2_draw_2 : decode cX2_draw 2 = .ok (.getfield 15, 3) := by decide +kernel
theorem dX2_draw_5 : decode cX2_draw 5 = .ok (.ldc 66, 2) := by decide +kernel
theorem dX2_draw_7 : decode cX2_draw 7 = .ok (.imul, 1) := by decide +kernel
theorem dX2_draw_8 : decode cX2_draw 8 = .ok (.sipush 12345, 3) := by decide +kernel
theorem dX2_draw_11 : decode cX2_draw 11 = .ok (.iadd, 1) := by decide +kernel
theorem dX2_draw_12 : decode cX2_draw 12 = .ok (.putfield 15, 3) := by decide +kernel
theorem dX2_draw_15 : decode cX2_draw 15 = .ok (.aload_n 0, 1) := by decide +kernel
theorem dX2_draw_16 : decode cX2_draw 16 = .ok (.getfield 15, 3) := by decide +kernel
theorem dX2_draw_19 : decode cX2_draw 19 = .ok (.bipush 8, 2) := by decide +kernel
theorem dX2_draw_21 : decode cX2_draw 21 = .ok (.iushr, 1) := by decide +kernel
theorem dX2_draw_22 : decode cX2_draw 22 = .ok (.ireturn, 1) := by decide +kernel
set_option maxRecDepth 20000 in
theorem ggX2_left_X2_at : GoodIn wsX2_left wsX2_at := goodIn_r _ [5] (by decide +kernel) (by decide +kernel)
set_option maxRecDepth 20000 in
theorem gX2_left_X2_at : GoodIn wsX2_left (va_wsS RX2 52 yX2_at wsX2_at) := goodIn_app (goodIn_of _ (by decide +kernel)) ggX2_left_X2_at
theorem dX2_left_0 : decode cX2_left 0 = .ok (.iconst 0, 1) := by decide +kernel
theorem dX2_left_1 : decode cX2_left 1 = .ok (.istore_n 2, 1) := by decide +kernel
theorem dX2_left_2 : decode cX2_left 2 = .ok (.iconst 0, 1) := by decide +kernel
theorem dX2_left_3 : decode cX2_left 3 = .ok (.istore_n 3, 1) := by decide +kernel
theorem dX2_left_4 : decode cX2_left 4 = .ok (.iload_n 3, 1) := by decide +kernel
theorem dX2_left_5 : decode cX2_left 5 = .ok (.bipush 6, 2) := by decide +kernel
theorem dX2_left_7 : decode cX2_left 7 = .ok (.if_icmp .ge 22, 3) := by decide +kernel
theorem dX2_left_10 : decode cX2_left 10 = .ok (.iload_n 2, 1) := by decide +kernel
theorem dX2_left_11 : decode cX2_left 11 = .ok (.aload_n 0, 1) := by decide +kernel
theorem dX2_left_12 : decode cX2_left 12 = .ok (.getfield 34, 3) := by decide +kernel
theorem dX2_left_15 : decode cX2_left 15 = .ok (.iload_n 1, 1) := by decide +kernel
theorem dX2_left_16 : decode cX2_left 16 = .ok (.iload_n 3, 1) := by decide +kernel
theorem dX2_left_17 : decode cX2_left 17 = .ok (.invokestatic 52, 3) := by decide +kernel
theorem dX2_left_20 : decode cX2_left 20 = .ok (.iaload, 1) := by decide +kernel
theorem dX2_left_21 : decode cX2_left 21 = .ok (.iadd, 1) := by decide +kernel
theorem dX2_left_22 : decode cX2_left 22 = .ok (.istore_n 2, 1) := by decide +kernel
theorem dX2_left_23 : decode cX2_left 23 = .ok (.iinc 3 1, 3) := by decide +kernel
theorem dX2_left_26 : decode cX2_left 26 = .ok (.goto (-22), 3) := by decide +kernel
theorem dX2_left_29 : decode cX2_left 29 = .ok (.iload_n 2, 1) := by decide +kernel
theorem dX2_left_30 : decode cX2_left 30 = .ok (.ireturn, 1) := by decide +kernel
set_option maxRecDepth 20000 in
theorem ggX2_allLeft_X2_left : GoodIn wsX2_allLeft wsX2_left := goodIn_r _ [6, 7, 8, 9, 5, 10, 11, 12, 13, 14, 15, 16, 17, 18, 19, 20, 21, 22] (by decide +kernel) (by decide +kernel)
set_option maxRecDepth 20000 in
theorem gX2_allLeft_X2_left : GoodIn wsX2_allLeft (wsV RX2 60 RX2 yX2_left wsX2_left) := goodIn_app (goodIn_of _ (by decide +kernel)) ggX2_allLeft_X2_left
theorem dX2_allLeft_0 : decode cX2_allLeft 0 = .ok (.iconst 0, 1) := by decide +kernel
theorem dX2_allLeft_1 : decode cX2_allLeft 1 = .ok (.istore_n 1, 1) := by decide +kernel
theorem dX2_allLeft_2 : decode cX2_allLeft 2 = .ok (.iconst 0, 1) := by decide +kernel
theorem dX2_allLeft_3 : decode cX2_allLeft 3 = .ok (.istore_n 2, 1) := by decide +kernel
theorem dX2_allLeft_4 : decode cX2_allLeft 4 = .ok (.iload_n 2, 1) := by decide +kernel
theorem dX2_allLeft_5 : decode cX2_allLeft 5 = .ok (.aload_n 0, 1) := by decide +kernel
theorem dX2_allLeft_6 : decode cX2_allLeft 6 = .ok (.getfield 43, 3) := by decide +kernel
theorem dX2_allLeft_9 : decode cX2_allLeft 9 = .ok (.if_icmp .ge 17, 3) := by decide +kernel
theorem dX2_allLeft_12 : decode cX2_allLeft 12 = .ok (.iload_n 1, 1) := by decide +kernel
theorem dX2_allLeft_13 : decode cX2_allLeft 13 = .ok (.aload_n 0, 1) := by decide +kernel
theorem dX2_allLeft_14 : decode cX2_allLeft 14 = .ok (.iload_n 2, 1) := by decide +kernel
theorem dX2_allLeft_15 : decode cX2_allLeft 15 = .ok (.invokevirtual 60, 3) := by decide +kernel
theorem dX2_allLeft_18 : decode cX2_allLeft 18 = .ok (.iadd, 1) := by decide +kernel
theorem dX2_allLeft_19 : decode cX2_allLeft 19 = .ok (.istore_n 1, 1) := by decide +kernel
theorem dX2_allLeft_20 : decode cX2_allLeft 20 = .ok (.iinc 2 1, 3) := by decide +kernel
theorem dX2_allLeft_23 : decode cX2_allLeft 23 = .ok (.goto (-19), 3) := by decide +kernel
theorem dX2_allLeft_26 : decode cX2_allLeft 26 = .ok (.iload_n 1, 1) := by decide +kernel
theorem dX2_allLeft_27 : decode cX2_allLeft 27 = .ok (.ireturn, 1) := by decide +kernel
theorem dX2_allOf_0 : decode cX2_allOf 0 = .ok (.iconst 0, 1) := by decide +kernel
theorem dX2_allOf_1 : decode cX2_allOf 1 = .ok (.istore_n 2, 1) := by decide +kernel
theorem dX2_allOf_2 : decode cX2_allOf 2 = .ok (.iconst 0, 1) := by decide +kernel
theorem dX2_allOf_3 : decode cX2_allOf 3 = .ok (.istore_n 3, 1) := by decide +kernel
theorem dX2_allOf_4 : decode cX2_allOf 4 = .ok (.iload_n 3, 1) := by decide +kernel
theorem dX2_allOf_5 : decode cX2_allOf 5 = .ok (.aload_n 0, 1) := by decide +kernel
theorem dX2_allOf_6 : decode cX2_allOf 6 = .ok (.getfield 43, 3) := by decide +kernel
theorem dX2_allOf_9 : decode cX2_allOf 9 = .ok (.if_icmp .ge 15, 3) := by decide +kernel
theorem dX2_allOf_12 : decode cX2_allOf 12 = .ok (.iload_n 2, 1) := by decide +kernel
theorem dX2_allOf_13 : decode cX2_allOf 13 = .ok (.aload_n 1, 1) := by decide +kernel
theorem dX2_allOf_14 : decode cX2_allOf 14 = .ok (.iload_n 3, 1) := by decide +kernel
theorem dX2_allOf_15 : decode cX2_allOf 15 = .ok (.iaload, 1) := by decide +kernel
theorem dX2_allOf_16 : decode cX2_allOf 16 = .ok (.iadd, 1) := by decide +kernel
theorem dX2_allOf_17 : decode cX2_allOf 17 = .ok (.istore_n 2, 1) := by decide +kernel
theorem dX2_allOf_18 : decode cX2_allOf 18 = .ok (.iinc 3 1, 3) := by decide +kernel
theorem dX2_allOf_21 : decode cX2_allOf 21 = .ok (.goto (-17), 3) := by decide +kernel
theorem dX2_allOf_24 : decode cX2_allOf 24 = .ok (.iload_n 2, 1) := by decide +kernel
theorem dX2_allOf_25 : decode cX2_allOf 25 = .ok (.ireturn, 1) := by decide +kernel
set_option maxRecDepth 20000 in
theorem ggX2_tastesOn_X2_at : GoodIn wsX2_tastesOn wsX2_at := goodIn_r _ [5] (by decide +kernel) (by decide +kernel)
set_option maxRecDepth 20000 in
theorem gX2_tastesOn_X2_at : GoodIn wsX2_tastesOn (va_wsS RX2 52 yX2_at wsX2_at) := goodIn_app (goodIn_of _ (by decide +kernel)) ggX2_tastesOn_X2_at
theorem dX2_tastesOn_0 : decode cX2_tastesOn 0 = .ok (.iconst 0, 1) := by decide +kernel
theorem dX2_tastesOn_1 : decode cX2_tastesOn 1 = .ok (.istore_n 2, 1) := by decide +kernel
theorem dX2_tastesOn_2 : decode cX2_tastesOn 2 = .ok (.iconst 0, 1) := by decide +kernel
theorem dX2_tastesOn_3 : decode cX2_tastesOn 3 = .ok (.istore_n 3, 1) := by decide +kernel
theorem dX2_tastesOn_4 : decode cX2_tastesOn 4 = .ok (.iload_n 3, 1) := by decide +kernel
theorem dX2_tastesOn_5 : decode cX2_tastesOn 5 = .ok (.bipush 6, 2) := by decide +kernel
theorem dX2_tastesOn_7 : decode cX2_tastesOn 7 = .ok (.if_icmp .ge 28, 3) := by decide +kernel
theorem dX2_tastesOn_10 : decode cX2_tastesOn 10 = .ok (.aload_n 0, 1) := by decide +kernel
theorem dX2_tastesOn_11 : decode cX2_tastesOn 11 = .ok (.getfield 34, 3) := by decide +kernel
theorem dX2_tastesOn_14 : decode cX2_tastesOn 14 = .ok (.iload_n 1, 1) := by decide +kernel
theorem dX2_tastesOn_15 : decode cX2_tastesOn 15 = .ok (.iload_n 3, 1) := by decide +kernel
theorem dX2_tastesOn_16 : decode cX2_tastesOn 16 = .ok (.invokestatic 52, 3) := by decide +kernel
theorem dX2_tastesOn_19 : decode cX2_tastesOn 19 = .ok (.iaload, 1) := by decide +kernel
theorem dX2_tastesOn_20 : decode cX2_tastesOn 20 = .ok (.ifCond .le 9, 3) := by decide +kernel
theorem dX2_tastesOn_23 : decode cX2_tastesOn 23 = .ok (.iload_n 2, 1) := by decide +kernel
theorem dX2_tastesOn_24 : decode cX2_tastesOn 24 = .ok (.iconst 1, 1) := by decide +kernel
theorem dX2_tastesOn_25 : decode cX2_tastesOn 25 = .ok (.iload_n 3, 1) := by decide +kernel
theorem dX2_tastesOn_26 : decode cX2_tastesOn 26 = .ok (.ishl, 1) := by decide +kernel
theorem dX2_tastesOn_27 : decode cX2_tastesOn 27 = .ok (.ior, 1) := by decide +kernel
theorem dX2_tastesOn_28 : decode cX2_tastesOn 28 = .ok (.istore_n 2, 1) := by decide +kernel
theorem dX2_tastesOn_29 : decode cX2_tastesOn 29 = .ok (.iinc 3 1, 3) := by decide +kernel
theorem dX2_tastesOn_32 : decode cX2_tastesOn 32 = .ok (.goto (-28), 3) := by decide +kernel
theorem dX2_tastesOn_35 : decode cX2_tastesOn 35 = .ok (.iload_n 2, 1) := by decide +kernel
theorem dX2_tastesOn_36 : decode cX2_tastesOn 36 = .ok (.ireturn, 1) := by decide +kernel
set_option maxRecDepth 20000 in
theorem ggX2_cleanOnes_X2_left : GoodIn wsX2_cleanOnes wsX2_left := goodIn_r _ [6, 7, 8, 9, 5, 10, 11, 12, 13, 14, 15, 16, 17, 18, 19, 20, 21, 22] (by decide +kernel) (by decide +kernel)
set_option maxRecDepth 20000 in
theorem gX2_cleanOnes_X2_left : GoodIn wsX2_cleanOnes (wsV RX2 60 RX2 yX2_left wsX2_left) := goodIn_app (goodIn_of _ (by decide +kernel)) ggX2_cleanOnes_X2_left
theorem dX2_cleanOnes_0 : decode cX2_cleanOnes 0 = .ok (.iconst 0, 1) := by decide +kernel
theorem dX2_cleanOnes_1 : decode cX2_cleanOnes 1 = .ok (.istore_n 1, 1) := by decide +kernel
theorem dX2_cleanOnes_2 : decode cX2_cleanOnes 2 = .ok (.iconst 0, 1) := by decide +kernel
theorem dX2_cleanOnes_3 : decode cX2_cleanOnes 3 = .ok (.istore_n 2, 1) := by decide +kernel
theorem dX2_cleanOnes_4 : decode cX2_cleanOnes 4 = .ok (.iload_n 2, 1) := by decide +kernel
theorem dX2_cleanOnes_5 : decode cX2_cleanOnes 5 = .ok (.aload_n 0, 1) := by decide +kernel
theorem dX2_cleanOnes_6 : decode cX2_cleanOnes 6 = .ok (.getfield 43, 3) := by decide +kernel
theorem dX2_cleanOnes_9 : decode cX2_cleanOnes 9 = .ok (.if_icmp .ge 23, 3) := by decide +kernel
theorem dX2_cleanOnes_12 : decode cX2_cleanOnes 12 = .ok (.aload_n 0, 1) := by decide +kernel
theorem dX2_cleanOnes_13 : decode cX2_cleanOnes 13 = .ok (.iload_n 2, 1) := by decide +kernel
theorem dX2_cleanOnes_14 : decode cX2_cleanOnes 14 = .ok (.invokevirtual 60, 3) := by decide +kernel
theorem dX2_cleanOnes_17 : decode cX2_cleanOnes 17 = .ok (.ifCond .ne 9, 3) := by decide +kernel
theorem dX2_cleanOnes_20 : decode cX2_cleanOnes 20 = .ok (.iload_n 1, 1) := by decide +kernel
theorem dX2_cleanOnes_21 : decode cX2_cleanOnes 21 = .ok (.iconst 1, 1) := by decide +kernel
theorem dX2_cleanOnes_22 : decode cX2_cleanOnes 22 = .ok (.iload_n 2, 1) := by decide +kernel
theorem dX2_cleanOnes_23 : decode cX2_cleanOnes 23 = .ok (.ishl, 1) := by decide +kernel
theorem dX2_cleanOnes_24 : decode cX2_cleanOnes 24 = .ok (.ior, 1) := by decide +kernel
theorem dX2_cleanOnes_25 : decode cX2_cleanOnes 25 = .ok (.istore_n 1, 1) := by decide +kernel
theorem dX2_cleanOnes_26 : decode cX2_cleanOnes 26 = .ok (.iinc 2 1, 3) := by decide +kernel
theorem dX2_cleanOnes_29 : decode cX2_cleanOnes 29 = .ok (.goto (-25), 3) := by decide +kernel
theorem dX2_cleanOnes_32 : decode cX2_cleanOnes 32 = .ok (.iload_n 1, 1) := by decide +kernel
theorem dX2_cleanOnes_33 : decode cX2_cleanOnes 33 = .ok (.ireturn, 1) := by decide +kernel
set_option maxRecDepth 20000 in
theorem ggX2_lovedOnes_X2_isSeat : GoodIn wsX2_lovedOnes wsX2_isSeat := goodIn_r _ [7, 1, 8, 9, 10, 11, 12, 13, 14, 15, 16, 17, 18, 19] (by decide +kernel) (by decide +kernel)
set_option maxRecDepth 20000 in
theorem gX2_lovedOnes_X2_isSeat : GoodIn wsX2_lovedOnes (wsV RX2 67 RX2 yX2_isSeat wsX2_isSeat) := goodIn_app (goodIn_of _ (by decide +kernel)) ggX2_lovedOnes_X2_isSeat
theorem dX2_lovedOnes_0 : decode cX2_lovedOnes 0 = .ok (.iconst 0, 1) := by decide +kernel
theorem dX2_lovedOnes_1 : decode cX2_lovedOnes 1 = .ok (.istore_n 1, 1) := by decide +kernel
theorem dX2_lovedOnes_2 : decode cX2_lovedOnes 2 = .ok (.iconst 0, 1) := by decide +kernel
theorem dX2_lovedOnes_3 : decode cX2_lovedOnes 3 = .ok (.istore_n 2, 1) := by decide +kernel
theorem dX2_lovedOnes_4 : decode cX2_lovedOnes 4 = .ok (.iload_n 2, 1) := by decide +kernel
theorem dX2_lovedOnes_5 : decode cX2_lovedOnes 5 = .ok (.aload_n 0, 1) := by decide +kernel
theorem dX2_lovedOnes_6 : decode cX2_lovedOnes 6 = .ok (.getfield 43, 3) := by decide +kernel
theorem dX2_lovedOnes_9 : decode cX2_lovedOnes 9 = .ok (.if_icmp .ge 33, 3) := by decide +kernel
theorem dX2_lovedOnes_12 : decode cX2_lovedOnes 12 = .ok (.aload_n 0, 1) := by decide +kernel
theorem dX2_lovedOnes_13 : decode cX2_lovedOnes 13 = .ok (.aload_n 0, 1) := by decide +kernel
theorem dX2_lovedOnes_14 : decode cX2_lovedOnes 14 = .ok (.getfield 25, 3) := by decide +kernel
theorem dX2_lovedOnes_17 : decode cX2_lovedOnes 17 = .ok (.iload_n 2, 1) := by decide +kernel
theorem dX2_lovedOnes_18 : decode cX2_lovedOnes 18 = .ok (.iaload, 1) := by decide +kernel
theorem dX2_lovedOnes_19 : decode cX2_lovedOnes 19 = .ok (.invokevirtual 67, 3) := by decide +kernel
theorem dX2_lovedOnes_22 : decode cX2_lovedOnes 22 = .ok (.ifCond .eq 14, 3) := by decide +kernel
theorem dX2_lovedOnes_25 : decode cX2_lovedOnes 25 = .ok (.iload_n 1, 1) := by decide +kernel
theorem dX2_lovedOnes_26 : decode cX2_lovedOnes 26 = .ok (.iconst 1, 1) := by decide +kernel
theorem dX2_lovedOnes_27 : decode cX2_lovedOnes 27 = .ok (.aload_n 0, 1) := by decide +kernel
theorem dX2_lovedOnes_28 : decode cX2_lovedOnes 28 = .ok (.getfield 25, 3) := by decide +kernel
theorem dX2_lovedOnes_31 : decode cX2_lovedOnes 31 = .ok (.iload_n 2, 1) := by decide +kernel
theorem dX2_lovedOnes_32 : decode cX2_lovedOnes 32 = .ok (.iaload, 1) := by decide +kernel
theorem dX2_lovedOnes_33 : decode cX2_lovedOnes 33 = .ok (.ishl, 1) := by decide +kernel
theorem dX2_lovedOnes_34 : decode cX2_lovedOnes 34 = .ok (.ior, 1) := by decide +kernel
theorem dX2_lovedOnes_35 : decode cX2_lovedOnes 35 = .ok (.istore_n 1, 1) := by decide +kernel
theorem dX2_lovedOnes_36 : decode cX2_lovedOnes 36 = .ok (.iinc 2 1, 3) := by decide +kernel
theorem dX2_lovedOnes_39 : decode cX2_lovedOnes 39 = .ok (.goto (-35), 3) := by decide +kernel
theorem dX2_lovedOnes_42 : decode cX2_lovedOnes 42 = .ok (.iload_n 1, 1) := by decide +kernel
theorem dX2_lovedOnes_43 : decode cX2_lovedOnes 43 = .ok (.ireturn, 1) := by decide +kernel
set_option maxRecDepth 20000 in
theorem ggX2_fullest_X2_left : GoodIn wsX2_fullest wsX2_left := goodIn_r _ [6, 7, 8, 9, 5, 10, 11, 12, 13, 14, 15, 16, 17, 18, 19, 20, 21, 22] (by decide +kernel) (by decide +kernel)
set_option maxRecDepth 20000 in
theorem gX2_fullest_X2_left : GoodIn wsX2_fullest (wsV RX2 60 RX2 yX2_left wsX2_left) := goodIn_app (goodIn_of _ (by decide +kernel)) ggX2_fullest_X2_left
theorem dX2_fullest_0 : decode cX2_fullest 0 = .ok (.iconst (-1), 1) := by decide +kernel
theorem dX2_fullest_1 : decode cX2_fullest 1 = .ok (.istore_n 1, 1) := by decide +kernel
theorem dX2_fullest_2 : decode cX2_fullest 2 = .ok (.iconst (-1), 1) := by decide +kernel
theorem dX2_fullest_3 : decode cX2_fullest 3 = .ok (.istore_n 2, 1) := by decide +kernel
theorem dX2_fullest_4 : decode cX2_fullest 4 = .ok (.iconst 0, 1) := by decide +kernel
theorem dX2_fullest_5 : decode cX2_fullest 5 = .ok (.istore_n 3, 1) := by decide +kernel
theorem dX2_fullest_6 : decode cX2_fullest 6 = .ok (.iload_n 3, 1) := by decide +kernel
theorem dX2_fullest_7 : decode cX2_fullest 7 = .ok (.aload_n 0, 1) := by decide +kernel
theorem dX2_fullest_8 : decode cX2_fullest 8 = .ok (.getfield 43, 3) := by decide +kernel
theorem dX2_fullest_11 : decode cX2_fullest 11 = .ok (.if_icmp .ge 26, 3) := by decide +kernel
theorem dX2_fullest_14 : decode cX2_fullest 14 = .ok (.aload_n 0, 1) := by decide +kernel
theorem dX2_fullest_15 : decode cX2_fullest 15 = .ok (.iload_n 3, 1) := by decide +kernel
theorem dX2_fullest_16 : decode cX2_fullest 16 = .ok (.invokevirtual 60, 3) := by decide +kernel
theorem dX2_fullest_19 : decode cX2_fullest 19 = .ok (.iload_n 2, 1) := by decide +kernel
theorem dX2_fullest_20 : decode cX2_fullest 20 = .ok (.if_icmp .le 11, 3) := by decide +kernel
theorem dX2_fullest_23 : decode cX2_fullest 23 = .ok (.aload_n 0, 1) := by decide +kernel
theorem dX2_fullest_24 : decode cX2_fullest 24 = .ok (.iload_n 3, 1) := by decide +kernel
theorem dX2_fullest_25 : decode cX2_fullest 25 = .ok (.invokevirtual 60, 3) := by decide +kernel
theorem dX2_fullest_28 : decode cX2_fullest 28 = .ok (.istore_n 2, 1) := by decide +kernel
theorem dX2_fullest_29 : decode cX2_fullest 29 = .ok (.iload_n 3, 1) := by decide +kernel
theorem dX2_fullest_30 : decode cX2_fullest 30 = .ok (.istore_n 1, 1) := by decide +kernel
theorem dX2_fullest_31 : decode cX2_fullest 31 = .ok (.iinc 3 1, 3) := by decide +kernel
theorem dX2_fullest_34 : decode cX2_fullest 34 = .ok (.goto (-28), 3) := by decide +kernel
theorem dX2_fullest_37 : decode cX2_fullest 37 = .ok (.iload_n 1, 1) := by decide +kernel
theorem dX2_fullest_38 : decode cX2_fullest 38 = .ok (.ireturn, 1) := by decide +kernel
theorem dX2_heldSpots_0 : decode cX2_heldSpots 0 = .ok (.iconst 0, 1) := by decide +kernel
theorem dX2_heldSpots_1 : decode cX2_heldSpots 1 = .ok (.istore_n 1, 1) := by decide +kernel
theorem dX2_heldSpots_2 : decode cX2_heldSpots 2 = .ok (.iconst 0, 1) := by decide +kernel
theorem dX2_heldSpots_3 : decode cX2_heldSpots 3 = .ok (.istore_n 2, 1) := by decide +kernel
theorem dX2_heldSpots_4 : decode cX2_heldSpots 4 = .ok (.iload_n 2, 1) := by decide +kernel
theorem dX2_heldSpots_5 : decode cX2_heldSpots 5 = .ok (.bipush 10, 2) := by decide +kernel
theorem dX2_heldSpots_7 : decode cX2_heldSpots 7 = .ok (.if_icmp .ge 22, 3) := by decide +kernel
theorem dX2_heldSpots_10 : decode cX2_heldSpots 10 = .ok (.aload_n 0, 1) := by decide +kernel
theorem dX2_heldSpots_11 : decode cX2_heldSpots 11 = .ok (.getfield 37, 3) := by decide +kernel
theorem dX2_heldSpots_14 : decode cX2_heldSpots 14 = .ok (.iload_n 2, 1) := by decide +kernel
theorem dX2_heldSpots_15 : decode cX2_heldSpots 15 = .ok (.iaload, 1) := by decide +kernel
theorem dX2_heldSpots_16 : decode cX2_heldSpots 16 = .ok (.iconst (-1), 1) := by decide +kernel
theorem dX2_heldSpots_17 : decode cX2_heldSpots 17 = .ok (.if_icmp .eq 6, 3) := by decide +kernel
theorem dX2_heldSpots_20 : decode cX2_heldSpots 20 = .ok (.iinc 1 1, 3) := by decide +kernel
theorem dX2_heldSpots_23 : decode cX2_heldSpots 23 = .ok (.iinc 2 1, 3) := by decide +kernel
theorem dX2_heldSpots_26 : decode cX2_heldSpots 26 = .ok (.goto (-22), 3) := by decide +kernel
theorem dX2_heldSpots_29 : decode cX2_heldSpots 29 = .ok (.iload_n 1, 1) := by decide +kernel
theorem dX2_heldSpots_30 : decode cX2_heldSpots 30 = .ok (.ireturn, 1) := by decide +kernel
set_option maxRecDepth 20000 in
theorem ggX2_appetite_X2_left : GoodIn wsX2_appetite wsX2_left := goodIn_r _ [8, 9, 10, 11, 7, 12, 21, 22, 23, 24, 25, 26, 27, 28, 29, 30, 31, 32] (by decide +kernel) (by decide +kernel)
set_option maxRecDepth 20000 in
theorem gX2_appetite_X2_left : GoodIn wsX2_appetite (wsV RX2 60 RX2 yX2_left wsX2_left) := goodIn_app (goodIn_of _ (by decide +kernel)) ggX2_appetite_X2_left
set_option maxRecDepth 20000 in
theorem ggX2_appetite_X0_hunger : GoodIn wsX2_appetite wsX0_hunger := goodIn_r _ [16, 17, 18, 19, 20] (by decide +kernel) (by decide +kernel)
set_option maxRecDepth 20000 in
theorem gX2_appetite_X0_hunger : GoodIn wsX2_appetite (va_wsS RX2 71 yX0_hunger wsX0_hunger) := goodIn_app (goodIn_of _ (by decide +kernel)) ggX2_appetite_X0_hunger
theorem dX2_appetite_0 : decode cX2_appetite 0 = .ok (.aload_n 0, 1) := by decide +kernel
theorem dX2_appetite_1 : decode cX2_appetite 1 = .ok (.getfield 22, 3) := by decide +kernel
theorem dX2_appetite_4 : decode cX2_appetite 4 = .ok (.iload_n 1, 1) := by decide +kernel
theorem dX2_appetite_5 : decode cX2_appetite 5 = .ok (.iaload, 1) := by decide +kernel
theorem dX2_appetite_6 : decode cX2_appetite 6 = .ok (.aload_n 0, 1) := by decide +kernel
theorem dX2_appetite_7 : decode cX2_appetite 7 = .ok (.getfield 28, 3) := by decide +kernel
theorem dX2_appetite_10 : decode cX2_appetite 10 = .ok (.iload_n 1, 1) := by decide +kernel
theorem dX2_appetite_11 : decode cX2_appetite 11 = .ok (.iaload, 1) := by decide +kernel
theorem dX2_appetite_12 : decode cX2_appetite 12 = .ok (.aload_n 0, 1) := by decide +kernel
theorem dX2_appetite_13 : decode cX2_appetite 13 = .ok (.getfield 9, 3) := by decide +kernel
theorem dX2_appetite_16 : decode cX2_appetite 16 = .ok (.aload_n 0, 1) := by decide +kernel
theorem dX2_appetite_17 : decode cX2_appetite 17 = .ok (.iload_n 1, 1) := by decide +kernel
theorem dX2_appetite_18 : decode cX2_appetite 18 = .ok (.invokevirtual 60, 3) := by decide +kernel
theorem dX2_appetite_21 : decode cX2_appetite 21 = .ok (.ifCond .ne 7, 3) := by decide +kernel
theorem dX2_appetite_24 : decode cX2_appetite 24 = .ok (.iconst 1, 1) := by decide +kernel
theorem dX2_appetite_25 : decode cX2_appetite 25 = .ok (.goto 4, 3) := by decide +kernel
theorem dX2_appetite_28 : decode cX2_appetite 28 = .ok (.iconst 0, 1) := by decide +kernel
theorem dX2_appetite_29 : decode cX2_appetite 29 = .ok (.invokestatic 71, 3) := by decide +kernel
theorem dX2_appetite_32 : decode cX2_appetite 32 = .ok (.ireturn, 1) := by decide +kernel
set_option maxRecDepth 20000 in
theorem ggX2_swapPlates_X2_at : GoodIn wsX2_swapPlates wsX2_at := goodIn_r _ [5] (by decide +kernel) (by decide +kernel)
set_option maxRecDepth 20000 in
theorem gX2_swapPlates_X2_at : GoodIn wsX2_swapPlates (va_wsS RX2 52 yX2_at wsX2_at) := goodIn_app (goodIn_of _ (by decide +kernel)) ggX2_swapPlates_X2_at
theorem dX2_swapPlates_0 : decode cX2_swapPlates 0 = .ok (.iconst 0, 1) := by decide +kernel
theorem dX2_swapPlates_1 : decode cX2_swapPlates 1 = .ok (.istore_n 3, 1) := by decide +kernel
theorem dX2_swapPlates_2 : decode cX2_swapPlates 2 = .ok (.iload_n 3, 1) := by decide +kernel
theorem dX2_swapPlates_3 : decode cX2_swapPlates 3 = .ok (.bipush 6, 2) := by decide +kernel
theorem dX2_swapPlates_5 : decode cX2_swapPlates 5 = .ok (.if_icmp .ge 53, 3) := by decide +kernel
theorem dX2_swapPlates_8 : decode cX2_swapPlates 8 = .ok (.aload_n 0, 1) := by decide +kernel
theorem dX2_swapPlates_9 : decode cX2_swapPlates 9 = .ok (.getfield 34, 3) := by decide +kernel
theorem dX2_swapPlates_12 : decode cX2_swapPlates 12 = .ok (.iload_n 1, 1) := by decide +kernel
theorem dX2_swapPlates_13 : decode cX2_swapPlates 13 = .ok (.iload_n 3, 1) := by decide +kernel
theorem dX2_swapPlates_14 : decode cX2_swapPlates 14 = .ok (.invokestatic 52, 3) := by decide +kernel
theorem dX2_swapPlates_17 : decode cX2_swapPlates 17 = .ok (.iaload, 1) := by decide +kernel
theorem dX2_swapPlates_18 : decode cX2_swapPlates 18 = .ok (.istore 4, 2) := by decide +kernel
theorem dX2_swapPlates_20 : decode cX2_swapPlates 20 = .ok (.aload_n 0, 1) := by decide +kernel
theorem dX2_swapPlates_21 : decode cX2_swapPlates 21 = .ok (.getfield 34, 3) := by decide +kernel
theorem dX2_swapPlates_24 : decode cX2_swapPlates 24 = .ok (.iload_n 1, 1) := by decide +kernel
theorem dX2_swapPlates_25 : decode cX2_swapPlates 25 = .ok (.iload_n 3, 1) := by decide +kernel
theorem dX2_swapPlates_26 : decode cX2_swapPlates 26 = .ok (.invokestatic 52, 3) := by decide +kernel
theorem dX2_swapPlates_29 : decode cX2_swapPlates 29 = .ok (.aload_n 0, 1) := by decide +kernel
theorem dX2_swapPlates_30 : decode cX2_swapPlates 30 = .ok (.getfield 34, 3) := by decide +kernel
theorem dX2_swapPlates_33 : decode cX2_swapPlates 33 = .ok (.iload_n 2, 1) := by decide +kernel
theorem dX2_swapPlates_34 : decode cX2_swapPlates 34 = .ok (.iload_n 3, 1) := by decide +kernel
theorem dX2_swapPlates_35 : decode cX2_swapPlates 35 = .ok (.invokestatic 52, 3) := by decide +kernel
theorem dX2_swapPlates_38 : decode cX2_swapPlates 38 = .ok (.iaload, 1) := by decide +kernel
theorem dX2_swapPlates_39 : decode cX2_swapPlates 39 = .ok (.iastore, 1) := by decide +kernel
theorem dX2_swapPlates_40 : decode cX2_swapPlates 40 = .ok (.aload_n 0, 1) := by decide +kernel
theorem dX2_swapPlates_41 : decode cX2_swapPlates 41 = .ok (.getfield 34, 3) := by decide +kernel
theorem dX2_swapPlates_44 : decode cX2_swapPlates 44 = .ok (.iload_n 2, 1) := by decide +kernel
theorem dX2_swapPlates_45 : decode cX2_swapPlates 45 = .ok (.iload_n 3, 1) := by decide +kernel
theorem dX2_swapPlates_46 : decode cX2_swapPlates 46 = .ok (.invokestatic 52, 3) := by decide +kernel
theorem dX2_swapPlates_49 : decode cX2_swapPlates 49 = .ok (.iload 4, 2) := by decide +kernel
theorem dX2_swapPlates_51 : decode cX2_swapPlates 51 = .ok (.iastore, 1) := by decide +kernel
theorem dX2_swapPlates_52 : decode cX2_swapPlates 52 = .ok (.iinc 3 1, 3) := by decide +kernel
theorem dX2_swapPlates_55 : decode cX2_swapPlates 55 = .ok (.goto (-53), 3) := by decide +kernel
theorem dX2_swapPlates_58 : decode cX2_swapPlates 58 = .ok (.return_, 1) := by decide +kernel
set_option maxRecDepth 20000 in
theorem ggX2_passDays_X2_passDay : GoodIn wsX2_passDays wsX2_passDay := goodIn_r _ [5, 6, 7, 8, 9, 10, 11, 12, 13, 14, 15, 4, 16, 17, 18, 19, 20, 21, 22, 23, 24, 25, 26, 27, 28, 29, 30, 31, 32, 33, 34, 35, 36, 37, 38, 39, 40, 41, 42, 43, 44, 45, 46, 47, 48, 49, 50, 51, 52, 53, 54, 55, 56, 57, 58, 59, 60, 61, 62, 63, 64, 65, 66, 67, 68, 69, 70, 71, 72, 73, 74, 75, 76, 77, 78, 79, 80, 81, 82, 83, 84] (by decide +kernel) (by decide +kernel)
set_option maxRecDepth 20000 in
theorem gX2_passDays_X2_passDay : GoodIn wsX2_passDays (wsV RX2 77 RX2 yX2_passDay wsX2_passDay) := goodIn_app (goodIn_of _ (by decide +kernel)) ggX2_passDays_X2_passDay
theorem dX2_passDays_0 : decode cX2_passDays 0 = .ok (.iconst 0, 1) := by decide +kernel
theorem dX2_passDays_1 : decode cX2_passDays 1 = .ok (.istore_n 3, 1) := by decide +kernel
theorem dX2_passDays_2 : decode cX2_passDays 2 = .ok (.iload_n 3, 1) := by decide +kernel
theorem dX2_passDays_3 : decode cX2_passDays 3 = .ok (.iload_n 1, 1) := by decide +kernel
theorem dX2_passDays_4 : decode cX2_passDays 4 = .ok (.if_icmp .ge 14, 3) := by decide +kernel
theorem dX2_passDays_7 : decode cX2_passDays 7 = .ok (.aload_n 0, 1) := by decide +kernel
theorem dX2_passDays_8 : decode cX2_passDays 8 = .ok (.iload_n 2, 1) := by decide +kernel
theorem dX2_passDays_9 : decode cX2_passDays 9 = .ok (.invokevirtual 77, 3) := by decide +kernel
theorem dX2_passDays_12 : decode cX2_passDays 12 = .ok (.iinc 3 1, 3) := by decide +kernel
theorem dX2_passDays_15 : decode cX2_passDays 15 = .ok (.goto (-13), 3) := by decide +kernel
theorem dX2_passDays_18 : decode cX2_passDays 18 = .ok (.return_, 1) := by decide +kernel
set_option maxRecDepth 20000 in
theorem ggX2_passDay_X2_sayAll : GoodIn wsX2_passDay wsX2_sayAll := goodIn_r _ [12, 3, 13, 14, 15, 16, 17, 18, 19, 20, 21, 22, 23, 24, 11, 25, 26, 4, 5, 6, 7, 27, 28, 29, 69, 70, 71, 72, 73, 74, 75, 76, 77, 78, 79, 80] (by decide +kernel) (by decide +kernel)
set_option maxRecDepth 20000 in
theorem gX2_passDay_X2_sayAll : GoodIn wsX2_passDay (wsV RX2 81 RX2 yX2_sayAll wsX2_sayAll) := goodIn_app (goodIn_of _ (by decide +kernel)) ggX2_passDay_X2_sayAll
set_option maxRecDepth 20000 in
theorem ggX2_passDay_X2_sup : GoodIn wsX2_passDay wsX2_sup := goodIn_r _ [33, 34, 35, 36, 4, 5, 6, 7, 37, 38, 39, 40, 2, 41, 42, 43, 11, 44, 13, 45, 46, 47, 48, 49, 26, 27, 28, 29, 50, 51, 17, 52, 53, 54, 55, 56, 57, 58, 59, 60, 19, 20, 21, 61, 62, 63, 64, 65, 66, 67, 68, 1, 69, 70, 71, 72, 73, 74, 75, 76, 77, 78, 79, 80] (by decide +kernel) (by decide +kernel)
set_option maxRecDepth 20000 in
theorem gX2_passDay_X2_sup : GoodIn wsX2_passDay (wsV RX2 84 RX2 yX2_sup wsX2_sup) := goodIn_app (goodIn_of _ (by decide +kernel)) ggX2_passDay_X2_sup
theorem dX2_passDay_0 : decode cX2_passDay 0 = .ok (.iconst 0, 1) := by decide +kernel
theorem dX2_passDay_1 : decode cX2_passDay 1 = .ok (.istore_n 2, 1) := by decide +kernel
theorem dX2_passDay_2 : decode cX2_passDay 2 = .ok (.iload_n 2, 1) := by decide +kernel
theorem dX2_passDay_3 : decode cX2_passDay 3 = .ok (.aload_n 0, 1) := by decide +kernel
theorem dX2_passDay_4 : decode cX2_passDay 4 = .ok (.getfield 43, 3) := by decide +kernel
theorem dX2_passDay_7 : decode cX2_passDay 7 = .ok (.if_icmp .ge 22, 3) := by decide +kernel
theorem dX2_passDay_10 : decode cX2_passDay 10 = .ok (.iload_n 1, 1) := by decide +kernel
theorem dX2_passDay_11 : decode cX2_passDay 11 = .ok (.iload_n 2, 1) := by decide +kernel
theorem dX2_passDay_12 : decode cX2_passDay 12 = .ok (.ishr, 1) := by decide +kernel
theorem dX2_passDay_13 : decode cX2_passDay 13 = .ok (.iconst 1, 1) := by decide +kernel
theorem dX2_passDay_14 : decode cX2_passDay 14 = .ok (.iand, 1) := by decide +kernel
theorem dX2_passDay_15 : decode cX2_passDay 15 = .ok (.ifCond .ne 8, 3) := by decide +kernel
theorem dX2_passDay_18 : decode cX2_passDay 18 = .ok (.aload_n 0, 1) := by decide +kernel
theorem dX2_passDay_19 : decode cX2_passDay 19 = .ok (.iload_n 2, 1) := by decide +kernel
theorem dX2_passDay_20 : decode cX2_passDay 20 = .ok (.invokevirtual 81, 3) := by decide +kernel
theorem dX2_passDay_23 : decode cX2_passDay 23 = .ok (.iinc 2 1, 3) := by decide +kernel
theorem dX2_passDay_26 : decode cX2_passDay 26 = .ok (.goto (-24), 3) := by decide +kernel
theorem dX2_passDay_29 : decode cX2_passDay 29 = .ok (.iconst 0, 1) := by decide +kernel
theorem dX2_passDay_30 : decode cX2_passDay 30 = .ok (.istore_n 2, 1) := by decide +kernel
theorem dX2_passDay_31 : decode cX2_passDay 31 = .ok (.iload_n 2, 1) := by decide +kernel
theorem dX2_passDay_32 : decode cX2_passDay 32 = .ok (.aload_n 0, 1) := by decide +kernel
theorem dX2_passDay_33 : decode cX2_passDay 33 = .ok (.getfield 43, 3) := by decide +kernel
theorem dX2_passDay_36 : decode cX2_passDay 36 = .ok (.if_icmp .ge 14, 3) := by decide +kernel
theorem dX2_passDay_39 : decode cX2_passDay 39 = .ok (.aload_n 0, 1) := by decide +kernel
theorem dX2_passDay_40 : decode cX2_passDay 40 = .ok (.iload_n 2, 1) := by decide +kernel
theorem dX2_passDay_41 : decode cX2_passDay 41 = .ok (.invokevirtual 84, 3) := by decide +kernel
theorem dX2_passDay_44 : decode cX2_passDay 44 = .ok (.iinc 2 1, 3) := by decide +kernel
theorem dX2_passDay_47 : decode cX2_passDay 47 = .ok (.goto (-16), 3) := by decide +kernel
theorem dX2_passDay_50 : decode cX2_passDay 50 = .ok (.aload_n 0, 1) := by decide +kernel
theorem dX2_passDay_51 : decode cX2_passDay 51 = .ok (.ldc 87, 2) := by decide +kernel
theorem dX2_passDay_53 : decode cX2_passDay 53 = .ok (.aload_n 0, 1) := by decide +kernel
theorem dX2_passDay_54 : decode cX2_passDay 54 = .ok (.getfield 40, 3) := by decide +kernel
theorem dX2_passDay_57 : decode cX2_passDay 57 = .ok (.iconst 1, 1) := by decide +kernel
theorem dX2_passDay_58 : decode cX2_passDay 58 = .ok (.iadd, 1) := by decide +kernel
theorem dX2_passDay_59 : decode cX2_passDay 59 = .ok (.invokestatic 88, 3) := by decide +kernel
theorem dX2_passDay_62 : decode cX2_passDay 62 = .ok (.putfield 40, 3) := by decide +kernel
theorem dX2_passDay_65 : decode cX2_passDay 65 = .ok (.return_, 1) := by decide +kernel
set_option maxRecDepth 20000 in
theorem ggX2_sayAll_X0_words : GoodIn wsX2_sayAll wsX0_words := goodIn_r _ [7, 8, 9, 6, 10] (by decide +kernel) (by decide +kernel)
set_option maxRecDepth 20000 in
theorem gX2_sayAll_X0_words : GoodIn wsX2_sayAll (va_wsS RX2 93 yX0_words wsX0_words) := goodIn_app (goodIn_of _ (by decide +kernel)) ggX2_sayAll_X0_words
set_option maxRecDepth 20000 in
theorem ggX2_sayAll_X2_say : GoodIn wsX2_sayAll wsX2_say := goodIn_r _ [15, 16, 17, 18, 19, 20, 21, 22, 14, 23, 24, 25, 26, 27, 28, 29, 30, 31, 32, 33, 34, 35] (by decide +kernel) (by decide +kernel)
set_option maxRecDepth 20000 in
theorem gX2_sayAll_X2_say : GoodIn wsX2_sayAll (wsV RX2 97 RX2 yX2_say wsX2_say) := goodIn_app (goodIn_of _ (by decide +kernel)) ggX2_sayAll_X2_say
theorem dX2_sayAll_0 : decode cX2_sayAll 0 = .ok (.aload_n 0, 1) := by decide +kernel
theorem dX2_sayAll_1 : decode cX2_sayAll 1 = .ok (.getfield 40, 3) := by decide +kernel
theorem dX2_sayAll_4 : decode cX2_sayAll 4 = .ok (.bipush 8, 2) := by decide +kernel
theorem dX2_sayAll_6 : decode cX2_sayAll 6 = .ok (.irem, 1) := by decide +kernel
theorem dX2_sayAll_7 : decode cX2_sayAll 7 = .ok (.iload_n 1, 1) := by decide +kernel
theorem dX2_sayAll_8 : decode cX2_sayAll 8 = .ok (.if_icmp .ne 7, 3) := by decide +kernel
theorem dX2_sayAll_11 : decode cX2_sayAll 11 = .ok (.iconst 1, 1) := by decide +kernel
theorem dX2_sayAll_12 : decode cX2_sayAll 12 = .ok (.goto 4, 3) := by decide +kernel
theorem dX2_sayAll_15 : decode cX2_sayAll 15 = .ok (.iconst 0, 1) := by decide +kernel
theorem dX2_sayAll_16 : decode cX2_sayAll 16 = .ok (.istore_n 2, 1) := by decide +kernel
theorem dX2_sayAll_17 : decode cX2_sayAll 17 = .ok (.iconst 0, 1) := by decide +kernel
theorem dX2_sayAll_18 : decode cX2_sayAll 18 = .ok (.istore_n 3, 1) := by decide +kernel
theorem dX2_sayAll_19 : decode cX2_sayAll 19 = .ok (.iload_n 3, 1) := by decide +kernel
theorem dX2_sayAll_20 : decode cX2_sayAll 20 = .ok (.bipush 6, 2) := by decide +kernel
theorem dX2_sayAll_22 : decode cX2_sayAll 22 = .ok (.if_icmp .ge 53, 3) := by decide +kernel
theorem dX2_sayAll_25 : decode cX2_sayAll 25 = .ok (.aload_n 0, 1) := by decide +kernel
theorem dX2_sayAll_26 : decode cX2_sayAll 26 = .ok (.getfield 22, 3) := by decide +kernel
theorem dX2_sayAll_29 : decode cX2_sayAll 29 = .ok (.iload_n 1, 1) := by decide +kernel
theorem dX2_sayAll_30 : decode cX2_sayAll 30 = .ok (.iaload, 1) := by decide +kernel
theorem dX2_sayAll_31 : decode cX2_sayAll 31 = .ok (.iload_n 3, 1) := by decide +kernel
theorem dX2_sayAll_32 : decode cX2_sayAll 32 = .ok (.aload_n 0, 1) := by decide +kernel
theorem dX2_sayAll_33 : decode cX2_sayAll 33 = .ok (.getfield 40, 3) := by decide +kernel
theorem dX2_sayAll_36 : decode cX2_sayAll 36 = .ok (.invokestatic 93, 3) := by decide +kernel
theorem dX2_sayAll_39 : decode cX2_sayAll 39 = .ok (.istore 4, 2) := by decide +kernel
theorem dX2_sayAll_41 : decode cX2_sayAll 41 = .ok (.iload_n 2, 1) := by decide +kernel
theorem dX2_sayAll_42 : decode cX2_sayAll 42 = .ok (.ifCond .eq 14, 3) := by decide +kernel
theorem dX2_sayAll_45 : decode cX2_sayAll 45 = .ok (.iload 4, 2) := by decide +kernel
theorem dX2_sayAll_47 : decode cX2_sayAll 47 = .ok (.aload_n 0, 1) := by decide +kernel
theorem dX2_sayAll_48 : decode cX2_sayAll 48 = .ok (.getfield 18, 3) := by decide +kernel
theorem dX2_sayAll_51 : decode cX2_sayAll 51 = .ok (.iload_n 3, 1) := by decide +kernel
theorem dX2_sayAll_52 : decode cX2_sayAll 52 = .ok (.iaload, 1) := by decide +kernel
theorem dX2_sayAll_53 : decode cX2_sayAll 53 = .ok (.iadd, 1) := by decide +kernel
theorem dX2_sayAll_54 : decode cX2_sayAll 54 = .ok (.istore 4, 2) := by decide +kernel
theorem dX2_sayAll_56 : decode cX2_sayAll 56 = .ok (.iload 4, 2) := by decide +kernel
theorem dX2_sayAll_58 : decode cX2_sayAll 58 = .ok (.ifCond .le 11, 3) := by decide +kernel
theorem dX2_sayAll_61 : decode cX2_sayAll 61 = .ok (.aload_n 0, 1) := by decide +kernel
theorem dX2_sayAll_62 : decode cX2_sayAll 62 = .ok (.iload_n 1, 1) := by decide +kernel
theorem dX2_sayAll_63 : decode cX2_sayAll 63 = .ok (.iload_n 3, 1) := by decide +kernel
theorem dX2_sayAll_64 : decode cX2_sayAll 64 = .ok (.iload 4, 2) := by decide +kernel
theorem dX2_sayAll_66 : decode cX2_sayAll 66 = .ok (.invokevirtual 97, 3) := by decide +kernel
theorem dX2_sayAll_69 : decode cX2_sayAll 69 = .ok (.iinc 3 1, 3) := by decide +kernel
theorem dX2_sayAll_72 : decode cX2_sayAll 72 = .ok (.goto (-53), 3) := by decide +kernel
theorem dX2_sayAll_75 : decode cX2_sayAll 75 = .ok (.return_, 1) := by decide +kernel
set_option maxRecDepth 20000 in
theorem ggX2_say_X2_at : GoodIn wsX2_say wsX2_at := goodIn_r _ [9] (by decide +kernel) (by decide +kernel)
set_option maxRecDepth 20000 in
theorem gX2_say_X2_at : GoodIn wsX2_say (va_wsS RX2 52 yX2_at wsX2_at) := goodIn_app (goodIn_of _ (by decide +kernel)) ggX2_say_X2_at
theorem dX2_say_0 : decode cX2_say 0 = .ok (.iload_n 1, 1) := by decide +kernel
theorem dX2_say_1 : decode cX2_say 1 = .ok (.iload_n 2, 1) := by decide +kernel
theorem dX2_say_2 : decode cX2_say 2 = .ok (.invokestatic 52, 3) := by decide +kernel
theorem dX2_say_5 : decode cX2_say 5 = .ok (.istore 4, 2) := by decide +kernel
theorem dX2_say_7 : decode cX2_say 7 = .ok (.aload_n 0, 1) := by decide +kernel
theorem dX2_say_8 : decode cX2_say 8 = .ok (.getfield 34, 3) := by decide +kernel
theorem dX2_say_11 : decode cX2_say 11 = .ok (.iload 4, 2) := by decide +kernel
theorem dX2_say_13 : decode cX2_say 13 = .ok (.sipush 999, 3) := by decide +kernel
theorem dX2_say_16 : decode cX2_say 16 = .ok (.aload_n 0, 1) := by decide +kernel
theorem dX2_say_17 : decode cX2_say 17 = .ok (.getfield 34, 3) := by decide +kernel
theorem dX2_say_20 : decode cX2_say 20 = .ok (.iload 4, 2) := by decide +kernel
theorem dX2_say_22 : decode cX2_say 22 = .ok (.iaload, 1) := by decide +kernel
theorem dX2_say_23 : decode cX2_say 23 = .ok (.iload_n 3, 1) := by decide +kernel
theorem dX2_say_24 : decode cX2_say 24 = .ok (.iadd, 1) := by decide +kernel
theorem dX2_say_25 : decode cX2_say 25 = .ok (.invokestatic 88, 3) := by decide +kernel
theorem dX2_say_28 : decode cX2_say 28 = .ok (.iastore, 1) := by decide +kernel
theorem dX2_say_29 : decode cX2_say 29 = .ok (.return_, 1) := by decide +kernel
set_option maxRecDepth 20000 in
theorem ggX2_sup_X2_appetite : GoodIn wsX2_sup wsX2_appetite := goodIn_r _ [17, 18, 3, 19, 20, 21, 22, 16, 23, 24, 25, 26, 27, 28, 29, 30, 31, 32, 9, 6, 10, 52, 53, 54, 55, 56, 57, 58, 59, 60, 61, 62, 63] (by decide +kernel) (by decide +kernel)
set_option maxRecDepth 20000 in
theorem gX2_sup_X2_appetite : GoodIn wsX2_sup (wsV RX2 56 RX2 yX2_appetite wsX2_appetite) := goodIn_app (goodIn_of _ (by decide +kernel)) ggX2_sup_X2_appetite
set_option maxRecDepth 20000 in
theorem ggX2_sup_X2_swallow : GoodIn wsX2_sup wsX2_swallow := goodIn_r _ [36, 24, 18, 19, 25, 26, 16, 27, 37, 38, 30, 39, 40, 41, 42, 43, 44, 45, 46, 1, 4, 5, 6, 7, 52, 53, 54, 55, 56, 57, 58, 59, 60, 61, 62, 63] (by decide +kernel) (by decide +kernel)
set_option maxRecDepth 20000 in
theorem gX2_sup_X2_swallow : GoodIn wsX2_sup (wsV RX2 104 RX2 yX2_swallow wsX2_swallow) := goodIn_app (goodIn_of _ (by decide +kernel)) ggX2_sup_X2_swallow
set_option maxRecDepth 20000 in
theorem ggX2_sup_X2_isSeat : GoodIn wsX2_sup wsX2_isSeat := goodIn_r _ [50, 51, 52, 53, 54, 55, 56, 57, 58, 59, 60, 61, 62, 63] (by decide +kernel) (by decide +kernel)
set_option maxRecDepth 20000 in
theorem gX2_sup_X2_isSeat : GoodIn wsX2_sup (wsV RX2 67 RX2 yX2_isSeat wsX2_isSeat) := goodIn_app (goodIn_of _ (by decide +kernel)) ggX2_sup_X2_isSeat
theorem dX2_sup_0 : decode cX2_sup 0 = .ok (.aload_n 0, 1) := by decide +kernel
theorem dX2_sup_1 : decode cX2_sup 1 = .ok (.aload_n 0, 1) := by decide +kernel
theorem dX2_sup_2 : decode cX2_sup 2 = .ok (.iload_n 1, 1) := by decide +kernel
theorem dX2_sup_3 : decode cX2_sup 3 = .ok (.invokevirtual 56, 3) := by decide +kernel
theorem dX2_sup_6 : decode cX2_sup 6 = .ok (.putfield 101, 3) := by decide +kernel
theorem dX2_sup_9 : decode cX2_sup 9 = .ok (.aload_n 0, 1) := by decide +kernel
theorem dX2_sup_10 : decode cX2_sup 10 = .ok (.iload_n 1, 1) := by decide +kernel
theorem dX2_sup_11 : decode cX2_sup 11 = .ok (.iload_n 1, 1) := by decide +kernel
theorem dX2_sup_12 : decode cX2_sup 12 = .ok (.invokevirtual 104, 3) := by decide +kernel
theorem dX2_sup_15 : decode cX2_sup 15 = .ok (.istore_n 2, 1) := by decide +kernel
theorem dX2_sup_16 : decode cX2_sup 16 = .ok (.aload_n 0, 1) := by decide +kernel
theorem dX2_sup_17 : decode cX2_sup 17 = .ok (.aload_n 0, 1) := by decide +kernel
theorem dX2_sup_18 : decode cX2_sup 18 = .ok (.getfield 25, 3) := by decide +kernel
theorem dX2_sup_21 : decode cX2_sup 21 = .ok (.iload_n 1, 1) := by decide +kernel
theorem dX2_sup_22 : decode cX2_sup 22 = .ok (.iaload, 1) := by decide +kernel
theorem dX2_sup_23 : decode cX2_sup 23 = .ok (.invokevirtual 67, 3) := by decide +kernel
theorem dX2_sup_26 : decode cX2_sup 26 = .ok (.ifCond .eq 17, 3) := by decide +kernel
theorem dX2_sup_29 : decode cX2_sup 29 = .ok (.iload_n 2, 1) := by decide +kernel
theorem dX2_sup_30 : decode cX2_sup 30 = .ok (.aload_n 0, 1) := by decide +kernel
theorem dX2_sup_31 : decode cX2_sup 31 = .ok (.iload_n 1, 1) := by decide +kernel
theorem dX2_sup_32 : decode cX2_sup 32 = .ok (.aload_n 0, 1) := by decide +kernel
theorem dX2_sup_33 : decode cX2_sup 33 = .ok (.getfield 25, 3) := by decide +kernel
theorem dX2_sup_36 : decode cX2_sup 36 = .ok (.iload_n 1, 1) := by decide +kernel
theorem dX2_sup_37 : decode cX2_sup 37 = .ok (.iaload, 1) := by decide +kernel
theorem dX2_sup_38 : decode cX2_sup 38 = .ok (.invokevirtual 104, 3) := by decide +kernel
theorem dX2_sup_41 : decode cX2_sup 41 = .ok (.iadd, 1) := by decide +kernel
theorem dX2_sup_42 : decode cX2_sup 42 = .ok (.istore_n 2, 1) := by decide +kernel
theorem dX2_sup_43 : decode cX2_sup 43 = .ok (.aload_n 0, 1) := by decide +kernel
theorem dX2_sup_44 : decode cX2_sup 44 = .ok (.getfield 28, 3) := by decide +kernel
theorem dX2_sup_47 : decode cX2_sup 47 = .ok (.iload_n 1, 1) := by decide +kernel
theorem dX2_sup_48 : decode cX2_sup 48 = .ok (.iconst 0, 1) := by decide +kernel
theorem dX2_sup_49 : decode cX2_sup 49 = .ok (.bipush 99, 2) := by decide +kernel
theorem dX2_sup_51 : decode cX2_sup 51 = .ok (.aload_n 0, 1) := by decide +kernel
theorem dX2_sup_52 : decode cX2_sup 52 = .ok (.getfield 28, 3) := by decide +kernel
theorem dX2_sup_55 : decode cX2_sup 55 = .ok (.iload_n 1, 1) := by decide +kernel
theorem dX2_sup_56 : decode cX2_sup 56 = .ok (.iaload, 1) := by decide +kernel
theorem dX2_sup_57 : decode cX2_sup 57 = .ok (.iload_n 2, 1) := by decide +kernel
theorem dX2_sup_58 : decode cX2_sup 58 = .ok (.iconst 4, 1) := by decide +kernel
theorem dX2_sup_59 : decode cX2_sup 59 = .ok (.idiv, 1) := by decide +kernel
theorem dX2_sup_60 : decode cX2_sup 60 = .ok (.iadd, 1) := by decide +kernel
theorem dX2_sup_61 : decode cX2_sup 61 = .ok (.invokestatic 88, 3) := by decide +kernel
theorem dX2_sup_64 : decode cX2_sup 64 = .ok (.iconst 2, 1) := by decide +kernel
theorem dX2_sup_65 : decode cX2_sup 65 = .ok (.isub, 1) := by decide +kernel
theorem dX2_sup_66 : decode cX2_sup 66 = .ok (.invokestatic 107, 3) := by decide +kernel
theorem dX2_sup_69 : decode cX2_sup 69 = .ok (.iastore, 1) := by decide +kernel
theorem dX2_sup_70 : decode cX2_sup 70 = .ok (.aload_n 0, 1) := by decide +kernel
theorem dX2_sup_71 : decode cX2_sup 71 = .ok (.getfield 31, 3) := by decide +kernel
theorem dX2_sup_74 : decode cX2_sup 74 = .ok (.iload_n 1, 1) := by decide +kernel
theorem dX2_sup_75 : decode cX2_sup 75 = .ok (.ldc 87, 2) := by decide +kernel
theorem dX2_sup_77 : decode cX2_sup 77 = .ok (.aload_n 0, 1) := by decide +kernel
theorem dX2_sup_78 : decode cX2_sup 78 = .ok (.getfield 31, 3) := by decide +kernel
theorem dX2_sup_81 : decode cX2_sup 81 = .ok (.iload_n 1, 1) := by decide +kernel
theorem dX2_sup_82 : decode cX2_sup 82 = .ok (.iaload, 1) := by decide +kernel
theorem dX2_sup_83 : decode cX2_sup 83 = .ok (.iload_n 2, 1) := by decide +kernel
theorem dX2_sup_84 : decode cX2_sup 84 = .ok (.iadd, 1) := by decide +kernel
theorem dX2_sup_85 : decode cX2_sup 85 = .ok (.invokestatic 88, 3) := by decide +kernel
theorem dX2_sup_88 : decode cX2_sup 88 = .ok (.iastore, 1) := by decide +kernel
theorem dX2_sup_89 : decode cX2_sup 89 = .ok (.return_, 1) := by decide +kernel
set_option maxRecDepth 20000 in
theorem ggX2_swallow_X2_at : GoodIn wsX2_swallow wsX2_at := goodIn_r _ [7] (by decide +kernel) (by decide +kernel)
set_option maxRecDepth 20000 in
theorem gX2_swallow_X2_at : GoodIn wsX2_swallow (va_wsS RX2 52 yX2_at wsX2_at) := goodIn_app (goodIn_of _ (by decide +kernel)) ggX2_swallow_X2_at
set_option maxRecDepth 20000 in
theorem ggX2_swallow_X0_bites : GoodIn wsX2_swallow wsX0_bites := goodIn_r _ [11, 12, 13, 10, 14] (by decide +kernel) (by decide +kernel)
set_option maxRecDepth 20000 in
theorem gX2_swallow_X0_bites : GoodIn wsX2_swallow (va_wsS RX2 110 yX0_bites wsX0_bites) := goodIn_app (goodIn_of _ (by decide +kernel)) ggX2_swallow_X0_bites
set_option maxRecDepth 20000 in
theorem ggX2_swallow_X2_mouthful : GoodIn wsX2_swallow wsX2_mouthful := goodIn_r _ [18, 19, 20, 21, 22, 23, 24, 25, 26, 27, 28, 29, 30, 31, 32, 33, 34, 35] (by decide +kernel) (by decide +kernel)
set_option maxRecDepth 20000 in
theorem gX2_swallow_X2_mouthful : GoodIn wsX2_swallow (wsV RX2 113 RX2 yX2_mouthful wsX2_mouthful) := goodIn_app (goodIn_of _ (by decide +kernel)) ggX2_swallow_X2_mouthful
theorem dX2_swallow_0 : decode cX2_swallow 0 = .ok (.iconst 0, 1) := by decide +kernel
theorem dX2_swallow_1 : decode cX2_swallow 1 = .ok (.istore_n 3, 1) := by decide +kernel
theorem dX2_swallow_2 : decode cX2_swallow 2 = .ok (.iconst 0, 1) := by decide +kernel
theorem dX2_swallow_3 : decode cX2_swallow 3 = .ok (.istore 4, 2) := by decide +kernel
theorem dX2_swallow_5 : decode cX2_swallow 5 = .ok (.iload 4, 2) := by decide +kernel
theorem dX2_swallow_7 : decode cX2_swallow 7 = .ok (.bipush 6, 2) := by decide +kernel
theorem dX2_swallow_9 : decode cX2_swallow 9 = .ok (.if_icmp .ge 71, 3) := by decide +kernel
theorem dX2_swallow_12 : decode cX2_swallow 12 = .ok (.aload_n 0, 1) := by decide +kernel
theorem dX2_swallow_13 : decode cX2_swallow 13 = .ok (.getfield 34, 3) := by decide +kernel
theorem dX2_swallow_16 : decode cX2_swallow 16 = .ok (.iload_n 2, 1) := by decide +kernel
theorem dX2_swallow_17 : decode cX2_swallow 17 = .ok (.iload 4, 2) := by decide +kernel
theorem dX2_swallow_19 : decode cX2_swallow 19 = .ok (.invokestatic 52, 3) := by decide +kernel
theorem dX2_swallow_22 : decode cX2_swallow 22 = .ok (.iaload, 1) := by decide +kernel
theorem dX2_swallow_23 : decode cX2_swallow 23 = .ok (.istore 5, 2) := by decide +kernel
theorem dX2_swallow_25 : decode cX2_swallow 25 = .ok (.iload 5, 2) := by decide +kernel
theorem dX2_swallow_27 : decode cX2_swallow 27 = .ok (.ifCond .le 47, 3) := by decide +kernel
theorem dX2_swallow_30 : decode cX2_swallow 30 = .ok (.aload_n 0, 1) := by decide +kernel
theorem dX2_swallow_31 : decode cX2_swallow 31 = .ok (.aload_n 0, 1) := by decide +kernel
theorem dX2_swallow_32 : decode cX2_swallow 32 = .ok (.getfield 22, 3) := by decide +kernel
theorem dX2_swallow_35 : decode cX2_swallow 35 = .ok (.iload_n 1, 1) := by decide +kernel
theorem dX2_swallow_36 : decode cX2_swallow 36 = .ok (.iaload, 1) := by decide +kernel
theorem dX2_swallow_37 : decode cX2_swallow 37 = .ok (.iload 4, 2) := by decide +kernel
theorem dX2_swallow_39 : decode cX2_swallow 39 = .ok (.aload_n 0, 1) := by decide +kernel
theorem dX2_swallow_40 : decode cX2_swallow 40 = .ok (.getfield 9, 3) := by decide +kernel
theorem dX2_swallow_43 : decode cX2_swallow 43 = .ok (.invokestatic 110, 3) := by decide +kernel
theorem dX2_swallow_46 : decode cX2_swallow 46 = .ok (.iload 5, 2) := by decide +kernel
theorem dX2_swallow_48 : decode cX2_swallow 48 = .ok (.invokevirtual 113, 3) := by decide +kernel
theorem dX2_swallow_51 : decode cX2_swallow 51 = .ok (.istore 6, 2) := by decide +kernel
theorem dX2_swallow_53 : decode cX2_swallow 53 = .ok (.aload_n 0, 1) := by decide +kernel
theorem dX2_swallow_54 : decode cX2_swallow 54 = .ok (.getfield 34, 3) := by decide +kernel
theorem dX2_swallow_57 : decode cX2_swallow 57 = .ok (.iload_n 2, 1) := by decide +kernel
theorem dX2_swallow_58 : decode cX2_swallow 58 = .ok (.iload 4, 2) := by decide +kernel
theorem dX2_swallow_60 : decode cX2_swallow 60 = .ok (.invokestatic 52, 3) := by decide +kernel
theorem dX2_swallow_63 : decode cX2_swallow 63 = .ok (.iload 5, 2) := by decide +kernel
theorem dX2_swallow_65 : decode cX2_swallow 65 = .ok (.iload 6, 2) := by decide +kernel
theorem dX2_swallow_67 : decode cX2_swallow 67 = .ok (.isub, 1) := by decide +kernel
theorem dX2_swallow_68 : decode cX2_swallow 68 = .ok (.iastore, 1) := by decide +kernel
theorem dX2_swallow_69 : decode cX2_swallow 69 = .ok (.iload_n 3, 1) := by decide +kernel
theorem dX2_swallow_70 : decode cX2_swallow 70 = .ok (.iload 6, 2) := by decide +kernel
theorem dX2_swallow_72 : decode cX2_swallow 72 = .ok (.iadd, 1) := by decide +kernel
theorem dX2_swallow_73 : decode cX2_swallow 73 = .ok (.istore_n 3, 1) := by decide +kernel
theorem dX2_swallow_74 : decode cX2_swallow 74 = .ok (.iinc 4 1, 3) := by decide +kernel
theorem dX2_swallow_77 : decode cX2_swallow 77 = .ok (.goto (-72), 3) := by decide +kernel
theorem dX2_swallow_80 : decode cX2_swallow 80 = .ok (.iload_n 3, 1) := by decide +kernel
theorem dX2_swallow_81 : decode cX2_swallow 81 = .ok (.ireturn, 1) := by decide +kernel
theorem dX2_mouthful_0 : decode cX2_mouthful 0 = .ok (.iload_n 1, 1) := by decide +kernel
theorem dX2_mouthful_1 : decode cX2_mouthful 1 = .ok (.ifCond .ge 5, 3) := by decide +kernel
theorem dX2_mouthful_4 : decode cX2_mouthful 4 = .ok (.iconst 0, 1) := by decide +kernel
theorem dX2_mouthful_5 : decode cX2_mouthful 5 = .ok (.ireturn, 1) := by decide +kernel
theorem dX2_mouthful_6 : decode cX2_mouthful 6 = .ok (.iload_n 1, 1) := by decide +kernel
theorem dX2_mouthful_7 : decode cX2_mouthful 7 = .ok (.ifCond .ne 5, 3) := by decide +kernel
theorem dX2_mouthful_10 : decode cX2_mouthful 10 = .ok (.iload_n 2, 1) := by decide +kernel
theorem dX2_mouthful_11 : decode cX2_mouthful 11 = .ok (.ireturn, 1) := by decide +kernel
theorem dX2_mouthful_12 : decode cX2_mouthful 12 = .ok (.iload_n 2, 1) := by decide +kernel
theorem dX2_mouthful_13 : decode cX2_mouthful 13 = .ok (.aload_n 0, 1) := by decide +kernel
theorem dX2_mouthful_14 : decode cX2_mouthful 14 = .ok (.getfield 101, 3) := by decide +kernel
theorem dX2_mouthful_17 : decode cX2_mouthful 17 = .ok (.iload_n 1, 1) := by decide +kernel
theorem dX2_mouthful_18 : decode cX2_mouthful 18 = .ok (.idiv, 1) := by decide +kernel
theorem dX2_mouthful_19 : decode cX2_mouthful 19 = .ok (.invokestatic 88, 3) := by decide +kernel
theorem dX2_mouthful_22 : decode cX2_mouthful 22 = .ok (.istore_n 3, 1) := by decide +kernel
theorem dX2_mouthful_23 : decode cX2_mouthful 23 = .ok (.aload_n 0, 1) := by decide +kernel
theorem dX2_mouthful_24 : decode cX2_mouthful 24 = .ok (.dup, 1) := by decide +kernel
theorem dX2_mouthful_25 : decode cX2_mouthful 25 = .ok (.getfield 101, 3) := by decide +kernel
theorem dX2_mouthful_28 : decode cX2_mouthful 28 = .ok (.iload_n 3, 1) := by decide +kernel
theorem dX2_mouthful_29 : decode cX2_mouthful 29 = .ok (.iload_n 1, 1) := by decide +kernel
theorem dX2_mouthful_30 : decode cX2_mouthful 30 = .ok (.imul, 1) := by decide +kernel
theorem dX2_mouthful_31 : decode cX2_mouthful 31 = .ok (.isub, 1) := by decide +kernel
theorem dX2_mouthful_32 : decode cX2_mouthful 32 = .ok (.putfield 101, 3) := by decide +kernel
theorem dX2_mouthful_35 : decode cX2_mouthful 35 = .ok (.iload_n 3, 1) := by decide +kernel
theorem dX2_mouthful_36 : decode cX2_mouthful 36 = .ok (.ireturn, 1) := by decide +kernel
theorem dX3_init_0 : decode cX3_init 0 = .ok (.aload_n 0, 1) := by decide +kernel
theorem dX3_init_1 : decode cX3_init 1 = .ok (.invokespecial 3, 3) := by decide +kernel
theorem dX3_init_4 : decode cX3_init 4 = .ok (.aload_n 0, 1) := by decide +kernel
theorem dX3_init_5 : decode cX3_init 5 = .ok (.bipush 120, 2) := by decide +kernel
theorem dX3_init_7 : decode cX3_init 7 = .ok (.newarray .byte, 2) := by decide +kernel
theorem dX3_init_9 : decode cX3_init 9 = .ok (.putfield 11, 3) := by decide +kernel
theorem dX3_init_12 : decode cX3_init 12 = .ok (.return_, 1) := by decide +kernel
theorem dX3_add_0 : decode cX3_add 0 = .ok (.aload_n 0, 1) := by decide +kernel
theorem dX3_add_1 : decode cX3_add 1 = .ok (.getfield 15, 3) := by decide +kernel
theorem dX3_add_4 : decode cX3_add 4 = .ok (.bipush 120, 2) := by decide +kernel
theorem dX3_add_6 : decode cX3_add 6 = .ok (.if_icmp .ge 23, 3) := by decide +kernel
theorem dX3_add_9 : decode cX3_add 9 = .ok (.aload_n 0, 1) := by decide +kernel
theorem dX3_add_10 : decode cX3_add 10 = .ok (.getfield 11, 3) := by decide +kernel
theorem dX3_add_13 : decode cX3_add 13 = .ok (.aload_n 0, 1) := by decide +kernel
theorem dX3_add_14 : decode cX3_add 14 = .ok (.getfield 15, 3) := by decide +kernel
theorem dX3_add_17 : decode cX3_add 17 = .ok (.iload_n 1, 1) := by decide +kernel
theorem dX3_add_18 : decode cX3_add 18 = .ok (.bastore, 1) := by decide +kernel
theorem dX3_add_19 : decode cX3_add 19 = .ok (.aload_n 0, 1) := by decide +kernel
theorem dX3_add_20 : decode cX3_add 20 = .ok (.dup, 1) := by decide +kernel
theorem dX3_add_21 : decode cX3_add 21 = .ok (.getfield 15, 3) := by decide +kernel
theorem dX3_add_24 : decode cX3_add 24 = .ok (.iconst 1, 1) := by decide +kernel
theorem dX3_add_25 : decode cX3_add 25 = .ok (.iadd, 1) := by decide +kernel
theorem dX3_add_26 : decode cX3_add 26 = .ok (.putfield 15, 3) := by decide +kernel
theorem dX3_add_29 : decode cX3_add 29 = .ok (.return_, 1) := by decide +kernel
set_option maxRecDepth 20000 in
theorem ggX3_tell_X3_step : GoodIn wsX3_tell wsX3_step := goodIn_r _ [8, 1, 2, 9, 10, 3, 11, 12, 13, 14, 15, 16, 17, 7, 18, 19, 20, 21, 127, 128, 129, 130, 131, 132] (by decide +kernel) (by decide +kernel)
set_option maxRecDepth 20000 in
theorem gX3_tell_X3_step : GoodIn wsX3_tell (wsV RX3 22 RX3 yX3_step wsX3_step) := goodIn_app (goodIn_of _ (by decide +kernel)) ggX3_tell_X3_step
set_option maxRecDepth 20000 in
theorem ggX3_tell_X3_isItem : GoodIn wsX3_tell wsX3_isItem := goodIn_r _ [25, 26, 27, 28, 7, 29, 3, 1, 2, 10, 30, 31, 32, 33, 34, 35, 36, 37, 38, 39, 40, 41, 42, 43, 44, 45, 46, 47, 48, 49, 50, 51, 52, 53, 54, 55, 56, 57, 58, 59, 60, 61, 62, 63, 64, 65, 66, 67, 68, 69, 70, 71, 72, 73, 74, 75, 76, 77, 78, 79, 80, 81, 82, 11, 83, 4, 5, 6, 8, 9, 12, 13, 14, 15, 16, 17, 18, 19, 20, 21, 84, 85, 86, 87, 88, 89, 90, 91, 92, 93, 94, 95, 96, 97, 98, 99, 100, 101, 102, 103, 104, 105, 106, 107, 108, 109, 110, 111, 112, 113, 114, 115, 116, 117, 118, 119, 120, 121, 122, 123, 124, 125, 126, 127, 128, 129, 130, 131, 132, 133, 134, 135, 136, 137, 138, 139, 140, 141, 142, 143, 144] (by decide +kernel) (by decide +kernel)
set_option maxRecDepth 20000 in
theorem gX3_tell_X3_isItem : GoodIn wsX3_tell (wsV RX3 25 RX3 yX3_isItem wsX3_isItem) := goodIn_app (goodIn_of _ (by decide +kernel)) ggX3_tell_X3_isItem
theorem dX3_tell_0 : decode cX3_tell 0 = .ok (.aload_n 0, 1) := by decide +kernel
theorem dX3_tell_1 : decode cX3_tell 1 = .ok (.iconst 0, 1) := by decide +kernel
theorem dX3_tell_2 : decode cX3_tell 2 = .ok (.putfield 19, 3) := by decide +kernel
theorem dX3_tell_5 : decode cX3_tell 5 = .ok (.aload_n 0, 1) := by decide +kernel
theorem dX3_tell_6 : decode cX3_tell 6 = .ok (.invokevirtual 22, 3) := by decide +kernel
theorem dX3_tell_9 : decode cX3_tell 9 = .ok (.iconst 1, 1) := by decide +kernel
theorem dX3_tell_10 : decode cX3_tell 10 = .ok (.istore_n 2, 1) := by decide +kernel
theorem dX3_tell_11 : decode cX3_tell 11 = .ok (.iload_n 2, 1) := by decide +kernel
theorem dX3_tell_12 : decode cX3_tell 12 = .ok (.bipush 120, 2) := by decide +kernel
theorem dX3_tell_14 : decode cX3_tell 14 = .ok (.if_icmp .gt 52, 3) := by decide +kernel
theorem dX3_tell_17 : decode cX3_tell 17 = .ok (.aload_n 0, 1) := by decide +kernel
theorem dX3_tell_18 : decode cX3_tell 18 = .ok (.aload_n 1, 1) := by decide +kernel
theorem dX3_tell_19 : decode cX3_tell 19 = .ok (.invokevirtual 25, 3) := by decide +kernel
theorem dX3_tell_22 : decode cX3_tell 22 = .ok (.ifCond .ne 10, 3) := by decide +kernel
theorem dX3_tell_25 : decode cX3_tell 25 = .ok (.iconst (-1), 1) := by decide +kernel
theorem dX3_tell_26 : decode cX3_tell 26 = .ok (.aload_n 0, 1) := by decide +kernel
theorem dX3_tell_27 : decode cX3_tell 27 = .ok (.getfield 29, 3) := by decide +kernel
theorem dX3_tell_30 : decode cX3_tell 30 = .ok (.isub, 1) := by decide +kernel
theorem dX3_tell_31 : decode cX3_tell 31 = .ok (.ireturn, 1) := by decide +kernel
theorem dX3_tell_32 : decode cX3_tell 32 = .ok (.aload_n 0, 1) := by decide +kernel
theorem dX3_tell_33 : decode cX3_tell 33 = .ok (.getfield 32, 3) := by decide +kernel
theorem dX3_tell_36 : decode cX3_tell 36 = .ok (.ifCond .ne 5, 3) := by decide +kernel
theorem dX3_tell_39 : decode cX3_tell 39 = .ok (.iload_n 2, 1) := by decide +kernel
theorem dX3_tell_40 : decode cX3_tell 40 = .ok (.ireturn, 1) := by decide +kernel
theorem dX3_tell_41 : decode cX3_tell 41 = .ok (.aload_n 0, 1) := by decide +kernel
theorem dX3_tell_42 : decode cX3_tell 42 = .ok (.getfield 32, 3) := by decide +kernel
theorem dX3_tell_45 : decode cX3_tell 45 = .ok (.iconst 3, 1) := by decide +kernel
theorem dX3_tell_46 : decode cX3_tell 46 = .ok (.if_icmp .eq 10, 3) := by decide +kernel
theorem dX3_tell_49 : decode cX3_tell 49 = .ok (.iconst (-1), 1) := by decide +kernel
theorem dX3_tell_50 : decode cX3_tell 50 = .ok (.aload_n 0, 1) := by decide +kernel
theorem dX3_tell_51 : decode cX3_tell 51 = .ok (.getfield 29, 3) := by decide +kernel
theorem dX3_tell_54 : decode cX3_tell 54 = .ok (.isub, 1) := by decide +kernel
theorem dX3_tell_55 : decode cX3_tell 55 = .ok (.ireturn, 1) := by decide +kernel
theorem dX3_tell_56 : decode cX3_tell 56 = .ok (.aload_n 0, 1) := by decide +kernel
theorem dX3_tell_57 : decode cX3_tell 57 = .ok (.invokevirtual 22, 3) := by decide +kernel
theorem dX3_tell_60 : decode cX3_tell 60 = .ok (.iinc 2 1, 3) := by decide +kernel
theorem dX3_tell_63 : decode cX3_tell 63 = .ok (.goto (-52), 3) := by decide +kernel
theorem dX3_tell_66 : decode cX3_tell 66 = .ok (.iconst (-1), 1) := by decide +kernel
theorem dX3_tell_67 : decode cX3_tell 67 = .ok (.aload_n 0, 1) := by decide +kernel
theorem dX3_tell_68 : decode cX3_tell 68 = .ok (.getfield 29, 3) := by decide +kernel
theorem dX3_tell_71 : decode cX3_tell 71 = .ok (.isub, 1) := by decide +kernel
theorem dX3_tell_72 : decode cX3_tell 72 = .ok (.ireturn, 1) := by decide +kernel
set_option maxRecDepth 20000 in
theorem ggX3_isItem_X3_isWord : GoodIn wsX3_isItem wsX3_isWord := goodIn_r _ [5, 6, 7, 8, 9, 10, 11, 12, 13, 14, 15, 16, 17, 18, 19, 20, 21, 22, 23, 24, 25, 26, 27, 28, 29, 30, 31, 32, 33, 34, 35, 36, 37, 38, 39, 40, 41, 42, 43, 44, 45, 46, 47, 48, 49, 50, 51, 52, 53, 54, 55, 56, 57, 58, 123, 124, 125, 126, 127, 128] (by decide +kernel) (by decide +kernel)
set_option maxRecDepth 20000 in
theorem gX3_isItem_X3_isWord : GoodIn wsX3_isItem (wsV RX3 37 RX3 yX3_isWord wsX3_isWord) := goodIn_app (goodIn_of _ (by decide +kernel)) ggX3_isItem_X3_isWord
set_option maxRecDepth 20000 in
theorem ggX3_isItem_X3_isList : GoodIn wsX3_isItem wsX3_isList := goodIn_r _ [62, 63, 64, 65, 66, 67, 4, 68, 7, 8, 69, 9, 6, 70, 71, 72, 73, 74, 75, 76, 77, 78, 79, 80, 81, 82, 83, 123, 124, 125, 126, 127, 128, 129, 130, 131, 132, 133, 134, 135, 136, 137, 138, 139, 140] (by decide +kernel) (by decide +kernel)
set_option maxRecDepth 20000 in
theorem gX3_isItem_X3_isList : GoodIn wsX3_isItem (wsV RX3 41 RX3 yX3_isList wsX3_isList) := goodIn_app (goodIn_of _ (by decide +kernel)) ggX3_isItem_X3_isList
set_option maxRecDepth 20000 in
theorem ggX3_isItem_X3_isVinegar : GoodIn wsX3_isItem wsX3_isVinegar := goodIn_r _ [87, 63, 88, 65, 66, 67, 4, 68, 7, 8, 69, 9, 6, 70, 71, 72, 73, 74, 75, 76, 77, 78, 79, 80, 81, 82, 83, 123, 124, 125, 126, 127, 128, 129, 130, 131, 132, 133, 134, 135, 136, 137, 138, 139, 140] (by decide +kernel) (by decide +kernel)
set_option maxRecDepth 20000 in
theorem gX3_isItem_X3_isVinegar : GoodIn wsX3_isItem (wsV RX3 46 RX3 yX3_isVinegar wsX3_isVinegar) := goodIn_app (goodIn_of _ (by decide +kernel)) ggX3_isItem_X3_isVinegar
set_option maxRecDepth 20000 in
theorem ggX3_isItem_X3_kindTold : GoodIn wsX3_isItem wsX3_kindTold := goodIn_r _ [92, 1, 2, 3, 4, 5, 6, 7, 8, 9, 10, 11, 12, 13, 14, 15, 16, 17, 18, 19, 20, 21, 22, 23, 24, 25, 26, 27, 28, 29, 30, 31, 32, 33, 34, 35, 36, 37, 38, 39, 40, 41, 42, 43, 44, 45, 46, 47, 48, 49, 50, 51, 52, 53, 54, 55, 56, 57, 58, 123, 124, 125, 126, 127, 128] (by decide +kernel) (by decide +kernel)
set_option maxRecDepth 20000 in
theorem gX3_isItem_X3_kindTold : GoodIn wsX3_isItem (wsV RX3 49 RX3 yX3_kindTold wsX3_kindTold) := goodIn_app (goodIn_of _ (by decide +kernel)) ggX3_isItem_X3_kindTold
set_option maxRecDepth 20000 in
theorem ggX3_isItem_X2_isFull : GoodIn wsX3_isItem wsX2_isFull := goodIn_r _ [97, 98, 129, 130, 131, 132, 133, 134, 135, 136, 137, 138, 139, 140] (by decide +kernel) (by decide +kernel)
set_option maxRecDepth 20000 in
theorem gX3_isItem_X2_isFull : GoodIn wsX3_isItem (wsV RX3 53 RX2 yX2_isFull wsX2_isFull) := goodIn_app (goodIn_of _ (by decide +kernel)) ggX3_isItem_X2_isFull
set_option maxRecDepth 20000 in
theorem ggX3_isItem_X2_seat : GoodIn wsX3_isItem wsX2_seat := goodIn_r _ [102, 98, 103, 104, 105, 106, 107, 108, 109, 96, 110, 129, 130, 131, 132, 133, 134, 135, 136, 137, 138, 139, 140] (by decide +kernel) (by decide +kernel)
set_option maxRecDepth 20000 in
theorem gX3_isItem_X2_seat : GoodIn wsX3_isItem (wsV RX3 59 RX2 yX2_seat wsX2_seat) := goodIn_app (goodIn_of _ (by decide +kernel)) ggX3_isItem_X2_seat
set_option maxRecDepth 20000 in
theorem ggX3_isItem_X3_isSpeaker : GoodIn wsX3_isItem wsX3_isSpeaker := goodIn_r _ [114, 115, 63, 116, 65, 66, 67, 4, 68, 7, 8, 69, 9, 6, 70, 71, 72, 73, 74, 75, 76, 77, 78, 79, 1, 2, 3, 5, 10, 11, 12, 13, 14, 15, 16, 17, 18, 19, 20, 21, 22, 23, 24, 25, 26, 27, 28, 29, 30, 31, 32, 33, 34, 35, 36, 37, 38, 39, 40, 41, 42, 43, 44, 45, 46, 47, 48, 49, 50, 51, 52, 53, 54, 55, 56, 57, 58, 80, 81, 82, 83, 117, 118, 119, 120, 121, 122, 109, 96, 110, 129, 130, 131, 132, 133, 134, 135, 136, 137, 138, 139, 140, 123, 124, 125, 126, 127, 128] (by decide +kernel) (by decide +kernel)
set_option maxRecDepth 20000 in
theorem gX3_isItem_X3_isSpeaker : GoodIn wsX3_isItem (wsV RX3 63 RX3 yX3_isSpeaker wsX3_isSpeaker) := goodIn_app (goodIn_of _ (by decide +kernel)) ggX3_isItem_X3_isSpeaker
theorem dX3_isItem_0 : decode cX3_isItem 0 = .ok (.aload_n 0, 1) := by decide +kernel
theorem dX3_isItem_1 : decode cX3_isItem 1 = .ok (.ldc 35, 2) := by decide +kernel
theorem dX3_isItem_3 : decode cX3_isItem 3 = .ok (.invokevirtual 37, 3) := by decide +kernel
theorem dX3_isItem_6 : decode cX3_isItem 6 = .ok (.ifCond .eq 9, 3) := by decide +kernel
theorem dX3_isItem_9 : decode cX3_isItem 9 = .ok (.aload_n 0, 1) := by decide +kernel
theorem dX3_isItem_10 : decode cX3_isItem 10 = .ok (.aload_n 1, 1) := by decide +kernel
theorem dX3_isItem_11 : decode cX3_isItem 11 = .ok (.invokevirtual 41, 3) := by decide +kernel
theorem dX3_isItem_14 : decode cX3_isItem 14 = .ok (.ireturn, 1) := by decide +kernel
theorem dX3_isItem_15 : decode cX3_isItem 15 = .ok (.aload_n 0, 1) := by decide +kernel
theorem dX3_isItem_16 : decode cX3_isItem 16 = .ok (.ldc 44, 2) := by decide +kernel
theorem dX3_isItem_18 : decode cX3_isItem 18 = .ok (.invokevirtual 37, 3) := by decide +kernel
theorem dX3_isItem_21 : decode cX3_isItem 21 = .ok (.ifCond .eq 9, 3) := by decide +kernel
theorem dX3_isItem_24 : decode cX3_isItem 24 = .ok (.aload_n 0, 1) := by decide +kernel
theorem dX3_isItem_25 : decode cX3_isItem 25 = .ok (.aload_n 1, 1) := by decide +kernel
theorem dX3_isItem_26 : decode cX3_isItem 26 = .ok (.invokevirtual 46, 3) := by decide +kernel
theorem dX3_isItem_29 : decode cX3_isItem 29 = .ok (.ireturn, 1) := by decide +kernel
theorem dX3_isItem_30 : decode cX3_isItem 30 = .ok (.aload_n 0, 1) := by decide +kernel
theorem dX3_isItem_31 : decode cX3_isItem 31 = .ok (.invokevirtual 49, 3) := by decide +kernel
theorem dX3_isItem_34 : decode cX3_isItem 34 = .ok (.istore_n 2, 1) := by decide +kernel
theorem dX3_isItem_35 : decode cX3_isItem 35 = .ok (.iload_n 2, 1) := by decide +kernel
theorem dX3_isItem_36 : decode cX3_isItem 36 = .ok (.ifCond .lt 10, 3) := by decide +kernel
theorem dX3_isItem_39 : decode cX3_isItem 39 = .ok (.aload_n 1, 1) := by decide +kernel
theorem dX3_isItem_40 : decode cX3_isItem 40 = .ok (.invokevirtual 53, 3) := by decide +kernel
theorem dX3_isItem_43 : decode cX3_isItem 43 = .ok (.ifCond .eq 5, 3) := by decide +kernel
theorem dX3_isItem_46 : decode cX3_isItem 46 = .ok (.iconst 0, 1) := by decide +kernel
theorem dX3_isItem_47 : decode cX3_isItem 47 = .ok (.ireturn, 1) := by decide +kernel
theorem dX3_isItem_48 : decode cX3_isItem 48 = .ok (.aload_n 0, 1) := by decide +kernel
theorem dX3_isItem_49 : decode cX3_isItem 49 = .ok (.aload_n 1, 1) := by decide +kernel
theorem dX3_isItem_50 : decode cX3_isItem 50 = .ok (.aload_n 1, 1) := by decide +kernel
theorem dX3_isItem_51 : decode cX3_isItem 51 = .ok (.iload_n 2, 1) := by decide +kernel
theorem dX3_isItem_52 : decode cX3_isItem 52 = .ok (.invokevirtual 59, 3) := by decide +kernel
theorem dX3_isItem_55 : decode cX3_isItem 55 = .ok (.invokevirtual 63, 3) := by decide +kernel
theorem dX3_isItem_58 : decode cX3_isItem 58 = .ok (.ireturn, 1) := by decide +kernel
set_option maxRecDepth 20000 in
theorem ggX3_kindTold_X3_isWord : GoodIn wsX3_kindTold wsX3_isWord := goodIn_r _ [5, 6, 7, 8, 9, 10, 11, 12, 13, 14, 15, 16, 17, 18, 19, 20, 21, 22, 23, 24, 25, 26, 27, 28, 29, 30, 31, 32, 33, 34, 35, 36, 37, 38, 39, 40, 41, 42, 43, 44, 45, 46, 47, 48, 49, 50, 51, 52, 53, 54, 55, 56, 57, 58, 59, 60, 61, 62, 63, 64] (by decide +kernel) (by decide +kernel)
set_option maxRecDepth 20000 in
theorem gX3_kindTold_X3_isWord : GoodIn wsX3_kindTold (wsV RX3 37 RX3 yX3_isWord wsX3_isWord) := goodIn_app (goodIn_of _ (by decide +kernel)) ggX3_kindTold_X3_isWord
theorem dX3_kindTold_0 : decode cX3_kindTold 0 = .ok (.aload_n 0, 1) := by decide +kernel
theorem dX3_kindTold_1 : decode cX3_kindTold 1 = .ok (.ldc 67, 2) := by decide +kernel
theorem dX3_kindTold_3 : decode cX3_kindTold 3 = .ok (.invokevirtual 37, 3) := by decide +kernel
theorem dX3_kindTold_6 : decode cX3_kindTold 6 = .ok (.ifCond .eq 5, 3) := by decide +kernel
theorem dX3_kindTold_9 : decode cX3_kindTold 9 = .ok (.iconst 0, 1) := by decide +kernel
theorem dX3_kindTold_10 : decode cX3_kindTold 10 = .ok (.ireturn, 1) := by decide +kernel
theorem dX3_kindTold_11 : decode cX3_kindTold 11 = .ok (.aload_n 0, 1) := by decide +kernel
theorem dX3_kindTold_12 : decode cX3_kindTold 12 = .ok (.ldc 71, 2) := by decide +kernel
theorem dX3_kindTold_14 : decode cX3_kindTold 14 = .ok (.invokevirtual 37, 3) := by decide +kernel
theorem dX3_kindTold_17 : decode cX3_kindTold 17 = .ok (.ifCond .eq 5, 3) := by decide +kernel
theorem dX3_kindTold_20 : decode cX3_kindTold 20 = .ok (.iconst 1, 1) := by decide +kernel
theorem dX3_kindTold_21 : decode cX3_kindTold 21 = .ok (.ireturn, 1) := by decide +kernel
theorem dX3_kindTold_22 : decode cX3_kindTold 22 = .ok (.aload_n 0, 1) := by decide +kernel
theorem dX3_kindTold_23 : decode cX3_kindTold 23 = .ok (.ldc 73, 2) := by decide +kernel
theorem dX3_kindTold_25 : decode cX3_kindTold 25 = .ok (.invokevirtual 37, 3) := by decide +kernel
theorem dX3_kindTold_28 : decode cX3_kindTold 28 = .ok (.ifCond .eq 5, 3) := by decide +kernel
theorem dX3_kindTold_31 : decode cX3_kindTold 31 = .ok (.iconst 2, 1) := by decide +kernel
theorem dX3_kindTold_32 : decode cX3_kindTold 32 = .ok (.ireturn, 1) := by decide +kernel
theorem dX3_kindTold_33 : decode cX3_kindTold 33 = .ok (.aload_n 0, 1) := by decide +kernel
theorem dX3_kindTold_34 : decode cX3_kindTold 34 = .ok (.ldc 75, 2) := by decide +kernel
theorem dX3_kindTold_36 : decode cX3_kindTold 36 = .ok (.invokevirtual 37, 3) := by decide +kernel
theorem dX3_kindTold_39 : decode cX3_kindTold 39 = .ok (.ifCond .eq 5, 3) := by decide +kernel
theorem dX3_kindTold_42 : decode cX3_kindTold 42 = .ok (.iconst 3, 1) := by decide +kernel
theorem dX3_kindTold_43 : decode cX3_kindTold 43 = .ok (.ireturn, 1) := by decide +kernel
theorem dX3_kindTold_44 : decode cX3_kindTold 44 = .ok (.aload_n 0, 1) := by decide +kernel
theorem dX3_kindTold_45 : decode cX3_kindTold 45 = .ok (.ldc 77, 2) := by decide +kernel
theorem dX3_kindTold_47 : decode cX3_kindTold 47 = .ok (.invokevirtual 37, 3) := by decide +kernel
theorem dX3_kindTold_50 : decode cX3_kindTold 50 = .ok (.ifCond .eq 5, 3) := by decide +kernel
theorem dX3_kindTold_53 : decode cX3_kindTold 53 = .ok (.iconst 4, 1) := by decide +kernel
theorem dX3_kindTold_54 : decode cX3_kindTold 54 = .ok (.ireturn, 1) := by decide +kernel
theorem dX3_kindTold_55 : decode cX3_kindTold 55 = .ok (.aload_n 0, 1) := by decide +kernel
theorem dX3_kindTold_56 : decode cX3_kindTold 56 = .ok (.ldc 79, 2) := by decide +kernel
theorem dX3_kindTold_58 : decode cX3_kindTold 58 = .ok (.invokevirtual 37, 3) := by decide +kernel
theorem dX3_kindTold_61 : decode cX3_kindTold 61 = .ok (.ifCond .eq 5, 3) := by decide +kernel
theorem dX3_kindTold_64 : decode cX3_kindTold 64 = .ok (.iconst 5, 1) := by decide +kernel
theorem dX3_kindTold_65 : decode cX3_kindTold 65 = .ok (.ireturn, 1) := by decide +kernel
theorem dX3_kindTold_66 : decode cX3_kindTold 66 = .ok (.aload_n 0, 1) := by decide +kernel
theorem dX3_kindTold_67 : decode cX3_kindTold 67 = .ok (.ldc 81, 2) := by decide +kernel
theorem dX3_kindTold_69 : decode cX3_kindTold 69 = .ok (.invokevirtual 37, 3) := by decide +kernel
theorem dX3_kindTold_72 : decode cX3_kindTold 72 = .ok (.ifCond .eq 8, 3) := by decide +kernel
theorem dX3_kindTold_75 : decode cX3_kindTold 75 = .ok (.bipush 6, 2) := by decide +kernel
theorem dX3_kindTold_77 : decode cX3_kindTold 77 = .ok (.goto 4, 3) := by decide +kernel
theorem dX3_kindTold_80 : decode cX3_kindTold 80 = .ok (.iconst (-1), 1) := by decide +kernel
theorem dX3_kindTold_81 : decode cX3_kindTold 81 = .ok (.ireturn, 1) := by decide +kernel
set_option maxRecDepth 20000 in
theorem ggX3_isSpeaker_X3_step : GoodIn wsX3_isSpeaker wsX3_step := goodIn_r _ [8, 9, 10, 11, 12, 13, 2, 14, 15, 16, 17, 18, 19, 7, 20, 21, 22, 23, 102, 103, 104, 105, 106, 107] (by decide +kernel) (by decide +kernel)
set_option maxRecDepth 20000 in
theorem gX3_isSpeaker_X3_step : GoodIn wsX3_isSpeaker (wsV RX3 22 RX3 yX3_step wsX3_step) := goodIn_app (goodIn_of _ (by decide +kernel)) ggX3_isSpeaker_X3_step
set_option maxRecDepth 20000 in
theorem ggX3_isSpeaker_X3_isWord : GoodIn wsX3_isSpeaker wsX3_isWord := goodIn_r _ [27, 13, 9, 10, 12, 28, 29, 30, 31, 32, 33, 34, 35, 36, 37, 38, 39, 40, 41, 42, 43, 44, 45, 46, 47, 48, 49, 50, 51, 52, 53, 54, 55, 56, 57, 58, 59, 60, 61, 62, 63, 64, 65, 66, 67, 68, 69, 70, 71, 72, 73, 74, 75, 76, 102, 103, 104, 105, 106, 107] (by decide +kernel) (by decide +kernel)
set_option maxRecDepth 20000 in
theorem gX3_isSpeaker_X3_isWord : GoodIn wsX3_isSpeaker (wsV RX3 37 RX3 yX3_isWord wsX3_isWord) := goodIn_app (goodIn_of _ (by decide +kernel)) ggX3_isSpeaker_X3_isWord
set_option maxRecDepth 20000 in
theorem ggX3_isSpeaker_X3_isNumber : GoodIn wsX3_isSpeaker wsX3_isNumber := goodIn_r _ [80, 13, 2, 102, 103, 104, 105, 106, 107] (by decide +kernel) (by decide +kernel)
set_option maxRecDepth 20000 in
theorem gX3_isSpeaker_X3_isNumber : GoodIn wsX3_isSpeaker (wsV RX3 85 RX3 yX3_isNumber wsX3_isNumber) := goodIn_app (goodIn_of _ (by decide +kernel)) ggX3_isSpeaker_X3_isNumber
set_option maxRecDepth 20000 in
theorem ggX3_isSpeaker_X3_isPlate : GoodIn wsX3_isSpeaker wsX3_isPlate := goodIn_r _ [84, 85, 2, 4, 5, 6, 7, 8, 9, 10, 11, 12, 13, 14, 15, 16, 17, 18, 19, 20, 21, 22, 23, 77, 78, 79, 80, 86, 87, 88, 89, 90, 91, 92, 93, 94, 95, 96, 97, 98, 99, 100, 101, 102, 103, 104, 105, 106, 107] (by decide +kernel) (by decide +kernel)
set_option maxRecDepth 20000 in
theorem gX3_isSpeaker_X3_isPlate : GoodIn wsX3_isSpeaker (wsV RX3 101 RX3 yX3_isPlate wsX3_isPlate) := goodIn_app (goodIn_of _ (by decide +kernel)) ggX3_isSpeaker_X3_isPlate
theorem dX3_isSpeaker_0 : decode cX3_isSpeaker 0 = .ok (.aload_n 0, 1) := by decide +kernel
theorem dX3_isSpeaker_1 : decode cX3_isSpeaker 1 = .ok (.invokevirtual 22, 3) := by decide +kernel
theorem dX3_isSpeaker_4 : decode cX3_isSpeaker 4 = .ok (.aload_n 0, 1) := by decide +kernel
theorem dX3_isSpeaker_5 : decode cX3_isSpeaker 5 = .ok (.ldc 83, 2) := by decide +kernel
theorem dX3_isSpeaker_7 : decode cX3_isSpeaker 7 = .ok (.invokevirtual 37, 3) := by decide +kernel
theorem dX3_isSpeaker_10 : decode cX3_isSpeaker 10 = .ok (.ifCond .eq 33, 3) := by decide +kernel
theorem dX3_isSpeaker_13 : decode cX3_isSpeaker 13 = .ok (.aload_n 0, 1) := by decide +kernel
theorem dX3_isSpeaker_14 : decode cX3_isSpeaker 14 = .ok (.invokevirtual 22, 3) := by decide +kernel
theorem dX3_isSpeaker_17 : decode cX3_isSpeaker 17 = .ok (.aload_n 0, 1) := by decide +kernel
theorem dX3_isSpeaker_18 : decode cX3_isSpeaker 18 = .ok (.iload_n 2, 1) := by decide +kernel
theorem dX3_isSpeaker_19 : decode cX3_isSpeaker 19 = .ok (.iconst 1, 1) := by decide +kernel
theorem dX3_isSpeaker_20 : decode cX3_isSpeaker 20 = .ok (.isub, 1) := by decide +kernel
theorem dX3_isSpeaker_21 : decode cX3_isSpeaker 21 = .ok (.invokevirtual 85, 3) := by decide +kernel
theorem dX3_isSpeaker_24 : decode cX3_isSpeaker 24 = .ok (.ifCond .ne 5, 3) := by decide +kernel
theorem dX3_isSpeaker_27 : decode cX3_isSpeaker 27 = .ok (.iconst 0, 1) := by decide +kernel
theorem dX3_isSpeaker_28 : decode cX3_isSpeaker 28 = .ok (.ireturn, 1) := by decide +kernel
theorem dX3_isSpeaker_29 : decode cX3_isSpeaker 29 = .ok (.aload_n 1, 1) := by decide +kernel
theorem dX3_isSpeaker_30 : decode cX3_isSpeaker 30 = .ok (.getfield 89, 3) := by decide +kernel
theorem dX3_isSpeaker_33 : decode cX3_isSpeaker 33 = .ok (.iload_n 2, 1) := by decide +kernel
theorem dX3_isSpeaker_34 : decode cX3_isSpeaker 34 = .ok (.aload_n 0, 1) := by decide +kernel
theorem dX3_isSpeaker_35 : decode cX3_isSpeaker 35 = .ok (.getfield 92, 3) := by decide +kernel
theorem dX3_isSpeaker_38 : decode cX3_isSpeaker 38 = .ok (.iastore, 1) := by decide +kernel
theorem dX3_isSpeaker_39 : decode cX3_isSpeaker 39 = .ok (.aload_n 0, 1) := by decide +kernel
theorem dX3_isSpeaker_40 : decode cX3_isSpeaker 40 = .ok (.invokevirtual 22, 3) := by decide +kernel
theorem dX3_isSpeaker_43 : decode cX3_isSpeaker 43 = .ok (.aload_n 0, 1) := by decide +kernel
theorem dX3_isSpeaker_44 : decode cX3_isSpeaker 44 = .ok (.ldc 95, 2) := by decide +kernel
theorem dX3_isSpeaker_46 : decode cX3_isSpeaker 46 = .ok (.invokevirtual 37, 3) := by decide +kernel
theorem dX3_isSpeaker_49 : decode cX3_isSpeaker 49 = .ok (.ifCond .eq 32, 3) := by decide +kernel
theorem dX3_isSpeaker_52 : decode cX3_isSpeaker 52 = .ok (.aload_n 0, 1) := by decide +kernel
theorem dX3_isSpeaker_53 : decode cX3_isSpeaker 53 = .ok (.invokevirtual 22, 3) := by decide +kernel
theorem dX3_isSpeaker_56 : decode cX3_isSpeaker 56 = .ok (.aload_n 0, 1) := by decide +kernel
theorem dX3_isSpeaker_57 : decode cX3_isSpeaker 57 = .ok (.bipush 99, 2) := by decide +kernel
theorem dX3_isSpeaker_59 : decode cX3_isSpeaker 59 = .ok (.invokevirtual 85, 3) := by decide +kernel
theorem dX3_isSpeaker_62 : decode cX3_isSpeaker 62 = .ok (.ifCond .ne 5, 3) := by decide +kernel
theorem dX3_isSpeaker_65 : decode cX3_isSpeaker 65 = .ok (.iconst 0, 1) := by decide +kernel
theorem dX3_isSpeaker_66 : decode cX3_isSpeaker 66 = .ok (.ireturn, 1) := by decide +kernel
theorem dX3_isSpeaker_67 : decode cX3_isSpeaker 67 = .ok (.aload_n 1, 1) := by decide +kernel
theorem dX3_isSpeaker_68 : decode cX3_isSpeaker 68 = .ok (.getfield 97, 3) := by decide +kernel
theorem dX3_isSpeaker_71 : decode cX3_isSpeaker 71 = .ok (.iload_n 2, 1) := by decide +kernel
theorem dX3_isSpeaker_72 : decode cX3_isSpeaker 72 = .ok (.aload_n 0, 1) := by decide +kernel
theorem dX3_isSpeaker_73 : decode cX3_isSpeaker 73 = .ok (.getfield 92, 3) := by decide +kernel
theorem dX3_isSpeaker_76 : decode cX3_isSpeaker 76 = .ok (.iastore, 1) := by decide +kernel
theorem dX3_isSpeaker_77 : decode cX3_isSpeaker 77 = .ok (.aload_n 0, 1) := by decide +kernel
theorem dX3_isSpeaker_78 : decode cX3_isSpeaker 78 = .ok (.invokevirtual 22, 3) := by decide +kernel
theorem dX3_isSpeaker_81 : decode cX3_isSpeaker 81 = .ok (.aload_n 0, 1) := by decide +kernel
theorem dX3_isSpeaker_82 : decode cX3_isSpeaker 82 = .ok (.ldc 99, 2) := by decide +kernel
theorem dX3_isSpeaker_84 : decode cX3_isSpeaker 84 = .ok (.invokevirtual 37, 3) := by decide +kernel
theorem dX3_isSpeaker_87 : decode cX3_isSpeaker 87 = .ok (.ifCond .eq 12, 3) := by decide +kernel
theorem dX3_isSpeaker_90 : decode cX3_isSpeaker 90 = .ok (.aload_n 0, 1) := by decide +kernel
theorem dX3_isSpeaker_91 : decode cX3_isSpeaker 91 = .ok (.aload_n 1, 1) := by decide +kernel
theorem dX3_isSpeaker_92 : decode cX3_isSpeaker 92 = .ok (.iload_n 2, 1) := by decide +kernel
theorem dX3_isSpeaker_93 : decode cX3_isSpeaker 93 = .ok (.invokevirtual 101, 3) := by decide +kernel
theorem dX3_isSpeaker_96 : decode cX3_isSpeaker 96 = .ok (.ifCond .eq 7, 3) := by decide +kernel
theorem dX3_isSpeaker_99 : decode cX3_isSpeaker 99 = .ok (.iconst 1, 1) := by decide +kernel
theorem dX3_isSpeaker_100 : decode cX3_isSpeaker 100 = .ok (.goto 4, 3) := by decide +kernel
theorem dX3_isSpeaker_103 : decode cX3_isSpeaker 103 = .ok (.iconst 0, 1) := by decide +kernel
theorem dX3_isSpeaker_104 : decode cX3_isSpeaker 104 = .ok (.ireturn, 1) := by decide +kernel
set_option maxRecDepth 20000 in
theorem ggX3_isPlate_X3_step : GoodIn wsX3_isPlate wsX3_step := goodIn_r _ [7, 8, 9, 10, 11, 12, 2, 13, 14, 15, 16, 17, 18, 6, 19, 20, 21, 22, 43, 44, 45, 46, 47, 48] (by decide +kernel) (by decide +kernel)
set_option maxRecDepth 20000 in
theorem gX3_isPlate_X3_step : GoodIn wsX3_isPlate (wsV RX3 22 RX3 yX3_step wsX3_step) := goodIn_app (goodIn_of _ (by decide +kernel)) ggX3_isPlate_X3_step
set_option maxRecDepth 20000 in
theorem ggX3_isPlate_X3_isNumber : GoodIn wsX3_isPlate wsX3_isNumber := goodIn_r _ [26, 12, 2, 43, 44, 45, 46, 47, 48] (by decide +kernel) (by decide +kernel)
set_option maxRecDepth 20000 in
theorem gX3_isPlate_X3_isNumber : GoodIn wsX3_isPlate (wsV RX3 85 RX3 yX3_isNumber wsX3_isNumber) := goodIn_app (goodIn_of _ (by decide +kernel)) ggX3_isPlate_X3_isNumber
set_option maxRecDepth 20000 in
theorem ggX3_isPlate_X2_at : GoodIn wsX3_isPlate wsX2_at := goodIn_r _ [30] (by decide +kernel) (by decide +kernel)
set_option maxRecDepth 20000 in
theorem gX3_isPlate_X2_at : GoodIn wsX3_isPlate (va_wsS RX3 107 yX2_at wsX2_at) := goodIn_app (goodIn_of _ (by decide +kernel)) ggX3_isPlate_X2_at
theorem dX3_isPlate_0 : decode cX3_isPlate 0 = .ok (.aload_n 0, 1) := by decide +kernel
theorem dX3_isPlate_1 : decode cX3_isPlate 1 = .ok (.invokevirtual 22, 3) := by decide +kernel
theorem dX3_isPlate_4 : decode cX3_isPlate 4 = .ok (.aload_n 0, 1) := by decide +kernel
theorem dX3_isPlate_5 : decode cX3_isPlate 5 = .ok (.sipush 999, 3) := by decide +kernel
theorem dX3_isPlate_8 : decode cX3_isPlate 8 = .ok (.invokevirtual 85, 3) := by decide +kernel
theorem dX3_isPlate_11 : decode cX3_isPlate 11 = .ok (.ifCond .ne 5, 3) := by decide +kernel
theorem dX3_isPlate_14 : decode cX3_isPlate 14 = .ok (.iconst 0, 1) := by decide +kernel
theorem dX3_isPlate_15 : decode cX3_isPlate 15 = .ok (.ireturn, 1) := by decide +kernel
theorem dX3_isPlate_16 : decode cX3_isPlate 16 = .ok (.iconst 0, 1) := by decide +kernel
theorem dX3_isPlate_17 : decode cX3_isPlate 17 = .ok (.istore_n 3, 1) := by decide +kernel
theorem dX3_isPlate_18 : decode cX3_isPlate 18 = .ok (.iload_n 3, 1) := by decide +kernel
theorem dX3_isPlate_19 : decode cX3_isPlate 19 = .ok (.bipush 6, 2) := by decide +kernel
theorem dX3_isPlate_21 : decode cX3_isPlate 21 = .ok (.if_icmp .ge 37, 3) := by decide +kernel
theorem dX3_isPlate_24 : decode cX3_isPlate 24 = .ok (.aload_n 0, 1) := by decide +kernel
theorem dX3_isPlate_25 : decode cX3_isPlate 25 = .ok (.sipush 999, 3) := by decide +kernel
theorem dX3_isPlate_28 : decode cX3_isPlate 28 = .ok (.invokevirtual 85, 3) := by decide +kernel
theorem dX3_isPlate_31 : decode cX3_isPlate 31 = .ok (.ifCond .eq 27, 3) := by decide +kernel
theorem dX3_isPlate_34 : decode cX3_isPlate 34 = .ok (.aload_n 1, 1) := by decide +kernel
theorem dX3_isPlate_35 : decode cX3_isPlate 35 = .ok (.getfield 104, 3) := by decide +kernel
theorem dX3_isPlate_38 : decode cX3_isPlate 38 = .ok (.iload_n 2, 1) := by decide +kernel
theorem dX3_isPlate_39 : decode cX3_isPlate 39 = .ok (.iload_n 3, 1) := by decide +kernel
theorem dX3_isPlate_40 : decode cX3_isPlate 40 = .ok (.invokestatic 107, 3) := by decide +kernel
theorem dX3_isPlate_43 : decode cX3_isPlate 43 = .ok (.aload_n 0, 1) := by decide +kernel
theorem dX3_isPlate_44 : decode cX3_isPlate 44 = .ok (.getfield 92, 3) := by decide +kernel
theorem dX3_isPlate_47 : decode cX3_isPlate 47 = .ok (.iastore, 1) := by decide +kernel
theorem dX3_isPlate_48 : decode cX3_isPlate 48 = .ok (.aload_n 0, 1) := by decide +kernel
theorem dX3_isPlate_49 : decode cX3_isPlate 49 = .ok (.invokevirtual 22, 3) := by decide +kernel
theorem dX3_isPlate_52 : decode cX3_isPlate 52 = .ok (.iinc 3 1, 3) := by decide +kernel
theorem dX3_isPlate_55 : decode cX3_isPlate 55 = .ok (.goto (-37), 3) := by decide +kernel
theorem dX3_isPlate_58 : decode cX3_isPlate 58 = .ok (.iconst 1, 1) := by decide +kernel
theorem dX3_isPlate_59 : decode cX3_isPlate 59 = .ok (.ireturn, 1) := by decide +kernel
set_option maxRecDepth 20000 in
theorem ggX3_isList_X3_step : GoodIn wsX3_isList wsX3_step := goodIn_r _ [7, 8, 9, 10, 11, 12, 1, 13, 14, 15, 16, 17, 18, 6, 19, 20, 21, 22, 27, 28, 29, 30, 31, 32] (by decide +kernel) (by decide +kernel)
set_option maxRecDepth 20000 in
theorem gX3_isList_X3_step : GoodIn wsX3_isList (wsV RX3 22 RX3 yX3_step wsX3_step) := goodIn_app (goodIn_of _ (by decide +kernel)) ggX3_isList_X3_step
set_option maxRecDepth 20000 in
theorem ggX3_isList_X3_isNumber : GoodIn wsX3_isList wsX3_isNumber := goodIn_r _ [26, 12, 1, 27, 28, 29, 30, 31, 32] (by decide +kernel) (by decide +kernel)
set_option maxRecDepth 20000 in
theorem gX3_isList_X3_isNumber : GoodIn wsX3_isList (wsV RX3 85 RX3 yX3_isNumber wsX3_isNumber) := goodIn_app (goodIn_of _ (by decide +kernel)) ggX3_isList_X3_isNumber
theorem dX3_isList_0 : decode cX3_isList 0 = .ok (.aload_n 0, 1) := by decide +kernel
theorem dX3_isList_1 : decode cX3_isList 1 = .ok (.invokevirtual 22, 3) := by decide +kernel
theorem dX3_isList_4 : decode cX3_isList 4 = .ok (.aload_n 0, 1) := by decide +kernel
theorem dX3_isList_5 : decode cX3_isList 5 = .ok (.iconst 5, 1) := by decide +kernel
theorem dX3_isList_6 : decode cX3_isList 6 = .ok (.invokevirtual 85, 3) := by decide +kernel
theorem dX3_isList_9 : decode cX3_isList 9 = .ok (.ifCond .ne 5, 3) := by decide +kernel
theorem dX3_isList_12 : decode cX3_isList 12 = .ok (.iconst 0, 1) := by decide +kernel
theorem dX3_isList_13 : decode cX3_isList 13 = .ok (.ireturn, 1) := by decide +kernel
theorem dX3_isList_14 : decode cX3_isList 14 = .ok (.aload_n 0, 1) := by decide +kernel
theorem dX3_isList_15 : decode cX3_isList 15 = .ok (.getfield 92, 3) := by decide +kernel
theorem dX3_isList_18 : decode cX3_isList 18 = .ok (.istore_n 2, 1) := by decide +kernel
theorem dX3_isList_19 : decode cX3_isList 19 = .ok (.aload_n 0, 1) := by decide +kernel
theorem dX3_isList_20 : decode cX3_isList 20 = .ok (.invokevirtual 22, 3) := by decide +kernel
theorem dX3_isList_23 : decode cX3_isList 23 = .ok (.aload_n 0, 1) := by decide +kernel
theorem dX3_isList_24 : decode cX3_isList 24 = .ok (.bipush 20, 2) := by decide +kernel
theorem dX3_isList_26 : decode cX3_isList 26 = .ok (.invokevirtual 85, 3) := by decide +kernel
theorem dX3_isList_29 : decode cX3_isList 29 = .ok (.ifCond .ne 5, 3) := by decide +kernel
theorem dX3_isList_32 : decode cX3_isList 32 = .ok (.iconst 0, 1) := by decide +kernel
theorem dX3_isList_33 : decode cX3_isList 33 = .ok (.ireturn, 1) := by decide +kernel
theorem dX3_isList_34 : decode cX3_isList 34 = .ok (.aload_n 1, 1) := by decide +kernel
theorem dX3_isList_35 : decode cX3_isList 35 = .ok (.getfield 111, 3) := by decide +kernel
theorem dX3_isList_38 : decode cX3_isList 38 = .ok (.iload_n 2, 1) := by decide +kernel
theorem dX3_isList_39 : decode cX3_isList 39 = .ok (.aload_n 0, 1) := by decide +kernel
theorem dX3_isList_40 : decode cX3_isList 40 = .ok (.getfield 92, 3) := by decide +kernel
theorem dX3_isList_43 : decode cX3_isList 43 = .ok (.iastore, 1) := by decide +kernel
theorem dX3_isList_44 : decode cX3_isList 44 = .ok (.aload_n 0, 1) := by decide +kernel
theorem dX3_isList_45 : decode cX3_isList 45 = .ok (.invokevirtual 22, 3) := by decide +kernel
theorem dX3_isList_48 : decode cX3_isList 48 = .ok (.iconst 1, 1) := by decide +kernel
theorem dX3_isList_49 : decode cX3_isList 49 = .ok (.ireturn, 1) := by decide +kernel
set_option maxRecDepth 20000 in
theorem ggX3_isVinegar_X3_step : GoodIn wsX3_isVinegar wsX3_step := goodIn_r _ [7, 8, 9, 10, 11, 12, 1, 13, 14, 15, 16, 17, 18, 6, 19, 20, 21, 22, 27, 28, 29, 30, 31, 32] (by decide +kernel) (by decide +kernel)
set_option maxRecDepth 20000 in
theorem gX3_isVinegar_X3_step : GoodIn wsX3_isVinegar (wsV RX3 22 RX3 yX3_step wsX3_step) := goodIn_app (goodIn_of _ (by decide +kernel)) ggX3_isVinegar_X3_step
set_option maxRecDepth 20000 in
theorem ggX3_isVinegar_X3_isNumber : GoodIn wsX3_isVinegar wsX3_isNumber := goodIn_r _ [26, 12, 1, 27, 28, 29, 30, 31, 32] (by decide +kernel) (by decide +kernel)
set_option maxRecDepth 20000 in
theorem gX3_isVinegar_X3_isNumber : GoodIn wsX3_isVinegar (wsV RX3 85 RX3 yX3_isNumber wsX3_isNumber) := goodIn_app (goodIn_of _ (by decide +kernel)) ggX3_isVinegar_X3_isNumber
theorem dX3_isVinegar_0 : decode cX3_isVinegar 0 = .ok (.aload_n 0, 1) := by decide +kernel
theorem dX3_isVinegar_1 : decode cX3_isVinegar 1 = .ok (.invokevirtual 22, 3) := by decide +kernel
theorem dX3_isVinegar_4 : decode cX3_isVinegar 4 = .ok (.aload_n 0, 1) := by decide +kernel
theorem dX3_isVinegar_5 : decode cX3_isVinegar 5 = .ok (.bipush 9, 2) := by decide +kernel
theorem dX3_isVinegar_7 : decode cX3_isVinegar 7 = .ok (.invokevirtual 85, 3) := by decide +kernel
theorem dX3_isVinegar_10 : decode cX3_isVinegar 10 = .ok (.ifCond .ne 5, 3) := by decide +kernel
theorem dX3_isVinegar_13 : decode cX3_isVinegar 13 = .ok (.iconst 0, 1) := by decide +kernel
theorem dX3_isVinegar_14 : decode cX3_isVinegar 14 = .ok (.ireturn, 1) := by decide +kernel
theorem dX3_isVinegar_15 : decode cX3_isVinegar 15 = .ok (.aload_n 1, 1) := by decide +kernel
theorem dX3_isVinegar_16 : decode cX3_isVinegar 16 = .ok (.aload_n 0, 1) := by decide +kernel
theorem dX3_isVinegar_17 : decode cX3_isVinegar 17 = .ok (.getfield 92, 3) := by decide +kernel
theorem dX3_isVinegar_20 : decode cX3_isVinegar 20 = .ok (.putfield 114, 3) := by decide +kernel
theorem dX3_isVinegar_23 : decode cX3_isVinegar 23 = .ok (.aload_n 0, 1) := by decide +kernel
theorem dX3_isVinegar_24 : decode cX3_isVinegar 24 = .ok (.invokevirtual 22, 3) := by decide +kernel
theorem dX3_isVinegar_27 : decode cX3_isVinegar 27 = .ok (.iconst 1, 1) := by decide +kernel
theorem dX3_isVinegar_28 : decode cX3_isVinegar 28 = .ok (.ireturn, 1) := by decide +kernel
theorem dX3_isNumber_0 : decode cX3_isNumber 0 = .ok (.aload_n 0, 1) := by decide +kernel
theorem dX3_isNumber_1 : decode cX3_isNumber 1 = .ok (.getfield 32, 3) := by decide +kernel
theorem dX3_isNumber_4 : decode cX3_isNumber 4 = .ok (.iconst 2, 1) := by decide +kernel
theorem dX3_isNumber_5 : decode cX3_isNumber 5 = .ok (.if_icmp .ne 15, 3) := by decide +kernel
theorem dX3_isNumber_8 : decode cX3_isNumber 8 = .ok (.aload_n 0, 1) := by decide +kernel
theorem dX3_isNumber_9 : decode cX3_isNumber 9 = .ok (.getfield 92, 3) := by decide +kernel
theorem dX3_isNumber_12 : decode cX3_isNumber 12 = .ok (.iload_n 1, 1) := by decide +kernel
theorem dX3_isNumber_13 : decode cX3_isNumber 13 = .ok (.if_icmp .gt 7, 3) := by decide +kernel
theorem dX3_isNumber_16 : decode cX3_isNumber 16 = .ok (.iconst 1, 1) := by decide +kernel
theorem dX3_isNumber_17 : decode cX3_isNumber 17 = .ok (.goto 4, 3) := by decide +kernel
theorem dX3_isNumber_20 : decode cX3_isNumber 20 = .ok (.iconst 0, 1) := by decide +kernel
theorem dX3_isNumber_21 : decode cX3_isNumber 21 = .ok (.ireturn, 1) := by decide +kernel
set_option maxRecDepth 20000 in
theorem ggX3_isWord_J0_length_8abf5 : GoodIn wsX3_isWord wsJ0_length_8abf5 := goodIn_r _ [9, 10, 11, 12, 13, 8, 14, 15, 16] (by decide +kernel) (by decide +kernel)
set_option maxRecDepth 20000 in
theorem gX3_isWord_J0_length_8abf5 : GoodIn wsX3_isWord (wsV RX3 116 RJ0 yJ0_length_8abf5 wsJ0_length_8abf5) := goodIn_app (goodIn_of _ (by decide +kernel)) ggX3_isWord_J0_length_8abf5
set_option maxRecDepth 20000 in
theorem ggX3_isWord_J0_charAt_5068e : GoodIn wsX3_isWord wsJ0_charAt_5068e := goodIn_r _ [20, 10, 21, 22, 23, 8, 24, 15, 16, 25, 26, 27, 28, 29, 30, 31, 32, 33, 34, 35, 36, 37, 38, 39, 40, 41, 42, 43, 44, 45, 46, 47, 48, 49, 50, 51, 52, 53] (by decide +kernel) (by decide +kernel)
set_option maxRecDepth 20000 in
theorem gX3_isWord_J0_charAt_5068e : GoodIn wsX3_isWord (wsV RX3 121 RJ0 yJ0_charAt_5068e wsJ0_charAt_5068e) := goodIn_app (goodIn_of _ (by decide +kernel)) ggX3_isWord_J0_charAt_5068e
theorem dX3_isWord_0 : decode cX3_isWord 0 = .ok (.aload_n 0, 1) := by decide +kernel
theorem dX3_isWord_1 : decode cX3_isWord 1 = .ok (.getfield 32, 3) := by decide +kernel
theorem dX3_isWord_4 : decode cX3_isWord 4 = .ok (.iconst 1, 1) := by decide +kernel
theorem dX3_isWord_5 : decode cX3_isWord 5 = .ok (.if_icmp .ne 19, 3) := by decide +kernel
theorem dX3_isWord_8 : decode cX3_isWord 8 = .ok (.aload_n 0, 1) := by decide +kernel
theorem dX3_isWord_9 : decode cX3_isWord 9 = .ok (.getfield 19, 3) := by decide +kernel
theorem dX3_isWord_12 : decode cX3_isWord 12 = .ok (.aload_n 0, 1) := by decide +kernel
theorem dX3_isWord_13 : decode cX3_isWord 13 = .ok (.getfield 29, 3) := by decide +kernel
theorem dX3_isWord_16 : decode cX3_isWord 16 = .ok (.isub, 1) := by decide +kernel
theorem dX3_isWord_17 : decode cX3_isWord 17 = .ok (.aload_n 1, 1) := by decide +kernel
theorem dX3_isWord_18 : decode cX3_isWord 18 = .ok (.invokevirtual 116, 3) := by decide +kernel
theorem dX3_isWord_21 : decode cX3_isWord 21 = .ok (.if_icmp .eq 5, 3) := by decide +kernel
theorem dX3_isWord_24 : decode cX3_isWord 24 = .ok (.iconst 0, 1) := by decide +kernel
theorem dX3_isWord_25 : decode cX3_isWord 25 = .ok (.ireturn, 1) := by decide +kernel
theorem dX3_isWord_26 : decode cX3_isWord 26 = .ok (.iconst 0, 1) := by decide +kernel
theorem dX3_isWord_27 : decode cX3_isWord 27 = .ok (.istore_n 2, 1) := by decide +kernel
theorem dX3_isWord_28 : decode cX3_isWord 28 = .ok (.iload_n 2, 1) := by decide +kernel
theorem dX3_isWord_29 : decode cX3_isWord 29 = .ok (.aload_n 1, 1) := by decide +kernel
theorem dX3_isWord_30 : decode cX3_isWord 30 = .ok (.invokevirtual 116, 3) := by decide +kernel
theorem dX3_isWord_33 : decode cX3_isWord 33 = .ok (.if_icmp .ge 30, 3) := by decide +kernel
theorem dX3_isWord_36 : decode cX3_isWord 36 = .ok (.aload_n 0, 1) := by decide +kernel
theorem dX3_isWord_37 : decode cX3_isWord 37 = .ok (.getfield 11, 3) := by decide +kernel
theorem dX3_isWord_40 : decode cX3_isWord 40 = .ok (.aload_n 0, 1) := by decide +kernel
theorem dX3_isWord_41 : decode cX3_isWord 41 = .ok (.getfield 29, 3) := by decide +kernel
theorem dX3_isWord_44 : decode cX3_isWord 44 = .ok (.iload_n 2, 1) := by decide +kernel
theorem dX3_isWord_45 : decode cX3_isWord 45 = .ok (.iadd, 1) := by decide +kernel
theorem dX3_isWord_46 : decode cX3_isWord 46 = .ok (.baload, 1) := by decide +kernel
theorem dX3_isWord_47 : decode cX3_isWord 47 = .ok (.aload_n 1, 1) := by decide +kernel
theorem dX3_isWord_48 : decode cX3_isWord 48 = .ok (.iload_n 2, 1) := by decide +kernel
theorem dX3_isWord_49 : decode cX3_isWord 49 = .ok (.invokevirtual 121, 3) := by decide +kernel
theorem dX3_isWord_52 : decode cX3_isWord 52 = .ok (.if_icmp .eq 5, 3) := by decide +kernel
theorem dX3_isWord_55 : decode cX3_isWord 55 = .ok (.iconst 0, 1) := by decide +kernel
theorem dX3_isWord_56 : decode cX3_isWord 56 = .ok (.ireturn, 1) := by decide +kernel
theorem dX3_isWord_57 : decode cX3_isWord 57 = .ok (.iinc 2 1, 3) := by decide +kernel
theorem dX3_isWord_60 : decode cX3_isWord 60 = .ok (.goto (-32), 3) := by decide +kernel
theorem dX3_isWord_63 : decode cX3_isWord 63 = .ok (.iconst 1, 1) := by decide +kernel
theorem dX3_isWord_64 : decode cX3_isWord 64 = .ok (.ireturn, 1) := by decide +kernel
set_option maxRecDepth 20000 in
theorem ggX3_step_X3_isLetter : GoodIn wsX3_step wsX3_isLetter := goodIn_r _ [14] (by decide +kernel) (by decide +kernel)
set_option maxRecDepth 20000 in
theorem gX3_step_X3_isLetter : GoodIn wsX3_step (va_wsS RX3 125 yX3_isLetter wsX3_isLetter) := goodIn_app (goodIn_of _ (by decide +kernel)) ggX3_step_X3_isLetter
set_option maxRecDepth 20000 in
theorem ggX3_step_X3_isDigit : GoodIn wsX3_step wsX3_isDigit := goodIn_r _ [17] (by decide +kernel) (by decide +kernel)
set_option maxRecDepth 20000 in
theorem gX3_step_X3_isDigit : GoodIn wsX3_step (va_wsS RX3 128 yX3_isDigit wsX3_isDigit) := goodIn_app (goodIn_of _ (by decide +kernel)) ggX3_step_X3_isDigit
theorem dX3_step_0 : decode cX3_step 0 = .ok (.aload_n 0, 1) := by decide +kernel
theorem dX3_step_1 : decode cX3_step 1 = .ok (.aload_n 0, 1) := by decide +kernel
theorem dX3_step_2 : decode cX3_step 2 = .ok (.getfield 19, 3) := by decide +kernel
theorem dX3_step_5 : decode cX3_step 5 = .ok (.putfield 29, 3) := by decide +kernel
theorem dX3_step_8 : decode cX3_step 8 = .ok (.aload_n 0, 1) := by decide +kernel
theorem dX3_step_9 : decode cX3_step 9 = .ok (.getfield 29, 3) := by decide +kernel
theorem dX3_step_12 : decode cX3_step 12 = .ok (.aload_n 0, 1) := by decide +kernel
theorem dX3_step_13 : decode cX3_step 13 = .ok (.getfield 15, 3) := by decide +kernel
theorem dX3_step_16 : decode cX3_step 16 = .ok (.if_icmp .ge 30, 3) := by decide +kernel
theorem dX3_step_19 : decode cX3_step 19 = .ok (.aload_n 0, 1) := by decide +kernel
theorem dX3_step_20 : decode cX3_step 20 = .ok (.getfield 11, 3) := by decide +kernel
theorem dX3_step_23 : decode cX3_step 23 = .ok (.aload_n 0, 1) := by decide +kernel
theorem dX3_step_24 : decode cX3_step 24 = .ok (.getfield 29, 3) := by decide +kernel
theorem dX3_step_27 : decode cX3_step 27 = .ok (.baload, 1) := by decide +kernel
theorem dX3_step_28 : decode cX3_step 28 = .ok (.bipush 32, 2) := by decide +kernel
theorem dX3_step_30 : decode cX3_step 30 = .ok (.if_icmp .ne 16, 3) := by decide +kernel
theorem dX3_step_33 : decode cX3_step 33 = .ok (.aload_n 0, 1) := by decide +kernel
theorem dX3_step_34 : decode cX3_step 34 = .ok (.dup, 1) := by decide +kernel
theorem dX3_step_35 : decode cX3_step 35 = .ok (.getfield 29, 3) := by decide +kernel
theorem dX3_step_38 : decode cX3_step 38 = .ok (.iconst 1, 1) := by decide +kernel
theorem dX3_step_39 : decode cX3_step 39 = .ok (.iadd, 1) := by decide +kernel
theorem dX3_step_40 : decode cX3_step 40 = .ok (.putfield 29, 3) := by decide +kernel
theorem dX3_step_43 : decode cX3_step 43 = .ok (.goto (-35), 3) := by decide +kernel
theorem dX3_step_46 : decode cX3_step 46 = .ok (.aload_n 0, 1) := by decide +kernel
theorem dX3_step_47 : decode cX3_step 47 = .ok (.aload_n 0, 1) := by decide +kernel
theorem dX3_step_48 : decode cX3_step 48 = .ok (.getfield 29, 3) := by decide +kernel
theorem dX3_step_51 : decode cX3_step 51 = .ok (.putfield 19, 3) := by decide +kernel
theorem dX3_step_54 : decode cX3_step 54 = .ok (.aload_n 0, 1) := by decide +kernel
theorem dX3_step_55 : decode cX3_step 55 = .ok (.getfield 29, 3) := by decide +kernel
theorem dX3_step_58 : decode cX3_step 58 = .ok (.aload_n 0, 1) := by decide +kernel
theorem dX3_step_59 : decode cX3_step 59 = .ok (.getfield 15, 3) := by decide +kernel
theorem dX3_step_62 : decode cX3_step 62 = .ok (.if_icmp .lt 11, 3) := by decide +kernel
theorem dX3_step_65 : decode cX3_step 65 = .ok (.aload_n 0, 1) := by decide +kernel
theorem dX3_step_66 : decode cX3_step 66 = .ok (.iconst 0, 1) := by decide +kernel
theorem dX3_step_67 : decode cX3_step 67 = .ok (.putfield 32, 3) := by decide +kernel
theorem dX3_step_70 : decode cX3_step 70 = .ok (.goto 189, 3) := by decide +kernel
theorem dX3_step_73 : decode cX3_step 73 = .ok (.aload_n 0, 1) := by decide +kernel
theorem dX3_step_74 : decode cX3_step 74 = .ok (.getfield 11, 3) := by decide +kernel
theorem dX3_step_77 : decode cX3_step 77 = .ok (.aload_n 0, 1) := by decide +kernel
theorem dX3_step_78 : decode cX3_step 78 = .ok (.getfield 29, 3) := by decide +kernel
theorem dX3_step_81 : decode cX3_step 81 = .ok (.baload, 1) := by decide +kernel
theorem dX3_step_82 : decode cX3_step 82 = .ok (.invokestatic 125, 3) := by decide +kernel
theorem dX3_step_85 : decode cX3_step 85 = .ok (.ifCond .eq 47, 3) := by decide +kernel
theorem dX3_step_88 : decode cX3_step 88 = .ok (.aload_n 0, 1) := by decide +kernel
theorem dX3_step_89 : decode cX3_step 89 = .ok (.iconst 1, 1) := by decide +kernel
theorem dX3_step_90 : decode cX3_step 90 = .ok (.putfield 32, 3) := by decide +kernel
theorem dX3_step_93 : decode cX3_step 93 = .ok (.aload_n 0, 1) := by decide +kernel
theorem dX3_step_94 : decode cX3_step 94 = .ok (.getfield 19, 3) := by decide +kernel
theorem dX3_step_97 : decode cX3_step 97 = .ok (.aload_n 0, 1) := by decide +kernel
theorem dX3_step_98 : decode cX3_step 98 = .ok (.getfield 15, 3) := by decide +kernel
theorem dX3_step_101 : decode cX3_step 101 = .ok (.if_icmp .ge 158, 3) := by decide +kernel
theorem dX3_step_104 : decode cX3_step 104 = .ok (.aload_n 0, 1) := by decide +kernel
theorem dX3_step_105 : decode cX3_step 105 = .ok (.getfield 11, 3) := by decide +kernel
theorem dX3_step_108 : decode cX3_step 108 = .ok (.aload_n 0, 1) := by decide +kernel
theorem dX3_step_109 : decode cX3_step 109 = .ok (.getfield 19, 3) := by decide +kernel
theorem dX3_step_112 : decode cX3_step 112 = .ok (.baload, 1) := by decide +kernel
theorem dX3_step_113 : decode cX3_step 113 = .ok (.invokestatic 125, 3) := by decide +kernel
theorem dX3_step_116 : decode cX3_step 116 = .ok (.ifCond .eq 143, 3) := by decide +kernel
theorem dX3_step_119 : decode cX3_step 119 = .ok (.aload_n 0, 1) := by decide +kernel
theorem dX3_step_120 : decode cX3_step 120 = .ok (.dup, 1) := by decide +kernel
theorem dX3_step_121 : decode cX3_step 121 = .ok (.getfield 19, 3) := by decide +kernel
theorem dX3_step_124 : decode cX3_step 124 = .ok (.iconst 1, 1) := by decide +kernel
theorem dX3_step_125 : decode cX3_step 125 = .ok (.iadd, 1) := by decide +kernel
theorem dX3_step_126 : decode cX3_step 126 = .ok (.putfield 19, 3) := by decide +kernel
theorem dX3_step_129 : decode cX3_step 129 = .ok (.goto (-36), 3) := by decide +kernel
theorem dX3_step_132 : decode cX3_step 132 = .ok (.aload_n 0, 1) := by decide +kernel
theorem dX3_step_133 : decode cX3_step 133 = .ok (.getfield 11, 3) := by decide +kernel
theorem dX3_step_136 : decode cX3_step 136 = .ok (.aload_n 0, 1) := by decide +kernel
theorem dX3_step_137 : decode cX3_step 137 = .ok (.getfield 29, 3) := by decide +kernel
theorem dX3_step_140 : decode cX3_step 140 = .ok (.baload, 1) := by decide +kernel
theorem dX3_step_141 : decode cX3_step 141 = .ok (.invokestatic 128, 3) := by decide +kernel
theorem dX3_step_144 : decode cX3_step 144 = .ok (.ifCond .eq 82, 3) := by decide +kernel
theorem dX3_step_147 : decode cX3_step 147 = .ok (.aload_n 0, 1) := by decide +kernel
theorem dX3_step_148 : decode cX3_step 148 = .ok (.iconst 2, 1) := by decide +kernel
theorem dX3_step_149 : decode cX3_step 149 = .ok (.putfield 32, 3) := by decide +kernel
theorem dX3_step_152 : decode cX3_step 152 = .ok (.aload_n 0, 1) := by decide +kernel
theorem dX3_step_153 : decode cX3_step 153 = .ok (.iconst 0, 1) := by decide +kernel
theorem dX3_step_154 : decode cX3_step 154 = .ok (.putfield 92, 3) := by decide +kernel
theorem dX3_step_157 : decode cX3_step 157 = .ok (.aload_n 0, 1) := by decide +kernel
theorem dX3_step_158 : decode cX3_step 158 = .ok (.getfield 19, 3) := by decide +kernel
theorem dX3_step_161 : decode cX3_step 161 = .ok (.aload_n 0, 1) := by decide +kernel
theorem dX3_step_162 : decode cX3_step 162 = .ok (.getfield 15, 3) := by decide +kernel
theorem dX3_step_165 : decode cX3_step 165 = .ok (.if_icmp .ge 94, 3) := by decide +kernel
theorem dX3_step_168 : decode cX3_step 168 = .ok (.aload_n 0, 1) := by decide +kernel
theorem dX3_step_169 : decode cX3_step 169 = .ok (.getfield 11, 3) := by decide +kernel
theorem dX3_step_172 : decode cX3_step 172 = .ok (.aload_n 0, 1) := by decide +kernel
theorem dX3_step_173 : decode cX3_step 173 = .ok (.getfield 19, 3) := by decide +kernel
theorem dX3_step_176 : decode cX3_step 176 = .ok (.baload, 1) := by decide +kernel
theorem dX3_step_177 : decode cX3_step 177 = .ok (.invokestatic 128, 3) := by decide +kernel
theorem dX3_step_180 : decode cX3_step 180 = .ok (.ifCond .eq 79, 3) := by decide +kernel
theorem dX3_step_183 : decode cX3_step 183 = .ok (.aload_n 0, 1) := by decide +kernel
theorem dX3_step_184 : decode cX3_step 184 = .ok (.sipush 1000, 3) := by decide +kernel
theorem dX3_step_187 : decode cX3_step 187 = .ok (.aload_n 0, 1) := by decide +kernel
theorem dX3_step_188 : decode cX3_step 188 = .ok (.getfield 92, 3) := by decide +kernel
theorem dX3_step_191 : decode cX3_step 191 = .ok (.bipush 10, 2) := by decide +kernel
theorem dX3_step_193 : decode cX3_step 193 = .ok (.imul, 1) := by decide +kernel
theorem dX3_step_194 : decode cX3_step 194 = .ok (.aload_n 0, 1) := by decide +kernel
theorem dX3_step_195 : decode cX3_step 195 = .ok (.getfield 11, 3) := by decide +kernel
theorem dX3_step_198 : decode cX3_step 198 = .ok (.aload_n 0, 1) := by decide +kernel
theorem dX3_step_199 : decode cX3_step 199 = .ok (.getfield 19, 3) := by decide +kernel
theorem dX3_step_202 : decode cX3_step 202 = .ok (.baload, 1) := by decide +kernel
theorem dX3_step_203 : decode cX3_step 203 = .ok (.iadd, 1) := by decide +kernel
theorem dX3_step_204 : decode cX3_step 204 = .ok (.bipush 48, 2) := by decide +kernel
theorem dX3_step_206 : decode cX3_step 206 = .ok (.isub, 1) := by decide +kernel
theorem dX3_step_207 : decode cX3_step 207 = .ok (.invokestatic 131, 3) := by decide +kernel
theorem dX3_step_210 : decode cX3_step 210 = .ok (.putfield 92, 3) := by decide +kernel
theorem dX3_step_213 : decode cX3_step 213 = .ok (.aload_n 0, 1) := by decide +kernel
theorem dX3_step_214 : decode cX3_step 214 = .ok (.dup, 1) := by decide +kernel
theorem dX3_step_215 : decode cX3_step 215 = .ok (.getfield 19, 3) := by decide +kernel
theorem dX3_step_218 : decode cX3_step 218 = .ok (.iconst 1, 1) := by decide +kernel
theorem dX3_step_219 : decode cX3_step 219 = .ok (.iadd, 1) := by decide +kernel
theorem dX3_step_220 : decode cX3_step 220 = .ok (.putfield 19, 3) := by decide +kernel
theorem dX3_step_223 : decode cX3_step 223 = .ok (.goto (-66), 3) := by decide +kernel
theorem dX3_step_226 : decode cX3_step 226 = .ok (.aload_n 0, 1) := by decide +kernel
theorem dX3_step_227 : decode cX3_step 227 = .ok (.aload_n 0, 1) := by decide +kernel
theorem dX3_step_228 : decode cX3_step 228 = .ok (.getfield 11, 3) := by decide +kernel
theorem dX3_step_231 : decode cX3_step 231 = .ok (.aload_n 0, 1) := by decide +kernel
theorem dX3_step_232 : decode cX3_step 232 = .ok (.getfield 29, 3) := by decide +kernel
theorem dX3_step_235 : decode cX3_step 235 = .ok (.baload, 1) := by decide +kernel
theorem dX3_step_236 : decode cX3_step 236 = .ok (.bipush 59, 2) := by decide +kernel
theorem dX3_step_238 : decode cX3_step 238 = .ok (.if_icmp .ne 7, 3) := by decide +kernel
theorem dX3_step_241 : decode cX3_step 241 = .ok (.iconst 3, 1) := by decide +kernel
theorem dX3_step_242 : decode cX3_step 242 = .ok (.goto 4, 3) := by decide +kernel
theorem dX3_step_245 : decode cX3_step 245 = .ok (.iconst 4, 1) := by decide +kernel
theorem dX3_step_246 : decode cX3_step 246 = .ok (.putfield 32, 3) := by decide +kernel
theorem dX3_step_249 : decode cX3_step 249 = .ok (.aload_n 0, 1) := by decide +kernel
theorem dX3_step_250 : decode cX3_step 250 = .ok (.dup, 1) := by decide +kernel
theorem dX3_step_251 : decode cX3_step 251 = .ok (.getfield 19, 3) := by decide +kernel
theorem dX3_step_254 : decode cX3_step 254 = .ok (.iconst 1, 1) := by decide +kernel
theorem dX3_step_255 : decode cX3_step 255 = .ok (.iadd, 1) := by decide +kernel
theorem dX3_step_256 : decode cX3_step 256 = .ok (.putfield 19, 3) := by decide +kernel
theorem dX3_step_259 : decode cX3_step 259 = .ok (.return_, 1) := by decide +kernel
theorem dX3_isLetter_0 : decode cX3_isLetter 0 = .ok (.iload_n 0, 1) := by decide +kernel
theorem dX3_isLetter_1 : decode cX3_isLetter 1 = .ok (.bipush 97, 2) := by decide +kernel
theorem dX3_isLetter_3 : decode cX3_isLetter 3 = .ok (.if_icmp .lt 13, 3) := by decide +kernel
theorem dX3_isLetter_6 : decode cX3_isLetter 6 = .ok (.iload_n 0, 1) := by decide +kernel
theorem dX3_isLetter_7 : decode cX3_isLetter 7 = .ok (.bipush 122, 2) := by decide +kernel
theorem dX3_isLetter_9 : decode cX3_isLetter 9 = .ok (.if_icmp .gt 7, 3) := by decide +kernel
theorem dX3_isLetter_12 : decode cX3_isLetter 12 = .ok (.iconst 1, 1) := by decide +kernel
theorem dX3_isLetter_13 : decode cX3_isLetter 13 = .ok (.goto 4, 3) := by decide +kernel
theorem dX3_isLetter_16 : decode cX3_isLetter 16 = .ok (.iconst 0, 1) := by decide +kernel
theorem dX3_isLetter_17 : decode cX3_isLetter 17 = .ok (.ireturn, 1) := by decide +kernel
theorem dX3_isDigit_0 : decode cX3_isDigit 0 = .ok (.iload_n 0, 1) := by decide +kernel
theorem dX3_isDigit_1 : decode cX3_isDigit 1 = .ok (.bipush 48, 2) := by decide +kernel
theorem dX3_isDigit_3 : decode cX3_isDigit 3 = .ok (.if_icmp .lt 13, 3) := by decide +kernel
theorem dX3_isDigit_6 : decode cX3_isDigit 6 = .ok (.iload_n 0, 1) := by decide +kernel
theorem dX3_isDigit_7 : decode cX3_isDigit 7 = .ok (.bipush 57, 2) := by decide +kernel
theorem dX3_isDigit_9 : decode cX3_isDigit 9 = .ok (.if_icmp .gt 7, 3) := by decide +kernel
theorem dX3_isDigit_12 : decode cX3_isDigit 12 = .ok (.iconst 1, 1) := by decide +kernel
theorem dX3_isDigit_13 : decode cX3_isDigit 13 = .ok (.goto 4, 3) := by decide +kernel
theorem dX3_isDigit_16 : decode cX3_isDigit 16 = .ok (.iconst 0, 1) := by decide +kernel
theorem dX3_isDigit_17 : decode cX3_isDigit 17 = .ok (.ireturn, 1) := by decide +kernel
