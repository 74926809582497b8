theorem dX5_init_0 : decode cX5_init 0 = .ok (.aload_n 0, 1) := by decide +kernel
theorem dX5_init_1 : decode cX5_init 1 = .ok (.invokespecial 1, 3) := by decide +kernel
theorem dX5_init_4 : decode cX5_init 4 = .ok (.aload_n 0, 1) := by decide +kernel
theorem dX5_init_5 : decode cX5_init 5 = .ok (.bipush 100, 2) := by decide +kernel
theorem dX5_init_7 : decode cX5_init 7 = .ok (.newarray .int, 2) := by decide +kernel
theorem dX5_init_9 : decode cX5_init 9 = .ok (.putfield 7, 3) := by decide +kernel
theorem dX5_init_12 : decode cX5_init 12 = .ok (.aload_n 0, 1) := by decide +kernel
theorem dX5_init_13 : decode cX5_init 13 = .ok (.bipush 100, 2) := by decide +kernel
theorem dX5_init_15 : decode cX5_init 15 = .ok (.newarray .int, 2) := by decide +kernel
theorem dX5_init_17 : decode cX5_init 17 = .ok (.putfield 13, 3) := by decide +kernel
theorem dX5_init_20 : decode cX5_init 20 = .ok (.aload_n 0, 1) := by decide +kernel
theorem dX5_init_21 : decode cX5_init 21 = .ok (.bipush 100, 2) := by decide +kernel
theorem dX5_init_23 : decode cX5_init 23 = .ok (.newarray .int, 2) := by decide +kernel
theorem dX5_init_25 : decode cX5_init 25 = .ok (.putfield 16, 3) := by decide +kernel
theorem dX5_init_28 : decode cX5_init 28 = .ok (.aload_n 0, 1) := by decide +kernel
theorem dX5_init_29 : decode cX5_init 29 = .ok (.bipush 100, 2) := by decide +kernel
theorem dX5_init_31 : decode cX5_init 31 = .ok (.newarray .int, 2) := by decide +kernel
theorem dX5_init_33 : decode cX5_init 33 = .ok (.putfield 19, 3) := by decide +kernel
theorem dX5_init_36 : decode cX5_init 36 = .ok (.aload_n 0, 1) := by decide +kernel
theorem dX5_init_37 : decode cX5_init 37 = .ok (.bipush 8, 2) := by decide +kernel
theorem dX5_init_39 : decode cX5_init 39 = .ok (.newarray .int, 2) := by decide +kernel
theorem dX5_init_41 : decode cX5_init 41 = .ok (.putfield 22, 3) := by decide +kernel
theorem dX5_init_44 : decode cX5_init 44 = .ok (.aload_n 0, 1) := by decide +kernel
theorem dX5_init_45 : decode cX5_init 45 = .ok (.bipush 120, 2) := by decide +kernel
theorem dX5_init_47 : decode cX5_init 47 = .ok (.newarray .int, 2) := by decide +kernel
theorem dX5_init_49 : decode cX5_init 49 = .ok (.putfield 25, 3) := by decide +kernel
theorem dX5_init_52 : decode cX5_init 52 = .ok (.aload_n 0, 1) := by decide +kernel
theorem dX5_init_53 : decode cX5_init 53 = .ok (.iconst 4, 1) := by decide +kernel
theorem dX5_init_54 : decode cX5_init 54 = .ok (.newarray .int, 2) := by decide +kernel
theorem dX5_init_56 : decode cX5_init 56 = .ok (.dup, 1) := by decide +kernel
theorem dX5_init_57 : decode cX5_init 57 = .ok (.iconst 0, 1) := by decide +kernel
theorem dX5_init_58 : decode cX5_init 58 = .ok (.iconst (-1), 1) := by decide +kernel
theorem dX5_init_59 : decode cX5_init 59 = .ok (.iastore, 1) := by decide +kernel
theorem dX5_init_60 : decode cX5_init 60 = .ok (.dup, 1) := by decide +kernel
theorem dX5_init_61 : decode cX5_init 61 = .ok (.iconst 1, 1) := by decide +kernel
theorem dX5_init_62 : decode cX5_init 62 = .ok (.iconst (-1), 1) := by decide +kernel
theorem dX5_init_63 : decode cX5_init 63 = .ok (.iastore, 1) := by decide +kernel
theorem dX5_init_64 : decode cX5_init 64 = .ok (.dup, 1) := by decide +kernel
theorem dX5_init_65 : decode cX5_init 65 = .ok (.iconst 2, 1) := by decide +kernel
theorem dX5_init_66 : decode cX5_init 66 = .ok (.iconst (-1), 1) := by decide +kernel
theorem dX5_init_67 : decode cX5_init 67 = .ok (.iastore, 1) := by decide +kernel
theorem dX5_init_68 : decode cX5_init 68 = .ok (.dup, 1) := by decide +kernel
theorem dX5_init_69 : decode cX5_init 69 = .ok (.iconst 3, 1) := by decide +kernel
theorem dX5_init_70 : decode cX5_init 70 = .ok (.iconst (-1), 1) := by decide +kernel
theorem dX5_init_71 : decode cX5_init 71 = .ok (.iastore, 1) := by decide +kernel
theorem dX5_init_72 : decode cX5_init 72 = .ok (.putfield 28, 3) := by decide +kernel
theorem dX5_init_75 : decode cX5_init 75 = .ok (.aload_n 0, 1) := by decide +kernel
theorem dX5_init_76 : decode cX5_init 76 = .ok (.iconst 4, 1) := by decide +kernel
theorem dX5_init_77 : decode cX5_init 77 = .ok (.newarray .int, 2) := by decide +kernel
theorem dX5_init_79 : decode cX5_init 79 = .ok (.putfield 31, 3) := by decide +kernel
theorem dX5_init_82 : decode cX5_init 82 = .ok (.aload_n 0, 1) := by decide +kernel
theorem dX5_init_83 : decode cX5_init 83 = .ok (.sipush 160, 3) := by decide +kernel
theorem dX5_init_86 : decode cX5_init 86 = .ok (.newarray .int, 2) := by decide +kernel
theorem dX5_init_88 : decode cX5_init 88 = .ok (.putfield 34, 3) := by decide +kernel
theorem dX5_init_91 : decode cX5_init 91 = .ok (.aload_n 0, 1) := by decide +kernel
theorem dX5_init_92 : decode cX5_init 92 = .ok (.getfield 7, 3) := by decide +kernel
theorem dX5_init_95 : decode cX5_init 95 = .ok (.iconst 2, 1) := by decide +kernel
theorem dX5_init_96 : decode cX5_init 96 = .ok (.iconst 1, 1) := by decide +kernel
theorem dX5_init_97 : decode cX5_init 97 = .ok (.iastore, 1) := by decide +kernel
theorem dX5_init_98 : decode cX5_init 98 = .ok (.aload_n 0, 1) := by decide +kernel
theorem dX5_init_99 : decode cX5_init 99 = .ok (.getfield 7, 3) := by decide +kernel
theorem dX5_init_102 : decode cX5_init 102 = .ok (.iconst 3, 1) := by decide +kernel
theorem dX5_init_103 : decode cX5_init 103 = .ok (.iconst 1, 1) := by decide +kernel
theorem dX5_init_104 : decode cX5_init 104 = .ok (.iastore, 1) := by decide +kernel
theorem dX5_init_105 : decode cX5_init 105 = .ok (.iconst 0, 1) := by decide +kernel
theorem dX5_init_106 : decode cX5_init 106 = .ok (.istore_n 1, 1) := by decide +kernel
theorem dX5_init_107 : decode cX5_init 107 = .ok (.iload_n 1, 1) := by decide +kernel
theorem dX5_init_108 : decode cX5_init 108 = .ok (.bipush 10, 2) := by decide +kernel
theorem dX5_init_110 : decode cX5_init 110 = .ok (.if_icmp .ge 19, 3) := by decide +kernel
theorem dX5_init_113 : decode cX5_init 113 = .ok (.aload_n 0, 1) := by decide +kernel
theorem dX5_init_114 : decode cX5_init 114 = .ok (.getfield 7, 3) := by decide +kernel
theorem dX5_init_117 : decode cX5_init 117 = .ok (.bipush 90, 2) := by decide +kernel
theorem dX5_init_119 : decode cX5_init 119 = .ok (.iload_n 1, 1) := by decide +kernel
theorem dX5_init_120 : decode cX5_init 120 = .ok (.iadd, 1) := by decide +kernel
theorem dX5_init_121 : decode cX5_init 121 = .ok (.iconst (-1), 1) := by decide +kernel
theorem dX5_init_122 : decode cX5_init 122 = .ok (.iastore, 1) := by decide +kernel
theorem dX5_init_123 : decode cX5_init 123 = .ok (.iinc 1 1, 3) := by decide +kernel
theorem dX5_init_126 : decode cX5_init 126 = .ok (.goto (-19), 3) := by decide +kernel
theorem dX5_init_129 : decode cX5_init 129 = .ok (.return_, 1) := by decide +kernel
theorem dX5_isIn_0 : decode cX5_isIn 0 = .ok (.lload_n 0, 1) := by decide +kernel
theorem dX5_isIn_1 : decode cX5_isIn 1 = .ok (.lload_n 2, 1) := by decide +kernel
theorem dX5_isIn_2 : decode cX5_isIn 2 = .ok (.lcmp, 1) := by decide +kernel
theorem dX5_isIn_3 : decode cX5_isIn 3 = .ok (.ifCond .lt 14, 3) := by decide +kernel
theorem dX5_isIn_6 : decode cX5_isIn 6 = .ok (.lload_n 0, 1) := by decide +kernel
theorem dX5_isIn_7 : decode cX5_isIn 7 = .ok (.lload 4, 2) := by decide +kernel
theorem dX5_isIn_9 : decode cX5_isIn 9 = .ok (.lcmp, 1) := by decide +kernel
theorem dX5_isIn_10 : decode cX5_isIn 10 = .ok (.ifCond .gt 7, 3) := by decide +kernel
theorem dX5_isIn_13 : decode cX5_isIn 13 = .ok (.iconst 1, 1) := by decide +kernel
theorem dX5_isIn_14 : decode cX5_isIn 14 = .ok (.goto 4, 3) := by decide +kernel
theorem dX5_isIn_17 : decode cX5_isIn 17 = .ok (.iconst 0, 1) := by decide +kernel
theorem dX5_isIn_18 : decode cX5_isIn 18 = .ok (.ireturn, 1) := by decide +kernel
theorem dX5_finds_0 : decode cX5_finds 0 = .ok (.aload_n 0, 1) := by decide +kernel
theorem dX5_finds_1 : decode cX5_finds 1 = .ok (.getfield 22, 3) := by decide +kernel
theorem dX5_finds_4 : decode cX5_finds 4 = .ok (.iconst 0, 1) := by decide +kernel
theorem dX5_finds_5 : decode cX5_finds 5 = .ok (.dup2, 1) := by decide +kernel
theorem dX5_finds_6 : decode cX5_finds 6 = .ok (.iaload, 1) := by decide +kernel
theorem dX5_finds_7 : decode cX5_finds 7 = .ok (.iconst 1, 1) := by decide +kernel
theorem dX5_finds_8 : decode cX5_finds 8 = .ok (.iadd, 1) := by decide +kernel
theorem dX5_finds_9 : decode cX5_finds 9 = .ok (.iastore, 1) := by decide +kernel
theorem dX5_finds_10 : decode cX5_finds 10 = .ok (.aload_n 0, 1) := by decide +kernel
theorem dX5_finds_11 : decode cX5_finds 11 = .ok (.getfield 22, 3) := by decide +kernel
theorem dX5_finds_14 : decode cX5_finds 14 = .ok (.ldc 37, 2) := by decide +kernel
theorem dX5_finds_16 : decode cX5_finds 16 = .ok (.iload_n 1, 1) := by decide +kernel
theorem dX5_finds_17 : decode cX5_finds 17 = .ok (.isub, 1) := by decide +kernel
theorem dX5_finds_18 : decode cX5_finds 18 = .ok (.iconst 1, 1) := by decide +kernel
theorem dX5_finds_19 : decode cX5_finds 19 = .ok (.iadd, 1) := by decide +kernel
theorem dX5_finds_20 : decode cX5_finds 20 = .ok (.dup2, 1) := by decide +kernel
theorem dX5_finds_21 : decode cX5_finds 21 = .ok (.iaload, 1) := by decide +kernel
theorem dX5_finds_22 : decode cX5_finds 22 = .ok (.iconst 1, 1) := by decide +kernel
theorem dX5_finds_23 : decode cX5_finds 23 = .ok (.iadd, 1) := by decide +kernel
theorem dX5_finds_24 : decode cX5_finds 24 = .ok (.iastore, 1) := by decide +kernel
theorem dX5_finds_25 : decode cX5_finds 25 = .ok (.iload_n 1, 1) := by decide +kernel
theorem dX5_finds_26 : decode cX5_finds 26 = .ok (.ireturn, 1) := by decide +kernel
theorem dX5_becomes_0 : decode cX5_becomes 0 = .ok (.aload_n 0, 1) := by decide +kernel
theorem dX5_becomes_1 : decode cX5_becomes 1 = .ok (.getfield 7, 3) := by decide +kernel
theorem dX5_becomes_4 : decode cX5_becomes 4 = .ok (.iload_n 1, 1) := by decide +kernel
theorem dX5_becomes_5 : decode cX5_becomes 5 = .ok (.iaload, 1) := by decide +kernel
theorem dX5_becomes_6 : decode cX5_becomes 6 = .ok (.istore_n 3, 1) := by decide +kernel
theorem dX5_becomes_7 : decode cX5_becomes 7 = .ok (.aload_n 0, 1) := by decide +kernel
theorem dX5_becomes_8 : decode cX5_becomes 8 = .ok (.getfield 7, 3) := by decide +kernel
theorem dX5_becomes_11 : decode cX5_becomes 11 = .ok (.iload_n 1, 1) := by decide +kernel
theorem dX5_becomes_12 : decode cX5_becomes 12 = .ok (.iload_n 2, 1) := by decide +kernel
theorem dX5_becomes_13 : decode cX5_becomes 13 = .ok (.iastore, 1) := by decide +kernel
theorem dX5_becomes_14 : decode cX5_becomes 14 = .ok (.iload_n 3, 1) := by decide +kernel
theorem dX5_becomes_15 : decode cX5_becomes 15 = .ok (.ireturn, 1) := by decide +kernel
theorem dX5_copyRow_0 : decode cX5_copyRow 0 = .ok (.iconst 0, 1) := by decide +kernel
theorem dX5_copyRow_1 : decode cX5_copyRow 1 = .ok (.istore_n 2, 1) := by decide +kernel
theorem dX5_copyRow_2 : decode cX5_copyRow 2 = .ok (.iload_n 2, 1) := by decide +kernel
theorem dX5_copyRow_3 : decode cX5_copyRow 3 = .ok (.bipush 100, 2) := by decide +kernel
theorem dX5_copyRow_5 : decode cX5_copyRow 5 = .ok (.if_icmp .ge 15, 3) := by decide +kernel
theorem dX5_copyRow_8 : decode cX5_copyRow 8 = .ok (.aload_n 1, 1) := by decide +kernel
theorem dX5_copyRow_9 : decode cX5_copyRow 9 = .ok (.iload_n 2, 1) := by decide +kernel
theorem dX5_copyRow_10 : decode cX5_copyRow 10 = .ok (.aload_n 0, 1) := by decide +kernel
theorem dX5_copyRow_11 : decode cX5_copyRow 11 = .ok (.iload_n 2, 1) := by decide +kernel
theorem dX5_copyRow_12 : decode cX5_copyRow 12 = .ok (.iaload, 1) := by decide +kernel
theorem dX5_copyRow_13 : decode cX5_copyRow 13 = .ok (.iastore, 1) := by decide +kernel
theorem dX5_copyRow_14 : decode cX5_copyRow 14 = .ok (.iinc 2 1, 3) := by decide +kernel
theorem dX5_copyRow_17 : decode cX5_copyRow 17 = .ok (.goto (-15), 3) := by decide +kernel
theorem dX5_copyRow_20 : decode cX5_copyRow 20 = .ok (.return_, 1) := by decide +kernel
theorem dX5_isTaste_0 : decode cX5_isTaste 0 = .ok (.iload_n 0, 1) := by decide +kernel
theorem dX5_isTaste_1 : decode cX5_isTaste 1 = .ok (.ifCond .lt 13, 3) := by decide +kernel
theorem dX5_isTaste_4 : decode cX5_isTaste 4 = .ok (.iload_n 0, 1) := by decide +kernel
theorem dX5_isTaste_5 : decode cX5_isTaste 5 = .ok (.bipush 6, 2) := by decide +kernel
theorem dX5_isTaste_7 : decode cX5_isTaste 7 = .ok (.if_icmp .ge 7, 3) := by decide +kernel
theorem dX5_isTaste_10 : decode cX5_isTaste 10 = .ok (.iconst 1, 1) := by decide +kernel
theorem dX5_isTaste_11 : decode cX5_isTaste 11 = .ok (.goto 4, 3) := by decide +kernel
theorem dX5_isTaste_14 : decode cX5_isTaste 14 = .ok (.iconst 0, 1) := by decide +kernel
theorem dX5_isTaste_15 : decode cX5_isTaste 15 = .ok (.ireturn, 1) := by decide +kernel
theorem dX5_isOne_0 : decode cX5_isOne 0 = .ok (.iload_n 1, 1) := by decide +kernel
theorem dX5_isOne_1 : decode cX5_isOne 1 = .ok (.ifCond .lt 17, 3) := by decide +kernel
theorem dX5_isOne_4 : decode cX5_isOne 4 = .ok (.iload_n 1, 1) := by decide +kernel
theorem dX5_isOne_5 : decode cX5_isOne 5 = .ok (.aload_n 0, 1) := by decide +kernel
theorem dX5_isOne_6 : decode cX5_isOne 6 = .ok (.getfield 7, 3) := by decide +kernel
theorem dX5_isOne_9 : decode cX5_isOne 9 = .ok (.iconst 0, 1) := by decide +kernel
theorem dX5_isOne_10 : decode cX5_isOne 10 = .ok (.iaload, 1) := by decide +kernel
theorem dX5_isOne_11 : decode cX5_isOne 11 = .ok (.if_icmp .ge 7, 3) := by decide +kernel
theorem dX5_isOne_14 : decode cX5_isOne 14 = .ok (.iconst 1, 1) := by decide +kernel
theorem dX5_isOne_15 : decode cX5_isOne 15 = .ok (.goto 4, 3) := by decide +kernel
theorem dX5_isOne_18 : decode cX5_isOne 18 = .ok (.iconst 0, 1) := by decide +kernel
theorem dX5_isOne_19 : decode cX5_isOne 19 = .ok (.ireturn, 1) := by decide +kernel
theorem dX5_at_0 : decode cX5_at 0 = .ok (.bipush 10, 2) := by decide +kernel
theorem dX5_at_2 : decode cX5_at 2 = .ok (.bipush 10, 2) := by decide +kernel
theorem dX5_at_4 : decode cX5_at 4 = .ok (.iload_n 0, 1) := by decide +kernel
theorem dX5_at_5 : decode cX5_at 5 = .ok (.imul, 1) := by decide +kernel
theorem dX5_at_6 : decode cX5_at 6 = .ok (.iadd, 1) := by decide +kernel
theorem dX5_at_7 : decode cX5_at 7 = .ok (.iload_n 1, 1) := by decide +kernel
theorem dX5_at_8 : decode cX5_at 8 = .ok (.iadd, 1) := by decide +kernel
theorem dX5_at_9 : decode cX5_at 9 = .ok (.ireturn, 1) := by decide +kernel
theorem dX5_its_0 : decode cX5_its 0 = .ok (.aload_n 0, 1) := by decide +kernel
theorem dX5_its_1 : decode cX5_its 1 = .ok (.getfield 7, 3) := by decide +kernel
theorem dX5_its_4 : decode cX5_its 4 = .ok (.bipush 10, 2) := by decide +kernel
theorem dX5_its_6 : decode cX5_its 6 = .ok (.bipush 10, 2) := by decide +kernel
theorem dX5_its_8 : decode cX5_its 8 = .ok (.iload_n 1, 1) := by decide +kernel
theorem dX5_its_9 : decode cX5_its 9 = .ok (.imul, 1) := by decide +kernel
theorem dX5_its_10 : decode cX5_its 10 = .ok (.iadd, 1) := by decide +kernel
theorem dX5_its_11 : decode cX5_its 11 = .ok (.iload_n 2, 1) := by decide +kernel
theorem dX5_its_12 : decode cX5_its 12 = .ok (.iadd, 1) := by decide +kernel
theorem dX5_its_13 : decode cX5_its 13 = .ok (.iaload, 1) := by decide +kernel
theorem dX5_its_14 : decode cX5_its 14 = .ok (.ireturn, 1) := by decide +kernel
theorem dX5_least_0 : decode cX5_least 0 = .ok (.iload_n 0, 1) := by decide +kernel
theorem dX5_least_1 : decode cX5_least 1 = .ok (.iload_n 1, 1) := by decide +kernel
theorem dX5_least_2 : decode cX5_least 2 = .ok (.if_icmp .ge 7, 3) := by decide +kernel
theorem dX5_least_5 : decode cX5_least 5 = .ok (.iload_n 0, 1) := by decide +kernel
theorem dX5_least_6 : decode cX5_least 6 = .ok (.goto 4, 3) := by decide +kernel
theorem dX5_least_9 : decode cX5_least 9 = .ok (.iload_n 1, 1) := by decide +kernel
theorem dX5_least_10 : decode cX5_least 10 = .ok (.ireturn, 1) := by decide +kernel
theorem dX5_greatest_0 : decode cX5_greatest 0 = .ok (.iload_n 0, 1) := by decide +kernel
theorem dX5_greatest_1 : decode cX5_greatest 1 = .ok (.iload_n 1, 1) := by decide +kernel
theorem dX5_greatest_2 : decode cX5_greatest 2 = .ok (.if_icmp .le 7, 3) := by decide +kernel
theorem dX5_greatest_5 : decode cX5_greatest 5 = .ok (.iload_n 0, 1) := by decide +kernel
theorem dX5_greatest_6 : decode cX5_greatest 6 = .ok (.goto 4, 3) := by decide +kernel
theorem dX5_greatest_9 : decode cX5_greatest 9 = .ok (.iload_n 1, 1) := by decide +kernel
theorem dX5_greatest_10 : decode cX5_greatest 10 = .ok (.ireturn, 1) := by decide +kernel
set_option maxRecDepth 20000 in
theorem ggX5_orNone_X5_finds : GoodIn wsX5_orNone wsX5_finds := goodIn_r _ [6, 7, 8, 9, 10, 11, 12, 13, 14, 15, 16, 17, 18, 19, 20, 21, 22, 23, 24, 25, 26] (by decide +kernel) (by decide +kernel)
set_option maxRecDepth 20000 in
theorem gX5_orNone_X5_finds : GoodIn wsX5_orNone (wsV RX5 39 RX5 yX5_finds wsX5_finds) := goodIn_app (goodIn_of _ (by decide +kernel)) ggX5_orNone_X5_finds
theorem dX5_orNone_0 : decode cX5_orNone 0 = .ok (.iload_n 1, 1) := by decide +kernel
theorem dX5_orNone_1 : decode cX5_orNone 1 = .ok (.ifCond .ge 12, 3) := by decide +kernel
theorem dX5_orNone_4 : decode cX5_orNone 4 = .ok (.aload_n 0, 1) := by decide +kernel
theorem dX5_orNone_5 : decode cX5_orNone 5 = .ok (.ldc 38, 2) := by decide +kernel
theorem dX5_orNone_7 : decode cX5_orNone 7 = .ok (.invokevirtual 39, 3) := by decide +kernel
theorem dX5_orNone_10 : decode cX5_orNone 10 = .ok (.goto 4, 3) := by decide +kernel
theorem dX5_orNone_13 : decode cX5_orNone 13 = .ok (.iload_n 1, 1) := by decide +kernel
theorem dX5_orNone_14 : decode cX5_orNone 14 = .ok (.ireturn, 1) := by decide +kernel
theorem dX5_many_0 : decode cX5_many 0 = .ok (.iconst 0, 1) := by decide +kernel
theorem dX5_many_1 : decode cX5_many 1 = .ok (.istore_n 1, 1) := by decide +kernel
theorem dX5_many_2 : decode cX5_many 2 = .ok (.iload_n 0, 1) := by decide +kernel
theorem dX5_many_3 : decode cX5_many 3 = .ok (.istore_n 2, 1) := by decide +kernel
theorem dX5_many_4 : decode cX5_many 4 = .ok (.iload_n 2, 1) := by decide +kernel
theorem dX5_many_5 : decode cX5_many 5 = .ok (.ifCond .eq 15, 3) := by decide +kernel
theorem dX5_many_8 : decode cX5_many 8 = .ok (.iinc 1 1, 3) := by decide +kernel
theorem dX5_many_11 : decode cX5_many 11 = .ok (.iload_n 2, 1) := by decide +kernel
theorem dX5_many_12 : decode cX5_many 12 = .ok (.iload_n 2, 1) := by decide +kernel
theorem dX5_many_13 : decode cX5_many 13 = .ok (.iconst 1, 1) := by decide +kernel
theorem dX5_many_14 : decode cX5_many 14 = .ok (.isub, 1) := by decide +kernel
theorem dX5_many_15 : decode cX5_many 15 = .ok (.iand, 1) := by decide +kernel
theorem dX5_many_16 : decode cX5_many 16 = .ok (.istore_n 2, 1) := by decide +kernel
theorem dX5_many_17 : decode cX5_many 17 = .ok (.goto (-13), 3) := by decide +kernel
theorem dX5_many_20 : decode cX5_many 20 = .ok (.iload_n 1, 1) := by decide +kernel
theorem dX5_many_21 : decode cX5_many 21 = .ok (.ireturn, 1) := by decide +kernel
set_option maxRecDepth 20000 in
theorem ggX5_vinegar_X5_isIn : GoodIn wsX5_vinegar wsX5_isIn := goodIn_r _ [6] (by decide +kernel) (by decide +kernel)
set_option maxRecDepth 20000 in
theorem gX5_vinegar_X5_isIn : GoodIn wsX5_vinegar (va_wsS RX5 45 yX5_isIn wsX5_isIn) := goodIn_app (goodIn_of _ (by decide +kernel)) ggX5_vinegar_X5_isIn
set_option maxRecDepth 20000 in
theorem ggX5_vinegar_X5_becomes : GoodIn wsX5_vinegar wsX5_becomes := goodIn_r _ [10, 11, 17, 18, 19, 20, 21, 22, 23, 24, 25, 26, 27, 28, 29, 30, 31, 32, 33, 34] (by decide +kernel) (by decide +kernel)
set_option maxRecDepth 20000 in
theorem gX5_vinegar_X5_becomes : GoodIn wsX5_vinegar (wsV RX5 49 RX5 yX5_becomes wsX5_becomes) := goodIn_app (goodIn_of _ (by decide +kernel)) ggX5_vinegar_X5_becomes
set_option maxRecDepth 20000 in
theorem ggX5_vinegar_X5_finds : GoodIn wsX5_vinegar wsX5_finds := goodIn_r _ [15, 16, 2, 17, 18, 19, 20, 21, 22, 23, 24, 25, 26, 27, 28, 29, 30, 31, 32, 33, 34] (by decide +kernel) (by decide +kernel)
set_option maxRecDepth 20000 in
theorem gX5_vinegar_X5_finds : GoodIn wsX5_vinegar (wsV RX5 39 RX5 yX5_finds wsX5_finds) := goodIn_app (goodIn_of _ (by decide +kernel)) ggX5_vinegar_X5_finds
theorem dX5_vinegar_0 : decode cX5_vinegar 0 = .ok (.iload_n 1, 1) := by decide +kernel
theorem dX5_vinegar_1 : decode cX5_vinegar 1 = .ok (.i2l, 1) := by decide +kernel
theorem dX5_vinegar_2 : decode cX5_vinegar 2 = .ok (.lconst 0, 1) := by decide +kernel
theorem dX5_vinegar_3 : decode cX5_vinegar 3 = .ok (.ldc2_w 43, 3) := by decide +kernel
theorem dX5_vinegar_6 : decode cX5_vinegar 6 = .ok (.invokestatic 45, 3) := by decide +kernel
theorem dX5_vinegar_9 : decode cX5_vinegar 9 = .ok (.ifCond .eq 12, 3) := by decide +kernel
theorem dX5_vinegar_12 : decode cX5_vinegar 12 = .ok (.aload_n 0, 1) := by decide +kernel
theorem dX5_vinegar_13 : decode cX5_vinegar 13 = .ok (.iconst 3, 1) := by decide +kernel
theorem dX5_vinegar_14 : decode cX5_vinegar 14 = .ok (.iload_n 1, 1) := by decide +kernel
theorem dX5_vinegar_15 : decode cX5_vinegar 15 = .ok (.invokevirtual 49, 3) := by decide +kernel
theorem dX5_vinegar_18 : decode cX5_vinegar 18 = .ok (.goto 9, 3) := by decide +kernel
theorem dX5_vinegar_21 : decode cX5_vinegar 21 = .ok (.aload_n 0, 1) := by decide +kernel
theorem dX5_vinegar_22 : decode cX5_vinegar 22 = .ok (.ldc 37, 2) := by decide +kernel
theorem dX5_vinegar_24 : decode cX5_vinegar 24 = .ok (.invokevirtual 39, 3) := by decide +kernel
theorem dX5_vinegar_27 : decode cX5_vinegar 27 = .ok (.ireturn, 1) := by decide +kernel
set_option maxRecDepth 20000 in
theorem ggX5_list_X5_isTaste : GoodIn wsX5_list wsX5_isTaste := goodIn_r _ [6] (by decide +kernel) (by decide +kernel)
set_option maxRecDepth 20000 in
theorem gX5_list_X5_isTaste : GoodIn wsX5_list (va_wsS RX5 53 yX5_isTaste wsX5_isTaste) := goodIn_app (goodIn_of _ (by decide +kernel)) ggX5_list_X5_isTaste
set_option maxRecDepth 20000 in
theorem ggX5_list_X5_isIn : GoodIn wsX5_list wsX5_isIn := goodIn_r _ [9] (by decide +kernel) (by decide +kernel)
set_option maxRecDepth 20000 in
theorem gX5_list_X5_isIn : GoodIn wsX5_list (va_wsS RX5 45 yX5_isIn wsX5_isIn) := goodIn_app (goodIn_of _ (by decide +kernel)) ggX5_list_X5_isIn
set_option maxRecDepth 20000 in
theorem ggX5_list_X5_becomes : GoodIn wsX5_list wsX5_becomes := goodIn_r _ [13, 14, 20, 21, 22, 23, 24, 25, 26, 27, 28, 29, 30, 31, 32, 33, 34, 35, 36, 37] (by decide +kernel) (by decide +kernel)
set_option maxRecDepth 20000 in
theorem gX5_list_X5_becomes : GoodIn wsX5_list (wsV RX5 49 RX5 yX5_becomes wsX5_becomes) := goodIn_app (goodIn_of _ (by decide +kernel)) ggX5_list_X5_becomes
set_option maxRecDepth 20000 in
theorem ggX5_list_X5_finds : GoodIn wsX5_list wsX5_finds := goodIn_r _ [18, 19, 2, 20, 21, 22, 23, 24, 25, 26, 27, 28, 29, 30, 31, 32, 33, 34, 35, 36, 37] (by decide +kernel) (by decide +kernel)
set_option maxRecDepth 20000 in
theorem gX5_list_X5_finds : GoodIn wsX5_list (wsV RX5 39 RX5 yX5_finds wsX5_finds) := goodIn_app (goodIn_of _ (by decide +kernel)) ggX5_list_X5_finds
theorem dX5_list_0 : decode cX5_list 0 = .ok (.iload_n 1, 1) := by decide +kernel
theorem dX5_list_1 : decode cX5_list 1 = .ok (.invokestatic 53, 3) := by decide +kernel
theorem dX5_list_4 : decode cX5_list 4 = .ok (.ifCond .eq 26, 3) := by decide +kernel
theorem dX5_list_7 : decode cX5_list 7 = .ok (.iload_n 2, 1) := by decide +kernel
theorem dX5_list_8 : decode cX5_list 8 = .ok (.i2l, 1) := by decide +kernel
theorem dX5_list_9 : decode cX5_list 9 = .ok (.lconst 0, 1) := by decide +kernel
theorem dX5_list_10 : decode cX5_list 10 = .ok (.ldc2_w 57, 3) := by decide +kernel
theorem dX5_list_13 : decode cX5_list 13 = .ok (.invokestatic 45, 3) := by decide +kernel
theorem dX5_list_16 : decode cX5_list 16 = .ok (.ifCond .eq 14, 3) := by decide +kernel
theorem dX5_list_19 : decode cX5_list 19 = .ok (.aload_n 0, 1) := by decide +kernel
theorem dX5_list_20 : decode cX5_list 20 = .ok (.iconst 4, 1) := by decide +kernel
theorem dX5_list_21 : decode cX5_list 21 = .ok (.iload_n 1, 1) := by decide +kernel
theorem dX5_list_22 : decode cX5_list 22 = .ok (.iadd, 1) := by decide +kernel
theorem dX5_list_23 : decode cX5_list 23 = .ok (.iload_n 2, 1) := by decide +kernel
theorem dX5_list_24 : decode cX5_list 24 = .ok (.invokevirtual 49, 3) := by decide +kernel
theorem dX5_list_27 : decode cX5_list 27 = .ok (.goto 9, 3) := by decide +kernel
theorem dX5_list_30 : decode cX5_list 30 = .ok (.aload_n 0, 1) := by decide +kernel
theorem dX5_list_31 : decode cX5_list 31 = .ok (.ldc 37, 2) := by decide +kernel
theorem dX5_list_33 : decode cX5_list 33 = .ok (.invokevirtual 39, 3) := by decide +kernel
theorem dX5_list_36 : decode cX5_list 36 = .ok (.ireturn, 1) := by decide +kernel
set_option maxRecDepth 20000 in
theorem ggX5_listed_X5_isTaste : GoodIn wsX5_listed wsX5_isTaste := goodIn_r _ [6] (by decide +kernel) (by decide +kernel)
set_option maxRecDepth 20000 in
theorem gX5_listed_X5_isTaste : GoodIn wsX5_listed (va_wsS RX5 53 yX5_isTaste wsX5_isTaste) := goodIn_app (goodIn_of _ (by decide +kernel)) ggX5_listed_X5_isTaste
set_option maxRecDepth 20000 in
theorem ggX5_listed_X5_finds : GoodIn wsX5_listed wsX5_finds := goodIn_r _ [10, 11, 2, 12, 13, 14, 15, 16, 17, 18, 19, 20, 21, 22, 23, 24, 25, 26, 27, 28, 29] (by decide +kernel) (by decide +kernel)
set_option maxRecDepth 20000 in
theorem gX5_listed_X5_finds : GoodIn wsX5_listed (wsV RX5 39 RX5 yX5_finds wsX5_finds) := goodIn_app (goodIn_of _ (by decide +kernel)) ggX5_listed_X5_finds
theorem dX5_listed_0 : decode cX5_listed 0 = .ok (.iload_n 1, 1) := by decide +kernel
theorem dX5_listed_1 : decode cX5_listed 1 = .ok (.invokestatic 53, 3) := by decide +kernel
theorem dX5_listed_4 : decode cX5_listed 4 = .ok (.ifCond .eq 14, 3) := by decide +kernel
theorem dX5_listed_7 : decode cX5_listed 7 = .ok (.aload_n 0, 1) := by decide +kernel
theorem dX5_listed_8 : decode cX5_listed 8 = .ok (.getfield 7, 3) := by decide +kernel
theorem dX5_listed_11 : decode cX5_listed 11 = .ok (.iconst 4, 1) := by decide +kernel
theorem dX5_listed_12 : decode cX5_listed 12 = .ok (.iload_n 1, 1) := by decide +kernel
theorem dX5_listed_13 : decode cX5_listed 13 = .ok (.iadd, 1) := by decide +kernel
theorem dX5_listed_14 : decode cX5_listed 14 = .ok (.iaload, 1) := by decide +kernel
theorem dX5_listed_15 : decode cX5_listed 15 = .ok (.goto 9, 3) := by decide +kernel
theorem dX5_listed_18 : decode cX5_listed 18 = .ok (.aload_n 0, 1) := by decide +kernel
theorem dX5_listed_19 : decode cX5_listed 19 = .ok (.ldc 37, 2) := by decide +kernel
theorem dX5_listed_21 : decode cX5_listed 21 = .ok (.invokevirtual 39, 3) := by decide +kernel
theorem dX5_listed_24 : decode cX5_listed 24 = .ok (.ireturn, 1) := by decide +kernel
set_option maxRecDepth 20000 in
theorem ggX5_comes_X5_at : GoodIn wsX5_comes wsX5_at := goodIn_r _ [5] (by decide +kernel) (by decide +kernel)
set_option maxRecDepth 20000 in
theorem gX5_comes_X5_at : GoodIn wsX5_comes (va_wsS RX5 59 yX5_at wsX5_at) := goodIn_app (goodIn_of _ (by decide +kernel)) ggX5_comes_X5_at
theorem dX5_comes_0 : decode cX5_comes 0 = .ok (.aload_n 0, 1) := by decide +kernel
theorem dX5_comes_1 : decode cX5_comes 1 = .ok (.getfield 7, 3) := by decide +kernel
theorem dX5_comes_4 : decode cX5_comes 4 = .ok (.iconst 0, 1) := by decide +kernel
theorem dX5_comes_5 : decode cX5_comes 5 = .ok (.iaload, 1) := by decide +kernel
theorem dX5_comes_6 : decode cX5_comes 6 = .ok (.istore_n 2, 1) := by decide +kernel
theorem dX5_comes_7 : decode cX5_comes 7 = .ok (.aload_n 0, 1) := by decide +kernel
theorem dX5_comes_8 : decode cX5_comes 8 = .ok (.getfield 7, 3) := by decide +kernel
theorem dX5_comes_11 : decode cX5_comes 11 = .ok (.iload_n 2, 1) := by decide +kernel
theorem dX5_comes_12 : decode cX5_comes 12 = .ok (.iconst 0, 1) := by decide +kernel
theorem dX5_comes_13 : decode cX5_comes 13 = .ok (.invokestatic 59, 3) := by decide +kernel
theorem dX5_comes_16 : decode cX5_comes 16 = .ok (.iload_n 1, 1) := by decide +kernel
theorem dX5_comes_17 : decode cX5_comes 17 = .ok (.iastore, 1) := by decide +kernel
theorem dX5_comes_18 : decode cX5_comes 18 = .ok (.aload_n 0, 1) := by decide +kernel
theorem dX5_comes_19 : decode cX5_comes 19 = .ok (.getfield 7, 3) := by decide +kernel
theorem dX5_comes_22 : decode cX5_comes 22 = .ok (.iload_n 2, 1) := by decide +kernel
theorem dX5_comes_23 : decode cX5_comes 23 = .ok (.iconst 1, 1) := by decide +kernel
theorem dX5_comes_24 : decode cX5_comes 24 = .ok (.invokestatic 59, 3) := by decide +kernel
theorem dX5_comes_27 : decode cX5_comes 27 = .ok (.iconst (-1), 1) := by decide +kernel
theorem dX5_comes_28 : decode cX5_comes 28 = .ok (.iastore, 1) := by decide +kernel
theorem dX5_comes_29 : decode cX5_comes 29 = .ok (.aload_n 0, 1) := by decide +kernel
theorem dX5_comes_30 : decode cX5_comes 30 = .ok (.getfield 7, 3) := by decide +kernel
theorem dX5_comes_33 : decode cX5_comes 33 = .ok (.iload_n 2, 1) := by decide +kernel
theorem dX5_comes_34 : decode cX5_comes 34 = .ok (.iconst 2, 1) := by decide +kernel
theorem dX5_comes_35 : decode cX5_comes 35 = .ok (.invokestatic 59, 3) := by decide +kernel
theorem dX5_comes_38 : decode cX5_comes 38 = .ok (.bipush 50, 2) := by decide +kernel
theorem dX5_comes_40 : decode cX5_comes 40 = .ok (.iastore, 1) := by decide +kernel
theorem dX5_comes_41 : decode cX5_comes 41 = .ok (.aload_n 0, 1) := by decide +kernel
theorem dX5_comes_42 : decode cX5_comes 42 = .ok (.getfield 7, 3) := by decide +kernel
theorem dX5_comes_45 : decode cX5_comes 45 = .ok (.iload_n 2, 1) := by decide +kernel
theorem dX5_comes_46 : decode cX5_comes 46 = .ok (.iconst 3, 1) := by decide +kernel
theorem dX5_comes_47 : decode cX5_comes 47 = .ok (.invokestatic 59, 3) := by decide +kernel
theorem dX5_comes_50 : decode cX5_comes 50 = .ok (.iconst 0, 1) := by decide +kernel
theorem dX5_comes_51 : decode cX5_comes 51 = .ok (.iastore, 1) := by decide +kernel
theorem dX5_comes_52 : decode cX5_comes 52 = .ok (.iconst 0, 1) := by decide +kernel
theorem dX5_comes_53 : decode cX5_comes 53 = .ok (.istore_n 3, 1) := by decide +kernel
theorem dX5_comes_54 : decode cX5_comes 54 = .ok (.iload_n 3, 1) := by decide +kernel
theorem dX5_comes_55 : decode cX5_comes 55 = .ok (.bipush 6, 2) := by decide +kernel
theorem dX5_comes_57 : decode cX5_comes 57 = .ok (.if_icmp .ge 22, 3) := by decide +kernel
theorem dX5_comes_60 : decode cX5_comes 60 = .ok (.aload_n 0, 1) := by decide +kernel
theorem dX5_comes_61 : decode cX5_comes 61 = .ok (.getfield 7, 3) := by decide +kernel
theorem dX5_comes_64 : decode cX5_comes 64 = .ok (.iload_n 2, 1) := by decide +kernel
theorem dX5_comes_65 : decode cX5_comes 65 = .ok (.iconst 4, 1) := by decide +kernel
theorem dX5_comes_66 : decode cX5_comes 66 = .ok (.iload_n 3, 1) := by decide +kernel
theorem dX5_comes_67 : decode cX5_comes 67 = .ok (.iadd, 1) := by decide +kernel
theorem dX5_comes_68 : decode cX5_comes 68 = .ok (.invokestatic 59, 3) := by decide +kernel
theorem dX5_comes_71 : decode cX5_comes 71 = .ok (.iconst 0, 1) := by decide +kernel
theorem dX5_comes_72 : decode cX5_comes 72 = .ok (.iastore, 1) := by decide +kernel
theorem dX5_comes_73 : decode cX5_comes 73 = .ok (.iinc 3 1, 3) := by decide +kernel
theorem dX5_comes_76 : decode cX5_comes 76 = .ok (.goto (-22), 3) := by decide +kernel
theorem dX5_comes_79 : decode cX5_comes 79 = .ok (.aload_n 0, 1) := by decide +kernel
theorem dX5_comes_80 : decode cX5_comes 80 = .ok (.getfield 7, 3) := by decide +kernel
theorem dX5_comes_83 : decode cX5_comes 83 = .ok (.iconst 0, 1) := by decide +kernel
theorem dX5_comes_84 : decode cX5_comes 84 = .ok (.dup2, 1) := by decide +kernel
theorem dX5_comes_85 : decode cX5_comes 85 = .ok (.iaload, 1) := by decide +kernel
theorem dX5_comes_86 : decode cX5_comes 86 = .ok (.iconst 1, 1) := by decide +kernel
theorem dX5_comes_87 : decode cX5_comes 87 = .ok (.iadd, 1) := by decide +kernel
theorem dX5_comes_88 : decode cX5_comes 88 = .ok (.iastore, 1) := by decide +kernel
theorem dX5_comes_89 : decode cX5_comes 89 = .ok (.return_, 1) := by decide +kernel
set_option maxRecDepth 20000 in
theorem ggX5_speaker_X5_isIn : GoodIn wsX5_speaker wsX5_isIn := goodIn_r _ [8] (by decide +kernel) (by decide +kernel)
set_option maxRecDepth 20000 in
theorem gX5_speaker_X5_isIn : GoodIn wsX5_speaker (va_wsS RX5 45 yX5_isIn wsX5_isIn) := goodIn_app (goodIn_of _ (by decide +kernel)) ggX5_speaker_X5_isIn
set_option maxRecDepth 20000 in
theorem ggX5_speaker_X5_finds : GoodIn wsX5_speaker wsX5_finds := goodIn_r _ [12, 13, 2, 21, 22, 23, 24, 25, 26, 27, 28, 29, 30, 31, 32, 33, 34, 35, 36, 37, 38] (by decide +kernel) (by decide +kernel)
set_option maxRecDepth 20000 in
theorem gX5_speaker_X5_finds : GoodIn wsX5_speaker (wsV RX5 39 RX5 yX5_finds wsX5_finds) := goodIn_app (goodIn_of _ (by decide +kernel)) ggX5_speaker_X5_finds
set_option maxRecDepth 20000 in
theorem ggX5_speaker_X5_comes : GoodIn wsX5_speaker wsX5_comes := goodIn_r _ [17, 3, 18, 19, 7, 20, 21, 22, 23, 24, 25, 26, 27, 28, 29, 30, 31, 32, 33, 34, 35, 36, 37, 38] (by decide +kernel) (by decide +kernel)
set_option maxRecDepth 20000 in
theorem gX5_speaker_X5_comes : GoodIn wsX5_speaker (wsV RX5 65 RX5 yX5_comes wsX5_comes) := goodIn_app (goodIn_of _ (by decide +kernel)) ggX5_speaker_X5_comes
theorem dX5_speaker_0 : decode cX5_speaker 0 = .ok (.iload_n 1, 1) := by decide +kernel
theorem dX5_speaker_1 : decode cX5_speaker 1 = .ok (.i2l, 1) := by decide +kernel
theorem dX5_speaker_2 : decode cX5_speaker 2 = .ok (.lconst 0, 1) := by decide +kernel
theorem dX5_speaker_3 : decode cX5_speaker 3 = .ok (.ldc2_w 62, 3) := by decide +kernel
theorem dX5_speaker_6 : decode cX5_speaker 6 = .ok (.invokestatic 45, 3) := by decide +kernel
theorem dX5_speaker_9 : decode cX5_speaker 9 = .ok (.ifCond .ne 10, 3) := by decide +kernel
theorem dX5_speaker_12 : decode cX5_speaker 12 = .ok (.aload_n 0, 1) := by decide +kernel
theorem dX5_speaker_13 : decode cX5_speaker 13 = .ok (.ldc 37, 2) := by decide +kernel
theorem dX5_speaker_15 : decode cX5_speaker 15 = .ok (.invokevirtual 39, 3) := by decide +kernel
theorem dX5_speaker_18 : decode cX5_speaker 18 = .ok (.ireturn, 1) := by decide +kernel
theorem dX5_speaker_19 : decode cX5_speaker 19 = .ok (.aload_n 0, 1) := by decide +kernel
theorem dX5_speaker_20 : decode cX5_speaker 20 = .ok (.getfield 7, 3) := by decide +kernel
theorem dX5_speaker_23 : decode cX5_speaker 23 = .ok (.iconst 0, 1) := by decide +kernel
theorem dX5_speaker_24 : decode cX5_speaker 24 = .ok (.iaload, 1) := by decide +kernel
theorem dX5_speaker_25 : decode cX5_speaker 25 = .ok (.bipush 8, 2) := by decide +kernel
theorem dX5_speaker_27 : decode cX5_speaker 27 = .ok (.if_icmp .ne 10, 3) := by decide +kernel
theorem dX5_speaker_30 : decode cX5_speaker 30 = .ok (.aload_n 0, 1) := by decide +kernel
theorem dX5_speaker_31 : decode cX5_speaker 31 = .ok (.ldc 64, 2) := by decide +kernel
theorem dX5_speaker_33 : decode cX5_speaker 33 = .ok (.invokevirtual 39, 3) := by decide +kernel
theorem dX5_speaker_36 : decode cX5_speaker 36 = .ok (.ireturn, 1) := by decide +kernel
theorem dX5_speaker_37 : decode cX5_speaker 37 = .ok (.aload_n 0, 1) := by decide +kernel
theorem dX5_speaker_38 : decode cX5_speaker 38 = .ok (.iload_n 1, 1) := by decide +kernel
theorem dX5_speaker_39 : decode cX5_speaker 39 = .ok (.invokevirtual 65, 3) := by decide +kernel
theorem dX5_speaker_42 : decode cX5_speaker 42 = .ok (.aload_n 0, 1) := by decide +kernel
theorem dX5_speaker_43 : decode cX5_speaker 43 = .ok (.getfield 7, 3) := by decide +kernel
theorem dX5_speaker_46 : decode cX5_speaker 46 = .ok (.iconst 0, 1) := by decide +kernel
theorem dX5_speaker_47 : decode cX5_speaker 47 = .ok (.iaload, 1) := by decide +kernel
theorem dX5_speaker_48 : decode cX5_speaker 48 = .ok (.iconst 1, 1) := by decide +kernel
theorem dX5_speaker_49 : decode cX5_speaker 49 = .ok (.isub, 1) := by decide +kernel
theorem dX5_speaker_50 : decode cX5_speaker 50 = .ok (.ireturn, 1) := by decide +kernel
set_option maxRecDepth 20000 in
theorem ggX5_left_X5_its : GoodIn wsX5_left wsX5_its := goodIn_r _ [5, 6, 7, 8, 9, 10, 11, 12, 13, 14, 15, 16, 17, 18, 19, 20, 21, 22, 23, 24] (by decide +kernel) (by decide +kernel)
set_option maxRecDepth 20000 in
theorem gX5_left_X5_its : GoodIn wsX5_left (wsV RX5 69 RX5 yX5_its wsX5_its) := goodIn_app (goodIn_of _ (by decide +kernel)) ggX5_left_X5_its
theorem dX5_left_0 : decode cX5_left 0 = .ok (.iconst 0, 1) := by decide +kernel
theorem dX5_left_1 : decode cX5_left 1 = .ok (.istore_n 2, 1) := by decide +kernel
theorem dX5_left_2 : decode cX5_left 2 = .ok (.iconst 0, 1) := by decide +kernel
theorem dX5_left_3 : decode cX5_left 3 = .ok (.istore_n 3, 1) := by decide +kernel
theorem dX5_left_4 : decode cX5_left 4 = .ok (.iload_n 3, 1) := by decide +kernel
theorem dX5_left_5 : decode cX5_left 5 = .ok (.bipush 6, 2) := by decide +kernel
theorem dX5_left_7 : decode cX5_left 7 = .ok (.if_icmp .ge 20, 3) := by decide +kernel
theorem dX5_left_10 : decode cX5_left 10 = .ok (.iload_n 2, 1) := by decide +kernel
theorem dX5_left_11 : decode cX5_left 11 = .ok (.aload_n 0, 1) := by decide +kernel
theorem dX5_left_12 : decode cX5_left 12 = .ok (.iload_n 1, 1) := by decide +kernel
theorem dX5_left_13 : decode cX5_left 13 = .ok (.iconst 4, 1) := by decide +kernel
theorem dX5_left_14 : decode cX5_left 14 = .ok (.iload_n 3, 1) := by decide +kernel
theorem dX5_left_15 : decode cX5_left 15 = .ok (.iadd, 1) := by decide +kernel
theorem dX5_left_16 : decode cX5_left 16 = .ok (.invokevirtual 69, 3) := by decide +kernel
theorem dX5_left_19 : decode cX5_left 19 = .ok (.iadd, 1) := by decide +kernel
theorem dX5_left_20 : decode cX5_left 20 = .ok (.istore_n 2, 1) := by decide +kernel
theorem dX5_left_21 : decode cX5_left 21 = .ok (.iinc 3 1, 3) := by decide +kernel
theorem dX5_left_24 : decode cX5_left 24 = .ok (.goto (-20), 3) := by decide +kernel
theorem dX5_left_27 : decode cX5_left 27 = .ok (.iload_n 2, 1) := by decide +kernel
theorem dX5_left_28 : decode cX5_left 28 = .ok (.ireturn, 1) := by decide +kernel
set_option maxRecDepth 20000 in
theorem ggX5_tasted_X5_its : GoodIn wsX5_tasted wsX5_its := goodIn_r _ [5, 6, 7, 8, 9, 10, 11, 12, 13, 14, 15, 16, 17, 18, 19, 20, 21, 22, 23, 24] (by decide +kernel) (by decide +kernel)
set_option maxRecDepth 20000 in
theorem gX5_tasted_X5_its : GoodIn wsX5_tasted (wsV RX5 69 RX5 yX5_its wsX5_its) := goodIn_app (goodIn_of _ (by decide +kernel)) ggX5_tasted_X5_its
theorem dX5_tasted_0 : decode cX5_tasted 0 = .ok (.iconst 0, 1) := by decide +kernel
theorem dX5_tasted_1 : decode cX5_tasted 1 = .ok (.istore_n 2, 1) := by decide +kernel
theorem dX5_tasted_2 : decode cX5_tasted 2 = .ok (.iconst 0, 1) := by decide +kernel
theorem dX5_tasted_3 : decode cX5_tasted 3 = .ok (.istore_n 3, 1) := by decide +kernel
theorem dX5_tasted_4 : decode cX5_tasted 4 = .ok (.iload_n 3, 1) := by decide +kernel
theorem dX5_tasted_5 : decode cX5_tasted 5 = .ok (.bipush 6, 2) := by decide +kernel
theorem dX5_tasted_7 : decode cX5_tasted 7 = .ok (.if_icmp .ge 30, 3) := by decide +kernel
theorem dX5_tasted_10 : decode cX5_tasted 10 = .ok (.iload_n 2, 1) := by decide +kernel
theorem dX5_tasted_11 : decode cX5_tasted 11 = .ok (.aload_n 0, 1) := by decide +kernel
theorem dX5_tasted_12 : decode cX5_tasted 12 = .ok (.iload_n 1, 1) := by decide +kernel
theorem dX5_tasted_13 : decode cX5_tasted 13 = .ok (.iconst 4, 1) := by decide +kernel
theorem dX5_tasted_14 : decode cX5_tasted 14 = .ok (.iload_n 3, 1) := by decide +kernel
theorem dX5_tasted_15 : decode cX5_tasted 15 = .ok (.iadd, 1) := by decide +kernel
theorem dX5_tasted_16 : decode cX5_tasted 16 = .ok (.invokevirtual 69, 3) := by decide +kernel
theorem dX5_tasted_19 : decode cX5_tasted 19 = .ok (.ifCond .le 9, 3) := by decide +kernel
theorem dX5_tasted_22 : decode cX5_tasted 22 = .ok (.iconst 1, 1) := by decide +kernel
theorem dX5_tasted_23 : decode cX5_tasted 23 = .ok (.iload_n 3, 1) := by decide +kernel
theorem dX5_tasted_24 : decode cX5_tasted 24 = .ok (.ishl, 1) := by decide +kernel
theorem dX5_tasted_25 : decode cX5_tasted 25 = .ok (.goto 4, 3) := by decide +kernel
theorem dX5_tasted_28 : decode cX5_tasted 28 = .ok (.iconst 0, 1) := by decide +kernel
theorem dX5_tasted_29 : decode cX5_tasted 29 = .ok (.ior, 1) := by decide +kernel
theorem dX5_tasted_30 : decode cX5_tasted 30 = .ok (.istore_n 2, 1) := by decide +kernel
theorem dX5_tasted_31 : decode cX5_tasted 31 = .ok (.iinc 3 1, 3) := by decide +kernel
theorem dX5_tasted_34 : decode cX5_tasted 34 = .ok (.goto (-30), 3) := by decide +kernel
theorem dX5_tasted_37 : decode cX5_tasted 37 = .ok (.iload_n 2, 1) := by decide +kernel
theorem dX5_tasted_38 : decode cX5_tasted 38 = .ok (.ireturn, 1) := by decide +kernel
theorem dX5_chewsOf_0 : decode cX5_chewsOf 0 = .ok (.iload_n 1, 1) := by decide +kernel
theorem dX5_chewsOf_1 : decode cX5_chewsOf 1 = .ok (.iconst 4, 1) := by decide +kernel
theorem dX5_chewsOf_2 : decode cX5_chewsOf 2 = .ok (.if_icmp .ne 7, 3) := by decide +kernel
theorem dX5_chewsOf_5 : decode cX5_chewsOf 5 = .ok (.iconst 1, 1) := by decide +kernel
theorem dX5_chewsOf_6 : decode cX5_chewsOf 6 = .ok (.goto 4, 3) := by decide +kernel
theorem dX5_chewsOf_9 : decode cX5_chewsOf 9 = .ok (.iconst 0, 1) := by decide +kernel
theorem dX5_chewsOf_10 : decode cX5_chewsOf 10 = .ok (.istore_n 3, 1) := by decide +kernel
theorem dX5_chewsOf_11 : decode cX5_chewsOf 11 = .ok (.iload_n 2, 1) := by decide +kernel
theorem dX5_chewsOf_12 : decode cX5_chewsOf 12 = .ok (.tableswitch 119 0 4 #[36, 40, 75, 102, 106], 36) := by decide +kernel
theorem dX5_chewsOf_48 : decode cX5_chewsOf 48 = .ok (.iconst 1, 1) := by decide +kernel
theorem dX5_chewsOf_49 : decode cX5_chewsOf 49 = .ok (.iload_n 3, 1) := by decide +kernel
theorem dX5_chewsOf_50 : decode cX5_chewsOf 50 = .ok (.iadd, 1) := by decide +kernel
theorem dX5_chewsOf_51 : decode cX5_chewsOf 51 = .ok (.ireturn, 1) := by decide +kernel
theorem dX5_chewsOf_52 : decode cX5_chewsOf 52 = .ok (.iload_n 1, 1) := by decide +kernel
theorem dX5_chewsOf_53 : decode cX5_chewsOf 53 = .ok (.iconst 1, 1) := by decide +kernel
theorem dX5_chewsOf_54 : decode cX5_chewsOf 54 = .ok (.if_icmp .eq 9, 3) := by decide +kernel
theorem dX5_chewsOf_57 : decode cX5_chewsOf 57 = .ok (.iload_n 1, 1) := by decide +kernel
theorem dX5_chewsOf_58 : decode cX5_chewsOf 58 = .ok (.bipush 6, 2) := by decide +kernel
theorem dX5_chewsOf_60 : decode cX5_chewsOf 60 = .ok (.if_icmp .ne 7, 3) := by decide +kernel
theorem dX5_chewsOf_63 : decode cX5_chewsOf 63 = .ok (.iconst 1, 1) := by decide +kernel
theorem dX5_chewsOf_64 : decode cX5_chewsOf 64 = .ok (.goto 22, 3) := by decide +kernel
theorem dX5_chewsOf_67 : decode cX5_chewsOf 67 = .ok (.iconst 3, 1) := by decide +kernel
theorem dX5_chewsOf_68 : decode cX5_chewsOf 68 = .ok (.iload_n 3, 1) := by decide +kernel
theorem dX5_chewsOf_69 : decode cX5_chewsOf 69 = .ok (.iadd, 1) := by decide +kernel
theorem dX5_chewsOf_70 : decode cX5_chewsOf 70 = .ok (.iload_n 1, 1) := by decide +kernel
theorem dX5_chewsOf_71 : decode cX5_chewsOf 71 = .ok (.iconst 5, 1) := by decide +kernel
theorem dX5_chewsOf_72 : decode cX5_chewsOf 72 = .ok (.if_icmp .ne 7, 3) := by decide +kernel
theorem dX5_chewsOf_75 : decode cX5_chewsOf 75 = .ok (.iconst 0, 1) := by decide +kernel
theorem dX5_chewsOf_76 : decode cX5_chewsOf 76 = .ok (.goto 9, 3) := by decide +kernel
theorem dX5_chewsOf_79 : decode cX5_chewsOf 79 = .ok (.aload_n 0, 1) := by decide +kernel
theorem dX5_chewsOf_80 : decode cX5_chewsOf 80 = .ok (.getfield 7, 3) := by decide +kernel
theorem dX5_chewsOf_83 : decode cX5_chewsOf 83 = .ok (.iconst 3, 1) := by decide +kernel
theorem dX5_chewsOf_84 : decode cX5_chewsOf 84 = .ok (.iaload, 1) := by decide +kernel
theorem dX5_chewsOf_85 : decode cX5_chewsOf 85 = .ok (.iadd, 1) := by decide +kernel
theorem dX5_chewsOf_86 : decode cX5_chewsOf 86 = .ok (.ireturn, 1) := by decide +kernel
theorem dX5_chewsOf_87 : decode cX5_chewsOf 87 = .ok (.iload_n 1, 1) := by decide +kernel
theorem dX5_chewsOf_88 : decode cX5_chewsOf 88 = .ok (.iconst 2, 1) := by decide +kernel
theorem dX5_chewsOf_89 : decode cX5_chewsOf 89 = .ok (.if_icmp .ne 7, 3) := by decide +kernel
theorem dX5_chewsOf_92 : decode cX5_chewsOf 92 = .ok (.iconst (-1), 1) := by decide +kernel
theorem dX5_chewsOf_93 : decode cX5_chewsOf 93 = .ok (.goto 20, 3) := by decide +kernel
theorem dX5_chewsOf_96 : decode cX5_chewsOf 96 = .ok (.iload_n 1, 1) := by decide +kernel
theorem dX5_chewsOf_97 : decode cX5_chewsOf 97 = .ok (.iconst 3, 1) := by decide +kernel
theorem dX5_chewsOf_98 : decode cX5_chewsOf 98 = .ok (.if_icmp .eq 8, 3) := by decide +kernel
theorem dX5_chewsOf_101 : decode cX5_chewsOf 101 = .ok (.iload_n 1, 1) := by decide +kernel
theorem dX5_chewsOf_102 : decode cX5_chewsOf 102 = .ok (.iconst 4, 1) := by decide +kernel
theorem dX5_chewsOf_103 : decode cX5_chewsOf 103 = .ok (.if_icmp .ne 9, 3) := by decide +kernel
theorem dX5_chewsOf_106 : decode cX5_chewsOf 106 = .ok (.iconst 2, 1) := by decide +kernel
theorem dX5_chewsOf_107 : decode cX5_chewsOf 107 = .ok (.iload_n 3, 1) := by decide +kernel
theorem dX5_chewsOf_108 : decode cX5_chewsOf 108 = .ok (.iadd, 1) := by decide +kernel
theorem dX5_chewsOf_109 : decode cX5_chewsOf 109 = .ok (.goto 4, 3) := by decide +kernel
theorem dX5_chewsOf_112 : decode cX5_chewsOf 112 = .ok (.iconst 5, 1) := by decide +kernel
theorem dX5_chewsOf_113 : decode cX5_chewsOf 113 = .ok (.ireturn, 1) := by decide +kernel
theorem dX5_chewsOf_114 : decode cX5_chewsOf 114 = .ok (.iconst 4, 1) := by decide +kernel
theorem dX5_chewsOf_115 : decode cX5_chewsOf 115 = .ok (.iload_n 3, 1) := by decide +kernel
theorem dX5_chewsOf_116 : decode cX5_chewsOf 116 = .ok (.iadd, 1) := by decide +kernel
theorem dX5_chewsOf_117 : decode cX5_chewsOf 117 = .ok (.ireturn, 1) := by decide +kernel
theorem dX5_chewsOf_118 : decode cX5_chewsOf 118 = .ok (.iload_n 1, 1) := by decide +kernel
theorem dX5_chewsOf_119 : decode cX5_chewsOf 119 = .ok (.bipush 6, 2) := by decide +kernel
theorem dX5_chewsOf_121 : decode cX5_chewsOf 121 = .ok (.if_icmp .ne 8, 3) := by decide +kernel
theorem dX5_chewsOf_124 : decode cX5_chewsOf 124 = .ok (.bipush 9, 2) := by decide +kernel
theorem dX5_chewsOf_126 : decode cX5_chewsOf 126 = .ok (.goto 4, 3) := by decide +kernel
theorem dX5_chewsOf_129 : decode cX5_chewsOf 129 = .ok (.iconst (-1), 1) := by decide +kernel
theorem dX5_chewsOf_130 : decode cX5_chewsOf 130 = .ok (.ireturn, 1) := by decide +kernel
theorem dX5_chewsOf_131 : decode cX5_chewsOf 131 = .ok (.iload_n 3, 1) := by decide +kernel
theorem dX5_chewsOf_132 : decode cX5_chewsOf 132 = .ok (.ireturn, 1) := by decide +kernel
set_option maxRecDepth 20000 in
theorem ggX5_appetite_X5_its : GoodIn wsX5_appetite wsX5_its := goodIn_r _ [6, 1, 14, 15, 16, 17, 18, 19, 20, 21, 22, 23, 24, 25, 26, 27, 28, 29, 30, 31] (by decide +kernel) (by decide +kernel)
set_option maxRecDepth 20000 in
theorem gX5_appetite_X5_its : GoodIn wsX5_appetite (wsV RX5 69 RX5 yX5_its wsX5_its) := goodIn_app (goodIn_of _ (by decide +kernel)) ggX5_appetite_X5_its
set_option maxRecDepth 20000 in
theorem ggX5_appetite_X5_left : GoodIn wsX5_appetite wsX5_left := goodIn_r _ [10, 2, 3, 4, 5, 6, 1, 14, 15, 16, 17, 18, 19, 20, 21, 22, 23, 24, 25, 26, 27, 28, 29, 30, 31] (by decide +kernel) (by decide +kernel)
set_option maxRecDepth 20000 in
theorem gX5_appetite_X5_left : GoodIn wsX5_appetite (wsV RX5 72 RX5 yX5_left wsX5_left) := goodIn_app (goodIn_of _ (by decide +kernel)) ggX5_appetite_X5_left
set_option maxRecDepth 20000 in
theorem ggX5_appetite_X5_greatest : GoodIn wsX5_appetite wsX5_greatest := goodIn_r _ [13] (by decide +kernel) (by decide +kernel)
set_option maxRecDepth 20000 in
theorem gX5_appetite_X5_greatest : GoodIn wsX5_appetite (va_wsS RX5 75 yX5_greatest wsX5_greatest) := goodIn_app (goodIn_of _ (by decide +kernel)) ggX5_appetite_X5_greatest
theorem dX5_appetite_0 : decode cX5_appetite 0 = .ok (.bipush 12, 2) := by decide +kernel
theorem dX5_appetite_2 : decode cX5_appetite 2 = .ok (.aload_n 0, 1) := by decide +kernel
theorem dX5_appetite_3 : decode cX5_appetite 3 = .ok (.iload_n 1, 1) := by decide +kernel
theorem dX5_appetite_4 : decode cX5_appetite 4 = .ok (.iconst 2, 1) := by decide +kernel
theorem dX5_appetite_5 : decode cX5_appetite 5 = .ok (.invokevirtual 69, 3) := by decide +kernel
theorem dX5_appetite_8 : decode cX5_appetite 8 = .ok (.bipush 10, 2) := by decide +kernel
theorem dX5_appetite_10 : decode cX5_appetite 10 = .ok (.idiv, 1) := by decide +kernel
theorem dX5_appetite_11 : decode cX5_appetite 11 = .ok (.isub, 1) := by decide +kernel
theorem dX5_appetite_12 : decode cX5_appetite 12 = .ok (.istore_n 2, 1) := by decide +kernel
theorem dX5_appetite_13 : decode cX5_appetite 13 = .ok (.bipush 6, 2) := by decide +kernel
theorem dX5_appetite_15 : decode cX5_appetite 15 = .ok (.aload_n 0, 1) := by decide +kernel
theorem dX5_appetite_16 : decode cX5_appetite 16 = .ok (.iload_n 1, 1) := by decide +kernel
theorem dX5_appetite_17 : decode cX5_appetite 17 = .ok (.invokevirtual 72, 3) := by decide +kernel
theorem dX5_appetite_20 : decode cX5_appetite 20 = .ok (.ifCond .ne 8, 3) := by decide +kernel
theorem dX5_appetite_23 : decode cX5_appetite 23 = .ok (.bipush 20, 2) := by decide +kernel
theorem dX5_appetite_25 : decode cX5_appetite 25 = .ok (.goto 4, 3) := by decide +kernel
theorem dX5_appetite_28 : decode cX5_appetite 28 = .ok (.iconst 0, 1) := by decide +kernel
theorem dX5_appetite_29 : decode cX5_appetite 29 = .ok (.iadd, 1) := by decide +kernel
theorem dX5_appetite_30 : decode cX5_appetite 30 = .ok (.istore_n 3, 1) := by decide +kernel
theorem dX5_appetite_31 : decode cX5_appetite 31 = .ok (.aload_n 0, 1) := by decide +kernel
theorem dX5_appetite_32 : decode cX5_appetite 32 = .ok (.iload_n 1, 1) := by decide +kernel
theorem dX5_appetite_33 : decode cX5_appetite 33 = .ok (.iconst 0, 1) := by decide +kernel
theorem dX5_appetite_34 : decode cX5_appetite 34 = .ok (.invokevirtual 69, 3) := by decide +kernel
theorem dX5_appetite_37 : decode cX5_appetite 37 = .ok (.tableswitch 68 1 6 #[39, 41, 44, 46, 50, 60], 39) := by decide +kernel
theorem dX5_appetite_76 : decode cX5_appetite 76 = .ok (.iload_n 2, 1) := by decide +kernel
theorem dX5_appetite_77 : decode cX5_appetite 77 = .ok (.ireturn, 1) := by decide +kernel
theorem dX5_appetite_78 : decode cX5_appetite 78 = .ok (.bipush 6, 2) := by decide +kernel
theorem dX5_appetite_80 : decode cX5_appetite 80 = .ok (.ireturn, 1) := by decide +kernel
theorem dX5_appetite_81 : decode cX5_appetite 81 = .ok (.iload_n 3, 1) := by decide +kernel
theorem dX5_appetite_82 : decode cX5_appetite 82 = .ok (.ireturn, 1) := by decide +kernel
theorem dX5_appetite_83 : decode cX5_appetite 83 = .ok (.iload_n 3, 1) := by decide +kernel
theorem dX5_appetite_84 : decode cX5_appetite 84 = .ok (.iconst 4, 1) := by decide +kernel
theorem dX5_appetite_85 : decode cX5_appetite 85 = .ok (.iadd, 1) := by decide +kernel
theorem dX5_appetite_86 : decode cX5_appetite 86 = .ok (.ireturn, 1) := by decide +kernel
theorem dX5_appetite_87 : decode cX5_appetite 87 = .ok (.bipush 12, 2) := by decide +kernel
theorem dX5_appetite_89 : decode cX5_appetite 89 = .ok (.aload_n 0, 1) := by decide +kernel
theorem dX5_appetite_90 : decode cX5_appetite 90 = .ok (.getfield 7, 3) := by decide +kernel
theorem dX5_appetite_93 : decode cX5_appetite 93 = .ok (.iconst 3, 1) := by decide +kernel
theorem dX5_appetite_94 : decode cX5_appetite 94 = .ok (.iaload, 1) := by decide +kernel
theorem dX5_appetite_95 : decode cX5_appetite 95 = .ok (.iadd, 1) := by decide +kernel
theorem dX5_appetite_96 : decode cX5_appetite 96 = .ok (.ireturn, 1) := by decide +kernel
theorem dX5_appetite_97 : decode cX5_appetite 97 = .ok (.iconst 0, 1) := by decide +kernel
theorem dX5_appetite_98 : decode cX5_appetite 98 = .ok (.iload_n 2, 1) := by decide +kernel
theorem dX5_appetite_99 : decode cX5_appetite 99 = .ok (.iconst 3, 1) := by decide +kernel
theorem dX5_appetite_100 : decode cX5_appetite 100 = .ok (.isub, 1) := by decide +kernel
theorem dX5_appetite_101 : decode cX5_appetite 101 = .ok (.invokestatic 75, 3) := by decide +kernel
theorem dX5_appetite_104 : decode cX5_appetite 104 = .ok (.ireturn, 1) := by decide +kernel
theorem dX5_appetite_105 : decode cX5_appetite 105 = .ok (.bipush 12, 2) := by decide +kernel
theorem dX5_appetite_107 : decode cX5_appetite 107 = .ok (.ireturn, 1) := by decide +kernel
theorem dX5_talksOf_0 : decode cX5_talksOf 0 = .ok (.iload_n 2, 1) := by decide +kernel
theorem dX5_talksOf_1 : decode cX5_talksOf 1 = .ok (.tableswitch 129 0 4 #[35, 56, 73, 95, 106], 35) := by decide +kernel
theorem dX5_talksOf_36 : decode cX5_talksOf 36 = .ok (.iload_n 1, 1) := by decide +kernel
theorem dX5_talksOf_37 : decode cX5_talksOf 37 = .ok (.iconst 3, 1) := by decide +kernel
theorem dX5_talksOf_38 : decode cX5_talksOf 38 = .ok (.if_icmp .eq 13, 3) := by decide +kernel
theorem dX5_talksOf_41 : decode cX5_talksOf 41 = .ok (.iload_n 1, 1) := by decide +kernel
theorem dX5_talksOf_42 : decode cX5_talksOf 42 = .ok (.iconst 4, 1) := by decide +kernel
theorem dX5_talksOf_43 : decode cX5_talksOf 43 = .ok (.if_icmp .eq 8, 3) := by decide +kernel
theorem dX5_talksOf_46 : decode cX5_talksOf 46 = .ok (.iload_n 1, 1) := by decide +kernel
theorem dX5_talksOf_47 : decode cX5_talksOf 47 = .ok (.iconst 5, 1) := by decide +kernel
theorem dX5_talksOf_48 : decode cX5_talksOf 48 = .ok (.if_icmp .ne 7, 3) := by decide +kernel
theorem dX5_talksOf_51 : decode cX5_talksOf 51 = .ok (.iconst 0, 1) := by decide +kernel
theorem dX5_talksOf_52 : decode cX5_talksOf 52 = .ok (.goto 4, 3) := by decide +kernel
theorem dX5_talksOf_55 : decode cX5_talksOf 55 = .ok (.iconst 1, 1) := by decide +kernel
theorem dX5_talksOf_56 : decode cX5_talksOf 56 = .ok (.ireturn, 1) := by decide +kernel
theorem dX5_talksOf_57 : decode cX5_talksOf 57 = .ok (.iload_n 1, 1) := by decide +kernel
theorem dX5_talksOf_58 : decode cX5_talksOf 58 = .ok (.iconst 1, 1) := by decide +kernel
theorem dX5_talksOf_59 : decode cX5_talksOf 59 = .ok (.if_icmp .eq 9, 3) := by decide +kernel
theorem dX5_talksOf_62 : decode cX5_talksOf 62 = .ok (.iload_n 1, 1) := by decide +kernel
theorem dX5_talksOf_63 : decode cX5_talksOf 63 = .ok (.bipush 6, 2) := by decide +kernel
theorem dX5_talksOf_65 : decode cX5_talksOf 65 = .ok (.if_icmp .ne 7, 3) := by decide +kernel
theorem dX5_talksOf_68 : decode cX5_talksOf 68 = .ok (.iconst 2, 1) := by decide +kernel
theorem dX5_talksOf_69 : decode cX5_talksOf 69 = .ok (.goto 4, 3) := by decide +kernel
theorem dX5_talksOf_72 : decode cX5_talksOf 72 = .ok (.iconst 0, 1) := by decide +kernel
theorem dX5_talksOf_73 : decode cX5_talksOf 73 = .ok (.ireturn, 1) := by decide +kernel
theorem dX5_talksOf_74 : decode cX5_talksOf 74 = .ok (.iload_n 1, 1) := by decide +kernel
theorem dX5_talksOf_75 : decode cX5_talksOf 75 = .ok (.iconst 2, 1) := by decide +kernel
theorem dX5_talksOf_76 : decode cX5_talksOf 76 = .ok (.if_icmp .ne 18, 3) := by decide +kernel
theorem dX5_talksOf_79 : decode cX5_talksOf 79 = .ok (.aload_n 0, 1) := by decide +kernel
theorem dX5_talksOf_80 : decode cX5_talksOf 80 = .ok (.getfield 7, 3) := by decide +kernel
theorem dX5_talksOf_83 : decode cX5_talksOf 83 = .ok (.iconst 1, 1) := by decide +kernel
theorem dX5_talksOf_84 : decode cX5_talksOf 84 = .ok (.iaload, 1) := by decide +kernel
theorem dX5_talksOf_85 : decode cX5_talksOf 85 = .ok (.iconst 3, 1) := by decide +kernel
theorem dX5_talksOf_86 : decode cX5_talksOf 86 = .ok (.irem, 1) := by decide +kernel
theorem dX5_talksOf_87 : decode cX5_talksOf 87 = .ok (.ifCond .ne 7, 3) := by decide +kernel
theorem dX5_talksOf_90 : decode cX5_talksOf 90 = .ok (.iconst 1, 1) := by decide +kernel
theorem dX5_talksOf_91 : decode cX5_talksOf 91 = .ok (.goto 4, 3) := by decide +kernel
theorem dX5_talksOf_94 : decode cX5_talksOf 94 = .ok (.iconst 0, 1) := by decide +kernel
theorem dX5_talksOf_95 : decode cX5_talksOf 95 = .ok (.ireturn, 1) := by decide +kernel
theorem dX5_talksOf_96 : decode cX5_talksOf 96 = .ok (.iload_n 1, 1) := by decide +kernel
theorem dX5_talksOf_97 : decode cX5_talksOf 97 = .ok (.iconst 4, 1) := by decide +kernel
theorem dX5_talksOf_98 : decode cX5_talksOf 98 = .ok (.if_icmp .ne 7, 3) := by decide +kernel
theorem dX5_talksOf_101 : decode cX5_talksOf 101 = .ok (.iconst 3, 1) := by decide +kernel
theorem dX5_talksOf_102 : decode cX5_talksOf 102 = .ok (.goto 4, 3) := by decide +kernel
theorem dX5_talksOf_105 : decode cX5_talksOf 105 = .ok (.iconst 0, 1) := by decide +kernel
theorem dX5_talksOf_106 : decode cX5_talksOf 106 = .ok (.ireturn, 1) := by decide +kernel
theorem dX5_talksOf_107 : decode cX5_talksOf 107 = .ok (.iload_n 1, 1) := by decide +kernel
theorem dX5_talksOf_108 : decode cX5_talksOf 108 = .ok (.bipush 6, 2) := by decide +kernel
theorem dX5_talksOf_110 : decode cX5_talksOf 110 = .ok (.if_icmp .ne 18, 3) := by decide +kernel
theorem dX5_talksOf_113 : decode cX5_talksOf 113 = .ok (.aload_n 0, 1) := by decide +kernel
theorem dX5_talksOf_114 : decode cX5_talksOf 114 = .ok (.getfield 7, 3) := by decide +kernel
theorem dX5_talksOf_117 : decode cX5_talksOf 117 = .ok (.iconst 1, 1) := by decide +kernel
theorem dX5_talksOf_118 : decode cX5_talksOf 118 = .ok (.iaload, 1) := by decide +kernel
theorem dX5_talksOf_119 : decode cX5_talksOf 119 = .ok (.iconst 2, 1) := by decide +kernel
theorem dX5_talksOf_120 : decode cX5_talksOf 120 = .ok (.irem, 1) := by decide +kernel
theorem dX5_talksOf_121 : decode cX5_talksOf 121 = .ok (.ifCond .ne 7, 3) := by decide +kernel
theorem dX5_talksOf_124 : decode cX5_talksOf 124 = .ok (.iconst 1, 1) := by decide +kernel
theorem dX5_talksOf_125 : decode cX5_talksOf 125 = .ok (.goto 4, 3) := by decide +kernel
theorem dX5_talksOf_128 : decode cX5_talksOf 128 = .ok (.iconst 0, 1) := by decide +kernel
theorem dX5_talksOf_129 : decode cX5_talksOf 129 = .ok (.ireturn, 1) := by decide +kernel
theorem dX5_talksOf_130 : decode cX5_talksOf 130 = .ok (.iload_n 1, 1) := by decide +kernel
theorem dX5_talksOf_131 : decode cX5_talksOf 131 = .ok (.iconst 3, 1) := by decide +kernel
theorem dX5_talksOf_132 : decode cX5_talksOf 132 = .ok (.if_icmp .ne 20, 3) := by decide +kernel
theorem dX5_talksOf_135 : decode cX5_talksOf 135 = .ok (.aload_n 0, 1) := by decide +kernel
theorem dX5_talksOf_136 : decode cX5_talksOf 136 = .ok (.getfield 7, 3) := by decide +kernel
theorem dX5_talksOf_139 : decode cX5_talksOf 139 = .ok (.iconst 1, 1) := by decide +kernel
theorem dX5_talksOf_140 : decode cX5_talksOf 140 = .ok (.iaload, 1) := by decide +kernel
theorem dX5_talksOf_141 : decode cX5_talksOf 141 = .ok (.bipush 7, 2) := by decide +kernel
theorem dX5_talksOf_143 : decode cX5_talksOf 143 = .ok (.irem, 1) := by decide +kernel
theorem dX5_talksOf_144 : decode cX5_talksOf 144 = .ok (.iconst 5, 1) := by decide +kernel
theorem dX5_talksOf_145 : decode cX5_talksOf 145 = .ok (.if_icmp .ne 7, 3) := by decide +kernel
theorem dX5_talksOf_148 : decode cX5_talksOf 148 = .ok (.iconst 1, 1) := by decide +kernel
theorem dX5_talksOf_149 : decode cX5_talksOf 149 = .ok (.goto 4, 3) := by decide +kernel
theorem dX5_talksOf_152 : decode cX5_talksOf 152 = .ok (.iconst 0, 1) := by decide +kernel
theorem dX5_talksOf_153 : decode cX5_talksOf 153 = .ok (.ireturn, 1) := by decide +kernel
set_option maxRecDepth 20000 in
theorem ggX5_of_X5_isOne : GoodIn wsX5_of wsX5_isOne := goodIn_r _ [7, 8, 36, 37, 38, 39, 40, 41, 42, 43, 44, 45, 46, 47, 48, 49, 50, 51, 52, 53] (by decide +kernel) (by decide +kernel)
set_option maxRecDepth 20000 in
theorem gX5_of_X5_isOne : GoodIn wsX5_of (wsV RX5 78 RX5 yX5_isOne wsX5_isOne) := goodIn_app (goodIn_of _ (by decide +kernel)) ggX5_of_X5_isOne
set_option maxRecDepth 20000 in
theorem ggX5_of_X5_isIn : GoodIn wsX5_of wsX5_isIn := goodIn_r _ [11] (by decide +kernel) (by decide +kernel)
set_option maxRecDepth 20000 in
theorem gX5_of_X5_isIn : GoodIn wsX5_of (va_wsS RX5 45 yX5_isIn wsX5_isIn) := goodIn_app (goodIn_of _ (by decide +kernel)) ggX5_of_X5_isIn
set_option maxRecDepth 20000 in
theorem ggX5_of_X5_finds : GoodIn wsX5_of wsX5_finds := goodIn_r _ [15, 16, 2, 36, 37, 38, 39, 40, 41, 42, 43, 44, 45, 46, 47, 48, 49, 50, 51, 52, 53] (by decide +kernel) (by decide +kernel)
set_option maxRecDepth 20000 in
theorem gX5_of_X5_finds : GoodIn wsX5_of (wsV RX5 39 RX5 yX5_finds wsX5_finds) := goodIn_app (goodIn_of _ (by decide +kernel)) ggX5_of_X5_finds
set_option maxRecDepth 20000 in
theorem ggX5_of_X5_appetite : GoodIn wsX5_of wsX5_appetite := goodIn_r _ [20, 8, 21, 22, 23, 6, 24, 25, 26, 27, 28, 29, 30, 31, 36, 37, 38, 39, 40, 41, 42, 43, 44, 45, 46, 47, 48, 49, 50, 51, 52, 53] (by decide +kernel) (by decide +kernel)
set_option maxRecDepth 20000 in
theorem gX5_of_X5_appetite : GoodIn wsX5_of (wsV RX5 81 RX5 yX5_appetite wsX5_appetite) := goodIn_app (goodIn_of _ (by decide +kernel)) ggX5_of_X5_appetite
set_option maxRecDepth 20000 in
theorem ggX5_of_X5_left : GoodIn wsX5_of wsX5_left := goodIn_r _ [28, 21, 22, 23, 6, 24, 8, 36, 37, 38, 39, 40, 41, 42, 43, 44, 45, 46, 47, 48, 49, 50, 51, 52, 53] (by decide +kernel) (by decide +kernel)
set_option maxRecDepth 20000 in
theorem gX5_of_X5_left : GoodIn wsX5_of (wsV RX5 72 RX5 yX5_left wsX5_left) := goodIn_app (goodIn_of _ (by decide +kernel)) ggX5_of_X5_left
set_option maxRecDepth 20000 in
theorem ggX5_of_X5_tasted : GoodIn wsX5_of wsX5_tasted := goodIn_r _ [35, 21, 22, 23, 6, 24, 8, 36, 37, 38, 39, 40, 41, 42, 43, 44, 45, 46, 47, 48, 49, 50, 51, 52, 53] (by decide +kernel) (by decide +kernel)
set_option maxRecDepth 20000 in
theorem gX5_of_X5_tasted : GoodIn wsX5_of (wsV RX5 84 RX5 yX5_tasted wsX5_tasted) := goodIn_app (goodIn_of _ (by decide +kernel)) ggX5_of_X5_tasted
set_option maxRecDepth 20000 in
theorem ggX5_of_X5_its : GoodIn wsX5_of wsX5_its := goodIn_r _ [24, 8, 36, 37, 38, 39, 40, 41, 42, 43, 44, 45, 46, 47, 48, 49, 50, 51, 52, 53] (by decide +kernel) (by decide +kernel)
set_option maxRecDepth 20000 in
theorem gX5_of_X5_its : GoodIn wsX5_of (wsV RX5 69 RX5 yX5_its wsX5_its) := goodIn_app (goodIn_of _ (by decide +kernel)) ggX5_of_X5_its
theorem dX5_of_0 : decode cX5_of 0 = .ok (.aload_n 0, 1) := by decide +kernel
theorem dX5_of_1 : decode cX5_of 1 = .ok (.iload_n 1, 1) := by decide +kernel
theorem dX5_of_2 : decode cX5_of 2 = .ok (.invokevirtual 78, 3) := by decide +kernel
theorem dX5_of_5 : decode cX5_of 5 = .ok (.ifCond .eq 15, 3) := by decide +kernel
theorem dX5_of_8 : decode cX5_of 8 = .ok (.iload_n 2, 1) := by decide +kernel
theorem dX5_of_9 : decode cX5_of 9 = .ok (.i2l, 1) := by decide +kernel
theorem dX5_of_10 : decode cX5_of 10 = .ok (.lconst 0, 1) := by decide +kernel
theorem dX5_of_11 : decode cX5_of 11 = .ok (.ldc2_w 62, 3) := by decide +kernel
theorem dX5_of_14 : decode cX5_of 14 = .ok (.invokestatic 45, 3) := by decide +kernel
theorem dX5_of_17 : decode cX5_of 17 = .ok (.ifCond .ne 10, 3) := by decide +kernel
theorem dX5_of_20 : decode cX5_of 20 = .ok (.aload_n 0, 1) := by decide +kernel
theorem dX5_of_21 : decode cX5_of 21 = .ok (.ldc 37, 2) := by decide +kernel
theorem dX5_of_23 : decode cX5_of 23 = .ok (.invokevirtual 39, 3) := by decide +kernel
theorem dX5_of_26 : decode cX5_of 26 = .ok (.ireturn, 1) := by decide +kernel
theorem dX5_of_27 : decode cX5_of 27 = .ok (.iload_n 2, 1) := by decide +kernel
theorem dX5_of_28 : decode cX5_of 28 = .ok (.tableswitch 46 4 6 #[28, 34, 40], 28) := by decide +kernel
theorem dX5_of_56 : decode cX5_of 56 = .ok (.aload_n 0, 1) := by decide +kernel
theorem dX5_of_57 : decode cX5_of 57 = .ok (.iload_n 1, 1) := by decide +kernel
theorem dX5_of_58 : decode cX5_of 58 = .ok (.invokevirtual 81, 3) := by decide +kernel
theorem dX5_of_61 : decode cX5_of 61 = .ok (.ireturn, 1) := by decide +kernel
theorem dX5_of_62 : decode cX5_of 62 = .ok (.aload_n 0, 1) := by decide +kernel
theorem dX5_of_63 : decode cX5_of 63 = .ok (.iload_n 1, 1) := by decide +kernel
theorem dX5_of_64 : decode cX5_of 64 = .ok (.invokevirtual 72, 3) := by decide +kernel
theorem dX5_of_67 : decode cX5_of 67 = .ok (.ireturn, 1) := by decide +kernel
theorem dX5_of_68 : decode cX5_of 68 = .ok (.aload_n 0, 1) := by decide +kernel
theorem dX5_of_69 : decode cX5_of 69 = .ok (.iload_n 1, 1) := by decide +kernel
theorem dX5_of_70 : decode cX5_of 70 = .ok (.invokevirtual 84, 3) := by decide +kernel
theorem dX5_of_73 : decode cX5_of 73 = .ok (.ireturn, 1) := by decide +kernel
theorem dX5_of_74 : decode cX5_of 74 = .ok (.aload_n 0, 1) := by decide +kernel
theorem dX5_of_75 : decode cX5_of 75 = .ok (.iload_n 1, 1) := by decide +kernel
theorem dX5_of_76 : decode cX5_of 76 = .ok (.iload_n 2, 1) := by decide +kernel
theorem dX5_of_77 : decode cX5_of 77 = .ok (.invokevirtual 69, 3) := by decide +kernel
theorem dX5_of_80 : decode cX5_of 80 = .ok (.ireturn, 1) := by decide +kernel
set_option maxRecDepth 20000 in
theorem ggX5_may_X5_isIn : GoodIn wsX5_may wsX5_isIn := goodIn_r _ [7] (by decide +kernel) (by decide +kernel)
set_option maxRecDepth 20000 in
theorem gX5_may_X5_isIn : GoodIn wsX5_may (va_wsS RX5 45 yX5_isIn wsX5_isIn) := goodIn_app (goodIn_of _ (by decide +kernel)) ggX5_may_X5_isIn
set_option maxRecDepth 20000 in
theorem ggX5_may_X5_isOne : GoodIn wsX5_may wsX5_isOne := goodIn_r _ [11, 12, 13, 14, 15, 16, 17, 18, 19, 20, 21, 22, 23, 24, 25, 26, 27, 28, 29, 30] (by decide +kernel) (by decide +kernel)
set_option maxRecDepth 20000 in
theorem gX5_may_X5_isOne : GoodIn wsX5_may (wsV RX5 78 RX5 yX5_isOne wsX5_isOne) := goodIn_app (goodIn_of _ (by decide +kernel)) ggX5_may_X5_isOne
theorem dX5_may_0 : decode cX5_may 0 = .ok (.iload_n 2, 1) := by decide +kernel
theorem dX5_may_1 : decode cX5_may 1 = .ok (.tableswitch 85 0 3 #[31, 41, 65, 75], 31) := by decide +kernel
theorem dX5_may_32 : decode cX5_may 32 = .ok (.iload_n 3, 1) := by decide +kernel
theorem dX5_may_33 : decode cX5_may 33 = .ok (.i2l, 1) := by decide +kernel
theorem dX5_may_34 : decode cX5_may 34 = .ok (.lconst 0, 1) := by decide +kernel
theorem dX5_may_35 : decode cX5_may 35 = .ok (.ldc2_w 62, 3) := by decide +kernel
theorem dX5_may_38 : decode cX5_may 38 = .ok (.invokestatic 45, 3) := by decide +kernel
theorem dX5_may_41 : decode cX5_may 41 = .ok (.ireturn, 1) := by decide +kernel
theorem dX5_may_42 : decode cX5_may 42 = .ok (.iload_n 3, 1) := by decide +kernel
theorem dX5_may_43 : decode cX5_may 43 = .ok (.iconst (-1), 1) := by decide +kernel
theorem dX5_may_44 : decode cX5_may 44 = .ok (.if_icmp .eq 16, 3) := by decide +kernel
theorem dX5_may_47 : decode cX5_may 47 = .ok (.aload_n 0, 1) := by decide +kernel
theorem dX5_may_48 : decode cX5_may 48 = .ok (.iload_n 3, 1) := by decide +kernel
theorem dX5_may_49 : decode cX5_may 49 = .ok (.invokevirtual 78, 3) := by decide +kernel
theorem dX5_may_52 : decode cX5_may 52 = .ok (.ifCond .eq 12, 3) := by decide +kernel
theorem dX5_may_55 : decode cX5_may 55 = .ok (.iload_n 3, 1) := by decide +kernel
theorem dX5_may_56 : decode cX5_may 56 = .ok (.iload_n 1, 1) := by decide +kernel
theorem dX5_may_57 : decode cX5_may 57 = .ok (.if_icmp .eq 7, 3) := by decide +kernel
theorem dX5_may_60 : decode cX5_may 60 = .ok (.iconst 1, 1) := by decide +kernel
theorem dX5_may_61 : decode cX5_may 61 = .ok (.goto 4, 3) := by decide +kernel
theorem dX5_may_64 : decode cX5_may 64 = .ok (.iconst 0, 1) := by decide +kernel
theorem dX5_may_65 : decode cX5_may 65 = .ok (.ireturn, 1) := by decide +kernel
theorem dX5_may_66 : decode cX5_may 66 = .ok (.iload_n 3, 1) := by decide +kernel
theorem dX5_may_67 : decode cX5_may 67 = .ok (.i2l, 1) := by decide +kernel
theorem dX5_may_68 : decode cX5_may 68 = .ok (.lconst 0, 1) := by decide +kernel
theorem dX5_may_69 : decode cX5_may 69 = .ok (.ldc2_w 87, 3) := by decide +kernel
theorem dX5_may_72 : decode cX5_may 72 = .ok (.invokestatic 45, 3) := by decide +kernel
theorem dX5_may_75 : decode cX5_may 75 = .ok (.ireturn, 1) := by decide +kernel
theorem dX5_may_76 : decode cX5_may 76 = .ok (.iload_n 3, 1) := by decide +kernel
theorem dX5_may_77 : decode cX5_may 77 = .ok (.i2l, 1) := by decide +kernel
theorem dX5_may_78 : decode cX5_may 78 = .ok (.lconst 0, 1) := by decide +kernel
theorem dX5_may_79 : decode cX5_may 79 = .ok (.ldc2_w 89, 3) := by decide +kernel
theorem dX5_may_82 : decode cX5_may 82 = .ok (.invokestatic 45, 3) := by decide +kernel
theorem dX5_may_85 : decode cX5_may 85 = .ok (.ireturn, 1) := by decide +kernel
theorem dX5_may_86 : decode cX5_may 86 = .ok (.iconst 0, 1) := by decide +kernel
theorem dX5_may_87 : decode cX5_may 87 = .ok (.ireturn, 1) := by decide +kernel
set_option maxRecDepth 20000 in
theorem ggX5_change_X5_isOne : GoodIn wsX5_change wsX5_isOne := goodIn_r _ [6, 7, 30, 31, 32, 33, 34, 35, 36, 37, 38, 39, 40, 41, 42, 43, 44, 45, 46, 47] (by decide +kernel) (by decide +kernel)
set_option maxRecDepth 20000 in
theorem gX5_change_X5_isOne : GoodIn wsX5_change (wsV RX5 78 RX5 yX5_isOne wsX5_isOne) := goodIn_app (goodIn_of _ (by decide +kernel)) ggX5_change_X5_isOne
set_option maxRecDepth 20000 in
theorem ggX5_change_X5_may : GoodIn wsX5_change wsX5_may := goodIn_r _ [11, 12, 13, 14, 15, 16, 5, 17, 2, 3, 4, 6, 7, 30, 31, 32, 33, 34, 35, 36, 37, 38, 39, 40, 41, 42, 43, 44, 45, 46, 47] (by decide +kernel) (by decide +kernel)
set_option maxRecDepth 20000 in
theorem gX5_change_X5_may : GoodIn wsX5_change (wsV RX5 91 RX5 yX5_may wsX5_may) := goodIn_app (goodIn_of _ (by decide +kernel)) ggX5_change_X5_may
set_option maxRecDepth 20000 in
theorem ggX5_change_X5_at : GoodIn wsX5_change wsX5_at := goodIn_r _ [20] (by decide +kernel) (by decide +kernel)
set_option maxRecDepth 20000 in
theorem gX5_change_X5_at : GoodIn wsX5_change (va_wsS RX5 59 yX5_at wsX5_at) := goodIn_app (goodIn_of _ (by decide +kernel)) ggX5_change_X5_at
set_option maxRecDepth 20000 in
theorem ggX5_change_X5_becomes : GoodIn wsX5_change wsX5_becomes := goodIn_r _ [24, 7, 30, 31, 32, 33, 34, 35, 36, 37, 38, 39, 40, 41, 42, 43, 44, 45, 46, 47] (by decide +kernel) (by decide +kernel)
set_option maxRecDepth 20000 in
theorem gX5_change_X5_becomes : GoodIn wsX5_change (wsV RX5 49 RX5 yX5_becomes wsX5_becomes) := goodIn_app (goodIn_of _ (by decide +kernel)) ggX5_change_X5_becomes
set_option maxRecDepth 20000 in
theorem ggX5_change_X5_finds : GoodIn wsX5_change wsX5_finds := goodIn_r _ [28, 29, 1, 30, 31, 32, 33, 34, 35, 36, 37, 38, 39, 40, 41, 42, 43, 44, 45, 46, 47] (by decide +kernel) (by decide +kernel)
set_option maxRecDepth 20000 in
theorem gX5_change_X5_finds : GoodIn wsX5_change (wsV RX5 39 RX5 yX5_finds wsX5_finds) := goodIn_app (goodIn_of _ (by decide +kernel)) ggX5_change_X5_finds
theorem dX5_change_0 : decode cX5_change 0 = .ok (.aload_n 0, 1) := by decide +kernel
theorem dX5_change_1 : decode cX5_change 1 = .ok (.iload_n 1, 1) := by decide +kernel
theorem dX5_change_2 : decode cX5_change 2 = .ok (.invokevirtual 78, 3) := by decide +kernel
theorem dX5_change_5 : decode cX5_change 5 = .ok (.ifCond .eq 26, 3) := by decide +kernel
theorem dX5_change_8 : decode cX5_change 8 = .ok (.aload_n 0, 1) := by decide +kernel
theorem dX5_change_9 : decode cX5_change 9 = .ok (.iload_n 1, 1) := by decide +kernel
theorem dX5_change_10 : decode cX5_change 10 = .ok (.iload_n 2, 1) := by decide +kernel
theorem dX5_change_11 : decode cX5_change 11 = .ok (.iload_n 3, 1) := by decide +kernel
theorem dX5_change_12 : decode cX5_change 12 = .ok (.invokevirtual 91, 3) := by decide +kernel
theorem dX5_change_15 : decode cX5_change 15 = .ok (.ifCond .eq 16, 3) := by decide +kernel
theorem dX5_change_18 : decode cX5_change 18 = .ok (.aload_n 0, 1) := by decide +kernel
theorem dX5_change_19 : decode cX5_change 19 = .ok (.iload_n 1, 1) := by decide +kernel
theorem dX5_change_20 : decode cX5_change 20 = .ok (.iload_n 2, 1) := by decide +kernel
theorem dX5_change_21 : decode cX5_change 21 = .ok (.invokestatic 59, 3) := by decide +kernel
theorem dX5_change_24 : decode cX5_change 24 = .ok (.iload_n 3, 1) := by decide +kernel
theorem dX5_change_25 : decode cX5_change 25 = .ok (.invokevirtual 49, 3) := by decide +kernel
theorem dX5_change_28 : decode cX5_change 28 = .ok (.goto 9, 3) := by decide +kernel
theorem dX5_change_31 : decode cX5_change 31 = .ok (.aload_n 0, 1) := by decide +kernel
theorem dX5_change_32 : decode cX5_change 32 = .ok (.ldc 37, 2) := by decide +kernel
theorem dX5_change_34 : decode cX5_change 34 = .ok (.invokevirtual 39, 3) := by decide +kernel
theorem dX5_change_37 : decode cX5_change 37 = .ok (.ireturn, 1) := by decide +kernel
set_option maxRecDepth 20000 in
theorem ggX5_serve_X5_isOne : GoodIn wsX5_serve wsX5_isOne := goodIn_r _ [7, 8, 27, 28, 29, 30, 31, 32, 33, 34, 35, 36, 37, 38, 39, 40, 41, 42, 43, 44] (by decide +kernel) (by decide +kernel)
set_option maxRecDepth 20000 in
theorem gX5_serve_X5_isOne : GoodIn wsX5_serve (wsV RX5 78 RX5 yX5_isOne wsX5_isOne) := goodIn_app (goodIn_of _ (by decide +kernel)) ggX5_serve_X5_isOne
set_option maxRecDepth 20000 in
theorem ggX5_serve_X5_isTaste : GoodIn wsX5_serve wsX5_isTaste := goodIn_r _ [11] (by decide +kernel) (by decide +kernel)
set_option maxRecDepth 20000 in
theorem gX5_serve_X5_isTaste : GoodIn wsX5_serve (va_wsS RX5 53 yX5_isTaste wsX5_isTaste) := goodIn_app (goodIn_of _ (by decide +kernel)) ggX5_serve_X5_isTaste
set_option maxRecDepth 20000 in
theorem ggX5_serve_X5_isIn : GoodIn wsX5_serve wsX5_isIn := goodIn_r _ [14] (by decide +kernel) (by decide +kernel)
set_option maxRecDepth 20000 in
theorem gX5_serve_X5_isIn : GoodIn wsX5_serve (va_wsS RX5 45 yX5_isIn wsX5_isIn) := goodIn_app (goodIn_of _ (by decide +kernel)) ggX5_serve_X5_isIn
set_option maxRecDepth 20000 in
theorem ggX5_serve_X5_at : GoodIn wsX5_serve wsX5_at := goodIn_r _ [17] (by decide +kernel) (by decide +kernel)
set_option maxRecDepth 20000 in
theorem gX5_serve_X5_at : GoodIn wsX5_serve (va_wsS RX5 59 yX5_at wsX5_at) := goodIn_app (goodIn_of _ (by decide +kernel)) ggX5_serve_X5_at
set_option maxRecDepth 20000 in
theorem ggX5_serve_X5_becomes : GoodIn wsX5_serve wsX5_becomes := goodIn_r _ [21, 8, 27, 28, 29, 30, 31, 32, 33, 34, 35, 36, 37, 38, 39, 40, 41, 42, 43, 44] (by decide +kernel) (by decide +kernel)
set_option maxRecDepth 20000 in
theorem gX5_serve_X5_becomes : GoodIn wsX5_serve (wsV RX5 49 RX5 yX5_becomes wsX5_becomes) := goodIn_app (goodIn_of _ (by decide +kernel)) ggX5_serve_X5_becomes
set_option maxRecDepth 20000 in
theorem ggX5_serve_X5_finds : GoodIn wsX5_serve wsX5_finds := goodIn_r _ [25, 26, 2, 27, 28, 29, 30, 31, 32, 33, 34, 35, 36, 37, 38, 39, 40, 41, 42, 43, 44] (by decide +kernel) (by decide +kernel)
set_option maxRecDepth 20000 in
theorem gX5_serve_X5_finds : GoodIn wsX5_serve (wsV RX5 39 RX5 yX5_finds wsX5_finds) := goodIn_app (goodIn_of _ (by decide +kernel)) ggX5_serve_X5_finds
theorem dX5_serve_0 : decode cX5_serve 0 = .ok (.aload_n 0, 1) := by decide +kernel
theorem dX5_serve_1 : decode cX5_serve 1 = .ok (.iload_n 1, 1) := by decide +kernel
theorem dX5_serve_2 : decode cX5_serve 2 = .ok (.invokevirtual 78, 3) := by decide +kernel
theorem dX5_serve_5 : decode cX5_serve 5 = .ok (.ifCond .eq 37, 3) := by decide +kernel
theorem dX5_serve_8 : decode cX5_serve 8 = .ok (.iload_n 2, 1) := by decide +kernel
theorem dX5_serve_9 : decode cX5_serve 9 = .ok (.invokestatic 53, 3) := by decide +kernel
theorem dX5_serve_12 : decode cX5_serve 12 = .ok (.ifCond .eq 30, 3) := by decide +kernel
theorem dX5_serve_15 : decode cX5_serve 15 = .ok (.iload_n 3, 1) := by decide +kernel
theorem dX5_serve_16 : decode cX5_serve 16 = .ok (.i2l, 1) := by decide +kernel
theorem dX5_serve_17 : decode cX5_serve 17 = .ok (.lconst 0, 1) := by decide +kernel
theorem dX5_serve_18 : decode cX5_serve 18 = .ok (.ldc2_w 95, 3) := by decide +kernel
theorem dX5_serve_21 : decode cX5_serve 21 = .ok (.invokestatic 45, 3) := by decide +kernel
theorem dX5_serve_24 : decode cX5_serve 24 = .ok (.ifCond .eq 18, 3) := by decide +kernel
theorem dX5_serve_27 : decode cX5_serve 27 = .ok (.aload_n 0, 1) := by decide +kernel
theorem dX5_serve_28 : decode cX5_serve 28 = .ok (.iload_n 1, 1) := by decide +kernel
theorem dX5_serve_29 : decode cX5_serve 29 = .ok (.iconst 4, 1) := by decide +kernel
theorem dX5_serve_30 : decode cX5_serve 30 = .ok (.iload_n 2, 1) := by decide +kernel
theorem dX5_serve_31 : decode cX5_serve 31 = .ok (.iadd, 1) := by decide +kernel
theorem dX5_serve_32 : decode cX5_serve 32 = .ok (.invokestatic 59, 3) := by decide +kernel
theorem dX5_serve_35 : decode cX5_serve 35 = .ok (.iload_n 3, 1) := by decide +kernel
theorem dX5_serve_36 : decode cX5_serve 36 = .ok (.invokevirtual 49, 3) := by decide +kernel
theorem dX5_serve_39 : decode cX5_serve 39 = .ok (.goto 9, 3) := by decide +kernel
theorem dX5_serve_42 : decode cX5_serve 42 = .ok (.aload_n 0, 1) := by decide +kernel
theorem dX5_serve_43 : decode cX5_serve 43 = .ok (.ldc 37, 2) := by decide +kernel
theorem dX5_serve_45 : decode cX5_serve 45 = .ok (.invokevirtual 39, 3) := by decide +kernel
theorem dX5_serve_48 : decode cX5_serve 48 = .ok (.ireturn, 1) := by decide +kernel
set_option maxRecDepth 20000 in
theorem ggX5_plate_X5_isOne : GoodIn wsX5_plate wsX5_isOne := goodIn_r _ [6, 7, 20, 21, 22, 23, 24, 25, 26, 27, 28, 29, 30, 31, 32, 33, 34, 35, 36, 37] (by decide +kernel) (by decide +kernel)
set_option maxRecDepth 20000 in
theorem gX5_plate_X5_isOne : GoodIn wsX5_plate (wsV RX5 78 RX5 yX5_isOne wsX5_isOne) := goodIn_app (goodIn_of _ (by decide +kernel)) ggX5_plate_X5_isOne
set_option maxRecDepth 20000 in
theorem ggX5_plate_X5_isTaste : GoodIn wsX5_plate wsX5_isTaste := goodIn_r _ [10] (by decide +kernel) (by decide +kernel)
set_option maxRecDepth 20000 in
theorem gX5_plate_X5_isTaste : GoodIn wsX5_plate (va_wsS RX5 53 yX5_isTaste wsX5_isTaste) := goodIn_app (goodIn_of _ (by decide +kernel)) ggX5_plate_X5_isTaste
set_option maxRecDepth 20000 in
theorem ggX5_plate_X5_its : GoodIn wsX5_plate wsX5_its := goodIn_r _ [14, 7, 20, 21, 22, 23, 24, 25, 26, 27, 28, 29, 30, 31, 32, 33, 34, 35, 36, 37] (by decide +kernel) (by decide +kernel)
set_option maxRecDepth 20000 in
theorem gX5_plate_X5_its : GoodIn wsX5_plate (wsV RX5 69 RX5 yX5_its wsX5_its) := goodIn_app (goodIn_of _ (by decide +kernel)) ggX5_plate_X5_its
set_option maxRecDepth 20000 in
theorem ggX5_plate_X5_finds : GoodIn wsX5_plate wsX5_finds := goodIn_r _ [18, 19, 1, 20, 21, 22, 23, 24, 25, 26, 27, 28, 29, 30, 31, 32, 33, 34, 35, 36, 37] (by decide +kernel) (by decide +kernel)
set_option maxRecDepth 20000 in
theorem gX5_plate_X5_finds : GoodIn wsX5_plate (wsV RX5 39 RX5 yX5_finds wsX5_finds) := goodIn_app (goodIn_of _ (by decide +kernel)) ggX5_plate_X5_finds
theorem dX5_plate_0 : decode cX5_plate 0 = .ok (.aload_n 0, 1) := by decide +kernel
theorem dX5_plate_1 : decode cX5_plate 1 = .ok (.iload_n 1, 1) := by decide +kernel
theorem dX5_plate_2 : decode cX5_plate 2 = .ok (.invokevirtual 78, 3) := by decide +kernel
theorem dX5_plate_5 : decode cX5_plate 5 = .ok (.ifCond .eq 21, 3) := by decide +kernel
theorem dX5_plate_8 : decode cX5_plate 8 = .ok (.iload_n 2, 1) := by decide +kernel
theorem dX5_plate_9 : decode cX5_plate 9 = .ok (.invokestatic 53, 3) := by decide +kernel
theorem dX5_plate_12 : decode cX5_plate 12 = .ok (.ifCond .eq 14, 3) := by decide +kernel
theorem dX5_plate_15 : decode cX5_plate 15 = .ok (.aload_n 0, 1) := by decide +kernel
theorem dX5_plate_16 : decode cX5_plate 16 = .ok (.iload_n 1, 1) := by decide +kernel
theorem dX5_plate_17 : decode cX5_plate 17 = .ok (.iconst 4, 1) := by decide +kernel
theorem dX5_plate_18 : decode cX5_plate 18 = .ok (.iload_n 2, 1) := by decide +kernel
theorem dX5_plate_19 : decode cX5_plate 19 = .ok (.iadd, 1) := by decide +kernel
theorem dX5_plate_20 : decode cX5_plate 20 = .ok (.invokevirtual 69, 3) := by decide +kernel
theorem dX5_plate_23 : decode cX5_plate 23 = .ok (.goto 9, 3) := by decide +kernel
theorem dX5_plate_26 : decode cX5_plate 26 = .ok (.aload_n 0, 1) := by decide +kernel
theorem dX5_plate_27 : decode cX5_plate 27 = .ok (.ldc 37, 2) := by decide +kernel
theorem dX5_plate_29 : decode cX5_plate 29 = .ok (.invokevirtual 39, 3) := by decide +kernel
theorem dX5_plate_32 : decode cX5_plate 32 = .ok (.ireturn, 1) := by decide +kernel
set_option maxRecDepth 20000 in
theorem ggX5_chews_X5_isOne : GoodIn wsX5_chews wsX5_isOne := goodIn_r _ [6, 7, 24, 25, 26, 27, 28, 29, 30, 31, 32, 33, 34, 35, 36, 37, 38, 39, 40, 41] (by decide +kernel) (by decide +kernel)
set_option maxRecDepth 20000 in
theorem gX5_chews_X5_isOne : GoodIn wsX5_chews (wsV RX5 78 RX5 yX5_isOne wsX5_isOne) := goodIn_app (goodIn_of _ (by decide +kernel)) ggX5_chews_X5_isOne
set_option maxRecDepth 20000 in
theorem ggX5_chews_X5_isTaste : GoodIn wsX5_chews wsX5_isTaste := goodIn_r _ [10] (by decide +kernel) (by decide +kernel)
set_option maxRecDepth 20000 in
theorem gX5_chews_X5_isTaste : GoodIn wsX5_chews (va_wsS RX5 53 yX5_isTaste wsX5_isTaste) := goodIn_app (goodIn_of _ (by decide +kernel)) ggX5_chews_X5_isTaste
set_option maxRecDepth 20000 in
theorem ggX5_chews_X5_its : GoodIn wsX5_chews wsX5_its := goodIn_r _ [14, 7, 24, 25, 26, 27, 28, 29, 30, 31, 32, 33, 34, 35, 36, 37, 38, 39, 40, 41] (by decide +kernel) (by decide +kernel)
set_option maxRecDepth 20000 in
theorem gX5_chews_X5_its : GoodIn wsX5_chews (wsV RX5 69 RX5 yX5_its wsX5_its) := goodIn_app (goodIn_of _ (by decide +kernel)) ggX5_chews_X5_its
set_option maxRecDepth 20000 in
theorem ggX5_chews_X5_chewsOf : GoodIn wsX5_chews wsX5_chewsOf := goodIn_r _ [18, 7, 24, 25, 26, 27, 28, 29, 30, 31, 32, 33, 34, 35, 36, 37, 38, 39, 40, 41] (by decide +kernel) (by decide +kernel)
set_option maxRecDepth 20000 in
theorem gX5_chews_X5_chewsOf : GoodIn wsX5_chews (wsV RX5 97 RX5 yX5_chewsOf wsX5_chewsOf) := goodIn_app (goodIn_of _ (by decide +kernel)) ggX5_chews_X5_chewsOf
set_option maxRecDepth 20000 in
theorem ggX5_chews_X5_finds : GoodIn wsX5_chews wsX5_finds := goodIn_r _ [22, 23, 1, 24, 25, 26, 27, 28, 29, 30, 31, 32, 33, 34, 35, 36, 37, 38, 39, 40, 41] (by decide +kernel) (by decide +kernel)
set_option maxRecDepth 20000 in
theorem gX5_chews_X5_finds : GoodIn wsX5_chews (wsV RX5 39 RX5 yX5_finds wsX5_finds) := goodIn_app (goodIn_of _ (by decide +kernel)) ggX5_chews_X5_finds
theorem dX5_chews_0 : decode cX5_chews 0 = .ok (.aload_n 0, 1) := by decide +kernel
theorem dX5_chews_1 : decode cX5_chews 1 = .ok (.iload_n 1, 1) := by decide +kernel
theorem dX5_chews_2 : decode cX5_chews 2 = .ok (.invokevirtual 78, 3) := by decide +kernel
theorem dX5_chews_5 : decode cX5_chews 5 = .ok (.ifCond .eq 24, 3) := by decide +kernel
theorem dX5_chews_8 : decode cX5_chews 8 = .ok (.iload_n 2, 1) := by decide +kernel
theorem dX5_chews_9 : decode cX5_chews 9 = .ok (.invokestatic 53, 3) := by decide +kernel
theorem dX5_chews_12 : decode cX5_chews 12 = .ok (.ifCond .eq 17, 3) := by decide +kernel
theorem dX5_chews_15 : decode cX5_chews 15 = .ok (.aload_n 0, 1) := by decide +kernel
theorem dX5_chews_16 : decode cX5_chews 16 = .ok (.aload_n 0, 1) := by decide +kernel
theorem dX5_chews_17 : decode cX5_chews 17 = .ok (.iload_n 1, 1) := by decide +kernel
theorem dX5_chews_18 : decode cX5_chews 18 = .ok (.iconst 0, 1) := by decide +kernel
theorem dX5_chews_19 : decode cX5_chews 19 = .ok (.invokevirtual 69, 3) := by decide +kernel
theorem dX5_chews_22 : decode cX5_chews 22 = .ok (.iload_n 2, 1) := by decide +kernel
theorem dX5_chews_23 : decode cX5_chews 23 = .ok (.invokevirtual 97, 3) := by decide +kernel
theorem dX5_chews_26 : decode cX5_chews 26 = .ok (.goto 9, 3) := by decide +kernel
theorem dX5_chews_29 : decode cX5_chews 29 = .ok (.aload_n 0, 1) := by decide +kernel
theorem dX5_chews_30 : decode cX5_chews 30 = .ok (.ldc 37, 2) := by decide +kernel
theorem dX5_chews_32 : decode cX5_chews 32 = .ok (.invokevirtual 39, 3) := by decide +kernel
theorem dX5_chews_35 : decode cX5_chews 35 = .ok (.ireturn, 1) := by decide +kernel
set_option maxRecDepth 20000 in
theorem ggX5_talks_X5_isOne : GoodIn wsX5_talks wsX5_isOne := goodIn_r _ [6, 7, 24, 25, 26, 27, 28, 29, 30, 31, 32, 33, 34, 35, 36, 37, 38, 39, 40, 41] (by decide +kernel) (by decide +kernel)
set_option maxRecDepth 20000 in
theorem gX5_talks_X5_isOne : GoodIn wsX5_talks (wsV RX5 78 RX5 yX5_isOne wsX5_isOne) := goodIn_app (goodIn_of _ (by decide +kernel)) ggX5_talks_X5_isOne
set_option maxRecDepth 20000 in
theorem ggX5_talks_X5_isTaste : GoodIn wsX5_talks wsX5_isTaste := goodIn_r _ [10] (by decide +kernel) (by decide +kernel)
set_option maxRecDepth 20000 in
theorem gX5_talks_X5_isTaste : GoodIn wsX5_talks (va_wsS RX5 53 yX5_isTaste wsX5_isTaste) := goodIn_app (goodIn_of _ (by decide +kernel)) ggX5_talks_X5_isTaste
set_option maxRecDepth 20000 in
theorem ggX5_talks_X5_its : GoodIn wsX5_talks wsX5_its := goodIn_r _ [14, 7, 24, 25, 26, 27, 28, 29, 30, 31, 32, 33, 34, 35, 36, 37, 38, 39, 40, 41] (by decide +kernel) (by decide +kernel)
set_option maxRecDepth 20000 in
theorem gX5_talks_X5_its : GoodIn wsX5_talks (wsV RX5 69 RX5 yX5_its wsX5_its) := goodIn_app (goodIn_of _ (by decide +kernel)) ggX5_talks_X5_its
set_option maxRecDepth 20000 in
theorem ggX5_talks_X5_talksOf : GoodIn wsX5_talks wsX5_talksOf := goodIn_r _ [18, 7, 24, 25, 26, 27, 28, 29, 30, 31, 32, 33, 34, 35, 36, 37, 38, 39, 40, 41] (by decide +kernel) (by decide +kernel)
set_option maxRecDepth 20000 in
theorem gX5_talks_X5_talksOf : GoodIn wsX5_talks (wsV RX5 100 RX5 yX5_talksOf wsX5_talksOf) := goodIn_app (goodIn_of _ (by decide +kernel)) ggX5_talks_X5_talksOf
set_option maxRecDepth 20000 in
theorem ggX5_talks_X5_finds : GoodIn wsX5_talks wsX5_finds := goodIn_r _ [22, 23, 1, 24, 25, 26, 27, 28, 29, 30, 31, 32, 33, 34, 35, 36, 37, 38, 39, 40, 41] (by decide +kernel) (by decide +kernel)
set_option maxRecDepth 20000 in
theorem gX5_talks_X5_finds : GoodIn wsX5_talks (wsV RX5 39 RX5 yX5_finds wsX5_finds) := goodIn_app (goodIn_of _ (by decide +kernel)) ggX5_talks_X5_finds
theorem dX5_talks_0 : decode cX5_talks 0 = .ok (.aload_n 0, 1) := by decide +kernel
theorem dX5_talks_1 : decode cX5_talks 1 = .ok (.iload_n 1, 1) := by decide +kernel
theorem dX5_talks_2 : decode cX5_talks 2 = .ok (.invokevirtual 78, 3) := by decide +kernel
theorem dX5_talks_5 : decode cX5_talks 5 = .ok (.ifCond .eq 24, 3) := by decide +kernel
theorem dX5_talks_8 : decode cX5_talks 8 = .ok (.iload_n 2, 1) := by decide +kernel
theorem dX5_talks_9 : decode cX5_talks 9 = .ok (.invokestatic 53, 3) := by decide +kernel
theorem dX5_talks_12 : decode cX5_talks 12 = .ok (.ifCond .eq 17, 3) := by decide +kernel
theorem dX5_talks_15 : decode cX5_talks 15 = .ok (.aload_n 0, 1) := by decide +kernel
theorem dX5_talks_16 : decode cX5_talks 16 = .ok (.aload_n 0, 1) := by decide +kernel
theorem dX5_talks_17 : decode cX5_talks 17 = .ok (.iload_n 1, 1) := by decide +kernel
theorem dX5_talks_18 : decode cX5_talks 18 = .ok (.iconst 0, 1) := by decide +kernel
theorem dX5_talks_19 : decode cX5_talks 19 = .ok (.invokevirtual 69, 3) := by decide +kernel
theorem dX5_talks_22 : decode cX5_talks 22 = .ok (.iload_n 2, 1) := by decide +kernel
theorem dX5_talks_23 : decode cX5_talks 23 = .ok (.invokevirtual 100, 3) := by decide +kernel
theorem dX5_talks_26 : decode cX5_talks 26 = .ok (.goto 9, 3) := by decide +kernel
theorem dX5_talks_29 : decode cX5_talks 29 = .ok (.aload_n 0, 1) := by decide +kernel
theorem dX5_talks_30 : decode cX5_talks 30 = .ok (.ldc 37, 2) := by decide +kernel
theorem dX5_talks_32 : decode cX5_talks 32 = .ok (.invokevirtual 39, 3) := by decide +kernel
theorem dX5_talks_35 : decode cX5_talks 35 = .ok (.ireturn, 1) := by decide +kernel
set_option maxRecDepth 20000 in
theorem ggX5_says_X5_its : GoodIn wsX5_says wsX5_its := goodIn_r _ [6, 1, 17, 18, 19, 20, 21, 22, 23, 24, 25, 26, 27, 28, 29, 30, 31, 32, 33, 34] (by decide +kernel) (by decide +kernel)
set_option maxRecDepth 20000 in
theorem gX5_says_X5_its : GoodIn wsX5_says (wsV RX5 69 RX5 yX5_its wsX5_its) := goodIn_app (goodIn_of _ (by decide +kernel)) ggX5_says_X5_its
set_option maxRecDepth 20000 in
theorem ggX5_says_X5_talksOf : GoodIn wsX5_says wsX5_talksOf := goodIn_r _ [10, 1, 17, 18, 19, 20, 21, 22, 23, 24, 25, 26, 27, 28, 29, 30, 31, 32, 33, 34] (by decide +kernel) (by decide +kernel)
set_option maxRecDepth 20000 in
theorem gX5_says_X5_talksOf : GoodIn wsX5_says (wsV RX5 100 RX5 yX5_talksOf wsX5_talksOf) := goodIn_app (goodIn_of _ (by decide +kernel)) ggX5_says_X5_talksOf
set_option maxRecDepth 20000 in
theorem ggX5_says_X5_at : GoodIn wsX5_says wsX5_at := goodIn_r _ [13] (by decide +kernel) (by decide +kernel)
set_option maxRecDepth 20000 in
theorem gX5_says_X5_at : GoodIn wsX5_says (va_wsS RX5 59 yX5_at wsX5_at) := goodIn_app (goodIn_of _ (by decide +kernel)) ggX5_says_X5_at
set_option maxRecDepth 20000 in
theorem ggX5_says_X5_least : GoodIn wsX5_says wsX5_least := goodIn_r _ [16] (by decide +kernel) (by decide +kernel)
set_option maxRecDepth 20000 in
theorem gX5_says_X5_least : GoodIn wsX5_says (va_wsS RX5 103 yX5_least wsX5_least) := goodIn_app (goodIn_of _ (by decide +kernel)) ggX5_says_X5_least
theorem dX5_says_0 : decode cX5_says 0 = .ok (.iconst 0, 1) := by decide +kernel
theorem dX5_says_1 : decode cX5_says 1 = .ok (.istore_n 3, 1) := by decide +kernel
theorem dX5_says_2 : decode cX5_says 2 = .ok (.iload_n 3, 1) := by decide +kernel
theorem dX5_says_3 : decode cX5_says 3 = .ok (.bipush 6, 2) := by decide +kernel
theorem dX5_says_5 : decode cX5_says 5 = .ok (.if_icmp .ge 68, 3) := by decide +kernel
theorem dX5_says_8 : decode cX5_says 8 = .ok (.aload_n 0, 1) := by decide +kernel
theorem dX5_says_9 : decode cX5_says 9 = .ok (.iload_n 1, 1) := by decide +kernel
theorem dX5_says_10 : decode cX5_says 10 = .ok (.iconst 4, 1) := by decide +kernel
theorem dX5_says_11 : decode cX5_says 11 = .ok (.iload_n 3, 1) := by decide +kernel
theorem dX5_says_12 : decode cX5_says 12 = .ok (.iadd, 1) := by decide +kernel
theorem dX5_says_13 : decode cX5_says 13 = .ok (.invokevirtual 69, 3) := by decide +kernel
theorem dX5_says_16 : decode cX5_says 16 = .ok (.aload_n 0, 1) := by decide +kernel
theorem dX5_says_17 : decode cX5_says 17 = .ok (.aload_n 0, 1) := by decide +kernel
theorem dX5_says_18 : decode cX5_says 18 = .ok (.iload_n 1, 1) := by decide +kernel
theorem dX5_says_19 : decode cX5_says 19 = .ok (.iconst 0, 1) := by decide +kernel
theorem dX5_says_20 : decode cX5_says 20 = .ok (.invokevirtual 69, 3) := by decide +kernel
theorem dX5_says_23 : decode cX5_says 23 = .ok (.iload_n 3, 1) := by decide +kernel
theorem dX5_says_24 : decode cX5_says 24 = .ok (.invokevirtual 100, 3) := by decide +kernel
theorem dX5_says_27 : decode cX5_says 27 = .ok (.iadd, 1) := by decide +kernel
theorem dX5_says_28 : decode cX5_says 28 = .ok (.iload_n 2, 1) := by decide +kernel
theorem dX5_says_29 : decode cX5_says 29 = .ok (.ifCond .eq 14, 3) := by decide +kernel
theorem dX5_says_32 : decode cX5_says 32 = .ok (.aload_n 0, 1) := by decide +kernel
theorem dX5_says_33 : decode cX5_says 33 = .ok (.getfield 7, 3) := by decide +kernel
theorem dX5_says_36 : decode cX5_says 36 = .ok (.iconst 4, 1) := by decide +kernel
theorem dX5_says_37 : decode cX5_says 37 = .ok (.iload_n 3, 1) := by decide +kernel
theorem dX5_says_38 : decode cX5_says 38 = .ok (.iadd, 1) := by decide +kernel
theorem dX5_says_39 : decode cX5_says 39 = .ok (.iaload, 1) := by decide +kernel
theorem dX5_says_40 : decode cX5_says 40 = .ok (.goto 4, 3) := by decide +kernel
theorem dX5_says_43 : decode cX5_says 43 = .ok (.iconst 0, 1) := by decide +kernel
theorem dX5_says_44 : decode cX5_says 44 = .ok (.iadd, 1) := by decide +kernel
theorem dX5_says_45 : decode cX5_says 45 = .ok (.istore 4, 2) := by decide +kernel
theorem dX5_says_47 : decode cX5_says 47 = .ok (.aload_n 0, 1) := by decide +kernel
theorem dX5_says_48 : decode cX5_says 48 = .ok (.getfield 7, 3) := by decide +kernel
theorem dX5_says_51 : decode cX5_says 51 = .ok (.iload_n 1, 1) := by decide +kernel
theorem dX5_says_52 : decode cX5_says 52 = .ok (.iconst 4, 1) := by decide +kernel
theorem dX5_says_53 : decode cX5_says 53 = .ok (.iload_n 3, 1) := by decide +kernel
theorem dX5_says_54 : decode cX5_says 54 = .ok (.iadd, 1) := by decide +kernel
theorem dX5_says_55 : decode cX5_says 55 = .ok (.invokestatic 59, 3) := by decide +kernel
theorem dX5_says_58 : decode cX5_says 58 = .ok (.sipush 999, 3) := by decide +kernel
theorem dX5_says_61 : decode cX5_says 61 = .ok (.iload 4, 2) := by decide +kernel
theorem dX5_says_63 : decode cX5_says 63 = .ok (.invokestatic 103, 3) := by decide +kernel
theorem dX5_says_66 : decode cX5_says 66 = .ok (.iastore, 1) := by decide +kernel
theorem dX5_says_67 : decode cX5_says 67 = .ok (.iinc 3 1, 3) := by decide +kernel
theorem dX5_says_70 : decode cX5_says 70 = .ok (.goto (-68), 3) := by decide +kernel
theorem dX5_says_73 : decode cX5_says 73 = .ok (.return_, 1) := by decide +kernel
set_option maxRecDepth 20000 in
theorem ggX5_swallows_X5_its : GoodIn wsX5_swallows wsX5_its := goodIn_r _ [8, 2, 19, 20, 21, 22, 23, 24, 25, 26, 27, 28, 29, 30, 31, 32, 33, 34, 35, 36] (by decide +kernel) (by decide +kernel)
set_option maxRecDepth 20000 in
theorem gX5_swallows_X5_its : GoodIn wsX5_swallows (wsV RX5 69 RX5 yX5_its wsX5_its) := goodIn_app (goodIn_of _ (by decide +kernel)) ggX5_swallows_X5_its
set_option maxRecDepth 20000 in
theorem ggX5_swallows_X5_chewsOf : GoodIn wsX5_swallows wsX5_chewsOf := goodIn_r _ [12, 2, 19, 20, 21, 22, 23, 24, 25, 26, 27, 28, 29, 30, 31, 32, 33, 34, 35, 36] (by decide +kernel) (by decide +kernel)
set_option maxRecDepth 20000 in
theorem gX5_swallows_X5_chewsOf : GoodIn wsX5_swallows (wsV RX5 97 RX5 yX5_chewsOf wsX5_chewsOf) := goodIn_app (goodIn_of _ (by decide +kernel)) ggX5_swallows_X5_chewsOf
set_option maxRecDepth 20000 in
theorem ggX5_swallows_X5_least : GoodIn wsX5_swallows wsX5_least := goodIn_r _ [15] (by decide +kernel) (by decide +kernel)
set_option maxRecDepth 20000 in
theorem gX5_swallows_X5_least : GoodIn wsX5_swallows (va_wsS RX5 103 yX5_least wsX5_least) := goodIn_app (goodIn_of _ (by decide +kernel)) ggX5_swallows_X5_least
set_option maxRecDepth 20000 in
theorem ggX5_swallows_X5_at : GoodIn wsX5_swallows wsX5_at := goodIn_r _ [18] (by decide +kernel) (by decide +kernel)
set_option maxRecDepth 20000 in
theorem gX5_swallows_X5_at : GoodIn wsX5_swallows (va_wsS RX5 59 yX5_at wsX5_at) := goodIn_app (goodIn_of _ (by decide +kernel)) ggX5_swallows_X5_at
theorem dX5_swallows_0 : decode cX5_swallows 0 = .ok (.iconst 0, 1) := by decide +kernel
theorem dX5_swallows_1 : decode cX5_swallows 1 = .ok (.istore_n 3, 1) := by decide +kernel
theorem dX5_swallows_2 : decode cX5_swallows 2 = .ok (.iload_n 3, 1) := by decide +kernel
theorem dX5_swallows_3 : decode cX5_swallows 3 = .ok (.bipush 6, 2) := by decide +kernel
theorem dX5_swallows_5 : decode cX5_swallows 5 = .ok (.if_icmp .ge 102, 3) := by decide +kernel
theorem dX5_swallows_8 : decode cX5_swallows 8 = .ok (.aload_n 0, 1) := by decide +kernel
theorem dX5_swallows_9 : decode cX5_swallows 9 = .ok (.iload_n 2, 1) := by decide +kernel
theorem dX5_swallows_10 : decode cX5_swallows 10 = .ok (.iconst 4, 1) := by decide +kernel
theorem dX5_swallows_11 : decode cX5_swallows 11 = .ok (.iload_n 3, 1) := by decide +kernel
theorem dX5_swallows_12 : decode cX5_swallows 12 = .ok (.iadd, 1) := by decide +kernel
theorem dX5_swallows_13 : decode cX5_swallows 13 = .ok (.invokevirtual 69, 3) := by decide +kernel
theorem dX5_swallows_16 : decode cX5_swallows 16 = .ok (.istore 4, 2) := by decide +kernel
theorem dX5_swallows_18 : decode cX5_swallows 18 = .ok (.aload_n 0, 1) := by decide +kernel
theorem dX5_swallows_19 : decode cX5_swallows 19 = .ok (.iload_n 1, 1) := by decide +kernel
theorem dX5_swallows_20 : decode cX5_swallows 20 = .ok (.iload_n 3, 1) := by decide +kernel
theorem dX5_swallows_21 : decode cX5_swallows 21 = .ok (.invokevirtual 97, 3) := by decide +kernel
theorem dX5_swallows_24 : decode cX5_swallows 24 = .ok (.istore 5, 2) := by decide +kernel
theorem dX5_swallows_26 : decode cX5_swallows 26 = .ok (.iload 5, 2) := by decide +kernel
theorem dX5_swallows_28 : decode cX5_swallows 28 = .ok (.ifCond .ge 7, 3) := by decide +kernel
theorem dX5_swallows_31 : decode cX5_swallows 31 = .ok (.iconst 0, 1) := by decide +kernel
theorem dX5_swallows_32 : decode cX5_swallows 32 = .ok (.goto 25, 3) := by decide +kernel
theorem dX5_swallows_35 : decode cX5_swallows 35 = .ok (.iload 5, 2) := by decide +kernel
theorem dX5_swallows_37 : decode cX5_swallows 37 = .ok (.ifCond .ne 8, 3) := by decide +kernel
theorem dX5_swallows_40 : decode cX5_swallows 40 = .ok (.iload 4, 2) := by decide +kernel
theorem dX5_swallows_42 : decode cX5_swallows 42 = .ok (.goto 15, 3) := by decide +kernel
theorem dX5_swallows_45 : decode cX5_swallows 45 = .ok (.iload 4, 2) := by decide +kernel
theorem dX5_swallows_47 : decode cX5_swallows 47 = .ok (.aload_n 0, 1) := by decide +kernel
theorem dX5_swallows_48 : decode cX5_swallows 48 = .ok (.getfield 106, 3) := by decide +kernel
theorem dX5_swallows_51 : decode cX5_swallows 51 = .ok (.iload 5, 2) := by decide +kernel
theorem dX5_swallows_53 : decode cX5_swallows 53 = .ok (.idiv, 1) := by decide +kernel
theorem dX5_swallows_54 : decode cX5_swallows 54 = .ok (.invokestatic 103, 3) := by decide +kernel
theorem dX5_swallows_57 : decode cX5_swallows 57 = .ok (.istore 6, 2) := by decide +kernel
theorem dX5_swallows_59 : decode cX5_swallows 59 = .ok (.aload_n 0, 1) := by decide +kernel
theorem dX5_swallows_60 : decode cX5_swallows 60 = .ok (.getfield 7, 3) := by decide +kernel
theorem dX5_swallows_63 : decode cX5_swallows 63 = .ok (.iload_n 2, 1) := by decide +kernel
theorem dX5_swallows_64 : decode cX5_swallows 64 = .ok (.iconst 4, 1) := by decide +kernel
theorem dX5_swallows_65 : decode cX5_swallows 65 = .ok (.iload_n 3, 1) := by decide +kernel
theorem dX5_swallows_66 : decode cX5_swallows 66 = .ok (.iadd, 1) := by decide +kernel
theorem dX5_swallows_67 : decode cX5_swallows 67 = .ok (.invokestatic 59, 3) := by decide +kernel
theorem dX5_swallows_70 : decode cX5_swallows 70 = .ok (.iload 4, 2) := by decide +kernel
theorem dX5_swallows_72 : decode cX5_swallows 72 = .ok (.iload 6, 2) := by decide +kernel
theorem dX5_swallows_74 : decode cX5_swallows 74 = .ok (.isub, 1) := by decide +kernel
theorem dX5_swallows_75 : decode cX5_swallows 75 = .ok (.iastore, 1) := by decide +kernel
theorem dX5_swallows_76 : decode cX5_swallows 76 = .ok (.aload_n 0, 1) := by decide +kernel
theorem dX5_swallows_77 : decode cX5_swallows 77 = .ok (.dup, 1) := by decide +kernel
theorem dX5_swallows_78 : decode cX5_swallows 78 = .ok (.getfield 106, 3) := by decide +kernel
theorem dX5_swallows_81 : decode cX5_swallows 81 = .ok (.iload 6, 2) := by decide +kernel
theorem dX5_swallows_83 : decode cX5_swallows 83 = .ok (.iload 5, 2) := by decide +kernel
theorem dX5_swallows_85 : decode cX5_swallows 85 = .ok (.imul, 1) := by decide +kernel
theorem dX5_swallows_86 : decode cX5_swallows 86 = .ok (.isub, 1) := by decide +kernel
theorem dX5_swallows_87 : decode cX5_swallows 87 = .ok (.putfield 106, 3) := by decide +kernel
theorem dX5_swallows_90 : decode cX5_swallows 90 = .ok (.aload_n 0, 1) := by decide +kernel
theorem dX5_swallows_91 : decode cX5_swallows 91 = .ok (.dup, 1) := by decide +kernel
theorem dX5_swallows_92 : decode cX5_swallows 92 = .ok (.getfield 110, 3) := by decide +kernel
theorem dX5_swallows_95 : decode cX5_swallows 95 = .ok (.iload 6, 2) := by decide +kernel
theorem dX5_swallows_97 : decode cX5_swallows 97 = .ok (.iadd, 1) := by decide +kernel
theorem dX5_swallows_98 : decode cX5_swallows 98 = .ok (.putfield 110, 3) := by decide +kernel
theorem dX5_swallows_101 : decode cX5_swallows 101 = .ok (.iinc 3 1, 3) := by decide +kernel
theorem dX5_swallows_104 : decode cX5_swallows 104 = .ok (.goto (-102), 3) := by decide +kernel
theorem dX5_swallows_107 : decode cX5_swallows 107 = .ok (.return_, 1) := by decide +kernel
set_option maxRecDepth 20000 in
theorem ggX5_sups_X5_appetite : GoodIn wsX5_sups wsX5_appetite := goodIn_r _ [9, 3, 10, 11, 12, 8, 13, 14, 15, 16, 17, 18, 19, 20, 35, 36, 37, 38, 39, 40, 41, 42, 43, 44, 45, 46, 47, 48, 49, 50, 51, 52] (by decide +kernel) (by decide +kernel)
set_option maxRecDepth 20000 in
theorem gX5_sups_X5_appetite : GoodIn wsX5_sups (wsV RX5 81 RX5 yX5_appetite wsX5_appetite) := goodIn_app (goodIn_of _ (by decide +kernel)) ggX5_sups_X5_appetite
set_option maxRecDepth 20000 in
theorem ggX5_sups_X5_its : GoodIn wsX5_sups wsX5_its := goodIn_r _ [13, 3, 35, 36, 37, 38, 39, 40, 41, 42, 43, 44, 45, 46, 47, 48, 49, 50, 51, 52] (by decide +kernel) (by decide +kernel)
set_option maxRecDepth 20000 in
theorem gX5_sups_X5_its : GoodIn wsX5_sups (wsV RX5 69 RX5 yX5_its wsX5_its) := goodIn_app (goodIn_of _ (by decide +kernel)) ggX5_sups_X5_its
set_option maxRecDepth 20000 in
theorem ggX5_sups_X5_swallows : GoodIn wsX5_sups wsX5_swallows := goodIn_r _ [24, 1, 3, 2, 10, 11, 12, 8, 13, 25, 26, 27, 28, 29, 30, 31, 32, 33, 34, 35, 36, 37, 38, 39, 40, 41, 42, 43, 44, 45, 46, 47, 48, 49, 50, 51, 52] (by decide +kernel) (by decide +kernel)
set_option maxRecDepth 20000 in
theorem gX5_sups_X5_swallows : GoodIn wsX5_sups (wsV RX5 113 RX5 yX5_swallows wsX5_swallows) := goodIn_app (goodIn_of _ (by decide +kernel)) ggX5_sups_X5_swallows
set_option maxRecDepth 20000 in
theorem ggX5_sups_X5_at : GoodIn wsX5_sups wsX5_at := goodIn_r _ [34] (by decide +kernel) (by decide +kernel)
set_option maxRecDepth 20000 in
theorem gX5_sups_X5_at : GoodIn wsX5_sups (va_wsS RX5 59 yX5_at wsX5_at) := goodIn_app (goodIn_of _ (by decide +kernel)) ggX5_sups_X5_at
set_option maxRecDepth 20000 in
theorem ggX5_sups_X5_least : GoodIn wsX5_sups wsX5_least := goodIn_r _ [31] (by decide +kernel) (by decide +kernel)
set_option maxRecDepth 20000 in
theorem gX5_sups_X5_least : GoodIn wsX5_sups (va_wsS RX5 103 yX5_least wsX5_least) := goodIn_app (goodIn_of _ (by decide +kernel)) ggX5_sups_X5_least
set_option maxRecDepth 20000 in
theorem ggX5_sups_X5_greatest : GoodIn wsX5_sups wsX5_greatest := goodIn_r _ [20] (by decide +kernel) (by decide +kernel)
set_option maxRecDepth 20000 in
theorem gX5_sups_X5_greatest : GoodIn wsX5_sups (va_wsS RX5 75 yX5_greatest wsX5_greatest) := goodIn_app (goodIn_of _ (by decide +kernel)) ggX5_sups_X5_greatest
theorem dX5_sups_0 : decode cX5_sups 0 = .ok (.aload_n 0, 1) := by decide +kernel
theorem dX5_sups_1 : decode cX5_sups 1 = .ok (.aload_n 0, 1) := by decide +kernel
theorem dX5_sups_2 : decode cX5_sups 2 = .ok (.iload_n 1, 1) := by decide +kernel
theorem dX5_sups_3 : decode cX5_sups 3 = .ok (.invokevirtual 81, 3) := by decide +kernel
theorem dX5_sups_6 : decode cX5_sups 6 = .ok (.putfield 106, 3) := by decide +kernel
theorem dX5_sups_9 : decode cX5_sups 9 = .ok (.aload_n 0, 1) := by decide +kernel
theorem dX5_sups_10 : decode cX5_sups 10 = .ok (.iconst 0, 1) := by decide +kernel
theorem dX5_sups_11 : decode cX5_sups 11 = .ok (.putfield 110, 3) := by decide +kernel
theorem dX5_sups_14 : decode cX5_sups 14 = .ok (.aload_n 0, 1) := by decide +kernel
theorem dX5_sups_15 : decode cX5_sups 15 = .ok (.aload_n 0, 1) := by decide +kernel
theorem dX5_sups_16 : decode cX5_sups 16 = .ok (.iload_n 1, 1) := by decide +kernel
theorem dX5_sups_17 : decode cX5_sups 17 = .ok (.iconst 0, 1) := by decide +kernel
theorem dX5_sups_18 : decode cX5_sups 18 = .ok (.invokevirtual 69, 3) := by decide +kernel
theorem dX5_sups_21 : decode cX5_sups 21 = .ok (.iload_n 1, 1) := by decide +kernel
theorem dX5_sups_22 : decode cX5_sups 22 = .ok (.invokevirtual 113, 3) := by decide +kernel
theorem dX5_sups_25 : decode cX5_sups 25 = .ok (.aload_n 0, 1) := by decide +kernel
theorem dX5_sups_26 : decode cX5_sups 26 = .ok (.iload_n 1, 1) := by decide +kernel
theorem dX5_sups_27 : decode cX5_sups 27 = .ok (.iconst 1, 1) := by decide +kernel
theorem dX5_sups_28 : decode cX5_sups 28 = .ok (.invokevirtual 69, 3) := by decide +kernel
theorem dX5_sups_31 : decode cX5_sups 31 = .ok (.ifCond .lt 19, 3) := by decide +kernel
theorem dX5_sups_34 : decode cX5_sups 34 = .ok (.aload_n 0, 1) := by decide +kernel
theorem dX5_sups_35 : decode cX5_sups 35 = .ok (.aload_n 0, 1) := by decide +kernel
theorem dX5_sups_36 : decode cX5_sups 36 = .ok (.iload_n 1, 1) := by decide +kernel
theorem dX5_sups_37 : decode cX5_sups 37 = .ok (.iconst 0, 1) := by decide +kernel
theorem dX5_sups_38 : decode cX5_sups 38 = .ok (.invokevirtual 69, 3) := by decide +kernel
theorem dX5_sups_41 : decode cX5_sups 41 = .ok (.aload_n 0, 1) := by decide +kernel
theorem dX5_sups_42 : decode cX5_sups 42 = .ok (.iload_n 1, 1) := by decide +kernel
theorem dX5_sups_43 : decode cX5_sups 43 = .ok (.iconst 1, 1) := by decide +kernel
theorem dX5_sups_44 : decode cX5_sups 44 = .ok (.invokevirtual 69, 3) := by decide +kernel
theorem dX5_sups_47 : decode cX5_sups 47 = .ok (.invokevirtual 113, 3) := by decide +kernel
theorem dX5_sups_50 : decode cX5_sups 50 = .ok (.aload_n 0, 1) := by decide +kernel
theorem dX5_sups_51 : decode cX5_sups 51 = .ok (.getfield 7, 3) := by decide +kernel
theorem dX5_sups_54 : decode cX5_sups 54 = .ok (.iload_n 1, 1) := by decide +kernel
theorem dX5_sups_55 : decode cX5_sups 55 = .ok (.iconst 2, 1) := by decide +kernel
theorem dX5_sups_56 : decode cX5_sups 56 = .ok (.invokestatic 59, 3) := by decide +kernel
theorem dX5_sups_59 : decode cX5_sups 59 = .ok (.iconst 0, 1) := by decide +kernel
theorem dX5_sups_60 : decode cX5_sups 60 = .ok (.bipush 99, 2) := by decide +kernel
theorem dX5_sups_62 : decode cX5_sups 62 = .ok (.aload_n 0, 1) := by decide +kernel
theorem dX5_sups_63 : decode cX5_sups 63 = .ok (.iload_n 1, 1) := by decide +kernel
theorem dX5_sups_64 : decode cX5_sups 64 = .ok (.iconst 2, 1) := by decide +kernel
theorem dX5_sups_65 : decode cX5_sups 65 = .ok (.invokevirtual 69, 3) := by decide +kernel
theorem dX5_sups_68 : decode cX5_sups 68 = .ok (.aload_n 0, 1) := by decide +kernel
theorem dX5_sups_69 : decode cX5_sups 69 = .ok (.getfield 110, 3) := by decide +kernel
theorem dX5_sups_72 : decode cX5_sups 72 = .ok (.iconst 4, 1) := by decide +kernel
theorem dX5_sups_73 : decode cX5_sups 73 = .ok (.idiv, 1) := by decide +kernel
theorem dX5_sups_74 : decode cX5_sups 74 = .ok (.iadd, 1) := by decide +kernel
theorem dX5_sups_75 : decode cX5_sups 75 = .ok (.invokestatic 103, 3) := by decide +kernel
theorem dX5_sups_78 : decode cX5_sups 78 = .ok (.iconst 2, 1) := by decide +kernel
theorem dX5_sups_79 : decode cX5_sups 79 = .ok (.isub, 1) := by decide +kernel
theorem dX5_sups_80 : decode cX5_sups 80 = .ok (.invokestatic 75, 3) := by decide +kernel
theorem dX5_sups_83 : decode cX5_sups 83 = .ok (.iastore, 1) := by decide +kernel
theorem dX5_sups_84 : decode cX5_sups 84 = .ok (.aload_n 0, 1) := by decide +kernel
theorem dX5_sups_85 : decode cX5_sups 85 = .ok (.getfield 7, 3) := by decide +kernel
theorem dX5_sups_88 : decode cX5_sups 88 = .ok (.iload_n 1, 1) := by decide +kernel
theorem dX5_sups_89 : decode cX5_sups 89 = .ok (.iconst 3, 1) := by decide +kernel
theorem dX5_sups_90 : decode cX5_sups 90 = .ok (.invokestatic 59, 3) := by decide +kernel
theorem dX5_sups_93 : decode cX5_sups 93 = .ok (.ldc 117, 2) := by decide +kernel
theorem dX5_sups_95 : decode cX5_sups 95 = .ok (.aload_n 0, 1) := by decide +kernel
theorem dX5_sups_96 : decode cX5_sups 96 = .ok (.iload_n 1, 1) := by decide +kernel
theorem dX5_sups_97 : decode cX5_sups 97 = .ok (.iconst 3, 1) := by decide +kernel
theorem dX5_sups_98 : decode cX5_sups 98 = .ok (.invokevirtual 69, 3) := by decide +kernel
theorem dX5_sups_101 : decode cX5_sups 101 = .ok (.aload_n 0, 1) := by decide +kernel
theorem dX5_sups_102 : decode cX5_sups 102 = .ok (.getfield 110, 3) := by decide +kernel
theorem dX5_sups_105 : decode cX5_sups 105 = .ok (.iadd, 1) := by decide +kernel
theorem dX5_sups_106 : decode cX5_sups 106 = .ok (.invokestatic 103, 3) := by decide +kernel
theorem dX5_sups_109 : decode cX5_sups 109 = .ok (.iastore, 1) := by decide +kernel
theorem dX5_sups_110 : decode cX5_sups 110 = .ok (.return_, 1) := by decide +kernel
set_option maxRecDepth 20000 in
theorem ggX5_dayBut_X5_says : GoodIn wsX5_dayBut wsX5_says := goodIn_r _ [6, 1, 7, 8, 9, 5, 10, 11, 12, 13, 14, 15, 16, 17, 18, 19, 20, 47, 48, 49, 50, 51, 52, 53, 54, 55, 56, 57, 58, 59, 60, 61, 62, 63, 64] (by decide +kernel) (by decide +kernel)
set_option maxRecDepth 20000 in
theorem gX5_dayBut_X5_says : GoodIn wsX5_dayBut (wsV RX5 118 RX5 yX5_says wsX5_says) := goodIn_app (goodIn_of _ (by decide +kernel)) ggX5_dayBut_X5_says
set_option maxRecDepth 20000 in
theorem ggX5_dayBut_X5_sups : GoodIn wsX5_dayBut wsX5_sups := goodIn_r _ [24, 25, 26, 1, 27, 28, 29, 30, 5, 31, 7, 8, 9, 10, 32, 33, 34, 35, 36, 37, 38, 39, 40, 41, 42, 43, 44, 45, 46, 18, 19, 20, 15, 16, 17, 47, 48, 49, 50, 51, 52, 53, 54, 55, 56, 57, 58, 59, 60, 61, 62, 63, 64] (by decide +kernel) (by decide +kernel)
set_option maxRecDepth 20000 in
theorem gX5_dayBut_X5_sups : GoodIn wsX5_dayBut (wsV RX5 122 RX5 yX5_sups wsX5_sups) := goodIn_app (goodIn_of _ (by decide +kernel)) ggX5_dayBut_X5_sups
theorem dX5_dayBut_0 : decode cX5_dayBut 0 = .ok (.iconst 0, 1) := by decide +kernel
theorem dX5_dayBut_1 : decode cX5_dayBut 1 = .ok (.istore_n 2, 1) := by decide +kernel
theorem dX5_dayBut_2 : decode cX5_dayBut 2 = .ok (.iload_n 2, 1) := by decide +kernel
theorem dX5_dayBut_3 : decode cX5_dayBut 3 = .ok (.aload_n 0, 1) := by decide +kernel
theorem dX5_dayBut_4 : decode cX5_dayBut 4 = .ok (.getfield 7, 3) := by decide +kernel
theorem dX5_dayBut_7 : decode cX5_dayBut 7 = .ok (.iconst 0, 1) := by decide +kernel
theorem dX5_dayBut_8 : decode cX5_dayBut 8 = .ok (.iaload, 1) := by decide +kernel
theorem dX5_dayBut_9 : decode cX5_dayBut 9 = .ok (.if_icmp .ge 40, 3) := by decide +kernel
theorem dX5_dayBut_12 : decode cX5_dayBut 12 = .ok (.iload_n 1, 1) := by decide +kernel
theorem dX5_dayBut_13 : decode cX5_dayBut 13 = .ok (.iload_n 2, 1) := by decide +kernel
theorem dX5_dayBut_14 : decode cX5_dayBut 14 = .ok (.ishr, 1) := by decide +kernel
theorem dX5_dayBut_15 : decode cX5_dayBut 15 = .ok (.iconst 1, 1) := by decide +kernel
theorem dX5_dayBut_16 : decode cX5_dayBut 16 = .ok (.iand, 1) := by decide +kernel
theorem dX5_dayBut_17 : decode cX5_dayBut 17 = .ok (.ifCond .ne 26, 3) := by decide +kernel
theorem dX5_dayBut_20 : decode cX5_dayBut 20 = .ok (.aload_n 0, 1) := by decide +kernel
theorem dX5_dayBut_21 : decode cX5_dayBut 21 = .ok (.iload_n 2, 1) := by decide +kernel
theorem dX5_dayBut_22 : decode cX5_dayBut 22 = .ok (.iload_n 2, 1) := by decide +kernel
theorem dX5_dayBut_23 : decode cX5_dayBut 23 = .ok (.aload_n 0, 1) := by decide +kernel
theorem dX5_dayBut_24 : decode cX5_dayBut 24 = .ok (.getfield 7, 3) := by decide +kernel
theorem dX5_dayBut_27 : decode cX5_dayBut 27 = .ok (.iconst 1, 1) := by decide +kernel
theorem dX5_dayBut_28 : decode cX5_dayBut 28 = .ok (.iaload, 1) := by decide +kernel
theorem dX5_dayBut_29 : decode cX5_dayBut 29 = .ok (.bipush 8, 2) := by decide +kernel
theorem dX5_dayBut_31 : decode cX5_dayBut 31 = .ok (.irem, 1) := by decide +kernel
theorem dX5_dayBut_32 : decode cX5_dayBut 32 = .ok (.if_icmp .ne 7, 3) := by decide +kernel
theorem dX5_dayBut_35 : decode cX5_dayBut 35 = .ok (.iconst 1, 1) := by decide +kernel
theorem dX5_dayBut_36 : decode cX5_dayBut 36 = .ok (.goto 4, 3) := by decide +kernel
theorem dX5_dayBut_39 : decode cX5_dayBut 39 = .ok (.iconst 0, 1) := by decide +kernel
theorem dX5_dayBut_40 : decode cX5_dayBut 40 = .ok (.invokevirtual 118, 3) := by decide +kernel
theorem dX5_dayBut_43 : decode cX5_dayBut 43 = .ok (.iinc 2 1, 3) := by decide +kernel
theorem dX5_dayBut_46 : decode cX5_dayBut 46 = .ok (.goto (-44), 3) := by decide +kernel
theorem dX5_dayBut_49 : decode cX5_dayBut 49 = .ok (.iconst 0, 1) := by decide +kernel
theorem dX5_dayBut_50 : decode cX5_dayBut 50 = .ok (.istore_n 2, 1) := by decide +kernel
theorem dX5_dayBut_51 : decode cX5_dayBut 51 = .ok (.iload_n 2, 1) := by decide +kernel
theorem dX5_dayBut_52 : decode cX5_dayBut 52 = .ok (.aload_n 0, 1) := by decide +kernel
theorem dX5_dayBut_53 : decode cX5_dayBut 53 = .ok (.getfield 7, 3) := by decide +kernel
theorem dX5_dayBut_56 : decode cX5_dayBut 56 = .ok (.iconst 0, 1) := by decide +kernel
theorem dX5_dayBut_57 : decode cX5_dayBut 57 = .ok (.iaload, 1) := by decide +kernel
theorem dX5_dayBut_58 : decode cX5_dayBut 58 = .ok (.if_icmp .ge 14, 3) := by decide +kernel
theorem dX5_dayBut_61 : decode cX5_dayBut 61 = .ok (.aload_n 0, 1) := by decide +kernel
theorem dX5_dayBut_62 : decode cX5_dayBut 62 = .ok (.iload_n 2, 1) := by decide +kernel
theorem dX5_dayBut_63 : decode cX5_dayBut 63 = .ok (.invokevirtual 122, 3) := by decide +kernel
theorem dX5_dayBut_66 : decode cX5_dayBut 66 = .ok (.iinc 2 1, 3) := by decide +kernel
theorem dX5_dayBut_69 : decode cX5_dayBut 69 = .ok (.goto (-18), 3) := by decide +kernel
theorem dX5_dayBut_72 : decode cX5_dayBut 72 = .ok (.aload_n 0, 1) := by decide +kernel
theorem dX5_dayBut_73 : decode cX5_dayBut 73 = .ok (.getfield 7, 3) := by decide +kernel
theorem dX5_dayBut_76 : decode cX5_dayBut 76 = .ok (.iconst 1, 1) := by decide +kernel
theorem dX5_dayBut_77 : decode cX5_dayBut 77 = .ok (.dup2, 1) := by decide +kernel
theorem dX5_dayBut_78 : decode cX5_dayBut 78 = .ok (.iaload, 1) := by decide +kernel
theorem dX5_dayBut_79 : decode cX5_dayBut 79 = .ok (.iconst 1, 1) := by decide +kernel
theorem dX5_dayBut_80 : decode cX5_dayBut 80 = .ok (.iadd, 1) := by decide +kernel
theorem dX5_dayBut_81 : decode cX5_dayBut 81 = .ok (.iastore, 1) := by decide +kernel
theorem dX5_dayBut_82 : decode cX5_dayBut 82 = .ok (.return_, 1) := by decide +kernel
set_option maxRecDepth 20000 in
theorem ggX5_goes_X5_dayBut : GoodIn wsX5_goes wsX5_dayBut := goodIn_r _ [5, 6, 7, 8, 9, 4, 10, 11, 12, 13, 14, 15, 16, 17, 18, 19, 20, 21, 22, 23, 24, 25, 26, 27, 28, 29, 30, 31, 32, 33, 34, 35, 36, 37, 38, 39, 40, 41, 42, 43, 44, 45, 46, 47, 48, 49, 50, 51, 52, 53, 54, 55, 56, 57, 58, 59, 60, 61, 62, 63, 64, 65, 66, 67, 68] (by decide +kernel) (by decide +kernel)
set_option maxRecDepth 20000 in
theorem gX5_goes_X5_dayBut : GoodIn wsX5_goes (wsV RX5 125 RX5 yX5_dayBut wsX5_dayBut) := goodIn_app (goodIn_of _ (by decide +kernel)) ggX5_goes_X5_dayBut
theorem dX5_goes_0 : decode cX5_goes 0 = .ok (.iconst 0, 1) := by decide +kernel
theorem dX5_goes_1 : decode cX5_goes 1 = .ok (.istore_n 2, 1) := by decide +kernel
theorem dX5_goes_2 : decode cX5_goes 2 = .ok (.iload_n 2, 1) := by decide +kernel
theorem dX5_goes_3 : decode cX5_goes 3 = .ok (.iload_n 1, 1) := by decide +kernel
theorem dX5_goes_4 : decode cX5_goes 4 = .ok (.if_icmp .ge 14, 3) := by decide +kernel
theorem dX5_goes_7 : decode cX5_goes 7 = .ok (.aload_n 0, 1) := by decide +kernel
theorem dX5_goes_8 : decode cX5_goes 8 = .ok (.iconst 0, 1) := by decide +kernel
theorem dX5_goes_9 : decode cX5_goes 9 = .ok (.invokevirtual 125, 3) := by decide +kernel
theorem dX5_goes_12 : decode cX5_goes 12 = .ok (.iinc 2 1, 3) := by decide +kernel
theorem dX5_goes_15 : decode cX5_goes 15 = .ok (.goto (-13), 3) := by decide +kernel
theorem dX5_goes_18 : decode cX5_goes 18 = .ok (.return_, 1) := by decide +kernel
set_option maxRecDepth 20000 in
theorem ggX5_leftAll_X5_left : GoodIn wsX5_leftAll wsX5_left := goodIn_r _ [6, 7, 8, 9, 5, 10, 1, 11, 12, 13, 14, 15, 16, 17, 18, 19, 20, 21, 22, 23, 24, 25, 26, 27, 28] (by decide +kernel) (by decide +kernel)
set_option maxRecDepth 20000 in
theorem gX5_leftAll_X5_left : GoodIn wsX5_leftAll (wsV RX5 72 RX5 yX5_left wsX5_left) := goodIn_app (goodIn_of _ (by decide +kernel)) ggX5_leftAll_X5_left
theorem dX5_leftAll_0 : decode cX5_leftAll 0 = .ok (.iconst 0, 1) := by decide +kernel
theorem dX5_leftAll_1 : decode cX5_leftAll 1 = .ok (.istore_n 1, 1) := by decide +kernel
theorem dX5_leftAll_2 : decode cX5_leftAll 2 = .ok (.iconst 0, 1) := by decide +kernel
theorem dX5_leftAll_3 : decode cX5_leftAll 3 = .ok (.istore_n 2, 1) := by decide +kernel
theorem dX5_leftAll_4 : decode cX5_leftAll 4 = .ok (.iload_n 2, 1) := by decide +kernel
theorem dX5_leftAll_5 : decode cX5_leftAll 5 = .ok (.aload_n 0, 1) := by decide +kernel
theorem dX5_leftAll_6 : decode cX5_leftAll 6 = .ok (.getfield 7, 3) := by decide +kernel
theorem dX5_leftAll_9 : decode cX5_leftAll 9 = .ok (.iconst 0, 1) := by decide +kernel
theorem dX5_leftAll_10 : decode cX5_leftAll 10 = .ok (.iaload, 1) := by decide +kernel
theorem dX5_leftAll_11 : decode cX5_leftAll 11 = .ok (.if_icmp .ge 17, 3) := by decide +kernel
theorem dX5_leftAll_14 : decode cX5_leftAll 14 = .ok (.iload_n 1, 1) := by decide +kernel
theorem dX5_leftAll_15 : decode cX5_leftAll 15 = .ok (.aload_n 0, 1) := by decide +kernel
theorem dX5_leftAll_16 : decode cX5_leftAll 16 = .ok (.iload_n 2, 1) := by decide +kernel
theorem dX5_leftAll_17 : decode cX5_leftAll 17 = .ok (.invokevirtual 72, 3) := by decide +kernel
theorem dX5_leftAll_20 : decode cX5_leftAll 20 = .ok (.iadd, 1) := by decide +kernel
theorem dX5_leftAll_21 : decode cX5_leftAll 21 = .ok (.istore_n 1, 1) := by decide +kernel
theorem dX5_leftAll_22 : decode cX5_leftAll 22 = .ok (.iinc 2 1, 3) := by decide +kernel
theorem dX5_leftAll_25 : decode cX5_leftAll 25 = .ok (.goto (-21), 3) := by decide +kernel
theorem dX5_leftAll_28 : decode cX5_leftAll 28 = .ok (.iload_n 1, 1) := by decide +kernel
theorem dX5_leftAll_29 : decode cX5_leftAll 29 = .ok (.ireturn, 1) := by decide +kernel
set_option maxRecDepth 20000 in
theorem ggX5_sumOf_X5_its : GoodIn wsX5_sumOf wsX5_its := goodIn_r _ [6, 1, 7, 8, 9, 10, 11, 12, 13, 14, 15, 16, 17, 18, 19, 20, 21, 22, 23, 24] (by decide +kernel) (by decide +kernel)
set_option maxRecDepth 20000 in
theorem gX5_sumOf_X5_its : GoodIn wsX5_sumOf (wsV RX5 69 RX5 yX5_its wsX5_its) := goodIn_app (goodIn_of _ (by decide +kernel)) ggX5_sumOf_X5_its
theorem dX5_sumOf_0 : decode cX5_sumOf 0 = .ok (.iconst 0, 1) := by decide +kernel
theorem dX5_sumOf_1 : decode cX5_sumOf 1 = .ok (.istore_n 2, 1) := by decide +kernel
theorem dX5_sumOf_2 : decode cX5_sumOf 2 = .ok (.iconst 0, 1) := by decide +kernel
theorem dX5_sumOf_3 : decode cX5_sumOf 3 = .ok (.istore_n 3, 1) := by decide +kernel
theorem dX5_sumOf_4 : decode cX5_sumOf 4 = .ok (.iload_n 3, 1) := by decide +kernel
theorem dX5_sumOf_5 : decode cX5_sumOf 5 = .ok (.aload_n 0, 1) := by decide +kernel
theorem dX5_sumOf_6 : decode cX5_sumOf 6 = .ok (.getfield 7, 3) := by decide +kernel
theorem dX5_sumOf_9 : decode cX5_sumOf 9 = .ok (.iconst 0, 1) := by decide +kernel
theorem dX5_sumOf_10 : decode cX5_sumOf 10 = .ok (.iaload, 1) := by decide +kernel
theorem dX5_sumOf_11 : decode cX5_sumOf 11 = .ok (.if_icmp .ge 18, 3) := by decide +kernel
theorem dX5_sumOf_14 : decode cX5_sumOf 14 = .ok (.iload_n 2, 1) := by decide +kernel
theorem dX5_sumOf_15 : decode cX5_sumOf 15 = .ok (.aload_n 0, 1) := by decide +kernel
theorem dX5_sumOf_16 : decode cX5_sumOf 16 = .ok (.iload_n 3, 1) := by decide +kernel
theorem dX5_sumOf_17 : decode cX5_sumOf 17 = .ok (.iload_n 1, 1) := by decide +kernel
theorem dX5_sumOf_18 : decode cX5_sumOf 18 = .ok (.invokevirtual 69, 3) := by decide +kernel
theorem dX5_sumOf_21 : decode cX5_sumOf 21 = .ok (.iadd, 1) := by decide +kernel
theorem dX5_sumOf_22 : decode cX5_sumOf 22 = .ok (.istore_n 2, 1) := by decide +kernel
theorem dX5_sumOf_23 : decode cX5_sumOf 23 = .ok (.iinc 3 1, 3) := by decide +kernel
theorem dX5_sumOf_26 : decode cX5_sumOf 26 = .ok (.goto (-22), 3) := by decide +kernel
theorem dX5_sumOf_29 : decode cX5_sumOf 29 = .ok (.iload_n 2, 1) := by decide +kernel
theorem dX5_sumOf_30 : decode cX5_sumOf 30 = .ok (.ireturn, 1) := by decide +kernel
set_option maxRecDepth 20000 in
theorem ggX5_go_X5_isIn : GoodIn wsX5_go wsX5_isIn := goodIn_r _ [9] (by decide +kernel) (by decide +kernel)
set_option maxRecDepth 20000 in
theorem gX5_go_X5_isIn : GoodIn wsX5_go (va_wsS RX5 45 yX5_isIn wsX5_isIn) := goodIn_app (goodIn_of _ (by decide +kernel)) ggX5_go_X5_isIn
set_option maxRecDepth 20000 in
theorem ggX5_go_X5_finds : GoodIn wsX5_go wsX5_finds := goodIn_r _ [13, 14, 2, 70, 71, 72, 73, 74, 75, 76, 77, 78, 79, 80, 81, 82, 83, 84, 85, 86, 87] (by decide +kernel) (by decide +kernel)
set_option maxRecDepth 20000 in
theorem gX5_go_X5_finds : GoodIn wsX5_go (wsV RX5 39 RX5 yX5_finds wsX5_finds) := goodIn_app (goodIn_of _ (by decide +kernel)) ggX5_go_X5_finds
set_option maxRecDepth 20000 in
theorem ggX5_go_X5_goes : GoodIn wsX5_go wsX5_goes := goodIn_r _ [18, 19, 20, 21, 8, 22, 3, 23, 24, 25, 26, 27, 28, 29, 30, 31, 32, 33, 34, 35, 36, 37, 38, 39, 40, 41, 42, 43, 44, 45, 46, 4, 47, 48, 49, 50, 51, 52, 53, 54, 55, 56, 57, 58, 59, 60, 61, 62, 63, 64, 65, 70, 71, 72, 73, 74, 75, 76, 77, 78, 79, 80, 81, 82, 83, 84, 85, 86, 87] (by decide +kernel) (by decide +kernel)
set_option maxRecDepth 20000 in
theorem gX5_go_X5_goes : GoodIn wsX5_go (wsV RX5 131 RX5 yX5_goes wsX5_goes) := goodIn_app (goodIn_of _ (by decide +kernel)) ggX5_go_X5_goes
set_option maxRecDepth 20000 in
theorem ggX5_go_X5_leftAll : GoodIn wsX5_go wsX5_leftAll := goodIn_r _ [69, 3, 51, 52, 53, 8, 54, 27, 28, 29, 30, 70, 71, 72, 73, 74, 75, 76, 77, 78, 79, 80, 81, 82, 83, 84, 85, 86, 87] (by decide +kernel) (by decide +kernel)
set_option maxRecDepth 20000 in
theorem gX5_go_X5_leftAll : GoodIn wsX5_go (wsV RX5 134 RX5 yX5_leftAll wsX5_leftAll) := goodIn_app (goodIn_of _ (by decide +kernel)) ggX5_go_X5_leftAll
theorem dX5_go_0 : decode cX5_go 0 = .ok (.iload_n 1, 1) := by decide +kernel
theorem dX5_go_1 : decode cX5_go 1 = .ok (.i2l, 1) := by decide +kernel
theorem dX5_go_2 : decode cX5_go 2 = .ok (.lconst 1, 1) := by decide +kernel
theorem dX5_go_3 : decode cX5_go 3 = .ok (.ldc2_w 128, 3) := by decide +kernel
theorem dX5_go_6 : decode cX5_go 6 = .ok (.invokestatic 45, 3) := by decide +kernel
theorem dX5_go_9 : decode cX5_go 9 = .ok (.ifCond .ne 10, 3) := by decide +kernel
theorem dX5_go_12 : decode cX5_go 12 = .ok (.aload_n 0, 1) := by decide +kernel
theorem dX5_go_13 : decode cX5_go 13 = .ok (.ldc 37, 2) := by decide +kernel
theorem dX5_go_15 : decode cX5_go 15 = .ok (.invokevirtual 39, 3) := by decide +kernel
theorem dX5_go_18 : decode cX5_go 18 = .ok (.ireturn, 1) := by decide +kernel
theorem dX5_go_19 : decode cX5_go 19 = .ok (.aload_n 0, 1) := by decide +kernel
theorem dX5_go_20 : decode cX5_go 20 = .ok (.getfield 7, 3) := by decide +kernel
theorem dX5_go_23 : decode cX5_go 23 = .ok (.iconst 1, 1) := by decide +kernel
theorem dX5_go_24 : decode cX5_go 24 = .ok (.iaload, 1) := by decide +kernel
theorem dX5_go_25 : decode cX5_go 25 = .ok (.iload_n 1, 1) := by decide +kernel
theorem dX5_go_26 : decode cX5_go 26 = .ok (.iadd, 1) := by decide +kernel
theorem dX5_go_27 : decode cX5_go 27 = .ok (.ldc 117, 2) := by decide +kernel
theorem dX5_go_29 : decode cX5_go 29 = .ok (.if_icmp .le 10, 3) := by decide +kernel
theorem dX5_go_32 : decode cX5_go 32 = .ok (.aload_n 0, 1) := by decide +kernel
theorem dX5_go_33 : decode cX5_go 33 = .ok (.ldc 130, 2) := by decide +kernel
theorem dX5_go_35 : decode cX5_go 35 = .ok (.invokevirtual 39, 3) := by decide +kernel
theorem dX5_go_38 : decode cX5_go 38 = .ok (.ireturn, 1) := by decide +kernel
theorem dX5_go_39 : decode cX5_go 39 = .ok (.aload_n 0, 1) := by decide +kernel
theorem dX5_go_40 : decode cX5_go 40 = .ok (.iload_n 1, 1) := by decide +kernel
theorem dX5_go_41 : decode cX5_go 41 = .ok (.invokevirtual 131, 3) := by decide +kernel
theorem dX5_go_44 : decode cX5_go 44 = .ok (.aload_n 0, 1) := by decide +kernel
theorem dX5_go_45 : decode cX5_go 45 = .ok (.invokevirtual 134, 3) := by decide +kernel
theorem dX5_go_48 : decode cX5_go 48 = .ok (.ireturn, 1) := by decide +kernel
set_option maxRecDepth 20000 in
theorem ggX5_cleanOnes_X5_left : GoodIn wsX5_cleanOnes wsX5_left := goodIn_r _ [6, 7, 8, 9, 5, 10, 1, 11, 12, 13, 14, 15, 16, 17, 18, 19, 20, 21, 22, 23, 24, 25, 26, 27, 28] (by decide +kernel) (by decide +kernel)
set_option maxRecDepth 20000 in
theorem gX5_cleanOnes_X5_left : GoodIn wsX5_cleanOnes (wsV RX5 72 RX5 yX5_left wsX5_left) := goodIn_app (goodIn_of _ (by decide +kernel)) ggX5_cleanOnes_X5_left
theorem dX5_cleanOnes_0 : decode cX5_cleanOnes 0 = .ok (.iconst 0, 1) := by decide +kernel
theorem dX5_cleanOnes_1 : decode cX5_cleanOnes 1 = .ok (.istore_n 1, 1) := by decide +kernel
theorem dX5_cleanOnes_2 : decode cX5_cleanOnes 2 = .ok (.iconst 0, 1) := by decide +kernel
theorem dX5_cleanOnes_3 : decode cX5_cleanOnes 3 = .ok (.istore_n 2, 1) := by decide +kernel
theorem dX5_cleanOnes_4 : decode cX5_cleanOnes 4 = .ok (.iload_n 2, 1) := by decide +kernel
theorem dX5_cleanOnes_5 : decode cX5_cleanOnes 5 = .ok (.aload_n 0, 1) := by decide +kernel
theorem dX5_cleanOnes_6 : decode cX5_cleanOnes 6 = .ok (.getfield 7, 3) := by decide +kernel
theorem dX5_cleanOnes_9 : decode cX5_cleanOnes 9 = .ok (.iconst 0, 1) := by decide +kernel
theorem dX5_cleanOnes_10 : decode cX5_cleanOnes 10 = .ok (.iaload, 1) := by decide +kernel
theorem dX5_cleanOnes_11 : decode cX5_cleanOnes 11 = .ok (.if_icmp .ge 27, 3) := by decide +kernel
theorem dX5_cleanOnes_14 : decode cX5_cleanOnes 14 = .ok (.iload_n 1, 1) := by decide +kernel
theorem dX5_cleanOnes_15 : decode cX5_cleanOnes 15 = .ok (.aload_n 0, 1) := by decide +kernel
theorem dX5_cleanOnes_16 : decode cX5_cleanOnes 16 = .ok (.iload_n 2, 1) := by decide +kernel
theorem dX5_cleanOnes_17 : decode cX5_cleanOnes 17 = .ok (.invokevirtual 72, 3) := by decide +kernel
theorem dX5_cleanOnes_20 : decode cX5_cleanOnes 20 = .ok (.ifCond .ne 9, 3) := by decide +kernel
theorem dX5_cleanOnes_23 : decode cX5_cleanOnes 23 = .ok (.iconst 1, 1) := by decide +kernel
theorem dX5_cleanOnes_24 : decode cX5_cleanOnes 24 = .ok (.iload_n 2, 1) := by decide +kernel
theorem dX5_cleanOnes_25 : decode cX5_cleanOnes 25 = .ok (.ishl, 1) := by decide +kernel
theorem dX5_cleanOnes_26 : decode cX5_cleanOnes 26 = .ok (.goto 4, 3) := by decide +kernel
theorem dX5_cleanOnes_29 : decode cX5_cleanOnes 29 = .ok (.iconst 0, 1) := by decide +kernel
theorem dX5_cleanOnes_30 : decode cX5_cleanOnes 30 = .ok (.ior, 1) := by decide +kernel
theorem dX5_cleanOnes_31 : decode cX5_cleanOnes 31 = .ok (.istore_n 1, 1) := by decide +kernel
theorem dX5_cleanOnes_32 : decode cX5_cleanOnes 32 = .ok (.iinc 2 1, 3) := by decide +kernel
theorem dX5_cleanOnes_35 : decode cX5_cleanOnes 35 = .ok (.goto (-31), 3) := by decide +kernel
theorem dX5_cleanOnes_38 : decode cX5_cleanOnes 38 = .ok (.iload_n 1, 1) := by decide +kernel
theorem dX5_cleanOnes_39 : decode cX5_cleanOnes 39 = .ok (.ireturn, 1) := by decide +kernel
set_option maxRecDepth 20000 in
theorem ggX5_fullest_X5_left : GoodIn wsX5_fullest wsX5_left := goodIn_r _ [6, 7, 8, 9, 5, 10, 1, 11, 12, 13, 14, 15, 16, 17, 18, 19, 20, 21, 22, 23, 24, 25, 26, 27, 28] (by decide +kernel) (by decide +kernel)
set_option maxRecDepth 20000 in
theorem gX5_fullest_X5_left : GoodIn wsX5_fullest (wsV RX5 72 RX5 yX5_left wsX5_left) := goodIn_app (goodIn_of _ (by decide +kernel)) ggX5_fullest_X5_left
theorem dX5_fullest_0 : decode cX5_fullest 0 = .ok (.aload_n 0, 1) := by decide +kernel
theorem dX5_fullest_1 : decode cX5_fullest 1 = .ok (.getfield 7, 3) := by decide +kernel
theorem dX5_fullest_4 : decode cX5_fullest 4 = .ok (.iconst 0, 1) := by decide +kernel
theorem dX5_fullest_5 : decode cX5_fullest 5 = .ok (.iaload, 1) := by decide +kernel
theorem dX5_fullest_6 : decode cX5_fullest 6 = .ok (.ifCond .ne 7, 3) := by decide +kernel
theorem dX5_fullest_9 : decode cX5_fullest 9 = .ok (.iconst (-1), 1) := by decide +kernel
theorem dX5_fullest_10 : decode cX5_fullest 10 = .ok (.goto 4, 3) := by decide +kernel
theorem dX5_fullest_13 : decode cX5_fullest 13 = .ok (.iconst 0, 1) := by decide +kernel
theorem dX5_fullest_14 : decode cX5_fullest 14 = .ok (.istore_n 1, 1) := by decide +kernel
theorem dX5_fullest_15 : decode cX5_fullest 15 = .ok (.iconst 1, 1) := by decide +kernel
theorem dX5_fullest_16 : decode cX5_fullest 16 = .ok (.istore_n 2, 1) := by decide +kernel
theorem dX5_fullest_17 : decode cX5_fullest 17 = .ok (.iload_n 2, 1) := by decide +kernel
theorem dX5_fullest_18 : decode cX5_fullest 18 = .ok (.aload_n 0, 1) := by decide +kernel
theorem dX5_fullest_19 : decode cX5_fullest 19 = .ok (.getfield 7, 3) := by decide +kernel
theorem dX5_fullest_22 : decode cX5_fullest 22 = .ok (.iconst 0, 1) := by decide +kernel
theorem dX5_fullest_23 : decode cX5_fullest 23 = .ok (.iaload, 1) := by decide +kernel
theorem dX5_fullest_24 : decode cX5_fullest 24 = .ok (.if_icmp .ge 28, 3) := by decide +kernel
theorem dX5_fullest_27 : decode cX5_fullest 27 = .ok (.aload_n 0, 1) := by decide +kernel
theorem dX5_fullest_28 : decode cX5_fullest 28 = .ok (.iload_n 2, 1) := by decide +kernel
theorem dX5_fullest_29 : decode cX5_fullest 29 = .ok (.invokevirtual 72, 3) := by decide +kernel
theorem dX5_fullest_32 : decode cX5_fullest 32 = .ok (.aload_n 0, 1) := by decide +kernel
theorem dX5_fullest_33 : decode cX5_fullest 33 = .ok (.iload_n 1, 1) := by decide +kernel
theorem dX5_fullest_34 : decode cX5_fullest 34 = .ok (.invokevirtual 72, 3) := by decide +kernel
theorem dX5_fullest_37 : decode cX5_fullest 37 = .ok (.if_icmp .le 7, 3) := by decide +kernel
theorem dX5_fullest_40 : decode cX5_fullest 40 = .ok (.iload_n 2, 1) := by decide +kernel
theorem dX5_fullest_41 : decode cX5_fullest 41 = .ok (.goto 4, 3) := by decide +kernel
theorem dX5_fullest_44 : decode cX5_fullest 44 = .ok (.iload_n 1, 1) := by decide +kernel
theorem dX5_fullest_45 : decode cX5_fullest 45 = .ok (.istore_n 1, 1) := by decide +kernel
theorem dX5_fullest_46 : decode cX5_fullest 46 = .ok (.iinc 2 1, 3) := by decide +kernel
theorem dX5_fullest_49 : decode cX5_fullest 49 = .ok (.goto (-32), 3) := by decide +kernel
theorem dX5_fullest_52 : decode cX5_fullest 52 = .ok (.iload_n 1, 1) := by decide +kernel
theorem dX5_fullest_53 : decode cX5_fullest 53 = .ok (.ireturn, 1) := by decide +kernel
set_option maxRecDepth 20000 in
theorem ggX5_loved_X5_its : GoodIn wsX5_loved wsX5_its := goodIn_r _ [6, 1, 7, 8, 9, 10, 11, 12, 13, 14, 15, 16, 17, 18, 19, 20, 21, 22, 23, 24] (by decide +kernel) (by decide +kernel)
set_option maxRecDepth 20000 in
theorem gX5_loved_X5_its : GoodIn wsX5_loved (wsV RX5 69 RX5 yX5_its wsX5_its) := goodIn_app (goodIn_of _ (by decide +kernel)) ggX5_loved_X5_its
theorem dX5_loved_0 : decode cX5_loved 0 = .ok (.iconst 0, 1) := by decide +kernel
theorem dX5_loved_1 : decode cX5_loved 1 = .ok (.istore_n 1, 1) := by decide +kernel
theorem dX5_loved_2 : decode cX5_loved 2 = .ok (.iconst 0, 1) := by decide +kernel
theorem dX5_loved_3 : decode cX5_loved 3 = .ok (.istore_n 2, 1) := by decide +kernel
theorem dX5_loved_4 : decode cX5_loved 4 = .ok (.iload_n 2, 1) := by decide +kernel
theorem dX5_loved_5 : decode cX5_loved 5 = .ok (.aload_n 0, 1) := by decide +kernel
theorem dX5_loved_6 : decode cX5_loved 6 = .ok (.getfield 7, 3) := by decide +kernel
theorem dX5_loved_9 : decode cX5_loved 9 = .ok (.iconst 0, 1) := by decide +kernel
theorem dX5_loved_10 : decode cX5_loved 10 = .ok (.iaload, 1) := by decide +kernel
theorem dX5_loved_11 : decode cX5_loved 11 = .ok (.if_icmp .ge 33, 3) := by decide +kernel
theorem dX5_loved_14 : decode cX5_loved 14 = .ok (.iload_n 1, 1) := by decide +kernel
theorem dX5_loved_15 : decode cX5_loved 15 = .ok (.aload_n 0, 1) := by decide +kernel
theorem dX5_loved_16 : decode cX5_loved 16 = .ok (.iload_n 2, 1) := by decide +kernel
theorem dX5_loved_17 : decode cX5_loved 17 = .ok (.iconst 1, 1) := by decide +kernel
theorem dX5_loved_18 : decode cX5_loved 18 = .ok (.invokevirtual 69, 3) := by decide +kernel
theorem dX5_loved_21 : decode cX5_loved 21 = .ok (.ifCond .lt 14, 3) := by decide +kernel
theorem dX5_loved_24 : decode cX5_loved 24 = .ok (.iconst 1, 1) := by decide +kernel
theorem dX5_loved_25 : decode cX5_loved 25 = .ok (.aload_n 0, 1) := by decide +kernel
theorem dX5_loved_26 : decode cX5_loved 26 = .ok (.iload_n 2, 1) := by decide +kernel
theorem dX5_loved_27 : decode cX5_loved 27 = .ok (.iconst 1, 1) := by decide +kernel
theorem dX5_loved_28 : decode cX5_loved 28 = .ok (.invokevirtual 69, 3) := by decide +kernel
theorem dX5_loved_31 : decode cX5_loved 31 = .ok (.ishl, 1) := by decide +kernel
theorem dX5_loved_32 : decode cX5_loved 32 = .ok (.goto 4, 3) := by decide +kernel
theorem dX5_loved_35 : decode cX5_loved 35 = .ok (.iconst 0, 1) := by decide +kernel
theorem dX5_loved_36 : decode cX5_loved 36 = .ok (.ior, 1) := by decide +kernel
theorem dX5_loved_37 : decode cX5_loved 37 = .ok (.istore_n 1, 1) := by decide +kernel
theorem dX5_loved_38 : decode cX5_loved 38 = .ok (.iinc 2 1, 3) := by decide +kernel
theorem dX5_loved_41 : decode cX5_loved 41 = .ok (.goto (-37), 3) := by decide +kernel
theorem dX5_loved_44 : decode cX5_loved 44 = .ok (.iload_n 1, 1) := by decide +kernel
theorem dX5_loved_45 : decode cX5_loved 45 = .ok (.ireturn, 1) := by decide +kernel
set_option maxRecDepth 20000 in
theorem ggX5_now_X5_leftAll : GoodIn wsX5_now wsX5_leftAll := goodIn_r _ [7, 1, 8, 9, 10, 6, 11, 12, 13, 14, 15, 37, 38, 39, 40, 41, 42, 43, 44, 45, 46, 47, 48, 49, 50, 51, 52, 53, 54] (by decide +kernel) (by decide +kernel)
set_option maxRecDepth 20000 in
theorem gX5_now_X5_leftAll : GoodIn wsX5_now (wsV RX5 134 RX5 yX5_leftAll wsX5_leftAll) := goodIn_app (goodIn_of _ (by decide +kernel)) ggX5_now_X5_leftAll
set_option maxRecDepth 20000 in
theorem ggX5_now_X5_cleanOnes : GoodIn wsX5_now wsX5_cleanOnes := goodIn_r _ [19, 1, 8, 9, 10, 6, 11, 12, 13, 14, 15, 37, 38, 39, 40, 41, 42, 43, 44, 45, 46, 47, 48, 49, 50, 51, 52, 53, 54] (by decide +kernel) (by decide +kernel)
set_option maxRecDepth 20000 in
theorem gX5_now_X5_cleanOnes : GoodIn wsX5_now (wsV RX5 138 RX5 yX5_cleanOnes wsX5_cleanOnes) := goodIn_app (goodIn_of _ (by decide +kernel)) ggX5_now_X5_cleanOnes
set_option maxRecDepth 20000 in
theorem ggX5_now_X5_sumOf : GoodIn wsX5_now wsX5_sumOf := goodIn_r _ [23, 1, 12, 13, 14, 6, 15, 37, 38, 39, 40, 41, 42, 43, 44, 45, 46, 47, 48, 49, 50, 51, 52, 53, 54] (by decide +kernel) (by decide +kernel)
set_option maxRecDepth 20000 in
theorem gX5_now_X5_sumOf : GoodIn wsX5_now (wsV RX5 141 RX5 yX5_sumOf wsX5_sumOf) := goodIn_app (goodIn_of _ (by decide +kernel)) ggX5_now_X5_sumOf
set_option maxRecDepth 20000 in
theorem ggX5_now_X5_fullest : GoodIn wsX5_now wsX5_fullest := goodIn_r _ [27, 1, 8, 9, 10, 6, 11, 12, 13, 14, 15, 37, 38, 39, 40, 41, 42, 43, 44, 45, 46, 47, 48, 49, 50, 51, 52, 53, 54] (by decide +kernel) (by decide +kernel)
set_option maxRecDepth 20000 in
theorem gX5_now_X5_fullest : GoodIn wsX5_now (wsV RX5 144 RX5 yX5_fullest wsX5_fullest) := goodIn_app (goodIn_of _ (by decide +kernel)) ggX5_now_X5_fullest
set_option maxRecDepth 20000 in
theorem ggX5_now_X5_loved : GoodIn wsX5_now wsX5_loved := goodIn_r _ [31, 1, 12, 13, 14, 6, 15, 37, 38, 39, 40, 41, 42, 43, 44, 45, 46, 47, 48, 49, 50, 51, 52, 53, 54] (by decide +kernel) (by decide +kernel)
set_option maxRecDepth 20000 in
theorem gX5_now_X5_loved : GoodIn wsX5_now (wsV RX5 147 RX5 yX5_loved wsX5_loved) := goodIn_app (goodIn_of _ (by decide +kernel)) ggX5_now_X5_loved
set_option maxRecDepth 20000 in
theorem ggX5_now_X5_finds : GoodIn wsX5_now wsX5_finds := goodIn_r _ [35, 36, 2, 37, 38, 39, 40, 41, 42, 43, 44, 45, 46, 47, 48, 49, 50, 51, 52, 53, 54] (by decide +kernel) (by decide +kernel)
set_option maxRecDepth 20000 in
theorem gX5_now_X5_finds : GoodIn wsX5_now (wsV RX5 39 RX5 yX5_finds wsX5_finds) := goodIn_app (goodIn_of _ (by decide +kernel)) ggX5_now_X5_finds
theorem dX5_now_0 : decode cX5_now 0 = .ok (.iload_n 1, 1) := by decide +kernel
theorem dX5_now_1 : decode cX5_now 1 = .ok (.tableswitch 82 0 6 #[43, 50, 55, 60, 66, 72, 77], 43) := by decide +kernel
theorem dX5_now_44 : decode cX5_now 44 = .ok (.aload_n 0, 1) := by decide +kernel
theorem dX5_now_45 : decode cX5_now 45 = .ok (.getfield 7, 3) := by decide +kernel
theorem dX5_now_48 : decode cX5_now 48 = .ok (.iconst 1, 1) := by decide +kernel
theorem dX5_now_49 : decode cX5_now 49 = .ok (.iaload, 1) := by decide +kernel
theorem dX5_now_50 : decode cX5_now 50 = .ok (.ireturn, 1) := by decide +kernel
theorem dX5_now_51 : decode cX5_now 51 = .ok (.aload_n 0, 1) := by decide +kernel
theorem dX5_now_52 : decode cX5_now 52 = .ok (.invokevirtual 134, 3) := by decide +kernel
theorem dX5_now_55 : decode cX5_now 55 = .ok (.ireturn, 1) := by decide +kernel
theorem dX5_now_56 : decode cX5_now 56 = .ok (.aload_n 0, 1) := by decide +kernel
theorem dX5_now_57 : decode cX5_now 57 = .ok (.invokevirtual 138, 3) := by decide +kernel
theorem dX5_now_60 : decode cX5_now 60 = .ok (.ireturn, 1) := by decide +kernel
theorem dX5_now_61 : decode cX5_now 61 = .ok (.aload_n 0, 1) := by decide +kernel
theorem dX5_now_62 : decode cX5_now 62 = .ok (.iconst 2, 1) := by decide +kernel
theorem dX5_now_63 : decode cX5_now 63 = .ok (.invokevirtual 141, 3) := by decide +kernel
theorem dX5_now_66 : decode cX5_now 66 = .ok (.ireturn, 1) := by decide +kernel
theorem dX5_now_67 : decode cX5_now 67 = .ok (.aload_n 0, 1) := by decide +kernel
theorem dX5_now_68 : decode cX5_now 68 = .ok (.iconst 3, 1) := by decide +kernel
theorem dX5_now_69 : decode cX5_now 69 = .ok (.invokevirtual 141, 3) := by decide +kernel
theorem dX5_now_72 : decode cX5_now 72 = .ok (.ireturn, 1) := by decide +kernel
theorem dX5_now_73 : decode cX5_now 73 = .ok (.aload_n 0, 1) := by decide +kernel
theorem dX5_now_74 : decode cX5_now 74 = .ok (.invokevirtual 144, 3) := by decide +kernel
theorem dX5_now_77 : decode cX5_now 77 = .ok (.ireturn, 1) := by decide +kernel
theorem dX5_now_78 : decode cX5_now 78 = .ok (.aload_n 0, 1) := by decide +kernel
theorem dX5_now_79 : decode cX5_now 79 = .ok (.invokevirtual 147, 3) := by decide +kernel
theorem dX5_now_82 : decode cX5_now 82 = .ok (.ireturn, 1) := by decide +kernel
theorem dX5_now_83 : decode cX5_now 83 = .ok (.aload_n 0, 1) := by decide +kernel
theorem dX5_now_84 : decode cX5_now 84 = .ok (.ldc 37, 2) := by decide +kernel
theorem dX5_now_86 : decode cX5_now 86 = .ok (.invokevirtual 39, 3) := by decide +kernel
theorem dX5_now_89 : decode cX5_now 89 = .ok (.ireturn, 1) := by decide +kernel
set_option maxRecDepth 20000 in
theorem ggX5_then_X5_copyRow : GoodIn wsX5_then wsX5_copyRow := goodIn_r _ [6] (by decide +kernel) (by decide +kernel)
set_option maxRecDepth 20000 in
theorem gX5_then_X5_copyRow : GoodIn wsX5_then (va_wsS RX5 150 yX5_copyRow wsX5_copyRow) := goodIn_app (goodIn_of _ (by decide +kernel)) ggX5_then_X5_copyRow
set_option maxRecDepth 20000 in
theorem ggX5_then_X5_goes : GoodIn wsX5_then wsX5_goes := goodIn_r _ [10, 11, 12, 13, 5, 14, 1, 15, 16, 17, 18, 19, 20, 21, 22, 23, 24, 25, 26, 27, 28, 29, 30, 31, 32, 33, 34, 35, 36, 37, 38, 39, 40, 41, 42, 43, 44, 45, 46, 47, 48, 49, 50, 51, 52, 53, 54, 55, 56, 57, 58, 59, 60, 61, 62, 63, 64, 65, 66, 67, 68, 69, 70, 71, 72, 73, 74, 75, 76] (by decide +kernel) (by decide +kernel)
set_option maxRecDepth 20000 in
theorem gX5_then_X5_goes : GoodIn wsX5_then (wsV RX5 131 RX5 yX5_goes wsX5_goes) := goodIn_app (goodIn_of _ (by decide +kernel)) ggX5_then_X5_goes
set_option maxRecDepth 20000 in
theorem ggX5_then_X5_left : GoodIn wsX5_then wsX5_left := goodIn_r _ [47, 19, 20, 21, 5, 22, 1, 59, 60, 61, 62, 63, 64, 65, 66, 67, 68, 69, 70, 71, 72, 73, 74, 75, 76] (by decide +kernel) (by decide +kernel)
set_option maxRecDepth 20000 in
theorem gX5_then_X5_left : GoodIn wsX5_then (wsV RX5 72 RX5 yX5_left wsX5_left) := goodIn_app (goodIn_of _ (by decide +kernel)) ggX5_then_X5_left
set_option maxRecDepth 20000 in
theorem ggX5_then_X5_its : GoodIn wsX5_then wsX5_its := goodIn_r _ [22, 1, 59, 60, 61, 62, 63, 64, 65, 66, 67, 68, 69, 70, 71, 72, 73, 74, 75, 76] (by decide +kernel) (by decide +kernel)
set_option maxRecDepth 20000 in
theorem gX5_then_X5_its : GoodIn wsX5_then (wsV RX5 69 RX5 yX5_its wsX5_its) := goodIn_app (goodIn_of _ (by decide +kernel)) ggX5_then_X5_its
theorem dX5_then_0 : decode cX5_then 0 = .ok (.aload_n 0, 1) := by decide +kernel
theorem dX5_then_1 : decode cX5_then 1 = .ok (.getfield 7, 3) := by decide +kernel
theorem dX5_then_4 : decode cX5_then 4 = .ok (.aload_n 0, 1) := by decide +kernel
theorem dX5_then_5 : decode cX5_then 5 = .ok (.getfield 19, 3) := by decide +kernel
theorem dX5_then_8 : decode cX5_then 8 = .ok (.invokestatic 150, 3) := by decide +kernel
theorem dX5_then_11 : decode cX5_then 11 = .ok (.aload_n 0, 1) := by decide +kernel
theorem dX5_then_12 : decode cX5_then 12 = .ok (.iload_n 3, 1) := by decide +kernel
theorem dX5_then_13 : decode cX5_then 13 = .ok (.invokevirtual 131, 3) := by decide +kernel
theorem dX5_then_16 : decode cX5_then 16 = .ok (.iload_n 2, 1) := by decide +kernel
theorem dX5_then_17 : decode cX5_then 17 = .ok (.iconst 5, 1) := by decide +kernel
theorem dX5_then_18 : decode cX5_then 18 = .ok (.if_icmp .ne 11, 3) := by decide +kernel
theorem dX5_then_21 : decode cX5_then 21 = .ok (.aload_n 0, 1) := by decide +kernel
theorem dX5_then_22 : decode cX5_then 22 = .ok (.iload_n 1, 1) := by decide +kernel
theorem dX5_then_23 : decode cX5_then 23 = .ok (.invokevirtual 72, 3) := by decide +kernel
theorem dX5_then_26 : decode cX5_then 26 = .ok (.goto 9, 3) := by decide +kernel
theorem dX5_then_29 : decode cX5_then 29 = .ok (.aload_n 0, 1) := by decide +kernel
theorem dX5_then_30 : decode cX5_then 30 = .ok (.iload_n 1, 1) := by decide +kernel
theorem dX5_then_31 : decode cX5_then 31 = .ok (.iload_n 2, 1) := by decide +kernel
theorem dX5_then_32 : decode cX5_then 32 = .ok (.invokevirtual 69, 3) := by decide +kernel
theorem dX5_then_35 : decode cX5_then 35 = .ok (.istore 4, 2) := by decide +kernel
theorem dX5_then_37 : decode cX5_then 37 = .ok (.aload_n 0, 1) := by decide +kernel
theorem dX5_then_38 : decode cX5_then 38 = .ok (.getfield 19, 3) := by decide +kernel
theorem dX5_then_41 : decode cX5_then 41 = .ok (.aload_n 0, 1) := by decide +kernel
theorem dX5_then_42 : decode cX5_then 42 = .ok (.getfield 7, 3) := by decide +kernel
theorem dX5_then_45 : decode cX5_then 45 = .ok (.invokestatic 150, 3) := by decide +kernel
theorem dX5_then_48 : decode cX5_then 48 = .ok (.iload 4, 2) := by decide +kernel
theorem dX5_then_50 : decode cX5_then 50 = .ok (.ireturn, 1) := by decide +kernel
set_option maxRecDepth 20000 in
theorem ggX5_leftThen_X5_copyRow : GoodIn wsX5_leftThen wsX5_copyRow := goodIn_r _ [6] (by decide +kernel) (by decide +kernel)
set_option maxRecDepth 20000 in
theorem gX5_leftThen_X5_copyRow : GoodIn wsX5_leftThen (va_wsS RX5 150 yX5_copyRow wsX5_copyRow) := goodIn_app (goodIn_of _ (by decide +kernel)) ggX5_leftThen_X5_copyRow
set_option maxRecDepth 20000 in
theorem ggX5_leftThen_X5_goes : GoodIn wsX5_leftThen wsX5_goes := goodIn_r _ [10, 11, 12, 13, 5, 14, 1, 15, 16, 17, 18, 19, 20, 21, 22, 23, 24, 25, 26, 27, 28, 29, 30, 31, 32, 33, 34, 35, 36, 37, 38, 39, 40, 41, 42, 43, 44, 45, 46, 47, 48, 49, 50, 51, 52, 53, 54, 55, 56, 57, 58, 63, 64, 65, 66, 67, 68, 69, 70, 71, 72, 73, 74, 75, 76, 77, 78, 79, 80] (by decide +kernel) (by decide +kernel)
set_option maxRecDepth 20000 in
theorem gX5_leftThen_X5_goes : GoodIn wsX5_leftThen (wsV RX5 131 RX5 yX5_goes wsX5_goes) := goodIn_app (goodIn_of _ (by decide +kernel)) ggX5_leftThen_X5_goes
set_option maxRecDepth 20000 in
theorem ggX5_leftThen_X5_leftAll : GoodIn wsX5_leftThen wsX5_leftAll := goodIn_r _ [62, 1, 44, 45, 46, 5, 47, 19, 20, 21, 22, 63, 64, 65, 66, 67, 68, 69, 70, 71, 72, 73, 74, 75, 76, 77, 78, 79, 80] (by decide +kernel) (by decide +kernel)
set_option maxRecDepth 20000 in
theorem gX5_leftThen_X5_leftAll : GoodIn wsX5_leftThen (wsV RX5 134 RX5 yX5_leftAll wsX5_leftAll) := goodIn_app (goodIn_of _ (by decide +kernel)) ggX5_leftThen_X5_leftAll
theorem dX5_leftThen_0 : decode cX5_leftThen 0 = .ok (.aload_n 0, 1) := by decide +kernel
theorem dX5_leftThen_1 : decode cX5_leftThen 1 = .ok (.getfield 7, 3) := by decide +kernel
theorem dX5_leftThen_4 : decode cX5_leftThen 4 = .ok (.aload_n 0, 1) := by decide +kernel
theorem dX5_leftThen_5 : decode cX5_leftThen 5 = .ok (.getfield 19, 3) := by decide +kernel
theorem dX5_leftThen_8 : decode cX5_leftThen 8 = .ok (.invokestatic 150, 3) := by decide +kernel
theorem dX5_leftThen_11 : decode cX5_leftThen 11 = .ok (.aload_n 0, 1) := by decide +kernel
theorem dX5_leftThen_12 : decode cX5_leftThen 12 = .ok (.iload_n 1, 1) := by decide +kernel
theorem dX5_leftThen_13 : decode cX5_leftThen 13 = .ok (.invokevirtual 131, 3) := by decide +kernel
theorem dX5_leftThen_16 : decode cX5_leftThen 16 = .ok (.aload_n 0, 1) := by decide +kernel
theorem dX5_leftThen_17 : decode cX5_leftThen 17 = .ok (.invokevirtual 134, 3) := by decide +kernel
theorem dX5_leftThen_20 : decode cX5_leftThen 20 = .ok (.istore_n 2, 1) := by decide +kernel
theorem dX5_leftThen_21 : decode cX5_leftThen 21 = .ok (.aload_n 0, 1) := by decide +kernel
theorem dX5_leftThen_22 : decode cX5_leftThen 22 = .ok (.getfield 19, 3) := by decide +kernel
theorem dX5_leftThen_25 : decode cX5_leftThen 25 = .ok (.aload_n 0, 1) := by decide +kernel
theorem dX5_leftThen_26 : decode cX5_leftThen 26 = .ok (.getfield 7, 3) := by decide +kernel
theorem dX5_leftThen_29 : decode cX5_leftThen 29 = .ok (.invokestatic 150, 3) := by decide +kernel
theorem dX5_leftThen_32 : decode cX5_leftThen 32 = .ok (.iload_n 2, 1) := by decide +kernel
theorem dX5_leftThen_33 : decode cX5_leftThen 33 = .ok (.ireturn, 1) := by decide +kernel
set_option maxRecDepth 20000 in
theorem ggX5_ahead_X5_isOne : GoodIn wsX5_ahead wsX5_isOne := goodIn_r _ [7, 8, 77, 78, 79, 80, 81, 82, 83, 84, 85, 86, 87, 88, 89, 90, 91, 92, 93, 94] (by decide +kernel) (by decide +kernel)
set_option maxRecDepth 20000 in
theorem gX5_ahead_X5_isOne : GoodIn wsX5_ahead (wsV RX5 78 RX5 yX5_isOne wsX5_isOne) := goodIn_app (goodIn_of _ (by decide +kernel)) ggX5_ahead_X5_isOne
set_option maxRecDepth 20000 in
theorem ggX5_ahead_X5_isIn : GoodIn wsX5_ahead wsX5_isIn := goodIn_r _ [11] (by decide +kernel) (by decide +kernel)
set_option maxRecDepth 20000 in
theorem gX5_ahead_X5_isIn : GoodIn wsX5_ahead (va_wsS RX5 45 yX5_isIn wsX5_isIn) := goodIn_app (goodIn_of _ (by decide +kernel)) ggX5_ahead_X5_isIn
set_option maxRecDepth 20000 in
theorem ggX5_ahead_X5_then : GoodIn wsX5_ahead wsX5_then := goodIn_r _ [15, 8, 16, 17, 18, 6, 19, 20, 21, 22, 23, 24, 25, 26, 27, 28, 29, 30, 31, 32, 33, 34, 35, 36, 37, 38, 39, 40, 41, 42, 43, 44, 45, 46, 47, 48, 49, 50, 51, 52, 53, 54, 55, 56, 57, 58, 59, 60, 61, 62, 63, 64, 65, 66, 67, 68, 69, 70, 71, 77, 78, 79, 80, 81, 82, 83, 84, 85, 86, 87, 88, 89, 90, 91, 92, 93, 94] (by decide +kernel) (by decide +kernel)
set_option maxRecDepth 20000 in
theorem gX5_ahead_X5_then : GoodIn wsX5_ahead (wsV RX5 156 RX5 yX5_then wsX5_then) := goodIn_app (goodIn_of _ (by decide +kernel)) ggX5_ahead_X5_then
set_option maxRecDepth 20000 in
theorem ggX5_ahead_X5_finds : GoodIn wsX5_ahead wsX5_finds := goodIn_r _ [75, 76, 2, 77, 78, 79, 80, 81, 82, 83, 84, 85, 86, 87, 88, 89, 90, 91, 92, 93, 94] (by decide +kernel) (by decide +kernel)
set_option maxRecDepth 20000 in
theorem gX5_ahead_X5_finds : GoodIn wsX5_ahead (wsV RX5 39 RX5 yX5_finds wsX5_finds) := goodIn_app (goodIn_of _ (by decide +kernel)) ggX5_ahead_X5_finds
theorem dX5_ahead_0 : decode cX5_ahead 0 = .ok (.aload_n 0, 1) := by decide +kernel
theorem dX5_ahead_1 : decode cX5_ahead 1 = .ok (.iload_n 1, 1) := by decide +kernel
theorem dX5_ahead_2 : decode cX5_ahead 2 = .ok (.invokevirtual 78, 3) := by decide +kernel
theorem dX5_ahead_5 : decode cX5_ahead 5 = .ok (.ifCond .eq 34, 3) := by decide +kernel
theorem dX5_ahead_8 : decode cX5_ahead 8 = .ok (.iload_n 2, 1) := by decide +kernel
theorem dX5_ahead_9 : decode cX5_ahead 9 = .ok (.iconst 2, 1) := by decide +kernel
theorem dX5_ahead_10 : decode cX5_ahead 10 = .ok (.if_icmp .eq 13, 3) := by decide +kernel
theorem dX5_ahead_13 : decode cX5_ahead 13 = .ok (.iload_n 2, 1) := by decide +kernel
theorem dX5_ahead_14 : decode cX5_ahead 14 = .ok (.iconst 3, 1) := by decide +kernel
theorem dX5_ahead_15 : decode cX5_ahead 15 = .ok (.if_icmp .eq 8, 3) := by decide +kernel
theorem dX5_ahead_18 : decode cX5_ahead 18 = .ok (.iload_n 2, 1) := by decide +kernel
theorem dX5_ahead_19 : decode cX5_ahead 19 = .ok (.iconst 5, 1) := by decide +kernel
theorem dX5_ahead_20 : decode cX5_ahead 20 = .ok (.if_icmp .ne 19, 3) := by decide +kernel
theorem dX5_ahead_23 : decode cX5_ahead 23 = .ok (.iload_n 3, 1) := by decide +kernel
theorem dX5_ahead_24 : decode cX5_ahead 24 = .ok (.i2l, 1) := by decide +kernel
theorem dX5_ahead_25 : decode cX5_ahead 25 = .ok (.lconst 0, 1) := by decide +kernel
theorem dX5_ahead_26 : decode cX5_ahead 26 = .ok (.ldc2_w 154, 3) := by decide +kernel
theorem dX5_ahead_29 : decode cX5_ahead 29 = .ok (.invokestatic 45, 3) := by decide +kernel
theorem dX5_ahead_32 : decode cX5_ahead 32 = .ok (.ifCond .eq 7, 3) := by decide +kernel
theorem dX5_ahead_35 : decode cX5_ahead 35 = .ok (.iconst 1, 1) := by decide +kernel
theorem dX5_ahead_36 : decode cX5_ahead 36 = .ok (.goto 4, 3) := by decide +kernel
theorem dX5_ahead_39 : decode cX5_ahead 39 = .ok (.iconst 0, 1) := by decide +kernel
theorem dX5_ahead_40 : decode cX5_ahead 40 = .ok (.istore 4, 2) := by decide +kernel
theorem dX5_ahead_42 : decode cX5_ahead 42 = .ok (.iload 4, 2) := by decide +kernel
theorem dX5_ahead_44 : decode cX5_ahead 44 = .ok (.ifCond .eq 13, 3) := by decide +kernel
theorem dX5_ahead_47 : decode cX5_ahead 47 = .ok (.aload_n 0, 1) := by decide +kernel
theorem dX5_ahead_48 : decode cX5_ahead 48 = .ok (.iload_n 1, 1) := by decide +kernel
theorem dX5_ahead_49 : decode cX5_ahead 49 = .ok (.iload_n 2, 1) := by decide +kernel
theorem dX5_ahead_50 : decode cX5_ahead 50 = .ok (.iload_n 3, 1) := by decide +kernel
theorem dX5_ahead_51 : decode cX5_ahead 51 = .ok (.invokevirtual 156, 3) := by decide +kernel
theorem dX5_ahead_54 : decode cX5_ahead 54 = .ok (.goto 9, 3) := by decide +kernel
theorem dX5_ahead_57 : decode cX5_ahead 57 = .ok (.aload_n 0, 1) := by decide +kernel
theorem dX5_ahead_58 : decode cX5_ahead 58 = .ok (.ldc 37, 2) := by decide +kernel
theorem dX5_ahead_60 : decode cX5_ahead 60 = .ok (.invokevirtual 39, 3) := by decide +kernel
theorem dX5_ahead_63 : decode cX5_ahead 63 = .ok (.ireturn, 1) := by decide +kernel
set_option maxRecDepth 20000 in
theorem ggX5_served_X5_isOne : GoodIn wsX5_served wsX5_isOne := goodIn_r _ [9, 3, 76, 77, 78, 79, 80, 81, 82, 83, 84, 85, 86, 87, 88, 89, 90, 91, 92, 93] (by decide +kernel) (by decide +kernel)
set_option maxRecDepth 20000 in
theorem gX5_served_X5_isOne : GoodIn wsX5_served (wsV RX5 78 RX5 yX5_isOne wsX5_isOne) := goodIn_app (goodIn_of _ (by decide +kernel)) ggX5_served_X5_isOne
set_option maxRecDepth 20000 in
theorem ggX5_served_X5_isTaste : GoodIn wsX5_served wsX5_isTaste := goodIn_r _ [12] (by decide +kernel) (by decide +kernel)
set_option maxRecDepth 20000 in
theorem gX5_served_X5_isTaste : GoodIn wsX5_served (va_wsS RX5 53 yX5_isTaste wsX5_isTaste) := goodIn_app (goodIn_of _ (by decide +kernel)) ggX5_served_X5_isTaste
set_option maxRecDepth 20000 in
theorem ggX5_served_X5_isIn : GoodIn wsX5_served wsX5_isIn := goodIn_r _ [15] (by decide +kernel) (by decide +kernel)
set_option maxRecDepth 20000 in
theorem gX5_served_X5_isIn : GoodIn wsX5_served (va_wsS RX5 45 yX5_isIn wsX5_isIn) := goodIn_app (goodIn_of _ (by decide +kernel)) ggX5_served_X5_isIn
set_option maxRecDepth 20000 in
theorem ggX5_served_X5_finds : GoodIn wsX5_served wsX5_finds := goodIn_r _ [19, 20, 2, 76, 77, 78, 79, 80, 81, 82, 83, 84, 85, 86, 87, 88, 89, 90, 91, 92, 93] (by decide +kernel) (by decide +kernel)
set_option maxRecDepth 20000 in
theorem gX5_served_X5_finds : GoodIn wsX5_served (wsV RX5 39 RX5 yX5_finds wsX5_finds) := goodIn_app (goodIn_of _ (by decide +kernel)) ggX5_served_X5_finds
set_option maxRecDepth 20000 in
theorem ggX5_served_X5_copyRow : GoodIn wsX5_served wsX5_copyRow := goodIn_r _ [23] (by decide +kernel) (by decide +kernel)
set_option maxRecDepth 20000 in
theorem gX5_served_X5_copyRow : GoodIn wsX5_served (va_wsS RX5 150 yX5_copyRow wsX5_copyRow) := goodIn_app (goodIn_of _ (by decide +kernel)) ggX5_served_X5_copyRow
set_option maxRecDepth 20000 in
theorem ggX5_served_X5_goes : GoodIn wsX5_served wsX5_goes := goodIn_r _ [27, 28, 29, 30, 8, 31, 3, 32, 33, 34, 35, 36, 37, 38, 39, 40, 41, 42, 43, 44, 45, 46, 47, 48, 49, 50, 51, 52, 53, 54, 55, 56, 57, 58, 59, 60, 61, 62, 63, 64, 65, 66, 67, 68, 69, 70, 71, 72, 73, 74, 75, 76, 77, 78, 79, 80, 81, 82, 83, 84, 85, 86, 87, 88, 89, 90, 91, 92, 93] (by decide +kernel) (by decide +kernel)
set_option maxRecDepth 20000 in
theorem gX5_served_X5_goes : GoodIn wsX5_served (wsV RX5 131 RX5 yX5_goes wsX5_goes) := goodIn_app (goodIn_of _ (by decide +kernel)) ggX5_served_X5_goes
set_option maxRecDepth 20000 in
theorem ggX5_served_X5_its : GoodIn wsX5_served wsX5_its := goodIn_r _ [39, 3, 76, 77, 78, 79, 80, 81, 82, 83, 84, 85, 86, 87, 88, 89, 90, 91, 92, 93] (by decide +kernel) (by decide +kernel)
set_option maxRecDepth 20000 in
theorem gX5_served_X5_its : GoodIn wsX5_served (wsV RX5 69 RX5 yX5_its wsX5_its) := goodIn_app (goodIn_of _ (by decide +kernel)) ggX5_served_X5_its
theorem dX5_served_0 : decode cX5_served 0 = .ok (.aload_n 0, 1) := by decide +kernel
theorem dX5_served_1 : decode cX5_served 1 = .ok (.iload_n 1, 1) := by decide +kernel
theorem dX5_served_2 : decode cX5_served 2 = .ok (.invokevirtual 78, 3) := by decide +kernel
theorem dX5_served_5 : decode cX5_served 5 = .ok (.ifCond .eq 22, 3) := by decide +kernel
theorem dX5_served_8 : decode cX5_served 8 = .ok (.iload_n 2, 1) := by decide +kernel
theorem dX5_served_9 : decode cX5_served 9 = .ok (.invokestatic 53, 3) := by decide +kernel
theorem dX5_served_12 : decode cX5_served 12 = .ok (.ifCond .eq 15, 3) := by decide +kernel
theorem dX5_served_15 : decode cX5_served 15 = .ok (.iload_n 3, 1) := by decide +kernel
theorem dX5_served_16 : decode cX5_served 16 = .ok (.i2l, 1) := by decide +kernel
theorem dX5_served_17 : decode cX5_served 17 = .ok (.lconst 0, 1) := by decide +kernel
theorem dX5_served_18 : decode cX5_served 18 = .ok (.ldc2_w 154, 3) := by decide +kernel
theorem dX5_served_21 : decode cX5_served 21 = .ok (.invokestatic 45, 3) := by decide +kernel
theorem dX5_served_24 : decode cX5_served 24 = .ok (.ifCond .ne 10, 3) := by decide +kernel
theorem dX5_served_27 : decode cX5_served 27 = .ok (.aload_n 0, 1) := by decide +kernel
theorem dX5_served_28 : decode cX5_served 28 = .ok (.ldc 37, 2) := by decide +kernel
theorem dX5_served_30 : decode cX5_served 30 = .ok (.invokevirtual 39, 3) := by decide +kernel
theorem dX5_served_33 : decode cX5_served 33 = .ok (.ireturn, 1) := by decide +kernel
theorem dX5_served_34 : decode cX5_served 34 = .ok (.aload_n 0, 1) := by decide +kernel
theorem dX5_served_35 : decode cX5_served 35 = .ok (.getfield 7, 3) := by decide +kernel
theorem dX5_served_38 : decode cX5_served 38 = .ok (.aload_n 0, 1) := by decide +kernel
theorem dX5_served_39 : decode cX5_served 39 = .ok (.getfield 19, 3) := by decide +kernel
theorem dX5_served_42 : decode cX5_served 42 = .ok (.invokestatic 150, 3) := by decide +kernel
theorem dX5_served_45 : decode cX5_served 45 = .ok (.aload_n 0, 1) := by decide +kernel
theorem dX5_served_46 : decode cX5_served 46 = .ok (.iload_n 3, 1) := by decide +kernel
theorem dX5_served_47 : decode cX5_served 47 = .ok (.invokevirtual 131, 3) := by decide +kernel
theorem dX5_served_50 : decode cX5_served 50 = .ok (.aload_n 0, 1) := by decide +kernel
theorem dX5_served_51 : decode cX5_served 51 = .ok (.iload_n 1, 1) := by decide +kernel
theorem dX5_served_52 : decode cX5_served 52 = .ok (.iconst 4, 1) := by decide +kernel
theorem dX5_served_53 : decode cX5_served 53 = .ok (.iload_n 2, 1) := by decide +kernel
theorem dX5_served_54 : decode cX5_served 54 = .ok (.iadd, 1) := by decide +kernel
theorem dX5_served_55 : decode cX5_served 55 = .ok (.invokevirtual 69, 3) := by decide +kernel
theorem dX5_served_58 : decode cX5_served 58 = .ok (.istore 4, 2) := by decide +kernel
theorem dX5_served_60 : decode cX5_served 60 = .ok (.aload_n 0, 1) := by decide +kernel
theorem dX5_served_61 : decode cX5_served 61 = .ok (.getfield 19, 3) := by decide +kernel
theorem dX5_served_64 : decode cX5_served 64 = .ok (.aload_n 0, 1) := by decide +kernel
theorem dX5_served_65 : decode cX5_served 65 = .ok (.getfield 7, 3) := by decide +kernel
theorem dX5_served_68 : decode cX5_served 68 = .ok (.invokestatic 150, 3) := by decide +kernel
theorem dX5_served_71 : decode cX5_served 71 = .ok (.iload 4, 2) := by decide +kernel
theorem dX5_served_73 : decode cX5_served 73 = .ok (.ireturn, 1) := by decide +kernel
set_option maxRecDepth 20000 in
theorem ggX5_clean_X5_isOne : GoodIn wsX5_clean wsX5_isOne := goodIn_r _ [9, 2, 66, 67, 68, 69, 70, 71, 72, 73, 74, 75, 76, 77, 78, 79, 80, 81, 82, 83] (by decide +kernel) (by decide +kernel)
set_option maxRecDepth 20000 in
theorem gX5_clean_X5_isOne : GoodIn wsX5_clean (wsV RX5 78 RX5 yX5_isOne wsX5_isOne) := goodIn_app (goodIn_of _ (by decide +kernel)) ggX5_clean_X5_isOne
set_option maxRecDepth 20000 in
theorem ggX5_clean_X5_finds : GoodIn wsX5_clean wsX5_finds := goodIn_r _ [13, 14, 1, 66, 67, 68, 69, 70, 71, 72, 73, 74, 75, 76, 77, 78, 79, 80, 81, 82, 83] (by decide +kernel) (by decide +kernel)
set_option maxRecDepth 20000 in
theorem gX5_clean_X5_finds : GoodIn wsX5_clean (wsV RX5 39 RX5 yX5_finds wsX5_finds) := goodIn_app (goodIn_of _ (by decide +kernel)) ggX5_clean_X5_finds
set_option maxRecDepth 20000 in
theorem ggX5_clean_X5_copyRow : GoodIn wsX5_clean wsX5_copyRow := goodIn_r _ [17] (by decide +kernel) (by decide +kernel)
set_option maxRecDepth 20000 in
theorem gX5_clean_X5_copyRow : GoodIn wsX5_clean (va_wsS RX5 150 yX5_copyRow wsX5_copyRow) := goodIn_app (goodIn_of _ (by decide +kernel)) ggX5_clean_X5_copyRow
set_option maxRecDepth 20000 in
theorem ggX5_clean_X5_left : GoodIn wsX5_clean wsX5_left := goodIn_r _ [21, 22, 23, 24, 8, 25, 2, 66, 67, 68, 69, 70, 71, 72, 73, 74, 75, 76, 77, 78, 79, 80, 81, 82, 83] (by decide +kernel) (by decide +kernel)
set_option maxRecDepth 20000 in
theorem gX5_clean_X5_left : GoodIn wsX5_clean (wsV RX5 72 RX5 yX5_left wsX5_left) := goodIn_app (goodIn_of _ (by decide +kernel)) ggX5_clean_X5_left
set_option maxRecDepth 20000 in
theorem ggX5_clean_X5_dayBut : GoodIn wsX5_clean wsX5_dayBut := goodIn_r _ [29, 2, 30, 31, 32, 8, 33, 22, 23, 24, 25, 34, 35, 36, 37, 38, 39, 40, 41, 42, 43, 44, 45, 46, 47, 48, 49, 50, 51, 52, 53, 54, 18, 19, 20, 21, 55, 56, 57, 58, 59, 60, 61, 62, 63, 64, 65, 66, 67, 68, 69, 70, 71, 72, 73, 74, 75, 76, 77, 78, 79, 80, 81, 82, 83] (by decide +kernel) (by decide +kernel)
set_option maxRecDepth 20000 in
theorem gX5_clean_X5_dayBut : GoodIn wsX5_clean (wsV RX5 125 RX5 yX5_dayBut wsX5_dayBut) := goodIn_app (goodIn_of _ (by decide +kernel)) ggX5_clean_X5_dayBut
theorem dX5_clean_0 : decode cX5_clean 0 = .ok (.aload_n 0, 1) := by decide +kernel
theorem dX5_clean_1 : decode cX5_clean 1 = .ok (.iload_n 1, 1) := by decide +kernel
theorem dX5_clean_2 : decode cX5_clean 2 = .ok (.invokevirtual 78, 3) := by decide +kernel
theorem dX5_clean_5 : decode cX5_clean 5 = .ok (.ifCond .ne 10, 3) := by decide +kernel
theorem dX5_clean_8 : decode cX5_clean 8 = .ok (.aload_n 0, 1) := by decide +kernel
theorem dX5_clean_9 : decode cX5_clean 9 = .ok (.ldc 37, 2) := by decide +kernel
theorem dX5_clean_11 : decode cX5_clean 11 = .ok (.invokevirtual 39, 3) := by decide +kernel
theorem dX5_clean_14 : decode cX5_clean 14 = .ok (.ireturn, 1) := by decide +kernel
theorem dX5_clean_15 : decode cX5_clean 15 = .ok (.aload_n 0, 1) := by decide +kernel
theorem dX5_clean_16 : decode cX5_clean 16 = .ok (.getfield 7, 3) := by decide +kernel
theorem dX5_clean_19 : decode cX5_clean 19 = .ok (.aload_n 0, 1) := by decide +kernel
theorem dX5_clean_20 : decode cX5_clean 20 = .ok (.getfield 19, 3) := by decide +kernel
theorem dX5_clean_23 : decode cX5_clean 23 = .ok (.invokestatic 150, 3) := by decide +kernel
theorem dX5_clean_26 : decode cX5_clean 26 = .ok (.iconst 0, 1) := by decide +kernel
theorem dX5_clean_27 : decode cX5_clean 27 = .ok (.istore_n 2, 1) := by decide +kernel
theorem dX5_clean_28 : decode cX5_clean 28 = .ok (.iload_n 2, 1) := by decide +kernel
theorem dX5_clean_29 : decode cX5_clean 29 = .ok (.bipush 100, 2) := by decide +kernel
theorem dX5_clean_31 : decode cX5_clean 31 = .ok (.if_icmp .gt 22, 3) := by decide +kernel
theorem dX5_clean_34 : decode cX5_clean 34 = .ok (.aload_n 0, 1) := by decide +kernel
theorem dX5_clean_35 : decode cX5_clean 35 = .ok (.iload_n 1, 1) := by decide +kernel
theorem dX5_clean_36 : decode cX5_clean 36 = .ok (.invokevirtual 72, 3) := by decide +kernel
theorem dX5_clean_39 : decode cX5_clean 39 = .ok (.ifCond .le 14, 3) := by decide +kernel
theorem dX5_clean_42 : decode cX5_clean 42 = .ok (.aload_n 0, 1) := by decide +kernel
theorem dX5_clean_43 : decode cX5_clean 43 = .ok (.iconst 0, 1) := by decide +kernel
theorem dX5_clean_44 : decode cX5_clean 44 = .ok (.invokevirtual 125, 3) := by decide +kernel
theorem dX5_clean_47 : decode cX5_clean 47 = .ok (.iinc 2 1, 3) := by decide +kernel
theorem dX5_clean_50 : decode cX5_clean 50 = .ok (.goto (-22), 3) := by decide +kernel
theorem dX5_clean_53 : decode cX5_clean 53 = .ok (.aload_n 0, 1) := by decide +kernel
theorem dX5_clean_54 : decode cX5_clean 54 = .ok (.getfield 19, 3) := by decide +kernel
theorem dX5_clean_57 : decode cX5_clean 57 = .ok (.aload_n 0, 1) := by decide +kernel
theorem dX5_clean_58 : decode cX5_clean 58 = .ok (.getfield 7, 3) := by decide +kernel
theorem dX5_clean_61 : decode cX5_clean 61 = .ok (.invokestatic 150, 3) := by decide +kernel
theorem dX5_clean_64 : decode cX5_clean 64 = .ok (.iload_n 2, 1) := by decide +kernel
theorem dX5_clean_65 : decode cX5_clean 65 = .ok (.bipush 100, 2) := by decide +kernel
theorem dX5_clean_67 : decode cX5_clean 67 = .ok (.if_icmp .gt 7, 3) := by decide +kernel
theorem dX5_clean_70 : decode cX5_clean 70 = .ok (.iload_n 2, 1) := by decide +kernel
theorem dX5_clean_71 : decode cX5_clean 71 = .ok (.goto 9, 3) := by decide +kernel
theorem dX5_clean_74 : decode cX5_clean 74 = .ok (.aload_n 0, 1) := by decide +kernel
theorem dX5_clean_75 : decode cX5_clean 75 = .ok (.ldc 38, 2) := by decide +kernel
theorem dX5_clean_77 : decode cX5_clean 77 = .ok (.invokevirtual 39, 3) := by decide +kernel
theorem dX5_clean_80 : decode cX5_clean 80 = .ok (.ireturn, 1) := by decide +kernel
set_option maxRecDepth 20000 in
theorem ggX5_when_X5_isOne : GoodIn wsX5_when wsX5_isOne := goodIn_r _ [10, 3, 70, 71, 72, 73, 74, 75, 76, 77, 78, 79, 80, 81, 82, 83, 84, 85, 86, 87] (by decide +kernel) (by decide +kernel)
set_option maxRecDepth 20000 in
theorem gX5_when_X5_isOne : GoodIn wsX5_when (wsV RX5 78 RX5 yX5_isOne wsX5_isOne) := goodIn_app (goodIn_of _ (by decide +kernel)) ggX5_when_X5_isOne
set_option maxRecDepth 20000 in
theorem ggX5_when_X5_isIn : GoodIn wsX5_when wsX5_isIn := goodIn_r _ [13] (by decide +kernel) (by decide +kernel)
set_option maxRecDepth 20000 in
theorem gX5_when_X5_isIn : GoodIn wsX5_when (va_wsS RX5 45 yX5_isIn wsX5_isIn) := goodIn_app (goodIn_of _ (by decide +kernel)) ggX5_when_X5_isIn
set_option maxRecDepth 20000 in
theorem ggX5_when_X5_finds : GoodIn wsX5_when wsX5_finds := goodIn_r _ [17, 18, 2, 70, 71, 72, 73, 74, 75, 76, 77, 78, 79, 80, 81, 82, 83, 84, 85, 86, 87] (by decide +kernel) (by decide +kernel)
set_option maxRecDepth 20000 in
theorem gX5_when_X5_finds : GoodIn wsX5_when (wsV RX5 39 RX5 yX5_finds wsX5_finds) := goodIn_app (goodIn_of _ (by decide +kernel)) ggX5_when_X5_finds
set_option maxRecDepth 20000 in
theorem ggX5_when_X5_copyRow : GoodIn wsX5_when wsX5_copyRow := goodIn_r _ [21] (by decide +kernel) (by decide +kernel)
set_option maxRecDepth 20000 in
theorem gX5_when_X5_copyRow : GoodIn wsX5_when (va_wsS RX5 150 yX5_copyRow wsX5_copyRow) := goodIn_app (goodIn_of _ (by decide +kernel)) ggX5_when_X5_copyRow
set_option maxRecDepth 20000 in
theorem ggX5_when_X5_left : GoodIn wsX5_when wsX5_left := goodIn_r _ [25, 26, 27, 28, 9, 29, 3, 70, 71, 72, 73, 74, 75, 76, 77, 78, 79, 80, 81, 82, 83, 84, 85, 86, 87] (by decide +kernel) (by decide +kernel)
set_option maxRecDepth 20000 in
theorem gX5_when_X5_left : GoodIn wsX5_when (wsV RX5 72 RX5 yX5_left wsX5_left) := goodIn_app (goodIn_of _ (by decide +kernel)) ggX5_when_X5_left
set_option maxRecDepth 20000 in
theorem ggX5_when_X5_dayBut : GoodIn wsX5_when wsX5_dayBut := goodIn_r _ [33, 3, 34, 35, 36, 9, 37, 26, 27, 28, 29, 38, 39, 40, 41, 42, 43, 44, 45, 46, 47, 48, 49, 50, 51, 52, 53, 54, 55, 56, 57, 58, 22, 23, 24, 25, 59, 60, 61, 62, 63, 64, 65, 66, 67, 68, 69, 70, 71, 72, 73, 74, 75, 76, 77, 78, 79, 80, 81, 82, 83, 84, 85, 86, 87] (by decide +kernel) (by decide +kernel)
set_option maxRecDepth 20000 in
theorem gX5_when_X5_dayBut : GoodIn wsX5_when (wsV RX5 125 RX5 yX5_dayBut wsX5_dayBut) := goodIn_app (goodIn_of _ (by decide +kernel)) ggX5_when_X5_dayBut
theorem dX5_when_0 : decode cX5_when 0 = .ok (.aload_n 0, 1) := by decide +kernel
theorem dX5_when_1 : decode cX5_when 1 = .ok (.iload_n 1, 1) := by decide +kernel
theorem dX5_when_2 : decode cX5_when 2 = .ok (.invokevirtual 78, 3) := by decide +kernel
theorem dX5_when_5 : decode cX5_when 5 = .ok (.ifCond .eq 15, 3) := by decide +kernel
theorem dX5_when_8 : decode cX5_when 8 = .ok (.iload_n 2, 1) := by decide +kernel
theorem dX5_when_9 : decode cX5_when 9 = .ok (.i2l, 1) := by decide +kernel
theorem dX5_when_10 : decode cX5_when 10 = .ok (.lconst 0, 1) := by decide +kernel
theorem dX5_when_11 : decode cX5_when 11 = .ok (.ldc2_w 160, 3) := by decide +kernel
theorem dX5_when_14 : decode cX5_when 14 = .ok (.invokestatic 45, 3) := by decide +kernel
theorem dX5_when_17 : decode cX5_when 17 = .ok (.ifCond .ne 10, 3) := by decide +kernel
theorem dX5_when_20 : decode cX5_when 20 = .ok (.aload_n 0, 1) := by decide +kernel
theorem dX5_when_21 : decode cX5_when 21 = .ok (.ldc 37, 2) := by decide +kernel
theorem dX5_when_23 : decode cX5_when 23 = .ok (.invokevirtual 39, 3) := by decide +kernel
theorem dX5_when_26 : decode cX5_when 26 = .ok (.ireturn, 1) := by decide +kernel
theorem dX5_when_27 : decode cX5_when 27 = .ok (.aload_n 0, 1) := by decide +kernel
theorem dX5_when_28 : decode cX5_when 28 = .ok (.getfield 7, 3) := by decide +kernel
theorem dX5_when_31 : decode cX5_when 31 = .ok (.aload_n 0, 1) := by decide +kernel
theorem dX5_when_32 : decode cX5_when 32 = .ok (.getfield 19, 3) := by decide +kernel
theorem dX5_when_35 : decode cX5_when 35 = .ok (.invokestatic 150, 3) := by decide +kernel
theorem dX5_when_38 : decode cX5_when 38 = .ok (.iconst 0, 1) := by decide +kernel
theorem dX5_when_39 : decode cX5_when 39 = .ok (.istore_n 3, 1) := by decide +kernel
theorem dX5_when_40 : decode cX5_when 40 = .ok (.iload_n 3, 1) := by decide +kernel
theorem dX5_when_41 : decode cX5_when 41 = .ok (.bipush 100, 2) := by decide +kernel
theorem dX5_when_43 : decode cX5_when 43 = .ok (.if_icmp .gt 23, 3) := by decide +kernel
theorem dX5_when_46 : decode cX5_when 46 = .ok (.aload_n 0, 1) := by decide +kernel
theorem dX5_when_47 : decode cX5_when 47 = .ok (.iload_n 1, 1) := by decide +kernel
theorem dX5_when_48 : decode cX5_when 48 = .ok (.invokevirtual 72, 3) := by decide +kernel
theorem dX5_when_51 : decode cX5_when 51 = .ok (.iload_n 2, 1) := by decide +kernel
theorem dX5_when_52 : decode cX5_when 52 = .ok (.if_icmp .ge 14, 3) := by decide +kernel
theorem dX5_when_55 : decode cX5_when 55 = .ok (.aload_n 0, 1) := by decide +kernel
theorem dX5_when_56 : decode cX5_when 56 = .ok (.iconst 0, 1) := by decide +kernel
theorem dX5_when_57 : decode cX5_when 57 = .ok (.invokevirtual 125, 3) := by decide +kernel
theorem dX5_when_60 : decode cX5_when 60 = .ok (.iinc 3 1, 3) := by decide +kernel
theorem dX5_when_63 : decode cX5_when 63 = .ok (.goto (-23), 3) := by decide +kernel
theorem dX5_when_66 : decode cX5_when 66 = .ok (.aload_n 0, 1) := by decide +kernel
theorem dX5_when_67 : decode cX5_when 67 = .ok (.getfield 19, 3) := by decide +kernel
theorem dX5_when_70 : decode cX5_when 70 = .ok (.aload_n 0, 1) := by decide +kernel
theorem dX5_when_71 : decode cX5_when 71 = .ok (.getfield 7, 3) := by decide +kernel
theorem dX5_when_74 : decode cX5_when 74 = .ok (.invokestatic 150, 3) := by decide +kernel
theorem dX5_when_77 : decode cX5_when 77 = .ok (.iload_n 3, 1) := by decide +kernel
theorem dX5_when_78 : decode cX5_when 78 = .ok (.bipush 100, 2) := by decide +kernel
theorem dX5_when_80 : decode cX5_when 80 = .ok (.if_icmp .gt 7, 3) := by decide +kernel
theorem dX5_when_83 : decode cX5_when 83 = .ok (.iload_n 3, 1) := by decide +kernel
theorem dX5_when_84 : decode cX5_when 84 = .ok (.goto 9, 3) := by decide +kernel
theorem dX5_when_87 : decode cX5_when 87 = .ok (.aload_n 0, 1) := by decide +kernel
theorem dX5_when_88 : decode cX5_when 88 = .ok (.ldc 38, 2) := by decide +kernel
theorem dX5_when_90 : decode cX5_when 90 = .ok (.invokevirtual 39, 3) := by decide +kernel
theorem dX5_when_93 : decode cX5_when 93 = .ok (.ireturn, 1) := by decide +kernel
set_option maxRecDepth 20000 in
theorem ggX5_thin_X5_isOne : GoodIn wsX5_thin wsX5_isOne := goodIn_r _ [9, 2, 66, 67, 68, 69, 70, 71, 72, 73, 74, 75, 76, 77, 78, 79, 80, 81, 82, 83] (by decide +kernel) (by decide +kernel)
set_option maxRecDepth 20000 in
theorem gX5_thin_X5_isOne : GoodIn wsX5_thin (wsV RX5 78 RX5 yX5_isOne wsX5_isOne) := goodIn_app (goodIn_of _ (by decide +kernel)) ggX5_thin_X5_isOne
set_option maxRecDepth 20000 in
theorem ggX5_thin_X5_finds : GoodIn wsX5_thin wsX5_finds := goodIn_r _ [13, 14, 1, 66, 67, 68, 69, 70, 71, 72, 73, 74, 75, 76, 77, 78, 79, 80, 81, 82, 83] (by decide +kernel) (by decide +kernel)
set_option maxRecDepth 20000 in
theorem gX5_thin_X5_finds : GoodIn wsX5_thin (wsV RX5 39 RX5 yX5_finds wsX5_finds) := goodIn_app (goodIn_of _ (by decide +kernel)) ggX5_thin_X5_finds
set_option maxRecDepth 20000 in
theorem ggX5_thin_X5_copyRow : GoodIn wsX5_thin wsX5_copyRow := goodIn_r _ [17] (by decide +kernel) (by decide +kernel)
set_option maxRecDepth 20000 in
theorem gX5_thin_X5_copyRow : GoodIn wsX5_thin (va_wsS RX5 150 yX5_copyRow wsX5_copyRow) := goodIn_app (goodIn_of _ (by decide +kernel)) ggX5_thin_X5_copyRow
set_option maxRecDepth 20000 in
theorem ggX5_thin_X5_its : GoodIn wsX5_thin wsX5_its := goodIn_r _ [21, 2, 66, 67, 68, 69, 70, 71, 72, 73, 74, 75, 76, 77, 78, 79, 80, 81, 82, 83] (by decide +kernel) (by decide +kernel)
set_option maxRecDepth 20000 in
theorem gX5_thin_X5_its : GoodIn wsX5_thin (wsV RX5 69 RX5 yX5_its wsX5_its) := goodIn_app (goodIn_of _ (by decide +kernel)) ggX5_thin_X5_its
set_option maxRecDepth 20000 in
theorem ggX5_thin_X5_dayBut : GoodIn wsX5_thin wsX5_dayBut := goodIn_r _ [25, 2, 26, 27, 28, 8, 29, 18, 19, 20, 21, 30, 31, 32, 33, 34, 35, 36, 37, 38, 39, 40, 41, 42, 43, 44, 45, 46, 47, 48, 49, 50, 51, 52, 53, 54, 55, 56, 57, 58, 59, 60, 61, 62, 63, 64, 65, 66, 67, 68, 69, 70, 71, 72, 73, 74, 75, 76, 77, 78, 79, 80, 81, 82, 83] (by decide +kernel) (by decide +kernel)
set_option maxRecDepth 20000 in
theorem gX5_thin_X5_dayBut : GoodIn wsX5_thin (wsV RX5 125 RX5 yX5_dayBut wsX5_dayBut) := goodIn_app (goodIn_of _ (by decide +kernel)) ggX5_thin_X5_dayBut
theorem dX5_thin_0 : decode cX5_thin 0 = .ok (.aload_n 0, 1) := by decide +kernel
theorem dX5_thin_1 : decode cX5_thin 1 = .ok (.iload_n 1, 1) := by decide +kernel
theorem dX5_thin_2 : decode cX5_thin 2 = .ok (.invokevirtual 78, 3) := by decide +kernel
theorem dX5_thin_5 : decode cX5_thin 5 = .ok (.ifCond .ne 10, 3) := by decide +kernel
theorem dX5_thin_8 : decode cX5_thin 8 = .ok (.aload_n 0, 1) := by decide +kernel
theorem dX5_thin_9 : decode cX5_thin 9 = .ok (.ldc 37, 2) := by decide +kernel
theorem dX5_thin_11 : decode cX5_thin 11 = .ok (.invokevirtual 39, 3) := by decide +kernel
theorem dX5_thin_14 : decode cX5_thin 14 = .ok (.ireturn, 1) := by decide +kernel
theorem dX5_thin_15 : decode cX5_thin 15 = .ok (.aload_n 0, 1) := by decide +kernel
theorem dX5_thin_16 : decode cX5_thin 16 = .ok (.getfield 7, 3) := by decide +kernel
theorem dX5_thin_19 : decode cX5_thin 19 = .ok (.aload_n 0, 1) := by decide +kernel
theorem dX5_thin_20 : decode cX5_thin 20 = .ok (.getfield 19, 3) := by decide +kernel
theorem dX5_thin_23 : decode cX5_thin 23 = .ok (.invokestatic 150, 3) := by decide +kernel
theorem dX5_thin_26 : decode cX5_thin 26 = .ok (.iconst 0, 1) := by decide +kernel
theorem dX5_thin_27 : decode cX5_thin 27 = .ok (.istore_n 2, 1) := by decide +kernel
theorem dX5_thin_28 : decode cX5_thin 28 = .ok (.iload_n 2, 1) := by decide +kernel
theorem dX5_thin_29 : decode cX5_thin 29 = .ok (.bipush 100, 2) := by decide +kernel
theorem dX5_thin_31 : decode cX5_thin 31 = .ok (.if_icmp .gt 23, 3) := by decide +kernel
theorem dX5_thin_34 : decode cX5_thin 34 = .ok (.aload_n 0, 1) := by decide +kernel
theorem dX5_thin_35 : decode cX5_thin 35 = .ok (.iload_n 1, 1) := by decide +kernel
theorem dX5_thin_36 : decode cX5_thin 36 = .ok (.iconst 2, 1) := by decide +kernel
theorem dX5_thin_37 : decode cX5_thin 37 = .ok (.invokevirtual 69, 3) := by decide +kernel
theorem dX5_thin_40 : decode cX5_thin 40 = .ok (.ifCond .le 14, 3) := by decide +kernel
theorem dX5_thin_43 : decode cX5_thin 43 = .ok (.aload_n 0, 1) := by decide +kernel
theorem dX5_thin_44 : decode cX5_thin 44 = .ok (.iconst 0, 1) := by decide +kernel
theorem dX5_thin_45 : decode cX5_thin 45 = .ok (.invokevirtual 125, 3) := by decide +kernel
theorem dX5_thin_48 : decode cX5_thin 48 = .ok (.iinc 2 1, 3) := by decide +kernel
theorem dX5_thin_51 : decode cX5_thin 51 = .ok (.goto (-23), 3) := by decide +kernel
theorem dX5_thin_54 : decode cX5_thin 54 = .ok (.aload_n 0, 1) := by decide +kernel
theorem dX5_thin_55 : decode cX5_thin 55 = .ok (.getfield 19, 3) := by decide +kernel
theorem dX5_thin_58 : decode cX5_thin 58 = .ok (.aload_n 0, 1) := by decide +kernel
theorem dX5_thin_59 : decode cX5_thin 59 = .ok (.getfield 7, 3) := by decide +kernel
theorem dX5_thin_62 : decode cX5_thin 62 = .ok (.invokestatic 150, 3) := by decide +kernel
theorem dX5_thin_65 : decode cX5_thin 65 = .ok (.iload_n 2, 1) := by decide +kernel
theorem dX5_thin_66 : decode cX5_thin 66 = .ok (.bipush 100, 2) := by decide +kernel
theorem dX5_thin_68 : decode cX5_thin 68 = .ok (.if_icmp .gt 7, 3) := by decide +kernel
theorem dX5_thin_71 : decode cX5_thin 71 = .ok (.iload_n 2, 1) := by decide +kernel
theorem dX5_thin_72 : decode cX5_thin 72 = .ok (.goto 9, 3) := by decide +kernel
theorem dX5_thin_75 : decode cX5_thin 75 = .ok (.aload_n 0, 1) := by decide +kernel
theorem dX5_thin_76 : decode cX5_thin 76 = .ok (.ldc 38, 2) := by decide +kernel
theorem dX5_thin_78 : decode cX5_thin 78 = .ok (.invokevirtual 39, 3) := by decide +kernel
theorem dX5_thin_81 : decode cX5_thin 81 = .ok (.ireturn, 1) := by decide +kernel
set_option maxRecDepth 20000 in
theorem ggX5_isAsked_X5_isOne : GoodIn wsX5_isAsked wsX5_isOne := goodIn_r _ [6, 7, 11, 12, 13, 14, 15, 16, 17, 18, 19, 20, 21, 22, 23, 24, 25, 26, 27, 28] (by decide +kernel) (by decide +kernel)
set_option maxRecDepth 20000 in
theorem gX5_isAsked_X5_isOne : GoodIn wsX5_isAsked (wsV RX5 78 RX5 yX5_isOne wsX5_isOne) := goodIn_app (goodIn_of _ (by decide +kernel)) ggX5_isAsked_X5_isOne
set_option maxRecDepth 20000 in
theorem ggX5_isAsked_X5_isIn : GoodIn wsX5_isAsked wsX5_isIn := goodIn_r _ [10] (by decide +kernel) (by decide +kernel)
set_option maxRecDepth 20000 in
theorem gX5_isAsked_X5_isIn : GoodIn wsX5_isAsked (va_wsS RX5 45 yX5_isIn wsX5_isIn) := goodIn_app (goodIn_of _ (by decide +kernel)) ggX5_isAsked_X5_isIn
theorem dX5_isAsked_0 : decode cX5_isAsked 0 = .ok (.aload_n 0, 1) := by decide +kernel
theorem dX5_isAsked_1 : decode cX5_isAsked 1 = .ok (.iload_n 1, 1) := by decide +kernel
theorem dX5_isAsked_2 : decode cX5_isAsked 2 = .ok (.invokevirtual 78, 3) := by decide +kernel
theorem dX5_isAsked_5 : decode cX5_isAsked 5 = .ok (.ifCond .eq 19, 3) := by decide +kernel
theorem dX5_isAsked_8 : decode cX5_isAsked 8 = .ok (.iload_n 2, 1) := by decide +kernel
theorem dX5_isAsked_9 : decode cX5_isAsked 9 = .ok (.i2l, 1) := by decide +kernel
theorem dX5_isAsked_10 : decode cX5_isAsked 10 = .ok (.lconst 0, 1) := by decide +kernel
theorem dX5_isAsked_11 : decode cX5_isAsked 11 = .ok (.ldc2_w 162, 3) := by decide +kernel
theorem dX5_isAsked_14 : decode cX5_isAsked 14 = .ok (.invokestatic 45, 3) := by decide +kernel
theorem dX5_isAsked_17 : decode cX5_isAsked 17 = .ok (.ifCond .eq 7, 3) := by decide +kernel
theorem dX5_isAsked_20 : decode cX5_isAsked 20 = .ok (.iconst 1, 1) := by decide +kernel
theorem dX5_isAsked_21 : decode cX5_isAsked 21 = .ok (.goto 4, 3) := by decide +kernel
theorem dX5_isAsked_24 : decode cX5_isAsked 24 = .ok (.iconst 0, 1) := by decide +kernel
theorem dX5_isAsked_25 : decode cX5_isAsked 25 = .ok (.ireturn, 1) := by decide +kernel
set_option maxRecDepth 20000 in
theorem ggX5_love_X5_isAsked : GoodIn wsX5_love wsX5_isAsked := goodIn_r _ [7, 8, 9, 10, 11, 6, 12, 2, 13, 14, 15, 85, 86, 87, 88, 89, 90, 91, 92, 93, 94, 95, 96, 97, 98, 99, 100, 101, 102] (by decide +kernel) (by decide +kernel)
set_option maxRecDepth 20000 in
theorem gX5_love_X5_isAsked : GoodIn wsX5_love (wsV RX5 164 RX5 yX5_isAsked wsX5_isAsked) := goodIn_app (goodIn_of _ (by decide +kernel)) ggX5_love_X5_isAsked
set_option maxRecDepth 20000 in
theorem ggX5_love_X5_finds : GoodIn wsX5_love wsX5_finds := goodIn_r _ [19, 20, 1, 85, 86, 87, 88, 89, 90, 91, 92, 93, 94, 95, 96, 97, 98, 99, 100, 101, 102] (by decide +kernel) (by decide +kernel)
set_option maxRecDepth 20000 in
theorem gX5_love_X5_finds : GoodIn wsX5_love (wsV RX5 39 RX5 yX5_finds wsX5_finds) := goodIn_app (goodIn_of _ (by decide +kernel)) ggX5_love_X5_finds
set_option maxRecDepth 20000 in
theorem ggX5_love_X5_its : GoodIn wsX5_love wsX5_its := goodIn_r _ [24, 2, 85, 86, 87, 88, 89, 90, 91, 92, 93, 94, 95, 96, 97, 98, 99, 100, 101, 102] (by decide +kernel) (by decide +kernel)
set_option maxRecDepth 20000 in
theorem gX5_love_X5_its : GoodIn wsX5_love (wsV RX5 69 RX5 yX5_its wsX5_its) := goodIn_app (goodIn_of _ (by decide +kernel)) ggX5_love_X5_its
set_option maxRecDepth 20000 in
theorem ggX5_love_X5_at : GoodIn wsX5_love wsX5_at := goodIn_r _ [27] (by decide +kernel) (by decide +kernel)
set_option maxRecDepth 20000 in
theorem gX5_love_X5_at : GoodIn wsX5_love (va_wsS RX5 59 yX5_at wsX5_at) := goodIn_app (goodIn_of _ (by decide +kernel)) ggX5_love_X5_at
set_option maxRecDepth 20000 in
theorem ggX5_love_X5_leftThen : GoodIn wsX5_love wsX5_leftThen := goodIn_r _ [31, 2, 32, 33, 34, 6, 35, 36, 37, 38, 39, 40, 41, 42, 43, 44, 45, 46, 47, 21, 22, 23, 24, 48, 49, 50, 51, 25, 26, 27, 52, 53, 54, 55, 56, 57, 58, 59, 60, 61, 62, 63, 64, 65, 66, 67, 68, 69, 70, 71, 72, 73, 74, 75, 76, 77, 78, 79, 80, 81, 82, 83, 84, 85, 86, 87, 88, 89, 90, 91, 92, 93, 94, 95, 96, 97, 98, 99, 100, 101, 102] (by decide +kernel) (by decide +kernel)
set_option maxRecDepth 20000 in
theorem gX5_love_X5_leftThen : GoodIn wsX5_love (wsV RX5 168 RX5 yX5_leftThen wsX5_leftThen) := goodIn_app (goodIn_of _ (by decide +kernel)) ggX5_love_X5_leftThen
theorem dX5_love_0 : decode cX5_love 0 = .ok (.aload_n 0, 1) := by decide +kernel
theorem dX5_love_1 : decode cX5_love 1 = .ok (.iload_n 1, 1) := by decide +kernel
theorem dX5_love_2 : decode cX5_love 2 = .ok (.iload_n 2, 1) := by decide +kernel
theorem dX5_love_3 : decode cX5_love 3 = .ok (.invokevirtual 164, 3) := by decide +kernel
theorem dX5_love_6 : decode cX5_love 6 = .ok (.ifCond .ne 10, 3) := by decide +kernel
theorem dX5_love_9 : decode cX5_love 9 = .ok (.aload_n 0, 1) := by decide +kernel
theorem dX5_love_10 : decode cX5_love 10 = .ok (.ldc 37, 2) := by decide +kernel
theorem dX5_love_12 : decode cX5_love 12 = .ok (.invokevirtual 39, 3) := by decide +kernel
theorem dX5_love_15 : decode cX5_love 15 = .ok (.ireturn, 1) := by decide +kernel
theorem dX5_love_16 : decode cX5_love 16 = .ok (.aload_n 0, 1) := by decide +kernel
theorem dX5_love_17 : decode cX5_love 17 = .ok (.iload_n 1, 1) := by decide +kernel
theorem dX5_love_18 : decode cX5_love 18 = .ok (.iconst 1, 1) := by decide +kernel
theorem dX5_love_19 : decode cX5_love 19 = .ok (.invokevirtual 69, 3) := by decide +kernel
theorem dX5_love_22 : decode cX5_love 22 = .ok (.istore_n 3, 1) := by decide +kernel
theorem dX5_love_23 : decode cX5_love 23 = .ok (.bipush (-2), 2) := by decide +kernel
theorem dX5_love_25 : decode cX5_love 25 = .ok (.istore 4, 2) := by decide +kernel
theorem dX5_love_27 : decode cX5_love 27 = .ok (.iconst 0, 1) := by decide +kernel
theorem dX5_love_28 : decode cX5_love 28 = .ok (.istore 5, 2) := by decide +kernel
theorem dX5_love_30 : decode cX5_love 30 = .ok (.iconst 0, 1) := by decide +kernel
theorem dX5_love_31 : decode cX5_love 31 = .ok (.istore 6, 2) := by decide +kernel
theorem dX5_love_33 : decode cX5_love 33 = .ok (.iload 6, 2) := by decide +kernel
theorem dX5_love_35 : decode cX5_love 35 = .ok (.aload_n 0, 1) := by decide +kernel
theorem dX5_love_36 : decode cX5_love 36 = .ok (.getfield 7, 3) := by decide +kernel
theorem dX5_love_39 : decode cX5_love 39 = .ok (.iconst 0, 1) := by decide +kernel
theorem dX5_love_40 : decode cX5_love 40 = .ok (.iaload, 1) := by decide +kernel
theorem dX5_love_41 : decode cX5_love 41 = .ok (.if_icmp .gt 102, 3) := by decide +kernel
theorem dX5_love_44 : decode cX5_love 44 = .ok (.iload 6, 2) := by decide +kernel
theorem dX5_love_46 : decode cX5_love 46 = .ok (.aload_n 0, 1) := by decide +kernel
theorem dX5_love_47 : decode cX5_love 47 = .ok (.getfield 7, 3) := by decide +kernel
theorem dX5_love_50 : decode cX5_love 50 = .ok (.iconst 0, 1) := by decide +kernel
theorem dX5_love_51 : decode cX5_love 51 = .ok (.iaload, 1) := by decide +kernel
theorem dX5_love_52 : decode cX5_love 52 = .ok (.if_icmp .ge 8, 3) := by decide +kernel
theorem dX5_love_55 : decode cX5_love 55 = .ok (.iload 6, 2) := by decide +kernel
theorem dX5_love_57 : decode cX5_love 57 = .ok (.goto 4, 3) := by decide +kernel
theorem dX5_love_60 : decode cX5_love 60 = .ok (.iconst (-1), 1) := by decide +kernel
theorem dX5_love_61 : decode cX5_love 61 = .ok (.istore 7, 2) := by decide +kernel
theorem dX5_love_63 : decode cX5_love 63 = .ok (.iload 7, 2) := by decide +kernel
theorem dX5_love_65 : decode cX5_love 65 = .ok (.iload_n 1, 1) := by decide +kernel
theorem dX5_love_66 : decode cX5_love 66 = .ok (.if_icmp .eq 71, 3) := by decide +kernel
theorem dX5_love_69 : decode cX5_love 69 = .ok (.aload_n 0, 1) := by decide +kernel
theorem dX5_love_70 : decode cX5_love 70 = .ok (.getfield 7, 3) := by decide +kernel
theorem dX5_love_73 : decode cX5_love 73 = .ok (.iload_n 1, 1) := by decide +kernel
theorem dX5_love_74 : decode cX5_love 74 = .ok (.iconst 1, 1) := by decide +kernel
theorem dX5_love_75 : decode cX5_love 75 = .ok (.invokestatic 59, 3) := by decide +kernel
theorem dX5_love_78 : decode cX5_love 78 = .ok (.iload 7, 2) := by decide +kernel
theorem dX5_love_80 : decode cX5_love 80 = .ok (.iastore, 1) := by decide +kernel
theorem dX5_love_81 : decode cX5_love 81 = .ok (.aload_n 0, 1) := by decide +kernel
theorem dX5_love_82 : decode cX5_love 82 = .ok (.iload_n 2, 1) := by decide +kernel
theorem dX5_love_83 : decode cX5_love 83 = .ok (.invokevirtual 168, 3) := by decide +kernel
theorem dX5_love_86 : decode cX5_love 86 = .ok (.istore 8, 2) := by decide +kernel
theorem dX5_love_88 : decode cX5_love 88 = .ok (.iload 4, 2) := by decide +kernel
theorem dX5_love_90 : decode cX5_love 90 = .ok (.bipush (-2), 2) := by decide +kernel
theorem dX5_love_92 : decode cX5_love 92 = .ok (.if_icmp .eq 10, 3) := by decide +kernel
theorem dX5_love_95 : decode cX5_love 95 = .ok (.iload 8, 2) := by decide +kernel
theorem dX5_love_97 : decode cX5_love 97 = .ok (.iload 5, 2) := by decide +kernel
theorem dX5_love_99 : decode cX5_love 99 = .ok (.if_icmp .ge 7, 3) := by decide +kernel
theorem dX5_love_102 : decode cX5_love 102 = .ok (.iconst 1, 1) := by decide +kernel
theorem dX5_love_103 : decode cX5_love 103 = .ok (.goto 4, 3) := by decide +kernel
theorem dX5_love_106 : decode cX5_love 106 = .ok (.iconst 0, 1) := by decide +kernel
theorem dX5_love_107 : decode cX5_love 107 = .ok (.istore 9, 2) := by decide +kernel
theorem dX5_love_109 : decode cX5_love 109 = .ok (.iload 9, 2) := by decide +kernel
theorem dX5_love_111 : decode cX5_love 111 = .ok (.ifCond .eq 8, 3) := by decide +kernel
theorem dX5_love_114 : decode cX5_love 114 = .ok (.iload 7, 2) := by decide +kernel
theorem dX5_love_116 : decode cX5_love 116 = .ok (.goto 5, 3) := by decide +kernel
theorem dX5_love_119 : decode cX5_love 119 = .ok (.iload 4, 2) := by decide +kernel
theorem dX5_love_121 : decode cX5_love 121 = .ok (.istore 4, 2) := by decide +kernel
theorem dX5_love_123 : decode cX5_love 123 = .ok (.iload 9, 2) := by decide +kernel
theorem dX5_love_125 : decode cX5_love 125 = .ok (.ifCond .eq 8, 3) := by decide +kernel
theorem dX5_love_128 : decode cX5_love 128 = .ok (.iload 8, 2) := by decide +kernel
theorem dX5_love_130 : decode cX5_love 130 = .ok (.goto 5, 3) := by decide +kernel
theorem dX5_love_133 : decode cX5_love 133 = .ok (.iload 5, 2) := by decide +kernel
theorem dX5_love_135 : decode cX5_love 135 = .ok (.istore 5, 2) := by decide +kernel
theorem dX5_love_137 : decode cX5_love 137 = .ok (.iinc 6 1, 3) := by decide +kernel
theorem dX5_love_140 : decode cX5_love 140 = .ok (.goto (-107), 3) := by decide +kernel
theorem dX5_love_143 : decode cX5_love 143 = .ok (.aload_n 0, 1) := by decide +kernel
theorem dX5_love_144 : decode cX5_love 144 = .ok (.getfield 7, 3) := by decide +kernel
theorem dX5_love_147 : decode cX5_love 147 = .ok (.iload_n 1, 1) := by decide +kernel
theorem dX5_love_148 : decode cX5_love 148 = .ok (.iconst 1, 1) := by decide +kernel
theorem dX5_love_149 : decode cX5_love 149 = .ok (.invokestatic 59, 3) := by decide +kernel
theorem dX5_love_152 : decode cX5_love 152 = .ok (.iload_n 3, 1) := by decide +kernel
theorem dX5_love_153 : decode cX5_love 153 = .ok (.iastore, 1) := by decide +kernel
theorem dX5_love_154 : decode cX5_love 154 = .ok (.iload 4, 2) := by decide +kernel
theorem dX5_love_156 : decode cX5_love 156 = .ok (.ireturn, 1) := by decide +kernel
set_option maxRecDepth 20000 in
theorem ggX5_kindFor_X5_isAsked : GoodIn wsX5_kindFor wsX5_isAsked := goodIn_r _ [7, 8, 9, 10, 11, 6, 12, 2, 13, 14, 15, 81, 82, 83, 84, 85, 86, 87, 88, 89, 90, 91, 92, 93, 94, 95, 96, 97, 98] (by decide +kernel) (by decide +kernel)
set_option maxRecDepth 20000 in
theorem gX5_kindFor_X5_isAsked : GoodIn wsX5_kindFor (wsV RX5 164 RX5 yX5_isAsked wsX5_isAsked) := goodIn_app (goodIn_of _ (by decide +kernel)) ggX5_kindFor_X5_isAsked
set_option maxRecDepth 20000 in
theorem ggX5_kindFor_X5_finds : GoodIn wsX5_kindFor wsX5_finds := goodIn_r _ [19, 20, 1, 81, 82, 83, 84, 85, 86, 87, 88, 89, 90, 91, 92, 93, 94, 95, 96, 97, 98] (by decide +kernel) (by decide +kernel)
set_option maxRecDepth 20000 in
theorem gX5_kindFor_X5_finds : GoodIn wsX5_kindFor (wsV RX5 39 RX5 yX5_finds wsX5_finds) := goodIn_app (goodIn_of _ (by decide +kernel)) ggX5_kindFor_X5_finds
set_option maxRecDepth 20000 in
theorem ggX5_kindFor_X5_its : GoodIn wsX5_kindFor wsX5_its := goodIn_r _ [24, 2, 81, 82, 83, 84, 85, 86, 87, 88, 89, 90, 91, 92, 93, 94, 95, 96, 97, 98] (by decide +kernel) (by decide +kernel)
set_option maxRecDepth 20000 in
theorem gX5_kindFor_X5_its : GoodIn wsX5_kindFor (wsV RX5 69 RX5 yX5_its wsX5_its) := goodIn_app (goodIn_of _ (by decide +kernel)) ggX5_kindFor_X5_its
set_option maxRecDepth 20000 in
theorem ggX5_kindFor_X5_at : GoodIn wsX5_kindFor wsX5_at := goodIn_r _ [27] (by decide +kernel) (by decide +kernel)
set_option maxRecDepth 20000 in
theorem gX5_kindFor_X5_at : GoodIn wsX5_kindFor (va_wsS RX5 59 yX5_at wsX5_at) := goodIn_app (goodIn_of _ (by decide +kernel)) ggX5_kindFor_X5_at
set_option maxRecDepth 20000 in
theorem ggX5_kindFor_X5_then : GoodIn wsX5_kindFor wsX5_then := goodIn_r _ [31, 2, 32, 33, 34, 6, 35, 36, 37, 38, 39, 40, 41, 42, 43, 44, 45, 46, 47, 21, 22, 23, 24, 48, 49, 50, 51, 25, 26, 27, 52, 53, 54, 55, 56, 57, 58, 59, 60, 61, 62, 63, 64, 65, 66, 67, 68, 69, 70, 71, 72, 73, 74, 75, 76, 77, 78, 79, 80, 81, 82, 83, 84, 85, 86, 87, 88, 89, 90, 91, 92, 93, 94, 95, 96, 97, 98] (by decide +kernel) (by decide +kernel)
set_option maxRecDepth 20000 in
theorem gX5_kindFor_X5_then : GoodIn wsX5_kindFor (wsV RX5 156 RX5 yX5_then wsX5_then) := goodIn_app (goodIn_of _ (by decide +kernel)) ggX5_kindFor_X5_then
theorem dX5_kindFor_0 : decode cX5_kindFor 0 = .ok (.aload_n 0, 1) := by decide +kernel
theorem dX5_kindFor_1 : decode cX5_kindFor 1 = .ok (.iload_n 1, 1) := by decide +kernel
theorem dX5_kindFor_2 : decode cX5_kindFor 2 = .ok (.iload_n 2, 1) := by decide +kernel
theorem dX5_kindFor_3 : decode cX5_kindFor 3 = .ok (.invokevirtual 164, 3) := by decide +kernel
theorem dX5_kindFor_6 : decode cX5_kindFor 6 = .ok (.ifCond .ne 10, 3) := by decide +kernel
theorem dX5_kindFor_9 : decode cX5_kindFor 9 = .ok (.aload_n 0, 1) := by decide +kernel
theorem dX5_kindFor_10 : decode cX5_kindFor 10 = .ok (.ldc 37, 2) := by decide +kernel
theorem dX5_kindFor_12 : decode cX5_kindFor 12 = .ok (.invokevirtual 39, 3) := by decide +kernel
theorem dX5_kindFor_15 : decode cX5_kindFor 15 = .ok (.ireturn, 1) := by decide +kernel
theorem dX5_kindFor_16 : decode cX5_kindFor 16 = .ok (.aload_n 0, 1) := by decide +kernel
theorem dX5_kindFor_17 : decode cX5_kindFor 17 = .ok (.iload_n 1, 1) := by decide +kernel
theorem dX5_kindFor_18 : decode cX5_kindFor 18 = .ok (.iconst 0, 1) := by decide +kernel
theorem dX5_kindFor_19 : decode cX5_kindFor 19 = .ok (.invokevirtual 69, 3) := by decide +kernel
theorem dX5_kindFor_22 : decode cX5_kindFor 22 = .ok (.istore_n 3, 1) := by decide +kernel
theorem dX5_kindFor_23 : decode cX5_kindFor 23 = .ok (.iconst (-1), 1) := by decide +kernel
theorem dX5_kindFor_24 : decode cX5_kindFor 24 = .ok (.istore 4, 2) := by decide +kernel
theorem dX5_kindFor_26 : decode cX5_kindFor 26 = .ok (.iconst 0, 1) := by decide +kernel
theorem dX5_kindFor_27 : decode cX5_kindFor 27 = .ok (.istore 5, 2) := by decide +kernel
theorem dX5_kindFor_29 : decode cX5_kindFor 29 = .ok (.iconst 0, 1) := by decide +kernel
theorem dX5_kindFor_30 : decode cX5_kindFor 30 = .ok (.istore 6, 2) := by decide +kernel
theorem dX5_kindFor_32 : decode cX5_kindFor 32 = .ok (.iload 6, 2) := by decide +kernel
theorem dX5_kindFor_34 : decode cX5_kindFor 34 = .ok (.bipush 6, 2) := by decide +kernel
theorem dX5_kindFor_36 : decode cX5_kindFor 36 = .ok (.if_icmp .gt 77, 3) := by decide +kernel
theorem dX5_kindFor_39 : decode cX5_kindFor 39 = .ok (.aload_n 0, 1) := by decide +kernel
theorem dX5_kindFor_40 : decode cX5_kindFor 40 = .ok (.getfield 7, 3) := by decide +kernel
theorem dX5_kindFor_43 : decode cX5_kindFor 43 = .ok (.iload_n 1, 1) := by decide +kernel
theorem dX5_kindFor_44 : decode cX5_kindFor 44 = .ok (.iconst 0, 1) := by decide +kernel
theorem dX5_kindFor_45 : decode cX5_kindFor 45 = .ok (.invokestatic 59, 3) := by decide +kernel
theorem dX5_kindFor_48 : decode cX5_kindFor 48 = .ok (.iload 6, 2) := by decide +kernel
theorem dX5_kindFor_50 : decode cX5_kindFor 50 = .ok (.iastore, 1) := by decide +kernel
theorem dX5_kindFor_51 : decode cX5_kindFor 51 = .ok (.aload_n 0, 1) := by decide +kernel
theorem dX5_kindFor_52 : decode cX5_kindFor 52 = .ok (.iload_n 1, 1) := by decide +kernel
theorem dX5_kindFor_53 : decode cX5_kindFor 53 = .ok (.iconst 5, 1) := by decide +kernel
theorem dX5_kindFor_54 : decode cX5_kindFor 54 = .ok (.iload_n 2, 1) := by decide +kernel
theorem dX5_kindFor_55 : decode cX5_kindFor 55 = .ok (.invokevirtual 156, 3) := by decide +kernel
theorem dX5_kindFor_58 : decode cX5_kindFor 58 = .ok (.istore 7, 2) := by decide +kernel
theorem dX5_kindFor_60 : decode cX5_kindFor 60 = .ok (.iload 4, 2) := by decide +kernel
theorem dX5_kindFor_62 : decode cX5_kindFor 62 = .ok (.ifCond .lt 10, 3) := by decide +kernel
theorem dX5_kindFor_65 : decode cX5_kindFor 65 = .ok (.iload 7, 2) := by decide +kernel
theorem dX5_kindFor_67 : decode cX5_kindFor 67 = .ok (.iload 5, 2) := by decide +kernel
theorem dX5_kindFor_69 : decode cX5_kindFor 69 = .ok (.if_icmp .ge 7, 3) := by decide +kernel
theorem dX5_kindFor_72 : decode cX5_kindFor 72 = .ok (.iconst 1, 1) := by decide +kernel
theorem dX5_kindFor_73 : decode cX5_kindFor 73 = .ok (.goto 4, 3) := by decide +kernel
theorem dX5_kindFor_76 : decode cX5_kindFor 76 = .ok (.iconst 0, 1) := by decide +kernel
theorem dX5_kindFor_77 : decode cX5_kindFor 77 = .ok (.istore 8, 2) := by decide +kernel
theorem dX5_kindFor_79 : decode cX5_kindFor 79 = .ok (.iload 8, 2) := by decide +kernel
theorem dX5_kindFor_81 : decode cX5_kindFor 81 = .ok (.ifCond .eq 8, 3) := by decide +kernel
theorem dX5_kindFor_84 : decode cX5_kindFor 84 = .ok (.iload 6, 2) := by decide +kernel
theorem dX5_kindFor_86 : decode cX5_kindFor 86 = .ok (.goto 5, 3) := by decide +kernel
theorem dX5_kindFor_89 : decode cX5_kindFor 89 = .ok (.iload 4, 2) := by decide +kernel
theorem dX5_kindFor_91 : decode cX5_kindFor 91 = .ok (.istore 4, 2) := by decide +kernel
theorem dX5_kindFor_93 : decode cX5_kindFor 93 = .ok (.iload 8, 2) := by decide +kernel
theorem dX5_kindFor_95 : decode cX5_kindFor 95 = .ok (.ifCond .eq 8, 3) := by decide +kernel
theorem dX5_kindFor_98 : decode cX5_kindFor 98 = .ok (.iload 7, 2) := by decide +kernel
theorem dX5_kindFor_100 : decode cX5_kindFor 100 = .ok (.goto 5, 3) := by decide +kernel
theorem dX5_kindFor_103 : decode cX5_kindFor 103 = .ok (.iload 5, 2) := by decide +kernel
theorem dX5_kindFor_105 : decode cX5_kindFor 105 = .ok (.istore 5, 2) := by decide +kernel
theorem dX5_kindFor_107 : decode cX5_kindFor 107 = .ok (.iinc 6 1, 3) := by decide +kernel
theorem dX5_kindFor_110 : decode cX5_kindFor 110 = .ok (.goto (-78), 3) := by decide +kernel
theorem dX5_kindFor_113 : decode cX5_kindFor 113 = .ok (.aload_n 0, 1) := by decide +kernel
theorem dX5_kindFor_114 : decode cX5_kindFor 114 = .ok (.getfield 7, 3) := by decide +kernel
theorem dX5_kindFor_117 : decode cX5_kindFor 117 = .ok (.iload_n 1, 1) := by decide +kernel
theorem dX5_kindFor_118 : decode cX5_kindFor 118 = .ok (.iconst 0, 1) := by decide +kernel
theorem dX5_kindFor_119 : decode cX5_kindFor 119 = .ok (.invokestatic 59, 3) := by decide +kernel
theorem dX5_kindFor_122 : decode cX5_kindFor 122 = .ok (.iload_n 3, 1) := by decide +kernel
theorem dX5_kindFor_123 : decode cX5_kindFor 123 = .ok (.iastore, 1) := by decide +kernel
theorem dX5_kindFor_124 : decode cX5_kindFor 124 = .ok (.iload 4, 2) := by decide +kernel
theorem dX5_kindFor_126 : decode cX5_kindFor 126 = .ok (.ireturn, 1) := by decide +kernel
set_option maxRecDepth 20000 in
theorem ggX5_vinegarFor_X5_isAsked : GoodIn wsX5_vinegarFor wsX5_isAsked := goodIn_r _ [7, 8, 9, 10, 11, 6, 12, 2, 13, 14, 15, 86, 87, 88, 89, 90, 91, 92, 93, 94, 95, 96, 97, 98, 99, 100, 101, 102, 103] (by decide +kernel) (by decide +kernel)
set_option maxRecDepth 20000 in
theorem gX5_vinegarFor_X5_isAsked : GoodIn wsX5_vinegarFor (wsV RX5 164 RX5 yX5_isAsked wsX5_isAsked) := goodIn_app (goodIn_of _ (by decide +kernel)) ggX5_vinegarFor_X5_isAsked
set_option maxRecDepth 20000 in
theorem ggX5_vinegarFor_X5_finds : GoodIn wsX5_vinegarFor wsX5_finds := goodIn_r _ [19, 20, 1, 86, 87, 88, 89, 90, 91, 92, 93, 94, 95, 96, 97, 98, 99, 100, 101, 102, 103] (by decide +kernel) (by decide +kernel)
set_option maxRecDepth 20000 in
theorem gX5_vinegarFor_X5_finds : GoodIn wsX5_vinegarFor (wsV RX5 39 RX5 yX5_finds wsX5_finds) := goodIn_app (goodIn_of _ (by decide +kernel)) ggX5_vinegarFor_X5_finds
set_option maxRecDepth 20000 in
theorem ggX5_vinegarFor_X5_then : GoodIn wsX5_vinegarFor wsX5_then := goodIn_r _ [24, 2, 25, 26, 27, 6, 28, 29, 30, 31, 32, 33, 34, 35, 36, 37, 38, 39, 40, 41, 42, 43, 44, 45, 46, 47, 48, 49, 50, 51, 52, 53, 54, 55, 56, 57, 58, 59, 60, 61, 62, 63, 64, 65, 66, 67, 68, 69, 70, 71, 72, 73, 74, 75, 76, 77, 78, 79, 80, 86, 87, 88, 89, 90, 91, 92, 93, 94, 95, 96, 97, 98, 99, 100, 101, 102, 103] (by decide +kernel) (by decide +kernel)
set_option maxRecDepth 20000 in
theorem gX5_vinegarFor_X5_then : GoodIn wsX5_vinegarFor (wsV RX5 156 RX5 yX5_then wsX5_then) := goodIn_app (goodIn_of _ (by decide +kernel)) ggX5_vinegarFor_X5_then
set_option maxRecDepth 20000 in
theorem ggX5_vinegarFor_X5_orNone : GoodIn wsX5_vinegarFor wsX5_orNone := goodIn_r _ [84, 85, 16, 17, 18, 6, 19, 20, 1, 86, 87, 88, 89, 90, 91, 92, 93, 94, 95, 96, 97, 98, 99, 100, 101, 102, 103] (by decide +kernel) (by decide +kernel)
set_option maxRecDepth 20000 in
theorem gX5_vinegarFor_X5_orNone : GoodIn wsX5_vinegarFor (wsV RX5 171 RX5 yX5_orNone wsX5_orNone) := goodIn_app (goodIn_of _ (by decide +kernel)) ggX5_vinegarFor_X5_orNone
theorem dX5_vinegarFor_0 : decode cX5_vinegarFor 0 = .ok (.aload_n 0, 1) := by decide +kernel
theorem dX5_vinegarFor_1 : decode cX5_vinegarFor 1 = .ok (.iload_n 1, 1) := by decide +kernel
theorem dX5_vinegarFor_2 : decode cX5_vinegarFor 2 = .ok (.iload_n 2, 1) := by decide +kernel
theorem dX5_vinegarFor_3 : decode cX5_vinegarFor 3 = .ok (.invokevirtual 164, 3) := by decide +kernel
theorem dX5_vinegarFor_6 : decode cX5_vinegarFor 6 = .ok (.ifCond .ne 10, 3) := by decide +kernel
theorem dX5_vinegarFor_9 : decode cX5_vinegarFor 9 = .ok (.aload_n 0, 1) := by decide +kernel
theorem dX5_vinegarFor_10 : decode cX5_vinegarFor 10 = .ok (.ldc 37, 2) := by decide +kernel
theorem dX5_vinegarFor_12 : decode cX5_vinegarFor 12 = .ok (.invokevirtual 39, 3) := by decide +kernel
theorem dX5_vinegarFor_15 : decode cX5_vinegarFor 15 = .ok (.ireturn, 1) := by decide +kernel
theorem dX5_vinegarFor_16 : decode cX5_vinegarFor 16 = .ok (.aload_n 0, 1) := by decide +kernel
theorem dX5_vinegarFor_17 : decode cX5_vinegarFor 17 = .ok (.getfield 7, 3) := by decide +kernel
theorem dX5_vinegarFor_20 : decode cX5_vinegarFor 20 = .ok (.iconst 3, 1) := by decide +kernel
theorem dX5_vinegarFor_21 : decode cX5_vinegarFor 21 = .ok (.iaload, 1) := by decide +kernel
theorem dX5_vinegarFor_22 : decode cX5_vinegarFor 22 = .ok (.istore_n 3, 1) := by decide +kernel
theorem dX5_vinegarFor_23 : decode cX5_vinegarFor 23 = .ok (.iconst (-1), 1) := by decide +kernel
theorem dX5_vinegarFor_24 : decode cX5_vinegarFor 24 = .ok (.istore 4, 2) := by decide +kernel
theorem dX5_vinegarFor_26 : decode cX5_vinegarFor 26 = .ok (.bipush 9, 2) := by decide +kernel
theorem dX5_vinegarFor_28 : decode cX5_vinegarFor 28 = .ok (.istore 5, 2) := by decide +kernel
theorem dX5_vinegarFor_30 : decode cX5_vinegarFor 30 = .ok (.iload 5, 2) := by decide +kernel
theorem dX5_vinegarFor_32 : decode cX5_vinegarFor 32 = .ok (.ifCond .lt 40, 3) := by decide +kernel
theorem dX5_vinegarFor_35 : decode cX5_vinegarFor 35 = .ok (.iload 4, 2) := by decide +kernel
theorem dX5_vinegarFor_37 : decode cX5_vinegarFor 37 = .ok (.ifCond .ge 35, 3) := by decide +kernel
theorem dX5_vinegarFor_40 : decode cX5_vinegarFor 40 = .ok (.aload_n 0, 1) := by decide +kernel
theorem dX5_vinegarFor_41 : decode cX5_vinegarFor 41 = .ok (.getfield 7, 3) := by decide +kernel
theorem dX5_vinegarFor_44 : decode cX5_vinegarFor 44 = .ok (.iconst 3, 1) := by decide +kernel
theorem dX5_vinegarFor_45 : decode cX5_vinegarFor 45 = .ok (.iload 5, 2) := by decide +kernel
theorem dX5_vinegarFor_47 : decode cX5_vinegarFor 47 = .ok (.iastore, 1) := by decide +kernel
theorem dX5_vinegarFor_48 : decode cX5_vinegarFor 48 = .ok (.aload_n 0, 1) := by decide +kernel
theorem dX5_vinegarFor_49 : decode cX5_vinegarFor 49 = .ok (.iload_n 1, 1) := by decide +kernel
theorem dX5_vinegarFor_50 : decode cX5_vinegarFor 50 = .ok (.iconst 5, 1) := by decide +kernel
theorem dX5_vinegarFor_51 : decode cX5_vinegarFor 51 = .ok (.iload_n 2, 1) := by decide +kernel
theorem dX5_vinegarFor_52 : decode cX5_vinegarFor 52 = .ok (.invokevirtual 156, 3) := by decide +kernel
theorem dX5_vinegarFor_55 : decode cX5_vinegarFor 55 = .ok (.ifCond .ne 8, 3) := by decide +kernel
theorem dX5_vinegarFor_58 : decode cX5_vinegarFor 58 = .ok (.iload 5, 2) := by decide +kernel
theorem dX5_vinegarFor_60 : decode cX5_vinegarFor 60 = .ok (.goto 4, 3) := by decide +kernel
theorem dX5_vinegarFor_63 : decode cX5_vinegarFor 63 = .ok (.iconst (-1), 1) := by decide +kernel
theorem dX5_vinegarFor_64 : decode cX5_vinegarFor 64 = .ok (.istore 4, 2) := by decide +kernel
theorem dX5_vinegarFor_66 : decode cX5_vinegarFor 66 = .ok (.iinc 5 (-1), 3) := by decide +kernel
theorem dX5_vinegarFor_69 : decode cX5_vinegarFor 69 = .ok (.goto (-39), 3) := by decide +kernel
theorem dX5_vinegarFor_72 : decode cX5_vinegarFor 72 = .ok (.aload_n 0, 1) := by decide +kernel
theorem dX5_vinegarFor_73 : decode cX5_vinegarFor 73 = .ok (.getfield 7, 3) := by decide +kernel
theorem dX5_vinegarFor_76 : decode cX5_vinegarFor 76 = .ok (.iconst 3, 1) := by decide +kernel
theorem dX5_vinegarFor_77 : decode cX5_vinegarFor 77 = .ok (.iload_n 3, 1) := by decide +kernel
theorem dX5_vinegarFor_78 : decode cX5_vinegarFor 78 = .ok (.iastore, 1) := by decide +kernel
theorem dX5_vinegarFor_79 : decode cX5_vinegarFor 79 = .ok (.aload_n 0, 1) := by decide +kernel
theorem dX5_vinegarFor_80 : decode cX5_vinegarFor 80 = .ok (.iload 4, 2) := by decide +kernel
theorem dX5_vinegarFor_82 : decode cX5_vinegarFor 82 = .ok (.invokevirtual 171, 3) := by decide +kernel
theorem dX5_vinegarFor_85 : decode cX5_vinegarFor 85 = .ok (.ireturn, 1) := by decide +kernel
set_option maxRecDepth 20000 in
theorem ggX5_unsay_X5_isIn : GoodIn wsX5_unsay wsX5_isIn := goodIn_r _ [7] (by decide +kernel) (by decide +kernel)
set_option maxRecDepth 20000 in
theorem gX5_unsay_X5_isIn : GoodIn wsX5_unsay (va_wsS RX5 45 yX5_isIn wsX5_isIn) := goodIn_app (goodIn_of _ (by decide +kernel)) ggX5_unsay_X5_isIn
set_option maxRecDepth 20000 in
theorem ggX5_unsay_X5_finds : GoodIn wsX5_unsay wsX5_finds := goodIn_r _ [11, 12, 2, 81, 82, 83, 84, 85, 86, 87, 88, 89, 90, 91, 92, 93, 94, 95, 96, 97, 98] (by decide +kernel) (by decide +kernel)
set_option maxRecDepth 20000 in
theorem gX5_unsay_X5_finds : GoodIn wsX5_unsay (wsV RX5 39 RX5 yX5_finds wsX5_finds) := goodIn_app (goodIn_of _ (by decide +kernel)) ggX5_unsay_X5_finds
set_option maxRecDepth 20000 in
theorem ggX5_unsay_X5_becomes : GoodIn wsX5_unsay wsX5_becomes := goodIn_r _ [16, 3, 81, 82, 83, 84, 85, 86, 87, 88, 89, 90, 91, 92, 93, 94, 95, 96, 97, 98] (by decide +kernel) (by decide +kernel)
set_option maxRecDepth 20000 in
theorem gX5_unsay_X5_becomes : GoodIn wsX5_unsay (wsV RX5 49 RX5 yX5_becomes wsX5_becomes) := goodIn_app (goodIn_of _ (by decide +kernel)) ggX5_unsay_X5_becomes
set_option maxRecDepth 20000 in
theorem ggX5_unsay_X5_leftThen : GoodIn wsX5_unsay wsX5_leftThen := goodIn_r _ [20, 3, 21, 22, 23, 6, 24, 25, 26, 27, 28, 29, 30, 31, 32, 33, 34, 35, 36, 37, 38, 39, 40, 41, 42, 43, 44, 45, 46, 47, 48, 49, 50, 51, 52, 53, 54, 55, 56, 57, 58, 59, 60, 61, 62, 63, 64, 65, 66, 67, 68, 69, 70, 71, 72, 73, 74, 75, 76, 77, 78, 79, 80, 81, 82, 83, 84, 85, 86, 87, 88, 89, 90, 91, 92, 93, 94, 95, 96, 97, 98] (by decide +kernel) (by decide +kernel)
set_option maxRecDepth 20000 in
theorem gX5_unsay_X5_leftThen : GoodIn wsX5_unsay (wsV RX5 168 RX5 yX5_leftThen wsX5_leftThen) := goodIn_app (goodIn_of _ (by decide +kernel)) ggX5_unsay_X5_leftThen
theorem dX5_unsay_0 : decode cX5_unsay 0 = .ok (.iload_n 1, 1) := by decide +kernel
theorem dX5_unsay_1 : decode cX5_unsay 1 = .ok (.i2l, 1) := by decide +kernel
theorem dX5_unsay_2 : decode cX5_unsay 2 = .ok (.lconst 0, 1) := by decide +kernel
theorem dX5_unsay_3 : decode cX5_unsay 3 = .ok (.ldc2_w 162, 3) := by decide +kernel
theorem dX5_unsay_6 : decode cX5_unsay 6 = .ok (.invokestatic 45, 3) := by decide +kernel
theorem dX5_unsay_9 : decode cX5_unsay 9 = .ok (.ifCond .ne 10, 3) := by decide +kernel
theorem dX5_unsay_12 : decode cX5_unsay 12 = .ok (.aload_n 0, 1) := by decide +kernel
theorem dX5_unsay_13 : decode cX5_unsay 13 = .ok (.ldc 37, 2) := by decide +kernel
theorem dX5_unsay_15 : decode cX5_unsay 15 = .ok (.invokevirtual 39, 3) := by decide +kernel
theorem dX5_unsay_18 : decode cX5_unsay 18 = .ok (.ireturn, 1) := by decide +kernel
theorem dX5_unsay_19 : decode cX5_unsay 19 = .ok (.iconst (-1), 1) := by decide +kernel
theorem dX5_unsay_20 : decode cX5_unsay 20 = .ok (.istore_n 2, 1) := by decide +kernel
theorem dX5_unsay_21 : decode cX5_unsay 21 = .ok (.iconst 0, 1) := by decide +kernel
theorem dX5_unsay_22 : decode cX5_unsay 22 = .ok (.istore_n 3, 1) := by decide +kernel
theorem dX5_unsay_23 : decode cX5_unsay 23 = .ok (.iconst 0, 1) := by decide +kernel
theorem dX5_unsay_24 : decode cX5_unsay 24 = .ok (.istore 4, 2) := by decide +kernel
theorem dX5_unsay_26 : decode cX5_unsay 26 = .ok (.iload 4, 2) := by decide +kernel
theorem dX5_unsay_28 : decode cX5_unsay 28 = .ok (.bipush 6, 2) := by decide +kernel
theorem dX5_unsay_30 : decode cX5_unsay 30 = .ok (.if_icmp .ge 79, 3) := by decide +kernel
theorem dX5_unsay_33 : decode cX5_unsay 33 = .ok (.aload_n 0, 1) := by decide +kernel
theorem dX5_unsay_34 : decode cX5_unsay 34 = .ok (.iconst 4, 1) := by decide +kernel
theorem dX5_unsay_35 : decode cX5_unsay 35 = .ok (.iload 4, 2) := by decide +kernel
theorem dX5_unsay_37 : decode cX5_unsay 37 = .ok (.iadd, 1) := by decide +kernel
theorem dX5_unsay_38 : decode cX5_unsay 38 = .ok (.iconst 0, 1) := by decide +kernel
theorem dX5_unsay_39 : decode cX5_unsay 39 = .ok (.invokevirtual 49, 3) := by decide +kernel
theorem dX5_unsay_42 : decode cX5_unsay 42 = .ok (.istore 5, 2) := by decide +kernel
theorem dX5_unsay_44 : decode cX5_unsay 44 = .ok (.aload_n 0, 1) := by decide +kernel
theorem dX5_unsay_45 : decode cX5_unsay 45 = .ok (.iload_n 1, 1) := by decide +kernel
theorem dX5_unsay_46 : decode cX5_unsay 46 = .ok (.invokevirtual 168, 3) := by decide +kernel
theorem dX5_unsay_49 : decode cX5_unsay 49 = .ok (.istore 6, 2) := by decide +kernel
theorem dX5_unsay_51 : decode cX5_unsay 51 = .ok (.aload_n 0, 1) := by decide +kernel
theorem dX5_unsay_52 : decode cX5_unsay 52 = .ok (.getfield 7, 3) := by decide +kernel
theorem dX5_unsay_55 : decode cX5_unsay 55 = .ok (.iconst 4, 1) := by decide +kernel
theorem dX5_unsay_56 : decode cX5_unsay 56 = .ok (.iload 4, 2) := by decide +kernel
theorem dX5_unsay_58 : decode cX5_unsay 58 = .ok (.iadd, 1) := by decide +kernel
theorem dX5_unsay_59 : decode cX5_unsay 59 = .ok (.iload 5, 2) := by decide +kernel
theorem dX5_unsay_61 : decode cX5_unsay 61 = .ok (.iastore, 1) := by decide +kernel
theorem dX5_unsay_62 : decode cX5_unsay 62 = .ok (.iload_n 2, 1) := by decide +kernel
theorem dX5_unsay_63 : decode cX5_unsay 63 = .ok (.ifCond .lt 9, 3) := by decide +kernel
theorem dX5_unsay_66 : decode cX5_unsay 66 = .ok (.iload 6, 2) := by decide +kernel
theorem dX5_unsay_68 : decode cX5_unsay 68 = .ok (.iload_n 3, 1) := by decide +kernel
theorem dX5_unsay_69 : decode cX5_unsay 69 = .ok (.if_icmp .ge 7, 3) := by decide +kernel
theorem dX5_unsay_72 : decode cX5_unsay 72 = .ok (.iconst 1, 1) := by decide +kernel
theorem dX5_unsay_73 : decode cX5_unsay 73 = .ok (.goto 4, 3) := by decide +kernel
theorem dX5_unsay_76 : decode cX5_unsay 76 = .ok (.iconst 0, 1) := by decide +kernel
theorem dX5_unsay_77 : decode cX5_unsay 77 = .ok (.istore 7, 2) := by decide +kernel
theorem dX5_unsay_79 : decode cX5_unsay 79 = .ok (.iload 7, 2) := by decide +kernel
theorem dX5_unsay_81 : decode cX5_unsay 81 = .ok (.ifCond .eq 8, 3) := by decide +kernel
theorem dX5_unsay_84 : decode cX5_unsay 84 = .ok (.iload 4, 2) := by decide +kernel
theorem dX5_unsay_86 : decode cX5_unsay 86 = .ok (.goto 4, 3) := by decide +kernel
theorem dX5_unsay_89 : decode cX5_unsay 89 = .ok (.iload_n 2, 1) := by decide +kernel
theorem dX5_unsay_90 : decode cX5_unsay 90 = .ok (.istore_n 2, 1) := by decide +kernel
theorem dX5_unsay_91 : decode cX5_unsay 91 = .ok (.iload 7, 2) := by decide +kernel
theorem dX5_unsay_93 : decode cX5_unsay 93 = .ok (.ifCond .eq 8, 3) := by decide +kernel
theorem dX5_unsay_96 : decode cX5_unsay 96 = .ok (.iload 6, 2) := by decide +kernel
theorem dX5_unsay_98 : decode cX5_unsay 98 = .ok (.goto 4, 3) := by decide +kernel
theorem dX5_unsay_101 : decode cX5_unsay 101 = .ok (.iload_n 3, 1) := by decide +kernel
theorem dX5_unsay_102 : decode cX5_unsay 102 = .ok (.istore_n 3, 1) := by decide +kernel
theorem dX5_unsay_103 : decode cX5_unsay 103 = .ok (.iinc 4 1, 3) := by decide +kernel
theorem dX5_unsay_106 : decode cX5_unsay 106 = .ok (.goto (-80), 3) := by decide +kernel
theorem dX5_unsay_109 : decode cX5_unsay 109 = .ok (.iload_n 2, 1) := by decide +kernel
theorem dX5_unsay_110 : decode cX5_unsay 110 = .ok (.ireturn, 1) := by decide +kernel
set_option maxRecDepth 20000 in
theorem ggX5_silence_X5_isOne : GoodIn wsX5_silence wsX5_isOne := goodIn_r _ [9, 3, 77, 78, 79, 80, 81, 82, 83, 84, 85, 86, 87, 88, 89, 90, 91, 92, 93, 94] (by decide +kernel) (by decide +kernel)
set_option maxRecDepth 20000 in
theorem gX5_silence_X5_isOne : GoodIn wsX5_silence (wsV RX5 78 RX5 yX5_isOne wsX5_isOne) := goodIn_app (goodIn_of _ (by decide +kernel)) ggX5_silence_X5_isOne
set_option maxRecDepth 20000 in
theorem ggX5_silence_X5_isIn : GoodIn wsX5_silence wsX5_isIn := goodIn_r _ [12] (by decide +kernel) (by decide +kernel)
set_option maxRecDepth 20000 in
theorem gX5_silence_X5_isIn : GoodIn wsX5_silence (va_wsS RX5 45 yX5_isIn wsX5_isIn) := goodIn_app (goodIn_of _ (by decide +kernel)) ggX5_silence_X5_isIn
set_option maxRecDepth 20000 in
theorem ggX5_silence_X5_finds : GoodIn wsX5_silence wsX5_finds := goodIn_r _ [16, 17, 2, 77, 78, 79, 80, 81, 82, 83, 84, 85, 86, 87, 88, 89, 90, 91, 92, 93, 94] (by decide +kernel) (by decide +kernel)
set_option maxRecDepth 20000 in
theorem gX5_silence_X5_finds : GoodIn wsX5_silence (wsV RX5 39 RX5 yX5_finds wsX5_finds) := goodIn_app (goodIn_of _ (by decide +kernel)) ggX5_silence_X5_finds
set_option maxRecDepth 20000 in
theorem ggX5_silence_X5_copyRow : GoodIn wsX5_silence wsX5_copyRow := goodIn_r _ [20] (by decide +kernel) (by decide +kernel)
set_option maxRecDepth 20000 in
theorem gX5_silence_X5_copyRow : GoodIn wsX5_silence (va_wsS RX5 150 yX5_copyRow wsX5_copyRow) := goodIn_app (goodIn_of _ (by decide +kernel)) ggX5_silence_X5_copyRow
set_option maxRecDepth 20000 in
theorem ggX5_silence_X5_many : GoodIn wsX5_silence wsX5_many := goodIn_r _ [23] (by decide +kernel) (by decide +kernel)
set_option maxRecDepth 20000 in
theorem gX5_silence_X5_many : GoodIn wsX5_silence (va_wsS RX5 176 yX5_many wsX5_many) := goodIn_app (goodIn_of _ (by decide +kernel)) ggX5_silence_X5_many
set_option maxRecDepth 20000 in
theorem ggX5_silence_X5_dayBut : GoodIn wsX5_silence wsX5_dayBut := goodIn_r _ [27, 3, 28, 29, 30, 8, 31, 32, 33, 34, 35, 36, 37, 38, 39, 40, 41, 42, 43, 44, 45, 46, 47, 48, 49, 50, 51, 52, 53, 54, 55, 56, 57, 58, 59, 60, 61, 62, 63, 64, 65, 66, 67, 68, 69, 70, 71, 77, 78, 79, 80, 81, 82, 83, 84, 85, 86, 87, 88, 89, 90, 91, 92, 93, 94] (by decide +kernel) (by decide +kernel)
set_option maxRecDepth 20000 in
theorem gX5_silence_X5_dayBut : GoodIn wsX5_silence (wsV RX5 125 RX5 yX5_dayBut wsX5_dayBut) := goodIn_app (goodIn_of _ (by decide +kernel)) ggX5_silence_X5_dayBut
set_option maxRecDepth 20000 in
theorem ggX5_silence_X5_left : GoodIn wsX5_silence wsX5_left := goodIn_r _ [60, 32, 33, 34, 8, 35, 3, 77, 78, 79, 80, 81, 82, 83, 84, 85, 86, 87, 88, 89, 90, 91, 92, 93, 94] (by decide +kernel) (by decide +kernel)
set_option maxRecDepth 20000 in
theorem gX5_silence_X5_left : GoodIn wsX5_silence (wsV RX5 72 RX5 yX5_left wsX5_left) := goodIn_app (goodIn_of _ (by decide +kernel)) ggX5_silence_X5_left
set_option maxRecDepth 20000 in
theorem ggX5_silence_X5_orNone : GoodIn wsX5_silence wsX5_orNone := goodIn_r _ [75, 76, 13, 14, 15, 8, 16, 17, 2, 77, 78, 79, 80, 81, 82, 83, 84, 85, 86, 87, 88, 89, 90, 91, 92, 93, 94] (by decide +kernel) (by decide +kernel)
set_option maxRecDepth 20000 in
theorem gX5_silence_X5_orNone : GoodIn wsX5_silence (wsV RX5 171 RX5 yX5_orNone wsX5_orNone) := goodIn_app (goodIn_of _ (by decide +kernel)) ggX5_silence_X5_orNone
theorem dX5_silence_0 : decode cX5_silence 0 = .ok (.aload_n 0, 1) := by decide +kernel
theorem dX5_silence_1 : decode cX5_silence 1 = .ok (.iload_n 1, 1) := by decide +kernel
theorem dX5_silence_2 : decode cX5_silence 2 = .ok (.invokevirtual 78, 3) := by decide +kernel
theorem dX5_silence_5 : decode cX5_silence 5 = .ok (.ifCond .eq 15, 3) := by decide +kernel
theorem dX5_silence_8 : decode cX5_silence 8 = .ok (.iload_n 2, 1) := by decide +kernel
theorem dX5_silence_9 : decode cX5_silence 9 = .ok (.i2l, 1) := by decide +kernel
theorem dX5_silence_10 : decode cX5_silence 10 = .ok (.lconst 0, 1) := by decide +kernel
theorem dX5_silence_11 : decode cX5_silence 11 = .ok (.ldc2_w 174, 3) := by decide +kernel
theorem dX5_silence_14 : decode cX5_silence 14 = .ok (.invokestatic 45, 3) := by decide +kernel
theorem dX5_silence_17 : decode cX5_silence 17 = .ok (.ifCond .ne 10, 3) := by decide +kernel
theorem dX5_silence_20 : decode cX5_silence 20 = .ok (.aload_n 0, 1) := by decide +kernel
theorem dX5_silence_21 : decode cX5_silence 21 = .ok (.ldc 37, 2) := by decide +kernel
theorem dX5_silence_23 : decode cX5_silence 23 = .ok (.invokevirtual 39, 3) := by decide +kernel
theorem dX5_silence_26 : decode cX5_silence 26 = .ok (.ireturn, 1) := by decide +kernel
theorem dX5_silence_27 : decode cX5_silence 27 = .ok (.iconst (-1), 1) := by decide +kernel
theorem dX5_silence_28 : decode cX5_silence 28 = .ok (.istore_n 3, 1) := by decide +kernel
theorem dX5_silence_29 : decode cX5_silence 29 = .ok (.aload_n 0, 1) := by decide +kernel
theorem dX5_silence_30 : decode cX5_silence 30 = .ok (.getfield 7, 3) := by decide +kernel
theorem dX5_silence_33 : decode cX5_silence 33 = .ok (.aload_n 0, 1) := by decide +kernel
theorem dX5_silence_34 : decode cX5_silence 34 = .ok (.getfield 19, 3) := by decide +kernel
theorem dX5_silence_37 : decode cX5_silence 37 = .ok (.invokestatic 150, 3) := by decide +kernel
theorem dX5_silence_40 : decode cX5_silence 40 = .ok (.iconst 0, 1) := by decide +kernel
theorem dX5_silence_41 : decode cX5_silence 41 = .ok (.istore 4, 2) := by decide +kernel
theorem dX5_silence_43 : decode cX5_silence 43 = .ok (.iload 4, 2) := by decide +kernel
theorem dX5_silence_45 : decode cX5_silence 45 = .ok (.iconst 1, 1) := by decide +kernel
theorem dX5_silence_46 : decode cX5_silence 46 = .ok (.aload_n 0, 1) := by decide +kernel
theorem dX5_silence_47 : decode cX5_silence 47 = .ok (.getfield 7, 3) := by decide +kernel
theorem dX5_silence_50 : decode cX5_silence 50 = .ok (.iconst 0, 1) := by decide +kernel
theorem dX5_silence_51 : decode cX5_silence 51 = .ok (.iaload, 1) := by decide +kernel
theorem dX5_silence_52 : decode cX5_silence 52 = .ok (.ishl, 1) := by decide +kernel
theorem dX5_silence_53 : decode cX5_silence 53 = .ok (.if_icmp .ge 72, 3) := by decide +kernel
theorem dX5_silence_56 : decode cX5_silence 56 = .ok (.iload_n 3, 1) := by decide +kernel
theorem dX5_silence_57 : decode cX5_silence 57 = .ok (.ifCond .lt 15, 3) := by decide +kernel
theorem dX5_silence_60 : decode cX5_silence 60 = .ok (.iload 4, 2) := by decide +kernel
theorem dX5_silence_62 : decode cX5_silence 62 = .ok (.invokestatic 176, 3) := by decide +kernel
theorem dX5_silence_65 : decode cX5_silence 65 = .ok (.iload_n 3, 1) := by decide +kernel
theorem dX5_silence_66 : decode cX5_silence 66 = .ok (.invokestatic 176, 3) := by decide +kernel
theorem dX5_silence_69 : decode cX5_silence 69 = .ok (.if_icmp .ge 50, 3) := by decide +kernel
theorem dX5_silence_72 : decode cX5_silence 72 = .ok (.iconst 0, 1) := by decide +kernel
theorem dX5_silence_73 : decode cX5_silence 73 = .ok (.istore 5, 2) := by decide +kernel
theorem dX5_silence_75 : decode cX5_silence 75 = .ok (.iload 5, 2) := by decide +kernel
theorem dX5_silence_77 : decode cX5_silence 77 = .ok (.iload_n 2, 1) := by decide +kernel
theorem dX5_silence_78 : decode cX5_silence 78 = .ok (.if_icmp .ge 15, 3) := by decide +kernel
theorem dX5_silence_81 : decode cX5_silence 81 = .ok (.aload_n 0, 1) := by decide +kernel
theorem dX5_silence_82 : decode cX5_silence 82 = .ok (.iload 4, 2) := by decide +kernel
theorem dX5_silence_84 : decode cX5_silence 84 = .ok (.invokevirtual 125, 3) := by decide +kernel
theorem dX5_silence_87 : decode cX5_silence 87 = .ok (.iinc 5 1, 3) := by decide +kernel
theorem dX5_silence_90 : decode cX5_silence 90 = .ok (.goto (-15), 3) := by decide +kernel
theorem dX5_silence_93 : decode cX5_silence 93 = .ok (.aload_n 0, 1) := by decide +kernel
theorem dX5_silence_94 : decode cX5_silence 94 = .ok (.iload_n 1, 1) := by decide +kernel
theorem dX5_silence_95 : decode cX5_silence 95 = .ok (.invokevirtual 72, 3) := by decide +kernel
theorem dX5_silence_98 : decode cX5_silence 98 = .ok (.ifCond .ne 8, 3) := by decide +kernel
theorem dX5_silence_101 : decode cX5_silence 101 = .ok (.iload 4, 2) := by decide +kernel
theorem dX5_silence_103 : decode cX5_silence 103 = .ok (.goto 4, 3) := by decide +kernel
theorem dX5_silence_106 : decode cX5_silence 106 = .ok (.iload_n 3, 1) := by decide +kernel
theorem dX5_silence_107 : decode cX5_silence 107 = .ok (.istore_n 3, 1) := by decide +kernel
theorem dX5_silence_108 : decode cX5_silence 108 = .ok (.aload_n 0, 1) := by decide +kernel
theorem dX5_silence_109 : decode cX5_silence 109 = .ok (.getfield 19, 3) := by decide +kernel
theorem dX5_silence_112 : decode cX5_silence 112 = .ok (.aload_n 0, 1) := by decide +kernel
theorem dX5_silence_113 : decode cX5_silence 113 = .ok (.getfield 7, 3) := by decide +kernel
theorem dX5_silence_116 : decode cX5_silence 116 = .ok (.invokestatic 150, 3) := by decide +kernel
theorem dX5_silence_119 : decode cX5_silence 119 = .ok (.iinc 4 1, 3) := by decide +kernel
theorem dX5_silence_122 : decode cX5_silence 122 = .ok (.goto (-79), 3) := by decide +kernel
theorem dX5_silence_125 : decode cX5_silence 125 = .ok (.aload_n 0, 1) := by decide +kernel
theorem dX5_silence_126 : decode cX5_silence 126 = .ok (.iload_n 3, 1) := by decide +kernel
theorem dX5_silence_127 : decode cX5_silence 127 = .ok (.invokevirtual 171, 3) := by decide +kernel
theorem dX5_silence_130 : decode cX5_silence 130 = .ok (.ireturn, 1) := by decide +kernel
set_option maxRecDepth 20000 in
theorem ggX5_exchange_X5_at : GoodIn wsX5_exchange wsX5_at := goodIn_r _ [5] (by decide +kernel) (by decide +kernel)
set_option maxRecDepth 20000 in
theorem gX5_exchange_X5_at : GoodIn wsX5_exchange (va_wsS RX5 59 yX5_at wsX5_at) := goodIn_app (goodIn_of _ (by decide +kernel)) ggX5_exchange_X5_at
set_option maxRecDepth 20000 in
theorem ggX5_exchange_X5_its : GoodIn wsX5_exchange wsX5_its := goodIn_r _ [9, 1, 14, 15, 16, 17, 18, 19, 20, 21, 22, 23, 24, 25, 26, 27, 28, 29, 30, 31] (by decide +kernel) (by decide +kernel)
set_option maxRecDepth 20000 in
theorem gX5_exchange_X5_its : GoodIn wsX5_exchange (wsV RX5 69 RX5 yX5_its wsX5_its) := goodIn_app (goodIn_of _ (by decide +kernel)) ggX5_exchange_X5_its
set_option maxRecDepth 20000 in
theorem ggX5_exchange_X5_becomes : GoodIn wsX5_exchange wsX5_becomes := goodIn_r _ [13, 1, 14, 15, 16, 17, 18, 19, 20, 21, 22, 23, 24, 25, 26, 27, 28, 29, 30, 31] (by decide +kernel) (by decide +kernel)
set_option maxRecDepth 20000 in
theorem gX5_exchange_X5_becomes : GoodIn wsX5_exchange (wsV RX5 49 RX5 yX5_becomes wsX5_becomes) := goodIn_app (goodIn_of _ (by decide +kernel)) ggX5_exchange_X5_becomes
theorem dX5_exchange_0 : decode cX5_exchange 0 = .ok (.iconst 0, 1) := by decide +kernel
theorem dX5_exchange_1 : decode cX5_exchange 1 = .ok (.istore_n 3, 1) := by decide +kernel
theorem dX5_exchange_2 : decode cX5_exchange 2 = .ok (.iload_n 3, 1) := by decide +kernel
theorem dX5_exchange_3 : decode cX5_exchange 3 = .ok (.bipush 6, 2) := by decide +kernel
theorem dX5_exchange_5 : decode cX5_exchange 5 = .ok (.if_icmp .ge 40, 3) := by decide +kernel
theorem dX5_exchange_8 : decode cX5_exchange 8 = .ok (.aload_n 0, 1) := by decide +kernel
theorem dX5_exchange_9 : decode cX5_exchange 9 = .ok (.getfield 7, 3) := by decide +kernel
theorem dX5_exchange_12 : decode cX5_exchange 12 = .ok (.iload_n 1, 1) := by decide +kernel
theorem dX5_exchange_13 : decode cX5_exchange 13 = .ok (.iconst 4, 1) := by decide +kernel
theorem dX5_exchange_14 : decode cX5_exchange 14 = .ok (.iload_n 3, 1) := by decide +kernel
theorem dX5_exchange_15 : decode cX5_exchange 15 = .ok (.iadd, 1) := by decide +kernel
theorem dX5_exchange_16 : decode cX5_exchange 16 = .ok (.invokestatic 59, 3) := by decide +kernel
theorem dX5_exchange_19 : decode cX5_exchange 19 = .ok (.aload_n 0, 1) := by decide +kernel
theorem dX5_exchange_20 : decode cX5_exchange 20 = .ok (.iload_n 2, 1) := by decide +kernel
theorem dX5_exchange_21 : decode cX5_exchange 21 = .ok (.iconst 4, 1) := by decide +kernel
theorem dX5_exchange_22 : decode cX5_exchange 22 = .ok (.iload_n 3, 1) := by decide +kernel
theorem dX5_exchange_23 : decode cX5_exchange 23 = .ok (.iadd, 1) := by decide +kernel
theorem dX5_exchange_24 : decode cX5_exchange 24 = .ok (.invokestatic 59, 3) := by decide +kernel
theorem dX5_exchange_27 : decode cX5_exchange 27 = .ok (.aload_n 0, 1) := by decide +kernel
theorem dX5_exchange_28 : decode cX5_exchange 28 = .ok (.iload_n 1, 1) := by decide +kernel
theorem dX5_exchange_29 : decode cX5_exchange 29 = .ok (.iconst 4, 1) := by decide +kernel
theorem dX5_exchange_30 : decode cX5_exchange 30 = .ok (.iload_n 3, 1) := by decide +kernel
theorem dX5_exchange_31 : decode cX5_exchange 31 = .ok (.iadd, 1) := by decide +kernel
theorem dX5_exchange_32 : decode cX5_exchange 32 = .ok (.invokevirtual 69, 3) := by decide +kernel
theorem dX5_exchange_35 : decode cX5_exchange 35 = .ok (.invokevirtual 49, 3) := by decide +kernel
theorem dX5_exchange_38 : decode cX5_exchange 38 = .ok (.iastore, 1) := by decide +kernel
theorem dX5_exchange_39 : decode cX5_exchange 39 = .ok (.iinc 3 1, 3) := by decide +kernel
theorem dX5_exchange_42 : decode cX5_exchange 42 = .ok (.goto (-40), 3) := by decide +kernel
theorem dX5_exchange_45 : decode cX5_exchange 45 = .ok (.return_, 1) := by decide +kernel
set_option maxRecDepth 20000 in
theorem ggX5_swapFor_X5_isIn : GoodIn wsX5_swapFor wsX5_isIn := goodIn_r _ [7] (by decide +kernel) (by decide +kernel)
set_option maxRecDepth 20000 in
theorem gX5_swapFor_X5_isIn : GoodIn wsX5_swapFor (va_wsS RX5 45 yX5_isIn wsX5_isIn) := goodIn_app (goodIn_of _ (by decide +kernel)) ggX5_swapFor_X5_isIn
set_option maxRecDepth 20000 in
theorem ggX5_swapFor_X5_finds : GoodIn wsX5_swapFor wsX5_finds := goodIn_r _ [11, 12, 2, 90, 91, 92, 93, 94, 95, 96, 97, 98, 99, 100, 101, 102, 103, 104, 105, 106, 107] (by decide +kernel) (by decide +kernel)
set_option maxRecDepth 20000 in
theorem gX5_swapFor_X5_finds : GoodIn wsX5_swapFor (wsV RX5 39 RX5 yX5_finds wsX5_finds) := goodIn_app (goodIn_of _ (by decide +kernel)) ggX5_swapFor_X5_finds
set_option maxRecDepth 20000 in
theorem ggX5_swapFor_X5_exchange : GoodIn wsX5_swapFor wsX5_exchange := goodIn_r _ [16, 3, 17, 18, 6, 19, 20, 21, 22, 23, 24, 25, 26, 27, 90, 91, 92, 93, 94, 95, 96, 97, 98, 99, 100, 101, 102, 103, 104, 105, 106, 107] (by decide +kernel) (by decide +kernel)
set_option maxRecDepth 20000 in
theorem gX5_swapFor_X5_exchange : GoodIn wsX5_swapFor (wsV RX5 179 RX5 yX5_exchange wsX5_exchange) := goodIn_app (goodIn_of _ (by decide +kernel)) ggX5_swapFor_X5_exchange
set_option maxRecDepth 20000 in
theorem ggX5_swapFor_X5_leftThen : GoodIn wsX5_swapFor wsX5_leftThen := goodIn_r _ [31, 3, 32, 33, 34, 6, 35, 36, 37, 38, 39, 40, 41, 42, 43, 44, 45, 46, 47, 20, 21, 22, 23, 48, 49, 50, 51, 17, 18, 19, 52, 53, 54, 55, 56, 57, 58, 59, 60, 61, 62, 63, 64, 65, 66, 67, 68, 69, 70, 71, 72, 73, 74, 75, 76, 77, 78, 79, 80, 81, 82, 83, 84, 90, 91, 92, 93, 94, 95, 96, 97, 98, 99, 100, 101, 102, 103, 104, 105, 106, 107] (by decide +kernel) (by decide +kernel)
set_option maxRecDepth 20000 in
theorem gX5_swapFor_X5_leftThen : GoodIn wsX5_swapFor (wsV RX5 168 RX5 yX5_leftThen wsX5_leftThen) := goodIn_app (goodIn_of _ (by decide +kernel)) ggX5_swapFor_X5_leftThen
set_option maxRecDepth 20000 in
theorem ggX5_swapFor_X5_orNone : GoodIn wsX5_swapFor wsX5_orNone := goodIn_r _ [88, 89, 8, 9, 10, 6, 11, 12, 2, 90, 91, 92, 93, 94, 95, 96, 97, 98, 99, 100, 101, 102, 103, 104, 105, 106, 107] (by decide +kernel) (by decide +kernel)
set_option maxRecDepth 20000 in
theorem gX5_swapFor_X5_orNone : GoodIn wsX5_swapFor (wsV RX5 171 RX5 yX5_orNone wsX5_orNone) := goodIn_app (goodIn_of _ (by decide +kernel)) ggX5_swapFor_X5_orNone
theorem dX5_swapFor_0 : decode cX5_swapFor 0 = .ok (.iload_n 1, 1) := by decide +kernel
theorem dX5_swapFor_1 : decode cX5_swapFor 1 = .ok (.i2l, 1) := by decide +kernel
theorem dX5_swapFor_2 : decode cX5_swapFor 2 = .ok (.lconst 0, 1) := by decide +kernel
theorem dX5_swapFor_3 : decode cX5_swapFor 3 = .ok (.ldc2_w 57, 3) := by decide +kernel
theorem dX5_swapFor_6 : decode cX5_swapFor 6 = .ok (.invokestatic 45, 3) := by decide +kernel
theorem dX5_swapFor_9 : decode cX5_swapFor 9 = .ok (.ifCond .ne 10, 3) := by decide +kernel
theorem dX5_swapFor_12 : decode cX5_swapFor 12 = .ok (.aload_n 0, 1) := by decide +kernel
theorem dX5_swapFor_13 : decode cX5_swapFor 13 = .ok (.ldc 37, 2) := by decide +kernel
theorem dX5_swapFor_15 : decode cX5_swapFor 15 = .ok (.invokevirtual 39, 3) := by decide +kernel
theorem dX5_swapFor_18 : decode cX5_swapFor 18 = .ok (.ireturn, 1) := by decide +kernel
theorem dX5_swapFor_19 : decode cX5_swapFor 19 = .ok (.iconst (-1), 1) := by decide +kernel
theorem dX5_swapFor_20 : decode cX5_swapFor 20 = .ok (.istore_n 2, 1) := by decide +kernel
theorem dX5_swapFor_21 : decode cX5_swapFor 21 = .ok (.iconst 0, 1) := by decide +kernel
theorem dX5_swapFor_22 : decode cX5_swapFor 22 = .ok (.istore_n 3, 1) := by decide +kernel
theorem dX5_swapFor_23 : decode cX5_swapFor 23 = .ok (.iconst 0, 1) := by decide +kernel
theorem dX5_swapFor_24 : decode cX5_swapFor 24 = .ok (.istore 4, 2) := by decide +kernel
theorem dX5_swapFor_26 : decode cX5_swapFor 26 = .ok (.iload 4, 2) := by decide +kernel
theorem dX5_swapFor_28 : decode cX5_swapFor 28 = .ok (.aload_n 0, 1) := by decide +kernel
theorem dX5_swapFor_29 : decode cX5_swapFor 29 = .ok (.getfield 7, 3) := by decide +kernel
theorem dX5_swapFor_32 : decode cX5_swapFor 32 = .ok (.iconst 0, 1) := by decide +kernel
theorem dX5_swapFor_33 : decode cX5_swapFor 33 = .ok (.iaload, 1) := by decide +kernel
theorem dX5_swapFor_34 : decode cX5_swapFor 34 = .ok (.if_icmp .ge 102, 3) := by decide +kernel
theorem dX5_swapFor_37 : decode cX5_swapFor 37 = .ok (.iload 4, 2) := by decide +kernel
theorem dX5_swapFor_39 : decode cX5_swapFor 39 = .ok (.iconst 1, 1) := by decide +kernel
theorem dX5_swapFor_40 : decode cX5_swapFor 40 = .ok (.iadd, 1) := by decide +kernel
theorem dX5_swapFor_41 : decode cX5_swapFor 41 = .ok (.istore 5, 2) := by decide +kernel
theorem dX5_swapFor_43 : decode cX5_swapFor 43 = .ok (.iload 5, 2) := by decide +kernel
theorem dX5_swapFor_45 : decode cX5_swapFor 45 = .ok (.aload_n 0, 1) := by decide +kernel
theorem dX5_swapFor_46 : decode cX5_swapFor 46 = .ok (.getfield 7, 3) := by decide +kernel
theorem dX5_swapFor_49 : decode cX5_swapFor 49 = .ok (.iconst 0, 1) := by decide +kernel
theorem dX5_swapFor_50 : decode cX5_swapFor 50 = .ok (.iaload, 1) := by decide +kernel
theorem dX5_swapFor_51 : decode cX5_swapFor 51 = .ok (.if_icmp .ge 79, 3) := by decide +kernel
theorem dX5_swapFor_54 : decode cX5_swapFor 54 = .ok (.aload_n 0, 1) := by decide +kernel
theorem dX5_swapFor_55 : decode cX5_swapFor 55 = .ok (.iload 4, 2) := by decide +kernel
theorem dX5_swapFor_57 : decode cX5_swapFor 57 = .ok (.iload 5, 2) := by decide +kernel
theorem dX5_swapFor_59 : decode cX5_swapFor 59 = .ok (.invokevirtual 179, 3) := by decide +kernel
theorem dX5_swapFor_62 : decode cX5_swapFor 62 = .ok (.aload_n 0, 1) := by decide +kernel
theorem dX5_swapFor_63 : decode cX5_swapFor 63 = .ok (.iload_n 1, 1) := by decide +kernel
theorem dX5_swapFor_64 : decode cX5_swapFor 64 = .ok (.invokevirtual 168, 3) := by decide +kernel
theorem dX5_swapFor_67 : decode cX5_swapFor 67 = .ok (.istore 6, 2) := by decide +kernel
theorem dX5_swapFor_69 : decode cX5_swapFor 69 = .ok (.aload_n 0, 1) := by decide +kernel
theorem dX5_swapFor_70 : decode cX5_swapFor 70 = .ok (.iload 4, 2) := by decide +kernel
theorem dX5_swapFor_72 : decode cX5_swapFor 72 = .ok (.iload 5, 2) := by decide +kernel
theorem dX5_swapFor_74 : decode cX5_swapFor 74 = .ok (.invokevirtual 179, 3) := by decide +kernel
theorem dX5_swapFor_77 : decode cX5_swapFor 77 = .ok (.iload_n 2, 1) := by decide +kernel
theorem dX5_swapFor_78 : decode cX5_swapFor 78 = .ok (.ifCond .lt 9, 3) := by decide +kernel
theorem dX5_swapFor_81 : decode cX5_swapFor 81 = .ok (.iload 6, 2) := by decide +kernel
theorem dX5_swapFor_83 : decode cX5_swapFor 83 = .ok (.iload_n 3, 1) := by decide +kernel
theorem dX5_swapFor_84 : decode cX5_swapFor 84 = .ok (.if_icmp .ge 7, 3) := by decide +kernel
theorem dX5_swapFor_87 : decode cX5_swapFor 87 = .ok (.iconst 1, 1) := by decide +kernel
theorem dX5_swapFor_88 : decode cX5_swapFor 88 = .ok (.goto 4, 3) := by decide +kernel
theorem dX5_swapFor_91 : decode cX5_swapFor 91 = .ok (.iconst 0, 1) := by decide +kernel
theorem dX5_swapFor_92 : decode cX5_swapFor 92 = .ok (.istore 7, 2) := by decide +kernel
theorem dX5_swapFor_94 : decode cX5_swapFor 94 = .ok (.iload 7, 2) := by decide +kernel
theorem dX5_swapFor_96 : decode cX5_swapFor 96 = .ok (.ifCond .eq 14, 3) := by decide +kernel
theorem dX5_swapFor_99 : decode cX5_swapFor 99 = .ok (.bipush 8, 2) := by decide +kernel
theorem dX5_swapFor_101 : decode cX5_swapFor 101 = .ok (.iload 4, 2) := by decide +kernel
theorem dX5_swapFor_103 : decode cX5_swapFor 103 = .ok (.imul, 1) := by decide +kernel
theorem dX5_swapFor_104 : decode cX5_swapFor 104 = .ok (.iload 5, 2) := by decide +kernel
theorem dX5_swapFor_106 : decode cX5_swapFor 106 = .ok (.iadd, 1) := by decide +kernel
theorem dX5_swapFor_107 : decode cX5_swapFor 107 = .ok (.goto 4, 3) := by decide +kernel
theorem dX5_swapFor_110 : decode cX5_swapFor 110 = .ok (.iload_n 2, 1) := by decide +kernel
theorem dX5_swapFor_111 : decode cX5_swapFor 111 = .ok (.istore_n 2, 1) := by decide +kernel
theorem dX5_swapFor_112 : decode cX5_swapFor 112 = .ok (.iload 7, 2) := by decide +kernel
theorem dX5_swapFor_114 : decode cX5_swapFor 114 = .ok (.ifCond .eq 8, 3) := by decide +kernel
theorem dX5_swapFor_117 : decode cX5_swapFor 117 = .ok (.iload 6, 2) := by decide +kernel
theorem dX5_swapFor_119 : decode cX5_swapFor 119 = .ok (.goto 4, 3) := by decide +kernel
theorem dX5_swapFor_122 : decode cX5_swapFor 122 = .ok (.iload_n 3, 1) := by decide +kernel
theorem dX5_swapFor_123 : decode cX5_swapFor 123 = .ok (.istore_n 3, 1) := by decide +kernel
theorem dX5_swapFor_124 : decode cX5_swapFor 124 = .ok (.iinc 5 1, 3) := by decide +kernel
theorem dX5_swapFor_127 : decode cX5_swapFor 127 = .ok (.goto (-84), 3) := by decide +kernel
theorem dX5_swapFor_130 : decode cX5_swapFor 130 = .ok (.iinc 4 1, 3) := by decide +kernel
theorem dX5_swapFor_133 : decode cX5_swapFor 133 = .ok (.goto (-107), 3) := by decide +kernel
theorem dX5_swapFor_136 : decode cX5_swapFor 136 = .ok (.aload_n 0, 1) := by decide +kernel
theorem dX5_swapFor_137 : decode cX5_swapFor 137 = .ok (.iload_n 2, 1) := by decide +kernel
theorem dX5_swapFor_138 : decode cX5_swapFor 138 = .ok (.invokevirtual 171, 3) := by decide +kernel
theorem dX5_swapFor_141 : decode cX5_swapFor 141 = .ok (.ireturn, 1) := by decide +kernel
set_option maxRecDepth 20000 in
theorem ggX5_isTold_X5_copyRow : GoodIn wsX5_isTold wsX5_copyRow := goodIn_r _ [8] (by decide +kernel) (by decide +kernel)
set_option maxRecDepth 20000 in
theorem gX5_isTold_X5_copyRow : GoodIn wsX5_isTold (va_wsS RX5 150 yX5_copyRow wsX5_copyRow) := goodIn_app (goodIn_of _ (by decide +kernel)) ggX5_isTold_X5_copyRow
set_option maxRecDepth 20000 in
theorem ggX5_isTold_X5_left : GoodIn wsX5_isTold wsX5_left := goodIn_r _ [12, 13, 14, 15, 7, 16, 1, 57, 58, 59, 60, 61, 62, 63, 64, 65, 66, 67, 68, 69, 70, 71, 72, 73, 74] (by decide +kernel) (by decide +kernel)
set_option maxRecDepth 20000 in
theorem gX5_isTold_X5_left : GoodIn wsX5_isTold (wsV RX5 72 RX5 yX5_left wsX5_left) := goodIn_app (goodIn_of _ (by decide +kernel)) ggX5_isTold_X5_left
set_option maxRecDepth 20000 in
theorem ggX5_isTold_X5_dayBut : GoodIn wsX5_isTold wsX5_dayBut := goodIn_r _ [20, 1, 21, 22, 23, 7, 24, 13, 14, 15, 16, 25, 26, 27, 28, 29, 30, 31, 32, 33, 34, 35, 36, 37, 38, 39, 40, 41, 42, 43, 44, 45, 9, 10, 11, 12, 46, 47, 48, 49, 50, 51, 52, 53, 54, 55, 56, 57, 58, 59, 60, 61, 62, 63, 64, 65, 66, 67, 68, 69, 70, 71, 72, 73, 74] (by decide +kernel) (by decide +kernel)
set_option maxRecDepth 20000 in
theorem gX5_isTold_X5_dayBut : GoodIn wsX5_isTold (wsV RX5 125 RX5 yX5_dayBut wsX5_dayBut) := goodIn_app (goodIn_of _ (by decide +kernel)) ggX5_isTold_X5_dayBut
theorem dX5_isTold_0 : decode cX5_isTold 0 = .ok (.aload_n 0, 1) := by decide +kernel
theorem dX5_isTold_1 : decode cX5_isTold 1 = .ok (.getfield 7, 3) := by decide +kernel
theorem dX5_isTold_4 : decode cX5_isTold 4 = .ok (.aload_n 0, 1) := by decide +kernel
theorem dX5_isTold_5 : decode cX5_isTold 5 = .ok (.getfield 19, 3) := by decide +kernel
theorem dX5_isTold_8 : decode cX5_isTold 8 = .ok (.invokestatic 150, 3) := by decide +kernel
theorem dX5_isTold_11 : decode cX5_isTold 11 = .ok (.iconst 1, 1) := by decide +kernel
theorem dX5_isTold_12 : decode cX5_isTold 12 = .ok (.istore_n 3, 1) := by decide +kernel
theorem dX5_isTold_13 : decode cX5_isTold 13 = .ok (.iconst 0, 1) := by decide +kernel
theorem dX5_isTold_14 : decode cX5_isTold 14 = .ok (.istore 4, 2) := by decide +kernel
theorem dX5_isTold_16 : decode cX5_isTold 16 = .ok (.iload 4, 2) := by decide +kernel
theorem dX5_isTold_18 : decode cX5_isTold 18 = .ok (.aload_n 0, 1) := by decide +kernel
theorem dX5_isTold_19 : decode cX5_isTold 19 = .ok (.getfield 31, 3) := by decide +kernel
theorem dX5_isTold_22 : decode cX5_isTold 22 = .ok (.iload_n 1, 1) := by decide +kernel
theorem dX5_isTold_23 : decode cX5_isTold 23 = .ok (.iaload, 1) := by decide +kernel
theorem dX5_isTold_24 : decode cX5_isTold 24 = .ok (.if_icmp .ge 54, 3) := by decide +kernel
theorem dX5_isTold_27 : decode cX5_isTold 27 = .ok (.iload_n 3, 1) := by decide +kernel
theorem dX5_isTold_28 : decode cX5_isTold 28 = .ok (.ifCond .eq 50, 3) := by decide +kernel
theorem dX5_isTold_31 : decode cX5_isTold 31 = .ok (.aload_n 0, 1) := by decide +kernel
theorem dX5_isTold_32 : decode cX5_isTold 32 = .ok (.getfield 34, 3) := by decide +kernel
theorem dX5_isTold_35 : decode cX5_isTold 35 = .ok (.bipush 40, 2) := by decide +kernel
theorem dX5_isTold_37 : decode cX5_isTold 37 = .ok (.iload_n 1, 1) := by decide +kernel
theorem dX5_isTold_38 : decode cX5_isTold 38 = .ok (.imul, 1) := by decide +kernel
theorem dX5_isTold_39 : decode cX5_isTold 39 = .ok (.iload 4, 2) := by decide +kernel
theorem dX5_isTold_41 : decode cX5_isTold 41 = .ok (.iadd, 1) := by decide +kernel
theorem dX5_isTold_42 : decode cX5_isTold 42 = .ok (.iaload, 1) := by decide +kernel
theorem dX5_isTold_43 : decode cX5_isTold 43 = .ok (.istore 5, 2) := by decide +kernel
theorem dX5_isTold_45 : decode cX5_isTold 45 = .ok (.iload 5, 2) := by decide +kernel
theorem dX5_isTold_47 : decode cX5_isTold 47 = .ok (.iconst (-1), 1) := by decide +kernel
theorem dX5_isTold_48 : decode cX5_isTold 48 = .ok (.if_icmp .eq 13, 3) := by decide +kernel
theorem dX5_isTold_51 : decode cX5_isTold 51 = .ok (.iload 5, 2) := by decide +kernel
theorem dX5_isTold_53 : decode cX5_isTold 53 = .ok (.aload_n 0, 1) := by decide +kernel
theorem dX5_isTold_54 : decode cX5_isTold 54 = .ok (.iload_n 2, 1) := by decide +kernel
theorem dX5_isTold_55 : decode cX5_isTold 55 = .ok (.invokevirtual 72, 3) := by decide +kernel
theorem dX5_isTold_58 : decode cX5_isTold 58 = .ok (.if_icmp .ne 7, 3) := by decide +kernel
theorem dX5_isTold_61 : decode cX5_isTold 61 = .ok (.iconst 1, 1) := by decide +kernel
theorem dX5_isTold_62 : decode cX5_isTold 62 = .ok (.goto 4, 3) := by decide +kernel
theorem dX5_isTold_65 : decode cX5_isTold 65 = .ok (.iconst 0, 1) := by decide +kernel
theorem dX5_isTold_66 : decode cX5_isTold 66 = .ok (.istore_n 3, 1) := by decide +kernel
theorem dX5_isTold_67 : decode cX5_isTold 67 = .ok (.aload_n 0, 1) := by decide +kernel
theorem dX5_isTold_68 : decode cX5_isTold 68 = .ok (.iconst 0, 1) := by decide +kernel
theorem dX5_isTold_69 : decode cX5_isTold 69 = .ok (.invokevirtual 125, 3) := by decide +kernel
theorem dX5_isTold_72 : decode cX5_isTold 72 = .ok (.iinc 4 1, 3) := by decide +kernel
theorem dX5_isTold_75 : decode cX5_isTold 75 = .ok (.goto (-59), 3) := by decide +kernel
theorem dX5_isTold_78 : decode cX5_isTold 78 = .ok (.aload_n 0, 1) := by decide +kernel
theorem dX5_isTold_79 : decode cX5_isTold 79 = .ok (.getfield 19, 3) := by decide +kernel
theorem dX5_isTold_82 : decode cX5_isTold 82 = .ok (.aload_n 0, 1) := by decide +kernel
theorem dX5_isTold_83 : decode cX5_isTold 83 = .ok (.getfield 7, 3) := by decide +kernel
theorem dX5_isTold_86 : decode cX5_isTold 86 = .ok (.invokestatic 150, 3) := by decide +kernel
theorem dX5_isTold_89 : decode cX5_isTold 89 = .ok (.iload_n 3, 1) := by decide +kernel
theorem dX5_isTold_90 : decode cX5_isTold 90 = .ok (.ireturn, 1) := by decide +kernel
set_option maxRecDepth 20000 in
theorem ggX5_wantsFor_X5_wants : GoodIn wsX5_wantsFor wsX5_wants := goodIn_r _ [6, 1, 7, 8, 9, 10, 5, 11, 17, 18, 19, 20, 21, 22, 23, 24, 25, 26, 27, 28, 29, 30, 31, 32, 33, 34] (by decide +kernel) (by decide +kernel)
set_option maxRecDepth 20000 in
theorem gX5_wantsFor_X5_wants : GoodIn wsX5_wantsFor (wsV RX5 182 RX5 yX5_wants wsX5_wants) := goodIn_app (goodIn_of _ (by decide +kernel)) ggX5_wantsFor_X5_wants
set_option maxRecDepth 20000 in
theorem ggX5_wantsFor_X5_isOne : GoodIn wsX5_wantsFor wsX5_isOne := goodIn_r _ [15, 16, 17, 18, 19, 20, 21, 22, 23, 24, 25, 26, 27, 28, 29, 30, 31, 32, 33, 34] (by decide +kernel) (by decide +kernel)
set_option maxRecDepth 20000 in
theorem gX5_wantsFor_X5_isOne : GoodIn wsX5_wantsFor (wsV RX5 78 RX5 yX5_isOne wsX5_isOne) := goodIn_app (goodIn_of _ (by decide +kernel)) ggX5_wantsFor_X5_isOne
theorem dX5_wantsFor_0 : decode cX5_wantsFor 0 = .ok (.aload_n 0, 1) := by decide +kernel
theorem dX5_wantsFor_1 : decode cX5_wantsFor 1 = .ok (.iload_n 1, 1) := by decide +kernel
theorem dX5_wantsFor_2 : decode cX5_wantsFor 2 = .ok (.invokevirtual 182, 3) := by decide +kernel
theorem dX5_wantsFor_5 : decode cX5_wantsFor 5 = .ok (.ifCond .eq 11, 3) := by decide +kernel
theorem dX5_wantsFor_8 : decode cX5_wantsFor 8 = .ok (.aload_n 0, 1) := by decide +kernel
theorem dX5_wantsFor_9 : decode cX5_wantsFor 9 = .ok (.iload_n 1, 1) := by decide +kernel
theorem dX5_wantsFor_10 : decode cX5_wantsFor 10 = .ok (.invokevirtual 182, 3) := by decide +kernel
theorem dX5_wantsFor_13 : decode cX5_wantsFor 13 = .ok (.goto 17, 3) := by decide +kernel
theorem dX5_wantsFor_16 : decode cX5_wantsFor 16 = .ok (.aload_n 0, 1) := by decide +kernel
theorem dX5_wantsFor_17 : decode cX5_wantsFor 17 = .ok (.iload_n 2, 1) := by decide +kernel
theorem dX5_wantsFor_18 : decode cX5_wantsFor 18 = .ok (.invokevirtual 78, 3) := by decide +kernel
theorem dX5_wantsFor_21 : decode cX5_wantsFor 21 = .ok (.ifCond .eq 7, 3) := by decide +kernel
theorem dX5_wantsFor_24 : decode cX5_wantsFor 24 = .ok (.iconst 0, 1) := by decide +kernel
theorem dX5_wantsFor_25 : decode cX5_wantsFor 25 = .ok (.goto 5, 3) := by decide +kernel
theorem dX5_wantsFor_28 : decode cX5_wantsFor 28 = .ok (.ldc 37, 2) := by decide +kernel
theorem dX5_wantsFor_30 : decode cX5_wantsFor 30 = .ok (.ireturn, 1) := by decide +kernel
set_option maxRecDepth 20000 in
theorem ggX5_fits_X5_wantsFor : GoodIn wsX5_fits wsX5_wantsFor := goodIn_r _ [6, 7, 8, 9, 10, 5, 11, 12, 13, 14, 15, 16, 17, 18, 19, 20, 1, 84, 85, 86, 87, 88, 89, 90, 91, 92, 93, 94, 95, 96, 97, 98, 99, 100, 101] (by decide +kernel) (by decide +kernel)
set_option maxRecDepth 20000 in
theorem gX5_fits_X5_wantsFor : GoodIn wsX5_fits (wsV RX5 185 RX5 yX5_wantsFor wsX5_wantsFor) := goodIn_app (goodIn_of _ (by decide +kernel)) ggX5_fits_X5_wantsFor
set_option maxRecDepth 20000 in
theorem ggX5_fits_X5_finds : GoodIn wsX5_fits wsX5_finds := goodIn_r _ [24, 25, 7, 84, 85, 86, 87, 88, 89, 90, 91, 92, 93, 94, 95, 96, 97, 98, 99, 100, 101] (by decide +kernel) (by decide +kernel)
set_option maxRecDepth 20000 in
theorem gX5_fits_X5_finds : GoodIn wsX5_fits (wsV RX5 39 RX5 yX5_finds wsX5_finds) := goodIn_app (goodIn_of _ (by decide +kernel)) ggX5_fits_X5_finds
set_option maxRecDepth 20000 in
theorem ggX5_fits_X5_its : GoodIn wsX5_fits wsX5_its := goodIn_r _ [29, 1, 84, 85, 86, 87, 88, 89, 90, 91, 92, 93, 94, 95, 96, 97, 98, 99, 100, 101] (by decide +kernel) (by decide +kernel)
set_option maxRecDepth 20000 in
theorem gX5_fits_X5_its : GoodIn wsX5_fits (wsV RX5 69 RX5 yX5_its wsX5_its) := goodIn_app (goodIn_of _ (by decide +kernel)) ggX5_fits_X5_its
set_option maxRecDepth 20000 in
theorem ggX5_fits_X5_at : GoodIn wsX5_fits wsX5_at := goodIn_r _ [32] (by decide +kernel) (by decide +kernel)
set_option maxRecDepth 20000 in
theorem gX5_fits_X5_at : GoodIn wsX5_fits (va_wsS RX5 59 yX5_at wsX5_at) := goodIn_app (goodIn_of _ (by decide +kernel)) ggX5_fits_X5_at
set_option maxRecDepth 20000 in
theorem ggX5_fits_X5_least : GoodIn wsX5_fits wsX5_least := goodIn_r _ [35] (by decide +kernel) (by decide +kernel)
set_option maxRecDepth 20000 in
theorem gX5_fits_X5_least : GoodIn wsX5_fits (va_wsS RX5 103 yX5_least wsX5_least) := goodIn_app (goodIn_of _ (by decide +kernel)) ggX5_fits_X5_least
set_option maxRecDepth 20000 in
theorem ggX5_fits_X5_isTold : GoodIn wsX5_fits wsX5_isTold := goodIn_r _ [39, 1, 40, 41, 42, 43, 44, 5, 45, 46, 47, 48, 49, 26, 27, 28, 29, 50, 51, 52, 53, 54, 55, 56, 57, 58, 59, 60, 61, 30, 31, 32, 33, 34, 35, 62, 63, 64, 65, 66, 67, 68, 69, 70, 71, 72, 73, 74, 75, 76, 77, 78, 79, 80, 81, 82, 83, 84, 85, 86, 87, 88, 89, 90, 91, 92, 93, 94, 95, 96, 97, 98, 99, 100, 101] (by decide +kernel) (by decide +kernel)
set_option maxRecDepth 20000 in
theorem gX5_fits_X5_isTold : GoodIn wsX5_fits (wsV RX5 188 RX5 yX5_isTold wsX5_isTold) := goodIn_app (goodIn_of _ (by decide +kernel)) ggX5_fits_X5_isTold
theorem dX5_fits_0 : decode cX5_fits 0 = .ok (.aload_n 0, 1) := by decide +kernel
theorem dX5_fits_1 : decode cX5_fits 1 = .ok (.iload_n 1, 1) := by decide +kernel
theorem dX5_fits_2 : decode cX5_fits 2 = .ok (.iload_n 2, 1) := by decide +kernel
theorem dX5_fits_3 : decode cX5_fits 3 = .ok (.invokevirtual 185, 3) := by decide +kernel
theorem dX5_fits_6 : decode cX5_fits 6 = .ok (.istore_n 3, 1) := by decide +kernel
theorem dX5_fits_7 : decode cX5_fits 7 = .ok (.iload_n 3, 1) := by decide +kernel
theorem dX5_fits_8 : decode cX5_fits 8 = .ok (.ifCond .eq 9, 3) := by decide +kernel
theorem dX5_fits_11 : decode cX5_fits 11 = .ok (.aload_n 0, 1) := by decide +kernel
theorem dX5_fits_12 : decode cX5_fits 12 = .ok (.iload_n 3, 1) := by decide +kernel
theorem dX5_fits_13 : decode cX5_fits 13 = .ok (.invokevirtual 39, 3) := by decide +kernel
theorem dX5_fits_16 : decode cX5_fits 16 = .ok (.ireturn, 1) := by decide +kernel
theorem dX5_fits_17 : decode cX5_fits 17 = .ok (.iconst 0, 1) := by decide +kernel
theorem dX5_fits_18 : decode cX5_fits 18 = .ok (.istore 4, 2) := by decide +kernel
theorem dX5_fits_20 : decode cX5_fits 20 = .ok (.iconst 0, 1) := by decide +kernel
theorem dX5_fits_21 : decode cX5_fits 21 = .ok (.istore 5, 2) := by decide +kernel
theorem dX5_fits_23 : decode cX5_fits 23 = .ok (.iload 5, 2) := by decide +kernel
theorem dX5_fits_25 : decode cX5_fits 25 = .ok (.bipush 6, 2) := by decide +kernel
theorem dX5_fits_27 : decode cX5_fits 27 = .ok (.if_icmp .ge 80, 3) := by decide +kernel
theorem dX5_fits_30 : decode cX5_fits 30 = .ok (.aload_n 0, 1) := by decide +kernel
theorem dX5_fits_31 : decode cX5_fits 31 = .ok (.iload_n 2, 1) := by decide +kernel
theorem dX5_fits_32 : decode cX5_fits 32 = .ok (.iconst 4, 1) := by decide +kernel
theorem dX5_fits_33 : decode cX5_fits 33 = .ok (.iload 5, 2) := by decide +kernel
theorem dX5_fits_35 : decode cX5_fits 35 = .ok (.iadd, 1) := by decide +kernel
theorem dX5_fits_36 : decode cX5_fits 36 = .ok (.invokevirtual 69, 3) := by decide +kernel
theorem dX5_fits_39 : decode cX5_fits 39 = .ok (.istore 6, 2) := by decide +kernel
theorem dX5_fits_41 : decode cX5_fits 41 = .ok (.aload_n 0, 1) := by decide +kernel
theorem dX5_fits_42 : decode cX5_fits 42 = .ok (.getfield 7, 3) := by decide +kernel
theorem dX5_fits_45 : decode cX5_fits 45 = .ok (.iload_n 2, 1) := by decide +kernel
theorem dX5_fits_46 : decode cX5_fits 46 = .ok (.iconst 4, 1) := by decide +kernel
theorem dX5_fits_47 : decode cX5_fits 47 = .ok (.iload 5, 2) := by decide +kernel
theorem dX5_fits_49 : decode cX5_fits 49 = .ok (.iadd, 1) := by decide +kernel
theorem dX5_fits_50 : decode cX5_fits 50 = .ok (.invokestatic 59, 3) := by decide +kernel
theorem dX5_fits_53 : decode cX5_fits 53 = .ok (.sipush 999, 3) := by decide +kernel
theorem dX5_fits_56 : decode cX5_fits 56 = .ok (.iload 6, 2) := by decide +kernel
theorem dX5_fits_58 : decode cX5_fits 58 = .ok (.iconst 1, 1) := by decide +kernel
theorem dX5_fits_59 : decode cX5_fits 59 = .ok (.iadd, 1) := by decide +kernel
theorem dX5_fits_60 : decode cX5_fits 60 = .ok (.invokestatic 103, 3) := by decide +kernel
theorem dX5_fits_63 : decode cX5_fits 63 = .ok (.iastore, 1) := by decide +kernel
theorem dX5_fits_64 : decode cX5_fits 64 = .ok (.iload 4, 2) := by decide +kernel
theorem dX5_fits_66 : decode cX5_fits 66 = .ok (.aload_n 0, 1) := by decide +kernel
theorem dX5_fits_67 : decode cX5_fits 67 = .ok (.iload_n 1, 1) := by decide +kernel
theorem dX5_fits_68 : decode cX5_fits 68 = .ok (.iload_n 2, 1) := by decide +kernel
theorem dX5_fits_69 : decode cX5_fits 69 = .ok (.invokevirtual 188, 3) := by decide +kernel
theorem dX5_fits_72 : decode cX5_fits 72 = .ok (.ifCond .eq 10, 3) := by decide +kernel
theorem dX5_fits_75 : decode cX5_fits 75 = .ok (.iconst 1, 1) := by decide +kernel
theorem dX5_fits_76 : decode cX5_fits 76 = .ok (.iload 5, 2) := by decide +kernel
theorem dX5_fits_78 : decode cX5_fits 78 = .ok (.ishl, 1) := by decide +kernel
theorem dX5_fits_79 : decode cX5_fits 79 = .ok (.goto 4, 3) := by decide +kernel
theorem dX5_fits_82 : decode cX5_fits 82 = .ok (.iconst 0, 1) := by decide +kernel
theorem dX5_fits_83 : decode cX5_fits 83 = .ok (.ior, 1) := by decide +kernel
theorem dX5_fits_84 : decode cX5_fits 84 = .ok (.istore 4, 2) := by decide +kernel
theorem dX5_fits_86 : decode cX5_fits 86 = .ok (.aload_n 0, 1) := by decide +kernel
theorem dX5_fits_87 : decode cX5_fits 87 = .ok (.getfield 7, 3) := by decide +kernel
theorem dX5_fits_90 : decode cX5_fits 90 = .ok (.iload_n 2, 1) := by decide +kernel
theorem dX5_fits_91 : decode cX5_fits 91 = .ok (.iconst 4, 1) := by decide +kernel
theorem dX5_fits_92 : decode cX5_fits 92 = .ok (.iload 5, 2) := by decide +kernel
theorem dX5_fits_94 : decode cX5_fits 94 = .ok (.iadd, 1) := by decide +kernel
theorem dX5_fits_95 : decode cX5_fits 95 = .ok (.invokestatic 59, 3) := by decide +kernel
theorem dX5_fits_98 : decode cX5_fits 98 = .ok (.iload 6, 2) := by decide +kernel
theorem dX5_fits_100 : decode cX5_fits 100 = .ok (.iastore, 1) := by decide +kernel
theorem dX5_fits_101 : decode cX5_fits 101 = .ok (.iinc 5 1, 3) := by decide +kernel
theorem dX5_fits_104 : decode cX5_fits 104 = .ok (.goto (-81), 3) := by decide +kernel
theorem dX5_fits_107 : decode cX5_fits 107 = .ok (.iload 4, 2) := by decide +kernel
theorem dX5_fits_109 : decode cX5_fits 109 = .ok (.ireturn, 1) := by decide +kernel
set_option maxRecDepth 20000 in
theorem ggX5_kinds_X5_wantsFor : GoodIn wsX5_kinds wsX5_wantsFor := goodIn_r _ [6, 7, 8, 9, 10, 5, 11, 12, 13, 14, 15, 16, 17, 18, 19, 20, 1, 84, 85, 86, 87, 88, 89, 90, 91, 92, 93, 94, 95, 96, 97, 98, 99, 100, 101] (by decide +kernel) (by decide +kernel)
set_option maxRecDepth 20000 in
theorem gX5_kinds_X5_wantsFor : GoodIn wsX5_kinds (wsV RX5 185 RX5 yX5_wantsFor wsX5_wantsFor) := goodIn_app (goodIn_of _ (by decide +kernel)) ggX5_kinds_X5_wantsFor
set_option maxRecDepth 20000 in
theorem ggX5_kinds_X5_finds : GoodIn wsX5_kinds wsX5_finds := goodIn_r _ [24, 25, 7, 84, 85, 86, 87, 88, 89, 90, 91, 92, 93, 94, 95, 96, 97, 98, 99, 100, 101] (by decide +kernel) (by decide +kernel)
set_option maxRecDepth 20000 in
theorem gX5_kinds_X5_finds : GoodIn wsX5_kinds (wsV RX5 39 RX5 yX5_finds wsX5_finds) := goodIn_app (goodIn_of _ (by decide +kernel)) ggX5_kinds_X5_finds
set_option maxRecDepth 20000 in
theorem ggX5_kinds_X5_its : GoodIn wsX5_kinds wsX5_its := goodIn_r _ [29, 1, 84, 85, 86, 87, 88, 89, 90, 91, 92, 93, 94, 95, 96, 97, 98, 99, 100, 101] (by decide +kernel) (by decide +kernel)
set_option maxRecDepth 20000 in
theorem gX5_kinds_X5_its : GoodIn wsX5_kinds (wsV RX5 69 RX5 yX5_its wsX5_its) := goodIn_app (goodIn_of _ (by decide +kernel)) ggX5_kinds_X5_its
set_option maxRecDepth 20000 in
theorem ggX5_kinds_X5_at : GoodIn wsX5_kinds wsX5_at := goodIn_r _ [32] (by decide +kernel) (by decide +kernel)
set_option maxRecDepth 20000 in
theorem gX5_kinds_X5_at : GoodIn wsX5_kinds (va_wsS RX5 59 yX5_at wsX5_at) := goodIn_app (goodIn_of _ (by decide +kernel)) ggX5_kinds_X5_at
set_option maxRecDepth 20000 in
theorem ggX5_kinds_X5_isTold : GoodIn wsX5_kinds wsX5_isTold := goodIn_r _ [36, 1, 37, 38, 39, 40, 41, 5, 42, 43, 44, 45, 46, 26, 27, 28, 29, 47, 48, 49, 50, 51, 52, 53, 54, 55, 56, 57, 58, 30, 31, 32, 59, 60, 61, 62, 63, 64, 65, 66, 67, 68, 69, 70, 71, 72, 73, 74, 75, 76, 77, 78, 79, 80, 81, 82, 83, 84, 85, 86, 87, 88, 89, 90, 91, 92, 93, 94, 95, 96, 97, 98, 99, 100, 101] (by decide +kernel) (by decide +kernel)
set_option maxRecDepth 20000 in
theorem gX5_kinds_X5_isTold : GoodIn wsX5_kinds (wsV RX5 188 RX5 yX5_isTold wsX5_isTold) := goodIn_app (goodIn_of _ (by decide +kernel)) ggX5_kinds_X5_isTold
theorem dX5_kinds_0 : decode cX5_kinds 0 = .ok (.aload_n 0, 1) := by decide +kernel
theorem dX5_kinds_1 : decode cX5_kinds 1 = .ok (.iload_n 1, 1) := by decide +kernel
theorem dX5_kinds_2 : decode cX5_kinds 2 = .ok (.iload_n 2, 1) := by decide +kernel
theorem dX5_kinds_3 : decode cX5_kinds 3 = .ok (.invokevirtual 185, 3) := by decide +kernel
theorem dX5_kinds_6 : decode cX5_kinds 6 = .ok (.istore_n 3, 1) := by decide +kernel
theorem dX5_kinds_7 : decode cX5_kinds 7 = .ok (.iload_n 3, 1) := by decide +kernel
theorem dX5_kinds_8 : decode cX5_kinds 8 = .ok (.ifCond .eq 9, 3) := by decide +kernel
theorem dX5_kinds_11 : decode cX5_kinds 11 = .ok (.aload_n 0, 1) := by decide +kernel
theorem dX5_kinds_12 : decode cX5_kinds 12 = .ok (.iload_n 3, 1) := by decide +kernel
theorem dX5_kinds_13 : decode cX5_kinds 13 = .ok (.invokevirtual 39, 3) := by decide +kernel
theorem dX5_kinds_16 : decode cX5_kinds 16 = .ok (.ireturn, 1) := by decide +kernel
theorem dX5_kinds_17 : decode cX5_kinds 17 = .ok (.aload_n 0, 1) := by decide +kernel
theorem dX5_kinds_18 : decode cX5_kinds 18 = .ok (.iload_n 2, 1) := by decide +kernel
theorem dX5_kinds_19 : decode cX5_kinds 19 = .ok (.iconst 0, 1) := by decide +kernel
theorem dX5_kinds_20 : decode cX5_kinds 20 = .ok (.invokevirtual 69, 3) := by decide +kernel
theorem dX5_kinds_23 : decode cX5_kinds 23 = .ok (.istore 4, 2) := by decide +kernel
theorem dX5_kinds_25 : decode cX5_kinds 25 = .ok (.iconst 0, 1) := by decide +kernel
theorem dX5_kinds_26 : decode cX5_kinds 26 = .ok (.istore 5, 2) := by decide +kernel
theorem dX5_kinds_28 : decode cX5_kinds 28 = .ok (.iconst 0, 1) := by decide +kernel
theorem dX5_kinds_29 : decode cX5_kinds 29 = .ok (.istore 6, 2) := by decide +kernel
theorem dX5_kinds_31 : decode cX5_kinds 31 = .ok (.iload 6, 2) := by decide +kernel
theorem dX5_kinds_33 : decode cX5_kinds 33 = .ok (.bipush 6, 2) := by decide +kernel
theorem dX5_kinds_35 : decode cX5_kinds 35 = .ok (.if_icmp .gt 43, 3) := by decide +kernel
theorem dX5_kinds_38 : decode cX5_kinds 38 = .ok (.aload_n 0, 1) := by decide +kernel
theorem dX5_kinds_39 : decode cX5_kinds 39 = .ok (.getfield 7, 3) := by decide +kernel
theorem dX5_kinds_42 : decode cX5_kinds 42 = .ok (.iload_n 2, 1) := by decide +kernel
theorem dX5_kinds_43 : decode cX5_kinds 43 = .ok (.iconst 0, 1) := by decide +kernel
theorem dX5_kinds_44 : decode cX5_kinds 44 = .ok (.invokestatic 59, 3) := by decide +kernel
theorem dX5_kinds_47 : decode cX5_kinds 47 = .ok (.iload 6, 2) := by decide +kernel
theorem dX5_kinds_49 : decode cX5_kinds 49 = .ok (.iastore, 1) := by decide +kernel
theorem dX5_kinds_50 : decode cX5_kinds 50 = .ok (.iload 5, 2) := by decide +kernel
theorem dX5_kinds_52 : decode cX5_kinds 52 = .ok (.aload_n 0, 1) := by decide +kernel
theorem dX5_kinds_53 : decode cX5_kinds 53 = .ok (.iload_n 1, 1) := by decide +kernel
theorem dX5_kinds_54 : decode cX5_kinds 54 = .ok (.iload_n 2, 1) := by decide +kernel
theorem dX5_kinds_55 : decode cX5_kinds 55 = .ok (.invokevirtual 188, 3) := by decide +kernel
theorem dX5_kinds_58 : decode cX5_kinds 58 = .ok (.ifCond .eq 10, 3) := by decide +kernel
theorem dX5_kinds_61 : decode cX5_kinds 61 = .ok (.iconst 1, 1) := by decide +kernel
theorem dX5_kinds_62 : decode cX5_kinds 62 = .ok (.iload 6, 2) := by decide +kernel
theorem dX5_kinds_64 : decode cX5_kinds 64 = .ok (.ishl, 1) := by decide +kernel
theorem dX5_kinds_65 : decode cX5_kinds 65 = .ok (.goto 4, 3) := by decide +kernel
theorem dX5_kinds_68 : decode cX5_kinds 68 = .ok (.iconst 0, 1) := by decide +kernel
theorem dX5_kinds_69 : decode cX5_kinds 69 = .ok (.ior, 1) := by decide +kernel
theorem dX5_kinds_70 : decode cX5_kinds 70 = .ok (.istore 5, 2) := by decide +kernel
theorem dX5_kinds_72 : decode cX5_kinds 72 = .ok (.iinc 6 1, 3) := by decide +kernel
theorem dX5_kinds_75 : decode cX5_kinds 75 = .ok (.goto (-44), 3) := by decide +kernel
theorem dX5_kinds_78 : decode cX5_kinds 78 = .ok (.aload_n 0, 1) := by decide +kernel
theorem dX5_kinds_79 : decode cX5_kinds 79 = .ok (.getfield 7, 3) := by decide +kernel
theorem dX5_kinds_82 : decode cX5_kinds 82 = .ok (.iload_n 2, 1) := by decide +kernel
theorem dX5_kinds_83 : decode cX5_kinds 83 = .ok (.iconst 0, 1) := by decide +kernel
theorem dX5_kinds_84 : decode cX5_kinds 84 = .ok (.invokestatic 59, 3) := by decide +kernel
theorem dX5_kinds_87 : decode cX5_kinds 87 = .ok (.iload 4, 2) := by decide +kernel
theorem dX5_kinds_89 : decode cX5_kinds 89 = .ok (.iastore, 1) := by decide +kernel
theorem dX5_kinds_90 : decode cX5_kinds 90 = .ok (.iload 5, 2) := by decide +kernel
theorem dX5_kinds_92 : decode cX5_kinds 92 = .ok (.ireturn, 1) := by decide +kernel
theorem dX5_draw_0 : decode cX5_draw 0 = .ok (.aload_n 0, 1) := by decide +kernel
theorem dX5_draw_1 : decode cX5_draw 1 = .ok (.getfield 7, 3) := by decide +kernel
theorem dX5_draw_4 : decode cX5_draw 4 = .ok (.iconst 2, 1) := by decide +kernel
theorem dX5_draw_5 : decode cX5_draw 5 = .ok (.aload_n 0, 1) := by decide +kernel
theorem dX5_draw_6 : decode cX5_draw 6 = .ok (.getfield 7, 3) := by decide +kernel
theorem dX5_draw_9 : decode cX5_draw 9 = .ok (.iconst 2, 1) := by decide +kernel
theorem dX5_draw_10 : decode cX5_draw 10 = .ok (.iaload, 1) := by decide +kernel
theorem dX5_draw_11 : decode cX5_draw 11 = .ok (.ldc 191, 2) := by decide +kernel
theorem dX5_draw_13 : decode cX5_draw 13 = .ok (.imul, 1) := by decide +kernel
theorem dX5_draw_14 : decode cX5_draw 14 = .ok (.sipush 12345, 3) := by decide +kernel
theorem dX5_draw_17 : decode cX5_draw 17 = .ok (.iadd, 1) := by decide +kernel
theorem dX5_draw_18 : decode cX5_draw 18 = .ok (.iastore, 1) := by decide +kernel
theorem dX5_draw_19 : decode cX5_draw 19 = .ok (.aload_n 0, 1) := by decide +kernel
theorem dX5_draw_20 : decode cX5_draw 20 = .ok (.getfield 7, 3) := by decide +kernel
theorem dX5_draw_23 : decode cX5_draw 23 = .ok (.iconst 2, 1) := by decide +kernel
theorem dX5_draw_24 : decode cX5_draw 24 = .ok (.iaload, 1) := by decide +kernel
theorem dX5_draw_25 : decode cX5_draw 25 = .ok (.bipush 8, 2) := by decide +kernel
theorem dX5_draw_27 : decode cX5_draw 27 = .ok (.iushr, 1) := by decide +kernel
theorem dX5_draw_28 : decode cX5_draw 28 = .ok (.ireturn, 1) := by decide +kernel
set_option maxRecDepth 20000 in
theorem ggX5_talk_X5_isIn : GoodIn wsX5_talk wsX5_isIn := goodIn_r _ [9] (by decide +kernel) (by decide +kernel)
set_option maxRecDepth 20000 in
theorem gX5_talk_X5_isIn : GoodIn wsX5_talk (va_wsS RX5 45 yX5_isIn wsX5_isIn) := goodIn_app (goodIn_of _ (by decide +kernel)) ggX5_talk_X5_isIn
set_option maxRecDepth 20000 in
theorem ggX5_talk_X5_finds : GoodIn wsX5_talk wsX5_finds := goodIn_r _ [13, 14, 2, 71, 72, 73, 74, 75, 76, 77, 78, 79, 80, 81, 82, 83, 84, 85, 86, 87, 88] (by decide +kernel) (by decide +kernel)
set_option maxRecDepth 20000 in
theorem gX5_talk_X5_finds : GoodIn wsX5_talk (wsV RX5 39 RX5 yX5_finds wsX5_finds) := goodIn_app (goodIn_of _ (by decide +kernel)) ggX5_talk_X5_finds
set_option maxRecDepth 20000 in
theorem ggX5_talk_X5_draw : GoodIn wsX5_talk wsX5_draw := goodIn_r _ [18, 3, 19, 71, 72, 73, 74, 75, 76, 77, 78, 79, 80, 81, 82, 83, 84, 85, 86, 87, 88] (by decide +kernel) (by decide +kernel)
set_option maxRecDepth 20000 in
theorem gX5_talk_X5_draw : GoodIn wsX5_talk (wsV RX5 192 RX5 yX5_draw wsX5_draw) := goodIn_app (goodIn_of _ (by decide +kernel)) ggX5_talk_X5_draw
set_option maxRecDepth 20000 in
theorem ggX5_talk_X5_dayBut : GoodIn wsX5_talk wsX5_dayBut := goodIn_r _ [23, 3, 24, 25, 26, 8, 27, 28, 29, 30, 31, 32, 33, 34, 35, 36, 37, 38, 39, 40, 41, 42, 43, 44, 45, 46, 47, 4, 48, 49, 50, 51, 52, 53, 54, 55, 56, 57, 58, 59, 60, 61, 62, 63, 64, 65, 66, 71, 72, 73, 74, 75, 76, 77, 78, 79, 80, 81, 82, 83, 84, 85, 86, 87, 88] (by decide +kernel) (by decide +kernel)
set_option maxRecDepth 20000 in
theorem gX5_talk_X5_dayBut : GoodIn wsX5_talk (wsV RX5 125 RX5 yX5_dayBut wsX5_dayBut) := goodIn_app (goodIn_of _ (by decide +kernel)) ggX5_talk_X5_dayBut
set_option maxRecDepth 20000 in
theorem ggX5_talk_X5_leftAll : GoodIn wsX5_talk wsX5_leftAll := goodIn_r _ [70, 3, 52, 53, 54, 8, 55, 28, 29, 30, 31, 71, 72, 73, 74, 75, 76, 77, 78, 79, 80, 81, 82, 83, 84, 85, 86, 87, 88] (by decide +kernel) (by decide +kernel)
set_option maxRecDepth 20000 in
theorem gX5_talk_X5_leftAll : GoodIn wsX5_talk (wsV RX5 134 RX5 yX5_leftAll wsX5_leftAll) := goodIn_app (goodIn_of _ (by decide +kernel)) ggX5_talk_X5_leftAll
theorem dX5_talk_0 : decode cX5_talk 0 = .ok (.iload_n 1, 1) := by decide +kernel
theorem dX5_talk_1 : decode cX5_talk 1 = .ok (.i2l, 1) := by decide +kernel
theorem dX5_talk_2 : decode cX5_talk 2 = .ok (.lconst 1, 1) := by decide +kernel
theorem dX5_talk_3 : decode cX5_talk 3 = .ok (.ldc2_w 57, 3) := by decide +kernel
theorem dX5_talk_6 : decode cX5_talk 6 = .ok (.invokestatic 45, 3) := by decide +kernel
theorem dX5_talk_9 : decode cX5_talk 9 = .ok (.ifCond .ne 10, 3) := by decide +kernel
theorem dX5_talk_12 : decode cX5_talk 12 = .ok (.aload_n 0, 1) := by decide +kernel
theorem dX5_talk_13 : decode cX5_talk 13 = .ok (.ldc 37, 2) := by decide +kernel
theorem dX5_talk_15 : decode cX5_talk 15 = .ok (.invokevirtual 39, 3) := by decide +kernel
theorem dX5_talk_18 : decode cX5_talk 18 = .ok (.ireturn, 1) := by decide +kernel
theorem dX5_talk_19 : decode cX5_talk 19 = .ok (.aload_n 0, 1) := by decide +kernel
theorem dX5_talk_20 : decode cX5_talk 20 = .ok (.getfield 7, 3) := by decide +kernel
theorem dX5_talk_23 : decode cX5_talk 23 = .ok (.iconst 1, 1) := by decide +kernel
theorem dX5_talk_24 : decode cX5_talk 24 = .ok (.iaload, 1) := by decide +kernel
theorem dX5_talk_25 : decode cX5_talk 25 = .ok (.iload_n 1, 1) := by decide +kernel
theorem dX5_talk_26 : decode cX5_talk 26 = .ok (.iadd, 1) := by decide +kernel
theorem dX5_talk_27 : decode cX5_talk 27 = .ok (.ldc 117, 2) := by decide +kernel
theorem dX5_talk_29 : decode cX5_talk 29 = .ok (.if_icmp .le 10, 3) := by decide +kernel
theorem dX5_talk_32 : decode cX5_talk 32 = .ok (.aload_n 0, 1) := by decide +kernel
theorem dX5_talk_33 : decode cX5_talk 33 = .ok (.ldc 130, 2) := by decide +kernel
theorem dX5_talk_35 : decode cX5_talk 35 = .ok (.invokevirtual 39, 3) := by decide +kernel
theorem dX5_talk_38 : decode cX5_talk 38 = .ok (.ireturn, 1) := by decide +kernel
theorem dX5_talk_39 : decode cX5_talk 39 = .ok (.iconst 0, 1) := by decide +kernel
theorem dX5_talk_40 : decode cX5_talk 40 = .ok (.istore_n 2, 1) := by decide +kernel
theorem dX5_talk_41 : decode cX5_talk 41 = .ok (.iload_n 2, 1) := by decide +kernel
theorem dX5_talk_42 : decode cX5_talk 42 = .ok (.iload_n 1, 1) := by decide +kernel
theorem dX5_talk_43 : decode cX5_talk 43 = .ok (.if_icmp .ge 37, 3) := by decide +kernel
theorem dX5_talk_46 : decode cX5_talk 46 = .ok (.aload_n 0, 1) := by decide +kernel
theorem dX5_talk_47 : decode cX5_talk 47 = .ok (.invokevirtual 192, 3) := by decide +kernel
theorem dX5_talk_50 : decode cX5_talk 50 = .ok (.bipush 6, 2) := by decide +kernel
theorem dX5_talk_52 : decode cX5_talk 52 = .ok (.irem, 1) := by decide +kernel
theorem dX5_talk_53 : decode cX5_talk 53 = .ok (.istore_n 3, 1) := by decide +kernel
theorem dX5_talk_54 : decode cX5_talk 54 = .ok (.aload_n 0, 1) := by decide +kernel
theorem dX5_talk_55 : decode cX5_talk 55 = .ok (.getfield 7, 3) := by decide +kernel
theorem dX5_talk_58 : decode cX5_talk 58 = .ok (.iconst 4, 1) := by decide +kernel
theorem dX5_talk_59 : decode cX5_talk 59 = .ok (.iload_n 3, 1) := by decide +kernel
theorem dX5_talk_60 : decode cX5_talk 60 = .ok (.iadd, 1) := by decide +kernel
theorem dX5_talk_61 : decode cX5_talk 61 = .ok (.aload_n 0, 1) := by decide +kernel
theorem dX5_talk_62 : decode cX5_talk 62 = .ok (.invokevirtual 192, 3) := by decide +kernel
theorem dX5_talk_65 : decode cX5_talk 65 = .ok (.bipush 21, 2) := by decide +kernel
theorem dX5_talk_67 : decode cX5_talk 67 = .ok (.irem, 1) := by decide +kernel
theorem dX5_talk_68 : decode cX5_talk 68 = .ok (.iastore, 1) := by decide +kernel
theorem dX5_talk_69 : decode cX5_talk 69 = .ok (.aload_n 0, 1) := by decide +kernel
theorem dX5_talk_70 : decode cX5_talk 70 = .ok (.iconst 0, 1) := by decide +kernel
theorem dX5_talk_71 : decode cX5_talk 71 = .ok (.invokevirtual 125, 3) := by decide +kernel
theorem dX5_talk_74 : decode cX5_talk 74 = .ok (.iinc 2 1, 3) := by decide +kernel
theorem dX5_talk_77 : decode cX5_talk 77 = .ok (.goto (-36), 3) := by decide +kernel
theorem dX5_talk_80 : decode cX5_talk 80 = .ok (.aload_n 0, 1) := by decide +kernel
theorem dX5_talk_81 : decode cX5_talk 81 = .ok (.invokevirtual 134, 3) := by decide +kernel
theorem dX5_talk_84 : decode cX5_talk 84 = .ok (.ireturn, 1) := by decide +kernel
set_option maxRecDepth 20000 in
theorem ggX5_odds_X5_isOne : GoodIn wsX5_odds wsX5_isOne := goodIn_r _ [8, 9, 26, 27, 28, 29, 30, 31, 32, 33, 34, 35, 36, 37, 38, 39, 40, 41, 42, 43] (by decide +kernel) (by decide +kernel)
set_option maxRecDepth 20000 in
theorem gX5_odds_X5_isOne : GoodIn wsX5_odds (wsV RX5 78 RX5 yX5_isOne wsX5_isOne) := goodIn_app (goodIn_of _ (by decide +kernel)) ggX5_odds_X5_isOne
set_option maxRecDepth 20000 in
theorem ggX5_odds_X5_isIn : GoodIn wsX5_odds wsX5_isIn := goodIn_r _ [12] (by decide +kernel) (by decide +kernel)
set_option maxRecDepth 20000 in
theorem gX5_odds_X5_isIn : GoodIn wsX5_odds (va_wsS RX5 45 yX5_isIn wsX5_isIn) := goodIn_app (goodIn_of _ (by decide +kernel)) ggX5_odds_X5_isIn
set_option maxRecDepth 20000 in
theorem ggX5_odds_X5_finds : GoodIn wsX5_odds wsX5_finds := goodIn_r _ [16, 17, 2, 26, 27, 28, 29, 30, 31, 32, 33, 34, 35, 36, 37, 38, 39, 40, 41, 42, 43] (by decide +kernel) (by decide +kernel)
set_option maxRecDepth 20000 in
theorem gX5_odds_X5_finds : GoodIn wsX5_odds (wsV RX5 39 RX5 yX5_finds wsX5_finds) := goodIn_app (goodIn_of _ (by decide +kernel)) ggX5_odds_X5_finds
set_option maxRecDepth 20000 in
theorem ggX5_odds_X5_its : GoodIn wsX5_odds wsX5_its := goodIn_r _ [21, 9, 26, 27, 28, 29, 30, 31, 32, 33, 34, 35, 36, 37, 38, 39, 40, 41, 42, 43] (by decide +kernel) (by decide +kernel)
set_option maxRecDepth 20000 in
theorem gX5_odds_X5_its : GoodIn wsX5_odds (wsV RX5 69 RX5 yX5_its wsX5_its) := goodIn_app (goodIn_of _ (by decide +kernel)) ggX5_odds_X5_its
set_option maxRecDepth 20000 in
theorem ggX5_odds_X5_chewsOf : GoodIn wsX5_odds wsX5_chewsOf := goodIn_r _ [25, 9, 26, 27, 28, 29, 30, 31, 32, 33, 34, 35, 36, 37, 38, 39, 40, 41, 42, 43] (by decide +kernel) (by decide +kernel)
set_option maxRecDepth 20000 in
theorem gX5_odds_X5_chewsOf : GoodIn wsX5_odds (wsV RX5 97 RX5 yX5_chewsOf wsX5_chewsOf) := goodIn_app (goodIn_of _ (by decide +kernel)) ggX5_odds_X5_chewsOf
theorem dX5_odds_0 : decode cX5_odds 0 = .ok (.aload_n 0, 1) := by decide +kernel
theorem dX5_odds_1 : decode cX5_odds 1 = .ok (.iload_n 1, 1) := by decide +kernel
theorem dX5_odds_2 : decode cX5_odds 2 = .ok (.invokevirtual 78, 3) := by decide +kernel
theorem dX5_odds_5 : decode cX5_odds 5 = .ok (.ifCond .eq 25, 3) := by decide +kernel
theorem dX5_odds_8 : decode cX5_odds 8 = .ok (.iload_n 2, 1) := by decide +kernel
theorem dX5_odds_9 : decode cX5_odds 9 = .ok (.i2l, 1) := by decide +kernel
theorem dX5_odds_10 : decode cX5_odds 10 = .ok (.lconst 0, 1) := by decide +kernel
theorem dX5_odds_11 : decode cX5_odds 11 = .ok (.ldc2_w 195, 3) := by decide +kernel
theorem dX5_odds_14 : decode cX5_odds 14 = .ok (.invokestatic 45, 3) := by decide +kernel
theorem dX5_odds_17 : decode cX5_odds 17 = .ok (.ifCond .eq 13, 3) := by decide +kernel
theorem dX5_odds_20 : decode cX5_odds 20 = .ok (.iload_n 3, 1) := by decide +kernel
theorem dX5_odds_21 : decode cX5_odds 21 = .ok (.i2l, 1) := by decide +kernel
theorem dX5_odds_22 : decode cX5_odds 22 = .ok (.lconst 0, 1) := by decide +kernel
theorem dX5_odds_23 : decode cX5_odds 23 = .ok (.lconst 1, 1) := by decide +kernel
theorem dX5_odds_24 : decode cX5_odds 24 = .ok (.invokestatic 45, 3) := by decide +kernel
theorem dX5_odds_27 : decode cX5_odds 27 = .ok (.ifCond .ne 11, 3) := by decide +kernel
theorem dX5_odds_30 : decode cX5_odds 30 = .ok (.aload_n 0, 1) := by decide +kernel
theorem dX5_odds_31 : decode cX5_odds 31 = .ok (.ldc 37, 2) := by decide +kernel
theorem dX5_odds_33 : decode cX5_odds 33 = .ok (.invokevirtual 39, 3) := by decide +kernel
theorem dX5_odds_36 : decode cX5_odds 36 = .ok (.i2l, 1) := by decide +kernel
theorem dX5_odds_37 : decode cX5_odds 37 = .ok (.lreturn, 1) := by decide +kernel
theorem dX5_odds_38 : decode cX5_odds 38 = .ok (.lconst 1, 1) := by decide +kernel
theorem dX5_odds_39 : decode cX5_odds 39 = .ok (.lstore 4, 2) := by decide +kernel
theorem dX5_odds_41 : decode cX5_odds 41 = .ok (.lconst 1, 1) := by decide +kernel
theorem dX5_odds_42 : decode cX5_odds 42 = .ok (.lstore 6, 2) := by decide +kernel
theorem dX5_odds_44 : decode cX5_odds 44 = .ok (.iconst 0, 1) := by decide +kernel
theorem dX5_odds_45 : decode cX5_odds 45 = .ok (.istore 8, 2) := by decide +kernel
theorem dX5_odds_47 : decode cX5_odds 47 = .ok (.iconst 0, 1) := by decide +kernel
theorem dX5_odds_48 : decode cX5_odds 48 = .ok (.istore 9, 2) := by decide +kernel
theorem dX5_odds_50 : decode cX5_odds 50 = .ok (.iload 9, 2) := by decide +kernel
theorem dX5_odds_52 : decode cX5_odds 52 = .ok (.bipush 6, 2) := by decide +kernel
theorem dX5_odds_54 : decode cX5_odds 54 = .ok (.if_icmp .ge 34, 3) := by decide +kernel
theorem dX5_odds_57 : decode cX5_odds 57 = .ok (.iload 8, 2) := by decide +kernel
theorem dX5_odds_59 : decode cX5_odds 59 = .ok (.aload_n 0, 1) := by decide +kernel
theorem dX5_odds_60 : decode cX5_odds 60 = .ok (.aload_n 0, 1) := by decide +kernel
theorem dX5_odds_61 : decode cX5_odds 61 = .ok (.iload_n 1, 1) := by decide +kernel
theorem dX5_odds_62 : decode cX5_odds 62 = .ok (.iconst 0, 1) := by decide +kernel
theorem dX5_odds_63 : decode cX5_odds 63 = .ok (.invokevirtual 69, 3) := by decide +kernel
theorem dX5_odds_66 : decode cX5_odds 66 = .ok (.iload 9, 2) := by decide +kernel
theorem dX5_odds_68 : decode cX5_odds 68 = .ok (.invokevirtual 97, 3) := by decide +kernel
theorem dX5_odds_71 : decode cX5_odds 71 = .ok (.ifCond .lt 7, 3) := by decide +kernel
theorem dX5_odds_74 : decode cX5_odds 74 = .ok (.iconst 1, 1) := by decide +kernel
theorem dX5_odds_75 : decode cX5_odds 75 = .ok (.goto 4, 3) := by decide +kernel
theorem dX5_odds_78 : decode cX5_odds 78 = .ok (.iconst 0, 1) := by decide +kernel
theorem dX5_odds_79 : decode cX5_odds 79 = .ok (.iadd, 1) := by decide +kernel
theorem dX5_odds_80 : decode cX5_odds 80 = .ok (.istore 8, 2) := by decide +kernel
theorem dX5_odds_82 : decode cX5_odds 82 = .ok (.iinc 9 1, 3) := by decide +kernel
theorem dX5_odds_85 : decode cX5_odds 85 = .ok (.goto (-35), 3) := by decide +kernel
theorem dX5_odds_88 : decode cX5_odds 88 = .ok (.iconst 0, 1) := by decide +kernel
theorem dX5_odds_89 : decode cX5_odds 89 = .ok (.istore 9, 2) := by decide +kernel
theorem dX5_odds_91 : decode cX5_odds 91 = .ok (.iload 9, 2) := by decide +kernel
theorem dX5_odds_93 : decode cX5_odds 93 = .ok (.iload_n 2, 1) := by decide +kernel
theorem dX5_odds_94 : decode cX5_odds 94 = .ok (.if_icmp .ge 25, 3) := by decide +kernel
theorem dX5_odds_97 : decode cX5_odds 97 = .ok (.lload 4, 2) := by decide +kernel
theorem dX5_odds_99 : decode cX5_odds 99 = .ok (.iload 8, 2) := by decide +kernel
theorem dX5_odds_101 : decode cX5_odds 101 = .ok (.i2l, 1) := by decide +kernel
theorem dX5_odds_102 : decode cX5_odds 102 = .ok (.lmul, 1) := by decide +kernel
theorem dX5_odds_103 : decode cX5_odds 103 = .ok (.lstore 4, 2) := by decide +kernel
theorem dX5_odds_105 : decode cX5_odds 105 = .ok (.lload 6, 2) := by decide +kernel
theorem dX5_odds_107 : decode cX5_odds 107 = .ok (.ldc2_w 62, 3) := by decide +kernel
theorem dX5_odds_110 : decode cX5_odds 110 = .ok (.lmul, 1) := by decide +kernel
theorem dX5_odds_111 : decode cX5_odds 111 = .ok (.lstore 6, 2) := by decide +kernel
theorem dX5_odds_113 : decode cX5_odds 113 = .ok (.iinc 9 1, 3) := by decide +kernel
theorem dX5_odds_116 : decode cX5_odds 116 = .ok (.goto (-25), 3) := by decide +kernel
theorem dX5_odds_119 : decode cX5_odds 119 = .ok (.lload 6, 2) := by decide +kernel
theorem dX5_odds_121 : decode cX5_odds 121 = .ok (.lstore 9, 2) := by decide +kernel
theorem dX5_odds_123 : decode cX5_odds 123 = .ok (.lload 4, 2) := by decide +kernel
theorem dX5_odds_125 : decode cX5_odds 125 = .ok (.lstore 11, 2) := by decide +kernel
theorem dX5_odds_127 : decode cX5_odds 127 = .ok (.lload 11, 2) := by decide +kernel
theorem dX5_odds_129 : decode cX5_odds 129 = .ok (.lconst 0, 1) := by decide +kernel
theorem dX5_odds_130 : decode cX5_odds 130 = .ok (.lcmp, 1) := by decide +kernel
theorem dX5_odds_131 : decode cX5_odds 131 = .ok (.ifCond .eq 21, 3) := by decide +kernel
theorem dX5_odds_134 : decode cX5_odds 134 = .ok (.lload 9, 2) := by decide +kernel
theorem dX5_odds_136 : decode cX5_odds 136 = .ok (.lload 11, 2) := by decide +kernel
theorem dX5_odds_138 : decode cX5_odds 138 = .ok (.lrem, 1) := by decide +kernel
theorem dX5_odds_139 : decode cX5_odds 139 = .ok (.lstore 13, 2) := by decide +kernel
theorem dX5_odds_141 : decode cX5_odds 141 = .ok (.lload 11, 2) := by decide +kernel
theorem dX5_odds_143 : decode cX5_odds 143 = .ok (.lstore 9, 2) := by decide +kernel
theorem dX5_odds_145 : decode cX5_odds 145 = .ok (.lload 13, 2) := by decide +kernel
theorem dX5_odds_147 : decode cX5_odds 147 = .ok (.lstore 11, 2) := by decide +kernel
theorem dX5_odds_149 : decode cX5_odds 149 = .ok (.goto (-22), 3) := by decide +kernel
theorem dX5_odds_152 : decode cX5_odds 152 = .ok (.iload_n 3, 1) := by decide +kernel
theorem dX5_odds_153 : decode cX5_odds 153 = .ok (.ifCond .ne 11, 3) := by decide +kernel
theorem dX5_odds_156 : decode cX5_odds 156 = .ok (.lload 4, 2) := by decide +kernel
theorem dX5_odds_158 : decode cX5_odds 158 = .ok (.lload 9, 2) := by decide +kernel
theorem dX5_odds_160 : decode cX5_odds 160 = .ok (.ldiv, 1) := by decide +kernel
theorem dX5_odds_161 : decode cX5_odds 161 = .ok (.goto 8, 3) := by decide +kernel
theorem dX5_odds_164 : decode cX5_odds 164 = .ok (.lload 6, 2) := by decide +kernel
theorem dX5_odds_166 : decode cX5_odds 166 = .ok (.lload 9, 2) := by decide +kernel
theorem dX5_odds_168 : decode cX5_odds 168 = .ok (.ldiv, 1) := by decide +kernel
theorem dX5_odds_169 : decode cX5_odds 169 = .ok (.lreturn, 1) := by decide +kernel
set_option maxRecDepth 20000 in
theorem ggX5_seed_X5_becomes : GoodIn wsX5_seed wsX5_becomes := goodIn_r _ [5, 6, 7, 8, 9, 10, 11, 12, 13, 14, 15, 16, 17, 18, 19, 20, 21, 22, 23, 24] (by decide +kernel) (by decide +kernel)
set_option maxRecDepth 20000 in
theorem gX5_seed_X5_becomes : GoodIn wsX5_seed (wsV RX5 49 RX5 yX5_becomes wsX5_becomes) := goodIn_app (goodIn_of _ (by decide +kernel)) ggX5_seed_X5_becomes
theorem dX5_seed_0 : decode cX5_seed 0 = .ok (.aload_n 0, 1) := by decide +kernel
theorem dX5_seed_1 : decode cX5_seed 1 = .ok (.iconst 2, 1) := by decide +kernel
theorem dX5_seed_2 : decode cX5_seed 2 = .ok (.iload_n 1, 1) := by decide +kernel
theorem dX5_seed_3 : decode cX5_seed 3 = .ok (.invokevirtual 49, 3) := by decide +kernel
theorem dX5_seed_6 : decode cX5_seed 6 = .ok (.ireturn, 1) := by decide +kernel
set_option maxRecDepth 20000 in
theorem ggX5_feed_X5_isIn : GoodIn wsX5_feed wsX5_isIn := goodIn_r _ [9] (by decide +kernel) (by decide +kernel)
set_option maxRecDepth 20000 in
theorem gX5_feed_X5_isIn : GoodIn wsX5_feed (va_wsS RX5 45 yX5_isIn wsX5_isIn) := goodIn_app (goodIn_of _ (by decide +kernel)) ggX5_feed_X5_isIn
set_option maxRecDepth 20000 in
theorem ggX5_feed_X5_finds : GoodIn wsX5_feed wsX5_finds := goodIn_r _ [13, 14, 2, 15, 16, 17, 18, 19, 20, 21, 22, 23, 24, 25, 26, 27, 28, 29, 30, 31, 32] (by decide +kernel) (by decide +kernel)
set_option maxRecDepth 20000 in
theorem gX5_feed_X5_finds : GoodIn wsX5_feed (wsV RX5 39 RX5 yX5_finds wsX5_finds) := goodIn_app (goodIn_of _ (by decide +kernel)) ggX5_feed_X5_finds
theorem dX5_feed_0 : decode cX5_feed 0 = .ok (.iload_n 2, 1) := by decide +kernel
theorem dX5_feed_1 : decode cX5_feed 1 = .ok (.i2l, 1) := by decide +kernel
theorem dX5_feed_2 : decode cX5_feed 2 = .ok (.lconst 1, 1) := by decide +kernel
theorem dX5_feed_3 : decode cX5_feed 3 = .ok (.ldc2_w 197, 3) := by decide +kernel
theorem dX5_feed_6 : decode cX5_feed 6 = .ok (.invokestatic 45, 3) := by decide +kernel
theorem dX5_feed_9 : decode cX5_feed 9 = .ok (.ifCond .ne 10, 3) := by decide +kernel
theorem dX5_feed_12 : decode cX5_feed 12 = .ok (.aload_n 0, 1) := by decide +kernel
theorem dX5_feed_13 : decode cX5_feed 13 = .ok (.ldc 37, 2) := by decide +kernel
theorem dX5_feed_15 : decode cX5_feed 15 = .ok (.invokevirtual 39, 3) := by decide +kernel
theorem dX5_feed_18 : decode cX5_feed 18 = .ok (.ireturn, 1) := by decide +kernel
theorem dX5_feed_19 : decode cX5_feed 19 = .ok (.aload_n 0, 1) := by decide +kernel
theorem dX5_feed_20 : decode cX5_feed 20 = .ok (.getfield 199, 3) := by decide +kernel
theorem dX5_feed_23 : decode cX5_feed 23 = .ok (.iload_n 2, 1) := by decide +kernel
theorem dX5_feed_24 : decode cX5_feed 24 = .ok (.iadd, 1) := by decide +kernel
theorem dX5_feed_25 : decode cX5_feed 25 = .ok (.bipush 120, 2) := by decide +kernel
theorem dX5_feed_27 : decode cX5_feed 27 = .ok (.if_icmp .le 10, 3) := by decide +kernel
theorem dX5_feed_30 : decode cX5_feed 30 = .ok (.aload_n 0, 1) := by decide +kernel
theorem dX5_feed_31 : decode cX5_feed 31 = .ok (.ldc 64, 2) := by decide +kernel
theorem dX5_feed_33 : decode cX5_feed 33 = .ok (.invokevirtual 39, 3) := by decide +kernel
theorem dX5_feed_36 : decode cX5_feed 36 = .ok (.ireturn, 1) := by decide +kernel
theorem dX5_feed_37 : decode cX5_feed 37 = .ok (.iload_n 2, 1) := by decide +kernel
theorem dX5_feed_38 : decode cX5_feed 38 = .ok (.iconst 1, 1) := by decide +kernel
theorem dX5_feed_39 : decode cX5_feed 39 = .ok (.isub, 1) := by decide +kernel
theorem dX5_feed_40 : decode cX5_feed 40 = .ok (.istore_n 3, 1) := by decide +kernel
theorem dX5_feed_41 : decode cX5_feed 41 = .ok (.iload_n 3, 1) := by decide +kernel
theorem dX5_feed_42 : decode cX5_feed 42 = .ok (.ifCond .lt 38, 3) := by decide +kernel
theorem dX5_feed_45 : decode cX5_feed 45 = .ok (.aload_n 0, 1) := by decide +kernel
theorem dX5_feed_46 : decode cX5_feed 46 = .ok (.getfield 25, 3) := by decide +kernel
theorem dX5_feed_49 : decode cX5_feed 49 = .ok (.aload_n 0, 1) := by decide +kernel
theorem dX5_feed_50 : decode cX5_feed 50 = .ok (.getfield 199, 3) := by decide +kernel
theorem dX5_feed_53 : decode cX5_feed 53 = .ok (.iload_n 1, 1) := by decide +kernel
theorem dX5_feed_54 : decode cX5_feed 54 = .ok (.bipush 8, 2) := by decide +kernel
theorem dX5_feed_56 : decode cX5_feed 56 = .ok (.iload_n 3, 1) := by decide +kernel
theorem dX5_feed_57 : decode cX5_feed 57 = .ok (.imul, 1) := by decide +kernel
theorem dX5_feed_58 : decode cX5_feed 58 = .ok (.ishr, 1) := by decide +kernel
theorem dX5_feed_59 : decode cX5_feed 59 = .ok (.sipush 255, 3) := by decide +kernel
theorem dX5_feed_62 : decode cX5_feed 62 = .ok (.iand, 1) := by decide +kernel
theorem dX5_feed_63 : decode cX5_feed 63 = .ok (.iastore, 1) := by decide +kernel
theorem dX5_feed_64 : decode cX5_feed 64 = .ok (.aload_n 0, 1) := by decide +kernel
theorem dX5_feed_65 : decode cX5_feed 65 = .ok (.dup, 1) := by decide +kernel
theorem dX5_feed_66 : decode cX5_feed 66 = .ok (.getfield 199, 3) := by decide +kernel
theorem dX5_feed_69 : decode cX5_feed 69 = .ok (.iconst 1, 1) := by decide +kernel
theorem dX5_feed_70 : decode cX5_feed 70 = .ok (.iadd, 1) := by decide +kernel
theorem dX5_feed_71 : decode cX5_feed 71 = .ok (.putfield 199, 3) := by decide +kernel
theorem dX5_feed_74 : decode cX5_feed 74 = .ok (.iinc 3 (-1), 3) := by decide +kernel
theorem dX5_feed_77 : decode cX5_feed 77 = .ok (.goto (-36), 3) := by decide +kernel
theorem dX5_feed_80 : decode cX5_feed 80 = .ok (.aload_n 0, 1) := by decide +kernel
theorem dX5_feed_81 : decode cX5_feed 81 = .ok (.getfield 199, 3) := by decide +kernel
theorem dX5_feed_84 : decode cX5_feed 84 = .ok (.ireturn, 1) := by decide +kernel
theorem dX5_wipe_0 : decode cX5_wipe 0 = .ok (.aload_n 0, 1) := by decide +kernel
theorem dX5_wipe_1 : decode cX5_wipe 1 = .ok (.getfield 199, 3) := by decide +kernel
theorem dX5_wipe_4 : decode cX5_wipe 4 = .ok (.istore_n 1, 1) := by decide +kernel
theorem dX5_wipe_5 : decode cX5_wipe 5 = .ok (.aload_n 0, 1) := by decide +kernel
theorem dX5_wipe_6 : decode cX5_wipe 6 = .ok (.iconst 0, 1) := by decide +kernel
theorem dX5_wipe_7 : decode cX5_wipe 7 = .ok (.putfield 199, 3) := by decide +kernel
theorem dX5_wipe_10 : decode cX5_wipe 10 = .ok (.iload_n 1, 1) := by decide +kernel
theorem dX5_wipe_11 : decode cX5_wipe 11 = .ok (.ireturn, 1) := by decide +kernel
theorem dX5_isLetter_0 : decode cX5_isLetter 0 = .ok (.iload_n 0, 1) := by decide +kernel
theorem dX5_isLetter_1 : decode cX5_isLetter 1 = .ok (.bipush 97, 2) := by decide +kernel
theorem dX5_isLetter_3 : decode cX5_isLetter 3 = .ok (.if_icmp .lt 13, 3) := by decide +kernel
theorem dX5_isLetter_6 : decode cX5_isLetter 6 = .ok (.iload_n 0, 1) := by decide +kernel
theorem dX5_isLetter_7 : decode cX5_isLetter 7 = .ok (.bipush 122, 2) := by decide +kernel
theorem dX5_isLetter_9 : decode cX5_isLetter 9 = .ok (.if_icmp .gt 7, 3) := by decide +kernel
theorem dX5_isLetter_12 : decode cX5_isLetter 12 = .ok (.iconst 1, 1) := by decide +kernel
theorem dX5_isLetter_13 : decode cX5_isLetter 13 = .ok (.goto 4, 3) := by decide +kernel
theorem dX5_isLetter_16 : decode cX5_isLetter 16 = .ok (.iconst 0, 1) := by decide +kernel
theorem dX5_isLetter_17 : decode cX5_isLetter 17 = .ok (.ireturn, 1) := by decide +kernel
theorem dX5_isDigit_0 : decode cX5_isDigit 0 = .ok (.iload_n 0, 1) := by decide +kernel
theorem dX5_isDigit_1 : decode cX5_isDigit 1 = .ok (.bipush 48, 2) := by decide +kernel
theorem dX5_isDigit_3 : decode cX5_isDigit 3 = .ok (.if_icmp .lt 13, 3) := by decide +kernel
theorem dX5_isDigit_6 : decode cX5_isDigit 6 = .ok (.iload_n 0, 1) := by decide +kernel
theorem dX5_isDigit_7 : decode cX5_isDigit 7 = .ok (.bipush 57, 2) := by decide +kernel
theorem dX5_isDigit_9 : decode cX5_isDigit 9 = .ok (.if_icmp .gt 7, 3) := by decide +kernel
theorem dX5_isDigit_12 : decode cX5_isDigit 12 = .ok (.iconst 1, 1) := by decide +kernel
theorem dX5_isDigit_13 : decode cX5_isDigit 13 = .ok (.goto 4, 3) := by decide +kernel
theorem dX5_isDigit_16 : decode cX5_isDigit 16 = .ok (.iconst 0, 1) := by decide +kernel
theorem dX5_isDigit_17 : decode cX5_isDigit 17 = .ok (.ireturn, 1) := by decide +kernel
theorem dX5_byteAt_0 : decode cX5_byteAt 0 = .ok (.iload_n 1, 1) := by decide +kernel
theorem dX5_byteAt_1 : decode cX5_byteAt 1 = .ok (.aload_n 0, 1) := by decide +kernel
theorem dX5_byteAt_2 : decode cX5_byteAt 2 = .ok (.getfield 199, 3) := by decide +kernel
theorem dX5_byteAt_5 : decode cX5_byteAt 5 = .ok (.if_icmp .ge 12, 3) := by decide +kernel
theorem dX5_byteAt_8 : decode cX5_byteAt 8 = .ok (.aload_n 0, 1) := by decide +kernel
theorem dX5_byteAt_9 : decode cX5_byteAt 9 = .ok (.getfield 25, 3) := by decide +kernel
theorem dX5_byteAt_12 : decode cX5_byteAt 12 = .ok (.iload_n 1, 1) := by decide +kernel
theorem dX5_byteAt_13 : decode cX5_byteAt 13 = .ok (.iaload, 1) := by decide +kernel
theorem dX5_byteAt_14 : decode cX5_byteAt 14 = .ok (.goto 4, 3) := by decide +kernel
theorem dX5_byteAt_17 : decode cX5_byteAt 17 = .ok (.iconst (-1), 1) := by decide +kernel
theorem dX5_byteAt_18 : decode cX5_byteAt 18 = .ok (.ireturn, 1) := by decide +kernel
set_option maxRecDepth 20000 in
theorem ggX5_nextToken_X5_byteAt : GoodIn wsX5_nextToken wsX5_byteAt := goodIn_r _ [9, 10, 11, 18, 19, 20, 21, 22, 23, 24, 25, 26, 27, 28, 29, 30, 31, 32, 33, 34, 35] (by decide +kernel) (by decide +kernel)
set_option maxRecDepth 20000 in
theorem gX5_nextToken_X5_byteAt : GoodIn wsX5_nextToken (wsV RX5 208 RX5 yX5_byteAt wsX5_byteAt) := goodIn_app (goodIn_of _ (by decide +kernel)) ggX5_nextToken_X5_byteAt
set_option maxRecDepth 20000 in
theorem ggX5_nextToken_X5_isLetter : GoodIn wsX5_nextToken wsX5_isLetter := goodIn_r _ [14] (by decide +kernel) (by decide +kernel)
set_option maxRecDepth 20000 in
theorem gX5_nextToken_X5_isLetter : GoodIn wsX5_nextToken (va_wsS RX5 211 yX5_isLetter wsX5_isLetter) := goodIn_app (goodIn_of _ (by decide +kernel)) ggX5_nextToken_X5_isLetter
set_option maxRecDepth 20000 in
theorem ggX5_nextToken_X5_isDigit : GoodIn wsX5_nextToken wsX5_isDigit := goodIn_r _ [17] (by decide +kernel) (by decide +kernel)
set_option maxRecDepth 20000 in
theorem gX5_nextToken_X5_isDigit : GoodIn wsX5_nextToken (va_wsS RX5 214 yX5_isDigit wsX5_isDigit) := goodIn_app (goodIn_of _ (by decide +kernel)) ggX5_nextToken_X5_isDigit
theorem dX5_nextToken_0 : decode cX5_nextToken 0 = .ok (.aload_n 0, 1) := by decide +kernel
theorem dX5_nextToken_1 : decode cX5_nextToken 1 = .ok (.aload_n 0, 1) := by decide +kernel
theorem dX5_nextToken_2 : decode cX5_nextToken 2 = .ok (.getfield 202, 3) := by decide +kernel
theorem dX5_nextToken_5 : decode cX5_nextToken 5 = .ok (.putfield 205, 3) := by decide +kernel
theorem dX5_nextToken_8 : decode cX5_nextToken 8 = .ok (.aload_n 0, 1) := by decide +kernel
theorem dX5_nextToken_9 : decode cX5_nextToken 9 = .ok (.aload_n 0, 1) := by decide +kernel
theorem dX5_nextToken_10 : decode cX5_nextToken 10 = .ok (.getfield 205, 3) := by decide +kernel
theorem dX5_nextToken_13 : decode cX5_nextToken 13 = .ok (.invokevirtual 208, 3) := by decide +kernel
theorem dX5_nextToken_16 : decode cX5_nextToken 16 = .ok (.bipush 32, 2) := by decide +kernel
theorem dX5_nextToken_18 : decode cX5_nextToken 18 = .ok (.if_icmp .ne 16, 3) := by decide +kernel
theorem dX5_nextToken_21 : decode cX5_nextToken 21 = .ok (.aload_n 0, 1) := by decide +kernel
theorem dX5_nextToken_22 : decode cX5_nextToken 22 = .ok (.dup, 1) := by decide +kernel
theorem dX5_nextToken_23 : decode cX5_nextToken 23 = .ok (.getfield 205, 3) := by decide +kernel
theorem dX5_nextToken_26 : decode cX5_nextToken 26 = .ok (.iconst 1, 1) := by decide +kernel
theorem dX5_nextToken_27 : decode cX5_nextToken 27 = .ok (.iadd, 1) := by decide +kernel
theorem dX5_nextToken_28 : decode cX5_nextToken 28 = .ok (.putfield 205, 3) := by decide +kernel
theorem dX5_nextToken_31 : decode cX5_nextToken 31 = .ok (.goto (-23), 3) := by decide +kernel
theorem dX5_nextToken_34 : decode cX5_nextToken 34 = .ok (.aload_n 0, 1) := by decide +kernel
theorem dX5_nextToken_35 : decode cX5_nextToken 35 = .ok (.aload_n 0, 1) := by decide +kernel
theorem dX5_nextToken_36 : decode cX5_nextToken 36 = .ok (.getfield 205, 3) := by decide +kernel
theorem dX5_nextToken_39 : decode cX5_nextToken 39 = .ok (.putfield 202, 3) := by decide +kernel
theorem dX5_nextToken_42 : decode cX5_nextToken 42 = .ok (.aload_n 0, 1) := by decide +kernel
theorem dX5_nextToken_43 : decode cX5_nextToken 43 = .ok (.aload_n 0, 1) := by decide +kernel
theorem dX5_nextToken_44 : decode cX5_nextToken 44 = .ok (.getfield 205, 3) := by decide +kernel
theorem dX5_nextToken_47 : decode cX5_nextToken 47 = .ok (.invokevirtual 208, 3) := by decide +kernel
theorem dX5_nextToken_50 : decode cX5_nextToken 50 = .ok (.istore_n 1, 1) := by decide +kernel
theorem dX5_nextToken_51 : decode cX5_nextToken 51 = .ok (.aload_n 0, 1) := by decide +kernel
theorem dX5_nextToken_52 : decode cX5_nextToken 52 = .ok (.iload_n 1, 1) := by decide +kernel
theorem dX5_nextToken_53 : decode cX5_nextToken 53 = .ok (.ifCond .ge 7, 3) := by decide +kernel
theorem dX5_nextToken_56 : decode cX5_nextToken 56 = .ok (.iconst 0, 1) := by decide +kernel
theorem dX5_nextToken_57 : decode cX5_nextToken 57 = .ok (.goto 36, 3) := by decide +kernel
theorem dX5_nextToken_60 : decode cX5_nextToken 60 = .ok (.iload_n 1, 1) := by decide +kernel
theorem dX5_nextToken_61 : decode cX5_nextToken 61 = .ok (.invokestatic 211, 3) := by decide +kernel
theorem dX5_nextToken_64 : decode cX5_nextToken 64 = .ok (.ifCond .eq 7, 3) := by decide +kernel
theorem dX5_nextToken_67 : decode cX5_nextToken 67 = .ok (.iconst 1, 1) := by decide +kernel
theorem dX5_nextToken_68 : decode cX5_nextToken 68 = .ok (.goto 25, 3) := by decide +kernel
theorem dX5_nextToken_71 : decode cX5_nextToken 71 = .ok (.iload_n 1, 1) := by decide +kernel
theorem dX5_nextToken_72 : decode cX5_nextToken 72 = .ok (.invokestatic 214, 3) := by decide +kernel
theorem dX5_nextToken_75 : decode cX5_nextToken 75 = .ok (.ifCond .eq 7, 3) := by decide +kernel
theorem dX5_nextToken_78 : decode cX5_nextToken 78 = .ok (.iconst 2, 1) := by decide +kernel
theorem dX5_nextToken_79 : decode cX5_nextToken 79 = .ok (.goto 14, 3) := by decide +kernel
theorem dX5_nextToken_82 : decode cX5_nextToken 82 = .ok (.iload_n 1, 1) := by decide +kernel
theorem dX5_nextToken_83 : decode cX5_nextToken 83 = .ok (.bipush 59, 2) := by decide +kernel
theorem dX5_nextToken_85 : decode cX5_nextToken 85 = .ok (.if_icmp .ne 7, 3) := by decide +kernel
theorem dX5_nextToken_88 : decode cX5_nextToken 88 = .ok (.iconst 3, 1) := by decide +kernel
theorem dX5_nextToken_89 : decode cX5_nextToken 89 = .ok (.goto 4, 3) := by decide +kernel
theorem dX5_nextToken_92 : decode cX5_nextToken 92 = .ok (.iconst 4, 1) := by decide +kernel
theorem dX5_nextToken_93 : decode cX5_nextToken 93 = .ok (.putfield 217, 3) := by decide +kernel
theorem dX5_nextToken_96 : decode cX5_nextToken 96 = .ok (.aload_n 0, 1) := by decide +kernel
theorem dX5_nextToken_97 : decode cX5_nextToken 97 = .ok (.iconst 0, 1) := by decide +kernel
theorem dX5_nextToken_98 : decode cX5_nextToken 98 = .ok (.putfield 220, 3) := by decide +kernel
theorem dX5_nextToken_101 : decode cX5_nextToken 101 = .ok (.aload_n 0, 1) := by decide +kernel
theorem dX5_nextToken_102 : decode cX5_nextToken 102 = .ok (.getfield 217, 3) := by decide +kernel
theorem dX5_nextToken_105 : decode cX5_nextToken 105 = .ok (.iconst 1, 1) := by decide +kernel
theorem dX5_nextToken_106 : decode cX5_nextToken 106 = .ok (.if_icmp .ne 30, 3) := by decide +kernel
theorem dX5_nextToken_109 : decode cX5_nextToken 109 = .ok (.aload_n 0, 1) := by decide +kernel
theorem dX5_nextToken_110 : decode cX5_nextToken 110 = .ok (.aload_n 0, 1) := by decide +kernel
theorem dX5_nextToken_111 : decode cX5_nextToken 111 = .ok (.getfield 202, 3) := by decide +kernel
theorem dX5_nextToken_114 : decode cX5_nextToken 114 = .ok (.invokevirtual 208, 3) := by decide +kernel
theorem dX5_nextToken_117 : decode cX5_nextToken 117 = .ok (.invokestatic 211, 3) := by decide +kernel
theorem dX5_nextToken_120 : decode cX5_nextToken 120 = .ok (.ifCond .eq 16, 3) := by decide +kernel
theorem dX5_nextToken_123 : decode cX5_nextToken 123 = .ok (.aload_n 0, 1) := by decide +kernel
theorem dX5_nextToken_124 : decode cX5_nextToken 124 = .ok (.dup, 1) := by decide +kernel
theorem dX5_nextToken_125 : decode cX5_nextToken 125 = .ok (.getfield 202, 3) := by decide +kernel
theorem dX5_nextToken_128 : decode cX5_nextToken 128 = .ok (.iconst 1, 1) := by decide +kernel
theorem dX5_nextToken_129 : decode cX5_nextToken 129 = .ok (.iadd, 1) := by decide +kernel
theorem dX5_nextToken_130 : decode cX5_nextToken 130 = .ok (.putfield 202, 3) := by decide +kernel
theorem dX5_nextToken_133 : decode cX5_nextToken 133 = .ok (.goto (-32), 3) := by decide +kernel
theorem dX5_nextToken_136 : decode cX5_nextToken 136 = .ok (.aload_n 0, 1) := by decide +kernel
theorem dX5_nextToken_137 : decode cX5_nextToken 137 = .ok (.getfield 217, 3) := by decide +kernel
theorem dX5_nextToken_140 : decode cX5_nextToken 140 = .ok (.iconst 2, 1) := by decide +kernel
theorem dX5_nextToken_141 : decode cX5_nextToken 141 = .ok (.if_icmp .ne 70, 3) := by decide +kernel
theorem dX5_nextToken_144 : decode cX5_nextToken 144 = .ok (.aload_n 0, 1) := by decide +kernel
theorem dX5_nextToken_145 : decode cX5_nextToken 145 = .ok (.aload_n 0, 1) := by decide +kernel
theorem dX5_nextToken_146 : decode cX5_nextToken 146 = .ok (.getfield 202, 3) := by decide +kernel
theorem dX5_nextToken_149 : decode cX5_nextToken 149 = .ok (.invokevirtual 208, 3) := by decide +kernel
theorem dX5_nextToken_152 : decode cX5_nextToken 152 = .ok (.invokestatic 214, 3) := by decide +kernel
theorem dX5_nextToken_155 : decode cX5_nextToken 155 = .ok (.ifCond .eq 56, 3) := by decide +kernel
theorem dX5_nextToken_158 : decode cX5_nextToken 158 = .ok (.aload_n 0, 1) := by decide +kernel
theorem dX5_nextToken_159 : decode cX5_nextToken 159 = .ok (.aload_n 0, 1) := by decide +kernel
theorem dX5_nextToken_160 : decode cX5_nextToken 160 = .ok (.getfield 220, 3) := by decide +kernel
theorem dX5_nextToken_163 : decode cX5_nextToken 163 = .ok (.sipush 999, 3) := by decide +kernel
theorem dX5_nextToken_166 : decode cX5_nextToken 166 = .ok (.if_icmp .le 10, 3) := by decide +kernel
theorem dX5_nextToken_169 : decode cX5_nextToken 169 = .ok (.aload_n 0, 1) := by decide +kernel
theorem dX5_nextToken_170 : decode cX5_nextToken 170 = .ok (.getfield 220, 3) := by decide +kernel
theorem dX5_nextToken_173 : decode cX5_nextToken 173 = .ok (.goto 22, 3) := by decide +kernel
theorem dX5_nextToken_176 : decode cX5_nextToken 176 = .ok (.bipush 10, 2) := by decide +kernel
theorem dX5_nextToken_178 : decode cX5_nextToken 178 = .ok (.aload_n 0, 1) := by decide +kernel
theorem dX5_nextToken_179 : decode cX5_nextToken 179 = .ok (.getfield 220, 3) := by decide +kernel
theorem dX5_nextToken_182 : decode cX5_nextToken 182 = .ok (.imul, 1) := by decide +kernel
theorem dX5_nextToken_183 : decode cX5_nextToken 183 = .ok (.aload_n 0, 1) := by decide +kernel
theorem dX5_nextToken_184 : decode cX5_nextToken 184 = .ok (.aload_n 0, 1) := by decide +kernel
theorem dX5_nextToken_185 : decode cX5_nextToken 185 = .ok (.getfield 202, 3) := by decide +kernel
theorem dX5_nextToken_188 : decode cX5_nextToken 188 = .ok (.invokevirtual 208, 3) := by decide +kernel
theorem dX5_nextToken_191 : decode cX5_nextToken 191 = .ok (.iadd, 1) := by decide +kernel
theorem dX5_nextToken_192 : decode cX5_nextToken 192 = .ok (.bipush 48, 2) := by decide +kernel
theorem dX5_nextToken_194 : decode cX5_nextToken 194 = .ok (.isub, 1) := by decide +kernel
theorem dX5_nextToken_195 : decode cX5_nextToken 195 = .ok (.putfield 220, 3) := by decide +kernel
theorem dX5_nextToken_198 : decode cX5_nextToken 198 = .ok (.aload_n 0, 1) := by decide +kernel
theorem dX5_nextToken_199 : decode cX5_nextToken 199 = .ok (.dup, 1) := by decide +kernel
theorem dX5_nextToken_200 : decode cX5_nextToken 200 = .ok (.getfield 202, 3) := by decide +kernel
theorem dX5_nextToken_203 : decode cX5_nextToken 203 = .ok (.iconst 1, 1) := by decide +kernel
theorem dX5_nextToken_204 : decode cX5_nextToken 204 = .ok (.iadd, 1) := by decide +kernel
theorem dX5_nextToken_205 : decode cX5_nextToken 205 = .ok (.putfield 202, 3) := by decide +kernel
theorem dX5_nextToken_208 : decode cX5_nextToken 208 = .ok (.goto (-72), 3) := by decide +kernel
theorem dX5_nextToken_211 : decode cX5_nextToken 211 = .ok (.aload_n 0, 1) := by decide +kernel
theorem dX5_nextToken_212 : decode cX5_nextToken 212 = .ok (.dup, 1) := by decide +kernel
theorem dX5_nextToken_213 : decode cX5_nextToken 213 = .ok (.getfield 202, 3) := by decide +kernel
theorem dX5_nextToken_216 : decode cX5_nextToken 216 = .ok (.aload_n 0, 1) := by decide +kernel
theorem dX5_nextToken_217 : decode cX5_nextToken 217 = .ok (.getfield 217, 3) := by decide +kernel
theorem dX5_nextToken_220 : decode cX5_nextToken 220 = .ok (.iconst 2, 1) := by decide +kernel
theorem dX5_nextToken_221 : decode cX5_nextToken 221 = .ok (.if_icmp .le 7, 3) := by decide +kernel
theorem dX5_nextToken_224 : decode cX5_nextToken 224 = .ok (.iconst 1, 1) := by decide +kernel
theorem dX5_nextToken_225 : decode cX5_nextToken 225 = .ok (.goto 4, 3) := by decide +kernel
theorem dX5_nextToken_228 : decode cX5_nextToken 228 = .ok (.iconst 0, 1) := by decide +kernel
theorem dX5_nextToken_229 : decode cX5_nextToken 229 = .ok (.iadd, 1) := by decide +kernel
theorem dX5_nextToken_230 : decode cX5_nextToken 230 = .ok (.putfield 202, 3) := by decide +kernel
theorem dX5_nextToken_233 : decode cX5_nextToken 233 = .ok (.return_, 1) := by decide +kernel
set_option maxRecDepth 20000 in
theorem ggX5_has3_X5_byteAt : GoodIn wsX5_has3 wsX5_byteAt := goodIn_r _ [6, 7, 8, 9, 10, 11, 12, 13, 14, 15, 16, 17, 18, 19, 20, 21, 22, 23, 24, 25, 26] (by decide +kernel) (by decide +kernel)
set_option maxRecDepth 20000 in
theorem gX5_has3_X5_byteAt : GoodIn wsX5_has3 (wsV RX5 208 RX5 yX5_byteAt wsX5_byteAt) := goodIn_app (goodIn_of _ (by decide +kernel)) ggX5_has3_X5_byteAt
theorem dX5_has3_0 : decode cX5_has3 0 = .ok (.aload_n 0, 1) := by decide +kernel
theorem dX5_has3_1 : decode cX5_has3 1 = .ok (.aload_n 0, 1) := by decide +kernel
theorem dX5_has3_2 : decode cX5_has3 2 = .ok (.getfield 205, 3) := by decide +kernel
theorem dX5_has3_5 : decode cX5_has3 5 = .ok (.iload_n 1, 1) := by decide +kernel
theorem dX5_has3_6 : decode cX5_has3 6 = .ok (.iadd, 1) := by decide +kernel
theorem dX5_has3_7 : decode cX5_has3 7 = .ok (.invokevirtual 208, 3) := by decide +kernel
theorem dX5_has3_10 : decode cX5_has3 10 = .ok (.iload_n 2, 1) := by decide +kernel
theorem dX5_has3_11 : decode cX5_has3 11 = .ok (.if_icmp .ne 40, 3) := by decide +kernel
theorem dX5_has3_14 : decode cX5_has3 14 = .ok (.aload_n 0, 1) := by decide +kernel
theorem dX5_has3_15 : decode cX5_has3 15 = .ok (.aload_n 0, 1) := by decide +kernel
theorem dX5_has3_16 : decode cX5_has3 16 = .ok (.getfield 205, 3) := by decide +kernel
theorem dX5_has3_19 : decode cX5_has3 19 = .ok (.iload_n 1, 1) := by decide +kernel
theorem dX5_has3_20 : decode cX5_has3 20 = .ok (.iadd, 1) := by decide +kernel
theorem dX5_has3_21 : decode cX5_has3 21 = .ok (.iconst 1, 1) := by decide +kernel
theorem dX5_has3_22 : decode cX5_has3 22 = .ok (.iadd, 1) := by decide +kernel
theorem dX5_has3_23 : decode cX5_has3 23 = .ok (.invokevirtual 208, 3) := by decide +kernel
theorem dX5_has3_26 : decode cX5_has3 26 = .ok (.iload_n 3, 1) := by decide +kernel
theorem dX5_has3_27 : decode cX5_has3 27 = .ok (.if_icmp .ne 24, 3) := by decide +kernel
theorem dX5_has3_30 : decode cX5_has3 30 = .ok (.aload_n 0, 1) := by decide +kernel
theorem dX5_has3_31 : decode cX5_has3 31 = .ok (.aload_n 0, 1) := by decide +kernel
theorem dX5_has3_32 : decode cX5_has3 32 = .ok (.getfield 205, 3) := by decide +kernel
theorem dX5_has3_35 : decode cX5_has3 35 = .ok (.iload_n 1, 1) := by decide +kernel
theorem dX5_has3_36 : decode cX5_has3 36 = .ok (.iadd, 1) := by decide +kernel
theorem dX5_has3_37 : decode cX5_has3 37 = .ok (.iconst 2, 1) := by decide +kernel
theorem dX5_has3_38 : decode cX5_has3 38 = .ok (.iadd, 1) := by decide +kernel
theorem dX5_has3_39 : decode cX5_has3 39 = .ok (.invokevirtual 208, 3) := by decide +kernel
theorem dX5_has3_42 : decode cX5_has3 42 = .ok (.iload 4, 2) := by decide +kernel
theorem dX5_has3_44 : decode cX5_has3 44 = .ok (.if_icmp .ne 7, 3) := by decide +kernel
theorem dX5_has3_47 : decode cX5_has3 47 = .ok (.iconst 1, 1) := by decide +kernel
theorem dX5_has3_48 : decode cX5_has3 48 = .ok (.goto 4, 3) := by decide +kernel
theorem dX5_has3_51 : decode cX5_has3 51 = .ok (.iconst 0, 1) := by decide +kernel
theorem dX5_has3_52 : decode cX5_has3 52 = .ok (.ireturn, 1) := by decide +kernel
theorem dX5_isWord_0 : decode cX5_isWord 0 = .ok (.aload_n 0, 1) := by decide +kernel
theorem dX5_isWord_1 : decode cX5_isWord 1 = .ok (.getfield 217, 3) := by decide +kernel
theorem dX5_isWord_4 : decode cX5_isWord 4 = .ok (.iconst 1, 1) := by decide +kernel
theorem dX5_isWord_5 : decode cX5_isWord 5 = .ok (.if_icmp .ne 20, 3) := by decide +kernel
theorem dX5_isWord_8 : decode cX5_isWord 8 = .ok (.aload_n 0, 1) := by decide +kernel
theorem dX5_isWord_9 : decode cX5_isWord 9 = .ok (.getfield 202, 3) := by decide +kernel
theorem dX5_isWord_12 : decode cX5_isWord 12 = .ok (.aload_n 0, 1) := by decide +kernel
theorem dX5_isWord_13 : decode cX5_isWord 13 = .ok (.getfield 205, 3) := by decide +kernel
theorem dX5_isWord_16 : decode cX5_isWord 16 = .ok (.isub, 1) := by decide +kernel
theorem dX5_isWord_17 : decode cX5_isWord 17 = .ok (.iload_n 1, 1) := by decide +kernel
theorem dX5_isWord_18 : decode cX5_isWord 18 = .ok (.if_icmp .ne 7, 3) := by decide +kernel
theorem dX5_isWord_21 : decode cX5_isWord 21 = .ok (.iconst 1, 1) := by decide +kernel
theorem dX5_isWord_22 : decode cX5_isWord 22 = .ok (.goto 4, 3) := by decide +kernel
theorem dX5_isWord_25 : decode cX5_isWord 25 = .ok (.iconst 0, 1) := by decide +kernel
theorem dX5_isWord_26 : decode cX5_isWord 26 = .ok (.ireturn, 1) := by decide +kernel
theorem dX5_fails_0 : decode cX5_fails 0 = .ok (.aload_n 0, 1) := by decide +kernel
theorem dX5_fails_1 : decode cX5_fails 1 = .ok (.aload_n 0, 1) := by decide +kernel
theorem dX5_fails_2 : decode cX5_fails 2 = .ok (.getfield 205, 3) := by decide +kernel
theorem dX5_fails_5 : decode cX5_fails 5 = .ok (.putfield 223, 3) := by decide +kernel
theorem dX5_fails_8 : decode cX5_fails 8 = .ok (.iconst 0, 1) := by decide +kernel
theorem dX5_fails_9 : decode cX5_fails 9 = .ok (.ireturn, 1) := by decide +kernel
set_option maxRecDepth 20000 in
theorem ggX5_isFour_X5_isWord : GoodIn wsX5_isFour wsX5_isWord := goodIn_r _ [5, 6, 7, 8, 19, 20, 21, 22, 23, 24, 25, 26, 27, 28, 29, 30, 31, 32, 33, 34, 35, 36] (by decide +kernel) (by decide +kernel)
set_option maxRecDepth 20000 in
theorem gX5_isFour_X5_isWord : GoodIn wsX5_isFour (wsV RX5 226 RX5 yX5_isWord wsX5_isWord) := goodIn_app (goodIn_of _ (by decide +kernel)) ggX5_isFour_X5_isWord
set_option maxRecDepth 20000 in
theorem ggX5_isFour_X5_has3 : GoodIn wsX5_isFour wsX5_has3 := goodIn_r _ [12, 8, 13, 14, 15, 4, 16, 17, 18, 19, 20, 21, 22, 23, 24, 25, 26, 27, 28, 29, 30, 31, 32, 33, 34, 35, 36] (by decide +kernel) (by decide +kernel)
set_option maxRecDepth 20000 in
theorem gX5_isFour_X5_has3 : GoodIn wsX5_isFour (wsV RX5 229 RX5 yX5_has3 wsX5_has3) := goodIn_app (goodIn_of _ (by decide +kernel)) ggX5_isFour_X5_has3
theorem dX5_isFour_0 : decode cX5_isFour 0 = .ok (.aload_n 0, 1) := by decide +kernel
theorem dX5_isFour_1 : decode cX5_isFour 1 = .ok (.iconst 4, 1) := by decide +kernel
theorem dX5_isFour_2 : decode cX5_isFour 2 = .ok (.invokevirtual 226, 3) := by decide +kernel
theorem dX5_isFour_5 : decode cX5_isFour 5 = .ok (.ifCond .eq 30, 3) := by decide +kernel
theorem dX5_isFour_8 : decode cX5_isFour 8 = .ok (.aload_n 0, 1) := by decide +kernel
theorem dX5_isFour_9 : decode cX5_isFour 9 = .ok (.iconst 0, 1) := by decide +kernel
theorem dX5_isFour_10 : decode cX5_isFour 10 = .ok (.iload_n 1, 1) := by decide +kernel
theorem dX5_isFour_11 : decode cX5_isFour 11 = .ok (.iload_n 2, 1) := by decide +kernel
theorem dX5_isFour_12 : decode cX5_isFour 12 = .ok (.iload_n 3, 1) := by decide +kernel
theorem dX5_isFour_13 : decode cX5_isFour 13 = .ok (.invokevirtual 229, 3) := by decide +kernel
theorem dX5_isFour_16 : decode cX5_isFour 16 = .ok (.ifCond .eq 19, 3) := by decide +kernel
theorem dX5_isFour_19 : decode cX5_isFour 19 = .ok (.aload_n 0, 1) := by decide +kernel
theorem dX5_isFour_20 : decode cX5_isFour 20 = .ok (.iconst 1, 1) := by decide +kernel
theorem dX5_isFour_21 : decode cX5_isFour 21 = .ok (.iload_n 2, 1) := by decide +kernel
theorem dX5_isFour_22 : decode cX5_isFour 22 = .ok (.iload_n 3, 1) := by decide +kernel
theorem dX5_isFour_23 : decode cX5_isFour 23 = .ok (.iload 4, 2) := by decide +kernel
theorem dX5_isFour_25 : decode cX5_isFour 25 = .ok (.invokevirtual 229, 3) := by decide +kernel
theorem dX5_isFour_28 : decode cX5_isFour 28 = .ok (.ifCond .eq 7, 3) := by decide +kernel
theorem dX5_isFour_31 : decode cX5_isFour 31 = .ok (.iconst 1, 1) := by decide +kernel
theorem dX5_isFour_32 : decode cX5_isFour 32 = .ok (.goto 4, 3) := by decide +kernel
theorem dX5_isFour_35 : decode cX5_isFour 35 = .ok (.iconst 0, 1) := by decide +kernel
theorem dX5_isFour_36 : decode cX5_isFour 36 = .ok (.ireturn, 1) := by decide +kernel
set_option maxRecDepth 20000 in
theorem ggX5_isFive_X5_isWord : GoodIn wsX5_isFive wsX5_isWord := goodIn_r _ [5, 6, 7, 8, 19, 20, 21, 22, 23, 24, 25, 26, 27, 28, 29, 30, 31, 32, 33, 34, 35, 36] (by decide +kernel) (by decide +kernel)
set_option maxRecDepth 20000 in
theorem gX5_isFive_X5_isWord : GoodIn wsX5_isFive (wsV RX5 226 RX5 yX5_isWord wsX5_isWord) := goodIn_app (goodIn_of _ (by decide +kernel)) ggX5_isFive_X5_isWord
set_option maxRecDepth 20000 in
theorem ggX5_isFive_X5_has3 : GoodIn wsX5_isFive wsX5_has3 := goodIn_r _ [12, 8, 13, 14, 15, 4, 16, 17, 18, 19, 20, 21, 22, 23, 24, 25, 26, 27, 28, 29, 30, 31, 32, 33, 34, 35, 36] (by decide +kernel) (by decide +kernel)
set_option maxRecDepth 20000 in
theorem gX5_isFive_X5_has3 : GoodIn wsX5_isFive (wsV RX5 229 RX5 yX5_has3 wsX5_has3) := goodIn_app (goodIn_of _ (by decide +kernel)) ggX5_isFive_X5_has3
theorem dX5_isFive_0 : decode cX5_isFive 0 = .ok (.aload_n 0, 1) := by decide +kernel
theorem dX5_isFive_1 : decode cX5_isFive 1 = .ok (.iconst 5, 1) := by decide +kernel
theorem dX5_isFive_2 : decode cX5_isFive 2 = .ok (.invokevirtual 226, 3) := by decide +kernel
theorem dX5_isFive_5 : decode cX5_isFive 5 = .ok (.ifCond .eq 31, 3) := by decide +kernel
theorem dX5_isFive_8 : decode cX5_isFive 8 = .ok (.aload_n 0, 1) := by decide +kernel
theorem dX5_isFive_9 : decode cX5_isFive 9 = .ok (.iconst 0, 1) := by decide +kernel
theorem dX5_isFive_10 : decode cX5_isFive 10 = .ok (.iload_n 1, 1) := by decide +kernel
theorem dX5_isFive_11 : decode cX5_isFive 11 = .ok (.iload_n 2, 1) := by decide +kernel
theorem dX5_isFive_12 : decode cX5_isFive 12 = .ok (.iload_n 3, 1) := by decide +kernel
theorem dX5_isFive_13 : decode cX5_isFive 13 = .ok (.invokevirtual 229, 3) := by decide +kernel
theorem dX5_isFive_16 : decode cX5_isFive 16 = .ok (.ifCond .eq 20, 3) := by decide +kernel
theorem dX5_isFive_19 : decode cX5_isFive 19 = .ok (.aload_n 0, 1) := by decide +kernel
theorem dX5_isFive_20 : decode cX5_isFive 20 = .ok (.iconst 2, 1) := by decide +kernel
theorem dX5_isFive_21 : decode cX5_isFive 21 = .ok (.iload_n 3, 1) := by decide +kernel
theorem dX5_isFive_22 : decode cX5_isFive 22 = .ok (.iload 4, 2) := by decide +kernel
theorem dX5_isFive_24 : decode cX5_isFive 24 = .ok (.iload 5, 2) := by decide +kernel
theorem dX5_isFive_26 : decode cX5_isFive 26 = .ok (.invokevirtual 229, 3) := by decide +kernel
theorem dX5_isFive_29 : decode cX5_isFive 29 = .ok (.ifCond .eq 7, 3) := by decide +kernel
theorem dX5_isFive_32 : decode cX5_isFive 32 = .ok (.iconst 1, 1) := by decide +kernel
theorem dX5_isFive_33 : decode cX5_isFive 33 = .ok (.goto 4, 3) := by decide +kernel
theorem dX5_isFive_36 : decode cX5_isFive 36 = .ok (.iconst 0, 1) := by decide +kernel
theorem dX5_isFive_37 : decode cX5_isFive 37 = .ok (.ireturn, 1) := by decide +kernel
set_option maxRecDepth 20000 in
theorem ggX5_isSix_X5_isWord : GoodIn wsX5_isSix wsX5_isWord := goodIn_r _ [5, 6, 7, 8, 19, 20, 21, 22, 23, 24, 25, 26, 27, 28, 29, 30, 31, 32, 33, 34, 35, 36] (by decide +kernel) (by decide +kernel)
set_option maxRecDepth 20000 in
theorem gX5_isSix_X5_isWord : GoodIn wsX5_isSix (wsV RX5 226 RX5 yX5_isWord wsX5_isWord) := goodIn_app (goodIn_of _ (by decide +kernel)) ggX5_isSix_X5_isWord
set_option maxRecDepth 20000 in
theorem ggX5_isSix_X5_has3 : GoodIn wsX5_isSix wsX5_has3 := goodIn_r _ [12, 8, 13, 14, 15, 4, 16, 17, 18, 19, 20, 21, 22, 23, 24, 25, 26, 27, 28, 29, 30, 31, 32, 33, 34, 35, 36] (by decide +kernel) (by decide +kernel)
set_option maxRecDepth 20000 in
theorem gX5_isSix_X5_has3 : GoodIn wsX5_isSix (wsV RX5 229 RX5 yX5_has3 wsX5_has3) := goodIn_app (goodIn_of _ (by decide +kernel)) ggX5_isSix_X5_has3
theorem dX5_isSix_0 : decode cX5_isSix 0 = .ok (.aload_n 0, 1) := by decide +kernel
theorem dX5_isSix_1 : decode cX5_isSix 1 = .ok (.bipush 6, 2) := by decide +kernel
theorem dX5_isSix_3 : decode cX5_isSix 3 = .ok (.invokevirtual 226, 3) := by decide +kernel
theorem dX5_isSix_6 : decode cX5_isSix 6 = .ok (.ifCond .eq 32, 3) := by decide +kernel
theorem dX5_isSix_9 : decode cX5_isSix 9 = .ok (.aload_n 0, 1) := by decide +kernel
theorem dX5_isSix_10 : decode cX5_isSix 10 = .ok (.iconst 0, 1) := by decide +kernel
theorem dX5_isSix_11 : decode cX5_isSix 11 = .ok (.iload_n 1, 1) := by decide +kernel
theorem dX5_isSix_12 : decode cX5_isSix 12 = .ok (.iload_n 2, 1) := by decide +kernel
theorem dX5_isSix_13 : decode cX5_isSix 13 = .ok (.iload_n 3, 1) := by decide +kernel
theorem dX5_isSix_14 : decode cX5_isSix 14 = .ok (.invokevirtual 229, 3) := by decide +kernel
theorem dX5_isSix_17 : decode cX5_isSix 17 = .ok (.ifCond .eq 21, 3) := by decide +kernel
theorem dX5_isSix_20 : decode cX5_isSix 20 = .ok (.aload_n 0, 1) := by decide +kernel
theorem dX5_isSix_21 : decode cX5_isSix 21 = .ok (.iconst 3, 1) := by decide +kernel
theorem dX5_isSix_22 : decode cX5_isSix 22 = .ok (.iload 4, 2) := by decide +kernel
theorem dX5_isSix_24 : decode cX5_isSix 24 = .ok (.iload 5, 2) := by decide +kernel
theorem dX5_isSix_26 : decode cX5_isSix 26 = .ok (.iload 6, 2) := by decide +kernel
theorem dX5_isSix_28 : decode cX5_isSix 28 = .ok (.invokevirtual 229, 3) := by decide +kernel
theorem dX5_isSix_31 : decode cX5_isSix 31 = .ok (.ifCond .eq 7, 3) := by decide +kernel
theorem dX5_isSix_34 : decode cX5_isSix 34 = .ok (.iconst 1, 1) := by decide +kernel
theorem dX5_isSix_35 : decode cX5_isSix 35 = .ok (.goto 4, 3) := by decide +kernel
theorem dX5_isSix_38 : decode cX5_isSix 38 = .ok (.iconst 0, 1) := by decide +kernel
theorem dX5_isSix_39 : decode cX5_isSix 39 = .ok (.ireturn, 1) := by decide +kernel
set_option maxRecDepth 20000 in
theorem ggX5_isNumber_X5_isIn : GoodIn wsX5_isNumber wsX5_isIn := goodIn_r _ [6] (by decide +kernel) (by decide +kernel)
set_option maxRecDepth 20000 in
theorem gX5_isNumber_X5_isIn : GoodIn wsX5_isNumber (va_wsS RX5 45 yX5_isIn wsX5_isIn) := goodIn_app (goodIn_of _ (by decide +kernel)) ggX5_isNumber_X5_isIn
set_option maxRecDepth 20000 in
theorem ggX5_isNumber_X5_fails : GoodIn wsX5_isNumber wsX5_fails := goodIn_r _ [10, 11, 12, 13, 14, 15, 16, 17, 18, 19, 20, 21, 22, 23, 24, 25, 26, 27, 28, 29, 30] (by decide +kernel) (by decide +kernel)
set_option maxRecDepth 20000 in
theorem gX5_isNumber_X5_fails : GoodIn wsX5_isNumber (wsV RX5 233 RX5 yX5_fails wsX5_fails) := goodIn_app (goodIn_of _ (by decide +kernel)) ggX5_isNumber_X5_fails
theorem dX5_isNumber_0 : decode cX5_isNumber 0 = .ok (.aload_n 0, 1) := by decide +kernel
theorem dX5_isNumber_1 : decode cX5_isNumber 1 = .ok (.getfield 217, 3) := by decide +kernel
theorem dX5_isNumber_4 : decode cX5_isNumber 4 = .ok (.iconst 2, 1) := by decide +kernel
theorem dX5_isNumber_5 : decode cX5_isNumber 5 = .ok (.if_icmp .ne 18, 3) := by decide +kernel
theorem dX5_isNumber_8 : decode cX5_isNumber 8 = .ok (.aload_n 0, 1) := by decide +kernel
theorem dX5_isNumber_9 : decode cX5_isNumber 9 = .ok (.getfield 220, 3) := by decide +kernel
theorem dX5_isNumber_12 : decode cX5_isNumber 12 = .ok (.i2l, 1) := by decide +kernel
theorem dX5_isNumber_13 : decode cX5_isNumber 13 = .ok (.iload_n 1, 1) := by decide +kernel
theorem dX5_isNumber_14 : decode cX5_isNumber 14 = .ok (.i2l, 1) := by decide +kernel
theorem dX5_isNumber_15 : decode cX5_isNumber 15 = .ok (.iload_n 2, 1) := by decide +kernel
theorem dX5_isNumber_16 : decode cX5_isNumber 16 = .ok (.i2l, 1) := by decide +kernel
theorem dX5_isNumber_17 : decode cX5_isNumber 17 = .ok (.invokestatic 45, 3) := by decide +kernel
theorem dX5_isNumber_20 : decode cX5_isNumber 20 = .ok (.ifCond .ne 10, 3) := by decide +kernel
theorem dX5_isNumber_23 : decode cX5_isNumber 23 = .ok (.aload_n 0, 1) := by decide +kernel
theorem dX5_isNumber_24 : decode cX5_isNumber 24 = .ok (.invokevirtual 233, 3) := by decide +kernel
theorem dX5_isNumber_27 : decode cX5_isNumber 27 = .ok (.ifCond .eq 7, 3) := by decide +kernel
theorem dX5_isNumber_30 : decode cX5_isNumber 30 = .ok (.iconst 1, 1) := by decide +kernel
theorem dX5_isNumber_31 : decode cX5_isNumber 31 = .ok (.goto 4, 3) := by decide +kernel
theorem dX5_isNumber_34 : decode cX5_isNumber 34 = .ok (.iconst 0, 1) := by decide +kernel
theorem dX5_isNumber_35 : decode cX5_isNumber 35 = .ok (.ireturn, 1) := by decide +kernel
set_option maxRecDepth 20000 in
theorem ggX5_kindHere_X5_isWord : GoodIn wsX5_kindHere wsX5_isWord := goodIn_r _ [5, 6, 7, 8, 31, 32, 33, 34, 35, 36, 37, 38, 39, 40, 41, 42, 43, 44, 45, 46, 47, 48] (by decide +kernel) (by decide +kernel)
set_option maxRecDepth 20000 in
theorem gX5_kindHere_X5_isWord : GoodIn wsX5_kindHere (wsV RX5 226 RX5 yX5_isWord wsX5_isWord) := goodIn_app (goodIn_of _ (by decide +kernel)) ggX5_kindHere_X5_isWord
set_option maxRecDepth 20000 in
theorem ggX5_kindHere_X5_has3 : GoodIn wsX5_kindHere wsX5_has3 := goodIn_r _ [12, 8, 13, 14, 15, 4, 16, 17, 18, 31, 32, 33, 34, 35, 36, 37, 38, 39, 40, 41, 42, 43, 44, 45, 46, 47, 48] (by decide +kernel) (by decide +kernel)
set_option maxRecDepth 20000 in
theorem gX5_kindHere_X5_has3 : GoodIn wsX5_kindHere (wsV RX5 229 RX5 yX5_has3 wsX5_has3) := goodIn_app (goodIn_of _ (by decide +kernel)) ggX5_kindHere_X5_has3
set_option maxRecDepth 20000 in
theorem ggX5_kindHere_X5_isSix : GoodIn wsX5_kindHere wsX5_isSix := goodIn_r _ [22, 1, 2, 3, 4, 5, 6, 7, 8, 9, 10, 11, 12, 13, 14, 15, 16, 17, 18, 31, 32, 33, 34, 35, 36, 37, 38, 39, 40, 41, 42, 43, 44, 45, 46, 47, 48] (by decide +kernel) (by decide +kernel)
set_option maxRecDepth 20000 in
theorem gX5_kindHere_X5_isSix : GoodIn wsX5_kindHere (wsV RX5 237 RX5 yX5_isSix wsX5_isSix) := goodIn_app (goodIn_of _ (by decide +kernel)) ggX5_kindHere_X5_isSix
set_option maxRecDepth 20000 in
theorem ggX5_kindHere_X5_isFive : GoodIn wsX5_kindHere wsX5_isFive := goodIn_r _ [26, 1, 2, 3, 4, 5, 6, 7, 8, 9, 10, 11, 12, 13, 14, 15, 16, 17, 18, 31, 32, 33, 34, 35, 36, 37, 38, 39, 40, 41, 42, 43, 44, 45, 46, 47, 48] (by decide +kernel) (by decide +kernel)
set_option maxRecDepth 20000 in
theorem gX5_kindHere_X5_isFive : GoodIn wsX5_kindHere (wsV RX5 241 RX5 yX5_isFive wsX5_isFive) := goodIn_app (goodIn_of _ (by decide +kernel)) ggX5_kindHere_X5_isFive
set_option maxRecDepth 20000 in
theorem ggX5_kindHere_X5_isFour : GoodIn wsX5_kindHere wsX5_isFour := goodIn_r _ [30, 1, 2, 3, 4, 5, 6, 7, 8, 9, 10, 11, 12, 13, 14, 15, 16, 17, 18, 31, 32, 33, 34, 35, 36, 37, 38, 39, 40, 41, 42, 43, 44, 45, 46, 47, 48] (by decide +kernel) (by decide +kernel)
set_option maxRecDepth 20000 in
theorem gX5_kindHere_X5_isFour : GoodIn wsX5_kindHere (wsV RX5 245 RX5 yX5_isFour wsX5_isFour) := goodIn_app (goodIn_of _ (by decide +kernel)) ggX5_kindHere_X5_isFour
theorem dX5_kindHere_0 : decode cX5_kindHere 0 = .ok (.aload_n 0, 1) := by decide +kernel
theorem dX5_kindHere_1 : decode cX5_kindHere 1 = .ok (.bipush 7, 2) := by decide +kernel
theorem dX5_kindHere_3 : decode cX5_kindHere 3 = .ok (.invokevirtual 226, 3) := by decide +kernel
theorem dX5_kindHere_6 : decode cX5_kindHere 6 = .ok (.ifCond .eq 47, 3) := by decide +kernel
theorem dX5_kindHere_9 : decode cX5_kindHere 9 = .ok (.aload_n 0, 1) := by decide +kernel
theorem dX5_kindHere_10 : decode cX5_kindHere 10 = .ok (.iconst 0, 1) := by decide +kernel
theorem dX5_kindHere_11 : decode cX5_kindHere 11 = .ok (.bipush 115, 2) := by decide +kernel
theorem dX5_kindHere_13 : decode cX5_kindHere 13 = .ok (.bipush 112, 2) := by decide +kernel
theorem dX5_kindHere_15 : decode cX5_kindHere 15 = .ok (.bipush 101, 2) := by decide +kernel
theorem dX5_kindHere_17 : decode cX5_kindHere 17 = .ok (.invokevirtual 229, 3) := by decide +kernel
theorem dX5_kindHere_20 : decode cX5_kindHere 20 = .ok (.ifCond .eq 33, 3) := by decide +kernel
theorem dX5_kindHere_23 : decode cX5_kindHere 23 = .ok (.aload_n 0, 1) := by decide +kernel
theorem dX5_kindHere_24 : decode cX5_kindHere 24 = .ok (.iconst 3, 1) := by decide +kernel
theorem dX5_kindHere_25 : decode cX5_kindHere 25 = .ok (.bipush 97, 2) := by decide +kernel
theorem dX5_kindHere_27 : decode cX5_kindHere 27 = .ok (.bipush 107, 2) := by decide +kernel
theorem dX5_kindHere_29 : decode cX5_kindHere 29 = .ok (.bipush 101, 2) := by decide +kernel
theorem dX5_kindHere_31 : decode cX5_kindHere 31 = .ok (.invokevirtual 229, 3) := by decide +kernel
theorem dX5_kindHere_34 : decode cX5_kindHere 34 = .ok (.ifCond .eq 19, 3) := by decide +kernel
theorem dX5_kindHere_37 : decode cX5_kindHere 37 = .ok (.aload_n 0, 1) := by decide +kernel
theorem dX5_kindHere_38 : decode cX5_kindHere 38 = .ok (.iconst 4, 1) := by decide +kernel
theorem dX5_kindHere_39 : decode cX5_kindHere 39 = .ok (.bipush 107, 2) := by decide +kernel
theorem dX5_kindHere_41 : decode cX5_kindHere 41 = .ok (.bipush 101, 2) := by decide +kernel
theorem dX5_kindHere_43 : decode cX5_kindHere 43 = .ok (.bipush 114, 2) := by decide +kernel
theorem dX5_kindHere_45 : decode cX5_kindHere 45 = .ok (.invokevirtual 229, 3) := by decide +kernel
theorem dX5_kindHere_48 : decode cX5_kindHere 48 = .ok (.ifCond .eq 5, 3) := by decide +kernel
theorem dX5_kindHere_51 : decode cX5_kindHere 51 = .ok (.iconst 0, 1) := by decide +kernel
theorem dX5_kindHere_52 : decode cX5_kindHere 52 = .ok (.ireturn, 1) := by decide +kernel
theorem dX5_kindHere_53 : decode cX5_kindHere 53 = .ok (.aload_n 0, 1) := by decide +kernel
theorem dX5_kindHere_54 : decode cX5_kindHere 54 = .ok (.bipush 108, 2) := by decide +kernel
theorem dX5_kindHere_56 : decode cX5_kindHere 56 = .ok (.bipush 97, 2) := by decide +kernel
theorem dX5_kindHere_58 : decode cX5_kindHere 58 = .ok (.bipush 119, 2) := by decide +kernel
theorem dX5_kindHere_60 : decode cX5_kindHere 60 = .ok (.bipush 121, 2) := by decide +kernel
theorem dX5_kindHere_62 : decode cX5_kindHere 62 = .ok (.bipush 101, 2) := by decide +kernel
theorem dX5_kindHere_64 : decode cX5_kindHere 64 = .ok (.bipush 114, 2) := by decide +kernel
theorem dX5_kindHere_66 : decode cX5_kindHere 66 = .ok (.invokevirtual 237, 3) := by decide +kernel
theorem dX5_kindHere_69 : decode cX5_kindHere 69 = .ok (.ifCond .eq 5, 3) := by decide +kernel
theorem dX5_kindHere_72 : decode cX5_kindHere 72 = .ok (.iconst 1, 1) := by decide +kernel
theorem dX5_kindHere_73 : decode cX5_kindHere 73 = .ok (.ireturn, 1) := by decide +kernel
theorem dX5_kindHere_74 : decode cX5_kindHere 74 = .ok (.aload_n 0, 1) := by decide +kernel
theorem dX5_kindHere_75 : decode cX5_kindHere 75 = .ok (.bipush 99, 2) := by decide +kernel
theorem dX5_kindHere_77 : decode cX5_kindHere 77 = .ok (.bipush 104, 2) := by decide +kernel
theorem dX5_kindHere_79 : decode cX5_kindHere 79 = .ok (.bipush 105, 2) := by decide +kernel
theorem dX5_kindHere_81 : decode cX5_kindHere 81 = .ok (.bipush 108, 2) := by decide +kernel
theorem dX5_kindHere_83 : decode cX5_kindHere 83 = .ok (.bipush 100, 2) := by decide +kernel
theorem dX5_kindHere_85 : decode cX5_kindHere 85 = .ok (.invokevirtual 241, 3) := by decide +kernel
theorem dX5_kindHere_88 : decode cX5_kindHere 88 = .ok (.ifCond .eq 5, 3) := by decide +kernel
theorem dX5_kindHere_91 : decode cX5_kindHere 91 = .ok (.iconst 2, 1) := by decide +kernel
theorem dX5_kindHere_92 : decode cX5_kindHere 92 = .ok (.ireturn, 1) := by decide +kernel
theorem dX5_kindHere_93 : decode cX5_kindHere 93 = .ok (.aload_n 0, 1) := by decide +kernel
theorem dX5_kindHere_94 : decode cX5_kindHere 94 = .ok (.bipush 115, 2) := by decide +kernel
theorem dX5_kindHere_96 : decode cX5_kindHere 96 = .ok (.bipush 97, 2) := by decide +kernel
theorem dX5_kindHere_98 : decode cX5_kindHere 98 = .ok (.bipush 105, 2) := by decide +kernel
theorem dX5_kindHere_100 : decode cX5_kindHere 100 = .ok (.bipush 110, 2) := by decide +kernel
theorem dX5_kindHere_102 : decode cX5_kindHere 102 = .ok (.bipush 116, 2) := by decide +kernel
theorem dX5_kindHere_104 : decode cX5_kindHere 104 = .ok (.invokevirtual 241, 3) := by decide +kernel
theorem dX5_kindHere_107 : decode cX5_kindHere 107 = .ok (.ifCond .eq 5, 3) := by decide +kernel
theorem dX5_kindHere_110 : decode cX5_kindHere 110 = .ok (.iconst 3, 1) := by decide +kernel
theorem dX5_kindHere_111 : decode cX5_kindHere 111 = .ok (.ireturn, 1) := by decide +kernel
theorem dX5_kindHere_112 : decode cX5_kindHere 112 = .ok (.aload_n 0, 1) := by decide +kernel
theorem dX5_kindHere_113 : decode cX5_kindHere 113 = .ok (.bipush 114, 2) := by decide +kernel
theorem dX5_kindHere_115 : decode cX5_kindHere 115 = .ok (.bipush 101, 2) := by decide +kernel
theorem dX5_kindHere_117 : decode cX5_kindHere 117 = .ok (.bipush 97, 2) := by decide +kernel
theorem dX5_kindHere_119 : decode cX5_kindHere 119 = .ok (.bipush 100, 2) := by decide +kernel
theorem dX5_kindHere_121 : decode cX5_kindHere 121 = .ok (.bipush 101, 2) := by decide +kernel
theorem dX5_kindHere_123 : decode cX5_kindHere 123 = .ok (.bipush 114, 2) := by decide +kernel
theorem dX5_kindHere_125 : decode cX5_kindHere 125 = .ok (.invokevirtual 237, 3) := by decide +kernel
theorem dX5_kindHere_128 : decode cX5_kindHere 128 = .ok (.ifCond .eq 5, 3) := by decide +kernel
theorem dX5_kindHere_131 : decode cX5_kindHere 131 = .ok (.iconst 4, 1) := by decide +kernel
theorem dX5_kindHere_132 : decode cX5_kindHere 132 = .ok (.ireturn, 1) := by decide +kernel
theorem dX5_kindHere_133 : decode cX5_kindHere 133 = .ok (.aload_n 0, 1) := by decide +kernel
theorem dX5_kindHere_134 : decode cX5_kindHere 134 = .ok (.bipush 99, 2) := by decide +kernel
theorem dX5_kindHere_136 : decode cX5_kindHere 136 = .ok (.bipush 111, 2) := by decide +kernel
theorem dX5_kindHere_138 : decode cX5_kindHere 138 = .ok (.bipush 111, 2) := by decide +kernel
theorem dX5_kindHere_140 : decode cX5_kindHere 140 = .ok (.bipush 107, 2) := by decide +kernel
theorem dX5_kindHere_142 : decode cX5_kindHere 142 = .ok (.invokevirtual 245, 3) := by decide +kernel
theorem dX5_kindHere_145 : decode cX5_kindHere 145 = .ok (.ifCond .eq 5, 3) := by decide +kernel
theorem dX5_kindHere_148 : decode cX5_kindHere 148 = .ok (.iconst 5, 1) := by decide +kernel
theorem dX5_kindHere_149 : decode cX5_kindHere 149 = .ok (.ireturn, 1) := by decide +kernel
theorem dX5_kindHere_150 : decode cX5_kindHere 150 = .ok (.aload_n 0, 1) := by decide +kernel
theorem dX5_kindHere_151 : decode cX5_kindHere 151 = .ok (.bipush 108, 2) := by decide +kernel
theorem dX5_kindHere_153 : decode cX5_kindHere 153 = .ok (.bipush 105, 2) := by decide +kernel
theorem dX5_kindHere_155 : decode cX5_kindHere 155 = .ok (.bipush 97, 2) := by decide +kernel
theorem dX5_kindHere_157 : decode cX5_kindHere 157 = .ok (.bipush 114, 2) := by decide +kernel
theorem dX5_kindHere_159 : decode cX5_kindHere 159 = .ok (.invokevirtual 245, 3) := by decide +kernel
theorem dX5_kindHere_162 : decode cX5_kindHere 162 = .ok (.ifCond .eq 8, 3) := by decide +kernel
theorem dX5_kindHere_165 : decode cX5_kindHere 165 = .ok (.bipush 6, 2) := by decide +kernel
theorem dX5_kindHere_167 : decode cX5_kindHere 167 = .ok (.goto 4, 3) := by decide +kernel
theorem dX5_kindHere_170 : decode cX5_kindHere 170 = .ok (.iconst (-1), 1) := by decide +kernel
theorem dX5_kindHere_171 : decode cX5_kindHere 171 = .ok (.ireturn, 1) := by decide +kernel
set_option maxRecDepth 20000 in
theorem ggX5_perhaps_X5_nextToken : GoodIn wsX5_perhaps wsX5_nextToken := goodIn_r _ [7, 8, 9, 10, 2, 11, 12, 13, 6, 14, 15, 16, 17, 18, 19, 20, 21, 22, 35, 36, 37, 38, 39, 40, 41, 42, 43, 44, 45, 46, 47, 48, 49, 50, 51, 52] (by decide +kernel) (by decide +kernel)
set_option maxRecDepth 20000 in
theorem gX5_perhaps_X5_nextToken : GoodIn wsX5_perhaps (wsV RX5 248 RX5 yX5_nextToken wsX5_nextToken) := goodIn_app (goodIn_of _ (by decide +kernel)) ggX5_perhaps_X5_nextToken
set_option maxRecDepth 20000 in
theorem ggX5_perhaps_X5_isNumber : GoodIn wsX5_perhaps wsX5_isNumber := goodIn_r _ [26, 10, 2, 27, 28, 6, 29, 30, 31, 32, 33, 9, 34, 35, 36, 37, 38, 39, 40, 41, 42, 43, 44, 45, 46, 47, 48, 49, 50, 51, 52] (by decide +kernel) (by decide +kernel)
set_option maxRecDepth 20000 in
theorem gX5_perhaps_X5_isNumber : GoodIn wsX5_perhaps (wsV RX5 251 RX5 yX5_isNumber wsX5_isNumber) := goodIn_app (goodIn_of _ (by decide +kernel)) ggX5_perhaps_X5_isNumber
theorem dX5_perhaps_0 : decode cX5_perhaps 0 = .ok (.iload_n 1, 1) := by decide +kernel
theorem dX5_perhaps_1 : decode cX5_perhaps 1 = .ok (.ifCond .ne 5, 3) := by decide +kernel
theorem dX5_perhaps_4 : decode cX5_perhaps 4 = .ok (.iconst 1, 1) := by decide +kernel
theorem dX5_perhaps_5 : decode cX5_perhaps 5 = .ok (.ireturn, 1) := by decide +kernel
theorem dX5_perhaps_6 : decode cX5_perhaps 6 = .ok (.aload_n 0, 1) := by decide +kernel
theorem dX5_perhaps_7 : decode cX5_perhaps 7 = .ok (.invokevirtual 248, 3) := by decide +kernel
theorem dX5_perhaps_10 : decode cX5_perhaps 10 = .ok (.aload_n 0, 1) := by decide +kernel
theorem dX5_perhaps_11 : decode cX5_perhaps 11 = .ok (.iconst 0, 1) := by decide +kernel
theorem dX5_perhaps_12 : decode cX5_perhaps 12 = .ok (.iload_n 3, 1) := by decide +kernel
theorem dX5_perhaps_13 : decode cX5_perhaps 13 = .ok (.invokevirtual 251, 3) := by decide +kernel
theorem dX5_perhaps_16 : decode cX5_perhaps 16 = .ok (.ifCond .ne 5, 3) := by decide +kernel
theorem dX5_perhaps_19 : decode cX5_perhaps 19 = .ok (.iconst 0, 1) := by decide +kernel
theorem dX5_perhaps_20 : decode cX5_perhaps 20 = .ok (.ireturn, 1) := by decide +kernel
theorem dX5_perhaps_21 : decode cX5_perhaps 21 = .ok (.aload_n 0, 1) := by decide +kernel
theorem dX5_perhaps_22 : decode cX5_perhaps 22 = .ok (.getfield 7, 3) := by decide +kernel
theorem dX5_perhaps_25 : decode cX5_perhaps 25 = .ok (.iload_n 2, 1) := by decide +kernel
theorem dX5_perhaps_26 : decode cX5_perhaps 26 = .ok (.aload_n 0, 1) := by decide +kernel
theorem dX5_perhaps_27 : decode cX5_perhaps 27 = .ok (.getfield 220, 3) := by decide +kernel
theorem dX5_perhaps_30 : decode cX5_perhaps 30 = .ok (.iastore, 1) := by decide +kernel
theorem dX5_perhaps_31 : decode cX5_perhaps 31 = .ok (.aload_n 0, 1) := by decide +kernel
theorem dX5_perhaps_32 : decode cX5_perhaps 32 = .ok (.invokevirtual 248, 3) := by decide +kernel
theorem dX5_perhaps_35 : decode cX5_perhaps 35 = .ok (.iconst 1, 1) := by decide +kernel
theorem dX5_perhaps_36 : decode cX5_perhaps 36 = .ok (.ireturn, 1) := by decide +kernel
set_option maxRecDepth 20000 in
theorem ggX5_plateHere_X5_isFive : GoodIn wsX5_plateHere wsX5_isFive := goodIn_r _ [8, 9, 10, 11, 7, 12, 1, 13, 14, 15, 16, 17, 18, 19, 20, 21, 22, 23, 24, 50, 51, 52, 53, 54, 55, 56, 57, 58, 59, 60, 61, 62, 63, 64, 65, 66, 67] (by decide +kernel) (by decide +kernel)
set_option maxRecDepth 20000 in
theorem gX5_plateHere_X5_isFive : GoodIn wsX5_plateHere (wsV RX5 241 RX5 yX5_isFive wsX5_isFive) := goodIn_app (goodIn_of _ (by decide +kernel)) ggX5_plateHere_X5_isFive
set_option maxRecDepth 20000 in
theorem ggX5_plateHere_X5_nextToken : GoodIn wsX5_plateHere wsX5_nextToken := goodIn_r _ [28, 13, 14, 1, 3, 19, 20, 21, 7, 22, 23, 24, 29, 30, 31, 32, 33, 34, 50, 51, 52, 53, 54, 55, 56, 57, 58, 59, 60, 61, 62, 63, 64, 65, 66, 67] (by decide +kernel) (by decide +kernel)
set_option maxRecDepth 20000 in
theorem gX5_plateHere_X5_nextToken : GoodIn wsX5_plateHere (wsV RX5 248 RX5 yX5_nextToken wsX5_nextToken) := goodIn_app (goodIn_of _ (by decide +kernel)) ggX5_plateHere_X5_nextToken
set_option maxRecDepth 20000 in
theorem ggX5_plateHere_X5_fails : GoodIn wsX5_plateHere wsX5_fails := goodIn_r _ [38, 14, 39, 50, 51, 52, 53, 54, 55, 56, 57, 58, 59, 60, 61, 62, 63, 64, 65, 66, 67] (by decide +kernel) (by decide +kernel)
set_option maxRecDepth 20000 in
theorem gX5_plateHere_X5_fails : GoodIn wsX5_plateHere (wsV RX5 233 RX5 yX5_fails wsX5_fails) := goodIn_app (goodIn_of _ (by decide +kernel)) ggX5_plateHere_X5_fails
set_option maxRecDepth 20000 in
theorem ggX5_plateHere_X5_isNumber : GoodIn wsX5_plateHere wsX5_isNumber := goodIn_r _ [43, 1, 3, 44, 45, 7, 46, 35, 36, 37, 38, 14, 39, 50, 51, 52, 53, 54, 55, 56, 57, 58, 59, 60, 61, 62, 63, 64, 65, 66, 67] (by decide +kernel) (by decide +kernel)
set_option maxRecDepth 20000 in
theorem gX5_plateHere_X5_isNumber : GoodIn wsX5_plateHere (wsV RX5 251 RX5 yX5_isNumber wsX5_isNumber) := goodIn_app (goodIn_of _ (by decide +kernel)) ggX5_plateHere_X5_isNumber
set_option maxRecDepth 20000 in
theorem ggX5_plateHere_X5_at : GoodIn wsX5_plateHere wsX5_at := goodIn_r _ [49] (by decide +kernel) (by decide +kernel)
set_option maxRecDepth 20000 in
theorem gX5_plateHere_X5_at : GoodIn wsX5_plateHere (va_wsS RX5 59 yX5_at wsX5_at) := goodIn_app (goodIn_of _ (by decide +kernel)) ggX5_plateHere_X5_at
theorem dX5_plateHere_0 : decode cX5_plateHere 0 = .ok (.aload_n 0, 1) := by decide +kernel
theorem dX5_plateHere_1 : decode cX5_plateHere 1 = .ok (.bipush 112, 2) := by decide +kernel
theorem dX5_plateHere_3 : decode cX5_plateHere 3 = .ok (.bipush 108, 2) := by decide +kernel
theorem dX5_plateHere_5 : decode cX5_plateHere 5 = .ok (.bipush 97, 2) := by decide +kernel
theorem dX5_plateHere_7 : decode cX5_plateHere 7 = .ok (.bipush 116, 2) := by decide +kernel
theorem dX5_plateHere_9 : decode cX5_plateHere 9 = .ok (.bipush 101, 2) := by decide +kernel
theorem dX5_plateHere_11 : decode cX5_plateHere 11 = .ok (.invokevirtual 241, 3) := by decide +kernel
theorem dX5_plateHere_14 : decode cX5_plateHere 14 = .ok (.ifCond .ne 5, 3) := by decide +kernel
theorem dX5_plateHere_17 : decode cX5_plateHere 17 = .ok (.iconst 1, 1) := by decide +kernel
theorem dX5_plateHere_18 : decode cX5_plateHere 18 = .ok (.ireturn, 1) := by decide +kernel
theorem dX5_plateHere_19 : decode cX5_plateHere 19 = .ok (.aload_n 0, 1) := by decide +kernel
theorem dX5_plateHere_20 : decode cX5_plateHere 20 = .ok (.invokevirtual 248, 3) := by decide +kernel
theorem dX5_plateHere_23 : decode cX5_plateHere 23 = .ok (.aload_n 0, 1) := by decide +kernel
theorem dX5_plateHere_24 : decode cX5_plateHere 24 = .ok (.getfield 217, 3) := by decide +kernel
theorem dX5_plateHere_27 : decode cX5_plateHere 27 = .ok (.iconst 2, 1) := by decide +kernel
theorem dX5_plateHere_28 : decode cX5_plateHere 28 = .ok (.if_icmp .eq 8, 3) := by decide +kernel
theorem dX5_plateHere_31 : decode cX5_plateHere 31 = .ok (.aload_n 0, 1) := by decide +kernel
theorem dX5_plateHere_32 : decode cX5_plateHere 32 = .ok (.invokevirtual 233, 3) := by decide +kernel
theorem dX5_plateHere_35 : decode cX5_plateHere 35 = .ok (.ireturn, 1) := by decide +kernel
theorem dX5_plateHere_36 : decode cX5_plateHere 36 = .ok (.iconst 0, 1) := by decide +kernel
theorem dX5_plateHere_37 : decode cX5_plateHere 37 = .ok (.istore_n 2, 1) := by decide +kernel
theorem dX5_plateHere_38 : decode cX5_plateHere 38 = .ok (.aload_n 0, 1) := by decide +kernel
theorem dX5_plateHere_39 : decode cX5_plateHere 39 = .ok (.getfield 217, 3) := by decide +kernel
theorem dX5_plateHere_42 : decode cX5_plateHere 42 = .ok (.iconst 2, 1) := by decide +kernel
theorem dX5_plateHere_43 : decode cX5_plateHere 43 = .ok (.if_icmp .ne 48, 3) := by decide +kernel
theorem dX5_plateHere_46 : decode cX5_plateHere 46 = .ok (.iload_n 2, 1) := by decide +kernel
theorem dX5_plateHere_47 : decode cX5_plateHere 47 = .ok (.bipush 6, 2) := by decide +kernel
theorem dX5_plateHere_49 : decode cX5_plateHere 49 = .ok (.if_icmp .ge 42, 3) := by decide +kernel
theorem dX5_plateHere_52 : decode cX5_plateHere 52 = .ok (.aload_n 0, 1) := by decide +kernel
theorem dX5_plateHere_53 : decode cX5_plateHere 53 = .ok (.iconst 0, 1) := by decide +kernel
theorem dX5_plateHere_54 : decode cX5_plateHere 54 = .ok (.sipush 999, 3) := by decide +kernel
theorem dX5_plateHere_57 : decode cX5_plateHere 57 = .ok (.invokevirtual 251, 3) := by decide +kernel
theorem dX5_plateHere_60 : decode cX5_plateHere 60 = .ok (.ifCond .ne 5, 3) := by decide +kernel
theorem dX5_plateHere_63 : decode cX5_plateHere 63 = .ok (.iconst 0, 1) := by decide +kernel
theorem dX5_plateHere_64 : decode cX5_plateHere 64 = .ok (.ireturn, 1) := by decide +kernel
theorem dX5_plateHere_65 : decode cX5_plateHere 65 = .ok (.aload_n 0, 1) := by decide +kernel
theorem dX5_plateHere_66 : decode cX5_plateHere 66 = .ok (.getfield 7, 3) := by decide +kernel
theorem dX5_plateHere_69 : decode cX5_plateHere 69 = .ok (.iload_n 1, 1) := by decide +kernel
theorem dX5_plateHere_70 : decode cX5_plateHere 70 = .ok (.iconst 4, 1) := by decide +kernel
theorem dX5_plateHere_71 : decode cX5_plateHere 71 = .ok (.iload_n 2, 1) := by decide +kernel
theorem dX5_plateHere_72 : decode cX5_plateHere 72 = .ok (.iadd, 1) := by decide +kernel
theorem dX5_plateHere_73 : decode cX5_plateHere 73 = .ok (.invokestatic 59, 3) := by decide +kernel
theorem dX5_plateHere_76 : decode cX5_plateHere 76 = .ok (.aload_n 0, 1) := by decide +kernel
theorem dX5_plateHere_77 : decode cX5_plateHere 77 = .ok (.getfield 220, 3) := by decide +kernel
theorem dX5_plateHere_80 : decode cX5_plateHere 80 = .ok (.iastore, 1) := by decide +kernel
theorem dX5_plateHere_81 : decode cX5_plateHere 81 = .ok (.aload_n 0, 1) := by decide +kernel
theorem dX5_plateHere_82 : decode cX5_plateHere 82 = .ok (.invokevirtual 248, 3) := by decide +kernel
theorem dX5_plateHere_85 : decode cX5_plateHere 85 = .ok (.iinc 2 1, 3) := by decide +kernel
theorem dX5_plateHere_88 : decode cX5_plateHere 88 = .ok (.goto (-50), 3) := by decide +kernel
theorem dX5_plateHere_91 : decode cX5_plateHere 91 = .ok (.iconst 1, 1) := by decide +kernel
theorem dX5_plateHere_92 : decode cX5_plateHere 92 = .ok (.ireturn, 1) := by decide +kernel
set_option maxRecDepth 20000 in
theorem ggX5_speakerHere_X5_fails : GoodIn wsX5_speakerHere wsX5_fails := goodIn_r _ [6, 7, 8, 62, 63, 64, 65, 66, 67, 68, 69, 70, 71, 72, 73, 74, 75, 76, 77, 78, 79] (by decide +kernel) (by decide +kernel)
set_option maxRecDepth 20000 in
theorem gX5_speakerHere_X5_fails : GoodIn wsX5_speakerHere (wsV RX5 233 RX5 yX5_fails wsX5_fails) := goodIn_app (goodIn_of _ (by decide +kernel)) ggX5_speakerHere_X5_fails
set_option maxRecDepth 20000 in
theorem ggX5_speakerHere_X5_comes : GoodIn wsX5_speakerHere wsX5_comes := goodIn_r _ [12, 1, 13, 14, 5, 15, 62, 63, 64, 65, 66, 67, 68, 69, 70, 71, 72, 73, 74, 75, 76, 77, 78, 79] (by decide +kernel) (by decide +kernel)
set_option maxRecDepth 20000 in
theorem gX5_speakerHere_X5_comes : GoodIn wsX5_speakerHere (wsV RX5 65 RX5 yX5_comes wsX5_comes) := goodIn_app (goodIn_of _ (by decide +kernel)) ggX5_speakerHere_X5_comes
set_option maxRecDepth 20000 in
theorem ggX5_speakerHere_X5_nextToken : GoodIn wsX5_speakerHere wsX5_nextToken := goodIn_r _ [19, 20, 7, 21, 22, 23, 24, 25, 5, 26, 27, 28, 29, 30, 31, 32, 33, 34, 62, 63, 64, 65, 66, 67, 68, 69, 70, 71, 72, 73, 74, 75, 76, 77, 78, 79] (by decide +kernel) (by decide +kernel)
set_option maxRecDepth 20000 in
theorem gX5_speakerHere_X5_nextToken : GoodIn wsX5_speakerHere (wsV RX5 248 RX5 yX5_nextToken wsX5_nextToken) := goodIn_app (goodIn_of _ (by decide +kernel)) ggX5_speakerHere_X5_nextToken
set_option maxRecDepth 20000 in
theorem ggX5_speakerHere_X5_isFive : GoodIn wsX5_speakerHere wsX5_isFive := goodIn_r _ [38, 39, 40, 41, 5, 42, 21, 20, 7, 43, 44, 45, 46, 23, 24, 25, 26, 27, 28, 62, 63, 64, 65, 66, 67, 68, 69, 70, 71, 72, 73, 74, 75, 76, 77, 78, 79] (by decide +kernel) (by decide +kernel)
set_option maxRecDepth 20000 in
theorem gX5_speakerHere_X5_isFive : GoodIn wsX5_speakerHere (wsV RX5 241 RX5 yX5_isFive wsX5_isFive) := goodIn_app (goodIn_of _ (by decide +kernel)) ggX5_speakerHere_X5_isFive
set_option maxRecDepth 20000 in
theorem ggX5_speakerHere_X5_at : GoodIn wsX5_speakerHere wsX5_at := goodIn_r _ [15] (by decide +kernel) (by decide +kernel)
set_option maxRecDepth 20000 in
theorem gX5_speakerHere_X5_at : GoodIn wsX5_speakerHere (va_wsS RX5 59 yX5_at wsX5_at) := goodIn_app (goodIn_of _ (by decide +kernel)) ggX5_speakerHere_X5_at
set_option maxRecDepth 20000 in
theorem ggX5_speakerHere_X5_perhaps : GoodIn wsX5_speakerHere wsX5_perhaps := goodIn_r _ [50, 1, 22, 16, 17, 18, 5, 19, 20, 7, 21, 23, 24, 25, 26, 27, 28, 29, 30, 31, 32, 33, 34, 51, 52, 53, 54, 55, 56, 57, 2, 3, 4, 6, 8, 62, 63, 64, 65, 66, 67, 68, 69, 70, 71, 72, 73, 74, 75, 76, 77, 78, 79] (by decide +kernel) (by decide +kernel)
set_option maxRecDepth 20000 in
theorem gX5_speakerHere_X5_perhaps : GoodIn wsX5_speakerHere (wsV RX5 254 RX5 yX5_perhaps wsX5_perhaps) := goodIn_app (goodIn_of _ (by decide +kernel)) ggX5_speakerHere_X5_perhaps
set_option maxRecDepth 20000 in
theorem ggX5_speakerHere_X5_isWord : GoodIn wsX5_speakerHere wsX5_isWord := goodIn_r _ [42, 21, 20, 7, 62, 63, 64, 65, 66, 67, 68, 69, 70, 71, 72, 73, 74, 75, 76, 77, 78, 79] (by decide +kernel) (by decide +kernel)
set_option maxRecDepth 20000 in
theorem gX5_speakerHere_X5_isWord : GoodIn wsX5_speakerHere (wsV RX5 226 RX5 yX5_isWord wsX5_isWord) := goodIn_app (goodIn_of _ (by decide +kernel)) ggX5_speakerHere_X5_isWord
set_option maxRecDepth 20000 in
theorem ggX5_speakerHere_X5_has3 : GoodIn wsX5_speakerHere wsX5_has3 := goodIn_r _ [46, 7, 23, 24, 25, 5, 26, 27, 28, 62, 63, 64, 65, 66, 67, 68, 69, 70, 71, 72, 73, 74, 75, 76, 77, 78, 79] (by decide +kernel) (by decide +kernel)
set_option maxRecDepth 20000 in
theorem gX5_speakerHere_X5_has3 : GoodIn wsX5_speakerHere (wsV RX5 229 RX5 yX5_has3 wsX5_has3) := goodIn_app (goodIn_of _ (by decide +kernel)) ggX5_speakerHere_X5_has3
set_option maxRecDepth 20000 in
theorem ggX5_speakerHere_X5_plateHere : GoodIn wsX5_speakerHere wsX5_plateHere := goodIn_r _ [61, 21, 1, 22, 35, 36, 37, 5, 38, 39, 40, 41, 42, 20, 7, 43, 44, 45, 46, 23, 24, 25, 26, 27, 28, 16, 17, 18, 19, 29, 30, 31, 32, 33, 34, 2, 3, 4, 6, 8, 51, 52, 53, 54, 55, 56, 57, 13, 14, 15, 62, 63, 64, 65, 66, 67, 68, 69, 70, 71, 72, 73, 74, 75, 76, 77, 78, 79] (by decide +kernel) (by decide +kernel)
set_option maxRecDepth 20000 in
theorem gX5_speakerHere_X5_plateHere : GoodIn wsX5_speakerHere (wsV RX5 258 RX5 yX5_plateHere wsX5_plateHere) := goodIn_app (goodIn_of _ (by decide +kernel)) ggX5_speakerHere_X5_plateHere
theorem dX5_speakerHere_0 : decode cX5_speakerHere 0 = .ok (.aload_n 0, 1) := by decide +kernel
theorem dX5_speakerHere_1 : decode cX5_speakerHere 1 = .ok (.getfield 7, 3) := by decide +kernel
theorem dX5_speakerHere_4 : decode cX5_speakerHere 4 = .ok (.iconst 0, 1) := by decide +kernel
theorem dX5_speakerHere_5 : decode cX5_speakerHere 5 = .ok (.iaload, 1) := by decide +kernel
theorem dX5_speakerHere_6 : decode cX5_speakerHere 6 = .ok (.bipush 8, 2) := by decide +kernel
theorem dX5_speakerHere_8 : decode cX5_speakerHere 8 = .ok (.if_icmp .ne 8, 3) := by decide +kernel
theorem dX5_speakerHere_11 : decode cX5_speakerHere 11 = .ok (.aload_n 0, 1) := by decide +kernel
theorem dX5_speakerHere_12 : decode cX5_speakerHere 12 = .ok (.invokevirtual 233, 3) := by decide +kernel
theorem dX5_speakerHere_15 : decode cX5_speakerHere 15 = .ok (.ireturn, 1) := by decide +kernel
theorem dX5_speakerHere_16 : decode cX5_speakerHere 16 = .ok (.aload_n 0, 1) := by decide +kernel
theorem dX5_speakerHere_17 : decode cX5_speakerHere 17 = .ok (.iload_n 1, 1) := by decide +kernel
theorem dX5_speakerHere_18 : decode cX5_speakerHere 18 = .ok (.invokevirtual 65, 3) := by decide +kernel
theorem dX5_speakerHere_21 : decode cX5_speakerHere 21 = .ok (.aload_n 0, 1) := by decide +kernel
theorem dX5_speakerHere_22 : decode cX5_speakerHere 22 = .ok (.getfield 7, 3) := by decide +kernel
theorem dX5_speakerHere_25 : decode cX5_speakerHere 25 = .ok (.iconst 0, 1) := by decide +kernel
theorem dX5_speakerHere_26 : decode cX5_speakerHere 26 = .ok (.iaload, 1) := by decide +kernel
theorem dX5_speakerHere_27 : decode cX5_speakerHere 27 = .ok (.iconst 1, 1) := by decide +kernel
theorem dX5_speakerHere_28 : decode cX5_speakerHere 28 = .ok (.isub, 1) := by decide +kernel
theorem dX5_speakerHere_29 : decode cX5_speakerHere 29 = .ok (.istore_n 2, 1) := by decide +kernel
theorem dX5_speakerHere_30 : decode cX5_speakerHere 30 = .ok (.aload_n 0, 1) := by decide +kernel
theorem dX5_speakerHere_31 : decode cX5_speakerHere 31 = .ok (.invokevirtual 248, 3) := by decide +kernel
theorem dX5_speakerHere_34 : decode cX5_speakerHere 34 = .ok (.aload_n 0, 1) := by decide +kernel
theorem dX5_speakerHere_35 : decode cX5_speakerHere 35 = .ok (.aload_n 0, 1) := by decide +kernel
theorem dX5_speakerHere_36 : decode cX5_speakerHere 36 = .ok (.bipush 108, 2) := by decide +kernel
theorem dX5_speakerHere_38 : decode cX5_speakerHere 38 = .ok (.bipush 111, 2) := by decide +kernel
theorem dX5_speakerHere_40 : decode cX5_speakerHere 40 = .ok (.bipush 118, 2) := by decide +kernel
theorem dX5_speakerHere_42 : decode cX5_speakerHere 42 = .ok (.bipush 101, 2) := by decide +kernel
theorem dX5_speakerHere_44 : decode cX5_speakerHere 44 = .ok (.bipush 115, 2) := by decide +kernel
theorem dX5_speakerHere_46 : decode cX5_speakerHere 46 = .ok (.invokevirtual 241, 3) := by decide +kernel
theorem dX5_speakerHere_49 : decode cX5_speakerHere 49 = .ok (.iload_n 2, 1) := by decide +kernel
theorem dX5_speakerHere_50 : decode cX5_speakerHere 50 = .ok (.iconst 1, 1) := by decide +kernel
theorem dX5_speakerHere_51 : decode cX5_speakerHere 51 = .ok (.invokestatic 59, 3) := by decide +kernel
theorem dX5_speakerHere_54 : decode cX5_speakerHere 54 = .ok (.iload_n 2, 1) := by decide +kernel
theorem dX5_speakerHere_55 : decode cX5_speakerHere 55 = .ok (.iconst 1, 1) := by decide +kernel
theorem dX5_speakerHere_56 : decode cX5_speakerHere 56 = .ok (.isub, 1) := by decide +kernel
theorem dX5_speakerHere_57 : decode cX5_speakerHere 57 = .ok (.invokevirtual 254, 3) := by decide +kernel
theorem dX5_speakerHere_60 : decode cX5_speakerHere 60 = .ok (.ifCond .eq 56, 3) := by decide +kernel
theorem dX5_speakerHere_63 : decode cX5_speakerHere 63 = .ok (.aload_n 0, 1) := by decide +kernel
theorem dX5_speakerHere_64 : decode cX5_speakerHere 64 = .ok (.aload_n 0, 1) := by decide +kernel
theorem dX5_speakerHere_65 : decode cX5_speakerHere 65 = .ok (.iconst 3, 1) := by decide +kernel
theorem dX5_speakerHere_66 : decode cX5_speakerHere 66 = .ok (.invokevirtual 226, 3) := by decide +kernel
theorem dX5_speakerHere_69 : decode cX5_speakerHere 69 = .ok (.ifCond .eq 21, 3) := by decide +kernel
theorem dX5_speakerHere_72 : decode cX5_speakerHere 72 = .ok (.aload_n 0, 1) := by decide +kernel
theorem dX5_speakerHere_73 : decode cX5_speakerHere 73 = .ok (.iconst 0, 1) := by decide +kernel
theorem dX5_speakerHere_74 : decode cX5_speakerHere 74 = .ok (.bipush 102, 2) := by decide +kernel
theorem dX5_speakerHere_76 : decode cX5_speakerHere 76 = .ok (.bipush 97, 2) := by decide +kernel
theorem dX5_speakerHere_78 : decode cX5_speakerHere 78 = .ok (.bipush 116, 2) := by decide +kernel
theorem dX5_speakerHere_80 : decode cX5_speakerHere 80 = .ok (.invokevirtual 229, 3) := by decide +kernel
theorem dX5_speakerHere_83 : decode cX5_speakerHere 83 = .ok (.ifCond .eq 7, 3) := by decide +kernel
theorem dX5_speakerHere_86 : decode cX5_speakerHere 86 = .ok (.iconst 1, 1) := by decide +kernel
theorem dX5_speakerHere_87 : decode cX5_speakerHere 87 = .ok (.goto 4, 3) := by decide +kernel
theorem dX5_speakerHere_90 : decode cX5_speakerHere 90 = .ok (.iconst 0, 1) := by decide +kernel
theorem dX5_speakerHere_91 : decode cX5_speakerHere 91 = .ok (.iload_n 2, 1) := by decide +kernel
theorem dX5_speakerHere_92 : decode cX5_speakerHere 92 = .ok (.iconst 2, 1) := by decide +kernel
theorem dX5_speakerHere_93 : decode cX5_speakerHere 93 = .ok (.invokestatic 59, 3) := by decide +kernel
theorem dX5_speakerHere_96 : decode cX5_speakerHere 96 = .ok (.bipush 99, 2) := by decide +kernel
theorem dX5_speakerHere_98 : decode cX5_speakerHere 98 = .ok (.invokevirtual 254, 3) := by decide +kernel
theorem dX5_speakerHere_101 : decode cX5_speakerHere 101 = .ok (.ifCond .eq 15, 3) := by decide +kernel
theorem dX5_speakerHere_104 : decode cX5_speakerHere 104 = .ok (.aload_n 0, 1) := by decide +kernel
theorem dX5_speakerHere_105 : decode cX5_speakerHere 105 = .ok (.iload_n 2, 1) := by decide +kernel
theorem dX5_speakerHere_106 : decode cX5_speakerHere 106 = .ok (.invokevirtual 258, 3) := by decide +kernel
theorem dX5_speakerHere_109 : decode cX5_speakerHere 109 = .ok (.ifCond .eq 7, 3) := by decide +kernel
theorem dX5_speakerHere_112 : decode cX5_speakerHere 112 = .ok (.iconst 1, 1) := by decide +kernel
theorem dX5_speakerHere_113 : decode cX5_speakerHere 113 = .ok (.goto 4, 3) := by decide +kernel
theorem dX5_speakerHere_116 : decode cX5_speakerHere 116 = .ok (.iconst 0, 1) := by decide +kernel
theorem dX5_speakerHere_117 : decode cX5_speakerHere 117 = .ok (.ireturn, 1) := by decide +kernel
set_option maxRecDepth 20000 in
theorem ggX5_listHere_X5_nextToken : GoodIn wsX5_listHere wsX5_nextToken := goodIn_r _ [6, 7, 8, 9, 1, 10, 11, 12, 5, 13, 14, 15, 16, 17, 18, 19, 20, 21, 39, 40, 41, 42, 43, 44, 45, 46, 47, 48, 49, 50, 51, 52, 53, 54, 55, 56] (by decide +kernel) (by decide +kernel)
set_option maxRecDepth 20000 in
theorem gX5_listHere_X5_nextToken : GoodIn wsX5_listHere (wsV RX5 248 RX5 yX5_nextToken wsX5_nextToken) := goodIn_app (goodIn_of _ (by decide +kernel)) ggX5_listHere_X5_nextToken
set_option maxRecDepth 20000 in
theorem ggX5_listHere_X5_isNumber : GoodIn wsX5_listHere wsX5_isNumber := goodIn_r _ [25, 9, 1, 26, 27, 5, 28, 29, 30, 31, 32, 8, 33, 39, 40, 41, 42, 43, 44, 45, 46, 47, 48, 49, 50, 51, 52, 53, 54, 55, 56] (by decide +kernel) (by decide +kernel)
set_option maxRecDepth 20000 in
theorem gX5_listHere_X5_isNumber : GoodIn wsX5_listHere (wsV RX5 251 RX5 yX5_isNumber wsX5_isNumber) := goodIn_app (goodIn_of _ (by decide +kernel)) ggX5_listHere_X5_isNumber
set_option maxRecDepth 20000 in
theorem ggX5_listHere_X5_perhaps : GoodIn wsX5_listHere wsX5_perhaps := goodIn_r _ [37, 38, 1, 2, 3, 4, 5, 6, 7, 8, 9, 10, 11, 12, 13, 14, 15, 16, 17, 18, 19, 20, 21, 22, 23, 24, 25, 26, 27, 28, 29, 30, 31, 32, 33, 39, 40, 41, 42, 43, 44, 45, 46, 47, 48, 49, 50, 51, 52, 53, 54, 55, 56] (by decide +kernel) (by decide +kernel)
set_option maxRecDepth 20000 in
theorem gX5_listHere_X5_perhaps : GoodIn wsX5_listHere (wsV RX5 254 RX5 yX5_perhaps wsX5_perhaps) := goodIn_app (goodIn_of _ (by decide +kernel)) ggX5_listHere_X5_perhaps
theorem dX5_listHere_0 : decode cX5_listHere 0 = .ok (.aload_n 0, 1) := by decide +kernel
theorem dX5_listHere_1 : decode cX5_listHere 1 = .ok (.invokevirtual 248, 3) := by decide +kernel
theorem dX5_listHere_4 : decode cX5_listHere 4 = .ok (.aload_n 0, 1) := by decide +kernel
theorem dX5_listHere_5 : decode cX5_listHere 5 = .ok (.iconst 0, 1) := by decide +kernel
theorem dX5_listHere_6 : decode cX5_listHere 6 = .ok (.iconst 5, 1) := by decide +kernel
theorem dX5_listHere_7 : decode cX5_listHere 7 = .ok (.invokevirtual 251, 3) := by decide +kernel
theorem dX5_listHere_10 : decode cX5_listHere 10 = .ok (.ifCond .eq 23, 3) := by decide +kernel
theorem dX5_listHere_13 : decode cX5_listHere 13 = .ok (.aload_n 0, 1) := by decide +kernel
theorem dX5_listHere_14 : decode cX5_listHere 14 = .ok (.iconst 1, 1) := by decide +kernel
theorem dX5_listHere_15 : decode cX5_listHere 15 = .ok (.iconst 4, 1) := by decide +kernel
theorem dX5_listHere_16 : decode cX5_listHere 16 = .ok (.aload_n 0, 1) := by decide +kernel
theorem dX5_listHere_17 : decode cX5_listHere 17 = .ok (.getfield 220, 3) := by decide +kernel
theorem dX5_listHere_20 : decode cX5_listHere 20 = .ok (.iadd, 1) := by decide +kernel
theorem dX5_listHere_21 : decode cX5_listHere 21 = .ok (.bipush 20, 2) := by decide +kernel
theorem dX5_listHere_23 : decode cX5_listHere 23 = .ok (.invokevirtual 254, 3) := by decide +kernel
theorem dX5_listHere_26 : decode cX5_listHere 26 = .ok (.ifCond .eq 7, 3) := by decide +kernel
theorem dX5_listHere_29 : decode cX5_listHere 29 = .ok (.iconst 1, 1) := by decide +kernel
theorem dX5_listHere_30 : decode cX5_listHere 30 = .ok (.goto 4, 3) := by decide +kernel
theorem dX5_listHere_33 : decode cX5_listHere 33 = .ok (.iconst 0, 1) := by decide +kernel
theorem dX5_listHere_34 : decode cX5_listHere 34 = .ok (.ireturn, 1) := by decide +kernel
set_option maxRecDepth 20000 in
theorem ggX5_itemHere_X5_kindHere : GoodIn wsX5_itemHere wsX5_kindHere := goodIn_r _ [5, 6, 7, 8, 4, 9, 10, 11, 12, 13, 14, 15, 16, 17, 18, 19, 20, 21, 22, 23, 24, 25, 26, 27, 28, 29, 30, 31, 32, 33, 34, 82, 83, 84, 85, 86, 87, 88, 89, 90, 91, 92, 93, 94, 95, 96, 97, 98, 99] (by decide +kernel) (by decide +kernel)
set_option maxRecDepth 20000 in
theorem gX5_itemHere_X5_kindHere : GoodIn wsX5_itemHere (wsV RX5 261 RX5 yX5_kindHere wsX5_kindHere) := goodIn_app (goodIn_of _ (by decide +kernel)) ggX5_itemHere_X5_kindHere
set_option maxRecDepth 20000 in
theorem ggX5_itemHere_X5_speakerHere : GoodIn wsX5_itemHere wsX5_speakerHere := goodIn_r _ [38, 39, 40, 41, 42, 4, 43, 12, 44, 45, 46, 47, 48, 49, 50, 51, 52, 53, 54, 55, 11, 10, 56, 17, 18, 19, 20, 21, 22, 57, 58, 59, 60, 61, 62, 27, 28, 29, 30, 6, 7, 8, 9, 13, 14, 15, 16, 63, 64, 65, 66, 67, 68, 69, 70, 71, 72, 73, 74, 75, 76, 77, 82, 83, 84, 85, 86, 87, 88, 89, 90, 91, 92, 93, 94, 95, 96, 97, 98, 99] (by decide +kernel) (by decide +kernel)
set_option maxRecDepth 20000 in
theorem gX5_itemHere_X5_speakerHere : GoodIn wsX5_itemHere (wsV RX5 264 RX5 yX5_speakerHere wsX5_speakerHere) := goodIn_app (goodIn_of _ (by decide +kernel)) ggX5_itemHere_X5_speakerHere
set_option maxRecDepth 20000 in
theorem ggX5_itemHere_X5_isFour : GoodIn wsX5_itemHere wsX5_isFour := goodIn_r _ [34, 6, 7, 8, 4, 9, 10, 11, 12, 13, 14, 15, 16, 17, 18, 19, 20, 21, 22, 82, 83, 84, 85, 86, 87, 88, 89, 90, 91, 92, 93, 94, 95, 96, 97, 98, 99] (by decide +kernel) (by decide +kernel)
set_option maxRecDepth 20000 in
theorem gX5_itemHere_X5_isFour : GoodIn wsX5_itemHere (wsV RX5 245 RX5 yX5_isFour wsX5_isFour) := goodIn_app (goodIn_of _ (by decide +kernel)) ggX5_itemHere_X5_isFour
set_option maxRecDepth 20000 in
theorem ggX5_itemHere_X5_listHere : GoodIn wsX5_itemHere wsX5_listHere := goodIn_r _ [81, 56, 52, 53, 54, 4, 55, 11, 12, 10, 17, 18, 19, 20, 21, 22, 57, 58, 59, 60, 61, 62, 67, 68, 69, 70, 71, 72, 73, 40, 41, 42, 43, 44, 63, 64, 65, 66, 39, 82, 83, 84, 85, 86, 87, 88, 89, 90, 91, 92, 93, 94, 95, 96, 97, 98, 99] (by decide +kernel) (by decide +kernel)
set_option maxRecDepth 20000 in
theorem gX5_itemHere_X5_listHere : GoodIn wsX5_itemHere (wsV RX5 267 RX5 yX5_listHere wsX5_listHere) := goodIn_app (goodIn_of _ (by decide +kernel)) ggX5_itemHere_X5_listHere
set_option maxRecDepth 20000 in
theorem ggX5_itemHere_X5_isWord : GoodIn wsX5_itemHere wsX5_isWord := goodIn_r _ [9, 10, 11, 12, 82, 83, 84, 85, 86, 87, 88, 89, 90, 91, 92, 93, 94, 95, 96, 97, 98, 99] (by decide +kernel) (by decide +kernel)
set_option maxRecDepth 20000 in
theorem gX5_itemHere_X5_isWord : GoodIn wsX5_itemHere (wsV RX5 226 RX5 yX5_isWord wsX5_isWord) := goodIn_app (goodIn_of _ (by decide +kernel)) ggX5_itemHere_X5_isWord
set_option maxRecDepth 20000 in
theorem ggX5_itemHere_X5_has3 : GoodIn wsX5_itemHere wsX5_has3 := goodIn_r _ [16, 12, 17, 18, 19, 4, 20, 21, 22, 82, 83, 84, 85, 86, 87, 88, 89, 90, 91, 92, 93, 94, 95, 96, 97, 98, 99] (by decide +kernel) (by decide +kernel)
set_option maxRecDepth 20000 in
theorem gX5_itemHere_X5_has3 : GoodIn wsX5_itemHere (wsV RX5 229 RX5 yX5_has3 wsX5_has3) := goodIn_app (goodIn_of _ (by decide +kernel)) ggX5_itemHere_X5_has3
set_option maxRecDepth 20000 in
theorem ggX5_itemHere_X5_perhaps : GoodIn wsX5_itemHere wsX5_perhaps := goodIn_r _ [66, 39, 56, 52, 53, 54, 4, 55, 11, 12, 10, 17, 18, 19, 20, 21, 22, 57, 58, 59, 60, 61, 62, 67, 68, 69, 70, 71, 72, 73, 40, 41, 42, 43, 44, 82, 83, 84, 85, 86, 87, 88, 89, 90, 91, 92, 93, 94, 95, 96, 97, 98, 99] (by decide +kernel) (by decide +kernel)
set_option maxRecDepth 20000 in
theorem gX5_itemHere_X5_perhaps : GoodIn wsX5_itemHere (wsV RX5 254 RX5 yX5_perhaps wsX5_perhaps) := goodIn_app (goodIn_of _ (by decide +kernel)) ggX5_itemHere_X5_perhaps
set_option maxRecDepth 20000 in
theorem ggX5_itemHere_X5_fails : GoodIn wsX5_itemHere wsX5_fails := goodIn_r _ [43, 12, 44, 82, 83, 84, 85, 86, 87, 88, 89, 90, 91, 92, 93, 94, 95, 96, 97, 98, 99] (by decide +kernel) (by decide +kernel)
set_option maxRecDepth 20000 in
theorem gX5_itemHere_X5_fails : GoodIn wsX5_itemHere (wsV RX5 233 RX5 yX5_fails wsX5_fails) := goodIn_app (goodIn_of _ (by decide +kernel)) ggX5_itemHere_X5_fails
theorem dX5_itemHere_0 : decode cX5_itemHere 0 = .ok (.aload_n 0, 1) := by decide +kernel
theorem dX5_itemHere_1 : decode cX5_itemHere 1 = .ok (.invokevirtual 261, 3) := by decide +kernel
theorem dX5_itemHere_4 : decode cX5_itemHere 4 = .ok (.istore_n 1, 1) := by decide +kernel
theorem dX5_itemHere_5 : decode cX5_itemHere 5 = .ok (.iload_n 1, 1) := by decide +kernel
theorem dX5_itemHere_6 : decode cX5_itemHere 6 = .ok (.ifCond .lt 9, 3) := by decide +kernel
theorem dX5_itemHere_9 : decode cX5_itemHere 9 = .ok (.aload_n 0, 1) := by decide +kernel
theorem dX5_itemHere_10 : decode cX5_itemHere 10 = .ok (.iload_n 1, 1) := by decide +kernel
theorem dX5_itemHere_11 : decode cX5_itemHere 11 = .ok (.invokevirtual 264, 3) := by decide +kernel
theorem dX5_itemHere_14 : decode cX5_itemHere 14 = .ok (.ireturn, 1) := by decide +kernel
theorem dX5_itemHere_15 : decode cX5_itemHere 15 = .ok (.aload_n 0, 1) := by decide +kernel
theorem dX5_itemHere_16 : decode cX5_itemHere 16 = .ok (.bipush 108, 2) := by decide +kernel
theorem dX5_itemHere_18 : decode cX5_itemHere 18 = .ok (.bipush 105, 2) := by decide +kernel
theorem dX5_itemHere_20 : decode cX5_itemHere 20 = .ok (.bipush 115, 2) := by decide +kernel
theorem dX5_itemHere_22 : decode cX5_itemHere 22 = .ok (.bipush 116, 2) := by decide +kernel
theorem dX5_itemHere_24 : decode cX5_itemHere 24 = .ok (.invokevirtual 245, 3) := by decide +kernel
theorem dX5_itemHere_27 : decode cX5_itemHere 27 = .ok (.ifCond .eq 8, 3) := by decide +kernel
theorem dX5_itemHere_30 : decode cX5_itemHere 30 = .ok (.aload_n 0, 1) := by decide +kernel
theorem dX5_itemHere_31 : decode cX5_itemHere 31 = .ok (.invokevirtual 267, 3) := by decide +kernel
theorem dX5_itemHere_34 : decode cX5_itemHere 34 = .ok (.ireturn, 1) := by decide +kernel
theorem dX5_itemHere_35 : decode cX5_itemHere 35 = .ok (.aload_n 0, 1) := by decide +kernel
theorem dX5_itemHere_36 : decode cX5_itemHere 36 = .ok (.bipush 7, 2) := by decide +kernel
theorem dX5_itemHere_38 : decode cX5_itemHere 38 = .ok (.invokevirtual 226, 3) := by decide +kernel
theorem dX5_itemHere_41 : decode cX5_itemHere 41 = .ok (.ifCond .eq 56, 3) := by decide +kernel
theorem dX5_itemHere_44 : decode cX5_itemHere 44 = .ok (.aload_n 0, 1) := by decide +kernel
theorem dX5_itemHere_45 : decode cX5_itemHere 45 = .ok (.iconst 0, 1) := by decide +kernel
theorem dX5_itemHere_46 : decode cX5_itemHere 46 = .ok (.bipush 118, 2) := by decide +kernel
theorem dX5_itemHere_48 : decode cX5_itemHere 48 = .ok (.bipush 105, 2) := by decide +kernel
theorem dX5_itemHere_50 : decode cX5_itemHere 50 = .ok (.bipush 110, 2) := by decide +kernel
theorem dX5_itemHere_52 : decode cX5_itemHere 52 = .ok (.invokevirtual 229, 3) := by decide +kernel
theorem dX5_itemHere_55 : decode cX5_itemHere 55 = .ok (.ifCond .eq 42, 3) := by decide +kernel
theorem dX5_itemHere_58 : decode cX5_itemHere 58 = .ok (.aload_n 0, 1) := by decide +kernel
theorem dX5_itemHere_59 : decode cX5_itemHere 59 = .ok (.iconst 3, 1) := by decide +kernel
theorem dX5_itemHere_60 : decode cX5_itemHere 60 = .ok (.bipush 101, 2) := by decide +kernel
theorem dX5_itemHere_62 : decode cX5_itemHere 62 = .ok (.bipush 103, 2) := by decide +kernel
theorem dX5_itemHere_64 : decode cX5_itemHere 64 = .ok (.bipush 97, 2) := by decide +kernel
theorem dX5_itemHere_66 : decode cX5_itemHere 66 = .ok (.invokevirtual 229, 3) := by decide +kernel
theorem dX5_itemHere_69 : decode cX5_itemHere 69 = .ok (.ifCond .eq 28, 3) := by decide +kernel
theorem dX5_itemHere_72 : decode cX5_itemHere 72 = .ok (.aload_n 0, 1) := by decide +kernel
theorem dX5_itemHere_73 : decode cX5_itemHere 73 = .ok (.iconst 4, 1) := by decide +kernel
theorem dX5_itemHere_74 : decode cX5_itemHere 74 = .ok (.bipush 103, 2) := by decide +kernel
theorem dX5_itemHere_76 : decode cX5_itemHere 76 = .ok (.bipush 97, 2) := by decide +kernel
theorem dX5_itemHere_78 : decode cX5_itemHere 78 = .ok (.bipush 114, 2) := by decide +kernel
theorem dX5_itemHere_80 : decode cX5_itemHere 80 = .ok (.invokevirtual 229, 3) := by decide +kernel
theorem dX5_itemHere_83 : decode cX5_itemHere 83 = .ok (.ifCond .eq 14, 3) := by decide +kernel
theorem dX5_itemHere_86 : decode cX5_itemHere 86 = .ok (.aload_n 0, 1) := by decide +kernel
theorem dX5_itemHere_87 : decode cX5_itemHere 87 = .ok (.iconst 1, 1) := by decide +kernel
theorem dX5_itemHere_88 : decode cX5_itemHere 88 = .ok (.iconst 3, 1) := by decide +kernel
theorem dX5_itemHere_89 : decode cX5_itemHere 89 = .ok (.bipush 9, 2) := by decide +kernel
theorem dX5_itemHere_91 : decode cX5_itemHere 91 = .ok (.invokevirtual 254, 3) := by decide +kernel
theorem dX5_itemHere_94 : decode cX5_itemHere 94 = .ok (.goto 7, 3) := by decide +kernel
theorem dX5_itemHere_97 : decode cX5_itemHere 97 = .ok (.aload_n 0, 1) := by decide +kernel
theorem dX5_itemHere_98 : decode cX5_itemHere 98 = .ok (.invokevirtual 233, 3) := by decide +kernel
theorem dX5_itemHere_101 : decode cX5_itemHere 101 = .ok (.ireturn, 1) := by decide +kernel
set_option maxRecDepth 20000 in
theorem ggX5_text_X5_copyRow : GoodIn wsX5_text wsX5_copyRow := goodIn_r _ [10] (by decide +kernel) (by decide +kernel)
set_option maxRecDepth 20000 in
theorem gX5_text_X5_copyRow : GoodIn wsX5_text (va_wsS RX5 150 yX5_copyRow wsX5_copyRow) := goodIn_app (goodIn_of _ (by decide +kernel)) ggX5_text_X5_copyRow
set_option maxRecDepth 20000 in
theorem ggX5_text_X5_nextToken : GoodIn wsX5_text wsX5_nextToken := goodIn_r _ [14, 3, 15, 4, 16, 17, 18, 19, 9, 20, 5, 21, 22, 23, 24, 25, 26, 27, 90, 91, 92, 93, 94, 95, 96, 97, 98, 99, 100, 101, 102, 103, 104, 105, 106, 107] (by decide +kernel) (by decide +kernel)
set_option maxRecDepth 20000 in
theorem gX5_text_X5_nextToken : GoodIn wsX5_text (wsV RX5 248 RX5 yX5_nextToken wsX5_nextToken) := goodIn_app (goodIn_of _ (by decide +kernel)) ggX5_text_X5_nextToken
set_option maxRecDepth 20000 in
theorem ggX5_text_X5_itemHere : GoodIn wsX5_text wsX5_itemHere := goodIn_r _ [31, 32, 33, 34, 9, 35, 36, 37, 38, 39, 4, 3, 15, 40, 41, 42, 43, 17, 18, 19, 20, 5, 21, 44, 45, 46, 47, 48, 49, 50, 51, 52, 53, 54, 55, 56, 57, 58, 59, 1, 60, 61, 62, 63, 6, 64, 65, 66, 67, 68, 69, 70, 11, 12, 13, 14, 16, 22, 23, 24, 25, 26, 27, 71, 72, 73, 74, 75, 76, 77, 78, 79, 80, 81, 82, 83, 84, 85, 86, 87, 88, 89, 90, 91, 92, 93, 94, 95, 96, 97, 98, 99, 100, 101, 102, 103, 104, 105, 106, 107] (by decide +kernel) (by decide +kernel)
set_option maxRecDepth 20000 in
theorem gX5_text_X5_itemHere : GoodIn wsX5_text (wsV RX5 270 RX5 yX5_itemHere wsX5_itemHere) := goodIn_app (goodIn_of _ (by decide +kernel)) ggX5_text_X5_itemHere
set_option maxRecDepth 20000 in
theorem ggX5_text_X5_fails : GoodIn wsX5_text wsX5_fails := goodIn_r _ [63, 15, 6, 90, 91, 92, 93, 94, 95, 96, 97, 98, 99, 100, 101, 102, 103, 104, 105, 106, 107] (by decide +kernel) (by decide +kernel)
set_option maxRecDepth 20000 in
theorem gX5_text_X5_fails : GoodIn wsX5_text (wsV RX5 233 RX5 yX5_fails wsX5_fails) := goodIn_app (goodIn_of _ (by decide +kernel)) ggX5_text_X5_fails
theorem dX5_text_0 : decode cX5_text 0 = .ok (.aload_n 0, 1) := by decide +kernel
theorem dX5_text_1 : decode cX5_text 1 = .ok (.getfield 7, 3) := by decide +kernel
theorem dX5_text_4 : decode cX5_text 4 = .ok (.aload_n 0, 1) := by decide +kernel
theorem dX5_text_5 : decode cX5_text 5 = .ok (.getfield 16, 3) := by decide +kernel
theorem dX5_text_8 : decode cX5_text 8 = .ok (.invokestatic 150, 3) := by decide +kernel
theorem dX5_text_11 : decode cX5_text 11 = .ok (.aload_n 0, 1) := by decide +kernel
theorem dX5_text_12 : decode cX5_text 12 = .ok (.iconst 0, 1) := by decide +kernel
theorem dX5_text_13 : decode cX5_text 13 = .ok (.putfield 202, 3) := by decide +kernel
theorem dX5_text_16 : decode cX5_text 16 = .ok (.aload_n 0, 1) := by decide +kernel
theorem dX5_text_17 : decode cX5_text 17 = .ok (.invokevirtual 248, 3) := by decide +kernel
theorem dX5_text_20 : decode cX5_text 20 = .ok (.iconst 1, 1) := by decide +kernel
theorem dX5_text_21 : decode cX5_text 21 = .ok (.istore_n 1, 1) := by decide +kernel
theorem dX5_text_22 : decode cX5_text 22 = .ok (.aload_n 0, 1) := by decide +kernel
theorem dX5_text_23 : decode cX5_text 23 = .ok (.invokevirtual 270, 3) := by decide +kernel
theorem dX5_text_26 : decode cX5_text 26 = .ok (.istore_n 2, 1) := by decide +kernel
theorem dX5_text_27 : decode cX5_text 27 = .ok (.iload_n 2, 1) := by decide +kernel
theorem dX5_text_28 : decode cX5_text 28 = .ok (.ifCond .eq 26, 3) := by decide +kernel
theorem dX5_text_31 : decode cX5_text 31 = .ok (.aload_n 0, 1) := by decide +kernel
theorem dX5_text_32 : decode cX5_text 32 = .ok (.getfield 217, 3) := by decide +kernel
theorem dX5_text_35 : decode cX5_text 35 = .ok (.iconst 3, 1) := by decide +kernel
theorem dX5_text_36 : decode cX5_text 36 = .ok (.if_icmp .ne 18, 3) := by decide +kernel
theorem dX5_text_39 : decode cX5_text 39 = .ok (.aload_n 0, 1) := by decide +kernel
theorem dX5_text_40 : decode cX5_text 40 = .ok (.invokevirtual 248, 3) := by decide +kernel
theorem dX5_text_43 : decode cX5_text 43 = .ok (.aload_n 0, 1) := by decide +kernel
theorem dX5_text_44 : decode cX5_text 44 = .ok (.invokevirtual 270, 3) := by decide +kernel
theorem dX5_text_47 : decode cX5_text 47 = .ok (.istore_n 2, 1) := by decide +kernel
theorem dX5_text_48 : decode cX5_text 48 = .ok (.iinc 1 1, 3) := by decide +kernel
theorem dX5_text_51 : decode cX5_text 51 = .ok (.goto (-24), 3) := by decide +kernel
theorem dX5_text_54 : decode cX5_text 54 = .ok (.iload_n 2, 1) := by decide +kernel
theorem dX5_text_55 : decode cX5_text 55 = .ok (.ifCond .eq 21, 3) := by decide +kernel
theorem dX5_text_58 : decode cX5_text 58 = .ok (.aload_n 0, 1) := by decide +kernel
theorem dX5_text_59 : decode cX5_text 59 = .ok (.getfield 217, 3) := by decide +kernel
theorem dX5_text_62 : decode cX5_text 62 = .ok (.ifCond .eq 10, 3) := by decide +kernel
theorem dX5_text_65 : decode cX5_text 65 = .ok (.aload_n 0, 1) := by decide +kernel
theorem dX5_text_66 : decode cX5_text 66 = .ok (.invokevirtual 233, 3) := by decide +kernel
theorem dX5_text_69 : decode cX5_text 69 = .ok (.ifCond .eq 7, 3) := by decide +kernel
theorem dX5_text_72 : decode cX5_text 72 = .ok (.iconst 1, 1) := by decide +kernel
theorem dX5_text_73 : decode cX5_text 73 = .ok (.goto 4, 3) := by decide +kernel
theorem dX5_text_76 : decode cX5_text 76 = .ok (.iconst 0, 1) := by decide +kernel
theorem dX5_text_77 : decode cX5_text 77 = .ok (.istore_n 2, 1) := by decide +kernel
theorem dX5_text_78 : decode cX5_text 78 = .ok (.aload_n 0, 1) := by decide +kernel
theorem dX5_text_79 : decode cX5_text 79 = .ok (.iconst 0, 1) := by decide +kernel
theorem dX5_text_80 : decode cX5_text 80 = .ok (.putfield 199, 3) := by decide +kernel
theorem dX5_text_83 : decode cX5_text 83 = .ok (.iload_n 2, 1) := by decide +kernel
theorem dX5_text_84 : decode cX5_text 84 = .ok (.ifCond .ne 14, 3) := by decide +kernel
theorem dX5_text_87 : decode cX5_text 87 = .ok (.aload_n 0, 1) := by decide +kernel
theorem dX5_text_88 : decode cX5_text 88 = .ok (.getfield 16, 3) := by decide +kernel
theorem dX5_text_91 : decode cX5_text 91 = .ok (.aload_n 0, 1) := by decide +kernel
theorem dX5_text_92 : decode cX5_text 92 = .ok (.getfield 7, 3) := by decide +kernel
theorem dX5_text_95 : decode cX5_text 95 = .ok (.invokestatic 150, 3) := by decide +kernel
theorem dX5_text_98 : decode cX5_text 98 = .ok (.iload_n 2, 1) := by decide +kernel
theorem dX5_text_99 : decode cX5_text 99 = .ok (.ifCond .eq 7, 3) := by decide +kernel
theorem dX5_text_102 : decode cX5_text 102 = .ok (.iload_n 1, 1) := by decide +kernel
theorem dX5_text_103 : decode cX5_text 103 = .ok (.goto 9, 3) := by decide +kernel
theorem dX5_text_106 : decode cX5_text 106 = .ok (.iconst (-1), 1) := by decide +kernel
theorem dX5_text_107 : decode cX5_text 107 = .ok (.aload_n 0, 1) := by decide +kernel
theorem dX5_text_108 : decode cX5_text 108 = .ok (.getfield 223, 3) := by decide +kernel
theorem dX5_text_111 : decode cX5_text 111 = .ok (.isub, 1) := by decide +kernel
theorem dX5_text_112 : decode cX5_text 112 = .ok (.ireturn, 1) := by decide +kernel
set_option maxRecDepth 20000 in
theorem ggX5_hold_X5_isIn : GoodIn wsX5_hold wsX5_isIn := goodIn_r _ [7] (by decide +kernel) (by decide +kernel)
set_option maxRecDepth 20000 in
theorem gX5_hold_X5_isIn : GoodIn wsX5_hold (va_wsS RX5 45 yX5_isIn wsX5_isIn) := goodIn_app (goodIn_of _ (by decide +kernel)) ggX5_hold_X5_isIn
set_option maxRecDepth 20000 in
theorem ggX5_hold_X5_isOne : GoodIn wsX5_hold wsX5_isOne := goodIn_r _ [11, 3, 17, 18, 19, 20, 21, 22, 23, 24, 25, 26, 27, 28, 29, 30, 31, 32, 33, 34] (by decide +kernel) (by decide +kernel)
set_option maxRecDepth 20000 in
theorem gX5_hold_X5_isOne : GoodIn wsX5_hold (wsV RX5 78 RX5 yX5_isOne wsX5_isOne) := goodIn_app (goodIn_of _ (by decide +kernel)) ggX5_hold_X5_isOne
set_option maxRecDepth 20000 in
theorem ggX5_hold_X5_finds : GoodIn wsX5_hold wsX5_finds := goodIn_r _ [15, 16, 2, 17, 18, 19, 20, 21, 22, 23, 24, 25, 26, 27, 28, 29, 30, 31, 32, 33, 34] (by decide +kernel) (by decide +kernel)
set_option maxRecDepth 20000 in
theorem gX5_hold_X5_finds : GoodIn wsX5_hold (wsV RX5 39 RX5 yX5_finds wsX5_finds) := goodIn_app (goodIn_of _ (by decide +kernel)) ggX5_hold_X5_finds
theorem dX5_hold_0 : decode cX5_hold 0 = .ok (.iload_n 1, 1) := by decide +kernel
theorem dX5_hold_1 : decode cX5_hold 1 = .ok (.i2l, 1) := by decide +kernel
theorem dX5_hold_2 : decode cX5_hold 2 = .ok (.lconst 0, 1) := by decide +kernel
theorem dX5_hold_3 : decode cX5_hold 3 = .ok (.ldc2_w 43, 3) := by decide +kernel
theorem dX5_hold_6 : decode cX5_hold 6 = .ok (.invokestatic 45, 3) := by decide +kernel
theorem dX5_hold_9 : decode cX5_hold 9 = .ok (.ifCond .eq 16, 3) := by decide +kernel
theorem dX5_hold_12 : decode cX5_hold 12 = .ok (.iload_n 2, 1) := by decide +kernel
theorem dX5_hold_13 : decode cX5_hold 13 = .ok (.iconst (-1), 1) := by decide +kernel
theorem dX5_hold_14 : decode cX5_hold 14 = .ok (.if_icmp .eq 18, 3) := by decide +kernel
theorem dX5_hold_17 : decode cX5_hold 17 = .ok (.aload_n 0, 1) := by decide +kernel
theorem dX5_hold_18 : decode cX5_hold 18 = .ok (.iload_n 2, 1) := by decide +kernel
theorem dX5_hold_19 : decode cX5_hold 19 = .ok (.invokevirtual 78, 3) := by decide +kernel
theorem dX5_hold_22 : decode cX5_hold 22 = .ok (.ifCond .ne 10, 3) := by decide +kernel
theorem dX5_hold_25 : decode cX5_hold 25 = .ok (.aload_n 0, 1) := by decide +kernel
theorem dX5_hold_26 : decode cX5_hold 26 = .ok (.ldc 37, 2) := by decide +kernel
theorem dX5_hold_28 : decode cX5_hold 28 = .ok (.invokevirtual 39, 3) := by decide +kernel
theorem dX5_hold_31 : decode cX5_hold 31 = .ok (.ireturn, 1) := by decide +kernel
theorem dX5_hold_32 : decode cX5_hold 32 = .ok (.aload_n 0, 1) := by decide +kernel
theorem dX5_hold_33 : decode cX5_hold 33 = .ok (.getfield 7, 3) := by decide +kernel
theorem dX5_hold_36 : decode cX5_hold 36 = .ok (.bipush 90, 2) := by decide +kernel
theorem dX5_hold_38 : decode cX5_hold 38 = .ok (.iload_n 1, 1) := by decide +kernel
theorem dX5_hold_39 : decode cX5_hold 39 = .ok (.iadd, 1) := by decide +kernel
theorem dX5_hold_40 : decode cX5_hold 40 = .ok (.iload_n 2, 1) := by decide +kernel
theorem dX5_hold_41 : decode cX5_hold 41 = .ok (.iastore, 1) := by decide +kernel
theorem dX5_hold_42 : decode cX5_hold 42 = .ok (.iconst 1, 1) := by decide +kernel
theorem dX5_hold_43 : decode cX5_hold 43 = .ok (.ireturn, 1) := by decide +kernel
theorem dX5_isUnder_0 : decode cX5_isUnder 0 = .ok (.iload_n 1, 1) := by decide +kernel
theorem dX5_isUnder_1 : decode cX5_isUnder 1 = .ok (.ifCond .eq 44, 3) := by decide +kernel
theorem dX5_isUnder_4 : decode cX5_isUnder 4 = .ok (.iload_n 0, 1) := by decide +kernel
theorem dX5_isUnder_5 : decode cX5_isUnder 5 = .ok (.iload_n 1, 1) := by decide +kernel
theorem dX5_isUnder_6 : decode cX5_isUnder 6 = .ok (.if_icmp .eq 39, 3) := by decide +kernel
theorem dX5_isUnder_9 : decode cX5_isUnder 9 = .ok (.iload_n 1, 1) := by decide +kernel
theorem dX5_isUnder_10 : decode cX5_isUnder 10 = .ok (.iconst 2, 1) := by decide +kernel
theorem dX5_isUnder_11 : decode cX5_isUnder 11 = .ok (.if_icmp .ne 13, 3) := by decide +kernel
theorem dX5_isUnder_14 : decode cX5_isUnder 14 = .ok (.iload_n 0, 1) := by decide +kernel
theorem dX5_isUnder_15 : decode cX5_isUnder 15 = .ok (.iconst 3, 1) := by decide +kernel
theorem dX5_isUnder_16 : decode cX5_isUnder 16 = .ok (.if_icmp .eq 29, 3) := by decide +kernel
theorem dX5_isUnder_19 : decode cX5_isUnder 19 = .ok (.iload_n 0, 1) := by decide +kernel
theorem dX5_isUnder_20 : decode cX5_isUnder 20 = .ok (.iconst 4, 1) := by decide +kernel
theorem dX5_isUnder_21 : decode cX5_isUnder 21 = .ok (.if_icmp .eq 24, 3) := by decide +kernel
theorem dX5_isUnder_24 : decode cX5_isUnder 24 = .ok (.iload_n 1, 1) := by decide +kernel
theorem dX5_isUnder_25 : decode cX5_isUnder 25 = .ok (.iconst 3, 1) := by decide +kernel
theorem dX5_isUnder_26 : decode cX5_isUnder 26 = .ok (.if_icmp .ne 8, 3) := by decide +kernel
theorem dX5_isUnder_29 : decode cX5_isUnder 29 = .ok (.iload_n 0, 1) := by decide +kernel
theorem dX5_isUnder_30 : decode cX5_isUnder 30 = .ok (.iconst 4, 1) := by decide +kernel
theorem dX5_isUnder_31 : decode cX5_isUnder 31 = .ok (.if_icmp .eq 14, 3) := by decide +kernel
theorem dX5_isUnder_34 : decode cX5_isUnder 34 = .ok (.iload_n 1, 1) := by decide +kernel
theorem dX5_isUnder_35 : decode cX5_isUnder 35 = .ok (.iconst 1, 1) := by decide +kernel
theorem dX5_isUnder_36 : decode cX5_isUnder 36 = .ok (.if_icmp .ne 13, 3) := by decide +kernel
theorem dX5_isUnder_39 : decode cX5_isUnder 39 = .ok (.iload_n 0, 1) := by decide +kernel
theorem dX5_isUnder_40 : decode cX5_isUnder 40 = .ok (.bipush 6, 2) := by decide +kernel
theorem dX5_isUnder_42 : decode cX5_isUnder 42 = .ok (.if_icmp .ne 7, 3) := by decide +kernel
theorem dX5_isUnder_45 : decode cX5_isUnder 45 = .ok (.iconst 1, 1) := by decide +kernel
theorem dX5_isUnder_46 : decode cX5_isUnder 46 = .ok (.goto 4, 3) := by decide +kernel
theorem dX5_isUnder_49 : decode cX5_isUnder 49 = .ok (.iconst 0, 1) := by decide +kernel
theorem dX5_isUnder_50 : decode cX5_isUnder 50 = .ok (.ireturn, 1) := by decide +kernel
set_option maxRecDepth 20000 in
theorem ggX5_as_X5_isIn : GoodIn wsX5_as wsX5_isIn := goodIn_r _ [10] (by decide +kernel) (by decide +kernel)
set_option maxRecDepth 20000 in
theorem gX5_as_X5_isIn : GoodIn wsX5_as (va_wsS RX5 45 yX5_isIn wsX5_isIn) := goodIn_app (goodIn_of _ (by decide +kernel)) ggX5_as_X5_isIn
set_option maxRecDepth 20000 in
theorem ggX5_as_X5_finds : GoodIn wsX5_as wsX5_finds := goodIn_r _ [14, 15, 3, 23, 24, 25, 26, 27, 28, 29, 30, 31, 32, 33, 34, 35, 36, 37, 38, 39, 40] (by decide +kernel) (by decide +kernel)
set_option maxRecDepth 20000 in
theorem gX5_as_X5_finds : GoodIn wsX5_as (wsV RX5 39 RX5 yX5_finds wsX5_finds) := goodIn_app (goodIn_of _ (by decide +kernel)) ggX5_as_X5_finds
set_option maxRecDepth 20000 in
theorem ggX5_as_X5_its : GoodIn wsX5_as wsX5_its := goodIn_r _ [19, 4, 23, 24, 25, 26, 27, 28, 29, 30, 31, 32, 33, 34, 35, 36, 37, 38, 39, 40] (by decide +kernel) (by decide +kernel)
set_option maxRecDepth 20000 in
theorem gX5_as_X5_its : GoodIn wsX5_as (wsV RX5 69 RX5 yX5_its wsX5_its) := goodIn_app (goodIn_of _ (by decide +kernel)) ggX5_as_X5_its
set_option maxRecDepth 20000 in
theorem ggX5_as_X5_isUnder : GoodIn wsX5_as wsX5_isUnder := goodIn_r _ [22] (by decide +kernel) (by decide +kernel)
set_option maxRecDepth 20000 in
theorem gX5_as_X5_isUnder : GoodIn wsX5_as (va_wsS RX5 274 yX5_isUnder wsX5_isUnder) := goodIn_app (goodIn_of _ (by decide +kernel)) ggX5_as_X5_isUnder
theorem dX5_as_0 : decode cX5_as 0 = .ok (.iload_n 1, 1) := by decide +kernel
theorem dX5_as_1 : decode cX5_as 1 = .ok (.i2l, 1) := by decide +kernel
theorem dX5_as_2 : decode cX5_as 2 = .ok (.lconst 0, 1) := by decide +kernel
theorem dX5_as_3 : decode cX5_as 3 = .ok (.ldc2_w 43, 3) := by decide +kernel
theorem dX5_as_6 : decode cX5_as 6 = .ok (.invokestatic 45, 3) := by decide +kernel
theorem dX5_as_9 : decode cX5_as 9 = .ok (.ifCond .eq 15, 3) := by decide +kernel
theorem dX5_as_12 : decode cX5_as 12 = .ok (.iload_n 2, 1) := by decide +kernel
theorem dX5_as_13 : decode cX5_as 13 = .ok (.i2l, 1) := by decide +kernel
theorem dX5_as_14 : decode cX5_as 14 = .ok (.lconst 0, 1) := by decide +kernel
theorem dX5_as_15 : decode cX5_as 15 = .ok (.ldc2_w 62, 3) := by decide +kernel
theorem dX5_as_18 : decode cX5_as 18 = .ok (.invokestatic 45, 3) := by decide +kernel
theorem dX5_as_21 : decode cX5_as 21 = .ok (.ifCond .ne 10, 3) := by decide +kernel
theorem dX5_as_24 : decode cX5_as 24 = .ok (.aload_n 0, 1) := by decide +kernel
theorem dX5_as_25 : decode cX5_as 25 = .ok (.ldc 37, 2) := by decide +kernel
theorem dX5_as_27 : decode cX5_as 27 = .ok (.invokevirtual 39, 3) := by decide +kernel
theorem dX5_as_30 : decode cX5_as 30 = .ok (.ireturn, 1) := by decide +kernel
theorem dX5_as_31 : decode cX5_as 31 = .ok (.aload_n 0, 1) := by decide +kernel
theorem dX5_as_32 : decode cX5_as 32 = .ok (.getfield 7, 3) := by decide +kernel
theorem dX5_as_35 : decode cX5_as 35 = .ok (.bipush 90, 2) := by decide +kernel
theorem dX5_as_37 : decode cX5_as 37 = .ok (.iload_n 1, 1) := by decide +kernel
theorem dX5_as_38 : decode cX5_as 38 = .ok (.iadd, 1) := by decide +kernel
theorem dX5_as_39 : decode cX5_as 39 = .ok (.iaload, 1) := by decide +kernel
theorem dX5_as_40 : decode cX5_as 40 = .ok (.istore_n 3, 1) := by decide +kernel
theorem dX5_as_41 : decode cX5_as 41 = .ok (.iload_n 3, 1) := by decide +kernel
theorem dX5_as_42 : decode cX5_as 42 = .ok (.ifCond .ge 11, 3) := by decide +kernel
theorem dX5_as_45 : decode cX5_as 45 = .ok (.aload_n 0, 1) := by decide +kernel
theorem dX5_as_46 : decode cX5_as 46 = .ok (.ldc_w 273, 3) := by decide +kernel
theorem dX5_as_49 : decode cX5_as 49 = .ok (.invokevirtual 39, 3) := by decide +kernel
theorem dX5_as_52 : decode cX5_as 52 = .ok (.ireturn, 1) := by decide +kernel
theorem dX5_as_53 : decode cX5_as 53 = .ok (.aload_n 0, 1) := by decide +kernel
theorem dX5_as_54 : decode cX5_as 54 = .ok (.iload_n 3, 1) := by decide +kernel
theorem dX5_as_55 : decode cX5_as 55 = .ok (.iconst 0, 1) := by decide +kernel
theorem dX5_as_56 : decode cX5_as 56 = .ok (.invokevirtual 69, 3) := by decide +kernel
theorem dX5_as_59 : decode cX5_as 59 = .ok (.iload_n 2, 1) := by decide +kernel
theorem dX5_as_60 : decode cX5_as 60 = .ok (.invokestatic 274, 3) := by decide +kernel
theorem dX5_as_63 : decode cX5_as 63 = .ok (.ifCond .eq 7, 3) := by decide +kernel
theorem dX5_as_66 : decode cX5_as 66 = .ok (.iload_n 3, 1) := by decide +kernel
theorem dX5_as_67 : decode cX5_as 67 = .ok (.goto 10, 3) := by decide +kernel
theorem dX5_as_70 : decode cX5_as 70 = .ok (.aload_n 0, 1) := by decide +kernel
theorem dX5_as_71 : decode cX5_as 71 = .ok (.ldc_w 277, 3) := by decide +kernel
theorem dX5_as_74 : decode cX5_as 74 = .ok (.invokevirtual 39, 3) := by decide +kernel
theorem dX5_as_77 : decode cX5_as 77 = .ok (.ireturn, 1) := by decide +kernel
theorem dX5_isSheet_0 : decode cX5_isSheet 0 = .ok (.iload_n 0, 1) := by decide +kernel
theorem dX5_isSheet_1 : decode cX5_isSheet 1 = .ok (.ifCond .lt 12, 3) := by decide +kernel
theorem dX5_isSheet_4 : decode cX5_isSheet 4 = .ok (.iload_n 0, 1) := by decide +kernel
theorem dX5_isSheet_5 : decode cX5_isSheet 5 = .ok (.iconst 4, 1) := by decide +kernel
theorem dX5_isSheet_6 : decode cX5_isSheet 6 = .ok (.if_icmp .ge 7, 3) := by decide +kernel
theorem dX5_isSheet_9 : decode cX5_isSheet 9 = .ok (.iconst 1, 1) := by decide +kernel
theorem dX5_isSheet_10 : decode cX5_isSheet 10 = .ok (.goto 4, 3) := by decide +kernel
theorem dX5_isSheet_13 : decode cX5_isSheet 13 = .ok (.iconst 0, 1) := by decide +kernel
theorem dX5_isSheet_14 : decode cX5_isSheet 14 = .ok (.ireturn, 1) := by decide +kernel
set_option maxRecDepth 20000 in
theorem ggX5_sheet_X5_isSheet : GoodIn wsX5_sheet wsX5_isSheet := goodIn_r _ [9] (by decide +kernel) (by decide +kernel)
set_option maxRecDepth 20000 in
theorem gX5_sheet_X5_isSheet : GoodIn wsX5_sheet (va_wsS RX5 278 yX5_isSheet wsX5_isSheet) := goodIn_app (goodIn_of _ (by decide +kernel)) ggX5_sheet_X5_isSheet
set_option maxRecDepth 20000 in
theorem ggX5_sheet_X5_finds : GoodIn wsX5_sheet wsX5_finds := goodIn_r _ [13, 14, 1, 15, 16, 17, 18, 19, 20, 21, 22, 23, 24, 25, 26, 27, 28, 29, 30, 31, 32] (by decide +kernel) (by decide +kernel)
set_option maxRecDepth 20000 in
theorem gX5_sheet_X5_finds : GoodIn wsX5_sheet (wsV RX5 39 RX5 yX5_finds wsX5_finds) := goodIn_app (goodIn_of _ (by decide +kernel)) ggX5_sheet_X5_finds
theorem dX5_sheet_0 : decode cX5_sheet 0 = .ok (.iload_n 1, 1) := by decide +kernel
theorem dX5_sheet_1 : decode cX5_sheet 1 = .ok (.invokestatic 278, 3) := by decide +kernel
theorem dX5_sheet_4 : decode cX5_sheet 4 = .ok (.ifCond .eq 25, 3) := by decide +kernel
theorem dX5_sheet_7 : decode cX5_sheet 7 = .ok (.iload_n 2, 1) := by decide +kernel
theorem dX5_sheet_8 : decode cX5_sheet 8 = .ok (.ifCond .eq 28, 3) := by decide +kernel
theorem dX5_sheet_11 : decode cX5_sheet 11 = .ok (.iload_n 2, 1) := by decide +kernel
theorem dX5_sheet_12 : decode cX5_sheet 12 = .ok (.bipush 8, 2) := by decide +kernel
theorem dX5_sheet_14 : decode cX5_sheet 14 = .ok (.if_icmp .eq 22, 3) := by decide +kernel
theorem dX5_sheet_17 : decode cX5_sheet 17 = .ok (.iload_n 2, 1) := by decide +kernel
theorem dX5_sheet_18 : decode cX5_sheet 18 = .ok (.bipush 16, 2) := by decide +kernel
theorem dX5_sheet_20 : decode cX5_sheet 20 = .ok (.if_icmp .eq 16, 3) := by decide +kernel
theorem dX5_sheet_23 : decode cX5_sheet 23 = .ok (.iload_n 2, 1) := by decide +kernel
theorem dX5_sheet_24 : decode cX5_sheet 24 = .ok (.bipush 32, 2) := by decide +kernel
theorem dX5_sheet_26 : decode cX5_sheet 26 = .ok (.if_icmp .eq 10, 3) := by decide +kernel
theorem dX5_sheet_29 : decode cX5_sheet 29 = .ok (.aload_n 0, 1) := by decide +kernel
theorem dX5_sheet_30 : decode cX5_sheet 30 = .ok (.ldc 37, 2) := by decide +kernel
theorem dX5_sheet_32 : decode cX5_sheet 32 = .ok (.invokevirtual 39, 3) := by decide +kernel
theorem dX5_sheet_35 : decode cX5_sheet 35 = .ok (.ireturn, 1) := by decide +kernel
theorem dX5_sheet_36 : decode cX5_sheet 36 = .ok (.iload_n 3, 1) := by decide +kernel
theorem dX5_sheet_37 : decode cX5_sheet 37 = .ok (.ifCond .ge 11, 3) := by decide +kernel
theorem dX5_sheet_40 : decode cX5_sheet 40 = .ok (.aload_n 0, 1) := by decide +kernel
theorem dX5_sheet_41 : decode cX5_sheet 41 = .ok (.ldc_w 281, 3) := by decide +kernel
theorem dX5_sheet_44 : decode cX5_sheet 44 = .ok (.invokevirtual 39, 3) := by decide +kernel
theorem dX5_sheet_47 : decode cX5_sheet 47 = .ok (.ireturn, 1) := by decide +kernel
theorem dX5_sheet_48 : decode cX5_sheet 48 = .ok (.iload_n 3, 1) := by decide +kernel
theorem dX5_sheet_49 : decode cX5_sheet 49 = .ok (.bipush 40, 2) := by decide +kernel
theorem dX5_sheet_51 : decode cX5_sheet 51 = .ok (.if_icmp .le 10, 3) := by decide +kernel
theorem dX5_sheet_54 : decode cX5_sheet 54 = .ok (.aload_n 0, 1) := by decide +kernel
theorem dX5_sheet_55 : decode cX5_sheet 55 = .ok (.ldc 37, 2) := by decide +kernel
theorem dX5_sheet_57 : decode cX5_sheet 57 = .ok (.invokevirtual 39, 3) := by decide +kernel
theorem dX5_sheet_60 : decode cX5_sheet 60 = .ok (.ireturn, 1) := by decide +kernel
theorem dX5_sheet_61 : decode cX5_sheet 61 = .ok (.aload_n 0, 1) := by decide +kernel
theorem dX5_sheet_62 : decode cX5_sheet 62 = .ok (.getfield 28, 3) := by decide +kernel
theorem dX5_sheet_65 : decode cX5_sheet 65 = .ok (.iload_n 1, 1) := by decide +kernel
theorem dX5_sheet_66 : decode cX5_sheet 66 = .ok (.iload_n 2, 1) := by decide +kernel
theorem dX5_sheet_67 : decode cX5_sheet 67 = .ok (.ifCond .ne 7, 3) := by decide +kernel
theorem dX5_sheet_70 : decode cX5_sheet 70 = .ok (.iconst (-1), 1) := by decide +kernel
theorem dX5_sheet_71 : decode cX5_sheet 71 = .ok (.goto 4, 3) := by decide +kernel
theorem dX5_sheet_74 : decode cX5_sheet 74 = .ok (.iload_n 2, 1) := by decide +kernel
theorem dX5_sheet_75 : decode cX5_sheet 75 = .ok (.iastore, 1) := by decide +kernel
theorem dX5_sheet_76 : decode cX5_sheet 76 = .ok (.aload_n 0, 1) := by decide +kernel
theorem dX5_sheet_77 : decode cX5_sheet 77 = .ok (.getfield 31, 3) := by decide +kernel
theorem dX5_sheet_80 : decode cX5_sheet 80 = .ok (.iload_n 1, 1) := by decide +kernel
theorem dX5_sheet_81 : decode cX5_sheet 81 = .ok (.iload_n 2, 1) := by decide +kernel
theorem dX5_sheet_82 : decode cX5_sheet 82 = .ok (.ifCond .ne 7, 3) := by decide +kernel
theorem dX5_sheet_85 : decode cX5_sheet 85 = .ok (.iconst 0, 1) := by decide +kernel
theorem dX5_sheet_86 : decode cX5_sheet 86 = .ok (.goto 4, 3) := by decide +kernel
theorem dX5_sheet_89 : decode cX5_sheet 89 = .ok (.iload_n 3, 1) := by decide +kernel
theorem dX5_sheet_90 : decode cX5_sheet 90 = .ok (.iastore, 1) := by decide +kernel
theorem dX5_sheet_91 : decode cX5_sheet 91 = .ok (.iconst 0, 1) := by decide +kernel
theorem dX5_sheet_92 : decode cX5_sheet 92 = .ok (.istore 4, 2) := by decide +kernel
theorem dX5_sheet_94 : decode cX5_sheet 94 = .ok (.iload 4, 2) := by decide +kernel
theorem dX5_sheet_96 : decode cX5_sheet 96 = .ok (.bipush 40, 2) := by decide +kernel
theorem dX5_sheet_98 : decode cX5_sheet 98 = .ok (.if_icmp .ge 22, 3) := by decide +kernel
theorem dX5_sheet_101 : decode cX5_sheet 101 = .ok (.aload_n 0, 1) := by decide +kernel
theorem dX5_sheet_102 : decode cX5_sheet 102 = .ok (.getfield 34, 3) := by decide +kernel
theorem dX5_sheet_105 : decode cX5_sheet 105 = .ok (.bipush 40, 2) := by decide +kernel
theorem dX5_sheet_107 : decode cX5_sheet 107 = .ok (.iload_n 1, 1) := by decide +kernel
theorem dX5_sheet_108 : decode cX5_sheet 108 = .ok (.imul, 1) := by decide +kernel
theorem dX5_sheet_109 : decode cX5_sheet 109 = .ok (.iload 4, 2) := by decide +kernel
theorem dX5_sheet_111 : decode cX5_sheet 111 = .ok (.iadd, 1) := by decide +kernel
theorem dX5_sheet_112 : decode cX5_sheet 112 = .ok (.iconst 0, 1) := by decide +kernel
theorem dX5_sheet_113 : decode cX5_sheet 113 = .ok (.iastore, 1) := by decide +kernel
theorem dX5_sheet_114 : decode cX5_sheet 114 = .ok (.iinc 4 1, 3) := by decide +kernel
theorem dX5_sheet_117 : decode cX5_sheet 117 = .ok (.goto (-23), 3) := by decide +kernel
theorem dX5_sheet_120 : decode cX5_sheet 120 = .ok (.aload_n 0, 1) := by decide +kernel
theorem dX5_sheet_121 : decode cX5_sheet 121 = .ok (.getfield 31, 3) := by decide +kernel
theorem dX5_sheet_124 : decode cX5_sheet 124 = .ok (.iload_n 1, 1) := by decide +kernel
theorem dX5_sheet_125 : decode cX5_sheet 125 = .ok (.iaload, 1) := by decide +kernel
theorem dX5_sheet_126 : decode cX5_sheet 126 = .ok (.ireturn, 1) := by decide +kernel
set_option maxRecDepth 20000 in
theorem ggX5_write_X5_isSheet : GoodIn wsX5_write wsX5_isSheet := goodIn_r _ [9] (by decide +kernel) (by decide +kernel)
set_option maxRecDepth 20000 in
theorem gX5_write_X5_isSheet : GoodIn wsX5_write (va_wsS RX5 278 yX5_isSheet wsX5_isSheet) := goodIn_app (goodIn_of _ (by decide +kernel)) ggX5_write_X5_isSheet
set_option maxRecDepth 20000 in
theorem ggX5_write_X5_finds : GoodIn wsX5_write wsX5_finds := goodIn_r _ [13, 14, 1, 18, 19, 20, 21, 22, 23, 24, 25, 26, 27, 28, 29, 30, 31, 32, 33, 34, 35] (by decide +kernel) (by decide +kernel)
set_option maxRecDepth 20000 in
theorem gX5_write_X5_finds : GoodIn wsX5_write (wsV RX5 39 RX5 yX5_finds wsX5_finds) := goodIn_app (goodIn_of _ (by decide +kernel)) ggX5_write_X5_finds
set_option maxRecDepth 20000 in
theorem ggX5_write_X5_isIn : GoodIn wsX5_write wsX5_isIn := goodIn_r _ [17] (by decide +kernel) (by decide +kernel)
set_option maxRecDepth 20000 in
theorem gX5_write_X5_isIn : GoodIn wsX5_write (va_wsS RX5 45 yX5_isIn wsX5_isIn) := goodIn_app (goodIn_of _ (by decide +kernel)) ggX5_write_X5_isIn
theorem dX5_write_0 : decode cX5_write 0 = .ok (.iload_n 1, 1) := by decide +kernel
theorem dX5_write_1 : decode cX5_write 1 = .ok (.invokestatic 278, 3) := by decide +kernel
theorem dX5_write_4 : decode cX5_write 4 = .ok (.ifCond .ne 10, 3) := by decide +kernel
theorem dX5_write_7 : decode cX5_write 7 = .ok (.aload_n 0, 1) := by decide +kernel
theorem dX5_write_8 : decode cX5_write 8 = .ok (.ldc 37, 2) := by decide +kernel
theorem dX5_write_10 : decode cX5_write 10 = .ok (.invokevirtual 39, 3) := by decide +kernel
theorem dX5_write_13 : decode cX5_write 13 = .ok (.ireturn, 1) := by decide +kernel
theorem dX5_write_14 : decode cX5_write 14 = .ok (.aload_n 0, 1) := by decide +kernel
theorem dX5_write_15 : decode cX5_write 15 = .ok (.getfield 28, 3) := by decide +kernel
theorem dX5_write_18 : decode cX5_write 18 = .ok (.iload_n 1, 1) := by decide +kernel
theorem dX5_write_19 : decode cX5_write 19 = .ok (.iaload, 1) := by decide +kernel
theorem dX5_write_20 : decode cX5_write 20 = .ok (.ifCond .ge 11, 3) := by decide +kernel
theorem dX5_write_23 : decode cX5_write 23 = .ok (.aload_n 0, 1) := by decide +kernel
theorem dX5_write_24 : decode cX5_write 24 = .ok (.ldc_w 273, 3) := by decide +kernel
theorem dX5_write_27 : decode cX5_write 27 = .ok (.invokevirtual 39, 3) := by decide +kernel
theorem dX5_write_30 : decode cX5_write 30 = .ok (.ireturn, 1) := by decide +kernel
theorem dX5_write_31 : decode cX5_write 31 = .ok (.iload_n 2, 1) := by decide +kernel
theorem dX5_write_32 : decode cX5_write 32 = .ok (.i2l, 1) := by decide +kernel
theorem dX5_write_33 : decode cX5_write 33 = .ok (.lconst 0, 1) := by decide +kernel
theorem dX5_write_34 : decode cX5_write 34 = .ok (.aload_n 0, 1) := by decide +kernel
theorem dX5_write_35 : decode cX5_write 35 = .ok (.getfield 31, 3) := by decide +kernel
theorem dX5_write_38 : decode cX5_write 38 = .ok (.iload_n 1, 1) := by decide +kernel
theorem dX5_write_39 : decode cX5_write 39 = .ok (.iaload, 1) := by decide +kernel
theorem dX5_write_40 : decode cX5_write 40 = .ok (.iconst 1, 1) := by decide +kernel
theorem dX5_write_41 : decode cX5_write 41 = .ok (.isub, 1) := by decide +kernel
theorem dX5_write_42 : decode cX5_write 42 = .ok (.i2l, 1) := by decide +kernel
theorem dX5_write_43 : decode cX5_write 43 = .ok (.invokestatic 45, 3) := by decide +kernel
theorem dX5_write_46 : decode cX5_write 46 = .ok (.ifCond .ne 10, 3) := by decide +kernel
theorem dX5_write_49 : decode cX5_write 49 = .ok (.aload_n 0, 1) := by decide +kernel
theorem dX5_write_50 : decode cX5_write 50 = .ok (.ldc 37, 2) := by decide +kernel
theorem dX5_write_52 : decode cX5_write 52 = .ok (.invokevirtual 39, 3) := by decide +kernel
theorem dX5_write_55 : decode cX5_write 55 = .ok (.ireturn, 1) := by decide +kernel
theorem dX5_write_56 : decode cX5_write 56 = .ok (.aload_n 0, 1) := by decide +kernel
theorem dX5_write_57 : decode cX5_write 57 = .ok (.getfield 34, 3) := by decide +kernel
theorem dX5_write_60 : decode cX5_write 60 = .ok (.bipush 40, 2) := by decide +kernel
theorem dX5_write_62 : decode cX5_write 62 = .ok (.iload_n 1, 1) := by decide +kernel
theorem dX5_write_63 : decode cX5_write 63 = .ok (.imul, 1) := by decide +kernel
theorem dX5_write_64 : decode cX5_write 64 = .ok (.iload_n 2, 1) := by decide +kernel
theorem dX5_write_65 : decode cX5_write 65 = .ok (.iadd, 1) := by decide +kernel
theorem dX5_write_66 : decode cX5_write 66 = .ok (.aload_n 0, 1) := by decide +kernel
theorem dX5_write_67 : decode cX5_write 67 = .ok (.getfield 28, 3) := by decide +kernel
theorem dX5_write_70 : decode cX5_write 70 = .ok (.iload_n 1, 1) := by decide +kernel
theorem dX5_write_71 : decode cX5_write 71 = .ok (.iaload, 1) := by decide +kernel
theorem dX5_write_72 : decode cX5_write 72 = .ok (.bipush 8, 2) := by decide +kernel
theorem dX5_write_74 : decode cX5_write 74 = .ok (.if_icmp .ne 8, 3) := by decide +kernel
theorem dX5_write_77 : decode cX5_write 77 = .ok (.iload_n 3, 1) := by decide +kernel
theorem dX5_write_78 : decode cX5_write 78 = .ok (.i2b, 1) := by decide +kernel
theorem dX5_write_79 : decode cX5_write 79 = .ok (.goto 20, 3) := by decide +kernel
theorem dX5_write_82 : decode cX5_write 82 = .ok (.aload_n 0, 1) := by decide +kernel
theorem dX5_write_83 : decode cX5_write 83 = .ok (.getfield 28, 3) := by decide +kernel
theorem dX5_write_86 : decode cX5_write 86 = .ok (.iload_n 1, 1) := by decide +kernel
theorem dX5_write_87 : decode cX5_write 87 = .ok (.iaload, 1) := by decide +kernel
theorem dX5_write_88 : decode cX5_write 88 = .ok (.bipush 16, 2) := by decide +kernel
theorem dX5_write_90 : decode cX5_write 90 = .ok (.if_icmp .ne 8, 3) := by decide +kernel
theorem dX5_write_93 : decode cX5_write 93 = .ok (.iload_n 3, 1) := by decide +kernel
theorem dX5_write_94 : decode cX5_write 94 = .ok (.i2s, 1) := by decide +kernel
theorem dX5_write_95 : decode cX5_write 95 = .ok (.goto 4, 3) := by decide +kernel
theorem dX5_write_98 : decode cX5_write 98 = .ok (.iload_n 3, 1) := by decide +kernel
theorem dX5_write_99 : decode cX5_write 99 = .ok (.iastore, 1) := by decide +kernel
theorem dX5_write_100 : decode cX5_write 100 = .ok (.iconst 1, 1) := by decide +kernel
theorem dX5_write_101 : decode cX5_write 101 = .ok (.ireturn, 1) := by decide +kernel
set_option maxRecDepth 20000 in
theorem ggX5_copy_X5_isSheet : GoodIn wsX5_copy wsX5_isSheet := goodIn_r _ [10] (by decide +kernel) (by decide +kernel)
set_option maxRecDepth 20000 in
theorem gX5_copy_X5_isSheet : GoodIn wsX5_copy (va_wsS RX5 278 yX5_isSheet wsX5_isSheet) := goodIn_app (goodIn_of _ (by decide +kernel)) ggX5_copy_X5_isSheet
set_option maxRecDepth 20000 in
theorem ggX5_copy_X5_finds : GoodIn wsX5_copy wsX5_finds := goodIn_r _ [14, 15, 1, 16, 17, 18, 19, 20, 21, 22, 23, 24, 25, 26, 27, 28, 29, 30, 31, 32, 33] (by decide +kernel) (by decide +kernel)
set_option maxRecDepth 20000 in
theorem gX5_copy_X5_finds : GoodIn wsX5_copy (wsV RX5 39 RX5 yX5_finds wsX5_finds) := goodIn_app (goodIn_of _ (by decide +kernel)) ggX5_copy_X5_finds
theorem dX5_copy_0 : decode cX5_copy 0 = .ok (.iload_n 1, 1) := by decide +kernel
theorem dX5_copy_1 : decode cX5_copy 1 = .ok (.invokestatic 278, 3) := by decide +kernel
theorem dX5_copy_4 : decode cX5_copy 4 = .ok (.ifCond .eq 10, 3) := by decide +kernel
theorem dX5_copy_7 : decode cX5_copy 7 = .ok (.iload_n 3, 1) := by decide +kernel
theorem dX5_copy_8 : decode cX5_copy 8 = .ok (.invokestatic 278, 3) := by decide +kernel
theorem dX5_copy_11 : decode cX5_copy 11 = .ok (.ifCond .ne 10, 3) := by decide +kernel
theorem dX5_copy_14 : decode cX5_copy 14 = .ok (.aload_n 0, 1) := by decide +kernel
theorem dX5_copy_15 : decode cX5_copy 15 = .ok (.ldc 37, 2) := by decide +kernel
theorem dX5_copy_17 : decode cX5_copy 17 = .ok (.invokevirtual 39, 3) := by decide +kernel
theorem dX5_copy_20 : decode cX5_copy 20 = .ok (.ireturn, 1) := by decide +kernel
theorem dX5_copy_21 : decode cX5_copy 21 = .ok (.aload_n 0, 1) := by decide +kernel
theorem dX5_copy_22 : decode cX5_copy 22 = .ok (.getfield 28, 3) := by decide +kernel
theorem dX5_copy_25 : decode cX5_copy 25 = .ok (.iload_n 1, 1) := by decide +kernel
theorem dX5_copy_26 : decode cX5_copy 26 = .ok (.iaload, 1) := by decide +kernel
theorem dX5_copy_27 : decode cX5_copy 27 = .ok (.ifCond .lt 12, 3) := by decide +kernel
theorem dX5_copy_30 : decode cX5_copy 30 = .ok (.aload_n 0, 1) := by decide +kernel
theorem dX5_copy_31 : decode cX5_copy 31 = .ok (.getfield 28, 3) := by decide +kernel
theorem dX5_copy_34 : decode cX5_copy 34 = .ok (.iload_n 3, 1) := by decide +kernel
theorem dX5_copy_35 : decode cX5_copy 35 = .ok (.iaload, 1) := by decide +kernel
theorem dX5_copy_36 : decode cX5_copy 36 = .ok (.ifCond .ge 11, 3) := by decide +kernel
theorem dX5_copy_39 : decode cX5_copy 39 = .ok (.aload_n 0, 1) := by decide +kernel
theorem dX5_copy_40 : decode cX5_copy 40 = .ok (.ldc_w 273, 3) := by decide +kernel
theorem dX5_copy_43 : decode cX5_copy 43 = .ok (.invokevirtual 39, 3) := by decide +kernel
theorem dX5_copy_46 : decode cX5_copy 46 = .ok (.ireturn, 1) := by decide +kernel
theorem dX5_copy_47 : decode cX5_copy 47 = .ok (.aload_n 0, 1) := by decide +kernel
theorem dX5_copy_48 : decode cX5_copy 48 = .ok (.getfield 28, 3) := by decide +kernel
theorem dX5_copy_51 : decode cX5_copy 51 = .ok (.iload_n 1, 1) := by decide +kernel
theorem dX5_copy_52 : decode cX5_copy 52 = .ok (.iaload, 1) := by decide +kernel
theorem dX5_copy_53 : decode cX5_copy 53 = .ok (.aload_n 0, 1) := by decide +kernel
theorem dX5_copy_54 : decode cX5_copy 54 = .ok (.getfield 28, 3) := by decide +kernel
theorem dX5_copy_57 : decode cX5_copy 57 = .ok (.iload_n 3, 1) := by decide +kernel
theorem dX5_copy_58 : decode cX5_copy 58 = .ok (.iaload, 1) := by decide +kernel
theorem dX5_copy_59 : decode cX5_copy 59 = .ok (.if_icmp .eq 11, 3) := by decide +kernel
theorem dX5_copy_62 : decode cX5_copy 62 = .ok (.aload_n 0, 1) := by decide +kernel
theorem dX5_copy_63 : decode cX5_copy 63 = .ok (.ldc_w 277, 3) := by decide +kernel
theorem dX5_copy_66 : decode cX5_copy 66 = .ok (.invokevirtual 39, 3) := by decide +kernel
theorem dX5_copy_69 : decode cX5_copy 69 = .ok (.ireturn, 1) := by decide +kernel
theorem dX5_copy_70 : decode cX5_copy 70 = .ok (.iload_n 2, 1) := by decide +kernel
theorem dX5_copy_71 : decode cX5_copy 71 = .ok (.ifCond .lt 40, 3) := by decide +kernel
theorem dX5_copy_74 : decode cX5_copy 74 = .ok (.iload 4, 2) := by decide +kernel
theorem dX5_copy_76 : decode cX5_copy 76 = .ok (.ifCond .lt 35, 3) := by decide +kernel
theorem dX5_copy_79 : decode cX5_copy 79 = .ok (.iload 5, 2) := by decide +kernel
theorem dX5_copy_81 : decode cX5_copy 81 = .ok (.ifCond .lt 30, 3) := by decide +kernel
theorem dX5_copy_84 : decode cX5_copy 84 = .ok (.iload 5, 2) := by decide +kernel
theorem dX5_copy_86 : decode cX5_copy 86 = .ok (.aload_n 0, 1) := by decide +kernel
theorem dX5_copy_87 : decode cX5_copy 87 = .ok (.getfield 31, 3) := by decide +kernel
theorem dX5_copy_90 : decode cX5_copy 90 = .ok (.iload_n 1, 1) := by decide +kernel
theorem dX5_copy_91 : decode cX5_copy 91 = .ok (.iaload, 1) := by decide +kernel
theorem dX5_copy_92 : decode cX5_copy 92 = .ok (.iload_n 2, 1) := by decide +kernel
theorem dX5_copy_93 : decode cX5_copy 93 = .ok (.isub, 1) := by decide +kernel
theorem dX5_copy_94 : decode cX5_copy 94 = .ok (.if_icmp .gt 17, 3) := by decide +kernel
theorem dX5_copy_97 : decode cX5_copy 97 = .ok (.iload 5, 2) := by decide +kernel
theorem dX5_copy_99 : decode cX5_copy 99 = .ok (.aload_n 0, 1) := by decide +kernel
theorem dX5_copy_100 : decode cX5_copy 100 = .ok (.getfield 31, 3) := by decide +kernel
theorem dX5_copy_103 : decode cX5_copy 103 = .ok (.iload_n 3, 1) := by decide +kernel
theorem dX5_copy_104 : decode cX5_copy 104 = .ok (.iaload, 1) := by decide +kernel
theorem dX5_copy_105 : decode cX5_copy 105 = .ok (.iload 4, 2) := by decide +kernel
theorem dX5_copy_107 : decode cX5_copy 107 = .ok (.isub, 1) := by decide +kernel
theorem dX5_copy_108 : decode cX5_copy 108 = .ok (.if_icmp .le 10, 3) := by decide +kernel
theorem dX5_copy_111 : decode cX5_copy 111 = .ok (.aload_n 0, 1) := by decide +kernel
theorem dX5_copy_112 : decode cX5_copy 112 = .ok (.ldc 37, 2) := by decide +kernel
theorem dX5_copy_114 : decode cX5_copy 114 = .ok (.invokevirtual 39, 3) := by decide +kernel
theorem dX5_copy_117 : decode cX5_copy 117 = .ok (.ireturn, 1) := by decide +kernel
theorem dX5_copy_118 : decode cX5_copy 118 = .ok (.bipush 40, 2) := by decide +kernel
theorem dX5_copy_120 : decode cX5_copy 120 = .ok (.iload_n 1, 1) := by decide +kernel
theorem dX5_copy_121 : decode cX5_copy 121 = .ok (.imul, 1) := by decide +kernel
theorem dX5_copy_122 : decode cX5_copy 122 = .ok (.iload_n 2, 1) := by decide +kernel
theorem dX5_copy_123 : decode cX5_copy 123 = .ok (.iadd, 1) := by decide +kernel
theorem dX5_copy_124 : decode cX5_copy 124 = .ok (.istore 6, 2) := by decide +kernel
theorem dX5_copy_126 : decode cX5_copy 126 = .ok (.bipush 40, 2) := by decide +kernel
theorem dX5_copy_128 : decode cX5_copy 128 = .ok (.iload_n 3, 1) := by decide +kernel
theorem dX5_copy_129 : decode cX5_copy 129 = .ok (.imul, 1) := by decide +kernel
theorem dX5_copy_130 : decode cX5_copy 130 = .ok (.iload 4, 2) := by decide +kernel
theorem dX5_copy_132 : decode cX5_copy 132 = .ok (.iadd, 1) := by decide +kernel
theorem dX5_copy_133 : decode cX5_copy 133 = .ok (.istore 7, 2) := by decide +kernel
theorem dX5_copy_135 : decode cX5_copy 135 = .ok (.iconst 0, 1) := by decide +kernel
theorem dX5_copy_136 : decode cX5_copy 136 = .ok (.istore 8, 2) := by decide +kernel
theorem dX5_copy_138 : decode cX5_copy 138 = .ok (.iload 8, 2) := by decide +kernel
theorem dX5_copy_140 : decode cX5_copy 140 = .ok (.iload 5, 2) := by decide +kernel
theorem dX5_copy_142 : decode cX5_copy 142 = .ok (.if_icmp .ge 50, 3) := by decide +kernel
theorem dX5_copy_145 : decode cX5_copy 145 = .ok (.iload 6, 2) := by decide +kernel
theorem dX5_copy_147 : decode cX5_copy 147 = .ok (.iload 7, 2) := by decide +kernel
theorem dX5_copy_149 : decode cX5_copy 149 = .ok (.if_icmp .ge 13, 3) := by decide +kernel
theorem dX5_copy_152 : decode cX5_copy 152 = .ok (.iload 5, 2) := by decide +kernel
theorem dX5_copy_154 : decode cX5_copy 154 = .ok (.iconst 1, 1) := by decide +kernel
theorem dX5_copy_155 : decode cX5_copy 155 = .ok (.isub, 1) := by decide +kernel
theorem dX5_copy_156 : decode cX5_copy 156 = .ok (.iload 8, 2) := by decide +kernel
theorem dX5_copy_158 : decode cX5_copy 158 = .ok (.isub, 1) := by decide +kernel
theorem dX5_copy_159 : decode cX5_copy 159 = .ok (.goto 5, 3) := by decide +kernel
theorem dX5_copy_162 : decode cX5_copy 162 = .ok (.iload 8, 2) := by decide +kernel
theorem dX5_copy_164 : decode cX5_copy 164 = .ok (.istore 9, 2) := by decide +kernel
theorem dX5_copy_166 : decode cX5_copy 166 = .ok (.aload_n 0, 1) := by decide +kernel
theorem dX5_copy_167 : decode cX5_copy 167 = .ok (.getfield 34, 3) := by decide +kernel
theorem dX5_copy_170 : decode cX5_copy 170 = .ok (.iload 7, 2) := by decide +kernel
theorem dX5_copy_172 : decode cX5_copy 172 = .ok (.iload 9, 2) := by decide +kernel
theorem dX5_copy_174 : decode cX5_copy 174 = .ok (.iadd, 1) := by decide +kernel
theorem dX5_copy_175 : decode cX5_copy 175 = .ok (.aload_n 0, 1) := by decide +kernel
theorem dX5_copy_176 : decode cX5_copy 176 = .ok (.getfield 34, 3) := by decide +kernel
theorem dX5_copy_179 : decode cX5_copy 179 = .ok (.iload 6, 2) := by decide +kernel
theorem dX5_copy_181 : decode cX5_copy 181 = .ok (.iload 9, 2) := by decide +kernel
theorem dX5_copy_183 : decode cX5_copy 183 = .ok (.iadd, 1) := by decide +kernel
theorem dX5_copy_184 : decode cX5_copy 184 = .ok (.iaload, 1) := by decide +kernel
theorem dX5_copy_185 : decode cX5_copy 185 = .ok (.iastore, 1) := by decide +kernel
theorem dX5_copy_186 : decode cX5_copy 186 = .ok (.iinc 8 1, 3) := by decide +kernel
theorem dX5_copy_189 : decode cX5_copy 189 = .ok (.goto (-51), 3) := by decide +kernel
theorem dX5_copy_192 : decode cX5_copy 192 = .ok (.iload 5, 2) := by decide +kernel
theorem dX5_copy_194 : decode cX5_copy 194 = .ok (.ireturn, 1) := by decide +kernel
set_option maxRecDepth 20000 in
theorem ggX5_wants_X5_isSheet : GoodIn wsX5_wants wsX5_isSheet := goodIn_r _ [7] (by decide +kernel) (by decide +kernel)
set_option maxRecDepth 20000 in
theorem gX5_wants_X5_isSheet : GoodIn wsX5_wants (va_wsS RX5 278 yX5_isSheet wsX5_isSheet) := goodIn_app (goodIn_of _ (by decide +kernel)) ggX5_wants_X5_isSheet
theorem dX5_wants_0 : decode cX5_wants 0 = .ok (.iload_n 1, 1) := by decide +kernel
theorem dX5_wants_1 : decode cX5_wants 1 = .ok (.invokestatic 278, 3) := by decide +kernel
theorem dX5_wants_4 : decode cX5_wants 4 = .ok (.ifCond .ne 8, 3) := by decide +kernel
theorem dX5_wants_7 : decode cX5_wants 7 = .ok (.ldc 37, 2) := by decide +kernel
theorem dX5_wants_9 : decode cX5_wants 9 = .ok (.goto 19, 3) := by decide +kernel
theorem dX5_wants_12 : decode cX5_wants 12 = .ok (.aload_n 0, 1) := by decide +kernel
theorem dX5_wants_13 : decode cX5_wants 13 = .ok (.getfield 28, 3) := by decide +kernel
theorem dX5_wants_16 : decode cX5_wants 16 = .ok (.iload_n 1, 1) := by decide +kernel
theorem dX5_wants_17 : decode cX5_wants 17 = .ok (.iaload, 1) := by decide +kernel
theorem dX5_wants_18 : decode cX5_wants 18 = .ok (.ifCond .ge 9, 3) := by decide +kernel
theorem dX5_wants_21 : decode cX5_wants 21 = .ok (.ldc_w 273, 3) := by decide +kernel
theorem dX5_wants_24 : decode cX5_wants 24 = .ok (.goto 4, 3) := by decide +kernel
theorem dX5_wants_27 : decode cX5_wants 27 = .ok (.iconst 0, 1) := by decide +kernel
theorem dX5_wants_28 : decode cX5_wants 28 = .ok (.ireturn, 1) := by decide +kernel
set_option maxRecDepth 20000 in
theorem ggX5_load_X5_wants : GoodIn wsX5_load wsX5_wants := goodIn_r _ [9, 10, 11, 12, 13, 14, 8, 15, 24, 25, 26, 27, 28, 29, 30, 31, 32, 33, 34, 35, 36, 37, 38, 39, 40, 41] (by decide +kernel) (by decide +kernel)
set_option maxRecDepth 20000 in
theorem gX5_load_X5_wants : GoodIn wsX5_load (wsV RX5 182 RX5 yX5_wants wsX5_wants) := goodIn_app (goodIn_of _ (by decide +kernel)) ggX5_load_X5_wants
set_option maxRecDepth 20000 in
theorem ggX5_load_X5_finds : GoodIn wsX5_load wsX5_finds := goodIn_r _ [19, 20, 10, 24, 25, 26, 27, 28, 29, 30, 31, 32, 33, 34, 35, 36, 37, 38, 39, 40, 41] (by decide +kernel) (by decide +kernel)
set_option maxRecDepth 20000 in
theorem gX5_load_X5_finds : GoodIn wsX5_load (wsV RX5 39 RX5 yX5_finds wsX5_finds) := goodIn_app (goodIn_of _ (by decide +kernel)) ggX5_load_X5_finds
set_option maxRecDepth 20000 in
theorem ggX5_load_X5_isIn : GoodIn wsX5_load wsX5_isIn := goodIn_r _ [23] (by decide +kernel) (by decide +kernel)
set_option maxRecDepth 20000 in
theorem gX5_load_X5_isIn : GoodIn wsX5_load (va_wsS RX5 45 yX5_isIn wsX5_isIn) := goodIn_app (goodIn_of _ (by decide +kernel)) ggX5_load_X5_isIn
theorem dX5_load_0 : decode cX5_load 0 = .ok (.aload_n 0, 1) := by decide +kernel
theorem dX5_load_1 : decode cX5_load 1 = .ok (.iload_n 1, 1) := by decide +kernel
theorem dX5_load_2 : decode cX5_load 2 = .ok (.invokevirtual 182, 3) := by decide +kernel
theorem dX5_load_5 : decode cX5_load 5 = .ok (.ifCond .eq 13, 3) := by decide +kernel
theorem dX5_load_8 : decode cX5_load 8 = .ok (.aload_n 0, 1) := by decide +kernel
theorem dX5_load_9 : decode cX5_load 9 = .ok (.aload_n 0, 1) := by decide +kernel
theorem dX5_load_10 : decode cX5_load 10 = .ok (.iload_n 1, 1) := by decide +kernel
theorem dX5_load_11 : decode cX5_load 11 = .ok (.invokevirtual 182, 3) := by decide +kernel
theorem dX5_load_14 : decode cX5_load 14 = .ok (.invokevirtual 39, 3) := by decide +kernel
theorem dX5_load_17 : decode cX5_load 17 = .ok (.ireturn, 1) := by decide +kernel
theorem dX5_load_18 : decode cX5_load 18 = .ok (.iconst 0, 1) := by decide +kernel
theorem dX5_load_19 : decode cX5_load 19 = .ok (.istore_n 2, 1) := by decide +kernel
theorem dX5_load_20 : decode cX5_load 20 = .ok (.iload_n 2, 1) := by decide +kernel
theorem dX5_load_21 : decode cX5_load 21 = .ok (.aload_n 0, 1) := by decide +kernel
theorem dX5_load_22 : decode cX5_load 22 = .ok (.getfield 31, 3) := by decide +kernel
theorem dX5_load_25 : decode cX5_load 25 = .ok (.iload_n 1, 1) := by decide +kernel
theorem dX5_load_26 : decode cX5_load 26 = .ok (.iaload, 1) := by decide +kernel
theorem dX5_load_27 : decode cX5_load 27 = .ok (.if_icmp .ge 56, 3) := by decide +kernel
theorem dX5_load_30 : decode cX5_load 30 = .ok (.iload_n 2, 1) := by decide +kernel
theorem dX5_load_31 : decode cX5_load 31 = .ok (.bipush 6, 2) := by decide +kernel
theorem dX5_load_33 : decode cX5_load 33 = .ok (.if_icmp .ge 50, 3) := by decide +kernel
theorem dX5_load_36 : decode cX5_load 36 = .ok (.aload_n 0, 1) := by decide +kernel
theorem dX5_load_37 : decode cX5_load 37 = .ok (.getfield 34, 3) := by decide +kernel
theorem dX5_load_40 : decode cX5_load 40 = .ok (.bipush 40, 2) := by decide +kernel
theorem dX5_load_42 : decode cX5_load 42 = .ok (.iload_n 1, 1) := by decide +kernel
theorem dX5_load_43 : decode cX5_load 43 = .ok (.imul, 1) := by decide +kernel
theorem dX5_load_44 : decode cX5_load 44 = .ok (.iload_n 2, 1) := by decide +kernel
theorem dX5_load_45 : decode cX5_load 45 = .ok (.iadd, 1) := by decide +kernel
theorem dX5_load_46 : decode cX5_load 46 = .ok (.iaload, 1) := by decide +kernel
theorem dX5_load_47 : decode cX5_load 47 = .ok (.i2l, 1) := by decide +kernel
theorem dX5_load_48 : decode cX5_load 48 = .ok (.lconst 0, 1) := by decide +kernel
theorem dX5_load_49 : decode cX5_load 49 = .ok (.ldc2_w 57, 3) := by decide +kernel
theorem dX5_load_52 : decode cX5_load 52 = .ok (.invokestatic 45, 3) := by decide +kernel
theorem dX5_load_55 : decode cX5_load 55 = .ok (.ifCond .eq 28, 3) := by decide +kernel
theorem dX5_load_58 : decode cX5_load 58 = .ok (.aload_n 0, 1) := by decide +kernel
theorem dX5_load_59 : decode cX5_load 59 = .ok (.getfield 7, 3) := by decide +kernel
theorem dX5_load_62 : decode cX5_load 62 = .ok (.iconst 4, 1) := by decide +kernel
theorem dX5_load_63 : decode cX5_load 63 = .ok (.iload_n 2, 1) := by decide +kernel
theorem dX5_load_64 : decode cX5_load 64 = .ok (.iadd, 1) := by decide +kernel
theorem dX5_load_65 : decode cX5_load 65 = .ok (.aload_n 0, 1) := by decide +kernel
theorem dX5_load_66 : decode cX5_load 66 = .ok (.getfield 34, 3) := by decide +kernel
theorem dX5_load_69 : decode cX5_load 69 = .ok (.bipush 40, 2) := by decide +kernel
theorem dX5_load_71 : decode cX5_load 71 = .ok (.iload_n 1, 1) := by decide +kernel
theorem dX5_load_72 : decode cX5_load 72 = .ok (.imul, 1) := by decide +kernel
theorem dX5_load_73 : decode cX5_load 73 = .ok (.iload_n 2, 1) := by decide +kernel
theorem dX5_load_74 : decode cX5_load 74 = .ok (.iadd, 1) := by decide +kernel
theorem dX5_load_75 : decode cX5_load 75 = .ok (.iaload, 1) := by decide +kernel
theorem dX5_load_76 : decode cX5_load 76 = .ok (.iastore, 1) := by decide +kernel
theorem dX5_load_77 : decode cX5_load 77 = .ok (.iinc 2 1, 3) := by decide +kernel
theorem dX5_load_80 : decode cX5_load 80 = .ok (.goto (-60), 3) := by decide +kernel
theorem dX5_load_83 : decode cX5_load 83 = .ok (.iload_n 2, 1) := by decide +kernel
theorem dX5_load_84 : decode cX5_load 84 = .ok (.ireturn, 1) := by decide +kernel
set_option maxRecDepth 20000 in
theorem ggX5_judge_X5_wants : GoodIn wsX5_judge wsX5_wants := goodIn_r _ [7, 8, 9, 10, 11, 12, 6, 13, 32, 33, 34, 35, 36, 37, 38, 39, 40, 41, 42, 43, 44, 45, 46, 47, 48, 49] (by decide +kernel) (by decide +kernel)
set_option maxRecDepth 20000 in
theorem gX5_judge_X5_wants : GoodIn wsX5_judge (wsV RX5 182 RX5 yX5_wants wsX5_wants) := goodIn_app (goodIn_of _ (by decide +kernel)) ggX5_judge_X5_wants
set_option maxRecDepth 20000 in
theorem ggX5_judge_X5_finds : GoodIn wsX5_judge wsX5_finds := goodIn_r _ [17, 18, 8, 32, 33, 34, 35, 36, 37, 38, 39, 40, 41, 42, 43, 44, 45, 46, 47, 48, 49] (by decide +kernel) (by decide +kernel)
set_option maxRecDepth 20000 in
theorem gX5_judge_X5_finds : GoodIn wsX5_judge (wsV RX5 39 RX5 yX5_finds wsX5_finds) := goodIn_app (goodIn_of _ (by decide +kernel)) ggX5_judge_X5_finds
set_option maxRecDepth 20000 in
theorem ggX5_judge_X5_isOne : GoodIn wsX5_judge wsX5_isOne := goodIn_r _ [22, 23, 32, 33, 34, 35, 36, 37, 38, 39, 40, 41, 42, 43, 44, 45, 46, 47, 48, 49] (by decide +kernel) (by decide +kernel)
set_option maxRecDepth 20000 in
theorem gX5_judge_X5_isOne : GoodIn wsX5_judge (wsV RX5 78 RX5 yX5_isOne wsX5_isOne) := goodIn_app (goodIn_of _ (by decide +kernel)) ggX5_judge_X5_isOne
set_option maxRecDepth 20000 in
theorem ggX5_judge_X5_left : GoodIn wsX5_judge wsX5_left := goodIn_r _ [27, 28, 29, 30, 6, 31, 23, 32, 33, 34, 35, 36, 37, 38, 39, 40, 41, 42, 43, 44, 45, 46, 47, 48, 49] (by decide +kernel) (by decide +kernel)
set_option maxRecDepth 20000 in
theorem gX5_judge_X5_left : GoodIn wsX5_judge (wsV RX5 72 RX5 yX5_left wsX5_left) := goodIn_app (goodIn_of _ (by decide +kernel)) ggX5_judge_X5_left
theorem dX5_judge_0 : decode cX5_judge 0 = .ok (.aload_n 0, 1) := by decide +kernel
theorem dX5_judge_1 : decode cX5_judge 1 = .ok (.iload_n 1, 1) := by decide +kernel
theorem dX5_judge_2 : decode cX5_judge 2 = .ok (.invokevirtual 182, 3) := by decide +kernel
theorem dX5_judge_5 : decode cX5_judge 5 = .ok (.ifCond .eq 13, 3) := by decide +kernel
theorem dX5_judge_8 : decode cX5_judge 8 = .ok (.aload_n 0, 1) := by decide +kernel
theorem dX5_judge_9 : decode cX5_judge 9 = .ok (.aload_n 0, 1) := by decide +kernel
theorem dX5_judge_10 : decode cX5_judge 10 = .ok (.iload_n 1, 1) := by decide +kernel
theorem dX5_judge_11 : decode cX5_judge 11 = .ok (.invokevirtual 182, 3) := by decide +kernel
theorem dX5_judge_14 : decode cX5_judge 14 = .ok (.invokevirtual 39, 3) := by decide +kernel
theorem dX5_judge_17 : decode cX5_judge 17 = .ok (.ireturn, 1) := by decide +kernel
theorem dX5_judge_18 : decode cX5_judge 18 = .ok (.iconst 0, 1) := by decide +kernel
theorem dX5_judge_19 : decode cX5_judge 19 = .ok (.istore_n 2, 1) := by decide +kernel
theorem dX5_judge_20 : decode cX5_judge 20 = .ok (.iload_n 2, 1) := by decide +kernel
theorem dX5_judge_21 : decode cX5_judge 21 = .ok (.aload_n 0, 1) := by decide +kernel
theorem dX5_judge_22 : decode cX5_judge 22 = .ok (.getfield 31, 3) := by decide +kernel
theorem dX5_judge_25 : decode cX5_judge 25 = .ok (.iload_n 1, 1) := by decide +kernel
theorem dX5_judge_26 : decode cX5_judge 26 = .ok (.iaload, 1) := by decide +kernel
theorem dX5_judge_27 : decode cX5_judge 27 = .ok (.if_icmp .ge 36, 3) := by decide +kernel
theorem dX5_judge_30 : decode cX5_judge 30 = .ok (.aload_n 0, 1) := by decide +kernel
theorem dX5_judge_31 : decode cX5_judge 31 = .ok (.iload_n 2, 1) := by decide +kernel
theorem dX5_judge_32 : decode cX5_judge 32 = .ok (.invokevirtual 78, 3) := by decide +kernel
theorem dX5_judge_35 : decode cX5_judge 35 = .ok (.ifCond .eq 28, 3) := by decide +kernel
theorem dX5_judge_38 : decode cX5_judge 38 = .ok (.aload_n 0, 1) := by decide +kernel
theorem dX5_judge_39 : decode cX5_judge 39 = .ok (.getfield 34, 3) := by decide +kernel
theorem dX5_judge_42 : decode cX5_judge 42 = .ok (.bipush 40, 2) := by decide +kernel
theorem dX5_judge_44 : decode cX5_judge 44 = .ok (.iload_n 1, 1) := by decide +kernel
theorem dX5_judge_45 : decode cX5_judge 45 = .ok (.imul, 1) := by decide +kernel
theorem dX5_judge_46 : decode cX5_judge 46 = .ok (.iload_n 2, 1) := by decide +kernel
theorem dX5_judge_47 : decode cX5_judge 47 = .ok (.iadd, 1) := by decide +kernel
theorem dX5_judge_48 : decode cX5_judge 48 = .ok (.iaload, 1) := by decide +kernel
theorem dX5_judge_49 : decode cX5_judge 49 = .ok (.aload_n 0, 1) := by decide +kernel
theorem dX5_judge_50 : decode cX5_judge 50 = .ok (.iload_n 2, 1) := by decide +kernel
theorem dX5_judge_51 : decode cX5_judge 51 = .ok (.invokevirtual 72, 3) := by decide +kernel
theorem dX5_judge_54 : decode cX5_judge 54 = .ok (.if_icmp .ne 9, 3) := by decide +kernel
theorem dX5_judge_57 : decode cX5_judge 57 = .ok (.iinc 2 1, 3) := by decide +kernel
theorem dX5_judge_60 : decode cX5_judge 60 = .ok (.goto (-40), 3) := by decide +kernel
theorem dX5_judge_63 : decode cX5_judge 63 = .ok (.iload_n 2, 1) := by decide +kernel
theorem dX5_judge_64 : decode cX5_judge 64 = .ok (.aload_n 0, 1) := by decide +kernel
theorem dX5_judge_65 : decode cX5_judge 65 = .ok (.getfield 31, 3) := by decide +kernel
theorem dX5_judge_68 : decode cX5_judge 68 = .ok (.iload_n 1, 1) := by decide +kernel
theorem dX5_judge_69 : decode cX5_judge 69 = .ok (.iaload, 1) := by decide +kernel
theorem dX5_judge_70 : decode cX5_judge 70 = .ok (.if_icmp .ge 9, 3) := by decide +kernel
theorem dX5_judge_73 : decode cX5_judge 73 = .ok (.iconst 1, 1) := by decide +kernel
theorem dX5_judge_74 : decode cX5_judge 74 = .ok (.iload_n 2, 1) := by decide +kernel
theorem dX5_judge_75 : decode cX5_judge 75 = .ok (.iadd, 1) := by decide +kernel
theorem dX5_judge_76 : decode cX5_judge 76 = .ok (.goto 4, 3) := by decide +kernel
theorem dX5_judge_79 : decode cX5_judge 79 = .ok (.iconst 0, 1) := by decide +kernel
theorem dX5_judge_80 : decode cX5_judge 80 = .ok (.ireturn, 1) := by decide +kernel
set_option maxRecDepth 20000 in
theorem ggX5_image_X5_copyRow : GoodIn wsX5_image wsX5_copyRow := goodIn_r _ [7] (by decide +kernel) (by decide +kernel)
set_option maxRecDepth 20000 in
theorem gX5_image_X5_copyRow : GoodIn wsX5_image (va_wsS RX5 150 yX5_copyRow wsX5_copyRow) := goodIn_app (goodIn_of _ (by decide +kernel)) ggX5_image_X5_copyRow
theorem dX5_image_0 : decode cX5_image 0 = .ok (.aload_n 0, 1) := by decide +kernel
theorem dX5_image_1 : decode cX5_image 1 = .ok (.getfield 7, 3) := by decide +kernel
theorem dX5_image_4 : decode cX5_image 4 = .ok (.aload_n 0, 1) := by decide +kernel
theorem dX5_image_5 : decode cX5_image 5 = .ok (.getfield 13, 3) := by decide +kernel
theorem dX5_image_8 : decode cX5_image 8 = .ok (.invokestatic 150, 3) := by decide +kernel
theorem dX5_image_11 : decode cX5_image 11 = .ok (.aload_n 0, 1) := by decide +kernel
theorem dX5_image_12 : decode cX5_image 12 = .ok (.iconst 1, 1) := by decide +kernel
theorem dX5_image_13 : decode cX5_image 13 = .ok (.putfield 282, 3) := by decide +kernel
theorem dX5_image_16 : decode cX5_image 16 = .ok (.iconst 1, 1) := by decide +kernel
theorem dX5_image_17 : decode cX5_image 17 = .ok (.ireturn, 1) := by decide +kernel
set_option maxRecDepth 20000 in
theorem ggX5_undo_X5_finds : GoodIn wsX5_undo wsX5_finds := goodIn_r _ [9, 10, 11, 15, 16, 17, 18, 19, 20, 21, 22, 23, 24, 25, 26, 27, 28, 29, 30, 31, 32] (by decide +kernel) (by decide +kernel)
set_option maxRecDepth 20000 in
theorem gX5_undo_X5_finds : GoodIn wsX5_undo (wsV RX5 39 RX5 yX5_finds wsX5_finds) := goodIn_app (goodIn_of _ (by decide +kernel)) ggX5_undo_X5_finds
set_option maxRecDepth 20000 in
theorem ggX5_undo_X5_copyRow : GoodIn wsX5_undo wsX5_copyRow := goodIn_r _ [14] (by decide +kernel) (by decide +kernel)
set_option maxRecDepth 20000 in
theorem gX5_undo_X5_copyRow : GoodIn wsX5_undo (va_wsS RX5 150 yX5_copyRow wsX5_copyRow) := goodIn_app (goodIn_of _ (by decide +kernel)) ggX5_undo_X5_copyRow
theorem dX5_undo_0 : decode cX5_undo 0 = .ok (.aload_n 0, 1) := by decide +kernel
theorem dX5_undo_1 : decode cX5_undo 1 = .ok (.getfield 282, 3) := by decide +kernel
theorem dX5_undo_4 : decode cX5_undo 4 = .ok (.ifCond .ne 10, 3) := by decide +kernel
theorem dX5_undo_7 : decode cX5_undo 7 = .ok (.aload_n 0, 1) := by decide +kernel
theorem dX5_undo_8 : decode cX5_undo 8 = .ok (.ldc 38, 2) := by decide +kernel
theorem dX5_undo_10 : decode cX5_undo 10 = .ok (.invokevirtual 39, 3) := by decide +kernel
theorem dX5_undo_13 : decode cX5_undo 13 = .ok (.ireturn, 1) := by decide +kernel
theorem dX5_undo_14 : decode cX5_undo 14 = .ok (.aload_n 0, 1) := by decide +kernel
theorem dX5_undo_15 : decode cX5_undo 15 = .ok (.getfield 13, 3) := by decide +kernel
theorem dX5_undo_18 : decode cX5_undo 18 = .ok (.aload_n 0, 1) := by decide +kernel
theorem dX5_undo_19 : decode cX5_undo 19 = .ok (.getfield 7, 3) := by decide +kernel
theorem dX5_undo_22 : decode cX5_undo 22 = .ok (.invokestatic 150, 3) := by decide +kernel
theorem dX5_undo_25 : decode cX5_undo 25 = .ok (.aload_n 0, 1) := by decide +kernel
theorem dX5_undo_26 : decode cX5_undo 26 = .ok (.getfield 7, 3) := by decide +kernel
theorem dX5_undo_29 : decode cX5_undo 29 = .ok (.iconst 1, 1) := by decide +kernel
theorem dX5_undo_30 : decode cX5_undo 30 = .ok (.iaload, 1) := by decide +kernel
theorem dX5_undo_31 : decode cX5_undo 31 = .ok (.ireturn, 1) := by decide +kernel
theorem dX5_tear_0 : decode cX5_tear 0 = .ok (.aload_n 0, 1) := by decide +kernel
theorem dX5_tear_1 : decode cX5_tear 1 = .ok (.getfield 282, 3) := by decide +kernel
theorem dX5_tear_4 : decode cX5_tear 4 = .ok (.istore_n 1, 1) := by decide +kernel
theorem dX5_tear_5 : decode cX5_tear 5 = .ok (.aload_n 0, 1) := by decide +kernel
theorem dX5_tear_6 : decode cX5_tear 6 = .ok (.iconst 0, 1) := by decide +kernel
theorem dX5_tear_7 : decode cX5_tear 7 = .ok (.putfield 282, 3) := by decide +kernel
theorem dX5_tear_10 : decode cX5_tear 10 = .ok (.iload_n 1, 1) := by decide +kernel
theorem dX5_tear_11 : decode cX5_tear 11 = .ok (.ifCond .eq 7, 3) := by decide +kernel
theorem dX5_tear_14 : decode cX5_tear 14 = .ok (.iconst 1, 1) := by decide +kernel
theorem dX5_tear_15 : decode cX5_tear 15 = .ok (.goto 4, 3) := by decide +kernel
theorem dX5_tear_18 : decode cX5_tear 18 = .ok (.iconst 0, 1) := by decide +kernel
theorem dX5_tear_19 : decode cX5_tear 19 = .ok (.ireturn, 1) := by decide +kernel
set_option maxRecDepth 20000 in
theorem ggX5_count_X5_leftAll : GoodIn wsX5_count wsX5_leftAll := goodIn_r _ [8, 1, 9, 10, 11, 7, 12, 13, 14, 15, 16, 26, 27, 28, 29, 30, 31, 32, 33, 34, 35, 36, 37, 38, 39, 40, 41, 42, 43] (by decide +kernel) (by decide +kernel)
set_option maxRecDepth 20000 in
theorem gX5_count_X5_leftAll : GoodIn wsX5_count (wsV RX5 134 RX5 yX5_leftAll wsX5_leftAll) := goodIn_app (goodIn_of _ (by decide +kernel)) ggX5_count_X5_leftAll
set_option maxRecDepth 20000 in
theorem ggX5_count_X5_sumOf : GoodIn wsX5_count wsX5_sumOf := goodIn_r _ [20, 1, 13, 14, 15, 7, 16, 26, 27, 28, 29, 30, 31, 32, 33, 34, 35, 36, 37, 38, 39, 40, 41, 42, 43] (by decide +kernel) (by decide +kernel)
set_option maxRecDepth 20000 in
theorem gX5_count_X5_sumOf : GoodIn wsX5_count (wsV RX5 141 RX5 yX5_sumOf wsX5_sumOf) := goodIn_app (goodIn_of _ (by decide +kernel)) ggX5_count_X5_sumOf
set_option maxRecDepth 20000 in
theorem ggX5_count_X5_finds : GoodIn wsX5_count wsX5_finds := goodIn_r _ [24, 25, 3, 26, 27, 28, 29, 30, 31, 32, 33, 34, 35, 36, 37, 38, 39, 40, 41, 42, 43] (by decide +kernel) (by decide +kernel)
set_option maxRecDepth 20000 in
theorem gX5_count_X5_finds : GoodIn wsX5_count (wsV RX5 39 RX5 yX5_finds wsX5_finds) := goodIn_app (goodIn_of _ (by decide +kernel)) ggX5_count_X5_finds
theorem dX5_count_0 : decode cX5_count 0 = .ok (.iconst 0, 1) := by decide +kernel
theorem dX5_count_1 : decode cX5_count 1 = .ok (.istore_n 2, 1) := by decide +kernel
theorem dX5_count_2 : decode cX5_count 2 = .ok (.iload_n 1, 1) := by decide +kernel
theorem dX5_count_3 : decode cX5_count 3 = .ok (.tableswitch 124 0 7 #[45, 52, 59, 64, 70, 76, 81, 88], 45) := by decide +kernel
theorem dX5_count_48 : decode cX5_count 48 = .ok (.aload_n 0, 1) := by decide +kernel
theorem dX5_count_49 : decode cX5_count 49 = .ok (.getfield 7, 3) := by decide +kernel
theorem dX5_count_52 : decode cX5_count 52 = .ok (.iconst 1, 1) := by decide +kernel
theorem dX5_count_53 : decode cX5_count 53 = .ok (.iaload, 1) := by decide +kernel
theorem dX5_count_54 : decode cX5_count 54 = .ok (.ireturn, 1) := by decide +kernel
theorem dX5_count_55 : decode cX5_count 55 = .ok (.aload_n 0, 1) := by decide +kernel
theorem dX5_count_56 : decode cX5_count 56 = .ok (.getfield 7, 3) := by decide +kernel
theorem dX5_count_59 : decode cX5_count 59 = .ok (.iconst 0, 1) := by decide +kernel
theorem dX5_count_60 : decode cX5_count 60 = .ok (.iaload, 1) := by decide +kernel
theorem dX5_count_61 : decode cX5_count 61 = .ok (.ireturn, 1) := by decide +kernel
theorem dX5_count_62 : decode cX5_count 62 = .ok (.aload_n 0, 1) := by decide +kernel
theorem dX5_count_63 : decode cX5_count 63 = .ok (.invokevirtual 134, 3) := by decide +kernel
theorem dX5_count_66 : decode cX5_count 66 = .ok (.ireturn, 1) := by decide +kernel
theorem dX5_count_67 : decode cX5_count 67 = .ok (.aload_n 0, 1) := by decide +kernel
theorem dX5_count_68 : decode cX5_count 68 = .ok (.iconst 3, 1) := by decide +kernel
theorem dX5_count_69 : decode cX5_count 69 = .ok (.invokevirtual 141, 3) := by decide +kernel
theorem dX5_count_72 : decode cX5_count 72 = .ok (.ireturn, 1) := by decide +kernel
theorem dX5_count_73 : decode cX5_count 73 = .ok (.aload_n 0, 1) := by decide +kernel
theorem dX5_count_74 : decode cX5_count 74 = .ok (.iconst 2, 1) := by decide +kernel
theorem dX5_count_75 : decode cX5_count 75 = .ok (.invokevirtual 141, 3) := by decide +kernel
theorem dX5_count_78 : decode cX5_count 78 = .ok (.ireturn, 1) := by decide +kernel
theorem dX5_count_79 : decode cX5_count 79 = .ok (.aload_n 0, 1) := by decide +kernel
theorem dX5_count_80 : decode cX5_count 80 = .ok (.getfield 199, 3) := by decide +kernel
theorem dX5_count_83 : decode cX5_count 83 = .ok (.ireturn, 1) := by decide +kernel
theorem dX5_count_84 : decode cX5_count 84 = .ok (.aload_n 0, 1) := by decide +kernel
theorem dX5_count_85 : decode cX5_count 85 = .ok (.getfield 7, 3) := by decide +kernel
theorem dX5_count_88 : decode cX5_count 88 = .ok (.iconst 2, 1) := by decide +kernel
theorem dX5_count_89 : decode cX5_count 89 = .ok (.iaload, 1) := by decide +kernel
theorem dX5_count_90 : decode cX5_count 90 = .ok (.ireturn, 1) := by decide +kernel
theorem dX5_count_91 : decode cX5_count 91 = .ok (.iconst 0, 1) := by decide +kernel
theorem dX5_count_92 : decode cX5_count 92 = .ok (.istore_n 3, 1) := by decide +kernel
theorem dX5_count_93 : decode cX5_count 93 = .ok (.iload_n 3, 1) := by decide +kernel
theorem dX5_count_94 : decode cX5_count 94 = .ok (.bipush 10, 2) := by decide +kernel
theorem dX5_count_96 : decode cX5_count 96 = .ok (.if_icmp .ge 29, 3) := by decide +kernel
theorem dX5_count_99 : decode cX5_count 99 = .ok (.iload_n 2, 1) := by decide +kernel
theorem dX5_count_100 : decode cX5_count 100 = .ok (.aload_n 0, 1) := by decide +kernel
theorem dX5_count_101 : decode cX5_count 101 = .ok (.getfield 7, 3) := by decide +kernel
theorem dX5_count_104 : decode cX5_count 104 = .ok (.bipush 90, 2) := by decide +kernel
theorem dX5_count_106 : decode cX5_count 106 = .ok (.iload_n 3, 1) := by decide +kernel
theorem dX5_count_107 : decode cX5_count 107 = .ok (.iadd, 1) := by decide +kernel
theorem dX5_count_108 : decode cX5_count 108 = .ok (.iaload, 1) := by decide +kernel
theorem dX5_count_109 : decode cX5_count 109 = .ok (.ifCond .ge 7, 3) := by decide +kernel
theorem dX5_count_112 : decode cX5_count 112 = .ok (.iconst 0, 1) := by decide +kernel
theorem dX5_count_113 : decode cX5_count 113 = .ok (.goto 4, 3) := by decide +kernel
theorem dX5_count_116 : decode cX5_count 116 = .ok (.iconst 1, 1) := by decide +kernel
theorem dX5_count_117 : decode cX5_count 117 = .ok (.iadd, 1) := by decide +kernel
theorem dX5_count_118 : decode cX5_count 118 = .ok (.istore_n 2, 1) := by decide +kernel
theorem dX5_count_119 : decode cX5_count 119 = .ok (.iinc 3 1, 3) := by decide +kernel
theorem dX5_count_122 : decode cX5_count 122 = .ok (.goto (-29), 3) := by decide +kernel
theorem dX5_count_125 : decode cX5_count 125 = .ok (.iload_n 2, 1) := by decide +kernel
theorem dX5_count_126 : decode cX5_count 126 = .ok (.ireturn, 1) := by decide +kernel
theorem dX5_count_127 : decode cX5_count 127 = .ok (.aload_n 0, 1) := by decide +kernel
theorem dX5_count_128 : decode cX5_count 128 = .ok (.ldc 37, 2) := by decide +kernel
theorem dX5_count_130 : decode cX5_count 130 = .ok (.invokevirtual 39, 3) := by decide +kernel
theorem dX5_count_133 : decode cX5_count 133 = .ok (.ireturn, 1) := by decide +kernel
set_option maxRecDepth 20000 in
theorem ggX5_status_X5_isIn : GoodIn wsX5_status wsX5_isIn := goodIn_r _ [8] (by decide +kernel) (by decide +kernel)
set_option maxRecDepth 20000 in
theorem gX5_status_X5_isIn : GoodIn wsX5_status (va_wsS RX5 45 yX5_isIn wsX5_isIn) := goodIn_app (goodIn_of _ (by decide +kernel)) ggX5_status_X5_isIn
set_option maxRecDepth 20000 in
theorem ggX5_status_X5_finds : GoodIn wsX5_status wsX5_finds := goodIn_r _ [12, 3, 4, 13, 14, 15, 16, 17, 18, 19, 20, 21, 22, 23, 24, 25, 26, 27, 28, 29, 30] (by decide +kernel) (by decide +kernel)
set_option maxRecDepth 20000 in
theorem gX5_status_X5_finds : GoodIn wsX5_status (wsV RX5 39 RX5 yX5_finds wsX5_finds) := goodIn_app (goodIn_of _ (by decide +kernel)) ggX5_status_X5_finds
theorem dX5_status_0 : decode cX5_status 0 = .ok (.iload_n 1, 1) := by decide +kernel
theorem dX5_status_1 : decode cX5_status 1 = .ok (.i2l, 1) := by decide +kernel
theorem dX5_status_2 : decode cX5_status 2 = .ok (.ldc2_w 286, 3) := by decide +kernel
theorem dX5_status_5 : decode cX5_status 5 = .ok (.ldc2_w 62, 3) := by decide +kernel
theorem dX5_status_8 : decode cX5_status 8 = .ok (.invokestatic 45, 3) := by decide +kernel
theorem dX5_status_11 : decode cX5_status 11 = .ok (.ifCond .eq 14, 3) := by decide +kernel
theorem dX5_status_14 : decode cX5_status 14 = .ok (.aload_n 0, 1) := by decide +kernel
theorem dX5_status_15 : decode cX5_status 15 = .ok (.getfield 22, 3) := by decide +kernel
theorem dX5_status_18 : decode cX5_status 18 = .ok (.iload_n 1, 1) := by decide +kernel
theorem dX5_status_19 : decode cX5_status 19 = .ok (.iconst 1, 1) := by decide +kernel
theorem dX5_status_20 : decode cX5_status 20 = .ok (.iadd, 1) := by decide +kernel
theorem dX5_status_21 : decode cX5_status 21 = .ok (.iaload, 1) := by decide +kernel
theorem dX5_status_22 : decode cX5_status 22 = .ok (.goto 9, 3) := by decide +kernel
theorem dX5_status_25 : decode cX5_status 25 = .ok (.aload_n 0, 1) := by decide +kernel
theorem dX5_status_26 : decode cX5_status 26 = .ok (.ldc 37, 2) := by decide +kernel
theorem dX5_status_28 : decode cX5_status 28 = .ok (.invokevirtual 39, 3) := by decide +kernel
theorem dX5_status_31 : decode cX5_status 31 = .ok (.ireturn, 1) := by decide +kernel
theorem dJ6_bitCount_0f7a4_0 : decode cJ6_bitCount_0f7a4 0 = .ok (.iload_n 0, 1) := by decide +kernel
theorem dJ6_bitCount_0f7a4_1 : decode cJ6_bitCount_0f7a4 1 = .ok (.iload_n 0, 1) := by decide +kernel
theorem dJ6_bitCount_0f7a4_2 : decode cJ6_bitCount_0f7a4 2 = .ok (.iconst 1, 1) := by decide +kernel
theorem dJ6_bitCount_0f7a4_3 : decode cJ6_bitCount_0f7a4 3 = .ok (.iushr, 1) := by decide +kernel
theorem dJ6_bitCount_0f7a4_4 : decode cJ6_bitCount_0f7a4 4 = .ok (.ldc_w 265, 3) := by decide +kernel
theorem dJ6_bitCount_0f7a4_7 : decode cJ6_bitCount_0f7a4 7 = .ok (.iand, 1) := by decide +kernel
theorem dJ6_bitCount_0f7a4_8 : decode cJ6_bitCount_0f7a4 8 = .ok (.isub, 1) := by decide +kernel
theorem dJ6_bitCount_0f7a4_9 : decode cJ6_bitCount_0f7a4 9 = .ok (.istore_n 0, 1) := by decide +kernel
theorem dJ6_bitCount_0f7a4_10 : decode cJ6_bitCount_0f7a4 10 = .ok (.iload_n 0, 1) := by decide +kernel
theorem dJ6_bitCount_0f7a4_11 : decode cJ6_bitCount_0f7a4 11 = .ok (.ldc_w 266, 3) := by decide +kernel
theorem dJ6_bitCount_0f7a4_14 : decode cJ6_bitCount_0f7a4 14 = .ok (.iand, 1) := by decide +kernel
theorem dJ6_bitCount_0f7a4_15 : decode cJ6_bitCount_0f7a4 15 = .ok (.iload_n 0, 1) := by decide +kernel
theorem dJ6_bitCount_0f7a4_16 : decode cJ6_bitCount_0f7a4 16 = .ok (.iconst 2, 1) := by decide +kernel
theorem dJ6_bitCount_0f7a4_17 : decode cJ6_bitCount_0f7a4 17 = .ok (.iushr, 1) := by decide +kernel
theorem dJ6_bitCount_0f7a4_18 : decode cJ6_bitCount_0f7a4 18 = .ok (.ldc_w 266, 3) := by decide +kernel
theorem dJ6_bitCount_0f7a4_21 : decode cJ6_bitCount_0f7a4 21 = .ok (.iand, 1) := by decide +kernel
theorem dJ6_bitCount_0f7a4_22 : decode cJ6_bitCount_0f7a4 22 = .ok (.iadd, 1) := by decide +kernel
theorem dJ6_bitCount_0f7a4_23 : decode cJ6_bitCount_0f7a4 23 = .ok (.istore_n 0, 1) := by decide +kernel
theorem dJ6_bitCount_0f7a4_24 : decode cJ6_bitCount_0f7a4 24 = .ok (.iload_n 0, 1) := by decide +kernel
theorem dJ6_bitCount_0f7a4_25 : decode cJ6_bitCount_0f7a4 25 = .ok (.iload_n 0, 1) := by decide +kernel
theorem dJ6_bitCount_0f7a4_26 : decode cJ6_bitCount_0f7a4 26 = .ok (.iconst 4, 1) := by decide +kernel
theorem dJ6_bitCount_0f7a4_27 : decode cJ6_bitCount_0f7a4 27 = .ok (.iushr, 1) := by decide +kernel
theorem dJ6_bitCount_0f7a4_28 : decode cJ6_bitCount_0f7a4 28 = .ok (.iadd, 1) := by decide +kernel
theorem dJ6_bitCount_0f7a4_29 : decode cJ6_bitCount_0f7a4 29 = .ok (.ldc_w 267, 3) := by decide +kernel
theorem dJ6_bitCount_0f7a4_32 : decode cJ6_bitCount_0f7a4 32 = .ok (.iand, 1) := by decide +kernel
theorem dJ6_bitCount_0f7a4_33 : decode cJ6_bitCount_0f7a4 33 = .ok (.istore_n 0, 1) := by decide +kernel
theorem dJ6_bitCount_0f7a4_34 : decode cJ6_bitCount_0f7a4 34 = .ok (.iload_n 0, 1) := by decide +kernel
theorem dJ6_bitCount_0f7a4_35 : decode cJ6_bitCount_0f7a4 35 = .ok (.iload_n 0, 1) := by decide +kernel
theorem dJ6_bitCount_0f7a4_36 : decode cJ6_bitCount_0f7a4 36 = .ok (.bipush 8, 2) := by decide +kernel
theorem dJ6_bitCount_0f7a4_38 : decode cJ6_bitCount_0f7a4 38 = .ok (.iushr, 1) := by decide +kernel
theorem dJ6_bitCount_0f7a4_39 : decode cJ6_bitCount_0f7a4 39 = .ok (.iadd, 1) := by decide +kernel
theorem dJ6_bitCount_0f7a4_40 : decode cJ6_bitCount_0f7a4 40 = .ok (.istore_n 0, 1) := by decide +kernel
theorem dJ6_bitCount_0f7a4_41 : decode cJ6_bitCount_0f7a4 41 = .ok (.iload_n 0, 1) := by decide +kernel
theorem dJ6_bitCount_0f7a4_42 : decode cJ6_bitCount_0f7a4 42 = .ok (.iload_n 0, 1) := by decide +kernel
theorem dJ6_bitCount_0f7a4_43 : decode cJ6_bitCount_0f7a4 43 = .ok (.bipush 16, 2) := by decide +kernel
theorem dJ6_bitCount_0f7a4_45 : decode cJ6_bitCount_0f7a4 45 = .ok (.iushr, 1) := by decide +kernel
theorem dJ6_bitCount_0f7a4_46 : decode cJ6_bitCount_0f7a4 46 = .ok (.iadd, 1) := by decide +kernel
theorem dJ6_bitCount_0f7a4_47 : decode cJ6_bitCount_0f7a4 47 = .ok (.istore_n 0, 1) := by decide +kernel
theorem dJ6_bitCount_0f7a4_48 : decode cJ6_bitCount_0f7a4 48 = .ok (.iload_n 0, 1) := by decide +kernel
theorem dJ6_bitCount_0f7a4_49 : decode cJ6_bitCount_0f7a4 49 = .ok (.bipush 63, 2) := by decide +kernel
theorem dJ6_bitCount_0f7a4_51 : decode cJ6_bitCount_0f7a4 51 = .ok (.iand, 1) := by decide +kernel
theorem dJ6_bitCount_0f7a4_52 : decode cJ6_bitCount_0f7a4 52 = .ok (.ireturn, 1) := by decide +kernel
theorem dJ9_max_7cf53_0 : decode cJ9_max_7cf53 0 = .ok (.iload_n 0, 1) := by decide +kernel
theorem dJ9_max_7cf53_1 : decode cJ9_max_7cf53 1 = .ok (.iload_n 1, 1) := by decide +kernel
theorem dJ9_max_7cf53_2 : decode cJ9_max_7cf53 2 = .ok (.if_icmp .lt 7, 3) := by decide +kernel
theorem dJ9_max_7cf53_5 : decode cJ9_max_7cf53 5 = .ok (.iload_n 0, 1) := by decide +kernel
theorem dJ9_max_7cf53_6 : decode cJ9_max_7cf53 6 = .ok (.goto 4, 3) := by decide +kernel
theorem dJ9_max_7cf53_9 : decode cJ9_max_7cf53 9 = .ok (.iload_n 1, 1) := by decide +kernel
theorem dJ9_max_7cf53_10 : decode cJ9_max_7cf53 10 = .ok (.ireturn, 1) := by decide +kernel
theorem dJ9_min_7cf53_0 : decode cJ9_min_7cf53 0 = .ok (.iload_n 0, 1) := by decide +kernel
theorem dJ9_min_7cf53_1 : decode cJ9_min_7cf53 1 = .ok (.iload_n 1, 1) := by decide +kernel
theorem dJ9_min_7cf53_2 : decode cJ9_min_7cf53 2 = .ok (.if_icmp .gt 7, 3) := by decide +kernel
theorem dJ9_min_7cf53_5 : decode cJ9_min_7cf53 5 = .ok (.iload_n 0, 1) := by decide +kernel
theorem dJ9_min_7cf53_6 : decode cJ9_min_7cf53 6 = .ok (.goto 4, 3) := by decide +kernel
theorem dJ9_min_7cf53_9 : decode cJ9_min_7cf53 9 = .ok (.iload_n 1, 1) := by decide +kernel
theorem dJ9_min_7cf53_10 : decode cJ9_min_7cf53 10 = .ok (.ireturn, 1) := by decide +kernel
set_option maxRecDepth 20000 in
theorem ggJ0_length_8abf5_J0_coder_7d493 : GoodIn wsJ0_length_8abf5 wsJ0_coder_7d493 := goodIn_r _ [6, 7, 8] (by decide +kernel) (by decide +kernel)
set_option maxRecDepth 20000 in
theorem gJ0_length_8abf5_J0_coder_7d493 : GoodIn wsJ0_length_8abf5 (wsV RJ0 335 RJ0 yJ0_coder_7d493 wsJ0_coder_7d493) := goodIn_app (goodIn_of _ (by decide +kernel)) ggJ0_length_8abf5_J0_coder_7d493
theorem dJ0_length_8abf5_0 : decode cJ0_length_8abf5 0 = .ok (.aload_n 0, 1) := by decide +kernel
theorem dJ0_length_8abf5_1 : decode cJ0_length_8abf5 1 = .ok (.getfield 9, 3) := by decide +kernel
theorem dJ0_length_8abf5_4 : decode cJ0_length_8abf5 4 = .ok (.arraylength, 1) := by decide +kernel
theorem dJ0_length_8abf5_5 : decode cJ0_length_8abf5 5 = .ok (.aload_n 0, 1) := by decide +kernel
theorem dJ0_length_8abf5_6 : decode cJ0_length_8abf5 6 = .ok (.invokevirtual 335, 3) := by decide +kernel
theorem dJ0_length_8abf5_9 : decode cJ0_length_8abf5 9 = .ok (.ishr, 1) := by decide +kernel
theorem dJ0_length_8abf5_10 : decode cJ0_length_8abf5 10 = .ok (.ireturn, 1) := by decide +kernel
set_option maxRecDepth 20000 in
theorem ggJ0_charAt_5068e_J0_isLatin1_aae02 : GoodIn wsJ0_charAt_5068e wsJ0_isLatin1_aae02 := goodIn_r _ [6, 7, 8] (by decide +kernel) (by decide +kernel)
set_option maxRecDepth 20000 in
theorem gJ0_charAt_5068e_J0_isLatin1_aae02 : GoodIn wsJ0_charAt_5068e (wsV RJ0 492 RJ0 yJ0_isLatin1_aae02 wsJ0_isLatin1_aae02) := goodIn_app (goodIn_of _ (by decide +kernel)) ggJ0_charAt_5068e_J0_isLatin1_aae02
set_option maxRecDepth 20000 in
theorem ggJ0_charAt_5068e_J1_charAt_3b067 : GoodIn wsJ0_charAt_5068e wsJ1_charAt_3b067 := goodIn_r _ [12, 13, 14, 5, 15, 16, 17, 18, 19, 20] (by decide +kernel) (by decide +kernel)
set_option maxRecDepth 20000 in
theorem gJ0_charAt_5068e_J1_charAt_3b067 : GoodIn wsJ0_charAt_5068e (va_wsS RJ0 495 yJ1_charAt_3b067 wsJ1_charAt_3b067) := goodIn_app (goodIn_of _ (by decide +kernel)) ggJ0_charAt_5068e_J1_charAt_3b067
set_option maxRecDepth 20000 in
theorem ggJ0_charAt_5068e_J2_charAt_3b067 : GoodIn wsJ0_charAt_5068e wsJ2_charAt_3b067 := goodIn_r _ [24, 25, 26, 23, 27, 28, 29, 30, 31, 14, 5, 15, 16, 17, 18, 19, 20, 32, 33, 34, 35, 36, 37] (by decide +kernel) (by decide +kernel)
set_option maxRecDepth 20000 in
theorem gJ0_charAt_5068e_J2_charAt_3b067 : GoodIn wsJ0_charAt_5068e (va_wsS RJ0 498 yJ2_charAt_3b067 wsJ2_charAt_3b067) := goodIn_app (goodIn_of _ (by decide +kernel)) ggJ0_charAt_5068e_J2_charAt_3b067
theorem dJ0_charAt_5068e_0 : decode cJ0_charAt_5068e 0 = .ok (.aload_n 0, 1) := by decide +kernel
theorem dJ0_charAt_5068e_1 : decode cJ0_charAt_5068e 1 = .ok (.invokevirtual 492, 3) := by decide +kernel
theorem dJ0_charAt_5068e_4 : decode cJ0_charAt_5068e 4 = .ok (.ifCond .eq 12, 3) := by decide +kernel
theorem dJ0_charAt_5068e_7 : decode cJ0_charAt_5068e 7 = .ok (.aload_n 0, 1) := by decide +kernel
theorem dJ0_charAt_5068e_8 : decode cJ0_charAt_5068e 8 = .ok (.getfield 9, 3) := by decide +kernel
theorem dJ0_charAt_5068e_11 : decode cJ0_charAt_5068e 11 = .ok (.iload_n 1, 1) := by decide +kernel
theorem dJ0_charAt_5068e_12 : decode cJ0_charAt_5068e 12 = .ok (.invokestatic 495, 3) := by decide +kernel
theorem dJ0_charAt_5068e_15 : decode cJ0_charAt_5068e 15 = .ok (.ireturn, 1) := by decide +kernel
theorem dJ0_charAt_5068e_16 : decode cJ0_charAt_5068e 16 = .ok (.aload_n 0, 1) := by decide +kernel
theorem dJ0_charAt_5068e_17 : decode cJ0_charAt_5068e 17 = .ok (.getfield 9, 3) := by decide +kernel
theorem dJ0_charAt_5068e_20 : decode cJ0_charAt_5068e 20 = .ok (.iload_n 1, 1) := by decide +kernel
theorem dJ0_charAt_5068e_21 : decode cJ0_charAt_5068e 21 = .ok (.invokestatic 498, 3) := by decide +kernel
theorem dJ0_charAt_5068e_24 : decode cJ0_charAt_5068e 24 = .ok (.ireturn, 1) := by decide +kernel
theorem dJ0_coder_7d493_0 : decode cJ0_coder_7d493 0 = .ok (.getstatic 38, 3) := by decide +kernel
theorem dJ0_coder_7d493_3 : decode cJ0_coder_7d493 3 = .ok (.ifCond .eq 10, 3) := by decide +kernel
theorem dJ0_coder_7d493_6 : decode cJ0_coder_7d493 6 = .ok (.aload_n 0, 1) := by decide +kernel
theorem dJ0_coder_7d493_7 : decode cJ0_coder_7d493 7 = .ok (.getfield 15, 3) := by decide +kernel
theorem dJ0_coder_7d493_10 : decode cJ0_coder_7d493 10 = .ok (.goto 4, 3) := by decide +kernel
theorem dJ0_coder_7d493_13 : decode cJ0_coder_7d493 13 = .ok (.iconst 1, 1) := by decide +kernel
theorem dJ0_coder_7d493_14 : decode cJ0_coder_7d493 14 = .ok (.ireturn, 1) := by decide +kernel
theorem dJ0_isLatin1_aae02_0 : decode cJ0_isLatin1_aae02 0 = .ok (.getstatic 38, 3) := by decide +kernel
theorem dJ0_isLatin1_aae02_3 : decode cJ0_isLatin1_aae02 3 = .ok (.ifCond .eq 14, 3) := by decide +kernel
theorem dJ0_isLatin1_aae02_6 : decode cJ0_isLatin1_aae02 6 = .ok (.aload_n 0, 1) := by decide +kernel
theorem dJ0_isLatin1_aae02_7 : decode cJ0_isLatin1_aae02 7 = .ok (.getfield 15, 3) := by decide +kernel
theorem dJ0_isLatin1_aae02_10 : decode cJ0_isLatin1_aae02 10 = .ok (.ifCond .ne 7, 3) := by decide +kernel
theorem dJ0_isLatin1_aae02_13 : decode cJ0_isLatin1_aae02 13 = .ok (.iconst 1, 1) := by decide +kernel
theorem dJ0_isLatin1_aae02_14 : decode cJ0_isLatin1_aae02 14 = .ok (.goto 4, 3) := by decide +kernel
theorem dJ0_isLatin1_aae02_17 : decode cJ0_isLatin1_aae02 17 = .ok (.iconst 0, 1) := by decide +kernel
theorem dJ0_isLatin1_aae02_18 : decode cJ0_isLatin1_aae02 18 = .ok (.ireturn, 1) := by decide +kernel
set_option maxRecDepth 20000 in
theorem ggJ0_checkIndex_df160_J3_checkIndex_8e157 : GoodIn wsJ0_checkIndex_df160 wsJ3_checkIndex_8e157 := goodIn_r _ [5] (by decide +kernel) (by decide +kernel)
set_option maxRecDepth 20000 in
theorem gJ0_checkIndex_df160_J3_checkIndex_8e157 : GoodIn wsJ0_checkIndex_df160 (va_wsS RJ0 1059 yJ3_checkIndex_8e157 wsJ3_checkIndex_8e157) := goodIn_app (goodIn_of _ (by decide +kernel)) ggJ0_checkIndex_df160_J3_checkIndex_8e157
theorem dJ0_checkIndex_df160_0 : decode cJ0_checkIndex_df160 0 = .ok (.iload_n 0, 1) := by decide +kernel
theorem dJ0_checkIndex_df160_1 : decode cJ0_checkIndex_df160 1 = .ok (.iload_n 1, 1) := by decide +kernel
theorem dJ0_checkIndex_df160_2 : decode cJ0_checkIndex_df160 2 = .ok (.getstatic 1053, 3) := by decide +kernel
theorem dJ0_checkIndex_df160_5 : decode cJ0_checkIndex_df160 5 = .ok (.invokestatic 1059, 3) := by decide +kernel
theorem dJ0_checkIndex_df160_8 : decode cJ0_checkIndex_df160 8 = .ok (.pop, 1) := by decide +kernel
theorem dJ0_checkIndex_df160_9 : decode cJ0_checkIndex_df160 9 = .ok (.return_, 1) := by decide +kernel
set_option maxRecDepth 20000 in
theorem ggJ1_charAt_3b067_J0_checkIndex_df160 : GoodIn wsJ1_charAt_3b067 wsJ0_checkIndex_df160 := goodIn_r _ [4, 5, 6, 7, 8, 9] (by decide +kernel) (by decide +kernel)
set_option maxRecDepth 20000 in
theorem gJ1_charAt_3b067_J0_checkIndex_df160 : GoodIn wsJ1_charAt_3b067 (va_wsS RJ1 9 yJ0_checkIndex_df160 wsJ0_checkIndex_df160) := goodIn_app (goodIn_of _ (by decide +kernel)) ggJ1_charAt_3b067_J0_checkIndex_df160
theorem dJ1_charAt_3b067_0 : decode cJ1_charAt_3b067 0 = .ok (.iload_n 1, 1) := by decide +kernel
theorem dJ1_charAt_3b067_1 : decode cJ1_charAt_3b067 1 = .ok (.aload_n 0, 1) := by decide +kernel
theorem dJ1_charAt_3b067_2 : decode cJ1_charAt_3b067 2 = .ok (.arraylength, 1) := by decide +kernel
theorem dJ1_charAt_3b067_3 : decode cJ1_charAt_3b067 3 = .ok (.invokestatic 9, 3) := by decide +kernel
theorem dJ1_charAt_3b067_6 : decode cJ1_charAt_3b067 6 = .ok (.aload_n 0, 1) := by decide +kernel
theorem dJ1_charAt_3b067_7 : decode cJ1_charAt_3b067 7 = .ok (.iload_n 1, 1) := by decide +kernel
theorem dJ1_charAt_3b067_8 : decode cJ1_charAt_3b067 8 = .ok (.baload, 1) := by decide +kernel
theorem dJ1_charAt_3b067_9 : decode cJ1_charAt_3b067 9 = .ok (.sipush 255, 3) := by decide +kernel
theorem dJ1_charAt_3b067_12 : decode cJ1_charAt_3b067 12 = .ok (.iand, 1) := by decide +kernel
theorem dJ1_charAt_3b067_13 : decode cJ1_charAt_3b067 13 = .ok (.i2c, 1) := by decide +kernel
theorem dJ1_charAt_3b067_14 : decode cJ1_charAt_3b067 14 = .ok (.ireturn, 1) := by decide +kernel
set_option maxRecDepth 20000 in
theorem ggJ2_getChar_3b067_J2_length_9d52b : GoodIn wsJ2_getChar_3b067 wsJ2_length_9d52b := goodIn_r _ [7] (by decide +kernel) (by decide +kernel)
set_option maxRecDepth 20000 in
theorem gJ2_getChar_3b067_J2_length_9d52b : GoodIn wsJ2_getChar_3b067 (va_wsS RJ2 48 yJ2_length_9d52b wsJ2_length_9d52b) := goodIn_app (goodIn_of _ (by decide +kernel)) ggJ2_getChar_3b067_J2_length_9d52b
theorem dJ2_getChar_3b067_0 : decode cJ2_getChar_3b067 0 = .ok (.getstatic 44, 3) := by decide +kernel
theorem dJ2_getChar_3b067_3 : decode cJ2_getChar_3b067 3 = .ok (.ifCond .ne 25, 3) := by decide +kernel
theorem dJ2_getChar_3b067_6 : decode cJ2_getChar_3b067 6 = .ok (.iload_n 1, 1) := by decide +kernel
theorem dJ2_getChar_3b067_7 : decode cJ2_getChar_3b067 7 = .ok (.ifCond .lt 11, 3) := by decide +kernel
theorem dJ2_getChar_3b067_10 : decode cJ2_getChar_3b067 10 = .ok (.iload_n 1, 1) := by decide +kernel
theorem dJ2_getChar_3b067_11 : decode cJ2_getChar_3b067 11 = .ok (.aload_n 0, 1) := by decide +kernel
theorem dJ2_getChar_3b067_12 : decode cJ2_getChar_3b067 12 = .ok (.invokestatic 48, 3) := by decide +kernel
theorem dJ2_getChar_3b067_15 : decode cJ2_getChar_3b067 15 = .ok (.if_icmp .lt 13, 3) := by decide +kernel
theorem dJ2_getChar_3b067_18 : decode cJ2_getChar_3b067 18 = .ok (.new 52, 3) := by decide +kernel
theorem dJ2_getChar_3b067_21 : decode cJ2_getChar_3b067 21 = .ok (.dup, 1) := by decide +kernel
theorem dJ2_getChar_3b067_22 : decode cJ2_getChar_3b067 22 = .ok (.ldc 54, 2) := by decide +kernel
theorem dJ2_getChar_3b067_24 : decode cJ2_getChar_3b067 24 = .ok (.invokespecial 56, 3) := by decide +kernel
theorem dJ2_getChar_3b067_27 : decode cJ2_getChar_3b067 27 = .ok (.athrow, 1) := by decide +kernel
theorem dJ2_getChar_3b067_28 : decode cJ2_getChar_3b067 28 = .ok (.iload_n 1, 1) := by decide +kernel
theorem dJ2_getChar_3b067_29 : decode cJ2_getChar_3b067 29 = .ok (.iconst 1, 1) := by decide +kernel
theorem dJ2_getChar_3b067_30 : decode cJ2_getChar_3b067 30 = .ok (.ishl, 1) := by decide +kernel
theorem dJ2_getChar_3b067_31 : decode cJ2_getChar_3b067 31 = .ok (.istore_n 1, 1) := by decide +kernel
theorem dJ2_getChar_3b067_32 : decode cJ2_getChar_3b067 32 = .ok (.aload_n 0, 1) := by decide +kernel
theorem dJ2_getChar_3b067_33 : decode cJ2_getChar_3b067 33 = .ok (.iload_n 1, 1) := by decide +kernel
theorem dJ2_getChar_3b067_34 : decode cJ2_getChar_3b067 34 = .ok (.iinc 1 1, 3) := by decide +kernel
theorem dJ2_getChar_3b067_37 : decode cJ2_getChar_3b067 37 = .ok (.baload, 1) := by decide +kernel
theorem dJ2_getChar_3b067_38 : decode cJ2_getChar_3b067 38 = .ok (.sipush 255, 3) := by decide +kernel
theorem dJ2_getChar_3b067_41 : decode cJ2_getChar_3b067 41 = .ok (.iand, 1) := by decide +kernel
theorem dJ2_getChar_3b067_42 : decode cJ2_getChar_3b067 42 = .ok (.getstatic 59, 3) := by decide +kernel
theorem dJ2_getChar_3b067_45 : decode cJ2_getChar_3b067 45 = .ok (.ishl, 1) := by decide +kernel
theorem dJ2_getChar_3b067_46 : decode cJ2_getChar_3b067 46 = .ok (.aload_n 0, 1) := by decide +kernel
theorem dJ2_getChar_3b067_47 : decode cJ2_getChar_3b067 47 = .ok (.iload_n 1, 1) := by decide +kernel
theorem dJ2_getChar_3b067_48 : decode cJ2_getChar_3b067 48 = .ok (.baload, 1) := by decide +kernel
theorem dJ2_getChar_3b067_49 : decode cJ2_getChar_3b067 49 = .ok (.sipush 255, 3) := by decide +kernel
theorem dJ2_getChar_3b067_52 : decode cJ2_getChar_3b067 52 = .ok (.iand, 1) := by decide +kernel
theorem dJ2_getChar_3b067_53 : decode cJ2_getChar_3b067 53 = .ok (.getstatic 63, 3) := by decide +kernel
theorem dJ2_getChar_3b067_56 : decode cJ2_getChar_3b067 56 = .ok (.ishl, 1) := by decide +kernel
theorem dJ2_getChar_3b067_57 : decode cJ2_getChar_3b067 57 = .ok (.ior, 1) := by decide +kernel
theorem dJ2_getChar_3b067_58 : decode cJ2_getChar_3b067 58 = .ok (.i2c, 1) := by decide +kernel
theorem dJ2_getChar_3b067_59 : decode cJ2_getChar_3b067 59 = .ok (.ireturn, 1) := by decide +kernel
theorem dJ2_length_9d52b_0 : decode cJ2_length_9d52b 0 = .ok (.aload_n 0, 1) := by decide +kernel
theorem dJ2_length_9d52b_1 : decode cJ2_length_9d52b 1 = .ok (.arraylength, 1) := by decide +kernel
theorem dJ2_length_9d52b_2 : decode cJ2_length_9d52b 2 = .ok (.iconst 1, 1) := by decide +kernel
theorem dJ2_length_9d52b_3 : decode cJ2_length_9d52b 3 = .ok (.ishr, 1) := by decide +kernel
theorem dJ2_length_9d52b_4 : decode cJ2_length_9d52b 4 = .ok (.ireturn, 1) := by decide +kernel
set_option maxRecDepth 20000 in
theorem ggJ2_charAt_3b067_J2_checkIndex_2214a : GoodIn wsJ2_charAt_3b067 wsJ2_checkIndex_2214a := goodIn_r _ [4, 5, 6, 3, 7, 8, 9, 10, 11, 12, 13, 14, 15, 16] (by decide +kernel) (by decide +kernel)
set_option maxRecDepth 20000 in
theorem gJ2_charAt_3b067_J2_checkIndex_2214a : GoodIn wsJ2_charAt_3b067 (va_wsS RJ2 67 yJ2_checkIndex_2214a wsJ2_checkIndex_2214a) := goodIn_app (goodIn_of _ (by decide +kernel)) ggJ2_charAt_3b067_J2_checkIndex_2214a
set_option maxRecDepth 20000 in
theorem ggJ2_charAt_3b067_J2_getChar_3b067 : GoodIn wsJ2_charAt_3b067 wsJ2_getChar_3b067 := goodIn_r _ [19, 20, 21, 22, 5, 6, 3, 7] (by decide +kernel) (by decide +kernel)
set_option maxRecDepth 20000 in
theorem gJ2_charAt_3b067_J2_getChar_3b067 : GoodIn wsJ2_charAt_3b067 (va_wsS RJ2 71 yJ2_getChar_3b067 wsJ2_getChar_3b067) := goodIn_app (goodIn_of _ (by decide +kernel)) ggJ2_charAt_3b067_J2_getChar_3b067
theorem dJ2_charAt_3b067_0 : decode cJ2_charAt_3b067 0 = .ok (.iload_n 1, 1) := by decide +kernel
theorem dJ2_charAt_3b067_1 : decode cJ2_charAt_3b067 1 = .ok (.aload_n 0, 1) := by decide +kernel
theorem dJ2_charAt_3b067_2 : decode cJ2_charAt_3b067 2 = .ok (.invokestatic 67, 3) := by decide +kernel
theorem dJ2_charAt_3b067_5 : decode cJ2_charAt_3b067 5 = .ok (.aload_n 0, 1) := by decide +kernel
theorem dJ2_charAt_3b067_6 : decode cJ2_charAt_3b067 6 = .ok (.iload_n 1, 1) := by decide +kernel
theorem dJ2_charAt_3b067_7 : decode cJ2_charAt_3b067 7 = .ok (.invokestatic 71, 3) := by decide +kernel
theorem dJ2_charAt_3b067_10 : decode cJ2_charAt_3b067 10 = .ok (.ireturn, 1) := by decide +kernel
set_option maxRecDepth 20000 in
theorem ggJ2_checkIndex_2214a_J2_length_9d52b : GoodIn wsJ2_checkIndex_2214a wsJ2_length_9d52b := goodIn_r _ [4] (by decide +kernel) (by decide +kernel)
set_option maxRecDepth 20000 in
theorem gJ2_checkIndex_2214a_J2_length_9d52b : GoodIn wsJ2_checkIndex_2214a (va_wsS RJ2 48 yJ2_length_9d52b wsJ2_length_9d52b) := goodIn_app (goodIn_of _ (by decide +kernel)) ggJ2_checkIndex_2214a_J2_length_9d52b
set_option maxRecDepth 20000 in
theorem ggJ2_checkIndex_2214a_J0_checkIndex_df160 : GoodIn wsJ2_checkIndex_2214a wsJ0_checkIndex_df160 := goodIn_r _ [8, 9, 10, 11, 12, 13] (by decide +kernel) (by decide +kernel)
set_option maxRecDepth 20000 in
theorem gJ2_checkIndex_2214a_J0_checkIndex_df160 : GoodIn wsJ2_checkIndex_2214a (va_wsS RJ2 414 yJ0_checkIndex_df160 wsJ0_checkIndex_df160) := goodIn_app (goodIn_of _ (by decide +kernel)) ggJ2_checkIndex_2214a_J0_checkIndex_df160
theorem dJ2_checkIndex_2214a_0 : decode cJ2_checkIndex_2214a 0 = .ok (.iload_n 0, 1) := by decide +kernel
theorem dJ2_checkIndex_2214a_1 : decode cJ2_checkIndex_2214a 1 = .ok (.aload_n 1, 1) := by decide +kernel
theorem dJ2_checkIndex_2214a_2 : decode cJ2_checkIndex_2214a 2 = .ok (.invokestatic 48, 3) := by decide +kernel
theorem dJ2_checkIndex_2214a_5 : decode cJ2_checkIndex_2214a 5 = .ok (.invokestatic 414, 3) := by decide +kernel
theorem dJ2_checkIndex_2214a_8 : decode cJ2_checkIndex_2214a 8 = .ok (.return_, 1) := by decide +kernel
theorem dJ3_checkIndex_8e157_0 : decode cJ3_checkIndex_8e157 0 = .ok (.iload_n 0, 1) := by decide +kernel
theorem dJ3_checkIndex_8e157_1 : decode cJ3_checkIndex_8e157 1 = .ok (.ifCond .lt 8, 3) := by decide +kernel
theorem dJ3_checkIndex_8e157_4 : decode cJ3_checkIndex_8e157 4 = .ok (.iload_n 0, 1) := by decide +kernel
theorem dJ3_checkIndex_8e157_5 : decode cJ3_checkIndex_8e157 5 = .ok (.iload_n 1, 1) := by decide +kernel
theorem dJ3_checkIndex_8e157_6 : decode cJ3_checkIndex_8e157 6 = .ok (.if_icmp .lt 10, 3) := by decide +kernel
theorem dJ3_checkIndex_8e157_9 : decode cJ3_checkIndex_8e157 9 = .ok (.aload_n 2, 1) := by decide +kernel
theorem dJ3_checkIndex_8e157_10 : decode cJ3_checkIndex_8e157 10 = .ok (.iload_n 0, 1) := by decide +kernel
theorem dJ3_checkIndex_8e157_11 : decode cJ3_checkIndex_8e157 11 = .ok (.iload_n 1, 1) := by decide +kernel
theorem dJ3_checkIndex_8e157_12 : decode cJ3_checkIndex_8e157 12 = .ok (.invokestatic 95, 3) := by decide +kernel
theorem dJ3_checkIndex_8e157_15 : decode cJ3_checkIndex_8e157 15 = .ok (.athrow, 1) := by decide +kernel
theorem dJ3_checkIndex_8e157_16 : decode cJ3_checkIndex_8e157 16 = .ok (.iload_n 0, 1) := by decide +kernel
theorem dJ3_checkIndex_8e157_17 : decode cJ3_checkIndex_8e157 17 = .ok (.ireturn, 1) := by decide +kernel
