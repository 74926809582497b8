set_option maxRecDepth 20000 in
theorem ggX4_init_X2_init : GoodIn wsX4_init wsX2_init := goodIn_r _ [22, 23, 2, 3, 24, 25, 18, 26, 27, 28, 29, 30, 31, 32, 44, 45, 46, 47, 48, 49, 50, 51, 52, 53, 54, 55] (by decide +kernel) (by decide +kernel)
set_option maxRecDepth 20000 in
theorem gX4_init_X2_init : GoodIn wsX4_init (wsX2_init) := ggX4_init_X2_init
set_option maxRecDepth 20000 in
theorem ggX4_init_X1_init : GoodIn wsX4_init wsX1_init := goodIn_r _ [34, 35, 2, 3, 18, 36, 37, 38, 63, 64, 65] (by decide +kernel) (by decide +kernel)
set_option maxRecDepth 20000 in
theorem gX4_init_X1_init_n24 : GoodIn wsX4_init (wsX1_init) := ggX4_init_X1_init
set_option maxRecDepth 20000 in
theorem ggX4_init_X3_init : GoodIn wsX4_init wsX3_init := goodIn_r _ [40, 41, 2, 3, 42, 43, 66, 67, 68, 69, 70, 71] (by decide +kernel) (by decide +kernel)
set_option maxRecDepth 20000 in
theorem gX4_init_X3_init_n31 : GoodIn wsX4_init (wsX3_init) := ggX4_init_X3_init
theorem dX4_init_0 : decode cX4_init 0 = .ok (.aload_n 0, 1) := by decide +kernel
theorem dX4_init_1 : decode cX4_init 1 = .ok (.invokespecial 1, 3) := by decide +kernel
theorem dX4_init_4 : decode cX4_init 4 = .ok (.aload_n 0, 1) := by decide +kernel
theorem dX4_init_5 : decode cX4_init 5 = .ok (.new 7, 3) := by decide +kernel
theorem dX4_init_8 : decode cX4_init 8 = .ok (.dup, 1) := by decide +kernel
theorem dX4_init_9 : decode cX4_init 9 = .ok (.invokespecial 9, 3) := by decide +kernel
theorem dX4_init_12 : decode cX4_init 12 = .ok (.putfield 10, 3) := by decide +kernel
theorem dX4_init_15 : decode cX4_init 15 = .ok (.aload_n 0, 1) := by decide +kernel
theorem dX4_init_16 : decode cX4_init 16 = .ok (.new 7, 3) := by decide +kernel
theorem dX4_init_19 : decode cX4_init 19 = .ok (.dup, 1) := by decide +kernel
theorem dX4_init_20 : decode cX4_init 20 = .ok (.invokespecial 9, 3) := by decide +kernel
theorem dX4_init_23 : decode cX4_init 23 = .ok (.putfield 16, 3) := by decide +kernel
theorem dX4_init_26 : decode cX4_init 26 = .ok (.aload_n 0, 1) := by decide +kernel
theorem dX4_init_27 : decode cX4_init 27 = .ok (.new 7, 3) := by decide +kernel
theorem dX4_init_30 : decode cX4_init 30 = .ok (.dup, 1) := by decide +kernel
theorem dX4_init_31 : decode cX4_init 31 = .ok (.invokespecial 9, 3) := by decide +kernel
theorem dX4_init_34 : decode cX4_init 34 = .ok (.putfield 19, 3) := by decide +kernel
theorem dX4_init_37 : decode cX4_init 37 = .ok (.aload_n 0, 1) := by decide +kernel
theorem dX4_init_38 : decode cX4_init 38 = .ok (.new 22, 3) := by decide +kernel
theorem dX4_init_41 : decode cX4_init 41 = .ok (.dup, 1) := by decide +kernel
theorem dX4_init_42 : decode cX4_init 42 = .ok (.invokespecial 24, 3) := by decide +kernel
theorem dX4_init_45 : decode cX4_init 45 = .ok (.putfield 25, 3) := by decide +kernel
theorem dX4_init_48 : decode cX4_init 48 = .ok (.aload_n 0, 1) := by decide +kernel
theorem dX4_init_49 : decode cX4_init 49 = .ok (.new 29, 3) := by decide +kernel
theorem dX4_init_52 : decode cX4_init 52 = .ok (.dup, 1) := by decide +kernel
theorem dX4_init_53 : decode cX4_init 53 = .ok (.invokespecial 31, 3) := by decide +kernel
theorem dX4_init_56 : decode cX4_init 56 = .ok (.putfield 32, 3) := by decide +kernel
theorem dX4_init_59 : decode cX4_init 59 = .ok (.aload_n 0, 1) := by decide +kernel
theorem dX4_init_60 : decode cX4_init 60 = .ok (.bipush 7, 2) := by decide +kernel
theorem dX4_init_62 : decode cX4_init 62 = .ok (.newarray .int, 2) := by decide +kernel
theorem dX4_init_64 : decode cX4_init 64 = .ok (.putfield 36, 3) := by decide +kernel
theorem dX4_init_67 : decode cX4_init 67 = .ok (.return_, 1) := by decide +kernel
set_option maxRecDepth 20000 in
theorem ggX4_vinegar_X4_isWithin : GoodIn wsX4_vinegar wsX4_isWithin := goodIn_r _ [7] (by decide +kernel) (by decide +kernel)
set_option maxRecDepth 20000 in
theorem gX4_vinegar_X4_isWithin : GoodIn wsX4_vinegar (va_wsS RX4 40 yX4_isWithin wsX4_isWithin) := goodIn_app (goodIn_of _ (by decide +kernel)) ggX4_vinegar_X4_isWithin
set_option maxRecDepth 20000 in
theorem ggX4_vinegar_X4_finding : GoodIn wsX4_vinegar wsX4_finding := goodIn_r _ [11, 1, 12, 4, 5, 6, 7, 13, 14, 15, 16, 17, 18, 19] (by decide +kernel) (by decide +kernel)
set_option maxRecDepth 20000 in
theorem gX4_vinegar_X4_finding : GoodIn wsX4_vinegar (wsV RX4 45 RX4 yX4_finding wsX4_finding) := goodIn_app (goodIn_of _ (by decide +kernel)) ggX4_vinegar_X4_finding
theorem dX4_vinegar_0 : decode cX4_vinegar 0 = .ok (.iload_n 1, 1) := by decide +kernel
theorem dX4_vinegar_1 : decode cX4_vinegar 1 = .ok (.iconst 0, 1) := by decide +kernel
theorem dX4_vinegar_2 : decode cX4_vinegar 2 = .ok (.bipush 9, 2) := by decide +kernel
theorem dX4_vinegar_4 : decode cX4_vinegar 4 = .ok (.invokestatic 40, 3) := by decide +kernel
theorem dX4_vinegar_7 : decode cX4_vinegar 7 = .ok (.ifCond .ne 10, 3) := by decide +kernel
theorem dX4_vinegar_10 : decode cX4_vinegar 10 = .ok (.aload_n 0, 1) := by decide +kernel
theorem dX4_vinegar_11 : decode cX4_vinegar 11 = .ok (.ldc 44, 2) := by decide +kernel
theorem dX4_vinegar_13 : decode cX4_vinegar 13 = .ok (.invokevirtual 45, 3) := by decide +kernel
theorem dX4_vinegar_16 : decode cX4_vinegar 16 = .ok (.ireturn, 1) := by decide +kernel
theorem dX4_vinegar_17 : decode cX4_vinegar 17 = .ok (.aload_n 0, 1) := by decide +kernel
theorem dX4_vinegar_18 : decode cX4_vinegar 18 = .ok (.getfield 10, 3) := by decide +kernel
theorem dX4_vinegar_21 : decode cX4_vinegar 21 = .ok (.getfield 49, 3) := by decide +kernel
theorem dX4_vinegar_24 : decode cX4_vinegar 24 = .ok (.istore_n 2, 1) := by decide +kernel
theorem dX4_vinegar_25 : decode cX4_vinegar 25 = .ok (.aload_n 0, 1) := by decide +kernel
theorem dX4_vinegar_26 : decode cX4_vinegar 26 = .ok (.getfield 10, 3) := by decide +kernel
theorem dX4_vinegar_29 : decode cX4_vinegar 29 = .ok (.iload_n 1, 1) := by decide +kernel
theorem dX4_vinegar_30 : decode cX4_vinegar 30 = .ok (.putfield 49, 3) := by decide +kernel
theorem dX4_vinegar_33 : decode cX4_vinegar 33 = .ok (.iload_n 2, 1) := by decide +kernel
theorem dX4_vinegar_34 : decode cX4_vinegar 34 = .ok (.ireturn, 1) := by decide +kernel
set_option maxRecDepth 20000 in
theorem ggX4_list_X4_isTaste : GoodIn wsX4_list wsX4_isTaste := goodIn_r _ [7, 8, 9, 6, 10] (by decide +kernel) (by decide +kernel)
set_option maxRecDepth 20000 in
theorem gX4_list_X4_isTaste : GoodIn wsX4_list (va_wsS RX4 53 yX4_isTaste wsX4_isTaste) := goodIn_app (goodIn_of _ (by decide +kernel)) ggX4_list_X4_isTaste
set_option maxRecDepth 20000 in
theorem ggX4_list_X4_isWithin : GoodIn wsX4_list wsX4_isWithin := goodIn_r _ [10] (by decide +kernel) (by decide +kernel)
set_option maxRecDepth 20000 in
theorem gX4_list_X4_isWithin : GoodIn wsX4_list (va_wsS RX4 40 yX4_isWithin wsX4_isWithin) := goodIn_app (goodIn_of _ (by decide +kernel)) ggX4_list_X4_isWithin
set_option maxRecDepth 20000 in
theorem ggX4_list_X4_finding : GoodIn wsX4_list wsX4_finding := goodIn_r _ [14, 1, 15, 8, 9, 6, 10, 16, 17, 18, 19, 20, 21, 22] (by decide +kernel) (by decide +kernel)
set_option maxRecDepth 20000 in
theorem gX4_list_X4_finding : GoodIn wsX4_list (wsV RX4 45 RX4 yX4_finding wsX4_finding) := goodIn_app (goodIn_of _ (by decide +kernel)) ggX4_list_X4_finding
theorem dX4_list_0 : decode cX4_list 0 = .ok (.iload_n 1, 1) := by decide +kernel
theorem dX4_list_1 : decode cX4_list 1 = .ok (.invokestatic 53, 3) := by decide +kernel
theorem dX4_list_4 : decode cX4_list 4 = .ok (.ifCond .eq 13, 3) := by decide +kernel
theorem dX4_list_7 : decode cX4_list 7 = .ok (.iload_n 2, 1) := by decide +kernel
theorem dX4_list_8 : decode cX4_list 8 = .ok (.iconst 0, 1) := by decide +kernel
theorem dX4_list_9 : decode cX4_list 9 = .ok (.bipush 20, 2) := by decide +kernel
theorem dX4_list_11 : decode cX4_list 11 = .ok (.invokestatic 40, 3) := by decide +kernel
theorem dX4_list_14 : decode cX4_list 14 = .ok (.ifCond .ne 10, 3) := by decide +kernel
theorem dX4_list_17 : decode cX4_list 17 = .ok (.aload_n 0, 1) := by decide +kernel
theorem dX4_list_18 : decode cX4_list 18 = .ok (.ldc 44, 2) := by decide +kernel
theorem dX4_list_20 : decode cX4_list 20 = .ok (.invokevirtual 45, 3) := by decide +kernel
theorem dX4_list_23 : decode cX4_list 23 = .ok (.ireturn, 1) := by decide +kernel
theorem dX4_list_24 : decode cX4_list 24 = .ok (.aload_n 0, 1) := by decide +kernel
theorem dX4_list_25 : decode cX4_list 25 = .ok (.getfield 10, 3) := by decide +kernel
theorem dX4_list_28 : decode cX4_list 28 = .ok (.getfield 57, 3) := by decide +kernel
theorem dX4_list_31 : decode cX4_list 31 = .ok (.iload_n 1, 1) := by decide +kernel
theorem dX4_list_32 : decode cX4_list 32 = .ok (.iaload, 1) := by decide +kernel
theorem dX4_list_33 : decode cX4_list 33 = .ok (.istore_n 3, 1) := by decide +kernel
theorem dX4_list_34 : decode cX4_list 34 = .ok (.aload_n 0, 1) := by decide +kernel
theorem dX4_list_35 : decode cX4_list 35 = .ok (.getfield 10, 3) := by decide +kernel
theorem dX4_list_38 : decode cX4_list 38 = .ok (.getfield 57, 3) := by decide +kernel
theorem dX4_list_41 : decode cX4_list 41 = .ok (.iload_n 1, 1) := by decide +kernel
theorem dX4_list_42 : decode cX4_list 42 = .ok (.iload_n 2, 1) := by decide +kernel
theorem dX4_list_43 : decode cX4_list 43 = .ok (.iastore, 1) := by decide +kernel
theorem dX4_list_44 : decode cX4_list 44 = .ok (.iload_n 3, 1) := by decide +kernel
theorem dX4_list_45 : decode cX4_list 45 = .ok (.ireturn, 1) := by decide +kernel
set_option maxRecDepth 20000 in
theorem ggX4_listed_X4_isTaste : GoodIn wsX4_listed wsX4_isTaste := goodIn_r _ [7, 8, 9, 6, 10] (by decide +kernel) (by decide +kernel)
set_option maxRecDepth 20000 in
theorem gX4_listed_X4_isTaste : GoodIn wsX4_listed (va_wsS RX4 53 yX4_isTaste wsX4_isTaste) := goodIn_app (goodIn_of _ (by decide +kernel)) ggX4_listed_X4_isTaste
set_option maxRecDepth 20000 in
theorem ggX4_listed_X4_finding : GoodIn wsX4_listed wsX4_finding := goodIn_r _ [14, 1, 15, 8, 9, 6, 10, 16, 17, 18, 19, 20, 21, 22] (by decide +kernel) (by decide +kernel)
set_option maxRecDepth 20000 in
theorem gX4_listed_X4_finding : GoodIn wsX4_listed (wsV RX4 45 RX4 yX4_finding wsX4_finding) := goodIn_app (goodIn_of _ (by decide +kernel)) ggX4_listed_X4_finding
theorem dX4_listed_0 : decode cX4_listed 0 = .ok (.iload_n 1, 1) := by decide +kernel
theorem dX4_listed_1 : decode cX4_listed 1 = .ok (.invokestatic 53, 3) := by decide +kernel
theorem dX4_listed_4 : decode cX4_listed 4 = .ok (.ifCond .ne 10, 3) := by decide +kernel
theorem dX4_listed_7 : decode cX4_listed 7 = .ok (.aload_n 0, 1) := by decide +kernel
theorem dX4_listed_8 : decode cX4_listed 8 = .ok (.ldc 44, 2) := by decide +kernel
theorem dX4_listed_10 : decode cX4_listed 10 = .ok (.invokevirtual 45, 3) := by decide +kernel
theorem dX4_listed_13 : decode cX4_listed 13 = .ok (.ireturn, 1) := by decide +kernel
theorem dX4_listed_14 : decode cX4_listed 14 = .ok (.aload_n 0, 1) := by decide +kernel
theorem dX4_listed_15 : decode cX4_listed 15 = .ok (.getfield 10, 3) := by decide +kernel
theorem dX4_listed_18 : decode cX4_listed 18 = .ok (.getfield 57, 3) := by decide +kernel
theorem dX4_listed_21 : decode cX4_listed 21 = .ok (.iload_n 1, 1) := by decide +kernel
theorem dX4_listed_22 : decode cX4_listed 22 = .ok (.iaload, 1) := by decide +kernel
theorem dX4_listed_23 : decode cX4_listed 23 = .ok (.ireturn, 1) := by decide +kernel
set_option maxRecDepth 20000 in
theorem ggX4_speaker_X4_isKind : GoodIn wsX4_speaker wsX4_isKind := goodIn_r _ [7, 8, 9, 6, 10] (by decide +kernel) (by decide +kernel)
set_option maxRecDepth 20000 in
theorem gX4_speaker_X4_isKind : GoodIn wsX4_speaker (va_wsS RX4 60 yX4_isKind wsX4_isKind) := goodIn_app (goodIn_of _ (by decide +kernel)) ggX4_speaker_X4_isKind
set_option maxRecDepth 20000 in
theorem ggX4_speaker_X4_finding : GoodIn wsX4_speaker wsX4_finding := goodIn_r _ [14, 1, 15, 8, 9, 6, 10, 34, 35, 36, 37, 38, 39, 40] (by decide +kernel) (by decide +kernel)
set_option maxRecDepth 20000 in
theorem gX4_speaker_X4_finding : GoodIn wsX4_speaker (wsV RX4 45 RX4 yX4_finding wsX4_finding) := goodIn_app (goodIn_of _ (by decide +kernel)) ggX4_speaker_X4_finding
set_option maxRecDepth 20000 in
theorem ggX4_speaker_X2_isFull : GoodIn wsX4_speaker wsX2_isFull := goodIn_r _ [20, 21, 41, 42, 43, 44, 45, 46, 47, 48, 49, 50, 51, 52] (by decide +kernel) (by decide +kernel)
set_option maxRecDepth 20000 in
theorem gX4_speaker_X2_isFull : GoodIn wsX4_speaker (wsV RX4 63 RX2 yX2_isFull wsX2_isFull) := goodIn_app (goodIn_of _ (by decide +kernel)) ggX4_speaker_X2_isFull
set_option maxRecDepth 20000 in
theorem ggX4_speaker_X2_seat : GoodIn wsX4_speaker wsX2_seat := goodIn_r _ [25, 21, 26, 27, 28, 29, 30, 31, 32, 19, 33, 41, 42, 43, 44, 45, 46, 47, 48, 49, 50, 51, 52] (by decide +kernel) (by decide +kernel)
set_option maxRecDepth 20000 in
theorem gX4_speaker_X2_seat : GoodIn wsX4_speaker (wsV RX4 68 RX2 yX2_seat wsX2_seat) := goodIn_app (goodIn_of _ (by decide +kernel)) ggX4_speaker_X2_seat
theorem dX4_speaker_0 : decode cX4_speaker 0 = .ok (.iload_n 1, 1) := by decide +kernel
theorem dX4_speaker_1 : decode cX4_speaker 1 = .ok (.invokestatic 60, 3) := by decide +kernel
theorem dX4_speaker_4 : decode cX4_speaker 4 = .ok (.ifCond .ne 10, 3) := by decide +kernel
theorem dX4_speaker_7 : decode cX4_speaker 7 = .ok (.aload_n 0, 1) := by decide +kernel
theorem dX4_speaker_8 : decode cX4_speaker 8 = .ok (.ldc 44, 2) := by decide +kernel
theorem dX4_speaker_10 : decode cX4_speaker 10 = .ok (.invokevirtual 45, 3) := by decide +kernel
theorem dX4_speaker_13 : decode cX4_speaker 13 = .ok (.ireturn, 1) := by decide +kernel
theorem dX4_speaker_14 : decode cX4_speaker 14 = .ok (.aload_n 0, 1) := by decide +kernel
theorem dX4_speaker_15 : decode cX4_speaker 15 = .ok (.getfield 10, 3) := by decide +kernel
theorem dX4_speaker_18 : decode cX4_speaker 18 = .ok (.invokevirtual 63, 3) := by decide +kernel
theorem dX4_speaker_21 : decode cX4_speaker 21 = .ok (.ifCond .eq 10, 3) := by decide +kernel
theorem dX4_speaker_24 : decode cX4_speaker 24 = .ok (.aload_n 0, 1) := by decide +kernel
theorem dX4_speaker_25 : decode cX4_speaker 25 = .ok (.ldc 67, 2) := by decide +kernel
theorem dX4_speaker_27 : decode cX4_speaker 27 = .ok (.invokevirtual 45, 3) := by decide +kernel
theorem dX4_speaker_30 : decode cX4_speaker 30 = .ok (.ireturn, 1) := by decide +kernel
theorem dX4_speaker_31 : decode cX4_speaker 31 = .ok (.aload_n 0, 1) := by decide +kernel
theorem dX4_speaker_32 : decode cX4_speaker 32 = .ok (.getfield 10, 3) := by decide +kernel
theorem dX4_speaker_35 : decode cX4_speaker 35 = .ok (.iload_n 1, 1) := by decide +kernel
theorem dX4_speaker_36 : decode cX4_speaker 36 = .ok (.invokevirtual 68, 3) := by decide +kernel
theorem dX4_speaker_39 : decode cX4_speaker 39 = .ok (.ireturn, 1) := by decide +kernel
set_option maxRecDepth 20000 in
theorem ggX4_of_X2_isSeat : GoodIn wsX4_of wsX2_isSeat := goodIn_r _ [7, 8, 58, 59, 60, 61, 62, 63, 64, 65, 66, 67, 68, 69] (by decide +kernel) (by decide +kernel)
set_option maxRecDepth 20000 in
theorem gX4_of_X2_isSeat : GoodIn wsX4_of (wsV RX4 71 RX2 yX2_isSeat wsX2_isSeat) := goodIn_app (goodIn_of _ (by decide +kernel)) ggX4_of_X2_isSeat
set_option maxRecDepth 20000 in
theorem ggX4_of_X4_isWithin : GoodIn wsX4_of wsX4_isWithin := goodIn_r _ [12] (by decide +kernel) (by decide +kernel)
set_option maxRecDepth 20000 in
theorem gX4_of_X4_isWithin : GoodIn wsX4_of (va_wsS RX4 40 yX4_isWithin wsX4_isWithin) := goodIn_app (goodIn_of _ (by decide +kernel)) ggX4_of_X4_isWithin
set_option maxRecDepth 20000 in
theorem ggX4_of_X4_finding : GoodIn wsX4_of wsX4_finding := goodIn_r _ [16, 2, 17, 9, 10, 11, 12, 51, 52, 53, 54, 55, 56, 57] (by decide +kernel) (by decide +kernel)
set_option maxRecDepth 20000 in
theorem gX4_of_X4_finding : GoodIn wsX4_of (wsV RX4 45 RX4 yX4_finding wsX4_finding) := goodIn_app (goodIn_of _ (by decide +kernel)) ggX4_of_X4_finding
set_option maxRecDepth 20000 in
theorem ggX4_of_X2_trait : GoodIn wsX4_of wsX2_trait := goodIn_r _ [21, 22, 23, 24, 25, 26, 27, 28, 6, 29, 30, 31, 32, 33, 34, 35, 36, 37, 38, 39, 40, 41, 42, 43, 44, 45, 46, 47, 48, 49, 50, 58, 59, 60, 61, 62, 63, 64, 65, 66, 67, 68, 69] (by decide +kernel) (by decide +kernel)
set_option maxRecDepth 20000 in
theorem gX4_of_X2_trait : GoodIn wsX4_of (wsV RX4 74 RX2 yX2_trait wsX2_trait) := goodIn_app (goodIn_of _ (by decide +kernel)) ggX4_of_X2_trait
theorem dX4_of_0 : decode cX4_of 0 = .ok (.aload_n 0, 1) := by decide +kernel
theorem dX4_of_1 : decode cX4_of 1 = .ok (.getfield 10, 3) := by decide +kernel
theorem dX4_of_4 : decode cX4_of 4 = .ok (.iload_n 1, 1) := by decide +kernel
theorem dX4_of_5 : decode cX4_of 5 = .ok (.invokevirtual 71, 3) := by decide +kernel
theorem dX4_of_8 : decode cX4_of 8 = .ok (.ifCond .eq 13, 3) := by decide +kernel
theorem dX4_of_11 : decode cX4_of 11 = .ok (.iload_n 2, 1) := by decide +kernel
theorem dX4_of_12 : decode cX4_of 12 = .ok (.iconst 0, 1) := by decide +kernel
theorem dX4_of_13 : decode cX4_of 13 = .ok (.bipush 6, 2) := by decide +kernel
theorem dX4_of_15 : decode cX4_of 15 = .ok (.invokestatic 40, 3) := by decide +kernel
theorem dX4_of_18 : decode cX4_of 18 = .ok (.ifCond .ne 10, 3) := by decide +kernel
theorem dX4_of_21 : decode cX4_of 21 = .ok (.aload_n 0, 1) := by decide +kernel
theorem dX4_of_22 : decode cX4_of 22 = .ok (.ldc 44, 2) := by decide +kernel
theorem dX4_of_24 : decode cX4_of 24 = .ok (.invokevirtual 45, 3) := by decide +kernel
theorem dX4_of_27 : decode cX4_of 27 = .ok (.ireturn, 1) := by decide +kernel
theorem dX4_of_28 : decode cX4_of 28 = .ok (.aload_n 0, 1) := by decide +kernel
theorem dX4_of_29 : decode cX4_of 29 = .ok (.getfield 10, 3) := by decide +kernel
theorem dX4_of_32 : decode cX4_of 32 = .ok (.iload_n 1, 1) := by decide +kernel
theorem dX4_of_33 : decode cX4_of 33 = .ok (.iload_n 2, 1) := by decide +kernel
theorem dX4_of_34 : decode cX4_of 34 = .ok (.invokevirtual 74, 3) := by decide +kernel
theorem dX4_of_37 : decode cX4_of 37 = .ok (.ireturn, 1) := by decide +kernel
set_option maxRecDepth 20000 in
theorem ggX4_change_X2_isSeat : GoodIn wsX4_change wsX2_isSeat := goodIn_r _ [11, 12, 40, 41, 42, 43, 44, 45, 46, 47, 48, 49, 50, 51] (by decide +kernel) (by decide +kernel)
set_option maxRecDepth 20000 in
theorem gX4_change_X2_isSeat : GoodIn wsX4_change (wsV RX4 71 RX2 yX2_isSeat wsX2_isSeat) := goodIn_app (goodIn_of _ (by decide +kernel)) ggX4_change_X2_isSeat
set_option maxRecDepth 20000 in
theorem ggX4_change_X4_canBecome : GoodIn wsX4_change wsX4_canBecome := goodIn_r _ [17, 1, 18, 19, 20, 16, 21, 22, 23, 24, 7, 8, 9, 10, 11, 12, 33, 34, 35, 36, 37, 38, 39, 40, 41, 42, 43, 44, 45, 46, 47, 48, 49, 50, 51] (by decide +kernel) (by decide +kernel)
set_option maxRecDepth 20000 in
theorem gX4_change_X4_canBecome : GoodIn wsX4_change (wsV RX4 78 RX4 yX4_canBecome wsX4_canBecome) := goodIn_app (goodIn_of _ (by decide +kernel)) ggX4_change_X4_canBecome
set_option maxRecDepth 20000 in
theorem ggX4_change_X4_finding : GoodIn wsX4_change wsX4_finding := goodIn_r _ [28, 2, 29, 22, 23, 16, 24, 33, 34, 35, 36, 37, 38, 39] (by decide +kernel) (by decide +kernel)
set_option maxRecDepth 20000 in
theorem gX4_change_X4_finding : GoodIn wsX4_change (wsV RX4 45 RX4 yX4_finding wsX4_finding) := goodIn_app (goodIn_of _ (by decide +kernel)) ggX4_change_X4_finding
set_option maxRecDepth 20000 in
theorem ggX4_change_X4_exchange : GoodIn wsX4_change wsX4_exchange := goodIn_r _ [32] (by decide +kernel) (by decide +kernel)
set_option maxRecDepth 20000 in
theorem gX4_change_X4_exchange : GoodIn wsX4_change (va_wsS RX4 84 yX4_exchange wsX4_exchange) := goodIn_app (goodIn_of _ (by decide +kernel)) ggX4_change_X4_exchange
theorem dX4_change_0 : decode cX4_change 0 = .ok (.aload_n 0, 1) := by decide +kernel
theorem dX4_change_1 : decode cX4_change 1 = .ok (.getfield 10, 3) := by decide +kernel
theorem dX4_change_4 : decode cX4_change 4 = .ok (.iload_n 1, 1) := by decide +kernel
theorem dX4_change_5 : decode cX4_change 5 = .ok (.invokevirtual 71, 3) := by decide +kernel
theorem dX4_change_8 : decode cX4_change 8 = .ok (.ifCond .eq 13, 3) := by decide +kernel
theorem dX4_change_11 : decode cX4_change 11 = .ok (.aload_n 0, 1) := by decide +kernel
theorem dX4_change_12 : decode cX4_change 12 = .ok (.iload_n 1, 1) := by decide +kernel
theorem dX4_change_13 : decode cX4_change 13 = .ok (.iload_n 2, 1) := by decide +kernel
theorem dX4_change_14 : decode cX4_change 14 = .ok (.iload_n 3, 1) := by decide +kernel
theorem dX4_change_15 : decode cX4_change 15 = .ok (.invokevirtual 78, 3) := by decide +kernel
theorem dX4_change_18 : decode cX4_change 18 = .ok (.ifCond .ne 10, 3) := by decide +kernel
theorem dX4_change_21 : decode cX4_change 21 = .ok (.aload_n 0, 1) := by decide +kernel
theorem dX4_change_22 : decode cX4_change 22 = .ok (.ldc 44, 2) := by decide +kernel
theorem dX4_change_24 : decode cX4_change 24 = .ok (.invokevirtual 45, 3) := by decide +kernel
theorem dX4_change_27 : decode cX4_change 27 = .ok (.ireturn, 1) := by decide +kernel
theorem dX4_change_28 : decode cX4_change 28 = .ok (.iload_n 2, 1) := by decide +kernel
theorem dX4_change_29 : decode cX4_change 29 = .ok (.tableswitch 66 0 2 #[27, 40, 53], 27) := by decide +kernel
theorem dX4_change_56 : decode cX4_change 56 = .ok (.aload_n 0, 1) := by decide +kernel
theorem dX4_change_57 : decode cX4_change 57 = .ok (.getfield 10, 3) := by decide +kernel
theorem dX4_change_60 : decode cX4_change 60 = .ok (.getfield 81, 3) := by decide +kernel
theorem dX4_change_63 : decode cX4_change 63 = .ok (.iload_n 1, 1) := by decide +kernel
theorem dX4_change_64 : decode cX4_change 64 = .ok (.iload_n 3, 1) := by decide +kernel
theorem dX4_change_65 : decode cX4_change 65 = .ok (.invokestatic 84, 3) := by decide +kernel
theorem dX4_change_68 : decode cX4_change 68 = .ok (.ireturn, 1) := by decide +kernel
theorem dX4_change_69 : decode cX4_change 69 = .ok (.aload_n 0, 1) := by decide +kernel
theorem dX4_change_70 : decode cX4_change 70 = .ok (.getfield 10, 3) := by decide +kernel
theorem dX4_change_73 : decode cX4_change 73 = .ok (.getfield 88, 3) := by decide +kernel
theorem dX4_change_76 : decode cX4_change 76 = .ok (.iload_n 1, 1) := by decide +kernel
theorem dX4_change_77 : decode cX4_change 77 = .ok (.iload_n 3, 1) := by decide +kernel
theorem dX4_change_78 : decode cX4_change 78 = .ok (.invokestatic 84, 3) := by decide +kernel
theorem dX4_change_81 : decode cX4_change 81 = .ok (.ireturn, 1) := by decide +kernel
theorem dX4_change_82 : decode cX4_change 82 = .ok (.aload_n 0, 1) := by decide +kernel
theorem dX4_change_83 : decode cX4_change 83 = .ok (.getfield 10, 3) := by decide +kernel
theorem dX4_change_86 : decode cX4_change 86 = .ok (.getfield 91, 3) := by decide +kernel
theorem dX4_change_89 : decode cX4_change 89 = .ok (.iload_n 1, 1) := by decide +kernel
theorem dX4_change_90 : decode cX4_change 90 = .ok (.iload_n 3, 1) := by decide +kernel
theorem dX4_change_91 : decode cX4_change 91 = .ok (.invokestatic 84, 3) := by decide +kernel
theorem dX4_change_94 : decode cX4_change 94 = .ok (.ireturn, 1) := by decide +kernel
theorem dX4_change_95 : decode cX4_change 95 = .ok (.aload_n 0, 1) := by decide +kernel
theorem dX4_change_96 : decode cX4_change 96 = .ok (.getfield 10, 3) := by decide +kernel
theorem dX4_change_99 : decode cX4_change 99 = .ok (.getfield 94, 3) := by decide +kernel
theorem dX4_change_102 : decode cX4_change 102 = .ok (.iload_n 1, 1) := by decide +kernel
theorem dX4_change_103 : decode cX4_change 103 = .ok (.iload_n 3, 1) := by decide +kernel
theorem dX4_change_104 : decode cX4_change 104 = .ok (.invokestatic 84, 3) := by decide +kernel
theorem dX4_change_107 : decode cX4_change 107 = .ok (.ireturn, 1) := by decide +kernel
set_option maxRecDepth 20000 in
theorem ggX4_canBecome_X4_isKind : GoodIn wsX4_canBecome wsX4_isKind := goodIn_r _ [6, 7, 8, 5, 9] (by decide +kernel) (by decide +kernel)
set_option maxRecDepth 20000 in
theorem gX4_canBecome_X4_isKind : GoodIn wsX4_canBecome (va_wsS RX4 60 yX4_isKind wsX4_isKind) := goodIn_app (goodIn_of _ (by decide +kernel)) ggX4_canBecome_X4_isKind
set_option maxRecDepth 20000 in
theorem ggX4_canBecome_X2_isSeat : GoodIn wsX4_canBecome wsX2_isSeat := goodIn_r _ [14, 15, 23, 24, 25, 26, 27, 28, 29, 30, 31, 32, 33, 34] (by decide +kernel) (by decide +kernel)
set_option maxRecDepth 20000 in
theorem gX4_canBecome_X2_isSeat : GoodIn wsX4_canBecome (wsV RX4 71 RX2 yX2_isSeat wsX2_isSeat) := goodIn_app (goodIn_of _ (by decide +kernel)) ggX4_canBecome_X2_isSeat
set_option maxRecDepth 20000 in
theorem ggX4_canBecome_X4_isWithin : GoodIn wsX4_canBecome wsX4_isWithin := goodIn_r _ [9] (by decide +kernel) (by decide +kernel)
set_option maxRecDepth 20000 in
theorem gX4_canBecome_X4_isWithin : GoodIn wsX4_canBecome (va_wsS RX4 40 yX4_isWithin wsX4_isWithin) := goodIn_app (goodIn_of _ (by decide +kernel)) ggX4_canBecome_X4_isWithin
theorem dX4_canBecome_0 : decode cX4_canBecome 0 = .ok (.iload_n 2, 1) := by decide +kernel
theorem dX4_canBecome_1 : decode cX4_canBecome 1 = .ok (.tableswitch 79 0 3 #[31, 36, 63, 71], 31) := by decide +kernel
theorem dX4_canBecome_32 : decode cX4_canBecome 32 = .ok (.iload_n 3, 1) := by decide +kernel
theorem dX4_canBecome_33 : decode cX4_canBecome 33 = .ok (.invokestatic 60, 3) := by decide +kernel
theorem dX4_canBecome_36 : decode cX4_canBecome 36 = .ok (.ireturn, 1) := by decide +kernel
theorem dX4_canBecome_37 : decode cX4_canBecome 37 = .ok (.iload_n 3, 1) := by decide +kernel
theorem dX4_canBecome_38 : decode cX4_canBecome 38 = .ok (.iconst (-1), 1) := by decide +kernel
theorem dX4_canBecome_39 : decode cX4_canBecome 39 = .ok (.if_icmp .eq 19, 3) := by decide +kernel
theorem dX4_canBecome_42 : decode cX4_canBecome 42 = .ok (.aload_n 0, 1) := by decide +kernel
theorem dX4_canBecome_43 : decode cX4_canBecome 43 = .ok (.getfield 10, 3) := by decide +kernel
theorem dX4_canBecome_46 : decode cX4_canBecome 46 = .ok (.iload_n 3, 1) := by decide +kernel
theorem dX4_canBecome_47 : decode cX4_canBecome 47 = .ok (.invokevirtual 71, 3) := by decide +kernel
theorem dX4_canBecome_50 : decode cX4_canBecome 50 = .ok (.ifCond .eq 12, 3) := by decide +kernel
theorem dX4_canBecome_53 : decode cX4_canBecome 53 = .ok (.iload_n 3, 1) := by decide +kernel
theorem dX4_canBecome_54 : decode cX4_canBecome 54 = .ok (.iload_n 1, 1) := by decide +kernel
theorem dX4_canBecome_55 : decode cX4_canBecome 55 = .ok (.if_icmp .eq 7, 3) := by decide +kernel
theorem dX4_canBecome_58 : decode cX4_canBecome 58 = .ok (.iconst 1, 1) := by decide +kernel
theorem dX4_canBecome_59 : decode cX4_canBecome 59 = .ok (.goto 4, 3) := by decide +kernel
theorem dX4_canBecome_62 : decode cX4_canBecome 62 = .ok (.iconst 0, 1) := by decide +kernel
theorem dX4_canBecome_63 : decode cX4_canBecome 63 = .ok (.ireturn, 1) := by decide +kernel
theorem dX4_canBecome_64 : decode cX4_canBecome 64 = .ok (.iload_n 3, 1) := by decide +kernel
theorem dX4_canBecome_65 : decode cX4_canBecome 65 = .ok (.iconst 0, 1) := by decide +kernel
theorem dX4_canBecome_66 : decode cX4_canBecome 66 = .ok (.bipush 99, 2) := by decide +kernel
theorem dX4_canBecome_68 : decode cX4_canBecome 68 = .ok (.invokestatic 40, 3) := by decide +kernel
theorem dX4_canBecome_71 : decode cX4_canBecome 71 = .ok (.ireturn, 1) := by decide +kernel
theorem dX4_canBecome_72 : decode cX4_canBecome 72 = .ok (.iload_n 3, 1) := by decide +kernel
theorem dX4_canBecome_73 : decode cX4_canBecome 73 = .ok (.iconst 0, 1) := by decide +kernel
theorem dX4_canBecome_74 : decode cX4_canBecome 74 = .ok (.ldc 97, 2) := by decide +kernel
theorem dX4_canBecome_76 : decode cX4_canBecome 76 = .ok (.invokestatic 40, 3) := by decide +kernel
theorem dX4_canBecome_79 : decode cX4_canBecome 79 = .ok (.ireturn, 1) := by decide +kernel
theorem dX4_canBecome_80 : decode cX4_canBecome 80 = .ok (.iconst 0, 1) := by decide +kernel
theorem dX4_canBecome_81 : decode cX4_canBecome 81 = .ok (.ireturn, 1) := by decide +kernel
theorem dX4_exchange_0 : decode cX4_exchange 0 = .ok (.aload_n 0, 1) := by decide +kernel
theorem dX4_exchange_1 : decode cX4_exchange 1 = .ok (.iload_n 1, 1) := by decide +kernel
theorem dX4_exchange_2 : decode cX4_exchange 2 = .ok (.iaload, 1) := by decide +kernel
theorem dX4_exchange_3 : decode cX4_exchange 3 = .ok (.istore_n 3, 1) := by decide +kernel
theorem dX4_exchange_4 : decode cX4_exchange 4 = .ok (.aload_n 0, 1) := by decide +kernel
theorem dX4_exchange_5 : decode cX4_exchange 5 = .ok (.iload_n 1, 1) := by decide +kernel
theorem dX4_exchange_6 : decode cX4_exchange 6 = .ok (.iload_n 2, 1) := by decide +kernel
theorem dX4_exchange_7 : decode cX4_exchange 7 = .ok (.iastore, 1) := by decide +kernel
theorem dX4_exchange_8 : decode cX4_exchange 8 = .ok (.iload_n 3, 1) := by decide +kernel
theorem dX4_exchange_9 : decode cX4_exchange 9 = .ok (.ireturn, 1) := by decide +kernel
set_option maxRecDepth 20000 in
theorem ggX4_serve_X2_isSeat : GoodIn wsX4_serve wsX2_isSeat := goodIn_r _ [8, 9, 35, 36, 37, 38, 39, 40, 41, 42, 43, 44, 45, 46] (by decide +kernel) (by decide +kernel)
set_option maxRecDepth 20000 in
theorem gX4_serve_X2_isSeat : GoodIn wsX4_serve (wsV RX4 71 RX2 yX2_isSeat wsX2_isSeat) := goodIn_app (goodIn_of _ (by decide +kernel)) ggX4_serve_X2_isSeat
set_option maxRecDepth 20000 in
theorem ggX4_serve_X4_isTaste : GoodIn wsX4_serve wsX4_isTaste := goodIn_r _ [13, 14, 15, 12, 16] (by decide +kernel) (by decide +kernel)
set_option maxRecDepth 20000 in
theorem gX4_serve_X4_isTaste : GoodIn wsX4_serve (va_wsS RX4 53 yX4_isTaste wsX4_isTaste) := goodIn_app (goodIn_of _ (by decide +kernel)) ggX4_serve_X4_isTaste
set_option maxRecDepth 20000 in
theorem ggX4_serve_X4_isWithin : GoodIn wsX4_serve wsX4_isWithin := goodIn_r _ [16] (by decide +kernel) (by decide +kernel)
set_option maxRecDepth 20000 in
theorem gX4_serve_X4_isWithin : GoodIn wsX4_serve (va_wsS RX4 40 yX4_isWithin wsX4_isWithin) := goodIn_app (goodIn_of _ (by decide +kernel)) ggX4_serve_X4_isWithin
set_option maxRecDepth 20000 in
theorem ggX4_serve_X4_finding : GoodIn wsX4_serve wsX4_finding := goodIn_r _ [20, 2, 21, 14, 15, 12, 16, 28, 29, 30, 31, 32, 33, 34] (by decide +kernel) (by decide +kernel)
set_option maxRecDepth 20000 in
theorem gX4_serve_X4_finding : GoodIn wsX4_serve (wsV RX4 45 RX4 yX4_finding wsX4_finding) := goodIn_app (goodIn_of _ (by decide +kernel)) ggX4_serve_X4_finding
set_option maxRecDepth 20000 in
theorem ggX4_serve_X2_at : GoodIn wsX4_serve wsX2_at := goodIn_r _ [24] (by decide +kernel) (by decide +kernel)
set_option maxRecDepth 20000 in
theorem gX4_serve_X2_at : GoodIn wsX4_serve (va_wsS RX4 101 yX2_at wsX2_at) := goodIn_app (goodIn_of _ (by decide +kernel)) ggX4_serve_X2_at
set_option maxRecDepth 20000 in
theorem ggX4_serve_X4_exchange : GoodIn wsX4_serve wsX4_exchange := goodIn_r _ [27] (by decide +kernel) (by decide +kernel)
set_option maxRecDepth 20000 in
theorem gX4_serve_X4_exchange : GoodIn wsX4_serve (va_wsS RX4 84 yX4_exchange wsX4_exchange) := goodIn_app (goodIn_of _ (by decide +kernel)) ggX4_serve_X4_exchange
theorem dX4_serve_0 : decode cX4_serve 0 = .ok (.aload_n 0, 1) := by decide +kernel
theorem dX4_serve_1 : decode cX4_serve 1 = .ok (.getfield 10, 3) := by decide +kernel
theorem dX4_serve_4 : decode cX4_serve 4 = .ok (.iload_n 1, 1) := by decide +kernel
theorem dX4_serve_5 : decode cX4_serve 5 = .ok (.invokevirtual 71, 3) := by decide +kernel
theorem dX4_serve_8 : decode cX4_serve 8 = .ok (.ifCond .eq 21, 3) := by decide +kernel
theorem dX4_serve_11 : decode cX4_serve 11 = .ok (.iload_n 2, 1) := by decide +kernel
theorem dX4_serve_12 : decode cX4_serve 12 = .ok (.invokestatic 53, 3) := by decide +kernel
theorem dX4_serve_15 : decode cX4_serve 15 = .ok (.ifCond .eq 14, 3) := by decide +kernel
theorem dX4_serve_18 : decode cX4_serve 18 = .ok (.iload_n 3, 1) := by decide +kernel
theorem dX4_serve_19 : decode cX4_serve 19 = .ok (.iconst 0, 1) := by decide +kernel
theorem dX4_serve_20 : decode cX4_serve 20 = .ok (.sipush 999, 3) := by decide +kernel
theorem dX4_serve_23 : decode cX4_serve 23 = .ok (.invokestatic 40, 3) := by decide +kernel
theorem dX4_serve_26 : decode cX4_serve 26 = .ok (.ifCond .ne 10, 3) := by decide +kernel
theorem dX4_serve_29 : decode cX4_serve 29 = .ok (.aload_n 0, 1) := by decide +kernel
theorem dX4_serve_30 : decode cX4_serve 30 = .ok (.ldc 44, 2) := by decide +kernel
theorem dX4_serve_32 : decode cX4_serve 32 = .ok (.invokevirtual 45, 3) := by decide +kernel
theorem dX4_serve_35 : decode cX4_serve 35 = .ok (.ireturn, 1) := by decide +kernel
theorem dX4_serve_36 : decode cX4_serve 36 = .ok (.aload_n 0, 1) := by decide +kernel
theorem dX4_serve_37 : decode cX4_serve 37 = .ok (.getfield 10, 3) := by decide +kernel
theorem dX4_serve_40 : decode cX4_serve 40 = .ok (.getfield 98, 3) := by decide +kernel
theorem dX4_serve_43 : decode cX4_serve 43 = .ok (.iload_n 1, 1) := by decide +kernel
theorem dX4_serve_44 : decode cX4_serve 44 = .ok (.iload_n 2, 1) := by decide +kernel
theorem dX4_serve_45 : decode cX4_serve 45 = .ok (.invokestatic 101, 3) := by decide +kernel
theorem dX4_serve_48 : decode cX4_serve 48 = .ok (.iload_n 3, 1) := by decide +kernel
theorem dX4_serve_49 : decode cX4_serve 49 = .ok (.invokestatic 84, 3) := by decide +kernel
theorem dX4_serve_52 : decode cX4_serve 52 = .ok (.ireturn, 1) := by decide +kernel
set_option maxRecDepth 20000 in
theorem ggX4_plate_X2_isSeat : GoodIn wsX4_plate wsX2_isSeat := goodIn_r _ [8, 9, 32, 33, 34, 35, 36, 37, 38, 39, 40, 41, 42, 43] (by decide +kernel) (by decide +kernel)
set_option maxRecDepth 20000 in
theorem gX4_plate_X2_isSeat : GoodIn wsX4_plate (wsV RX4 71 RX2 yX2_isSeat wsX2_isSeat) := goodIn_app (goodIn_of _ (by decide +kernel)) ggX4_plate_X2_isSeat
set_option maxRecDepth 20000 in
theorem ggX4_plate_X4_isTaste : GoodIn wsX4_plate wsX4_isTaste := goodIn_r _ [13, 14, 15, 12, 16] (by decide +kernel) (by decide +kernel)
set_option maxRecDepth 20000 in
theorem gX4_plate_X4_isTaste : GoodIn wsX4_plate (va_wsS RX4 53 yX4_isTaste wsX4_isTaste) := goodIn_app (goodIn_of _ (by decide +kernel)) ggX4_plate_X4_isTaste
set_option maxRecDepth 20000 in
theorem ggX4_plate_X4_finding : GoodIn wsX4_plate wsX4_finding := goodIn_r _ [20, 2, 21, 14, 15, 12, 16, 25, 26, 27, 28, 29, 30, 31] (by decide +kernel) (by decide +kernel)
set_option maxRecDepth 20000 in
theorem gX4_plate_X4_finding : GoodIn wsX4_plate (wsV RX4 45 RX4 yX4_finding wsX4_finding) := goodIn_app (goodIn_of _ (by decide +kernel)) ggX4_plate_X4_finding
set_option maxRecDepth 20000 in
theorem ggX4_plate_X2_at : GoodIn wsX4_plate wsX2_at := goodIn_r _ [24] (by decide +kernel) (by decide +kernel)
set_option maxRecDepth 20000 in
theorem gX4_plate_X2_at : GoodIn wsX4_plate (va_wsS RX4 101 yX2_at wsX2_at) := goodIn_app (goodIn_of _ (by decide +kernel)) ggX4_plate_X2_at
theorem dX4_plate_0 : decode cX4_plate 0 = .ok (.aload_n 0, 1) := by decide +kernel
theorem dX4_plate_1 : decode cX4_plate 1 = .ok (.getfield 10, 3) := by decide +kernel
theorem dX4_plate_4 : decode cX4_plate 4 = .ok (.iload_n 1, 1) := by decide +kernel
theorem dX4_plate_5 : decode cX4_plate 5 = .ok (.invokevirtual 71, 3) := by decide +kernel
theorem dX4_plate_8 : decode cX4_plate 8 = .ok (.ifCond .eq 10, 3) := by decide +kernel
theorem dX4_plate_11 : decode cX4_plate 11 = .ok (.iload_n 2, 1) := by decide +kernel
theorem dX4_plate_12 : decode cX4_plate 12 = .ok (.invokestatic 53, 3) := by decide +kernel
theorem dX4_plate_15 : decode cX4_plate 15 = .ok (.ifCond .ne 10, 3) := by decide +kernel
theorem dX4_plate_18 : decode cX4_plate 18 = .ok (.aload_n 0, 1) := by decide +kernel
theorem dX4_plate_19 : decode cX4_plate 19 = .ok (.ldc 44, 2) := by decide +kernel
theorem dX4_plate_21 : decode cX4_plate 21 = .ok (.invokevirtual 45, 3) := by decide +kernel
theorem dX4_plate_24 : decode cX4_plate 24 = .ok (.ireturn, 1) := by decide +kernel
theorem dX4_plate_25 : decode cX4_plate 25 = .ok (.aload_n 0, 1) := by decide +kernel
theorem dX4_plate_26 : decode cX4_plate 26 = .ok (.getfield 10, 3) := by decide +kernel
theorem dX4_plate_29 : decode cX4_plate 29 = .ok (.getfield 98, 3) := by decide +kernel
theorem dX4_plate_32 : decode cX4_plate 32 = .ok (.iload_n 1, 1) := by decide +kernel
theorem dX4_plate_33 : decode cX4_plate 33 = .ok (.iload_n 2, 1) := by decide +kernel
theorem dX4_plate_34 : decode cX4_plate 34 = .ok (.invokestatic 101, 3) := by decide +kernel
theorem dX4_plate_37 : decode cX4_plate 37 = .ok (.iaload, 1) := by decide +kernel
theorem dX4_plate_38 : decode cX4_plate 38 = .ok (.ireturn, 1) := by decide +kernel
set_option maxRecDepth 20000 in
theorem ggX4_chews_X2_isSeat : GoodIn wsX4_chews wsX2_isSeat := goodIn_r _ [9, 10, 37, 38, 39, 40, 41, 42, 43, 44, 45, 46, 47, 48] (by decide +kernel) (by decide +kernel)
set_option maxRecDepth 20000 in
theorem gX4_chews_X2_isSeat : GoodIn wsX4_chews (wsV RX4 71 RX2 yX2_isSeat wsX2_isSeat) := goodIn_app (goodIn_of _ (by decide +kernel)) ggX4_chews_X2_isSeat
set_option maxRecDepth 20000 in
theorem ggX4_chews_X4_isTaste : GoodIn wsX4_chews wsX4_isTaste := goodIn_r _ [14, 15, 16, 13, 17] (by decide +kernel) (by decide +kernel)
set_option maxRecDepth 20000 in
theorem gX4_chews_X4_isTaste : GoodIn wsX4_chews (va_wsS RX4 53 yX4_isTaste wsX4_isTaste) := goodIn_app (goodIn_of _ (by decide +kernel)) ggX4_chews_X4_isTaste
set_option maxRecDepth 20000 in
theorem ggX4_chews_X4_finding : GoodIn wsX4_chews wsX4_finding := goodIn_r _ [21, 2, 22, 15, 16, 13, 17, 30, 31, 32, 33, 34, 35, 36] (by decide +kernel) (by decide +kernel)
set_option maxRecDepth 20000 in
theorem gX4_chews_X4_finding : GoodIn wsX4_chews (wsV RX4 45 RX4 yX4_finding wsX4_finding) := goodIn_app (goodIn_of _ (by decide +kernel)) ggX4_chews_X4_finding
set_option maxRecDepth 20000 in
theorem ggX4_chews_X0_bites : GoodIn wsX4_chews wsX0_bites := goodIn_r _ [26, 27, 28, 25, 29] (by decide +kernel) (by decide +kernel)
set_option maxRecDepth 20000 in
theorem gX4_chews_X0_bites : GoodIn wsX4_chews (va_wsS RX4 104 yX0_bites wsX0_bites) := goodIn_app (goodIn_of _ (by decide +kernel)) ggX4_chews_X0_bites
theorem dX4_chews_0 : decode cX4_chews 0 = .ok (.aload_n 0, 1) := by decide +kernel
theorem dX4_chews_1 : decode cX4_chews 1 = .ok (.getfield 10, 3) := by decide +kernel
theorem dX4_chews_4 : decode cX4_chews 4 = .ok (.iload_n 1, 1) := by decide +kernel
theorem dX4_chews_5 : decode cX4_chews 5 = .ok (.invokevirtual 71, 3) := by decide +kernel
theorem dX4_chews_8 : decode cX4_chews 8 = .ok (.ifCond .eq 10, 3) := by decide +kernel
theorem dX4_chews_11 : decode cX4_chews 11 = .ok (.iload_n 2, 1) := by decide +kernel
theorem dX4_chews_12 : decode cX4_chews 12 = .ok (.invokestatic 53, 3) := by decide +kernel
theorem dX4_chews_15 : decode cX4_chews 15 = .ok (.ifCond .ne 10, 3) := by decide +kernel
theorem dX4_chews_18 : decode cX4_chews 18 = .ok (.aload_n 0, 1) := by decide +kernel
theorem dX4_chews_19 : decode cX4_chews 19 = .ok (.ldc 44, 2) := by decide +kernel
theorem dX4_chews_21 : decode cX4_chews 21 = .ok (.invokevirtual 45, 3) := by decide +kernel
theorem dX4_chews_24 : decode cX4_chews 24 = .ok (.ireturn, 1) := by decide +kernel
theorem dX4_chews_25 : decode cX4_chews 25 = .ok (.aload_n 0, 1) := by decide +kernel
theorem dX4_chews_26 : decode cX4_chews 26 = .ok (.getfield 10, 3) := by decide +kernel
theorem dX4_chews_29 : decode cX4_chews 29 = .ok (.getfield 81, 3) := by decide +kernel
theorem dX4_chews_32 : decode cX4_chews 32 = .ok (.iload_n 1, 1) := by decide +kernel
theorem dX4_chews_33 : decode cX4_chews 33 = .ok (.iaload, 1) := by decide +kernel
theorem dX4_chews_34 : decode cX4_chews 34 = .ok (.iload_n 2, 1) := by decide +kernel
theorem dX4_chews_35 : decode cX4_chews 35 = .ok (.aload_n 0, 1) := by decide +kernel
theorem dX4_chews_36 : decode cX4_chews 36 = .ok (.getfield 10, 3) := by decide +kernel
theorem dX4_chews_39 : decode cX4_chews 39 = .ok (.getfield 49, 3) := by decide +kernel
theorem dX4_chews_42 : decode cX4_chews 42 = .ok (.invokestatic 104, 3) := by decide +kernel
theorem dX4_chews_45 : decode cX4_chews 45 = .ok (.ireturn, 1) := by decide +kernel
set_option maxRecDepth 20000 in
theorem ggX4_talks_X2_isSeat : GoodIn wsX4_talks wsX2_isSeat := goodIn_r _ [9, 10, 37, 38, 39, 40, 41, 42, 43, 44, 45, 46, 47, 48] (by decide +kernel) (by decide +kernel)
set_option maxRecDepth 20000 in
theorem gX4_talks_X2_isSeat : GoodIn wsX4_talks (wsV RX4 71 RX2 yX2_isSeat wsX2_isSeat) := goodIn_app (goodIn_of _ (by decide +kernel)) ggX4_talks_X2_isSeat
set_option maxRecDepth 20000 in
theorem ggX4_talks_X4_isTaste : GoodIn wsX4_talks wsX4_isTaste := goodIn_r _ [14, 15, 16, 13, 17] (by decide +kernel) (by decide +kernel)
set_option maxRecDepth 20000 in
theorem gX4_talks_X4_isTaste : GoodIn wsX4_talks (va_wsS RX4 53 yX4_isTaste wsX4_isTaste) := goodIn_app (goodIn_of _ (by decide +kernel)) ggX4_talks_X4_isTaste
set_option maxRecDepth 20000 in
theorem ggX4_talks_X4_finding : GoodIn wsX4_talks wsX4_finding := goodIn_r _ [21, 2, 22, 15, 16, 13, 17, 30, 31, 32, 33, 34, 35, 36] (by decide +kernel) (by decide +kernel)
set_option maxRecDepth 20000 in
theorem gX4_talks_X4_finding : GoodIn wsX4_talks (wsV RX4 45 RX4 yX4_finding wsX4_finding) := goodIn_app (goodIn_of _ (by decide +kernel)) ggX4_talks_X4_finding
set_option maxRecDepth 20000 in
theorem ggX4_talks_X0_words : GoodIn wsX4_talks wsX0_words := goodIn_r _ [26, 27, 28, 25, 29] (by decide +kernel) (by decide +kernel)
set_option maxRecDepth 20000 in
theorem gX4_talks_X0_words : GoodIn wsX4_talks (va_wsS RX4 113 yX0_words wsX0_words) := goodIn_app (goodIn_of _ (by decide +kernel)) ggX4_talks_X0_words
theorem dX4_talks_0 : decode cX4_talks 0 = .ok (.aload_n 0, 1) := by decide +kernel
theorem dX4_talks_1 : decode cX4_talks 1 = .ok (.getfield 10, 3) := by decide +kernel
theorem dX4_talks_4 : decode cX4_talks 4 = .ok (.iload_n 1, 1) := by decide +kernel
theorem dX4_talks_5 : decode cX4_talks 5 = .ok (.invokevirtual 71, 3) := by decide +kernel
theorem dX4_talks_8 : decode cX4_talks 8 = .ok (.ifCond .eq 10, 3) := by decide +kernel
theorem dX4_talks_11 : decode cX4_talks 11 = .ok (.iload_n 2, 1) := by decide +kernel
theorem dX4_talks_12 : decode cX4_talks 12 = .ok (.invokestatic 53, 3) := by decide +kernel
theorem dX4_talks_15 : decode cX4_talks 15 = .ok (.ifCond .ne 10, 3) := by decide +kernel
theorem dX4_talks_18 : decode cX4_talks 18 = .ok (.aload_n 0, 1) := by decide +kernel
theorem dX4_talks_19 : decode cX4_talks 19 = .ok (.ldc 44, 2) := by decide +kernel
theorem dX4_talks_21 : decode cX4_talks 21 = .ok (.invokevirtual 45, 3) := by decide +kernel
theorem dX4_talks_24 : decode cX4_talks 24 = .ok (.ireturn, 1) := by decide +kernel
theorem dX4_talks_25 : decode cX4_talks 25 = .ok (.aload_n 0, 1) := by decide +kernel
theorem dX4_talks_26 : decode cX4_talks 26 = .ok (.getfield 10, 3) := by decide +kernel
theorem dX4_talks_29 : decode cX4_talks 29 = .ok (.getfield 81, 3) := by decide +kernel
theorem dX4_talks_32 : decode cX4_talks 32 = .ok (.iload_n 1, 1) := by decide +kernel
theorem dX4_talks_33 : decode cX4_talks 33 = .ok (.iaload, 1) := by decide +kernel
theorem dX4_talks_34 : decode cX4_talks 34 = .ok (.iload_n 2, 1) := by decide +kernel
theorem dX4_talks_35 : decode cX4_talks 35 = .ok (.aload_n 0, 1) := by decide +kernel
theorem dX4_talks_36 : decode cX4_talks 36 = .ok (.getfield 10, 3) := by decide +kernel
theorem dX4_talks_39 : decode cX4_talks 39 = .ok (.getfield 110, 3) := by decide +kernel
theorem dX4_talks_42 : decode cX4_talks 42 = .ok (.invokestatic 113, 3) := by decide +kernel
theorem dX4_talks_45 : decode cX4_talks 45 = .ok (.ireturn, 1) := by decide +kernel
set_option maxRecDepth 20000 in
theorem ggX4_go_X4_isWithin : GoodIn wsX4_go wsX4_isWithin := goodIn_r _ [9] (by decide +kernel) (by decide +kernel)
set_option maxRecDepth 20000 in
theorem gX4_go_X4_isWithin : GoodIn wsX4_go (va_wsS RX4 40 yX4_isWithin wsX4_isWithin) := goodIn_app (goodIn_of _ (by decide +kernel)) ggX4_go_X4_isWithin
set_option maxRecDepth 20000 in
theorem ggX4_go_X4_finding : GoodIn wsX4_go wsX4_finding := goodIn_r _ [13, 1, 14, 6, 7, 8, 9, 95, 96, 97, 98, 99, 100, 101] (by decide +kernel) (by decide +kernel)
set_option maxRecDepth 20000 in
theorem gX4_go_X4_finding : GoodIn wsX4_go (wsV RX4 45 RX4 yX4_finding wsX4_finding) := goodIn_app (goodIn_of _ (by decide +kernel)) ggX4_go_X4_finding
set_option maxRecDepth 20000 in
theorem ggX4_go_X2_passDays : GoodIn wsX4_go wsX2_passDays := goodIn_r _ [19, 20, 21, 22, 18, 23, 24, 25, 26, 27, 28, 29, 30, 31, 32, 33, 34, 35, 36, 37, 38, 39, 40, 41, 42, 43, 44, 45, 46, 47, 48, 49, 50, 51, 52, 53, 54, 55, 56, 57, 58, 59, 60, 61, 62, 63, 64, 65, 66, 67, 68, 69, 70, 71, 72, 73, 74, 75, 76, 77, 78, 79, 80, 81, 82, 83, 84, 85, 86, 87, 88, 89, 90, 102, 103, 104, 105, 106, 107, 108, 109, 110, 111, 112, 113] (by decide +kernel) (by decide +kernel)
set_option maxRecDepth 20000 in
theorem gX4_go_X2_passDays : GoodIn wsX4_go (wsV RX4 117 RX2 yX2_passDays wsX2_passDays) := goodIn_app (goodIn_of _ (by decide +kernel)) ggX4_go_X2_passDays
set_option maxRecDepth 20000 in
theorem ggX4_go_X2_allLeft : GoodIn wsX4_go wsX2_allLeft := goodIn_r _ [94, 24, 68, 69, 70, 18, 71, 48, 49, 50, 51, 102, 103, 104, 105, 106, 107, 108, 109, 110, 111, 112, 113] (by decide +kernel) (by decide +kernel)
set_option maxRecDepth 20000 in
theorem gX4_go_X2_allLeft : GoodIn wsX4_go (wsV RX4 121 RX2 yX2_allLeft wsX2_allLeft) := goodIn_app (goodIn_of _ (by decide +kernel)) ggX4_go_X2_allLeft
theorem dX4_go_0 : decode cX4_go 0 = .ok (.iload_n 1, 1) := by decide +kernel
theorem dX4_go_1 : decode cX4_go 1 = .ok (.iconst 1, 1) := by decide +kernel
theorem dX4_go_2 : decode cX4_go 2 = .ok (.bipush 60, 2) := by decide +kernel
theorem dX4_go_4 : decode cX4_go 4 = .ok (.invokestatic 40, 3) := by decide +kernel
theorem dX4_go_7 : decode cX4_go 7 = .ok (.ifCond .ne 10, 3) := by decide +kernel
theorem dX4_go_10 : decode cX4_go 10 = .ok (.aload_n 0, 1) := by decide +kernel
theorem dX4_go_11 : decode cX4_go 11 = .ok (.ldc 44, 2) := by decide +kernel
theorem dX4_go_13 : decode cX4_go 13 = .ok (.invokevirtual 45, 3) := by decide +kernel
theorem dX4_go_16 : decode cX4_go 16 = .ok (.ireturn, 1) := by decide +kernel
theorem dX4_go_17 : decode cX4_go 17 = .ok (.aload_n 0, 1) := by decide +kernel
theorem dX4_go_18 : decode cX4_go 18 = .ok (.getfield 10, 3) := by decide +kernel
theorem dX4_go_21 : decode cX4_go 21 = .ok (.getfield 110, 3) := by decide +kernel
theorem dX4_go_24 : decode cX4_go 24 = .ok (.ldc 97, 2) := by decide +kernel
theorem dX4_go_26 : decode cX4_go 26 = .ok (.iload_n 1, 1) := by decide +kernel
theorem dX4_go_27 : decode cX4_go 27 = .ok (.isub, 1) := by decide +kernel
theorem dX4_go_28 : decode cX4_go 28 = .ok (.if_icmp .le 10, 3) := by decide +kernel
theorem dX4_go_31 : decode cX4_go 31 = .ok (.aload_n 0, 1) := by decide +kernel
theorem dX4_go_32 : decode cX4_go 32 = .ok (.ldc 116, 2) := by decide +kernel
theorem dX4_go_34 : decode cX4_go 34 = .ok (.invokevirtual 45, 3) := by decide +kernel
theorem dX4_go_37 : decode cX4_go 37 = .ok (.ireturn, 1) := by decide +kernel
theorem dX4_go_38 : decode cX4_go 38 = .ok (.aload_n 0, 1) := by decide +kernel
theorem dX4_go_39 : decode cX4_go 39 = .ok (.getfield 10, 3) := by decide +kernel
theorem dX4_go_42 : decode cX4_go 42 = .ok (.iload_n 1, 1) := by decide +kernel
theorem dX4_go_43 : decode cX4_go 43 = .ok (.iconst 0, 1) := by decide +kernel
theorem dX4_go_44 : decode cX4_go 44 = .ok (.invokevirtual 117, 3) := by decide +kernel
theorem dX4_go_47 : decode cX4_go 47 = .ok (.aload_n 0, 1) := by decide +kernel
theorem dX4_go_48 : decode cX4_go 48 = .ok (.getfield 10, 3) := by decide +kernel
theorem dX4_go_51 : decode cX4_go 51 = .ok (.invokevirtual 121, 3) := by decide +kernel
theorem dX4_go_54 : decode cX4_go 54 = .ok (.ireturn, 1) := by decide +kernel
set_option maxRecDepth 20000 in
theorem ggX4_now_X2_allLeft : GoodIn wsX4_now wsX2_allLeft := goodIn_r _ [10, 11, 12, 13, 14, 9, 15, 16, 17, 18, 19, 57, 58, 59, 60, 61, 62, 63, 64, 65, 66, 67, 68] (by decide +kernel) (by decide +kernel)
set_option maxRecDepth 20000 in
theorem gX4_now_X2_allLeft : GoodIn wsX4_now (wsV RX4 121 RX2 yX2_allLeft wsX2_allLeft) := goodIn_app (goodIn_of _ (by decide +kernel)) ggX4_now_X2_allLeft
set_option maxRecDepth 20000 in
theorem ggX4_now_X2_cleanOnes : GoodIn wsX4_now wsX2_cleanOnes := goodIn_r _ [23, 11, 12, 13, 14, 9, 15, 16, 17, 18, 19, 57, 58, 59, 60, 61, 62, 63, 64, 65, 66, 67, 68] (by decide +kernel) (by decide +kernel)
set_option maxRecDepth 20000 in
theorem gX4_now_X2_cleanOnes : GoodIn wsX4_now (wsV RX4 125 RX2 yX2_cleanOnes wsX2_cleanOnes) := goodIn_app (goodIn_of _ (by decide +kernel)) ggX4_now_X2_cleanOnes
set_option maxRecDepth 20000 in
theorem ggX4_now_X2_allOf : GoodIn wsX4_now wsX2_allOf := goodIn_r _ [27, 11, 57, 58, 59, 60, 61, 62, 63, 64, 65, 66, 67, 68] (by decide +kernel) (by decide +kernel)
set_option maxRecDepth 20000 in
theorem gX4_now_X2_allOf : GoodIn wsX4_now (wsV RX4 128 RX2 yX2_allOf wsX2_allOf) := goodIn_app (goodIn_of _ (by decide +kernel)) ggX4_now_X2_allOf
set_option maxRecDepth 20000 in
theorem ggX4_now_X2_fullest : GoodIn wsX4_now wsX2_fullest := goodIn_r _ [31, 11, 12, 13, 14, 9, 15, 16, 17, 18, 19, 57, 58, 59, 60, 61, 62, 63, 64, 65, 66, 67, 68] (by decide +kernel) (by decide +kernel)
set_option maxRecDepth 20000 in
theorem gX4_now_X2_fullest : GoodIn wsX4_now (wsV RX4 132 RX2 yX2_fullest wsX2_fullest) := goodIn_app (goodIn_of _ (by decide +kernel)) ggX4_now_X2_fullest
set_option maxRecDepth 20000 in
theorem ggX4_now_X2_lovedOnes : GoodIn wsX4_now wsX2_lovedOnes := goodIn_r _ [35, 11, 36, 37, 38, 39, 9, 40, 57, 58, 59, 60, 61, 62, 63, 64, 65, 66, 67, 68] (by decide +kernel) (by decide +kernel)
set_option maxRecDepth 20000 in
theorem gX4_now_X2_lovedOnes : GoodIn wsX4_now (wsV RX4 135 RX2 yX2_lovedOnes wsX2_lovedOnes) := goodIn_app (goodIn_of _ (by decide +kernel)) ggX4_now_X2_lovedOnes
set_option maxRecDepth 20000 in
theorem ggX4_now_X4_finding : GoodIn wsX4_now wsX4_finding := goodIn_r _ [45, 5, 46, 47, 48, 44, 49, 50, 51, 52, 53, 54, 55, 56] (by decide +kernel) (by decide +kernel)
set_option maxRecDepth 20000 in
theorem gX4_now_X4_finding : GoodIn wsX4_now (wsV RX4 45 RX4 yX4_finding wsX4_finding) := goodIn_app (goodIn_of _ (by decide +kernel)) ggX4_now_X4_finding
theorem dX4_now_0 : decode cX4_now 0 = .ok (.iload_n 1, 1) := by decide +kernel
theorem dX4_now_1 : decode cX4_now 1 = .ok (.tableswitch 113 0 6 #[43, 51, 59, 67, 82, 97, 105], 43) := by decide +kernel
theorem dX4_now_44 : decode cX4_now 44 = .ok (.aload_n 0, 1) := by decide +kernel
theorem dX4_now_45 : decode cX4_now 45 = .ok (.getfield 10, 3) := by decide +kernel
theorem dX4_now_48 : decode cX4_now 48 = .ok (.getfield 110, 3) := by decide +kernel
theorem dX4_now_51 : decode cX4_now 51 = .ok (.ireturn, 1) := by decide +kernel
theorem dX4_now_52 : decode cX4_now 52 = .ok (.aload_n 0, 1) := by decide +kernel
theorem dX4_now_53 : decode cX4_now 53 = .ok (.getfield 10, 3) := by decide +kernel
theorem dX4_now_56 : decode cX4_now 56 = .ok (.invokevirtual 121, 3) := by decide +kernel
theorem dX4_now_59 : decode cX4_now 59 = .ok (.ireturn, 1) := by decide +kernel
theorem dX4_now_60 : decode cX4_now 60 = .ok (.aload_n 0, 1) := by decide +kernel
theorem dX4_now_61 : decode cX4_now 61 = .ok (.getfield 10, 3) := by decide +kernel
theorem dX4_now_64 : decode cX4_now 64 = .ok (.invokevirtual 125, 3) := by decide +kernel
theorem dX4_now_67 : decode cX4_now 67 = .ok (.ireturn, 1) := by decide +kernel
theorem dX4_now_68 : decode cX4_now 68 = .ok (.aload_n 0, 1) := by decide +kernel
theorem dX4_now_69 : decode cX4_now 69 = .ok (.getfield 10, 3) := by decide +kernel
theorem dX4_now_72 : decode cX4_now 72 = .ok (.aload_n 0, 1) := by decide +kernel
theorem dX4_now_73 : decode cX4_now 73 = .ok (.getfield 10, 3) := by decide +kernel
theorem dX4_now_76 : decode cX4_now 76 = .ok (.getfield 91, 3) := by decide +kernel
theorem dX4_now_79 : decode cX4_now 79 = .ok (.invokevirtual 128, 3) := by decide +kernel
theorem dX4_now_82 : decode cX4_now 82 = .ok (.ireturn, 1) := by decide +kernel
theorem dX4_now_83 : decode cX4_now 83 = .ok (.aload_n 0, 1) := by decide +kernel
theorem dX4_now_84 : decode cX4_now 84 = .ok (.getfield 10, 3) := by decide +kernel
theorem dX4_now_87 : decode cX4_now 87 = .ok (.aload_n 0, 1) := by decide +kernel
theorem dX4_now_88 : decode cX4_now 88 = .ok (.getfield 10, 3) := by decide +kernel
theorem dX4_now_91 : decode cX4_now 91 = .ok (.getfield 94, 3) := by decide +kernel
theorem dX4_now_94 : decode cX4_now 94 = .ok (.invokevirtual 128, 3) := by decide +kernel
theorem dX4_now_97 : decode cX4_now 97 = .ok (.ireturn, 1) := by decide +kernel
theorem dX4_now_98 : decode cX4_now 98 = .ok (.aload_n 0, 1) := by decide +kernel
theorem dX4_now_99 : decode cX4_now 99 = .ok (.getfield 10, 3) := by decide +kernel
theorem dX4_now_102 : decode cX4_now 102 = .ok (.invokevirtual 132, 3) := by decide +kernel
theorem dX4_now_105 : decode cX4_now 105 = .ok (.ireturn, 1) := by decide +kernel
theorem dX4_now_106 : decode cX4_now 106 = .ok (.aload_n 0, 1) := by decide +kernel
theorem dX4_now_107 : decode cX4_now 107 = .ok (.getfield 10, 3) := by decide +kernel
theorem dX4_now_110 : decode cX4_now 110 = .ok (.invokevirtual 135, 3) := by decide +kernel
theorem dX4_now_113 : decode cX4_now 113 = .ok (.ireturn, 1) := by decide +kernel
theorem dX4_now_114 : decode cX4_now 114 = .ok (.aload_n 0, 1) := by decide +kernel
theorem dX4_now_115 : decode cX4_now 115 = .ok (.ldc 44, 2) := by decide +kernel
theorem dX4_now_117 : decode cX4_now 117 = .ok (.invokevirtual 45, 3) := by decide +kernel
theorem dX4_now_120 : decode cX4_now 120 = .ok (.ireturn, 1) := by decide +kernel
set_option maxRecDepth 20000 in
theorem ggX4_ahead_X2_isSeat : GoodIn wsX4_ahead wsX2_isSeat := goodIn_r _ [8, 9, 115, 116, 117, 118, 119, 120, 121, 122, 123, 124, 125, 126] (by decide +kernel) (by decide +kernel)
set_option maxRecDepth 20000 in
theorem gX4_ahead_X2_isSeat : GoodIn wsX4_ahead (wsV RX4 71 RX2 yX2_isSeat wsX2_isSeat) := goodIn_app (goodIn_of _ (by decide +kernel)) ggX4_ahead_X2_isSeat
set_option maxRecDepth 20000 in
theorem ggX4_ahead_X4_isWithin : GoodIn wsX4_ahead wsX4_isWithin := goodIn_r _ [13] (by decide +kernel) (by decide +kernel)
set_option maxRecDepth 20000 in
theorem gX4_ahead_X4_isWithin : GoodIn wsX4_ahead (va_wsS RX4 40 yX4_isWithin wsX4_isWithin) := goodIn_app (goodIn_of _ (by decide +kernel)) ggX4_ahead_X4_isWithin
set_option maxRecDepth 20000 in
theorem ggX4_ahead_X4_finding : GoodIn wsX4_ahead wsX4_finding := goodIn_r _ [17, 2, 18, 10, 11, 12, 13, 108, 109, 110, 111, 112, 113, 114] (by decide +kernel) (by decide +kernel)
set_option maxRecDepth 20000 in
theorem gX4_ahead_X4_finding : GoodIn wsX4_ahead (wsV RX4 45 RX4 yX4_finding wsX4_finding) := goodIn_app (goodIn_of _ (by decide +kernel)) ggX4_ahead_X4_finding
set_option maxRecDepth 20000 in
theorem ggX4_ahead_X2_become : GoodIn wsX4_ahead wsX2_become := goodIn_r _ [22, 23, 24, 25, 9, 26, 27, 28, 29, 30, 31, 32, 33, 34, 35, 36, 115, 116, 117, 118, 119, 120, 121, 122, 123, 124, 125, 126] (by decide +kernel) (by decide +kernel)
set_option maxRecDepth 20000 in
theorem gX4_ahead_X2_become : GoodIn wsX4_ahead (wsV RX4 138 RX2 yX2_become wsX2_become) := goodIn_app (goodIn_of _ (by decide +kernel)) ggX4_ahead_X2_become
set_option maxRecDepth 20000 in
theorem ggX4_ahead_X2_passDays : GoodIn wsX4_ahead wsX2_passDays := goodIn_r _ [40, 41, 42, 43, 7, 44, 9, 45, 23, 46, 47, 48, 49, 50, 51, 52, 53, 31, 26, 54, 55, 56, 57, 58, 59, 60, 61, 62, 63, 64, 35, 65, 66, 67, 68, 69, 70, 71, 72, 32, 33, 73, 74, 75, 34, 76, 77, 78, 79, 24, 80, 81, 82, 83, 84, 85, 86, 87, 88, 89, 90, 91, 92, 93, 94, 95, 96, 97, 98, 99, 5, 6, 8, 115, 116, 117, 118, 119, 120, 121, 122, 123, 124, 125, 126] (by decide +kernel) (by decide +kernel)
set_option maxRecDepth 20000 in
theorem gX4_ahead_X2_passDays : GoodIn wsX4_ahead (wsV RX4 117 RX2 yX2_passDays wsX2_passDays) := goodIn_app (goodIn_of _ (by decide +kernel)) ggX4_ahead_X2_passDays
set_option maxRecDepth 20000 in
theorem ggX4_ahead_X2_trait : GoodIn wsX4_ahead wsX2_trait := goodIn_r _ [103, 31, 32, 33, 34, 76, 77, 78, 7, 79, 24, 80, 81, 82, 83, 35, 65, 66, 67, 84, 85, 56, 86, 87, 74, 48, 75, 104, 105, 106, 107, 115, 116, 117, 118, 119, 120, 121, 122, 123, 124, 125, 126] (by decide +kernel) (by decide +kernel)
set_option maxRecDepth 20000 in
theorem gX4_ahead_X2_trait : GoodIn wsX4_ahead (wsV RX4 74 RX2 yX2_trait wsX2_trait) := goodIn_app (goodIn_of _ (by decide +kernel)) ggX4_ahead_X2_trait
theorem dX4_ahead_0 : decode cX4_ahead 0 = .ok (.iload_n 2, 1) := by decide +kernel
theorem dX4_ahead_1 : decode cX4_ahead 1 = .ok (.iconst 2, 1) := by decide +kernel
theorem dX4_ahead_2 : decode cX4_ahead 2 = .ok (.if_icmp .eq 13, 3) := by decide +kernel
theorem dX4_ahead_5 : decode cX4_ahead 5 = .ok (.iload_n 2, 1) := by decide +kernel
theorem dX4_ahead_6 : decode cX4_ahead 6 = .ok (.iconst 3, 1) := by decide +kernel
theorem dX4_ahead_7 : decode cX4_ahead 7 = .ok (.if_icmp .eq 8, 3) := by decide +kernel
theorem dX4_ahead_10 : decode cX4_ahead 10 = .ok (.iload_n 2, 1) := by decide +kernel
theorem dX4_ahead_11 : decode cX4_ahead 11 = .ok (.iconst 5, 1) := by decide +kernel
theorem dX4_ahead_12 : decode cX4_ahead 12 = .ok (.if_icmp .ne 7, 3) := by decide +kernel
theorem dX4_ahead_15 : decode cX4_ahead 15 = .ok (.iconst 1, 1) := by decide +kernel
theorem dX4_ahead_16 : decode cX4_ahead 16 = .ok (.goto 4, 3) := by decide +kernel
theorem dX4_ahead_19 : decode cX4_ahead 19 = .ok (.iconst 0, 1) := by decide +kernel
theorem dX4_ahead_20 : decode cX4_ahead 20 = .ok (.istore 4, 2) := by decide +kernel
theorem dX4_ahead_22 : decode cX4_ahead 22 = .ok (.aload_n 0, 1) := by decide +kernel
theorem dX4_ahead_23 : decode cX4_ahead 23 = .ok (.getfield 10, 3) := by decide +kernel
theorem dX4_ahead_26 : decode cX4_ahead 26 = .ok (.iload_n 1, 1) := by decide +kernel
theorem dX4_ahead_27 : decode cX4_ahead 27 = .ok (.invokevirtual 71, 3) := by decide +kernel
theorem dX4_ahead_30 : decode cX4_ahead 30 = .ok (.ifCond .eq 18, 3) := by decide +kernel
theorem dX4_ahead_33 : decode cX4_ahead 33 = .ok (.iload 4, 2) := by decide +kernel
theorem dX4_ahead_35 : decode cX4_ahead 35 = .ok (.ifCond .eq 13, 3) := by decide +kernel
theorem dX4_ahead_38 : decode cX4_ahead 38 = .ok (.iload_n 3, 1) := by decide +kernel
theorem dX4_ahead_39 : decode cX4_ahead 39 = .ok (.iconst 0, 1) := by decide +kernel
theorem dX4_ahead_40 : decode cX4_ahead 40 = .ok (.bipush 100, 2) := by decide +kernel
theorem dX4_ahead_42 : decode cX4_ahead 42 = .ok (.invokestatic 40, 3) := by decide +kernel
theorem dX4_ahead_45 : decode cX4_ahead 45 = .ok (.ifCond .ne 10, 3) := by decide +kernel
theorem dX4_ahead_48 : decode cX4_ahead 48 = .ok (.aload_n 0, 1) := by decide +kernel
theorem dX4_ahead_49 : decode cX4_ahead 49 = .ok (.ldc 44, 2) := by decide +kernel
theorem dX4_ahead_51 : decode cX4_ahead 51 = .ok (.invokevirtual 45, 3) := by decide +kernel
theorem dX4_ahead_54 : decode cX4_ahead 54 = .ok (.ireturn, 1) := by decide +kernel
theorem dX4_ahead_55 : decode cX4_ahead 55 = .ok (.aload_n 0, 1) := by decide +kernel
theorem dX4_ahead_56 : decode cX4_ahead 56 = .ok (.getfield 19, 3) := by decide +kernel
theorem dX4_ahead_59 : decode cX4_ahead 59 = .ok (.aload_n 0, 1) := by decide +kernel
theorem dX4_ahead_60 : decode cX4_ahead 60 = .ok (.getfield 10, 3) := by decide +kernel
theorem dX4_ahead_63 : decode cX4_ahead 63 = .ok (.invokevirtual 138, 3) := by decide +kernel
theorem dX4_ahead_66 : decode cX4_ahead 66 = .ok (.aload_n 0, 1) := by decide +kernel
theorem dX4_ahead_67 : decode cX4_ahead 67 = .ok (.getfield 19, 3) := by decide +kernel
theorem dX4_ahead_70 : decode cX4_ahead 70 = .ok (.iload_n 3, 1) := by decide +kernel
theorem dX4_ahead_71 : decode cX4_ahead 71 = .ok (.iconst 0, 1) := by decide +kernel
theorem dX4_ahead_72 : decode cX4_ahead 72 = .ok (.invokevirtual 117, 3) := by decide +kernel
theorem dX4_ahead_75 : decode cX4_ahead 75 = .ok (.aload_n 0, 1) := by decide +kernel
theorem dX4_ahead_76 : decode cX4_ahead 76 = .ok (.getfield 19, 3) := by decide +kernel
theorem dX4_ahead_79 : decode cX4_ahead 79 = .ok (.iload_n 1, 1) := by decide +kernel
theorem dX4_ahead_80 : decode cX4_ahead 80 = .ok (.iload_n 2, 1) := by decide +kernel
theorem dX4_ahead_81 : decode cX4_ahead 81 = .ok (.invokevirtual 74, 3) := by decide +kernel
theorem dX4_ahead_84 : decode cX4_ahead 84 = .ok (.ireturn, 1) := by decide +kernel
set_option maxRecDepth 20000 in
theorem ggX4_served_X2_isSeat : GoodIn wsX4_served wsX2_isSeat := goodIn_r _ [9, 10, 112, 113, 114, 115, 116, 117, 118, 119, 120, 121, 122, 123] (by decide +kernel) (by decide +kernel)
set_option maxRecDepth 20000 in
theorem gX4_served_X2_isSeat : GoodIn wsX4_served (wsV RX4 71 RX2 yX2_isSeat wsX2_isSeat) := goodIn_app (goodIn_of _ (by decide +kernel)) ggX4_served_X2_isSeat
set_option maxRecDepth 20000 in
theorem ggX4_served_X4_isTaste : GoodIn wsX4_served wsX4_isTaste := goodIn_r _ [14, 15, 16, 13, 17] (by decide +kernel) (by decide +kernel)
set_option maxRecDepth 20000 in
theorem gX4_served_X4_isTaste : GoodIn wsX4_served (va_wsS RX4 53 yX4_isTaste wsX4_isTaste) := goodIn_app (goodIn_of _ (by decide +kernel)) ggX4_served_X4_isTaste
set_option maxRecDepth 20000 in
theorem ggX4_served_X4_isWithin : GoodIn wsX4_served wsX4_isWithin := goodIn_r _ [17] (by decide +kernel) (by decide +kernel)
set_option maxRecDepth 20000 in
theorem gX4_served_X4_isWithin : GoodIn wsX4_served (va_wsS RX4 40 yX4_isWithin wsX4_isWithin) := goodIn_app (goodIn_of _ (by decide +kernel)) ggX4_served_X4_isWithin
set_option maxRecDepth 20000 in
theorem ggX4_served_X4_finding : GoodIn wsX4_served wsX4_finding := goodIn_r _ [21, 2, 22, 15, 16, 13, 17, 105, 106, 107, 108, 109, 110, 111] (by decide +kernel) (by decide +kernel)
set_option maxRecDepth 20000 in
theorem gX4_served_X4_finding : GoodIn wsX4_served (wsV RX4 45 RX4 yX4_finding wsX4_finding) := goodIn_app (goodIn_of _ (by decide +kernel)) ggX4_served_X4_finding
set_option maxRecDepth 20000 in
theorem ggX4_served_X2_become : GoodIn wsX4_served wsX2_become := goodIn_r _ [26, 27, 28, 29, 10, 30, 31, 32, 33, 34, 35, 36, 37, 38, 39, 40, 112, 113, 114, 115, 116, 117, 118, 119, 120, 121, 122, 123] (by decide +kernel) (by decide +kernel)
set_option maxRecDepth 20000 in
theorem gX4_served_X2_become : GoodIn wsX4_served (wsV RX4 138 RX2 yX2_become wsX2_become) := goodIn_app (goodIn_of _ (by decide +kernel)) ggX4_served_X2_become
set_option maxRecDepth 20000 in
theorem ggX4_served_X2_passDays : GoodIn wsX4_served wsX2_passDays := goodIn_r _ [44, 45, 46, 47, 8, 48, 10, 49, 27, 50, 51, 52, 53, 54, 55, 56, 57, 35, 30, 58, 59, 60, 61, 62, 63, 64, 65, 66, 67, 68, 39, 69, 70, 71, 72, 73, 74, 75, 76, 36, 37, 77, 78, 79, 38, 80, 81, 82, 83, 28, 84, 85, 86, 87, 88, 89, 90, 91, 92, 93, 94, 95, 96, 97, 98, 99, 100, 101, 102, 103, 6, 7, 9, 112, 113, 114, 115, 116, 117, 118, 119, 120, 121, 122, 123] (by decide +kernel) (by decide +kernel)
set_option maxRecDepth 20000 in
theorem gX4_served_X2_passDays : GoodIn wsX4_served (wsV RX4 117 RX2 yX2_passDays wsX2_passDays) := goodIn_app (goodIn_of _ (by decide +kernel)) ggX4_served_X2_passDays
set_option maxRecDepth 20000 in
theorem ggX4_served_X2_at : GoodIn wsX4_served wsX2_at := goodIn_r _ [71] (by decide +kernel) (by decide +kernel)
set_option maxRecDepth 20000 in
theorem gX4_served_X2_at : GoodIn wsX4_served (va_wsS RX4 101 yX2_at wsX2_at) := goodIn_app (goodIn_of _ (by decide +kernel)) ggX4_served_X2_at
theorem dX4_served_0 : decode cX4_served 0 = .ok (.aload_n 0, 1) := by decide +kernel
theorem dX4_served_1 : decode cX4_served 1 = .ok (.getfield 10, 3) := by decide +kernel
theorem dX4_served_4 : decode cX4_served 4 = .ok (.iload_n 1, 1) := by decide +kernel
theorem dX4_served_5 : decode cX4_served 5 = .ok (.invokevirtual 71, 3) := by decide +kernel
theorem dX4_served_8 : decode cX4_served 8 = .ok (.ifCond .eq 20, 3) := by decide +kernel
theorem dX4_served_11 : decode cX4_served 11 = .ok (.iload_n 2, 1) := by decide +kernel
theorem dX4_served_12 : decode cX4_served 12 = .ok (.invokestatic 53, 3) := by decide +kernel
theorem dX4_served_15 : decode cX4_served 15 = .ok (.ifCond .eq 13, 3) := by decide +kernel
theorem dX4_served_18 : decode cX4_served 18 = .ok (.iload_n 3, 1) := by decide +kernel
theorem dX4_served_19 : decode cX4_served 19 = .ok (.iconst 0, 1) := by decide +kernel
theorem dX4_served_20 : decode cX4_served 20 = .ok (.bipush 100, 2) := by decide +kernel
theorem dX4_served_22 : decode cX4_served 22 = .ok (.invokestatic 40, 3) := by decide +kernel
theorem dX4_served_25 : decode cX4_served 25 = .ok (.ifCond .ne 10, 3) := by decide +kernel
theorem dX4_served_28 : decode cX4_served 28 = .ok (.aload_n 0, 1) := by decide +kernel
theorem dX4_served_29 : decode cX4_served 29 = .ok (.ldc 44, 2) := by decide +kernel
theorem dX4_served_31 : decode cX4_served 31 = .ok (.invokevirtual 45, 3) := by decide +kernel
theorem dX4_served_34 : decode cX4_served 34 = .ok (.ireturn, 1) := by decide +kernel
theorem dX4_served_35 : decode cX4_served 35 = .ok (.aload_n 0, 1) := by decide +kernel
theorem dX4_served_36 : decode cX4_served 36 = .ok (.getfield 19, 3) := by decide +kernel
theorem dX4_served_39 : decode cX4_served 39 = .ok (.aload_n 0, 1) := by decide +kernel
theorem dX4_served_40 : decode cX4_served 40 = .ok (.getfield 10, 3) := by decide +kernel
theorem dX4_served_43 : decode cX4_served 43 = .ok (.invokevirtual 138, 3) := by decide +kernel
theorem dX4_served_46 : decode cX4_served 46 = .ok (.aload_n 0, 1) := by decide +kernel
theorem dX4_served_47 : decode cX4_served 47 = .ok (.getfield 19, 3) := by decide +kernel
theorem dX4_served_50 : decode cX4_served 50 = .ok (.iload_n 3, 1) := by decide +kernel
theorem dX4_served_51 : decode cX4_served 51 = .ok (.iconst 0, 1) := by decide +kernel
theorem dX4_served_52 : decode cX4_served 52 = .ok (.invokevirtual 117, 3) := by decide +kernel
theorem dX4_served_55 : decode cX4_served 55 = .ok (.aload_n 0, 1) := by decide +kernel
theorem dX4_served_56 : decode cX4_served 56 = .ok (.getfield 19, 3) := by decide +kernel
theorem dX4_served_59 : decode cX4_served 59 = .ok (.getfield 98, 3) := by decide +kernel
theorem dX4_served_62 : decode cX4_served 62 = .ok (.iload_n 1, 1) := by decide +kernel
theorem dX4_served_63 : decode cX4_served 63 = .ok (.iload_n 2, 1) := by decide +kernel
theorem dX4_served_64 : decode cX4_served 64 = .ok (.invokestatic 101, 3) := by decide +kernel
theorem dX4_served_67 : decode cX4_served 67 = .ok (.iaload, 1) := by decide +kernel
theorem dX4_served_68 : decode cX4_served 68 = .ok (.ireturn, 1) := by decide +kernel
set_option maxRecDepth 20000 in
theorem ggX4_clean_X2_isSeat : GoodIn wsX4_clean wsX2_isSeat := goodIn_r _ [7, 8, 116, 117, 118, 119, 120, 121, 122, 123, 124, 125, 126, 127] (by decide +kernel) (by decide +kernel)
set_option maxRecDepth 20000 in
theorem gX4_clean_X2_isSeat : GoodIn wsX4_clean (wsV RX4 71 RX2 yX2_isSeat wsX2_isSeat) := goodIn_app (goodIn_of _ (by decide +kernel)) ggX4_clean_X2_isSeat
set_option maxRecDepth 20000 in
theorem ggX4_clean_X4_finding : GoodIn wsX4_clean wsX4_finding := goodIn_r _ [13, 2, 14, 15, 16, 12, 17, 109, 110, 111, 112, 113, 114, 115] (by decide +kernel) (by decide +kernel)
set_option maxRecDepth 20000 in
theorem gX4_clean_X4_finding : GoodIn wsX4_clean (wsV RX4 45 RX4 yX4_finding wsX4_finding) := goodIn_app (goodIn_of _ (by decide +kernel)) ggX4_clean_X4_finding
set_option maxRecDepth 20000 in
theorem ggX4_clean_X4_firstDay : GoodIn wsX4_clean wsX4_firstDay := goodIn_r _ [21, 22, 1, 23, 24, 25, 26, 6, 27, 28, 29, 30, 8, 31, 32, 33, 34, 35, 36, 37, 38, 39, 40, 41, 42, 43, 44, 45, 46, 47, 48, 49, 50, 51, 52, 53, 54, 55, 56, 57, 58, 59, 60, 61, 62, 63, 64, 65, 66, 67, 68, 15, 16, 12, 17, 69, 70, 71, 72, 73, 74, 75, 76, 77, 78, 79, 80, 81, 82, 83, 84, 85, 86, 87, 88, 89, 90, 91, 92, 93, 94, 95, 96, 97, 98, 99, 100, 101, 102, 103, 104, 105, 106, 107, 108, 4, 5, 7, 9, 10, 11, 13, 2, 14, 109, 110, 111, 112, 113, 114, 115, 116, 117, 118, 119, 120, 121, 122, 123, 124, 125, 126, 127] (by decide +kernel) (by decide +kernel)
set_option maxRecDepth 20000 in
theorem gX4_clean_X4_firstDay : GoodIn wsX4_clean (wsV RX4 142 RX4 yX4_firstDay wsX4_firstDay) := goodIn_app (goodIn_of _ (by decide +kernel)) ggX4_clean_X4_firstDay
theorem dX4_clean_0 : decode cX4_clean 0 = .ok (.aload_n 0, 1) := by decide +kernel
theorem dX4_clean_1 : decode cX4_clean 1 = .ok (.getfield 10, 3) := by decide +kernel
theorem dX4_clean_4 : decode cX4_clean 4 = .ok (.iload_n 1, 1) := by decide +kernel
theorem dX4_clean_5 : decode cX4_clean 5 = .ok (.invokevirtual 71, 3) := by decide +kernel
theorem dX4_clean_8 : decode cX4_clean 8 = .ok (.ifCond .ne 10, 3) := by decide +kernel
theorem dX4_clean_11 : decode cX4_clean 11 = .ok (.aload_n 0, 1) := by decide +kernel
theorem dX4_clean_12 : decode cX4_clean 12 = .ok (.ldc 44, 2) := by decide +kernel
theorem dX4_clean_14 : decode cX4_clean 14 = .ok (.invokevirtual 45, 3) := by decide +kernel
theorem dX4_clean_17 : decode cX4_clean 17 = .ok (.ireturn, 1) := by decide +kernel
theorem dX4_clean_18 : decode cX4_clean 18 = .ok (.aload_n 0, 1) := by decide +kernel
theorem dX4_clean_19 : decode cX4_clean 19 = .ok (.iload_n 1, 1) := by decide +kernel
theorem dX4_clean_20 : decode cX4_clean 20 = .ok (.iconst 5, 1) := by decide +kernel
theorem dX4_clean_21 : decode cX4_clean 21 = .ok (.iconst 0, 1) := by decide +kernel
theorem dX4_clean_22 : decode cX4_clean 22 = .ok (.iconst 0, 1) := by decide +kernel
theorem dX4_clean_23 : decode cX4_clean 23 = .ok (.invokevirtual 142, 3) := by decide +kernel
theorem dX4_clean_26 : decode cX4_clean 26 = .ok (.ireturn, 1) := by decide +kernel
set_option maxRecDepth 20000 in
theorem ggX4_when_X2_isSeat : GoodIn wsX4_when wsX2_isSeat := goodIn_r _ [8, 9, 117, 118, 119, 120, 121, 122, 123, 124, 125, 126, 127, 128] (by decide +kernel) (by decide +kernel)
set_option maxRecDepth 20000 in
theorem gX4_when_X2_isSeat : GoodIn wsX4_when (wsV RX4 71 RX2 yX2_isSeat wsX2_isSeat) := goodIn_app (goodIn_of _ (by decide +kernel)) ggX4_when_X2_isSeat
set_option maxRecDepth 20000 in
theorem ggX4_when_X4_isWithin : GoodIn wsX4_when wsX4_isWithin := goodIn_r _ [13] (by decide +kernel) (by decide +kernel)
set_option maxRecDepth 20000 in
theorem gX4_when_X4_isWithin : GoodIn wsX4_when (va_wsS RX4 40 yX4_isWithin wsX4_isWithin) := goodIn_app (goodIn_of _ (by decide +kernel)) ggX4_when_X4_isWithin
set_option maxRecDepth 20000 in
theorem ggX4_when_X4_finding : GoodIn wsX4_when wsX4_finding := goodIn_r _ [17, 2, 18, 10, 11, 12, 13, 110, 111, 112, 113, 114, 115, 116] (by decide +kernel) (by decide +kernel)
set_option maxRecDepth 20000 in
theorem gX4_when_X4_finding : GoodIn wsX4_when (wsV RX4 45 RX4 yX4_finding wsX4_finding) := goodIn_app (goodIn_of _ (by decide +kernel)) ggX4_when_X4_finding
set_option maxRecDepth 20000 in
theorem ggX4_when_X4_firstDay : GoodIn wsX4_when wsX4_firstDay := goodIn_r _ [22, 23, 1, 24, 25, 26, 27, 7, 28, 29, 30, 31, 9, 32, 33, 34, 35, 36, 37, 38, 39, 40, 41, 42, 43, 44, 45, 46, 47, 48, 49, 50, 51, 52, 53, 54, 55, 56, 57, 58, 59, 60, 61, 62, 63, 64, 65, 66, 67, 68, 69, 10, 11, 12, 13, 70, 71, 72, 73, 74, 75, 76, 77, 78, 79, 80, 81, 82, 83, 84, 85, 86, 87, 88, 89, 90, 91, 92, 93, 94, 95, 96, 97, 98, 99, 100, 101, 102, 103, 104, 105, 106, 107, 108, 109, 5, 6, 8, 14, 15, 16, 17, 2, 18, 110, 111, 112, 113, 114, 115, 116, 117, 118, 119, 120, 121, 122, 123, 124, 125, 126, 127, 128] (by decide +kernel) (by decide +kernel)
set_option maxRecDepth 20000 in
theorem gX4_when_X4_firstDay : GoodIn wsX4_when (wsV RX4 142 RX4 yX4_firstDay wsX4_firstDay) := goodIn_app (goodIn_of _ (by decide +kernel)) ggX4_when_X4_firstDay
theorem dX4_when_0 : decode cX4_when 0 = .ok (.aload_n 0, 1) := by decide +kernel
theorem dX4_when_1 : decode cX4_when 1 = .ok (.getfield 10, 3) := by decide +kernel
theorem dX4_when_4 : decode cX4_when 4 = .ok (.iload_n 1, 1) := by decide +kernel
theorem dX4_when_5 : decode cX4_when 5 = .ok (.invokevirtual 71, 3) := by decide +kernel
theorem dX4_when_8 : decode cX4_when 8 = .ok (.ifCond .eq 14, 3) := by decide +kernel
theorem dX4_when_11 : decode cX4_when 11 = .ok (.iload_n 2, 1) := by decide +kernel
theorem dX4_when_12 : decode cX4_when 12 = .ok (.iconst 0, 1) := by decide +kernel
theorem dX4_when_13 : decode cX4_when 13 = .ok (.sipush 5000, 3) := by decide +kernel
theorem dX4_when_16 : decode cX4_when 16 = .ok (.invokestatic 40, 3) := by decide +kernel
theorem dX4_when_19 : decode cX4_when 19 = .ok (.ifCond .ne 10, 3) := by decide +kernel
theorem dX4_when_22 : decode cX4_when 22 = .ok (.aload_n 0, 1) := by decide +kernel
theorem dX4_when_23 : decode cX4_when 23 = .ok (.ldc 44, 2) := by decide +kernel
theorem dX4_when_25 : decode cX4_when 25 = .ok (.invokevirtual 45, 3) := by decide +kernel
theorem dX4_when_28 : decode cX4_when 28 = .ok (.ireturn, 1) := by decide +kernel
theorem dX4_when_29 : decode cX4_when 29 = .ok (.aload_n 0, 1) := by decide +kernel
theorem dX4_when_30 : decode cX4_when 30 = .ok (.iload_n 1, 1) := by decide +kernel
theorem dX4_when_31 : decode cX4_when 31 = .ok (.iconst 5, 1) := by decide +kernel
theorem dX4_when_32 : decode cX4_when 32 = .ok (.iload_n 2, 1) := by decide +kernel
theorem dX4_when_33 : decode cX4_when 33 = .ok (.ldc 146, 2) := by decide +kernel
theorem dX4_when_35 : decode cX4_when 35 = .ok (.invokevirtual 142, 3) := by decide +kernel
theorem dX4_when_38 : decode cX4_when 38 = .ok (.ireturn, 1) := by decide +kernel
set_option maxRecDepth 20000 in
theorem ggX4_thin_X2_isSeat : GoodIn wsX4_thin wsX2_isSeat := goodIn_r _ [7, 8, 116, 117, 118, 119, 120, 121, 122, 123, 124, 125, 126, 127] (by decide +kernel) (by decide +kernel)
set_option maxRecDepth 20000 in
theorem gX4_thin_X2_isSeat : GoodIn wsX4_thin (wsV RX4 71 RX2 yX2_isSeat wsX2_isSeat) := goodIn_app (goodIn_of _ (by decide +kernel)) ggX4_thin_X2_isSeat
set_option maxRecDepth 20000 in
theorem ggX4_thin_X4_finding : GoodIn wsX4_thin wsX4_finding := goodIn_r _ [13, 2, 14, 15, 16, 12, 17, 109, 110, 111, 112, 113, 114, 115] (by decide +kernel) (by decide +kernel)
set_option maxRecDepth 20000 in
theorem gX4_thin_X4_finding : GoodIn wsX4_thin (wsV RX4 45 RX4 yX4_finding wsX4_finding) := goodIn_app (goodIn_of _ (by decide +kernel)) ggX4_thin_X4_finding
set_option maxRecDepth 20000 in
theorem ggX4_thin_X4_firstDay : GoodIn wsX4_thin wsX4_firstDay := goodIn_r _ [21, 22, 1, 23, 24, 25, 26, 6, 27, 28, 29, 30, 8, 31, 32, 33, 34, 35, 36, 37, 38, 39, 40, 41, 42, 43, 44, 45, 46, 47, 48, 49, 50, 51, 52, 53, 54, 55, 56, 57, 58, 59, 60, 61, 62, 63, 64, 65, 66, 67, 68, 15, 16, 12, 17, 69, 70, 71, 72, 73, 74, 75, 76, 77, 78, 79, 80, 81, 82, 83, 84, 85, 86, 87, 88, 89, 90, 91, 92, 93, 94, 95, 96, 97, 98, 99, 100, 101, 102, 103, 104, 105, 106, 107, 108, 4, 5, 7, 9, 10, 11, 13, 2, 14, 109, 110, 111, 112, 113, 114, 115, 116, 117, 118, 119, 120, 121, 122, 123, 124, 125, 126, 127] (by decide +kernel) (by decide +kernel)
set_option maxRecDepth 20000 in
theorem gX4_thin_X4_firstDay : GoodIn wsX4_thin (wsV RX4 142 RX4 yX4_firstDay wsX4_firstDay) := goodIn_app (goodIn_of _ (by decide +kernel)) ggX4_thin_X4_firstDay
theorem dX4_thin_0 : decode cX4_thin 0 = .ok (.aload_n 0, 1) := by decide +kernel
theorem dX4_thin_1 : decode cX4_thin 1 = .ok (.getfield 10, 3) := by decide +kernel
theorem dX4_thin_4 : decode cX4_thin 4 = .ok (.iload_n 1, 1) := by decide +kernel
theorem dX4_thin_5 : decode cX4_thin 5 = .ok (.invokevirtual 71, 3) := by decide +kernel
theorem dX4_thin_8 : decode cX4_thin 8 = .ok (.ifCond .ne 10, 3) := by decide +kernel
theorem dX4_thin_11 : decode cX4_thin 11 = .ok (.aload_n 0, 1) := by decide +kernel
theorem dX4_thin_12 : decode cX4_thin 12 = .ok (.ldc 44, 2) := by decide +kernel
theorem dX4_thin_14 : decode cX4_thin 14 = .ok (.invokevirtual 45, 3) := by decide +kernel
theorem dX4_thin_17 : decode cX4_thin 17 = .ok (.ireturn, 1) := by decide +kernel
theorem dX4_thin_18 : decode cX4_thin 18 = .ok (.aload_n 0, 1) := by decide +kernel
theorem dX4_thin_19 : decode cX4_thin 19 = .ok (.iload_n 1, 1) := by decide +kernel
theorem dX4_thin_20 : decode cX4_thin 20 = .ok (.iconst 2, 1) := by decide +kernel
theorem dX4_thin_21 : decode cX4_thin 21 = .ok (.iconst 0, 1) := by decide +kernel
theorem dX4_thin_22 : decode cX4_thin 22 = .ok (.iconst 0, 1) := by decide +kernel
theorem dX4_thin_23 : decode cX4_thin 23 = .ok (.invokevirtual 142, 3) := by decide +kernel
theorem dX4_thin_26 : decode cX4_thin 26 = .ok (.ireturn, 1) := by decide +kernel
set_option maxRecDepth 20000 in
theorem ggX4_firstDay_X2_become : GoodIn wsX4_firstDay wsX2_become := goodIn_r _ [8, 9, 10, 11, 12, 13, 14, 15, 16, 17, 18, 19, 20, 21, 22, 23, 111, 112, 113, 114, 115, 116, 117, 118, 119, 120, 121, 122] (by decide +kernel) (by decide +kernel)
set_option maxRecDepth 20000 in
theorem gX4_firstDay_X2_become : GoodIn wsX4_firstDay (wsV RX4 138 RX2 yX2_become wsX2_become) := goodIn_app (goodIn_of _ (by decide +kernel)) ggX4_firstDay_X2_become
set_option maxRecDepth 20000 in
theorem ggX4_firstDay_X2_trait : GoodIn wsX4_firstDay wsX2_trait := goodIn_r _ [27, 18, 19, 20, 21, 28, 29, 30, 7, 31, 10, 32, 33, 34, 35, 22, 36, 37, 38, 39, 40, 41, 42, 43, 44, 45, 46, 47, 48, 49, 50, 111, 112, 113, 114, 115, 116, 117, 118, 119, 120, 121, 122] (by decide +kernel) (by decide +kernel)
set_option maxRecDepth 20000 in
theorem gX4_firstDay_X2_trait : GoodIn wsX4_firstDay (wsV RX4 74 RX2 yX2_trait wsX2_trait) := goodIn_app (goodIn_of _ (by decide +kernel)) ggX4_firstDay_X2_trait
set_option maxRecDepth 20000 in
theorem ggX4_firstDay_X4_isWithin : GoodIn wsX4_firstDay wsX4_isWithin := goodIn_r _ [54] (by decide +kernel) (by decide +kernel)
set_option maxRecDepth 20000 in
theorem gX4_firstDay_X4_isWithin : GoodIn wsX4_firstDay (va_wsS RX4 40 yX4_isWithin wsX4_isWithin) := goodIn_app (goodIn_of _ (by decide +kernel)) ggX4_firstDay_X4_isWithin
set_option maxRecDepth 20000 in
theorem ggX4_firstDay_X2_passDay : GoodIn wsX4_firstDay wsX2_passDay := goodIn_r _ [58, 12, 59, 9, 60, 61, 45, 62, 63, 64, 65, 7, 66, 18, 13, 67, 68, 41, 69, 70, 71, 72, 73, 74, 75, 76, 22, 36, 37, 38, 77, 78, 79, 80, 81, 19, 20, 82, 44, 46, 21, 28, 29, 30, 31, 10, 32, 33, 34, 35, 39, 40, 42, 43, 83, 84, 85, 86, 87, 88, 89, 90, 91, 92, 93, 94, 95, 96, 97, 111, 112, 113, 114, 115, 116, 117, 118, 119, 120, 121, 122] (by decide +kernel) (by decide +kernel)
set_option maxRecDepth 20000 in
theorem gX4_firstDay_X2_passDay : GoodIn wsX4_firstDay (wsV RX4 147 RX2 yX2_passDay wsX2_passDay) := goodIn_app (goodIn_of _ (by decide +kernel)) ggX4_firstDay_X2_passDay
set_option maxRecDepth 20000 in
theorem ggX4_firstDay_X4_finding : GoodIn wsX4_firstDay wsX4_finding := goodIn_r _ [101, 102, 103, 51, 52, 53, 54, 104, 105, 106, 107, 108, 109, 110] (by decide +kernel) (by decide +kernel)
set_option maxRecDepth 20000 in
theorem gX4_firstDay_X4_finding : GoodIn wsX4_firstDay (wsV RX4 45 RX4 yX4_finding wsX4_finding) := goodIn_app (goodIn_of _ (by decide +kernel)) ggX4_firstDay_X4_finding
theorem dX4_firstDay_0 : decode cX4_firstDay 0 = .ok (.aload_n 0, 1) := by decide +kernel
theorem dX4_firstDay_1 : decode cX4_firstDay 1 = .ok (.getfield 19, 3) := by decide +kernel
theorem dX4_firstDay_4 : decode cX4_firstDay 4 = .ok (.aload_n 0, 1) := by decide +kernel
theorem dX4_firstDay_5 : decode cX4_firstDay 5 = .ok (.getfield 10, 3) := by decide +kernel
theorem dX4_firstDay_8 : decode cX4_firstDay 8 = .ok (.invokevirtual 138, 3) := by decide +kernel
theorem dX4_firstDay_11 : decode cX4_firstDay 11 = .ok (.iconst 0, 1) := by decide +kernel
theorem dX4_firstDay_12 : decode cX4_firstDay 12 = .ok (.istore 5, 2) := by decide +kernel
theorem dX4_firstDay_14 : decode cX4_firstDay 14 = .ok (.iload 5, 2) := by decide +kernel
theorem dX4_firstDay_16 : decode cX4_firstDay 16 = .ok (.bipush 100, 2) := by decide +kernel
theorem dX4_firstDay_18 : decode cX4_firstDay 18 = .ok (.if_icmp .gt 38, 3) := by decide +kernel
theorem dX4_firstDay_21 : decode cX4_firstDay 21 = .ok (.aload_n 0, 1) := by decide +kernel
theorem dX4_firstDay_22 : decode cX4_firstDay 22 = .ok (.getfield 19, 3) := by decide +kernel
theorem dX4_firstDay_25 : decode cX4_firstDay 25 = .ok (.iload_n 1, 1) := by decide +kernel
theorem dX4_firstDay_26 : decode cX4_firstDay 26 = .ok (.iload_n 2, 1) := by decide +kernel
theorem dX4_firstDay_27 : decode cX4_firstDay 27 = .ok (.invokevirtual 74, 3) := by decide +kernel
theorem dX4_firstDay_30 : decode cX4_firstDay 30 = .ok (.iload_n 3, 1) := by decide +kernel
theorem dX4_firstDay_31 : decode cX4_firstDay 31 = .ok (.iload 4, 2) := by decide +kernel
theorem dX4_firstDay_33 : decode cX4_firstDay 33 = .ok (.invokestatic 40, 3) := by decide +kernel
theorem dX4_firstDay_36 : decode cX4_firstDay 36 = .ok (.ifCond .eq 6, 3) := by decide +kernel
theorem dX4_firstDay_39 : decode cX4_firstDay 39 = .ok (.iload 5, 2) := by decide +kernel
theorem dX4_firstDay_41 : decode cX4_firstDay 41 = .ok (.ireturn, 1) := by decide +kernel
theorem dX4_firstDay_42 : decode cX4_firstDay 42 = .ok (.aload_n 0, 1) := by decide +kernel
theorem dX4_firstDay_43 : decode cX4_firstDay 43 = .ok (.getfield 19, 3) := by decide +kernel
theorem dX4_firstDay_46 : decode cX4_firstDay 46 = .ok (.iconst 0, 1) := by decide +kernel
theorem dX4_firstDay_47 : decode cX4_firstDay 47 = .ok (.invokevirtual 147, 3) := by decide +kernel
theorem dX4_firstDay_50 : decode cX4_firstDay 50 = .ok (.iinc 5 1, 3) := by decide +kernel
theorem dX4_firstDay_53 : decode cX4_firstDay 53 = .ok (.goto (-39), 3) := by decide +kernel
theorem dX4_firstDay_56 : decode cX4_firstDay 56 = .ok (.aload_n 0, 1) := by decide +kernel
theorem dX4_firstDay_57 : decode cX4_firstDay 57 = .ok (.ldc 151, 2) := by decide +kernel
theorem dX4_firstDay_59 : decode cX4_firstDay 59 = .ok (.invokevirtual 45, 3) := by decide +kernel
theorem dX4_firstDay_62 : decode cX4_firstDay 62 = .ok (.ireturn, 1) := by decide +kernel
set_option maxRecDepth 20000 in
theorem ggX4_love_X2_isSeat : GoodIn wsX4_love wsX2_isSeat := goodIn_r _ [11, 12, 114, 115, 116, 117, 118, 119, 120, 121, 122, 123, 124, 125] (by decide +kernel) (by decide +kernel)
set_option maxRecDepth 20000 in
theorem gX4_love_X2_isSeat : GoodIn wsX4_love (wsV RX4 71 RX2 yX2_isSeat wsX2_isSeat) := goodIn_app (goodIn_of _ (by decide +kernel)) ggX4_love_X2_isSeat
set_option maxRecDepth 20000 in
theorem ggX4_love_X4_isWithin : GoodIn wsX4_love wsX4_isWithin := goodIn_r _ [16] (by decide +kernel) (by decide +kernel)
set_option maxRecDepth 20000 in
theorem gX4_love_X4_isWithin : GoodIn wsX4_love (va_wsS RX4 40 yX4_isWithin wsX4_isWithin) := goodIn_app (goodIn_of _ (by decide +kernel)) ggX4_love_X4_isWithin
set_option maxRecDepth 20000 in
theorem ggX4_love_X4_finding : GoodIn wsX4_love wsX4_finding := goodIn_r _ [20, 2, 21, 13, 14, 15, 16, 107, 108, 109, 110, 111, 112, 113] (by decide +kernel) (by decide +kernel)
set_option maxRecDepth 20000 in
theorem gX4_love_X4_finding : GoodIn wsX4_love (wsV RX4 45 RX4 yX4_finding wsX4_finding) := goodIn_app (goodIn_of _ (by decide +kernel)) ggX4_love_X4_finding
set_option maxRecDepth 20000 in
theorem ggX4_love_X2_become : GoodIn wsX4_love wsX2_become := goodIn_r _ [25, 26, 27, 28, 12, 29, 30, 31, 32, 33, 34, 35, 36, 37, 38, 39, 114, 115, 116, 117, 118, 119, 120, 121, 122, 123, 124, 125] (by decide +kernel) (by decide +kernel)
set_option maxRecDepth 20000 in
theorem gX4_love_X2_become : GoodIn wsX4_love (wsV RX4 138 RX2 yX2_become wsX2_become) := goodIn_app (goodIn_of _ (by decide +kernel)) ggX4_love_X2_become
set_option maxRecDepth 20000 in
theorem ggX4_love_X2_passDays : GoodIn wsX4_love wsX2_passDays := goodIn_r _ [43, 44, 45, 46, 10, 47, 12, 48, 26, 49, 50, 51, 52, 53, 54, 55, 56, 34, 29, 57, 58, 59, 60, 61, 62, 63, 64, 65, 66, 67, 38, 68, 69, 70, 71, 72, 73, 74, 75, 35, 36, 76, 77, 78, 37, 79, 80, 81, 82, 27, 83, 84, 85, 86, 87, 88, 89, 90, 91, 92, 93, 94, 95, 96, 97, 98, 99, 100, 101, 102, 8, 9, 11, 114, 115, 116, 117, 118, 119, 120, 121, 122, 123, 124, 125] (by decide +kernel) (by decide +kernel)
set_option maxRecDepth 20000 in
theorem gX4_love_X2_passDays : GoodIn wsX4_love (wsV RX4 117 RX2 yX2_passDays wsX2_passDays) := goodIn_app (goodIn_of _ (by decide +kernel)) ggX4_love_X2_passDays
set_option maxRecDepth 20000 in
theorem ggX4_love_X2_allLeft : GoodIn wsX4_love wsX2_allLeft := goodIn_r _ [106, 12, 83, 84, 85, 10, 86, 38, 68, 69, 70, 114, 115, 116, 117, 118, 119, 120, 121, 122, 123, 124, 125] (by decide +kernel) (by decide +kernel)
set_option maxRecDepth 20000 in
theorem gX4_love_X2_allLeft : GoodIn wsX4_love (wsV RX4 121 RX2 yX2_allLeft wsX2_allLeft) := goodIn_app (goodIn_of _ (by decide +kernel)) ggX4_love_X2_allLeft
theorem dX4_love_0 : decode cX4_love 0 = .ok (.aload_n 0, 1) := by decide +kernel
theorem dX4_love_1 : decode cX4_love 1 = .ok (.getfield 10, 3) := by decide +kernel
theorem dX4_love_4 : decode cX4_love 4 = .ok (.iload_n 1, 1) := by decide +kernel
theorem dX4_love_5 : decode cX4_love 5 = .ok (.invokevirtual 71, 3) := by decide +kernel
theorem dX4_love_8 : decode cX4_love 8 = .ok (.ifCond .eq 13, 3) := by decide +kernel
theorem dX4_love_11 : decode cX4_love 11 = .ok (.iload_n 2, 1) := by decide +kernel
theorem dX4_love_12 : decode cX4_love 12 = .ok (.iconst 0, 1) := by decide +kernel
theorem dX4_love_13 : decode cX4_love 13 = .ok (.bipush 40, 2) := by decide +kernel
theorem dX4_love_15 : decode cX4_love 15 = .ok (.invokestatic 40, 3) := by decide +kernel
theorem dX4_love_18 : decode cX4_love 18 = .ok (.ifCond .ne 10, 3) := by decide +kernel
theorem dX4_love_21 : decode cX4_love 21 = .ok (.aload_n 0, 1) := by decide +kernel
theorem dX4_love_22 : decode cX4_love 22 = .ok (.ldc 44, 2) := by decide +kernel
theorem dX4_love_24 : decode cX4_love 24 = .ok (.invokevirtual 45, 3) := by decide +kernel
theorem dX4_love_27 : decode cX4_love 27 = .ok (.ireturn, 1) := by decide +kernel
theorem dX4_love_28 : decode cX4_love 28 = .ok (.iconst (-1), 1) := by decide +kernel
theorem dX4_love_29 : decode cX4_love 29 = .ok (.istore_n 3, 1) := by decide +kernel
theorem dX4_love_30 : decode cX4_love 30 = .ok (.ldc 146, 2) := by decide +kernel
theorem dX4_love_32 : decode cX4_love 32 = .ok (.istore 4, 2) := by decide +kernel
theorem dX4_love_34 : decode cX4_love 34 = .ok (.iconst 0, 1) := by decide +kernel
theorem dX4_love_35 : decode cX4_love 35 = .ok (.istore 5, 2) := by decide +kernel
theorem dX4_love_37 : decode cX4_love 37 = .ok (.iload 5, 2) := by decide +kernel
theorem dX4_love_39 : decode cX4_love 39 = .ok (.aload_n 0, 1) := by decide +kernel
theorem dX4_love_40 : decode cX4_love 40 = .ok (.getfield 10, 3) := by decide +kernel
theorem dX4_love_43 : decode cX4_love 43 = .ok (.getfield 152, 3) := by decide +kernel
theorem dX4_love_46 : decode cX4_love 46 = .ok (.if_icmp .gt 93, 3) := by decide +kernel
theorem dX4_love_49 : decode cX4_love 49 = .ok (.iload 5, 2) := by decide +kernel
theorem dX4_love_51 : decode cX4_love 51 = .ok (.aload_n 0, 1) := by decide +kernel
theorem dX4_love_52 : decode cX4_love 52 = .ok (.getfield 10, 3) := by decide +kernel
theorem dX4_love_55 : decode cX4_love 55 = .ok (.getfield 152, 3) := by decide +kernel
theorem dX4_love_58 : decode cX4_love 58 = .ok (.if_icmp .ge 8, 3) := by decide +kernel
theorem dX4_love_61 : decode cX4_love 61 = .ok (.iload 5, 2) := by decide +kernel
theorem dX4_love_63 : decode cX4_love 63 = .ok (.goto 4, 3) := by decide +kernel
theorem dX4_love_66 : decode cX4_love 66 = .ok (.iconst (-1), 1) := by decide +kernel
theorem dX4_love_67 : decode cX4_love 67 = .ok (.istore 6, 2) := by decide +kernel
theorem dX4_love_69 : decode cX4_love 69 = .ok (.iload 6, 2) := by decide +kernel
theorem dX4_love_71 : decode cX4_love 71 = .ok (.iload_n 1, 1) := by decide +kernel
theorem dX4_love_72 : decode cX4_love 72 = .ok (.if_icmp .ne 6, 3) := by decide +kernel
theorem dX4_love_75 : decode cX4_love 75 = .ok (.goto 58, 3) := by decide +kernel
theorem dX4_love_78 : decode cX4_love 78 = .ok (.aload_n 0, 1) := by decide +kernel
theorem dX4_love_79 : decode cX4_love 79 = .ok (.getfield 19, 3) := by decide +kernel
theorem dX4_love_82 : decode cX4_love 82 = .ok (.aload_n 0, 1) := by decide +kernel
theorem dX4_love_83 : decode cX4_love 83 = .ok (.getfield 10, 3) := by decide +kernel
theorem dX4_love_86 : decode cX4_love 86 = .ok (.invokevirtual 138, 3) := by decide +kernel
theorem dX4_love_89 : decode cX4_love 89 = .ok (.aload_n 0, 1) := by decide +kernel
theorem dX4_love_90 : decode cX4_love 90 = .ok (.getfield 19, 3) := by decide +kernel
theorem dX4_love_93 : decode cX4_love 93 = .ok (.getfield 88, 3) := by decide +kernel
theorem dX4_love_96 : decode cX4_love 96 = .ok (.iload_n 1, 1) := by decide +kernel
theorem dX4_love_97 : decode cX4_love 97 = .ok (.iload 6, 2) := by decide +kernel
theorem dX4_love_99 : decode cX4_love 99 = .ok (.iastore, 1) := by decide +kernel
theorem dX4_love_100 : decode cX4_love 100 = .ok (.aload_n 0, 1) := by decide +kernel
theorem dX4_love_101 : decode cX4_love 101 = .ok (.getfield 19, 3) := by decide +kernel
theorem dX4_love_104 : decode cX4_love 104 = .ok (.iload_n 2, 1) := by decide +kernel
theorem dX4_love_105 : decode cX4_love 105 = .ok (.iconst 0, 1) := by decide +kernel
theorem dX4_love_106 : decode cX4_love 106 = .ok (.invokevirtual 117, 3) := by decide +kernel
theorem dX4_love_109 : decode cX4_love 109 = .ok (.aload_n 0, 1) := by decide +kernel
theorem dX4_love_110 : decode cX4_love 110 = .ok (.getfield 19, 3) := by decide +kernel
theorem dX4_love_113 : decode cX4_love 113 = .ok (.invokevirtual 121, 3) := by decide +kernel
theorem dX4_love_116 : decode cX4_love 116 = .ok (.iload 4, 2) := by decide +kernel
theorem dX4_love_118 : decode cX4_love 118 = .ok (.if_icmp .ge 15, 3) := by decide +kernel
theorem dX4_love_121 : decode cX4_love 121 = .ok (.aload_n 0, 1) := by decide +kernel
theorem dX4_love_122 : decode cX4_love 122 = .ok (.getfield 19, 3) := by decide +kernel
theorem dX4_love_125 : decode cX4_love 125 = .ok (.invokevirtual 121, 3) := by decide +kernel
theorem dX4_love_128 : decode cX4_love 128 = .ok (.istore 4, 2) := by decide +kernel
theorem dX4_love_130 : decode cX4_love 130 = .ok (.iload 6, 2) := by decide +kernel
theorem dX4_love_132 : decode cX4_love 132 = .ok (.istore_n 3, 1) := by decide +kernel
theorem dX4_love_133 : decode cX4_love 133 = .ok (.iinc 5 1, 3) := by decide +kernel
theorem dX4_love_136 : decode cX4_love 136 = .ok (.goto (-99), 3) := by decide +kernel
theorem dX4_love_139 : decode cX4_love 139 = .ok (.iload_n 3, 1) := by decide +kernel
theorem dX4_love_140 : decode cX4_love 140 = .ok (.ireturn, 1) := by decide +kernel
set_option maxRecDepth 20000 in
theorem ggX4_kindFor_X2_isSeat : GoodIn wsX4_kindFor wsX2_isSeat := goodIn_r _ [10, 11, 110, 111, 112, 113, 114, 115, 116, 117, 118, 119, 120, 121] (by decide +kernel) (by decide +kernel)
set_option maxRecDepth 20000 in
theorem gX4_kindFor_X2_isSeat : GoodIn wsX4_kindFor (wsV RX4 71 RX2 yX2_isSeat wsX2_isSeat) := goodIn_app (goodIn_of _ (by decide +kernel)) ggX4_kindFor_X2_isSeat
set_option maxRecDepth 20000 in
theorem ggX4_kindFor_X4_isWithin : GoodIn wsX4_kindFor wsX4_isWithin := goodIn_r _ [15] (by decide +kernel) (by decide +kernel)
set_option maxRecDepth 20000 in
theorem gX4_kindFor_X4_isWithin : GoodIn wsX4_kindFor (va_wsS RX4 40 yX4_isWithin wsX4_isWithin) := goodIn_app (goodIn_of _ (by decide +kernel)) ggX4_kindFor_X4_isWithin
set_option maxRecDepth 20000 in
theorem ggX4_kindFor_X4_finding : GoodIn wsX4_kindFor wsX4_finding := goodIn_r _ [19, 2, 20, 12, 13, 14, 15, 103, 104, 105, 106, 107, 108, 109] (by decide +kernel) (by decide +kernel)
set_option maxRecDepth 20000 in
theorem gX4_kindFor_X4_finding : GoodIn wsX4_kindFor (wsV RX4 45 RX4 yX4_finding wsX4_finding) := goodIn_app (goodIn_of _ (by decide +kernel)) ggX4_kindFor_X4_finding
set_option maxRecDepth 20000 in
theorem ggX4_kindFor_X2_become : GoodIn wsX4_kindFor wsX2_become := goodIn_r _ [24, 25, 26, 27, 11, 28, 29, 30, 31, 32, 33, 34, 35, 36, 37, 38, 110, 111, 112, 113, 114, 115, 116, 117, 118, 119, 120, 121] (by decide +kernel) (by decide +kernel)
set_option maxRecDepth 20000 in
theorem gX4_kindFor_X2_become : GoodIn wsX4_kindFor (wsV RX4 138 RX2 yX2_become wsX2_become) := goodIn_app (goodIn_of _ (by decide +kernel)) ggX4_kindFor_X2_become
set_option maxRecDepth 20000 in
theorem ggX4_kindFor_X2_passDays : GoodIn wsX4_kindFor wsX2_passDays := goodIn_r _ [42, 43, 44, 45, 9, 46, 11, 47, 25, 48, 49, 50, 51, 52, 53, 54, 55, 33, 28, 56, 57, 58, 59, 60, 61, 62, 63, 64, 65, 66, 37, 67, 68, 69, 70, 71, 72, 73, 74, 34, 35, 75, 76, 77, 36, 78, 79, 80, 81, 26, 82, 83, 84, 85, 86, 87, 88, 89, 90, 91, 92, 93, 94, 95, 96, 97, 98, 99, 100, 101, 7, 8, 10, 110, 111, 112, 113, 114, 115, 116, 117, 118, 119, 120, 121] (by decide +kernel) (by decide +kernel)
set_option maxRecDepth 20000 in
theorem gX4_kindFor_X2_passDays : GoodIn wsX4_kindFor (wsV RX4 117 RX2 yX2_passDays wsX2_passDays) := goodIn_app (goodIn_of _ (by decide +kernel)) ggX4_kindFor_X2_passDays
set_option maxRecDepth 20000 in
theorem ggX4_kindFor_X2_left : GoodIn wsX4_kindFor wsX2_left := goodIn_r _ [85, 37, 67, 68, 9, 69, 110, 111, 112, 113, 114, 115, 116, 117, 118, 119, 120, 121] (by decide +kernel) (by decide +kernel)
set_option maxRecDepth 20000 in
theorem gX4_kindFor_X2_left : GoodIn wsX4_kindFor (wsV RX4 155 RX2 yX2_left wsX2_left) := goodIn_app (goodIn_of _ (by decide +kernel)) ggX4_kindFor_X2_left
theorem dX4_kindFor_0 : decode cX4_kindFor 0 = .ok (.aload_n 0, 1) := by decide +kernel
theorem dX4_kindFor_1 : decode cX4_kindFor 1 = .ok (.getfield 10, 3) := by decide +kernel
theorem dX4_kindFor_4 : decode cX4_kindFor 4 = .ok (.iload_n 1, 1) := by decide +kernel
theorem dX4_kindFor_5 : decode cX4_kindFor 5 = .ok (.invokevirtual 71, 3) := by decide +kernel
theorem dX4_kindFor_8 : decode cX4_kindFor 8 = .ok (.ifCond .eq 13, 3) := by decide +kernel
theorem dX4_kindFor_11 : decode cX4_kindFor 11 = .ok (.iload_n 2, 1) := by decide +kernel
theorem dX4_kindFor_12 : decode cX4_kindFor 12 = .ok (.iconst 0, 1) := by decide +kernel
theorem dX4_kindFor_13 : decode cX4_kindFor 13 = .ok (.bipush 40, 2) := by decide +kernel
theorem dX4_kindFor_15 : decode cX4_kindFor 15 = .ok (.invokestatic 40, 3) := by decide +kernel
theorem dX4_kindFor_18 : decode cX4_kindFor 18 = .ok (.ifCond .ne 10, 3) := by decide +kernel
theorem dX4_kindFor_21 : decode cX4_kindFor 21 = .ok (.aload_n 0, 1) := by decide +kernel
theorem dX4_kindFor_22 : decode cX4_kindFor 22 = .ok (.ldc 44, 2) := by decide +kernel
theorem dX4_kindFor_24 : decode cX4_kindFor 24 = .ok (.invokevirtual 45, 3) := by decide +kernel
theorem dX4_kindFor_27 : decode cX4_kindFor 27 = .ok (.ireturn, 1) := by decide +kernel
theorem dX4_kindFor_28 : decode cX4_kindFor 28 = .ok (.iconst 0, 1) := by decide +kernel
theorem dX4_kindFor_29 : decode cX4_kindFor 29 = .ok (.istore_n 3, 1) := by decide +kernel
theorem dX4_kindFor_30 : decode cX4_kindFor 30 = .ok (.ldc 146, 2) := by decide +kernel
theorem dX4_kindFor_32 : decode cX4_kindFor 32 = .ok (.istore 4, 2) := by decide +kernel
theorem dX4_kindFor_34 : decode cX4_kindFor 34 = .ok (.iconst 0, 1) := by decide +kernel
theorem dX4_kindFor_35 : decode cX4_kindFor 35 = .ok (.istore 5, 2) := by decide +kernel
theorem dX4_kindFor_37 : decode cX4_kindFor 37 = .ok (.iload 5, 2) := by decide +kernel
theorem dX4_kindFor_39 : decode cX4_kindFor 39 = .ok (.bipush 7, 2) := by decide +kernel
theorem dX4_kindFor_41 : decode cX4_kindFor 41 = .ok (.if_icmp .ge 66, 3) := by decide +kernel
theorem dX4_kindFor_44 : decode cX4_kindFor 44 = .ok (.aload_n 0, 1) := by decide +kernel
theorem dX4_kindFor_45 : decode cX4_kindFor 45 = .ok (.getfield 19, 3) := by decide +kernel
theorem dX4_kindFor_48 : decode cX4_kindFor 48 = .ok (.aload_n 0, 1) := by decide +kernel
theorem dX4_kindFor_49 : decode cX4_kindFor 49 = .ok (.getfield 10, 3) := by decide +kernel
theorem dX4_kindFor_52 : decode cX4_kindFor 52 = .ok (.invokevirtual 138, 3) := by decide +kernel
theorem dX4_kindFor_55 : decode cX4_kindFor 55 = .ok (.aload_n 0, 1) := by decide +kernel
theorem dX4_kindFor_56 : decode cX4_kindFor 56 = .ok (.getfield 19, 3) := by decide +kernel
theorem dX4_kindFor_59 : decode cX4_kindFor 59 = .ok (.getfield 81, 3) := by decide +kernel
theorem dX4_kindFor_62 : decode cX4_kindFor 62 = .ok (.iload_n 1, 1) := by decide +kernel
theorem dX4_kindFor_63 : decode cX4_kindFor 63 = .ok (.iload 5, 2) := by decide +kernel
theorem dX4_kindFor_65 : decode cX4_kindFor 65 = .ok (.iastore, 1) := by decide +kernel
theorem dX4_kindFor_66 : decode cX4_kindFor 66 = .ok (.aload_n 0, 1) := by decide +kernel
theorem dX4_kindFor_67 : decode cX4_kindFor 67 = .ok (.getfield 19, 3) := by decide +kernel
theorem dX4_kindFor_70 : decode cX4_kindFor 70 = .ok (.iload_n 2, 1) := by decide +kernel
theorem dX4_kindFor_71 : decode cX4_kindFor 71 = .ok (.iconst 0, 1) := by decide +kernel
theorem dX4_kindFor_72 : decode cX4_kindFor 72 = .ok (.invokevirtual 117, 3) := by decide +kernel
theorem dX4_kindFor_75 : decode cX4_kindFor 75 = .ok (.aload_n 0, 1) := by decide +kernel
theorem dX4_kindFor_76 : decode cX4_kindFor 76 = .ok (.getfield 19, 3) := by decide +kernel
theorem dX4_kindFor_79 : decode cX4_kindFor 79 = .ok (.iload_n 1, 1) := by decide +kernel
theorem dX4_kindFor_80 : decode cX4_kindFor 80 = .ok (.invokevirtual 155, 3) := by decide +kernel
theorem dX4_kindFor_83 : decode cX4_kindFor 83 = .ok (.iload 4, 2) := by decide +kernel
theorem dX4_kindFor_85 : decode cX4_kindFor 85 = .ok (.if_icmp .ge 16, 3) := by decide +kernel
theorem dX4_kindFor_88 : decode cX4_kindFor 88 = .ok (.aload_n 0, 1) := by decide +kernel
theorem dX4_kindFor_89 : decode cX4_kindFor 89 = .ok (.getfield 19, 3) := by decide +kernel
theorem dX4_kindFor_92 : decode cX4_kindFor 92 = .ok (.iload_n 1, 1) := by decide +kernel
theorem dX4_kindFor_93 : decode cX4_kindFor 93 = .ok (.invokevirtual 155, 3) := by decide +kernel
theorem dX4_kindFor_96 : decode cX4_kindFor 96 = .ok (.istore 4, 2) := by decide +kernel
theorem dX4_kindFor_98 : decode cX4_kindFor 98 = .ok (.iload 5, 2) := by decide +kernel
theorem dX4_kindFor_100 : decode cX4_kindFor 100 = .ok (.istore_n 3, 1) := by decide +kernel
theorem dX4_kindFor_101 : decode cX4_kindFor 101 = .ok (.iinc 5 1, 3) := by decide +kernel
theorem dX4_kindFor_104 : decode cX4_kindFor 104 = .ok (.goto (-67), 3) := by decide +kernel
theorem dX4_kindFor_107 : decode cX4_kindFor 107 = .ok (.iload_n 3, 1) := by decide +kernel
theorem dX4_kindFor_108 : decode cX4_kindFor 108 = .ok (.ireturn, 1) := by decide +kernel
set_option maxRecDepth 20000 in
theorem ggX4_vinegarFor_X2_isSeat : GoodIn wsX4_vinegarFor wsX2_isSeat := goodIn_r _ [10, 11, 110, 111, 112, 113, 114, 115, 116, 117, 118, 119, 120, 121] (by decide +kernel) (by decide +kernel)
set_option maxRecDepth 20000 in
theorem gX4_vinegarFor_X2_isSeat : GoodIn wsX4_vinegarFor (wsV RX4 71 RX2 yX2_isSeat wsX2_isSeat) := goodIn_app (goodIn_of _ (by decide +kernel)) ggX4_vinegarFor_X2_isSeat
set_option maxRecDepth 20000 in
theorem ggX4_vinegarFor_X4_isWithin : GoodIn wsX4_vinegarFor wsX4_isWithin := goodIn_r _ [15] (by decide +kernel) (by decide +kernel)
set_option maxRecDepth 20000 in
theorem gX4_vinegarFor_X4_isWithin : GoodIn wsX4_vinegarFor (va_wsS RX4 40 yX4_isWithin wsX4_isWithin) := goodIn_app (goodIn_of _ (by decide +kernel)) ggX4_vinegarFor_X4_isWithin
set_option maxRecDepth 20000 in
theorem ggX4_vinegarFor_X4_finding : GoodIn wsX4_vinegarFor wsX4_finding := goodIn_r _ [19, 2, 20, 12, 13, 14, 15, 103, 104, 105, 106, 107, 108, 109] (by decide +kernel) (by decide +kernel)
set_option maxRecDepth 20000 in
theorem gX4_vinegarFor_X4_finding : GoodIn wsX4_vinegarFor (wsV RX4 45 RX4 yX4_finding wsX4_finding) := goodIn_app (goodIn_of _ (by decide +kernel)) ggX4_vinegarFor_X4_finding
set_option maxRecDepth 20000 in
theorem ggX4_vinegarFor_X2_become : GoodIn wsX4_vinegarFor wsX2_become := goodIn_r _ [24, 25, 26, 27, 11, 28, 29, 30, 31, 32, 33, 34, 35, 36, 37, 38, 110, 111, 112, 113, 114, 115, 116, 117, 118, 119, 120, 121] (by decide +kernel) (by decide +kernel)
set_option maxRecDepth 20000 in
theorem gX4_vinegarFor_X2_become : GoodIn wsX4_vinegarFor (wsV RX4 138 RX2 yX2_become wsX2_become) := goodIn_app (goodIn_of _ (by decide +kernel)) ggX4_vinegarFor_X2_become
set_option maxRecDepth 20000 in
theorem ggX4_vinegarFor_X2_passDays : GoodIn wsX4_vinegarFor wsX2_passDays := goodIn_r _ [42, 43, 44, 45, 9, 46, 11, 47, 25, 48, 49, 50, 51, 52, 53, 54, 55, 33, 28, 56, 57, 58, 59, 60, 61, 62, 63, 64, 65, 66, 37, 67, 68, 69, 70, 71, 72, 73, 74, 34, 35, 75, 76, 77, 36, 78, 79, 80, 81, 26, 82, 83, 84, 85, 86, 87, 88, 89, 90, 91, 92, 93, 94, 95, 96, 97, 98, 99, 100, 101, 7, 8, 10, 110, 111, 112, 113, 114, 115, 116, 117, 118, 119, 120, 121] (by decide +kernel) (by decide +kernel)
set_option maxRecDepth 20000 in
theorem gX4_vinegarFor_X2_passDays : GoodIn wsX4_vinegarFor (wsV RX4 117 RX2 yX2_passDays wsX2_passDays) := goodIn_app (goodIn_of _ (by decide +kernel)) ggX4_vinegarFor_X2_passDays
set_option maxRecDepth 20000 in
theorem ggX4_vinegarFor_X2_left : GoodIn wsX4_vinegarFor wsX2_left := goodIn_r _ [85, 37, 67, 68, 9, 69, 110, 111, 112, 113, 114, 115, 116, 117, 118, 119, 120, 121] (by decide +kernel) (by decide +kernel)
set_option maxRecDepth 20000 in
theorem gX4_vinegarFor_X2_left : GoodIn wsX4_vinegarFor (wsV RX4 155 RX2 yX2_left wsX2_left) := goodIn_app (goodIn_of _ (by decide +kernel)) ggX4_vinegarFor_X2_left
theorem dX4_vinegarFor_0 : decode cX4_vinegarFor 0 = .ok (.aload_n 0, 1) := by decide +kernel
theorem dX4_vinegarFor_1 : decode cX4_vinegarFor 1 = .ok (.getfield 10, 3) := by decide +kernel
theorem dX4_vinegarFor_4 : decode cX4_vinegarFor 4 = .ok (.iload_n 1, 1) := by decide +kernel
theorem dX4_vinegarFor_5 : decode cX4_vinegarFor 5 = .ok (.invokevirtual 71, 3) := by decide +kernel
theorem dX4_vinegarFor_8 : decode cX4_vinegarFor 8 = .ok (.ifCond .eq 13, 3) := by decide +kernel
theorem dX4_vinegarFor_11 : decode cX4_vinegarFor 11 = .ok (.iload_n 2, 1) := by decide +kernel
theorem dX4_vinegarFor_12 : decode cX4_vinegarFor 12 = .ok (.iconst 0, 1) := by decide +kernel
theorem dX4_vinegarFor_13 : decode cX4_vinegarFor 13 = .ok (.bipush 40, 2) := by decide +kernel
theorem dX4_vinegarFor_15 : decode cX4_vinegarFor 15 = .ok (.invokestatic 40, 3) := by decide +kernel
theorem dX4_vinegarFor_18 : decode cX4_vinegarFor 18 = .ok (.ifCond .ne 10, 3) := by decide +kernel
theorem dX4_vinegarFor_21 : decode cX4_vinegarFor 21 = .ok (.aload_n 0, 1) := by decide +kernel
theorem dX4_vinegarFor_22 : decode cX4_vinegarFor 22 = .ok (.ldc 44, 2) := by decide +kernel
theorem dX4_vinegarFor_24 : decode cX4_vinegarFor 24 = .ok (.invokevirtual 45, 3) := by decide +kernel
theorem dX4_vinegarFor_27 : decode cX4_vinegarFor 27 = .ok (.ireturn, 1) := by decide +kernel
theorem dX4_vinegarFor_28 : decode cX4_vinegarFor 28 = .ok (.bipush 9, 2) := by decide +kernel
theorem dX4_vinegarFor_30 : decode cX4_vinegarFor 30 = .ok (.istore_n 3, 1) := by decide +kernel
theorem dX4_vinegarFor_31 : decode cX4_vinegarFor 31 = .ok (.iload_n 3, 1) := by decide +kernel
theorem dX4_vinegarFor_32 : decode cX4_vinegarFor 32 = .ok (.ifCond .lt 50, 3) := by decide +kernel
theorem dX4_vinegarFor_35 : decode cX4_vinegarFor 35 = .ok (.aload_n 0, 1) := by decide +kernel
theorem dX4_vinegarFor_36 : decode cX4_vinegarFor 36 = .ok (.getfield 19, 3) := by decide +kernel
theorem dX4_vinegarFor_39 : decode cX4_vinegarFor 39 = .ok (.aload_n 0, 1) := by decide +kernel
theorem dX4_vinegarFor_40 : decode cX4_vinegarFor 40 = .ok (.getfield 10, 3) := by decide +kernel
theorem dX4_vinegarFor_43 : decode cX4_vinegarFor 43 = .ok (.invokevirtual 138, 3) := by decide +kernel
theorem dX4_vinegarFor_46 : decode cX4_vinegarFor 46 = .ok (.aload_n 0, 1) := by decide +kernel
theorem dX4_vinegarFor_47 : decode cX4_vinegarFor 47 = .ok (.getfield 19, 3) := by decide +kernel
theorem dX4_vinegarFor_50 : decode cX4_vinegarFor 50 = .ok (.iload_n 3, 1) := by decide +kernel
theorem dX4_vinegarFor_51 : decode cX4_vinegarFor 51 = .ok (.putfield 49, 3) := by decide +kernel
theorem dX4_vinegarFor_54 : decode cX4_vinegarFor 54 = .ok (.aload_n 0, 1) := by decide +kernel
theorem dX4_vinegarFor_55 : decode cX4_vinegarFor 55 = .ok (.getfield 19, 3) := by decide +kernel
theorem dX4_vinegarFor_58 : decode cX4_vinegarFor 58 = .ok (.iload_n 2, 1) := by decide +kernel
theorem dX4_vinegarFor_59 : decode cX4_vinegarFor 59 = .ok (.iconst 0, 1) := by decide +kernel
theorem dX4_vinegarFor_60 : decode cX4_vinegarFor 60 = .ok (.invokevirtual 117, 3) := by decide +kernel
theorem dX4_vinegarFor_63 : decode cX4_vinegarFor 63 = .ok (.aload_n 0, 1) := by decide +kernel
theorem dX4_vinegarFor_64 : decode cX4_vinegarFor 64 = .ok (.getfield 19, 3) := by decide +kernel
theorem dX4_vinegarFor_67 : decode cX4_vinegarFor 67 = .ok (.iload_n 1, 1) := by decide +kernel
theorem dX4_vinegarFor_68 : decode cX4_vinegarFor 68 = .ok (.invokevirtual 155, 3) := by decide +kernel
theorem dX4_vinegarFor_71 : decode cX4_vinegarFor 71 = .ok (.ifCond .ne 5, 3) := by decide +kernel
theorem dX4_vinegarFor_74 : decode cX4_vinegarFor 74 = .ok (.iload_n 3, 1) := by decide +kernel
theorem dX4_vinegarFor_75 : decode cX4_vinegarFor 75 = .ok (.ireturn, 1) := by decide +kernel
theorem dX4_vinegarFor_76 : decode cX4_vinegarFor 76 = .ok (.iinc 3 (-1), 3) := by decide +kernel
theorem dX4_vinegarFor_79 : decode cX4_vinegarFor 79 = .ok (.goto (-48), 3) := by decide +kernel
theorem dX4_vinegarFor_82 : decode cX4_vinegarFor 82 = .ok (.aload_n 0, 1) := by decide +kernel
theorem dX4_vinegarFor_83 : decode cX4_vinegarFor 83 = .ok (.ldc 151, 2) := by decide +kernel
theorem dX4_vinegarFor_85 : decode cX4_vinegarFor 85 = .ok (.invokevirtual 45, 3) := by decide +kernel
theorem dX4_vinegarFor_88 : decode cX4_vinegarFor 88 = .ok (.ireturn, 1) := by decide +kernel
set_option maxRecDepth 20000 in
theorem ggX4_unsay_X4_isWithin : GoodIn wsX4_unsay wsX4_isWithin := goodIn_r _ [9] (by decide +kernel) (by decide +kernel)
set_option maxRecDepth 20000 in
theorem gX4_unsay_X4_isWithin : GoodIn wsX4_unsay (va_wsS RX4 40 yX4_isWithin wsX4_isWithin) := goodIn_app (goodIn_of _ (by decide +kernel)) ggX4_unsay_X4_isWithin
set_option maxRecDepth 20000 in
theorem ggX4_unsay_X4_finding : GoodIn wsX4_unsay wsX4_finding := goodIn_r _ [13, 1, 14, 6, 7, 8, 9, 105, 106, 107, 108, 109, 110, 111] (by decide +kernel) (by decide +kernel)
set_option maxRecDepth 20000 in
theorem gX4_unsay_X4_finding : GoodIn wsX4_unsay (wsV RX4 45 RX4 yX4_finding wsX4_finding) := goodIn_app (goodIn_of _ (by decide +kernel)) ggX4_unsay_X4_finding
set_option maxRecDepth 20000 in
theorem ggX4_unsay_X2_become : GoodIn wsX4_unsay wsX2_become := goodIn_r _ [19, 20, 21, 22, 23, 24, 25, 26, 27, 28, 29, 30, 31, 32, 33, 34, 112, 113, 114, 115, 116, 117, 118, 119, 120, 121, 122, 123] (by decide +kernel) (by decide +kernel)
set_option maxRecDepth 20000 in
theorem gX4_unsay_X2_become : GoodIn wsX4_unsay (wsV RX4 138 RX2 yX2_become wsX2_become) := goodIn_app (goodIn_of _ (by decide +kernel)) ggX4_unsay_X2_become
set_option maxRecDepth 20000 in
theorem ggX4_unsay_X2_passDays : GoodIn wsX4_unsay wsX2_passDays := goodIn_r _ [38, 39, 40, 41, 18, 42, 23, 43, 20, 44, 45, 46, 47, 48, 49, 50, 51, 29, 24, 52, 53, 54, 55, 56, 57, 58, 59, 60, 61, 62, 33, 63, 64, 65, 66, 67, 68, 69, 70, 30, 31, 71, 72, 73, 32, 74, 75, 76, 77, 21, 78, 79, 80, 81, 82, 83, 84, 85, 86, 87, 88, 89, 90, 91, 92, 93, 94, 95, 96, 97, 98, 99, 100, 112, 113, 114, 115, 116, 117, 118, 119, 120, 121, 122, 123] (by decide +kernel) (by decide +kernel)
set_option maxRecDepth 20000 in
theorem gX4_unsay_X2_passDays : GoodIn wsX4_unsay (wsV RX4 117 RX2 yX2_passDays wsX2_passDays) := goodIn_app (goodIn_of _ (by decide +kernel)) ggX4_unsay_X2_passDays
set_option maxRecDepth 20000 in
theorem ggX4_unsay_X2_allLeft : GoodIn wsX4_unsay wsX2_allLeft := goodIn_r _ [104, 23, 78, 79, 80, 18, 81, 33, 63, 64, 65, 112, 113, 114, 115, 116, 117, 118, 119, 120, 121, 122, 123] (by decide +kernel) (by decide +kernel)
set_option maxRecDepth 20000 in
theorem gX4_unsay_X2_allLeft : GoodIn wsX4_unsay (wsV RX4 121 RX2 yX2_allLeft wsX2_allLeft) := goodIn_app (goodIn_of _ (by decide +kernel)) ggX4_unsay_X2_allLeft
theorem dX4_unsay_0 : decode cX4_unsay 0 = .ok (.iload_n 1, 1) := by decide +kernel
theorem dX4_unsay_1 : decode cX4_unsay 1 = .ok (.iconst 0, 1) := by decide +kernel
theorem dX4_unsay_2 : decode cX4_unsay 2 = .ok (.bipush 40, 2) := by decide +kernel
theorem dX4_unsay_4 : decode cX4_unsay 4 = .ok (.invokestatic 40, 3) := by decide +kernel
theorem dX4_unsay_7 : decode cX4_unsay 7 = .ok (.ifCond .ne 10, 3) := by decide +kernel
theorem dX4_unsay_10 : decode cX4_unsay 10 = .ok (.aload_n 0, 1) := by decide +kernel
theorem dX4_unsay_11 : decode cX4_unsay 11 = .ok (.ldc 44, 2) := by decide +kernel
theorem dX4_unsay_13 : decode cX4_unsay 13 = .ok (.invokevirtual 45, 3) := by decide +kernel
theorem dX4_unsay_16 : decode cX4_unsay 16 = .ok (.ireturn, 1) := by decide +kernel
theorem dX4_unsay_17 : decode cX4_unsay 17 = .ok (.iconst 0, 1) := by decide +kernel
theorem dX4_unsay_18 : decode cX4_unsay 18 = .ok (.istore_n 2, 1) := by decide +kernel
theorem dX4_unsay_19 : decode cX4_unsay 19 = .ok (.ldc 146, 2) := by decide +kernel
theorem dX4_unsay_21 : decode cX4_unsay 21 = .ok (.istore_n 3, 1) := by decide +kernel
theorem dX4_unsay_22 : decode cX4_unsay 22 = .ok (.iconst 0, 1) := by decide +kernel
theorem dX4_unsay_23 : decode cX4_unsay 23 = .ok (.istore 4, 2) := by decide +kernel
theorem dX4_unsay_25 : decode cX4_unsay 25 = .ok (.iload 4, 2) := by decide +kernel
theorem dX4_unsay_27 : decode cX4_unsay 27 = .ok (.bipush 6, 2) := by decide +kernel
theorem dX4_unsay_29 : decode cX4_unsay 29 = .ok (.if_icmp .ge 62, 3) := by decide +kernel
theorem dX4_unsay_32 : decode cX4_unsay 32 = .ok (.aload_n 0, 1) := by decide +kernel
theorem dX4_unsay_33 : decode cX4_unsay 33 = .ok (.getfield 19, 3) := by decide +kernel
theorem dX4_unsay_36 : decode cX4_unsay 36 = .ok (.aload_n 0, 1) := by decide +kernel
theorem dX4_unsay_37 : decode cX4_unsay 37 = .ok (.getfield 10, 3) := by decide +kernel
theorem dX4_unsay_40 : decode cX4_unsay 40 = .ok (.invokevirtual 138, 3) := by decide +kernel
theorem dX4_unsay_43 : decode cX4_unsay 43 = .ok (.aload_n 0, 1) := by decide +kernel
theorem dX4_unsay_44 : decode cX4_unsay 44 = .ok (.getfield 19, 3) := by decide +kernel
theorem dX4_unsay_47 : decode cX4_unsay 47 = .ok (.getfield 57, 3) := by decide +kernel
theorem dX4_unsay_50 : decode cX4_unsay 50 = .ok (.iload 4, 2) := by decide +kernel
theorem dX4_unsay_52 : decode cX4_unsay 52 = .ok (.iconst 0, 1) := by decide +kernel
theorem dX4_unsay_53 : decode cX4_unsay 53 = .ok (.iastore, 1) := by decide +kernel
theorem dX4_unsay_54 : decode cX4_unsay 54 = .ok (.aload_n 0, 1) := by decide +kernel
theorem dX4_unsay_55 : decode cX4_unsay 55 = .ok (.getfield 19, 3) := by decide +kernel
theorem dX4_unsay_58 : decode cX4_unsay 58 = .ok (.iload_n 1, 1) := by decide +kernel
theorem dX4_unsay_59 : decode cX4_unsay 59 = .ok (.iconst 0, 1) := by decide +kernel
theorem dX4_unsay_60 : decode cX4_unsay 60 = .ok (.invokevirtual 117, 3) := by decide +kernel
theorem dX4_unsay_63 : decode cX4_unsay 63 = .ok (.aload_n 0, 1) := by decide +kernel
theorem dX4_unsay_64 : decode cX4_unsay 64 = .ok (.getfield 19, 3) := by decide +kernel
theorem dX4_unsay_67 : decode cX4_unsay 67 = .ok (.invokevirtual 121, 3) := by decide +kernel
theorem dX4_unsay_70 : decode cX4_unsay 70 = .ok (.iload_n 3, 1) := by decide +kernel
theorem dX4_unsay_71 : decode cX4_unsay 71 = .ok (.if_icmp .ge 14, 3) := by decide +kernel
theorem dX4_unsay_74 : decode cX4_unsay 74 = .ok (.aload_n 0, 1) := by decide +kernel
theorem dX4_unsay_75 : decode cX4_unsay 75 = .ok (.getfield 19, 3) := by decide +kernel
theorem dX4_unsay_78 : decode cX4_unsay 78 = .ok (.invokevirtual 121, 3) := by decide +kernel
theorem dX4_unsay_81 : decode cX4_unsay 81 = .ok (.istore_n 3, 1) := by decide +kernel
theorem dX4_unsay_82 : decode cX4_unsay 82 = .ok (.iload 4, 2) := by decide +kernel
theorem dX4_unsay_84 : decode cX4_unsay 84 = .ok (.istore_n 2, 1) := by decide +kernel
theorem dX4_unsay_85 : decode cX4_unsay 85 = .ok (.iinc 4 1, 3) := by decide +kernel
theorem dX4_unsay_88 : decode cX4_unsay 88 = .ok (.goto (-63), 3) := by decide +kernel
theorem dX4_unsay_91 : decode cX4_unsay 91 = .ok (.iload_n 2, 1) := by decide +kernel
theorem dX4_unsay_92 : decode cX4_unsay 92 = .ok (.ireturn, 1) := by decide +kernel
set_option maxRecDepth 20000 in
theorem ggX4_silence_X2_isSeat : GoodIn wsX4_silence wsX2_isSeat := goodIn_r _ [10, 11, 117, 118, 119, 120, 121, 122, 123, 124, 125, 126, 127, 128] (by decide +kernel) (by decide +kernel)
set_option maxRecDepth 20000 in
theorem gX4_silence_X2_isSeat : GoodIn wsX4_silence (wsV RX4 71 RX2 yX2_isSeat wsX2_isSeat) := goodIn_app (goodIn_of _ (by decide +kernel)) ggX4_silence_X2_isSeat
set_option maxRecDepth 20000 in
theorem ggX4_silence_X4_isWithin : GoodIn wsX4_silence wsX4_isWithin := goodIn_r _ [15] (by decide +kernel) (by decide +kernel)
set_option maxRecDepth 20000 in
theorem gX4_silence_X4_isWithin : GoodIn wsX4_silence (va_wsS RX4 40 yX4_isWithin wsX4_isWithin) := goodIn_app (goodIn_of _ (by decide +kernel)) ggX4_silence_X4_isWithin
set_option maxRecDepth 20000 in
theorem ggX4_silence_X4_finding : GoodIn wsX4_silence wsX4_finding := goodIn_r _ [19, 2, 20, 12, 13, 14, 15, 110, 111, 112, 113, 114, 115, 116] (by decide +kernel) (by decide +kernel)
set_option maxRecDepth 20000 in
theorem gX4_silence_X4_finding : GoodIn wsX4_silence (wsV RX4 45 RX4 yX4_finding wsX4_finding) := goodIn_app (goodIn_of _ (by decide +kernel)) ggX4_silence_X4_finding
set_option maxRecDepth 20000 in
theorem ggX4_silence_J6_bitCount_0f7a4 : GoodIn wsX4_silence wsJ6_bitCount_0f7a4 := goodIn_r _ [24, 25, 26, 27] (by decide +kernel) (by decide +kernel)
set_option maxRecDepth 20000 in
theorem gX4_silence_J6_bitCount_0f7a4 : GoodIn wsX4_silence (va_wsS RX4 158 yJ6_bitCount_0f7a4 wsJ6_bitCount_0f7a4) := goodIn_app (goodIn_of _ (by decide +kernel)) ggX4_silence_J6_bitCount_0f7a4
set_option maxRecDepth 20000 in
theorem ggX4_silence_X2_become : GoodIn wsX4_silence wsX2_become := goodIn_r _ [31, 32, 33, 34, 11, 35, 36, 37, 38, 39, 40, 41, 42, 43, 44, 45, 117, 118, 119, 120, 121, 122, 123, 124, 125, 126, 127, 128] (by decide +kernel) (by decide +kernel)
set_option maxRecDepth 20000 in
theorem gX4_silence_X2_become : GoodIn wsX4_silence (wsV RX4 138 RX2 yX2_become wsX2_become) := goodIn_app (goodIn_of _ (by decide +kernel)) ggX4_silence_X2_become
set_option maxRecDepth 20000 in
theorem ggX4_silence_X2_passDays : GoodIn wsX4_silence wsX2_passDays := goodIn_r _ [49, 50, 51, 52, 9, 53, 11, 54, 32, 55, 56, 57, 58, 59, 60, 61, 62, 40, 35, 63, 64, 65, 66, 67, 68, 69, 70, 71, 72, 73, 44, 74, 75, 76, 77, 78, 79, 80, 81, 41, 42, 82, 83, 84, 43, 85, 86, 87, 88, 33, 89, 90, 91, 92, 93, 94, 95, 96, 97, 98, 99, 100, 101, 102, 103, 104, 105, 106, 107, 108, 7, 8, 10, 117, 118, 119, 120, 121, 122, 123, 124, 125, 126, 127, 128] (by decide +kernel) (by decide +kernel)
set_option maxRecDepth 20000 in
theorem gX4_silence_X2_passDays : GoodIn wsX4_silence (wsV RX4 117 RX2 yX2_passDays wsX2_passDays) := goodIn_app (goodIn_of _ (by decide +kernel)) ggX4_silence_X2_passDays
set_option maxRecDepth 20000 in
theorem ggX4_silence_X2_left : GoodIn wsX4_silence wsX2_left := goodIn_r _ [92, 44, 74, 75, 9, 76, 117, 118, 119, 120, 121, 122, 123, 124, 125, 126, 127, 128] (by decide +kernel) (by decide +kernel)
set_option maxRecDepth 20000 in
theorem gX4_silence_X2_left : GoodIn wsX4_silence (wsV RX4 155 RX2 yX2_left wsX2_left) := goodIn_app (goodIn_of _ (by decide +kernel)) ggX4_silence_X2_left
theorem dX4_silence_0 : decode cX4_silence 0 = .ok (.aload_n 0, 1) := by decide +kernel
theorem dX4_silence_1 : decode cX4_silence 1 = .ok (.getfield 10, 3) := by decide +kernel
theorem dX4_silence_4 : decode cX4_silence 4 = .ok (.iload_n 1, 1) := by decide +kernel
theorem dX4_silence_5 : decode cX4_silence 5 = .ok (.invokevirtual 71, 3) := by decide +kernel
theorem dX4_silence_8 : decode cX4_silence 8 = .ok (.ifCond .eq 13, 3) := by decide +kernel
theorem dX4_silence_11 : decode cX4_silence 11 = .ok (.iload_n 2, 1) := by decide +kernel
theorem dX4_silence_12 : decode cX4_silence 12 = .ok (.iconst 0, 1) := by decide +kernel
theorem dX4_silence_13 : decode cX4_silence 13 = .ok (.bipush 12, 2) := by decide +kernel
theorem dX4_silence_15 : decode cX4_silence 15 = .ok (.invokestatic 40, 3) := by decide +kernel
theorem dX4_silence_18 : decode cX4_silence 18 = .ok (.ifCond .ne 10, 3) := by decide +kernel
theorem dX4_silence_21 : decode cX4_silence 21 = .ok (.aload_n 0, 1) := by decide +kernel
theorem dX4_silence_22 : decode cX4_silence 22 = .ok (.ldc 44, 2) := by decide +kernel
theorem dX4_silence_24 : decode cX4_silence 24 = .ok (.invokevirtual 45, 3) := by decide +kernel
theorem dX4_silence_27 : decode cX4_silence 27 = .ok (.ireturn, 1) := by decide +kernel
theorem dX4_silence_28 : decode cX4_silence 28 = .ok (.iconst 1, 1) := by decide +kernel
theorem dX4_silence_29 : decode cX4_silence 29 = .ok (.aload_n 0, 1) := by decide +kernel
theorem dX4_silence_30 : decode cX4_silence 30 = .ok (.getfield 10, 3) := by decide +kernel
theorem dX4_silence_33 : decode cX4_silence 33 = .ok (.getfield 152, 3) := by decide +kernel
theorem dX4_silence_36 : decode cX4_silence 36 = .ok (.ishl, 1) := by decide +kernel
theorem dX4_silence_37 : decode cX4_silence 37 = .ok (.istore_n 3, 1) := by decide +kernel
theorem dX4_silence_38 : decode cX4_silence 38 = .ok (.iconst 0, 1) := by decide +kernel
theorem dX4_silence_39 : decode cX4_silence 39 = .ok (.istore 4, 2) := by decide +kernel
theorem dX4_silence_41 : decode cX4_silence 41 = .ok (.iload 4, 2) := by decide +kernel
theorem dX4_silence_43 : decode cX4_silence 43 = .ok (.aload_n 0, 1) := by decide +kernel
theorem dX4_silence_44 : decode cX4_silence 44 = .ok (.getfield 10, 3) := by decide +kernel
theorem dX4_silence_47 : decode cX4_silence 47 = .ok (.getfield 152, 3) := by decide +kernel
theorem dX4_silence_50 : decode cX4_silence 50 = .ok (.if_icmp .gt 72, 3) := by decide +kernel
theorem dX4_silence_53 : decode cX4_silence 53 = .ok (.iconst 0, 1) := by decide +kernel
theorem dX4_silence_54 : decode cX4_silence 54 = .ok (.istore 5, 2) := by decide +kernel
theorem dX4_silence_56 : decode cX4_silence 56 = .ok (.iload 5, 2) := by decide +kernel
theorem dX4_silence_58 : decode cX4_silence 58 = .ok (.iload_n 3, 1) := by decide +kernel
theorem dX4_silence_59 : decode cX4_silence 59 = .ok (.if_icmp .ge 57, 3) := by decide +kernel
theorem dX4_silence_62 : decode cX4_silence 62 = .ok (.iload 5, 2) := by decide +kernel
theorem dX4_silence_64 : decode cX4_silence 64 = .ok (.invokestatic 158, 3) := by decide +kernel
theorem dX4_silence_67 : decode cX4_silence 67 = .ok (.iload 4, 2) := by decide +kernel
theorem dX4_silence_69 : decode cX4_silence 69 = .ok (.if_icmp .eq 6, 3) := by decide +kernel
theorem dX4_silence_72 : decode cX4_silence 72 = .ok (.goto 38, 3) := by decide +kernel
theorem dX4_silence_75 : decode cX4_silence 75 = .ok (.aload_n 0, 1) := by decide +kernel
theorem dX4_silence_76 : decode cX4_silence 76 = .ok (.getfield 19, 3) := by decide +kernel
theorem dX4_silence_79 : decode cX4_silence 79 = .ok (.aload_n 0, 1) := by decide +kernel
theorem dX4_silence_80 : decode cX4_silence 80 = .ok (.getfield 10, 3) := by decide +kernel
theorem dX4_silence_83 : decode cX4_silence 83 = .ok (.invokevirtual 138, 3) := by decide +kernel
theorem dX4_silence_86 : decode cX4_silence 86 = .ok (.aload_n 0, 1) := by decide +kernel
theorem dX4_silence_87 : decode cX4_silence 87 = .ok (.getfield 19, 3) := by decide +kernel
theorem dX4_silence_90 : decode cX4_silence 90 = .ok (.iload_n 2, 1) := by decide +kernel
theorem dX4_silence_91 : decode cX4_silence 91 = .ok (.iload 5, 2) := by decide +kernel
theorem dX4_silence_93 : decode cX4_silence 93 = .ok (.invokevirtual 117, 3) := by decide +kernel
theorem dX4_silence_96 : decode cX4_silence 96 = .ok (.aload_n 0, 1) := by decide +kernel
theorem dX4_silence_97 : decode cX4_silence 97 = .ok (.getfield 19, 3) := by decide +kernel
theorem dX4_silence_100 : decode cX4_silence 100 = .ok (.iload_n 1, 1) := by decide +kernel
theorem dX4_silence_101 : decode cX4_silence 101 = .ok (.invokevirtual 155, 3) := by decide +kernel
theorem dX4_silence_104 : decode cX4_silence 104 = .ok (.ifCond .ne 6, 3) := by decide +kernel
theorem dX4_silence_107 : decode cX4_silence 107 = .ok (.iload 5, 2) := by decide +kernel
theorem dX4_silence_109 : decode cX4_silence 109 = .ok (.ireturn, 1) := by decide +kernel
theorem dX4_silence_110 : decode cX4_silence 110 = .ok (.iinc 5 1, 3) := by decide +kernel
theorem dX4_silence_113 : decode cX4_silence 113 = .ok (.goto (-57), 3) := by decide +kernel
theorem dX4_silence_116 : decode cX4_silence 116 = .ok (.iinc 4 1, 3) := by decide +kernel
theorem dX4_silence_119 : decode cX4_silence 119 = .ok (.goto (-78), 3) := by decide +kernel
theorem dX4_silence_122 : decode cX4_silence 122 = .ok (.aload_n 0, 1) := by decide +kernel
theorem dX4_silence_123 : decode cX4_silence 123 = .ok (.ldc 151, 2) := by decide +kernel
theorem dX4_silence_125 : decode cX4_silence 125 = .ok (.invokevirtual 45, 3) := by decide +kernel
theorem dX4_silence_128 : decode cX4_silence 128 = .ok (.ireturn, 1) := by decide +kernel
set_option maxRecDepth 20000 in
theorem ggX4_swapFor_X4_isWithin : GoodIn wsX4_swapFor wsX4_isWithin := goodIn_r _ [10] (by decide +kernel) (by decide +kernel)
set_option maxRecDepth 20000 in
theorem gX4_swapFor_X4_isWithin : GoodIn wsX4_swapFor (va_wsS RX4 40 yX4_isWithin wsX4_isWithin) := goodIn_app (goodIn_of _ (by decide +kernel)) ggX4_swapFor_X4_isWithin
set_option maxRecDepth 20000 in
theorem ggX4_swapFor_X4_finding : GoodIn wsX4_swapFor wsX4_finding := goodIn_r _ [14, 1, 15, 7, 8, 9, 10, 110, 111, 112, 113, 114, 115, 116] (by decide +kernel) (by decide +kernel)
set_option maxRecDepth 20000 in
theorem gX4_swapFor_X4_finding : GoodIn wsX4_swapFor (wsV RX4 45 RX4 yX4_finding wsX4_finding) := goodIn_app (goodIn_of _ (by decide +kernel)) ggX4_swapFor_X4_finding
set_option maxRecDepth 20000 in
theorem ggX4_swapFor_X2_become : GoodIn wsX4_swapFor wsX2_become := goodIn_r _ [20, 21, 22, 23, 24, 25, 26, 27, 28, 29, 30, 31, 32, 33, 34, 35, 117, 118, 119, 120, 121, 122, 123, 124, 125, 126, 127, 128] (by decide +kernel) (by decide +kernel)
set_option maxRecDepth 20000 in
theorem gX4_swapFor_X2_become : GoodIn wsX4_swapFor (wsV RX4 138 RX2 yX2_become wsX2_become) := goodIn_app (goodIn_of _ (by decide +kernel)) ggX4_swapFor_X2_become
set_option maxRecDepth 20000 in
theorem ggX4_swapFor_X2_swapPlates : GoodIn wsX4_swapFor wsX2_swapPlates := goodIn_r _ [39, 34, 40, 41, 19, 42, 117, 118, 119, 120, 121, 122, 123, 124, 125, 126, 127, 128] (by decide +kernel) (by decide +kernel)
set_option maxRecDepth 20000 in
theorem gX4_swapFor_X2_swapPlates : GoodIn wsX4_swapFor (wsV RX4 163 RX2 yX2_swapPlates wsX2_swapPlates) := goodIn_app (goodIn_of _ (by decide +kernel)) ggX4_swapFor_X2_swapPlates
set_option maxRecDepth 20000 in
theorem ggX4_swapFor_X2_passDays : GoodIn wsX4_swapFor wsX2_passDays := goodIn_r _ [46, 47, 48, 49, 19, 50, 24, 51, 21, 52, 53, 54, 55, 56, 57, 58, 59, 30, 25, 60, 61, 62, 63, 64, 65, 66, 67, 68, 69, 70, 34, 40, 41, 42, 71, 72, 73, 74, 75, 31, 32, 76, 77, 78, 33, 79, 80, 81, 82, 22, 83, 84, 85, 86, 87, 88, 89, 90, 91, 92, 93, 94, 95, 96, 97, 98, 99, 100, 101, 102, 103, 104, 105, 117, 118, 119, 120, 121, 122, 123, 124, 125, 126, 127, 128] (by decide +kernel) (by decide +kernel)
set_option maxRecDepth 20000 in
theorem gX4_swapFor_X2_passDays : GoodIn wsX4_swapFor (wsV RX4 117 RX2 yX2_passDays wsX2_passDays) := goodIn_app (goodIn_of _ (by decide +kernel)) ggX4_swapFor_X2_passDays
set_option maxRecDepth 20000 in
theorem ggX4_swapFor_X2_allLeft : GoodIn wsX4_swapFor wsX2_allLeft := goodIn_r _ [109, 24, 83, 84, 85, 19, 86, 34, 40, 41, 42, 117, 118, 119, 120, 121, 122, 123, 124, 125, 126, 127, 128] (by decide +kernel) (by decide +kernel)
set_option maxRecDepth 20000 in
theorem gX4_swapFor_X2_allLeft : GoodIn wsX4_swapFor (wsV RX4 121 RX2 yX2_allLeft wsX2_allLeft) := goodIn_app (goodIn_of _ (by decide +kernel)) ggX4_swapFor_X2_allLeft
theorem dX4_swapFor_0 : decode cX4_swapFor 0 = .ok (.iload_n 1, 1) := by decide +kernel
theorem dX4_swapFor_1 : decode cX4_swapFor 1 = .ok (.iconst 0, 1) := by decide +kernel
theorem dX4_swapFor_2 : decode cX4_swapFor 2 = .ok (.bipush 20, 2) := by decide +kernel
theorem dX4_swapFor_4 : decode cX4_swapFor 4 = .ok (.invokestatic 40, 3) := by decide +kernel
theorem dX4_swapFor_7 : decode cX4_swapFor 7 = .ok (.ifCond .ne 10, 3) := by decide +kernel
theorem dX4_swapFor_10 : decode cX4_swapFor 10 = .ok (.aload_n 0, 1) := by decide +kernel
theorem dX4_swapFor_11 : decode cX4_swapFor 11 = .ok (.ldc 44, 2) := by decide +kernel
theorem dX4_swapFor_13 : decode cX4_swapFor 13 = .ok (.invokevirtual 45, 3) := by decide +kernel
theorem dX4_swapFor_16 : decode cX4_swapFor 16 = .ok (.ireturn, 1) := by decide +kernel
theorem dX4_swapFor_17 : decode cX4_swapFor 17 = .ok (.aload_n 0, 1) := by decide +kernel
theorem dX4_swapFor_18 : decode cX4_swapFor 18 = .ok (.getfield 10, 3) := by decide +kernel
theorem dX4_swapFor_21 : decode cX4_swapFor 21 = .ok (.getfield 152, 3) := by decide +kernel
theorem dX4_swapFor_24 : decode cX4_swapFor 24 = .ok (.iconst 2, 1) := by decide +kernel
theorem dX4_swapFor_25 : decode cX4_swapFor 25 = .ok (.if_icmp .ge 10, 3) := by decide +kernel
theorem dX4_swapFor_28 : decode cX4_swapFor 28 = .ok (.aload_n 0, 1) := by decide +kernel
theorem dX4_swapFor_29 : decode cX4_swapFor 29 = .ok (.ldc 151, 2) := by decide +kernel
theorem dX4_swapFor_31 : decode cX4_swapFor 31 = .ok (.invokevirtual 45, 3) := by decide +kernel
theorem dX4_swapFor_34 : decode cX4_swapFor 34 = .ok (.ireturn, 1) := by decide +kernel
theorem dX4_swapFor_35 : decode cX4_swapFor 35 = .ok (.iconst 0, 1) := by decide +kernel
theorem dX4_swapFor_36 : decode cX4_swapFor 36 = .ok (.istore_n 2, 1) := by decide +kernel
theorem dX4_swapFor_37 : decode cX4_swapFor 37 = .ok (.ldc 146, 2) := by decide +kernel
theorem dX4_swapFor_39 : decode cX4_swapFor 39 = .ok (.istore_n 3, 1) := by decide +kernel
theorem dX4_swapFor_40 : decode cX4_swapFor 40 = .ok (.iconst 0, 1) := by decide +kernel
theorem dX4_swapFor_41 : decode cX4_swapFor 41 = .ok (.istore 4, 2) := by decide +kernel
theorem dX4_swapFor_43 : decode cX4_swapFor 43 = .ok (.iload 4, 2) := by decide +kernel
theorem dX4_swapFor_45 : decode cX4_swapFor 45 = .ok (.aload_n 0, 1) := by decide +kernel
theorem dX4_swapFor_46 : decode cX4_swapFor 46 = .ok (.getfield 10, 3) := by decide +kernel
theorem dX4_swapFor_49 : decode cX4_swapFor 49 = .ok (.getfield 152, 3) := by decide +kernel
theorem dX4_swapFor_52 : decode cX4_swapFor 52 = .ok (.if_icmp .ge 92, 3) := by decide +kernel
theorem dX4_swapFor_55 : decode cX4_swapFor 55 = .ok (.iload 4, 2) := by decide +kernel
theorem dX4_swapFor_57 : decode cX4_swapFor 57 = .ok (.iconst 1, 1) := by decide +kernel
theorem dX4_swapFor_58 : decode cX4_swapFor 58 = .ok (.iadd, 1) := by decide +kernel
theorem dX4_swapFor_59 : decode cX4_swapFor 59 = .ok (.istore 5, 2) := by decide +kernel
theorem dX4_swapFor_61 : decode cX4_swapFor 61 = .ok (.iload 5, 2) := by decide +kernel
theorem dX4_swapFor_63 : decode cX4_swapFor 63 = .ok (.aload_n 0, 1) := by decide +kernel
theorem dX4_swapFor_64 : decode cX4_swapFor 64 = .ok (.getfield 10, 3) := by decide +kernel
theorem dX4_swapFor_67 : decode cX4_swapFor 67 = .ok (.getfield 152, 3) := by decide +kernel
theorem dX4_swapFor_70 : decode cX4_swapFor 70 = .ok (.if_icmp .ge 68, 3) := by decide +kernel
theorem dX4_swapFor_73 : decode cX4_swapFor 73 = .ok (.aload_n 0, 1) := by decide +kernel
theorem dX4_swapFor_74 : decode cX4_swapFor 74 = .ok (.getfield 19, 3) := by decide +kernel
theorem dX4_swapFor_77 : decode cX4_swapFor 77 = .ok (.aload_n 0, 1) := by decide +kernel
theorem dX4_swapFor_78 : decode cX4_swapFor 78 = .ok (.getfield 10, 3) := by decide +kernel
theorem dX4_swapFor_81 : decode cX4_swapFor 81 = .ok (.invokevirtual 138, 3) := by decide +kernel
theorem dX4_swapFor_84 : decode cX4_swapFor 84 = .ok (.aload_n 0, 1) := by decide +kernel
theorem dX4_swapFor_85 : decode cX4_swapFor 85 = .ok (.getfield 19, 3) := by decide +kernel
theorem dX4_swapFor_88 : decode cX4_swapFor 88 = .ok (.iload 4, 2) := by decide +kernel
theorem dX4_swapFor_90 : decode cX4_swapFor 90 = .ok (.iload 5, 2) := by decide +kernel
theorem dX4_swapFor_92 : decode cX4_swapFor 92 = .ok (.invokevirtual 163, 3) := by decide +kernel
theorem dX4_swapFor_95 : decode cX4_swapFor 95 = .ok (.aload_n 0, 1) := by decide +kernel
theorem dX4_swapFor_96 : decode cX4_swapFor 96 = .ok (.getfield 19, 3) := by decide +kernel
theorem dX4_swapFor_99 : decode cX4_swapFor 99 = .ok (.iload_n 1, 1) := by decide +kernel
theorem dX4_swapFor_100 : decode cX4_swapFor 100 = .ok (.iconst 0, 1) := by decide +kernel
theorem dX4_swapFor_101 : decode cX4_swapFor 101 = .ok (.invokevirtual 117, 3) := by decide +kernel
theorem dX4_swapFor_104 : decode cX4_swapFor 104 = .ok (.aload_n 0, 1) := by decide +kernel
theorem dX4_swapFor_105 : decode cX4_swapFor 105 = .ok (.getfield 19, 3) := by decide +kernel
theorem dX4_swapFor_108 : decode cX4_swapFor 108 = .ok (.invokevirtual 121, 3) := by decide +kernel
theorem dX4_swapFor_111 : decode cX4_swapFor 111 = .ok (.iload_n 3, 1) := by decide +kernel
theorem dX4_swapFor_112 : decode cX4_swapFor 112 = .ok (.if_icmp .ge 20, 3) := by decide +kernel
theorem dX4_swapFor_115 : decode cX4_swapFor 115 = .ok (.aload_n 0, 1) := by decide +kernel
theorem dX4_swapFor_116 : decode cX4_swapFor 116 = .ok (.getfield 19, 3) := by decide +kernel
theorem dX4_swapFor_119 : decode cX4_swapFor 119 = .ok (.invokevirtual 121, 3) := by decide +kernel
theorem dX4_swapFor_122 : decode cX4_swapFor 122 = .ok (.istore_n 3, 1) := by decide +kernel
theorem dX4_swapFor_123 : decode cX4_swapFor 123 = .ok (.bipush 8, 2) := by decide +kernel
theorem dX4_swapFor_125 : decode cX4_swapFor 125 = .ok (.iload 4, 2) := by decide +kernel
theorem dX4_swapFor_127 : decode cX4_swapFor 127 = .ok (.imul, 1) := by decide +kernel
theorem dX4_swapFor_128 : decode cX4_swapFor 128 = .ok (.iload 5, 2) := by decide +kernel
theorem dX4_swapFor_130 : decode cX4_swapFor 130 = .ok (.iadd, 1) := by decide +kernel
theorem dX4_swapFor_131 : decode cX4_swapFor 131 = .ok (.istore_n 2, 1) := by decide +kernel
theorem dX4_swapFor_132 : decode cX4_swapFor 132 = .ok (.iinc 5 1, 3) := by decide +kernel
theorem dX4_swapFor_135 : decode cX4_swapFor 135 = .ok (.goto (-74), 3) := by decide +kernel
theorem dX4_swapFor_138 : decode cX4_swapFor 138 = .ok (.iinc 4 1, 3) := by decide +kernel
theorem dX4_swapFor_141 : decode cX4_swapFor 141 = .ok (.goto (-98), 3) := by decide +kernel
theorem dX4_swapFor_144 : decode cX4_swapFor 144 = .ok (.iload_n 2, 1) := by decide +kernel
theorem dX4_swapFor_145 : decode cX4_swapFor 145 = .ok (.ireturn, 1) := by decide +kernel
set_option maxRecDepth 20000 in
theorem ggX4_fits_X4_wrongTold : GoodIn wsX4_fits wsX4_wrongTold := goodIn_r _ [7, 2, 8, 9, 10, 11, 6, 12, 13, 14, 15, 16, 17, 18, 19, 20, 21, 22, 23, 24, 25, 26, 27, 28, 29, 127, 128, 129, 130, 131, 132, 133, 134, 135, 136, 137, 138, 139, 140, 141, 142, 143, 144, 145, 146, 147, 148] (by decide +kernel) (by decide +kernel)
set_option maxRecDepth 20000 in
theorem gX4_fits_X4_wrongTold : GoodIn wsX4_fits (wsV RX4 166 RX4 yX4_wrongTold wsX4_wrongTold) := goodIn_app (goodIn_of _ (by decide +kernel)) ggX4_fits_X4_wrongTold
set_option maxRecDepth 20000 in
theorem ggX4_fits_X4_finding : GoodIn wsX4_fits wsX4_finding := goodIn_r _ [33, 8, 34, 35, 36, 6, 37, 127, 128, 129, 130, 131, 132, 133] (by decide +kernel) (by decide +kernel)
set_option maxRecDepth 20000 in
theorem gX4_fits_X4_finding : GoodIn wsX4_fits (wsV RX4 45 RX4 yX4_finding wsX4_finding) := goodIn_app (goodIn_of _ (by decide +kernel)) ggX4_fits_X4_finding
set_option maxRecDepth 20000 in
theorem ggX4_fits_X2_become : GoodIn wsX4_fits wsX2_become := goodIn_r _ [41, 42, 43, 44, 29, 45, 46, 47, 48, 49, 50, 51, 52, 53, 54, 55, 137, 138, 139, 140, 141, 142, 143, 144, 145, 146, 147, 148] (by decide +kernel) (by decide +kernel)
set_option maxRecDepth 20000 in
theorem gX4_fits_X2_become : GoodIn wsX4_fits (wsV RX4 138 RX2 yX2_become wsX2_become) := goodIn_app (goodIn_of _ (by decide +kernel)) ggX4_fits_X2_become
set_option maxRecDepth 20000 in
theorem ggX4_fits_X2_say : GoodIn wsX4_fits wsX2_say := goodIn_r _ [59, 54, 60, 61, 62, 63, 64, 65, 27, 66, 137, 138, 139, 140, 141, 142, 143, 144, 145, 146, 147, 148] (by decide +kernel) (by decide +kernel)
set_option maxRecDepth 20000 in
theorem gX4_fits_X2_say : GoodIn wsX4_fits (wsV RX4 169 RX2 yX2_say wsX2_say) := goodIn_app (goodIn_of _ (by decide +kernel)) ggX4_fits_X2_say
set_option maxRecDepth 20000 in
theorem ggX4_fits_X4_isAsTold : GoodIn wsX4_fits wsX4_isAsTold := goodIn_r _ [70, 13, 71, 1, 72, 73, 74, 27, 75, 29, 76, 42, 60, 61, 62, 63, 77, 78, 79, 80, 50, 45, 81, 82, 83, 84, 85, 86, 87, 88, 57, 58, 59, 54, 64, 65, 66, 89, 90, 91, 92, 93, 51, 52, 94, 95, 96, 53, 97, 98, 99, 100, 43, 101, 102, 103, 104, 105, 106, 107, 108, 109, 110, 111, 112, 113, 114, 115, 116, 117, 118, 119, 120, 25, 26, 28, 121, 122, 123, 17, 124, 125, 126, 127, 128, 129, 130, 131, 132, 133, 134, 135, 136, 137, 138, 139, 140, 141, 142, 143, 144, 145, 146, 147, 148] (by decide +kernel) (by decide +kernel)
set_option maxRecDepth 20000 in
theorem gX4_fits_X4_isAsTold : GoodIn wsX4_fits (wsV RX4 173 RX4 yX4_isAsTold wsX4_isAsTold) := goodIn_app (goodIn_of _ (by decide +kernel)) ggX4_fits_X4_isAsTold
theorem dX4_fits_0 : decode cX4_fits 0 = .ok (.aload_n 0, 1) := by decide +kernel
theorem dX4_fits_1 : decode cX4_fits 1 = .ok (.iload_n 1, 1) := by decide +kernel
theorem dX4_fits_2 : decode cX4_fits 2 = .ok (.iload_n 2, 1) := by decide +kernel
theorem dX4_fits_3 : decode cX4_fits 3 = .ok (.invokevirtual 166, 3) := by decide +kernel
theorem dX4_fits_6 : decode cX4_fits 6 = .ok (.istore_n 3, 1) := by decide +kernel
theorem dX4_fits_7 : decode cX4_fits 7 = .ok (.iload_n 3, 1) := by decide +kernel
theorem dX4_fits_8 : decode cX4_fits 8 = .ok (.ifCond .eq 9, 3) := by decide +kernel
theorem dX4_fits_11 : decode cX4_fits 11 = .ok (.aload_n 0, 1) := by decide +kernel
theorem dX4_fits_12 : decode cX4_fits 12 = .ok (.iload_n 3, 1) := by decide +kernel
theorem dX4_fits_13 : decode cX4_fits 13 = .ok (.invokevirtual 45, 3) := by decide +kernel
theorem dX4_fits_16 : decode cX4_fits 16 = .ok (.ireturn, 1) := by decide +kernel
theorem dX4_fits_17 : decode cX4_fits 17 = .ok (.iconst 0, 1) := by decide +kernel
theorem dX4_fits_18 : decode cX4_fits 18 = .ok (.istore 4, 2) := by decide +kernel
theorem dX4_fits_20 : decode cX4_fits 20 = .ok (.iconst 0, 1) := by decide +kernel
theorem dX4_fits_21 : decode cX4_fits 21 = .ok (.istore 5, 2) := by decide +kernel
theorem dX4_fits_23 : decode cX4_fits 23 = .ok (.iload 5, 2) := by decide +kernel
theorem dX4_fits_25 : decode cX4_fits 25 = .ok (.bipush 6, 2) := by decide +kernel
theorem dX4_fits_27 : decode cX4_fits 27 = .ok (.if_icmp .ge 49, 3) := by decide +kernel
theorem dX4_fits_30 : decode cX4_fits 30 = .ok (.aload_n 0, 1) := by decide +kernel
theorem dX4_fits_31 : decode cX4_fits 31 = .ok (.getfield 19, 3) := by decide +kernel
theorem dX4_fits_34 : decode cX4_fits 34 = .ok (.aload_n 0, 1) := by decide +kernel
theorem dX4_fits_35 : decode cX4_fits 35 = .ok (.getfield 10, 3) := by decide +kernel
theorem dX4_fits_38 : decode cX4_fits 38 = .ok (.invokevirtual 138, 3) := by decide +kernel
theorem dX4_fits_41 : decode cX4_fits 41 = .ok (.aload_n 0, 1) := by decide +kernel
theorem dX4_fits_42 : decode cX4_fits 42 = .ok (.getfield 19, 3) := by decide +kernel
theorem dX4_fits_45 : decode cX4_fits 45 = .ok (.iload_n 2, 1) := by decide +kernel
theorem dX4_fits_46 : decode cX4_fits 46 = .ok (.iload 5, 2) := by decide +kernel
theorem dX4_fits_48 : decode cX4_fits 48 = .ok (.iconst 1, 1) := by decide +kernel
theorem dX4_fits_49 : decode cX4_fits 49 = .ok (.invokevirtual 169, 3) := by decide +kernel
theorem dX4_fits_52 : decode cX4_fits 52 = .ok (.aload_n 0, 1) := by decide +kernel
theorem dX4_fits_53 : decode cX4_fits 53 = .ok (.iload_n 1, 1) := by decide +kernel
theorem dX4_fits_54 : decode cX4_fits 54 = .ok (.iload_n 2, 1) := by decide +kernel
theorem dX4_fits_55 : decode cX4_fits 55 = .ok (.invokevirtual 173, 3) := by decide +kernel
theorem dX4_fits_58 : decode cX4_fits 58 = .ok (.ifCond .eq 12, 3) := by decide +kernel
theorem dX4_fits_61 : decode cX4_fits 61 = .ok (.iload 4, 2) := by decide +kernel
theorem dX4_fits_63 : decode cX4_fits 63 = .ok (.iconst 1, 1) := by decide +kernel
theorem dX4_fits_64 : decode cX4_fits 64 = .ok (.iload 5, 2) := by decide +kernel
theorem dX4_fits_66 : decode cX4_fits 66 = .ok (.ishl, 1) := by decide +kernel
theorem dX4_fits_67 : decode cX4_fits 67 = .ok (.ior, 1) := by decide +kernel
theorem dX4_fits_68 : decode cX4_fits 68 = .ok (.istore 4, 2) := by decide +kernel
theorem dX4_fits_70 : decode cX4_fits 70 = .ok (.iinc 5 1, 3) := by decide +kernel
theorem dX4_fits_73 : decode cX4_fits 73 = .ok (.goto (-50), 3) := by decide +kernel
theorem dX4_fits_76 : decode cX4_fits 76 = .ok (.iload 4, 2) := by decide +kernel
theorem dX4_fits_78 : decode cX4_fits 78 = .ok (.ireturn, 1) := by decide +kernel
set_option maxRecDepth 20000 in
theorem ggX4_kinds_X4_wrongTold : GoodIn wsX4_kinds wsX4_wrongTold := goodIn_r _ [8, 2, 9, 10, 11, 12, 7, 13, 14, 15, 16, 17, 18, 19, 20, 21, 22, 23, 24, 25, 26, 27, 28, 29, 30, 127, 128, 129, 130, 131, 132, 133, 146, 147, 148, 134, 135, 136, 137, 138, 139, 140, 141, 142, 143, 144, 145] (by decide +kernel) (by decide +kernel)
set_option maxRecDepth 20000 in
theorem gX4_kinds_X4_wrongTold : GoodIn wsX4_kinds (wsV RX4 166 RX4 yX4_wrongTold wsX4_wrongTold) := goodIn_app (goodIn_of _ (by decide +kernel)) ggX4_kinds_X4_wrongTold
set_option maxRecDepth 20000 in
theorem ggX4_kinds_X4_finding : GoodIn wsX4_kinds wsX4_finding := goodIn_r _ [34, 9, 35, 36, 37, 7, 38, 127, 128, 129, 130, 131, 132, 133] (by decide +kernel) (by decide +kernel)
set_option maxRecDepth 20000 in
theorem gX4_kinds_X4_finding : GoodIn wsX4_kinds (wsV RX4 45 RX4 yX4_finding wsX4_finding) := goodIn_app (goodIn_of _ (by decide +kernel)) ggX4_kinds_X4_finding
set_option maxRecDepth 20000 in
theorem ggX4_kinds_X2_become : GoodIn wsX4_kinds wsX2_become := goodIn_r _ [42, 43, 44, 45, 30, 46, 47, 48, 49, 50, 51, 52, 53, 54, 55, 56, 134, 135, 136, 137, 138, 139, 140, 141, 142, 143, 144, 145] (by decide +kernel) (by decide +kernel)
set_option maxRecDepth 20000 in
theorem gX4_kinds_X2_become : GoodIn wsX4_kinds (wsV RX4 138 RX2 yX2_become wsX2_become) := goodIn_app (goodIn_of _ (by decide +kernel)) ggX4_kinds_X2_become
set_option maxRecDepth 20000 in
theorem ggX4_kinds_X4_isAsTold : GoodIn wsX4_kinds wsX4_isAsTold := goodIn_r _ [60, 14, 61, 1, 62, 63, 64, 28, 65, 30, 66, 43, 67, 68, 69, 70, 71, 72, 73, 74, 51, 46, 75, 76, 77, 78, 79, 80, 81, 82, 83, 84, 85, 55, 86, 87, 88, 89, 90, 91, 92, 93, 52, 53, 94, 95, 96, 54, 97, 98, 99, 100, 44, 101, 102, 103, 104, 105, 106, 107, 108, 109, 110, 111, 112, 113, 114, 115, 116, 117, 118, 119, 120, 26, 27, 29, 121, 122, 123, 18, 124, 125, 126, 127, 128, 129, 130, 131, 132, 133, 146, 147, 148, 134, 135, 136, 137, 138, 139, 140, 141, 142, 143, 144, 145] (by decide +kernel) (by decide +kernel)
set_option maxRecDepth 20000 in
theorem gX4_kinds_X4_isAsTold : GoodIn wsX4_kinds (wsV RX4 173 RX4 yX4_isAsTold wsX4_isAsTold) := goodIn_app (goodIn_of _ (by decide +kernel)) ggX4_kinds_X4_isAsTold
theorem dX4_kinds_0 : decode cX4_kinds 0 = .ok (.aload_n 0, 1) := by decide +kernel
theorem dX4_kinds_1 : decode cX4_kinds 1 = .ok (.iload_n 1, 1) := by decide +kernel
theorem dX4_kinds_2 : decode cX4_kinds 2 = .ok (.iload_n 2, 1) := by decide +kernel
theorem dX4_kinds_3 : decode cX4_kinds 3 = .ok (.invokevirtual 166, 3) := by decide +kernel
theorem dX4_kinds_6 : decode cX4_kinds 6 = .ok (.istore_n 3, 1) := by decide +kernel
theorem dX4_kinds_7 : decode cX4_kinds 7 = .ok (.iload_n 3, 1) := by decide +kernel
theorem dX4_kinds_8 : decode cX4_kinds 8 = .ok (.ifCond .eq 9, 3) := by decide +kernel
theorem dX4_kinds_11 : decode cX4_kinds 11 = .ok (.aload_n 0, 1) := by decide +kernel
theorem dX4_kinds_12 : decode cX4_kinds 12 = .ok (.iload_n 3, 1) := by decide +kernel
theorem dX4_kinds_13 : decode cX4_kinds 13 = .ok (.invokevirtual 45, 3) := by decide +kernel
theorem dX4_kinds_16 : decode cX4_kinds 16 = .ok (.ireturn, 1) := by decide +kernel
theorem dX4_kinds_17 : decode cX4_kinds 17 = .ok (.iconst 0, 1) := by decide +kernel
theorem dX4_kinds_18 : decode cX4_kinds 18 = .ok (.istore 4, 2) := by decide +kernel
theorem dX4_kinds_20 : decode cX4_kinds 20 = .ok (.iconst 0, 1) := by decide +kernel
theorem dX4_kinds_21 : decode cX4_kinds 21 = .ok (.istore 5, 2) := by decide +kernel
theorem dX4_kinds_23 : decode cX4_kinds 23 = .ok (.iload 5, 2) := by decide +kernel
theorem dX4_kinds_25 : decode cX4_kinds 25 = .ok (.bipush 7, 2) := by decide +kernel
theorem dX4_kinds_27 : decode cX4_kinds 27 = .ok (.if_icmp .ge 49, 3) := by decide +kernel
theorem dX4_kinds_30 : decode cX4_kinds 30 = .ok (.aload_n 0, 1) := by decide +kernel
theorem dX4_kinds_31 : decode cX4_kinds 31 = .ok (.getfield 19, 3) := by decide +kernel
theorem dX4_kinds_34 : decode cX4_kinds 34 = .ok (.aload_n 0, 1) := by decide +kernel
theorem dX4_kinds_35 : decode cX4_kinds 35 = .ok (.getfield 10, 3) := by decide +kernel
theorem dX4_kinds_38 : decode cX4_kinds 38 = .ok (.invokevirtual 138, 3) := by decide +kernel
theorem dX4_kinds_41 : decode cX4_kinds 41 = .ok (.aload_n 0, 1) := by decide +kernel
theorem dX4_kinds_42 : decode cX4_kinds 42 = .ok (.getfield 19, 3) := by decide +kernel
theorem dX4_kinds_45 : decode cX4_kinds 45 = .ok (.getfield 81, 3) := by decide +kernel
theorem dX4_kinds_48 : decode cX4_kinds 48 = .ok (.iload_n 2, 1) := by decide +kernel
theorem dX4_kinds_49 : decode cX4_kinds 49 = .ok (.iload 5, 2) := by decide +kernel
theorem dX4_kinds_51 : decode cX4_kinds 51 = .ok (.iastore, 1) := by decide +kernel
theorem dX4_kinds_52 : decode cX4_kinds 52 = .ok (.aload_n 0, 1) := by decide +kernel
theorem dX4_kinds_53 : decode cX4_kinds 53 = .ok (.iload_n 1, 1) := by decide +kernel
theorem dX4_kinds_54 : decode cX4_kinds 54 = .ok (.iload_n 2, 1) := by decide +kernel
theorem dX4_kinds_55 : decode cX4_kinds 55 = .ok (.invokevirtual 173, 3) := by decide +kernel
theorem dX4_kinds_58 : decode cX4_kinds 58 = .ok (.ifCond .eq 12, 3) := by decide +kernel
theorem dX4_kinds_61 : decode cX4_kinds 61 = .ok (.iload 4, 2) := by decide +kernel
theorem dX4_kinds_63 : decode cX4_kinds 63 = .ok (.iconst 1, 1) := by decide +kernel
theorem dX4_kinds_64 : decode cX4_kinds 64 = .ok (.iload 5, 2) := by decide +kernel
theorem dX4_kinds_66 : decode cX4_kinds 66 = .ok (.ishl, 1) := by decide +kernel
theorem dX4_kinds_67 : decode cX4_kinds 67 = .ok (.ior, 1) := by decide +kernel
theorem dX4_kinds_68 : decode cX4_kinds 68 = .ok (.istore 4, 2) := by decide +kernel
theorem dX4_kinds_70 : decode cX4_kinds 70 = .ok (.iinc 5 1, 3) := by decide +kernel
theorem dX4_kinds_73 : decode cX4_kinds 73 = .ok (.goto (-50), 3) := by decide +kernel
theorem dX4_kinds_76 : decode cX4_kinds 76 = .ok (.iload 4, 2) := by decide +kernel
theorem dX4_kinds_78 : decode cX4_kinds 78 = .ok (.ireturn, 1) := by decide +kernel
set_option maxRecDepth 20000 in
theorem ggX4_wrongTold_X4_wrongSheet : GoodIn wsX4_wrongTold wsX4_wrongSheet := goodIn_r _ [7, 2, 8, 9, 10, 11, 12, 13, 14, 15, 16, 17, 18, 25, 26, 27, 28, 29, 30, 31, 32, 33, 34] (by decide +kernel) (by decide +kernel)
set_option maxRecDepth 20000 in
theorem gX4_wrongTold_X4_wrongSheet : GoodIn wsX4_wrongTold (wsV RX4 177 RX4 yX4_wrongSheet wsX4_wrongSheet) := goodIn_app (goodIn_of _ (by decide +kernel)) ggX4_wrongTold_X4_wrongSheet
set_option maxRecDepth 20000 in
theorem ggX4_wrongTold_X2_isSeat : GoodIn wsX4_wrongTold wsX2_isSeat := goodIn_r _ [23, 24, 35, 36, 37, 38, 39, 40, 41, 42, 43, 44, 45, 46] (by decide +kernel) (by decide +kernel)
set_option maxRecDepth 20000 in
theorem gX4_wrongTold_X2_isSeat : GoodIn wsX4_wrongTold (wsV RX4 71 RX2 yX2_isSeat wsX2_isSeat) := goodIn_app (goodIn_of _ (by decide +kernel)) ggX4_wrongTold_X2_isSeat
theorem dX4_wrongTold_0 : decode cX4_wrongTold 0 = .ok (.aload_n 0, 1) := by decide +kernel
theorem dX4_wrongTold_1 : decode cX4_wrongTold 1 = .ok (.iload_n 1, 1) := by decide +kernel
theorem dX4_wrongTold_2 : decode cX4_wrongTold 2 = .ok (.invokevirtual 177, 3) := by decide +kernel
theorem dX4_wrongTold_5 : decode cX4_wrongTold 5 = .ok (.istore_n 3, 1) := by decide +kernel
theorem dX4_wrongTold_6 : decode cX4_wrongTold 6 = .ok (.iload_n 3, 1) := by decide +kernel
theorem dX4_wrongTold_7 : decode cX4_wrongTold 7 = .ok (.ifCond .ne 17, 3) := by decide +kernel
theorem dX4_wrongTold_10 : decode cX4_wrongTold 10 = .ok (.aload_n 0, 1) := by decide +kernel
theorem dX4_wrongTold_11 : decode cX4_wrongTold 11 = .ok (.getfield 10, 3) := by decide +kernel
theorem dX4_wrongTold_14 : decode cX4_wrongTold 14 = .ok (.iload_n 2, 1) := by decide +kernel
theorem dX4_wrongTold_15 : decode cX4_wrongTold 15 = .ok (.invokevirtual 71, 3) := by decide +kernel
theorem dX4_wrongTold_18 : decode cX4_wrongTold 18 = .ok (.ifCond .ne 6, 3) := by decide +kernel
theorem dX4_wrongTold_21 : decode cX4_wrongTold 21 = .ok (.ldc 44, 2) := by decide +kernel
theorem dX4_wrongTold_23 : decode cX4_wrongTold 23 = .ok (.ireturn, 1) := by decide +kernel
theorem dX4_wrongTold_24 : decode cX4_wrongTold 24 = .ok (.iload_n 3, 1) := by decide +kernel
theorem dX4_wrongTold_25 : decode cX4_wrongTold 25 = .ok (.ireturn, 1) := by decide +kernel
set_option maxRecDepth 20000 in
theorem ggX4_isAsTold_X2_passDay : GoodIn wsX4_isAsTold wsX2_passDay := goodIn_r _ [8, 9, 10, 11, 12, 13, 14, 15, 16, 17, 18, 7, 19, 20, 21, 22, 23, 24, 25, 26, 27, 28, 29, 30, 31, 32, 33, 34, 35, 36, 37, 38, 39, 40, 41, 42, 43, 44, 45, 46, 47, 48, 49, 50, 51, 52, 53, 54, 55, 56, 57, 58, 59, 60, 61, 62, 63, 64, 65, 66, 67, 68, 69, 70, 71, 72, 73, 74, 75, 93, 94, 95, 96, 97, 98, 99, 100, 101, 102, 103, 104] (by decide +kernel) (by decide +kernel)
set_option maxRecDepth 20000 in
theorem gX4_isAsTold_X2_passDay : GoodIn wsX4_isAsTold (wsV RX4 147 RX2 yX2_passDay wsX2_passDay) := goodIn_app (goodIn_of _ (by decide +kernel)) ggX4_isAsTold_X2_passDay
set_option maxRecDepth 20000 in
theorem ggX4_isAsTold_X1_number : GoodIn wsX4_isAsTold wsX1_number := goodIn_r _ [80, 81, 90, 91, 92] (by decide +kernel) (by decide +kernel)
set_option maxRecDepth 20000 in
theorem gX4_isAsTold_X1_number : GoodIn wsX4_isAsTold (wsV RX4 183 RX1 yX1_number wsX1_number) := goodIn_app (goodIn_of _ (by decide +kernel)) ggX4_isAsTold_X1_number
set_option maxRecDepth 20000 in
theorem ggX4_isAsTold_X2_left : GoodIn wsX4_isAsTold wsX2_left := goodIn_r _ [56, 33, 34, 35, 7, 36, 93, 94, 95, 96, 97, 98, 99, 100, 101, 102, 103, 104] (by decide +kernel) (by decide +kernel)
set_option maxRecDepth 20000 in
theorem gX4_isAsTold_X2_left : GoodIn wsX4_isAsTold (wsV RX4 155 RX2 yX2_left wsX2_left) := goodIn_app (goodIn_of _ (by decide +kernel)) ggX4_isAsTold_X2_left
theorem dX4_isAsTold_0 : decode cX4_isAsTold 0 = .ok (.iconst 0, 1) := by decide +kernel
theorem dX4_isAsTold_1 : decode cX4_isAsTold 1 = .ok (.istore_n 3, 1) := by decide +kernel
theorem dX4_isAsTold_2 : decode cX4_isAsTold 2 = .ok (.iload_n 3, 1) := by decide +kernel
theorem dX4_isAsTold_3 : decode cX4_isAsTold 3 = .ok (.aload_n 0, 1) := by decide +kernel
theorem dX4_isAsTold_4 : decode cX4_isAsTold 4 = .ok (.getfield 25, 3) := by decide +kernel
theorem dX4_isAsTold_7 : decode cX4_isAsTold 7 = .ok (.getfield 180, 3) := by decide +kernel
theorem dX4_isAsTold_10 : decode cX4_isAsTold 10 = .ok (.iload_n 1, 1) := by decide +kernel
theorem dX4_isAsTold_11 : decode cX4_isAsTold 11 = .ok (.iaload, 1) := by decide +kernel
theorem dX4_isAsTold_12 : decode cX4_isAsTold 12 = .ok (.if_icmp .ge 53, 3) := by decide +kernel
theorem dX4_isAsTold_15 : decode cX4_isAsTold 15 = .ok (.iload_n 3, 1) := by decide +kernel
theorem dX4_isAsTold_16 : decode cX4_isAsTold 16 = .ok (.ifCond .le 11, 3) := by decide +kernel
theorem dX4_isAsTold_19 : decode cX4_isAsTold 19 = .ok (.aload_n 0, 1) := by decide +kernel
theorem dX4_isAsTold_20 : decode cX4_isAsTold 20 = .ok (.getfield 19, 3) := by decide +kernel
theorem dX4_isAsTold_23 : decode cX4_isAsTold 23 = .ok (.iconst 0, 1) := by decide +kernel
theorem dX4_isAsTold_24 : decode cX4_isAsTold 24 = .ok (.invokevirtual 147, 3) := by decide +kernel
theorem dX4_isAsTold_27 : decode cX4_isAsTold 27 = .ok (.aload_n 0, 1) := by decide +kernel
theorem dX4_isAsTold_28 : decode cX4_isAsTold 28 = .ok (.getfield 25, 3) := by decide +kernel
theorem dX4_isAsTold_31 : decode cX4_isAsTold 31 = .ok (.iload_n 1, 1) := by decide +kernel
theorem dX4_isAsTold_32 : decode cX4_isAsTold 32 = .ok (.iload_n 3, 1) := by decide +kernel
theorem dX4_isAsTold_33 : decode cX4_isAsTold 33 = .ok (.invokevirtual 183, 3) := by decide +kernel
theorem dX4_isAsTold_36 : decode cX4_isAsTold 36 = .ok (.istore 4, 2) := by decide +kernel
theorem dX4_isAsTold_38 : decode cX4_isAsTold 38 = .ok (.iload 4, 2) := by decide +kernel
theorem dX4_isAsTold_40 : decode cX4_isAsTold 40 = .ok (.iconst (-1), 1) := by decide +kernel
theorem dX4_isAsTold_41 : decode cX4_isAsTold 41 = .ok (.if_icmp .eq 18, 3) := by decide +kernel
theorem dX4_isAsTold_44 : decode cX4_isAsTold 44 = .ok (.iload 4, 2) := by decide +kernel
theorem dX4_isAsTold_46 : decode cX4_isAsTold 46 = .ok (.aload_n 0, 1) := by decide +kernel
theorem dX4_isAsTold_47 : decode cX4_isAsTold 47 = .ok (.getfield 19, 3) := by decide +kernel
theorem dX4_isAsTold_50 : decode cX4_isAsTold 50 = .ok (.iload_n 2, 1) := by decide +kernel
theorem dX4_isAsTold_51 : decode cX4_isAsTold 51 = .ok (.invokevirtual 155, 3) := by decide +kernel
theorem dX4_isAsTold_54 : decode cX4_isAsTold 54 = .ok (.if_icmp .eq 5, 3) := by decide +kernel
theorem dX4_isAsTold_57 : decode cX4_isAsTold 57 = .ok (.iconst 0, 1) := by decide +kernel
theorem dX4_isAsTold_58 : decode cX4_isAsTold 58 = .ok (.ireturn, 1) := by decide +kernel
theorem dX4_isAsTold_59 : decode cX4_isAsTold 59 = .ok (.iinc 3 1, 3) := by decide +kernel
theorem dX4_isAsTold_62 : decode cX4_isAsTold 62 = .ok (.goto (-60), 3) := by decide +kernel
theorem dX4_isAsTold_65 : decode cX4_isAsTold 65 = .ok (.iconst 1, 1) := by decide +kernel
theorem dX4_isAsTold_66 : decode cX4_isAsTold 66 = .ok (.ireturn, 1) := by decide +kernel
set_option maxRecDepth 20000 in
theorem ggX4_talk_X4_isWithin : GoodIn wsX4_talk wsX4_isWithin := goodIn_r _ [10] (by decide +kernel) (by decide +kernel)
set_option maxRecDepth 20000 in
theorem gX4_talk_X4_isWithin : GoodIn wsX4_talk (va_wsS RX4 40 yX4_isWithin wsX4_isWithin) := goodIn_app (goodIn_of _ (by decide +kernel)) ggX4_talk_X4_isWithin
set_option maxRecDepth 20000 in
theorem ggX4_talk_X4_finding : GoodIn wsX4_talk wsX4_finding := goodIn_r _ [14, 1, 15, 7, 8, 9, 10, 101, 102, 103, 104, 105, 106, 107] (by decide +kernel) (by decide +kernel)
set_option maxRecDepth 20000 in
theorem gX4_talk_X4_finding : GoodIn wsX4_talk (wsV RX4 45 RX4 yX4_finding wsX4_finding) := goodIn_app (goodIn_of _ (by decide +kernel)) ggX4_talk_X4_finding
set_option maxRecDepth 20000 in
theorem ggX4_talk_X2_draw : GoodIn wsX4_talk wsX2_draw := goodIn_r _ [20, 21, 22, 108, 109, 110, 111, 112, 113, 114, 115, 116, 117, 118, 119] (by decide +kernel) (by decide +kernel)
set_option maxRecDepth 20000 in
theorem gX4_talk_X2_draw : GoodIn wsX4_talk (wsV RX4 186 RX2 yX2_draw wsX2_draw) := goodIn_app (goodIn_of _ (by decide +kernel)) ggX4_talk_X2_draw
set_option maxRecDepth 20000 in
theorem ggX4_talk_X4_isTaste : GoodIn wsX4_talk wsX4_isTaste := goodIn_r _ [25, 7, 8, 9, 10] (by decide +kernel) (by decide +kernel)
set_option maxRecDepth 20000 in
theorem gX4_talk_X4_isTaste : GoodIn wsX4_talk (va_wsS RX4 53 yX4_isTaste wsX4_isTaste) := goodIn_app (goodIn_of _ (by decide +kernel)) ggX4_talk_X4_isTaste
set_option maxRecDepth 20000 in
theorem ggX4_talk_X2_passDay : GoodIn wsX4_talk wsX2_passDay := goodIn_r _ [29, 30, 31, 32, 33, 34, 35, 36, 37, 38, 39, 19, 40, 41, 42, 43, 44, 45, 46, 47, 48, 49, 50, 51, 52, 53, 54, 55, 56, 57, 58, 59, 60, 61, 62, 63, 64, 65, 66, 67, 68, 69, 70, 71, 72, 73, 74, 75, 76, 77, 78, 79, 80, 81, 82, 83, 84, 85, 86, 87, 88, 89, 90, 91, 92, 93, 94, 95, 96, 108, 109, 110, 111, 112, 113, 114, 115, 116, 117, 118, 119] (by decide +kernel) (by decide +kernel)
set_option maxRecDepth 20000 in
theorem gX4_talk_X2_passDay : GoodIn wsX4_talk (wsV RX4 147 RX2 yX2_passDay wsX2_passDay) := goodIn_app (goodIn_of _ (by decide +kernel)) ggX4_talk_X2_passDay
set_option maxRecDepth 20000 in
theorem ggX4_talk_X2_allLeft : GoodIn wsX4_talk wsX2_allLeft := goodIn_r _ [100, 30, 74, 75, 76, 19, 77, 54, 55, 56, 57, 108, 109, 110, 111, 112, 113, 114, 115, 116, 117, 118, 119] (by decide +kernel) (by decide +kernel)
set_option maxRecDepth 20000 in
theorem gX4_talk_X2_allLeft : GoodIn wsX4_talk (wsV RX4 121 RX2 yX2_allLeft wsX2_allLeft) := goodIn_app (goodIn_of _ (by decide +kernel)) ggX4_talk_X2_allLeft
theorem dX4_talk_0 : decode cX4_talk 0 = .ok (.iload_n 1, 1) := by decide +kernel
theorem dX4_talk_1 : decode cX4_talk 1 = .ok (.iconst 1, 1) := by decide +kernel
theorem dX4_talk_2 : decode cX4_talk 2 = .ok (.bipush 20, 2) := by decide +kernel
theorem dX4_talk_4 : decode cX4_talk 4 = .ok (.invokestatic 40, 3) := by decide +kernel
theorem dX4_talk_7 : decode cX4_talk 7 = .ok (.ifCond .ne 10, 3) := by decide +kernel
theorem dX4_talk_10 : decode cX4_talk 10 = .ok (.aload_n 0, 1) := by decide +kernel
theorem dX4_talk_11 : decode cX4_talk 11 = .ok (.ldc 44, 2) := by decide +kernel
theorem dX4_talk_13 : decode cX4_talk 13 = .ok (.invokevirtual 45, 3) := by decide +kernel
theorem dX4_talk_16 : decode cX4_talk 16 = .ok (.ireturn, 1) := by decide +kernel
theorem dX4_talk_17 : decode cX4_talk 17 = .ok (.aload_n 0, 1) := by decide +kernel
theorem dX4_talk_18 : decode cX4_talk 18 = .ok (.getfield 10, 3) := by decide +kernel
theorem dX4_talk_21 : decode cX4_talk 21 = .ok (.getfield 110, 3) := by decide +kernel
theorem dX4_talk_24 : decode cX4_talk 24 = .ok (.ldc 97, 2) := by decide +kernel
theorem dX4_talk_26 : decode cX4_talk 26 = .ok (.iload_n 1, 1) := by decide +kernel
theorem dX4_talk_27 : decode cX4_talk 27 = .ok (.isub, 1) := by decide +kernel
theorem dX4_talk_28 : decode cX4_talk 28 = .ok (.if_icmp .le 10, 3) := by decide +kernel
theorem dX4_talk_31 : decode cX4_talk 31 = .ok (.aload_n 0, 1) := by decide +kernel
theorem dX4_talk_32 : decode cX4_talk 32 = .ok (.ldc 116, 2) := by decide +kernel
theorem dX4_talk_34 : decode cX4_talk 34 = .ok (.invokevirtual 45, 3) := by decide +kernel
theorem dX4_talk_37 : decode cX4_talk 37 = .ok (.ireturn, 1) := by decide +kernel
theorem dX4_talk_38 : decode cX4_talk 38 = .ok (.iconst 0, 1) := by decide +kernel
theorem dX4_talk_39 : decode cX4_talk 39 = .ok (.istore_n 2, 1) := by decide +kernel
theorem dX4_talk_40 : decode cX4_talk 40 = .ok (.iload_n 2, 1) := by decide +kernel
theorem dX4_talk_41 : decode cX4_talk 41 = .ok (.iload_n 1, 1) := by decide +kernel
theorem dX4_talk_42 : decode cX4_talk 42 = .ok (.if_icmp .ge 58, 3) := by decide +kernel
theorem dX4_talk_45 : decode cX4_talk 45 = .ok (.aload_n 0, 1) := by decide +kernel
theorem dX4_talk_46 : decode cX4_talk 46 = .ok (.getfield 10, 3) := by decide +kernel
theorem dX4_talk_49 : decode cX4_talk 49 = .ok (.invokevirtual 186, 3) := by decide +kernel
theorem dX4_talk_52 : decode cX4_talk 52 = .ok (.bipush 6, 2) := by decide +kernel
theorem dX4_talk_54 : decode cX4_talk 54 = .ok (.irem, 1) := by decide +kernel
theorem dX4_talk_55 : decode cX4_talk 55 = .ok (.istore_n 3, 1) := by decide +kernel
theorem dX4_talk_56 : decode cX4_talk 56 = .ok (.aload_n 0, 1) := by decide +kernel
theorem dX4_talk_57 : decode cX4_talk 57 = .ok (.getfield 10, 3) := by decide +kernel
theorem dX4_talk_60 : decode cX4_talk 60 = .ok (.invokevirtual 186, 3) := by decide +kernel
theorem dX4_talk_63 : decode cX4_talk 63 = .ok (.bipush 21, 2) := by decide +kernel
theorem dX4_talk_65 : decode cX4_talk 65 = .ok (.irem, 1) := by decide +kernel
theorem dX4_talk_66 : decode cX4_talk 66 = .ok (.istore 4, 2) := by decide +kernel
theorem dX4_talk_68 : decode cX4_talk 68 = .ok (.iload_n 3, 1) := by decide +kernel
theorem dX4_talk_69 : decode cX4_talk 69 = .ok (.invokestatic 53, 3) := by decide +kernel
theorem dX4_talk_72 : decode cX4_talk 72 = .ok (.ifCond .eq 14, 3) := by decide +kernel
theorem dX4_talk_75 : decode cX4_talk 75 = .ok (.aload_n 0, 1) := by decide +kernel
theorem dX4_talk_76 : decode cX4_talk 76 = .ok (.getfield 10, 3) := by decide +kernel
theorem dX4_talk_79 : decode cX4_talk 79 = .ok (.getfield 57, 3) := by decide +kernel
theorem dX4_talk_82 : decode cX4_talk 82 = .ok (.iload_n 3, 1) := by decide +kernel
theorem dX4_talk_83 : decode cX4_talk 83 = .ok (.iload 4, 2) := by decide +kernel
theorem dX4_talk_85 : decode cX4_talk 85 = .ok (.iastore, 1) := by decide +kernel
theorem dX4_talk_86 : decode cX4_talk 86 = .ok (.aload_n 0, 1) := by decide +kernel
theorem dX4_talk_87 : decode cX4_talk 87 = .ok (.getfield 10, 3) := by decide +kernel
theorem dX4_talk_90 : decode cX4_talk 90 = .ok (.iconst 0, 1) := by decide +kernel
theorem dX4_talk_91 : decode cX4_talk 91 = .ok (.invokevirtual 147, 3) := by decide +kernel
theorem dX4_talk_94 : decode cX4_talk 94 = .ok (.iinc 2 1, 3) := by decide +kernel
theorem dX4_talk_97 : decode cX4_talk 97 = .ok (.goto (-57), 3) := by decide +kernel
theorem dX4_talk_100 : decode cX4_talk 100 = .ok (.aload_n 0, 1) := by decide +kernel
theorem dX4_talk_101 : decode cX4_talk 101 = .ok (.getfield 10, 3) := by decide +kernel
theorem dX4_talk_104 : decode cX4_talk 104 = .ok (.invokevirtual 121, 3) := by decide +kernel
theorem dX4_talk_107 : decode cX4_talk 107 = .ok (.ireturn, 1) := by decide +kernel
set_option maxRecDepth 20000 in
theorem ggX4_odds_X2_isSeat : GoodIn wsX4_odds wsX2_isSeat := goodIn_r _ [9, 10, 40, 41, 42, 43, 44, 45, 46, 47, 48, 49, 50, 51] (by decide +kernel) (by decide +kernel)
set_option maxRecDepth 20000 in
theorem gX4_odds_X2_isSeat : GoodIn wsX4_odds (wsV RX4 71 RX2 yX2_isSeat wsX2_isSeat) := goodIn_app (goodIn_of _ (by decide +kernel)) ggX4_odds_X2_isSeat
set_option maxRecDepth 20000 in
theorem ggX4_odds_X4_isWithin : GoodIn wsX4_odds wsX4_isWithin := goodIn_r _ [14] (by decide +kernel) (by decide +kernel)
set_option maxRecDepth 20000 in
theorem gX4_odds_X4_isWithin : GoodIn wsX4_odds (va_wsS RX4 40 yX4_isWithin wsX4_isWithin) := goodIn_app (goodIn_of _ (by decide +kernel)) ggX4_odds_X4_isWithin
set_option maxRecDepth 20000 in
theorem ggX4_odds_X4_finding : GoodIn wsX4_odds wsX4_finding := goodIn_r _ [18, 2, 19, 11, 12, 13, 14, 33, 34, 35, 36, 37, 38, 39] (by decide +kernel) (by decide +kernel)
set_option maxRecDepth 20000 in
theorem gX4_odds_X4_finding : GoodIn wsX4_odds (wsV RX4 45 RX4 yX4_finding wsX4_finding) := goodIn_app (goodIn_of _ (by decide +kernel)) ggX4_odds_X4_finding
set_option maxRecDepth 20000 in
theorem ggX4_odds_X0_bites : GoodIn wsX4_odds wsX0_bites := goodIn_r _ [23, 24, 25, 22, 26] (by decide +kernel) (by decide +kernel)
set_option maxRecDepth 20000 in
theorem gX4_odds_X0_bites : GoodIn wsX4_odds (va_wsS RX4 104 yX0_bites wsX0_bites) := goodIn_app (goodIn_of _ (by decide +kernel)) ggX4_odds_X0_bites
set_option maxRecDepth 20000 in
theorem ggX4_odds_X4_lowest : GoodIn wsX4_odds wsX4_lowest := goodIn_r _ [29] (by decide +kernel) (by decide +kernel)
set_option maxRecDepth 20000 in
theorem gX4_odds_X4_lowest : GoodIn wsX4_odds (va_wsS RX4 189 yX4_lowest wsX4_lowest) := goodIn_app (goodIn_of _ (by decide +kernel)) ggX4_odds_X4_lowest
set_option maxRecDepth 20000 in
theorem ggX4_odds_X4_power : GoodIn wsX4_odds wsX4_power := goodIn_r _ [32] (by decide +kernel) (by decide +kernel)
set_option maxRecDepth 20000 in
theorem gX4_odds_X4_power : GoodIn wsX4_odds (va_wsS RX4 192 yX4_power wsX4_power) := goodIn_app (goodIn_of _ (by decide +kernel)) ggX4_odds_X4_power
theorem dX4_odds_0 : decode cX4_odds 0 = .ok (.aload_n 0, 1) := by decide +kernel
theorem dX4_odds_1 : decode cX4_odds 1 = .ok (.getfield 10, 3) := by decide +kernel
theorem dX4_odds_4 : decode cX4_odds 4 = .ok (.iload_n 1, 1) := by decide +kernel
theorem dX4_odds_5 : decode cX4_odds 5 = .ok (.invokevirtual 71, 3) := by decide +kernel
theorem dX4_odds_8 : decode cX4_odds 8 = .ok (.ifCond .eq 22, 3) := by decide +kernel
theorem dX4_odds_11 : decode cX4_odds 11 = .ok (.iload_n 2, 1) := by decide +kernel
theorem dX4_odds_12 : decode cX4_odds 12 = .ok (.iconst 0, 1) := by decide +kernel
theorem dX4_odds_13 : decode cX4_odds 13 = .ok (.bipush 23, 2) := by decide +kernel
theorem dX4_odds_15 : decode cX4_odds 15 = .ok (.invokestatic 40, 3) := by decide +kernel
theorem dX4_odds_18 : decode cX4_odds 18 = .ok (.ifCond .eq 12, 3) := by decide +kernel
theorem dX4_odds_21 : decode cX4_odds 21 = .ok (.iload_n 3, 1) := by decide +kernel
theorem dX4_odds_22 : decode cX4_odds 22 = .ok (.iconst 0, 1) := by decide +kernel
theorem dX4_odds_23 : decode cX4_odds 23 = .ok (.iconst 1, 1) := by decide +kernel
theorem dX4_odds_24 : decode cX4_odds 24 = .ok (.invokestatic 40, 3) := by decide +kernel
theorem dX4_odds_27 : decode cX4_odds 27 = .ok (.ifCond .ne 11, 3) := by decide +kernel
theorem dX4_odds_30 : decode cX4_odds 30 = .ok (.aload_n 0, 1) := by decide +kernel
theorem dX4_odds_31 : decode cX4_odds 31 = .ok (.ldc 44, 2) := by decide +kernel
theorem dX4_odds_33 : decode cX4_odds 33 = .ok (.invokevirtual 45, 3) := by decide +kernel
theorem dX4_odds_36 : decode cX4_odds 36 = .ok (.i2l, 1) := by decide +kernel
theorem dX4_odds_37 : decode cX4_odds 37 = .ok (.lreturn, 1) := by decide +kernel
theorem dX4_odds_38 : decode cX4_odds 38 = .ok (.iconst 0, 1) := by decide +kernel
theorem dX4_odds_39 : decode cX4_odds 39 = .ok (.istore 4, 2) := by decide +kernel
theorem dX4_odds_41 : decode cX4_odds 41 = .ok (.iconst 0, 1) := by decide +kernel
theorem dX4_odds_42 : decode cX4_odds 42 = .ok (.istore 5, 2) := by decide +kernel
theorem dX4_odds_44 : decode cX4_odds 44 = .ok (.iload 5, 2) := by decide +kernel
theorem dX4_odds_46 : decode cX4_odds 46 = .ok (.bipush 6, 2) := by decide +kernel
theorem dX4_odds_48 : decode cX4_odds 48 = .ok (.if_icmp .ge 36, 3) := by decide +kernel
theorem dX4_odds_51 : decode cX4_odds 51 = .ok (.aload_n 0, 1) := by decide +kernel
theorem dX4_odds_52 : decode cX4_odds 52 = .ok (.getfield 10, 3) := by decide +kernel
theorem dX4_odds_55 : decode cX4_odds 55 = .ok (.getfield 81, 3) := by decide +kernel
theorem dX4_odds_58 : decode cX4_odds 58 = .ok (.iload_n 1, 1) := by decide +kernel
theorem dX4_odds_59 : decode cX4_odds 59 = .ok (.iaload, 1) := by decide +kernel
theorem dX4_odds_60 : decode cX4_odds 60 = .ok (.iload 5, 2) := by decide +kernel
theorem dX4_odds_62 : decode cX4_odds 62 = .ok (.aload_n 0, 1) := by decide +kernel
theorem dX4_odds_63 : decode cX4_odds 63 = .ok (.getfield 10, 3) := by decide +kernel
theorem dX4_odds_66 : decode cX4_odds 66 = .ok (.getfield 49, 3) := by decide +kernel
theorem dX4_odds_69 : decode cX4_odds 69 = .ok (.invokestatic 104, 3) := by decide +kernel
theorem dX4_odds_72 : decode cX4_odds 72 = .ok (.ifCond .lt 6, 3) := by decide +kernel
theorem dX4_odds_75 : decode cX4_odds 75 = .ok (.iinc 4 1, 3) := by decide +kernel
theorem dX4_odds_78 : decode cX4_odds 78 = .ok (.iinc 5 1, 3) := by decide +kernel
theorem dX4_odds_81 : decode cX4_odds 81 = .ok (.goto (-37), 3) := by decide +kernel
theorem dX4_odds_84 : decode cX4_odds 84 = .ok (.iload_n 3, 1) := by decide +kernel
theorem dX4_odds_85 : decode cX4_odds 85 = .ok (.ifCond .ne 16, 3) := by decide +kernel
theorem dX4_odds_88 : decode cX4_odds 88 = .ok (.iload 4, 2) := by decide +kernel
theorem dX4_odds_90 : decode cX4_odds 90 = .ok (.bipush 6, 2) := by decide +kernel
theorem dX4_odds_92 : decode cX4_odds 92 = .ok (.invokestatic 189, 3) := by decide +kernel
theorem dX4_odds_95 : decode cX4_odds 95 = .ok (.i2l, 1) := by decide +kernel
theorem dX4_odds_96 : decode cX4_odds 96 = .ok (.iload_n 2, 1) := by decide +kernel
theorem dX4_odds_97 : decode cX4_odds 97 = .ok (.invokestatic 192, 3) := by decide +kernel
theorem dX4_odds_100 : decode cX4_odds 100 = .ok (.lreturn, 1) := by decide +kernel
theorem dX4_odds_101 : decode cX4_odds 101 = .ok (.bipush 6, 2) := by decide +kernel
theorem dX4_odds_103 : decode cX4_odds 103 = .ok (.iload 4, 2) := by decide +kernel
theorem dX4_odds_105 : decode cX4_odds 105 = .ok (.invokestatic 189, 3) := by decide +kernel
theorem dX4_odds_108 : decode cX4_odds 108 = .ok (.i2l, 1) := by decide +kernel
theorem dX4_odds_109 : decode cX4_odds 109 = .ok (.iload_n 2, 1) := by decide +kernel
theorem dX4_odds_110 : decode cX4_odds 110 = .ok (.invokestatic 192, 3) := by decide +kernel
theorem dX4_odds_113 : decode cX4_odds 113 = .ok (.lreturn, 1) := by decide +kernel
theorem dX4_lowest_0 : decode cX4_lowest 0 = .ok (.bipush 6, 2) := by decide +kernel
theorem dX4_lowest_2 : decode cX4_lowest 2 = .ok (.istore_n 2, 1) := by decide +kernel
theorem dX4_lowest_3 : decode cX4_lowest 3 = .ok (.iload_n 2, 1) := by decide +kernel
theorem dX4_lowest_4 : decode cX4_lowest 4 = .ok (.iconst 1, 1) := by decide +kernel
theorem dX4_lowest_5 : decode cX4_lowest 5 = .ok (.if_icmp .le 25, 3) := by decide +kernel
theorem dX4_lowest_8 : decode cX4_lowest 8 = .ok (.iload_n 0, 1) := by decide +kernel
theorem dX4_lowest_9 : decode cX4_lowest 9 = .ok (.iload_n 2, 1) := by decide +kernel
theorem dX4_lowest_10 : decode cX4_lowest 10 = .ok (.irem, 1) := by decide +kernel
theorem dX4_lowest_11 : decode cX4_lowest 11 = .ok (.ifCond .ne 13, 3) := by decide +kernel
theorem dX4_lowest_14 : decode cX4_lowest 14 = .ok (.iload_n 1, 1) := by decide +kernel
theorem dX4_lowest_15 : decode cX4_lowest 15 = .ok (.iload_n 2, 1) := by decide +kernel
theorem dX4_lowest_16 : decode cX4_lowest 16 = .ok (.irem, 1) := by decide +kernel
theorem dX4_lowest_17 : decode cX4_lowest 17 = .ok (.ifCond .ne 7, 3) := by decide +kernel
theorem dX4_lowest_20 : decode cX4_lowest 20 = .ok (.iload_n 0, 1) := by decide +kernel
theorem dX4_lowest_21 : decode cX4_lowest 21 = .ok (.iload_n 2, 1) := by decide +kernel
theorem dX4_lowest_22 : decode cX4_lowest 22 = .ok (.idiv, 1) := by decide +kernel
theorem dX4_lowest_23 : decode cX4_lowest 23 = .ok (.ireturn, 1) := by decide +kernel
theorem dX4_lowest_24 : decode cX4_lowest 24 = .ok (.iinc 2 (-1), 3) := by decide +kernel
theorem dX4_lowest_27 : decode cX4_lowest 27 = .ok (.goto (-24), 3) := by decide +kernel
theorem dX4_lowest_30 : decode cX4_lowest 30 = .ok (.iload_n 0, 1) := by decide +kernel
theorem dX4_lowest_31 : decode cX4_lowest 31 = .ok (.ireturn, 1) := by decide +kernel
theorem dX4_power_0 : decode cX4_power 0 = .ok (.lconst 1, 1) := by decide +kernel
theorem dX4_power_1 : decode cX4_power 1 = .ok (.lstore_n 3, 1) := by decide +kernel
theorem dX4_power_2 : decode cX4_power 2 = .ok (.iconst 0, 1) := by decide +kernel
theorem dX4_power_3 : decode cX4_power 3 = .ok (.istore 5, 2) := by decide +kernel
theorem dX4_power_5 : decode cX4_power 5 = .ok (.iload 5, 2) := by decide +kernel
theorem dX4_power_7 : decode cX4_power 7 = .ok (.iload_n 2, 1) := by decide +kernel
theorem dX4_power_8 : decode cX4_power 8 = .ok (.if_icmp .ge 13, 3) := by decide +kernel
theorem dX4_power_11 : decode cX4_power 11 = .ok (.lload_n 3, 1) := by decide +kernel
theorem dX4_power_12 : decode cX4_power 12 = .ok (.lload_n 0, 1) := by decide +kernel
theorem dX4_power_13 : decode cX4_power 13 = .ok (.lmul, 1) := by decide +kernel
theorem dX4_power_14 : decode cX4_power 14 = .ok (.lstore_n 3, 1) := by decide +kernel
theorem dX4_power_15 : decode cX4_power 15 = .ok (.iinc 5 1, 3) := by decide +kernel
theorem dX4_power_18 : decode cX4_power 18 = .ok (.goto (-13), 3) := by decide +kernel
theorem dX4_power_21 : decode cX4_power 21 = .ok (.lload_n 3, 1) := by decide +kernel
theorem dX4_power_22 : decode cX4_power 22 = .ok (.lreturn, 1) := by decide +kernel
theorem dX4_seed_0 : decode cX4_seed 0 = .ok (.aload_n 0, 1) := by decide +kernel
theorem dX4_seed_1 : decode cX4_seed 1 = .ok (.getfield 10, 3) := by decide +kernel
theorem dX4_seed_4 : decode cX4_seed 4 = .ok (.getfield 196, 3) := by decide +kernel
theorem dX4_seed_7 : decode cX4_seed 7 = .ok (.istore_n 2, 1) := by decide +kernel
theorem dX4_seed_8 : decode cX4_seed 8 = .ok (.aload_n 0, 1) := by decide +kernel
theorem dX4_seed_9 : decode cX4_seed 9 = .ok (.getfield 10, 3) := by decide +kernel
theorem dX4_seed_12 : decode cX4_seed 12 = .ok (.iload_n 1, 1) := by decide +kernel
theorem dX4_seed_13 : decode cX4_seed 13 = .ok (.putfield 196, 3) := by decide +kernel
theorem dX4_seed_16 : decode cX4_seed 16 = .ok (.iload_n 2, 1) := by decide +kernel
theorem dX4_seed_17 : decode cX4_seed 17 = .ok (.ireturn, 1) := by decide +kernel
set_option maxRecDepth 20000 in
theorem ggX4_feed_X4_isWithin : GoodIn wsX4_feed wsX4_isWithin := goodIn_r _ [8] (by decide +kernel) (by decide +kernel)
set_option maxRecDepth 20000 in
theorem gX4_feed_X4_isWithin : GoodIn wsX4_feed (va_wsS RX4 40 yX4_isWithin wsX4_isWithin) := goodIn_app (goodIn_of _ (by decide +kernel)) ggX4_feed_X4_isWithin
set_option maxRecDepth 20000 in
theorem ggX4_feed_X4_finding : GoodIn wsX4_feed wsX4_finding := goodIn_r _ [12, 1, 13, 5, 6, 7, 8, 21, 22, 23, 24, 25, 26, 27] (by decide +kernel) (by decide +kernel)
set_option maxRecDepth 20000 in
theorem gX4_feed_X4_finding : GoodIn wsX4_feed (wsV RX4 45 RX4 yX4_finding wsX4_finding) := goodIn_app (goodIn_of _ (by decide +kernel)) ggX4_feed_X4_finding
set_option maxRecDepth 20000 in
theorem ggX4_feed_X3_add : GoodIn wsX4_feed wsX3_add := goodIn_r _ [18, 19, 20, 28, 29, 30, 31, 32, 33] (by decide +kernel) (by decide +kernel)
set_option maxRecDepth 20000 in
theorem gX4_feed_X3_add : GoodIn wsX4_feed (wsV RX4 201 RX3 yX3_add wsX3_add) := goodIn_app (goodIn_of _ (by decide +kernel)) ggX4_feed_X3_add
theorem dX4_feed_0 : decode cX4_feed 0 = .ok (.iload_n 2, 1) := by decide +kernel
theorem dX4_feed_1 : decode cX4_feed 1 = .ok (.iconst 1, 1) := by decide +kernel
theorem dX4_feed_2 : decode cX4_feed 2 = .ok (.iconst 4, 1) := by decide +kernel
theorem dX4_feed_3 : decode cX4_feed 3 = .ok (.invokestatic 40, 3) := by decide +kernel
theorem dX4_feed_6 : decode cX4_feed 6 = .ok (.ifCond .ne 10, 3) := by decide +kernel
theorem dX4_feed_9 : decode cX4_feed 9 = .ok (.aload_n 0, 1) := by decide +kernel
theorem dX4_feed_10 : decode cX4_feed 10 = .ok (.ldc 44, 2) := by decide +kernel
theorem dX4_feed_12 : decode cX4_feed 12 = .ok (.invokevirtual 45, 3) := by decide +kernel
theorem dX4_feed_15 : decode cX4_feed 15 = .ok (.ireturn, 1) := by decide +kernel
theorem dX4_feed_16 : decode cX4_feed 16 = .ok (.aload_n 0, 1) := by decide +kernel
theorem dX4_feed_17 : decode cX4_feed 17 = .ok (.getfield 32, 3) := by decide +kernel
theorem dX4_feed_20 : decode cX4_feed 20 = .ok (.getfield 199, 3) := by decide +kernel
theorem dX4_feed_23 : decode cX4_feed 23 = .ok (.bipush 120, 2) := by decide +kernel
theorem dX4_feed_25 : decode cX4_feed 25 = .ok (.iload_n 2, 1) := by decide +kernel
theorem dX4_feed_26 : decode cX4_feed 26 = .ok (.isub, 1) := by decide +kernel
theorem dX4_feed_27 : decode cX4_feed 27 = .ok (.if_icmp .le 10, 3) := by decide +kernel
theorem dX4_feed_30 : decode cX4_feed 30 = .ok (.aload_n 0, 1) := by decide +kernel
theorem dX4_feed_31 : decode cX4_feed 31 = .ok (.ldc 67, 2) := by decide +kernel
theorem dX4_feed_33 : decode cX4_feed 33 = .ok (.invokevirtual 45, 3) := by decide +kernel
theorem dX4_feed_36 : decode cX4_feed 36 = .ok (.ireturn, 1) := by decide +kernel
theorem dX4_feed_37 : decode cX4_feed 37 = .ok (.iload_n 2, 1) := by decide +kernel
theorem dX4_feed_38 : decode cX4_feed 38 = .ok (.iconst 1, 1) := by decide +kernel
theorem dX4_feed_39 : decode cX4_feed 39 = .ok (.isub, 1) := by decide +kernel
theorem dX4_feed_40 : decode cX4_feed 40 = .ok (.istore_n 3, 1) := by decide +kernel
theorem dX4_feed_41 : decode cX4_feed 41 = .ok (.iload_n 3, 1) := by decide +kernel
theorem dX4_feed_42 : decode cX4_feed 42 = .ok (.ifCond .lt 23, 3) := by decide +kernel
theorem dX4_feed_45 : decode cX4_feed 45 = .ok (.aload_n 0, 1) := by decide +kernel
theorem dX4_feed_46 : decode cX4_feed 46 = .ok (.getfield 32, 3) := by decide +kernel
theorem dX4_feed_49 : decode cX4_feed 49 = .ok (.iload_n 1, 1) := by decide +kernel
theorem dX4_feed_50 : decode cX4_feed 50 = .ok (.bipush 8, 2) := by decide +kernel
theorem dX4_feed_52 : decode cX4_feed 52 = .ok (.iload_n 3, 1) := by decide +kernel
theorem dX4_feed_53 : decode cX4_feed 53 = .ok (.imul, 1) := by decide +kernel
theorem dX4_feed_54 : decode cX4_feed 54 = .ok (.ishr, 1) := by decide +kernel
theorem dX4_feed_55 : decode cX4_feed 55 = .ok (.i2b, 1) := by decide +kernel
theorem dX4_feed_56 : decode cX4_feed 56 = .ok (.invokevirtual 201, 3) := by decide +kernel
theorem dX4_feed_59 : decode cX4_feed 59 = .ok (.iinc 3 (-1), 3) := by decide +kernel
theorem dX4_feed_62 : decode cX4_feed 62 = .ok (.goto (-21), 3) := by decide +kernel
theorem dX4_feed_65 : decode cX4_feed 65 = .ok (.aload_n 0, 1) := by decide +kernel
theorem dX4_feed_66 : decode cX4_feed 66 = .ok (.getfield 32, 3) := by decide +kernel
theorem dX4_feed_69 : decode cX4_feed 69 = .ok (.getfield 199, 3) := by decide +kernel
theorem dX4_feed_72 : decode cX4_feed 72 = .ok (.ireturn, 1) := by decide +kernel
theorem dX4_wipe_0 : decode cX4_wipe 0 = .ok (.aload_n 0, 1) := by decide +kernel
theorem dX4_wipe_1 : decode cX4_wipe 1 = .ok (.getfield 32, 3) := by decide +kernel
theorem dX4_wipe_4 : decode cX4_wipe 4 = .ok (.getfield 199, 3) := by decide +kernel
theorem dX4_wipe_7 : decode cX4_wipe 7 = .ok (.istore_n 1, 1) := by decide +kernel
theorem dX4_wipe_8 : decode cX4_wipe 8 = .ok (.aload_n 0, 1) := by decide +kernel
theorem dX4_wipe_9 : decode cX4_wipe 9 = .ok (.getfield 32, 3) := by decide +kernel
theorem dX4_wipe_12 : decode cX4_wipe 12 = .ok (.iconst 0, 1) := by decide +kernel
theorem dX4_wipe_13 : decode cX4_wipe 13 = .ok (.putfield 199, 3) := by decide +kernel
theorem dX4_wipe_16 : decode cX4_wipe 16 = .ok (.iload_n 1, 1) := by decide +kernel
theorem dX4_wipe_17 : decode cX4_wipe 17 = .ok (.ireturn, 1) := by decide +kernel
set_option maxRecDepth 20000 in
theorem ggX4_text_X2_become : GoodIn wsX4_text wsX2_become := goodIn_r _ [9, 10, 11, 12, 13, 14, 15, 16, 17, 18, 19, 20, 21, 22, 23, 24, 161, 162, 163, 164, 165, 166, 167, 168, 169, 170, 171, 172] (by decide +kernel) (by decide +kernel)
set_option maxRecDepth 20000 in
theorem gX4_text_X2_become : GoodIn wsX4_text (wsV RX4 138 RX2 yX2_become wsX2_become) := goodIn_app (goodIn_of _ (by decide +kernel)) ggX4_text_X2_become
set_option maxRecDepth 20000 in
theorem ggX4_text_X3_tell : GoodIn wsX4_text wsX3_tell := goodIn_r _ [29, 30, 31, 32, 33, 34, 35, 28, 36, 37, 38, 39, 40, 41, 42, 43, 44, 45, 46, 47, 48, 49, 50, 51, 52, 53, 54, 55, 56, 57, 58, 59, 60, 61, 62, 63, 64, 65, 66, 67, 68, 69, 70, 71, 72, 73, 74, 75, 76, 77, 78, 79, 80, 81, 82, 83, 84, 85, 86, 87, 88, 89, 90, 91, 92, 93, 94, 95, 96, 97, 98, 99, 100, 101, 102, 103, 104, 105, 106, 107, 108, 109, 110, 111, 112, 113, 114, 115, 116, 117, 118, 119, 120, 121, 122, 123, 124, 125, 126, 127, 8, 128, 13, 129, 130, 131, 132, 19, 20, 21, 22, 23, 133, 134, 135, 136, 137, 138, 139, 140, 141, 142, 143, 144, 145, 146, 147, 155, 156, 157, 158, 159, 160, 161, 162, 163, 164, 165, 166, 167, 168, 169, 170, 171, 172] (by decide +kernel) (by decide +kernel)
set_option maxRecDepth 20000 in
theorem gX4_text_X3_tell : GoodIn wsX4_text (wsV RX4 205 RX3 yX3_tell wsX3_tell) := goodIn_app (goodIn_of _ (by decide +kernel)) ggX4_text_X3_tell
theorem dX4_text_0 : decode cX4_text 0 = .ok (.aload_n 0, 1) := by decide +kernel
theorem dX4_text_1 : decode cX4_text 1 = .ok (.getfield 19, 3) := by decide +kernel
theorem dX4_text_4 : decode cX4_text 4 = .ok (.aload_n 0, 1) := by decide +kernel
theorem dX4_text_5 : decode cX4_text 5 = .ok (.getfield 10, 3) := by decide +kernel
theorem dX4_text_8 : decode cX4_text 8 = .ok (.invokevirtual 138, 3) := by decide +kernel
theorem dX4_text_11 : decode cX4_text 11 = .ok (.aload_n 0, 1) := by decide +kernel
theorem dX4_text_12 : decode cX4_text 12 = .ok (.getfield 32, 3) := by decide +kernel
theorem dX4_text_15 : decode cX4_text 15 = .ok (.aload_n 0, 1) := by decide +kernel
theorem dX4_text_16 : decode cX4_text 16 = .ok (.getfield 19, 3) := by decide +kernel
theorem dX4_text_19 : decode cX4_text 19 = .ok (.invokevirtual 205, 3) := by decide +kernel
theorem dX4_text_22 : decode cX4_text 22 = .ok (.istore_n 1, 1) := by decide +kernel
theorem dX4_text_23 : decode cX4_text 23 = .ok (.iload_n 1, 1) := by decide +kernel
theorem dX4_text_24 : decode cX4_text 24 = .ok (.ifCond .lt 14, 3) := by decide +kernel
theorem dX4_text_27 : decode cX4_text 27 = .ok (.aload_n 0, 1) := by decide +kernel
theorem dX4_text_28 : decode cX4_text 28 = .ok (.getfield 10, 3) := by decide +kernel
theorem dX4_text_31 : decode cX4_text 31 = .ok (.aload_n 0, 1) := by decide +kernel
theorem dX4_text_32 : decode cX4_text 32 = .ok (.getfield 19, 3) := by decide +kernel
theorem dX4_text_35 : decode cX4_text 35 = .ok (.invokevirtual 138, 3) := by decide +kernel
theorem dX4_text_38 : decode cX4_text 38 = .ok (.aload_n 0, 1) := by decide +kernel
theorem dX4_text_39 : decode cX4_text 39 = .ok (.getfield 32, 3) := by decide +kernel
theorem dX4_text_42 : decode cX4_text 42 = .ok (.iconst 0, 1) := by decide +kernel
theorem dX4_text_43 : decode cX4_text 43 = .ok (.putfield 199, 3) := by decide +kernel
theorem dX4_text_46 : decode cX4_text 46 = .ok (.iload_n 1, 1) := by decide +kernel
theorem dX4_text_47 : decode cX4_text 47 = .ok (.ireturn, 1) := by decide +kernel
set_option maxRecDepth 20000 in
theorem ggX4_hold_X2_isSeat : GoodIn wsX4_hold wsX2_isSeat := goodIn_r _ [8, 9, 26, 27, 28, 29, 30, 31, 32, 33, 34, 35, 36, 37] (by decide +kernel) (by decide +kernel)
set_option maxRecDepth 20000 in
theorem gX4_hold_X2_isSeat : GoodIn wsX4_hold (wsV RX4 71 RX2 yX2_isSeat wsX2_isSeat) := goodIn_app (goodIn_of _ (by decide +kernel)) ggX4_hold_X2_isSeat
set_option maxRecDepth 20000 in
theorem ggX4_hold_X4_isWithin : GoodIn wsX4_hold wsX4_isWithin := goodIn_r _ [13] (by decide +kernel) (by decide +kernel)
set_option maxRecDepth 20000 in
theorem gX4_hold_X4_isWithin : GoodIn wsX4_hold (va_wsS RX4 40 yX4_isWithin wsX4_isWithin) := goodIn_app (goodIn_of _ (by decide +kernel)) ggX4_hold_X4_isWithin
set_option maxRecDepth 20000 in
theorem ggX4_hold_X4_finding : GoodIn wsX4_hold wsX4_finding := goodIn_r _ [17, 2, 18, 10, 11, 12, 13, 19, 20, 21, 22, 23, 24, 25] (by decide +kernel) (by decide +kernel)
set_option maxRecDepth 20000 in
theorem gX4_hold_X4_finding : GoodIn wsX4_hold (wsV RX4 45 RX4 yX4_finding wsX4_finding) := goodIn_app (goodIn_of _ (by decide +kernel)) ggX4_hold_X4_finding
theorem dX4_hold_0 : decode cX4_hold 0 = .ok (.iload_n 2, 1) := by decide +kernel
theorem dX4_hold_1 : decode cX4_hold 1 = .ok (.iconst (-1), 1) := by decide +kernel
theorem dX4_hold_2 : decode cX4_hold 2 = .ok (.if_icmp .eq 14, 3) := by decide +kernel
theorem dX4_hold_5 : decode cX4_hold 5 = .ok (.aload_n 0, 1) := by decide +kernel
theorem dX4_hold_6 : decode cX4_hold 6 = .ok (.getfield 10, 3) := by decide +kernel
theorem dX4_hold_9 : decode cX4_hold 9 = .ok (.iload_n 2, 1) := by decide +kernel
theorem dX4_hold_10 : decode cX4_hold 10 = .ok (.invokevirtual 71, 3) := by decide +kernel
theorem dX4_hold_13 : decode cX4_hold 13 = .ok (.ifCond .eq 7, 3) := by decide +kernel
theorem dX4_hold_16 : decode cX4_hold 16 = .ok (.iconst 1, 1) := by decide +kernel
theorem dX4_hold_17 : decode cX4_hold 17 = .ok (.goto 4, 3) := by decide +kernel
theorem dX4_hold_20 : decode cX4_hold 20 = .ok (.iconst 0, 1) := by decide +kernel
theorem dX4_hold_21 : decode cX4_hold 21 = .ok (.istore_n 3, 1) := by decide +kernel
theorem dX4_hold_22 : decode cX4_hold 22 = .ok (.iload_n 1, 1) := by decide +kernel
theorem dX4_hold_23 : decode cX4_hold 23 = .ok (.iconst 0, 1) := by decide +kernel
theorem dX4_hold_24 : decode cX4_hold 24 = .ok (.bipush 9, 2) := by decide +kernel
theorem dX4_hold_26 : decode cX4_hold 26 = .ok (.invokestatic 40, 3) := by decide +kernel
theorem dX4_hold_29 : decode cX4_hold 29 = .ok (.ifCond .eq 7, 3) := by decide +kernel
theorem dX4_hold_32 : decode cX4_hold 32 = .ok (.iload_n 3, 1) := by decide +kernel
theorem dX4_hold_33 : decode cX4_hold 33 = .ok (.ifCond .ne 10, 3) := by decide +kernel
theorem dX4_hold_36 : decode cX4_hold 36 = .ok (.aload_n 0, 1) := by decide +kernel
theorem dX4_hold_37 : decode cX4_hold 37 = .ok (.ldc 44, 2) := by decide +kernel
theorem dX4_hold_39 : decode cX4_hold 39 = .ok (.invokevirtual 45, 3) := by decide +kernel
theorem dX4_hold_42 : decode cX4_hold 42 = .ok (.ireturn, 1) := by decide +kernel
theorem dX4_hold_43 : decode cX4_hold 43 = .ok (.aload_n 0, 1) := by decide +kernel
theorem dX4_hold_44 : decode cX4_hold 44 = .ok (.getfield 10, 3) := by decide +kernel
theorem dX4_hold_47 : decode cX4_hold 47 = .ok (.getfield 209, 3) := by decide +kernel
theorem dX4_hold_50 : decode cX4_hold 50 = .ok (.iload_n 1, 1) := by decide +kernel
theorem dX4_hold_51 : decode cX4_hold 51 = .ok (.iload_n 2, 1) := by decide +kernel
theorem dX4_hold_52 : decode cX4_hold 52 = .ok (.iastore, 1) := by decide +kernel
theorem dX4_hold_53 : decode cX4_hold 53 = .ok (.iconst 1, 1) := by decide +kernel
theorem dX4_hold_54 : decode cX4_hold 54 = .ok (.ireturn, 1) := by decide +kernel
set_option maxRecDepth 20000 in
theorem ggX4_as_X4_isWithin : GoodIn wsX4_as wsX4_isWithin := goodIn_r _ [10] (by decide +kernel) (by decide +kernel)
set_option maxRecDepth 20000 in
theorem gX4_as_X4_isWithin : GoodIn wsX4_as (va_wsS RX4 40 yX4_isWithin wsX4_isWithin) := goodIn_app (goodIn_of _ (by decide +kernel)) ggX4_as_X4_isWithin
set_option maxRecDepth 20000 in
theorem ggX4_as_X4_isKind : GoodIn wsX4_as wsX4_isKind := goodIn_r _ [13, 7, 8, 9, 10] (by decide +kernel) (by decide +kernel)
set_option maxRecDepth 20000 in
theorem gX4_as_X4_isKind : GoodIn wsX4_as (va_wsS RX4 60 yX4_isKind wsX4_isKind) := goodIn_app (goodIn_of _ (by decide +kernel)) ggX4_as_X4_isKind
set_option maxRecDepth 20000 in
theorem ggX4_as_X4_finding : GoodIn wsX4_as wsX4_finding := goodIn_r _ [17, 1, 18, 7, 8, 9, 10, 32, 33, 34, 35, 36, 37, 38] (by decide +kernel) (by decide +kernel)
set_option maxRecDepth 20000 in
theorem gX4_as_X4_finding : GoodIn wsX4_as (wsV RX4 45 RX4 yX4_finding wsX4_finding) := goodIn_app (goodIn_of _ (by decide +kernel)) ggX4_as_X4_finding
set_option maxRecDepth 20000 in
theorem ggX4_as_X2_isSeat : GoodIn wsX4_as wsX2_isSeat := goodIn_r _ [23, 24, 39, 40, 41, 42, 43, 44, 45, 46, 47, 48, 49, 50] (by decide +kernel) (by decide +kernel)
set_option maxRecDepth 20000 in
theorem gX4_as_X2_isSeat : GoodIn wsX4_as (wsV RX4 71 RX2 yX2_isSeat wsX2_isSeat) := goodIn_app (goodIn_of _ (by decide +kernel)) ggX4_as_X2_isSeat
set_option maxRecDepth 20000 in
theorem ggX4_as_X0_isUnder : GoodIn wsX4_as wsX0_isUnder := goodIn_r _ [28, 29, 30, 27, 31] (by decide +kernel) (by decide +kernel)
set_option maxRecDepth 20000 in
theorem gX4_as_X0_isUnder : GoodIn wsX4_as (va_wsS RX4 213 yX0_isUnder wsX0_isUnder) := goodIn_app (goodIn_of _ (by decide +kernel)) ggX4_as_X0_isUnder
theorem dX4_as_0 : decode cX4_as 0 = .ok (.iload_n 1, 1) := by decide +kernel
theorem dX4_as_1 : decode cX4_as 1 = .ok (.iconst 0, 1) := by decide +kernel
theorem dX4_as_2 : decode cX4_as 2 = .ok (.bipush 9, 2) := by decide +kernel
theorem dX4_as_4 : decode cX4_as 4 = .ok (.invokestatic 40, 3) := by decide +kernel
theorem dX4_as_7 : decode cX4_as 7 = .ok (.ifCond .eq 10, 3) := by decide +kernel
theorem dX4_as_10 : decode cX4_as 10 = .ok (.iload_n 2, 1) := by decide +kernel
theorem dX4_as_11 : decode cX4_as 11 = .ok (.invokestatic 60, 3) := by decide +kernel
theorem dX4_as_14 : decode cX4_as 14 = .ok (.ifCond .ne 10, 3) := by decide +kernel
theorem dX4_as_17 : decode cX4_as 17 = .ok (.aload_n 0, 1) := by decide +kernel
theorem dX4_as_18 : decode cX4_as 18 = .ok (.ldc 44, 2) := by decide +kernel
theorem dX4_as_20 : decode cX4_as 20 = .ok (.invokevirtual 45, 3) := by decide +kernel
theorem dX4_as_23 : decode cX4_as 23 = .ok (.ireturn, 1) := by decide +kernel
theorem dX4_as_24 : decode cX4_as 24 = .ok (.aload_n 0, 1) := by decide +kernel
theorem dX4_as_25 : decode cX4_as 25 = .ok (.getfield 10, 3) := by decide +kernel
theorem dX4_as_28 : decode cX4_as 28 = .ok (.getfield 209, 3) := by decide +kernel
theorem dX4_as_31 : decode cX4_as 31 = .ok (.iload_n 1, 1) := by decide +kernel
theorem dX4_as_32 : decode cX4_as 32 = .ok (.iaload, 1) := by decide +kernel
theorem dX4_as_33 : decode cX4_as 33 = .ok (.istore_n 3, 1) := by decide +kernel
theorem dX4_as_34 : decode cX4_as 34 = .ok (.aload_n 0, 1) := by decide +kernel
theorem dX4_as_35 : decode cX4_as 35 = .ok (.getfield 10, 3) := by decide +kernel
theorem dX4_as_38 : decode cX4_as 38 = .ok (.iload_n 3, 1) := by decide +kernel
theorem dX4_as_39 : decode cX4_as 39 = .ok (.invokevirtual 71, 3) := by decide +kernel
theorem dX4_as_42 : decode cX4_as 42 = .ok (.ifCond .ne 10, 3) := by decide +kernel
theorem dX4_as_45 : decode cX4_as 45 = .ok (.aload_n 0, 1) := by decide +kernel
theorem dX4_as_46 : decode cX4_as 46 = .ok (.ldc 212, 2) := by decide +kernel
theorem dX4_as_48 : decode cX4_as 48 = .ok (.invokevirtual 45, 3) := by decide +kernel
theorem dX4_as_51 : decode cX4_as 51 = .ok (.ireturn, 1) := by decide +kernel
theorem dX4_as_52 : decode cX4_as 52 = .ok (.aload_n 0, 1) := by decide +kernel
theorem dX4_as_53 : decode cX4_as 53 = .ok (.getfield 10, 3) := by decide +kernel
theorem dX4_as_56 : decode cX4_as 56 = .ok (.getfield 81, 3) := by decide +kernel
theorem dX4_as_59 : decode cX4_as 59 = .ok (.iload_n 3, 1) := by decide +kernel
theorem dX4_as_60 : decode cX4_as 60 = .ok (.iaload, 1) := by decide +kernel
theorem dX4_as_61 : decode cX4_as 61 = .ok (.iload_n 2, 1) := by decide +kernel
theorem dX4_as_62 : decode cX4_as 62 = .ok (.invokestatic 213, 3) := by decide +kernel
theorem dX4_as_65 : decode cX4_as 65 = .ok (.ifCond .ne 10, 3) := by decide +kernel
theorem dX4_as_68 : decode cX4_as 68 = .ok (.aload_n 0, 1) := by decide +kernel
theorem dX4_as_69 : decode cX4_as 69 = .ok (.ldc 216, 2) := by decide +kernel
theorem dX4_as_71 : decode cX4_as 71 = .ok (.invokevirtual 45, 3) := by decide +kernel
theorem dX4_as_74 : decode cX4_as 74 = .ok (.ireturn, 1) := by decide +kernel
theorem dX4_as_75 : decode cX4_as 75 = .ok (.iload_n 3, 1) := by decide +kernel
theorem dX4_as_76 : decode cX4_as 76 = .ok (.ireturn, 1) := by decide +kernel
set_option maxRecDepth 20000 in
theorem ggX4_sheet_X1_isSheet : GoodIn wsX4_sheet wsX1_isSheet := goodIn_r _ [8] (by decide +kernel) (by decide +kernel)
set_option maxRecDepth 20000 in
theorem gX4_sheet_X1_isSheet : GoodIn wsX4_sheet (va_wsS RX4 217 yX1_isSheet wsX1_isSheet) := goodIn_app (goodIn_of _ (by decide +kernel)) ggX4_sheet_X1_isSheet
set_option maxRecDepth 20000 in
theorem ggX4_sheet_X4_finding : GoodIn wsX4_sheet wsX4_finding := goodIn_r _ [13, 1, 14, 15, 16, 12, 17, 25, 26, 27, 28, 29, 30, 31] (by decide +kernel) (by decide +kernel)
set_option maxRecDepth 20000 in
theorem gX4_sheet_X4_finding : GoodIn wsX4_sheet (wsV RX4 45 RX4 yX4_finding wsX4_finding) := goodIn_app (goodIn_of _ (by decide +kernel)) ggX4_sheet_X4_finding
set_option maxRecDepth 20000 in
theorem ggX4_sheet_X1_lay : GoodIn wsX4_sheet wsX1_lay := goodIn_r _ [21, 22, 23, 24, 32, 33, 34] (by decide +kernel) (by decide +kernel)
set_option maxRecDepth 20000 in
theorem gX4_sheet_X1_lay : GoodIn wsX4_sheet (wsV RX4 221 RX1 yX1_lay wsX1_lay) := goodIn_app (goodIn_of _ (by decide +kernel)) ggX4_sheet_X1_lay
theorem dX4_sheet_0 : decode cX4_sheet 0 = .ok (.iload_n 2, 1) := by decide +kernel
theorem dX4_sheet_1 : decode cX4_sheet 1 = .ok (.ifCond .eq 21, 3) := by decide +kernel
theorem dX4_sheet_4 : decode cX4_sheet 4 = .ok (.iload_n 2, 1) := by decide +kernel
theorem dX4_sheet_5 : decode cX4_sheet 5 = .ok (.bipush 8, 2) := by decide +kernel
theorem dX4_sheet_7 : decode cX4_sheet 7 = .ok (.if_icmp .eq 15, 3) := by decide +kernel
theorem dX4_sheet_10 : decode cX4_sheet 10 = .ok (.iload_n 2, 1) := by decide +kernel
theorem dX4_sheet_11 : decode cX4_sheet 11 = .ok (.bipush 16, 2) := by decide +kernel
theorem dX4_sheet_13 : decode cX4_sheet 13 = .ok (.if_icmp .eq 9, 3) := by decide +kernel
theorem dX4_sheet_16 : decode cX4_sheet 16 = .ok (.iload_n 2, 1) := by decide +kernel
theorem dX4_sheet_17 : decode cX4_sheet 17 = .ok (.bipush 32, 2) := by decide +kernel
theorem dX4_sheet_19 : decode cX4_sheet 19 = .ok (.if_icmp .ne 7, 3) := by decide +kernel
theorem dX4_sheet_22 : decode cX4_sheet 22 = .ok (.iconst 1, 1) := by decide +kernel
theorem dX4_sheet_23 : decode cX4_sheet 23 = .ok (.goto 4, 3) := by decide +kernel
theorem dX4_sheet_26 : decode cX4_sheet 26 = .ok (.iconst 0, 1) := by decide +kernel
theorem dX4_sheet_27 : decode cX4_sheet 27 = .ok (.istore 4, 2) := by decide +kernel
theorem dX4_sheet_29 : decode cX4_sheet 29 = .ok (.iload_n 1, 1) := by decide +kernel
theorem dX4_sheet_30 : decode cX4_sheet 30 = .ok (.invokestatic 217, 3) := by decide +kernel
theorem dX4_sheet_33 : decode cX4_sheet 33 = .ok (.ifCond .eq 8, 3) := by decide +kernel
theorem dX4_sheet_36 : decode cX4_sheet 36 = .ok (.iload 4, 2) := by decide +kernel
theorem dX4_sheet_38 : decode cX4_sheet 38 = .ok (.ifCond .ne 10, 3) := by decide +kernel
theorem dX4_sheet_41 : decode cX4_sheet 41 = .ok (.aload_n 0, 1) := by decide +kernel
theorem dX4_sheet_42 : decode cX4_sheet 42 = .ok (.ldc 44, 2) := by decide +kernel
theorem dX4_sheet_44 : decode cX4_sheet 44 = .ok (.invokevirtual 45, 3) := by decide +kernel
theorem dX4_sheet_47 : decode cX4_sheet 47 = .ok (.ireturn, 1) := by decide +kernel
theorem dX4_sheet_48 : decode cX4_sheet 48 = .ok (.iload_n 3, 1) := by decide +kernel
theorem dX4_sheet_49 : decode cX4_sheet 49 = .ok (.ifCond .ge 10, 3) := by decide +kernel
theorem dX4_sheet_52 : decode cX4_sheet 52 = .ok (.aload_n 0, 1) := by decide +kernel
theorem dX4_sheet_53 : decode cX4_sheet 53 = .ok (.ldc 220, 2) := by decide +kernel
theorem dX4_sheet_55 : decode cX4_sheet 55 = .ok (.invokevirtual 45, 3) := by decide +kernel
theorem dX4_sheet_58 : decode cX4_sheet 58 = .ok (.ireturn, 1) := by decide +kernel
theorem dX4_sheet_59 : decode cX4_sheet 59 = .ok (.iload_n 3, 1) := by decide +kernel
theorem dX4_sheet_60 : decode cX4_sheet 60 = .ok (.bipush 40, 2) := by decide +kernel
theorem dX4_sheet_62 : decode cX4_sheet 62 = .ok (.if_icmp .le 10, 3) := by decide +kernel
theorem dX4_sheet_65 : decode cX4_sheet 65 = .ok (.aload_n 0, 1) := by decide +kernel
theorem dX4_sheet_66 : decode cX4_sheet 66 = .ok (.ldc 44, 2) := by decide +kernel
theorem dX4_sheet_68 : decode cX4_sheet 68 = .ok (.invokevirtual 45, 3) := by decide +kernel
theorem dX4_sheet_71 : decode cX4_sheet 71 = .ok (.ireturn, 1) := by decide +kernel
theorem dX4_sheet_72 : decode cX4_sheet 72 = .ok (.aload_n 0, 1) := by decide +kernel
theorem dX4_sheet_73 : decode cX4_sheet 73 = .ok (.getfield 25, 3) := by decide +kernel
theorem dX4_sheet_76 : decode cX4_sheet 76 = .ok (.iload_n 1, 1) := by decide +kernel
theorem dX4_sheet_77 : decode cX4_sheet 77 = .ok (.iload_n 2, 1) := by decide +kernel
theorem dX4_sheet_78 : decode cX4_sheet 78 = .ok (.iload_n 2, 1) := by decide +kernel
theorem dX4_sheet_79 : decode cX4_sheet 79 = .ok (.ifCond .ne 7, 3) := by decide +kernel
theorem dX4_sheet_82 : decode cX4_sheet 82 = .ok (.iconst 0, 1) := by decide +kernel
theorem dX4_sheet_83 : decode cX4_sheet 83 = .ok (.goto 4, 3) := by decide +kernel
theorem dX4_sheet_86 : decode cX4_sheet 86 = .ok (.iload_n 3, 1) := by decide +kernel
theorem dX4_sheet_87 : decode cX4_sheet 87 = .ok (.invokevirtual 221, 3) := by decide +kernel
theorem dX4_sheet_90 : decode cX4_sheet 90 = .ok (.aload_n 0, 1) := by decide +kernel
theorem dX4_sheet_91 : decode cX4_sheet 91 = .ok (.getfield 25, 3) := by decide +kernel
theorem dX4_sheet_94 : decode cX4_sheet 94 = .ok (.getfield 180, 3) := by decide +kernel
theorem dX4_sheet_97 : decode cX4_sheet 97 = .ok (.iload_n 1, 1) := by decide +kernel
theorem dX4_sheet_98 : decode cX4_sheet 98 = .ok (.iaload, 1) := by decide +kernel
theorem dX4_sheet_99 : decode cX4_sheet 99 = .ok (.ireturn, 1) := by decide +kernel
set_option maxRecDepth 20000 in
theorem ggX4_write_X4_wrongSheet : GoodIn wsX4_write wsX4_wrongSheet := goodIn_r _ [8, 3, 1, 9, 10, 11, 12, 13, 14, 15, 16, 17, 18, 35, 36, 37, 38, 39, 40, 41, 42, 43, 44] (by decide +kernel) (by decide +kernel)
set_option maxRecDepth 20000 in
theorem gX4_write_X4_wrongSheet : GoodIn wsX4_write (wsV RX4 177 RX4 yX4_wrongSheet wsX4_wrongSheet) := goodIn_app (goodIn_of _ (by decide +kernel)) ggX4_write_X4_wrongSheet
set_option maxRecDepth 20000 in
theorem ggX4_write_X4_finding : GoodIn wsX4_write wsX4_finding := goodIn_r _ [22, 3, 23, 24, 25, 7, 26, 35, 36, 37, 38, 39, 40, 41] (by decide +kernel) (by decide +kernel)
set_option maxRecDepth 20000 in
theorem gX4_write_X4_finding : GoodIn wsX4_write (wsV RX4 45 RX4 yX4_finding wsX4_finding) := goodIn_app (goodIn_of _ (by decide +kernel)) ggX4_write_X4_finding
set_option maxRecDepth 20000 in
theorem ggX4_write_X4_isWithin : GoodIn wsX4_write wsX4_isWithin := goodIn_r _ [26] (by decide +kernel) (by decide +kernel)
set_option maxRecDepth 20000 in
theorem gX4_write_X4_isWithin : GoodIn wsX4_write (va_wsS RX4 40 yX4_isWithin wsX4_isWithin) := goodIn_app (goodIn_of _ (by decide +kernel)) ggX4_write_X4_isWithin
set_option maxRecDepth 20000 in
theorem ggX4_write_X1_put : GoodIn wsX4_write wsX1_put := goodIn_r _ [30, 31, 18, 32, 33, 12, 34, 42, 43, 44] (by decide +kernel) (by decide +kernel)
set_option maxRecDepth 20000 in
theorem gX4_write_X1_put : GoodIn wsX4_write (wsV RX4 224 RX1 yX1_put wsX1_put) := goodIn_app (goodIn_of _ (by decide +kernel)) ggX4_write_X1_put
theorem dX4_write_0 : decode cX4_write 0 = .ok (.aload_n 0, 1) := by decide +kernel
theorem dX4_write_1 : decode cX4_write 1 = .ok (.iload_n 1, 1) := by decide +kernel
theorem dX4_write_2 : decode cX4_write 2 = .ok (.invokevirtual 177, 3) := by decide +kernel
theorem dX4_write_5 : decode cX4_write 5 = .ok (.istore 4, 2) := by decide +kernel
theorem dX4_write_7 : decode cX4_write 7 = .ok (.iload 4, 2) := by decide +kernel
theorem dX4_write_9 : decode cX4_write 9 = .ok (.ifCond .eq 10, 3) := by decide +kernel
theorem dX4_write_12 : decode cX4_write 12 = .ok (.aload_n 0, 1) := by decide +kernel
theorem dX4_write_13 : decode cX4_write 13 = .ok (.iload 4, 2) := by decide +kernel
theorem dX4_write_15 : decode cX4_write 15 = .ok (.invokevirtual 45, 3) := by decide +kernel
theorem dX4_write_18 : decode cX4_write 18 = .ok (.ireturn, 1) := by decide +kernel
theorem dX4_write_19 : decode cX4_write 19 = .ok (.iload_n 2, 1) := by decide +kernel
theorem dX4_write_20 : decode cX4_write 20 = .ok (.iconst 0, 1) := by decide +kernel
theorem dX4_write_21 : decode cX4_write 21 = .ok (.aload_n 0, 1) := by decide +kernel
theorem dX4_write_22 : decode cX4_write 22 = .ok (.getfield 25, 3) := by decide +kernel
theorem dX4_write_25 : decode cX4_write 25 = .ok (.getfield 180, 3) := by decide +kernel
theorem dX4_write_28 : decode cX4_write 28 = .ok (.iload_n 1, 1) := by decide +kernel
theorem dX4_write_29 : decode cX4_write 29 = .ok (.iaload, 1) := by decide +kernel
theorem dX4_write_30 : decode cX4_write 30 = .ok (.iconst 1, 1) := by decide +kernel
theorem dX4_write_31 : decode cX4_write 31 = .ok (.isub, 1) := by decide +kernel
theorem dX4_write_32 : decode cX4_write 32 = .ok (.invokestatic 40, 3) := by decide +kernel
theorem dX4_write_35 : decode cX4_write 35 = .ok (.ifCond .ne 10, 3) := by decide +kernel
theorem dX4_write_38 : decode cX4_write 38 = .ok (.aload_n 0, 1) := by decide +kernel
theorem dX4_write_39 : decode cX4_write 39 = .ok (.ldc 44, 2) := by decide +kernel
theorem dX4_write_41 : decode cX4_write 41 = .ok (.invokevirtual 45, 3) := by decide +kernel
theorem dX4_write_44 : decode cX4_write 44 = .ok (.ireturn, 1) := by decide +kernel
theorem dX4_write_45 : decode cX4_write 45 = .ok (.aload_n 0, 1) := by decide +kernel
theorem dX4_write_46 : decode cX4_write 46 = .ok (.getfield 25, 3) := by decide +kernel
theorem dX4_write_49 : decode cX4_write 49 = .ok (.iload_n 1, 1) := by decide +kernel
theorem dX4_write_50 : decode cX4_write 50 = .ok (.iload_n 2, 1) := by decide +kernel
theorem dX4_write_51 : decode cX4_write 51 = .ok (.iload_n 3, 1) := by decide +kernel
theorem dX4_write_52 : decode cX4_write 52 = .ok (.invokevirtual 224, 3) := by decide +kernel
theorem dX4_write_55 : decode cX4_write 55 = .ok (.iconst 1, 1) := by decide +kernel
theorem dX4_write_56 : decode cX4_write 56 = .ok (.ireturn, 1) := by decide +kernel
set_option maxRecDepth 20000 in
theorem ggX4_copy_X1_isSheet : GoodIn wsX4_copy wsX1_isSheet := goodIn_r _ [9] (by decide +kernel) (by decide +kernel)
set_option maxRecDepth 20000 in
theorem gX4_copy_X1_isSheet : GoodIn wsX4_copy (va_wsS RX4 217 yX1_isSheet wsX1_isSheet) := goodIn_app (goodIn_of _ (by decide +kernel)) ggX4_copy_X1_isSheet
set_option maxRecDepth 20000 in
theorem ggX4_copy_X4_finding : GoodIn wsX4_copy wsX4_finding := goodIn_r _ [14, 1, 15, 16, 17, 13, 18, 38, 39, 40, 41, 42, 43, 44] (by decide +kernel) (by decide +kernel)
set_option maxRecDepth 20000 in
theorem gX4_copy_X4_finding : GoodIn wsX4_copy (wsV RX4 45 RX4 yX4_finding wsX4_finding) := goodIn_app (goodIn_of _ (by decide +kernel)) ggX4_copy_X4_finding
set_option maxRecDepth 20000 in
theorem ggX4_copy_X1_isMissing : GoodIn wsX4_copy wsX1_isMissing := goodIn_r _ [22, 23, 45, 46, 47] (by decide +kernel) (by decide +kernel)
set_option maxRecDepth 20000 in
theorem gX4_copy_X1_isMissing : GoodIn wsX4_copy (wsV RX4 227 RX1 yX1_isMissing wsX1_isMissing) := goodIn_app (goodIn_of _ (by decide +kernel)) ggX4_copy_X1_isMissing
set_option maxRecDepth 20000 in
theorem ggX4_copy_X1_hasRun : GoodIn wsX4_copy wsX1_hasRun := goodIn_r _ [27, 28, 45, 46, 47] (by decide +kernel) (by decide +kernel)
set_option maxRecDepth 20000 in
theorem gX4_copy_X1_hasRun : GoodIn wsX4_copy (wsV RX4 233 RX1 yX1_hasRun wsX1_hasRun) := goodIn_app (goodIn_of _ (by decide +kernel)) ggX4_copy_X1_hasRun
set_option maxRecDepth 20000 in
theorem ggX4_copy_X1_bring : GoodIn wsX4_copy wsX1_bring := goodIn_r _ [32, 33, 34, 35, 36, 37, 45, 46, 47] (by decide +kernel) (by decide +kernel)
set_option maxRecDepth 20000 in
theorem gX4_copy_X1_bring : GoodIn wsX4_copy (wsV RX4 236 RX1 yX1_bring wsX1_bring) := goodIn_app (goodIn_of _ (by decide +kernel)) ggX4_copy_X1_bring
theorem dX4_copy_0 : decode cX4_copy 0 = .ok (.iload_n 1, 1) := by decide +kernel
theorem dX4_copy_1 : decode cX4_copy 1 = .ok (.invokestatic 217, 3) := by decide +kernel
theorem dX4_copy_4 : decode cX4_copy 4 = .ok (.ifCond .eq 10, 3) := by decide +kernel
theorem dX4_copy_7 : decode cX4_copy 7 = .ok (.iload_n 3, 1) := by decide +kernel
theorem dX4_copy_8 : decode cX4_copy 8 = .ok (.invokestatic 217, 3) := by decide +kernel
theorem dX4_copy_11 : decode cX4_copy 11 = .ok (.ifCond .ne 10, 3) := by decide +kernel
theorem dX4_copy_14 : decode cX4_copy 14 = .ok (.aload_n 0, 1) := by decide +kernel
theorem dX4_copy_15 : decode cX4_copy 15 = .ok (.ldc 44, 2) := by decide +kernel
theorem dX4_copy_17 : decode cX4_copy 17 = .ok (.invokevirtual 45, 3) := by decide +kernel
theorem dX4_copy_20 : decode cX4_copy 20 = .ok (.ireturn, 1) := by decide +kernel
theorem dX4_copy_21 : decode cX4_copy 21 = .ok (.aload_n 0, 1) := by decide +kernel
theorem dX4_copy_22 : decode cX4_copy 22 = .ok (.getfield 25, 3) := by decide +kernel
theorem dX4_copy_25 : decode cX4_copy 25 = .ok (.iload_n 1, 1) := by decide +kernel
theorem dX4_copy_26 : decode cX4_copy 26 = .ok (.invokevirtual 227, 3) := by decide +kernel
theorem dX4_copy_29 : decode cX4_copy 29 = .ok (.ifCond .ne 14, 3) := by decide +kernel
theorem dX4_copy_32 : decode cX4_copy 32 = .ok (.aload_n 0, 1) := by decide +kernel
theorem dX4_copy_33 : decode cX4_copy 33 = .ok (.getfield 25, 3) := by decide +kernel
theorem dX4_copy_36 : decode cX4_copy 36 = .ok (.iload_n 3, 1) := by decide +kernel
theorem dX4_copy_37 : decode cX4_copy 37 = .ok (.invokevirtual 227, 3) := by decide +kernel
theorem dX4_copy_40 : decode cX4_copy 40 = .ok (.ifCond .eq 10, 3) := by decide +kernel
theorem dX4_copy_43 : decode cX4_copy 43 = .ok (.aload_n 0, 1) := by decide +kernel
theorem dX4_copy_44 : decode cX4_copy 44 = .ok (.ldc 212, 2) := by decide +kernel
theorem dX4_copy_46 : decode cX4_copy 46 = .ok (.invokevirtual 45, 3) := by decide +kernel
theorem dX4_copy_49 : decode cX4_copy 49 = .ok (.ireturn, 1) := by decide +kernel
theorem dX4_copy_50 : decode cX4_copy 50 = .ok (.aload_n 0, 1) := by decide +kernel
theorem dX4_copy_51 : decode cX4_copy 51 = .ok (.getfield 25, 3) := by decide +kernel
theorem dX4_copy_54 : decode cX4_copy 54 = .ok (.getfield 230, 3) := by decide +kernel
theorem dX4_copy_57 : decode cX4_copy 57 = .ok (.iload_n 1, 1) := by decide +kernel
theorem dX4_copy_58 : decode cX4_copy 58 = .ok (.iaload, 1) := by decide +kernel
theorem dX4_copy_59 : decode cX4_copy 59 = .ok (.aload_n 0, 1) := by decide +kernel
theorem dX4_copy_60 : decode cX4_copy 60 = .ok (.getfield 25, 3) := by decide +kernel
theorem dX4_copy_63 : decode cX4_copy 63 = .ok (.getfield 230, 3) := by decide +kernel
theorem dX4_copy_66 : decode cX4_copy 66 = .ok (.iload_n 3, 1) := by decide +kernel
theorem dX4_copy_67 : decode cX4_copy 67 = .ok (.iaload, 1) := by decide +kernel
theorem dX4_copy_68 : decode cX4_copy 68 = .ok (.if_icmp .eq 10, 3) := by decide +kernel
theorem dX4_copy_71 : decode cX4_copy 71 = .ok (.aload_n 0, 1) := by decide +kernel
theorem dX4_copy_72 : decode cX4_copy 72 = .ok (.ldc 216, 2) := by decide +kernel
theorem dX4_copy_74 : decode cX4_copy 74 = .ok (.invokevirtual 45, 3) := by decide +kernel
theorem dX4_copy_77 : decode cX4_copy 77 = .ok (.ireturn, 1) := by decide +kernel
theorem dX4_copy_78 : decode cX4_copy 78 = .ok (.aload_n 0, 1) := by decide +kernel
theorem dX4_copy_79 : decode cX4_copy 79 = .ok (.getfield 25, 3) := by decide +kernel
theorem dX4_copy_82 : decode cX4_copy 82 = .ok (.iload_n 1, 1) := by decide +kernel
theorem dX4_copy_83 : decode cX4_copy 83 = .ok (.iload_n 2, 1) := by decide +kernel
theorem dX4_copy_84 : decode cX4_copy 84 = .ok (.iload 5, 2) := by decide +kernel
theorem dX4_copy_86 : decode cX4_copy 86 = .ok (.invokevirtual 233, 3) := by decide +kernel
theorem dX4_copy_89 : decode cX4_copy 89 = .ok (.ifCond .eq 18, 3) := by decide +kernel
theorem dX4_copy_92 : decode cX4_copy 92 = .ok (.aload_n 0, 1) := by decide +kernel
theorem dX4_copy_93 : decode cX4_copy 93 = .ok (.getfield 25, 3) := by decide +kernel
theorem dX4_copy_96 : decode cX4_copy 96 = .ok (.iload_n 3, 1) := by decide +kernel
theorem dX4_copy_97 : decode cX4_copy 97 = .ok (.iload 4, 2) := by decide +kernel
theorem dX4_copy_99 : decode cX4_copy 99 = .ok (.iload 5, 2) := by decide +kernel
theorem dX4_copy_101 : decode cX4_copy 101 = .ok (.invokevirtual 233, 3) := by decide +kernel
theorem dX4_copy_104 : decode cX4_copy 104 = .ok (.ifCond .ne 10, 3) := by decide +kernel
theorem dX4_copy_107 : decode cX4_copy 107 = .ok (.aload_n 0, 1) := by decide +kernel
theorem dX4_copy_108 : decode cX4_copy 108 = .ok (.ldc 44, 2) := by decide +kernel
theorem dX4_copy_110 : decode cX4_copy 110 = .ok (.invokevirtual 45, 3) := by decide +kernel
theorem dX4_copy_113 : decode cX4_copy 113 = .ok (.ireturn, 1) := by decide +kernel
theorem dX4_copy_114 : decode cX4_copy 114 = .ok (.aload_n 0, 1) := by decide +kernel
theorem dX4_copy_115 : decode cX4_copy 115 = .ok (.getfield 25, 3) := by decide +kernel
theorem dX4_copy_118 : decode cX4_copy 118 = .ok (.iload_n 1, 1) := by decide +kernel
theorem dX4_copy_119 : decode cX4_copy 119 = .ok (.iload_n 2, 1) := by decide +kernel
theorem dX4_copy_120 : decode cX4_copy 120 = .ok (.iload_n 3, 1) := by decide +kernel
theorem dX4_copy_121 : decode cX4_copy 121 = .ok (.iload 4, 2) := by decide +kernel
theorem dX4_copy_123 : decode cX4_copy 123 = .ok (.iload 5, 2) := by decide +kernel
theorem dX4_copy_125 : decode cX4_copy 125 = .ok (.invokevirtual 236, 3) := by decide +kernel
theorem dX4_copy_128 : decode cX4_copy 128 = .ok (.iload 5, 2) := by decide +kernel
theorem dX4_copy_130 : decode cX4_copy 130 = .ok (.ireturn, 1) := by decide +kernel
set_option maxRecDepth 20000 in
theorem ggX4_load_X4_wrongSheet : GoodIn wsX4_load wsX4_wrongSheet := goodIn_r _ [13, 14, 1, 15, 16, 17, 18, 19, 20, 21, 22, 23, 24, 38, 39, 40, 41, 42, 43, 44, 45, 46, 47] (by decide +kernel) (by decide +kernel)
set_option maxRecDepth 20000 in
theorem gX4_load_X4_wrongSheet : GoodIn wsX4_load (wsV RX4 177 RX4 yX4_wrongSheet wsX4_wrongSheet) := goodIn_app (goodIn_of _ (by decide +kernel)) ggX4_load_X4_wrongSheet
set_option maxRecDepth 20000 in
theorem ggX4_load_X4_finding : GoodIn wsX4_load wsX4_finding := goodIn_r _ [28, 14, 29, 30, 31, 12, 32, 38, 39, 40, 41, 42, 43, 44] (by decide +kernel) (by decide +kernel)
set_option maxRecDepth 20000 in
theorem gX4_load_X4_finding : GoodIn wsX4_load (wsV RX4 45 RX4 yX4_finding wsX4_finding) := goodIn_app (goodIn_of _ (by decide +kernel)) ggX4_load_X4_finding
set_option maxRecDepth 20000 in
theorem ggX4_load_X1_number : GoodIn wsX4_load wsX1_number := goodIn_r _ [36, 37, 45, 46, 47] (by decide +kernel) (by decide +kernel)
set_option maxRecDepth 20000 in
theorem gX4_load_X1_number : GoodIn wsX4_load (wsV RX4 183 RX1 yX1_number wsX1_number) := goodIn_app (goodIn_of _ (by decide +kernel)) ggX4_load_X1_number
set_option maxRecDepth 20000 in
theorem ggX4_load_X4_isWithin : GoodIn wsX4_load wsX4_isWithin := goodIn_r _ [32] (by decide +kernel) (by decide +kernel)
set_option maxRecDepth 20000 in
theorem gX4_load_X4_isWithin : GoodIn wsX4_load (va_wsS RX4 40 yX4_isWithin wsX4_isWithin) := goodIn_app (goodIn_of _ (by decide +kernel)) ggX4_load_X4_isWithin
theorem dX4_load_0 : decode cX4_load 0 = .ok (.aload_n 0, 1) := by decide +kernel
theorem dX4_load_1 : decode cX4_load 1 = .ok (.iload_n 1, 1) := by decide +kernel
theorem dX4_load_2 : decode cX4_load 2 = .ok (.invokevirtual 177, 3) := by decide +kernel
theorem dX4_load_5 : decode cX4_load 5 = .ok (.istore_n 2, 1) := by decide +kernel
theorem dX4_load_6 : decode cX4_load 6 = .ok (.iload_n 2, 1) := by decide +kernel
theorem dX4_load_7 : decode cX4_load 7 = .ok (.ifCond .eq 9, 3) := by decide +kernel
theorem dX4_load_10 : decode cX4_load 10 = .ok (.aload_n 0, 1) := by decide +kernel
theorem dX4_load_11 : decode cX4_load 11 = .ok (.iload_n 2, 1) := by decide +kernel
theorem dX4_load_12 : decode cX4_load 12 = .ok (.invokevirtual 45, 3) := by decide +kernel
theorem dX4_load_15 : decode cX4_load 15 = .ok (.ireturn, 1) := by decide +kernel
theorem dX4_load_16 : decode cX4_load 16 = .ok (.iconst 0, 1) := by decide +kernel
theorem dX4_load_17 : decode cX4_load 17 = .ok (.istore_n 3, 1) := by decide +kernel
theorem dX4_load_18 : decode cX4_load 18 = .ok (.bipush 6, 2) := by decide +kernel
theorem dX4_load_20 : decode cX4_load 20 = .ok (.aload_n 0, 1) := by decide +kernel
theorem dX4_load_21 : decode cX4_load 21 = .ok (.getfield 25, 3) := by decide +kernel
theorem dX4_load_24 : decode cX4_load 24 = .ok (.getfield 180, 3) := by decide +kernel
theorem dX4_load_27 : decode cX4_load 27 = .ok (.iload_n 1, 1) := by decide +kernel
theorem dX4_load_28 : decode cX4_load 28 = .ok (.iaload, 1) := by decide +kernel
theorem dX4_load_29 : decode cX4_load 29 = .ok (.invokestatic 240, 3) := by decide +kernel
theorem dX4_load_32 : decode cX4_load 32 = .ok (.istore 4, 2) := by decide +kernel
theorem dX4_load_34 : decode cX4_load 34 = .ok (.iload_n 3, 1) := by decide +kernel
theorem dX4_load_35 : decode cX4_load 35 = .ok (.iload 4, 2) := by decide +kernel
theorem dX4_load_37 : decode cX4_load 37 = .ok (.if_icmp .ge 45, 3) := by decide +kernel
theorem dX4_load_40 : decode cX4_load 40 = .ok (.aload_n 0, 1) := by decide +kernel
theorem dX4_load_41 : decode cX4_load 41 = .ok (.getfield 25, 3) := by decide +kernel
theorem dX4_load_44 : decode cX4_load 44 = .ok (.iload_n 1, 1) := by decide +kernel
theorem dX4_load_45 : decode cX4_load 45 = .ok (.iload_n 3, 1) := by decide +kernel
theorem dX4_load_46 : decode cX4_load 46 = .ok (.invokevirtual 183, 3) := by decide +kernel
theorem dX4_load_49 : decode cX4_load 49 = .ok (.iconst 0, 1) := by decide +kernel
theorem dX4_load_50 : decode cX4_load 50 = .ok (.bipush 20, 2) := by decide +kernel
theorem dX4_load_52 : decode cX4_load 52 = .ok (.invokestatic 40, 3) := by decide +kernel
theorem dX4_load_55 : decode cX4_load 55 = .ok (.ifCond .eq 27, 3) := by decide +kernel
theorem dX4_load_58 : decode cX4_load 58 = .ok (.aload_n 0, 1) := by decide +kernel
theorem dX4_load_59 : decode cX4_load 59 = .ok (.getfield 10, 3) := by decide +kernel
theorem dX4_load_62 : decode cX4_load 62 = .ok (.getfield 57, 3) := by decide +kernel
theorem dX4_load_65 : decode cX4_load 65 = .ok (.iload_n 3, 1) := by decide +kernel
theorem dX4_load_66 : decode cX4_load 66 = .ok (.aload_n 0, 1) := by decide +kernel
theorem dX4_load_67 : decode cX4_load 67 = .ok (.getfield 25, 3) := by decide +kernel
theorem dX4_load_70 : decode cX4_load 70 = .ok (.iload_n 1, 1) := by decide +kernel
theorem dX4_load_71 : decode cX4_load 71 = .ok (.iload_n 3, 1) := by decide +kernel
theorem dX4_load_72 : decode cX4_load 72 = .ok (.invokevirtual 183, 3) := by decide +kernel
theorem dX4_load_75 : decode cX4_load 75 = .ok (.iastore, 1) := by decide +kernel
theorem dX4_load_76 : decode cX4_load 76 = .ok (.iinc 3 1, 3) := by decide +kernel
theorem dX4_load_79 : decode cX4_load 79 = .ok (.goto (-45), 3) := by decide +kernel
theorem dX4_load_82 : decode cX4_load 82 = .ok (.iload_n 3, 1) := by decide +kernel
theorem dX4_load_83 : decode cX4_load 83 = .ok (.ireturn, 1) := by decide +kernel
set_option maxRecDepth 20000 in
theorem ggX4_judge_X4_wrongSheet : GoodIn wsX4_judge wsX4_wrongSheet := goodIn_r _ [8, 9, 1, 10, 11, 12, 13, 14, 15, 16, 17, 18, 19, 47, 48, 49, 50, 51, 52, 53, 54, 55, 56] (by decide +kernel) (by decide +kernel)
set_option maxRecDepth 20000 in
theorem gX4_judge_X4_wrongSheet : GoodIn wsX4_judge (wsV RX4 177 RX4 yX4_wrongSheet wsX4_wrongSheet) := goodIn_app (goodIn_of _ (by decide +kernel)) ggX4_judge_X4_wrongSheet
set_option maxRecDepth 20000 in
theorem ggX4_judge_X4_finding : GoodIn wsX4_judge wsX4_finding := goodIn_r _ [23, 9, 24, 25, 26, 7, 27, 47, 48, 49, 50, 51, 52, 53] (by decide +kernel) (by decide +kernel)
set_option maxRecDepth 20000 in
theorem gX4_judge_X4_finding : GoodIn wsX4_judge (wsV RX4 45 RX4 yX4_finding wsX4_finding) := goodIn_app (goodIn_of _ (by decide +kernel)) ggX4_judge_X4_finding
set_option maxRecDepth 20000 in
theorem ggX4_judge_X2_isSeat : GoodIn wsX4_judge wsX2_isSeat := goodIn_r _ [32, 33, 57, 58, 59, 60, 61, 62, 63, 64, 65, 66, 67, 68] (by decide +kernel) (by decide +kernel)
set_option maxRecDepth 20000 in
theorem gX4_judge_X2_isSeat : GoodIn wsX4_judge (wsV RX4 71 RX2 yX2_isSeat wsX2_isSeat) := goodIn_app (goodIn_of _ (by decide +kernel)) ggX4_judge_X2_isSeat
set_option maxRecDepth 20000 in
theorem ggX4_judge_X2_left : GoodIn wsX4_judge wsX2_left := goodIn_r _ [37, 38, 39, 40, 31, 41, 57, 58, 59, 60, 61, 62, 63, 64, 65, 66, 67, 68] (by decide +kernel) (by decide +kernel)
set_option maxRecDepth 20000 in
theorem gX4_judge_X2_left : GoodIn wsX4_judge (wsV RX4 155 RX2 yX2_left wsX2_left) := goodIn_app (goodIn_of _ (by decide +kernel)) ggX4_judge_X2_left
set_option maxRecDepth 20000 in
theorem ggX4_judge_X1_number : GoodIn wsX4_judge wsX1_number := goodIn_r _ [45, 46, 54, 55, 56] (by decide +kernel) (by decide +kernel)
set_option maxRecDepth 20000 in
theorem gX4_judge_X1_number : GoodIn wsX4_judge (wsV RX4 183 RX1 yX1_number wsX1_number) := goodIn_app (goodIn_of _ (by decide +kernel)) ggX4_judge_X1_number
theorem dX4_judge_0 : decode cX4_judge 0 = .ok (.aload_n 0, 1) := by decide +kernel
theorem dX4_judge_1 : decode cX4_judge 1 = .ok (.iload_n 1, 1) := by decide +kernel
theorem dX4_judge_2 : decode cX4_judge 2 = .ok (.invokevirtual 177, 3) := by decide +kernel
theorem dX4_judge_5 : decode cX4_judge 5 = .ok (.istore_n 2, 1) := by decide +kernel
theorem dX4_judge_6 : decode cX4_judge 6 = .ok (.iload_n 2, 1) := by decide +kernel
theorem dX4_judge_7 : decode cX4_judge 7 = .ok (.ifCond .eq 9, 3) := by decide +kernel
theorem dX4_judge_10 : decode cX4_judge 10 = .ok (.aload_n 0, 1) := by decide +kernel
theorem dX4_judge_11 : decode cX4_judge 11 = .ok (.iload_n 2, 1) := by decide +kernel
theorem dX4_judge_12 : decode cX4_judge 12 = .ok (.invokevirtual 45, 3) := by decide +kernel
theorem dX4_judge_15 : decode cX4_judge 15 = .ok (.ireturn, 1) := by decide +kernel
theorem dX4_judge_16 : decode cX4_judge 16 = .ok (.iconst 0, 1) := by decide +kernel
theorem dX4_judge_17 : decode cX4_judge 17 = .ok (.istore_n 3, 1) := by decide +kernel
theorem dX4_judge_18 : decode cX4_judge 18 = .ok (.iload_n 3, 1) := by decide +kernel
theorem dX4_judge_19 : decode cX4_judge 19 = .ok (.aload_n 0, 1) := by decide +kernel
theorem dX4_judge_20 : decode cX4_judge 20 = .ok (.getfield 25, 3) := by decide +kernel
theorem dX4_judge_23 : decode cX4_judge 23 = .ok (.getfield 180, 3) := by decide +kernel
theorem dX4_judge_26 : decode cX4_judge 26 = .ok (.iload_n 1, 1) := by decide +kernel
theorem dX4_judge_27 : decode cX4_judge 27 = .ok (.iaload, 1) := by decide +kernel
theorem dX4_judge_28 : decode cX4_judge 28 = .ok (.if_icmp .ge 44, 3) := by decide +kernel
theorem dX4_judge_31 : decode cX4_judge 31 = .ok (.aload_n 0, 1) := by decide +kernel
theorem dX4_judge_32 : decode cX4_judge 32 = .ok (.getfield 10, 3) := by decide +kernel
theorem dX4_judge_35 : decode cX4_judge 35 = .ok (.iload_n 3, 1) := by decide +kernel
theorem dX4_judge_36 : decode cX4_judge 36 = .ok (.invokevirtual 71, 3) := by decide +kernel
theorem dX4_judge_39 : decode cX4_judge 39 = .ok (.ifCond .eq 23, 3) := by decide +kernel
theorem dX4_judge_42 : decode cX4_judge 42 = .ok (.aload_n 0, 1) := by decide +kernel
theorem dX4_judge_43 : decode cX4_judge 43 = .ok (.getfield 10, 3) := by decide +kernel
theorem dX4_judge_46 : decode cX4_judge 46 = .ok (.iload_n 3, 1) := by decide +kernel
theorem dX4_judge_47 : decode cX4_judge 47 = .ok (.invokevirtual 155, 3) := by decide +kernel
theorem dX4_judge_50 : decode cX4_judge 50 = .ok (.aload_n 0, 1) := by decide +kernel
theorem dX4_judge_51 : decode cX4_judge 51 = .ok (.getfield 25, 3) := by decide +kernel
theorem dX4_judge_54 : decode cX4_judge 54 = .ok (.iload_n 1, 1) := by decide +kernel
theorem dX4_judge_55 : decode cX4_judge 55 = .ok (.iload_n 3, 1) := by decide +kernel
theorem dX4_judge_56 : decode cX4_judge 56 = .ok (.invokevirtual 183, 3) := by decide +kernel
theorem dX4_judge_59 : decode cX4_judge 59 = .ok (.if_icmp .eq 7, 3) := by decide +kernel
theorem dX4_judge_62 : decode cX4_judge 62 = .ok (.iconst 1, 1) := by decide +kernel
theorem dX4_judge_63 : decode cX4_judge 63 = .ok (.iload_n 3, 1) := by decide +kernel
theorem dX4_judge_64 : decode cX4_judge 64 = .ok (.iadd, 1) := by decide +kernel
theorem dX4_judge_65 : decode cX4_judge 65 = .ok (.ireturn, 1) := by decide +kernel
theorem dX4_judge_66 : decode cX4_judge 66 = .ok (.iinc 3 1, 3) := by decide +kernel
theorem dX4_judge_69 : decode cX4_judge 69 = .ok (.goto (-51), 3) := by decide +kernel
theorem dX4_judge_72 : decode cX4_judge 72 = .ok (.iconst 0, 1) := by decide +kernel
theorem dX4_judge_73 : decode cX4_judge 73 = .ok (.ireturn, 1) := by decide +kernel
set_option maxRecDepth 20000 in
theorem ggX4_wrongSheet_X1_isSheet : GoodIn wsX4_wrongSheet wsX1_isSheet := goodIn_r _ [7] (by decide +kernel) (by decide +kernel)
set_option maxRecDepth 20000 in
theorem gX4_wrongSheet_X1_isSheet : GoodIn wsX4_wrongSheet (va_wsS RX4 217 yX1_isSheet wsX1_isSheet) := goodIn_app (goodIn_of _ (by decide +kernel)) ggX4_wrongSheet_X1_isSheet
set_option maxRecDepth 20000 in
theorem ggX4_wrongSheet_X1_isMissing : GoodIn wsX4_wrongSheet wsX1_isMissing := goodIn_r _ [11, 12, 20, 21, 22] (by decide +kernel) (by decide +kernel)
set_option maxRecDepth 20000 in
theorem gX4_wrongSheet_X1_isMissing : GoodIn wsX4_wrongSheet (wsV RX4 227 RX1 yX1_isMissing wsX1_isMissing) := goodIn_app (goodIn_of _ (by decide +kernel)) ggX4_wrongSheet_X1_isMissing
theorem dX4_wrongSheet_0 : decode cX4_wrongSheet 0 = .ok (.iload_n 1, 1) := by decide +kernel
theorem dX4_wrongSheet_1 : decode cX4_wrongSheet 1 = .ok (.invokestatic 217, 3) := by decide +kernel
theorem dX4_wrongSheet_4 : decode cX4_wrongSheet 4 = .ok (.ifCond .ne 6, 3) := by decide +kernel
theorem dX4_wrongSheet_7 : decode cX4_wrongSheet 7 = .ok (.ldc 44, 2) := by decide +kernel
theorem dX4_wrongSheet_9 : decode cX4_wrongSheet 9 = .ok (.ireturn, 1) := by decide +kernel
theorem dX4_wrongSheet_10 : decode cX4_wrongSheet 10 = .ok (.aload_n 0, 1) := by decide +kernel
theorem dX4_wrongSheet_11 : decode cX4_wrongSheet 11 = .ok (.getfield 25, 3) := by decide +kernel
theorem dX4_wrongSheet_14 : decode cX4_wrongSheet 14 = .ok (.iload_n 1, 1) := by decide +kernel
theorem dX4_wrongSheet_15 : decode cX4_wrongSheet 15 = .ok (.invokevirtual 227, 3) := by decide +kernel
theorem dX4_wrongSheet_18 : decode cX4_wrongSheet 18 = .ok (.ifCond .eq 8, 3) := by decide +kernel
theorem dX4_wrongSheet_21 : decode cX4_wrongSheet 21 = .ok (.ldc 212, 2) := by decide +kernel
theorem dX4_wrongSheet_23 : decode cX4_wrongSheet 23 = .ok (.goto 4, 3) := by decide +kernel
theorem dX4_wrongSheet_26 : decode cX4_wrongSheet 26 = .ok (.iconst 0, 1) := by decide +kernel
theorem dX4_wrongSheet_27 : decode cX4_wrongSheet 27 = .ok (.ireturn, 1) := by decide +kernel
set_option maxRecDepth 20000 in
theorem ggX4_image_X2_become : GoodIn wsX4_image wsX2_become := goodIn_r _ [8, 9, 10, 11, 12, 13, 14, 15, 16, 17, 18, 19, 20, 21, 22, 23, 31, 32, 33, 34, 35, 36, 37, 38, 39, 40, 41, 42] (by decide +kernel) (by decide +kernel)
set_option maxRecDepth 20000 in
theorem gX4_image_X2_become : GoodIn wsX4_image (wsV RX4 138 RX2 yX2_become wsX2_become) := goodIn_app (goodIn_of _ (by decide +kernel)) ggX4_image_X2_become
theorem dX4_image_0 : decode cX4_image 0 = .ok (.aload_n 0, 1) := by decide +kernel
theorem dX4_image_1 : decode cX4_image 1 = .ok (.getfield 16, 3) := by decide +kernel
theorem dX4_image_4 : decode cX4_image 4 = .ok (.aload_n 0, 1) := by decide +kernel
theorem dX4_image_5 : decode cX4_image 5 = .ok (.getfield 10, 3) := by decide +kernel
theorem dX4_image_8 : decode cX4_image 8 = .ok (.invokevirtual 138, 3) := by decide +kernel
theorem dX4_image_11 : decode cX4_image 11 = .ok (.aload_n 0, 1) := by decide +kernel
theorem dX4_image_12 : decode cX4_image 12 = .ok (.iconst 1, 1) := by decide +kernel
theorem dX4_image_13 : decode cX4_image 13 = .ok (.putfield 245, 3) := by decide +kernel
theorem dX4_image_16 : decode cX4_image 16 = .ok (.iconst 1, 1) := by decide +kernel
theorem dX4_image_17 : decode cX4_image 17 = .ok (.ireturn, 1) := by decide +kernel
set_option maxRecDepth 20000 in
theorem ggX4_undo_X4_finding : GoodIn wsX4_undo wsX4_finding := goodIn_r _ [10, 11, 12, 13, 14, 9, 15, 36, 37, 38, 39, 40, 41, 42] (by decide +kernel) (by decide +kernel)
set_option maxRecDepth 20000 in
theorem gX4_undo_X4_finding : GoodIn wsX4_undo (wsV RX4 45 RX4 yX4_finding wsX4_finding) := goodIn_app (goodIn_of _ (by decide +kernel)) ggX4_undo_X4_finding
set_option maxRecDepth 20000 in
theorem ggX4_undo_X2_become : GoodIn wsX4_undo wsX2_become := goodIn_r _ [20, 21, 22, 23, 24, 25, 26, 27, 28, 29, 30, 31, 32, 33, 34, 35, 43, 44, 45, 46, 47, 48, 49, 50, 51, 52, 53, 54] (by decide +kernel) (by decide +kernel)
set_option maxRecDepth 20000 in
theorem gX4_undo_X2_become : GoodIn wsX4_undo (wsV RX4 138 RX2 yX2_become wsX2_become) := goodIn_app (goodIn_of _ (by decide +kernel)) ggX4_undo_X2_become
theorem dX4_undo_0 : decode cX4_undo 0 = .ok (.aload_n 0, 1) := by decide +kernel
theorem dX4_undo_1 : decode cX4_undo 1 = .ok (.getfield 245, 3) := by decide +kernel
theorem dX4_undo_4 : decode cX4_undo 4 = .ok (.ifCond .ne 10, 3) := by decide +kernel
theorem dX4_undo_7 : decode cX4_undo 7 = .ok (.aload_n 0, 1) := by decide +kernel
theorem dX4_undo_8 : decode cX4_undo 8 = .ok (.ldc 151, 2) := by decide +kernel
theorem dX4_undo_10 : decode cX4_undo 10 = .ok (.invokevirtual 45, 3) := by decide +kernel
theorem dX4_undo_13 : decode cX4_undo 13 = .ok (.ireturn, 1) := by decide +kernel
theorem dX4_undo_14 : decode cX4_undo 14 = .ok (.aload_n 0, 1) := by decide +kernel
theorem dX4_undo_15 : decode cX4_undo 15 = .ok (.getfield 10, 3) := by decide +kernel
theorem dX4_undo_18 : decode cX4_undo 18 = .ok (.aload_n 0, 1) := by decide +kernel
theorem dX4_undo_19 : decode cX4_undo 19 = .ok (.getfield 16, 3) := by decide +kernel
theorem dX4_undo_22 : decode cX4_undo 22 = .ok (.invokevirtual 138, 3) := by decide +kernel
theorem dX4_undo_25 : decode cX4_undo 25 = .ok (.aload_n 0, 1) := by decide +kernel
theorem dX4_undo_26 : decode cX4_undo 26 = .ok (.getfield 10, 3) := by decide +kernel
theorem dX4_undo_29 : decode cX4_undo 29 = .ok (.getfield 110, 3) := by decide +kernel
theorem dX4_undo_32 : decode cX4_undo 32 = .ok (.ireturn, 1) := by decide +kernel
theorem dX4_tear_0 : decode cX4_tear 0 = .ok (.aload_n 0, 1) := by decide +kernel
theorem dX4_tear_1 : decode cX4_tear 1 = .ok (.getfield 245, 3) := by decide +kernel
theorem dX4_tear_4 : decode cX4_tear 4 = .ok (.ifCond .eq 7, 3) := by decide +kernel
theorem dX4_tear_7 : decode cX4_tear 7 = .ok (.iconst 1, 1) := by decide +kernel
theorem dX4_tear_8 : decode cX4_tear 8 = .ok (.goto 4, 3) := by decide +kernel
theorem dX4_tear_11 : decode cX4_tear 11 = .ok (.iconst 0, 1) := by decide +kernel
theorem dX4_tear_12 : decode cX4_tear 12 = .ok (.istore_n 1, 1) := by decide +kernel
theorem dX4_tear_13 : decode cX4_tear 13 = .ok (.aload_n 0, 1) := by decide +kernel
theorem dX4_tear_14 : decode cX4_tear 14 = .ok (.iconst 0, 1) := by decide +kernel
theorem dX4_tear_15 : decode cX4_tear 15 = .ok (.putfield 245, 3) := by decide +kernel
theorem dX4_tear_18 : decode cX4_tear 18 = .ok (.iload_n 1, 1) := by decide +kernel
theorem dX4_tear_19 : decode cX4_tear 19 = .ok (.ireturn, 1) := by decide +kernel
set_option maxRecDepth 20000 in
theorem ggX4_count_X2_allLeft : GoodIn wsX4_count wsX2_allLeft := goodIn_r _ [14, 15, 16, 17, 18, 13, 19, 20, 21, 22, 23, 49, 50, 51, 52, 53, 54, 55, 56, 57, 58, 59, 60] (by decide +kernel) (by decide +kernel)
set_option maxRecDepth 20000 in
theorem gX4_count_X2_allLeft : GoodIn wsX4_count (wsV RX4 121 RX2 yX2_allLeft wsX2_allLeft) := goodIn_app (goodIn_of _ (by decide +kernel)) ggX4_count_X2_allLeft
set_option maxRecDepth 20000 in
theorem ggX4_count_X2_allOf : GoodIn wsX4_count wsX2_allOf := goodIn_r _ [27, 15, 49, 50, 51, 52, 53, 54, 55, 56, 57, 58, 59, 60] (by decide +kernel) (by decide +kernel)
set_option maxRecDepth 20000 in
theorem gX4_count_X2_allOf : GoodIn wsX4_count (wsV RX4 128 RX2 yX2_allOf wsX2_allOf) := goodIn_app (goodIn_of _ (by decide +kernel)) ggX4_count_X2_allOf
set_option maxRecDepth 20000 in
theorem ggX4_count_X2_heldSpots : GoodIn wsX4_count wsX2_heldSpots := goodIn_r _ [31, 32, 49, 50, 51, 52, 53, 54, 55, 56, 57, 58, 59, 60] (by decide +kernel) (by decide +kernel)
set_option maxRecDepth 20000 in
theorem gX4_count_X2_heldSpots : GoodIn wsX4_count (wsV RX4 249 RX2 yX2_heldSpots wsX2_heldSpots) := goodIn_app (goodIn_of _ (by decide +kernel)) ggX4_count_X2_heldSpots
set_option maxRecDepth 20000 in
theorem ggX4_count_X4_finding : GoodIn wsX4_count wsX4_finding := goodIn_r _ [37, 9, 38, 39, 40, 36, 41, 42, 43, 44, 45, 46, 47, 48] (by decide +kernel) (by decide +kernel)
set_option maxRecDepth 20000 in
theorem gX4_count_X4_finding : GoodIn wsX4_count (wsV RX4 45 RX4 yX4_finding wsX4_finding) := goodIn_app (goodIn_of _ (by decide +kernel)) ggX4_count_X4_finding
theorem dX4_count_0 : decode cX4_count 0 = .ok (.iload_n 1, 1) := by decide +kernel
theorem dX4_count_1 : decode cX4_count 1 = .ok (.tableswitch 125 0 7 #[47, 55, 63, 71, 86, 101, 109, 117], 47) := by decide +kernel
theorem dX4_count_48 : decode cX4_count 48 = .ok (.aload_n 0, 1) := by decide +kernel
theorem dX4_count_49 : decode cX4_count 49 = .ok (.getfield 10, 3) := by decide +kernel
theorem dX4_count_52 : decode cX4_count 52 = .ok (.getfield 110, 3) := by decide +kernel
theorem dX4_count_55 : decode cX4_count 55 = .ok (.ireturn, 1) := by decide +kernel
theorem dX4_count_56 : decode cX4_count 56 = .ok (.aload_n 0, 1) := by decide +kernel
theorem dX4_count_57 : decode cX4_count 57 = .ok (.getfield 10, 3) := by decide +kernel
theorem dX4_count_60 : decode cX4_count 60 = .ok (.getfield 152, 3) := by decide +kernel
theorem dX4_count_63 : decode cX4_count 63 = .ok (.ireturn, 1) := by decide +kernel
theorem dX4_count_64 : decode cX4_count 64 = .ok (.aload_n 0, 1) := by decide +kernel
theorem dX4_count_65 : decode cX4_count 65 = .ok (.getfield 10, 3) := by decide +kernel
theorem dX4_count_68 : decode cX4_count 68 = .ok (.invokevirtual 121, 3) := by decide +kernel
theorem dX4_count_71 : decode cX4_count 71 = .ok (.ireturn, 1) := by decide +kernel
theorem dX4_count_72 : decode cX4_count 72 = .ok (.aload_n 0, 1) := by decide +kernel
theorem dX4_count_73 : decode cX4_count 73 = .ok (.getfield 10, 3) := by decide +kernel
theorem dX4_count_76 : decode cX4_count 76 = .ok (.aload_n 0, 1) := by decide +kernel
theorem dX4_count_77 : decode cX4_count 77 = .ok (.getfield 10, 3) := by decide +kernel
theorem dX4_count_80 : decode cX4_count 80 = .ok (.getfield 94, 3) := by decide +kernel
theorem dX4_count_83 : decode cX4_count 83 = .ok (.invokevirtual 128, 3) := by decide +kernel
theorem dX4_count_86 : decode cX4_count 86 = .ok (.ireturn, 1) := by decide +kernel
theorem dX4_count_87 : decode cX4_count 87 = .ok (.aload_n 0, 1) := by decide +kernel
theorem dX4_count_88 : decode cX4_count 88 = .ok (.getfield 10, 3) := by decide +kernel
theorem dX4_count_91 : decode cX4_count 91 = .ok (.aload_n 0, 1) := by decide +kernel
theorem dX4_count_92 : decode cX4_count 92 = .ok (.getfield 10, 3) := by decide +kernel
theorem dX4_count_95 : decode cX4_count 95 = .ok (.getfield 91, 3) := by decide +kernel
theorem dX4_count_98 : decode cX4_count 98 = .ok (.invokevirtual 128, 3) := by decide +kernel
theorem dX4_count_101 : decode cX4_count 101 = .ok (.ireturn, 1) := by decide +kernel
theorem dX4_count_102 : decode cX4_count 102 = .ok (.aload_n 0, 1) := by decide +kernel
theorem dX4_count_103 : decode cX4_count 103 = .ok (.getfield 32, 3) := by decide +kernel
theorem dX4_count_106 : decode cX4_count 106 = .ok (.getfield 199, 3) := by decide +kernel
theorem dX4_count_109 : decode cX4_count 109 = .ok (.ireturn, 1) := by decide +kernel
theorem dX4_count_110 : decode cX4_count 110 = .ok (.aload_n 0, 1) := by decide +kernel
theorem dX4_count_111 : decode cX4_count 111 = .ok (.getfield 10, 3) := by decide +kernel
theorem dX4_count_114 : decode cX4_count 114 = .ok (.getfield 196, 3) := by decide +kernel
theorem dX4_count_117 : decode cX4_count 117 = .ok (.ireturn, 1) := by decide +kernel
theorem dX4_count_118 : decode cX4_count 118 = .ok (.aload_n 0, 1) := by decide +kernel
theorem dX4_count_119 : decode cX4_count 119 = .ok (.getfield 10, 3) := by decide +kernel
theorem dX4_count_122 : decode cX4_count 122 = .ok (.invokevirtual 249, 3) := by decide +kernel
theorem dX4_count_125 : decode cX4_count 125 = .ok (.ireturn, 1) := by decide +kernel
theorem dX4_count_126 : decode cX4_count 126 = .ok (.aload_n 0, 1) := by decide +kernel
theorem dX4_count_127 : decode cX4_count 127 = .ok (.ldc 44, 2) := by decide +kernel
theorem dX4_count_129 : decode cX4_count 129 = .ok (.invokevirtual 45, 3) := by decide +kernel
theorem dX4_count_132 : decode cX4_count 132 = .ok (.ireturn, 1) := by decide +kernel
set_option maxRecDepth 20000 in
theorem ggX4_status_X4_isWithin : GoodIn wsX4_status wsX4_isWithin := goodIn_r _ [6] (by decide +kernel) (by decide +kernel)
set_option maxRecDepth 20000 in
theorem gX4_status_X4_isWithin : GoodIn wsX4_status (va_wsS RX4 40 yX4_isWithin wsX4_isWithin) := goodIn_app (goodIn_of _ (by decide +kernel)) ggX4_status_X4_isWithin
set_option maxRecDepth 20000 in
theorem ggX4_status_X4_finding : GoodIn wsX4_status wsX4_finding := goodIn_r _ [10, 1, 2, 3, 4, 5, 6, 11, 12, 13, 14, 15, 16, 17] (by decide +kernel) (by decide +kernel)
set_option maxRecDepth 20000 in
theorem gX4_status_X4_finding : GoodIn wsX4_status (wsV RX4 45 RX4 yX4_finding wsX4_finding) := goodIn_app (goodIn_of _ (by decide +kernel)) ggX4_status_X4_finding
theorem dX4_status_0 : decode cX4_status 0 = .ok (.iload_n 1, 1) := by decide +kernel
theorem dX4_status_1 : decode cX4_status 1 = .ok (.iconst (-1), 1) := by decide +kernel
theorem dX4_status_2 : decode cX4_status 2 = .ok (.bipush 6, 2) := by decide +kernel
theorem dX4_status_4 : decode cX4_status 4 = .ok (.invokestatic 40, 3) := by decide +kernel
theorem dX4_status_7 : decode cX4_status 7 = .ok (.ifCond .ne 10, 3) := by decide +kernel
theorem dX4_status_10 : decode cX4_status 10 = .ok (.aload_n 0, 1) := by decide +kernel
theorem dX4_status_11 : decode cX4_status 11 = .ok (.ldc 44, 2) := by decide +kernel
theorem dX4_status_13 : decode cX4_status 13 = .ok (.invokevirtual 45, 3) := by decide +kernel
theorem dX4_status_16 : decode cX4_status 16 = .ok (.ireturn, 1) := by decide +kernel
theorem dX4_status_17 : decode cX4_status 17 = .ok (.iload_n 1, 1) := by decide +kernel
theorem dX4_status_18 : decode cX4_status 18 = .ok (.ifCond .lt 10, 3) := by decide +kernel
theorem dX4_status_21 : decode cX4_status 21 = .ok (.aload_n 0, 1) := by decide +kernel
theorem dX4_status_22 : decode cX4_status 22 = .ok (.getfield 36, 3) := by decide +kernel
theorem dX4_status_25 : decode cX4_status 25 = .ok (.iload_n 1, 1) := by decide +kernel
theorem dX4_status_26 : decode cX4_status 26 = .ok (.iaload, 1) := by decide +kernel
theorem dX4_status_27 : decode cX4_status 27 = .ok (.ireturn, 1) := by decide +kernel
theorem dX4_status_28 : decode cX4_status 28 = .ok (.iconst 0, 1) := by decide +kernel
theorem dX4_status_29 : decode cX4_status 29 = .ok (.istore_n 2, 1) := by decide +kernel
theorem dX4_status_30 : decode cX4_status 30 = .ok (.iconst 0, 1) := by decide +kernel
theorem dX4_status_31 : decode cX4_status 31 = .ok (.istore_n 3, 1) := by decide +kernel
theorem dX4_status_32 : decode cX4_status 32 = .ok (.iload_n 3, 1) := by decide +kernel
theorem dX4_status_33 : decode cX4_status 33 = .ok (.bipush 7, 2) := by decide +kernel
theorem dX4_status_35 : decode cX4_status 35 = .ok (.if_icmp .ge 18, 3) := by decide +kernel
theorem dX4_status_38 : decode cX4_status 38 = .ok (.iload_n 2, 1) := by decide +kernel
theorem dX4_status_39 : decode cX4_status 39 = .ok (.aload_n 0, 1) := by decide +kernel
theorem dX4_status_40 : decode cX4_status 40 = .ok (.getfield 36, 3) := by decide +kernel
theorem dX4_status_43 : decode cX4_status 43 = .ok (.iload_n 3, 1) := by decide +kernel
theorem dX4_status_44 : decode cX4_status 44 = .ok (.iaload, 1) := by decide +kernel
theorem dX4_status_45 : decode cX4_status 45 = .ok (.iadd, 1) := by decide +kernel
theorem dX4_status_46 : decode cX4_status 46 = .ok (.istore_n 2, 1) := by decide +kernel
theorem dX4_status_47 : decode cX4_status 47 = .ok (.iinc 3 1, 3) := by decide +kernel
theorem dX4_status_50 : decode cX4_status 50 = .ok (.goto (-18), 3) := by decide +kernel
theorem dX4_status_53 : decode cX4_status 53 = .ok (.iload_n 2, 1) := by decide +kernel
theorem dX4_status_54 : decode cX4_status 54 = .ok (.ireturn, 1) := by decide +kernel
set_option maxRecDepth 20000 in
theorem ggX4_finding_X4_isWithin : GoodIn wsX4_finding wsX4_isWithin := goodIn_r _ [6] (by decide +kernel) (by decide +kernel)
set_option maxRecDepth 20000 in
theorem gX4_finding_X4_isWithin : GoodIn wsX4_finding (va_wsS RX4 40 yX4_isWithin wsX4_isWithin) := goodIn_app (goodIn_of _ (by decide +kernel)) ggX4_finding_X4_isWithin
theorem dX4_finding_0 : decode cX4_finding 0 = .ok (.ldc 44, 2) := by decide +kernel
theorem dX4_finding_2 : decode cX4_finding 2 = .ok (.iload_n 1, 1) := by decide +kernel
theorem dX4_finding_3 : decode cX4_finding 3 = .ok (.isub, 1) := by decide +kernel
theorem dX4_finding_4 : decode cX4_finding 4 = .ok (.istore_n 2, 1) := by decide +kernel
theorem dX4_finding_5 : decode cX4_finding 5 = .ok (.iload_n 2, 1) := by decide +kernel
theorem dX4_finding_6 : decode cX4_finding 6 = .ok (.iconst 0, 1) := by decide +kernel
theorem dX4_finding_7 : decode cX4_finding 7 = .ok (.bipush 6, 2) := by decide +kernel
theorem dX4_finding_9 : decode cX4_finding 9 = .ok (.invokestatic 40, 3) := by decide +kernel
theorem dX4_finding_12 : decode cX4_finding 12 = .ok (.ifCond .eq 13, 3) := by decide +kernel
theorem dX4_finding_15 : decode cX4_finding 15 = .ok (.aload_n 0, 1) := by decide +kernel
theorem dX4_finding_16 : decode cX4_finding 16 = .ok (.getfield 36, 3) := by decide +kernel
theorem dX4_finding_19 : decode cX4_finding 19 = .ok (.iload_n 2, 1) := by decide +kernel
theorem dX4_finding_20 : decode cX4_finding 20 = .ok (.dup2, 1) := by decide +kernel
theorem dX4_finding_21 : decode cX4_finding 21 = .ok (.iaload, 1) := by decide +kernel
theorem dX4_finding_22 : decode cX4_finding 22 = .ok (.iconst 1, 1) := by decide +kernel
theorem dX4_finding_23 : decode cX4_finding 23 = .ok (.iadd, 1) := by decide +kernel
theorem dX4_finding_24 : decode cX4_finding 24 = .ok (.iastore, 1) := by decide +kernel
theorem dX4_finding_25 : decode cX4_finding 25 = .ok (.iload_n 1, 1) := by decide +kernel
theorem dX4_finding_26 : decode cX4_finding 26 = .ok (.ireturn, 1) := by decide +kernel
theorem dX4_isWithin_0 : decode cX4_isWithin 0 = .ok (.iload_n 0, 1) := by decide +kernel
theorem dX4_isWithin_1 : decode cX4_isWithin 1 = .ok (.iload_n 1, 1) := by decide +kernel
theorem dX4_isWithin_2 : decode cX4_isWithin 2 = .ok (.if_icmp .lt 12, 3) := by decide +kernel
theorem dX4_isWithin_5 : decode cX4_isWithin 5 = .ok (.iload_n 0, 1) := by decide +kernel
theorem dX4_isWithin_6 : decode cX4_isWithin 6 = .ok (.iload_n 2, 1) := by decide +kernel
theorem dX4_isWithin_7 : decode cX4_isWithin 7 = .ok (.if_icmp .gt 7, 3) := by decide +kernel
theorem dX4_isWithin_10 : decode cX4_isWithin 10 = .ok (.iconst 1, 1) := by decide +kernel
theorem dX4_isWithin_11 : decode cX4_isWithin 11 = .ok (.goto 4, 3) := by decide +kernel
theorem dX4_isWithin_14 : decode cX4_isWithin 14 = .ok (.iconst 0, 1) := by decide +kernel
theorem dX4_isWithin_15 : decode cX4_isWithin 15 = .ok (.ireturn, 1) := by decide +kernel
set_option maxRecDepth 20000 in
theorem ggX4_isTaste_X4_isWithin : GoodIn wsX4_isTaste wsX4_isWithin := goodIn_r _ [4] (by decide +kernel) (by decide +kernel)
set_option maxRecDepth 20000 in
theorem gX4_isTaste_X4_isWithin : GoodIn wsX4_isTaste (va_wsS RX4 40 yX4_isWithin wsX4_isWithin) := goodIn_app (goodIn_of _ (by decide +kernel)) ggX4_isTaste_X4_isWithin
theorem dX4_isTaste_0 : decode cX4_isTaste 0 = .ok (.iload_n 0, 1) := by decide +kernel
theorem dX4_isTaste_1 : decode cX4_isTaste 1 = .ok (.iconst 0, 1) := by decide +kernel
theorem dX4_isTaste_2 : decode cX4_isTaste 2 = .ok (.iconst 5, 1) := by decide +kernel
theorem dX4_isTaste_3 : decode cX4_isTaste 3 = .ok (.invokestatic 40, 3) := by decide +kernel
theorem dX4_isTaste_6 : decode cX4_isTaste 6 = .ok (.ireturn, 1) := by decide +kernel
set_option maxRecDepth 20000 in
theorem ggX4_isKind_X4_isWithin : GoodIn wsX4_isKind wsX4_isWithin := goodIn_r _ [4] (by decide +kernel) (by decide +kernel)
set_option maxRecDepth 20000 in
theorem gX4_isKind_X4_isWithin : GoodIn wsX4_isKind (va_wsS RX4 40 yX4_isWithin wsX4_isWithin) := goodIn_app (goodIn_of _ (by decide +kernel)) ggX4_isKind_X4_isWithin
theorem dX4_isKind_0 : decode cX4_isKind 0 = .ok (.iload_n 0, 1) := by decide +kernel
theorem dX4_isKind_1 : decode cX4_isKind 1 = .ok (.iconst 0, 1) := by decide +kernel
theorem dX4_isKind_2 : decode cX4_isKind 2 = .ok (.bipush 6, 2) := by decide +kernel
theorem dX4_isKind_4 : decode cX4_isKind 4 = .ok (.invokestatic 40, 3) := by decide +kernel
theorem dX4_isKind_7 : decode cX4_isKind 7 = .ok (.ireturn, 1) := by decide +kernel
